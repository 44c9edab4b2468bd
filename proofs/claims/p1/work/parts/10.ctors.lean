/-- the empty row that fresh lists hold -/
def ZD (e0 : Nat) (A : Nat → Prop) (U : State) (H : Heap) : Prop := va_Z "java/util/ArrayList" "DEFAULTCAPACITY_EMPTY_ELEMENTDATA" "[Ljava/lang/Object;" (.ref e0) A U H
theorem ZD.moved {e0 : Nat} {A : Nat → Prop} {u U : State} {H : Heap} (hvm : u.vm.Alike U.vm) (h : ZD e0 A u H) : ZD e0 A U H := va_Z.moved hvm h
theorem ZD.no {e0 : Nat} {A : Nat → Prop} {s : State} {H : Heap} {locs : List Loc} (h : ZD e0 A s s.heap) (hS : va_S A s.heap H locs) : ZD e0 NoA s H := (va_Z.kept h hS.2.1).narrow (fun _ q => q.elim)
theorem ZD.wide {e0 : Nat} {D : va_G} {cl : List vw_C} {Wd : va_W} {U : State} (hP : va_P D cl Wd U.heap) (h : ZD e0 NoA U U.heap) : ZD e0 (va_A Wd U.heap.size) U U.heap := Z_wide hP h
def EW (e0 : Nat) (D : va_G) (tys : List (ClassId × FieldType)) (Wd : va_W) (sz : Nat) (U : State) : Prop := EV D tys Wd sz U ∧ ZD e0 NoA U U.heap
theorem EW.fb {e0 : Nat} {D : va_G} {tys : List (ClassId × FieldType)} {Wd : va_W} {sz : Nat} {av : List Value} : FrameBlind (va_Pc av (EW e0 D tys Wd sz)) := fun a U g mk q => ⟨q.1, q.2.1.blind, ZD.moved (u := U) (U := U.calling g mk a) (Vm.Alike.refl U.vm) q.2.2⟩
theorem EW.at {e0 : Nat} {D : va_G} {tys : List (ClassId × FieldType)} {Wd : va_W} {A : Nat → Prop} {s : State} {H : Heap} (hP : va_P D vwCl Wd H) (hK : va_K D vwCl tys s) (hD : va_D A Wd) (hG : GE s) (hZ : ZZ NoA s H) (hZd : ZD e0 NoA s H) (U : State) (hU : U.heap = H) (hW : s.WarmedH U.vm) : EW e0 D tys Wd H.size U :=
  ⟨EV.at hP hK hD hG hZ U hU hW, by rw [hU]; exact ZD.moved hW.alike hZd⟩
theorem P_nil {D : va_G} {cl : List vw_C} {H : Heap} : va_P D cl [] H := fun k q h => by simp at h
theorem D_nil {A : Nat → Prop} : va_D A [] := ⟨fun i j p q h => by simp at h, fun k q h => by simp at h⟩
/-- lo ≤ x ≤ hi, as the class looks at it -/
def good (x lo hi : Int32) : Prop := ¬ x < lo ∧ x ≤ hi
theorem le64 {x y : Int32} : Int32.toInt64 x ≤ Int32.toInt64 y ↔ x ≤ y := by
  rw [Int64.le_iff_toInt_le, Int32.le_iff_toInt_le, Int32.toInt_toInt64, Int32.toInt_toInt64]
theorem xin32 {x lo hi : Int32} {L H : Int64} (hL : Int32.toInt64 lo = L) (hH : Int32.toInt64 hi = H) : xin (Int32.toInt64 x) L H = 0 ↔ ¬ good x lo hi := by
  subst hL hH
  unfold xin good
  constructor
  · intro h z
    rw [if_pos ⟨le64.mpr (Int32.not_lt.mp z.1), le64.mpr z.2⟩] at h
    exact absurd h (by decide)
  · intro h
    exact if_neg (fun z => h ⟨Int32.not_lt.mpr (le64.mp z.1), le64.mp z.2⟩)
theorem xin_bad {x lo hi : Int32} {L H : Int64} (hL : Int32.toInt64 lo = L) (hH : Int32.toInt64 hi = H) (h : xin (Int32.toInt64 x) L H = 0) : ¬ good x lo hi := (xin32 hL hH).mp h
theorem xin_good {x lo hi : Int32} {L H : Int64} (hL : Int32.toInt64 lo = L) (hH : Int32.toInt64 hi = H) (h : ¬ xin (Int32.toInt64 x) L H = 0) : good x lo hi := Classical.not_not.mp (fun z => h ((xin32 hL hH).mpr z))
/-- a method that throws E under P, having written in A alone -/
abbrev XG (E : String) (P : Prop) (A : Nat → Prop) : String → State → State → Prop := vx_X (fun _ : Unit => P) (fun E2 _ _ => E2 = E) A
/-- what a helper of the law answers: 0 and T in the row, or 1 -/
abbrev QH (G : Prop) (T : Int64) (r : Int32) (u : Nat → Int64) : Prop := (r = 0 ∧ G ∧ u 0 = T) ∨ (r = 1 ∧ ¬ G)
/-- what a method of the reference answers, th being 'thrown' then -/
abbrev QM (G : Prop) (T r th : Int32) : Prop := (th = 0 ∧ G ∧ r = T) ∨ (th = 1 ∧ ¬ G)
theorem gF {own C : String} {idx : Nat} {x y : MethodName} {ws : List Cond} (h1 : Cond.methodLink own idx x ∈ lw_all) (h2 : Cond.selects C x y ∈ lw_all) (h3 : Cond.instanceMethod y ∈ lw_all) (h4 : Cond.initialized y.cls ∈ lw_all) (h5 : GoodIn lw_all ws) : GoodIn lw_all (va_wsF own idx C x y ws) := gL (m4 h1 h2 h3 h4) h5
/-- a loop that counts up to N, its cost told by the count -/
theorem loop_up {p : Program} {l : Launch} {e : Env} {R : Room} {s : State} {m : MethodId} {args : Array Value} {below : List Frame} {meth : Method} {c : Code} {Q : State → Prop} {pc : Nat} {st : List Value} (N : Nat) (cf sf : Nat → Nat) (I : Nat → Heap → List Loc → Array Slot → Prop)
    (step : ∀ (k : Nat) (H : Heap) (locs : List Loc) (ls : Array Slot), k < N → I k H locs ls → (∀ (H : Heap) (locs : List Loc) (ls : Array Slot), I (k + 1) H locs ls → W p l e R s m args below meth c H locs (cf (k + 1)) (sf (k + 1)) Q (F0 m pc ls st)) → W p l e R s m args below meth c H locs (cf k) (sf k) Q (F0 m pc ls st))
    (exit : ∀ (H : Heap) (locs : List Loc) (ls : Array Slot), I N H locs ls → W p l e R s m args below meth c H locs (cf N) (sf N) Q (F0 m pc ls st)) (H : Heap) (locs : List Loc) (ls : Array Slot) (h : I 0 H locs ls) : W p l e R s m args below meth c H locs (cf 0) (sf 0) Q (F0 m pc ls st) := by
  have K : ∀ (d k : Nat) (H : Heap) (locs : List Loc) (ls : Array Slot), k + d = N → I k H locs ls → W p l e R s m args below meth c H locs (cf k) (sf k) Q (F0 m pc ls st) := by
    intro d
    induction d with
    | zero =>
      intro k H locs ls hk hI
      have : k = N := by omega
      subst this
      exact exit H locs ls hI
    | succ d ih =>
      intro k H locs ls hk hI
      exact step k H locs ls (by omega) hI (fun H locs ls hI => ih (k + 1) H locs ls (by omega) hI)
  exact K N 0 H locs ls (by omega) h
theorem good_nat {x : Int32} (h : good x 1 48) : ∃ N : Nat, 1 ≤ N ∧ N ≤ 48 ∧ x = nI N := by
  obtain ⟨h1, h2⟩ := h
  have h0 : ¬ x < 0 := fun z => h1 (Int32.lt_trans z (by decide))
  obtain ⟨j, hj, rfl⟩ := nI_of2 (M := 48) (n := 48) (by decide) h0 h2
  refine ⟨j, ?_, hj, rfl⟩
  rcases Nat.eq_zero_or_pos j with e | e
  · subst e
    exact absurd (show nI 0 < 1 by decide) h1
  · exact e

theorem dJx4a65c_init_da8c8_0 : decode cJx4a65c_init_da8c8 0 = .ok (.aload_n 0, 1) := by decide +kernel
theorem dJx4a65c_init_da8c8_1 : decode cJx4a65c_init_da8c8 1 = .ok (.invokespecial 1, 3) := by decide +kernel
theorem dJx4a65c_init_da8c8_4 : decode cJx4a65c_init_da8c8 4 = .ok (.aload_n 0, 1) := by decide +kernel
theorem dJx4a65c_init_da8c8_5 : decode cJx4a65c_init_da8c8 5 = .ok (.getstatic 39, 3) := by decide +kernel
theorem dJx4a65c_init_da8c8_8 : decode cJx4a65c_init_da8c8 8 = .ok (.putfield 9, 3) := by decide +kernel
theorem dJx4a65c_init_da8c8_11 : decode cJx4a65c_init_da8c8 11 = .ok (.return_, 1) := by decide +kernel
theorem dJxa1e45_init_da8c8_0 : decode cJxa1e45_init_da8c8 0 = .ok (.aload_n 0, 1) := by decide +kernel
theorem dJxa1e45_init_da8c8_1 : decode cJxa1e45_init_da8c8 1 = .ok (.invokespecial 1, 3) := by decide +kernel
theorem dJxa1e45_init_da8c8_4 : decode cJxa1e45_init_da8c8 4 = .ok (.return_, 1) := by decide +kernel
theorem dJxc12de_init_da8c8_0 : decode cJxc12de_init_da8c8 0 = .ok (.aload_n 0, 1) := by decide +kernel
theorem dJxc12de_init_da8c8_1 : decode cJxc12de_init_da8c8 1 = .ok (.invokespecial 1, 3) := by decide +kernel
theorem dJxc12de_init_da8c8_4 : decode cJxc12de_init_da8c8 4 = .ok (.aload_n 0, 1) := by decide +kernel
theorem dJxc12de_init_da8c8_5 : decode cJxc12de_init_da8c8 5 = .ok (.iconst 0, 1) := by decide +kernel
theorem dJxc12de_init_da8c8_6 : decode cJxc12de_init_da8c8 6 = .ok (.putfield 7, 3) := by decide +kernel
theorem dJxc12de_init_da8c8_9 : decode cJxc12de_init_da8c8 9 = .ok (.return_, 1) := by decide +kernel
theorem dX11_init_0 : decode cX11_init 0 = .ok (.aload_n 0, 1) := by decide +kernel
theorem dX11_init_1 : decode cX11_init 1 = .ok (.invokespecial 1, 3) := by decide +kernel
theorem dX11_init_4 : decode cX11_init 4 = .ok (.aload_n 0, 1) := by decide +kernel
theorem dX11_init_5 : decode cX11_init 5 = .ok (.bipush 10, 2) := by decide +kernel
theorem dX11_init_7 : decode cX11_init 7 = .ok (.putfield 7, 3) := by decide +kernel
theorem dX11_init_10 : decode cX11_init 10 = .ok (.aload_n 0, 1) := by decide +kernel
theorem dX11_init_11 : decode cX11_init 11 = .ok (.sipush 9999, 3) := by decide +kernel
theorem dX11_init_14 : decode cX11_init 14 = .ok (.putfield 13, 3) := by decide +kernel
theorem dX11_init_17 : decode cX11_init 17 = .ok (.return_, 1) := by decide +kernel
theorem dX12_init_0 : decode cX12_init 0 = .ok (.aload_n 0, 1) := by decide +kernel
theorem dX12_init_1 : decode cX12_init 1 = .ok (.invokespecial 9, 3) := by decide +kernel
theorem dX12_init_4 : decode cX12_init 4 = .ok (.aload_n 0, 1) := by decide +kernel
theorem dX12_init_5 : decode cX12_init 5 = .ok (.new 15, 3) := by decide +kernel
theorem dX12_init_8 : decode cX12_init 8 = .ok (.dup, 1) := by decide +kernel
theorem dX12_init_9 : decode cX12_init 9 = .ok (.invokespecial 17, 3) := by decide +kernel
theorem dX12_init_12 : decode cX12_init 12 = .ok (.putfield 18, 3) := by decide +kernel
theorem dX12_init_15 : decode cX12_init 15 = .ok (.aload_n 0, 1) := by decide +kernel
theorem dX12_init_16 : decode cX12_init 16 = .ok (.new 24, 3) := by decide +kernel
theorem dX12_init_19 : decode cX12_init 19 = .ok (.dup, 1) := by decide +kernel
theorem dX12_init_20 : decode cX12_init 20 = .ok (.invokespecial 26, 3) := by decide +kernel
theorem dX12_init_23 : decode cX12_init 23 = .ok (.putfield 27, 3) := by decide +kernel
theorem dX12_init_26 : decode cX12_init 26 = .ok (.aload_n 0, 1) := by decide +kernel
theorem dX12_init_27 : decode cX12_init 27 = .ok (.iconst 0, 1) := by decide +kernel
theorem dX12_init_28 : decode cX12_init 28 = .ok (.putfield 31, 3) := by decide +kernel
theorem dX12_init_31 : decode cX12_init 31 = .ok (.return_, 1) := by decide +kernel
theorem dX6_init_0 : decode cX6_init 0 = .ok (.aload_n 0, 1) := by decide +kernel
theorem dX6_init_1 : decode cX6_init 1 = .ok (.invokespecial 1, 3) := by decide +kernel
theorem dX6_init_4 : decode cX6_init 4 = .ok (.aload_n 0, 1) := by decide +kernel
theorem dX6_init_5 : decode cX6_init 5 = .ok (.bipush 10, 2) := by decide +kernel
theorem dX6_init_7 : decode cX6_init 7 = .ok (.putfield 7, 3) := by decide +kernel
theorem dX6_init_10 : decode cX6_init 10 = .ok (.aload_n 0, 1) := by decide +kernel
theorem dX6_init_11 : decode cX6_init 11 = .ok (.iconst 0, 1) := by decide +kernel
theorem dX6_init_12 : decode cX6_init 12 = .ok (.putfield 13, 3) := by decide +kernel
theorem dX6_init_15 : decode cX6_init 15 = .ok (.aload_n 0, 1) := by decide +kernel
theorem dX6_init_16 : decode cX6_init 16 = .ok (.iconst 0, 1) := by decide +kernel
theorem dX6_init_17 : decode cX6_init 17 = .ok (.putfield 16, 3) := by decide +kernel
theorem dX6_init_20 : decode cX6_init 20 = .ok (.return_, 1) := by decide +kernel
theorem dX7_init_0 : decode cX7_init 0 = .ok (.aload_n 0, 1) := by decide +kernel
theorem dX7_init_1 : decode cX7_init 1 = .ok (.invokespecial 1, 3) := by decide +kernel
theorem dX7_init_4 : decode cX7_init 4 = .ok (.aload_n 0, 1) := by decide +kernel
theorem dX7_init_5 : decode cX7_init 5 = .ok (.new 7, 3) := by decide +kernel
theorem dX7_init_8 : decode cX7_init 8 = .ok (.dup, 1) := by decide +kernel
theorem dX7_init_9 : decode cX7_init 9 = .ok (.invokespecial 9, 3) := by decide +kernel
theorem dX7_init_12 : decode cX7_init 12 = .ok (.putfield 10, 3) := by decide +kernel
theorem dX7_init_15 : decode cX7_init 15 = .ok (.aload_n 0, 1) := by decide +kernel
theorem dX7_init_16 : decode cX7_init 16 = .ok (.new 7, 3) := by decide +kernel
theorem dX7_init_19 : decode cX7_init 19 = .ok (.dup, 1) := by decide +kernel
theorem dX7_init_20 : decode cX7_init 20 = .ok (.invokespecial 9, 3) := by decide +kernel
theorem dX7_init_23 : decode cX7_init 23 = .ok (.putfield 16, 3) := by decide +kernel
theorem dX7_init_26 : decode cX7_init 26 = .ok (.aload_n 0, 1) := by decide +kernel
theorem dX7_init_27 : decode cX7_init 27 = .ok (.new 19, 3) := by decide +kernel
theorem dX7_init_30 : decode cX7_init 30 = .ok (.dup, 1) := by decide +kernel
theorem dX7_init_31 : decode cX7_init 31 = .ok (.invokespecial 21, 3) := by decide +kernel
theorem dX7_init_34 : decode cX7_init 34 = .ok (.putfield 22, 3) := by decide +kernel
theorem dX7_init_37 : decode cX7_init 37 = .ok (.aload_n 0, 1) := by decide +kernel
theorem dX7_init_38 : decode cX7_init 38 = .ok (.bipush 40, 2) := by decide +kernel
theorem dX7_init_40 : decode cX7_init 40 = .ok (.newarray .long, 2) := by decide +kernel
theorem dX7_init_42 : decode cX7_init 42 = .ok (.putfield 26, 3) := by decide +kernel
theorem dX7_init_45 : decode cX7_init 45 = .ok (.aload_n 0, 1) := by decide +kernel
theorem dX7_init_46 : decode cX7_init 46 = .ok (.sipush 9999, 3) := by decide +kernel
theorem dX7_init_49 : decode cX7_init 49 = .ok (.putfield 30, 3) := by decide +kernel
theorem dX7_init_52 : decode cX7_init 52 = .ok (.aload_n 0, 1) := by decide +kernel
theorem dX7_init_53 : decode cX7_init 53 = .ok (.iconst 0, 1) := by decide +kernel
theorem dX7_init_54 : decode cX7_init 54 = .ok (.putfield 34, 3) := by decide +kernel
theorem dX7_init_57 : decode cX7_init 57 = .ok (.aload_n 0, 1) := by decide +kernel
theorem dX7_init_58 : decode cX7_init 58 = .ok (.iconst 0, 1) := by decide +kernel
theorem dX7_init_59 : decode cX7_init 59 = .ok (.putfield 37, 3) := by decide +kernel
theorem dX7_init_62 : decode cX7_init 62 = .ok (.return_, 1) := by decide +kernel
theorem iwX6 : ∀ w ∈ wsX60, w ∈ lw_all := al_all (by decide +kernel)
theorem iwX11 : ∀ w ∈ wsX110, w ∈ lw_all := al_all (by decide +kernel)
theorem q2 : Cond.initialized RJxa1e45 ∈ lw_all := al_in (i := 2) (by decide +kernel) (by decide +kernel)
theorem q3 : Cond.initialized RJxc12de ∈ lw_all := al_in (i := 3) (by decide +kernel) (by decide +kernel)
theorem q5 : Cond.initialized RX6 ∈ lw_all := al_in (i := 5) (by decide +kernel) (by decide +kernel)
theorem q7 : Cond.initialized RX11 ∈ lw_all := al_in (i := 7) (by decide +kernel) (by decide +kernel)
theorem q47 : Cond.methodLink RX7 1 ⟨"java/lang/Object", "<init>", "()V"⟩ ∈ lw_all := al_in (i := 47) (by decide +kernel) (by decide +kernel)
theorem q48 : Cond.instanceMethod objectInit ∈ lw_all := al_in (i := 48) (by decide +kernel) (by decide +kernel)
theorem q49 : Cond.code objectInit ⟨#[0xb1]⟩ 1 none ∈ lw_all := al_in (i := 49) (by decide +kernel) (by decide +kernel)
theorem q50 : Cond.classLink RX7 7 RJx4a65c ∈ lw_all := al_in (i := 50) (by decide +kernel) (by decide +kernel)
theorem q51 : Cond.instantiable RJx4a65c 3 ∈ lw_all := al_in (i := 51) (by decide +kernel) (by decide +kernel)
theorem q52 : Cond.methodLink RX7 9 yJx4a65c_init_da8c8 ∈ lw_all := al_in (i := 52) (by decide +kernel) (by decide +kernel)
theorem q53 : Cond.instanceMethod yJx4a65c_init_da8c8 ∈ lw_all := al_in (i := 53) (by decide +kernel) (by decide +kernel)
theorem q54 : Cond.code yJx4a65c_init_da8c8 cJx4a65c_init_da8c8 1 none ∈ lw_all := al_in (i := 54) (by decide +kernel) (by decide +kernel)
theorem q55 : Cond.methodLink RJx4a65c 1 yJxc12de_init_da8c8 ∈ lw_all := al_in (i := 55) (by decide +kernel) (by decide +kernel)
theorem q56 : Cond.instanceMethod yJxc12de_init_da8c8 ∈ lw_all := al_in (i := 56) (by decide +kernel) (by decide +kernel)
theorem q57 : Cond.code yJxc12de_init_da8c8 cJxc12de_init_da8c8 1 none ∈ lw_all := al_in (i := 57) (by decide +kernel) (by decide +kernel)
theorem q58 : Cond.methodLink RJxc12de 1 yJxa1e45_init_da8c8 ∈ lw_all := al_in (i := 58) (by decide +kernel) (by decide +kernel)
theorem q59 : Cond.instanceMethod yJxa1e45_init_da8c8 ∈ lw_all := al_in (i := 59) (by decide +kernel) (by decide +kernel)
theorem q60 : Cond.code yJxa1e45_init_da8c8 cJxa1e45_init_da8c8 1 none ∈ lw_all := al_in (i := 60) (by decide +kernel) (by decide +kernel)
theorem q61 : Cond.methodLink RJxa1e45 1 ⟨"java/lang/Object", "<init>", "()V"⟩ ∈ lw_all := al_in (i := 61) (by decide +kernel) (by decide +kernel)
theorem q62 : Cond.fieldLink RJx4a65c 39 "java/util/ArrayList" "DEFAULTCAPACITY_EMPTY_ELEMENTDATA" "[Ljava/lang/Object;" ∈ lw_all := al_in (i := 62) (by decide +kernel) (by decide +kernel)
theorem q64 : Cond.fieldLink RJx4a65c 9 "java/util/ArrayList" "elementData" "[Ljava/lang/Object;" ∈ lw_all := al_in (i := 64) (by decide +kernel) (by decide +kernel)
theorem q68 : Cond.fieldLink RJxc12de 7 "java/util/AbstractList" "modCount" "I" ∈ lw_all := al_in (i := 68) (by decide +kernel) (by decide +kernel)
theorem q79 : Cond.classLink RX7 19 RX6 ∈ lw_all := al_in (i := 79) (by decide +kernel) (by decide +kernel)
theorem q80 : Cond.instantiable RX6 3 ∈ lw_all := al_in (i := 80) (by decide +kernel) (by decide +kernel)
theorem q82 : Cond.instanceMethod yX6_init ∈ lw_all := al_in (i := 82) (by decide +kernel) (by decide +kernel)
theorem q83 : Cond.code yX6_init cX6_init 1 none ∈ lw_all := al_in (i := 83) (by decide +kernel) (by decide +kernel)
theorem q84 : Cond.methodLink RX6 1 ⟨"java/lang/Object", "<init>", "()V"⟩ ∈ lw_all := al_in (i := 84) (by decide +kernel) (by decide +kernel)
theorem q85 : Cond.fieldLink RX6 7 "LysimeterField$Weather" "temperature" "I" ∈ lw_all := al_in (i := 85) (by decide +kernel) (by decide +kernel)
theorem q87 : Cond.fieldLink RX6 13 "LysimeterField$Weather" "rain" "I" ∈ lw_all := al_in (i := 87) (by decide +kernel) (by decide +kernel)
theorem q89 : Cond.fieldLink RX6 16 "LysimeterField$Weather" "thirst" "I" ∈ lw_all := al_in (i := 89) (by decide +kernel) (by decide +kernel)
theorem q99 : Cond.fieldLink RX7 16 "LysimeterField" "thoughts" "Ljava/util/ArrayList;" ∈ lw_all := al_in (i := 99) (by decide +kernel) (by decide +kernel)
theorem q100 : Cond.fieldLink RX7 22 "LysimeterField" "now" "LLysimeterField$Weather;" ∈ lw_all := al_in (i := 100) (by decide +kernel) (by decide +kernel)
theorem q101 : Cond.fieldLink RX7 26 "LysimeterField" "misses" "[J" ∈ lw_all := al_in (i := 101) (by decide +kernel) (by decide +kernel)
theorem q102 : Cond.fieldLink RX7 30 "LysimeterField" "limit" "I" ∈ lw_all := al_in (i := 102) (by decide +kernel) (by decide +kernel)
theorem q103 : Cond.fieldLink RX7 34 "LysimeterField" "fine" "I" ∈ lw_all := al_in (i := 103) (by decide +kernel) (by decide +kernel)
theorem q104 : Cond.fieldLink RX7 37 "LysimeterField" "hoursInAll" "I" ∈ lw_all := al_in (i := 104) (by decide +kernel) (by decide +kernel)
theorem q120 : Cond.arrayClass .long ∈ lw_all := al_in (i := 120) (by decide +kernel) (by decide +kernel)
theorem q1130 : Cond.methodLink RX12 9 ⟨"java/lang/Object", "<init>", "()V"⟩ ∈ lw_all := al_in (i := 1130) (by decide +kernel) (by decide +kernel)
theorem q1131 : Cond.classLink RX12 15 RJx4a65c ∈ lw_all := al_in (i := 1131) (by decide +kernel) (by decide +kernel)
theorem q1132 : Cond.methodLink RX12 17 yJx4a65c_init_da8c8 ∈ lw_all := al_in (i := 1132) (by decide +kernel) (by decide +kernel)
theorem q1133 : Cond.classLink RX12 24 RX11 ∈ lw_all := al_in (i := 1133) (by decide +kernel) (by decide +kernel)
theorem q1134 : Cond.instantiable RX11 5 ∈ lw_all := al_in (i := 1134) (by decide +kernel) (by decide +kernel)
theorem q1136 : Cond.instanceMethod yX11_init ∈ lw_all := al_in (i := 1136) (by decide +kernel) (by decide +kernel)
theorem q1137 : Cond.code yX11_init cX11_init 1 none ∈ lw_all := al_in (i := 1137) (by decide +kernel) (by decide +kernel)
theorem q1138 : Cond.methodLink RX11 1 ⟨"java/lang/Object", "<init>", "()V"⟩ ∈ lw_all := al_in (i := 1138) (by decide +kernel) (by decide +kernel)
theorem q1139 : Cond.fieldLink RX11 7 "LysimeterFieldModel$Sky" "temperature" "I" ∈ lw_all := al_in (i := 1139) (by decide +kernel) (by decide +kernel)
theorem q1145 : Cond.fieldLink RX11 13 "LysimeterFieldModel$Sky" "limit" "I" ∈ lw_all := al_in (i := 1145) (by decide +kernel) (by decide +kernel)
theorem q1163 : Cond.fieldLink RX12 27 "LysimeterFieldModel" "sky" "LLysimeterFieldModel$Sky;" ∈ lw_all := al_in (i := 1163) (by decide +kernel) (by decide +kernel)
theorem t81 : Cond.methodLinkNest RX7 21 yX6_init RX7 ∈ lw_st := al_stin (i := 81) (by decide +kernel) (by decide +kernel)
theorem t1135 : Cond.methodLinkNest RX12 26 yX11_init RX12 ∈ lw_st := al_stin (i := 1135) (by decide +kernel) (by decide +kernel)
set_option maxHeartbeats 4000000 in
set_option maxRecDepth 100000 in
/-- AbstractCollection(): nothing -/
theorem k_AC_init (l : Launch) (D : va_G) (h : Nat) (md : Int32) (ed : Value) (n : Int32) (sz : Nat) : Met l yJxa1e45_init_da8c8 (wsA yJxa1e45_init_da8c8 cJxa1e45_init_da8c8 1 none) ({ frames := 1, cells := 0, slots := 0, locals := 12 }) (va_Pc [.ref h] (EV D [] [(h, .inr (4, [.int md, ed, .int n]))] sz)) (va_Qv (fun (_ : Unit) => True) (fun _ t => va_P D vwCl [(h, .inr (4, [.int md, ed, .int n]))] t.heap ∧ va_D (va_A [(h, .inr (4, [.int md, ed, .int n]))] sz) [(h, .inr (4, [.int md, ed, .int n]))]) (va_A [(h, .inr (4, [.int md, ed, .int n]))] sz)) 0 0 (va_A [(h, .inr (4, [.int md, ed, .int n]))] sz) := by
  refine Met.ofW (cc := cJxa1e45_init_da8c8) (maxL := 1) (ret := none) (by decide) rfl ?_
  intro p e s m args below meth c s₁ B hml hv
  obtain ⟨rfl, hsz, hP, hK, hD0, hG, hZ0⟩ := hv
  have hx := B.exec
  have hb := B.bytes
  have hr := B.returns
  have hts0 := atoms_spec (ws := wsA yJxa1e45_init_da8c8 cJxa1e45_init_da8c8 1 none) B.pre
  have hts : ∀ w ∈ lw_all, w.before _ s = true := fun w h => hts0 w (List.mem_cons_of_mem _ h)
  have hown : s.vm.findClass RJxa1e45 = some m.cls := findClass_of_methodNamed B.named
  have hlocks := B.notSynchronized
  have hin : meth.name = "<init>" := (name_of_methodNamed B.named B.method).1
  subst hsz
  have hZ := ZZ.wide hP hZ0
  have hD := hD0.self (sz := s.heap.size)
  generalize hAe : va_A [(h, .inr (4, [.int md, ed, .int n]))] s.heap.size = A at hD hZ ⊢
  have hA : ∀ q : Nat, s.heap.size ≤ q → A q := fun q h => by rw [← hAe]; exact Or.inr h
  have hS : va_S A s.heap s.heap [] := va_S.rf
  have hP : va_P D vwCl [(h, .inr (4, [.int md, ed, .int n]))] s.heap := hP
  have hl := lv_entry ([.ref h]) (n := 1) (Nat.le_of_ble_eq_true rfl)
  rw [lg_entry_eq]
  generalize (lg_sl ([.ref h]) ++ List.replicate (1 - (lg_sl ([.ref h])).length) Slot.unset).toArray = ls at hl ⊢
  have hl : lv_has ls 1 [(0, .ref h)] := hl
  refine lv_aload_n hx hb dJxa1e45_init_da8c8_0 rfl (lv_at hl 0 rfl) ?_
  refine W.objInit hx hb hown (hts _ q61) (hts _ q48) (hts _ q49) rfl (by rw [hml]; exact hl.1) rfl dJxa1e45_init_da8c8_1 (Nat.le_of_ble_eq_true rfl) (Nat.le_of_ble_eq_true rfl) ?_
  refine W.eq (g2 := F0 m 4 ls []) rfl ?_
  have hP9 := hP.sub (ws' := [(h, .inr (4, [.int md, ed, .int n]))]) [0] rfl
  have hD9 := hD.sub (ws' := [(h, .inr (4, [.int md, ed, .int n]))]) [0] (by decide) rfl
  refine W.widen (k := 0) (n := 0) (Nat.le_of_ble_eq_true rfl) (Nat.le_of_ble_eq_true rfl) ?_
  exact W.vret hx hb hr (fun t ht hW => ⟨⟨(), rfl, trivial, by rw [ht]; exact hP9, hD9⟩, hS.F ht⟩) hS.2.2 dJxa1e45_init_da8c8_4
set_option maxHeartbeats 4000000 in
set_option maxRecDepth 100000 in
/-- AbstractList(): modCount -/
theorem k_ALi_init (l : Launch) (D : va_G) (h : Nat) (md : Int32) (ed : Value) (n : Int32) (sz : Nat) : Met l yJxc12de_init_da8c8 (wsA yJxc12de_init_da8c8 cJxc12de_init_da8c8 1 none) ({ frames := 2, cells := 0, slots := 0, locals := 32 }) (va_Pc [.ref h] (EV D [] [(h, .inr (4, [.int md, ed, .int n]))] sz)) (va_Qv (fun (_ : Unit) => True) (fun _ t => va_P D vwCl [(h, .inr (4, [.int 0, ed, .int n]))] t.heap ∧ va_D (va_A [(h, .inr (4, [.int md, ed, .int n]))] sz) [(h, .inr (4, [.int 0, ed, .int n]))]) (va_A [(h, .inr (4, [.int md, ed, .int n]))] sz)) 0 0 (va_A [(h, .inr (4, [.int md, ed, .int n]))] sz) := by
  refine Met.ofW (cc := cJxc12de_init_da8c8) (maxL := 1) (ret := none) (by decide) rfl ?_
  intro p e s m args below meth c s₁ B hml hv
  obtain ⟨rfl, hsz, hP, hK, hD0, hG, hZ0⟩ := hv
  have hx := B.exec
  have hb := B.bytes
  have hr := B.returns
  have hts0 := atoms_spec (ws := wsA yJxc12de_init_da8c8 cJxc12de_init_da8c8 1 none) B.pre
  have hts : ∀ w ∈ lw_all, w.before _ s = true := fun w h => hts0 w (List.mem_cons_of_mem _ h)
  have hown : s.vm.findClass RJxc12de = some m.cls := findClass_of_methodNamed B.named
  have hlocks := B.notSynchronized
  have hin : meth.name = "<init>" := (name_of_methodNamed B.named B.method).1
  subst hsz
  have hZ := ZZ.wide hP hZ0
  have hD := hD0.self (sz := s.heap.size)
  generalize hAe : va_A [(h, .inr (4, [.int md, ed, .int n]))] s.heap.size = A at hD hZ ⊢
  have hA : ∀ q : Nat, s.heap.size ≤ q → A q := fun q h => by rw [← hAe]; exact Or.inr h
  have hS : va_S A s.heap s.heap [] := va_S.rf
  have hP : va_P D vwCl [(h, .inr (4, [.int md, ed, .int n]))] s.heap := hP
  have hl := lv_entry ([.ref h]) (n := 1) (Nat.le_of_ble_eq_true rfl)
  rw [lg_entry_eq]
  generalize (lg_sl ([.ref h]) ++ List.replicate (1 - (lg_sl ([.ref h])).length) Slot.unset).toArray = ls at hl ⊢
  have hl : lv_has ls 1 [(0, .ref h)] := hl
  refine lv_aload_n hx hb dJxc12de_init_da8c8_0 rfl (lv_at hl 0 rfl) ?_
  have hPc := hP.sub (ws' := [(h, .inr (4, [.int md, ed, .int n]))]) [0] rfl
  have hDc := hD.sub (ws' := [(h, .inr (4, [.int md, ed, .int n]))]) [0] (by decide) rfl
  have hKc := hK.sub (tys' := []) [] rfl
  have hFc := va_free (wc := [(h, .inr (4, [.int md, ed, .int n]))]) hD hS hA [0] rfl
  refine va_callv (va_runI (As := []) (rest := []) ⟨hx, hb, hml, hown, hts⟩ (k_AC_init l D h md (ed) n s.heap.size) (cwI 0 hts (gA q60) rfl rfl rfl (hts _ q2) (hts _ q58) (hts _ q59) rfl (by decide +kernel) ⟨Nat.le_of_ble_eq_true rfl, Nat.le_of_ble_eq_true rfl⟩) ⟨EV.fb, fun U hU hW => ⟨rfl, EV.at hPc hKc hDc hG (hZ.no hS) U hU hW⟩⟩ rfl rfl hl.1 rfl (lv_room (Nat.le_of_ble_eq_true rfl)) dJxc12de_init_da8c8_1 ⟨Nat.le_of_ble_eq_true rfl, Nat.le_of_ble_eq_true rfl⟩) hS (fun q _ h => hFc q h) hFc (fun u t H1 locs ht hvm hw hB hz1 hk1 hS => ?_)
  obtain ⟨hP1, hD1⟩ := hB
  rw [ht] at hP1
  obtain ⟨hP, hD⟩ := va_join (wr := []) (w1 := [(h, .inr (4, [.int md, ed, .int n]))]) hP hD [0] [] rfl rfl (by decide) (by decide) hk1 hFc hP1 hD1
  generalize H1 = H at hP hS ⊢
  have hP : va_P D vwCl [(h, .inr (4, [.int md, ed, .int n]))] H := hP
  have hD : va_D A [(h, .inr (4, [.int md, ed, .int n]))] := hD
  refine lv_aload_n hx hb dJxc12de_init_da8c8_4 rfl (lv_at hl 0 rfl) ?_
  refine lv_iconst (v := 0) hx hb dJxc12de_init_da8c8_5 (by decide) ?_
  refine va_put (D := D) (ci := 4) (v := .int 0) (ty := .int) (C := RJx4a65c) (T := TJx4a65c) (N := 3) hx hb hts iwJx4a65c tyJx4a65c tyJx4a65c_ok nmJx4a65c hown hK hP hD hS 0 rfl rfl 0 (by decide) (hts _ q68) (fun _ h9 => h9) rfl (by decide +kernel) rfl rfl (Nat.le_of_ble_eq_true rfl) dJxc12de_init_da8c8_6 (fun H locs hP hD hS => ?_)
  have hP : va_P D vwCl [(h, .inr (4, [.int 0, ed, .int n]))] H := hP
  have hD : va_D A [(h, .inr (4, [.int 0, ed, .int n]))] := hD
  have hP9 := hP.sub (ws' := [(h, .inr (4, [.int 0, ed, .int n]))]) [0] rfl
  have hD9 := hD.sub (ws' := [(h, .inr (4, [.int 0, ed, .int n]))]) [0] (by decide) rfl
  refine W.widen (k := 0) (n := 0) (Nat.le_of_ble_eq_true rfl) (Nat.le_of_ble_eq_true rfl) ?_
  exact W.vret hx hb hr (fun t ht hW => ⟨⟨(), rfl, trivial, by rw [ht]; exact hP9, hD9⟩, hS.F ht⟩) hS.2.2 dJxc12de_init_da8c8_9
set_option maxHeartbeats 4000000 in
set_option maxRecDepth 100000 in
/-- ArrayList(): the empty row -/
theorem k_AL_init (l : Launch) (D : va_G) (e0 : Nat) (h : Nat) (md : Int32) (ed : Value) (n : Int32) (sz : Nat) : Met l yJx4a65c_init_da8c8 (wsA yJx4a65c_init_da8c8 cJx4a65c_init_da8c8 1 none) ({ frames := 3, cells := 0, slots := 0, locals := 52 }) (va_Pc [.ref h] (EW e0 D [] [(h, .inr (4, [.int md, ed, .int n]))] sz)) (va_Qv (fun (_ : Unit) => True) (fun _ t => va_P D vwCl [(h, .inr (4, [.int 0, .ref e0, .int n]))] t.heap ∧ va_D (va_A [(h, .inr (4, [.int md, ed, .int n]))] sz) [(h, .inr (4, [.int 0, .ref e0, .int n]))]) (va_A [(h, .inr (4, [.int md, ed, .int n]))] sz)) 0 0 (va_A [(h, .inr (4, [.int md, ed, .int n]))] sz) := by
  refine Met.ofW (cc := cJx4a65c_init_da8c8) (maxL := 1) (ret := none) (by decide) rfl ?_
  intro p e s m args below meth c s₁ B hml hv
  obtain ⟨rfl, ⟨hsz, hP, hK, hD0, hG, hZ0⟩, hZd0⟩ := hv
  have hx := B.exec
  have hb := B.bytes
  have hr := B.returns
  have hts0 := atoms_spec (ws := wsA yJx4a65c_init_da8c8 cJx4a65c_init_da8c8 1 none) B.pre
  have hts : ∀ w ∈ lw_all, w.before _ s = true := fun w h => hts0 w (List.mem_cons_of_mem _ h)
  have hown : s.vm.findClass RJx4a65c = some m.cls := findClass_of_methodNamed B.named
  have hlocks := B.notSynchronized
  have hin : meth.name = "<init>" := (name_of_methodNamed B.named B.method).1
  subst hsz
  have hZ := ZZ.wide hP hZ0
  have hZd := ZD.wide hP hZd0
  have hD := hD0.self (sz := s.heap.size)
  generalize hAe : va_A [(h, .inr (4, [.int md, ed, .int n]))] s.heap.size = A at hD hZ hZd ⊢
  have hA : ∀ q : Nat, s.heap.size ≤ q → A q := fun q h => by rw [← hAe]; exact Or.inr h
  have hS : va_S A s.heap s.heap [] := va_S.rf
  have hP : va_P D vwCl [(h, .inr (4, [.int md, ed, .int n]))] s.heap := hP
  have hl := lv_entry ([.ref h]) (n := 1) (Nat.le_of_ble_eq_true rfl)
  rw [lg_entry_eq]
  generalize (lg_sl ([.ref h]) ++ List.replicate (1 - (lg_sl ([.ref h])).length) Slot.unset).toArray = ls at hl ⊢
  have hl : lv_has ls 1 [(0, .ref h)] := hl
  refine lv_aload_n hx hb dJx4a65c_init_da8c8_0 rfl (lv_at hl 0 rfl) ?_
  have hPc := hP.sub (ws' := [(h, .inr (4, [.int md, ed, .int n]))]) [0] rfl
  have hDc := hD.sub (ws' := [(h, .inr (4, [.int md, ed, .int n]))]) [0] (by decide) rfl
  have hKc := hK.sub (tys' := []) [] rfl
  have hFc := va_free (wc := [(h, .inr (4, [.int md, ed, .int n]))]) hD hS hA [0] rfl
  refine va_callv (va_runI (As := []) (rest := []) ⟨hx, hb, hml, hown, hts⟩ (k_ALi_init l D h md (ed) n s.heap.size) (cwI 0 hts (gA q57) rfl rfl rfl (hts _ q3) (hts _ q55) (hts _ q56) rfl (by decide +kernel) ⟨Nat.le_of_ble_eq_true rfl, Nat.le_of_ble_eq_true rfl⟩) ⟨EV.fb, fun U hU hW => ⟨rfl, EV.at hPc hKc hDc hG (hZ.no hS) U hU hW⟩⟩ rfl rfl hl.1 rfl (lv_room (Nat.le_of_ble_eq_true rfl)) dJx4a65c_init_da8c8_1 ⟨Nat.le_of_ble_eq_true rfl, Nat.le_of_ble_eq_true rfl⟩) hS (fun q _ h => hFc q h) hFc (fun u t H1 locs ht hvm hw hB hz1 hk1 hS => ?_)
  obtain ⟨hP1, hD1⟩ := hB
  rw [ht] at hP1
  obtain ⟨hP, hD⟩ := va_join (wr := []) (w1 := [(h, .inr (4, [.int 0, ed, .int n]))]) hP hD [0] [] rfl rfl (by decide) (by decide) hk1 hFc hP1 hD1
  generalize H1 = H at hP hS ⊢
  have hP : va_P D vwCl [(h, .inr (4, [.int 0, ed, .int n]))] H := hP
  have hD : va_D A [(h, .inr (4, [.int 0, ed, .int n]))] := hD
  refine lv_aload_n hx hb dJx4a65c_init_da8c8_4 rfl (lv_at hl 0 rfl) ?_
  refine va_gets (v := .ref e0) hx hb hZd hS hown (hts _ q62) (fun _ h9 => h9) dJx4a65c_init_da8c8_5 ?_
  refine va_put (D := D) (ci := 4) (v := .ref e0) (ty := (.array (.object "java/lang/Object"))) (C := RJx4a65c) (T := TJx4a65c) (N := 3) hx hb hts iwJx4a65c tyJx4a65c tyJx4a65c_ok nmJx4a65c hown hK hP hD hS 0 rfl rfl 1 (by decide) (hts _ q64) (fun _ h9 => h9) rfl (by decide +kernel) rfl rfl (Nat.le_of_ble_eq_true rfl) dJx4a65c_init_da8c8_8 (fun H locs hP hD hS => ?_)
  have hP : va_P D vwCl [(h, .inr (4, [.int 0, .ref e0, .int n]))] H := hP
  have hD : va_D A [(h, .inr (4, [.int 0, .ref e0, .int n]))] := hD
  have hP9 := hP.sub (ws' := [(h, .inr (4, [.int 0, .ref e0, .int n]))]) [0] rfl
  have hD9 := hD.sub (ws' := [(h, .inr (4, [.int 0, .ref e0, .int n]))]) [0] (by decide) rfl
  refine W.widen (k := 0) (n := 0) (Nat.le_of_ble_eq_true rfl) (Nat.le_of_ble_eq_true rfl) ?_
  exact W.vret hx hb hr (fun t ht hW => ⟨⟨(), rfl, trivial, by rw [ht]; exact hP9, hD9⟩, hS.F ht⟩) hS.2.2 dJx4a65c_init_da8c8_11
set_option maxHeartbeats 4000000 in
set_option maxRecDepth 100000 in
/-- Weather() -/
theorem k_We_init (l : Launch) (D : va_G) (h : Nat) (a b c2 : Value) (sz : Nat) : Met l yX6_init (wsA yX6_init cX6_init 1 none) ({ frames := 1, cells := 0, slots := 0, locals := 12 }) (va_Pc [.ref h] (EV D [] [(h, .inr (10, [a, b, c2]))] sz)) (va_Qv (fun (_ : Unit) => True) (fun _ t => va_P D vwCl [(h, .inr (10, [.int 10, .int 0, .int 0]))] t.heap ∧ va_D (va_A [(h, .inr (10, [a, b, c2]))] sz) [(h, .inr (10, [.int 10, .int 0, .int 0]))]) (va_A [(h, .inr (10, [a, b, c2]))] sz)) 0 0 (va_A [(h, .inr (10, [a, b, c2]))] sz) := by
  refine Met.ofW (cc := cX6_init) (maxL := 1) (ret := none) (by decide) rfl ?_
  intro p e s m args below meth c s₁ B hml hv
  obtain ⟨rfl, hsz, hP, hK, hD0, hG, hZ0⟩ := hv
  have hx := B.exec
  have hb := B.bytes
  have hr := B.returns
  have hts0 := atoms_spec (ws := wsA yX6_init cX6_init 1 none) B.pre
  have hts : ∀ w ∈ lw_all, w.before _ s = true := fun w h => hts0 w (List.mem_cons_of_mem _ h)
  have hown : s.vm.findClass RX6 = some m.cls := findClass_of_methodNamed B.named
  have hlocks := B.notSynchronized
  have hin : meth.name = "<init>" := (name_of_methodNamed B.named B.method).1
  subst hsz
  have hZ := ZZ.wide hP hZ0
  have hD := hD0.self (sz := s.heap.size)
  generalize hAe : va_A [(h, .inr (10, [a, b, c2]))] s.heap.size = A at hD hZ ⊢
  have hA : ∀ q : Nat, s.heap.size ≤ q → A q := fun q h => by rw [← hAe]; exact Or.inr h
  have hS : va_S A s.heap s.heap [] := va_S.rf
  have hP : va_P D vwCl [(h, .inr (10, [a, b, c2]))] s.heap := hP
  have hl := lv_entry ([.ref h]) (n := 1) (Nat.le_of_ble_eq_true rfl)
  rw [lg_entry_eq]
  generalize (lg_sl ([.ref h]) ++ List.replicate (1 - (lg_sl ([.ref h])).length) Slot.unset).toArray = ls at hl ⊢
  have hl : lv_has ls 1 [(0, .ref h)] := hl
  refine lv_aload_n hx hb dX6_init_0 rfl (lv_at hl 0 rfl) ?_
  refine W.objInit hx hb hown (hts _ q84) (hts _ q48) (hts _ q49) rfl (by rw [hml]; exact hl.1) rfl dX6_init_1 (Nat.le_of_ble_eq_true rfl) (Nat.le_of_ble_eq_true rfl) ?_
  refine W.eq (g2 := F0 m 4 ls []) rfl ?_
  refine lv_aload_n hx hb dX6_init_4 rfl (lv_at hl 0 rfl) ?_
  refine lv_bipush (v := 10) hx hb dX6_init_5 (by decide) ?_
  refine va_put (D := D) (ci := 10) (v := .int 10) (ty := .int) (C := RX6) (T := TX6) (N := 3) hx hb hts iwX6 tyX6 tyX6_ok nmX6 hown hK hP hD hS 0 rfl rfl 0 (by decide) (hts _ q85) (fun _ h9 => h9) rfl (by decide +kernel) rfl rfl (Nat.le_of_ble_eq_true rfl) dX6_init_7 (fun H locs hP hD hS => ?_)
  have hP : va_P D vwCl [(h, .inr (10, [.int 10, b, c2]))] H := hP
  have hD : va_D A [(h, .inr (10, [.int 10, b, c2]))] := hD
  refine lv_aload_n hx hb dX6_init_10 rfl (lv_at hl 0 rfl) ?_
  refine lv_iconst (v := 0) hx hb dX6_init_11 (by decide) ?_
  refine va_put (D := D) (ci := 10) (v := .int 0) (ty := .int) (C := RX6) (T := TX6) (N := 3) hx hb hts iwX6 tyX6 tyX6_ok nmX6 hown hK hP hD hS 0 rfl rfl 1 (by decide) (hts _ q87) (fun _ h9 => h9) rfl (by decide +kernel) rfl rfl (Nat.le_of_ble_eq_true rfl) dX6_init_12 (fun H locs hP hD hS => ?_)
  have hP : va_P D vwCl [(h, .inr (10, [.int 10, .int 0, c2]))] H := hP
  have hD : va_D A [(h, .inr (10, [.int 10, .int 0, c2]))] := hD
  refine lv_aload_n hx hb dX6_init_15 rfl (lv_at hl 0 rfl) ?_
  refine lv_iconst (v := 0) hx hb dX6_init_16 (by decide) ?_
  refine va_put (D := D) (ci := 10) (v := .int 0) (ty := .int) (C := RX6) (T := TX6) (N := 3) hx hb hts iwX6 tyX6 tyX6_ok nmX6 hown hK hP hD hS 0 rfl rfl 2 (by decide) (hts _ q89) (fun _ h9 => h9) rfl (by decide +kernel) rfl rfl (Nat.le_of_ble_eq_true rfl) dX6_init_17 (fun H locs hP hD hS => ?_)
  have hP : va_P D vwCl [(h, .inr (10, [.int 10, .int 0, .int 0]))] H := hP
  have hD : va_D A [(h, .inr (10, [.int 10, .int 0, .int 0]))] := hD
  have hP9 := hP.sub (ws' := [(h, .inr (10, [.int 10, .int 0, .int 0]))]) [0] rfl
  have hD9 := hD.sub (ws' := [(h, .inr (10, [.int 10, .int 0, .int 0]))]) [0] (by decide) rfl
  refine W.widen (k := 0) (n := 0) (Nat.le_of_ble_eq_true rfl) (Nat.le_of_ble_eq_true rfl) ?_
  exact W.vret hx hb hr (fun t ht hW => ⟨⟨(), rfl, trivial, by rw [ht]; exact hP9, hD9⟩, hS.F ht⟩) hS.2.2 dX6_init_20
set_option maxHeartbeats 4000000 in
set_option maxRecDepth 100000 in
/-- Sky() -/
theorem k_Sk_init (l : Launch) (D : va_G) (h : Nat) (a b c2 d2 g2 : Value) (sz : Nat) : Met l yX11_init (wsA yX11_init cX11_init 1 none) ({ frames := 1, cells := 0, slots := 0, locals := 12 }) (va_Pc [.ref h] (EV D [] [(h, .inr (15, [a, b, c2, d2, g2]))] sz)) (va_Qv (fun (_ : Unit) => True) (fun _ t => va_P D vwCl [(h, .inr (15, [.int 10, b, c2, .int 9999, g2]))] t.heap ∧ va_D (va_A [(h, .inr (15, [a, b, c2, d2, g2]))] sz) [(h, .inr (15, [.int 10, b, c2, .int 9999, g2]))]) (va_A [(h, .inr (15, [a, b, c2, d2, g2]))] sz)) 0 0 (va_A [(h, .inr (15, [a, b, c2, d2, g2]))] sz) := by
  refine Met.ofW (cc := cX11_init) (maxL := 1) (ret := none) (by decide) rfl ?_
  intro p e s m args below meth c s₁ B hml hv
  obtain ⟨rfl, hsz, hP, hK, hD0, hG, hZ0⟩ := hv
  have hx := B.exec
  have hb := B.bytes
  have hr := B.returns
  have hts0 := atoms_spec (ws := wsA yX11_init cX11_init 1 none) B.pre
  have hts : ∀ w ∈ lw_all, w.before _ s = true := fun w h => hts0 w (List.mem_cons_of_mem _ h)
  have hown : s.vm.findClass RX11 = some m.cls := findClass_of_methodNamed B.named
  have hlocks := B.notSynchronized
  have hin : meth.name = "<init>" := (name_of_methodNamed B.named B.method).1
  subst hsz
  have hZ := ZZ.wide hP hZ0
  have hD := hD0.self (sz := s.heap.size)
  generalize hAe : va_A [(h, .inr (15, [a, b, c2, d2, g2]))] s.heap.size = A at hD hZ ⊢
  have hA : ∀ q : Nat, s.heap.size ≤ q → A q := fun q h => by rw [← hAe]; exact Or.inr h
  have hS : va_S A s.heap s.heap [] := va_S.rf
  have hP : va_P D vwCl [(h, .inr (15, [a, b, c2, d2, g2]))] s.heap := hP
  have hl := lv_entry ([.ref h]) (n := 1) (Nat.le_of_ble_eq_true rfl)
  rw [lg_entry_eq]
  generalize (lg_sl ([.ref h]) ++ List.replicate (1 - (lg_sl ([.ref h])).length) Slot.unset).toArray = ls at hl ⊢
  have hl : lv_has ls 1 [(0, .ref h)] := hl
  refine lv_aload_n hx hb dX11_init_0 rfl (lv_at hl 0 rfl) ?_
  refine W.objInit hx hb hown (hts _ q1138) (hts _ q48) (hts _ q49) rfl (by rw [hml]; exact hl.1) rfl dX11_init_1 (Nat.le_of_ble_eq_true rfl) (Nat.le_of_ble_eq_true rfl) ?_
  refine W.eq (g2 := F0 m 4 ls []) rfl ?_
  refine lv_aload_n hx hb dX11_init_4 rfl (lv_at hl 0 rfl) ?_
  refine lv_bipush (v := 10) hx hb dX11_init_5 (by decide) ?_
  refine va_put (D := D) (ci := 15) (v := .int 10) (ty := .int) (C := RX11) (T := TX11) (N := 5) hx hb hts iwX11 tyX11 tyX11_ok nmX11 hown hK hP hD hS 0 rfl rfl 0 (by decide) (hts _ q1139) (fun _ h9 => h9) rfl (by decide +kernel) rfl rfl (Nat.le_of_ble_eq_true rfl) dX11_init_7 (fun H locs hP hD hS => ?_)
  have hP : va_P D vwCl [(h, .inr (15, [.int 10, b, c2, d2, g2]))] H := hP
  have hD : va_D A [(h, .inr (15, [.int 10, b, c2, d2, g2]))] := hD
  refine lv_aload_n hx hb dX11_init_10 rfl (lv_at hl 0 rfl) ?_
  refine lv_sipush (v := 9999) hx hb dX11_init_11 (by decide) ?_
  refine va_put (D := D) (ci := 15) (v := .int 9999) (ty := .int) (C := RX11) (T := TX11) (N := 5) hx hb hts iwX11 tyX11 tyX11_ok nmX11 hown hK hP hD hS 0 rfl rfl 3 (by decide) (hts _ q1145) (fun _ h9 => h9) rfl (by decide +kernel) rfl rfl (Nat.le_of_ble_eq_true rfl) dX11_init_14 (fun H locs hP hD hS => ?_)
  have hP : va_P D vwCl [(h, .inr (15, [.int 10, b, c2, .int 9999, g2]))] H := hP
  have hD : va_D A [(h, .inr (15, [.int 10, b, c2, .int 9999, g2]))] := hD
  have hP9 := hP.sub (ws' := [(h, .inr (15, [.int 10, b, c2, .int 9999, g2]))]) [0] rfl
  have hD9 := hD.sub (ws' := [(h, .inr (15, [.int 10, b, c2, .int 9999, g2]))]) [0] (by decide) rfl
  refine W.widen (k := 0) (n := 0) (Nat.le_of_ble_eq_true rfl) (Nat.le_of_ble_eq_true rfl) ?_
  exact W.vret hx hb hr (fun t ht hW => ⟨⟨(), rfl, trivial, by rw [ht]; exact hP9, hD9⟩, hS.F ht⟩) hS.2.2 dX11_init_17
set_option maxHeartbeats 4000000 in
set_option maxRecDepth 100000 in
/-- LysimeterField(): a fresh object -/
theorem k_LF_init (l : Launch) (D : va_G) (e0 : Nat) (h : Nat) (sz : Nat) : Met l yX7_init (wsA yX7_init cX7_init 1 none) ({ frames := 4, cells := 4, slots := 49, locals := 72 }) (va_Pc [.ref h] (EW e0 D [] [(h, .inr (11, [.null, .null, .null, .null, .int 0, .int 0, .int 0]))] sz)) (va_Qv (fun (_ : Nat × Nat × Nat × Nat) => True) (fun u t => va_P D vwCl [(h, .inr (11, [.ref u.1, .ref u.2.1, .ref u.2.2.1, .ref u.2.2.2, .int 9999, .int 0, .int 0])), (u.1, .inr (4, [.int 0, .ref e0, .int 0])), (u.2.1, .inr (4, [.int 0, .ref e0, .int 0])), (u.2.2.1, .inr (10, [.int 10, .int 0, .int 0]))] t.heap ∧ va_D (va_A [(h, .inr (11, [.null, .null, .null, .null, .int 0, .int 0, .int 0]))] sz) [(h, .inr (11, [.ref u.1, .ref u.2.1, .ref u.2.2.1, .ref u.2.2.2, .int 9999, .int 0, .int 0])), (u.1, .inr (4, [.int 0, .ref e0, .int 0])), (u.2.1, .inr (4, [.int 0, .ref e0, .int 0])), (u.2.2.1, .inr (10, [.int 10, .int 0, .int 0]))]) (va_A [(h, .inr (11, [.null, .null, .null, .null, .int 0, .int 0, .int 0]))] sz)) 4 49 (va_A [(h, .inr (11, [.null, .null, .null, .null, .int 0, .int 0, .int 0]))] sz) := by
  refine Met.ofW (cc := cX7_init) (maxL := 1) (ret := none) (by decide) rfl ?_
  intro p e s m args below meth c s₁ B hml hv
  obtain ⟨rfl, ⟨hsz, hP, hK, hD0, hG, hZ0⟩, hZd0⟩ := hv
  have hx := B.exec
  have hb := B.bytes
  have hr := B.returns
  have hts0 := atoms_spec (ws := wsA yX7_init cX7_init 1 none) B.pre
  have hts : ∀ w ∈ lw_all, w.before _ s = true := fun w h => hts0 w (List.mem_cons_of_mem _ h)
  have hown : s.vm.findClass RX7 = some m.cls := findClass_of_methodNamed B.named
  have hlocks := B.notSynchronized
  have hin : meth.name = "<init>" := (name_of_methodNamed B.named B.method).1
  subst hsz
  have hZ := ZZ.wide hP hZ0
  have hZd := ZD.wide hP hZd0
  have hD := hD0.self (sz := s.heap.size)
  generalize hAe : va_A [(h, .inr (11, [.null, .null, .null, .null, .int 0, .int 0, .int 0]))] s.heap.size = A at hD hZ hZd ⊢
  have hA : ∀ q : Nat, s.heap.size ≤ q → A q := fun q h => by rw [← hAe]; exact Or.inr h
  have hS : va_S A s.heap s.heap [] := va_S.rf
  have hP : va_P D vwCl [(h, .inr (11, [.null, .null, .null, .null, .int 0, .int 0, .int 0]))] s.heap := hP
  have hl := lv_entry ([.ref h]) (n := 1) (Nat.le_of_ble_eq_true rfl)
  rw [lg_entry_eq]
  generalize (lg_sl ([.ref h]) ++ List.replicate (1 - (lg_sl ([.ref h])).length) Slot.unset).toArray = ls at hl ⊢
  have hl : lv_has ls 1 [(0, .ref h)] := hl
  refine lv_aload_n hx hb dX7_init_0 rfl (lv_at hl 0 rfl) ?_
  refine W.objInit hx hb hown (hts _ q47) (hts _ q48) (hts _ q49) rfl (by rw [hml]; exact hl.1) rfl dX7_init_1 (Nat.le_of_ble_eq_true rfl) (Nat.le_of_ble_eq_true rfl) ?_
  refine W.eq (g2 := F0 m 4 ls []) rfl ?_
  refine lv_aload_n hx hb dX7_init_4 rfl (lv_at hl 0 rfl) ?_
  refine va_new (ci := 4) (fs := [.int 0, .null, .int 0]) (C := RJx4a65c) (T := TJx4a65c) (N := 3) hx hb hts iwJx4a65c tyJx4a65c tyJx4a65c_ok hown (hts _ q50) (hts _ q51) (hts _ q4) hK hP hD hS hA rfl (fun j hj => by rcases (show j = 0 ∨ j = 1 ∨ j = 2 by omega) with rfl | rfl | rfl <;> rfl) (Nat.le_of_ble_eq_true rfl) (Nat.le_of_ble_eq_true rfl) dX7_init_5 (fun o_1 H hP hD hS => ?_)
  have hP : va_P D vwCl [(h, .inr (11, [.null, .null, .null, .null, .int 0, .int 0, .int 0])), (o_1, .inr (4, [.int 0, .null, .int 0]))] H := hP
  have hD : va_D A [(h, .inr (11, [.null, .null, .null, .null, .int 0, .int 0, .int 0])), (o_1, .inr (4, [.int 0, .null, .int 0]))] := hD
  refine lv_dup hx hb dX7_init_8 rfl ?_
  have hPc := hP.sub (ws' := [(o_1, .inr (4, [.int 0, .null, .int 0]))]) [1] rfl
  have hDc := hD.sub (ws' := [(o_1, .inr (4, [.int 0, .null, .int 0]))]) [1] (by decide) rfl
  have hKc := hK.sub (tys' := []) [] rfl
  have hFc := va_free (wc := [(o_1, .inr (4, [.int 0, .null, .int 0]))]) hD hS hA [1] rfl
  refine va_callv (va_runI (As := []) (rest := [.ref o_1, .ref h]) ⟨hx, hb, hml, hown, hts⟩ (k_AL_init l D e0 o_1 0 (.null) 0 H.size) (cwI 0 hts (gA q54) rfl rfl rfl (hts _ q4) (hts _ q52) (hts _ q53) rfl (by decide +kernel) ⟨Nat.le_of_ble_eq_true rfl, Nat.le_of_ble_eq_true rfl⟩) ⟨EW.fb, fun U hU hW => ⟨rfl, EW.at hPc hKc hDc hG (hZ.no hS) (ZD.no hZd hS) U hU hW⟩⟩ rfl rfl hl.1 rfl (lv_room (Nat.le_of_ble_eq_true rfl)) dX7_init_9 ⟨Nat.le_of_ble_eq_true rfl, Nat.le_of_ble_eq_true rfl⟩) hS (fun q _ h => hFc q h) hFc (fun u t H1 locs ht hvm hw hB hz1 hk1 hS => ?_)
  obtain ⟨hP1, hD1⟩ := hB
  rw [ht] at hP1
  obtain ⟨hP, hD⟩ := va_join (wr := [(h, .inr (11, [.null, .null, .null, .null, .int 0, .int 0, .int 0]))]) (w1 := [(o_1, .inr (4, [.int 0, .ref e0, .int 0]))]) hP hD [1] [0] rfl rfl (by decide) (by decide) hk1 hFc hP1 hD1
  generalize H1 = H at hP hS ⊢
  have hP : va_P D vwCl [(h, .inr (11, [.null, .null, .null, .null, .int 0, .int 0, .int 0])), (o_1, .inr (4, [.int 0, .ref e0, .int 0]))] H := hP
  have hD : va_D A [(h, .inr (11, [.null, .null, .null, .null, .int 0, .int 0, .int 0])), (o_1, .inr (4, [.int 0, .ref e0, .int 0]))] := hD
  refine va_putF (D := D) (ci := 11) (v := .ref o_1) (ty := (.object "java/util/ArrayList")) (C := RX7) (T := TX7) (N := 7) hx hb hts iwX7 tyX7 tyX7_ok nmX7 hown hK hP hD hS 0 rfl rfl 0 (by decide) (hts _ q98) (fun _ h9 => h9) rfl hin rfl (by decide +kernel) rfl rfl (Nat.le_of_ble_eq_true rfl) dX7_init_12 (fun H locs hP hD hS => ?_)
  have hP : va_P D vwCl [(h, .inr (11, [.ref o_1, .null, .null, .null, .int 0, .int 0, .int 0])), (o_1, .inr (4, [.int 0, .ref e0, .int 0]))] H := hP
  have hD : va_D A [(h, .inr (11, [.ref o_1, .null, .null, .null, .int 0, .int 0, .int 0])), (o_1, .inr (4, [.int 0, .ref e0, .int 0]))] := hD
  refine lv_aload_n hx hb dX7_init_15 rfl (lv_at hl 0 rfl) ?_
  refine va_new (ci := 4) (fs := [.int 0, .null, .int 0]) (C := RJx4a65c) (T := TJx4a65c) (N := 3) hx hb hts iwJx4a65c tyJx4a65c tyJx4a65c_ok hown (hts _ q50) (hts _ q51) (hts _ q4) hK hP hD hS hA rfl (fun j hj => by rcases (show j = 0 ∨ j = 1 ∨ j = 2 by omega) with rfl | rfl | rfl <;> rfl) (Nat.le_of_ble_eq_true rfl) (Nat.le_of_ble_eq_true rfl) dX7_init_16 (fun o_3 H hP hD hS => ?_)
  have hP : va_P D vwCl [(h, .inr (11, [.ref o_1, .null, .null, .null, .int 0, .int 0, .int 0])), (o_1, .inr (4, [.int 0, .ref e0, .int 0])), (o_3, .inr (4, [.int 0, .null, .int 0]))] H := hP
  have hD : va_D A [(h, .inr (11, [.ref o_1, .null, .null, .null, .int 0, .int 0, .int 0])), (o_1, .inr (4, [.int 0, .ref e0, .int 0])), (o_3, .inr (4, [.int 0, .null, .int 0]))] := hD
  refine lv_dup hx hb dX7_init_19 rfl ?_
  have hPc := hP.sub (ws' := [(o_3, .inr (4, [.int 0, .null, .int 0]))]) [2] rfl
  have hDc := hD.sub (ws' := [(o_3, .inr (4, [.int 0, .null, .int 0]))]) [2] (by decide) rfl
  have hKc := hK.sub (tys' := []) [] rfl
  have hFc := va_free (wc := [(o_3, .inr (4, [.int 0, .null, .int 0]))]) hD hS hA [2] rfl
  refine va_callv (va_runI (As := []) (rest := [.ref o_3, .ref h]) ⟨hx, hb, hml, hown, hts⟩ (k_AL_init l D e0 o_3 0 (.null) 0 H.size) (cwI 0 hts (gA q54) rfl rfl rfl (hts _ q4) (hts _ q52) (hts _ q53) rfl (by decide +kernel) ⟨Nat.le_of_ble_eq_true rfl, Nat.le_of_ble_eq_true rfl⟩) ⟨EW.fb, fun U hU hW => ⟨rfl, EW.at hPc hKc hDc hG (hZ.no hS) (ZD.no hZd hS) U hU hW⟩⟩ rfl rfl hl.1 rfl (lv_room (Nat.le_of_ble_eq_true rfl)) dX7_init_20 ⟨Nat.le_of_ble_eq_true rfl, Nat.le_of_ble_eq_true rfl⟩) hS (fun q _ h => hFc q h) hFc (fun u t H1 locs ht hvm hw hB hz1 hk1 hS => ?_)
  obtain ⟨hP1, hD1⟩ := hB
  rw [ht] at hP1
  obtain ⟨hP, hD⟩ := va_join (wr := [(h, .inr (11, [.ref o_1, .null, .null, .null, .int 0, .int 0, .int 0])), (o_1, .inr (4, [.int 0, .ref e0, .int 0]))]) (w1 := [(o_3, .inr (4, [.int 0, .ref e0, .int 0]))]) hP hD [2] [0, 1] rfl rfl (by decide) (by decide) hk1 hFc hP1 hD1
  generalize H1 = H at hP hS ⊢
  have hP : va_P D vwCl [(h, .inr (11, [.ref o_1, .null, .null, .null, .int 0, .int 0, .int 0])), (o_1, .inr (4, [.int 0, .ref e0, .int 0])), (o_3, .inr (4, [.int 0, .ref e0, .int 0]))] H := hP
  have hD : va_D A [(h, .inr (11, [.ref o_1, .null, .null, .null, .int 0, .int 0, .int 0])), (o_1, .inr (4, [.int 0, .ref e0, .int 0])), (o_3, .inr (4, [.int 0, .ref e0, .int 0]))] := hD
  refine va_putF (D := D) (ci := 11) (v := .ref o_3) (ty := (.object "java/util/ArrayList")) (C := RX7) (T := TX7) (N := 7) hx hb hts iwX7 tyX7 tyX7_ok nmX7 hown hK hP hD hS 0 rfl rfl 1 (by decide) (hts _ q99) (fun _ h9 => h9) rfl hin rfl (by decide +kernel) rfl rfl (Nat.le_of_ble_eq_true rfl) dX7_init_23 (fun H locs hP hD hS => ?_)
  have hP : va_P D vwCl [(h, .inr (11, [.ref o_1, .ref o_3, .null, .null, .int 0, .int 0, .int 0])), (o_1, .inr (4, [.int 0, .ref e0, .int 0])), (o_3, .inr (4, [.int 0, .ref e0, .int 0]))] H := hP
  have hD : va_D A [(h, .inr (11, [.ref o_1, .ref o_3, .null, .null, .int 0, .int 0, .int 0])), (o_1, .inr (4, [.int 0, .ref e0, .int 0])), (o_3, .inr (4, [.int 0, .ref e0, .int 0]))] := hD
  refine lv_aload_n hx hb dX7_init_26 rfl (lv_at hl 0 rfl) ?_
  refine va_new (ci := 10) (fs := [.int 0, .int 0, .int 0]) (C := RX6) (T := TX6) (N := 3) hx hb hts iwX6 tyX6 tyX6_ok hown (hts _ q79) (hts _ q80) (hts _ q5) hK hP hD hS hA rfl (fun j hj => by rcases (show j = 0 ∨ j = 1 ∨ j = 2 by omega) with rfl | rfl | rfl <;> rfl) (Nat.le_of_ble_eq_true rfl) (Nat.le_of_ble_eq_true rfl) dX7_init_27 (fun o_5 H hP hD hS => ?_)
  have hP : va_P D vwCl [(h, .inr (11, [.ref o_1, .ref o_3, .null, .null, .int 0, .int 0, .int 0])), (o_1, .inr (4, [.int 0, .ref e0, .int 0])), (o_3, .inr (4, [.int 0, .ref e0, .int 0])), (o_5, .inr (10, [.int 0, .int 0, .int 0]))] H := hP
  have hD : va_D A [(h, .inr (11, [.ref o_1, .ref o_3, .null, .null, .int 0, .int 0, .int 0])), (o_1, .inr (4, [.int 0, .ref e0, .int 0])), (o_3, .inr (4, [.int 0, .ref e0, .int 0])), (o_5, .inr (10, [.int 0, .int 0, .int 0]))] := hD
  refine lv_dup hx hb dX7_init_30 rfl ?_
  have hPc := hP.sub (ws' := [(o_5, .inr (10, [.int 0, .int 0, .int 0]))]) [3] rfl
  have hDc := hD.sub (ws' := [(o_5, .inr (10, [.int 0, .int 0, .int 0]))]) [3] (by decide) rfl
  have hKc := hK.sub (tys' := []) [] rfl
  have hFc := va_free (wc := [(o_5, .inr (10, [.int 0, .int 0, .int 0]))]) hD hS hA [3] rfl
  refine va_callv (va_runIN (As := []) (rest := [.ref o_5, .ref h]) ⟨hx, hb, hml, hown, hts⟩ (k_We_init l D o_5 (.int 0) (.int 0) (.int 0) H.size) ⟨va_cnB 0 hts (gA q83) rfl rfl rfl (hG.nw t81) (hts _ q5) (by decide +kernel) ⟨Nat.le_of_ble_eq_true rfl, Nat.le_of_ble_eq_true rfl⟩, rfl, (hts _ q82)⟩ ⟨EV.fb, fun U hU hW => ⟨rfl, EV.at hPc hKc hDc hG (hZ.no hS) U hU hW⟩⟩ rfl rfl hl.1 rfl (lv_room (Nat.le_of_ble_eq_true rfl)) dX7_init_31 ⟨Nat.le_of_ble_eq_true rfl, Nat.le_of_ble_eq_true rfl⟩) hS (fun q _ h => hFc q h) hFc (fun u t H1 locs ht hvm hw hB hz1 hk1 hS => ?_)
  obtain ⟨hP1, hD1⟩ := hB
  rw [ht] at hP1
  obtain ⟨hP, hD⟩ := va_join (wr := [(h, .inr (11, [.ref o_1, .ref o_3, .null, .null, .int 0, .int 0, .int 0])), (o_1, .inr (4, [.int 0, .ref e0, .int 0])), (o_3, .inr (4, [.int 0, .ref e0, .int 0]))]) (w1 := [(o_5, .inr (10, [.int 10, .int 0, .int 0]))]) hP hD [3] [0, 1, 2] rfl rfl (by decide) (by decide) hk1 hFc hP1 hD1
  generalize H1 = H at hP hS ⊢
  have hP : va_P D vwCl [(h, .inr (11, [.ref o_1, .ref o_3, .null, .null, .int 0, .int 0, .int 0])), (o_1, .inr (4, [.int 0, .ref e0, .int 0])), (o_3, .inr (4, [.int 0, .ref e0, .int 0])), (o_5, .inr (10, [.int 10, .int 0, .int 0]))] H := hP
  have hD : va_D A [(h, .inr (11, [.ref o_1, .ref o_3, .null, .null, .int 0, .int 0, .int 0])), (o_1, .inr (4, [.int 0, .ref e0, .int 0])), (o_3, .inr (4, [.int 0, .ref e0, .int 0])), (o_5, .inr (10, [.int 10, .int 0, .int 0]))] := hD
  refine va_putF (D := D) (ci := 11) (v := .ref o_5) (ty := (.object "LysimeterField$Weather")) (C := RX7) (T := TX7) (N := 7) hx hb hts iwX7 tyX7 tyX7_ok nmX7 hown hK hP hD hS 0 rfl rfl 2 (by decide) (hts _ q100) (fun _ h9 => h9) rfl hin rfl (by decide +kernel) rfl rfl (Nat.le_of_ble_eq_true rfl) dX7_init_34 (fun H locs hP hD hS => ?_)
  have hP : va_P D vwCl [(h, .inr (11, [.ref o_1, .ref o_3, .ref o_5, .null, .int 0, .int 0, .int 0])), (o_1, .inr (4, [.int 0, .ref e0, .int 0])), (o_3, .inr (4, [.int 0, .ref e0, .int 0])), (o_5, .inr (10, [.int 10, .int 0, .int 0]))] H := hP
  have hD : va_D A [(h, .inr (11, [.ref o_1, .ref o_3, .ref o_5, .null, .int 0, .int 0, .int 0])), (o_1, .inr (4, [.int 0, .ref e0, .int 0])), (o_3, .inr (4, [.int 0, .ref e0, .int 0])), (o_5, .inr (10, [.int 10, .int 0, .int 0]))] := hD
  refine lv_aload_n hx hb dX7_init_37 rfl (lv_at hl 0 rfl) ?_
  refine lv_bipush (v := 40) hx hb dX7_init_38 (by decide) ?_
  refine va_newa (atype := .long) (a0 := (40, .inr (.inl (fun _ => 0)))) (N' := 40) (ty := .long) hx hb (hts _ q120) rfl hK hP hD hS hA (fun cA => rfl) (by decide) (by decide) (Nat.le_of_ble_eq_true rfl) (Nat.le_of_ble_eq_true rfl) (Nat.le_of_ble_eq_true rfl) dX7_init_40 (fun o_7 cA_8 H hK hP hD hS => ?_)
  have hP : va_P D vwCl [(h, .inr (11, [.ref o_1, .ref o_3, .ref o_5, .null, .int 0, .int 0, .int 0])), (o_1, .inr (4, [.int 0, .ref e0, .int 0])), (o_3, .inr (4, [.int 0, .ref e0, .int 0])), (o_5, .inr (10, [.int 10, .int 0, .int 0])), (o_7, .inl (cA_8, 40, .inr (.inl (fun _ => 0))))] H := hP
  have hD : va_D A [(h, .inr (11, [.ref o_1, .ref o_3, .ref o_5, .null, .int 0, .int 0, .int 0])), (o_1, .inr (4, [.int 0, .ref e0, .int 0])), (o_3, .inr (4, [.int 0, .ref e0, .int 0])), (o_5, .inr (10, [.int 10, .int 0, .int 0])), (o_7, .inl (cA_8, 40, .inr (.inl (fun _ => 0))))] := hD
  have hK : va_K D vwCl [(cA_8, .long)] s := hK
  refine va_putF (D := D) (ci := 11) (v := .ref o_7) (ty := (.array .long)) (C := RX7) (T := TX7) (N := 7) hx hb hts iwX7 tyX7 tyX7_ok nmX7 hown hK hP hD hS 0 rfl rfl 3 (by decide) (hts _ q101) (fun _ h9 => h9) rfl hin rfl (by decide +kernel) rfl rfl (Nat.le_of_ble_eq_true rfl) dX7_init_42 (fun H locs hP hD hS => ?_)
  have hP : va_P D vwCl [(h, .inr (11, [.ref o_1, .ref o_3, .ref o_5, .ref o_7, .int 0, .int 0, .int 0])), (o_1, .inr (4, [.int 0, .ref e0, .int 0])), (o_3, .inr (4, [.int 0, .ref e0, .int 0])), (o_5, .inr (10, [.int 10, .int 0, .int 0])), (o_7, .inl (cA_8, 40, .inr (.inl (fun _ => 0))))] H := hP
  have hD : va_D A [(h, .inr (11, [.ref o_1, .ref o_3, .ref o_5, .ref o_7, .int 0, .int 0, .int 0])), (o_1, .inr (4, [.int 0, .ref e0, .int 0])), (o_3, .inr (4, [.int 0, .ref e0, .int 0])), (o_5, .inr (10, [.int 10, .int 0, .int 0])), (o_7, .inl (cA_8, 40, .inr (.inl (fun _ => 0))))] := hD
  refine lv_aload_n hx hb dX7_init_45 rfl (lv_at hl 0 rfl) ?_
  refine lv_sipush (v := 9999) hx hb dX7_init_46 (by decide) ?_
  refine va_put (D := D) (ci := 11) (v := .int 9999) (ty := .int) (C := RX7) (T := TX7) (N := 7) hx hb hts iwX7 tyX7 tyX7_ok nmX7 hown hK hP hD hS 0 rfl rfl 4 (by decide) (hts _ q102) (fun _ h9 => h9) rfl (by decide +kernel) rfl rfl (Nat.le_of_ble_eq_true rfl) dX7_init_49 (fun H locs hP hD hS => ?_)
  have hP : va_P D vwCl [(h, .inr (11, [.ref o_1, .ref o_3, .ref o_5, .ref o_7, .int 9999, .int 0, .int 0])), (o_1, .inr (4, [.int 0, .ref e0, .int 0])), (o_3, .inr (4, [.int 0, .ref e0, .int 0])), (o_5, .inr (10, [.int 10, .int 0, .int 0])), (o_7, .inl (cA_8, 40, .inr (.inl (fun _ => 0))))] H := hP
  have hD : va_D A [(h, .inr (11, [.ref o_1, .ref o_3, .ref o_5, .ref o_7, .int 9999, .int 0, .int 0])), (o_1, .inr (4, [.int 0, .ref e0, .int 0])), (o_3, .inr (4, [.int 0, .ref e0, .int 0])), (o_5, .inr (10, [.int 10, .int 0, .int 0])), (o_7, .inl (cA_8, 40, .inr (.inl (fun _ => 0))))] := hD
  refine lv_aload_n hx hb dX7_init_52 rfl (lv_at hl 0 rfl) ?_
  refine lv_iconst (v := 0) hx hb dX7_init_53 (by decide) ?_
  refine va_put (D := D) (ci := 11) (v := .int 0) (ty := .int) (C := RX7) (T := TX7) (N := 7) hx hb hts iwX7 tyX7 tyX7_ok nmX7 hown hK hP hD hS 0 rfl rfl 5 (by decide) (hts _ q103) (fun _ h9 => h9) rfl (by decide +kernel) rfl rfl (Nat.le_of_ble_eq_true rfl) dX7_init_54 (fun H locs hP hD hS => ?_)
  have hP : va_P D vwCl [(h, .inr (11, [.ref o_1, .ref o_3, .ref o_5, .ref o_7, .int 9999, .int 0, .int 0])), (o_1, .inr (4, [.int 0, .ref e0, .int 0])), (o_3, .inr (4, [.int 0, .ref e0, .int 0])), (o_5, .inr (10, [.int 10, .int 0, .int 0])), (o_7, .inl (cA_8, 40, .inr (.inl (fun _ => 0))))] H := hP
  have hD : va_D A [(h, .inr (11, [.ref o_1, .ref o_3, .ref o_5, .ref o_7, .int 9999, .int 0, .int 0])), (o_1, .inr (4, [.int 0, .ref e0, .int 0])), (o_3, .inr (4, [.int 0, .ref e0, .int 0])), (o_5, .inr (10, [.int 10, .int 0, .int 0])), (o_7, .inl (cA_8, 40, .inr (.inl (fun _ => 0))))] := hD
  refine lv_aload_n hx hb dX7_init_57 rfl (lv_at hl 0 rfl) ?_
  refine lv_iconst (v := 0) hx hb dX7_init_58 (by decide) ?_
  refine va_put (D := D) (ci := 11) (v := .int 0) (ty := .int) (C := RX7) (T := TX7) (N := 7) hx hb hts iwX7 tyX7 tyX7_ok nmX7 hown hK hP hD hS 0 rfl rfl 6 (by decide) (hts _ q104) (fun _ h9 => h9) rfl (by decide +kernel) rfl rfl (Nat.le_of_ble_eq_true rfl) dX7_init_59 (fun H locs hP hD hS => ?_)
  have hP : va_P D vwCl [(h, .inr (11, [.ref o_1, .ref o_3, .ref o_5, .ref o_7, .int 9999, .int 0, .int 0])), (o_1, .inr (4, [.int 0, .ref e0, .int 0])), (o_3, .inr (4, [.int 0, .ref e0, .int 0])), (o_5, .inr (10, [.int 10, .int 0, .int 0])), (o_7, .inl (cA_8, 40, .inr (.inl (fun _ => 0))))] H := hP
  have hD : va_D A [(h, .inr (11, [.ref o_1, .ref o_3, .ref o_5, .ref o_7, .int 9999, .int 0, .int 0])), (o_1, .inr (4, [.int 0, .ref e0, .int 0])), (o_3, .inr (4, [.int 0, .ref e0, .int 0])), (o_5, .inr (10, [.int 10, .int 0, .int 0])), (o_7, .inl (cA_8, 40, .inr (.inl (fun _ => 0))))] := hD
  have hP9 := hP.sub (ws' := [(h, .inr (11, [.ref o_1, .ref o_3, .ref o_5, .ref o_7, .int 9999, .int 0, .int 0])), (o_1, .inr (4, [.int 0, .ref e0, .int 0])), (o_3, .inr (4, [.int 0, .ref e0, .int 0])), (o_5, .inr (10, [.int 10, .int 0, .int 0]))]) [0, 1, 2, 3] rfl
  have hD9 := hD.sub (ws' := [(h, .inr (11, [.ref o_1, .ref o_3, .ref o_5, .ref o_7, .int 9999, .int 0, .int 0])), (o_1, .inr (4, [.int 0, .ref e0, .int 0])), (o_3, .inr (4, [.int 0, .ref e0, .int 0])), (o_5, .inr (10, [.int 10, .int 0, .int 0]))]) [0, 1, 2, 3] (by decide) rfl
  refine W.widen (k := 4) (n := 49) (Nat.le_of_ble_eq_true rfl) (Nat.le_of_ble_eq_true rfl) ?_
  exact W.vret hx hb hr (fun t ht hW => ⟨⟨(o_1, o_3, o_5, o_7), rfl, trivial, by rw [ht]; exact hP9, hD9⟩, hS.F ht⟩) hS.2.2 dX7_init_62
set_option maxHeartbeats 4000000 in
set_option maxRecDepth 100000 in
/-- LysimeterFieldModel(): a fresh object -/
theorem k_LM_init (l : Launch) (D : va_G) (e0 : Nat) (h : Nat) (sz : Nat) : Met l yX12_init (wsA yX12_init cX12_init 1 none) ({ frames := 4, cells := 2, slots := 8, locals := 72 }) (va_Pc [.ref h] (EW e0 D [] [(h, .inr (16, [.int 0, .null, .null, .int 0]))] sz)) (va_Qv (fun (_ : Nat × Nat) => True) (fun u t => va_P D vwCl [(h, .inr (16, [.int 0, .ref u.1, .ref u.2, .int 0])), (u.1, .inr (4, [.int 0, .ref e0, .int 0])), (u.2, .inr (15, [.int 10, .int 0, .int 0, .int 9999, .int 0]))] t.heap ∧ va_D (va_A [(h, .inr (16, [.int 0, .null, .null, .int 0]))] sz) [(h, .inr (16, [.int 0, .ref u.1, .ref u.2, .int 0])), (u.1, .inr (4, [.int 0, .ref e0, .int 0])), (u.2, .inr (15, [.int 10, .int 0, .int 0, .int 9999, .int 0]))]) (va_A [(h, .inr (16, [.int 0, .null, .null, .int 0]))] sz)) 2 8 (va_A [(h, .inr (16, [.int 0, .null, .null, .int 0]))] sz) := by
  refine Met.ofW (cc := cX12_init) (maxL := 1) (ret := none) (by decide) rfl ?_
  intro p e s m args below meth c s₁ B hml hv
  obtain ⟨rfl, ⟨hsz, hP, hK, hD0, hG, hZ0⟩, hZd0⟩ := hv
  have hx := B.exec
  have hb := B.bytes
  have hr := B.returns
  have hts0 := atoms_spec (ws := wsA yX12_init cX12_init 1 none) B.pre
  have hts : ∀ w ∈ lw_all, w.before _ s = true := fun w h => hts0 w (List.mem_cons_of_mem _ h)
  have hown : s.vm.findClass RX12 = some m.cls := findClass_of_methodNamed B.named
  have hlocks := B.notSynchronized
  have hin : meth.name = "<init>" := (name_of_methodNamed B.named B.method).1
  subst hsz
  have hZ := ZZ.wide hP hZ0
  have hZd := ZD.wide hP hZd0
  have hD := hD0.self (sz := s.heap.size)
  generalize hAe : va_A [(h, .inr (16, [.int 0, .null, .null, .int 0]))] s.heap.size = A at hD hZ hZd ⊢
  have hA : ∀ q : Nat, s.heap.size ≤ q → A q := fun q h => by rw [← hAe]; exact Or.inr h
  have hS : va_S A s.heap s.heap [] := va_S.rf
  have hP : va_P D vwCl [(h, .inr (16, [.int 0, .null, .null, .int 0]))] s.heap := hP
  have hl := lv_entry ([.ref h]) (n := 1) (Nat.le_of_ble_eq_true rfl)
  rw [lg_entry_eq]
  generalize (lg_sl ([.ref h]) ++ List.replicate (1 - (lg_sl ([.ref h])).length) Slot.unset).toArray = ls at hl ⊢
  have hl : lv_has ls 1 [(0, .ref h)] := hl
  refine lv_aload_n hx hb dX12_init_0 rfl (lv_at hl 0 rfl) ?_
  refine W.objInit hx hb hown (hts _ q1130) (hts _ q48) (hts _ q49) rfl (by rw [hml]; exact hl.1) rfl dX12_init_1 (Nat.le_of_ble_eq_true rfl) (Nat.le_of_ble_eq_true rfl) ?_
  refine W.eq (g2 := F0 m 4 ls []) rfl ?_
  refine lv_aload_n hx hb dX12_init_4 rfl (lv_at hl 0 rfl) ?_
  refine va_new (ci := 4) (fs := [.int 0, .null, .int 0]) (C := RJx4a65c) (T := TJx4a65c) (N := 3) hx hb hts iwJx4a65c tyJx4a65c tyJx4a65c_ok hown (hts _ q1131) (hts _ q51) (hts _ q4) hK hP hD hS hA rfl (fun j hj => by rcases (show j = 0 ∨ j = 1 ∨ j = 2 by omega) with rfl | rfl | rfl <;> rfl) (Nat.le_of_ble_eq_true rfl) (Nat.le_of_ble_eq_true rfl) dX12_init_5 (fun o_1 H hP hD hS => ?_)
  have hP : va_P D vwCl [(h, .inr (16, [.int 0, .null, .null, .int 0])), (o_1, .inr (4, [.int 0, .null, .int 0]))] H := hP
  have hD : va_D A [(h, .inr (16, [.int 0, .null, .null, .int 0])), (o_1, .inr (4, [.int 0, .null, .int 0]))] := hD
  refine lv_dup hx hb dX12_init_8 rfl ?_
  have hPc := hP.sub (ws' := [(o_1, .inr (4, [.int 0, .null, .int 0]))]) [1] rfl
  have hDc := hD.sub (ws' := [(o_1, .inr (4, [.int 0, .null, .int 0]))]) [1] (by decide) rfl
  have hKc := hK.sub (tys' := []) [] rfl
  have hFc := va_free (wc := [(o_1, .inr (4, [.int 0, .null, .int 0]))]) hD hS hA [1] rfl
  refine va_callv (va_runI (As := []) (rest := [.ref o_1, .ref h]) ⟨hx, hb, hml, hown, hts⟩ (k_AL_init l D e0 o_1 0 (.null) 0 H.size) (cwI 0 hts (gA q54) rfl rfl rfl (hts _ q4) (hts _ q1132) (hts _ q53) rfl (by decide +kernel) ⟨Nat.le_of_ble_eq_true rfl, Nat.le_of_ble_eq_true rfl⟩) ⟨EW.fb, fun U hU hW => ⟨rfl, EW.at hPc hKc hDc hG (hZ.no hS) (ZD.no hZd hS) U hU hW⟩⟩ rfl rfl hl.1 rfl (lv_room (Nat.le_of_ble_eq_true rfl)) dX12_init_9 ⟨Nat.le_of_ble_eq_true rfl, Nat.le_of_ble_eq_true rfl⟩) hS (fun q _ h => hFc q h) hFc (fun u t H1 locs ht hvm hw hB hz1 hk1 hS => ?_)
  obtain ⟨hP1, hD1⟩ := hB
  rw [ht] at hP1
  obtain ⟨hP, hD⟩ := va_join (wr := [(h, .inr (16, [.int 0, .null, .null, .int 0]))]) (w1 := [(o_1, .inr (4, [.int 0, .ref e0, .int 0]))]) hP hD [1] [0] rfl rfl (by decide) (by decide) hk1 hFc hP1 hD1
  generalize H1 = H at hP hS ⊢
  have hP : va_P D vwCl [(h, .inr (16, [.int 0, .null, .null, .int 0])), (o_1, .inr (4, [.int 0, .ref e0, .int 0]))] H := hP
  have hD : va_D A [(h, .inr (16, [.int 0, .null, .null, .int 0])), (o_1, .inr (4, [.int 0, .ref e0, .int 0]))] := hD
  refine va_putF (D := D) (ci := 16) (v := .ref o_1) (ty := (.object "java/util/ArrayList")) (C := RX12) (T := TX12) (N := 4) hx hb hts iwX12 tyX12 tyX12_ok nmX12 hown hK hP hD hS 0 rfl rfl 1 (by decide) (hts _ q1162) (fun _ h9 => h9) rfl hin rfl (by decide +kernel) rfl rfl (Nat.le_of_ble_eq_true rfl) dX12_init_12 (fun H locs hP hD hS => ?_)
  have hP : va_P D vwCl [(h, .inr (16, [.int 0, .ref o_1, .null, .int 0])), (o_1, .inr (4, [.int 0, .ref e0, .int 0]))] H := hP
  have hD : va_D A [(h, .inr (16, [.int 0, .ref o_1, .null, .int 0])), (o_1, .inr (4, [.int 0, .ref e0, .int 0]))] := hD
  refine lv_aload_n hx hb dX12_init_15 rfl (lv_at hl 0 rfl) ?_
  refine va_new (ci := 15) (fs := [.int 0, .int 0, .int 0, .int 0, .int 0]) (C := RX11) (T := TX11) (N := 5) hx hb hts iwX11 tyX11 tyX11_ok hown (hts _ q1133) (hts _ q1134) (hts _ q7) hK hP hD hS hA rfl (fun j hj => by rcases (show j = 0 ∨ j = 1 ∨ j = 2 ∨ j = 3 ∨ j = 4 by omega) with rfl | rfl | rfl | rfl | rfl <;> rfl) (Nat.le_of_ble_eq_true rfl) (Nat.le_of_ble_eq_true rfl) dX12_init_16 (fun o_3 H hP hD hS => ?_)
  have hP : va_P D vwCl [(h, .inr (16, [.int 0, .ref o_1, .null, .int 0])), (o_1, .inr (4, [.int 0, .ref e0, .int 0])), (o_3, .inr (15, [.int 0, .int 0, .int 0, .int 0, .int 0]))] H := hP
  have hD : va_D A [(h, .inr (16, [.int 0, .ref o_1, .null, .int 0])), (o_1, .inr (4, [.int 0, .ref e0, .int 0])), (o_3, .inr (15, [.int 0, .int 0, .int 0, .int 0, .int 0]))] := hD
  refine lv_dup hx hb dX12_init_19 rfl ?_
  have hPc := hP.sub (ws' := [(o_3, .inr (15, [.int 0, .int 0, .int 0, .int 0, .int 0]))]) [2] rfl
  have hDc := hD.sub (ws' := [(o_3, .inr (15, [.int 0, .int 0, .int 0, .int 0, .int 0]))]) [2] (by decide) rfl
  have hKc := hK.sub (tys' := []) [] rfl
  have hFc := va_free (wc := [(o_3, .inr (15, [.int 0, .int 0, .int 0, .int 0, .int 0]))]) hD hS hA [2] rfl
  refine va_callv (va_runIN (As := []) (rest := [.ref o_3, .ref h]) ⟨hx, hb, hml, hown, hts⟩ (k_Sk_init l D o_3 (.int 0) (.int 0) (.int 0) (.int 0) (.int 0) H.size) ⟨va_cnB 0 hts (gA q1137) rfl rfl rfl (hG.nw t1135) (hts _ q7) (by decide +kernel) ⟨Nat.le_of_ble_eq_true rfl, Nat.le_of_ble_eq_true rfl⟩, rfl, (hts _ q1136)⟩ ⟨EV.fb, fun U hU hW => ⟨rfl, EV.at hPc hKc hDc hG (hZ.no hS) U hU hW⟩⟩ rfl rfl hl.1 rfl (lv_room (Nat.le_of_ble_eq_true rfl)) dX12_init_20 ⟨Nat.le_of_ble_eq_true rfl, Nat.le_of_ble_eq_true rfl⟩) hS (fun q _ h => hFc q h) hFc (fun u t H1 locs ht hvm hw hB hz1 hk1 hS => ?_)
  obtain ⟨hP1, hD1⟩ := hB
  rw [ht] at hP1
  obtain ⟨hP, hD⟩ := va_join (wr := [(h, .inr (16, [.int 0, .ref o_1, .null, .int 0])), (o_1, .inr (4, [.int 0, .ref e0, .int 0]))]) (w1 := [(o_3, .inr (15, [.int 10, .int 0, .int 0, .int 9999, .int 0]))]) hP hD [2] [0, 1] rfl rfl (by decide) (by decide) hk1 hFc hP1 hD1
  generalize H1 = H at hP hS ⊢
  have hP : va_P D vwCl [(h, .inr (16, [.int 0, .ref o_1, .null, .int 0])), (o_1, .inr (4, [.int 0, .ref e0, .int 0])), (o_3, .inr (15, [.int 10, .int 0, .int 0, .int 9999, .int 0]))] H := hP
  have hD : va_D A [(h, .inr (16, [.int 0, .ref o_1, .null, .int 0])), (o_1, .inr (4, [.int 0, .ref e0, .int 0])), (o_3, .inr (15, [.int 10, .int 0, .int 0, .int 9999, .int 0]))] := hD
  refine va_putF (D := D) (ci := 16) (v := .ref o_3) (ty := (.object "LysimeterFieldModel$Sky")) (C := RX12) (T := TX12) (N := 4) hx hb hts iwX12 tyX12 tyX12_ok nmX12 hown hK hP hD hS 0 rfl rfl 2 (by decide) (hts _ q1163) (fun _ h9 => h9) rfl hin rfl (by decide +kernel) rfl rfl (Nat.le_of_ble_eq_true rfl) dX12_init_23 (fun H locs hP hD hS => ?_)
  have hP : va_P D vwCl [(h, .inr (16, [.int 0, .ref o_1, .ref o_3, .int 0])), (o_1, .inr (4, [.int 0, .ref e0, .int 0])), (o_3, .inr (15, [.int 10, .int 0, .int 0, .int 9999, .int 0]))] H := hP
  have hD : va_D A [(h, .inr (16, [.int 0, .ref o_1, .ref o_3, .int 0])), (o_1, .inr (4, [.int 0, .ref e0, .int 0])), (o_3, .inr (15, [.int 10, .int 0, .int 0, .int 9999, .int 0]))] := hD
  refine lv_aload_n hx hb dX12_init_26 rfl (lv_at hl 0 rfl) ?_
  refine lv_iconst (v := 0) hx hb dX12_init_27 (by decide) ?_
  refine va_put (D := D) (ci := 16) (v := .int 0) (ty := .int) (C := RX12) (T := TX12) (N := 4) hx hb hts iwX12 tyX12 tyX12_ok nmX12 hown hK hP hD hS 0 rfl rfl 0 (by decide) (hts _ q1161) (fun _ h9 => h9) rfl (by decide +kernel) rfl rfl (Nat.le_of_ble_eq_true rfl) dX12_init_28 (fun H locs hP hD hS => ?_)
  have hP : va_P D vwCl [(h, .inr (16, [.int 0, .ref o_1, .ref o_3, .int 0])), (o_1, .inr (4, [.int 0, .ref e0, .int 0])), (o_3, .inr (15, [.int 10, .int 0, .int 0, .int 9999, .int 0]))] H := hP
  have hD : va_D A [(h, .inr (16, [.int 0, .ref o_1, .ref o_3, .int 0])), (o_1, .inr (4, [.int 0, .ref e0, .int 0])), (o_3, .inr (15, [.int 10, .int 0, .int 0, .int 9999, .int 0]))] := hD
  have hP9 := hP.sub (ws' := [(h, .inr (16, [.int 0, .ref o_1, .ref o_3, .int 0])), (o_1, .inr (4, [.int 0, .ref e0, .int 0])), (o_3, .inr (15, [.int 10, .int 0, .int 0, .int 9999, .int 0]))]) [0, 1, 2] rfl
  have hD9 := hD.sub (ws' := [(h, .inr (16, [.int 0, .ref o_1, .ref o_3, .int 0])), (o_1, .inr (4, [.int 0, .ref e0, .int 0])), (o_3, .inr (15, [.int 10, .int 0, .int 0, .int 9999, .int 0]))]) [0, 1, 2] (by decide) rfl
  refine W.widen (k := 2) (n := 8) (Nat.le_of_ble_eq_true rfl) (Nat.le_of_ble_eq_true rfl) ?_
  exact W.vret hx hb hr (fun t ht hW => ⟨⟨(o_1, o_3), rfl, trivial, by rw [ht]; exact hP9, hD9⟩, hS.F ht⟩) hS.2.2 dX12_init_31
