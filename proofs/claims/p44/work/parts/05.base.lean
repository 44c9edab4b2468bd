/-! ===== one list of words for all methods; the words of nests and String constants apart ===== -/
def lw_all : List Cond := lw_tbl.filter goodWord
theorem al_hts {args : Array Value} {s : State} (h : ∀ w ∈ lw_tbl, w.before args s = true) : ∀ w ∈ lw_all, w.before args s = true := fun w hw => h w (List.mem_filter.mp hw).1
theorem al_in {i : Nat} {w : Cond} (h : tables_1[i]? = some w) (g : goodWord w = true) : w ∈ lw_all := List.mem_filter.mpr ⟨List.mem_append_right _ (List.mem_of_getElem? h), g⟩
theorem al_sel {i : Nat} {w : Cond} (h : (k2_sels lw_privs)[i]? = some w) (g : goodWord w = true) : w ∈ lw_all := List.mem_filter.mpr ⟨List.mem_append_left _ (List.mem_of_getElem? h), g⟩
theorem al_ok {w : Cond} (h : w ∈ lw_all) : (w.onTables && w.keeps) = true ∨ ∃ ty, w = .arrayClass ty := good_of_word (List.mem_filter.mp h).2
def wsA (y : MethodName) (b : ByteArray) (n : Nat) (r : Option FieldType) : List Cond := .code y b n r :: lw_all
def wsH (y : MethodName) (b : ByteArray) (n : Nat) (r : Option FieldType) (hh : List (Nat × Nat × Nat × Nat)) : List Cond := .codeWith y b n r hh :: lw_all
theorem gA {y : MethodName} {b : ByteArray} {n : Nat} {r : Option FieldType} (h : Cond.code y b n r ∈ lw_all) : GoodIn lw_all (wsA y b n r) := fun w hw => by
  have hm : w ∈ lw_all := (List.mem_cons.mp hw).elim (fun e => by rw [e]; exact h) (fun z => z)
  exact ⟨hm, al_ok hm⟩
theorem gH {y : MethodName} {b : ByteArray} {n : Nat} {r : Option FieldType} {hh : List (Nat × Nat × Nat × Nat)} (h : Cond.codeWith y b n r hh ∈ lw_all) : GoodIn lw_all (wsH y b n r hh) := fun w hw => by
  have hm : w ∈ lw_all := (List.mem_cons.mp hw).elim (fun e => by rw [e]; exact h) (fun z => z)
  exact ⟨hm, al_ok hm⟩
theorem gL {a : List Cond} {ws : List Cond} (ha : ∀ w ∈ a, w ∈ lw_all) (h : GoodIn lw_all ws) : GoodIn lw_all (a ++ ws) := fun w hw => (List.mem_append.mp hw).elim (fun z => ⟨ha w z, al_ok (ha w z)⟩) (h w)
theorem m3 {a b c : Cond} (h1 : a ∈ lw_all) (h2 : b ∈ lw_all) (h3 : c ∈ lw_all) : ∀ w ∈ [a, b, c], w ∈ lw_all := fun w h => by
  rcases List.mem_cons.mp h with e | h
  · rw [e]; exact h1
  rcases List.mem_cons.mp h with e | h
  · rw [e]; exact h2
  rcases List.mem_cons.mp h with e | h
  · rw [e]; exact h3
  exact absurd h List.not_mem_nil
theorem m4 {a b c d : Cond} (h1 : a ∈ lw_all) (h2 : b ∈ lw_all) (h3 : c ∈ lw_all) (h4 : d ∈ lw_all) : ∀ w ∈ [a, b, c, d], w ∈ lw_all := fun w h => by
  rcases List.mem_cons.mp h with e | h
  · rw [e]; exact h1
  exact m3 h2 h3 h4 w h
theorem gV {own C : String} {idx : Nat} {y : MethodName} {ws : List Cond} (h1 : Cond.methodLink own idx y ∈ lw_all) (h2 : Cond.instanceMethod y ∈ lw_all) (h3 : Cond.selects C y y ∈ lw_all) (h4 : Cond.initialized C ∈ lw_all) (h5 : GoodIn lw_all ws) : GoodIn lw_all (wsV own idx C y ws) := gL (m4 h1 h2 h3 h4) h5
theorem gS {own : String} {idx : Nat} {y : MethodName} {ws : List Cond} (h1 : Cond.methodLink own idx y ∈ lw_all) (h2 : Cond.static y ∈ lw_all) (h3 : Cond.initialized y.cls ∈ lw_all) (h5 : GoodIn lw_all ws) : GoodIn lw_all (va_wsS own idx y ws) := gL (m3 h1 h2 h3) h5
/-- words that a contract's words can't hold: links within a nest, String constants -/
def al_st : Cond → Bool
  | .fieldLinkNest _ _ _ _ _ _ => true
  | .methodLinkNest _ _ _ _ => true
  | .stringRef _ _ _ => true
  | .declares _ => true
  | .castable _ _ => true
  | .publicMethod _ => true
  | .unhidden _ _ _ => true
  | .interfaceMethod a b _ _ => decide (a = "java/util/Iterator") && decide (b = "java/util/Iterator")
  | _ => false
def lw_st : List Cond := tables_1.filter al_st
theorem al_stin {i : Nat} {w : Cond} (h : tables_1[i]? = some w) (g : al_st w = true) : w ∈ lw_st := List.mem_filter.mpr ⟨List.mem_of_getElem? h, g⟩
/-- they hold -/
def GE (U : State) : Prop := ∀ w ∈ lw_st, w.before #[] U = true
theorem al_stT {w : Cond} (g : al_st w = true) : w.onTables = true ∨ ∃ o k t, w = .stringRef o k t := by cases w <;> first | exact Or.inl rfl | exact Or.inr ⟨_, _, _, rfl⟩ | (simp [al_st] at g)
theorem al_stV {w : Cond} (g : al_st w = true) {A A' : Array Value} {u U : State} (hv : u.vm = U.vm) (h : w.before A u = true) : w.before A' U = true := by
  rcases al_stT g with g | ⟨o, k, t, rfl⟩
  · exact va_tabs g hv h
  · have h1 := h
    simp only [Cond.before, Cond.holds, Cond.value, State.names, State.poolOf?, State.resolvedAt?, hv] at h1 ⊢
    exact h1
theorem GE.same {u U : State} (hv : u.vm = U.vm) (h : GE u) : GE U := fun w hw => al_stV (List.mem_filter.mp hw).2 hv (h w hw)
theorem GE.warm {s U : State} (hW : s.WarmedH U.vm) (h : GE s) : GE U := fun w hw => by
  have g := (List.mem_filter.mp hw).2
  have hb := h w hw
  cases w <;> first
    | exact va_Nw.warmF hW hb
    | exact va_Nw.warmM hW hb
    | exact al_stV rfl (rfl : (s.setVm U.vm).vm = U.vm) (Cond.stringRef_warmed hW hb)
    | exact va_tabs rfl (rfl : (s.setVm U.vm).vm = U.vm) (Cond.before_shiftedFace (State.Shifted.of_warmed hW) _ rfl hb)
    | (simp only [al_st, Bool.and_eq_true, decide_eq_true_eq] at g; obtain ⟨rfl, rfl⟩ := g; exact va_tabs rfl (rfl : (s.setVm U.vm).vm = U.vm) (Cond.before_shiftedFace (State.Shifted.of_warmed hW) _ rfl hb))
    | (simp [al_st] at g)
theorem GE.of {args : Array Value} {s : State} (h : ∀ w ∈ lw_tbl, w.before args s = true) : GE s := fun w hw => al_stV (List.mem_filter.mp hw).2 rfl (h w (List.mem_append_right _ (List.mem_filter.mp hw).1))
theorem GE.nw {s : State} {w : Cond} (h : GE s) (hw : w ∈ lw_st) : va_Nw w s := h w hw
theorem GE.use {s : State} {w : Cond} {args : Array Value} (h : GE s) (hw : w ∈ lw_st) : w.before args s = true := al_stV (List.mem_filter.mp hw).2 rfl (h w hw)
theorem GE.str {s : State} {own tx : String} {k : Nat} (h : GE s) (hw : Cond.stringRef own k tx ∈ lw_st) {m : ClassId} (hown : s.vm.findClass own = some m) : ∃ a, vk_R own k tx a s := by
  obtain ⟨-, -, -, a, -, -, -, -, -, h6⟩ := Cond.stringRef_spec (args := #[]) (first := s) (o := none) (idx := []) hown (h _ hw)
  exact ⟨a, h _ hw, h6⟩
/-- the two statics that a throw reads -/
def ZZ (A : Nat → Prop) (U : State) (H : Heap) : Prop := vx_Zq Bundle.tN "UNASSIGNED_STACK" Bundle.steD A U H ∧ vx_Zq Bundle.tN "SUPPRESSED_SENTINEL" Bundle.listD A U H
theorem ZZ.moved {A : Nat → Prop} {u U : State} {H : Heap} (hvm : u.vm.Alike U.vm) (h : ZZ A u H) : ZZ A U H := ⟨h.1.moved hvm, h.2.moved hvm⟩
theorem ZZ.kept {A : Nat → Prop} {U : State} {H H1 : Heap} (h : ZZ A U H) (hq : ∀ a : Nat, a < H.size → ¬ A a → H1[a]? = H[a]?) : ZZ A U H1 := ⟨h.1.kept hq, h.2.kept hq⟩
theorem ZZ.narrow {A B : Nat → Prop} {U : State} {H : Heap} (h : ZZ A U H) (hAB : ∀ q, B q → A q) : ZZ B U H := ⟨h.1.narrow hAB, h.2.narrow hAB⟩
abbrev NoA : Nat → Prop := fun _ => False
theorem ZZ.no {A : Nat → Prop} {s : State} {H : Heap} {locs : List Loc} (h : ZZ A s s.heap) (hS : va_S A s.heap H locs) : ZZ NoA s H := (h.kept hS.2.1).narrow (fun _ q => q.elim)
theorem at_not {D : va_G} {cl : List vw_C} {q : Nat × va_E} {H : Heap} (h : va_at D cl q H) {cell : Cell} (hc : H[q.1]? = some cell) : cell.vm.isStatics = false := by
  obtain ⟨a, e⟩ := q
  cases e with
  | inl x =>
    have h1 : H[a]? = some (vp_cell x.1 x.2) := h
    have h2 : cell = vp_cell x.1 x.2 := Option.some.inj (hc.symm.trans h1)
    rw [h2]
    obtain ⟨c, n, f⟩ := x
    rcases f with f | f | f | f | f <;> rfl
  | inr o =>
    obtain ⟨r, h1, cell2, h2, -, h4, -⟩ := h
    have h5 : cell = cell2 := Option.some.inj (hc.symm.trans h2)
    rw [h5, h4]
    rfl
theorem at_notA {D : va_G} {cl : List vw_C} {Wd : va_W} {U : State} (hP : va_P D cl Wd U.heap) {a : Nat} {cell : Cell} (hc : U.heap[a]? = some cell) (hs : cell.vm.isStatics = true) : ¬ va_A Wd U.heap.size a := by
  rintro (⟨k, e, h⟩ | h)
  · have := at_not (hP k _ h) hc
    rw [hs] at this
    cases this
  · exact absurd (Array.getElem?_eq_some_iff.mp hc).1 (by omega)
theorem Z_wide {C n d : String} {v : Value} {D : va_G} {cl : List vw_C} {Wd : va_W} {U : State} (hP : va_P D cl Wd U.heap) (h : va_Z C n d v NoA U U.heap) : va_Z C n d v (va_A Wd U.heap.size) U U.heap := by
  obtain ⟨cf, kf, fi, f, a, cell, h1, h2, h3, h4, h5, h6, h7, -⟩ := h
  exact ⟨cf, kf, fi, f, a, cell, h1, h2, h3, h4, h5, h6, h7, at_notA hP h5 h6⟩
theorem Zq_wide {C n d : String} {D : va_G} {cl : List vw_C} {Wd : va_W} {U : State} (hP : va_P D cl Wd U.heap) (h : va_Zq C n d NoA U U.heap) : va_Zq C n d (va_A Wd U.heap.size) U U.heap := by
  rcases h with h | ⟨t, h⟩
  · exact Or.inl (Z_wide hP h)
  · exact Or.inr ⟨t, Z_wide hP h⟩
theorem L_wide {C n d : String} {D : va_G} {cl : List vw_C} {Wd : va_W} {U : State} (hP : va_P D cl Wd U.heap) (h : vx_L C n d NoA U U.heap) : vx_L C n d (va_A Wd U.heap.size) U U.heap := by
  obtain ⟨c, k, i, f, a, cell, h1, h2, h3, h4, h5, h6, h7, h8, h9, -⟩ := h
  exact ⟨c, k, i, f, a, cell, h1, h2, h3, h4, h5, h6, h7, h8, h9, at_notA hP h5 h6⟩
theorem ZZ.wide {D : va_G} {cl : List vw_C} {Wd : va_W} {U : State} (hP : va_P D cl Wd U.heap) (h : ZZ NoA U U.heap) : ZZ (va_A Wd U.heap.size) U U.heap := ⟨⟨Zq_wide hP h.1.1, L_wide hP h.1.2⟩, ⟨Zq_wide hP h.2.1, L_wide hP h.2.2⟩⟩
/-- what a method of ours asks of its start: the world Wd, the tables, the words of nests and Strings, the statics -/
def EV (D : va_G) (tys : List (ClassId × FieldType)) (Wd : va_W) (sz : Nat) (U : State) : Prop := U.heap.size = sz ∧ va_P D vwCl Wd U.heap ∧ va_K D vwCl tys U ∧ va_D (fun _ => True) Wd ∧ GE U ∧ ZZ NoA U U.heap
theorem EV.blind {D : va_G} {tys : List (ClassId × FieldType)} {Wd : va_W} {sz : Nat} {U : State} {g : JFrame} {mk : MethodId} {a : Array Value} (h : EV D tys Wd sz U) : EV D tys Wd sz (U.calling g mk a) := by
  obtain ⟨h1, h2, h3, h4, h5, h6⟩ := h
  exact ⟨h1, h2, va_K.moved (u := U) (U := U.calling g mk a) (Vm.Alike.refl U.vm) h3, h4, GE.same (u := U) (U := U.calling g mk a) rfl h5, ZZ.moved (u := U) (U := U.calling g mk a) (Vm.Alike.refl U.vm) h6⟩
theorem EV.fb {D : va_G} {tys : List (ClassId × FieldType)} {Wd : va_W} {sz : Nat} {av : List Value} : FrameBlind (va_Pc av (EV D tys Wd sz)) := fun _ _ _ _ q => ⟨q.1, q.2.blind⟩
theorem EV.at {D : va_G} {tys : List (ClassId × FieldType)} {Wd : va_W} {A : Nat → Prop} {s : State} {H : Heap} (hP : va_P D vwCl Wd H) (hK : va_K D vwCl tys s) (hD : va_D A Wd) (hG : GE s) (hZ : ZZ NoA s H) (U : State) (hU : U.heap = H) (hW : s.WarmedH U.vm) : EV D tys Wd H.size U :=
  ⟨by rw [hU], by rw [hU]; exact hP, va_K.moved hW.alike hK, hD.weaken (fun _ _ _ _ => trivial), GE.warm hW hG, by rw [hU]; exact ZZ.moved hW.alike hZ⟩
/-- a list of words, each a good one or one of those apart -/
def al_both (L : List Cond) : Bool := L.all (fun w => (decide (w ∈ tables_1) && al_st w) || (decide (w ∈ lw_tbl) && goodWord w))
theorem al_use {L : List Cond} (h : al_both L = true) {args : Array Value} {s : State} (hts : ∀ w ∈ lw_all, w.before args s = true) (hG : GE s) : ∀ w ∈ L, w.before args s = true := fun w hw => by
  have h1 := List.all_eq_true.mp h w hw
  simp only [Bool.or_eq_true, Bool.and_eq_true, decide_eq_true_eq] at h1
  rcases h1 with ⟨a, b⟩ | ⟨a, b⟩
  · exact hG.use (List.mem_filter.mpr ⟨a, b⟩)
  · exact hts w (List.mem_filter.mpr ⟨a, b⟩)
theorem al_all {L : List Cond} (h : L.all (fun w => decide (w ∈ lw_tbl) && goodWord w) = true) : ∀ w ∈ L, w ∈ lw_all := fun w hw => by
  have h1 := List.all_eq_true.mp h w hw
  simp only [Bool.and_eq_true, decide_eq_true_eq] at h1
  exact List.mem_filter.mpr h1
def xnR : List String := ["java/lang/RuntimeException", "java/lang/Exception"]
theorem F_of {A : Nat → Prop} {s t : State} {H : Heap} {locs : List Loc} (hS : va_S A s.heap H locs) (hz : H.size ≤ t.heap.size) (hk : ∀ q : Nat, q < H.size → t.heap[q]? = H[q]?) : va_F A s t := ⟨Nat.le_trans hS.1 hz, fun q h1 h2 => (hk q (Nat.lt_of_lt_of_le h1 hS.1)).trans (hS.2.1 q h1 h2)⟩
/-- a method that always throws, writes nothing old: what its contract says -/
abbrev QX : Array Value → State → Outcome → State → Prop := va_Qi (fun (_ : Int32) (_ : Unit) => False) (fun _ _ => True) NoA
abbrev XX (E : String) : String → State → State → Prop := vx_X (fun _ : Unit => True) (fun E2 _ _ => E2 = E) NoA
theorem P_kept {D : va_G} {cl : List vw_C} {ws : va_W} {H H1 : Heap} (hP : va_P D cl ws H) (hk : ∀ q : Nat, q < H.size → ¬ NoA q → H1[q]? = H[q]?) : va_P D cl ws H1 := va_P.kept hP (fun k q h => hk q.1 ((hP k q h).lt) id)
/-- lo ≤ v ≤ hi, as the reference's 'in' answers it -/
def xin (v lo hi : Int64) : Int32 := if lo ≤ v ∧ v ≤ hi then 1 else 0
theorem xin_lo {v lo hi : Int64} (h : lg_cmp v lo < 0) : (0 : Int32) = xin v lo hi := (if_neg (fun z => absurd z.1 (Int64.not_le.mpr ((lg_cmp_lt v lo).mp h)))).symm
theorem xin_hi {v lo hi : Int64} (h : 0 < lg_cmp v hi) : (0 : Int32) = xin v lo hi := (if_neg (fun z => absurd z.2 (Int64.not_le.mpr ((lg_cmp_gt v hi).mp h)))).symm
theorem xin_ok {v lo hi : Int64} (h1 : ¬ lg_cmp v lo < 0) (h2 : ¬ 0 < lg_cmp v hi) : (1 : Int32) = xin v lo hi := (if_pos ⟨Int64.not_lt.mp (fun z => h1 ((lg_cmp_lt v lo).mpr z)), Int64.not_lt.mp (fun z => h2 ((lg_cmp_gt v hi).mpr z))⟩).symm
theorem xin_none (v : Int64) : xin v 0 ((0 - 1 : Int32).toInt64) = 0 := if_neg (fun z => absurd (Int64.le_trans z.1 z.2) (by decide))
