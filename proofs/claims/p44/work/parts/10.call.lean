/-! ===== answers, throws, calls ===== -/
noncomputable section
def i_ret (t : Nat) : OP := fun _ _ _ lo sk α nx k n => pV sk (fun v r => gB (isT t v) (match r with
  | [] => some (1, 0, some v, [], [], α, nx, k, n)
  | _ => none))
def i_retb : OP := fun _ _ _ lo sk α nx k n => pI sk (fun x r => gB (bB (eqI x 0) true (eqI x 1)) (match r with
  | [] => some (1, 0, some (.int x), [], [], α, nx, k, n)
  | _ => none))
def i_retv : OP := fun _ _ _ lo sk α nx k n => match sk with
  | [] => some (1, 0, none, [], [], α, nx, k, n)
  | _ => none
/-- new E(text) and its throw, out of the method -/
def i_thr (E : Nat) : OP := fun _ _ _ lo sk α nx k n => gB (Nat.ble (catS sk) 8) (some (2, E, none, [], [], α, nx, k + 1, n + 6))
/-- the first n of the stack, the deepest first -/
def pN {β : Type} : Nat → List Value → List Value → (List Value → List Value → Option β) → Option β := Nat.rec (motive := fun _ => List Value → List Value → (List Value → List Value → Option β) → Option β) (fun sk acc f => f acc sk) (fun _ ih sk acc f => List.rec (motive := fun _ => Option β) none (fun v r _ => ih r (v :: acc) f) sk)
/-- where a call of this place leaves an exception: its number, the local that takes it, the place behind -/
def hfd (hs : List (Nat × Nat × Nat)) (E : Nat) : Option (Nat × Nat) := match hs with
  | [] => none
  | h :: tl => bB (Nat.beq h.1 E) (some h.2) (hfd tl E)
/-- ho: none: an exception leaves the method; some hs: it is caught here, or nothing is said -/
def aft (ho : Option (List (Nat × Nat × Nat))) (jmp : Nat → KK) (nxt : KK) (lo r : List Value) (k n : Nat) (q : RS) : Option RS :=
  bB (Nat.beq q.1 1) (nxt lo (match q.2.2.1 with | some v => v :: r | none => r) (rA q) (rX q) (k + rK q) (n + rN q))
    (bB (Nat.beq q.1 2) (match ho with
      | some hs => oG (hfd hs q.2.1) (fun h => jmp h.2 (lst1 lo h.1 uns) [] (rA q) (rX q) (k + rK q) (n + rN q))
      | none => some (2, q.2.1, none, [], [], rA q, rX q, k + rK q, n + rN q)) none)
/-- a call of method y with n values -/
def i_cal (y n : Nat) (ho : Option (List (Nat × Nat × Nat))) : OP := fun cf jmp nxt lo sk α nx k m => pN n sk [] (fun as r => gB (Nat.ble (catS r) 8) (oG (cf y as α nx) (fun q => aft ho jmp nxt lo r k m q)))
/-- the same, the first value an object of number ci -/
def i_vir (ci y n : Nat) (ho : Option (List (Nat × Nat × Nat))) : OP := fun cf jmp nxt lo sk α nx k m => pN n sk [] (fun as r => pR as (fun a _ => oG (hget α a) (fun c => gB (Nat.beq c.1 ci) (gB (Nat.ble (catS r) 8) (oG (cf y as α nx) (fun q => aft ho jmp nxt lo r k m q))))))
end
theorem pN_some {β : Type} : ∀ {n : Nat} {sk acc : List Value} {f : List Value → List Value → Option β} {b : β}, pN n sk acc f = some b → ∃ as r, sk = as.reverse ++ r ∧ as.length = n ∧ f (as ++ acc) r = some b
  | 0, sk, acc, f, b, h => ⟨[], sk, rfl, rfl, h⟩
  | n + 1, [], acc, f, b, h => by cases h
  | n + 1, v :: t, acc, f, b, h => by
    have h : pN n t (v :: acc) f = some b := h
    obtain ⟨as, r, e1, e2, e3⟩ := pN_some h
    subst e1
    exact ⟨as ++ [v], r, by simp, by simp [e2], by simpa using e3⟩
section CALL1
variable {p : Program} {l : Launch} {e : Env} {R : Room} {s : State} {m : MethodId} {args : Array Value} {below : List Frame} {meth : Method} {c : Code} {H : Heap} {locs : List Loc} {cells slots : Nat} {Q : State → Prop}
/-- behind any call -/
theorem vx_callG {Qa : State → Outcome → State → Prop} {XC : String → State → State → Prop} {free : Addr → Prop} {A0 : Nat → Prop} {H0 : Heap} {pc mc ms : Nat} {ls : Array Slot} {st0 rest : List Value} (hr : vx_Run p l e R s m args below meth c H locs cells slots mc ms (F0 m pc ls st0) rest Qa XC free) (hS : va_S A0 H0 H locs) (hf : ∀ q, free q → A0 q)
    (hF : ∀ st oc t, Qa st oc t → va_F A0 st t) (hFX : ∀ E st t, XC E st t → va_F A0 st t)
    (kx : ∀ (E : String) (ce : Cell) (q9 : Addr) (st t : State) (H1 : Heap) (locs1 : List Loc), t.heap = H1 → XC E st t → va_S A0 H0 H1 locs1 → H1[q9]? = some ce → ce.vm = .none → s.vm.findClass E = some ce.cls → vx_W p l e R s m args below meth c H1 locs1 (cells + mc) (slots + ms) Q (F0 m pc ls rest) q9)
    (kk : ∀ (v : Option Value) (st t : State) (H1 : Heap) (locs1 : List Loc), t.heap = H1 → Qa st (.returned v) t → va_S A0 H0 H1 locs1 → W p l e R s m args below meth c H1 locs1 (cells + mc) (slots + ms) Q (F0 m (pc + 3) ls (v.toList ++ rest))) : W p l e R s m args below meth c H locs cells slots Q (F0 m pc ls st0) := by
  intro T hT X
  rcases hr T hT X with ⟨v, st₀, t, T', L, h0, X', hL, e1, e2, hq, st⟩ | ⟨q, st₀, t, T', L, E, ce, h0, X', hL, e1, e2, hq, hce, hcv, hcl, st⟩
  · obtain ⟨k1, k2, k3⟩ := vx_keep h0 e1 hS (fun _ _ z => z) hf hL (hF _ _ _ hq)
    obtain ⟨t2, a1, b1⟩ := kk v st₀ t T'.heap (locs ++ L) e1.symm hq k3 T' rfl X'
    exact ⟨t2, st t2 a1, b1⟩
  · obtain ⟨k1, k2, k3⟩ := vx_keep h0 e1 hS (fun _ _ z => z) hf hL (hFX _ _ _ hq)
    obtain ⟨t2, a1, b1⟩ := kx E ce q st₀ t T'.heap (locs ++ L) e1.symm hq k3 (by rw [e1]; exact hce) hcv hcl T' rfl X'
    exact ⟨t2, st.trans a1, b1⟩
end CALL1
section CALL2
variable {I : EVT} {M : MI} {C : List (Nat × OP)} {pc : Nat}
theorem HQ.use {Q : State → Prop} {G : GP} {ad0 : List Nat} {r : RS} {below : List Frame} {args : Array Value} {s : State} (h : HQ Q G ad0 r below args s) (hr : r.1 ≠ 0) : Q = vx_MQ below (QCr G ad0 r) (XCr G ad0 r) args s (rK r) (rN r) (OA (gb G)) := h hr
theorem ret_core {t : Nat} {pcx : Nat} (hex : ∀ {p : Program} {l : Launch} {e : Env} {R : Room} {s : State} {m : MethodId} {args : Array Value} {below : List Frame} {meth : Method} {c : Code} {H : Heap} {locs : List Loc} {cells slots : Nat} {Qc : Array Value → State → Outcome → State → Prop} {free : Addr → Prop} {v : Value} {ls : Array Slot}, CX M p l s m args meth c → isT t v = true → (∀ T : State, T.heap = H → s.WarmedH T.vm → Qc args s (.returned (some v)) T) → (∀ q ∈ locs, free q.base) → W p l e R s m args below meth c H locs cells slots (MQ below Qc args s cells slots free) (F0 m pc ls [v])) : OpS I M C pc pcx (i_ret t) := by
  intro d cf p l e R s m args below meth c Q G ad0 res jmp nxt lo sk α nx k n hC hE hR hQ hcf hn hj h
  obtain ⟨v, r, rfl, h1⟩ := pV_some h
  obtain ⟨hT, h2⟩ := gB_some h1
  cases r with
  | cons _ _ => cases h2
  | nil =>
    have h2 : some (1, 0, some v, [], [], α, nx, k, n) = some res := h2
    cases h2
    refine ⟨⟨Nat.le_refl k, Nat.le_refl n⟩, fun ad H locs ls rst hv => ?_⟩
    obtain ⟨a1, a2, a3, a4, a5, w, us, rfl, hw, a6⟩ := hv
    have a6 : us = [] := a6
    subst a6
    rw [hQ.use (by show (1 : Nat) ≠ 0; decide)]
    refine vx_ret ?_
    have hTw : isT t w = true := by
      cases v with
      | ref a =>
        obtain ⟨b, -, rfl⟩ := hw
        exact hT
      | _ => rw [show w = _ from hw]; exact hT
    exact hex hC hTw (fun T hT2 hW => ⟨⟨ad, some w, rfl, rfl, ⟨w, rfl, hw⟩, a1, a2, by rw [hT2]; exact a4⟩, a3.F hT2⟩) a3.2.2
theorem o_ireturn {npc : Nat} (hr : M.2.2.2.1 = some .int) (hd : decode M.2.1 pc = .ok (.ireturn, 1)) : OpS I M C pc npc (i_ret 0) := ret_core (fun hC hT hq hf => by obtain ⟨x, rfl⟩ := isT0 hT; exact W.iret hC.1 hC.2.1 (hC.2.2.2.1.trans hr) hq hf hd hC.2.2.2.2.2.2.1)
theorem o_lreturn {npc : Nat} (hr : M.2.2.2.1 = some .long) (hd : decode M.2.1 pc = .ok (.lreturn, 1)) : OpS I M C pc npc (i_ret 1) := ret_core (fun hC hT hq hf => by obtain ⟨x, rfl⟩ := isT1 hT; exact W.lret hC.1 hC.2.1 (hC.2.2.2.1.trans hr) hq hf hd hC.2.2.2.2.2.2.1)
theorem o_freturn {npc : Nat} (hr : M.2.2.2.1 = some .float) (hd : decode M.2.1 pc = .ok (.freturn, 1)) : OpS I M C pc npc (i_ret 3) := ret_core (fun hC hT hq hf => by obtain ⟨x, rfl⟩ := isT3 hT; exact W.fret hC.1 hC.2.1 (hC.2.2.2.1.trans hr) hq hf hd hC.2.2.2.2.2.2.1)
theorem o_areturn {npc : Nat} {rt : FieldType} (hr : M.2.2.2.1 = some rt) (hrt : (∃ n, rt = .object n) ∨ ∃ t, rt = .array t) (hd : decode M.2.1 pc = .ok (.areturn, 1)) : OpS I M C pc npc (i_ret 2) := ret_core (fun hC hT hq hf => W.aret hC.1 hC.2.1 (hC.2.2.2.1.trans hr) hrt (isT2 hT) hq hf hd hC.2.2.2.2.2.2.1)
theorem o_retb {npc : Nat} (hr : M.2.2.2.1 = some .boolean) (hd : decode M.2.1 pc = .ok (.ireturn, 1)) : OpS I M C pc npc i_retb := by
  intro d cf p l e R s m args below meth c Q G ad0 res jmp nxt lo sk α nx k n hC hE hR hQ hcf hn hj h
  obtain ⟨x, r, rfl, h1⟩ := pI_some h
  obtain ⟨hT, h2⟩ := gB_some h1
  cases r with
  | cons _ _ => cases h2
  | nil =>
    have h2 : some (1, 0, some (.int x), [], [], α, nx, k, n) = some res := h2
    cases h2
    refine ⟨⟨Nat.le_refl k, Nat.le_refl n⟩, fun ad H locs ls rst hv => ?_⟩
    obtain ⟨a1, a2, a3, a4, a5, w, us, rfl, hw, a6⟩ := hv
    have a6 : us = [] := a6
    have hw : w = .int x := hw
    subst a6 hw
    rw [hQ.use (by show (1 : Nat) ≠ 0; decide)]
    refine vx_ret ?_
    have hx : x = 0 ∨ x = 1 := by
      cases hz : eqI x 0 with
      | true => exact Or.inl (eqI_iff.mp hz)
      | false =>
        rw [hz] at hT
        exact Or.inr (eqI_iff.mp hT)
    exact W.zret hC.1 hC.2.1 (hC.2.2.2.1.trans hr) (by rcases hx with rfl | rfl <;> rfl) (fun T hT2 hW => ⟨⟨ad, some (.int x), rfl, rfl, ⟨_, rfl, rfl⟩, a1, a2, by rw [hT2]; exact a4⟩, a3.F hT2⟩) a3.2.2 hd hC.2.2.2.2.2.2.1
theorem o_retv {npc : Nat} (hr : M.2.2.2.1 = none) (hd : decode M.2.1 pc = .ok (.return_, 1)) : OpS I M C pc npc i_retv := by
  intro d cf p l e R s m args below meth c Q G ad0 res jmp nxt lo sk α nx k n hC hE hR hQ hcf hn hj h
  cases sk with
  | cons _ _ => cases h
  | nil =>
    have h : some (1, 0, none, [], [], α, nx, k, n) = some res := h
    cases h
    refine ⟨⟨Nat.le_refl k, Nat.le_refl n⟩, fun ad H locs ls rst hv => ?_⟩
    obtain ⟨a1, a2, a3, a4, a5, a6⟩ := hv
    have a6 : rst = [] := a6
    subst a6
    rw [hQ.use (by show (1 : Nat) ≠ 0; decide)]
    refine vx_ret ?_
    exact W.vret hC.1 hC.2.1 (hC.2.2.2.1.trans hr) (fun T hT2 hW => ⟨⟨ad, none, rfl, rfl, rfl, a1, a2, by rw [hT2]; exact a4⟩, a3.F hT2⟩) a3.2.2 hd hC.2.2.2.2.2.2.1
theorem RH.kept {D : va_G} {c3 : C3} {A : Nat → Prop} {ad : List Nat} {sp : Nat → Nat} {α : AH} {H H1 : Heap} (h : RH D c3 A ad sp α H) (hk : ∀ q : Nat, q < H.size → H1[q]? = H[q]?) : RH D c3 A ad sp α H1 := by
  obtain ⟨ws, h1, h2, h3, h4⟩ := h
  exact ⟨ws, h1, va_P.kept h2 (fun k q h => hk q.1 ((h2 k q h).lt)), h3, h4⟩
/-- a throw; the method has no handlers -/
theorem o_thr {npc E ik is ic : Nat} {text : String} {names : List String} (hn2 : names.length = 2) (hcls : Bundle.fit (xnm E) = true) (hnames : ∀ n ∈ names, Bundle.fit n = true) (hh : M.2.2.2.2 = [])
    (w1 : Cond.classLink M.1.cls ik (xnm E) ∈ lw_all) (w2 : Cond.initialized (xnm E) ∈ lw_all) (w3 : Cond.stringRef M.1.cls is text ∈ lw_st) (w4 : al_both (vx_atS M.1.cls ic (xnm E) names) = true) (w5 : ∀ w ∈ Cond.classLink M.1.cls ik (xnm E) :: Cond.initialized (xnm E) :: vx_atS M.1.cls ic (xnm E) names, vx_ot w = true)
    (d0 : decode M.2.1 pc = .ok (.new ik, 3)) (d3 : decode M.2.1 (pc + 3) = .ok (.dup, 1))
    (d4 : (decode M.2.1 (pc + 4) = .ok (.ldc is, 2) ∧ decode M.2.1 (pc + 6) = .ok (.invokespecial ic, 3) ∧ decode M.2.1 (pc + 9) = .ok (.athrow, 1)) ∨ (decode M.2.1 (pc + 4) = .ok (.ldc_w is, 3) ∧ decode M.2.1 (pc + 7) = .ok (.invokespecial ic, 3) ∧ decode M.2.1 (pc + 10) = .ok (.athrow, 1))) : OpS I M C pc npc (i_thr E) := by
  intro d cf p l e R s m args below meth c Q G ad0 res jmp nxt lo sk α nx k n hC hE hR hQ hcf hn hj h
  obtain ⟨h8, h1⟩ := gB_some h
  have h8 : catS sk ≤ 8 := Nat.le_of_ble_eq_true h8
  have h1 := Option.some.inj h1
  subst h1
  refine ⟨⟨Nat.le_succ k, Nat.le_add_right n 6⟩, fun ad H locs ls rst hv => ?_⟩
  obtain ⟨a1, a2, a3, a4, a5, a6⟩ := hv
  rw [hQ.use (by show (2 : Nat) ≠ 0; decide)]
  obtain ⟨c1, c2, c3, c4, c5, c6, c7, c8, c9, c10⟩ := hC
  obtain ⟨s1, s2, s3, s4, s5, s6, s7, s8, s9, s10, s11, s12⟩ := hE
  obtain ⟨sa, hstr⟩ := s2.str w3 c5
  have hR1 : d + 6 ≤ R.frames := hR.1
  have hR2 : 128 * (d + 1) + 100 ≤ R.locals := hR.2.1
  have hR3 : k + 1 ≤ R.cells := hR.2.2.1
  have hR4 : n + 6 ≤ R.slots := hR.2.2.2
  have hno : ∀ x ∈ c.exceptionTable.toList, False := by
    rw [c10, hh]
    intro x hx
    cases hx
  have hsum := a6.csum
  have hend : ∀ t : State, s.vm.Alike t.vm → H.size ≤ t.heap.size → (∀ q : Nat, q < H.size → t.heap[q]? = H[q]?) → XCr G ad0 (2, E, none, [], [], α, nx, k + 1, n + 6) (xnm E) s t := fun t _ hz hk =>
    ⟨⟨ad, rfl, rfl, a1, a2, a4.kept hk⟩, Nat.le_trans a3.1 hz, fun q h1 h2 => (hk q (Nat.lt_of_lt_of_le h1 a3.1)).trans (a3.2.1 q h1 h2)⟩
  rcases d4 with ⟨d4, d6, d9⟩ | ⟨d4, d7, d10⟩
  · exact vx_throwS (own := M.1.cls) (cls := xnm E) (text := text) (names := names) (ik := ik) (is := is) (ic := ic) (sa := sa) c1 c2 c8 c5 hcls hnames (c6 _ w1) (c6 _ w2) hstr (al_use w4 c6 s2) w5 s3.1 s3.2 a3 (by rw [c3]; exact a5.1) d0 d3 d4 d6 d9 (fun x hx => (hno x hx).elim) (by rw [hn2]; omega) (by rw [hn2, hsum]; omega) hR3 hR4 c7 hend (fun z hz => a3.2.2 z hz) (Nat.le_refl _) (Nat.le_refl _)
  · exact vx_throwSW (own := M.1.cls) (cls := xnm E) (text := text) (names := names) (ik := ik) (is := is) (ic := ic) (sa := sa) c1 c2 c8 c5 hcls hnames (c6 _ w1) (c6 _ w2) hstr (al_use w4 c6 s2) w5 s3.1 s3.2 a3 (by rw [c3]; exact a5.1) d0 d3 d4 d7 d10 (fun x hx => (hno x hx).elim) (by rw [hn2]; omega) (by rw [hn2, hsum]; omega) hR3 hR4 c7 hend (fun z hz => a3.2.2 z hz) (Nat.le_refl _) (Nat.le_refl _)
end CALL2
