/-! ===== the last instructions; runs as contracts; chains of runs ===== -/
noncomputable section
def i_fd : OP := fun _ _ nxt lo sk α nx k n => pF sk (fun y r => pF r (fun x r => gB (decide (FP.fdiv x y &&& 0x7fffffff ≤ 0x7f800000)) (nxt lo (.float (FP.fdiv x y) :: r) α nx k n)))
def i_obj : OP := fun _ _ nxt lo sk α nx k n => pR sk (fun _ r => gB (Nat.ble (catS r) 8) (nxt lo r α nx k n))
/-- an instruction that no run comes to -/
def i_bad : OP := fun _ _ _ _ _ _ _ _ _ => none
def i_dupx1 : OP := fun _ _ nxt lo sk α nx k n => pV sk (fun v r => pV r (fun u r => gB (bB (cat2 v) false true) (gB (bB (cat2 u) false true) (nxt lo (v :: u :: v :: r) α nx k n))))
def i_fc (op : CmpOp) : OP := fun _ _ nxt lo sk α nx k n => pF sk (fun y r => pF r (fun x r => nxt lo (.int (Op.cmpValue (FP.fcmp x y) op) :: r) α nx k n))
def tabF (a b : Int) (js : List Nat) (jd : Nat) (x : Int32) : Nat := bB (decide (x.toInt < a)) jd (bB (decide (b < x.toInt)) jd (match nth js (x.toInt - a).toNat with | some j => j | none => jd))
end
section LASTO
variable {I : EVT} {M : MI} {C : List (Nat × OP)} {pc : Nat}
theorem o_fdiv (hd : decode M.2.1 pc = .ok (.fdiv, 1)) : OpS I M C pc (pc + 1) i_fd := by
  refine OpS.stk I fun cf jmp nxt lo sk α nx k n res h => ?_
  obtain ⟨y, r, rfl, h1⟩ := pF_some h
  obtain ⟨x, r, rfl, h2⟩ := pF_some h1
  obtain ⟨hz, h3⟩ := gB_some h2
  refine ⟨_, h3, fun p l e R s m args below meth c Q H locs ls cells slots ad sp rst hC hl hr => ?_⟩
  obtain ⟨_, _, rfl, rfl, _, us, rfl, rfl, hr⟩ := hr
  exact ⟨_, ⟨_, us, rfl, rfl, hr⟩, lv_fdiv hC.1 hC.2.1 hd (show (FP.fdiv _ _ &&& 0x7fffffff ≤ 0x7f800000) from of_decide_eq_true hz)⟩
theorem o_ldcfw {i : Nat} {v : UInt32} (hd : decode M.2.1 pc = .ok (.ldc_w i, 3)) (hw : Cond.constantFloat M.1.cls i v ∈ lw_all) : OpS I M C pc (pc + 3) (i_push (.float v)) := o_push (Or.inl rfl) (fun hC k => by
  intro T hT X
  obtain ⟨t, a, b⟩ := k T hT X
  refine ⟨t, ?_, b⟩
  obtain ⟨c1, c2, c3, c4, c5, c6, c7, c8, c9, c10⟩ := hC
  obtain ⟨k0, cf, hk, hcf, hcp⟩ := Cond.constantFloat_spec c5 (c6 _ hw)
  obtain ⟨k', hk', he⟩ := X.warmed.alike.2.2 _ _ hk
  jvm_step X.here [c1, c2, hd, ldc_w.wp_float (s := T) (f := F0 _ pc _ _) X.here.top hk' (by rw [he]; exact hcf) hcp]
  exact a)
theorem o_dupx1 (hd : decode M.2.1 pc = .ok (.dup_x1, 1)) : OpS I M C pc (pc + 1) i_dupx1 := by
  refine OpS.stk I fun cf jmp nxt lo sk α nx k n res h => ?_
  obtain ⟨v, r, rfl, h1⟩ := pV_some h
  obtain ⟨u, r, rfl, h2⟩ := pV_some h1
  obtain ⟨hT, h3⟩ := gB_some h2
  obtain ⟨hU, h4⟩ := gB_some h3
  refine ⟨_, h4, fun p l e R s m args below meth c Q H locs ls cells slots ad sp rst hC hl hr => ?_⟩
  obtain ⟨w, us, rfl, h1, w2, us, rfl, h2, hr⟩ := hr
  exact ⟨w :: w2 :: w :: us, ⟨w, _, rfl, h1, w2, _, rfl, h2, w, us, rfl, h1, hr⟩, lv_dup_x1 hC.1 hC.2.1 hd (by rw [h1.cat]; exact cat2_f (bnot hT)) (by rw [h2.cat]; exact cat2_f (bnot hU))⟩
theorem o_bad {npc : Nat} : OpS I M C pc npc i_bad := by
  intro d cf p l e R s m args below meth c Q G ad0 res jmp nxt lo sk α nx k n hC hE hR hQ hcf hn hj h
  cases h
theorem o_fcmp {op : CmpOp} (hd : decode M.2.1 pc = .ok (.fcmp op, 1)) : OpS I M C pc (pc + 1) (i_fc op) := by
  refine OpS.stk I fun cf jmp nxt lo sk α nx k n res h => ?_
  obtain ⟨y, r, rfl, h1⟩ := pF_some h
  obtain ⟨x, r, rfl, h2⟩ := pF_some h1
  refine ⟨_, h2, fun p l e R s m args below meth c Q H locs ls cells slots ad sp rst hC hl hr => ?_⟩
  obtain ⟨_, _, rfl, rfl, _, us, rfl, rfl, hr⟩ := hr
  exact ⟨_, ⟨_, us, rfl, rfl, hr⟩, lv_fcmp hC.1 hC.2.1 hd⟩
theorem o_tab {dflt a b : Int} {offs : Array Int} {len jd npc : Nat} {js : List Nat} (hd : decode M.2.1 pc = .ok (.tableswitch dflt a b offs, len)) (h1 : (pc : Int) + dflt = ((pcAt C jd : Nat) : Int)) (h2 : js.length = offs.size ∧ b - a < (js.length : Int)) (h3 : ∀ i, i < js.length → (pc : Int) + (offs[i]?).getD 0 = ((pcAt C ((js[i]?).getD 0) : Nat) : Int)) : OpS I M C pc npc (i_tab (tabF a b js jd)) := by
  intro d cf p l e R s m args below meth c Q G ad0 res jmp nxt lo sk α nx k n hC hE hR hQ hcf hn hj h
  obtain ⟨x, r, rfl, h0⟩ := pI_some h
  obtain ⟨g1, g2⟩ := hj _ _ _ _ _ _ _ h0
  refine ⟨g1, fun ad H locs ls rst hv => ?_⟩
  obtain ⟨a1, a2, a3, a4, a5, _, us, rfl, rfl, a6⟩ := hv
  have kk := g2 ad H locs ls us ⟨a1, a2, a3, a4, a5, a6⟩
  unfold tabF at kk
  cases z1 : decide (x.toInt < a) with
  | true =>
    simp only [z1] at kk
    exact lv_tableOut hC.1 hC.2.1 hd (Or.inl (of_decide_eq_true z1)) h1 kk
  | false =>
    cases z2 : decide (b < x.toInt) with
    | true =>
      simp only [z1, z2] at kk
      exact lv_tableOut hC.1 hC.2.1 hd (Or.inr (of_decide_eq_true z2)) h1 kk
    | false =>
      have y1 : ¬ x.toInt < a := of_decide_eq_false z1
      have y2 : ¬ b < x.toInt := of_decide_eq_false z2
      have hi : (x.toInt - a).toNat < js.length := by omega
      simp only [z1, z2] at kk
      have e1 : nth js (x.toInt - a).toNat = some js[(x.toInt - a).toNat] := by rw [nth_eq]; exact List.getElem?_eq_getElem hi
      have kk : W p l e R s m args below meth c H locs k n Q (F0 m (pcAt C (match nth js (x.toInt - a).toNat with | some j => j | none => jd)) ls us) := kk
      rw [e1] at kk
      have h4 := h3 _ hi
      have hi2 : (x.toInt - a).toNat < offs.size := by omega
      rw [Array.getElem?_eq_getElem hi2, List.getElem?_eq_getElem hi] at h4
      exact lv_tableIn hC.1 hC.2.1 hd y1 y2 (Array.getElem?_eq_getElem hi2) h4 kk
end LASTO
noncomputable section
def mkA : List Value → List Value
  | [] => []
  | v :: vs => v :: bB (cat2 v) (uns :: mkA vs) (mkA vs)
def mkLo (nL : Nat) (as : List Value) : List Value := mkA as ++ List.replicate (nL - (mkA as).length) uns
end
theorem mkA_in {ad : List Nat} {sp : Nat → Nat} : ∀ {as aw : List Value} {i0 : Nat}, RVs ad sp as aw → ∀ {j : Nat} {v : Value}, (mkA as)[j]? = some v → kn v = true → ∃ w, RV ad sp v w ∧ (i0 + j, w) ∈ lv_args i0 aw
  | [], _, _, _, j, v, hj, _ => by simp [mkA] at hj
  | u :: as, _, i0, ⟨w, us, e, h1, h2⟩, 0, v, hj, _ => by
    subst e
    have : u = v := Option.some.inj hj
    subst this
    exact ⟨w, h1, List.mem_cons_self⟩
  | u :: as, _, i0, ⟨w, us, e, h1, h2⟩, j + 1, v, hj, hk => by
    subst e
    have hj : (bB (cat2 u) (uns :: mkA as) (mkA as))[j]? = some v := hj
    cases hc : cat2 u with
    | true =>
      rw [hc] at hj
      cases j with
      | zero =>
        have : uns = v := Option.some.inj hj
        subst this
        cases hk
      | succ j =>
        have hj : (mkA as)[j]? = some v := hj
        obtain ⟨x, g1, g2⟩ := mkA_in (i0 := i0 + 2) h2 hj hk
        refine ⟨x, g1, List.mem_cons_of_mem _ ?_⟩
        have e2 : w.category = 2 := by rw [h1.cat]; exact cat2_t hc
        rw [if_pos e2]
        have : i0 + 2 + j = i0 + (j + 1 + 1) := by omega
        rw [← this]
        exact g2
    | false =>
      rw [hc] at hj
      have hj : (mkA as)[j]? = some v := hj
      obtain ⟨x, g1, g2⟩ := mkA_in (i0 := i0 + 1) h2 hj hk
      refine ⟨x, g1, List.mem_cons_of_mem _ ?_⟩
      have e2 : ¬ w.category = 2 := by rw [h1.cat, cat2_f hc]; decide
      rw [if_neg e2]
      have : i0 + 1 + j = i0 + (j + 1) := by omega
      rw [← this]
      exact g2
theorem mkLo_RLo {ad : List Nat} {sp : Nat → Nat} {as aw : List Value} {nL : Nat} {ls : Array Slot} (h : RVs ad sp as aw) (hl : lv_has ls nL (lv_args 0 aw)) : RLo ad sp (mkLo nL as) ls nL := by
  refine ⟨hl.1, hl.2.1, fun i v hi hk => ?_⟩
  unfold mkLo at hi
  rcases Nat.lt_or_ge i (mkA as).length with z | z
  · rw [List.getElem?_append_left z] at hi
    obtain ⟨w, g1, g2⟩ := mkA_in (i0 := 0) h hi hk
    rw [Nat.zero_add] at g2
    exact ⟨w, g1, hl.2.2 _ g2⟩
  · rw [List.getElem?_append_right z] at hi
    have := List.eq_of_mem_replicate (List.mem_of_getElem? hi)
    subst this
    cases hk
theorem sl_len (vs : List Value) : (lg_sl vs).length = (vs.map fun v => v.category).sum := by
  induction vs with
  | nil => rfl
  | cons v vs ih =>
    have e1 : lg_sl (v :: vs) = lg_sl [v] ++ lg_sl vs := by simp [lg_sl]
    rw [e1, List.length_append, ih]
    simp only [List.map_cons, List.sum_cons]
    rcases lv_cat v with h | h <;> simp [lg_sl, h]
section CHAIN
variable {I : EVT} {M : MI} {C : List (Nat × OP)} {z : Prop}
/-- what is to be shown of a state in a method's midst, for its end res; z: the method has nothing from its caller -/
def WGA (I : EVT) (M : MI) (C : List (Nat × OP)) (z : Prop) (d : Nat) (res : RS) (i : Nat) (lo sk : List Value) (α : AH) (nx k n : Nat) : Prop :=
  ∀ (p : Program) (l : Launch) (e : Env) (R : Room) (s : State) (m : MethodId) (args : Array Value) (below : List Frame) (meth : Method) (c : Code) (Q : State → Prop) (G : GP) (ad0 : List Nat),
    CX M p l s m args meth c → SE I G s s.heap → RO d R res → HQ Q G ad0 res below args s → (z → ad0 = []) → WG p l e R s m args below meth c Q G ad0 M.2.2.1 res (pcAt C i) lo sk α nx k n
abbrev CFok (I : EVT) (d : Nat) (cf : CF) : Prop := ∀ y M2 as α nx r, I.1 y = some M2 → cf y as α nx = some r → COK I M2 d as α nx r
theorem drp_len {i : Nat} : (drp i C).length = C.length - i := by rw [drp_eq, List.length_drop]
theorem pcAt_len {i j : Nat} (h : C.length - i = C.length - j) : pcAt C i = pcAt C j := by
  unfold pcAt
  rcases Nat.lt_or_ge i C.length with a | a
  · have : i = j := by omega
    rw [this]
  · rw [drp_eq, drp_eq, List.drop_eq_nil_of_le a, List.drop_eq_nil_of_le (by omega)]
theorem wga_seg (hA : AllS I M C C) {d : Nat} {cf : CF} (hcf : CFok I d cf) {res : RS} {N i r' i' : Nat} {lo sk lo' sk' : List Value} {α α' : AH} {nx k n nx' k' n' : Nat} (h : exe cf C N (drp i C) lo sk α nx k n = some (0, r', none, lo', sk', α', nx', k', n')) (hr : C.length - i' = r') (hw : WGA I M C z d res i' lo' sk' α' nx' k' n') : WGA I M C z d res i lo sk α nx k n := by
  intro p l e R s m args below meth c Q G ad0 hC hE hR hQ hz
  obtain ⟨w1, w2⟩ := hw p l e R s m args below meth c Q G ad0 hC hE hR hQ hz
  have hR2 : RO d R (0, r', none, lo', sk', α', nx', k', n') := ⟨hR.1, hR.2.1, Nat.le_trans w1.1 hR.2.2.1, Nat.le_trans w1.2 hR.2.2.2⟩
  have hs := exe_sound hA hcf (e := e) (below := below) (res := (0, r', none, lo', sk', α', nx', k', n')) (Q := Q) (ad0 := ad0) hC hE hR2 (fun z => absurd rfl z) (fun j lo1 sk1 α1 nx1 k1 n1 he => ?_) N i lo sk α nx k n h
  · exact ⟨⟨Nat.le_trans hs.1.1 w1.1, Nat.le_trans hs.1.2 w1.2⟩, hs.2⟩
  · cases he
    rw [drp_len] at hr
    refine ⟨⟨Nat.le_refl _, Nat.le_refl _⟩, ?_⟩
    rw [← pcAt_len hr]
    exact w2
theorem wga_fin (hA : AllS I M C C) {d : Nat} {cf : CF} (hcf : CFok I d cf) {res : RS} {N i : Nat} {lo sk : List Value} {α : AH} {nx k n : Nat} (h : exe cf C N (drp i C) lo sk α nx k n = some res) (hr : res.1 ≠ 0) : WGA I M C z d res i lo sk α nx k n := by
  intro p l e R s m args below meth c Q G ad0 hC hE hR hQ hz
  exact exe_sound hA hcf hC hE hR hQ (fun j lo1 sk1 α1 nx1 k1 n1 he => absurd (by rw [he]) hr) N i lo sk α nx k n h
/-- a method's contract out of its run -/
theorem cok_of {d : Nat} {as : List Value} {α : AH} {nx : Nat} {r : RS} (hpl : plainName M.1.cls = true) (h0 : pcAt C 0 = 0) (hcat : catS as ≤ M.2.2.1) (hw : WGA I M C False d r 0 (mkLo M.2.2.1 as) [] α nx 0 0) : COK I M (d + 1) as α nx r := by
  intro l G ad aw hst hav hlen
  have key : ∀ (p : Program) (e : Env) (s : State) (m : MethodId) (args : Array Value) (below : List Frame) (meth : Method) (c : Code), CX M p l s m args meth c → args = aw.toArray → SE I G s s.heap → RH (gD G) (gc G) (OA (gb G)) ad (gs G) α s.heap →
      W p l e (rmC (d + 1) (rK r) (rN r)) s m args below meth c s.heap [] 0 0 (vx_MQ below (QCr G ad r) (XCr G ad r) args s (rK r) (rN r) (OA (gb G))) (entryFrame m args M.2.2.1) := by
    intro p e s m args below meth c hC hargs hE hH
    have hw1 := hw p l e (rmC (d + 1) (rK r) (rN r)) s m args below meth c (vx_MQ below (QCr G ad r) (XCr G ad r) args s (rK r) (rN r) (OA (gb G))) G ad hC hE ⟨Nat.le_of_eq (by show d + 6 = d + 1 + 5; omega), Nat.le_refl _, Nat.le_refl _, Nat.le_refl _⟩ (fun _ => rfl) (fun z => z.elim)
    subst hargs
    have hl := lv_entry aw (n := M.2.2.1) (by rw [sl_len, hav.csum]; exact hcat)
    rw [lg_entry_eq]
    rw [h0] at hw1
    exact hw1.2 ad s.heap [] _ [] ⟨PX.rf, hlen, va_S.rf, hH, mkLo_RLo hav hl, rfl⟩
  cases hhh : M.2.2.2.2 with
  | nil =>
    refine vx_ofW (cc := M.2.1) (maxL := M.2.2.1) (ret := M.2.2.2.1) (ws' := lw_all) hpl (wsM_nil hhh) ?_
    intro p e s m args below meth c s₁ B hml hnt hv
    have hts0 := atoms_spec (ws := wsM M) B.pre
    refine key p e s m args below meth c ⟨B.exec, B.bytes, hml, B.returns, findClass_of_methodNamed B.named, fun w h => hts0 w (by unfold wsM; exact List.mem_cons_of_mem _ h), B.notSynchronized, hst, (name_of_methodNamed B.named B.method).1, ?_⟩ hv.1 hv.2.1 hv.2.2
    rw [hhh]
    show _ = []
    exact List.eq_nil_iff_forall_not_mem.mpr (fun x hx => hnt x hx)
  | cons q0 tl0 =>
    have hws : wsM M = Cond.codeWith M.1 M.2.1 M.2.2.1 M.2.2.2.1 (q0 :: tl0) :: lw_all := by
      unfold wsM
      rw [hhh]
    refine vx_ofWH (cc := M.2.1) (maxL := M.2.2.1) (ret := M.2.2.2.1) (hh := q0 :: tl0) (ws' := lw_all) hpl hws ?_
    intro p e s m args below meth c s₁ B hml hv
    have hts0 := atoms_spec (ws := wsM M) B.pre
    refine key p e s m args below meth c ⟨B.exec, B.bytes, hml, B.returns, findClass_of_methodNamed B.named, fun w h => hts0 w (by unfold wsM; exact List.mem_cons_of_mem _ h), B.notSynchronized, hst, (name_of_methodNamed B.named B.method).1, ?_⟩ hv.1 hv.2.1 hv.2.2
    rw [hhh]
    exact vx_table (x := objectInit) B (hts0 _ (by rw [hws]; exact List.mem_cons_self))
end CHAIN
