noncomputable section
def i_ini (y n : Nat) (ho : Option (List (Nat × Nat × Nat))) : OP := fun cf jmp nxt lo sk α nx k m => pN n sk [] (fun as r => pR as (fun _ _ => gB (Nat.ble (catS r) 8) (oG (cf y as α nx) (fun q => aft ho jmp nxt lo r k m q))))
end
section CALL4
variable {I : EVT} {M : MI} {C : List (Nat × OP)} {pc : Nat}
/-- a callee's start -/
abbrev PcM (I : EVT) (G : GP) (ad : List Nat) (α : AH) (aw : List Value) : Array Value → State → Prop := va_Pc aw (fun U => SE I G U U.heap ∧ RH (gD G) (gc G) (OA (gb G)) ad (gs G) α U.heap)
theorem PcM.fb {I : EVT} {G : GP} {ad : List Nat} {α : AH} {aw : List Value} : FrameBlind (PcM I G ad α aw) := fun a U g mk q => ⟨q.1, SE.same (u := U) (U := U.calling g mk a) rfl q.2.1, q.2.2⟩
theorem PcM.at {I : EVT} {G : GP} {ad : List Nat} {α : AH} {aw : List Value} {s : State} {H : Heap} {locs : List Loc} (hE : SE I G s s.heap) (hS : va_S (OA (gb G)) s.heap H locs) (hH : RH (gD G) (gc G) (OA (gb G)) ad (gs G) α H) (U : State) (hU : U.heap = H) (hW : s.WarmedH U.vm) : PcM I G ad α aw aw.toArray U :=
  ⟨rfl, by rw [hU]; exact (hE.kept hS.1 hS.2.1).moved hW, by rw [hU]; exact hH⟩
theorem args_of {ad : List Nat} {sp : Nat → Nat} {as r rst : List Value} (h : RVs ad sp (as.reverse ++ r) rst) : ∃ aw us, rst = aw.reverse ++ us ∧ RVs ad sp as aw ∧ RVs ad sp r us ∧ aw.length = as.length := by
  obtain ⟨a, b, rfl, h1, h2⟩ := RVs.split h
  have h3 := RVs.rev h1
  rw [List.reverse_reverse] at h3
  exact ⟨a.reverse, b, by rw [List.reverse_reverse], h3, h2, h3.len⟩
theorem wsM_nil {M2 : MI} (h : M2.2.2.2.2 = []) : wsM M2 = Cond.code M2.1 M2.2.1 M2.2.2.1 M2.2.2.2.1 :: lw_all := by
  unfold wsM
  rw [h]
/-- what a call asks of the callee's words -/
def CalW (M2 : MI) (n : Nat) : Prop := M2.2.2.2.2 = [] ∧ Cond.code M2.1 M2.2.1 M2.2.2.1 M2.2.2.2.1 ∈ lw_all ∧ M2.2.2.1 ≤ 100 ∧ (M2.1.cls ≠ "java/lang/invoke/MethodHandle" ∧ M2.1.cls ≠ "java/lang/invoke/VarHandle" ∧ (parseMethodDescriptor M2.1.desc).map (fun d => d.parameters.length) = some n) ∧ Cond.initialized M2.1.cls ∈ lw_all
theorem room_of {d k n : Nat} {R : Room} {res : RS} (hR : RO d R res) {mL : Nat} (hm : mL ≤ 100) : (rmC d k n).frames + 1 ≤ R.frames ∧ 8 + (mL + 11) + (rmC d k n).locals ≤ R.locals := by
  obtain ⟨h1, h2, -⟩ := hR
  exact ⟨h1, by show 8 + (mL + 11) + (128 * d + 100) ≤ R.locals; omega⟩
theorem o_calS {y n idx : Nat} {M2 : MI} {ho : Option (List (Nat × Nat × Nat))} (hy : I.1 y = some M2) (hw : CalW M2 n) (hH : HOk M C pc ho) (w1 : Cond.methodLink M.1.cls idx M2.1 ∈ lw_all) (w2 : Cond.static M2.1 ∈ lw_all) (hd : decode M.2.1 pc = .ok (.invokestatic idx, 3)) : OpS I M C pc (pc + 3) (i_cal y n ho) := by
  intro d cf p l e R s m args below meth c Q G ad0 res jmp nxt lo sk α nx k n' hC hE hR hQ hcf hn hj h
  obtain ⟨as, r, rfl, hlen, h1⟩ := pN_some h
  rw [List.append_nil] at h1
  obtain ⟨h8, h2⟩ := gB_some h1
  obtain ⟨q, hq, h3⟩ := oG_some h2
  obtain ⟨g1, g2⟩ := aft_core hC hE hR hQ hH hn hj h3
  have hq0 : k ≤ rK res ∧ n' ≤ rN res := ⟨by omega, by omega⟩
  refine ⟨hq0, fun ad H locs ls rst hv => ?_⟩
  obtain ⟨a1, a2, a3, a4, a5, a6⟩ := hv
  obtain ⟨aw, us, rfl, b1, b2, b3⟩ := args_of a6
  have hM := hcf y M2 as α nx q hy hq l G ad aw hC.2.2.2.2.2.2.2.1 b1 a2
  rw [wsM_nil hw.1] at hM
  obtain ⟨c1, c2, c3, c4, c5, c6, c7, c8, c9, c10⟩ := id hC
  refine g2 ad H locs ls us _ aw.toArray a1 a3 a5 b2 ?_
  exact vx_runS (nL := M.2.2.1) ⟨c1, c2, c3, c5, c6⟩ hM (va_cwS n c6 (gS w1 w2 hw.2.2.2.2 (gA hw.2.1)) rfl rfl rfl hw.2.2.2.1 (room_of hR hw.2.2.1)) ⟨PcM.fb, PcM.at hE a3 a4⟩ rfl (b3.trans hlen) a5.1 rfl (lv_room (by rw [b2.csum]; exact Nat.le_of_ble_eq_true h8)) hd ⟨Nat.le_trans g1.1 hR.2.2.1, Nat.le_trans g1.2 hR.2.2.2⟩
/-- a static method with handlers of its own -/
theorem o_calX {y n idx : Nat} {M2 : MI} {hd0 : Nat × Nat × Nat × Nat} {tl0 : List (Nat × Nat × Nat × Nat)} {ho : Option (List (Nat × Nat × Nat))} (hy : I.1 y = some M2) (hhh : M2.2.2.2.2 = hd0 :: tl0) (hcw : Cond.codeWith M2.1 M2.2.1 M2.2.2.1 M2.2.2.2.1 (hd0 :: tl0) ∈ lw_all) (hm : M2.2.2.1 ≤ 100) (hds : M2.1.cls ≠ "java/lang/invoke/MethodHandle" ∧ M2.1.cls ≠ "java/lang/invoke/VarHandle" ∧ (parseMethodDescriptor M2.1.desc).map (fun d => d.parameters.length) = some n) (hini : Cond.initialized M2.1.cls ∈ lw_all) (hH : HOk M C pc ho) (w1 : Cond.methodLink M.1.cls idx M2.1 ∈ lw_all) (w2 : Cond.static M2.1 ∈ lw_all) (hd : decode M.2.1 pc = .ok (.invokestatic idx, 3)) : OpS I M C pc (pc + 3) (i_cal y n ho) := by
  intro d cf p l e R s m args below meth c Q G ad0 res jmp nxt lo sk α nx k n' hC hE hR hQ hcf hn hj h
  obtain ⟨as, r, rfl, hlen, h1⟩ := pN_some h
  rw [List.append_nil] at h1
  obtain ⟨h8, h2⟩ := gB_some h1
  obtain ⟨q, hq, h3⟩ := oG_some h2
  obtain ⟨g1, g2⟩ := aft_core hC hE hR hQ hH hn hj h3
  have hq0 : k ≤ rK res ∧ n' ≤ rN res := ⟨by omega, by omega⟩
  refine ⟨hq0, fun ad H locs ls rst hv => ?_⟩
  obtain ⟨a1, a2, a3, a4, a5, a6⟩ := hv
  obtain ⟨aw, us, rfl, b1, b2, b3⟩ := args_of a6
  have hM := hcf y M2 as α nx q hy hq l G ad aw hC.2.2.2.2.2.2.2.1 b1 a2
  have hws : wsM M2 = Cond.codeWith M2.1 M2.2.1 M2.2.2.1 M2.2.2.2.1 (hd0 :: tl0) :: lw_all := by
    unfold wsM
    rw [hhh]
  rw [hws] at hM
  obtain ⟨c1, c2, c3, c4, c5, c6, c7, c8, c9, c10⟩ := id hC
  refine g2 ad H locs ls us _ aw.toArray a1 a3 a5 b2 ?_
  exact vx_runSX (nL := M.2.2.1) ⟨c1, c2, c3, c5, c6⟩ hM (vx_cwSW n c6 (gS w1 w2 hini (gH hcw)) rfl rfl rfl hds (room_of hR hm)) ⟨PcM.fb, PcM.at hE a3 a4⟩ rfl (b3.trans hlen) a5.1 rfl (lv_room (by rw [b2.csum]; exact Nat.le_of_ble_eq_true h8)) hd ⟨Nat.le_trans g1.1 hR.2.2.1, Nat.le_trans g1.2 hR.2.2.2⟩
/-- a constructor -/
theorem o_ini {y n idx : Nat} {M2 : MI} {ho : Option (List (Nat × Nat × Nat))} (hy : I.1 y = some M2) (hw : CalW M2 n) (hret : M2.2.2.2.1 = none) (hnm : M2.1.name = "<init>") (hH : HOk M C pc ho) (w1 : Cond.methodLink M.1.cls idx M2.1 ∈ lw_all ∨ ∃ host, Cond.methodLinkNest M.1.cls idx M2.1 host ∈ lw_st) (w2 : Cond.instanceMethod M2.1 ∈ lw_all) (hd : decode M.2.1 pc = .ok (.invokespecial idx, 3)) : OpS I M C pc (pc + 3) (i_ini y (n + 1) ho) := by
  intro d cf p l e R s m args below meth c Q G ad0 res jmp nxt lo sk α nx k n' hC hE hR hQ hcf hn hj h
  obtain ⟨as, r, rfl, hlen, h1⟩ := pN_some h
  rw [List.append_nil] at h1
  obtain ⟨a0, as1, rfl, h1⟩ := pR_some h1
  obtain ⟨h8, h2⟩ := gB_some h1
  obtain ⟨q, hq, h3⟩ := oG_some h2
  obtain ⟨g1, g2⟩ := aft_core hC hE hR hQ hH hn hj h3
  have hq0 : k ≤ rK res ∧ n' ≤ rN res := ⟨by omega, by omega⟩
  refine ⟨hq0, fun ad H locs ls rst hv => ?_⟩
  obtain ⟨a1, a2, a3, a4, a5, a6⟩ := hv
  obtain ⟨aw, us, rfl, b1, b2, b3⟩ := args_of a6
  have hM := hcf y M2 _ α nx q hy hq l G ad aw hC.2.2.2.2.2.2.2.1 b1 a2
  rw [wsM_nil hw.1, hret] at hM
  obtain ⟨_, aw1, rfl, ⟨xb, hxb, rfl⟩, b4⟩ := b1
  obtain ⟨c1, c2, c3, c4, c5, c6, c7, c8, c9, c10⟩ := id hC
  have hl1 : aw1.length = n := by
    have : aw1.length + 1 = n + 1 := by simpa [hlen] using b3
    omega
  refine g2 ad H locs ls us _ (Value.ref xb :: aw1).toArray a1 a3 a5 b2 ?_
  have hcode : Cond.code M2.1 M2.2.1 M2.2.2.1 none ∈ lw_all := by
    have := hw.2.1
    rw [hret] at this
    exact this
  rcases w1 with w1 | ⟨host, w1⟩
  · exact vx_runI (nL := M.2.2.1) ⟨c1, c2, c3, c5, c6⟩ hM (cwI n c6 (gA hcode) rfl rfl rfl (c6 _ hw.2.2.2.2) (c6 _ w1) (c6 _ w2) hnm hw.2.2.2.1 (room_of hR hw.2.2.1)) ⟨PcM.fb, PcM.at hE a3 a4⟩ rfl hl1 a5.1 (by simp) (lv_room (by rw [b2.csum]; exact Nat.le_of_ble_eq_true h8)) hd ⟨Nat.le_trans g1.1 hR.2.2.1, Nat.le_trans g1.2 hR.2.2.2⟩
  · exact vx_runIN (nL := M.2.2.1) ⟨c1, c2, c3, c5, c6⟩ hM ⟨va_cnB n c6 (gA hcode) rfl rfl rfl (hE.2.1.nw w1) (c6 _ hw.2.2.2.2) hw.2.2.2.1 (room_of hR hw.2.2.1), hnm, c6 _ w2⟩ ⟨PcM.fb, PcM.at hE a3 a4⟩ rfl hl1 a5.1 (by simp) (lv_room (by rw [b2.csum]; exact Nat.le_of_ble_eq_true h8)) hd ⟨Nat.le_trans g1.1 hR.2.2.1, Nat.le_trans g1.2 hR.2.2.2⟩
/-- a method of an object -/
theorem o_vir {ci y n idx N : Nat} {T : u_T} {ty : Nat → FieldType} {M2 : MI} {ho : Option (List (Nat × Nat × Nat))} (hc : ClsF ci M2.1.cls T N ty) (hy : I.1 y = some M2) (hw : CalW M2 n) (hH : HOk M C pc ho) (w1 : Cond.methodLink M.1.cls idx M2.1 ∈ lw_all ∨ ∃ host, Cond.methodLinkNest M.1.cls idx M2.1 host ∈ lw_st) (w2 : Cond.instanceMethod M2.1 ∈ lw_all) (w3 : Cond.selects M2.1.cls M2.1 M2.1 ∈ lw_all) (hd : decode M.2.1 pc = .ok (.invokevirtual idx, 3)) : OpS I M C pc (pc + 3) (i_vir ci y (n + 1) ho) := by
  intro d cf p l e R s m args below meth c Q G ad0 res jmp nxt lo sk α nx k n' hC hE hR hQ hcf hn hj h
  obtain ⟨as, r, rfl, hlen, h1⟩ := pN_some h
  rw [List.append_nil] at h1
  obtain ⟨a0, as1, rfl, h1⟩ := pR_some h1
  obtain ⟨cell, hg, h1⟩ := oG_some h1
  obtain ⟨ht, h1⟩ := gB_some h1
  obtain ⟨h8, h2⟩ := gB_some h1
  obtain ⟨q, hq, h3⟩ := oG_some h2
  obtain ⟨g1, g2⟩ := aft_core hC hE hR hQ hH hn hj h3
  have hq0 : k ≤ rK res ∧ n' ≤ rN res := ⟨by omega, by omega⟩
  refine ⟨hq0, fun ad H locs ls rst hv => ?_⟩
  obtain ⟨a1, a2, a3, a4, a5, a6⟩ := hv
  obtain ⟨aw, us, rfl, b1, b2, b3⟩ := args_of a6
  have hM := hcf y M2 _ α nx q hy hq l G ad aw hC.2.2.2.2.2.2.2.1 b1 a2
  rw [wsM_nil hw.1] at hM
  obtain ⟨wb, aw1, rfl, hwb, b4⟩ := b1
  have e1 := Nat.eq_of_beq_eq_true ht
  obtain ⟨ws, x, en, rfl, hlt, m1, m2, m3, m4, m5, m6⟩ := a4.at hg (not200 ht (by have := hc.1; omega)) hwb
  obtain ⟨vs, rfl, hvs⟩ := m5.obj (by rw [e1]; exact hc.1)
  rw [e1] at m4
  obtain ⟨c1, c2, c3, c4, c5, c6, c7, c8, c9, c10⟩ := id hC
  have hl1 : aw1.length = n := by
    have : aw1.length + 1 = n + 1 := by simpa [hlen] using b3
    omega
  refine g2 ad H locs ls us _ (Value.ref x :: aw1).toArray a1 a3 a5 b2 ?_
  rcases w1 with w1 | ⟨host, w1⟩
  · exact vx_runV (nL := M.2.2.1) ⟨c1, c2, c3, c5, c6⟩ hM (cwV n c6 (gV w1 w2 w3 hw.2.2.2.2 (gA hw.2.1)) rfl rfl rfl ⟨rfl, hw.2.2.2.1⟩ (room_of hR hw.2.2.1)) ⟨PcM.fb, va_recv hE.1 m2 hc.2.1 m4, PcM.at hE a3 a4⟩ rfl hl1 a5.1 (by simp) (lv_room (by rw [b2.csum]; exact Nat.le_of_ble_eq_true h8)) hd ⟨Nat.le_trans g1.1 hR.2.2.1, Nat.le_trans g1.2 hR.2.2.2⟩
  · exact vx_runVN (nL := M.2.2.1) ⟨c1, c2, c3, c5, c6⟩ hM ⟨va_cnB n c6 (gA hw.2.1) rfl rfl rfl (hE.2.1.nw w1) (c6 _ hw.2.2.2.2) hw.2.2.2.1 (room_of hR hw.2.2.1), c6 _ w2, c6 _ w3⟩ ⟨PcM.fb, va_recv hE.1 m2 hc.2.1 m4, PcM.at hE a3 a4⟩ rfl hl1 a5.1 (by simp) (lv_room (by rw [b2.csum]; exact Nat.le_of_ble_eq_true h8)) hd ⟨Nat.le_trans g1.1 hR.2.2.1, Nat.le_trans g1.2 hR.2.2.2⟩
end CALL4
