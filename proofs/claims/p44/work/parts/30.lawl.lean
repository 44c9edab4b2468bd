/-! ===== the law's own frame: its context stands, nothing is given from a caller ===== -/
section LG
variable {I : EVT} {M : MI} {C : List (Nat × OP)} {p : Program} {l : Launch} {e : Env} {R : Room} {s : State} {m : MethodId} {args : Array Value} {below : List Frame} {meth : Method} {c : Code} {Q : State → Prop} {G : GP}
theorem lg_le {res : RS} {pc : Nat} {lo lo' sk : List Value} {α α' : AH} {nx k n : Nat} (h1 : all2 leV lo lo' = true) (h2 : leH α α' = true) (hw : WG p l e R s m args below meth c Q G [] M.2.2.1 res pc lo' sk α' nx k n) : WG p l e R s m args below meth c Q G [] M.2.2.1 res pc lo sk α nx k n := by
  obtain ⟨w1, w2⟩ := hw
  refine ⟨w1, fun ad H locs ls rst hv => ?_⟩
  obtain ⟨a1, a2, a3, a4, a5, a6⟩ := hv
  exact w2 ad H locs ls rst ⟨a1, a2, a3, a4.le h2, a5.le h1, a6⟩
theorem lg_sg (hA : AllS I M C C) {d : Nat} {cf : CF} (hcf : CFok I d cf) {res : RS} (hC : CX M p l s m args meth c) (hE : SE I G s s.heap) (hR : RO d R res) (N i r' i' : Nat) {lo sk lo' sk' : List Value} {α α' : AH} {nx k n nx' k' n' : Nat} (h : chkS (exe cf C N (drp i C) lo sk α nx k n) r' lo' sk' α' nx' k' n' = true) (hr : C.length - i' = r') (hw : WG p l e R s m args below meth c Q G [] M.2.2.1 res (pcAt C i') lo' sk' α' nx' k' n') : WG p l e R s m args below meth c Q G [] M.2.2.1 res (pcAt C i) lo sk α nx k n := by
  unfold chkS at h
  split at h
  · rename_i r lo1 sk1 α1 nx1 k1 n1 ho
    obtain ⟨g1, h1⟩ := bB_t h
    obtain ⟨g2, h2⟩ := bB_t h1
    obtain ⟨g3, h3⟩ := bB_t h2
    obtain ⟨g4, h4⟩ := bB_t h3
    obtain ⟨g5, h5⟩ := bB_t h4
    obtain ⟨g6, h6⟩ := bB_t h5
    have e1 := Nat.eq_of_beq_eq_true g1
    have e3 := all2_eq g3
    have e4 := Nat.eq_of_beq_eq_true g4
    have e5 := Nat.eq_of_beq_eq_true g5
    have e6 := Nat.eq_of_beq_eq_true g6
    subst e1 e3 e4 e5 e6
    have hw1 := lg_le (M := M) g2 h6 hw
    obtain ⟨w1, w2⟩ := hw1
    have hR2 : RO d R (0, r, none, lo1, sk1, α1, nx1, k1, n1) := ⟨hR.1, hR.2.1, Nat.le_trans w1.1 hR.2.2.1, Nat.le_trans w1.2 hR.2.2.2⟩
    have hs := exe_sound hA hcf (e := e) (below := below) (res := (0, r, none, lo1, sk1, α1, nx1, k1, n1)) (Q := Q) (ad0 := []) hC hE hR2 (fun z => absurd rfl z) (fun j lo2 sk2 α2 nx2 k2 n2 he => ?_) N i lo sk α nx k n ho
    · exact ⟨⟨Nat.le_trans hs.1.1 w1.1, Nat.le_trans hs.1.2 w1.2⟩, hs.2⟩
    · cases he
      rw [drp_len] at hr
      refine ⟨⟨Nat.le_refl _, Nat.le_refl _⟩, ?_⟩
      rw [← pcAt_len hr]
      exact w2
  · cases h
theorem lg_widen {res : RS} {pc : Nat} {lo sk : List Value} {α : AH} {nx k n k1 n1 : Nat} (h1 : k ≤ k1) (h2 : n ≤ n1) (hw : WG p l e R s m args below meth c Q G [] M.2.2.1 res pc lo sk α nx k1 n1) : WG p l e R s m args below meth c Q G [] M.2.2.1 res pc lo sk α nx k n := by
  obtain ⟨w1, w2⟩ := hw
  exact ⟨⟨Nat.le_trans h1 w1.1, Nat.le_trans h2 w1.2⟩, fun ad H locs ls rst hv T hT X => w2 ad H locs ls rst hv T hT (stand_widen X h1 h2)⟩
/-- a call behind which nothing is kept but the script -/
theorem lg_calZ {d : Nat} {res : RS} {i pc0 y idx : Nat} {tl : List (Nat × OP)} {as : List Value} (hC : CX M p l s m args meth c) (hE : SE I G s s.heap) (hR : RO d R res) (hpc : pcAt C i = pc0) (hnp : pcAt C (i + 1) = pc0 + 3) (has : as = [] ∨ as = [.ref 1000004]) {M2 : MI} (hw2 : CalW M2 as.length) (w1 : Cond.methodLink M.1.cls idx M2.1 ∈ lw_all) (w2 : Cond.static M2.1 ∈ lw_all) (hd : decode M.2.1 pc0 = .ok (.invokestatic idx, 3)) {lo lo' : List Value} {α α' : AH} {nx k n nx' k' n' : Nat} {x : Int32} (hle : all2 leV lo lo' = true) (hlo : ∀ v ∈ lo', kn v = false ∨ v = .ref 1000004) (hq : COK I M2 d as [] 0 (retR (some (.int x)) α' nx' k' n')) (hw : WG p l e R s m args below meth c Q G [] M.2.2.1 res (pcAt C (i + 1)) lo' [.int x] [] 0 (k + k') (n + n')) : WG p l e R s m args below meth c Q G [] M.2.2.1 res (pcAt C i) lo as α nx k n := by
  obtain ⟨w3, w4⟩ := hw
  rw [hpc]
  refine ⟨⟨by omega, by omega⟩, fun ad H locs ls rst hv => ?_⟩
  obtain ⟨a1, a2, a3, a4, a5, a6⟩ := hv
  have haw : RVs [] (gs G) as rst ∧ rst.reverse = rst ∧ rst.length = as.length := by
    rcases has with rfl | rfl
    · have a6 : rst = [] := a6
      subst a6
      exact ⟨rfl, rfl, rfl⟩
    · obtain ⟨w, us, rfl, ⟨b, hb, rfl⟩, a7⟩ := a6
      have a7 : us = [] := a7
      subst a7
      have hb : some (gs G 4) = some b := hb
      cases hb
      exact ⟨⟨_, [], rfl, ⟨gs G 4, rfl, rfl⟩, rfl⟩, rfl, rfl⟩
  have hM := hq l G [] rst hC.2.2.2.2.2.2.2.1 haw.1 rfl
  rw [wsM_nil hw2.1] at hM
  obtain ⟨c1, c2, c3, c4, c5, c6, c7, c8, c9, c10⟩ := id hC
  have hE2 := hE
  have hnil : RH (gD G) (gc G) (OA (gb G)) [] (gs G) [] H := ⟨[], rfl, P_nil, D_nil, fun k c hc => by cases hc⟩
  have hrun := vx_runS (p := p) (l := l) (e := e) (R := R) (s := s) (m := m) (args := args) (below := below) (meth := meth) (c := c) (locs := locs) (cells := k) (slots := n) (nL := M.2.2.1) (g := F0 m pc0 ls rst) (rest := []) (H := H) ⟨c1, c2, c3, c5, c6⟩ hM (va_cwS as.length c6 (gS w1 w2 hw2.2.2.2.2 (gA hw2.2.1)) rfl rfl rfl hw2.2.2.2.1 (room_of hR hw2.2.2.1)) ⟨PcM.fb, PcM.at hE a3 hnil⟩ rfl haw.2.2 a5.1 (by rw [haw.2.1]; simp) (lv_room (Nat.le_of_ble_eq_true rfl)) hd ⟨Nat.le_trans w3.1 hR.2.2.1, Nat.le_trans w3.2 hR.2.2.2⟩
  refine vx_callG hrun a3 (fun q z => z) (fun st oc t hq => hq.2) (fun E st t hq => hq.2) (fun E ce q9 st t H1 locs1 ht hx hS1 hce hcv hcl => ?_) (fun v st t H1 locs1 ht hq1 hS1 => ?_)
  · obtain ⟨⟨_, h2, _⟩, _⟩ := hx
    have h2 : (1 : Nat) = 2 := h2
    omega
  · obtain ⟨⟨ad', w, -, e2, ⟨y, e3, hy⟩, -⟩, -⟩ := hq1
    have hy : y = .int x := hy
    subst hy
    subst e3
    have e2 : v = some (.int x) := by cases e2; rfl
    subst e2
    rw [hnp] at w4
    refine w4 [] H1 locs1 ls _ ⟨PX.rf, rfl, hS1, ⟨[], rfl, P_nil, D_nil, fun k c hc => by cases hc⟩, ⟨a5.1, a5.2.1, fun j v hj hk => ?_⟩, ⟨.int x, [], rfl, rfl, rfl⟩⟩
    rcases hlo v (List.mem_of_getElem? hj) with hf | rfl
    · rw [hf] at hk
      cases hk
    · obtain ⟨q1, q2⟩ := all2_at hle
      have hi : j < lo.length := by rw [q1]; exact (List.getElem?_eq_some_iff.mp hj).1
      have ha := List.getElem?_eq_getElem hi
      have e1 := leV_eq (q2 j _ _ ha hj) rfl
      rw [e1] at ha
      obtain ⟨w, ⟨b, hb, rfl⟩, g2⟩ := a5.2.2 j _ ha rfl
      have hb : some (gs G 4) = some b := hb
      cases hb
      exact ⟨_, ⟨gs G 4, rfl, rfl⟩, g2⟩
end LG
