section CALL3
variable {I : EVT} {M : MI} {C : List (Nat × OP)} {pc : Nat}
/-- where an exception of number E, thrown under pc, is caught: by the table, the kinds of its entries told by ct -/
def fH (ct : Nat → Nat) (pc E : Nat) : List (Nat × Nat × Nat × Nat) → Option Nat
  | [] => none
  | q :: tl => if q.1 ≤ pc ∧ pc < q.2.1 then (if ct q.2.2.2 = E then some q.2.2.1 else if ct q.2.2.2 < 6 then fH ct pc E tl else none) else fH ct pc E tl
theorem fH_spec {own : String} {ct : Nat → Nat} {pc E : Nat} (hE : E < 6) : ∀ {hh : List (Nat × Nat × Nat × Nat)} {h : Nat}, (∀ q ∈ hh, q.2.2.2 ≠ 0 ∧ Cond.classLink own q.2.2.2 (xnm (ct q.2.2.2)) ∈ lw_all) → fH ct pc E hh = some h →
    ∃ (pre : List ExceptionTableEntry) (x : ExceptionTableEntry) (suf : List ExceptionTableEntry), tableOf hh = pre ++ x :: suf ∧ (∀ z ∈ pre, covers z pc = false ∨ (z.catchType ≠ 0 ∧ ∃ j, j < 6 ∧ j ≠ E ∧ Cond.classLink own z.catchType (xnm j) ∈ lw_all)) ∧ covers x pc = true ∧ x.catchType ≠ 0 ∧ Cond.classLink own x.catchType (xnm E) ∈ lw_all ∧ x.handlerPc = h
  | [], h, _, hf => by cases hf
  | q :: tl, h, hw, hf => by
    have hwt : ∀ q ∈ tl, q.2.2.2 ≠ 0 ∧ Cond.classLink own q.2.2.2 (xnm (ct q.2.2.2)) ∈ lw_all := fun z hz => hw z (List.mem_cons_of_mem _ hz)
    have hq := hw q List.mem_cons_self
    unfold fH at hf
    by_cases hc : q.1 ≤ pc ∧ pc < q.2.1
    · rw [if_pos hc] at hf
      by_cases he : ct q.2.2.2 = E
      · rw [if_pos he] at hf
        refine ⟨[], ⟨q.1, q.2.1, q.2.2.1, q.2.2.2⟩, tableOf tl, rfl, (fun z hz => by cases hz), ?_, hq.1, ?_, Option.some.inj hf⟩
        · simp [covers, hc.1, hc.2]
        · have := hq.2
          rw [he] at this
          exact this
      · rw [if_neg he] at hf
        by_cases h6 : ct q.2.2.2 < 6
        · rw [if_pos h6] at hf
          obtain ⟨pre, x, suf, e1, e2, e3⟩ := fH_spec hE hwt hf
          refine ⟨⟨q.1, q.2.1, q.2.2.1, q.2.2.2⟩ :: pre, x, suf, by show _ :: tableOf tl = _; rw [e1]; rfl, fun z hz => ?_, e3⟩
          rcases List.mem_cons.mp hz with rfl | hz
          · exact Or.inr ⟨hq.1, _, h6, he, hq.2⟩
          · exact e2 z hz
        · rw [if_neg h6] at hf
          cases hf
    · rw [if_neg hc] at hf
      obtain ⟨pre, x, suf, e1, e2, e3⟩ := fH_spec hE hwt hf
      refine ⟨⟨q.1, q.2.1, q.2.2.1, q.2.2.2⟩ :: pre, x, suf, by show _ :: tableOf tl = _; rw [e1]; rfl, fun z hz => ?_, e3⟩
      rcases List.mem_cons.mp hz with rfl | hz
      · refine Or.inl ?_
        show (decide (q.1 ≤ pc) && decide (pc < q.2.1)) = false
        by_cases a : q.1 ≤ pc
        · have b : ¬ pc < q.2.1 := fun b => hc ⟨a, b⟩
          simp [b]
        · simp [a]
      · exact e2 z hz
/-- what the handlers of a call at pc must be -/
def HSok (M : MI) (C : List (Nat × OP)) (pc : Nat) (hs : List (Nat × Nat × Nat)) : Prop := ∃ ct : Nat → Nat, (∀ q ∈ M.2.2.2.2, q.2.2.2 ≠ 0 ∧ Cond.classLink M.1.cls q.2.2.2 (xnm (ct q.2.2.2)) ∈ lw_all) ∧
  ∀ h ∈ hs, h.1 < 6 ∧ Cond.castable (xnm h.1) (xnm h.1) ∈ lw_st ∧ h.2.1 < M.2.2.1 ∧ ∃ hp, fH ct pc h.1 M.2.2.2.2 = some hp ∧ ((∃ k : Fin 4, (k : Nat) = h.2.1 ∧ decode M.2.1 hp = .ok (.astore_n k, 1) ∧ pcAt C h.2.2 = hp + 1))
def HOk (M : MI) (C : List (Nat × OP)) (pc : Nat) (ho : Option (List (Nat × Nat × Nat))) : Prop := match ho with
  | none => M.2.2.2.2 = []
  | some hs => HSok M C pc hs
theorem hfd_in : ∀ {hs : List (Nat × Nat × Nat)} {E : Nat} {h : Nat × Nat}, hfd hs E = some h → (E, h) ∈ hs
  | [], E, h, hf => by cases hf
  | q :: tl, E, h, hf => by
    have hf : bB (Nat.beq q.1 E) (some q.2) (hfd tl E) = some h := hf
    cases hb : Nat.beq q.1 E with
    | true =>
      rw [hb] at hf
      have e1 := Nat.eq_of_beq_eq_true hb
      have e2 : q.2 = h := Option.some.inj hf
      rw [← e1, ← e2]
      exact List.mem_cons_self
    | false =>
      rw [hb] at hf
      exact List.mem_cons_of_mem _ (hfd_in hf)
theorem RLo.gone {ad : List Nat} {sp : Nat → Nat} {lo : List Value} {ls ls' : Array Slot} {nL i : Nat} {w : Value} (h : RLo ad sp lo ls nL) (h' : lv_has ls' nL ((i, w) :: (allv ls).filter (fun q => !(q.1 == i) && !(q.1 + 1 == i && q.2.category == 2)))) : RLo ad sp (lst1 lo i uns) ls' nL := by
  refine ⟨h'.1, h'.2.1, fun j x hj hk => ?_⟩
  rcases lst1_get hj hk with ⟨rfl, rfl⟩ | ⟨h1, h2, h3⟩
  · cases hk
  · obtain ⟨u, g1, g2⟩ := h.2.2 j x h2 hk
    refine ⟨u, g1, h'.2.2 (j, u) (List.mem_cons_of_mem _ (List.mem_filter.mpr ⟨allv_in g2, ?_⟩))⟩
    have e1 : (j == i) = false := by simpa using h1
    have e2 : (j + 1 == i && u.category == 2) = false := by
      by_cases z : j + 1 = i
      · have := cat2_f (h3 z)
        rw [g1.cat, this]
        simp
      · simp [z]
    simp only [e1, e2]
    decide
/-- behind a call, whatever its kind -/
theorem aft_core {d : Nat} {p : Program} {l : Launch} {e : Env} {R : Room} {s : State} {m : MethodId} {args : Array Value} {below : List Frame} {meth : Method} {c : Code} {Q : State → Prop} {G : GP} {ad0 : List Nat} {res : RS} {jmp : Nat → KK} {nxt : KK} {lo r : List Value} {k n : Nat} {q : RS} {ho : Option (List (Nat × Nat × Nat))}
    (hC : CX M p l s m args meth c) (hE : SE I G s s.heap) (hR : RO d R res) (hQ : HQ Q G ad0 res below args s) (hH : HOk M C pc ho)
    (hn : ∀ lo sk α nx k n, nxt lo sk α nx k n = some res → WG p l e R s m args below meth c Q G ad0 M.2.2.1 res (pc + 3) lo sk α nx k n)
    (hj : ∀ j lo sk α nx k n, jmp j lo sk α nx k n = some res → WG p l e R s m args below meth c Q G ad0 M.2.2.1 res (pcAt C j) lo sk α nx k n)
    (h : aft ho jmp nxt lo r k n q = some res) : (k + rK q ≤ rK res ∧ n + rN q ≤ rN res) ∧ ∀ (ad : List Nat) (H : Heap) (locs : List Loc) (ls : Array Slot) (us st0 : List Value) (a : Array Value), PX ad0 ad → va_S (OA (gb G)) s.heap H locs → RLo ad (gs G) lo ls M.2.2.1 → RVs ad (gs G) r us →
      vx_Run p l e R s m args below meth c H locs k n (rK q) (rN q) (F0 m pc ls st0) us (QCr G ad q a) (XCr G ad q) (OA (gb G)) → W p l e R s m args below meth c H locs k n Q (F0 m pc ls st0) := by
  cases h1 : Nat.beq q.1 1 with
  | true =>
    have e1 := Nat.eq_of_beq_eq_true h1
    unfold aft at h
    rw [h1] at h
    have h : nxt lo (match q.2.2.1 with | some v => v :: r | none => r) (rA q) (rX q) (k + rK q) (n + rN q) = some res := h
    obtain ⟨w1, w2⟩ := hn _ _ _ _ _ _ h
    refine ⟨w1, fun ad H locs ls us st0 a hp hS hl hr hrun => ?_⟩
    refine vx_callG hrun hS (fun q z => z) (fun st oc t hq => hq.2) (fun E st t hq => hq.2) (fun E ce q9 st t H1 locs1 ht hx hS1 hce hcv hcl => ?_) (fun v st t H1 locs1 ht hq hS1 => ?_)
    · obtain ⟨⟨_, h2, _⟩, _⟩ := hx
      omega
    · obtain ⟨⟨ad', w, -, e2, e3, e4, e5, e6⟩, -⟩ := hq
      have e2 : v = w := by cases e2; rfl
      subst e2
      rw [ht] at e6
      refine w2 ad' H1 locs1 ls _ ⟨hp.tr e4, e5, hS1, e6, hl.mono e4, ?_⟩
      cases hv : q.2.2.1 with
      | none =>
        rw [hv] at e3
        have e3 : v = none := e3
        subst e3
        exact hr.mono e4
      | some x =>
        rw [hv] at e3
        obtain ⟨y, rfl, hxy⟩ := e3
        exact ⟨y, us, rfl, hxy, hr.mono e4⟩
  | false =>
    unfold aft at h
    rw [h1] at h
    have h : bB (Nat.beq q.1 2) (match ho with
      | some hs => oG (hfd hs q.2.1) (fun h => jmp h.2 (lst1 lo h.1 uns) [] (rA q) (rX q) (k + rK q) (n + rN q))
      | none => some (2, q.2.1, none, [], [], rA q, rX q, k + rK q, n + rN q)) none = some res := h
    cases h2 : Nat.beq q.1 2 with
    | false => rw [h2] at h; cases h
    | true =>
      rw [h2] at h
      have e1 := Nat.eq_of_beq_eq_true h2
      cases ho with
      | none =>
        have h : some (2, q.2.1, none, [], [], rA q, rX q, k + rK q, n + rN q) = some res := h
        have h := Option.some.inj h
        subst h
        refine ⟨⟨Nat.le_refl _, Nat.le_refl _⟩, fun ad H locs ls us st0 a hp hS hl hr hrun => ?_⟩
        rw [hQ.use (by show (2 : Nat) ≠ 0; decide)]
        have hno : ∀ x ∈ c.exceptionTable.toList, False := by
          have c10 := hC.2.2.2.2.2.2.2.2.2
          have hH : M.2.2.2.2 = [] := hH
          rw [c10, hH]
          intro x hx
          cases hx
        refine vx_callG hrun hS (fun q z => z) (fun st oc t hq => hq.2) (fun E st t hq => hq.2) (fun E ce q9 st t H1 locs1 ht hx hS1 hce hcv hcl => ?_) (fun v st t H1 locs1 ht hq hS1 => ?_)
        · obtain ⟨⟨ad', -, e3, e4, e5, e6⟩, -⟩ := hx
          rw [ht] at e6
          exact vx_out (fun x hx => (hno x hx).elim) hC.2.2.2.2.2.2.1 hce hcv hcl (fun t2 ht2 _ => ⟨⟨ad', rfl, e3, hp.tr e4, e5, by rw [ht2]; exact e6⟩, hS1.F ht2⟩) (fun z hz => hS1.2.2 z hz) (Nat.le_refl _) (Nat.le_refl _)
        · obtain ⟨⟨_, _, h3, _⟩, _⟩ := hq
          omega
      | some hs =>
        have h : oG (hfd hs q.2.1) (fun h => jmp h.2 (lst1 lo h.1 uns) [] (rA q) (rX q) (k + rK q) (n + rN q)) = some res := h
        obtain ⟨hd, hf, h3⟩ := oG_some h
        obtain ⟨w1, w2⟩ := hj _ _ _ _ _ _ _ h3
        have hin := hfd_in hf
        obtain ⟨ct, hw, hall⟩ : HSok M C pc hs := hH
        obtain ⟨g1, g2, g3, hp0, g4, k4, g5, g6, g7⟩ := hall _ hin
        obtain ⟨pre, x, suf, x1, x2, x3, x4, x5, x6⟩ := fH_spec g1 hw g4
        refine ⟨w1, fun ad H locs ls us st0 a hp hS hl hr hrun => ?_⟩
        obtain ⟨c1, c2, c3, c4, c5, c6, c7, c8, c9, c10⟩ := hC
        obtain ⟨s1, s2, s3, s4, s5, s6, s7, s8, s9, s10, s11, s12⟩ := hE
        refine vx_callG hrun hS (fun q z => z) (fun st oc t hq => hq.2) (fun E st t hq => hq.2) (fun E ce q9 st t H1 locs1 ht hx hS1 hce hcv hcl => ?_) (fun v st t H1 locs1 ht hq hS1 => ?_)
        · obtain ⟨⟨ad', -, e3, e4, e5, e6⟩, -⟩ := hx
          rw [ht] at e6
          subst e3
          refine vx_catch (name := xnm q.2.1) c5 pre x suf (by rw [c10]; exact x1) (fun z hz => ?_) x3 x4 (c6 _ x5) (s2.use g2) hce hcv hcl ?_
          · rcases x2 z hz with y | ⟨y1, j, y2, y3, y4⟩
            · exact Or.inl y
            · exact Or.inr ⟨y1, xnm j, c6 _ y4, s12 _ _ g1 y2 (fun z => y3 z.symm)⟩
          · rw [x6]
            have hal : lv_has ls M.2.2.1 (allv ls) := by
              have := allv_has hl.2.1
              rw [hl.1] at this
              exact this
            refine lv_astore_n c1 c2 g6 g5 hal g3 rfl (fun ls' h' => ?_)
            rw [← g7]
            exact w2 ad' H1 locs1 ls' [] ⟨hp.tr e4, e5, hS1, e6, (hl.mono e4).gone h', rfl⟩
        · obtain ⟨⟨_, _, h3, _⟩, _⟩ := hq
          omega
end CALL3
