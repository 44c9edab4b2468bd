/-! ===== symbolic runs: branches, forgetting, cutting, widening ===== -/
noncomputable section
def zipB {β α : Type} (f : β → α → α) (bs : List β) : List α → List α := List.rec (motive := fun _ => List α → List α) (fun _ => []) (fun b _ ih xs => List.rec (motive := fun _ => List α) [] (fun x t _ => f b x :: ih t) xs) bs
def fgL (ml : List Bool) (lo : List Value) : List Value := zipB (fun b v => bB b uns v) ml lo
def fgR (mr : List Bool) (r : List AC) : List AC := zipB (fun b c => bB b (200, []) c) mr r
def fgH (mh : List (List Bool)) (α : AH) : AH := zipB fgR mh α
def allB {α : Type} (f : α → Bool) (l : List α) : Bool := List.rec (motive := fun _ => Bool) true (fun a _ ih => bB (f a) ih false) l
def okV (n : Nat) (v : Value) : Bool := match v with | .ref k => bB (Nat.blt k n) true (Nat.ble 1000000 k) | _ => true
def okC (n : Nat) (c : AC) : Bool := bB (Nat.beq c.1 200) true (allB (okV n) c.2)
def okH (n : Nat) (α : AH) : Bool := bB (Nat.ble α.length (n / 16 + 1)) (bB (match nth α (n / 16) with | some r => Nat.ble r.length (n % 16) | none => true) (allB (fun r => allB (okC n) r) α) false) false
/-- jumps to j alone -/
def jmo (j : Nat) (K : KK) : Nat → KK := fun j1 => @ite _ (j1 = j) (Classical.propDecidable _) K (fun _ _ _ _ _ _ => none)
end
theorem jmo_eq {j : Nat} {K : KK} : jmo j K j = K := @if_pos _ (Classical.propDecidable _) rfl _ _ _
theorem jmo_to {j j1 : Nat} {K : KK} {lo sk : List Value} {α : AH} {nx k n : Nat} {r : RS} (h : jmo j K j1 lo sk α nx k n = some r) : j1 = j ∧ K lo sk α nx k n = some r := by
  unfold jmo at h
  by_cases hc : j1 = j
  · rw [@if_pos _ (Classical.propDecidable _) hc] at h
    exact ⟨hc, h⟩
  · rw [@if_neg _ (Classical.propDecidable _) hc] at h
    cases h
theorem zipB_get {β α : Type} {f : β → α → α} : ∀ {bs : List β} {xs : List α} {i : Nat} {y : α}, (zipB f bs xs)[i]? = some y → ∃ b x, bs[i]? = some b ∧ xs[i]? = some x ∧ y = f b x
  | [], _, i, y, h => by
    have h : ([] : List α)[i]? = some y := h
    simp at h
  | _ :: _, [], i, y, h => by
    have h : ([] : List α)[i]? = some y := h
    simp at h
  | b :: bs, x :: xs, 0, y, h => by
    have h : some (f b x) = some y := h
    exact ⟨b, x, rfl, rfl, (Option.some.inj h).symm⟩
  | b :: bs, x :: xs, i + 1, y, h => by
    have h : (zipB f bs xs)[i]? = some y := h
    obtain ⟨b1, x1, h1, h2, h3⟩ := zipB_get h
    exact ⟨b1, x1, h1, h2, h3⟩
theorem allB_at {α : Type} {f : α → Bool} : ∀ {l : List α}, allB f l = true → ∀ {i : Nat} {a : α}, l[i]? = some a → f a = true
  | [], _, i, a, h => by simp at h
  | b :: l, h, i, a, hi => by
    have h : bB (f b) (allB f l) false = true := h
    obtain ⟨h1, h2⟩ := bB_t h
    cases i with
    | zero =>
      have : b = a := Option.some.inj hi
      rw [← this]
      exact h1
    | succ i => exact allB_at h2 (i := i) hi
theorem RH.fg {D : va_G} {c3 : C3} {A : Nat → Prop} {ad : List Nat} {sp : Nat → Nat} {α : AH} {H : Heap} (mh : List (List Bool)) (h : RH D c3 A ad sp α H) : RH D c3 A ad sp (fgH mh α) H := by
  obtain ⟨ws, h1, h2, h3, h4⟩ := h
  refine ⟨ws, h1, h2, h3, fun k c hc hn => h4 k c ?_ hn⟩
  rw [hget_eq] at hc ⊢
  cases hb : (fgH mh α)[k / 16]? with
  | none => rw [hb] at hc; cases hc
  | some rb =>
    rw [hb] at hc
    have hc : rb[k % 16]? = some c := hc
    obtain ⟨m, ra, -, e2, e3⟩ := zipB_get hb
    subst e3
    obtain ⟨b, x, -, e5, e6⟩ := zipB_get hc
    rw [e2]
    show ra[k % 16]? = some c
    cases b with
    | true =>
      have e6 : c = (200, []) := e6
      rw [e6] at hn
      exact absurd rfl hn
    | false =>
      have e6 : c = x := e6
      rw [e6]
      exact e5
theorem RLo.fg {ad : List Nat} {sp : Nat → Nat} {lo : List Value} {ls : Array Slot} {nL : Nat} (ml : List Bool) (h : RLo ad sp lo ls nL) : RLo ad sp (fgL ml lo) ls nL := by
  refine ⟨h.1, h.2.1, fun i v hv hk => ?_⟩
  obtain ⟨b, x, -, e2, e3⟩ := zipB_get hv
  cases b with
  | true =>
    have e3 : v = uns := e3
    rw [e3] at hk
    cases hk
  | false =>
    have e3 : v = x := e3
    rw [← e3] at e2
    exact h.2.2 i v e2 hk
theorem RV.cut {ad : List Nat} {sp : Nat → Nat} {n : Nat} {v w : Value} (ho : okV n v = true) (h : RV ad sp v w) : RV (ad.take n) sp v w := by
  cases v with
  | ref k =>
    obtain ⟨a, h1, h2⟩ := h
    refine ⟨a, ?_, h2⟩
    have ho : bB (Nat.blt k n) true (Nat.ble 1000000 k) = true := ho
    unfold lk at h1 ⊢
    by_cases hk : k < 1000000
    · rw [if_pos hk] at h1 ⊢
      have hn : k < n := by
        cases hb : Nat.blt k n with
        | true => exact Nat.le_of_ble_eq_true hb
        | false =>
          rw [hb] at ho
          exact absurd hk (Nat.not_lt.mpr (Nat.le_of_ble_eq_true ho))
      rw [List.getElem?_take_of_lt hn]
      exact h1
    · rw [if_neg hk] at h1 ⊢
      exact h1
  | _ => exact h
theorem RVs.cut {ad : List Nat} {sp : Nat → Nat} {n : Nat} : ∀ {vs ws : List Value}, allB (okV n) vs = true → RVs ad sp vs ws → RVs (ad.take n) sp vs ws
  | [], _, _, h => h
  | v :: vs, ws, ho, ⟨w, us, e, h1, h2⟩ => by
    have ho : bB (okV n v) (allB (okV n) vs) false = true := ho
    obtain ⟨o1, o2⟩ := bB_t ho
    exact ⟨w, us, e, h1.cut o1, RVs.cut o2 h2⟩
theorem RE.cut {ad : List Nat} {sp : Nat → Nat} {c3 : C3} {n : Nat} {c : AC} {e : va_E} (hn : c.1 ≠ 200) (ho : okC n c = true) (hv : RE ad sp c3 c e) : RE (ad.take n) sp c3 c e := by
  have ho : allB (okV n) c.2 = true := by
    unfold okC at ho
    cases hb : Nat.beq c.1 200 with
    | true => exact absurd (Nat.eq_of_beq_eq_true hb) hn
    | false => rw [hb] at ho; exact ho
  rcases hv with ⟨h1, vs, h2, h3⟩ | h1 | h1 | ⟨h1, f, h2, h3⟩
  · exact Or.inl ⟨h1, vs, h2, h3.cut ho⟩
  · exact Or.inr (Or.inl h1)
  · exact Or.inr (Or.inr (Or.inl h1))
  · exact Or.inr (Or.inr (Or.inr ⟨h1, f, h2, fun j v hj => (h3 j v hj).cut (allB_at ho hj)⟩))
theorem okH_at {n : Nat} {α : AH} (h : okH n α = true) {k : Nat} {c : AC} (hc : hget α k = some c) : k < n ∧ okC n c = true := by
  unfold okH at h
  obtain ⟨h1, h2⟩ := bB_t h
  obtain ⟨h3, h4⟩ := bB_t h2
  have h1 : α.length ≤ n / 16 + 1 := Nat.le_of_ble_eq_true h1
  rw [hget_eq] at hc
  cases hb : α[k / 16]? with
  | none => rw [hb] at hc; cases hc
  | some rb =>
    rw [hb] at hc
    have hc : rb[k % 16]? = some c := hc
    refine ⟨?_, allB_at (allB_at h4 hb) hc⟩
    have l1 : k / 16 < α.length := (List.getElem?_eq_some_iff.mp hb).1
    have l2 : k % 16 < rb.length := (List.getElem?_eq_some_iff.mp hc).1
    rcases Nat.lt_or_ge (k / 16) (n / 16) with a | a
    · omega
    · have e : k / 16 = n / 16 := by omega
      rw [nth_eq, ← e, hb] at h3
      have h3 : rb.length ≤ n % 16 := Nat.le_of_ble_eq_true (by rw [e] at *; exact h3)
      omega
theorem RH.cut {D : va_G} {c3 : C3} {A : Nat → Prop} {ad : List Nat} {sp : Nat → Nat} {α : AH} {H : Heap} {n : Nat} (ho : okH n α = true) (h : RH D c3 A ad sp α H) : RH D c3 A (ad.take n) sp α H := by
  obtain ⟨ws, h1, h2, h3, h4⟩ := h
  have key : ∀ (k : Nat) (q : Nat × va_E), (ws.take n)[k]? = some q → ws[k]? = some q := fun k q hq => by
    rw [List.getElem?_take] at hq
    split at hq
    · exact hq
    · cases hq
  refine ⟨ws.take n, by rw [List.map_take, h1], fun k q hq => h2 k q (key k q hq), ⟨fun i j p q hp hq => h3.1 i j p q (key i p hp) (key j q hq), fun k q hq => h3.2 k q (key k q hq)⟩, fun k c hc hn => ?_⟩
  obtain ⟨g1, q, g2, g3⟩ := h4 k c hc hn
  obtain ⟨o1, o2⟩ := okH_at ho hc
  exact ⟨g1, q, by rw [List.getElem?_take_of_lt o1]; exact g2, g3.cut hn o2⟩
theorem RLo.cut {ad : List Nat} {sp : Nat → Nat} {lo : List Value} {ls : Array Slot} {nL n : Nat} (ho : allB (okV n) lo = true) (h : RLo ad sp lo ls nL) : RLo (ad.take n) sp lo ls nL :=
  ⟨h.1, h.2.1, fun i v hv hk => by
    obtain ⟨w, g1, g2⟩ := h.2.2 i v hv hk
    exact ⟨w, g1.cut (allB_at ho hv), g2⟩⟩
section SYM
variable {I : EVT} {M : MI} {C : List (Nat × OP)} {z : Prop}
theorem wga_jmp (hA : AllS I M C C) {d : Nat} {cf : CF} (hcf : CFok I d cf) {res : RS} {i j pc0 : Nat} {op : OP} {tl : List (Nat × OP)} (hi : drp i C = (pc0, op) :: tl) {lo sk lo' sk' : List Value} {α α' : AH} {nx k n nx' k' n' : Nat} (hop : op cf (jmo j (nxo lo' sk' α' nx' k' n' res)) (fun _ _ _ _ _ _ => none) lo sk α nx k n = some res) (hw : WGA I M C z d res j lo' sk' α' nx' k' n') : WGA I M C z d res i lo sk α nx k n := by
  intro p l e R s m args below meth c Q G ad0 hC hE hR hQ hz
  have hAj := AllS.drp I i hA
  rw [hi] at hAj
  have hpc : pcAt C i = pc0 := by unfold pcAt; rw [hi]; rfl
  have h1 := hAj.1
  rw [hpc]
  refine h1 d cf p l e R s m args below meth c Q G ad0 res _ _ lo sk α nx k n hC hE hR hQ hcf (fun lo1 sk1 α1 nx1 k1 n1 hx => by cases hx) (fun j1 lo1 sk1 α1 nx1 k1 n1 hx => ?_) hop
  obtain ⟨e1, hx2⟩ := jmo_to hx
  rw [e1]
  have := nxo_to hx2
  cases this
  exact hw p l e R s m args below meth c Q G ad0 hC hE hR hQ hz
theorem cfn_ok {d : Nat} : CFok I d (fun _ _ _ _ => none) := fun _ _ _ _ _ _ _ h => by cases h
theorem wga_ifT (hA : AllS I M C C) {d : Nat} {res : RS} {i j pc0 : Nat} {f : Int32 → Bool} {tl : List (Nat × OP)} (hi : drp i C = (pc0, i_if f j) :: tl) {x : Int32} {lo r : List Value} {α : AH} {nx k n : Nat} (hg : f x = true) (hw : WGA I M C z d res j lo r α nx k n) : WGA I M C z d res i lo (.int x :: r) α nx k n := by
  refine wga_jmp hA cfn_ok hi ?_ hw
  show (@bB KK (f x) _ _) lo r α nx k n = some res
  rw [hg]
  show jmo j _ j lo r α nx k n = some res
  rw [jmo_eq]
  exact nxo_eq
theorem wga_ifF (hA : AllS I M C C) {d : Nat} {res : RS} {i j pc0 : Nat} {f : Int32 → Bool} {tl : List (Nat × OP)} (hi : drp i C = (pc0, i_if f j) :: tl) {x : Int32} {lo r : List Value} {α : AH} {nx k n : Nat} (hg : f x = false) (hw : WGA I M C z d res (i + 1) lo r α nx k n) : WGA I M C z d res i lo (.int x :: r) α nx k n := by
  refine wga_op hA cfn_ok hi ?_ hw
  show (@bB KK (f x) _ _) lo r α nx k n = some res
  rw [hg]
  exact nxo_eq
theorem wga_icT (hA : AllS I M C C) {d : Nat} {res : RS} {i j pc0 : Nat} {f : Int32 → Int32 → Bool} {tl : List (Nat × OP)} (hi : drp i C = (pc0, i_ic f j) :: tl) {x y : Int32} {lo r : List Value} {α : AH} {nx k n : Nat} (hg : f x y = true) (hw : WGA I M C z d res j lo r α nx k n) : WGA I M C z d res i lo (.int y :: .int x :: r) α nx k n := by
  refine wga_jmp hA cfn_ok hi ?_ hw
  show (@bB KK (f x y) _ _) lo r α nx k n = some res
  rw [hg]
  show jmo j _ j lo r α nx k n = some res
  rw [jmo_eq]
  exact nxo_eq
theorem wga_icF (hA : AllS I M C C) {d : Nat} {res : RS} {i j pc0 : Nat} {f : Int32 → Int32 → Bool} {tl : List (Nat × OP)} (hi : drp i C = (pc0, i_ic f j) :: tl) {x y : Int32} {lo r : List Value} {α : AH} {nx k n : Nat} (hg : f x y = false) (hw : WGA I M C z d res (i + 1) lo r α nx k n) : WGA I M C z d res i lo (.int y :: .int x :: r) α nx k n := by
  refine wga_op hA cfn_ok hi ?_ hw
  show (@bB KK (f x y) _ _) lo r α nx k n = some res
  rw [hg]
  exact nxo_eq
theorem wga_fgt {d : Nat} {res : RS} {i : Nat} {lo sk : List Value} {α : AH} {nx k n : Nat} (ml : List Bool) (mh : List (List Bool)) (hw : WGA I M C z d res i (fgL ml lo) sk (fgH mh α) nx k n) : WGA I M C z d res i lo sk α nx k n := by
  intro p l e R s m args below meth c Q G ad0 hC hE hR hQ hz
  obtain ⟨w1, w2⟩ := hw p l e R s m args below meth c Q G ad0 hC hE hR hQ hz
  refine ⟨w1, fun ad H locs ls rst hv => ?_⟩
  obtain ⟨a1, a2, a3, a4, a5, a6⟩ := hv
  exact w2 ad H locs ls rst ⟨a1, a2, a3, a4.fg mh, a5.fg ml, a6⟩
theorem wga_cut {d : Nat} {res : RS} {i : Nat} {lo sk : List Value} {α : AH} {nx k n : Nat} (hz : z) (n0 : Nat) (h0 : n0 ≤ nx) (h1 : allB (okV n0) lo = true) (h2 : allB (okV n0) sk = true) (h3 : okH n0 α = true) (hw : WGA I M C z d res i lo sk α n0 k n) : WGA I M C z d res i lo sk α nx k n := by
  intro p l e R s m args below meth c Q G ad0 hC hE hR hQ hz0
  obtain ⟨w1, w2⟩ := hw p l e R s m args below meth c Q G ad0 hC hE hR hQ hz0
  refine ⟨w1, fun ad H locs ls rst hv => ?_⟩
  obtain ⟨a1, a2, a3, a4, a5, a6⟩ := hv
  have hn := hz0 hz
  subst hn
  exact w2 (ad.take n0) H locs ls rst ⟨⟨_, (List.nil_append _).symm⟩, by rw [List.length_take, a2]; exact Nat.min_eq_left h0, a3, a4.cut h3, a5.cut h1, a6.cut h2⟩
theorem wga_widen {d : Nat} {res : RS} {i : Nat} {lo sk : List Value} {α : AH} {nx k n k1 n1 : Nat} (h1 : k ≤ k1) (h2 : n ≤ n1) (hw : WGA I M C z d res i lo sk α nx k1 n1) : WGA I M C z d res i lo sk α nx k n := by
  intro p l e R s m args below meth c Q G ad0 hC hE hR hQ hz
  obtain ⟨w1, w2⟩ := hw p l e R s m args below meth c Q G ad0 hC hE hR hQ hz
  exact ⟨⟨Nat.le_trans h1 w1.1, Nat.le_trans h2 w1.2⟩, fun ad H locs ls rst hv T hT X => w2 ad H locs ls rst hv T hT (stand_widen X h1 h2)⟩
/-- exactly so: a run on symbols (the kernel has compared the two sides as closed functions) -/
theorem wga_rn (hA : AllS I M C C) {d : Nat} {cf : CF} (hcf : CFok I d cf) {res : RS} (N i r' i' : Nat) {lo sk lo' sk' : List Value} {α α' : AH} {nx k n nx' k' n' : Nat} (h : exe cf C N (drp i C) lo sk α nx k n = some (0, r', none, lo', sk', α', nx', k', n')) (hr : C.length - i' = r') (hw : WGA I M C z d res i' lo' sk' α' nx' k' n') : WGA I M C z d res i lo sk α nx k n := wga_seg hA hcf h hr hw
theorem wga_rf (hA : AllS I M C C) {d : Nat} {cf : CF} (hcf : CFok I d cf) {v : Option Value} {α' : AH} {nx' k' n' : Nat} (N i : Nat) {lo sk : List Value} {α : AH} {nx k n : Nat} (h : exe cf C N (drp i C) lo sk α nx k n = some (retR v α' nx' k' n')) : WGA I M C z d (retR v α' nx' k' n') i lo sk α nx k n := wga_fin hA hcf h (by show (1 : Nat) ≠ 0; decide)
/-- the same of a method that has nothing from its caller -/
theorem cok_ofZ {d : Nat} {as : List Value} {α : AH} {r : RS} (hpl : plainName M.1.cls = true) (h0 : pcAt C 0 = 0) (hcat : catS as ≤ M.2.2.1) (hw : WGA I M C True d r 0 (mkLo M.2.2.1 as) [] α 0 0 0) : COK I M (d + 1) as α 0 r := by
  intro l G ad aw hst hav hlen
  have key : ∀ (p : Program) (e : Env) (s : State) (m : MethodId) (args : Array Value) (below : List Frame) (meth : Method) (c : Code), CX M p l s m args meth c → args = aw.toArray → SE I G s s.heap → RH (gD G) (gc G) (OA (gb G)) ad (gs G) α s.heap →
      W p l e (rmC (d + 1) (rK r) (rN r)) s m args below meth c s.heap [] 0 0 (vx_MQ below (QCr G ad r) (XCr G ad r) args s (rK r) (rN r) (OA (gb G))) (entryFrame m args M.2.2.1) := by
    intro p e s m args below meth c hC hargs hE hH
    have hw1 := hw p l e (rmC (d + 1) (rK r) (rN r)) s m args below meth c (vx_MQ below (QCr G ad r) (XCr G ad r) args s (rK r) (rN r) (OA (gb G))) G ad hC hE ⟨Nat.le_of_eq (by show d + 6 = d + 1 + 5; omega), Nat.le_refl _, Nat.le_refl _, Nat.le_refl _⟩ (fun _ => rfl) (fun _ => List.length_eq_zero_iff.mp hlen)
    subst hargs
    have hl := lv_entry aw (n := M.2.2.1) (by rw [sl_len, hav.csum]; exact hcat)
    rw [lg_entry_eq]
    rw [h0] at hw1
    exact hw1.2 ad s.heap [] _ [] ⟨PX.rf, hlen, va_S.rf, hH, mkLo_RLo hav hl, rfl⟩
  cases hhh : M.2.2.2.2 with
  | nil =>
    refine vx_ofW (cc := M.2.1) (maxL := M.2.2.1) (ret := M.2.2.2.1) (ws' := lw_all) hpl (wsM_nil hhh) ?_
    intro p e s m args below meth c s₁ B hml hnt hv
    have hts0 := atoms_spec (ws := wsM M) B.pre
    refine key p e s m args below meth c ⟨B.exec, B.bytes, hml, B.returns, findClass_of_methodNamed B.named, fun w h => hts0 w (by unfold wsM; exact List.mem_cons_of_mem _ h), B.notSynchronized, hst, (name_of_methodNamed B.named B.method).1, ?_⟩ hv.1 hv.2.1 hv.2.2
    rw [hhh]
    show _ = []
    exact List.eq_nil_iff_forall_not_mem.mpr (fun x hx => hnt x hx)
  | cons q0 tl0 =>
    have hws : wsM M = Cond.codeWith M.1 M.2.1 M.2.2.1 M.2.2.2.1 (q0 :: tl0) :: lw_all := by
      unfold wsM
      rw [hhh]
    refine vx_ofWH (cc := M.2.1) (maxL := M.2.2.1) (ret := M.2.2.2.1) (hh := q0 :: tl0) (ws' := lw_all) hpl hws ?_
    intro p e s m args below meth c s₁ B hml hv
    have hts0 := atoms_spec (ws := wsM M) B.pre
    refine key p e s m args below meth c ⟨B.exec, B.bytes, hml, B.returns, findClass_of_methodNamed B.named, fun w h => hts0 w (by unfold wsM; exact List.mem_cons_of_mem _ h), B.notSynchronized, hst, (name_of_methodNamed B.named B.method).1, ?_⟩ hv.1 hv.2.1 hv.2.2
    rw [hhh]
    exact vx_table (x := objectInit) B (hts0 _ (by rw [hws]; exact List.mem_cons_self))
end SYM
section SYM2
variable {I : EVT} {M : MI} {C : List (Nat × OP)} {z : Prop}
theorem wga_mul0 (hA : AllS I M C C) {d : Nat} {res : RS} {i pc0 : Nat} {tl : List (Nat × OP)} (hi : drp i C = (pc0, i_lb (fun x y => x * y)) :: tl) {y : Int64} {lo r : List Value} {α : AH} {nx k n : Nat} (hw : WGA I M C z d res (i + 1) lo (.long 0 :: r) α nx k n) : WGA I M C z d res i lo (.long y :: .long 0 :: r) α nx k n := by
  refine wga_op hA cfn_ok hi ?_ hw
  show nxo lo (.long 0 :: r) α nx k n res lo (.long (0 * y) :: r) α nx k n = some res
  rw [Int64.zero_mul]
  exact nxo_eq
theorem wga_div0 (hA : AllS I M C C) {d : Nat} {res : RS} {i pc0 : Nat} {tl : List (Nat × OP)} (hi : drp i C = (pc0, i_ld (fun x y => x / y)) :: tl) {y : Int64} (hy : eqL y 0 = false) {lo r : List Value} {α : AH} {nx k n : Nat} (hw : WGA I M C z d res (i + 1) lo (.long 0 :: r) α nx k n) : WGA I M C z d res i lo (.long y :: .long 0 :: r) α nx k n := by
  refine wga_op hA cfn_ok hi ?_ hw
  show gB (bB (eqL y 0) false true) (nxo lo (.long 0 :: r) α nx k n res lo (.long (0 / y) :: r) α nx k n) = some res
  rw [hy]
  show nxo lo (.long 0 :: r) α nx k n res lo (.long (0 / y) :: r) α nx k n = some res
  rw [Int64.zero_div]
  exact nxo_eq
theorem ne_pos {w : Int32} (h : ltI 0 w = true) : eqL (Int32.toInt64 w) 0 = false := by
  cases hb : eqL (Int32.toInt64 w) 0 with
  | false => rfl
  | true =>
    have h1 : Int32.toInt64 w = 0 := of_decide_eq_true hb
    have h2 : (Int32.toInt64 w).toInt = 0 := by rw [h1]; rfl
    rw [Int32.toInt_toInt64] at h2
    have h3 : w = 0 := Int32.toInt_inj.mp (h2.trans rfl)
    rw [h3] at h
    exact absurd (of_decide_eq_true h) (by decide)
end SYM2
