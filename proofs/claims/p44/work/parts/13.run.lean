/-! ===== runs compared with what is written; forgetting; big calls ===== -/
noncomputable section
def mkA2 (as : List Value) : List Value := List.rec (motive := fun _ => List Value) [] (fun v _ ih => v :: bB (cat2 v) (uns :: ih) ih) as
def pad : Nat → List Value → List Value := Nat.rec (motive := fun _ => List Value → List Value) (fun l => l) (fun _ ih l => List.rec (motive := fun _ => List Value) (uns :: ih []) (fun v t _ => v :: ih t) l)
def runC (pr : List (Nat × List (Nat × OP))) : Nat → CF := Nat.rec (motive := fun _ => CF) (fun _ _ _ _ => none) (fun _ ih y as α nx => oG (nth pr y) (fun q => gB (Nat.ble (catS as) q.1) (oG (exe ih q.2 2000000 q.2 (pad q.1 (mkA2 as)) [] α nx 0 0) (fun r => gB (Nat.ble 1 r.1) (some r)))))
/-- the second says no more than the first -/
def leV (a b : Value) : Bool := match b with
  | .int y => (match a with | .int x => eqI x y | _ => false)
  | .long y => (match a with | .long x => eqL x y | _ => false)
  | .null => (match a with | .null => true | _ => false)
  | .ref y => (match a with | .ref x => Nat.beq x y | _ => false)
  | .float y => (match a with | .float x => decide (x = y) | _ => false)
  | .double _ => false
  | .retAddr _ => true
def all2 {α : Type} (f : α → α → Bool) (l : List α) : List α → Bool := List.rec (motive := fun _ => List α → Bool) (fun m => match m with | [] => true | _ => false) (fun a _ ih m => match m with | [] => false | b :: m => bB (f a b) (ih m) false) l
def eqV (a b : Value) : Bool := bB (kn b) (leV a b) false
def leC (a b : AC) : Bool := bB (Nat.beq b.1 200) true (bB (Nat.beq a.1 b.1) (all2 eqV a.2 b.2) false)
def leH (a b : AH) : Bool := all2 (all2 leC) a b
def leO (a b : Option Value) : Bool := match b with
  | none => (match a with | none => true | _ => false)
  | some y => (match a with | some x => eqV x y | _ => false)
end
theorem all2_at {α : Type} {f : α → α → Bool} : ∀ {l m : List α}, all2 f l m = true → l.length = m.length ∧ ∀ (i : Nat) (a b : α), l[i]? = some a → m[i]? = some b → f a b = true
  | [], [], _ => ⟨rfl, fun i a b h => by simp at h⟩
  | [], _ :: _, h => by cases h
  | _ :: _, [], h => by cases h
  | x :: l, y :: m, h => by
    have h : bB (f x y) (all2 f l m) false = true := h
    cases hf : f x y with
    | false => rw [hf] at h; cases h
    | true =>
      rw [hf] at h
      obtain ⟨h1, h2⟩ := all2_at (l := l) (m := m) h
      refine ⟨by simp [h1], fun i a b ha hb => ?_⟩
      cases i with
      | zero =>
        have e1 : x = a := Option.some.inj ha
        have e2 : y = b := Option.some.inj hb
        rw [← e1, ← e2]
        exact hf
      | succ i => exact h2 i a b ha hb
theorem leV_eq {a b : Value} (h : leV a b = true) (hk : kn b = true) : a = b := by
  cases b with
  | int y =>
    cases a with
    | int x => rw [eqI_iff.mp h]
    | _ => cases h
  | long y =>
    cases a with
    | long x => rw [eqL_iff.mp h]
    | _ => cases h
  | null =>
    cases a with
    | null => rfl
    | _ => cases h
  | ref y =>
    cases a with
    | ref x => rw [Nat.eq_of_beq_eq_true h]
    | _ => cases h
  | float y =>
    cases a with
    | float x => rw [of_decide_eq_true h]
    | _ => cases h
  | double y => cases h
  | retAddr _ => cases hk
theorem eqV_eq {a b : Value} (h : eqV a b = true) : a = b := by
  unfold eqV at h
  cases hk : kn b with
  | false => rw [hk] at h; cases h
  | true =>
    rw [hk] at h
    exact leV_eq h hk
theorem all2_eq {l m : List Value} (h : all2 eqV l m = true) : l = m := by
  obtain ⟨h1, h2⟩ := all2_at h
  refine List.ext_getElem? (fun i => ?_)
  cases ha : l[i]? with
  | none =>
    have : l.length ≤ i := List.getElem?_eq_none_iff.mp ha
    exact (List.getElem?_eq_none (by omega)).symm
  | some a =>
    have hi : i < m.length := by rw [← h1]; exact (List.getElem?_eq_some_iff.mp ha).1
    have hb := List.getElem?_eq_getElem hi
    rw [hb, eqV_eq (h2 i a _ ha hb)]
theorem leC_eq {a b : AC} (h : leC a b = true) (hb : b.1 ≠ 200) : a = b := by
  unfold leC at h
  cases h2 : Nat.beq b.1 200 with
  | true => exact absurd (Nat.eq_of_beq_eq_true h2) hb
  | false =>
    rw [h2] at h
    have h : bB (Nat.beq a.1 b.1) (all2 eqV a.2 b.2) false = true := h
    cases h3 : Nat.beq a.1 b.1 with
    | false => rw [h3] at h; cases h
    | true =>
      rw [h3] at h
      exact Prod.ext (Nat.eq_of_beq_eq_true h3) (all2_eq h)
theorem leH_get {α β : AH} (h : leH α β = true) {k : Nat} {c : AC} (hc : hget β k = some c) (h2 : c.1 ≠ 200) : hget α k = some c := by
  obtain ⟨g1, g2⟩ := all2_at h
  rw [hget_eq] at hc ⊢
  cases hb : β[k / 16]? with
  | none => rw [hb] at hc; cases hc
  | some rb =>
    rw [hb] at hc
    have hc : rb[k % 16]? = some c := hc
    have hi : k / 16 < α.length := by rw [g1]; exact (List.getElem?_eq_some_iff.mp hb).1
    have ha := List.getElem?_eq_getElem hi
    have hr := g2 _ _ _ ha hb
    obtain ⟨g3, g4⟩ := all2_at hr
    have hj : k % 16 < (α[k / 16]).length := by rw [g3]; exact (List.getElem?_eq_some_iff.mp hc).1
    have hca := List.getElem?_eq_getElem hj
    rw [ha]
    show (α[k / 16])[k % 16]? = some c
    rw [hca, leC_eq (g4 _ _ _ hca hc) h2]
theorem RH.le {D : va_G} {c3 : C3} {A : Nat → Prop} {ad : List Nat} {sp : Nat → Nat} {α β : AH} {H : Heap} (h : RH D c3 A ad sp α H) (hl : leH α β = true) : RH D c3 A ad sp β H := by
  obtain ⟨ws, h1, h2, h3, h4⟩ := h
  exact ⟨ws, h1, h2, h3, fun k c hc hn => h4 k c (leH_get hl hc hn) hn⟩
theorem RLo.le {ad : List Nat} {sp : Nat → Nat} {lo lo' : List Value} {ls : Array Slot} {nL : Nat} (h : RLo ad sp lo ls nL) (hl : all2 leV lo lo' = true) : RLo ad sp lo' ls nL := by
  obtain ⟨g1, g2⟩ := all2_at hl
  refine ⟨h.1, h.2.1, fun i v hv hk => ?_⟩
  have hi : i < lo.length := by rw [g1]; exact (List.getElem?_eq_some_iff.mp hv).1
  have ha := List.getElem?_eq_getElem hi
  have e1 := leV_eq (g2 i _ _ ha hv) hk
  rw [e1] at ha
  exact h.2.2 i v ha hk
theorem mkA2_eq (as : List Value) : mkA2 as = mkA as := by
  induction as with
  | nil => rfl
  | cons v as ih =>
    show v :: bB (cat2 v) (uns :: mkA2 as) (mkA2 as) = v :: bB (cat2 v) (uns :: mkA as) (mkA as)
    rw [ih]
theorem pad_eq : ∀ (n : Nat) (l : List Value), pad n l = l ++ List.replicate (n - l.length) uns
  | 0, l => by
    show l = _
    rw [Nat.zero_sub]
    simp
  | n + 1, [] => by
    show uns :: pad n [] = _
    rw [pad_eq n []]
    rfl
  | n + 1, v :: t => by
    show v :: pad n t = _
    rw [pad_eq n t]
    simp
theorem padA_eq {n : Nat} {as : List Value} : pad n (mkA2 as) = mkLo n as := by
  rw [pad_eq, mkA2_eq]
  rfl
noncomputable section
/-- paused at r' from the end, in a state that says at least this -/
def chkS (o : Option RS) (r' : Nat) (lo sk : List Value) (α : AH) (nx k n : Nat) : Bool := match o with
  | some (0, r, none, lo1, sk1, α1, nx1, k1, n1) => bB (Nat.beq r r') (bB (all2 leV lo1 lo) (bB (all2 eqV sk1 sk) (bB (Nat.beq nx1 nx) (bB (Nat.beq k1 k) (bB (Nat.beq n1 n) (leH α1 α) false) false) false) false) false) false
  | _ => false
/-- returned v, in a heap that says at least this -/
def chkF (o : Option RS) (v : Option Value) (α : AH) (nx k n : Nat) : Bool := match o with
  | some (1, _, v1, _, _, α1, nx1, k1, n1) => bB (leO v1 v) (bB (Nat.beq nx1 nx) (bB (Nat.beq k1 k) (bB (Nat.beq n1 n) (leH α1 α) false) false) false) false
  | _ => false
end
theorem bB_t {a b : Bool} (h : bB a b false = true) : a = true ∧ b = true := by
  cases a with
  | false => cases h
  | true => exact ⟨rfl, h⟩
abbrev retR (v : Option Value) (α : AH) (nx k n : Nat) : RS := (1, 0, v, [], [], α, nx, k, n)
section CHAIN2
variable {I : EVT} {M : MI} {C : List (Nat × OP)} {z : Prop}
theorem W.imp {p : Program} {l : Launch} {e : Env} {R : Room} {s : State} {m : MethodId} {args : Array Value} {below : List Frame} {meth : Method} {c : Code} {H : Heap} {locs : List Loc} {cells slots : Nat} {Q Q' : State → Prop} {g : JFrame} (h : W p l e R s m args below meth c H locs cells slots Q g) (hq : ∀ t, Q t → Q' t) : W p l e R s m args below meth c H locs cells slots Q' g := by
  intro T hT X
  obtain ⟨t, a, b⟩ := h T hT X
  exact ⟨t, a, hq t b⟩
theorem wga_le {d : Nat} {res : RS} {i : Nat} {lo lo' sk : List Value} {α α' : AH} {nx k n : Nat} (h1 : all2 leV lo lo' = true) (h2 : leH α α' = true) (hw : WGA I M C z d res i lo' sk α' nx k n) : WGA I M C z d res i lo sk α nx k n := by
  intro p l e R s m args below meth c Q G ad0 hC hE hR hQ hz
  obtain ⟨w1, w2⟩ := hw p l e R s m args below meth c Q G ad0 hC hE hR hQ hz
  refine ⟨w1, fun ad H locs ls rst hv => ?_⟩
  obtain ⟨a1, a2, a3, a4, a5, a6⟩ := hv
  exact w2 ad H locs ls rst ⟨a1, a2, a3, a4.le h2, a5.le h1, a6⟩
theorem wga_sg (hA : AllS I M C C) {d : Nat} {cf : CF} (hcf : CFok I d cf) {res : RS} (N i r' i' : Nat) {lo sk lo' sk' : List Value} {α α' : AH} {nx k n nx' k' n' : Nat} (h : chkS (exe cf C N (drp i C) lo sk α nx k n) r' lo' sk' α' nx' k' n' = true) (hr : C.length - i' = r') (hw : WGA I M C z d res i' lo' sk' α' nx' k' n') : WGA I M C z d res i lo sk α nx k n := by
  unfold chkS at h
  split at h
  · rename_i r lo1 sk1 α1 nx1 k1 n1 ho
    obtain ⟨g1, h1⟩ := bB_t h
    obtain ⟨g2, h2⟩ := bB_t h1
    obtain ⟨g3, h3⟩ := bB_t h2
    obtain ⟨g4, h4⟩ := bB_t h3
    obtain ⟨g5, h5⟩ := bB_t h4
    obtain ⟨g6, h6⟩ := bB_t h5
    have e1 := Nat.eq_of_beq_eq_true g1
    have e3 := all2_eq g3
    have e4 := Nat.eq_of_beq_eq_true g4
    have e5 := Nat.eq_of_beq_eq_true g5
    have e6 := Nat.eq_of_beq_eq_true g6
    subst e1 e3 e4 e5 e6
    exact wga_seg hA hcf ho hr (wga_le g2 h6 hw)
  · cases h
theorem leO_eq {a b : Option Value} (h : leO a b = true) : a = b := by
  cases b with
  | none =>
    cases a with
    | none => rfl
    | some _ => cases h
  | some y =>
    cases a with
    | none => cases h
    | some x => rw [eqV_eq h]
theorem wga_fn (hA : AllS I M C C) {d : Nat} {cf : CF} (hcf : CFok I d cf) (N i : Nat) {lo sk : List Value} {α α' : AH} {v : Option Value} {nx k n nx' k' n' : Nat} (h : chkF (exe cf C N (drp i C) lo sk α nx k n) v α' nx' k' n' = true) : WGA I M C z d (retR v α' nx' k' n') i lo sk α nx k n := by
  unfold chkF at h
  split at h
  · rename_i j v1 lo1 sk1 α1 nx1 k1 n1 ho
    obtain ⟨g1, h1⟩ := bB_t h
    obtain ⟨g4, h2⟩ := bB_t h1
    obtain ⟨g5, h3⟩ := bB_t h2
    obtain ⟨g6, h4⟩ := bB_t h3
    have e1 := leO_eq g1
    have e4 := Nat.eq_of_beq_eq_true g4
    have e5 := Nat.eq_of_beq_eq_true g5
    have e6 := Nat.eq_of_beq_eq_true g6
    subst e1 e4 e5 e6
    intro p l e R s m args below meth c Q G ad0 hC hE hR hQ hz
    have hw := wga_fin (z := z) hA hcf ho (by show (1 : Nat) ≠ 0; decide) p l e R s m args below meth c (vx_MQ below (QCr G ad0 (1, j, v1, lo1, sk1, α1, nx1, k1, n1)) (XCr G ad0 (1, j, v1, lo1, sk1, α1, nx1, k1, n1)) args s k1 n1 (OA (gb G))) G ad0 hC hE hR (fun _ => rfl) hz
    refine ⟨hw.1, fun ad H locs ls rst hv => ?_⟩
    rw [hQ (by show (1 : Nat) ≠ 0; decide)]
    refine (hw.2 ad H locs ls rst hv).imp (fun t ht => ?_)
    obtain ⟨o, t1, t2, t3⟩ := ht
    refine ⟨o, t1, t2, ?_⟩
    rcases t3 with ⟨⟨⟨ad', w, u1, u2, u3, u4, u5, u6⟩, u7⟩, u8⟩ | ⟨q, u1, E, ce, L, ⟨⟨ad', u2, _⟩, _⟩, _⟩
    · exact Or.inl ⟨⟨⟨ad', w, rfl, u2, u3, u4, u5, u6.le h4⟩, u7⟩, u8⟩
    · have u2 : (1 : Nat) = 2 := u2
      omega
  · cases h
theorem pN_eq {β : Type} : ∀ (bs : List Value) {r acc : List Value} {f : List Value → List Value → Option β}, pN bs.length (bs ++ r) acc f = f (bs.reverse ++ acc) r
  | [], _, _, _ => rfl
  | b :: bs, r, acc, f => by
    show pN bs.length (bs ++ r) (b :: acc) f = _
    rw [pN_eq bs]
    simp
/-- a call that is told already -/
noncomputable def cfo (y : Nat) (as : List Value) (α : AH) (nx : Nat) (q : RS) : CF := fun y1 as1 α1 nx1 => @ite _ (y1 = y ∧ as1 = as ∧ α1 = α ∧ nx1 = nx) (Classical.propDecidable _) (some q) none
theorem cfo_eq {y : Nat} {as : List Value} {α : AH} {nx : Nat} {q : RS} : cfo y as α nx q y as α nx = some q := by
  unfold cfo
  exact @if_pos _ (Classical.propDecidable _) ⟨rfl, rfl, rfl, rfl⟩ _ _ _
theorem cfo_ok {d y : Nat} {as : List Value} {α : AH} {nx : Nat} {q : RS} {M2 : MI} (hy : I.1 y = some M2) (hq : COK I M2 d as α nx q) : CFok I d (cfo y as α nx q) := by
  intro y1 M1 as1 α1 nx1 r h1 h2
  unfold cfo at h2
  by_cases hc : y1 = y ∧ as1 = as ∧ α1 = α ∧ nx1 = nx
  · rw [@if_pos _ (Classical.propDecidable _) hc] at h2
    obtain ⟨e1, e2, e3, e4⟩ := hc
    subst e1 e2 e3 e4
    have e5 := Option.some.inj (hy.symm.trans h1)
    have e6 := Option.some.inj h2
    rw [← e5, ← e6]
    exact hq
  · rw [@if_neg _ (Classical.propDecidable _) hc] at h2
    cases h2
noncomputable def nxo (lo sk : List Value) (α : AH) (nx k n : Nat) (res : RS) : KK := fun lo1 sk1 α1 nx1 k1 n1 => @ite _ ((lo1, sk1, α1, nx1, k1, n1) = (lo, sk, α, nx, k, n)) (Classical.propDecidable _) (some res) none
theorem nxo_eq {lo sk : List Value} {α : AH} {nx k n : Nat} {res : RS} : nxo lo sk α nx k n res lo sk α nx k n = some res := by
  unfold nxo
  exact @if_pos _ (Classical.propDecidable _) rfl _ _ _
theorem nxo_to {lo sk : List Value} {α : AH} {nx k n : Nat} {res r : RS} {lo1 sk1 : List Value} {α1 : AH} {nx1 k1 n1 : Nat} (h : nxo lo sk α nx k n res lo1 sk1 α1 nx1 k1 n1 = some r) : (lo1, sk1, α1, nx1, k1, n1) = (lo, sk, α, nx, k, n) := by
  unfold nxo at h
  by_cases hc : (lo1, sk1, α1, nx1, k1, n1) = (lo, sk, α, nx, k, n)
  · exact hc
  · rw [@if_neg _ (Classical.propDecidable _) hc] at h
    cases h
theorem wga_op (hA : AllS I M C C) {d : Nat} {cf : CF} (hcf : CFok I d cf) {res : RS} {i pc0 : Nat} {op : OP} {tl : List (Nat × OP)} (hi : drp i C = (pc0, op) :: tl) {lo sk lo' sk' : List Value} {α α' : AH} {nx k n nx' k' n' : Nat} (hop : op cf (fun _ _ _ _ _ _ _ => none) (nxo lo' sk' α' nx' k' n' res) lo sk α nx k n = some res) (hw : WGA I M C z d res (i + 1) lo' sk' α' nx' k' n') : WGA I M C z d res i lo sk α nx k n := by
  intro p l e R s m args below meth c Q G ad0 hC hE hR hQ hz
  have hAj := AllS.drp I i hA
  rw [hi] at hAj
  have ht : drp (i + 1) C = tl := by
    have : drp (i + 1) C = (drp i C).drop 1 := by rw [drp_eq, drp_eq, List.drop_drop]
    rw [this, hi]
    rfl
  have hpc : pcAt C i = pc0 := by unfold pcAt; rw [hi]; rfl
  have hnp : hdp tl = pcAt C (i + 1) := by unfold pcAt; rw [ht]
  have h1 := hAj.1
  rw [hnp] at h1
  rw [hpc]
  refine h1 d cf p l e R s m args below meth c Q G ad0 res _ _ lo sk α nx k n hC hE hR hQ hcf (fun lo1 sk1 α1 nx1 k1 n1 hx => ?_) (fun j lo1 sk1 α1 nx1 k1 n1 hx => by cases hx) hop
  have := nxo_to hx
  cases this
  exact hw p l e R s m args below meth c Q G ad0 hC hE hR hQ hz
abbrev vcons (v : Option Value) (r : List Value) : List Value := match v with | some v => v :: r | none => r
theorem wga_cal (hA : AllS I M C C) {d : Nat} {res : RS} {i pc0 y : Nat} {ho : Option (List (Nat × Nat × Nat))} {tl : List (Nat × OP)} {bs : List Value} (hi : drp i C = (pc0, i_cal y bs.length ho) :: tl) {M2 : MI} (hy : I.1 y = some M2) {lo r : List Value} {α α' : AH} {nx k n nx' k' n' : Nat} {v : Option Value} (h8 : Nat.ble (catS r) 8 = true) (hq : COK I M2 d bs.reverse α nx (retR v α' nx' k' n')) (hw : WGA I M C z d res (i + 1) lo (vcons v r) α' nx' (k + k') (n + n')) : WGA I M C z d res i lo (bs ++ r) α nx k n := by
  refine wga_op hA (cfo_ok hy hq) hi ?_ hw
  unfold i_cal
  rw [pN_eq, List.append_nil, h8]
  show oG (cfo y bs.reverse α nx _ y bs.reverse α nx) _ = _
  rw [cfo_eq]
  exact nxo_eq
theorem wga_vir (hA : AllS I M C C) {d : Nat} {res : RS} {i pc0 y ci a : Nat} {ho : Option (List (Nat × Nat × Nat))} {tl : List (Nat × OP)} {bs as1 : List Value} (hi : drp i C = (pc0, i_vir ci y bs.length ho) :: tl) {M2 : MI} (hy : I.1 y = some M2) {lo r fs : List Value} {α α' : AH} {nx k n nx' k' n' : Nat} {v : Option Value} (hb : bs.reverse = .ref a :: as1) (hg : hget α a = some (ci, fs)) (h8 : Nat.ble (catS r) 8 = true) (hq : COK I M2 d bs.reverse α nx (retR v α' nx' k' n')) (hw : WGA I M C z d res (i + 1) lo (vcons v r) α' nx' (k + k') (n + n')) : WGA I M C z d res i lo (bs ++ r) α nx k n := by
  refine wga_op hA (cfo_ok hy hq) hi ?_ hw
  unfold i_vir
  rw [pN_eq, List.append_nil, hb, h8]
  show oG (hget α a) _ = _
  rw [hg]
  show gB (Nat.beq ci ci) _ = _
  rw [Nat.beq_refl]
  show oG (cfo y (.ref a :: as1) α nx (retR v α' nx' k' n') y (.ref a :: as1) α nx) _ = _
  rw [cfo_eq]
  exact nxo_eq
end CHAIN2
theorem P_nil {D : va_G} {cl : List vw_C} {H : Heap} : va_P D cl [] H := fun k q h => by simp at h
theorem D_nil {A : Nat → Prop} : va_D A [] := ⟨fun i j p q h => by simp at h, fun k q h => by simp at h⟩
section CHAIN3
variable {I : EVT} {M : MI} {C : List (Nat × OP)}
/-- a call behind which nothing is kept: neither cells nor locals -/
theorem wga_calZ {d : Nat} {res : RS} {i pc0 y idx : Nat} {tl : List (Nat × OP)} {as : List Value} (hpc : pcAt C i = pc0) (hnp : pcAt C (i + 1) = pc0 + 3) (has : as = [] ∨ as = [.ref 1000004]) {M2 : MI} (hw2 : CalW M2 as.length) (w1 : Cond.methodLink M.1.cls idx M2.1 ∈ lw_all) (w2 : Cond.static M2.1 ∈ lw_all) (hd : decode M.2.1 pc0 = .ok (.invokestatic idx, 3)) {lo lo' : List Value} {α α' : AH} {nx k n nx' k' n' : Nat} {x : Int32} (hlo : ∀ v ∈ lo', kn v = false) (hq : COK I M2 d as [] 0 (retR (some (.int x)) α' nx' k' n')) (hw : WGA I M C True d res (i + 1) lo' [.int x] [] 0 (k + k') (n + n')) : WGA I M C True d res i lo as α nx k n := by
  intro p l e R s m args below meth c Q G ad0 hC hE hR hQ hz
  obtain ⟨w3, w4⟩ := hw p l e R s m args below meth c Q G ad0 hC hE hR hQ hz
  have h0 := hz trivial
  subst h0
  rw [hpc]
  refine ⟨⟨by omega, by omega⟩, fun ad H locs ls rst hv => ?_⟩
  obtain ⟨a1, a2, a3, a4, a5, a6⟩ := hv
  have haw : RVs [] (gs G) as rst ∧ rst.reverse = rst ∧ rst.length = as.length := by
    rcases has with rfl | rfl
    · have a6 : rst = [] := a6
      subst a6
      exact ⟨rfl, rfl, rfl⟩
    · obtain ⟨w, us, rfl, ⟨b, hb, rfl⟩, a7⟩ := a6
      have a7 : us = [] := a7
      subst a7
      have hb : some (gs G 4) = some b := hb
      cases hb
      exact ⟨⟨_, [], rfl, ⟨gs G 4, rfl, rfl⟩, rfl⟩, rfl, rfl⟩
  have hM := hq l G [] rst hC.2.2.2.2.2.2.2.1 haw.1 rfl
  rw [wsM_nil hw2.1] at hM
  obtain ⟨c1, c2, c3, c4, c5, c6, c7, c8, c9, c10⟩ := id hC
  have hE2 := hE
  have hnil : RH (gD G) (gc G) (OA (gb G)) [] (gs G) [] H := ⟨[], rfl, P_nil, D_nil, fun k c hc => by cases hc⟩
  have hrun := vx_runS (p := p) (l := l) (e := e) (R := R) (s := s) (m := m) (args := args) (below := below) (meth := meth) (c := c) (locs := locs) (cells := k) (slots := n) (nL := M.2.2.1) (g := F0 m pc0 ls rst) (rest := []) (H := H) ⟨c1, c2, c3, c5, c6⟩ hM (va_cwS as.length c6 (gS w1 w2 hw2.2.2.2.2 (gA hw2.2.1)) rfl rfl rfl hw2.2.2.2.1 (room_of hR hw2.2.2.1)) ⟨PcM.fb, PcM.at hE a3 hnil⟩ rfl haw.2.2 a5.1 (by rw [haw.2.1]; simp) (lv_room (Nat.le_of_ble_eq_true rfl)) hd ⟨Nat.le_trans w3.1 hR.2.2.1, Nat.le_trans w3.2 hR.2.2.2⟩
  refine vx_callG hrun a3 (fun q z => z) (fun st oc t hq => hq.2) (fun E st t hq => hq.2) (fun E ce q9 st t H1 locs1 ht hx hS1 hce hcv hcl => ?_) (fun v st t H1 locs1 ht hq1 hS1 => ?_)
  · obtain ⟨⟨_, h2, _⟩, _⟩ := hx
    have h2 : (1 : Nat) = 2 := h2
    omega
  · obtain ⟨⟨ad', w, -, e2, ⟨y, e3, hy⟩, -⟩, -⟩ := hq1
    have hy : y = .int x := hy
    subst hy
    subst e3
    have e2 : v = some (.int x) := by cases e2; rfl
    subst e2
    rw [hnp] at w4
    refine w4 [] H1 locs1 ls _ ⟨PX.rf, rfl, hS1, ⟨[], rfl, P_nil, D_nil, fun k c hc => by cases hc⟩, ⟨a5.1, a5.2.1, fun j v hj hk => ?_⟩, ⟨.int x, [], rfl, rfl, rfl⟩⟩
    have := hlo v (List.mem_of_getElem? hj)
    rw [this] at hk
    cases hk
/-- a table of methods and a table of runs belong together -/
def TokM (I : EVT) (M : MI) (q : Nat × List (Nat × OP)) : Prop := q.2 = [] ∨ (AllS I M q.2 q.2 ∧ q.1 = M.2.2.1 ∧ plainName M.1.cls = true ∧ pcAt q.2 0 = 0)
def TokL (I : EVT) : List MI → List (Nat × List (Nat × OP)) → Prop
  | [], [] => True
  | M :: Ms, q :: qs => TokM I M q ∧ TokL I Ms qs
  | _, _ => False
theorem TokL.at {I : EVT} : ∀ {Ms : List MI} {qs : List (Nat × List (Nat × OP))}, TokL I Ms qs → ∀ {y : Nat} {q : Nat × List (Nat × OP)}, qs[y]? = some q → ∃ M, Ms[y]? = some M ∧ TokM I M q
  | [], [], _, y, q, h => by simp at h
  | [], _ :: _, h, _, _, _ => h.elim
  | _ :: _, [], h, _, _, _ => h.elim
  | M :: Ms, q0 :: qs, h, y, q, hy => by
    cases y with
    | zero =>
      have := Option.some.inj hy
      subst this
      exact ⟨M, rfl, h.1⟩
    | succ y => exact TokL.at h.2 (y := y) hy
theorem run_ok {I : EVT} {pr : List (Nat × List (Nat × OP))} {Ms : List MI} (hI : ∀ y, I.1 y = Ms[y]?) (hT : TokL I Ms pr) : ∀ d, CFok I d (runC pr d) := by
  intro d
  induction d with
  | zero =>
    intro y M2 as α nx r _ h
    cases h
  | succ d ih =>
    intro y M2 as α nx r hy h
    have h : oG (nth pr y) (fun q => gB (Nat.ble (catS as) q.1) (oG (exe (runC pr d) q.2 2000000 q.2 (pad q.1 (mkA2 as)) [] α nx 0 0) (fun r => gB (Nat.ble 1 r.1) (some r)))) = some r := h
    obtain ⟨q, hq, h⟩ := oG_some h
    obtain ⟨hc, h⟩ := gB_some h
    obtain ⟨r1, hr, h⟩ := oG_some h
    obtain ⟨h1, h⟩ := gB_some h
    have h := Option.some.inj h
    subst h
    rw [nth_eq] at hq
    obtain ⟨M3, hM, hk⟩ := hT.at hq
    rw [hI, hM] at hy
    have hy := Option.some.inj hy
    subst hy
    rcases hk with hk | ⟨k1, k2, k3, k4⟩
    · rw [hk] at hr
      cases hr
    · rw [padA_eq, k2] at hr
      have h1 : 1 ≤ r1.1 := Nat.le_of_ble_eq_true h1
      refine cok_of k3 k4 (by rw [← k2]; exact Nat.le_of_ble_eq_true hc) (wga_fin k1 ih (N := 2000000) (i := 0) hr (by omega))
end CHAIN3
