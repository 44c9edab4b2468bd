/-! ===== comparisons ===== -/
def ltI (x y : Int32) : Bool := decide (x < y)
def eqI (x y : Int32) : Bool := decide (x = y)
def eqL (x y : Int64) : Bool := decide (x = y)
def cmL (x y : Int64) : Int32 := lg_cmp x y
theorem ltI_iff {x y : Int32} : ltI x y = true ↔ x < y := decide_eq_true_iff
theorem eqI_iff {x y : Int32} : eqI x y = true ↔ x = y := decide_eq_true_iff
theorem eqL_iff {x y : Int64} : eqL x y = true ↔ x = y := decide_eq_true_iff
theorem cmL_eq {x y : Int64} : cmL x y = lg_cmp x y := rfl
def isN (v : Value) : Bool := match v with
  | .null => true
  | _ => false
/-! ===== instructions on stack and locals ===== -/
noncomputable section
def i_push (v : Value) : OP := fun _ _ nxt lo sk α nx k n => nxt lo (v :: sk) α nx k n
def i_load (t i : Nat) : OP := fun _ _ nxt lo sk α nx k n => oG (nth lo i) (fun v => gB (isT t v) (nxt lo (v :: sk) α nx k n))
def i_st1 (t i : Nat) : OP := fun _ _ nxt lo sk α nx k n => pV sk (fun v r => gB (isT t v) (nxt (lst1 lo i v) r α nx k n))
def i_st2 (i : Nat) : OP := fun _ _ nxt lo sk α nx k n => pL sk (fun v r => nxt (lst2 lo i (.long v)) r α nx k n)
def i_inc (i : Nat) (d : Int32) : OP := fun _ _ nxt lo sk α nx k n => oG (nth lo i) (fun v => pI [v] (fun x _ => nxt (lst1 lo i (.int (x + d))) sk α nx k n))
def i_dup : OP := fun _ _ nxt lo sk α nx k n => pV sk (fun v r => gB (bB (cat2 v) false true) (nxt lo (v :: v :: r) α nx k n))
def i_pop : OP := fun _ _ nxt lo sk α nx k n => pV sk (fun v r => gB (bB (cat2 v) false true) (nxt lo r α nx k n))
def i_pop2 : OP := fun _ _ nxt lo sk α nx k n => pV sk (fun v r => gB (cat2 v) (nxt lo r α nx k n))
def i_dup2 : OP := fun _ _ nxt lo sk α nx k n => pV sk (fun v r => pV r (fun u r => gB (bB (cat2 v) false true) (gB (bB (cat2 u) false true) (nxt lo (v :: u :: v :: u :: r) α nx k n))))
def i_ib (f : Int32 → Int32 → Int32) : OP := fun _ _ nxt lo sk α nx k n => pI sk (fun y r => pI r (fun x r => nxt lo (.int (f x y) :: r) α nx k n))
def i_id (f : Int32 → Int32 → Int32) : OP := fun _ _ nxt lo sk α nx k n => pI sk (fun y r => pI r (fun x r => gB (bB (eqI y 0) false true) (nxt lo (.int (f x y) :: r) α nx k n)))
def i_lb (f : Int64 → Int64 → Int64) : OP := fun _ _ nxt lo sk α nx k n => pL sk (fun y r => pL r (fun x r => nxt lo (.long (f x y) :: r) α nx k n))
def i_ld (f : Int64 → Int64 → Int64) : OP := fun _ _ nxt lo sk α nx k n => pL sk (fun y r => pL r (fun x r => gB (bB (eqL y 0) false true) (nxt lo (.long (f x y) :: r) α nx k n)))
def i_iu (f : Int32 → Value) : OP := fun _ _ nxt lo sk α nx k n => pI sk (fun x r => nxt lo (f x :: r) α nx k n)
def i_lu (f : Int64 → Value) : OP := fun _ _ nxt lo sk α nx k n => pL sk (fun x r => nxt lo (f x :: r) α nx k n)
def i_lcmp : OP := fun _ _ nxt lo sk α nx k n => pL sk (fun y r => pL r (fun x r => nxt lo (.int (cmL x y) :: r) α nx k n))
def i_goto (j : Nat) : OP := fun _ jmp _ lo sk α nx k n => jmp j lo sk α nx k n
def i_if (f : Int32 → Bool) (j : Nat) : OP := fun _ jmp nxt lo sk α nx k n => pI sk (fun x r => bB (f x) (jmp j) nxt lo r α nx k n)
def i_ic (f : Int32 → Int32 → Bool) (j : Nat) : OP := fun _ jmp nxt lo sk α nx k n => pI sk (fun y r => pI r (fun x r => bB (f x y) (jmp j) nxt lo r α nx k n))
def i_nul (b : Bool) (j : Nat) : OP := fun _ jmp nxt lo sk α nx k n => pV sk (fun v r => gB (isT 2 v) (bB (bB (isN v) b (bB b false true)) (jmp j) nxt lo r α nx k n))
def i_ac (b : Bool) (j : Nat) : OP := fun _ jmp nxt lo sk α nx k n => pR sk (fun y r => pR r (fun x r => gB (bB (Nat.beq y 1000004) false true) (gB (bB (Nat.beq x 1000004) false true) (bB (bB (Nat.beq x y) b (bB b false true)) (jmp j) nxt lo r α nx k n))))
/-- a table of jumps from lo0 on; elsewhere to j0 -/
def i_tab (f : Int32 → Nat) : OP := fun _ jmp _ lo sk α nx k n => pI sk (fun x r => jmp (f x) lo r α nx k n)
end
section OPS
variable {I : EVT} {M : MI} {C : List (Nat × OP)} {pc : Nat}
theorem bnot {b : Bool} (h : bB b false true = true) : b = false := by cases b <;> first | rfl | cases h
theorem RV.int {ad : List Nat} {sp : Nat → Nat} {x : Int32} : RV ad sp (.int x) (.int x) := rfl
theorem RV.long {ad : List Nat} {sp : Nat → Nat} {x : Int64} : RV ad sp (.long x) (.long x) := rfl
/-- constants -/
theorem o_push {v : Value} {len : Nat} (hv : isT 2 v = false ∨ v = .null) (row : ∀ {p : Program} {l : Launch} {e : Env} {R : Room} {s : State} {m : MethodId} {args : Array Value} {below : List Frame} {meth : Method} {c : Code} {H : Heap} {locs : List Loc} {cells slots : Nat} {Q : State → Prop} {ls : Array Slot} {rest : List Value}, CX M p l s m args meth c → W p l e R s m args below meth c H locs cells slots Q (F0 m (pc + len) ls (v :: rest)) → W p l e R s m args below meth c H locs cells slots Q (F0 m pc ls rest)) : OpS I M C pc (pc + len) (i_push v) := by
  refine OpS.stk I fun cf jmp nxt lo sk α nx k n res h => ⟨_, h, fun p l e R s m args below meth c Q H locs ls cells slots ad sp rst hC hl hr => ⟨v :: rst, ⟨v, rst, rfl, ?_, hr⟩, row hC⟩⟩
  rcases hv with hv | rfl
  · cases v <;> first | rfl | cases hv
  · rfl
theorem o_iconst {n : Int} {v : Int32} (hd : decode M.2.1 pc = .ok (.iconst n, 1)) (hv : Int32.ofInt n = v) : OpS I M C pc (pc + 1) (i_push (.int v)) := o_push (Or.inl rfl) (fun hC k => lv_iconst hC.1 hC.2.1 hd hv k)
theorem o_bipush {n : Int} {v : Int32} (hd : decode M.2.1 pc = .ok (.bipush n, 2)) (hv : (Int8.ofInt n).toInt32 = v) : OpS I M C pc (pc + 2) (i_push (.int v)) := o_push (Or.inl rfl) (fun hC k => lv_bipush hC.1 hC.2.1 hd hv k)
theorem o_sipush {n : Int} {v : Int32} (hd : decode M.2.1 pc = .ok (.sipush n, 3)) (hv : (Int16.ofInt n).toInt32 = v) : OpS I M C pc (pc + 3) (i_push (.int v)) := o_push (Or.inl rfl) (fun hC k => lv_sipush hC.1 hC.2.1 hd hv k)
theorem o_lconst {n : Fin 2} {v : Int64} (hd : decode M.2.1 pc = .ok (.lconst n, 1)) (hv : Int64.ofNat (n : Nat) = v) : OpS I M C pc (pc + 1) (i_push (.long v)) := o_push (Or.inl rfl) (fun hC k => lv_lconst hC.1 hC.2.1 hd hv k)
theorem o_null (hd : decode M.2.1 pc = .ok (.aconst_null, 1)) : OpS I M C pc (pc + 1) (i_push .null) := o_push (Or.inr rfl) (fun hC k => lv_null hC.1 hC.2.1 hd k)
theorem o_ldc {i : Nat} {v : Int32} (hd : decode M.2.1 pc = .ok (.ldc i, 2)) (hw : Cond.constant M.1.cls i v ∈ lw_all) : OpS I M C pc (pc + 2) (i_push (.int v)) := o_push (Or.inl rfl) (fun hC k => lv_ldc hC.1 hC.2.1 hC.2.2.2.2.1 (hC.2.2.2.2.2.1 _ hw) hd k)
theorem o_ldcw {i : Nat} {v : Int32} (hd : decode M.2.1 pc = .ok (.ldc_w i, 3)) (hw : Cond.constant M.1.cls i v ∈ lw_all) : OpS I M C pc (pc + 3) (i_push (.int v)) := o_push (Or.inl rfl) (fun hC k => lv_ldcw hC.1 hC.2.1 hC.2.2.2.2.1 (hC.2.2.2.2.2.1 _ hw) hd k)
theorem o_ldcf {i : Nat} {v : UInt32} (hd : decode M.2.1 pc = .ok (.ldc i, 2)) (hw : Cond.constantFloat M.1.cls i v ∈ lw_all) : OpS I M C pc (pc + 2) (i_push (.float v)) := o_push (Or.inl rfl) (fun hC k => lv_ldcf hC.1 hC.2.1 hC.2.2.2.2.1 (hC.2.2.2.2.2.1 _ hw) hd k)
theorem o_ldc2 {i : Nat} {v : Int64} (hd : decode M.2.1 pc = .ok (.ldc2_w i, 3)) (hw : Cond.constantLong M.1.cls i v ∈ lw_all) : OpS I M C pc (pc + 3) (i_push (.long v)) := o_push (Or.inl rfl) (fun hC k => lv_ldc2 hC.1 hC.2.1 hC.2.2.2.2.1 (hC.2.2.2.2.2.1 _ hw) hd k)
/-- loads -/
theorem o_load {t i : Nat} {len : Nat} (ht : t < 3) (row : ∀ {v : Value} {p : Program} {l : Launch} {e : Env} {R : Room} {s : State} {m : MethodId} {args : Array Value} {below : List Frame} {meth : Method} {c : Code} {H : Heap} {locs : List Loc} {cells slots : Nat} {Q : State → Prop} {ls : Array Slot} {rest : List Value}, isT t v = true → CX M p l s m args meth c → ls[i]? = some (.val v) → W p l e R s m args below meth c H locs cells slots Q (F0 m (pc + len) ls (v :: rest)) → W p l e R s m args below meth c H locs cells slots Q (F0 m pc ls rest)) : OpS I M C pc (pc + len) (i_load t i) := by
  refine OpS.stk I fun cf jmp nxt lo sk α nx k n res h => ?_
  obtain ⟨v, hv, h1⟩ := oG_some h
  obtain ⟨hT, h2⟩ := gB_some h1
  rw [nth_eq] at hv
  refine ⟨_, h2, fun p l e R s m args below meth c Q H locs ls cells slots ad sp rst hC hl hr => ?_⟩
  have hk : kn v = true := by cases v <;> first | rfl | cases hT
  obtain ⟨w, h1, h2⟩ := hl.2.2 i v hv hk
  refine ⟨w :: rst, ⟨w, rst, rfl, h1, hr⟩, row ?_ hC h2⟩
  cases v with
  | ref a =>
    obtain ⟨b, -, rfl⟩ := h1
    exact hT
  | _ => rw [show w = _ from h1]; exact hT

theorem o_iload_n {k : Fin 4} {i : Nat} (hd : decode M.2.1 pc = .ok (.iload_n k, 1)) (hi : (k : Nat) = i) : OpS I M C pc (pc + 1) (i_load 0 i) := o_load (by decide) (fun hT hC hl kk => by obtain ⟨x, rfl⟩ := isT0 hT; exact lv_iload_n hC.1 hC.2.1 hd hi hl kk)
theorem o_lload_n {k : Fin 4} {i : Nat} (hd : decode M.2.1 pc = .ok (.lload_n k, 1)) (hi : (k : Nat) = i) : OpS I M C pc (pc + 1) (i_load 1 i) := o_load (by decide) (fun hT hC hl kk => by obtain ⟨x, rfl⟩ := isT1 hT; exact lv_lload_n hC.1 hC.2.1 hd hi hl kk)
theorem o_iload {i : Nat} (hd : decode M.2.1 pc = .ok (.iload i, 2)) : OpS I M C pc (pc + 2) (i_load 0 i) := o_load (by decide) (fun hT hC hl kk => by obtain ⟨x, rfl⟩ := isT0 hT; exact lv_iload hC.1 hC.2.1 hd hl kk)
theorem o_lload {i : Nat} (hd : decode M.2.1 pc = .ok (.lload i, 2)) : OpS I M C pc (pc + 2) (i_load 1 i) := o_load (by decide) (fun hT hC hl kk => by obtain ⟨x, rfl⟩ := isT1 hT; exact lv_lload hC.1 hC.2.1 hd hl kk)
theorem o_aload_n {k : Fin 4} {i : Nat} (hd : decode M.2.1 pc = .ok (.aload_n k, 1)) (hi : (k : Nat) = i) : OpS I M C pc (pc + 1) (i_load 2 i) := o_load (by decide) (fun hT hC hl kk => by
  rcases isT2 hT with rfl | ⟨x, rfl⟩
  · exact lv_aload_nN hC.1 hC.2.1 hd hi hl kk
  · exact lv_aload_n hC.1 hC.2.1 hd hi hl kk)
theorem o_aload {i : Nat} (hd : decode M.2.1 pc = .ok (.aload i, 2)) : OpS I M C pc (pc + 2) (i_load 2 i) := o_load (by decide) (fun hT hC hl kk => by
  rcases isT2 hT with rfl | ⟨x, rfl⟩
  · exact lv_aloadN hC.1 hC.2.1 hd hl kk
  · exact lv_aload hC.1 hC.2.1 hd hl kk)
/-- stores -/
theorem o_st1 {t i len : Nat} (hn : i < M.2.2.1) (ht : t = 0 ∨ t = 2) (row : ∀ {v : Value} {lv lv' : List (Nat × Value)} {p : Program} {l : Launch} {e : Env} {R : Room} {s : State} {m : MethodId} {args : Array Value} {below : List Frame} {meth : Method} {c : Code} {H : Heap} {locs : List Loc} {cells slots : Nat} {Q : State → Prop} {ls : Array Slot} {rest : List Value}, isT t v = true → CX M p l s m args meth c → lv_has ls M.2.2.1 lv → (i, v) :: lv.filter (fun q => !(q.1 == i) && !(q.1 + 1 == i && q.2.category == 2)) = lv' → (∀ ls' : Array Slot, lv_has ls' M.2.2.1 lv' → W p l e R s m args below meth c H locs cells slots Q (F0 m (pc + len) ls' rest)) → W p l e R s m args below meth c H locs cells slots Q (F0 m pc ls (v :: rest))) : OpS I M C pc (pc + len) (i_st1 t i) := by
  intro d cf p l e R s m args below meth c Q G ad0 res jmp nxt lo sk α nx k n hC hE hR hQ hcf hnx hj h
  obtain ⟨v, r, rfl, h1⟩ := pV_some h
  obtain ⟨hT, h2⟩ := gB_some h1
  obtain ⟨g1, g2⟩ := hnx _ _ _ _ _ _ h2
  refine ⟨g1, fun ad H locs ls rst hv => ?_⟩
  obtain ⟨a1, a2, a3, a4, a5, w, us, rfl, hw, a6⟩ := hv
  have hTw : isT t w = true := by
    cases v with
    | ref a =>
      obtain ⟨b, -, rfl⟩ := hw
      exact hT
    | _ => rw [show w = _ from hw]; exact hT
  have hal : lv_has ls M.2.2.1 (allv ls) := by
    have := allv_has a5.2.1
    rw [a5.1] at this
    exact this
  exact row hTw hC hal rfl (fun ls' h' => g2 ad H locs ls' us ⟨a1, a2, a3, a4, a5.st1 hw h', a6⟩)

theorem o_istore_n {k : Fin 4} {i : Nat} (hd : decode M.2.1 pc = .ok (.istore_n k, 1)) (hi : (k : Nat) = i) (hn : i < M.2.2.1) : OpS I M C pc (pc + 1) (i_st1 0 i) := o_st1 hn (Or.inl rfl) (fun hT hC h e kk => by obtain ⟨x, rfl⟩ := isT0 hT; exact lv_istore_n hC.1 hC.2.1 hd hi h hn e kk)
theorem o_istore {i : Nat} (hd : decode M.2.1 pc = .ok (.istore i, 2)) (hn : i < M.2.2.1) : OpS I M C pc (pc + 2) (i_st1 0 i) := o_st1 hn (Or.inl rfl) (fun hT hC h e kk => by obtain ⟨x, rfl⟩ := isT0 hT; exact lv_istore hC.1 hC.2.1 hd h hn e kk)
theorem o_astore_n {k : Fin 4} {i : Nat} (hd : decode M.2.1 pc = .ok (.astore_n k, 1)) (hi : (k : Nat) = i) (hn : i < M.2.2.1) : OpS I M C pc (pc + 1) (i_st1 2 i) := o_st1 hn (Or.inr rfl) (fun hT hC h e kk => by
  rcases isT2 hT with rfl | ⟨x, rfl⟩
  · exact lv_astore_nN hC.1 hC.2.1 hd hi h hn e kk
  · exact lv_astore_n hC.1 hC.2.1 hd hi h hn e kk)
theorem o_astore {i : Nat} (hd : decode M.2.1 pc = .ok (.astore i, 2)) (hn : i < M.2.2.1) : OpS I M C pc (pc + 2) (i_st1 2 i) := o_st1 hn (Or.inr rfl) (fun hT hC h e kk => by
  rcases isT2 hT with rfl | ⟨x, rfl⟩
  · exact lv_astoreN hC.1 hC.2.1 hd h hn e kk
  · exact lv_astore hC.1 hC.2.1 hd h hn e kk)
theorem o_st2 {i len : Nat} (row : ∀ {x : Int64} {lv lv' : List (Nat × Value)} {p : Program} {l : Launch} {e : Env} {R : Room} {s : State} {m : MethodId} {args : Array Value} {below : List Frame} {meth : Method} {c : Code} {H : Heap} {locs : List Loc} {cells slots : Nat} {Q : State → Prop} {ls : Array Slot} {rest : List Value}, CX M p l s m args meth c → lv_has ls M.2.2.1 lv → (i, Value.long x) :: lv.filter (fun q => !(q.1 == i) && (!(q.1 == i + 1) && !(q.1 + 1 == i && q.2.category == 2))) = lv' → (∀ ls' : Array Slot, lv_has ls' M.2.2.1 lv' → W p l e R s m args below meth c H locs cells slots Q (F0 m (pc + len) ls' rest)) → W p l e R s m args below meth c H locs cells slots Q (F0 m pc ls (.long x :: rest))) : OpS I M C pc (pc + len) (i_st2 i) := by
  intro d cf p l e R s m args below meth c Q G ad0 res jmp nxt lo sk α nx k n hC hE hR hQ hcf hnx hj h
  obtain ⟨v, r, rfl, h1⟩ := pL_some h
  obtain ⟨g1, g2⟩ := hnx _ _ _ _ _ _ h1
  refine ⟨g1, fun ad H locs ls rst hv => ?_⟩
  obtain ⟨a1, a2, a3, a4, a5, w, us, rfl, hw, a6⟩ := hv
  have hw2 : w = .long v := hw
  subst hw2
  have hal : lv_has ls M.2.2.1 (allv ls) := by
    have := allv_has a5.2.1
    rw [a5.1] at this
    exact this
  exact row hC hal rfl (fun ls' h' => g2 ad H locs ls' us ⟨a1, a2, a3, a4, a5.st2 hw h', a6⟩)
theorem o_lstore_n {k : Fin 4} {i : Nat} (hd : decode M.2.1 pc = .ok (.lstore_n k, 1)) (hi : (k : Nat) = i) (hn : i + 1 < M.2.2.1) : OpS I M C pc (pc + 1) (i_st2 i) := o_st2 (fun hC h e kk => lv_lstore_n hC.1 hC.2.1 hd hi h hn e kk)
theorem o_lstore {i : Nat} (hd : decode M.2.1 pc = .ok (.lstore i, 2)) (hn : i + 1 < M.2.2.1) : OpS I M C pc (pc + 2) (i_st2 i) := o_st2 (fun hC h e kk => lv_lstore hC.1 hC.2.1 hd h hn e kk)
theorem o_iinc {i : Nat} {n : Int} {d : Int32} (hd : decode M.2.1 pc = .ok (.iinc i n, 3)) (hv : Int32.ofInt n = d) (hn : i < M.2.2.1) : OpS I M C pc (pc + 3) (i_inc i d) := by
  intro d' cf p l e R s m args below meth c Q G ad0 res jmp nxt lo sk α nx k n' hC hE hR hQ hcf hnx hj h
  obtain ⟨v, hv0, h1⟩ := oG_some h
  obtain ⟨x, r, e1, h2⟩ := pI_some h1
  cases e1
  rw [nth_eq] at hv0
  obtain ⟨g1, g2⟩ := hnx _ _ _ _ _ _ h2
  refine ⟨g1, fun ad H locs ls rst hv1 => ?_⟩
  obtain ⟨a1, a2, a3, a4, a5, a6⟩ := hv1
  obtain ⟨w, h1, h2⟩ := a5.2.2 i _ hv0 rfl
  have h1 : w = .int x := h1
  subst h1
  obtain ⟨kk, hk⟩ := List.getElem?_of_mem (allv_in h2)
  have hal : lv_has ls M.2.2.1 (allv ls) := by
    have := allv_has a5.2.1
    rw [a5.1] at this
    exact this
  refine lv_iinc (v := x + d) hC.1 hC.2.1 hd hal hk (by rw [hv]) hn rfl (fun ls' h' => g2 ad H locs ls' rst ⟨a1, a2, a3, a4, a5.st1 (v := .int (x + d)) rfl h', a6⟩)
/-- the stack -/
theorem o_dup (hd : decode M.2.1 pc = .ok (.dup, 1)) : OpS I M C pc (pc + 1) i_dup := by
  refine OpS.stk I fun cf jmp nxt lo sk α nx k n res h => ?_
  obtain ⟨v, r, rfl, h1⟩ := pV_some h
  obtain ⟨hT, h2⟩ := gB_some h1
  refine ⟨_, h2, fun p l e R s m args below meth c Q H locs ls cells slots ad sp rst hC hl hr => ?_⟩
  obtain ⟨w, us, rfl, h1, hr⟩ := hr
  exact ⟨w :: w :: us, ⟨w, _, rfl, h1, w, us, rfl, h1, hr⟩, lv_dup hC.1 hC.2.1 hd (by rw [h1.cat]; exact cat2_f (bnot hT))⟩
theorem o_pop (hd : decode M.2.1 pc = .ok (.pop, 1)) : OpS I M C pc (pc + 1) i_pop := by
  refine OpS.stk I fun cf jmp nxt lo sk α nx k n res h => ?_
  obtain ⟨v, r, rfl, h1⟩ := pV_some h
  obtain ⟨hT, h2⟩ := gB_some h1
  refine ⟨_, h2, fun p l e R s m args below meth c Q H locs ls cells slots ad sp rst hC hl hr => ?_⟩
  obtain ⟨w, us, rfl, h1, hr⟩ := hr
  exact ⟨us, hr, lv_pop hC.1 hC.2.1 hd (by rw [h1.cat]; exact cat2_f (bnot hT))⟩
theorem o_pop2 (hd : decode M.2.1 pc = .ok (.pop2, 1)) : OpS I M C pc (pc + 1) i_pop2 := by
  refine OpS.stk I fun cf jmp nxt lo sk α nx k n res h => ?_
  obtain ⟨v, r, rfl, h1⟩ := pV_some h
  obtain ⟨hT, h2⟩ := gB_some h1
  refine ⟨_, h2, fun p l e R s m args below meth c Q H locs ls cells slots ad sp rst hC hl hr => ?_⟩
  obtain ⟨w, us, rfl, h1, hr⟩ := hr
  exact ⟨us, hr, lv_pop2_2 hC.1 hC.2.1 hd (by rw [h1.cat]; exact cat2_t hT)⟩
theorem o_dup2 (hd : decode M.2.1 pc = .ok (.dup2, 1)) : OpS I M C pc (pc + 1) i_dup2 := by
  refine OpS.stk I fun cf jmp nxt lo sk α nx k n res h => ?_
  obtain ⟨v, r, rfl, h1⟩ := pV_some h
  obtain ⟨u, r, rfl, h2⟩ := pV_some h1
  obtain ⟨hT, h3⟩ := gB_some h2
  obtain ⟨hU, h4⟩ := gB_some h3
  refine ⟨_, h4, fun p l e R s m args below meth c Q H locs ls cells slots ad sp rst hC hl hr => ?_⟩
  obtain ⟨w, us, rfl, h1, w2, us, rfl, h2, hr⟩ := hr
  exact ⟨w :: w2 :: w :: w2 :: us, ⟨w, _, rfl, h1, w2, _, rfl, h2, w, _, rfl, h1, w2, us, rfl, h2, hr⟩, lv_dup2_11 hC.1 hC.2.1 hd (by rw [h1.cat]; exact cat2_f (bnot hT)) (by rw [h2.cat]; exact cat2_f (bnot hU))⟩

theorem o_iadd (hd : decode M.2.1 pc = .ok (.iadd, 1)) : OpS I M C pc (pc + 1) (i_ib (fun x y => x + y)) := by
  refine OpS.stk I fun cf jmp nxt lo sk α nx k n res h => ?_
  obtain ⟨y, r, rfl, h1⟩ := pI_some h
  obtain ⟨x, r, rfl, h2⟩ := pI_some h1
  refine ⟨_, h2, fun p l e R s m args below meth c Q H locs ls cells slots ad sp rst hC hl hr => ?_⟩
  obtain ⟨_, _, rfl, rfl, _, us, rfl, rfl, hr⟩ := hr
  exact ⟨_, ⟨_, us, rfl, rfl, hr⟩, lv_iadd hC.1 hC.2.1 hd⟩
theorem o_isub (hd : decode M.2.1 pc = .ok (.isub, 1)) : OpS I M C pc (pc + 1) (i_ib (fun x y => x - y)) := by
  refine OpS.stk I fun cf jmp nxt lo sk α nx k n res h => ?_
  obtain ⟨y, r, rfl, h1⟩ := pI_some h
  obtain ⟨x, r, rfl, h2⟩ := pI_some h1
  refine ⟨_, h2, fun p l e R s m args below meth c Q H locs ls cells slots ad sp rst hC hl hr => ?_⟩
  obtain ⟨_, _, rfl, rfl, _, us, rfl, rfl, hr⟩ := hr
  exact ⟨_, ⟨_, us, rfl, rfl, hr⟩, lv_isub hC.1 hC.2.1 hd⟩
theorem o_imul (hd : decode M.2.1 pc = .ok (.imul, 1)) : OpS I M C pc (pc + 1) (i_ib (fun x y => x * y)) := by
  refine OpS.stk I fun cf jmp nxt lo sk α nx k n res h => ?_
  obtain ⟨y, r, rfl, h1⟩ := pI_some h
  obtain ⟨x, r, rfl, h2⟩ := pI_some h1
  refine ⟨_, h2, fun p l e R s m args below meth c Q H locs ls cells slots ad sp rst hC hl hr => ?_⟩
  obtain ⟨_, _, rfl, rfl, _, us, rfl, rfl, hr⟩ := hr
  exact ⟨_, ⟨_, us, rfl, rfl, hr⟩, lv_imul hC.1 hC.2.1 hd⟩
theorem o_ladd (hd : decode M.2.1 pc = .ok (.ladd, 1)) : OpS I M C pc (pc + 1) (i_lb (fun x y => x + y)) := by
  refine OpS.stk I fun cf jmp nxt lo sk α nx k n res h => ?_
  obtain ⟨y, r, rfl, h1⟩ := pL_some h
  obtain ⟨x, r, rfl, h2⟩ := pL_some h1
  refine ⟨_, h2, fun p l e R s m args below meth c Q H locs ls cells slots ad sp rst hC hl hr => ?_⟩
  obtain ⟨_, _, rfl, rfl, _, us, rfl, rfl, hr⟩ := hr
  exact ⟨_, ⟨_, us, rfl, rfl, hr⟩, lv_ladd hC.1 hC.2.1 hd⟩
theorem o_lsub (hd : decode M.2.1 pc = .ok (.lsub, 1)) : OpS I M C pc (pc + 1) (i_lb (fun x y => x - y)) := by
  refine OpS.stk I fun cf jmp nxt lo sk α nx k n res h => ?_
  obtain ⟨y, r, rfl, h1⟩ := pL_some h
  obtain ⟨x, r, rfl, h2⟩ := pL_some h1
  refine ⟨_, h2, fun p l e R s m args below meth c Q H locs ls cells slots ad sp rst hC hl hr => ?_⟩
  obtain ⟨_, _, rfl, rfl, _, us, rfl, rfl, hr⟩ := hr
  exact ⟨_, ⟨_, us, rfl, rfl, hr⟩, lv_lsub hC.1 hC.2.1 hd⟩
theorem o_lmul (hd : decode M.2.1 pc = .ok (.lmul, 1)) : OpS I M C pc (pc + 1) (i_lb (fun x y => x * y)) := by
  refine OpS.stk I fun cf jmp nxt lo sk α nx k n res h => ?_
  obtain ⟨y, r, rfl, h1⟩ := pL_some h
  obtain ⟨x, r, rfl, h2⟩ := pL_some h1
  refine ⟨_, h2, fun p l e R s m args below meth c Q H locs ls cells slots ad sp rst hC hl hr => ?_⟩
  obtain ⟨_, _, rfl, rfl, _, us, rfl, rfl, hr⟩ := hr
  exact ⟨_, ⟨_, us, rfl, rfl, hr⟩, lv_lmul hC.1 hC.2.1 hd⟩
theorem o_idiv (hd : decode M.2.1 pc = .ok (.idiv, 1)) : OpS I M C pc (pc + 1) (i_id (fun x y => x / y)) := by
  refine OpS.stk I fun cf jmp nxt lo sk α nx k n res h => ?_
  obtain ⟨y, r, rfl, h1⟩ := pI_some h
  obtain ⟨x, r, rfl, h2⟩ := pI_some h1
  obtain ⟨hz, h3⟩ := gB_some h2
  refine ⟨_, h3, fun p l e R s m args below meth c Q H locs ls cells slots ad sp rst hC hl hr => ?_⟩
  obtain ⟨_, _, rfl, rfl, _, us, rfl, rfl, hr⟩ := hr
  exact ⟨_, ⟨_, us, rfl, rfl, hr⟩, lv_idiv hC.1 hC.2.1 hd (fun z => absurd (eqI_iff.mpr z) (by rw [bnot hz]; decide))⟩
theorem o_irem (hd : decode M.2.1 pc = .ok (.irem, 1)) : OpS I M C pc (pc + 1) (i_id (fun x y => x - x / y * y)) := by
  refine OpS.stk I fun cf jmp nxt lo sk α nx k n res h => ?_
  obtain ⟨y, r, rfl, h1⟩ := pI_some h
  obtain ⟨x, r, rfl, h2⟩ := pI_some h1
  obtain ⟨hz, h3⟩ := gB_some h2
  refine ⟨_, h3, fun p l e R s m args below meth c Q H locs ls cells slots ad sp rst hC hl hr => ?_⟩
  obtain ⟨_, _, rfl, rfl, _, us, rfl, rfl, hr⟩ := hr
  exact ⟨_, ⟨_, us, rfl, rfl, hr⟩, lv_irem hC.1 hC.2.1 hd (fun z => absurd (eqI_iff.mpr z) (by rw [bnot hz]; decide))⟩
theorem o_ldiv (hd : decode M.2.1 pc = .ok (.ldiv, 1)) : OpS I M C pc (pc + 1) (i_ld (fun x y => x / y)) := by
  refine OpS.stk I fun cf jmp nxt lo sk α nx k n res h => ?_
  obtain ⟨y, r, rfl, h1⟩ := pL_some h
  obtain ⟨x, r, rfl, h2⟩ := pL_some h1
  obtain ⟨hz, h3⟩ := gB_some h2
  refine ⟨_, h3, fun p l e R s m args below meth c Q H locs ls cells slots ad sp rst hC hl hr => ?_⟩
  obtain ⟨_, _, rfl, rfl, _, us, rfl, rfl, hr⟩ := hr
  exact ⟨_, ⟨_, us, rfl, rfl, hr⟩, lv_ldiv hC.1 hC.2.1 hd (fun z => absurd (eqL_iff.mpr z) (by rw [bnot hz]; decide))⟩
theorem o_ineg (hd : decode M.2.1 pc = .ok (.ineg, 1)) : OpS I M C pc (pc + 1) (i_iu (fun x => .int (-x))) := by
  refine OpS.stk I fun cf jmp nxt lo sk α nx k n res h => ?_
  obtain ⟨x, r, rfl, h1⟩ := pI_some h
  refine ⟨_, h1, fun p l e R s m args below meth c Q H locs ls cells slots ad sp rst hC hl hr => ?_⟩
  obtain ⟨_, us, rfl, rfl, hr⟩ := hr
  exact ⟨_, ⟨_, us, rfl, rfl, hr⟩, lv_ineg hC.1 hC.2.1 hd⟩
theorem o_i2l (hd : decode M.2.1 pc = .ok (.i2l, 1)) : OpS I M C pc (pc + 1) (i_iu (fun x => .long (Int32.toInt64 x))) := by
  refine OpS.stk I fun cf jmp nxt lo sk α nx k n res h => ?_
  obtain ⟨x, r, rfl, h1⟩ := pI_some h
  refine ⟨_, h1, fun p l e R s m args below meth c Q H locs ls cells slots ad sp rst hC hl hr => ?_⟩
  obtain ⟨_, us, rfl, rfl, hr⟩ := hr
  exact ⟨_, ⟨_, us, rfl, rfl, hr⟩, lv_i2l hC.1 hC.2.1 hd rfl⟩
theorem o_i2c (hd : decode M.2.1 pc = .ok (.i2c, 1)) : OpS I M C pc (pc + 1) (i_iu (fun x => .int (UInt32.toInt32 (Int32.toUInt32 x % 65536)))) := by
  refine OpS.stk I fun cf jmp nxt lo sk α nx k n res h => ?_
  obtain ⟨x, r, rfl, h1⟩ := pI_some h
  refine ⟨_, h1, fun p l e R s m args below meth c Q H locs ls cells slots ad sp rst hC hl hr => ?_⟩
  obtain ⟨_, us, rfl, rfl, hr⟩ := hr
  exact ⟨_, ⟨_, us, rfl, rfl, hr⟩, lv_i2c hC.1 hC.2.1 hd rfl⟩
theorem o_i2f (hd : decode M.2.1 pc = .ok (.i2f, 1)) : OpS I M C pc (pc + 1) (i_iu (fun x => .float (FP.i2f x))) := by
  refine OpS.stk I fun cf jmp nxt lo sk α nx k n res h => ?_
  obtain ⟨x, r, rfl, h1⟩ := pI_some h
  refine ⟨_, h1, fun p l e R s m args below meth c Q H locs ls cells slots ad sp rst hC hl hr => ?_⟩
  obtain ⟨_, us, rfl, rfl, hr⟩ := hr
  exact ⟨_, ⟨_, us, rfl, rfl, hr⟩, lv_i2f hC.1 hC.2.1 hd⟩
theorem o_lneg (hd : decode M.2.1 pc = .ok (.lneg, 1)) : OpS I M C pc (pc + 1) (i_lu (fun x => .long (-x))) := by
  refine OpS.stk I fun cf jmp nxt lo sk α nx k n res h => ?_
  obtain ⟨x, r, rfl, h1⟩ := pL_some h
  refine ⟨_, h1, fun p l e R s m args below meth c Q H locs ls cells slots ad sp rst hC hl hr => ?_⟩
  obtain ⟨_, us, rfl, rfl, hr⟩ := hr
  exact ⟨_, ⟨_, us, rfl, rfl, hr⟩, lv_lneg hC.1 hC.2.1 hd⟩
theorem o_l2i (hd : decode M.2.1 pc = .ok (.l2i, 1)) : OpS I M C pc (pc + 1) (i_lu (fun x => .int (Int64.toInt32 x))) := by
  refine OpS.stk I fun cf jmp nxt lo sk α nx k n res h => ?_
  obtain ⟨x, r, rfl, h1⟩ := pL_some h
  refine ⟨_, h1, fun p l e R s m args below meth c Q H locs ls cells slots ad sp rst hC hl hr => ?_⟩
  obtain ⟨_, us, rfl, rfl, hr⟩ := hr
  exact ⟨_, ⟨_, us, rfl, rfl, hr⟩, lv_l2i hC.1 hC.2.1 hd rfl⟩
theorem o_lcmp (hd : decode M.2.1 pc = .ok (.lcmp, 1)) : OpS I M C pc (pc + 1) i_lcmp := by
  refine OpS.stk I fun cf jmp nxt lo sk α nx k n res h => ?_
  obtain ⟨y, r, rfl, h1⟩ := pL_some h
  obtain ⟨x, r, rfl, h2⟩ := pL_some h1
  refine ⟨_, h2, fun p l e R s m args below meth c Q H locs ls cells slots ad sp rst hC hl hr => ?_⟩
  obtain ⟨_, _, rfl, rfl, _, us, rfl, rfl, hr⟩ := hr
  exact ⟨_, ⟨_, us, rfl, rfl, hr⟩, by rw [cmL_eq]; exact W.lcmp hC.1 hC.2.1 hd⟩
/-- jumps -/
theorem o_goto {j : Nat} {off : Int} {npc : Nat} (hd : decode M.2.1 pc = .ok (.goto off, 3)) (ht : (pc : Int) + off = ((pcAt C j : Nat) : Int)) : OpS I M C pc npc (i_goto j) := by
  refine OpS.br I (tgt := pcAt C j) rfl fun cf jmp nxt lo sk α nx k n res h => ⟨true, sk, h, fun p l e R s m args below meth c Q G H locs ls cells slots ad rst hC hE hS hH hr => ⟨rst, hr, fun kk => lv_goto hC.1 hC.2.1 hd ht kk⟩⟩

theorem bnot2 {b : Bool} (h : bB b false true = false) : b = true := by cases b <;> first | rfl | cases h
theorem o_if_eq {j : Nat} {off : Int} (hd : decode M.2.1 pc = .ok (.ifCond .eq off, 3)) (ht : (pc : Int) + off = ((pcAt C j : Nat) : Int)) : OpS I M C pc (pc + 3) (i_if (fun x => eqI x 0) j) := by
  refine OpS.br I (tgt := pcAt C j) rfl fun cf jmp nxt lo sk α nx k n res h => ?_
  obtain ⟨x, r, rfl, h1⟩ := pI_some h
  refine ⟨_, r, h1, fun p l e R s m args below meth c Q G H locs ls cells slots ad rst hC hE hS hH hr => ?_⟩
  obtain ⟨_, us, rfl, rfl, hr⟩ := hr
  refine ⟨us, hr, fun kk => ?_⟩
  cases hb : (eqI x 0) with
  | true =>
    simp only [hb] at kk
    exact lv_if_eq hC.1 hC.2.1 hd ht (fun _ => kk) (fun z => absurd (eqI_iff.mp hb) z)
  | false =>
    simp only [hb] at kk
    exact lv_if_eq hC.1 hC.2.1 hd ht (fun z => absurd z (fun z => absurd (eqI_iff.mpr z) (by rw [hb]; decide))) (fun _ => kk)
theorem o_if_ne {j : Nat} {off : Int} (hd : decode M.2.1 pc = .ok (.ifCond .ne off, 3)) (ht : (pc : Int) + off = ((pcAt C j : Nat) : Int)) : OpS I M C pc (pc + 3) (i_if (fun x => bB (eqI x 0) false true) j) := by
  refine OpS.br I (tgt := pcAt C j) rfl fun cf jmp nxt lo sk α nx k n res h => ?_
  obtain ⟨x, r, rfl, h1⟩ := pI_some h
  refine ⟨_, r, h1, fun p l e R s m args below meth c Q G H locs ls cells slots ad rst hC hE hS hH hr => ?_⟩
  obtain ⟨_, us, rfl, rfl, hr⟩ := hr
  refine ⟨us, hr, fun kk => ?_⟩
  cases hb : (bB (eqI x 0) false true) with
  | true =>
    simp only [hb] at kk
    exact lv_if_ne hC.1 hC.2.1 hd ht (fun _ => kk) (fun z => absurd z (fun z => absurd (eqI_iff.mpr z) (by rw [bnot hb]; decide)))
  | false =>
    simp only [hb] at kk
    exact lv_if_ne hC.1 hC.2.1 hd ht (fun z => absurd (eqI_iff.mp (bnot2 hb)) z) (fun _ => kk)
theorem o_if_lt {j : Nat} {off : Int} (hd : decode M.2.1 pc = .ok (.ifCond .lt off, 3)) (ht : (pc : Int) + off = ((pcAt C j : Nat) : Int)) : OpS I M C pc (pc + 3) (i_if (fun x => ltI x 0) j) := by
  refine OpS.br I (tgt := pcAt C j) rfl fun cf jmp nxt lo sk α nx k n res h => ?_
  obtain ⟨x, r, rfl, h1⟩ := pI_some h
  refine ⟨_, r, h1, fun p l e R s m args below meth c Q G H locs ls cells slots ad rst hC hE hS hH hr => ?_⟩
  obtain ⟨_, us, rfl, rfl, hr⟩ := hr
  refine ⟨us, hr, fun kk => ?_⟩
  cases hb : (ltI x 0) with
  | true =>
    simp only [hb] at kk
    exact lv_if_lt hC.1 hC.2.1 hd ht (fun _ => kk) (fun z => absurd (ltI_iff.mp hb) z)
  | false =>
    simp only [hb] at kk
    exact lv_if_lt hC.1 hC.2.1 hd ht (fun z => absurd z (fun z => absurd (ltI_iff.mpr z) (by rw [hb]; decide))) (fun _ => kk)
theorem o_if_ge {j : Nat} {off : Int} (hd : decode M.2.1 pc = .ok (.ifCond .ge off, 3)) (ht : (pc : Int) + off = ((pcAt C j : Nat) : Int)) : OpS I M C pc (pc + 3) (i_if (fun x => bB (ltI x 0) false true) j) := by
  refine OpS.br I (tgt := pcAt C j) rfl fun cf jmp nxt lo sk α nx k n res h => ?_
  obtain ⟨x, r, rfl, h1⟩ := pI_some h
  refine ⟨_, r, h1, fun p l e R s m args below meth c Q G H locs ls cells slots ad rst hC hE hS hH hr => ?_⟩
  obtain ⟨_, us, rfl, rfl, hr⟩ := hr
  refine ⟨us, hr, fun kk => ?_⟩
  cases hb : (bB (ltI x 0) false true) with
  | true =>
    simp only [hb] at kk
    exact lv_if_ge hC.1 hC.2.1 hd ht (fun _ => kk) (fun z => absurd (Int32.not_lt.mp (fun z => absurd (ltI_iff.mpr z) (by rw [bnot hb]; decide))) z)
  | false =>
    simp only [hb] at kk
    exact lv_if_ge hC.1 hC.2.1 hd ht (fun z => absurd z (fun z => Int32.not_lt.mpr z (ltI_iff.mp (bnot2 hb)))) (fun _ => kk)
theorem o_if_gt {j : Nat} {off : Int} (hd : decode M.2.1 pc = .ok (.ifCond .gt off, 3)) (ht : (pc : Int) + off = ((pcAt C j : Nat) : Int)) : OpS I M C pc (pc + 3) (i_if (fun x => ltI 0 x) j) := by
  refine OpS.br I (tgt := pcAt C j) rfl fun cf jmp nxt lo sk α nx k n res h => ?_
  obtain ⟨x, r, rfl, h1⟩ := pI_some h
  refine ⟨_, r, h1, fun p l e R s m args below meth c Q G H locs ls cells slots ad rst hC hE hS hH hr => ?_⟩
  obtain ⟨_, us, rfl, rfl, hr⟩ := hr
  refine ⟨us, hr, fun kk => ?_⟩
  cases hb : (ltI 0 x) with
  | true =>
    simp only [hb] at kk
    exact lv_if_gt hC.1 hC.2.1 hd ht (fun _ => kk) (fun z => absurd (ltI_iff.mp hb) z)
  | false =>
    simp only [hb] at kk
    exact lv_if_gt hC.1 hC.2.1 hd ht (fun z => absurd z (fun z => absurd (ltI_iff.mpr z) (by rw [hb]; decide))) (fun _ => kk)
theorem o_if_le {j : Nat} {off : Int} (hd : decode M.2.1 pc = .ok (.ifCond .le off, 3)) (ht : (pc : Int) + off = ((pcAt C j : Nat) : Int)) : OpS I M C pc (pc + 3) (i_if (fun x => bB (ltI 0 x) false true) j) := by
  refine OpS.br I (tgt := pcAt C j) rfl fun cf jmp nxt lo sk α nx k n res h => ?_
  obtain ⟨x, r, rfl, h1⟩ := pI_some h
  refine ⟨_, r, h1, fun p l e R s m args below meth c Q G H locs ls cells slots ad rst hC hE hS hH hr => ?_⟩
  obtain ⟨_, us, rfl, rfl, hr⟩ := hr
  refine ⟨us, hr, fun kk => ?_⟩
  cases hb : (bB (ltI 0 x) false true) with
  | true =>
    simp only [hb] at kk
    exact lv_if_le hC.1 hC.2.1 hd ht (fun _ => kk) (fun z => absurd (Int32.not_lt.mp (fun z => absurd (ltI_iff.mpr z) (by rw [bnot hb]; decide))) z)
  | false =>
    simp only [hb] at kk
    exact lv_if_le hC.1 hC.2.1 hd ht (fun z => absurd z (fun z => Int32.not_lt.mpr z (ltI_iff.mp (bnot2 hb)))) (fun _ => kk)
theorem o_ic_eq {j : Nat} {off : Int} (hd : decode M.2.1 pc = .ok (.if_icmp .eq off, 3)) (ht : (pc : Int) + off = ((pcAt C j : Nat) : Int)) : OpS I M C pc (pc + 3) (i_ic (fun x y => eqI x y) j) := by
  refine OpS.br I (tgt := pcAt C j) rfl fun cf jmp nxt lo sk α nx k n res h => ?_
  obtain ⟨y, r, rfl, h1⟩ := pI_some h
  obtain ⟨x, r, rfl, h2⟩ := pI_some h1
  refine ⟨_, r, h2, fun p l e R s m args below meth c Q G H locs ls cells slots ad rst hC hE hS hH hr => ?_⟩
  obtain ⟨_, _, rfl, rfl, _, us, rfl, rfl, hr⟩ := hr
  refine ⟨us, hr, fun kk => ?_⟩
  cases hb : (eqI x y) with
  | true =>
    simp only [hb] at kk
    exact lv_icmp_eq hC.1 hC.2.1 hd ht (fun _ => kk) (fun z => absurd (eqI_iff.mp hb) z)
  | false =>
    simp only [hb] at kk
    exact lv_icmp_eq hC.1 hC.2.1 hd ht (fun z => absurd z (fun z => absurd (eqI_iff.mpr z) (by rw [hb]; decide))) (fun _ => kk)
theorem o_ic_ne {j : Nat} {off : Int} (hd : decode M.2.1 pc = .ok (.if_icmp .ne off, 3)) (ht : (pc : Int) + off = ((pcAt C j : Nat) : Int)) : OpS I M C pc (pc + 3) (i_ic (fun x y => bB (eqI x y) false true) j) := by
  refine OpS.br I (tgt := pcAt C j) rfl fun cf jmp nxt lo sk α nx k n res h => ?_
  obtain ⟨y, r, rfl, h1⟩ := pI_some h
  obtain ⟨x, r, rfl, h2⟩ := pI_some h1
  refine ⟨_, r, h2, fun p l e R s m args below meth c Q G H locs ls cells slots ad rst hC hE hS hH hr => ?_⟩
  obtain ⟨_, _, rfl, rfl, _, us, rfl, rfl, hr⟩ := hr
  refine ⟨us, hr, fun kk => ?_⟩
  cases hb : (bB (eqI x y) false true) with
  | true =>
    simp only [hb] at kk
    exact lv_icmp_ne hC.1 hC.2.1 hd ht (fun _ => kk) (fun z => absurd z (fun z => absurd (eqI_iff.mpr z) (by rw [bnot hb]; decide)))
  | false =>
    simp only [hb] at kk
    exact lv_icmp_ne hC.1 hC.2.1 hd ht (fun z => absurd (eqI_iff.mp (bnot2 hb)) z) (fun _ => kk)
theorem o_ic_lt {j : Nat} {off : Int} (hd : decode M.2.1 pc = .ok (.if_icmp .lt off, 3)) (ht : (pc : Int) + off = ((pcAt C j : Nat) : Int)) : OpS I M C pc (pc + 3) (i_ic (fun x y => ltI x y) j) := by
  refine OpS.br I (tgt := pcAt C j) rfl fun cf jmp nxt lo sk α nx k n res h => ?_
  obtain ⟨y, r, rfl, h1⟩ := pI_some h
  obtain ⟨x, r, rfl, h2⟩ := pI_some h1
  refine ⟨_, r, h2, fun p l e R s m args below meth c Q G H locs ls cells slots ad rst hC hE hS hH hr => ?_⟩
  obtain ⟨_, _, rfl, rfl, _, us, rfl, rfl, hr⟩ := hr
  refine ⟨us, hr, fun kk => ?_⟩
  cases hb : (ltI x y) with
  | true =>
    simp only [hb] at kk
    exact lv_icmp_lt hC.1 hC.2.1 hd ht (fun _ => kk) (fun z => absurd (ltI_iff.mp hb) z)
  | false =>
    simp only [hb] at kk
    exact lv_icmp_lt hC.1 hC.2.1 hd ht (fun z => absurd z (fun z => absurd (ltI_iff.mpr z) (by rw [hb]; decide))) (fun _ => kk)
theorem o_ic_ge {j : Nat} {off : Int} (hd : decode M.2.1 pc = .ok (.if_icmp .ge off, 3)) (ht : (pc : Int) + off = ((pcAt C j : Nat) : Int)) : OpS I M C pc (pc + 3) (i_ic (fun x y => bB (ltI x y) false true) j) := by
  refine OpS.br I (tgt := pcAt C j) rfl fun cf jmp nxt lo sk α nx k n res h => ?_
  obtain ⟨y, r, rfl, h1⟩ := pI_some h
  obtain ⟨x, r, rfl, h2⟩ := pI_some h1
  refine ⟨_, r, h2, fun p l e R s m args below meth c Q G H locs ls cells slots ad rst hC hE hS hH hr => ?_⟩
  obtain ⟨_, _, rfl, rfl, _, us, rfl, rfl, hr⟩ := hr
  refine ⟨us, hr, fun kk => ?_⟩
  cases hb : (bB (ltI x y) false true) with
  | true =>
    simp only [hb] at kk
    exact lv_icmp_ge hC.1 hC.2.1 hd ht (fun _ => kk) (fun z => absurd (Int32.not_lt.mp (fun z => absurd (ltI_iff.mpr z) (by rw [bnot hb]; decide))) z)
  | false =>
    simp only [hb] at kk
    exact lv_icmp_ge hC.1 hC.2.1 hd ht (fun z => absurd z (fun z => Int32.not_lt.mpr z (ltI_iff.mp (bnot2 hb)))) (fun _ => kk)
theorem o_ic_gt {j : Nat} {off : Int} (hd : decode M.2.1 pc = .ok (.if_icmp .gt off, 3)) (ht : (pc : Int) + off = ((pcAt C j : Nat) : Int)) : OpS I M C pc (pc + 3) (i_ic (fun x y => ltI y x) j) := by
  refine OpS.br I (tgt := pcAt C j) rfl fun cf jmp nxt lo sk α nx k n res h => ?_
  obtain ⟨y, r, rfl, h1⟩ := pI_some h
  obtain ⟨x, r, rfl, h2⟩ := pI_some h1
  refine ⟨_, r, h2, fun p l e R s m args below meth c Q G H locs ls cells slots ad rst hC hE hS hH hr => ?_⟩
  obtain ⟨_, _, rfl, rfl, _, us, rfl, rfl, hr⟩ := hr
  refine ⟨us, hr, fun kk => ?_⟩
  cases hb : (ltI y x) with
  | true =>
    simp only [hb] at kk
    exact lv_icmp_gt hC.1 hC.2.1 hd ht (fun _ => kk) (fun z => absurd (ltI_iff.mp hb) z)
  | false =>
    simp only [hb] at kk
    exact lv_icmp_gt hC.1 hC.2.1 hd ht (fun z => absurd z (fun z => absurd (ltI_iff.mpr z) (by rw [hb]; decide))) (fun _ => kk)
theorem o_ic_le {j : Nat} {off : Int} (hd : decode M.2.1 pc = .ok (.if_icmp .le off, 3)) (ht : (pc : Int) + off = ((pcAt C j : Nat) : Int)) : OpS I M C pc (pc + 3) (i_ic (fun x y => bB (ltI y x) false true) j) := by
  refine OpS.br I (tgt := pcAt C j) rfl fun cf jmp nxt lo sk α nx k n res h => ?_
  obtain ⟨y, r, rfl, h1⟩ := pI_some h
  obtain ⟨x, r, rfl, h2⟩ := pI_some h1
  refine ⟨_, r, h2, fun p l e R s m args below meth c Q G H locs ls cells slots ad rst hC hE hS hH hr => ?_⟩
  obtain ⟨_, _, rfl, rfl, _, us, rfl, rfl, hr⟩ := hr
  refine ⟨us, hr, fun kk => ?_⟩
  cases hb : (bB (ltI y x) false true) with
  | true =>
    simp only [hb] at kk
    exact lv_icmp_le hC.1 hC.2.1 hd ht (fun _ => kk) (fun z => absurd (Int32.not_lt.mp (fun z => absurd (ltI_iff.mpr z) (by rw [bnot hb]; decide))) z)
  | false =>
    simp only [hb] at kk
    exact lv_icmp_le hC.1 hC.2.1 hd ht (fun z => absurd z (fun z => Int32.not_lt.mpr z (ltI_iff.mp (bnot2 hb)))) (fun _ => kk)
end OPS
