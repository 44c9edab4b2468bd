/-! ===== the four methods of Math ===== -/
noncomputable section
def ltJ (x y : Int64) : Bool := decide (x < y)
def i_mi (f : Int32 → Int32 → Int32) : OP := fun _ _ nxt lo sk α nx k n => pI sk (fun y r => pI r (fun x r => gB (Nat.ble (catS r) 8) (nxt lo (.int (f x y) :: r) α nx k n)))
def i_ml (f : Int64 → Int64 → Int64) : OP := fun _ _ nxt lo sk α nx k n => pL sk (fun y r => pL r (fun x r => gB (Nat.ble (catS r) 8) (nxt lo (.long (f x y) :: r) α nx k n)))
def i_ma (f : Int64 → Int64) : OP := fun _ _ nxt lo sk α nx k n => pL sk (fun x r => gB (Nat.ble (catS r) 8) (nxt lo (.long (f x) :: r) α nx k n))
end
theorem bB_if {α : Type} {q : Prop} [Decidable q] {b : Bool} {x y : α} (h : b = true ↔ q) : bB b x y = if q then x else y := by
  cases b with
  | true => rw [if_pos (h.mp rfl)]; rfl
  | false => rw [if_neg (fun z => by have := h.mpr z; cases this)]; rfl
section MATHO
variable {I : EVT} {M : MI} {C : List (Nat × OP)} {pc idx : Nat}
theorem o_mmin (hl : Cond.methodLink M.1.cls idx Lib.Math.min.name ∈ lw_all) (hs : Cond.static Lib.Math.min.name ∈ lw_all) (hi : Cond.initialized "java/lang/Math" ∈ lw_all) (hk : Cond.code Lib.Math.min.name Lib.Math.min.code 2 (some .int) ∈ lw_all) (hd : decode M.2.1 pc = .ok (.invokestatic idx, 3)) : OpS I M C pc (pc + 3) (i_mi (fun x y => bB (ltI y x) y x)) := by
  intro d cf p l e R s m args below meth c Q G ad0 res jmp nxt lo sk α nx k n hC hE hR hQ hcf hn hj h
  obtain ⟨y, r, rfl, h1⟩ := pI_some h
  obtain ⟨x, r, rfl, h2⟩ := pI_some h1
  obtain ⟨h8, h3⟩ := gB_some h2
  have h8 : catS r ≤ 8 := Nat.le_of_ble_eq_true h8
  obtain ⟨g1, g2⟩ := hn _ _ _ _ _ _ h3
  refine ⟨g1, fun ad H locs ls rst hv => ?_⟩
  obtain ⟨a1, a2, a3, a4, a5, _, us, rfl, rfl, _, us, rfl, rfl, a6⟩ := hv
  obtain ⟨c1, c2, c3, c4, c5, c6, c7, c8, c9, c10⟩ := hC
  have hsum := a6.csum
  have hR1 : d + 6 ≤ R.frames := hR.1
  have hR2 : 128 * (d + 1) + 100 ≤ R.locals := hR.2.1
  refine va_mmin c1 c2 (c3.trans a5.1.symm) c5 (c6 _ hl) (c6 _ hs) (c6 _ hi) (c6 _ hk) (by omega) (by rw [hsum]; omega) (Nat.le_trans g1.1 hR.2.2.1) (Nat.le_trans g1.2 hR.2.2.2) hd ?_
  have kk := g2 ad H locs ls (.int (bB (ltI y x) y x) :: us) ⟨a1, a2, a3, a4, a5, _, us, rfl, rfl, a6⟩
  rw [bB_if (q := y < x) ltI_iff] at kk
  exact kk
theorem o_mmax (hl : Cond.methodLink M.1.cls idx Lib.Math.max.name ∈ lw_all) (hs : Cond.static Lib.Math.max.name ∈ lw_all) (hi : Cond.initialized "java/lang/Math" ∈ lw_all) (hk : Cond.code Lib.Math.max.name Lib.Math.max.code 2 (some .int) ∈ lw_all) (hd : decode M.2.1 pc = .ok (.invokestatic idx, 3)) : OpS I M C pc (pc + 3) (i_mi (fun x y => bB (ltI x y) y x)) := by
  intro d cf p l e R s m args below meth c Q G ad0 res jmp nxt lo sk α nx k n hC hE hR hQ hcf hn hj h
  obtain ⟨y, r, rfl, h1⟩ := pI_some h
  obtain ⟨x, r, rfl, h2⟩ := pI_some h1
  obtain ⟨h8, h3⟩ := gB_some h2
  have h8 : catS r ≤ 8 := Nat.le_of_ble_eq_true h8
  obtain ⟨g1, g2⟩ := hn _ _ _ _ _ _ h3
  refine ⟨g1, fun ad H locs ls rst hv => ?_⟩
  obtain ⟨a1, a2, a3, a4, a5, _, us, rfl, rfl, _, us, rfl, rfl, a6⟩ := hv
  obtain ⟨c1, c2, c3, c4, c5, c6, c7, c8, c9, c10⟩ := hC
  have hsum := a6.csum
  have hR1 : d + 6 ≤ R.frames := hR.1
  have hR2 : 128 * (d + 1) + 100 ≤ R.locals := hR.2.1
  refine va_mmax c1 c2 (c3.trans a5.1.symm) c5 (c6 _ hl) (c6 _ hs) (c6 _ hi) (c6 _ hk) (by omega) (by rw [hsum]; omega) (Nat.le_trans g1.1 hR.2.2.1) (Nat.le_trans g1.2 hR.2.2.2) hd ?_
  have kk := g2 ad H locs ls (.int (bB (ltI x y) y x) :: us) ⟨a1, a2, a3, a4, a5, _, us, rfl, rfl, a6⟩
  rw [bB_if (q := x < y) ltI_iff] at kk
  exact kk
theorem o_mminl (hl : Cond.methodLink M.1.cls idx Lib.MathLoose.min_long.x ∈ lw_all) (hs : Cond.static Lib.MathLoose.min_long.x ∈ lw_all) (hi : Cond.initialized "java/lang/Math" ∈ lw_all) (hk : Cond.code Lib.MathLoose.min_long.x Lib.MathLoose.min_long.code 4 (some .long) ∈ lw_all) (hd : decode M.2.1 pc = .ok (.invokestatic idx, 3)) : OpS I M C pc (pc + 3) (i_ml (fun x y => bB (ltJ y x) y x)) := by
  intro d cf p l e R s m args below meth c Q G ad0 res jmp nxt lo sk α nx k n hC hE hR hQ hcf hn hj h
  obtain ⟨y, r, rfl, h1⟩ := pL_some h
  obtain ⟨x, r, rfl, h2⟩ := pL_some h1
  obtain ⟨h8, h3⟩ := gB_some h2
  have h8 : catS r ≤ 8 := Nat.le_of_ble_eq_true h8
  obtain ⟨g1, g2⟩ := hn _ _ _ _ _ _ h3
  refine ⟨g1, fun ad H locs ls rst hv => ?_⟩
  obtain ⟨a1, a2, a3, a4, a5, _, us, rfl, rfl, _, us, rfl, rfl, a6⟩ := hv
  obtain ⟨c1, c2, c3, c4, c5, c6, c7, c8, c9, c10⟩ := hC
  have hsum := a6.csum
  have hR1 : d + 6 ≤ R.frames := hR.1
  have hR2 : 128 * (d + 1) + 100 ≤ R.locals := hR.2.1
  refine va_mmin_long c1 c2 (c3.trans a5.1.symm) c5 (c6 _ hl) (c6 _ hs) (c6 _ hi) (c6 _ hk) (by omega) (by rw [hsum]; omega) (Nat.le_trans g1.1 hR.2.2.1) (Nat.le_trans g1.2 hR.2.2.2) hd ?_
  have kk := g2 ad H locs ls (.long (bB (ltJ y x) y x) :: us) ⟨a1, a2, a3, a4, a5, _, us, rfl, rfl, a6⟩
  rw [bB_if (q := y < x) (by unfold ltJ; exact decide_eq_true_iff)] at kk
  exact kk
theorem o_mabsl (hl : Cond.methodLink M.1.cls idx Lib.MathLoose.abs_long.x ∈ lw_all) (hs : Cond.static Lib.MathLoose.abs_long.x ∈ lw_all) (hi : Cond.initialized "java/lang/Math" ∈ lw_all) (hk : Cond.code Lib.MathLoose.abs_long.x Lib.MathLoose.abs_long.code 2 (some .long) ∈ lw_all) (hd : decode M.2.1 pc = .ok (.invokestatic idx, 3)) : OpS I M C pc (pc + 3) (i_ma (fun x => bB (ltJ 0 x) x (-x))) := by
  intro d cf p l e R s m args below meth c Q G ad0 res jmp nxt lo sk α nx k n hC hE hR hQ hcf hn hj h
  obtain ⟨x, r, rfl, h2⟩ := pL_some h
  obtain ⟨h8, h3⟩ := gB_some h2
  have h8 : catS r ≤ 8 := Nat.le_of_ble_eq_true h8
  obtain ⟨g1, g2⟩ := hn _ _ _ _ _ _ h3
  refine ⟨g1, fun ad H locs ls rst hv => ?_⟩
  obtain ⟨a1, a2, a3, a4, a5, _, us, rfl, rfl, a6⟩ := hv
  obtain ⟨c1, c2, c3, c4, c5, c6, c7, c8, c9, c10⟩ := hC
  have hsum := a6.csum
  have hR1 : d + 6 ≤ R.frames := hR.1
  have hR2 : 128 * (d + 1) + 100 ≤ R.locals := hR.2.1
  refine va_mabs_long c1 c2 (c3.trans a5.1.symm) c5 (c6 _ hl) (c6 _ hs) (c6 _ hi) (c6 _ hk) (by omega) (by rw [hsum]; omega) (Nat.le_trans g1.1 hR.2.2.1) (Nat.le_trans g1.2 hR.2.2.2) hd ?_
  have kk := g2 ad H locs ls (.long (bB (ltJ 0 x) x (-x)) :: us) ⟨a1, a2, a3, a4, a5, _, us, rfl, rfl, a6⟩
  rw [bB_if (q := 0 < x) (by unfold ltJ; exact decide_eq_true_iff)] at kk
  exact kk
end MATHO
