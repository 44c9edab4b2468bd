/-! ===== frosts: pieces ===== -/
section
set_option maxRecDepth 100000
variable {SC : Nat × (Nat → Int32)}

abbrev fz_W (SC : Nat × (Nat → Int32)) (res : RS) (i : Nat) (lo sk : List Value) (α : AH) (nx k n : Nat) : Prop := WGA (infoT, SC) mL_frosts kL_frosts True 13 res i lo sk α nx k n
theorem fgL_id (lo : List Value) : fgL (lo.map (fun _ => false)) lo = lo := by
  induction lo with
  | nil => rfl
  | cons v lo ih =>
    show v :: fgL (lo.map (fun _ => false)) lo = v :: lo
    rw [ih]
def fz_H : AH := [[(200, []), (200, []), (200, []), (200, []), (200, []), (200, []), (200, []), (200, []), (200, []), (200, []), (200, []), (200, []), (200, []), (200, []), (200, []), (200, [])], [(200, []), (200, []), (200, []), (200, []), (200, []), (200, []), (200, []), (200, []), (200, []), (200, []), (200, []), (200, []), (200, []), (200, []), (200, []), (200, [])], [(200, []), (200, []), (200, []), (200, []), (200, []), (200, []), (200, []), (200, []), (200, [])]]

theorem fz_cut_0 : (fun (hrs tm rn sd th cap fl wl w0 f0 z0 w1 f1 z1 ts u0 g0 y0 u1 g1 y1 : Int32) (tol rai rec ro ls vp trc tro tls tvp : Int64) (q : AC) => fgH [[false, false, false, false, false, false, false, false, false, false, false, false, false, false, false, false], [false, false, false, false, false, false, false, false, false, false, false, false, false, false, false, false], [false, false, false, false, false, false, false, false, false]] (HW hrs tm rn sd th cap fl wl w0 f0 z0 w1 f1 z1 ts u0 g0 y0 u1 g1 y1 tol rai rec ro ls vp trc tro tls tvp [q])) = (fun (hrs tm rn sd th cap fl wl w0 f0 z0 w1 f1 z1 ts u0 g0 y0 u1 g1 y1 : Int32) (tol rai rec ro ls vp trc tro tls tvp : Int64) (q : AC) => (HW hrs tm rn sd th cap fl wl w0 f0 z0 w1 f1 z1 ts u0 g0 y0 u1 g1 y1 tol rai rec ro ls vp trc tro tls tvp [])) := by eq_refl
theorem fz_cut (hrs tm rn sd th cap fl wl w0 f0 z0 w1 f1 z1 ts u0 g0 y0 u1 g1 y1 : Int32) (tol rai rec ro ls vp trc tro tls tvp : Int64) (q : AC) : fgH [[false, false, false, false, false, false, false, false, false, false, false, false, false, false, false, false], [false, false, false, false, false, false, false, false, false, false, false, false, false, false, false, false], [false, false, false, false, false, false, false, false, false]] (HW hrs tm rn sd th cap fl wl w0 f0 z0 w1 f1 z1 ts u0 g0 y0 u1 g1 y1 tol rai rec ro ls vp trc tro tls tvp [q]) = (HW hrs tm rn sd th cap fl wl w0 f0 z0 w1 f1 z1 ts u0 g0 y0 u1 g1 y1 tol rai rec ro ls vp trc tro tls tvp []) := congrFun (congrFun (congrFun (congrFun (congrFun (congrFun (congrFun (congrFun (congrFun (congrFun (congrFun (congrFun (congrFun (congrFun (congrFun (congrFun (congrFun (congrFun (congrFun (congrFun (congrFun (congrFun (congrFun (congrFun (congrFun (congrFun (congrFun (congrFun (congrFun (congrFun (congrFun (congrFun (fz_cut_0) hrs) tm) rn) sd) th) cap) fl) wl) w0) f0) z0) w1) f1) z1) ts) u0) g0) y0) u1) g1) y1) tol) rai) rec) ro) ls) vp) trc) tro) tls) tvp) q
theorem fz_alh_0 : (fun (hrs tm rn sd th cap fl wl w0 f0 z0 w1 f1 z1 ts u0 g0 y0 u1 g1 y1 : Int32) (tol rai rec ro ls vp trc tro tls tvp : Int64) => fgH [[true, true, true, true, true, true, true, true, true, true, true, true, true, true, true, true], [true, true, true, true, true, true, true, true, true, true, true, true, true, true, true, true], [true, true, true, true, true, true, true, true, true]] (HW hrs tm rn sd th cap fl wl w0 f0 z0 w1 f1 z1 ts u0 g0 y0 u1 g1 y1 tol rai rec ro ls vp trc tro tls tvp [])) = (fun (hrs tm rn sd th cap fl wl w0 f0 z0 w1 f1 z1 ts u0 g0 y0 u1 g1 y1 : Int32) (tol rai rec ro ls vp trc tro tls tvp : Int64) => fz_H) := by eq_refl
theorem fz_alh (hrs tm rn sd th cap fl wl w0 f0 z0 w1 f1 z1 ts u0 g0 y0 u1 g1 y1 : Int32) (tol rai rec ro ls vp trc tro tls tvp : Int64) : fgH [[true, true, true, true, true, true, true, true, true, true, true, true, true, true, true, true], [true, true, true, true, true, true, true, true, true, true, true, true, true, true, true, true], [true, true, true, true, true, true, true, true, true]] (HW hrs tm rn sd th cap fl wl w0 f0 z0 w1 f1 z1 ts u0 g0 y0 u1 g1 y1 tol rai rec ro ls vp trc tro tls tvp []) = fz_H := congrFun (congrFun (congrFun (congrFun (congrFun (congrFun (congrFun (congrFun (congrFun (congrFun (congrFun (congrFun (congrFun (congrFun (congrFun (congrFun (congrFun (congrFun (congrFun (congrFun (congrFun (congrFun (congrFun (congrFun (congrFun (congrFun (congrFun (congrFun (congrFun (congrFun (congrFun (fz_alh_0) hrs) tm) rn) sd) th) cap) fl) wl) w0) f0) z0) w1) f1) z1) ts) u0) g0) y0) u1) g1) y1) tol) rai) rec) ro) ls) vp) trc) tro) tls) tvp
theorem fz_ok_0 : (fun (hrs tm rn sd th cap fl wl w0 f0 z0 w1 f1 z1 ts u0 g0 y0 u1 g1 y1 : Int32) (tol rai rec ro ls vp trc tro tls tvp : Int64) => okH 41 (HW hrs tm rn sd th cap fl wl w0 f0 z0 w1 f1 z1 ts u0 g0 y0 u1 g1 y1 tol rai rec ro ls vp trc tro tls tvp [])) = (fun (hrs tm rn sd th cap fl wl w0 f0 z0 w1 f1 z1 ts u0 g0 y0 u1 g1 y1 : Int32) (tol rai rec ro ls vp trc tro tls tvp : Int64) => true) := by eq_refl
theorem fz_ok (hrs tm rn sd th cap fl wl w0 f0 z0 w1 f1 z1 ts u0 g0 y0 u1 g1 y1 : Int32) (tol rai rec ro ls vp trc tro tls tvp : Int64) : okH 41 (HW hrs tm rn sd th cap fl wl w0 f0 z0 w1 f1 z1 ts u0 g0 y0 u1 g1 y1 tol rai rec ro ls vp trc tro tls tvp []) = true := congrFun (congrFun (congrFun (congrFun (congrFun (congrFun (congrFun (congrFun (congrFun (congrFun (congrFun (congrFun (congrFun (congrFun (congrFun (congrFun (congrFun (congrFun (congrFun (congrFun (congrFun (congrFun (congrFun (congrFun (congrFun (congrFun (congrFun (congrFun (congrFun (congrFun (congrFun (fz_ok_0) hrs) tm) rn) sd) th) cap) fl) wl) w0) f0) z0) w1) f1) z1) ts) u0) g0) y0) u1) g1) y1) tol) rai) rec) ro) ls) vp) trc) tro) tls) tvp
theorem fz_x_0 : (fun (hrs tm rn sd th cap fl wl w0 f0 z0 w1 f1 z1 ts u0 g0 y0 u1 g1 y1 : Int32) (tol rai rec ro ls vp trc tro tls tvp : Int64) (q : AC) => fgH [[false, false, false, false, false, false, false, false, false, false, false, false, false, false, false, false], [false, false, false, false, false, false, false, false, false, false, false, false, false, false, false, false], [false, false, false, false, false, false, false, false, true]] (HX hrs tm rn sd th cap fl wl w0 f0 z0 w1 f1 z1 ts u0 g0 y0 u1 g1 y1 tol rai rec ro ls vp trc tro tls tvp [q])) = (fun (hrs tm rn sd th cap fl wl w0 f0 z0 w1 f1 z1 ts u0 g0 y0 u1 g1 y1 : Int32) (tol rai rec ro ls vp trc tro tls tvp : Int64) (q : AC) => (HW hrs tm rn sd th cap fl wl w0 f0 z0 w1 f1 z1 ts u0 g0 y0 u1 g1 y1 tol rai rec ro ls vp trc tro tls tvp [])) := by eq_refl
theorem fz_x (hrs tm rn sd th cap fl wl w0 f0 z0 w1 f1 z1 ts u0 g0 y0 u1 g1 y1 : Int32) (tol rai rec ro ls vp trc tro tls tvp : Int64) (q : AC) : fgH [[false, false, false, false, false, false, false, false, false, false, false, false, false, false, false, false], [false, false, false, false, false, false, false, false, false, false, false, false, false, false, false, false], [false, false, false, false, false, false, false, false, true]] (HX hrs tm rn sd th cap fl wl w0 f0 z0 w1 f1 z1 ts u0 g0 y0 u1 g1 y1 tol rai rec ro ls vp trc tro tls tvp [q]) = (HW hrs tm rn sd th cap fl wl w0 f0 z0 w1 f1 z1 ts u0 g0 y0 u1 g1 y1 tol rai rec ro ls vp trc tro tls tvp []) := congrFun (congrFun (congrFun (congrFun (congrFun (congrFun (congrFun (congrFun (congrFun (congrFun (congrFun (congrFun (congrFun (congrFun (congrFun (congrFun (congrFun (congrFun (congrFun (congrFun (congrFun (congrFun (congrFun (congrFun (congrFun (congrFun (congrFun (congrFun (congrFun (congrFun (congrFun (congrFun (fz_x_0) hrs) tm) rn) sd) th) cap) fl) wl) w0) f0) z0) w1) f1) z1) ts) u0) g0) y0) u1) g1) y1) tol) rai) rec) ro) ls) vp) trc) tro) tls) tvp) q
theorem fz_dr (hrs tm rn sd th cap fl wl w0 f0 z0 w1 f1 z1 ts u0 g0 y0 u1 g1 y1 : Int32) (tol rai rec ro ls vp trc tro tls tvp : Int64) (q : AC) {res : RS} {i : Nat} {lo sk : List Value} {k n : Nat} (h1 : allB (okV 41) lo = true) (h2 : allB (okV 41) sk = true) (hw : fz_W SC res i lo sk (HW hrs tm rn sd th cap fl wl w0 f0 z0 w1 f1 z1 ts u0 g0 y0 u1 g1 y1 tol rai rec ro ls vp trc tro tls tvp []) 41 k n) : fz_W SC res i lo sk (HW hrs tm rn sd th cap fl wl w0 f0 z0 w1 f1 z1 ts u0 g0 y0 u1 g1 y1 tol rai rec ro ls vp trc tro tls tvp [q]) 42 k n := by
  have a : fz_W SC res i lo sk (HW hrs tm rn sd th cap fl wl w0 f0 z0 w1 f1 z1 ts u0 g0 y0 u1 g1 y1 tol rai rec ro ls vp trc tro tls tvp []) 42 k n := wga_cut trivial 41 (Nat.le_succ 41) h1 h2 (fz_ok hrs tm rn sd th cap fl wl w0 f0 z0 w1 f1 z1 ts u0 g0 y0 u1 g1 y1 tol rai rec ro ls vp trc tro tls tvp) hw
  refine wga_fgt (lo.map (fun _ => false)) [[false, false, false, false, false, false, false, false, false, false, false, false, false, false, false, false], [false, false, false, false, false, false, false, false, false, false, false, false, false, false, false, false], [false, false, false, false, false, false, false, false, false]] ?_
  rw [fgL_id, fz_cut]
  exact a
theorem fz_end (hrs tm rn sd th cap fl wl w0 f0 z0 w1 f1 z1 ts u0 g0 y0 u1 g1 y1 : Int32) (tol rai rec ro ls vp trc tro tls tvp : Int64) {lo sk : List Value} {res : RS} {i k n : Nat} (hw : fz_W SC res i lo sk fz_H 41 k n) : fz_W SC res i lo sk (HW hrs tm rn sd th cap fl wl w0 f0 z0 w1 f1 z1 ts u0 g0 y0 u1 g1 y1 tol rai rec ro ls vp trc tro tls tvp []) 41 k n := by
  refine wga_fgt (lo.map (fun _ => false)) [[true, true, true, true, true, true, true, true, true, true, true, true, true, true, true, true], [true, true, true, true, true, true, true, true, true, true, true, true, true, true, true, true], [true, true, true, true, true, true, true, true, true]] ?_
  rw [fgL_id, fz_alh]
  exact hw
theorem fz_xw (hrs tm rn sd th cap fl wl w0 f0 z0 w1 f1 z1 ts u0 g0 y0 u1 g1 y1 : Int32) (tol rai rec ro ls vp trc tro tls tvp : Int64) (q : AC) {lo sk : List Value} {res : RS} {i k n : Nat} (hw : fz_W SC res i lo sk (HW hrs tm rn sd th cap fl wl w0 f0 z0 w1 f1 z1 ts u0 g0 y0 u1 g1 y1 tol rai rec ro ls vp trc tro tls tvp []) 41 k n) : fz_W SC res i lo sk (HX hrs tm rn sd th cap fl wl w0 f0 z0 w1 f1 z1 ts u0 g0 y0 u1 g1 y1 tol rai rec ro ls vp trc tro tls tvp [q]) 41 k n := by
  refine wga_fgt (lo.map (fun _ => false)) [[false, false, false, false, false, false, false, false, false, false, false, false, false, false, false, false], [false, false, false, false, false, false, false, false, false, false, false, false, false, false, false, false], [false, false, false, false, false, false, false, false, true]] ?_
  rw [fgL_id, fz_x]
  exact hw
def aV (SC : Nat × (Nat → Int32)) (j : Int32) : Int32 := bB (ltI j (Int32.ofNat SC.1)) (SC.2 (Int32.toNatClampNeg j)) 0
def sV (v m : Int32) : Int32 := bB (ltI (v - v / m * m) 0) ((v - v / m * m) + m) (v - v / m * m)
theorem fa_1_0 : (fun (SC : Nat × (Nat → Int32)) (j : Int32) (α : AH) (nx k n : Nat) => exe (fun _ _ _ _ => none) (kL_at SC) 3 (drp 0 (kL_at SC)) [.ref 1000004, .int j] [] α nx k n) = (fun (SC : Nat × (Nat → Int32)) (j : Int32) (α : AH) (nx k n : Nat) => some (0, 7, none, [.ref 1000004, .int j], [.int (Int32.ofNat SC.1), .int j], α, nx, k, n)) := by eq_refl
theorem fa_1 (SC : Nat × (Nat → Int32)) (j : Int32) (α : AH) (nx k n : Nat) : exe (fun _ _ _ _ => none) (kL_at SC) 3 (drp 0 (kL_at SC)) [.ref 1000004, .int j] [] α nx k n = some (0, 7, none, [.ref 1000004, .int j], [.int (Int32.ofNat SC.1), .int j], α, nx, k, n) := congrFun (congrFun (congrFun (congrFun (congrFun (congrFun (fa_1_0) SC) j) α) nx) k) n
theorem fa_2_0 : (fun (SC : Nat × (Nat → Int32)) (j : Int32) (α : AH) (nx k n : Nat) => exe (fun _ _ _ _ => none) (kL_at SC) 2 (drp 4 (kL_at SC)) [.ref 1000004, .int j] [] α nx k n) = (fun (SC : Nat × (Nat → Int32)) (j : Int32) (α : AH) (nx k n : Nat) => some (0, 4, none, [.ref 1000004, .int j], [.int j, .ref 1000004], α, nx, k, n)) := by eq_refl
theorem fa_2 (SC : Nat × (Nat → Int32)) (j : Int32) (α : AH) (nx k n : Nat) : exe (fun _ _ _ _ => none) (kL_at SC) 2 (drp 4 (kL_at SC)) [.ref 1000004, .int j] [] α nx k n = some (0, 4, none, [.ref 1000004, .int j], [.int j, .ref 1000004], α, nx, k, n) := congrFun (congrFun (congrFun (congrFun (congrFun (congrFun (fa_2_0) SC) j) α) nx) k) n
theorem fa_3_0 : (fun (SC : Nat × (Nat → Int32)) (j v : Int32) (α : AH) (nx k n : Nat) => exe (fun _ _ _ _ => none) (kL_at SC) 2 (drp 7 (kL_at SC)) [.ref 1000004, .int j] [.int v] α nx k n) = (fun (SC : Nat × (Nat → Int32)) (j v : Int32) (α : AH) (nx k n : Nat) => some (retR (some (.int v)) α nx k n)) := by eq_refl
theorem fa_3 (SC : Nat × (Nat → Int32)) (j v : Int32) (α : AH) (nx k n : Nat) : exe (fun _ _ _ _ => none) (kL_at SC) 2 (drp 7 (kL_at SC)) [.ref 1000004, .int j] [.int v] α nx k n = some (retR (some (.int v)) α nx k n) := congrFun (congrFun (congrFun (congrFun (congrFun (congrFun (congrFun (fa_3_0) SC) j) v) α) nx) k) n
theorem fa_4_0 : (fun (SC : Nat × (Nat → Int32)) (j : Int32) (α : AH) (nx k n : Nat) => exe (fun _ _ _ _ => none) (kL_at SC) 2 (drp 8 (kL_at SC)) [.ref 1000004, .int j] [] α nx k n) = (fun (SC : Nat × (Nat → Int32)) (j : Int32) (α : AH) (nx k n : Nat) => some (retR (some (.int 0)) α nx k n)) := by eq_refl
theorem fa_4 (SC : Nat × (Nat → Int32)) (j : Int32) (α : AH) (nx k n : Nat) : exe (fun _ _ _ _ => none) (kL_at SC) 2 (drp 8 (kL_at SC)) [.ref 1000004, .int j] [] α nx k n = some (retR (some (.int 0)) α nx k n) := congrFun (congrFun (congrFun (congrFun (congrFun (congrFun (fa_4_0) SC) j) α) nx) k) n
theorem fz_at (j : Int32) (hL : SC.1 ≤ 260) (hj : ltI j 0 = false) (hj2 : ∀ L : Nat, L ≤ 260 → ltI j (Int32.ofNat L) = true → Nat.blt j.toNatClampNeg L = true) (α : AH) (nx : Nat) : COK (infoT, SC) mL_at 13 [.ref 1000004, .int j] α nx (retR (some (.int (aV SC j))) α nx 0 0) := by
  refine cok_of (M := mL_at) (C := kL_at SC) (by decide) rfl (Nat.le_of_ble_eq_true rfl) ?_
  refine wga_rn sL_at cfn_ok 3 0 7 3 (fa_1 SC j _ _ _ _) rfl ?_
  rcases Bool.eq_false_or_eq_true (ltI j (Int32.ofNat SC.1)) with h | h
  · have e : aV SC j = SC.2 (Int32.toNatClampNeg j) := by
      unfold aV
      rw [h]
      rfl
    rw [e]
    refine wga_icF sL_at (show drp 3 (kL_at SC) = (3, i_ic (fun x y => bB (ltI x y) false true) 8) :: drp 4 (kL_at SC) from rfl) (show bB (ltI j (Int32.ofNat SC.1)) false true = false by rw [h]; try rfl) ?_
    refine wga_rn sL_at cfn_ok 2 4 4 6 (fa_2 SC j _ _ _ _) rfl ?_
    refine wga_op sL_at cfn_ok (show drp 6 (kL_at SC) = (8, i_sld SC.1 SC.2) :: drp 7 (kL_at SC) from rfl) (lo' := [.ref 1000004, .int j]) (sk' := [.int (SC.2 (Int32.toNatClampNeg j))]) (α' := α) (nx' := nx) (k' := 0) (n' := 0) ?_ ?_
    · show gB (bB (ltI j 0) false true) (gB (Nat.blt j.toNatClampNeg SC.1) (nxo [.ref 1000004, .int j] [.int (SC.2 (Int32.toNatClampNeg j))] α nx 0 0 _ [.ref 1000004, .int j] [.int (SC.2 (Int32.toNatClampNeg j))] α nx 0 0)) = some _
      rw [hj, hj2 SC.1 hL h]
      exact nxo_eq
    · exact wga_rf sL_at cfn_ok 2 7 (fa_3 SC j _ _ _ _ _)
  · have e : aV SC j = 0 := by
      unfold aV
      rw [h]
      rfl
    rw [e]
    refine wga_icT sL_at (show drp 3 (kL_at SC) = (3, i_ic (fun x y => bB (ltI x y) false true) 8) :: drp 4 (kL_at SC) from rfl) (show bB (ltI j (Int32.ofNat SC.1)) false true = true by rw [h]; try rfl) ?_
    exact wga_rf sL_at cfn_ok 2 8 (fa_4 SC j _ _ _ _)
theorem fo_1_30_0 : (fun (v : Int32) (α : AH) (nx k n : Nat) => exe (fun _ _ _ _ => none) kL_some 5 (drp 0 kL_some) [.int v, .int 30, uns] [] α nx k n) = (fun (v : Int32) (α : AH) (nx k n : Nat) => some (0, 7, none, [.int v, .int 30, .int (v - v / 30 * 30)], [.int (v - v / 30 * 30)], α, nx, k, n)) := by eq_refl
theorem fo_1_30 (v : Int32) (α : AH) (nx k n : Nat) : exe (fun _ _ _ _ => none) kL_some 5 (drp 0 kL_some) [.int v, .int 30, uns] [] α nx k n = some (0, 7, none, [.int v, .int 30, .int (v - v / 30 * 30)], [.int (v - v / 30 * 30)], α, nx, k, n) := congrFun (congrFun (congrFun (congrFun (congrFun (fo_1_30_0) v) α) nx) k) n
theorem fo_2_30_0 : (fun (v : Int32) (α : AH) (nx k n : Nat) => exe (fun _ _ _ _ => none) kL_some 5 (drp 6 kL_some) [.int v, .int 30, .int (v - v / 30 * 30)] [] α nx k n) = (fun (v : Int32) (α : AH) (nx k n : Nat) => some (retR (some (.int ((v - v / 30 * 30) + 30))) α nx k n)) := by eq_refl
theorem fo_2_30 (v : Int32) (α : AH) (nx k n : Nat) : exe (fun _ _ _ _ => none) kL_some 5 (drp 6 kL_some) [.int v, .int 30, .int (v - v / 30 * 30)] [] α nx k n = some (retR (some (.int ((v - v / 30 * 30) + 30))) α nx k n) := congrFun (congrFun (congrFun (congrFun (congrFun (fo_2_30_0) v) α) nx) k) n
theorem fo_3_30_0 : (fun (v : Int32) (α : AH) (nx k n : Nat) => exe (fun _ _ _ _ => none) kL_some 2 (drp 10 kL_some) [.int v, .int 30, .int (v - v / 30 * 30)] [] α nx k n) = (fun (v : Int32) (α : AH) (nx k n : Nat) => some (retR (some (.int (v - v / 30 * 30))) α nx k n)) := by eq_refl
theorem fo_3_30 (v : Int32) (α : AH) (nx k n : Nat) : exe (fun _ _ _ _ => none) kL_some 2 (drp 10 kL_some) [.int v, .int 30, .int (v - v / 30 * 30)] [] α nx k n = some (retR (some (.int (v - v / 30 * 30))) α nx k n) := congrFun (congrFun (congrFun (congrFun (congrFun (fo_3_30_0) v) α) nx) k) n
theorem fz_some_30 (v : Int32) (α : AH) (nx : Nat) : COK (infoT, SC) mL_some 13 [.int v, .int 30] α nx (retR (some (.int (sV v 30))) α nx 0 0) := by
  refine cok_of (M := mL_some) (C := kL_some) (by decide) rfl (Nat.le_of_ble_eq_true rfl) ?_
  refine wga_rn sL_some cfn_ok 5 0 7 5 (fo_1_30 v _ _ _ _) rfl ?_
  rcases Bool.eq_false_or_eq_true (ltI (v - v / 30 * 30) 0) with h | h
  · have e : sV v 30 = (v - v / 30 * 30) + 30 := by
      unfold sV
      rw [h]
      rfl
    rw [e]
    refine wga_ifF sL_some (show drp 5 kL_some = (5, i_if (fun x => bB (ltI x 0) false true) 10) :: drp 6 kL_some from rfl) (show bB (ltI (v - v / 30 * 30) 0) false true = false by rw [h]; try rfl) ?_
    exact wga_rf sL_some cfn_ok 5 6 (fo_2_30 v _ _ _ _)
  · have e : sV v 30 = v - v / 30 * 30 := by
      unfold sV
      rw [h]
      rfl
    rw [e]
    refine wga_ifT sL_some (show drp 5 kL_some = (5, i_if (fun x => bB (ltI x 0) false true) 10) :: drp 6 kL_some from rfl) (show bB (ltI (v - v / 30 * 30) 0) false true = true by rw [h]; try rfl) ?_
    exact wga_rf sL_some cfn_ok 2 10 (fo_3_30 v _ _ _ _)
theorem sV_30 (v : Int32) : ∃ c : Nat, c < 30 ∧ sV v 30 = Int32.ofNat c := by
  have h0 : (v / 30).toInt = v.toInt.tdiv 30 := Int32.toInt_div_of_ne_right v 30 (by decide)
  have h1 : v / 30 = Int32.ofInt (v.toInt.tdiv 30) := by rw [← h0, Int32.ofInt_toInt]
  have h2 : v - v / 30 * 30 = Int32.ofInt (v.toInt.tmod 30) := by
    rw [Int.tmod_def, Int32.ofInt_sub, Int32.ofInt_toInt, Int32.ofInt_mul, h1, Int32.mul_comm]
    rfl
  have h3 : v.toInt.tmod 30 < 30 := Int.tmod_lt_of_pos _ (by decide)
  have h4 : -30 < v.toInt.tmod 30 := Int.lt_tmod_of_pos _ (by decide)
  generalize v.toInt.tmod 30 = r at h2 h3 h4
  have h5 : (Int32.ofInt r).toInt = r := Int32.toInt_ofInt_of_le (by omega) (by omega)
  have h6 : ltI (v - v / 30 * 30) 0 = decide (r < 0) := by
    unfold ltI
    rw [h2]
    refine decide_eq_decide.mpr ?_
    rw [Int32.lt_iff_toInt_lt, h5]
    exact Iff.rfl
  rcases (show r < 0 ∨ 0 ≤ r by omega) with z | z
  · refine ⟨(r + 30).toNat, by omega, ?_⟩
    have h7 : ltI (v - v / 30 * 30) 0 = true := h6.trans (decide_eq_true z)
    unfold sV
    rw [h7]
    show (v - v / 30 * 30) + 30 = _
    rw [h2, ← Int32.ofInt_eq_ofNat, Int.toNat_of_nonneg (by omega), Int32.ofInt_add]
    rfl
  · refine ⟨r.toNat, by omega, ?_⟩
    have h7 : ltI (v - v / 30 * 30) 0 = false := h6.trans (decide_eq_false (by omega))
    unfold sV
    rw [h7]
    show v - v / 30 * 30 = _
    rw [h2, ← Int32.ofInt_eq_ofNat, Int.toNat_of_nonneg z]
theorem fo_1_200_0 : (fun (v : Int32) (α : AH) (nx k n : Nat) => exe (fun _ _ _ _ => none) kL_some 5 (drp 0 kL_some) [.int v, .int 200, uns] [] α nx k n) = (fun (v : Int32) (α : AH) (nx k n : Nat) => some (0, 7, none, [.int v, .int 200, .int (v - v / 200 * 200)], [.int (v - v / 200 * 200)], α, nx, k, n)) := by eq_refl
theorem fo_1_200 (v : Int32) (α : AH) (nx k n : Nat) : exe (fun _ _ _ _ => none) kL_some 5 (drp 0 kL_some) [.int v, .int 200, uns] [] α nx k n = some (0, 7, none, [.int v, .int 200, .int (v - v / 200 * 200)], [.int (v - v / 200 * 200)], α, nx, k, n) := congrFun (congrFun (congrFun (congrFun (congrFun (fo_1_200_0) v) α) nx) k) n
theorem fo_2_200_0 : (fun (v : Int32) (α : AH) (nx k n : Nat) => exe (fun _ _ _ _ => none) kL_some 5 (drp 6 kL_some) [.int v, .int 200, .int (v - v / 200 * 200)] [] α nx k n) = (fun (v : Int32) (α : AH) (nx k n : Nat) => some (retR (some (.int ((v - v / 200 * 200) + 200))) α nx k n)) := by eq_refl
theorem fo_2_200 (v : Int32) (α : AH) (nx k n : Nat) : exe (fun _ _ _ _ => none) kL_some 5 (drp 6 kL_some) [.int v, .int 200, .int (v - v / 200 * 200)] [] α nx k n = some (retR (some (.int ((v - v / 200 * 200) + 200))) α nx k n) := congrFun (congrFun (congrFun (congrFun (congrFun (fo_2_200_0) v) α) nx) k) n
theorem fo_3_200_0 : (fun (v : Int32) (α : AH) (nx k n : Nat) => exe (fun _ _ _ _ => none) kL_some 2 (drp 10 kL_some) [.int v, .int 200, .int (v - v / 200 * 200)] [] α nx k n) = (fun (v : Int32) (α : AH) (nx k n : Nat) => some (retR (some (.int (v - v / 200 * 200))) α nx k n)) := by eq_refl
theorem fo_3_200 (v : Int32) (α : AH) (nx k n : Nat) : exe (fun _ _ _ _ => none) kL_some 2 (drp 10 kL_some) [.int v, .int 200, .int (v - v / 200 * 200)] [] α nx k n = some (retR (some (.int (v - v / 200 * 200))) α nx k n) := congrFun (congrFun (congrFun (congrFun (congrFun (fo_3_200_0) v) α) nx) k) n
theorem fz_some_200 (v : Int32) (α : AH) (nx : Nat) : COK (infoT, SC) mL_some 13 [.int v, .int 200] α nx (retR (some (.int (sV v 200))) α nx 0 0) := by
  refine cok_of (M := mL_some) (C := kL_some) (by decide) rfl (Nat.le_of_ble_eq_true rfl) ?_
  refine wga_rn sL_some cfn_ok 5 0 7 5 (fo_1_200 v _ _ _ _) rfl ?_
  rcases Bool.eq_false_or_eq_true (ltI (v - v / 200 * 200) 0) with h | h
  · have e : sV v 200 = (v - v / 200 * 200) + 200 := by
      unfold sV
      rw [h]
      rfl
    rw [e]
    refine wga_ifF sL_some (show drp 5 kL_some = (5, i_if (fun x => bB (ltI x 0) false true) 10) :: drp 6 kL_some from rfl) (show bB (ltI (v - v / 200 * 200) 0) false true = false by rw [h]; try rfl) ?_
    exact wga_rf sL_some cfn_ok 5 6 (fo_2_200 v _ _ _ _)
  · have e : sV v 200 = v - v / 200 * 200 := by
      unfold sV
      rw [h]
      rfl
    rw [e]
    refine wga_ifT sL_some (show drp 5 kL_some = (5, i_if (fun x => bB (ltI x 0) false true) 10) :: drp 6 kL_some from rfl) (show bB (ltI (v - v / 200 * 200) 0) false true = true by rw [h]; try rfl) ?_
    exact wga_rf sL_some cfn_ok 2 10 (fo_3_200 v _ _ _ _)
theorem sV_200 (v : Int32) : ∃ c : Nat, c < 200 ∧ sV v 200 = Int32.ofNat c := by
  have h0 : (v / 200).toInt = v.toInt.tdiv 200 := Int32.toInt_div_of_ne_right v 200 (by decide)
  have h1 : v / 200 = Int32.ofInt (v.toInt.tdiv 200) := by rw [← h0, Int32.ofInt_toInt]
  have h2 : v - v / 200 * 200 = Int32.ofInt (v.toInt.tmod 200) := by
    rw [Int.tmod_def, Int32.ofInt_sub, Int32.ofInt_toInt, Int32.ofInt_mul, h1, Int32.mul_comm]
    rfl
  have h3 : v.toInt.tmod 200 < 200 := Int.tmod_lt_of_pos _ (by decide)
  have h4 : -200 < v.toInt.tmod 200 := Int.lt_tmod_of_pos _ (by decide)
  generalize v.toInt.tmod 200 = r at h2 h3 h4
  have h5 : (Int32.ofInt r).toInt = r := Int32.toInt_ofInt_of_le (by omega) (by omega)
  have h6 : ltI (v - v / 200 * 200) 0 = decide (r < 0) := by
    unfold ltI
    rw [h2]
    refine decide_eq_decide.mpr ?_
    rw [Int32.lt_iff_toInt_lt, h5]
    exact Iff.rfl
  rcases (show r < 0 ∨ 0 ≤ r by omega) with z | z
  · refine ⟨(r + 200).toNat, by omega, ?_⟩
    have h7 : ltI (v - v / 200 * 200) 0 = true := h6.trans (decide_eq_true z)
    unfold sV
    rw [h7]
    show (v - v / 200 * 200) + 200 = _
    rw [h2, ← Int32.ofInt_eq_ofNat, Int.toNat_of_nonneg (by omega), Int32.ofInt_add]
    rfl
  · refine ⟨r.toNat, by omega, ?_⟩
    have h7 : ltI (v - v / 200 * 200) 0 = false := h6.trans (decide_eq_false (by omega))
    unfold sV
    rw [h7]
    show v - v / 200 * 200 = _
    rw [h2, ← Int32.ofInt_eq_ofNat, Int.toNat_of_nonneg z]
theorem fo_1_9_0 : (fun (v : Int32) (α : AH) (nx k n : Nat) => exe (fun _ _ _ _ => none) kL_some 5 (drp 0 kL_some) [.int v, .int 9, uns] [] α nx k n) = (fun (v : Int32) (α : AH) (nx k n : Nat) => some (0, 7, none, [.int v, .int 9, .int (v - v / 9 * 9)], [.int (v - v / 9 * 9)], α, nx, k, n)) := by eq_refl
theorem fo_1_9 (v : Int32) (α : AH) (nx k n : Nat) : exe (fun _ _ _ _ => none) kL_some 5 (drp 0 kL_some) [.int v, .int 9, uns] [] α nx k n = some (0, 7, none, [.int v, .int 9, .int (v - v / 9 * 9)], [.int (v - v / 9 * 9)], α, nx, k, n) := congrFun (congrFun (congrFun (congrFun (congrFun (fo_1_9_0) v) α) nx) k) n
theorem fo_2_9_0 : (fun (v : Int32) (α : AH) (nx k n : Nat) => exe (fun _ _ _ _ => none) kL_some 5 (drp 6 kL_some) [.int v, .int 9, .int (v - v / 9 * 9)] [] α nx k n) = (fun (v : Int32) (α : AH) (nx k n : Nat) => some (retR (some (.int ((v - v / 9 * 9) + 9))) α nx k n)) := by eq_refl
theorem fo_2_9 (v : Int32) (α : AH) (nx k n : Nat) : exe (fun _ _ _ _ => none) kL_some 5 (drp 6 kL_some) [.int v, .int 9, .int (v - v / 9 * 9)] [] α nx k n = some (retR (some (.int ((v - v / 9 * 9) + 9))) α nx k n) := congrFun (congrFun (congrFun (congrFun (congrFun (fo_2_9_0) v) α) nx) k) n
theorem fo_3_9_0 : (fun (v : Int32) (α : AH) (nx k n : Nat) => exe (fun _ _ _ _ => none) kL_some 2 (drp 10 kL_some) [.int v, .int 9, .int (v - v / 9 * 9)] [] α nx k n) = (fun (v : Int32) (α : AH) (nx k n : Nat) => some (retR (some (.int (v - v / 9 * 9))) α nx k n)) := by eq_refl
theorem fo_3_9 (v : Int32) (α : AH) (nx k n : Nat) : exe (fun _ _ _ _ => none) kL_some 2 (drp 10 kL_some) [.int v, .int 9, .int (v - v / 9 * 9)] [] α nx k n = some (retR (some (.int (v - v / 9 * 9))) α nx k n) := congrFun (congrFun (congrFun (congrFun (congrFun (fo_3_9_0) v) α) nx) k) n
theorem fz_some_9 (v : Int32) (α : AH) (nx : Nat) : COK (infoT, SC) mL_some 13 [.int v, .int 9] α nx (retR (some (.int (sV v 9))) α nx 0 0) := by
  refine cok_of (M := mL_some) (C := kL_some) (by decide) rfl (Nat.le_of_ble_eq_true rfl) ?_
  refine wga_rn sL_some cfn_ok 5 0 7 5 (fo_1_9 v _ _ _ _) rfl ?_
  rcases Bool.eq_false_or_eq_true (ltI (v - v / 9 * 9) 0) with h | h
  · have e : sV v 9 = (v - v / 9 * 9) + 9 := by
      unfold sV
      rw [h]
      rfl
    rw [e]
    refine wga_ifF sL_some (show drp 5 kL_some = (5, i_if (fun x => bB (ltI x 0) false true) 10) :: drp 6 kL_some from rfl) (show bB (ltI (v - v / 9 * 9) 0) false true = false by rw [h]; try rfl) ?_
    exact wga_rf sL_some cfn_ok 5 6 (fo_2_9 v _ _ _ _)
  · have e : sV v 9 = v - v / 9 * 9 := by
      unfold sV
      rw [h]
      rfl
    rw [e]
    refine wga_ifT sL_some (show drp 5 kL_some = (5, i_if (fun x => bB (ltI x 0) false true) 10) :: drp 6 kL_some from rfl) (show bB (ltI (v - v / 9 * 9) 0) false true = true by rw [h]; try rfl) ?_
    exact wga_rf sL_some cfn_ok 2 10 (fo_3_9 v _ _ _ _)
theorem sV_9 (v : Int32) : ∃ c : Nat, c < 9 ∧ sV v 9 = Int32.ofNat c := by
  have h0 : (v / 9).toInt = v.toInt.tdiv 9 := Int32.toInt_div_of_ne_right v 9 (by decide)
  have h1 : v / 9 = Int32.ofInt (v.toInt.tdiv 9) := by rw [← h0, Int32.ofInt_toInt]
  have h2 : v - v / 9 * 9 = Int32.ofInt (v.toInt.tmod 9) := by
    rw [Int.tmod_def, Int32.ofInt_sub, Int32.ofInt_toInt, Int32.ofInt_mul, h1, Int32.mul_comm]
    rfl
  have h3 : v.toInt.tmod 9 < 9 := Int.tmod_lt_of_pos _ (by decide)
  have h4 : -9 < v.toInt.tmod 9 := Int.lt_tmod_of_pos _ (by decide)
  generalize v.toInt.tmod 9 = r at h2 h3 h4
  have h5 : (Int32.ofInt r).toInt = r := Int32.toInt_ofInt_of_le (by omega) (by omega)
  have h6 : ltI (v - v / 9 * 9) 0 = decide (r < 0) := by
    unfold ltI
    rw [h2]
    refine decide_eq_decide.mpr ?_
    rw [Int32.lt_iff_toInt_lt, h5]
    exact Iff.rfl
  rcases (show r < 0 ∨ 0 ≤ r by omega) with z | z
  · refine ⟨(r + 9).toNat, by omega, ?_⟩
    have h7 : ltI (v - v / 9 * 9) 0 = true := h6.trans (decide_eq_true z)
    unfold sV
    rw [h7]
    show (v - v / 9 * 9) + 9 = _
    rw [h2, ← Int32.ofInt_eq_ofNat, Int.toNat_of_nonneg (by omega), Int32.ofInt_add]
    rfl
  · refine ⟨r.toNat, by omega, ?_⟩
    have h7 : ltI (v - v / 9 * 9) 0 = false := h6.trans (decide_eq_false (by omega))
    unfold sV
    rw [h7]
    show v - v / 9 * 9 = _
    rw [h2, ← Int32.ofInt_eq_ofNat, Int.toNat_of_nonneg z]
def fz_R (tm rn th cap fl wl sd w0 f0 z0 w1 f1 z1 : Int32) (rai rec ro ls vp : Int64) (sdb w0b f0b z0b w1b f1b z1b : Int32) (raib recb rob lsb vpb : Int64) : Prop :=
  sdb = (v96 tm rn sd th cap w0 f0 z0) ∧ w0b = (v100 tm rn sd th cap fl wl w0 f0 z0 w1 f1 z1) ∧ f0b = (v6 f0 z0 tm) ∧ z0b = (v7 th f0 z0 tm) ∧ w1b = (v101 tm rn sd th cap fl w0 f0 z0 w1 f1 z1) ∧ f1b = (v8 z0 f1 z1 tm) ∧ z1b = (v9 z0 f1 z1 tm) ∧ raib = (v10 rai rn) ∧ recb = (v42 rec z0 w1 f1 z1 tm) ∧ rob = (v97 tm rn sd ro th cap w0 f0 z0) ∧ lsb = (v98 tm rn sd ls th cap w0 f0 z0) ∧ vpb = (v99 tm rn sd vp th cap fl wl w0 f0 z0 w1 f1 z1)
theorem fz_h (hrs tm rn sd th cap fl wl w0 f0 z0 w1 f1 z1 ts u0 g0 y0 u1 g1 y1 : Int32) (tol rai rec ro ls vp trc tro tls tvp : Int64) (sdb w0b f0b z0b w1b f1b z1b : Int32) (raib recb rob lsb vpb : Int64) (hr : fz_R tm rn th cap fl wl sd w0 f0 z0 w1 f1 z1 rai rec ro ls vp sdb w0b f0b z0b w1b f1b z1b raib recb rob lsb vpb) : COK (infoT, SC) mL_ask 13 [.ref 0, .int 72, .ref 41] (HW hrs tm rn sd th cap fl wl w0 f0 z0 w1 f1 z1 ts u0 g0 y0 u1 g1 y1 tol rai rec ro ls vp trc tro tls tvp [(100, [.int 1])]) 42 (retR (some (.long (Int32.toInt64 (hrs + 1)))) (HW (hrs + 1) tm rn sdb th cap fl wl w0b f0b z0b w1b f1b z1b ts u0 g0 y0 u1 g1 y1 tol raib recb rob lsb vpb trc tro tls tvp [(100, [.int 1])]) 42 0 0) := by
  obtain ⟨rfl, rfl, rfl, rfl, rfl, rfl, rfl, rfl, rfl, rfl, rfl, rfl⟩ := hr
  exact c0_L_ask (SC := SC) hrs tm rn sd th cap fl wl w0 f0 z0 w1 f1 z1 ts u0 g0 y0 u1 g1 y1 tol rai rec ro ls vp trc tro tls tvp
noncomputable def fz_F {β : Type} (x : Int32) (k : Int32 → β) : β := Nat.rec (motive := fun _ => β) (k 0) (fun m _ => k (Int32.ofNat (m + 1))) x.toBitVec.toNat
theorem fz_F_eq {β : Type} (x : Int32) (k : Int32 → β) : fz_F x k = k x := by
  have h : Int32.ofNat x.toBitVec.toNat = x := Int32.toBitVec.inj (by simp)
  unfold fz_F
  cases hn : x.toBitVec.toNat with
  | zero =>
    rw [hn] at h
    exact congrArg k h
  | succ m =>
    rw [hn] at h
    exact congrArg k h
noncomputable def fz_c (tm rn th cap fl wl sd w0 f0 z0 w1 f1 z1 : Int32) (rai rec ro ls vp : Int64) (K : Int32 → Int32 → Int32 → Int32 → Int32 → Int32 → Int32 → Int64 → Int64 → Int64 → Int64 → Int64 → Bool) : Bool := fz_F ((v6 f0 z0 tm)) (fun f0b => fz_F ((v7 th f0 z0 tm)) (fun z0b => fz_F ((v8 z0 f1 z1 tm)) (fun f1b => fz_F ((v9 z0 f1 z1 tm)) (fun z1b => fz_F (v33 (v17 sd cap w0 z0b rn)) (fun sdb => fz_F (v36 (v17 sd cap w0 z0b rn) wl (v26 fl (v14 sd cap w0 z0b rn) z0b w1 z1b) z0b) (fun w0b => fz_F (v27 fl (v14 sd cap w0 z0b rn) z0b w1 z1b) (fun w1b => K sdb w0b f0b z0b w1b f1b z1b (v10 rai rn) (v23 rec w1 z1b) (ro + v16 sd cap w0 z0b rn) (ls + v16 sd cap w0 z0b rn) (v35 (v17 sd cap w0 z0b rn) vp wl (v26 fl (v14 sd cap w0 z0b rn) z0b w1 z1b) z0b))))))))
theorem fz_c_eq (tm rn th cap fl wl sd w0 f0 z0 w1 f1 z1 : Int32) (rai rec ro ls vp : Int64) (K : Int32 → Int32 → Int32 → Int32 → Int32 → Int32 → Int32 → Int64 → Int64 → Int64 → Int64 → Int64 → Bool) : fz_c tm rn th cap fl wl sd w0 f0 z0 w1 f1 z1 rai rec ro ls vp K = K ((v96 tm rn sd th cap w0 f0 z0)) ((v100 tm rn sd th cap fl wl w0 f0 z0 w1 f1 z1)) ((v6 f0 z0 tm)) ((v7 th f0 z0 tm)) ((v101 tm rn sd th cap fl w0 f0 z0 w1 f1 z1)) ((v8 z0 f1 z1 tm)) ((v9 z0 f1 z1 tm)) ((v10 rai rn)) ((v42 rec z0 w1 f1 z1 tm)) ((v97 tm rn sd ro th cap w0 f0 z0)) ((v98 tm rn sd ls th cap w0 f0 z0)) ((v99 tm rn sd vp th cap fl wl w0 f0 z0 w1 f1 z1)) := by
  unfold fz_c
  rw [fz_F_eq, fz_F_eq, fz_F_eq, fz_F_eq, fz_F_eq, fz_F_eq, fz_F_eq]
  rfl
theorem fz_c_ok {tm rn th cap fl wl sd w0 f0 z0 w1 f1 z1 : Int32} {rai rec ro ls vp : Int64} {K : Int32 → Int32 → Int32 → Int32 → Int32 → Int32 → Int32 → Int64 → Int64 → Int64 → Int64 → Int64 → Bool} (h : fz_c tm rn th cap fl wl sd w0 f0 z0 w1 f1 z1 rai rec ro ls vp K = true) : ∃ sdb w0b f0b z0b w1b f1b z1b raib recb rob lsb vpb, fz_R tm rn th cap fl wl sd w0 f0 z0 w1 f1 z1 rai rec ro ls vp sdb w0b f0b z0b w1b f1b z1b raib recb rob lsb vpb ∧ K sdb w0b f0b z0b w1b f1b z1b raib recb rob lsb vpb = true := ⟨_, _, _, _, _, _, _, _, _, _, _, _, ⟨rfl, rfl, rfl, rfl, rfl, rfl, rfl, rfl, rfl, rfl, rfl, rfl⟩, (fz_c_eq tm rn th cap fl wl sd w0 f0 z0 w1 f1 z1 rai rec ro ls vp K).symm.trans h⟩
end
