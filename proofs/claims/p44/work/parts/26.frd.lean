/-! ===== frosts: the contract ===== -/
section
set_option maxRecDepth 100000
variable {SC : Nat × (Nat → Int32)}

theorem fz_chk (t c : Nat) (ht : t < 200) (hc : c < 30) : fz_ch t c = true := by
  have h : ∀ j : Nat, j < 20 → fz_an 10 (fun i => fz_an 30 (fun c => fz_ch (j * 10 + i) c)) = true := fun j hj => match j, hj with
    | 0, _ => fz_e0
    | 1, _ => fz_e1
    | 2, _ => fz_e2
    | 3, _ => fz_e3
    | 4, _ => fz_e4
    | 5, _ => fz_e5
    | 6, _ => fz_e6
    | 7, _ => fz_e7
    | 8, _ => fz_e8
    | 9, _ => fz_e9
    | 10, _ => fz_e10
    | 11, _ => fz_e11
    | 12, _ => fz_e12
    | 13, _ => fz_e13
    | 14, _ => fz_e14
    | 15, _ => fz_e15
    | 16, _ => fz_e16
    | 17, _ => fz_e17
    | 18, _ => fz_e18
    | 19, _ => fz_e19
    | j + 20, hj => absurd hj (by omega)
  have h1 : fz_an 30 (fun c => fz_ch (t / 10 * 10 + t % 10) c) = true := fz_an_at (h (t / 10) (by omega)) (t % 10) (by omega)
  have h2 : fz_ch (t / 10 * 10 + t % 10) c = true := fz_an_at h1 c hc
  have e : t / 10 * 10 + t % 10 = t := by omega
  rw [e] at h2
  exact h2
theorem fz_cold : fz_an 30 (fun c => bB (bB (ltI (-(fz_cd c)) (-30)) false true) (bB (ltI 45 (-(fz_cd c))) false true) false) = true := by decide +kernel
def fz_h0 : AH := [[(9, [.ref 1, .ref 2, .ref 3, .ref 4, .int 9999, .int 0, .int 0]), (2, [.int 0, .ref 1000003, .int 0]), (2, [.int 0, .ref 1000003, .int 0]), (8, [.int 10, .int 0, .int 0]), (101, [.long 0, .long 0, .long 0, .long 0, .long 0, .long 0, .long 0, .long 0, .long 0, .long 0, .long 0, .long 0, .long 0, .long 0, .long 0, .long 0, .long 0, .long 0, .long 0, .long 0, .long 0, .long 0, .long 0, .long 0, .long 0, .long 0, .long 0, .long 0, .long 0, .long 0, .long 0, .long 0, .long 0, .long 0, .long 0, .long 0, .long 0, .long 0, .long 0, .long 0])]]
theorem fz_p0 : chkS (exe (runC progF 13) kL_frosts 7 (drp 0 kL_frosts) [.ref 1000004, uns, uns, uns, uns, uns, uns, uns, uns, uns] [] ([] : AH) 0 0 0) 415 [.ref 1000004, .ref 0, uns, uns, uns, uns, uns, uns, uns, uns] [.int 0, .ref 1000004, .int 1] fz_h0 5 5 56 = true := by decide +kernel
def fz_h1 : AH := [[(9, [.ref 1, .ref 2, .ref 3, .ref 4, .int 9999, .int 0, .int 0]), (2, [.int 0, .ref 1000003, .int 0]), (2, [.int 0, .ref 1000003, .int 0]), (8, [.int 10, .int 0, .int 0]), (101, [.long 0, .long 0, .long 0, .long 0, .long 0, .long 0, .long 0, .long 0, .long 0, .long 0, .long 0, .long 0, .long 0, .long 0, .long 0, .long 0, .long 0, .long 0, .long 0, .long 0, .long 0, .long 0, .long 0, .long 0, .long 0, .long 0, .long 0, .long 0, .long 0, .long 0, .long 0, .long 0, .long 0, .long 0, .long 0, .long 0, .long 0, .long 0, .long 0, .long 0]), (100, [.int 102])]]
def fz_h2 : AH := [[(9, [.ref 1, .ref 2, .ref 3, .ref 4, .int 9999, .int 0, .int 0]), (2, [.int 1, .ref 14, .int 1]), (2, [.int 1, .ref 23, .int 1]), (8, [.int 10, .int 0, .int 0]), (101, [.long 0, .long 0, .long 0, .long 0, .long 0, .long 0, .long 0, .long 0, .long 0, .long 0, .long 0, .long 0, .long 0, .long 0, .long 0, .long 0, .long 0, .long 0, .long 0, .long 0, .long 0, .long 0, .long 0, .long 0, .long 0, .long 0, .long 0, .long 0, .long 0, .long 0, .long 0, .long 0, .long 0, .long 0, .long 0, .long 0, .long 0, .long 0, .long 0, .long 0]), (200, []), (4, [.int 102, .ref 7, .ref 8, .ref 9, .int (-1), .int 100, .int 0, .int 0, .int 0, .int 0, .int 0, .long 0, .long 0]), (2, [.int 0, .ref 1000003, .int 0]), (2, [.int 0, .ref 1000003, .int 0]), (3, [.ref 10, .ref 12, .long 0, .long 0, .long 0, .long 0, .long 0, .long 0, .long 0, .long 0, .long 0]), (7, [.ref 11]), (101, [.long 0, .long 0, .long 0]), (7, [.ref 13]), (101, [.long 0, .long 0, .long 0]), (102, [.ref 6, .null, .null, .null, .null, .null, .null, .null, .null, .null]), (4, [.int 102, .ref 16, .ref 17, .ref 18, .int (-1), .int 100, .int 0, .int 0, .int 0, .int 0, .int 0, .long 0, .long 0])],
  [(2, [.int 0, .ref 1000003, .int 0]), (2, [.int 0, .ref 1000003, .int 0]), (3, [.ref 19, .ref 21, .long 0, .long 0, .long 0, .long 0, .long 0, .long 0, .long 0, .long 0, .long 0]), (7, [.ref 20]), (101, [.long 0, .long 0, .long 0]), (7, [.ref 22]), (101, [.long 0, .long 0, .long 0]), (102, [.ref 15, .null, .null, .null, .null, .null, .null, .null, .null, .null])]]
theorem fz_k : COK (infoT, SC) mL_ask 13 [.ref 0, .int 75, .ref 5] fz_h1 6 (retR (some (.long 0)) fz_h2 24 18 96) := cok_of (M := mL_ask) (C := kL_ask) (by decide) rfl (Nat.le_of_ble_eq_true rfl) (wga_fn (z := False) (lo := [.ref 0, .int 75, .ref 5, uns]) sL_ask (cokT 12) 10 0 (show chkF (exe (runC progF 12) kL_ask 10 (drp 0 kL_ask) [.ref 0, .int 75, .ref 5, uns] [] fz_h1 6 0 0) (some (.long 0)) fz_h2 24 18 96 = true by decide +kernel))
def fz_h3 (tk : Int32) : AH := [[(9, [.ref 1, .ref 2, .ref 3, .ref 4, .int 9999, .int 0, .int 0]), (2, [.int 1, .ref 14, .int 1]), (2, [.int 1, .ref 23, .int 1]), (8, [.int 10, .int 0, .int 0]), (101, [.long 0, .long 0, .long 0, .long 0, .long 0, .long 0, .long 0, .long 0, .long 0, .long 0, .long 0, .long 0, .long 0, .long 0, .long 0, .long 0, .long 0, .long 0, .long 0, .long 0, .long 0, .long 0, .long 0, .long 0, .long 0, .long 0, .long 0, .long 0, .long 0, .long 0, .long 0, .long 0, .long 0, .long 0, .long 0, .long 0, .long 0, .long 0, .long 0, .long 0]), (200, []), (4, [.int 102, .ref 7, .ref 8, .ref 9, .int (-1), .int 100, .int 0, .int 0, .int 0, .int 0, .int 0, .long 0, .long 0]), (2, [.int 0, .ref 1000003, .int 0]), (2, [.int 0, .ref 1000003, .int 0]), (3, [.ref 10, .ref 12, .long 0, .long 0, .long 0, .long 0, .long 0, .long 0, .long 0, .long 0, .long 0]), (7, [.ref 11]), (101, [.long 0, .long 0, .long 0]), (7, [.ref 13]), (101, [.long 0, .long 0, .long 0]), (102, [.ref 6, .null, .null, .null, .null, .null, .null, .null, .null, .null]), (4, [.int 102, .ref 16, .ref 17, .ref 18, .int (-1), .int 100, .int 0, .int 0, .int 0, .int 0, .int 0, .long 0, .long 0])],
  [(2, [.int 0, .ref 1000003, .int 0]), (2, [.int 0, .ref 1000003, .int 0]), (3, [.ref 19, .ref 21, .long 0, .long 0, .long 0, .long 0, .long 0, .long 0, .long 0, .long 0, .long 0]), (7, [.ref 20]), (101, [.long 0, .long 0, .long 0]), (7, [.ref 22]), (101, [.long 0, .long 0, .long 0]), (102, [.ref 15, .null, .null, .null, .null, .null, .null, .null, .null, .null]), (100, [.int 0, .int 108, .int tk])]]
def fz_h4 (t : Nat) : AH := [[(9, [.ref 1, .ref 2, .ref 3, .ref 4, .int 9999, .int 0, .int 0]), (2, [.int 1, .ref 14, .int 1]), (2, [.int 1, .ref 23, .int 1]), (8, [.int 10, .int 0, .int 0]), (101, [.long 0, .long 0, .long 0, .long 0, .long 0, .long 0, .long 0, .long 0, .long 0, .long 0, .long 0, .long 0, .long 0, .long 0, .long 0, .long 0, .long 0, .long 0, .long 0, .long 0, .long 0, .long 0, .long 0, .long 0, .long 0, .long 0, .long 0, .long 0, .long 0, .long 0, .long 0, .long 0, .long 0, .long 0, .long 0, .long 0, .long 0, .long 0, .long 0, .long 0]), (200, []), (4, [.int 102, .ref 7, .ref 8, .ref 9, .int (-1), .int 100, .int 0, .int 0, .int 0, .int 0, .int 0, .long 0, .long 0]), (2, [.int 1, .ref 28, .int 1]), (2, [.int 0, .ref 1000003, .int 0]), (3, [.ref 10, .ref 12, .long (Int32.toInt64 (fz_tk t * 25 / 10)), .long 0, .long 0, .long 0, .long 0, .long 0, .long 0, .long 0, .long 0]), (7, [.ref 11]), (101, [.long 0, .long 0, .long 0]), (7, [.ref 13]), (101, [.long 0, .long 0, .long 0]), (102, [.ref 6, .null, .null, .null, .null, .null, .null, .null, .null, .null]), (4, [.int 102, .ref 16, .ref 17, .ref 18, .int (-1), .int 100, .int 0, .int 0, .int 0, .int 0, .int 0, .long 0, .long 0])],
  [(2, [.int 1, .ref 32, .int 1]), (2, [.int 0, .ref 1000003, .int 0]), (3, [.ref 19, .ref 21, .long 0, .long 0, .long 0, .long 0, .long 0, .long 0, .long 0, .long 0, .long 0]), (7, [.ref 20]), (101, [.long 0, .long 0, .long 0]), (7, [.ref 22]), (101, [.long 0, .long 0, .long 0]), (102, [.ref 15, .null, .null, .null, .null, .null, .null, .null, .null, .null]), (200, []), (5, [.ref 1000001, .int (fz_tk t), .int (fz_tk t * 45 / 10), .int (fz_tk t * 25 / 10), .int (fz_tk t * 10 / 10), .ref 26, .int (fz_tk t * 25 / 10), .int 0, .int 0]), (7, [.ref 27]), (101, [.long 0, .long 0, .long 0]), (102, [.ref 25, .null, .null, .null, .null, .null, .null, .null, .null, .null]), (5, [.ref 1000001, .int (fz_tk t), .int (fz_tk t * 45 / 10), .int (fz_tk t * 25 / 10), .int (fz_tk t * 10 / 10), .ref 30, .int (fz_tk t * 25 / 10), .int 0, .int 0]), (7, [.ref 31]), (101, [.long 0, .long 0, .long 0])],
  [(102, [.ref 29, .null, .null, .null, .null, .null, .null, .null, .null, .null])]]
theorem fz_l1e : fz_an 200 (fun t => chkF (exe (runC progF 12) kL_ask 16 (drp 0 kL_ask) [.ref 0, .int 76, .ref 24, uns] [] (fz_h3 (fz_tk t)) 25 0 0) (some (.long 1)) (fz_h4 t) 33 8 46) = true := by decide +kernel
theorem fz_k1 (t : Nat) (ht : t < 200) : COK (infoT, SC) mL_ask 13 [.ref 0, .int 76, .ref 24] (fz_h3 (fz_tk t)) 25 (retR (some (.long 1)) (fz_h4 t) 33 8 46) := cok_of (M := mL_ask) (C := kL_ask) (by decide) rfl (Nat.le_of_ble_eq_true rfl) (wga_fn (z := False) (lo := [.ref 0, .int 76, .ref 24, uns]) sL_ask (cokT 12) 16 0 (fz_an_at fz_l1e t ht))
def fz_h5 (t : Nat) : AH := [[(9, [.ref 1, .ref 2, .ref 3, .ref 4, .int 9999, .int 0, .int 0]), (2, [.int 1, .ref 14, .int 1]), (2, [.int 1, .ref 23, .int 1]), (8, [.int 10, .int 0, .int 0]), (101, [.long 0, .long 0, .long 0, .long 0, .long 0, .long 0, .long 0, .long 0, .long 0, .long 0, .long 0, .long 0, .long 0, .long 0, .long 0, .long 0, .long 0, .long 0, .long 0, .long 0, .long 0, .long 0, .long 0, .long 0, .long 0, .long 0, .long 0, .long 0, .long 0, .long 0, .long 0, .long 0, .long 0, .long 0, .long 0, .long 0, .long 0, .long 0, .long 0, .long 0]), (200, []), (4, [.int 102, .ref 7, .ref 8, .ref 9, .int (-1), .int 100, .int 0, .int 0, .int 0, .int 0, .int 0, .long 0, .long 0]), (2, [.int 1, .ref 28, .int 1]), (2, [.int 0, .ref 1000003, .int 0]), (3, [.ref 10, .ref 12, .long (Int32.toInt64 (fz_tk t * 25 / 10)), .long 0, .long 0, .long 0, .long 0, .long 0, .long 0, .long 0, .long 0]), (7, [.ref 11]), (101, [.long 0, .long 0, .long 0]), (7, [.ref 13]), (101, [.long 0, .long 0, .long 0]), (102, [.ref 6, .null, .null, .null, .null, .null, .null, .null, .null, .null]), (4, [.int 102, .ref 16, .ref 17, .ref 18, .int (-1), .int 100, .int 0, .int 0, .int 0, .int 0, .int 0, .long 0, .long 0])],
  [(2, [.int 1, .ref 32, .int 1]), (2, [.int 0, .ref 1000003, .int 0]), (3, [.ref 19, .ref 21, .long 0, .long 0, .long 0, .long 0, .long 0, .long 0, .long 0, .long 0, .long 0]), (7, [.ref 20]), (101, [.long 0, .long 0, .long 0]), (7, [.ref 22]), (101, [.long 0, .long 0, .long 0]), (102, [.ref 15, .null, .null, .null, .null, .null, .null, .null, .null, .null]), (200, []), (5, [.ref 1000001, .int (fz_tk t), .int (fz_tk t * 45 / 10), .int (fz_tk t * 25 / 10), .int (fz_tk t * 10 / 10), .ref 26, .int (fz_tk t * 25 / 10), .int 0, .int 0]), (7, [.ref 27]), (101, [.long 0, .long 0, .long 0]), (102, [.ref 25, .null, .null, .null, .null, .null, .null, .null, .null, .null]), (5, [.ref 1000001, .int (fz_tk t), .int (fz_tk t * 45 / 10), .int (fz_tk t * 25 / 10), .int (fz_tk t * 10 / 10), .ref 30, .int (fz_tk t * 25 / 10), .int 0, .int 0]), (7, [.ref 31]), (101, [.long 0, .long 0, .long 0])],
  [(102, [.ref 29, .null, .null, .null, .null, .null, .null, .null, .null, .null]), (100, [.int 0, .int 108, .int 50])]]
theorem fz_l2e : fz_an 200 (fun t => chkF (exe (runC progF 12) kL_ask 16 (drp 0 kL_ask) [.ref 0, .int 76, .ref 33, uns] [] (fz_h5 t) 34 0 0) (some (.long 2)) (HX 0 10 0 0 (fz_tk t) (fz_tk t * 45 / 10) (fz_tk t * 25 / 10) (fz_tk t * 10 / 10) (fz_tk t * 25 / 10) 0 0 125 0 0 0 (fz_tk t * 25 / 10) 0 0 125 0 0 (Int32.toInt64 (fz_tk t * 25 / 10) + 125) 0 0 0 0 0 0 0 0 0 []) 40 6 26) = true := by decide +kernel
theorem fz_k2 (t : Nat) (ht : t < 200) : COK (infoT, SC) mL_ask 13 [.ref 0, .int 76, .ref 33] (fz_h5 t) 34 (retR (some (.long 2)) (HX 0 10 0 0 (fz_tk t) (fz_tk t * 45 / 10) (fz_tk t * 25 / 10) (fz_tk t * 10 / 10) (fz_tk t * 25 / 10) 0 0 125 0 0 0 (fz_tk t * 25 / 10) 0 0 125 0 0 (Int32.toInt64 (fz_tk t * 25 / 10) + 125) 0 0 0 0 0 0 0 0 0 []) 40 6 26) := cok_of (M := mL_ask) (C := kL_ask) (by decide) rfl (Nat.le_of_ble_eq_true rfl) (wga_fn (z := False) (lo := [.ref 0, .int 76, .ref 33, uns]) sL_ask (cokT 12) 16 0 (fz_an_at fz_l2e t ht))
theorem fp_1_0 : (fun (b : Int32) (α : AH) (nx : Nat) (k n : Nat) => exe (fun _ _ _ _ => none) kL_frosts 1 (drp 8 kL_frosts) [.ref 1000004, .ref 0, uns, uns, uns, uns, uns, uns, uns, uns] [.int b, .int 1] α nx k n) = (fun (b : Int32) (α : AH) (nx : Nat) (k n : Nat) => some (0, 413, none, [.ref 1000004, .ref 0, uns, uns, uns, uns, uns, uns, uns, uns], [.int 30, .int b, .int 1], α, nx, k, n)) := by eq_refl
theorem fp_1 (b : Int32) (α : AH) (nx : Nat) (k n : Nat) : exe (fun _ _ _ _ => none) kL_frosts 1 (drp 8 kL_frosts) [.ref 1000004, .ref 0, uns, uns, uns, uns, uns, uns, uns, uns] [.int b, .int 1] α nx k n = some (0, 413, none, [.ref 1000004, .ref 0, uns, uns, uns, uns, uns, uns, uns, uns], [.int 30, .int b, .int 1], α, nx, k, n) := congrFun (congrFun (congrFun (congrFun (congrFun (fp_1_0) b) α) nx) k) n
theorem fp_2_0 : (fun (s : Int32) (α : AH) (nx : Nat) (k n : Nat) => exe (fun _ _ _ _ => none) kL_frosts 5 (drp 10 kL_frosts) [.ref 1000004, .ref 0, uns, uns, uns, uns, uns, uns, uns, uns] [.int s, .int 1] α nx k n) = (fun (s : Int32) (α : AH) (nx : Nat) (k n : Nat) => some (0, 407, none, [.ref 1000004, .ref 0, .int (1 + s), uns, uns, uns, uns, uns, uns, uns], [.int 1, .ref 1000004, .int 50], α, nx, k, n)) := by eq_refl
theorem fp_2 (s : Int32) (α : AH) (nx : Nat) (k n : Nat) : exe (fun _ _ _ _ => none) kL_frosts 5 (drp 10 kL_frosts) [.ref 1000004, .ref 0, uns, uns, uns, uns, uns, uns, uns, uns] [.int s, .int 1] α nx k n = some (0, 407, none, [.ref 1000004, .ref 0, .int (1 + s), uns, uns, uns, uns, uns, uns, uns], [.int 1, .ref 1000004, .int 50], α, nx, k, n) := congrFun (congrFun (congrFun (congrFun (congrFun (fp_2_0) s) α) nx) k) n
theorem fp_3_0 : (fun (cd b : Int32) (α : AH) (nx : Nat) (k n : Nat) => exe (fun _ _ _ _ => none) kL_frosts 1 (drp 16 kL_frosts) [.ref 1000004, .ref 0, .int cd, uns, uns, uns, uns, uns, uns, uns] [.int b, .int 50] α nx k n) = (fun (cd b : Int32) (α : AH) (nx : Nat) (k n : Nat) => some (0, 405, none, [.ref 1000004, .ref 0, .int cd, uns, uns, uns, uns, uns, uns, uns], [.int 200, .int b, .int 50], α, nx, k, n)) := by eq_refl
theorem fp_3 (cd b : Int32) (α : AH) (nx : Nat) (k n : Nat) : exe (fun _ _ _ _ => none) kL_frosts 1 (drp 16 kL_frosts) [.ref 1000004, .ref 0, .int cd, uns, uns, uns, uns, uns, uns, uns] [.int b, .int 50] α nx k n = some (0, 405, none, [.ref 1000004, .ref 0, .int cd, uns, uns, uns, uns, uns, uns, uns], [.int 200, .int b, .int 50], α, nx, k, n) := congrFun (congrFun (congrFun (congrFun (congrFun (congrFun (fp_3_0) cd) b) α) nx) k) n
theorem fp_4_0 : (fun (cd s : Int32) (k n : Nat) => exe (fun _ _ _ _ => none) kL_frosts 10 (drp 18 kL_frosts) [.ref 1000004, .ref 0, .int cd, uns, uns, uns, uns, uns, uns, uns] [.int s, .int 50] fz_h0 5 k n) = (fun (cd s : Int32) (k n : Nat) => some (0, 394, none, [.ref 1000004, .ref 0, .int cd, .int (50 + s), uns, uns, uns, uns, uns, uns], [.ref 5, .int 75, .ref 0], fz_h1, 6, k + 1, n + 1)) := by eq_refl
theorem fp_4 (cd s : Int32) (k n : Nat) : exe (fun _ _ _ _ => none) kL_frosts 10 (drp 18 kL_frosts) [.ref 1000004, .ref 0, .int cd, uns, uns, uns, uns, uns, uns, uns] [.int s, .int 50] fz_h0 5 k n = some (0, 394, none, [.ref 1000004, .ref 0, .int cd, .int (50 + s), uns, uns, uns, uns, uns, uns], [.ref 5, .int 75, .ref 0], fz_h1, 6, k + 1, n + 1) := congrFun (congrFun (congrFun (congrFun (fp_4_0) cd) s) k) n
theorem fp_5_0 : (fun (cd tk : Int32) (k n : Nat) => exe (fun _ _ _ _ => none) kL_frosts 19 (drp 29 kL_frosts) [.ref 1000004, .ref 0, .int cd, .int tk, uns, uns, uns, uns, uns, uns] [.long 0] fz_h2 24 k n) = (fun (cd tk : Int32) (k n : Nat) => some (0, 374, none, [.ref 1000004, .ref 0, .int cd, .int tk, uns, uns, uns, uns, uns, uns], [.ref 24, .int 76, .ref 0], (fz_h3 tk), 25, k + 1, n + 3)) := by eq_refl
theorem fp_5 (cd tk : Int32) (k n : Nat) : exe (fun _ _ _ _ => none) kL_frosts 19 (drp 29 kL_frosts) [.ref 1000004, .ref 0, .int cd, .int tk, uns, uns, uns, uns, uns, uns] [.long 0] fz_h2 24 k n = some (0, 374, none, [.ref 1000004, .ref 0, .int cd, .int tk, uns, uns, uns, uns, uns, uns], [.ref 24, .int 76, .ref 0], (fz_h3 tk), 25, k + 1, n + 3) := congrFun (congrFun (congrFun (congrFun (fp_5_0) cd) tk) k) n
theorem fp_6_0 : (fun (cd tk : Int32) (t : Nat) (k n : Nat) => exe (fun _ _ _ _ => none) kL_frosts 19 (drp 49 kL_frosts) [.ref 1000004, .ref 0, .int cd, .int tk, uns, uns, uns, uns, uns, uns] [.long 1] (fz_h4 t) 33 k n) = (fun (cd tk : Int32) (t : Nat) (k n : Nat) => some (0, 354, none, [.ref 1000004, .ref 0, .int cd, .int tk, uns, uns, uns, uns, uns, uns], [.ref 33, .int 76, .ref 0], (fz_h5 t), 34, k + 1, n + 3)) := by eq_refl
theorem fp_6 (cd tk : Int32) (t : Nat) (k n : Nat) : exe (fun _ _ _ _ => none) kL_frosts 19 (drp 49 kL_frosts) [.ref 1000004, .ref 0, .int cd, .int tk, uns, uns, uns, uns, uns, uns] [.long 1] (fz_h4 t) 33 k n = some (0, 354, none, [.ref 1000004, .ref 0, .int cd, .int tk, uns, uns, uns, uns, uns, uns], [.ref 33, .int 76, .ref 0], (fz_h5 t), 34, k + 1, n + 3) := congrFun (congrFun (congrFun (congrFun (congrFun (fp_6_0) cd) tk) t) k) n
theorem fp_7_0 : (fun (hrs tm rn sd th cap fl wl w0 f0 z0 w1 f1 z1 ts u0 g0 y0 u1 g1 y1 : Int32) (tol rai rec ro ls vp trc tro tls tvp : Int64) (cd tk : Int32) (k n : Nat) => exe (fun _ _ _ _ => none) kL_frosts 20 (drp 69 kL_frosts) [.ref 1000004, .ref 0, .int cd, .int tk, uns, uns, uns, uns, uns, uns] [.long 2] (HX hrs tm rn sd th cap fl wl w0 f0 z0 w1 f1 z1 ts u0 g0 y0 u1 g1 y1 tol rai rec ro ls vp trc tro tls tvp []) 40 k n) = (fun (hrs tm rn sd th cap fl wl w0 f0 z0 w1 f1 z1 ts u0 g0 y0 u1 g1 y1 : Int32) (tol rai rec ro ls vp trc tro tls tvp : Int64) (cd tk : Int32) (k n : Nat) => some (0, 333, none, [.ref 1000004, .ref 0, .int cd, .int tk, uns, uns, uns, uns, uns, uns], [.ref 40, .int 84, .ref 0], (HX hrs tm rn sd th cap fl wl w0 f0 z0 w1 f1 z1 ts u0 g0 y0 u1 g1 y1 tol rai rec ro ls vp trc tro tls tvp [(100, [.int (-cd), .int 40, .int 0])]), 41, k + 1, n + 3)) := by eq_refl
theorem fp_7 (hrs tm rn sd th cap fl wl w0 f0 z0 w1 f1 z1 ts u0 g0 y0 u1 g1 y1 : Int32) (tol rai rec ro ls vp trc tro tls tvp : Int64) (cd tk : Int32) (k n : Nat) : exe (fun _ _ _ _ => none) kL_frosts 20 (drp 69 kL_frosts) [.ref 1000004, .ref 0, .int cd, .int tk, uns, uns, uns, uns, uns, uns] [.long 2] (HX hrs tm rn sd th cap fl wl w0 f0 z0 w1 f1 z1 ts u0 g0 y0 u1 g1 y1 tol rai rec ro ls vp trc tro tls tvp []) 40 k n = some (0, 333, none, [.ref 1000004, .ref 0, .int cd, .int tk, uns, uns, uns, uns, uns, uns], [.ref 40, .int 84, .ref 0], (HX hrs tm rn sd th cap fl wl w0 f0 z0 w1 f1 z1 ts u0 g0 y0 u1 g1 y1 tol rai rec ro ls vp trc tro tls tvp [(100, [.int (-cd), .int 40, .int 0])]), 41, k + 1, n + 3) := congrFun (congrFun (congrFun (congrFun (congrFun (congrFun (congrFun (congrFun (congrFun (congrFun (congrFun (congrFun (congrFun (congrFun (congrFun (congrFun (congrFun (congrFun (congrFun (congrFun (congrFun (congrFun (congrFun (congrFun (congrFun (congrFun (congrFun (congrFun (congrFun (congrFun (congrFun (congrFun (congrFun (congrFun (congrFun (fp_7_0) hrs) tm) rn) sd) th) cap) fl) wl) w0) f0) z0) w1) f1) z1) ts) u0) g0) y0) u1) g1) y1) tol) rai) rec) ro) ls) vp) trc) tro) tls) tvp) cd) tk) k) n
theorem fp_8_0 : (fun (cd tk : Int32) (α : AH) (nx : Nat) (k n : Nat) => exe (fun _ _ _ _ => none) kL_frosts 7 (drp 90 kL_frosts) [.ref 1000004, .ref 0, .int cd, .int tk, uns, uns, uns, uns, uns, uns] [.long (Int32.toInt64 10)] α nx k n) = (fun (cd tk : Int32) (α : AH) (nx : Nat) (k n : Nat) => some (0, 323, none, [.ref 1000004, .ref 0, .int cd, .int tk, .int 0, .int 0, uns, uns, uns, uns], [], α, nx, k, n)) := by eq_refl
theorem fp_8 (cd tk : Int32) (α : AH) (nx : Nat) (k n : Nat) : exe (fun _ _ _ _ => none) kL_frosts 7 (drp 90 kL_frosts) [.ref 1000004, .ref 0, .int cd, .int tk, uns, uns, uns, uns, uns, uns] [.long (Int32.toInt64 10)] α nx k n = some (0, 323, none, [.ref 1000004, .ref 0, .int cd, .int tk, .int 0, .int 0, uns, uns, uns, uns], [], α, nx, k, n) := congrFun (congrFun (congrFun (congrFun (congrFun (congrFun (fp_8_0) cd) tk) α) nx) k) n
theorem fz_j0 (L : Nat) (hL : L ≤ 260) (h : ltI 0 (Int32.ofNat L) = true) : Nat.blt (Int32.toNatClampNeg 0) L = true := by
  have h1 : (0 : Int32) < Int32.ofNat L := ltI_iff.mp h
  rw [Int32.lt_iff_toInt_lt, Int32.toInt_ofNat_of_lt (Nat.lt_of_le_of_lt hL (by decide))] at h1
  have h2 : (0 : Int32).toInt = 0 := by decide
  rw [h2] at h1
  have h3 : Int32.toNatClampNeg 0 = 0 := by decide
  rw [h3]
  exact Nat.ble_eq_true_of_le (by omega)
theorem fz_j1 (L : Nat) (hL : L ≤ 260) (h : ltI 1 (Int32.ofNat L) = true) : Nat.blt (Int32.toNatClampNeg 1) L = true := by
  have h1 : (1 : Int32) < Int32.ofNat L := ltI_iff.mp h
  rw [Int32.lt_iff_toInt_lt, Int32.toInt_ofNat_of_lt (Nat.lt_of_le_of_lt hL (by decide))] at h1
  have h2 : (1 : Int32).toInt = 1 := by decide
  rw [h2] at h1
  have h3 : Int32.toNatClampNeg 1 = 1 := by decide
  rw [h3]
  exact Nat.ble_eq_true_of_le (by omega)
theorem fz_j2 (L : Nat) (hL : L ≤ 260) (h : ltI 2 (Int32.ofNat L) = true) : Nat.blt (Int32.toNatClampNeg 2) L = true := by
  have h1 : (2 : Int32) < Int32.ofNat L := ltI_iff.mp h
  rw [Int32.lt_iff_toInt_lt, Int32.toInt_ofNat_of_lt (Nat.lt_of_le_of_lt hL (by decide))] at h1
  have h2 : (2 : Int32).toInt = 2 := by decide
  rw [h2] at h1
  have h3 : Int32.toNatClampNeg 2 = 2 := by decide
  rw [h3]
  exact Nat.ble_eq_true_of_le (by omega)
theorem ck_frosts (hL : SC.1 ≤ 260) : COK (infoT, SC) mL_frosts 14 [.ref 1000004] ([] : AH) 0 (retR (some (.int 1)) fz_H 41 311 694) := by
  obtain ⟨c, hc, e0⟩ := sV_30 (aV SC 0)
  obtain ⟨t, ht, e1⟩ := sV_200 (aV SC 1)
  obtain ⟨w, hw9, e2⟩ := sV_9 (aV SC 2)
  have ec : ∀ (α : AH) (nx : Nat), COK (infoT, SC) mL_some 13 [.int (aV SC 0), .int 30] α nx (retR (some (.int (Int32.ofNat c))) α nx 0 0) := fun α nx => by
    rw [← e0]
    exact fz_some_30 _ α nx
  have et : ∀ (α : AH) (nx : Nat), COK (infoT, SC) mL_some 13 [.int (aV SC 1), .int 200] α nx (retR (some (.int (Int32.ofNat t))) α nx 0 0) := fun α nx => by
    rw [← e1]
    exact fz_some_200 _ α nx
  have ew : ∀ (α : AH) (nx : Nat), COK (infoT, SC) mL_some 13 [.int (aV SC 2), .int 9] α nx (retR (some (.int (Int32.ofNat w))) α nx 0 0) := fun α nx => by
    rw [← e2]
    exact fz_some_9 _ α nx
  obtain ⟨hc1, hc2⟩ := bB_t (fz_an_at fz_cold c hc)
  have hc1 := bB_n hc1
  have hc2 := bB_n hc2
  refine cok_ofZ (M := mL_frosts) (C := kL_frosts) (by decide) rfl (Nat.le_of_ble_eq_true rfl) ?_
  show fz_W SC _ 0 [.ref 1000004, uns, uns, uns, uns, uns, uns, uns, uns, uns] [] ([] : AH) 0 0 0
  refine wga_sg sL_frosts (cokT 13) 7 0 415 7 fz_p0 rfl ?_
  refine wga_cal (bs := [.int 0, .ref 1000004]) (r := [.int 1]) (v := some (.int (aV SC 0))) sL_frosts (show drp 7 kL_frosts = (11, i_cal 122 2 none) :: drp 8 kL_frosts from rfl) iy_122 rfl (fz_at 0 hL (by decide) fz_j0 _ _) ?_
  refine wga_rn sL_frosts cfn_ok 1 8 413 9 (fp_1 _ _ _ _ _) rfl ?_
  refine wga_cal (bs := [.int 30, .int (aV SC 0)]) (r := [.int 1]) (v := some (.int (Int32.ofNat c))) sL_frosts (show drp 9 kL_frosts = (16, i_cal 129 2 none) :: drp 10 kL_frosts from rfl) iy_129 rfl (ec _ _) ?_
  refine wga_rn sL_frosts cfn_ok 5 10 407 15 (fp_2 _ _ _ _ _) rfl ?_
  show fz_W SC _ 15 [.ref 1000004, .ref 0, .int (fz_cd c), uns, uns, uns, uns, uns, uns, uns] [.int 1, .ref 1000004, .int 50] fz_h0 5 _ _
  refine wga_cal (bs := [.int 1, .ref 1000004]) (r := [.int 50]) (v := some (.int (aV SC 1))) sL_frosts (show drp 15 kL_frosts = (25, i_cal 122 2 none) :: drp 16 kL_frosts from rfl) iy_122 rfl (fz_at 1 hL (by decide) fz_j1 _ _) ?_
  refine wga_rn sL_frosts cfn_ok 1 16 405 17 (fp_3 _ _ _ _ _ _) rfl ?_
  refine wga_cal (bs := [.int 200, .int (aV SC 1)]) (r := [.int 50]) (v := some (.int (Int32.ofNat t))) sL_frosts (show drp 17 kL_frosts = (31, i_cal 129 2 none) :: drp 18 kL_frosts from rfl) iy_129 rfl (et _ _) ?_
  refine wga_rn sL_frosts cfn_ok 10 18 394 28 (fp_4 _ _ _ _) rfl ?_
  show fz_W SC _ 28 [.ref 1000004, .ref 0, .int (fz_cd c), .int (fz_tk t), uns, uns, uns, uns, uns, uns] [.ref 5, .int 75, .ref 0] fz_h1 6 _ _
  refine wga_cal (bs := [.ref 5, .int 75, .ref 0]) (r := []) (v := some (.long 0)) sL_frosts (show drp 28 kL_frosts = (47, i_cal 120 3 none) :: drp 29 kL_frosts from rfl) iy_120 rfl (fz_k (SC := SC)) ?_
  refine wga_rn sL_frosts cfn_ok 19 29 374 48 (fp_5 _ _ _ _) rfl ?_
  refine wga_cal (bs := [.ref 24, .int 76, .ref 0]) (r := []) (v := some (.long 1)) sL_frosts (show drp 48 kL_frosts = (74, i_cal 120 3 none) :: drp 49 kL_frosts from rfl) iy_120 rfl (fz_k1 (SC := SC) t ht) ?_
  refine wga_rn sL_frosts cfn_ok 19 49 354 68 (fp_6 _ _ _ _ _) rfl ?_
  refine wga_cal (bs := [.ref 33, .int 76, .ref 0]) (r := []) (v := some (.long 2)) sL_frosts (show drp 68 kL_frosts = (102, i_cal 120 3 none) :: drp 69 kL_frosts from rfl) iy_120 rfl (fz_k2 (SC := SC) t ht) ?_
  refine wga_rn sL_frosts cfn_ok 20 69 333 89 (fp_7 0 10 0 0 (fz_tk t) (fz_tk t * 45 / 10) (fz_tk t * 25 / 10) (fz_tk t * 10 / 10) (fz_tk t * 25 / 10) 0 0 125 0 0 0 (fz_tk t * 25 / 10) 0 0 125 0 0 (Int32.toInt64 (fz_tk t * 25 / 10) + 125) 0 0 0 0 0 0 0 0 0 _ _ _ _) rfl ?_
  refine wga_cal (bs := [.ref 40, .int 84, .ref 0]) (r := []) (v := some (.long (Int32.toInt64 10))) sL_frosts (show drp 89 kL_frosts = (132, i_cal 120 3 none) :: drp 90 kL_frosts from rfl) iy_120 rfl (xc0_L_ask (SC := SC) 0 10 0 0 (fz_tk t) (fz_tk t * 45 / 10) (fz_tk t * 25 / 10) (fz_tk t * 10 / 10) (fz_tk t * 25 / 10) 0 0 125 0 0 0 (fz_tk t * 25 / 10) 0 0 125 0 0 (Int32.toInt64 (fz_tk t * 25 / 10) + 125) 0 0 0 0 0 0 0 0 0 (-(fz_cd c)) hc1 hc2) ?_
  refine wga_rn sL_frosts cfn_ok 7 90 323 99 (fp_8 _ _ _ _ _ _) rfl ?_
  refine fz_xw _ _ _ _ _ _ _ _ _ _ _ _ _ _ _ _ _ _ _ _ _ _ _ _ _ _ _ _ _ _ _ _ ?_
  exact fz_body t c w hw9 (fz_chk t c ht hc) (fun α => fz_at 2 hL (by decide) fz_j2 α 41) (fun α => ew α 41) (Nat.le_of_ble_eq_true rfl) (Nat.le_of_ble_eq_true rfl)
end
