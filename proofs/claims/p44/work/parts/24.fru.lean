/-! ===== frosts: its loops, and the check that is evaluated ===== -/
section
set_option maxRecDepth 100000
variable {SC : Nat × (Nat → Int32)}

theorem bB_tt {a b : Bool} (h : bB true a b = true) : a = true := h
theorem bB_ff {a b : Bool} (h : bB false a b = true) : b = true := h
theorem bB_n {b : Bool} (h : bB b false true = true) : b = false := by
  cases b with
  | false => rfl
  | true => exact Bool.noConfusion (show false = true from h)
noncomputable def fz_an (n : Nat) (f : Nat → Bool) : Bool := Nat.rec (motive := fun _ => Bool) true (fun k ih => bB (f k) ih false) n
theorem fz_an_at {f : Nat → Bool} : ∀ {n : Nat}, fz_an n f = true → ∀ i, i < n → f i = true := by
  intro n
  induction n with
  | zero => exact fun _ i hi => absurd hi (Nat.not_lt_zero i)
  | succ n ih =>
    intro h i hi
    have h : bB (f n) (fz_an n f) false = true := h
    obtain ⟨h1, h2⟩ := bB_t h
    rcases Nat.lt_or_ge i n with z | z
    · exact ih h2 i z
    · have e : i = n := by omega
      rw [e]
      exact h1
def fz_q (a b : Int32) : Bool := Nat.beq a.toBitVec.toNat b.toBitVec.toNat
def fz_p (a : Int32) : Bool := Nat.blt a.toBitVec.toNat 1000
theorem fz_q_ok {a b : Int32} (h : fz_q a b = true) : eqI (cmL (Int32.toInt64 a) (Int32.toInt64 b)) 0 = true := by
  have e : a = b := Int32.toBitVec.inj (BitVec.eq_of_toNat_eq (Nat.eq_of_beq_eq_true h))
  rw [e]
  exact cmL_self _
theorem fz_pe : fz_an 1000 (fun n => bB (ltI (cmL (Int32.toInt64 (Int32.ofNat n)) 0) 0) false true) = true := by decide +kernel
theorem fz_p_ok {a : Int32} (h : fz_p a = true) : ltI (cmL (Int32.toInt64 a) 0) 0 = false := by
  have h1 : a.toBitVec.toNat < 1000 := Nat.le_of_ble_eq_true h
  have h2 := fz_an_at fz_pe _ h1
  have h3 : Int32.ofNat a.toBitVec.toNat = a := Int32.toBitVec.inj (by simp)
  have h4 : bB (ltI (cmL (Int32.toInt64 (Int32.ofNat a.toBitVec.toNat)) 0) 0) false true = true := h2
  rw [h3] at h4
  exact bB_n h4
noncomputable def fz_l1 (tm rn th cap fl wl cd tk : Int32) (K : Int32 → Int32 → Int32 → Int32 → Int32 → Int32 → Int32 → Int32 → Int32 → Int32 → Int64 → Int64 → Int64 → Int64 → Int64 → Bool) (N : Nat) : Int32 → Int32 → Int32 → Int32 → Int32 → Int32 → Int32 → Int32 → Int32 → Int32 → Int64 → Int64 → Int64 → Int64 → Int64 → Bool := Nat.rec (motive := fun _ => Int32 → Int32 → Int32 → Int32 → Int32 → Int32 → Int32 → Int32 → Int32 → Int32 → Int64 → Int64 → Int64 → Int64 → Int64 → Bool) (fun _ _ _ _ _ _ _ _ _ _ _ _ _ _ _ => false) (fun _ ih hrs hh fr sd w0 f0 z0 w1 f1 z1 rai rec ro ls vp => bB (ltI fr (tk / 10)) (fz_c tm rn th cap fl wl sd w0 f0 z0 w1 f1 z1 rai rec ro ls vp (fun sdb w0b f0b z0b w1b f1b z1b raib recb rob lsb vpb => bB (fz_q (hrs + 1) (hh + 1)) (bB (fz_q f0b (fr + cd)) (bB (bB (ltI (fr + cd) (tk / 10)) (eqI z0b 0) (eqI z0b 1)) (ih (hrs + 1) (hh + 1) (fr + cd) sdb w0b f0b z0b w1b f1b z1b raib recb rob lsb vpb) false) false) false)) (K hrs hh fr sd w0 f0 z0 w1 f1 z1 rai rec ro ls vp)) N
noncomputable def fz_l2 (tm rn th cap fl wl : Int32) (tol : Int64) (N : Nat) : Int32 → Int32 → Int32 → Int32 → Int32 → Int32 → Int32 → Int32 → Int32 → Int64 → Int64 → Int64 → Int64 → Int64 → Bool := Nat.rec (motive := fun _ => Int32 → Int32 → Int32 → Int32 → Int32 → Int32 → Int32 → Int32 → Int32 → Int64 → Int64 → Int64 → Int64 → Int64 → Bool) (fun _ _ _ _ _ _ _ _ _ _ _ _ _ _ => false) (fun _ ih hrs lf sd w0 f0 z0 w1 f1 z1 rai rec ro ls vp => bB (ltI 0 lf) (fz_c tm rn th cap fl wl sd w0 f0 z0 w1 f1 z1 rai rec ro ls vp (fun sdb w0b f0b z0b w1b f1b z1b raib recb rob lsb vpb => bB (fz_p (hrs + 1)) (bB (fz_q f0b lf) (bB (eqI z0b 1) (ih (hrs + 1) (lf - tm) sdb w0b f0b z0b w1b f1b z1b raib recb rob lsb vpb) false) false) false)) (fz_c tm rn th cap fl wl sd w0 f0 z0 w1 f1 z1 rai rec ro ls vp (fun sdb w0b f0b z0b w1b f1b z1b raib recb rob lsb vpb => bB (ltI 0 (cmL (Int32.toInt64 (hrs + 1)) 0)) (bB (eqI (cmL (Int32.toInt64 f0b) 0) 0) (bB (eqI z0b 0) (bB (bB (eqI z1b 0) true (eqI z1b 1)) (bB (eqI (cmL (0 + ((((tol + raib) + 0) - ((Int32.toInt64 (((0 + w0b) + w1b) + sdb)) + 0)) - ((recb + lsb) + vpb))) 0) 0) (bB (eqI (v103 cap w0b w1b) 0) false true) false) false) false) false) false))) N
noncomputable def fz_m (tm rn th cap fl wl cd : Int32) (tol : Int64) (s hrs hh fr sd w0 f0 w1 f1 : Int32) (rai rec ro ls vp : Int64) : Bool := fz_c tm rn th cap fl wl sd w0 f0 1 w1 f1 0 rai rec ro ls vp (fun sdb w0b f0b z0b w1b f1b z1b raib recb rob lsb vpb => bB (eqI (cmL (v102 w0) (Int32.toInt64 w0 / 10)) 0) (bB (fz_q (hrs + 1) (hh + 1)) (bB (fz_q w0b w0) (bB (fz_q f1b cd) (bB (fz_q f0b fr) (bB (bB (ltI (1 + s) (-30)) false true) (bB (bB (ltI 45 (1 + s)) false true) (bB (fz_q tm (-cd)) (fz_l2 (1 + s) 0 th cap fl wl tol 60 (hrs + 1) (fr - (1 + s)) sdb w0b f0b z0b w1b f1b z1b raib recb rob lsb vpb) false) false) false) false) false) false) false) false)
theorem fz_l1_ok (tm rn th cap fl wl ts u0 g0 y0 u1 g1 y1 cd tk : Int32) (tol trc tro tls tvp : Int64) {K : Int32 → Int32 → Int32 → Int32 → Int32 → Int32 → Int32 → Int32 → Int32 → Int32 → Int64 → Int64 → Int64 → Int64 → Int64 → Bool} {res : RS} {k1 n1 : Nat} (hK : ∀ (hrs hh fr sd w0 f0 z0 w1 f1 z1 : Int32) (rai rec ro ls vp : Int64) (k n : Nat), K hrs hh fr sd w0 f0 z0 w1 f1 z1 rai rec ro ls vp = true → k ≤ k1 → n ≤ n1 → fz_W SC res 165 [.ref 1000004, .ref 0, .int cd, .int tk, .int fr, .int hh, uns, uns, uns, uns] [] (HW hrs tm rn sd th cap fl wl w0 f0 z0 w1 f1 z1 ts u0 g0 y0 u1 g1 y1 tol rai rec ro ls vp trc tro tls tvp []) 41 k n) : ∀ (N : Nat) (hrs hh fr sd w0 f0 z0 w1 f1 z1 : Int32) (rai rec ro ls vp : Int64) (k n : Nat), fz_l1 tm rn th cap fl wl cd tk K N hrs hh fr sd w0 f0 z0 w1 f1 z1 rai rec ro ls vp = true → k + 3 * N ≤ k1 → n + 5 * N ≤ n1 → fz_W SC res 99 [.ref 1000004, .ref 0, .int cd, .int tk, .int fr, .int hh, uns, uns, uns, uns] [] (HW hrs tm rn sd th cap fl wl w0 f0 z0 w1 f1 z1 ts u0 g0 y0 u1 g1 y1 tol rai rec ro ls vp trc tro tls tvp []) 41 k n := by
  intro N
  induction N with
  | zero =>
    intro hrs hh fr sd w0 f0 z0 w1 f1 z1 rai rec ro ls vp k n h _ _
    exact Bool.noConfusion (show false = true from h)
  | succ N ih =>
    intro hrs hh fr sd w0 f0 z0 w1 f1 z1 rai rec ro ls vp k n h hk hn
    have h : bB (ltI fr (tk / 10)) (fz_c tm rn th cap fl wl sd w0 f0 z0 w1 f1 z1 rai rec ro ls vp (fun sdb w0b f0b z0b w1b f1b z1b raib recb rob lsb vpb => bB (fz_q (hrs + 1) (hh + 1)) (bB (fz_q f0b (fr + cd)) (bB (bB (ltI (fr + cd) (tk / 10)) (eqI z0b 0) (eqI z0b 1)) (fz_l1 tm rn th cap fl wl cd tk K N (hrs + 1) (hh + 1) (fr + cd) sdb w0b f0b z0b w1b f1b z1b raib recb rob lsb vpb) false) false) false)) (K hrs hh fr sd w0 f0 z0 w1 f1 z1 rai rec ro ls vp) = true := h
    rcases Bool.eq_false_or_eq_true (ltI fr (tk / 10)) with p | p
    · rw [p] at h
      obtain ⟨sdb, w0b, f0b, z0b, w1b, f1b, z1b, raib, recb, rob, lsb, vpb, hr, h⟩ := fz_c_ok (bB_tt h)
      obtain ⟨a1, h⟩ := bB_t h
      obtain ⟨a2, h⟩ := bB_t h
      obtain ⟨a3, h⟩ := bB_t h
      have hi := ih (hrs + 1) (hh + 1) (fr + cd) sdb w0b f0b z0b w1b f1b z1b raib recb rob lsb vpb (k + 3) (n + 5) h (by omega) (by omega)
      rcases Bool.eq_false_or_eq_true (ltI (fr + cd) (tk / 10)) with q | q
      · rw [q] at a3
        exact fz_it0 hrs tm rn sd th cap fl wl w0 f0 z0 w1 f1 z1 ts u0 g0 y0 u1 g1 y1 tol rai rec ro ls vp trc tro tls tvp sdb w0b f0b z0b w1b f1b z1b raib recb rob lsb vpb cd tk fr hh hr p (fz_q_ok a1) (fz_q_ok a2) q (eqI_iff.mp (bB_tt a3)) hi
      · rw [q] at a3
        exact fz_it1 hrs tm rn sd th cap fl wl w0 f0 z0 w1 f1 z1 ts u0 g0 y0 u1 g1 y1 tol rai rec ro ls vp trc tro tls tvp sdb w0b f0b z0b w1b f1b z1b raib recb rob lsb vpb cd tk fr hh hr p (fz_q_ok a1) (fz_q_ok a2) q (eqI_iff.mp (bB_ff a3)) hi
    · rw [p] at h
      exact fz_ex1 cd tk fr hh p (hK hrs hh fr sd w0 f0 z0 w1 f1 z1 rai rec ro ls vp k n (bB_ff h) (by omega) (by omega))
theorem fz_l2_ok (tm rn th cap fl wl ts u0 g0 y0 u1 g1 y1 cd tk fr hh : Int32) (tol trc tro tls tvp wt : Int64) {K1 N1 : Nat} : ∀ (N : Nat) (hrs lf sd w0 f0 z0 w1 f1 z1 : Int32) (rai rec ro ls vp : Int64) (k n : Nat), fz_l2 tm rn th cap fl wl tol N hrs lf sd w0 f0 z0 w1 f1 z1 rai rec ro ls vp = true → k + 3 * N ≤ K1 → n + 5 * N ≤ N1 → fz_W SC (retR (some (.int 1)) fz_H 41 K1 N1) 317 [.ref 1000004, .ref 0, .int cd, .int tk, .int fr, .int hh, .long wt, uns, .int tm, .int lf] [] (HW hrs tm rn sd th cap fl wl w0 f0 z0 w1 f1 z1 ts u0 g0 y0 u1 g1 y1 tol rai rec ro ls vp trc tro tls tvp []) 41 k n := by
  intro N
  induction N with
  | zero =>
    intro hrs lf sd w0 f0 z0 w1 f1 z1 rai rec ro ls vp k n h _ _
    exact Bool.noConfusion (show false = true from h)
  | succ N ih =>
    intro hrs lf sd w0 f0 z0 w1 f1 z1 rai rec ro ls vp k n h hk hn
    have h : bB (ltI 0 lf) (fz_c tm rn th cap fl wl sd w0 f0 z0 w1 f1 z1 rai rec ro ls vp (fun sdb w0b f0b z0b w1b f1b z1b raib recb rob lsb vpb => bB (fz_p (hrs + 1)) (bB (fz_q f0b lf) (bB (eqI z0b 1) (fz_l2 tm rn th cap fl wl tol N (hrs + 1) (lf - tm) sdb w0b f0b z0b w1b f1b z1b raib recb rob lsb vpb) false) false) false)) (fz_c tm rn th cap fl wl sd w0 f0 z0 w1 f1 z1 rai rec ro ls vp (fun sdb w0b f0b z0b w1b f1b z1b raib recb rob lsb vpb => bB (ltI 0 (cmL (Int32.toInt64 (hrs + 1)) 0)) (bB (eqI (cmL (Int32.toInt64 f0b) 0) 0) (bB (eqI z0b 0) (bB (bB (eqI z1b 0) true (eqI z1b 1)) (bB (eqI (cmL (0 + ((((tol + raib) + 0) - ((Int32.toInt64 (((0 + w0b) + w1b) + sdb)) + 0)) - ((recb + lsb) + vpb))) 0) 0) (bB (eqI (v103 cap w0b w1b) 0) false true) false) false) false) false) false)) = true := h
    rcases Bool.eq_false_or_eq_true (ltI 0 lf) with p | p
    · rw [p] at h
      obtain ⟨sdb, w0b, f0b, z0b, w1b, f1b, z1b, raib, recb, rob, lsb, vpb, hr, h⟩ := fz_c_ok (bB_tt h)
      obtain ⟨a1, h⟩ := bB_t h
      obtain ⟨a2, h⟩ := bB_t h
      obtain ⟨a3, h⟩ := bB_t h
      exact fz_jt hrs tm rn sd th cap fl wl w0 f0 z0 w1 f1 z1 ts u0 g0 y0 u1 g1 y1 tol rai rec ro ls vp trc tro tls tvp sdb w0b f0b z0b w1b f1b z1b raib recb rob lsb vpb cd tk fr hh wt tm lf hr p (fz_p_ok a1) (fz_q_ok a2) (eqI_iff.mp a3) (ih (hrs + 1) (lf - tm) sdb w0b f0b z0b w1b f1b z1b raib recb rob lsb vpb (k + 3) (n + 5) h (by omega) (by omega))
    · rw [p] at h
      obtain ⟨sdb, w0b, f0b, z0b, w1b, f1b, z1b, raib, recb, rob, lsb, vpb, hr, h⟩ := fz_c_ok (bB_ff h)
      obtain ⟨a1, h⟩ := bB_t h
      obtain ⟨a2, h⟩ := bB_t h
      obtain ⟨a3, h⟩ := bB_t h
      obtain ⟨a4, h⟩ := bB_t h
      obtain ⟨a5, h⟩ := bB_t h
      rcases Bool.eq_false_or_eq_true (eqI z1b 0) with q | q
      · exact fz_fin0 hrs tm rn sd th cap fl wl w0 f0 z0 w1 f1 z1 ts u0 g0 y0 u1 g1 y1 tol rai rec ro ls vp trc tro tls tvp sdb w0b f0b z0b w1b f1b z1b raib recb rob lsb vpb cd tk fr hh wt tm lf hr p a1 a2 (eqI_iff.mp a3) (eqI_iff.mp q) a5 (bB_n h) (by omega) (by omega)
      · rw [q] at a4
        exact fz_fin1 hrs tm rn sd th cap fl wl w0 f0 z0 w1 f1 z1 ts u0 g0 y0 u1 g1 y1 tol rai rec ro ls vp trc tro tls tvp sdb w0b f0b z0b w1b f1b z1b raib recb rob lsb vpb cd tk fr hh wt tm lf hr p a1 a2 (eqI_iff.mp a3) (eqI_iff.mp (bB_ff a4)) a5 (bB_n h) (by omega) (by omega)
theorem fz_m_ok (hrs tm rn th cap fl wl ts u0 g0 y0 u1 g1 y1 cd tk hh fr sd w0 f0 w1 f1 s : Int32) (tol rai rec ro ls vp trc tro tls tvp : Int64) {K1 N1 k n : Nat} (h : fz_m tm rn th cap fl wl cd tol s hrs hh fr sd w0 f0 w1 f1 rai rec ro ls vp = true) (hat : ∀ α : AH, COK (infoT, SC) mL_at 13 [.ref 1000004, .int 2] α 41 (retR (some (.int (aV SC 2))) α 41 0 0)) (hso : ∀ α : AH, COK (infoT, SC) mL_some 13 [.int (aV SC 2), .int 9] α 41 (retR (some (.int s)) α 41 0 0)) (hk : k + 189 ≤ K1) (hn : n + 321 ≤ N1) : fz_W SC (retR (some (.int 1)) fz_H 41 K1 N1) 165 [.ref 1000004, .ref 0, .int cd, .int tk, .int fr, .int hh, uns, uns, uns, uns] [] (HW hrs tm rn sd th cap fl wl w0 f0 1 w1 f1 0 ts u0 g0 y0 u1 g1 y1 tol rai rec ro ls vp trc tro tls tvp []) 41 k n := by
  have h : fz_c tm rn th cap fl wl sd w0 f0 1 w1 f1 0 rai rec ro ls vp (fun sdb w0b f0b z0b w1b f1b z1b raib recb rob lsb vpb => bB (eqI (cmL (v102 w0) (Int32.toInt64 w0 / 10)) 0) (bB (fz_q (hrs + 1) (hh + 1)) (bB (fz_q w0b w0) (bB (fz_q f1b cd) (bB (fz_q f0b fr) (bB (bB (ltI (1 + s) (-30)) false true) (bB (bB (ltI 45 (1 + s)) false true) (bB (fz_q tm (-cd)) (fz_l2 (1 + s) 0 th cap fl wl tol 60 (hrs + 1) (fr - (1 + s)) sdb w0b f0b z0b w1b f1b z1b raib recb rob lsb vpb) false) false) false) false) false) false) false) false) = true := h
  obtain ⟨sdb, w0b, f0b, z0b, w1b, f1b, z1b, raib, recb, rob, lsb, vpb, hr, h⟩ := fz_c_ok h
  obtain ⟨a1, h⟩ := bB_t h
  obtain ⟨a2, h⟩ := bB_t h
  obtain ⟨a3, h⟩ := bB_t h
  obtain ⟨a4, h⟩ := bB_t h
  obtain ⟨a5, h⟩ := bB_t h
  obtain ⟨a6, h⟩ := bB_t h
  obtain ⟨a7, h⟩ := bB_t h
  obtain ⟨a8, h⟩ := bB_t h
  exact fz_mid hrs tm rn sd th cap fl wl w0 f0 1 w1 f1 0 ts u0 g0 y0 u1 g1 y1 tol rai rec ro ls vp trc tro tls tvp sdb w0b f0b z0b w1b f1b z1b raib recb rob lsb vpb cd tk fr hh s hr a1 (fz_q_ok a2) (fz_q_ok a3) (fz_q_ok a4) (fz_q_ok a5) (bB_n a6) (bB_n a7) (fz_q_ok a8) (hat _) (hso _) (fz_l2_ok (1 + s) 0 th cap fl wl ts u0 g0 y0 u1 g1 y1 cd tk fr hh tol trc tro tls tvp (Int32.toInt64 w0) 60 (hrs + 1) (fr - (1 + s)) sdb w0b f0b z0b w1b f1b z1b raib recb rob lsb vpb (k + 9) (n + 21) h (by omega) (by omega))
def fz_tk (t : Nat) : Int32 := 50 + Int32.ofNat t
def fz_cd (c : Nat) : Int32 := 1 + Int32.ofNat c
noncomputable def fz_ch0 (tm th cap fl wl cd : Int32) : Bool := fz_l1 tm 40 th cap fl wl cd th (fun hrs hh fr sd w0 f0 z0 w1 f1 z1 rai rec ro ls vp => bB (eqI z0 1) (bB (eqI z1 0) (fz_an 9 (fun w => fz_m tm 40 th cap fl wl cd (Int32.toInt64 fl + 125) (Int32.ofNat w) hrs hh fr sd w0 f0 w1 f1 rai rec ro ls vp)) false) false) 26 0 0 0 0 fl 0 0 125 0 0 0 0 0 0 0
noncomputable def fz_ch (t c : Nat) : Bool := fz_F (-(fz_cd c)) (fun tm => fz_F (fz_tk t) (fun th => fz_F (fz_tk t * 45 / 10) (fun cap => fz_F (fz_tk t * 25 / 10) (fun fl => fz_F (fz_tk t * 10 / 10) (fun wl => fz_F (fz_cd c) (fun cd => fz_ch0 tm th cap fl wl cd))))))
theorem fz_ch_eq (t c : Nat) : fz_ch t c = fz_ch0 (-(fz_cd c)) (fz_tk t) (fz_tk t * 45 / 10) (fz_tk t * 25 / 10) (fz_tk t * 10 / 10) (fz_cd c) := by
  unfold fz_ch
  rw [fz_F_eq, fz_F_eq, fz_F_eq, fz_F_eq, fz_F_eq, fz_F_eq]
theorem fz_body (t c w : Nat) (hw9 : w < 9) (h : fz_ch t c = true) (hat : ∀ α : AH, COK (infoT, SC) mL_at 13 [.ref 1000004, .int 2] α 41 (retR (some (.int (aV SC 2))) α 41 0 0)) (hso : ∀ α : AH, COK (infoT, SC) mL_some 13 [.int (aV SC 2), .int 9] α 41 (retR (some (.int (Int32.ofNat w))) α 41 0 0)) {K1 N1 k n : Nat} (hk : k + 267 ≤ K1) (hn : n + 451 ≤ N1) : fz_W SC (retR (some (.int 1)) fz_H 41 K1 N1) 99 [.ref 1000004, .ref 0, .int (fz_cd c), .int (fz_tk t), .int 0, .int 0, uns, uns, uns, uns] [] (HW 0 (-(fz_cd c)) 40 0 (fz_tk t) (fz_tk t * 45 / 10) (fz_tk t * 25 / 10) (fz_tk t * 10 / 10) (fz_tk t * 25 / 10) 0 0 125 0 0 0 (fz_tk t * 25 / 10) 0 0 125 0 0 (Int32.toInt64 (fz_tk t * 25 / 10) + 125) 0 0 0 0 0 0 0 0 0 []) 41 k n := by
  rw [fz_ch_eq] at h
  refine fz_l1_ok (-(fz_cd c)) 40 (fz_tk t) (fz_tk t * 45 / 10) (fz_tk t * 25 / 10) (fz_tk t * 10 / 10) 0 (fz_tk t * 25 / 10) 0 0 125 0 0 (fz_cd c) (fz_tk t) (Int32.toInt64 (fz_tk t * 25 / 10) + 125) 0 0 0 0 (k1 := k + 78) (n1 := n + 130) (K := (fun hrs hh fr sd w0 f0 z0 w1 f1 z1 rai rec ro ls vp => bB (eqI z0 1) (bB (eqI z1 0) (fz_an 9 (fun w => fz_m (-(fz_cd c)) 40 (fz_tk t) (fz_tk t * 45 / 10) (fz_tk t * 25 / 10) (fz_tk t * 10 / 10) (fz_cd c) (Int32.toInt64 (fz_tk t * 25 / 10) + 125) (Int32.ofNat w) hrs hh fr sd w0 f0 w1 f1 rai rec ro ls vp)) false) false)) (fun hrs hh fr sd w0 f0 z0 w1 f1 z1 rai rec ro ls vp k n h hk2 hn2 => ?_) 26 0 0 0 0 (fz_tk t * 25 / 10) 0 0 125 0 0 0 0 0 0 0 k n h (by omega) (by omega)
  obtain ⟨b1, g1⟩ := bB_t h
  obtain ⟨b2, g2⟩ := bB_t g1
  have e1 : z0 = 1 := eqI_iff.mp b1
  have e2 : z1 = 0 := eqI_iff.mp b2
  subst e1 e2
  exact fz_m_ok hrs (-(fz_cd c)) 40 (fz_tk t) (fz_tk t * 45 / 10) (fz_tk t * 25 / 10) (fz_tk t * 10 / 10) 0 (fz_tk t * 25 / 10) 0 0 125 0 0 (fz_cd c) (fz_tk t) hh fr sd w0 f0 w1 f1 (Int32.ofNat w) (Int32.toInt64 (fz_tk t * 25 / 10) + 125) rai rec ro ls vp 0 0 0 0 (fz_an_at g2 w hw9) hat hso (by omega) (by omega)
end
