/-! ===== frosts: the check, evaluated ===== -/
section
set_option maxRecDepth 100000
theorem fz_tr : fz_an 1 (fun i => fz_an 30 (fun c => fz_ch (19 * 10 + i) c)) = true := by decide +kernel
theorem fz_e0 : fz_an 10 (fun i => fz_an 30 (fun c => fz_ch (0 * 10 + i) c)) = true := sorry
theorem fz_e1 : fz_an 10 (fun i => fz_an 30 (fun c => fz_ch (1 * 10 + i) c)) = true := sorry
theorem fz_e2 : fz_an 10 (fun i => fz_an 30 (fun c => fz_ch (2 * 10 + i) c)) = true := sorry
theorem fz_e3 : fz_an 10 (fun i => fz_an 30 (fun c => fz_ch (3 * 10 + i) c)) = true := sorry
theorem fz_e4 : fz_an 10 (fun i => fz_an 30 (fun c => fz_ch (4 * 10 + i) c)) = true := sorry
theorem fz_e5 : fz_an 10 (fun i => fz_an 30 (fun c => fz_ch (5 * 10 + i) c)) = true := sorry
theorem fz_e6 : fz_an 10 (fun i => fz_an 30 (fun c => fz_ch (6 * 10 + i) c)) = true := sorry
theorem fz_e7 : fz_an 10 (fun i => fz_an 30 (fun c => fz_ch (7 * 10 + i) c)) = true := sorry
theorem fz_e8 : fz_an 10 (fun i => fz_an 30 (fun c => fz_ch (8 * 10 + i) c)) = true := sorry
theorem fz_e9 : fz_an 10 (fun i => fz_an 30 (fun c => fz_ch (9 * 10 + i) c)) = true := sorry
theorem fz_e10 : fz_an 10 (fun i => fz_an 30 (fun c => fz_ch (10 * 10 + i) c)) = true := sorry
theorem fz_e11 : fz_an 10 (fun i => fz_an 30 (fun c => fz_ch (11 * 10 + i) c)) = true := sorry
theorem fz_e12 : fz_an 10 (fun i => fz_an 30 (fun c => fz_ch (12 * 10 + i) c)) = true := sorry
theorem fz_e13 : fz_an 10 (fun i => fz_an 30 (fun c => fz_ch (13 * 10 + i) c)) = true := sorry
theorem fz_e14 : fz_an 10 (fun i => fz_an 30 (fun c => fz_ch (14 * 10 + i) c)) = true := sorry
theorem fz_e15 : fz_an 10 (fun i => fz_an 30 (fun c => fz_ch (15 * 10 + i) c)) = true := sorry
theorem fz_e16 : fz_an 10 (fun i => fz_an 30 (fun c => fz_ch (16 * 10 + i) c)) = true := sorry
theorem fz_e17 : fz_an 10 (fun i => fz_an 30 (fun c => fz_ch (17 * 10 + i) c)) = true := sorry
theorem fz_e18 : fz_an 10 (fun i => fz_an 30 (fun c => fz_ch (18 * 10 + i) c)) = true := sorry
theorem fz_e19 : fz_an 10 (fun i => fz_an 30 (fun c => fz_ch (19 * 10 + i) c)) = true := sorry
end
