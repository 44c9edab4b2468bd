/-! ===== frosts: the check, evaluated ===== -/
section
set_option maxRecDepth 100000
variable {SC : Nat × (Nat → Int32)}

theorem fz_e5 : fz_an 10 (fun i => fz_an 30 (fun c => fz_ch (5 * 10 + i) c)) = true := by decide +kernel
theorem fz_e6 : fz_an 10 (fun i => fz_an 30 (fun c => fz_ch (6 * 10 + i) c)) = true := by decide +kernel
theorem fz_e7 : fz_an 10 (fun i => fz_an 30 (fun c => fz_ch (7 * 10 + i) c)) = true := by decide +kernel
theorem fz_e8 : fz_an 10 (fun i => fz_an 30 (fun c => fz_ch (8 * 10 + i) c)) = true := by decide +kernel
theorem fz_e9 : fz_an 10 (fun i => fz_an 30 (fun c => fz_ch (9 * 10 + i) c)) = true := by decide +kernel
end
