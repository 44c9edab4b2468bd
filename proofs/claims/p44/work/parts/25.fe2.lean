/-! ===== frosts: the check, evaluated ===== -/
section
set_option maxRecDepth 100000
variable {SC : Nat × (Nat → Int32)}

theorem fz_e10 : fz_an 10 (fun i => fz_an 30 (fun c => fz_ch (10 * 10 + i) c)) = true := by decide +kernel
theorem fz_e11 : fz_an 10 (fun i => fz_an 30 (fun c => fz_ch (11 * 10 + i) c)) = true := by decide +kernel
theorem fz_e12 : fz_an 10 (fun i => fz_an 30 (fun c => fz_ch (12 * 10 + i) c)) = true := by decide +kernel
theorem fz_e13 : fz_an 10 (fun i => fz_an 30 (fun c => fz_ch (13 * 10 + i) c)) = true := by decide +kernel
theorem fz_e14 : fz_an 10 (fun i => fz_an 30 (fun c => fz_ch (14 * 10 + i) c)) = true := by decide +kernel
end
