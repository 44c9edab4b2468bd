/-! ===== frosts: the check, evaluated ===== -/
section
set_option maxRecDepth 100000
variable {SC : Nat × (Nat → Int32)}

theorem fz_e15 : fz_an 10 (fun i => fz_an 30 (fun c => fz_ch (15 * 10 + i) c)) = true := by decide +kernel
theorem fz_e16 : fz_an 10 (fun i => fz_an 30 (fun c => fz_ch (16 * 10 + i) c)) = true := by decide +kernel
theorem fz_e17 : fz_an 10 (fun i => fz_an 30 (fun c => fz_ch (17 * 10 + i) c)) = true := by decide +kernel
theorem fz_e18 : fz_an 10 (fun i => fz_an 30 (fun c => fz_ch (18 * 10 + i) c)) = true := by decide +kernel
theorem fz_e19 : fz_an 10 (fun i => fz_an 30 (fun c => fz_ch (19 * 10 + i) c)) = true := by decide +kernel
end
