/-! ===== frosts: the check, evaluated ===== -/
section
set_option maxRecDepth 100000
variable {SC : Nat × (Nat → Int32)}

theorem fz_e0 : fz_an 10 (fun i => fz_an 30 (fun c => fz_ch (0 * 10 + i) c)) = true := by decide +kernel
theorem fz_e1 : fz_an 10 (fun i => fz_an 30 (fun c => fz_ch (1 * 10 + i) c)) = true := by decide +kernel
theorem fz_e2 : fz_an 10 (fun i => fz_an 30 (fun c => fz_ch (2 * 10 + i) c)) = true := by decide +kernel
theorem fz_e3 : fz_an 10 (fun i => fz_an 30 (fun c => fz_ch (3 * 10 + i) c)) = true := by decide +kernel
theorem fz_e4 : fz_an 10 (fun i => fz_an 30 (fun c => fz_ch (4 * 10 + i) c)) = true := by decide +kernel
end
