/-! ===== runs of links ===== -/
section
set_option maxRecDepth 100000
variable {SC : Nat × (Nat → Int32)}
theorem e_links_3_5 : chkS (exe (runC progF 12) kX7_isTrue 45 (drp 29 kX7_isTrue) [.ref 0, .int 3, .ref 94] [.int 1] h_links_26 206 0 0) 8 [.ref 0, .int 5, .ref 128] [.int 5, .ref 0] h_links_27 206 0 0 = true := by decide +kernel
theorem e_links_3_6 : chkF (exe (runC progF 12) kX7_isTrue 11 (drp 28 kX7_isTrue) [.ref 0, .int 5, .ref 128] [.int 5, .ref 0] h_links_27 206 0 0) (some (.int 1)) h_links_28 206 0 0 = true := by decide +kernel
theorem w_links_3_6 : WGA (infoT, SC) mX7_isTrue kX7_isTrue False 12 (retR (some (.int 1)) h_links_28 206 0 0) 28 [.ref 0, .int 5, .ref 128] [.int 5, .ref 0] h_links_27 206 0 0 := wga_fn (z := False) sX7_isTrue (cokT 12) 11 28 e_links_3_6
theorem w_links_3_5 : WGA (infoT, SC) mX7_isTrue kX7_isTrue False 12 (retR (some (.int 1)) h_links_28 206 0 0) 29 [.ref 0, .int 3, .ref 94] [.int 1] h_links_26 206 0 0 := wga_sg (z := False) sX7_isTrue (cokT 12) 45 29 8 28 e_links_3_5 rfl w_links_3_6
theorem w_links_3_4 : WGA (infoT, SC) mX7_isTrue kX7_isTrue False 12 (retR (some (.int 1)) h_links_28 206 0 0) 28 [.ref 0, .int 3, .ref 94] [.int 3, .ref 0] h_links_17 206 0 0 := wga_vir (z := False) (bs := [.int 3, .ref 0]) (r := []) (v := some (.int 1)) (as1 := [.int 3]) (fs := _) sX7_isTrue (show drp 28 kX7_isTrue = (52, i_vir 9 31 2 none) :: drp 29 kX7_isTrue from rfl) iy_31 rfl rfl (by decide) ck_links_3_4 w_links_3_5
theorem w_links_3_3 : WGA (infoT, SC) mX7_isTrue kX7_isTrue False 12 (retR (some (.int 1)) h_links_28 206 0 0) 29 [.ref 0, .int 2, .ref 57] [.int 1] h_links_16 206 0 0 := wga_sg (z := False) sX7_isTrue (cokT 12) 22 29 8 28 e_links_3_3 rfl w_links_3_4
theorem w_links_3_2 : WGA (infoT, SC) mX7_isTrue kX7_isTrue False 12 (retR (some (.int 1)) h_links_28 206 0 0) 28 [.ref 0, .int 2, .ref 57] [.int 2, .ref 0] h_links_11 206 0 0 := wga_vir (z := False) (bs := [.int 2, .ref 0]) (r := []) (v := some (.int 1)) (as1 := [.int 2]) (fs := _) sX7_isTrue (show drp 28 kX7_isTrue = (52, i_vir 9 31 2 none) :: drp 29 kX7_isTrue from rfl) iy_31 rfl rfl (by decide) ck_links_3_2 w_links_3_3
theorem w_links_3_1 : WGA (infoT, SC) mX7_isTrue kX7_isTrue False 12 (retR (some (.int 1)) h_links_28 206 0 0) 28 [.ref 0, .int 1, .ref 25] [.int 1, .ref 0] h_links_10 206 0 0 := wga_sg (z := False) sX7_isTrue (cokT 12) 23 28 8 28 e_links_3_1 rfl w_links_3_2
theorem w_links_3_0 : WGA (infoT, SC) mX7_isTrue kX7_isTrue False 12 (retR (some (.int 1)) h_links_28 206 0 0) 0 [.ref 0, uns, uns] [] h_links_9 206 0 0 := wga_sg (z := False) sX7_isTrue (cokT 12) 49 0 8 28 e_links_3_0 rfl w_links_3_1
theorem ck_links_3 : COK (infoT, SC) mX7_isTrue 13 [.ref 0] h_links_9 206 (retR (some (.int 1)) h_links_28 206 0 0) := cok_of (by decide) rfl (Nat.le_of_ble_eq_true rfl) w_links_3_0
def h_links_29 : AH := [[(200, []), (200, []), (200, []), (200, []), (200, []), (200, []), (200, []), (200, []), (200, []), (200, []), (200, []), (200, []), (200, []), (200, []), (200, []), (200, [])],
  [(200, []), (200, []), (200, []), (200, []), (200, []), (200, []), (200, []), (200, []), (200, []), (200, []), (200, []), (200, []), (200, []), (200, []), (200, []), (200, [])],
  [(200, []), (200, []), (200, []), (200, []), (200, []), (200, []), (200, []), (200, []), (200, []), (200, []), (200, []), (200, []), (200, []), (200, []), (200, []), (200, [])],
  [(200, []), (200, []), (200, []), (200, []), (200, []), (200, []), (200, []), (200, []), (200, []), (200, []), (200, []), (200, []), (200, []), (200, []), (200, []), (200, [])],
  [(200, []), (200, []), (200, []), (200, []), (200, []), (200, []), (200, []), (200, []), (200, []), (200, []), (200, []), (200, []), (200, []), (200, []), (200, []), (200, [])],
  [(200, []), (200, []), (200, []), (200, []), (200, []), (200, []), (200, []), (200, []), (200, []), (200, []), (200, []), (200, []), (200, []), (200, []), (200, []), (200, [])],
  [(200, []), (200, []), (200, []), (200, []), (200, []), (200, []), (200, []), (200, []), (200, []), (200, []), (200, []), (200, []), (200, []), (200, []), (200, []), (200, [])],
  [(200, []), (200, []), (200, []), (200, []), (200, []), (200, []), (200, []), (200, []), (200, []), (200, []), (200, []), (200, []), (200, []), (200, []), (200, []), (200, [])],
  [(200, []), (200, []), (200, []), (200, []), (200, []), (200, []), (200, []), (200, []), (200, []), (200, []), (200, []), (200, []), (200, []), (200, []), (200, []), (200, [])],
  [(200, []), (200, []), (200, []), (200, []), (200, []), (200, []), (200, []), (200, []), (200, []), (200, []), (200, []), (200, []), (200, []), (200, []), (200, []), (200, [])],
  [(200, []), (200, []), (200, []), (200, []), (200, []), (200, []), (200, []), (200, []), (200, []), (200, []), (200, []), (200, []), (200, []), (200, []), (200, []), (200, [])],
  [(200, []), (200, []), (200, []), (200, []), (200, []), (200, []), (200, []), (200, []), (200, []), (200, []), (200, []), (200, []), (200, []), (200, []), (200, []), (200, [])],
  [(200, []), (200, []), (200, []), (200, []), (200, []), (200, []), (200, []), (200, []), (200, []), (200, []), (200, []), (200, []), (200, []), (200, [])]]
theorem e_links_0 : chkS (exe (runC progF 13) kL_links 389 (drp 0 kL_links) [uns, uns] [] ([] : AH) 0 0 0) 175 [.ref 0, uns] [.ref 89, .int 72, .ref 0] h_links_1 90 90 392 = true := by decide +kernel
theorem e_links_2 : chkS (exe (runC progF 13) kL_links 400 (drp 392 kL_links) [.ref 0, uns] [.long 57] h_links_8 90 90 392) 6 [.ref 0, .int 8] [.ref 0] h_links_9 206 209 906 = true := by decide +kernel
theorem e_links_4 : chkF (exe (runC progF 13) kL_links 4 (drp 561 kL_links) [.ref 0, .int 8] [.int 1] h_links_28 206 209 906) (some (.int 1)) h_links_29 206 209 906 = true := by decide +kernel
theorem w_links_4 : WGA (infoT, SC) mL_links kL_links False 13 (retR (some (.int 1)) h_links_29 206 209 906) 561 [.ref 0, .int 8] [.int 1] h_links_28 206 209 906 := wga_fn (z := False) sL_links (cokT 13) 4 561 e_links_4
theorem w_links_3 : WGA (infoT, SC) mL_links kL_links False 13 (retR (some (.int 1)) h_links_29 206 209 906) 560 [.ref 0, .int 8] [.ref 0] h_links_9 206 209 906 := wga_vir (z := False) (bs := [.ref 0]) (r := []) (v := some (.int 1)) (as1 := []) (fs := _) sL_links (show drp 560 kL_links = (871, i_vir 9 39 1 none) :: drp 561 kL_links from rfl) iy_39 rfl rfl (by decide) ck_links_3 w_links_4
theorem w_links_2 : WGA (infoT, SC) mL_links kL_links False 13 (retR (some (.int 1)) h_links_29 206 209 906) 392 [.ref 0, uns] [.long 57] h_links_8 90 90 392 := wga_sg (z := False) sL_links (cokT 13) 400 392 6 560 e_links_2 rfl w_links_3
theorem w_links_1 : WGA (infoT, SC) mL_links kL_links False 13 (retR (some (.int 1)) h_links_29 206 209 906) 391 [.ref 0, uns] [.ref 89, .int 72, .ref 0] h_links_1 90 90 392 := wga_cal (z := False) (bs := [.ref 89, .int 72, .ref 0]) (r := []) (v := some (.long 57)) sL_links (show drp 391 kL_links = (604, i_cal 120 3 none) :: drp 392 kL_links from rfl) iy_120 (by decide) ck_links_1 w_links_2
theorem w_links_0 : WGA (infoT, SC) mL_links kL_links False 13 (retR (some (.int 1)) h_links_29 206 209 906) 0 [uns, uns] [] ([] : AH) 0 0 0 := wga_sg (z := False) sL_links (cokT 13) 389 0 175 391 e_links_0 rfl w_links_1
theorem ck_links : COK (infoT, SC) mL_links 14 [] ([] : AH) 0 (retR (some (.int 1)) h_links_29 206 209 906) := cok_of (by decide) rfl (Nat.le_of_ble_eq_true rfl) w_links_0
end
