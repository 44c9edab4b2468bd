set_option maxHeartbeats 8000000 in
set_option maxRecDepth 100000 in
/-- case 21: recharge -/
theorem law_21 {p : Program} {l : Launch} {e : Env} {s : State} {m : MethodId} {below : List Frame} {meth : Method} {c : Code} {D : va_G} {b : Nat} {xs : Nat → Int32} (hst : l.stackTraces = false) (hx : p.tables.exec = Jvm.exec) (hb : c.code = code) (hr : meth.sig.returnType = ret) (hml : c.maxLocals = 9) (hown : s.vm.findClass RL = some m.cls) (hts : ∀ w ∈ lw_all, w.before #[Value.ref b] s = true) (hX : va_X b 5 xs s s.heap) (hbl : b < s.heap.size) (hlocks : meth.locks = false) (hG : GE s) (hZ : ZZ (fun q : Nat => s.heap.size ≤ q) s s.heap) {e0 : Nat} (hZd : ZD e0 (fun q : Nat => s.heap.size ≤ q) s s.heap) (hZt : ZT e0 (fun q : Nat => s.heap.size ≤ q) s s.heap) (hAO : va_AO "java/lang/Object" s) {fq fv : Nat} (hSF : SF fq fv (fun q : Nat => s.heap.size ≤ q) s s.heap) (hvk : vk_R RX12 58 "fsn" fq s) {x cs th nw mi m2 ms sk o od : Nat} {cA cB : ClassId} {H : Heap} {locs : List Loc} (hK : va_K D vwCl [(cA, .long), (cB, .double)] s) (hP : va_P D vwCl [(x, .inr (11, [.ref cs, .ref th, .ref nw, .ref mi, .int 9999, .int 0, .int 0])), (cs, .inr (4, [.int 0, .ref e0, .int 0])), (th, .inr (4, [.int 0, .ref e0, .int 0])), (nw, .inr (10, [.int 10, .int 0, .int 0])), (m2, .inr (16, [.int 0, .ref ms, .ref sk, .int 0])), (ms, .inr (4, [.int 0, .ref e0, .int 0])), (sk, .inr (15, [.int 10, .int 0, .int 0, .int 9999, .int 0])), (o, .inl (cA, 1, .inr (.inl (fun _ => 0)))), (od, .inl (cB, 1, .inr (.inr (.inr (.inl (fun _ => 0))))))] H) (hD : va_D (fun q : Nat => s.heap.size ≤ q) [(x, .inr (11, [.ref cs, .ref th, .ref nw, .ref mi, .int 9999, .int 0, .int 0])), (cs, .inr (4, [.int 0, .ref e0, .int 0])), (th, .inr (4, [.int 0, .ref e0, .int 0])), (nw, .inr (10, [.int 10, .int 0, .int 0])), (m2, .inr (16, [.int 0, .ref ms, .ref sk, .int 0])), (ms, .inr (4, [.int 0, .ref e0, .int 0])), (sk, .inr (15, [.int 10, .int 0, .int 0, .int 9999, .int 0])), (o, .inl (cA, 1, .inr (.inl (fun _ => 0)))), (od, .inl (cB, 1, .inr (.inr (.inr (.inl (fun _ => 0))))))]) (hS : va_S (fun q : Nat => s.heap.size ≤ q) s.heap H locs) {ls : Array Slot} (hl : lv_has ls 9 [(5, .int 0), (4, .ref od), (3, .ref o), (2, .ref m2), (1, .ref x), (0, .ref b)]) : W p l e room_1 s m #[Value.ref b] below meth c H locs 10 70 (lw_Z below #[Value.ref b] s) (F0 m 1704 ls []) := by
  have hA : ∀ q : Nat, s.heap.size ≤ q → (fun q : Nat => s.heap.size ≤ q) q := fun _ h => h
  have hbA : ¬ (fun q : Nat => s.heap.size ≤ q) b := Nat.not_le.mpr hbl
  refine lv_aload_n hx hb dL_law__1704 rfl (lv_at hl 4 rfl) ?_
  refine lv_aload_n hx hb dL_law__1705 rfl (lv_at hl 5 rfl) ?_
  refine lv_iload hx hb dL_law__1706 (lv_at hl 0 rfl) ?_
  refine lv_iconst (v := 1) hx hb dL_law__1708 (by decide) ?_
  refine lv_iadd hx hb dL_law__1709 ?_
  refine va_sld hx hb hX hbl hbA hS (by unfold vp_in; decide) dL_law__1710 ?_
  refine lv_aload_n hx hb dL_law__1711 rfl (lv_at hl 2 rfl) ?_
  have hPc := hP.sub (ws' := [(x, .inr (11, [.ref cs, .ref th, .ref nw, .ref mi, .int 9999, .int 0, .int 0])), (cs, .inr (4, [.int 0, .ref e0, .int 0]))]) [0, 1] rfl
  have hDc := hD.sub (ws' := [(x, .inr (11, [.ref cs, .ref th, .ref nw, .ref mi, .int 9999, .int 0, .int 0])), (cs, .inr (4, [.int 0, .ref e0, .int 0]))]) [0, 1] (by decide) rfl
  have hKc := hK.sub (tys' := []) [] rfl
  refine va_calli (vx_runSW (As := [.ref x, .int (xs (Int32.toNatClampNeg (0 + 1))), .ref o]) (rest := []) ⟨hx, hb, hml, hown, hts⟩ (k_LL_recharge l hst D x cs (.ref th) (.ref nw) (.ref mi) (.int 9999) (.int 0) (.int 0) 0 (.ref e0) (xs (Int32.toNatClampNeg (0 + 1))) o H.size) (vx_cwSW 3 hts (gS q948 q949 q0 (gH q950)) rfl rfl rfl (by decide +kernel) ⟨Nat.le_of_ble_eq_true rfl, Nat.le_of_ble_eq_true rfl⟩) ⟨EV.fb, fun U hU hW => ⟨rfl, EV.at hPc hKc hDc hG (hZ.no hS) U hU hW⟩⟩ rfl rfl hl.1 rfl (lv_room (Nat.le_of_ble_eq_true rfl)) dL_law__1712 ⟨Nat.le_of_ble_eq_true rfl, Nat.le_of_ble_eq_true rfl⟩) hS (fun q _ h => h.elim) (fun q h => h.elim) (fun r_1 u t H1 locs ht hvm hw hB hz1 hk1 hS => ?_)
  have hP := P_kept hP hk1
  generalize H1 = H at hP hS ⊢
  have hP : va_P D vwCl [(x, .inr (11, [.ref cs, .ref th, .ref nw, .ref mi, .int 9999, .int 0, .int 0])), (cs, .inr (4, [.int 0, .ref e0, .int 0])), (th, .inr (4, [.int 0, .ref e0, .int 0])), (nw, .inr (10, [.int 10, .int 0, .int 0])), (m2, .inr (16, [.int 0, .ref ms, .ref sk, .int 0])), (ms, .inr (4, [.int 0, .ref e0, .int 0])), (sk, .inr (15, [.int 10, .int 0, .int 0, .int 9999, .int 0])), (o, .inl (cA, 1, .inr (.inl (fun _ => 0)))), (od, .inl (cB, 1, .inr (.inr (.inr (.inl (fun _ => 0))))))] H := hP
  subst hw
  refine lv_istore (lv' := [(6, .int 1), (5, .int 0), (4, .ref od), (3, .ref o), (2, .ref m2), (1, .ref x), (0, .ref b)]) hx hb dL_law__1715 hl (by decide) rfl (fun ls hl => ?_)
  refine lv_aload_n hx hb dL_law__1717 rfl (lv_at hl 4 rfl) ?_
  refine lv_aload_n hx hb dL_law__1718 rfl (lv_at hl 6 rfl) ?_
  refine lv_iload hx hb dL_law__1719 (lv_at hl 1 rfl) ?_
  refine lv_iconst (v := 1) hx hb dL_law__1721 (by decide) ?_
  refine lv_iadd hx hb dL_law__1722 ?_
  refine va_sld hx hb hX hbl hbA hS (by unfold vp_in; decide) dL_law__1723 ?_
  have hPc := hP.sub (ws' := [(m2, .inr (16, [.int 0, .ref ms, .ref sk, .int 0])), (ms, .inr (4, [.int 0, .ref e0, .int 0]))]) [4, 5] rfl
  have hDc := hD.sub (ws' := [(m2, .inr (16, [.int 0, .ref ms, .ref sk, .int 0])), (ms, .inr (4, [.int 0, .ref e0, .int 0]))]) [4, 5] (by decide) rfl
  have hKc := hK.sub (tys' := []) [] rfl
  have hFc := va_free (wc := [(m2, .inr (16, [.int 0, .ref ms, .ref sk, .int 0])), (ms, .inr (4, [.int 0, .ref e0, .int 0]))]) hD hS hA [4, 5] rfl
  refine va_calll (va_runV (As := [.int (xs (Int32.toNatClampNeg (0 + 1)))]) (rest := []) ⟨hx, hb, hml, hown, hts⟩ (k_LM_recharge l D m2 0 ms (.ref sk) (.int 0) 0 (.ref e0) (xs (Int32.toNatClampNeg (0 + 1))) H.size) (cwV 1 hts (gV q1662 q1663 q1664 q6 (gA q1665)) rfl rfl rfl (by decide +kernel) ⟨Nat.le_of_ble_eq_true rfl, Nat.le_of_ble_eq_true rfl⟩) ⟨EV.fb, va_recv hKc hPc (ci := 16) (q0 := 0) rfl rfl, fun U hU hW => ⟨rfl, EV.at hPc hKc hDc hG (hZ.no hS) U hU hW⟩⟩ rfl rfl hl.1 rfl (lv_room (Nat.le_of_ble_eq_true rfl)) dL_law__1724 ⟨Nat.le_of_ble_eq_true rfl, Nat.le_of_ble_eq_true rfl⟩) hS (fun q _ h => hFc q h) hFc (fun r_2 u t H1 locs ht hvm hw hB hz1 hk1 hS => ?_)
  obtain ⟨hP1, hD1⟩ := hB
  rw [ht] at hP1
  obtain ⟨hP, hD⟩ := va_join (wr := [(x, .inr (11, [.ref cs, .ref th, .ref nw, .ref mi, .int 9999, .int 0, .int 0])), (cs, .inr (4, [.int 0, .ref e0, .int 0])), (th, .inr (4, [.int 0, .ref e0, .int 0])), (nw, .inr (10, [.int 10, .int 0, .int 0])), (sk, .inr (15, [.int 10, .int 0, .int 0, .int 9999, .int 0])), (o, .inl (cA, 1, .inr (.inl (fun _ => 0)))), (od, .inl (cB, 1, .inr (.inr (.inr (.inl (fun _ => 0))))))]) (w1 := [(m2, .inr (16, [.int 1, .ref ms, .ref sk, .int 0])), (ms, .inr (4, [.int 0, .ref e0, .int 0]))]) hP hD [4, 5] [0, 1, 2, 3, 6, 7, 8] rfl rfl (by decide) (by decide) hk1 hFc hP1 hD1
  generalize H1 = H at hP hS ⊢
  have hP : va_P D vwCl [(x, .inr (11, [.ref cs, .ref th, .ref nw, .ref mi, .int 9999, .int 0, .int 0])), (cs, .inr (4, [.int 0, .ref e0, .int 0])), (th, .inr (4, [.int 0, .ref e0, .int 0])), (nw, .inr (10, [.int 10, .int 0, .int 0])), (sk, .inr (15, [.int 10, .int 0, .int 0, .int 9999, .int 0])), (o, .inl (cA, 1, .inr (.inl (fun _ => 0)))), (od, .inl (cB, 1, .inr (.inr (.inr (.inl (fun _ => 0)))))), (m2, .inr (16, [.int 1, .ref ms, .ref sk, .int 0])), (ms, .inr (4, [.int 0, .ref e0, .int 0]))] H := hP
  have hD : va_D (fun q : Nat => s.heap.size ≤ q) [(x, .inr (11, [.ref cs, .ref th, .ref nw, .ref mi, .int 9999, .int 0, .int 0])), (cs, .inr (4, [.int 0, .ref e0, .int 0])), (th, .inr (4, [.int 0, .ref e0, .int 0])), (nw, .inr (10, [.int 10, .int 0, .int 0])), (sk, .inr (15, [.int 10, .int 0, .int 0, .int 9999, .int 0])), (o, .inl (cA, 1, .inr (.inl (fun _ => 0)))), (od, .inl (cB, 1, .inr (.inr (.inr (.inl (fun _ => 0)))))), (m2, .inr (16, [.int 1, .ref ms, .ref sk, .int 0])), (ms, .inr (4, [.int 0, .ref e0, .int 0]))] := hD
  refine lv_lstore (lv' := [(7, .long r_2), (6, .int 1), (5, .int 0), (4, .ref od), (3, .ref o), (2, .ref m2), (1, .ref x), (0, .ref b)]) hx hb dL_law__1727 hl (by decide) rfl (fun ls hl => ?_)
  refine lv_aload_n hx hb dL_law__1729 rfl (lv_at hl 5 rfl) ?_
  have hPc := hP.sub (ws' := [(m2, .inr (16, [.int 1, .ref ms, .ref sk, .int 0]))]) [7] rfl
  have hDc := hD.sub (ws' := [(m2, .inr (16, [.int 1, .ref ms, .ref sk, .int 0]))]) [7] (by decide) rfl
  have hKc := hK.sub (tys' := []) [] rfl
  refine va_calli (va_runV (As := []) (rest := []) ⟨hx, hb, hml, hown, hts⟩ (k_LM_thrown l D m2 1 ms (.ref sk) (.int 0) 0 .null H.size) (cwV 0 hts (gV q1174 q1175 q1176 q6 (gA q1177)) rfl rfl rfl (by decide +kernel) ⟨Nat.le_of_ble_eq_true rfl, Nat.le_of_ble_eq_true rfl⟩) ⟨EV.fb, va_recv hKc hPc (ci := 16) (q0 := 0) rfl rfl, fun U hU hW => ⟨rfl, EV.at hPc hKc hDc hG (hZ.no hS) U hU hW⟩⟩ rfl rfl hl.1 rfl (lv_room (Nat.le_of_ble_eq_true rfl)) dL_law__1730 ⟨Nat.le_of_ble_eq_true rfl, Nat.le_of_ble_eq_true rfl⟩) hS (fun q _ h => h.elim) (fun q h => h.elim) (fun r_3 u t H1 locs ht hvm hw hB hz1 hk1 hS => ?_)
  have hP := P_kept hP hk1
  generalize H1 = H at hP hS ⊢
  have hP : va_P D vwCl [(x, .inr (11, [.ref cs, .ref th, .ref nw, .ref mi, .int 9999, .int 0, .int 0])), (cs, .inr (4, [.int 0, .ref e0, .int 0])), (th, .inr (4, [.int 0, .ref e0, .int 0])), (nw, .inr (10, [.int 10, .int 0, .int 0])), (sk, .inr (15, [.int 10, .int 0, .int 0, .int 9999, .int 0])), (o, .inl (cA, 1, .inr (.inl (fun _ => 0)))), (od, .inl (cB, 1, .inr (.inr (.inr (.inl (fun _ => 0)))))), (m2, .inr (16, [.int 1, .ref ms, .ref sk, .int 0])), (ms, .inr (4, [.int 0, .ref e0, .int 0]))] H := hP
  subst hw
  refine lv_iload hx hb dL_law__1733 (lv_at hl 1 rfl) ?_
  refine lv_icmp_eq (tgt := 1740) hx hb dL_law__1735 (by decide) (fun c_4 => ?_) (fun c_4 => ?_)
  · refine lv_iload hx hb dL_law__1740 (lv_at hl 1 rfl) ?_
    refine lv_if_ne (tgt := 1756) hx hb dL_law__1742 (by decide) (fun c_5 => ?_) (fun c_5 => ?_)
    · refine lv_goto (tgt := 2850) hx hb dL_law__1756 (by decide) ?_
      exact law_end (D := D) hst hx hb hr hml hown hts hX hbl hlocks hS (Nat.le_of_ble_eq_true rfl) (Nat.le_of_ble_eq_true rfl) (lv_sub hl [7, 2] rfl)
    · exact absurd c_5 (by decide)
  · exact absurd (by decide) c_4
set_option maxHeartbeats 8000000 in
set_option maxRecDepth 100000 in
/-- case 22: runoff -/
theorem law_22 {p : Program} {l : Launch} {e : Env} {s : State} {m : MethodId} {below : List Frame} {meth : Method} {c : Code} {D : va_G} {b : Nat} {xs : Nat → Int32} (hst : l.stackTraces = false) (hx : p.tables.exec = Jvm.exec) (hb : c.code = code) (hr : meth.sig.returnType = ret) (hml : c.maxLocals = 9) (hown : s.vm.findClass RL = some m.cls) (hts : ∀ w ∈ lw_all, w.before #[Value.ref b] s = true) (hX : va_X b 5 xs s s.heap) (hbl : b < s.heap.size) (hlocks : meth.locks = false) (hG : GE s) (hZ : ZZ (fun q : Nat => s.heap.size ≤ q) s s.heap) {e0 : Nat} (hZd : ZD e0 (fun q : Nat => s.heap.size ≤ q) s s.heap) (hZt : ZT e0 (fun q : Nat => s.heap.size ≤ q) s s.heap) (hAO : va_AO "java/lang/Object" s) {fq fv : Nat} (hSF : SF fq fv (fun q : Nat => s.heap.size ≤ q) s s.heap) (hvk : vk_R RX12 58 "fsn" fq s) {x cs th nw mi m2 ms sk o od : Nat} {cA cB : ClassId} {H : Heap} {locs : List Loc} (hK : va_K D vwCl [(cA, .long), (cB, .double)] s) (hP : va_P D vwCl [(x, .inr (11, [.ref cs, .ref th, .ref nw, .ref mi, .int 9999, .int 0, .int 0])), (cs, .inr (4, [.int 0, .ref e0, .int 0])), (th, .inr (4, [.int 0, .ref e0, .int 0])), (nw, .inr (10, [.int 10, .int 0, .int 0])), (m2, .inr (16, [.int 0, .ref ms, .ref sk, .int 0])), (ms, .inr (4, [.int 0, .ref e0, .int 0])), (sk, .inr (15, [.int 10, .int 0, .int 0, .int 9999, .int 0])), (o, .inl (cA, 1, .inr (.inl (fun _ => 0)))), (od, .inl (cB, 1, .inr (.inr (.inr (.inl (fun _ => 0))))))] H) (hD : va_D (fun q : Nat => s.heap.size ≤ q) [(x, .inr (11, [.ref cs, .ref th, .ref nw, .ref mi, .int 9999, .int 0, .int 0])), (cs, .inr (4, [.int 0, .ref e0, .int 0])), (th, .inr (4, [.int 0, .ref e0, .int 0])), (nw, .inr (10, [.int 10, .int 0, .int 0])), (m2, .inr (16, [.int 0, .ref ms, .ref sk, .int 0])), (ms, .inr (4, [.int 0, .ref e0, .int 0])), (sk, .inr (15, [.int 10, .int 0, .int 0, .int 9999, .int 0])), (o, .inl (cA, 1, .inr (.inl (fun _ => 0)))), (od, .inl (cB, 1, .inr (.inr (.inr (.inl (fun _ => 0))))))]) (hS : va_S (fun q : Nat => s.heap.size ≤ q) s.heap H locs) {ls : Array Slot} (hl : lv_has ls 9 [(5, .int 0), (4, .ref od), (3, .ref o), (2, .ref m2), (1, .ref x), (0, .ref b)]) : W p l e room_1 s m #[Value.ref b] below meth c H locs 10 70 (lw_Z below #[Value.ref b] s) (F0 m 1759 ls []) := by
  have hA : ∀ q : Nat, s.heap.size ≤ q → (fun q : Nat => s.heap.size ≤ q) q := fun _ h => h
  have hbA : ¬ (fun q : Nat => s.heap.size ≤ q) b := Nat.not_le.mpr hbl
  refine lv_aload_n hx hb dL_law__1759 rfl (lv_at hl 4 rfl) ?_
  refine lv_aload_n hx hb dL_law__1760 rfl (lv_at hl 5 rfl) ?_
  refine lv_iload hx hb dL_law__1761 (lv_at hl 0 rfl) ?_
  refine lv_iconst (v := 1) hx hb dL_law__1763 (by decide) ?_
  refine lv_iadd hx hb dL_law__1764 ?_
  refine va_sld hx hb hX hbl hbA hS (by unfold vp_in; decide) dL_law__1765 ?_
  refine lv_aload_n hx hb dL_law__1766 rfl (lv_at hl 2 rfl) ?_
  have hPc := hP.sub (ws' := [(x, .inr (11, [.ref cs, .ref th, .ref nw, .ref mi, .int 9999, .int 0, .int 0])), (cs, .inr (4, [.int 0, .ref e0, .int 0]))]) [0, 1] rfl
  have hDc := hD.sub (ws' := [(x, .inr (11, [.ref cs, .ref th, .ref nw, .ref mi, .int 9999, .int 0, .int 0])), (cs, .inr (4, [.int 0, .ref e0, .int 0]))]) [0, 1] (by decide) rfl
  have hKc := hK.sub (tys' := []) [] rfl
  refine va_calli (vx_runSW (As := [.ref x, .int (xs (Int32.toNatClampNeg (0 + 1))), .ref o]) (rest := []) ⟨hx, hb, hml, hown, hts⟩ (k_LL_runoff l hst D x cs (.ref th) (.ref nw) (.ref mi) (.int 9999) (.int 0) (.int 0) 0 (.ref e0) (xs (Int32.toNatClampNeg (0 + 1))) o H.size) (vx_cwSW 3 hts (gS q955 q956 q0 (gH q957)) rfl rfl rfl (by decide +kernel) ⟨Nat.le_of_ble_eq_true rfl, Nat.le_of_ble_eq_true rfl⟩) ⟨EV.fb, fun U hU hW => ⟨rfl, EV.at hPc hKc hDc hG (hZ.no hS) U hU hW⟩⟩ rfl rfl hl.1 rfl (lv_room (Nat.le_of_ble_eq_true rfl)) dL_law__1767 ⟨Nat.le_of_ble_eq_true rfl, Nat.le_of_ble_eq_true rfl⟩) hS (fun q _ h => h.elim) (fun q h => h.elim) (fun r_1 u t H1 locs ht hvm hw hB hz1 hk1 hS => ?_)
  have hP := P_kept hP hk1
  generalize H1 = H at hP hS ⊢
  have hP : va_P D vwCl [(x, .inr (11, [.ref cs, .ref th, .ref nw, .ref mi, .int 9999, .int 0, .int 0])), (cs, .inr (4, [.int 0, .ref e0, .int 0])), (th, .inr (4, [.int 0, .ref e0, .int 0])), (nw, .inr (10, [.int 10, .int 0, .int 0])), (m2, .inr (16, [.int 0, .ref ms, .ref sk, .int 0])), (ms, .inr (4, [.int 0, .ref e0, .int 0])), (sk, .inr (15, [.int 10, .int 0, .int 0, .int 9999, .int 0])), (o, .inl (cA, 1, .inr (.inl (fun _ => 0)))), (od, .inl (cB, 1, .inr (.inr (.inr (.inl (fun _ => 0))))))] H := hP
  subst hw
  refine lv_istore (lv' := [(6, .int 1), (5, .int 0), (4, .ref od), (3, .ref o), (2, .ref m2), (1, .ref x), (0, .ref b)]) hx hb dL_law__1770 hl (by decide) rfl (fun ls hl => ?_)
  refine lv_aload_n hx hb dL_law__1772 rfl (lv_at hl 4 rfl) ?_
  refine lv_aload_n hx hb dL_law__1773 rfl (lv_at hl 6 rfl) ?_
  refine lv_iload hx hb dL_law__1774 (lv_at hl 1 rfl) ?_
  refine lv_iconst (v := 1) hx hb dL_law__1776 (by decide) ?_
  refine lv_iadd hx hb dL_law__1777 ?_
  refine va_sld hx hb hX hbl hbA hS (by unfold vp_in; decide) dL_law__1778 ?_
  have hPc := hP.sub (ws' := [(m2, .inr (16, [.int 0, .ref ms, .ref sk, .int 0])), (ms, .inr (4, [.int 0, .ref e0, .int 0]))]) [4, 5] rfl
  have hDc := hD.sub (ws' := [(m2, .inr (16, [.int 0, .ref ms, .ref sk, .int 0])), (ms, .inr (4, [.int 0, .ref e0, .int 0]))]) [4, 5] (by decide) rfl
  have hKc := hK.sub (tys' := []) [] rfl
  have hFc := va_free (wc := [(m2, .inr (16, [.int 0, .ref ms, .ref sk, .int 0])), (ms, .inr (4, [.int 0, .ref e0, .int 0]))]) hD hS hA [4, 5] rfl
  refine va_calll (va_runV (As := [.int (xs (Int32.toNatClampNeg (0 + 1)))]) (rest := []) ⟨hx, hb, hml, hown, hts⟩ (k_LM_runoff l D m2 0 ms (.ref sk) (.int 0) 0 (.ref e0) (xs (Int32.toNatClampNeg (0 + 1))) H.size) (cwV 1 hts (gV q1666 q1667 q1668 q6 (gA q1669)) rfl rfl rfl (by decide +kernel) ⟨Nat.le_of_ble_eq_true rfl, Nat.le_of_ble_eq_true rfl⟩) ⟨EV.fb, va_recv hKc hPc (ci := 16) (q0 := 0) rfl rfl, fun U hU hW => ⟨rfl, EV.at hPc hKc hDc hG (hZ.no hS) U hU hW⟩⟩ rfl rfl hl.1 rfl (lv_room (Nat.le_of_ble_eq_true rfl)) dL_law__1779 ⟨Nat.le_of_ble_eq_true rfl, Nat.le_of_ble_eq_true rfl⟩) hS (fun q _ h => hFc q h) hFc (fun r_2 u t H1 locs ht hvm hw hB hz1 hk1 hS => ?_)
  obtain ⟨hP1, hD1⟩ := hB
  rw [ht] at hP1
  obtain ⟨hP, hD⟩ := va_join (wr := [(x, .inr (11, [.ref cs, .ref th, .ref nw, .ref mi, .int 9999, .int 0, .int 0])), (cs, .inr (4, [.int 0, .ref e0, .int 0])), (th, .inr (4, [.int 0, .ref e0, .int 0])), (nw, .inr (10, [.int 10, .int 0, .int 0])), (sk, .inr (15, [.int 10, .int 0, .int 0, .int 9999, .int 0])), (o, .inl (cA, 1, .inr (.inl (fun _ => 0)))), (od, .inl (cB, 1, .inr (.inr (.inr (.inl (fun _ => 0))))))]) (w1 := [(m2, .inr (16, [.int 1, .ref ms, .ref sk, .int 0])), (ms, .inr (4, [.int 0, .ref e0, .int 0]))]) hP hD [4, 5] [0, 1, 2, 3, 6, 7, 8] rfl rfl (by decide) (by decide) hk1 hFc hP1 hD1
  generalize H1 = H at hP hS ⊢
  have hP : va_P D vwCl [(x, .inr (11, [.ref cs, .ref th, .ref nw, .ref mi, .int 9999, .int 0, .int 0])), (cs, .inr (4, [.int 0, .ref e0, .int 0])), (th, .inr (4, [.int 0, .ref e0, .int 0])), (nw, .inr (10, [.int 10, .int 0, .int 0])), (sk, .inr (15, [.int 10, .int 0, .int 0, .int 9999, .int 0])), (o, .inl (cA, 1, .inr (.inl (fun _ => 0)))), (od, .inl (cB, 1, .inr (.inr (.inr (.inl (fun _ => 0)))))), (m2, .inr (16, [.int 1, .ref ms, .ref sk, .int 0])), (ms, .inr (4, [.int 0, .ref e0, .int 0]))] H := hP
  have hD : va_D (fun q : Nat => s.heap.size ≤ q) [(x, .inr (11, [.ref cs, .ref th, .ref nw, .ref mi, .int 9999, .int 0, .int 0])), (cs, .inr (4, [.int 0, .ref e0, .int 0])), (th, .inr (4, [.int 0, .ref e0, .int 0])), (nw, .inr (10, [.int 10, .int 0, .int 0])), (sk, .inr (15, [.int 10, .int 0, .int 0, .int 9999, .int 0])), (o, .inl (cA, 1, .inr (.inl (fun _ => 0)))), (od, .inl (cB, 1, .inr (.inr (.inr (.inl (fun _ => 0)))))), (m2, .inr (16, [.int 1, .ref ms, .ref sk, .int 0])), (ms, .inr (4, [.int 0, .ref e0, .int 0]))] := hD
  refine lv_lstore (lv' := [(7, .long r_2), (6, .int 1), (5, .int 0), (4, .ref od), (3, .ref o), (2, .ref m2), (1, .ref x), (0, .ref b)]) hx hb dL_law__1782 hl (by decide) rfl (fun ls hl => ?_)
  refine lv_aload_n hx hb dL_law__1784 rfl (lv_at hl 5 rfl) ?_
  have hPc := hP.sub (ws' := [(m2, .inr (16, [.int 1, .ref ms, .ref sk, .int 0]))]) [7] rfl
  have hDc := hD.sub (ws' := [(m2, .inr (16, [.int 1, .ref ms, .ref sk, .int 0]))]) [7] (by decide) rfl
  have hKc := hK.sub (tys' := []) [] rfl
  refine va_calli (va_runV (As := []) (rest := []) ⟨hx, hb, hml, hown, hts⟩ (k_LM_thrown l D m2 1 ms (.ref sk) (.int 0) 0 .null H.size) (cwV 0 hts (gV q1174 q1175 q1176 q6 (gA q1177)) rfl rfl rfl (by decide +kernel) ⟨Nat.le_of_ble_eq_true rfl, Nat.le_of_ble_eq_true rfl⟩) ⟨EV.fb, va_recv hKc hPc (ci := 16) (q0 := 0) rfl rfl, fun U hU hW => ⟨rfl, EV.at hPc hKc hDc hG (hZ.no hS) U hU hW⟩⟩ rfl rfl hl.1 rfl (lv_room (Nat.le_of_ble_eq_true rfl)) dL_law__1785 ⟨Nat.le_of_ble_eq_true rfl, Nat.le_of_ble_eq_true rfl⟩) hS (fun q _ h => h.elim) (fun q h => h.elim) (fun r_3 u t H1 locs ht hvm hw hB hz1 hk1 hS => ?_)
  have hP := P_kept hP hk1
  generalize H1 = H at hP hS ⊢
  have hP : va_P D vwCl [(x, .inr (11, [.ref cs, .ref th, .ref nw, .ref mi, .int 9999, .int 0, .int 0])), (cs, .inr (4, [.int 0, .ref e0, .int 0])), (th, .inr (4, [.int 0, .ref e0, .int 0])), (nw, .inr (10, [.int 10, .int 0, .int 0])), (sk, .inr (15, [.int 10, .int 0, .int 0, .int 9999, .int 0])), (o, .inl (cA, 1, .inr (.inl (fun _ => 0)))), (od, .inl (cB, 1, .inr (.inr (.inr (.inl (fun _ => 0)))))), (m2, .inr (16, [.int 1, .ref ms, .ref sk, .int 0])), (ms, .inr (4, [.int 0, .ref e0, .int 0]))] H := hP
  subst hw
  refine lv_iload hx hb dL_law__1788 (lv_at hl 1 rfl) ?_
  refine lv_icmp_eq (tgt := 1795) hx hb dL_law__1790 (by decide) (fun c_4 => ?_) (fun c_4 => ?_)
  · refine lv_iload hx hb dL_law__1795 (lv_at hl 1 rfl) ?_
    refine lv_if_ne (tgt := 1811) hx hb dL_law__1797 (by decide) (fun c_5 => ?_) (fun c_5 => ?_)
    · refine lv_goto (tgt := 2850) hx hb dL_law__1811 (by decide) ?_
      exact law_end (D := D) hst hx hb hr hml hown hts hX hbl hlocks hS (Nat.le_of_ble_eq_true rfl) (Nat.le_of_ble_eq_true rfl) (lv_sub hl [7, 2] rfl)
    · exact absurd c_5 (by decide)
  · exact absurd (by decide) c_4
set_option maxHeartbeats 8000000 in
set_option maxRecDepth 100000 in
/-- case 23: vapour -/
theorem law_23 {p : Program} {l : Launch} {e : Env} {s : State} {m : MethodId} {below : List Frame} {meth : Method} {c : Code} {D : va_G} {b : Nat} {xs : Nat → Int32} (hst : l.stackTraces = false) (hx : p.tables.exec = Jvm.exec) (hb : c.code = code) (hr : meth.sig.returnType = ret) (hml : c.maxLocals = 9) (hown : s.vm.findClass RL = some m.cls) (hts : ∀ w ∈ lw_all, w.before #[Value.ref b] s = true) (hX : va_X b 5 xs s s.heap) (hbl : b < s.heap.size) (hlocks : meth.locks = false) (hG : GE s) (hZ : ZZ (fun q : Nat => s.heap.size ≤ q) s s.heap) {e0 : Nat} (hZd : ZD e0 (fun q : Nat => s.heap.size ≤ q) s s.heap) (hZt : ZT e0 (fun q : Nat => s.heap.size ≤ q) s s.heap) (hAO : va_AO "java/lang/Object" s) {fq fv : Nat} (hSF : SF fq fv (fun q : Nat => s.heap.size ≤ q) s s.heap) (hvk : vk_R RX12 58 "fsn" fq s) {x cs th nw mi m2 ms sk o od : Nat} {cA cB : ClassId} {H : Heap} {locs : List Loc} (hK : va_K D vwCl [(cA, .long), (cB, .double)] s) (hP : va_P D vwCl [(x, .inr (11, [.ref cs, .ref th, .ref nw, .ref mi, .int 9999, .int 0, .int 0])), (cs, .inr (4, [.int 0, .ref e0, .int 0])), (th, .inr (4, [.int 0, .ref e0, .int 0])), (nw, .inr (10, [.int 10, .int 0, .int 0])), (m2, .inr (16, [.int 0, .ref ms, .ref sk, .int 0])), (ms, .inr (4, [.int 0, .ref e0, .int 0])), (sk, .inr (15, [.int 10, .int 0, .int 0, .int 9999, .int 0])), (o, .inl (cA, 1, .inr (.inl (fun _ => 0)))), (od, .inl (cB, 1, .inr (.inr (.inr (.inl (fun _ => 0))))))] H) (hD : va_D (fun q : Nat => s.heap.size ≤ q) [(x, .inr (11, [.ref cs, .ref th, .ref nw, .ref mi, .int 9999, .int 0, .int 0])), (cs, .inr (4, [.int 0, .ref e0, .int 0])), (th, .inr (4, [.int 0, .ref e0, .int 0])), (nw, .inr (10, [.int 10, .int 0, .int 0])), (m2, .inr (16, [.int 0, .ref ms, .ref sk, .int 0])), (ms, .inr (4, [.int 0, .ref e0, .int 0])), (sk, .inr (15, [.int 10, .int 0, .int 0, .int 9999, .int 0])), (o, .inl (cA, 1, .inr (.inl (fun _ => 0)))), (od, .inl (cB, 1, .inr (.inr (.inr (.inl (fun _ => 0))))))]) (hS : va_S (fun q : Nat => s.heap.size ≤ q) s.heap H locs) {ls : Array Slot} (hl : lv_has ls 9 [(5, .int 0), (4, .ref od), (3, .ref o), (2, .ref m2), (1, .ref x), (0, .ref b)]) : W p l e room_1 s m #[Value.ref b] below meth c H locs 10 70 (lw_Z below #[Value.ref b] s) (F0 m 1814 ls []) := by
  have hA : ∀ q : Nat, s.heap.size ≤ q → (fun q : Nat => s.heap.size ≤ q) q := fun _ h => h
  have hbA : ¬ (fun q : Nat => s.heap.size ≤ q) b := Nat.not_le.mpr hbl
  refine lv_aload_n hx hb dL_law__1814 rfl (lv_at hl 4 rfl) ?_
  refine lv_aload_n hx hb dL_law__1815 rfl (lv_at hl 5 rfl) ?_
  refine lv_iload hx hb dL_law__1816 (lv_at hl 0 rfl) ?_
  refine lv_iconst (v := 1) hx hb dL_law__1818 (by decide) ?_
  refine lv_iadd hx hb dL_law__1819 ?_
  refine va_sld hx hb hX hbl hbA hS (by unfold vp_in; decide) dL_law__1820 ?_
  refine lv_aload_n hx hb dL_law__1821 rfl (lv_at hl 2 rfl) ?_
  have hPc := hP.sub (ws' := [(x, .inr (11, [.ref cs, .ref th, .ref nw, .ref mi, .int 9999, .int 0, .int 0])), (cs, .inr (4, [.int 0, .ref e0, .int 0]))]) [0, 1] rfl
  have hDc := hD.sub (ws' := [(x, .inr (11, [.ref cs, .ref th, .ref nw, .ref mi, .int 9999, .int 0, .int 0])), (cs, .inr (4, [.int 0, .ref e0, .int 0]))]) [0, 1] (by decide) rfl
  have hKc := hK.sub (tys' := []) [] rfl
  refine va_calli (vx_runSW (As := [.ref x, .int (xs (Int32.toNatClampNeg (0 + 1))), .ref o]) (rest := []) ⟨hx, hb, hml, hown, hts⟩ (k_LL_vapour l hst D x cs (.ref th) (.ref nw) (.ref mi) (.int 9999) (.int 0) (.int 0) 0 (.ref e0) (xs (Int32.toNatClampNeg (0 + 1))) o H.size) (vx_cwSW 3 hts (gS q962 q963 q0 (gH q964)) rfl rfl rfl (by decide +kernel) ⟨Nat.le_of_ble_eq_true rfl, Nat.le_of_ble_eq_true rfl⟩) ⟨EV.fb, fun U hU hW => ⟨rfl, EV.at hPc hKc hDc hG (hZ.no hS) U hU hW⟩⟩ rfl rfl hl.1 rfl (lv_room (Nat.le_of_ble_eq_true rfl)) dL_law__1822 ⟨Nat.le_of_ble_eq_true rfl, Nat.le_of_ble_eq_true rfl⟩) hS (fun q _ h => h.elim) (fun q h => h.elim) (fun r_1 u t H1 locs ht hvm hw hB hz1 hk1 hS => ?_)
  have hP := P_kept hP hk1
  generalize H1 = H at hP hS ⊢
  have hP : va_P D vwCl [(x, .inr (11, [.ref cs, .ref th, .ref nw, .ref mi, .int 9999, .int 0, .int 0])), (cs, .inr (4, [.int 0, .ref e0, .int 0])), (th, .inr (4, [.int 0, .ref e0, .int 0])), (nw, .inr (10, [.int 10, .int 0, .int 0])), (m2, .inr (16, [.int 0, .ref ms, .ref sk, .int 0])), (ms, .inr (4, [.int 0, .ref e0, .int 0])), (sk, .inr (15, [.int 10, .int 0, .int 0, .int 9999, .int 0])), (o, .inl (cA, 1, .inr (.inl (fun _ => 0)))), (od, .inl (cB, 1, .inr (.inr (.inr (.inl (fun _ => 0))))))] H := hP
  subst hw
  refine lv_istore (lv' := [(6, .int 1), (5, .int 0), (4, .ref od), (3, .ref o), (2, .ref m2), (1, .ref x), (0, .ref b)]) hx hb dL_law__1825 hl (by decide) rfl (fun ls hl => ?_)
  refine lv_aload_n hx hb dL_law__1827 rfl (lv_at hl 4 rfl) ?_
  refine lv_aload_n hx hb dL_law__1828 rfl (lv_at hl 6 rfl) ?_
  refine lv_iload hx hb dL_law__1829 (lv_at hl 1 rfl) ?_
  refine lv_iconst (v := 1) hx hb dL_law__1831 (by decide) ?_
  refine lv_iadd hx hb dL_law__1832 ?_
  refine va_sld hx hb hX hbl hbA hS (by unfold vp_in; decide) dL_law__1833 ?_
  have hPc := hP.sub (ws' := [(m2, .inr (16, [.int 0, .ref ms, .ref sk, .int 0])), (ms, .inr (4, [.int 0, .ref e0, .int 0]))]) [4, 5] rfl
  have hDc := hD.sub (ws' := [(m2, .inr (16, [.int 0, .ref ms, .ref sk, .int 0])), (ms, .inr (4, [.int 0, .ref e0, .int 0]))]) [4, 5] (by decide) rfl
  have hKc := hK.sub (tys' := []) [] rfl
  have hFc := va_free (wc := [(m2, .inr (16, [.int 0, .ref ms, .ref sk, .int 0])), (ms, .inr (4, [.int 0, .ref e0, .int 0]))]) hD hS hA [4, 5] rfl
  refine va_calll (va_runV (As := [.int (xs (Int32.toNatClampNeg (0 + 1)))]) (rest := []) ⟨hx, hb, hml, hown, hts⟩ (k_LM_vapour l D m2 0 ms (.ref sk) (.int 0) 0 (.ref e0) (xs (Int32.toNatClampNeg (0 + 1))) H.size) (cwV 1 hts (gV q1670 q1671 q1672 q6 (gA q1673)) rfl rfl rfl (by decide +kernel) ⟨Nat.le_of_ble_eq_true rfl, Nat.le_of_ble_eq_true rfl⟩) ⟨EV.fb, va_recv hKc hPc (ci := 16) (q0 := 0) rfl rfl, fun U hU hW => ⟨rfl, EV.at hPc hKc hDc hG (hZ.no hS) U hU hW⟩⟩ rfl rfl hl.1 rfl (lv_room (Nat.le_of_ble_eq_true rfl)) dL_law__1834 ⟨Nat.le_of_ble_eq_true rfl, Nat.le_of_ble_eq_true rfl⟩) hS (fun q _ h => hFc q h) hFc (fun r_2 u t H1 locs ht hvm hw hB hz1 hk1 hS => ?_)
  obtain ⟨hP1, hD1⟩ := hB
  rw [ht] at hP1
  obtain ⟨hP, hD⟩ := va_join (wr := [(x, .inr (11, [.ref cs, .ref th, .ref nw, .ref mi, .int 9999, .int 0, .int 0])), (cs, .inr (4, [.int 0, .ref e0, .int 0])), (th, .inr (4, [.int 0, .ref e0, .int 0])), (nw, .inr (10, [.int 10, .int 0, .int 0])), (sk, .inr (15, [.int 10, .int 0, .int 0, .int 9999, .int 0])), (o, .inl (cA, 1, .inr (.inl (fun _ => 0)))), (od, .inl (cB, 1, .inr (.inr (.inr (.inl (fun _ => 0))))))]) (w1 := [(m2, .inr (16, [.int 1, .ref ms, .ref sk, .int 0])), (ms, .inr (4, [.int 0, .ref e0, .int 0]))]) hP hD [4, 5] [0, 1, 2, 3, 6, 7, 8] rfl rfl (by decide) (by decide) hk1 hFc hP1 hD1
  generalize H1 = H at hP hS ⊢
  have hP : va_P D vwCl [(x, .inr (11, [.ref cs, .ref th, .ref nw, .ref mi, .int 9999, .int 0, .int 0])), (cs, .inr (4, [.int 0, .ref e0, .int 0])), (th, .inr (4, [.int 0, .ref e0, .int 0])), (nw, .inr (10, [.int 10, .int 0, .int 0])), (sk, .inr (15, [.int 10, .int 0, .int 0, .int 9999, .int 0])), (o, .inl (cA, 1, .inr (.inl (fun _ => 0)))), (od, .inl (cB, 1, .inr (.inr (.inr (.inl (fun _ => 0)))))), (m2, .inr (16, [.int 1, .ref ms, .ref sk, .int 0])), (ms, .inr (4, [.int 0, .ref e0, .int 0]))] H := hP
  have hD : va_D (fun q : Nat => s.heap.size ≤ q) [(x, .inr (11, [.ref cs, .ref th, .ref nw, .ref mi, .int 9999, .int 0, .int 0])), (cs, .inr (4, [.int 0, .ref e0, .int 0])), (th, .inr (4, [.int 0, .ref e0, .int 0])), (nw, .inr (10, [.int 10, .int 0, .int 0])), (sk, .inr (15, [.int 10, .int 0, .int 0, .int 9999, .int 0])), (o, .inl (cA, 1, .inr (.inl (fun _ => 0)))), (od, .inl (cB, 1, .inr (.inr (.inr (.inl (fun _ => 0)))))), (m2, .inr (16, [.int 1, .ref ms, .ref sk, .int 0])), (ms, .inr (4, [.int 0, .ref e0, .int 0]))] := hD
  refine lv_lstore (lv' := [(7, .long r_2), (6, .int 1), (5, .int 0), (4, .ref od), (3, .ref o), (2, .ref m2), (1, .ref x), (0, .ref b)]) hx hb dL_law__1837 hl (by decide) rfl (fun ls hl => ?_)
  refine lv_aload_n hx hb dL_law__1839 rfl (lv_at hl 5 rfl) ?_
  have hPc := hP.sub (ws' := [(m2, .inr (16, [.int 1, .ref ms, .ref sk, .int 0]))]) [7] rfl
  have hDc := hD.sub (ws' := [(m2, .inr (16, [.int 1, .ref ms, .ref sk, .int 0]))]) [7] (by decide) rfl
  have hKc := hK.sub (tys' := []) [] rfl
  refine va_calli (va_runV (As := []) (rest := []) ⟨hx, hb, hml, hown, hts⟩ (k_LM_thrown l D m2 1 ms (.ref sk) (.int 0) 0 .null H.size) (cwV 0 hts (gV q1174 q1175 q1176 q6 (gA q1177)) rfl rfl rfl (by decide +kernel) ⟨Nat.le_of_ble_eq_true rfl, Nat.le_of_ble_eq_true rfl⟩) ⟨EV.fb, va_recv hKc hPc (ci := 16) (q0 := 0) rfl rfl, fun U hU hW => ⟨rfl, EV.at hPc hKc hDc hG (hZ.no hS) U hU hW⟩⟩ rfl rfl hl.1 rfl (lv_room (Nat.le_of_ble_eq_true rfl)) dL_law__1840 ⟨Nat.le_of_ble_eq_true rfl, Nat.le_of_ble_eq_true rfl⟩) hS (fun q _ h => h.elim) (fun q h => h.elim) (fun r_3 u t H1 locs ht hvm hw hB hz1 hk1 hS => ?_)
  have hP := P_kept hP hk1
  generalize H1 = H at hP hS ⊢
  have hP : va_P D vwCl [(x, .inr (11, [.ref cs, .ref th, .ref nw, .ref mi, .int 9999, .int 0, .int 0])), (cs, .inr (4, [.int 0, .ref e0, .int 0])), (th, .inr (4, [.int 0, .ref e0, .int 0])), (nw, .inr (10, [.int 10, .int 0, .int 0])), (sk, .inr (15, [.int 10, .int 0, .int 0, .int 9999, .int 0])), (o, .inl (cA, 1, .inr (.inl (fun _ => 0)))), (od, .inl (cB, 1, .inr (.inr (.inr (.inl (fun _ => 0)))))), (m2, .inr (16, [.int 1, .ref ms, .ref sk, .int 0])), (ms, .inr (4, [.int 0, .ref e0, .int 0]))] H := hP
  subst hw
  refine lv_iload hx hb dL_law__1843 (lv_at hl 1 rfl) ?_
  refine lv_icmp_eq (tgt := 1850) hx hb dL_law__1845 (by decide) (fun c_4 => ?_) (fun c_4 => ?_)
  · refine lv_iload hx hb dL_law__1850 (lv_at hl 1 rfl) ?_
    refine lv_if_ne (tgt := 1866) hx hb dL_law__1852 (by decide) (fun c_5 => ?_) (fun c_5 => ?_)
    · refine lv_goto (tgt := 2850) hx hb dL_law__1866 (by decide) ?_
      exact law_end (D := D) hst hx hb hr hml hown hts hX hbl hlocks hS (Nat.le_of_ble_eq_true rfl) (Nat.le_of_ble_eq_true rfl) (lv_sub hl [7, 2] rfl)
    · exact absurd c_5 (by decide)
  · exact absurd (by decide) c_4
set_option maxHeartbeats 8000000 in
set_option maxRecDepth 100000 in
/-- case 24: isFrozen -/
theorem law_24 {p : Program} {l : Launch} {e : Env} {s : State} {m : MethodId} {below : List Frame} {meth : Method} {c : Code} {D : va_G} {b : Nat} {xs : Nat → Int32} (hst : l.stackTraces = false) (hx : p.tables.exec = Jvm.exec) (hb : c.code = code) (hr : meth.sig.returnType = ret) (hml : c.maxLocals = 9) (hown : s.vm.findClass RL = some m.cls) (hts : ∀ w ∈ lw_all, w.before #[Value.ref b] s = true) (hX : va_X b 5 xs s s.heap) (hbl : b < s.heap.size) (hlocks : meth.locks = false) (hG : GE s) (hZ : ZZ (fun q : Nat => s.heap.size ≤ q) s s.heap) {e0 : Nat} (hZd : ZD e0 (fun q : Nat => s.heap.size ≤ q) s s.heap) (hZt : ZT e0 (fun q : Nat => s.heap.size ≤ q) s s.heap) (hAO : va_AO "java/lang/Object" s) {fq fv : Nat} (hSF : SF fq fv (fun q : Nat => s.heap.size ≤ q) s s.heap) (hvk : vk_R RX12 58 "fsn" fq s) {x cs th nw mi m2 ms sk o od : Nat} {cA cB : ClassId} {H : Heap} {locs : List Loc} (hK : va_K D vwCl [(cA, .long), (cB, .double)] s) (hP : va_P D vwCl [(x, .inr (11, [.ref cs, .ref th, .ref nw, .ref mi, .int 9999, .int 0, .int 0])), (cs, .inr (4, [.int 0, .ref e0, .int 0])), (th, .inr (4, [.int 0, .ref e0, .int 0])), (nw, .inr (10, [.int 10, .int 0, .int 0])), (m2, .inr (16, [.int 0, .ref ms, .ref sk, .int 0])), (ms, .inr (4, [.int 0, .ref e0, .int 0])), (sk, .inr (15, [.int 10, .int 0, .int 0, .int 9999, .int 0])), (o, .inl (cA, 1, .inr (.inl (fun _ => 0)))), (od, .inl (cB, 1, .inr (.inr (.inr (.inl (fun _ => 0))))))] H) (hD : va_D (fun q : Nat => s.heap.size ≤ q) [(x, .inr (11, [.ref cs, .ref th, .ref nw, .ref mi, .int 9999, .int 0, .int 0])), (cs, .inr (4, [.int 0, .ref e0, .int 0])), (th, .inr (4, [.int 0, .ref e0, .int 0])), (nw, .inr (10, [.int 10, .int 0, .int 0])), (m2, .inr (16, [.int 0, .ref ms, .ref sk, .int 0])), (ms, .inr (4, [.int 0, .ref e0, .int 0])), (sk, .inr (15, [.int 10, .int 0, .int 0, .int 9999, .int 0])), (o, .inl (cA, 1, .inr (.inl (fun _ => 0)))), (od, .inl (cB, 1, .inr (.inr (.inr (.inl (fun _ => 0))))))]) (hS : va_S (fun q : Nat => s.heap.size ≤ q) s.heap H locs) {ls : Array Slot} (hl : lv_has ls 9 [(5, .int 0), (4, .ref od), (3, .ref o), (2, .ref m2), (1, .ref x), (0, .ref b)]) : W p l e room_1 s m #[Value.ref b] below meth c H locs 10 70 (lw_Z below #[Value.ref b] s) (F0 m 1869 ls []) := by
  have hA : ∀ q : Nat, s.heap.size ≤ q → (fun q : Nat => s.heap.size ≤ q) q := fun _ h => h
  have hbA : ¬ (fun q : Nat => s.heap.size ≤ q) b := Nat.not_le.mpr hbl
  refine lv_aload_n hx hb dL_law__1869 rfl (lv_at hl 4 rfl) ?_
  refine lv_aload_n hx hb dL_law__1870 rfl (lv_at hl 5 rfl) ?_
  refine lv_iload hx hb dL_law__1871 (lv_at hl 0 rfl) ?_
  refine lv_iconst (v := 1) hx hb dL_law__1873 (by decide) ?_
  refine lv_iadd hx hb dL_law__1874 ?_
  refine va_sld hx hb hX hbl hbA hS (by unfold vp_in; decide) dL_law__1875 ?_
  refine lv_aload_n hx hb dL_law__1876 rfl (lv_at hl 5 rfl) ?_
  refine lv_iload hx hb dL_law__1877 (lv_at hl 0 rfl) ?_
  refine lv_iconst (v := 2) hx hb dL_law__1879 (by decide) ?_
  refine lv_iadd hx hb dL_law__1880 ?_
  refine va_sld hx hb hX hbl hbA hS (by unfold vp_in; decide) dL_law__1881 ?_
  refine lv_aload_n hx hb dL_law__1882 rfl (lv_at hl 2 rfl) ?_
  have hPc := hP.sub (ws' := [(x, .inr (11, [.ref cs, .ref th, .ref nw, .ref mi, .int 9999, .int 0, .int 0])), (cs, .inr (4, [.int 0, .ref e0, .int 0]))]) [0, 1] rfl
  have hDc := hD.sub (ws' := [(x, .inr (11, [.ref cs, .ref th, .ref nw, .ref mi, .int 9999, .int 0, .int 0])), (cs, .inr (4, [.int 0, .ref e0, .int 0]))]) [0, 1] (by decide) rfl
  have hKc := hK.sub (tys' := []) [] rfl
  refine va_calli (vx_runSW (As := [.ref x, .int (xs (Int32.toNatClampNeg (0 + 1))), .int (xs (Int32.toNatClampNeg (0 + 2))), .ref o]) (rest := []) ⟨hx, hb, hml, hown, hts⟩ (k_LL_isFrozen l hst D x cs (.ref th) (.ref nw) (.ref mi) (.int 9999) (.int 0) (.int 0) 0 (.ref e0) (xs (Int32.toNatClampNeg (0 + 1))) (xs (Int32.toNatClampNeg (0 + 2))) o H.size) (vx_cwSW 4 hts (gS q969 q970 q0 (gH q971)) rfl rfl rfl (by decide +kernel) ⟨Nat.le_of_ble_eq_true rfl, Nat.le_of_ble_eq_true rfl⟩) ⟨EV.fb, fun U hU hW => ⟨rfl, EV.at hPc hKc hDc hG (hZ.no hS) U hU hW⟩⟩ rfl rfl hl.1 rfl (lv_room (Nat.le_of_ble_eq_true rfl)) dL_law__1883 ⟨Nat.le_of_ble_eq_true rfl, Nat.le_of_ble_eq_true rfl⟩) hS (fun q _ h => h.elim) (fun q h => h.elim) (fun r_1 u t H1 locs ht hvm hw hB hz1 hk1 hS => ?_)
  have hP := P_kept hP hk1
  generalize H1 = H at hP hS ⊢
  have hP : va_P D vwCl [(x, .inr (11, [.ref cs, .ref th, .ref nw, .ref mi, .int 9999, .int 0, .int 0])), (cs, .inr (4, [.int 0, .ref e0, .int 0])), (th, .inr (4, [.int 0, .ref e0, .int 0])), (nw, .inr (10, [.int 10, .int 0, .int 0])), (m2, .inr (16, [.int 0, .ref ms, .ref sk, .int 0])), (ms, .inr (4, [.int 0, .ref e0, .int 0])), (sk, .inr (15, [.int 10, .int 0, .int 0, .int 9999, .int 0])), (o, .inl (cA, 1, .inr (.inl (fun _ => 0)))), (od, .inl (cB, 1, .inr (.inr (.inr (.inl (fun _ => 0))))))] H := hP
  subst hw
  refine lv_istore (lv' := [(6, .int 1), (5, .int 0), (4, .ref od), (3, .ref o), (2, .ref m2), (1, .ref x), (0, .ref b)]) hx hb dL_law__1886 hl (by decide) rfl (fun ls hl => ?_)
  refine lv_aload_n hx hb dL_law__1888 rfl (lv_at hl 4 rfl) ?_
  refine lv_aload_n hx hb dL_law__1889 rfl (lv_at hl 6 rfl) ?_
  refine lv_iload hx hb dL_law__1890 (lv_at hl 1 rfl) ?_
  refine lv_iconst (v := 1) hx hb dL_law__1892 (by decide) ?_
  refine lv_iadd hx hb dL_law__1893 ?_
  refine va_sld hx hb hX hbl hbA hS (by unfold vp_in; decide) dL_law__1894 ?_
  refine lv_aload_n hx hb dL_law__1895 rfl (lv_at hl 6 rfl) ?_
  refine lv_iload hx hb dL_law__1896 (lv_at hl 1 rfl) ?_
  refine lv_iconst (v := 2) hx hb dL_law__1898 (by decide) ?_
  refine lv_iadd hx hb dL_law__1899 ?_
  refine va_sld hx hb hX hbl hbA hS (by unfold vp_in; decide) dL_law__1900 ?_
  have hPc := hP.sub (ws' := [(m2, .inr (16, [.int 0, .ref ms, .ref sk, .int 0])), (ms, .inr (4, [.int 0, .ref e0, .int 0]))]) [4, 5] rfl
  have hDc := hD.sub (ws' := [(m2, .inr (16, [.int 0, .ref ms, .ref sk, .int 0])), (ms, .inr (4, [.int 0, .ref e0, .int 0]))]) [4, 5] (by decide) rfl
  have hKc := hK.sub (tys' := []) [] rfl
  have hFc := va_free (wc := [(m2, .inr (16, [.int 0, .ref ms, .ref sk, .int 0])), (ms, .inr (4, [.int 0, .ref e0, .int 0]))]) hD hS hA [4, 5] rfl
  refine va_calli (va_runV (As := [.int (xs (Int32.toNatClampNeg (0 + 1))), .int (xs (Int32.toNatClampNeg (0 + 2)))]) (rest := []) ⟨hx, hb, hml, hown, hts⟩ (k_LM_isFrozen l D m2 0 ms (.ref sk) (.int 0) 0 (.ref e0) (xs (Int32.toNatClampNeg (0 + 1))) (xs (Int32.toNatClampNeg (0 + 2))) H.size) (cwV 2 hts (gV q1674 q1675 q1676 q6 (gA q1677)) rfl rfl rfl (by decide +kernel) ⟨Nat.le_of_ble_eq_true rfl, Nat.le_of_ble_eq_true rfl⟩) ⟨EV.fb, va_recv hKc hPc (ci := 16) (q0 := 0) rfl rfl, fun U hU hW => ⟨rfl, EV.at hPc hKc hDc hG (hZ.no hS) U hU hW⟩⟩ rfl rfl hl.1 rfl (lv_room (Nat.le_of_ble_eq_true rfl)) dL_law__1901 ⟨Nat.le_of_ble_eq_true rfl, Nat.le_of_ble_eq_true rfl⟩) hS (fun q _ h => hFc q h) hFc (fun r_2 u t H1 locs ht hvm hw hB hz1 hk1 hS => ?_)
  obtain ⟨hP1, hD1⟩ := hB
  rw [ht] at hP1
  obtain ⟨hP, hD⟩ := va_join (wr := [(x, .inr (11, [.ref cs, .ref th, .ref nw, .ref mi, .int 9999, .int 0, .int 0])), (cs, .inr (4, [.int 0, .ref e0, .int 0])), (th, .inr (4, [.int 0, .ref e0, .int 0])), (nw, .inr (10, [.int 10, .int 0, .int 0])), (sk, .inr (15, [.int 10, .int 0, .int 0, .int 9999, .int 0])), (o, .inl (cA, 1, .inr (.inl (fun _ => 0)))), (od, .inl (cB, 1, .inr (.inr (.inr (.inl (fun _ => 0))))))]) (w1 := [(m2, .inr (16, [.int 1, .ref ms, .ref sk, .int 0])), (ms, .inr (4, [.int 0, .ref e0, .int 0]))]) hP hD [4, 5] [0, 1, 2, 3, 6, 7, 8] rfl rfl (by decide) (by decide) hk1 hFc hP1 hD1
  generalize H1 = H at hP hS ⊢
  have hP : va_P D vwCl [(x, .inr (11, [.ref cs, .ref th, .ref nw, .ref mi, .int 9999, .int 0, .int 0])), (cs, .inr (4, [.int 0, .ref e0, .int 0])), (th, .inr (4, [.int 0, .ref e0, .int 0])), (nw, .inr (10, [.int 10, .int 0, .int 0])), (sk, .inr (15, [.int 10, .int 0, .int 0, .int 9999, .int 0])), (o, .inl (cA, 1, .inr (.inl (fun _ => 0)))), (od, .inl (cB, 1, .inr (.inr (.inr (.inl (fun _ => 0)))))), (m2, .inr (16, [.int 1, .ref ms, .ref sk, .int 0])), (ms, .inr (4, [.int 0, .ref e0, .int 0]))] H := hP
  have hD : va_D (fun q : Nat => s.heap.size ≤ q) [(x, .inr (11, [.ref cs, .ref th, .ref nw, .ref mi, .int 9999, .int 0, .int 0])), (cs, .inr (4, [.int 0, .ref e0, .int 0])), (th, .inr (4, [.int 0, .ref e0, .int 0])), (nw, .inr (10, [.int 10, .int 0, .int 0])), (sk, .inr (15, [.int 10, .int 0, .int 0, .int 9999, .int 0])), (o, .inl (cA, 1, .inr (.inl (fun _ => 0)))), (od, .inl (cB, 1, .inr (.inr (.inr (.inl (fun _ => 0)))))), (m2, .inr (16, [.int 1, .ref ms, .ref sk, .int 0])), (ms, .inr (4, [.int 0, .ref e0, .int 0]))] := hD
  refine lv_istore (lv' := [(7, .int r_2), (6, .int 1), (5, .int 0), (4, .ref od), (3, .ref o), (2, .ref m2), (1, .ref x), (0, .ref b)]) hx hb dL_law__1904 hl (by decide) rfl (fun ls hl => ?_)
  refine lv_aload_n hx hb dL_law__1906 rfl (lv_at hl 5 rfl) ?_
  have hPc := hP.sub (ws' := [(m2, .inr (16, [.int 1, .ref ms, .ref sk, .int 0]))]) [7] rfl
  have hDc := hD.sub (ws' := [(m2, .inr (16, [.int 1, .ref ms, .ref sk, .int 0]))]) [7] (by decide) rfl
  have hKc := hK.sub (tys' := []) [] rfl
  refine va_calli (va_runV (As := []) (rest := []) ⟨hx, hb, hml, hown, hts⟩ (k_LM_thrown l D m2 1 ms (.ref sk) (.int 0) 0 .null H.size) (cwV 0 hts (gV q1174 q1175 q1176 q6 (gA q1177)) rfl rfl rfl (by decide +kernel) ⟨Nat.le_of_ble_eq_true rfl, Nat.le_of_ble_eq_true rfl⟩) ⟨EV.fb, va_recv hKc hPc (ci := 16) (q0 := 0) rfl rfl, fun U hU hW => ⟨rfl, EV.at hPc hKc hDc hG (hZ.no hS) U hU hW⟩⟩ rfl rfl hl.1 rfl (lv_room (Nat.le_of_ble_eq_true rfl)) dL_law__1907 ⟨Nat.le_of_ble_eq_true rfl, Nat.le_of_ble_eq_true rfl⟩) hS (fun q _ h => h.elim) (fun q h => h.elim) (fun r_3 u t H1 locs ht hvm hw hB hz1 hk1 hS => ?_)
  have hP := P_kept hP hk1
  generalize H1 = H at hP hS ⊢
  have hP : va_P D vwCl [(x, .inr (11, [.ref cs, .ref th, .ref nw, .ref mi, .int 9999, .int 0, .int 0])), (cs, .inr (4, [.int 0, .ref e0, .int 0])), (th, .inr (4, [.int 0, .ref e0, .int 0])), (nw, .inr (10, [.int 10, .int 0, .int 0])), (sk, .inr (15, [.int 10, .int 0, .int 0, .int 9999, .int 0])), (o, .inl (cA, 1, .inr (.inl (fun _ => 0)))), (od, .inl (cB, 1, .inr (.inr (.inr (.inl (fun _ => 0)))))), (m2, .inr (16, [.int 1, .ref ms, .ref sk, .int 0])), (ms, .inr (4, [.int 0, .ref e0, .int 0]))] H := hP
  subst hw
  refine lv_iload hx hb dL_law__1910 (lv_at hl 1 rfl) ?_
  refine lv_icmp_eq (tgt := 1917) hx hb dL_law__1912 (by decide) (fun c_4 => ?_) (fun c_4 => ?_)
  · refine lv_iload hx hb dL_law__1917 (lv_at hl 1 rfl) ?_
    refine lv_if_ne (tgt := 1941) hx hb dL_law__1919 (by decide) (fun c_5 => ?_) (fun c_5 => ?_)
    · refine lv_goto (tgt := 2850) hx hb dL_law__1941 (by decide) ?_
      exact law_end (D := D) hst hx hb hr hml hown hts hX hbl hlocks hS (Nat.le_of_ble_eq_true rfl) (Nat.le_of_ble_eq_true rfl) (lv_sub hl [7, 2] rfl)
    · exact absurd c_5 (by decide)
  · exact absurd (by decide) c_4
set_option maxHeartbeats 8000000 in
set_option maxRecDepth 100000 in
/-- case 25: frost -/
theorem law_25 {p : Program} {l : Launch} {e : Env} {s : State} {m : MethodId} {below : List Frame} {meth : Method} {c : Code} {D : va_G} {b : Nat} {xs : Nat → Int32} (hst : l.stackTraces = false) (hx : p.tables.exec = Jvm.exec) (hb : c.code = code) (hr : meth.sig.returnType = ret) (hml : c.maxLocals = 9) (hown : s.vm.findClass RL = some m.cls) (hts : ∀ w ∈ lw_all, w.before #[Value.ref b] s = true) (hX : va_X b 5 xs s s.heap) (hbl : b < s.heap.size) (hlocks : meth.locks = false) (hG : GE s) (hZ : ZZ (fun q : Nat => s.heap.size ≤ q) s s.heap) {e0 : Nat} (hZd : ZD e0 (fun q : Nat => s.heap.size ≤ q) s s.heap) (hZt : ZT e0 (fun q : Nat => s.heap.size ≤ q) s s.heap) (hAO : va_AO "java/lang/Object" s) {fq fv : Nat} (hSF : SF fq fv (fun q : Nat => s.heap.size ≤ q) s s.heap) (hvk : vk_R RX12 58 "fsn" fq s) {x cs th nw mi m2 ms sk o od : Nat} {cA cB : ClassId} {H : Heap} {locs : List Loc} (hK : va_K D vwCl [(cA, .long), (cB, .double)] s) (hP : va_P D vwCl [(x, .inr (11, [.ref cs, .ref th, .ref nw, .ref mi, .int 9999, .int 0, .int 0])), (cs, .inr (4, [.int 0, .ref e0, .int 0])), (th, .inr (4, [.int 0, .ref e0, .int 0])), (nw, .inr (10, [.int 10, .int 0, .int 0])), (m2, .inr (16, [.int 0, .ref ms, .ref sk, .int 0])), (ms, .inr (4, [.int 0, .ref e0, .int 0])), (sk, .inr (15, [.int 10, .int 0, .int 0, .int 9999, .int 0])), (o, .inl (cA, 1, .inr (.inl (fun _ => 0)))), (od, .inl (cB, 1, .inr (.inr (.inr (.inl (fun _ => 0))))))] H) (hD : va_D (fun q : Nat => s.heap.size ≤ q) [(x, .inr (11, [.ref cs, .ref th, .ref nw, .ref mi, .int 9999, .int 0, .int 0])), (cs, .inr (4, [.int 0, .ref e0, .int 0])), (th, .inr (4, [.int 0, .ref e0, .int 0])), (nw, .inr (10, [.int 10, .int 0, .int 0])), (m2, .inr (16, [.int 0, .ref ms, .ref sk, .int 0])), (ms, .inr (4, [.int 0, .ref e0, .int 0])), (sk, .inr (15, [.int 10, .int 0, .int 0, .int 9999, .int 0])), (o, .inl (cA, 1, .inr (.inl (fun _ => 0)))), (od, .inl (cB, 1, .inr (.inr (.inr (.inl (fun _ => 0))))))]) (hS : va_S (fun q : Nat => s.heap.size ≤ q) s.heap H locs) {ls : Array Slot} (hl : lv_has ls 9 [(5, .int 0), (4, .ref od), (3, .ref o), (2, .ref m2), (1, .ref x), (0, .ref b)]) : W p l e room_1 s m #[Value.ref b] below meth c H locs 10 70 (lw_Z below #[Value.ref b] s) (F0 m 1944 ls []) := by
  have hA : ∀ q : Nat, s.heap.size ≤ q → (fun q : Nat => s.heap.size ≤ q) q := fun _ h => h
  have hbA : ¬ (fun q : Nat => s.heap.size ≤ q) b := Nat.not_le.mpr hbl
  refine lv_aload_n hx hb dL_law__1944 rfl (lv_at hl 4 rfl) ?_
  refine lv_aload_n hx hb dL_law__1945 rfl (lv_at hl 5 rfl) ?_
  refine lv_iload hx hb dL_law__1946 (lv_at hl 0 rfl) ?_
  refine lv_iconst (v := 1) hx hb dL_law__1948 (by decide) ?_
  refine lv_iadd hx hb dL_law__1949 ?_
  refine va_sld hx hb hX hbl hbA hS (by unfold vp_in; decide) dL_law__1950 ?_
  refine lv_aload_n hx hb dL_law__1951 rfl (lv_at hl 5 rfl) ?_
  refine lv_iload hx hb dL_law__1952 (lv_at hl 0 rfl) ?_
  refine lv_iconst (v := 2) hx hb dL_law__1954 (by decide) ?_
  refine lv_iadd hx hb dL_law__1955 ?_
  refine va_sld hx hb hX hbl hbA hS (by unfold vp_in; decide) dL_law__1956 ?_
  refine lv_aload_n hx hb dL_law__1957 rfl (lv_at hl 2 rfl) ?_
  have hPc := hP.sub (ws' := [(x, .inr (11, [.ref cs, .ref th, .ref nw, .ref mi, .int 9999, .int 0, .int 0])), (cs, .inr (4, [.int 0, .ref e0, .int 0]))]) [0, 1] rfl
  have hDc := hD.sub (ws' := [(x, .inr (11, [.ref cs, .ref th, .ref nw, .ref mi, .int 9999, .int 0, .int 0])), (cs, .inr (4, [.int 0, .ref e0, .int 0]))]) [0, 1] (by decide) rfl
  have hKc := hK.sub (tys' := []) [] rfl
  refine va_calli (vx_runSW (As := [.ref x, .int (xs (Int32.toNatClampNeg (0 + 1))), .int (xs (Int32.toNatClampNeg (0 + 2))), .ref o]) (rest := []) ⟨hx, hb, hml, hown, hts⟩ (k_LL_frost l hst D x cs (.ref th) (.ref nw) (.ref mi) (.int 9999) (.int 0) (.int 0) 0 (.ref e0) (xs (Int32.toNatClampNeg (0 + 1))) (xs (Int32.toNatClampNeg (0 + 2))) o H.size) (vx_cwSW 4 hts (gS q976 q977 q0 (gH q978)) rfl rfl rfl (by decide +kernel) ⟨Nat.le_of_ble_eq_true rfl, Nat.le_of_ble_eq_true rfl⟩) ⟨EV.fb, fun U hU hW => ⟨rfl, EV.at hPc hKc hDc hG (hZ.no hS) U hU hW⟩⟩ rfl rfl hl.1 rfl (lv_room (Nat.le_of_ble_eq_true rfl)) dL_law__1958 ⟨Nat.le_of_ble_eq_true rfl, Nat.le_of_ble_eq_true rfl⟩) hS (fun q _ h => h.elim) (fun q h => h.elim) (fun r_1 u t H1 locs ht hvm hw hB hz1 hk1 hS => ?_)
  have hP := P_kept hP hk1
  generalize H1 = H at hP hS ⊢
  have hP : va_P D vwCl [(x, .inr (11, [.ref cs, .ref th, .ref nw, .ref mi, .int 9999, .int 0, .int 0])), (cs, .inr (4, [.int 0, .ref e0, .int 0])), (th, .inr (4, [.int 0, .ref e0, .int 0])), (nw, .inr (10, [.int 10, .int 0, .int 0])), (m2, .inr (16, [.int 0, .ref ms, .ref sk, .int 0])), (ms, .inr (4, [.int 0, .ref e0, .int 0])), (sk, .inr (15, [.int 10, .int 0, .int 0, .int 9999, .int 0])), (o, .inl (cA, 1, .inr (.inl (fun _ => 0)))), (od, .inl (cB, 1, .inr (.inr (.inr (.inl (fun _ => 0))))))] H := hP
  subst hw
  refine lv_istore (lv' := [(6, .int 1), (5, .int 0), (4, .ref od), (3, .ref o), (2, .ref m2), (1, .ref x), (0, .ref b)]) hx hb dL_law__1961 hl (by decide) rfl (fun ls hl => ?_)
  refine lv_aload_n hx hb dL_law__1963 rfl (lv_at hl 4 rfl) ?_
  refine lv_aload_n hx hb dL_law__1964 rfl (lv_at hl 6 rfl) ?_
  refine lv_iload hx hb dL_law__1965 (lv_at hl 1 rfl) ?_
  refine lv_iconst (v := 1) hx hb dL_law__1967 (by decide) ?_
  refine lv_iadd hx hb dL_law__1968 ?_
  refine va_sld hx hb hX hbl hbA hS (by unfold vp_in; decide) dL_law__1969 ?_
  refine lv_aload_n hx hb dL_law__1970 rfl (lv_at hl 6 rfl) ?_
  refine lv_iload hx hb dL_law__1971 (lv_at hl 1 rfl) ?_
  refine lv_iconst (v := 2) hx hb dL_law__1973 (by decide) ?_
  refine lv_iadd hx hb dL_law__1974 ?_
  refine va_sld hx hb hX hbl hbA hS (by unfold vp_in; decide) dL_law__1975 ?_
  have hPc := hP.sub (ws' := [(m2, .inr (16, [.int 0, .ref ms, .ref sk, .int 0])), (ms, .inr (4, [.int 0, .ref e0, .int 0]))]) [4, 5] rfl
  have hDc := hD.sub (ws' := [(m2, .inr (16, [.int 0, .ref ms, .ref sk, .int 0])), (ms, .inr (4, [.int 0, .ref e0, .int 0]))]) [4, 5] (by decide) rfl
  have hKc := hK.sub (tys' := []) [] rfl
  have hFc := va_free (wc := [(m2, .inr (16, [.int 0, .ref ms, .ref sk, .int 0])), (ms, .inr (4, [.int 0, .ref e0, .int 0]))]) hD hS hA [4, 5] rfl
  refine va_calli (va_runV (As := [.int (xs (Int32.toNatClampNeg (0 + 1))), .int (xs (Int32.toNatClampNeg (0 + 2)))]) (rest := []) ⟨hx, hb, hml, hown, hts⟩ (k_LM_frost l D m2 0 ms (.ref sk) (.int 0) 0 (.ref e0) (xs (Int32.toNatClampNeg (0 + 1))) (xs (Int32.toNatClampNeg (0 + 2))) H.size) (cwV 2 hts (gV q1678 q1679 q1680 q6 (gA q1681)) rfl rfl rfl (by decide +kernel) ⟨Nat.le_of_ble_eq_true rfl, Nat.le_of_ble_eq_true rfl⟩) ⟨EV.fb, va_recv hKc hPc (ci := 16) (q0 := 0) rfl rfl, fun U hU hW => ⟨rfl, EV.at hPc hKc hDc hG (hZ.no hS) U hU hW⟩⟩ rfl rfl hl.1 rfl (lv_room (Nat.le_of_ble_eq_true rfl)) dL_law__1976 ⟨Nat.le_of_ble_eq_true rfl, Nat.le_of_ble_eq_true rfl⟩) hS (fun q _ h => hFc q h) hFc (fun r_2 u t H1 locs ht hvm hw hB hz1 hk1 hS => ?_)
  obtain ⟨hP1, hD1⟩ := hB
  rw [ht] at hP1
  obtain ⟨hP, hD⟩ := va_join (wr := [(x, .inr (11, [.ref cs, .ref th, .ref nw, .ref mi, .int 9999, .int 0, .int 0])), (cs, .inr (4, [.int 0, .ref e0, .int 0])), (th, .inr (4, [.int 0, .ref e0, .int 0])), (nw, .inr (10, [.int 10, .int 0, .int 0])), (sk, .inr (15, [.int 10, .int 0, .int 0, .int 9999, .int 0])), (o, .inl (cA, 1, .inr (.inl (fun _ => 0)))), (od, .inl (cB, 1, .inr (.inr (.inr (.inl (fun _ => 0))))))]) (w1 := [(m2, .inr (16, [.int 1, .ref ms, .ref sk, .int 0])), (ms, .inr (4, [.int 0, .ref e0, .int 0]))]) hP hD [4, 5] [0, 1, 2, 3, 6, 7, 8] rfl rfl (by decide) (by decide) hk1 hFc hP1 hD1
  generalize H1 = H at hP hS ⊢
  have hP : va_P D vwCl [(x, .inr (11, [.ref cs, .ref th, .ref nw, .ref mi, .int 9999, .int 0, .int 0])), (cs, .inr (4, [.int 0, .ref e0, .int 0])), (th, .inr (4, [.int 0, .ref e0, .int 0])), (nw, .inr (10, [.int 10, .int 0, .int 0])), (sk, .inr (15, [.int 10, .int 0, .int 0, .int 9999, .int 0])), (o, .inl (cA, 1, .inr (.inl (fun _ => 0)))), (od, .inl (cB, 1, .inr (.inr (.inr (.inl (fun _ => 0)))))), (m2, .inr (16, [.int 1, .ref ms, .ref sk, .int 0])), (ms, .inr (4, [.int 0, .ref e0, .int 0]))] H := hP
  have hD : va_D (fun q : Nat => s.heap.size ≤ q) [(x, .inr (11, [.ref cs, .ref th, .ref nw, .ref mi, .int 9999, .int 0, .int 0])), (cs, .inr (4, [.int 0, .ref e0, .int 0])), (th, .inr (4, [.int 0, .ref e0, .int 0])), (nw, .inr (10, [.int 10, .int 0, .int 0])), (sk, .inr (15, [.int 10, .int 0, .int 0, .int 9999, .int 0])), (o, .inl (cA, 1, .inr (.inl (fun _ => 0)))), (od, .inl (cB, 1, .inr (.inr (.inr (.inl (fun _ => 0)))))), (m2, .inr (16, [.int 1, .ref ms, .ref sk, .int 0])), (ms, .inr (4, [.int 0, .ref e0, .int 0]))] := hD
  refine lv_istore (lv' := [(7, .int r_2), (6, .int 1), (5, .int 0), (4, .ref od), (3, .ref o), (2, .ref m2), (1, .ref x), (0, .ref b)]) hx hb dL_law__1979 hl (by decide) rfl (fun ls hl => ?_)
  refine lv_aload_n hx hb dL_law__1981 rfl (lv_at hl 5 rfl) ?_
  have hPc := hP.sub (ws' := [(m2, .inr (16, [.int 1, .ref ms, .ref sk, .int 0]))]) [7] rfl
  have hDc := hD.sub (ws' := [(m2, .inr (16, [.int 1, .ref ms, .ref sk, .int 0]))]) [7] (by decide) rfl
  have hKc := hK.sub (tys' := []) [] rfl
  refine va_calli (va_runV (As := []) (rest := []) ⟨hx, hb, hml, hown, hts⟩ (k_LM_thrown l D m2 1 ms (.ref sk) (.int 0) 0 .null H.size) (cwV 0 hts (gV q1174 q1175 q1176 q6 (gA q1177)) rfl rfl rfl (by decide +kernel) ⟨Nat.le_of_ble_eq_true rfl, Nat.le_of_ble_eq_true rfl⟩) ⟨EV.fb, va_recv hKc hPc (ci := 16) (q0 := 0) rfl rfl, fun U hU hW => ⟨rfl, EV.at hPc hKc hDc hG (hZ.no hS) U hU hW⟩⟩ rfl rfl hl.1 rfl (lv_room (Nat.le_of_ble_eq_true rfl)) dL_law__1982 ⟨Nat.le_of_ble_eq_true rfl, Nat.le_of_ble_eq_true rfl⟩) hS (fun q _ h => h.elim) (fun q h => h.elim) (fun r_3 u t H1 locs ht hvm hw hB hz1 hk1 hS => ?_)
  have hP := P_kept hP hk1
  generalize H1 = H at hP hS ⊢
  have hP : va_P D vwCl [(x, .inr (11, [.ref cs, .ref th, .ref nw, .ref mi, .int 9999, .int 0, .int 0])), (cs, .inr (4, [.int 0, .ref e0, .int 0])), (th, .inr (4, [.int 0, .ref e0, .int 0])), (nw, .inr (10, [.int 10, .int 0, .int 0])), (sk, .inr (15, [.int 10, .int 0, .int 0, .int 9999, .int 0])), (o, .inl (cA, 1, .inr (.inl (fun _ => 0)))), (od, .inl (cB, 1, .inr (.inr (.inr (.inl (fun _ => 0)))))), (m2, .inr (16, [.int 1, .ref ms, .ref sk, .int 0])), (ms, .inr (4, [.int 0, .ref e0, .int 0]))] H := hP
  subst hw
  refine lv_iload hx hb dL_law__1985 (lv_at hl 1 rfl) ?_
  refine lv_icmp_eq (tgt := 1992) hx hb dL_law__1987 (by decide) (fun c_4 => ?_) (fun c_4 => ?_)
  · refine lv_iload hx hb dL_law__1992 (lv_at hl 1 rfl) ?_
    refine lv_if_ne (tgt := 2009) hx hb dL_law__1994 (by decide) (fun c_5 => ?_) (fun c_5 => ?_)
    · refine lv_goto (tgt := 2850) hx hb dL_law__2009 (by decide) ?_
      exact law_end (D := D) hst hx hb hr hml hown hts hX hbl hlocks hS (Nat.le_of_ble_eq_true rfl) (Nat.le_of_ble_eq_true rfl) (lv_sub hl [7, 2] rfl)
    · exact absurd c_5 (by decide)
  · exact absurd (by decide) c_4
set_option maxHeartbeats 8000000 in
set_option maxRecDepth 100000 in
/-- case 26: heave -/
theorem law_26 {p : Program} {l : Launch} {e : Env} {s : State} {m : MethodId} {below : List Frame} {meth : Method} {c : Code} {D : va_G} {b : Nat} {xs : Nat → Int32} (hst : l.stackTraces = false) (hx : p.tables.exec = Jvm.exec) (hb : c.code = code) (hr : meth.sig.returnType = ret) (hml : c.maxLocals = 9) (hown : s.vm.findClass RL = some m.cls) (hts : ∀ w ∈ lw_all, w.before #[Value.ref b] s = true) (hX : va_X b 5 xs s s.heap) (hbl : b < s.heap.size) (hlocks : meth.locks = false) (hG : GE s) (hZ : ZZ (fun q : Nat => s.heap.size ≤ q) s s.heap) {e0 : Nat} (hZd : ZD e0 (fun q : Nat => s.heap.size ≤ q) s s.heap) (hZt : ZT e0 (fun q : Nat => s.heap.size ≤ q) s s.heap) (hAO : va_AO "java/lang/Object" s) {fq fv : Nat} (hSF : SF fq fv (fun q : Nat => s.heap.size ≤ q) s s.heap) (hvk : vk_R RX12 58 "fsn" fq s) {x cs th nw mi m2 ms sk o od : Nat} {cA cB : ClassId} {H : Heap} {locs : List Loc} (hK : va_K D vwCl [(cA, .long), (cB, .double)] s) (hP : va_P D vwCl [(x, .inr (11, [.ref cs, .ref th, .ref nw, .ref mi, .int 9999, .int 0, .int 0])), (cs, .inr (4, [.int 0, .ref e0, .int 0])), (th, .inr (4, [.int 0, .ref e0, .int 0])), (nw, .inr (10, [.int 10, .int 0, .int 0])), (m2, .inr (16, [.int 0, .ref ms, .ref sk, .int 0])), (ms, .inr (4, [.int 0, .ref e0, .int 0])), (sk, .inr (15, [.int 10, .int 0, .int 0, .int 9999, .int 0])), (o, .inl (cA, 1, .inr (.inl (fun _ => 0)))), (od, .inl (cB, 1, .inr (.inr (.inr (.inl (fun _ => 0))))))] H) (hD : va_D (fun q : Nat => s.heap.size ≤ q) [(x, .inr (11, [.ref cs, .ref th, .ref nw, .ref mi, .int 9999, .int 0, .int 0])), (cs, .inr (4, [.int 0, .ref e0, .int 0])), (th, .inr (4, [.int 0, .ref e0, .int 0])), (nw, .inr (10, [.int 10, .int 0, .int 0])), (m2, .inr (16, [.int 0, .ref ms, .ref sk, .int 0])), (ms, .inr (4, [.int 0, .ref e0, .int 0])), (sk, .inr (15, [.int 10, .int 0, .int 0, .int 9999, .int 0])), (o, .inl (cA, 1, .inr (.inl (fun _ => 0)))), (od, .inl (cB, 1, .inr (.inr (.inr (.inl (fun _ => 0))))))]) (hS : va_S (fun q : Nat => s.heap.size ≤ q) s.heap H locs) {ls : Array Slot} (hl : lv_has ls 9 [(5, .int 0), (4, .ref od), (3, .ref o), (2, .ref m2), (1, .ref x), (0, .ref b)]) : W p l e room_1 s m #[Value.ref b] below meth c H locs 10 70 (lw_Z below #[Value.ref b] s) (F0 m 2012 ls []) := by
  have hA : ∀ q : Nat, s.heap.size ≤ q → (fun q : Nat => s.heap.size ≤ q) q := fun _ h => h
  have hbA : ¬ (fun q : Nat => s.heap.size ≤ q) b := Nat.not_le.mpr hbl
  refine lv_aload_n hx hb dL_law__2012 rfl (lv_at hl 4 rfl) ?_
  refine lv_aload_n hx hb dL_law__2013 rfl (lv_at hl 5 rfl) ?_
  refine lv_iload hx hb dL_law__2014 (lv_at hl 0 rfl) ?_
  refine lv_iconst (v := 1) hx hb dL_law__2016 (by decide) ?_
  refine lv_iadd hx hb dL_law__2017 ?_
  refine va_sld hx hb hX hbl hbA hS (by unfold vp_in; decide) dL_law__2018 ?_
  refine lv_aload_n hx hb dL_law__2019 rfl (lv_at hl 2 rfl) ?_
  have hPc := hP.sub (ws' := [(x, .inr (11, [.ref cs, .ref th, .ref nw, .ref mi, .int 9999, .int 0, .int 0])), (cs, .inr (4, [.int 0, .ref e0, .int 0]))]) [0, 1] rfl
  have hDc := hD.sub (ws' := [(x, .inr (11, [.ref cs, .ref th, .ref nw, .ref mi, .int 9999, .int 0, .int 0])), (cs, .inr (4, [.int 0, .ref e0, .int 0]))]) [0, 1] (by decide) rfl
  have hKc := hK.sub (tys' := []) [] rfl
  refine va_calli (vx_runSW (As := [.ref x, .int (xs (Int32.toNatClampNeg (0 + 1))), .ref o]) (rest := []) ⟨hx, hb, hml, hown, hts⟩ (k_LL_heave l hst D x cs (.ref th) (.ref nw) (.ref mi) (.int 9999) (.int 0) (.int 0) 0 (.ref e0) (xs (Int32.toNatClampNeg (0 + 1))) o H.size) (vx_cwSW 3 hts (gS q983 q984 q0 (gH q985)) rfl rfl rfl (by decide +kernel) ⟨Nat.le_of_ble_eq_true rfl, Nat.le_of_ble_eq_true rfl⟩) ⟨EV.fb, fun U hU hW => ⟨rfl, EV.at hPc hKc hDc hG (hZ.no hS) U hU hW⟩⟩ rfl rfl hl.1 rfl (lv_room (Nat.le_of_ble_eq_true rfl)) dL_law__2020 ⟨Nat.le_of_ble_eq_true rfl, Nat.le_of_ble_eq_true rfl⟩) hS (fun q _ h => h.elim) (fun q h => h.elim) (fun r_1 u t H1 locs ht hvm hw hB hz1 hk1 hS => ?_)
  have hP := P_kept hP hk1
  generalize H1 = H at hP hS ⊢
  have hP : va_P D vwCl [(x, .inr (11, [.ref cs, .ref th, .ref nw, .ref mi, .int 9999, .int 0, .int 0])), (cs, .inr (4, [.int 0, .ref e0, .int 0])), (th, .inr (4, [.int 0, .ref e0, .int 0])), (nw, .inr (10, [.int 10, .int 0, .int 0])), (m2, .inr (16, [.int 0, .ref ms, .ref sk, .int 0])), (ms, .inr (4, [.int 0, .ref e0, .int 0])), (sk, .inr (15, [.int 10, .int 0, .int 0, .int 9999, .int 0])), (o, .inl (cA, 1, .inr (.inl (fun _ => 0)))), (od, .inl (cB, 1, .inr (.inr (.inr (.inl (fun _ => 0))))))] H := hP
  subst hw
  refine lv_istore (lv' := [(6, .int 1), (5, .int 0), (4, .ref od), (3, .ref o), (2, .ref m2), (1, .ref x), (0, .ref b)]) hx hb dL_law__2023 hl (by decide) rfl (fun ls hl => ?_)
  refine lv_aload_n hx hb dL_law__2025 rfl (lv_at hl 4 rfl) ?_
  refine lv_aload_n hx hb dL_law__2026 rfl (lv_at hl 6 rfl) ?_
  refine lv_iload hx hb dL_law__2027 (lv_at hl 1 rfl) ?_
  refine lv_iconst (v := 1) hx hb dL_law__2029 (by decide) ?_
  refine lv_iadd hx hb dL_law__2030 ?_
  refine va_sld hx hb hX hbl hbA hS (by unfold vp_in; decide) dL_law__2031 ?_
  have hPc := hP.sub (ws' := [(m2, .inr (16, [.int 0, .ref ms, .ref sk, .int 0])), (ms, .inr (4, [.int 0, .ref e0, .int 0]))]) [4, 5] rfl
  have hDc := hD.sub (ws' := [(m2, .inr (16, [.int 0, .ref ms, .ref sk, .int 0])), (ms, .inr (4, [.int 0, .ref e0, .int 0]))]) [4, 5] (by decide) rfl
  have hKc := hK.sub (tys' := []) [] rfl
  have hFc := va_free (wc := [(m2, .inr (16, [.int 0, .ref ms, .ref sk, .int 0])), (ms, .inr (4, [.int 0, .ref e0, .int 0]))]) hD hS hA [4, 5] rfl
  refine va_calli (va_runV (As := [.int (xs (Int32.toNatClampNeg (0 + 1)))]) (rest := []) ⟨hx, hb, hml, hown, hts⟩ (k_LM_heave l D m2 0 ms (.ref sk) (.int 0) 0 (.ref e0) (xs (Int32.toNatClampNeg (0 + 1))) H.size) (cwV 1 hts (gV q1682 q1683 q1684 q6 (gA q1685)) rfl rfl rfl (by decide +kernel) ⟨Nat.le_of_ble_eq_true rfl, Nat.le_of_ble_eq_true rfl⟩) ⟨EV.fb, va_recv hKc hPc (ci := 16) (q0 := 0) rfl rfl, fun U hU hW => ⟨rfl, EV.at hPc hKc hDc hG (hZ.no hS) U hU hW⟩⟩ rfl rfl hl.1 rfl (lv_room (Nat.le_of_ble_eq_true rfl)) dL_law__2032 ⟨Nat.le_of_ble_eq_true rfl, Nat.le_of_ble_eq_true rfl⟩) hS (fun q _ h => hFc q h) hFc (fun r_2 u t H1 locs ht hvm hw hB hz1 hk1 hS => ?_)
  obtain ⟨hP1, hD1⟩ := hB
  rw [ht] at hP1
  obtain ⟨hP, hD⟩ := va_join (wr := [(x, .inr (11, [.ref cs, .ref th, .ref nw, .ref mi, .int 9999, .int 0, .int 0])), (cs, .inr (4, [.int 0, .ref e0, .int 0])), (th, .inr (4, [.int 0, .ref e0, .int 0])), (nw, .inr (10, [.int 10, .int 0, .int 0])), (sk, .inr (15, [.int 10, .int 0, .int 0, .int 9999, .int 0])), (o, .inl (cA, 1, .inr (.inl (fun _ => 0)))), (od, .inl (cB, 1, .inr (.inr (.inr (.inl (fun _ => 0))))))]) (w1 := [(m2, .inr (16, [.int 1, .ref ms, .ref sk, .int 0])), (ms, .inr (4, [.int 0, .ref e0, .int 0]))]) hP hD [4, 5] [0, 1, 2, 3, 6, 7, 8] rfl rfl (by decide) (by decide) hk1 hFc hP1 hD1
  generalize H1 = H at hP hS ⊢
  have hP : va_P D vwCl [(x, .inr (11, [.ref cs, .ref th, .ref nw, .ref mi, .int 9999, .int 0, .int 0])), (cs, .inr (4, [.int 0, .ref e0, .int 0])), (th, .inr (4, [.int 0, .ref e0, .int 0])), (nw, .inr (10, [.int 10, .int 0, .int 0])), (sk, .inr (15, [.int 10, .int 0, .int 0, .int 9999, .int 0])), (o, .inl (cA, 1, .inr (.inl (fun _ => 0)))), (od, .inl (cB, 1, .inr (.inr (.inr (.inl (fun _ => 0)))))), (m2, .inr (16, [.int 1, .ref ms, .ref sk, .int 0])), (ms, .inr (4, [.int 0, .ref e0, .int 0]))] H := hP
  have hD : va_D (fun q : Nat => s.heap.size ≤ q) [(x, .inr (11, [.ref cs, .ref th, .ref nw, .ref mi, .int 9999, .int 0, .int 0])), (cs, .inr (4, [.int 0, .ref e0, .int 0])), (th, .inr (4, [.int 0, .ref e0, .int 0])), (nw, .inr (10, [.int 10, .int 0, .int 0])), (sk, .inr (15, [.int 10, .int 0, .int 0, .int 9999, .int 0])), (o, .inl (cA, 1, .inr (.inl (fun _ => 0)))), (od, .inl (cB, 1, .inr (.inr (.inr (.inl (fun _ => 0)))))), (m2, .inr (16, [.int 1, .ref ms, .ref sk, .int 0])), (ms, .inr (4, [.int 0, .ref e0, .int 0]))] := hD
  refine lv_istore (lv' := [(7, .int r_2), (6, .int 1), (5, .int 0), (4, .ref od), (3, .ref o), (2, .ref m2), (1, .ref x), (0, .ref b)]) hx hb dL_law__2035 hl (by decide) rfl (fun ls hl => ?_)
  refine lv_aload_n hx hb dL_law__2037 rfl (lv_at hl 5 rfl) ?_
  have hPc := hP.sub (ws' := [(m2, .inr (16, [.int 1, .ref ms, .ref sk, .int 0]))]) [7] rfl
  have hDc := hD.sub (ws' := [(m2, .inr (16, [.int 1, .ref ms, .ref sk, .int 0]))]) [7] (by decide) rfl
  have hKc := hK.sub (tys' := []) [] rfl
  refine va_calli (va_runV (As := []) (rest := []) ⟨hx, hb, hml, hown, hts⟩ (k_LM_thrown l D m2 1 ms (.ref sk) (.int 0) 0 .null H.size) (cwV 0 hts (gV q1174 q1175 q1176 q6 (gA q1177)) rfl rfl rfl (by decide +kernel) ⟨Nat.le_of_ble_eq_true rfl, Nat.le_of_ble_eq_true rfl⟩) ⟨EV.fb, va_recv hKc hPc (ci := 16) (q0 := 0) rfl rfl, fun U hU hW => ⟨rfl, EV.at hPc hKc hDc hG (hZ.no hS) U hU hW⟩⟩ rfl rfl hl.1 rfl (lv_room (Nat.le_of_ble_eq_true rfl)) dL_law__2038 ⟨Nat.le_of_ble_eq_true rfl, Nat.le_of_ble_eq_true rfl⟩) hS (fun q _ h => h.elim) (fun q h => h.elim) (fun r_3 u t H1 locs ht hvm hw hB hz1 hk1 hS => ?_)
  have hP := P_kept hP hk1
  generalize H1 = H at hP hS ⊢
  have hP : va_P D vwCl [(x, .inr (11, [.ref cs, .ref th, .ref nw, .ref mi, .int 9999, .int 0, .int 0])), (cs, .inr (4, [.int 0, .ref e0, .int 0])), (th, .inr (4, [.int 0, .ref e0, .int 0])), (nw, .inr (10, [.int 10, .int 0, .int 0])), (sk, .inr (15, [.int 10, .int 0, .int 0, .int 9999, .int 0])), (o, .inl (cA, 1, .inr (.inl (fun _ => 0)))), (od, .inl (cB, 1, .inr (.inr (.inr (.inl (fun _ => 0)))))), (m2, .inr (16, [.int 1, .ref ms, .ref sk, .int 0])), (ms, .inr (4, [.int 0, .ref e0, .int 0]))] H := hP
  subst hw
  refine lv_iload hx hb dL_law__2041 (lv_at hl 1 rfl) ?_
  refine lv_icmp_eq (tgt := 2048) hx hb dL_law__2043 (by decide) (fun c_4 => ?_) (fun c_4 => ?_)
  · refine lv_iload hx hb dL_law__2048 (lv_at hl 1 rfl) ?_
    refine lv_if_ne (tgt := 2065) hx hb dL_law__2050 (by decide) (fun c_5 => ?_) (fun c_5 => ?_)
    · refine lv_goto (tgt := 2850) hx hb dL_law__2065 (by decide) ?_
      exact law_end (D := D) hst hx hb hr hml hown hts hX hbl hlocks hS (Nat.le_of_ble_eq_true rfl) (Nat.le_of_ble_eq_true rfl) (lv_sub hl [7, 2] rfl)
    · exact absurd c_5 (by decide)
  · exact absurd (by decide) c_4
set_option maxHeartbeats 8000000 in
set_option maxRecDepth 100000 in
/-- case 27: crack -/
theorem law_27 {p : Program} {l : Launch} {e : Env} {s : State} {m : MethodId} {below : List Frame} {meth : Method} {c : Code} {D : va_G} {b : Nat} {xs : Nat → Int32} (hst : l.stackTraces = false) (hx : p.tables.exec = Jvm.exec) (hb : c.code = code) (hr : meth.sig.returnType = ret) (hml : c.maxLocals = 9) (hown : s.vm.findClass RL = some m.cls) (hts : ∀ w ∈ lw_all, w.before #[Value.ref b] s = true) (hX : va_X b 5 xs s s.heap) (hbl : b < s.heap.size) (hlocks : meth.locks = false) (hG : GE s) (hZ : ZZ (fun q : Nat => s.heap.size ≤ q) s s.heap) {e0 : Nat} (hZd : ZD e0 (fun q : Nat => s.heap.size ≤ q) s s.heap) (hZt : ZT e0 (fun q : Nat => s.heap.size ≤ q) s s.heap) (hAO : va_AO "java/lang/Object" s) {fq fv : Nat} (hSF : SF fq fv (fun q : Nat => s.heap.size ≤ q) s s.heap) (hvk : vk_R RX12 58 "fsn" fq s) {x cs th nw mi m2 ms sk o od : Nat} {cA cB : ClassId} {H : Heap} {locs : List Loc} (hK : va_K D vwCl [(cA, .long), (cB, .double)] s) (hP : va_P D vwCl [(x, .inr (11, [.ref cs, .ref th, .ref nw, .ref mi, .int 9999, .int 0, .int 0])), (cs, .inr (4, [.int 0, .ref e0, .int 0])), (th, .inr (4, [.int 0, .ref e0, .int 0])), (nw, .inr (10, [.int 10, .int 0, .int 0])), (m2, .inr (16, [.int 0, .ref ms, .ref sk, .int 0])), (ms, .inr (4, [.int 0, .ref e0, .int 0])), (sk, .inr (15, [.int 10, .int 0, .int 0, .int 9999, .int 0])), (o, .inl (cA, 1, .inr (.inl (fun _ => 0)))), (od, .inl (cB, 1, .inr (.inr (.inr (.inl (fun _ => 0))))))] H) (hD : va_D (fun q : Nat => s.heap.size ≤ q) [(x, .inr (11, [.ref cs, .ref th, .ref nw, .ref mi, .int 9999, .int 0, .int 0])), (cs, .inr (4, [.int 0, .ref e0, .int 0])), (th, .inr (4, [.int 0, .ref e0, .int 0])), (nw, .inr (10, [.int 10, .int 0, .int 0])), (m2, .inr (16, [.int 0, .ref ms, .ref sk, .int 0])), (ms, .inr (4, [.int 0, .ref e0, .int 0])), (sk, .inr (15, [.int 10, .int 0, .int 0, .int 9999, .int 0])), (o, .inl (cA, 1, .inr (.inl (fun _ => 0)))), (od, .inl (cB, 1, .inr (.inr (.inr (.inl (fun _ => 0))))))]) (hS : va_S (fun q : Nat => s.heap.size ≤ q) s.heap H locs) {ls : Array Slot} (hl : lv_has ls 9 [(5, .int 0), (4, .ref od), (3, .ref o), (2, .ref m2), (1, .ref x), (0, .ref b)]) : W p l e room_1 s m #[Value.ref b] below meth c H locs 10 70 (lw_Z below #[Value.ref b] s) (F0 m 2068 ls []) := by
  have hA : ∀ q : Nat, s.heap.size ≤ q → (fun q : Nat => s.heap.size ≤ q) q := fun _ h => h
  have hbA : ¬ (fun q : Nat => s.heap.size ≤ q) b := Nat.not_le.mpr hbl
  refine lv_aload_n hx hb dL_law__2068 rfl (lv_at hl 4 rfl) ?_
  refine lv_aload_n hx hb dL_law__2069 rfl (lv_at hl 5 rfl) ?_
  refine lv_iload hx hb dL_law__2070 (lv_at hl 0 rfl) ?_
  refine lv_iconst (v := 1) hx hb dL_law__2072 (by decide) ?_
  refine lv_iadd hx hb dL_law__2073 ?_
  refine va_sld hx hb hX hbl hbA hS (by unfold vp_in; decide) dL_law__2074 ?_
  refine lv_aload_n hx hb dL_law__2075 rfl (lv_at hl 2 rfl) ?_
  have hPc := hP.sub (ws' := [(x, .inr (11, [.ref cs, .ref th, .ref nw, .ref mi, .int 9999, .int 0, .int 0])), (cs, .inr (4, [.int 0, .ref e0, .int 0]))]) [0, 1] rfl
  have hDc := hD.sub (ws' := [(x, .inr (11, [.ref cs, .ref th, .ref nw, .ref mi, .int 9999, .int 0, .int 0])), (cs, .inr (4, [.int 0, .ref e0, .int 0]))]) [0, 1] (by decide) rfl
  have hKc := hK.sub (tys' := []) [] rfl
  refine va_calli (vx_runSW (As := [.ref x, .int (xs (Int32.toNatClampNeg (0 + 1))), .ref o]) (rest := []) ⟨hx, hb, hml, hown, hts⟩ (k_LL_crack l hst D x cs (.ref th) (.ref nw) (.ref mi) (.int 9999) (.int 0) (.int 0) 0 (.ref e0) (xs (Int32.toNatClampNeg (0 + 1))) o H.size) (vx_cwSW 3 hts (gS q994 q995 q0 (gH q996)) rfl rfl rfl (by decide +kernel) ⟨Nat.le_of_ble_eq_true rfl, Nat.le_of_ble_eq_true rfl⟩) ⟨EV.fb, fun U hU hW => ⟨rfl, EV.at hPc hKc hDc hG (hZ.no hS) U hU hW⟩⟩ rfl rfl hl.1 rfl (lv_room (Nat.le_of_ble_eq_true rfl)) dL_law__2076 ⟨Nat.le_of_ble_eq_true rfl, Nat.le_of_ble_eq_true rfl⟩) hS (fun q _ h => h.elim) (fun q h => h.elim) (fun r_1 u t H1 locs ht hvm hw hB hz1 hk1 hS => ?_)
  have hP := P_kept hP hk1
  generalize H1 = H at hP hS ⊢
  have hP : va_P D vwCl [(x, .inr (11, [.ref cs, .ref th, .ref nw, .ref mi, .int 9999, .int 0, .int 0])), (cs, .inr (4, [.int 0, .ref e0, .int 0])), (th, .inr (4, [.int 0, .ref e0, .int 0])), (nw, .inr (10, [.int 10, .int 0, .int 0])), (m2, .inr (16, [.int 0, .ref ms, .ref sk, .int 0])), (ms, .inr (4, [.int 0, .ref e0, .int 0])), (sk, .inr (15, [.int 10, .int 0, .int 0, .int 9999, .int 0])), (o, .inl (cA, 1, .inr (.inl (fun _ => 0)))), (od, .inl (cB, 1, .inr (.inr (.inr (.inl (fun _ => 0))))))] H := hP
  subst hw
  refine lv_istore (lv' := [(6, .int 1), (5, .int 0), (4, .ref od), (3, .ref o), (2, .ref m2), (1, .ref x), (0, .ref b)]) hx hb dL_law__2079 hl (by decide) rfl (fun ls hl => ?_)
  refine lv_aload_n hx hb dL_law__2081 rfl (lv_at hl 4 rfl) ?_
  refine lv_aload_n hx hb dL_law__2082 rfl (lv_at hl 6 rfl) ?_
  refine lv_iload hx hb dL_law__2083 (lv_at hl 1 rfl) ?_
  refine lv_iconst (v := 1) hx hb dL_law__2085 (by decide) ?_
  refine lv_iadd hx hb dL_law__2086 ?_
  refine va_sld hx hb hX hbl hbA hS (by unfold vp_in; decide) dL_law__2087 ?_
  have hPc := hP.sub (ws' := [(m2, .inr (16, [.int 0, .ref ms, .ref sk, .int 0])), (ms, .inr (4, [.int 0, .ref e0, .int 0]))]) [4, 5] rfl
  have hDc := hD.sub (ws' := [(m2, .inr (16, [.int 0, .ref ms, .ref sk, .int 0])), (ms, .inr (4, [.int 0, .ref e0, .int 0]))]) [4, 5] (by decide) rfl
  have hKc := hK.sub (tys' := []) [] rfl
  have hFc := va_free (wc := [(m2, .inr (16, [.int 0, .ref ms, .ref sk, .int 0])), (ms, .inr (4, [.int 0, .ref e0, .int 0]))]) hD hS hA [4, 5] rfl
  refine va_calli (va_runV (As := [.int (xs (Int32.toNatClampNeg (0 + 1)))]) (rest := []) ⟨hx, hb, hml, hown, hts⟩ (k_LM_crack l D m2 0 ms (.ref sk) (.int 0) 0 (.ref e0) (xs (Int32.toNatClampNeg (0 + 1))) H.size) (cwV 1 hts (gV q1686 q1687 q1688 q6 (gA q1689)) rfl rfl rfl (by decide +kernel) ⟨Nat.le_of_ble_eq_true rfl, Nat.le_of_ble_eq_true rfl⟩) ⟨EV.fb, va_recv hKc hPc (ci := 16) (q0 := 0) rfl rfl, fun U hU hW => ⟨rfl, EV.at hPc hKc hDc hG (hZ.no hS) U hU hW⟩⟩ rfl rfl hl.1 rfl (lv_room (Nat.le_of_ble_eq_true rfl)) dL_law__2088 ⟨Nat.le_of_ble_eq_true rfl, Nat.le_of_ble_eq_true rfl⟩) hS (fun q _ h => hFc q h) hFc (fun r_2 u t H1 locs ht hvm hw hB hz1 hk1 hS => ?_)
  obtain ⟨hP1, hD1⟩ := hB
  rw [ht] at hP1
  obtain ⟨hP, hD⟩ := va_join (wr := [(x, .inr (11, [.ref cs, .ref th, .ref nw, .ref mi, .int 9999, .int 0, .int 0])), (cs, .inr (4, [.int 0, .ref e0, .int 0])), (th, .inr (4, [.int 0, .ref e0, .int 0])), (nw, .inr (10, [.int 10, .int 0, .int 0])), (sk, .inr (15, [.int 10, .int 0, .int 0, .int 9999, .int 0])), (o, .inl (cA, 1, .inr (.inl (fun _ => 0)))), (od, .inl (cB, 1, .inr (.inr (.inr (.inl (fun _ => 0))))))]) (w1 := [(m2, .inr (16, [.int 1, .ref ms, .ref sk, .int 0])), (ms, .inr (4, [.int 0, .ref e0, .int 0]))]) hP hD [4, 5] [0, 1, 2, 3, 6, 7, 8] rfl rfl (by decide) (by decide) hk1 hFc hP1 hD1
  generalize H1 = H at hP hS ⊢
  have hP : va_P D vwCl [(x, .inr (11, [.ref cs, .ref th, .ref nw, .ref mi, .int 9999, .int 0, .int 0])), (cs, .inr (4, [.int 0, .ref e0, .int 0])), (th, .inr (4, [.int 0, .ref e0, .int 0])), (nw, .inr (10, [.int 10, .int 0, .int 0])), (sk, .inr (15, [.int 10, .int 0, .int 0, .int 9999, .int 0])), (o, .inl (cA, 1, .inr (.inl (fun _ => 0)))), (od, .inl (cB, 1, .inr (.inr (.inr (.inl (fun _ => 0)))))), (m2, .inr (16, [.int 1, .ref ms, .ref sk, .int 0])), (ms, .inr (4, [.int 0, .ref e0, .int 0]))] H := hP
  have hD : va_D (fun q : Nat => s.heap.size ≤ q) [(x, .inr (11, [.ref cs, .ref th, .ref nw, .ref mi, .int 9999, .int 0, .int 0])), (cs, .inr (4, [.int 0, .ref e0, .int 0])), (th, .inr (4, [.int 0, .ref e0, .int 0])), (nw, .inr (10, [.int 10, .int 0, .int 0])), (sk, .inr (15, [.int 10, .int 0, .int 0, .int 9999, .int 0])), (o, .inl (cA, 1, .inr (.inl (fun _ => 0)))), (od, .inl (cB, 1, .inr (.inr (.inr (.inl (fun _ => 0)))))), (m2, .inr (16, [.int 1, .ref ms, .ref sk, .int 0])), (ms, .inr (4, [.int 0, .ref e0, .int 0]))] := hD
  refine lv_istore (lv' := [(7, .int r_2), (6, .int 1), (5, .int 0), (4, .ref od), (3, .ref o), (2, .ref m2), (1, .ref x), (0, .ref b)]) hx hb dL_law__2091 hl (by decide) rfl (fun ls hl => ?_)
  refine lv_aload_n hx hb dL_law__2093 rfl (lv_at hl 5 rfl) ?_
  have hPc := hP.sub (ws' := [(m2, .inr (16, [.int 1, .ref ms, .ref sk, .int 0]))]) [7] rfl
  have hDc := hD.sub (ws' := [(m2, .inr (16, [.int 1, .ref ms, .ref sk, .int 0]))]) [7] (by decide) rfl
  have hKc := hK.sub (tys' := []) [] rfl
  refine va_calli (va_runV (As := []) (rest := []) ⟨hx, hb, hml, hown, hts⟩ (k_LM_thrown l D m2 1 ms (.ref sk) (.int 0) 0 .null H.size) (cwV 0 hts (gV q1174 q1175 q1176 q6 (gA q1177)) rfl rfl rfl (by decide +kernel) ⟨Nat.le_of_ble_eq_true rfl, Nat.le_of_ble_eq_true rfl⟩) ⟨EV.fb, va_recv hKc hPc (ci := 16) (q0 := 0) rfl rfl, fun U hU hW => ⟨rfl, EV.at hPc hKc hDc hG (hZ.no hS) U hU hW⟩⟩ rfl rfl hl.1 rfl (lv_room (Nat.le_of_ble_eq_true rfl)) dL_law__2094 ⟨Nat.le_of_ble_eq_true rfl, Nat.le_of_ble_eq_true rfl⟩) hS (fun q _ h => h.elim) (fun q h => h.elim) (fun r_3 u t H1 locs ht hvm hw hB hz1 hk1 hS => ?_)
  have hP := P_kept hP hk1
  generalize H1 = H at hP hS ⊢
  have hP : va_P D vwCl [(x, .inr (11, [.ref cs, .ref th, .ref nw, .ref mi, .int 9999, .int 0, .int 0])), (cs, .inr (4, [.int 0, .ref e0, .int 0])), (th, .inr (4, [.int 0, .ref e0, .int 0])), (nw, .inr (10, [.int 10, .int 0, .int 0])), (sk, .inr (15, [.int 10, .int 0, .int 0, .int 9999, .int 0])), (o, .inl (cA, 1, .inr (.inl (fun _ => 0)))), (od, .inl (cB, 1, .inr (.inr (.inr (.inl (fun _ => 0)))))), (m2, .inr (16, [.int 1, .ref ms, .ref sk, .int 0])), (ms, .inr (4, [.int 0, .ref e0, .int 0]))] H := hP
  subst hw
  refine lv_iload hx hb dL_law__2097 (lv_at hl 1 rfl) ?_
  refine lv_icmp_eq (tgt := 2104) hx hb dL_law__2099 (by decide) (fun c_4 => ?_) (fun c_4 => ?_)
  · refine lv_iload hx hb dL_law__2104 (lv_at hl 1 rfl) ?_
    refine lv_if_ne (tgt := 2121) hx hb dL_law__2106 (by decide) (fun c_5 => ?_) (fun c_5 => ?_)
    · refine lv_goto (tgt := 2850) hx hb dL_law__2121 (by decide) ?_
      exact law_end (D := D) hst hx hb hr hml hown hts hX hbl hlocks hS (Nat.le_of_ble_eq_true rfl) (Nat.le_of_ble_eq_true rfl) (lv_sub hl [7, 2] rfl)
    · exact absurd c_5 (by decide)
  · exact absurd (by decide) c_4
