set_option maxHeartbeats 8000000 in
set_option maxRecDepth 100000 in
/-- case 28: tension -/
theorem law_28 {p : Program} {l : Launch} {e : Env} {s : State} {m : MethodId} {below : List Frame} {meth : Method} {c : Code} {D : va_G} {b : Nat} {xs : Nat → Int32} (hst : l.stackTraces = false) (hx : p.tables.exec = Jvm.exec) (hb : c.code = code) (hr : meth.sig.returnType = ret) (hml : c.maxLocals = 9) (hown : s.vm.findClass RL = some m.cls) (hts : ∀ w ∈ lw_all, w.before #[Value.ref b] s = true) (hX : va_X b 5 xs s s.heap) (hbl : b < s.heap.size) (hlocks : meth.locks = false) (hG : GE s) (hZ : ZZ (fun q : Nat => s.heap.size ≤ q) s s.heap) {e0 : Nat} (hZd : ZD e0 (fun q : Nat => s.heap.size ≤ q) s s.heap) (hZt : ZT e0 (fun q : Nat => s.heap.size ≤ q) s s.heap) (hAO : va_AO "java/lang/Object" s) {fq fv : Nat} (hSF : SF fq fv (fun q : Nat => s.heap.size ≤ q) s s.heap) (hvk : vk_R RX12 58 "fsn" fq s) {x cs th nw mi m2 ms sk o od : Nat} {cA cB : ClassId} {H : Heap} {locs : List Loc} (hK : va_K D vwCl [(cA, .long), (cB, .double)] s) (hP : va_P D vwCl [(x, .inr (11, [.ref cs, .ref th, .ref nw, .ref mi, .int 9999, .int 0, .int 0])), (cs, .inr (4, [.int 0, .ref e0, .int 0])), (th, .inr (4, [.int 0, .ref e0, .int 0])), (nw, .inr (10, [.int 10, .int 0, .int 0])), (m2, .inr (16, [.int 0, .ref ms, .ref sk, .int 0])), (ms, .inr (4, [.int 0, .ref e0, .int 0])), (sk, .inr (15, [.int 10, .int 0, .int 0, .int 9999, .int 0])), (o, .inl (cA, 1, .inr (.inl (fun _ => 0)))), (od, .inl (cB, 1, .inr (.inr (.inr (.inl (fun _ => 0))))))] H) (hD : va_D (fun q : Nat => s.heap.size ≤ q) [(x, .inr (11, [.ref cs, .ref th, .ref nw, .ref mi, .int 9999, .int 0, .int 0])), (cs, .inr (4, [.int 0, .ref e0, .int 0])), (th, .inr (4, [.int 0, .ref e0, .int 0])), (nw, .inr (10, [.int 10, .int 0, .int 0])), (m2, .inr (16, [.int 0, .ref ms, .ref sk, .int 0])), (ms, .inr (4, [.int 0, .ref e0, .int 0])), (sk, .inr (15, [.int 10, .int 0, .int 0, .int 9999, .int 0])), (o, .inl (cA, 1, .inr (.inl (fun _ => 0)))), (od, .inl (cB, 1, .inr (.inr (.inr (.inl (fun _ => 0))))))]) (hS : va_S (fun q : Nat => s.heap.size ≤ q) s.heap H locs) {ls : Array Slot} (hl : lv_has ls 9 [(5, .int 0), (4, .ref od), (3, .ref o), (2, .ref m2), (1, .ref x), (0, .ref b)]) : W p l e room_1 s m #[Value.ref b] below meth c H locs 10 70 (lw_Z below #[Value.ref b] s) (F0 m 2124 ls []) := by
  have hA : ∀ q : Nat, s.heap.size ≤ q → (fun q : Nat => s.heap.size ≤ q) q := fun _ h => h
  have hbA : ¬ (fun q : Nat => s.heap.size ≤ q) b := Nat.not_le.mpr hbl
  refine lv_aload_n hx hb dL_law__2124 rfl (lv_at hl 4 rfl) ?_
  refine lv_aload_n hx hb dL_law__2125 rfl (lv_at hl 5 rfl) ?_
  refine lv_iload hx hb dL_law__2126 (lv_at hl 0 rfl) ?_
  refine lv_iconst (v := 1) hx hb dL_law__2128 (by decide) ?_
  refine lv_iadd hx hb dL_law__2129 ?_
  refine va_sld hx hb hX hbl hbA hS (by unfold vp_in; decide) dL_law__2130 ?_
  refine lv_aload_n hx hb dL_law__2131 rfl (lv_at hl 5 rfl) ?_
  refine lv_iload hx hb dL_law__2132 (lv_at hl 0 rfl) ?_
  refine lv_iconst (v := 2) hx hb dL_law__2134 (by decide) ?_
  refine lv_iadd hx hb dL_law__2135 ?_
  refine va_sld hx hb hX hbl hbA hS (by unfold vp_in; decide) dL_law__2136 ?_
  refine lv_aload_n hx hb dL_law__2137 rfl (lv_at hl 2 rfl) ?_
  have hPc := hP.sub (ws' := [(x, .inr (11, [.ref cs, .ref th, .ref nw, .ref mi, .int 9999, .int 0, .int 0])), (cs, .inr (4, [.int 0, .ref e0, .int 0]))]) [0, 1] rfl
  have hDc := hD.sub (ws' := [(x, .inr (11, [.ref cs, .ref th, .ref nw, .ref mi, .int 9999, .int 0, .int 0])), (cs, .inr (4, [.int 0, .ref e0, .int 0]))]) [0, 1] (by decide) rfl
  have hKc := hK.sub (tys' := []) [] rfl
  refine va_calli (vx_runSW (As := [.ref x, .int (xs (Int32.toNatClampNeg (0 + 1))), .int (xs (Int32.toNatClampNeg (0 + 2))), .ref o]) (rest := []) ⟨hx, hb, hml, hown, hts⟩ (k_LL_tension l hst D x cs (.ref th) (.ref nw) (.ref mi) (.int 9999) (.int 0) (.int 0) 0 (.ref e0) (xs (Int32.toNatClampNeg (0 + 1))) (xs (Int32.toNatClampNeg (0 + 2))) o H.size) (vx_cwSW 4 hts (gS q1005 q1006 q0 (gH q1007)) rfl rfl rfl (by decide +kernel) ⟨Nat.le_of_ble_eq_true rfl, Nat.le_of_ble_eq_true rfl⟩) ⟨EV.fb, fun U hU hW => ⟨rfl, EV.at hPc hKc hDc hG (hZ.no hS) U hU hW⟩⟩ rfl rfl hl.1 rfl (lv_room (Nat.le_of_ble_eq_true rfl)) dL_law__2138 ⟨Nat.le_of_ble_eq_true rfl, Nat.le_of_ble_eq_true rfl⟩) hS (fun q _ h => h.elim) (fun q h => h.elim) (fun r_1 u t H1 locs ht hvm hw hB hz1 hk1 hS => ?_)
  have hP := P_kept hP hk1
  generalize H1 = H at hP hS ⊢
  have hP : va_P D vwCl [(x, .inr (11, [.ref cs, .ref th, .ref nw, .ref mi, .int 9999, .int 0, .int 0])), (cs, .inr (4, [.int 0, .ref e0, .int 0])), (th, .inr (4, [.int 0, .ref e0, .int 0])), (nw, .inr (10, [.int 10, .int 0, .int 0])), (m2, .inr (16, [.int 0, .ref ms, .ref sk, .int 0])), (ms, .inr (4, [.int 0, .ref e0, .int 0])), (sk, .inr (15, [.int 10, .int 0, .int 0, .int 9999, .int 0])), (o, .inl (cA, 1, .inr (.inl (fun _ => 0)))), (od, .inl (cB, 1, .inr (.inr (.inr (.inl (fun _ => 0))))))] H := hP
  subst hw
  refine lv_istore (lv' := [(6, .int 1), (5, .int 0), (4, .ref od), (3, .ref o), (2, .ref m2), (1, .ref x), (0, .ref b)]) hx hb dL_law__2141 hl (by decide) rfl (fun ls hl => ?_)
  refine lv_aload_n hx hb dL_law__2143 rfl (lv_at hl 4 rfl) ?_
  refine lv_aload_n hx hb dL_law__2144 rfl (lv_at hl 6 rfl) ?_
  refine lv_iload hx hb dL_law__2145 (lv_at hl 1 rfl) ?_
  refine lv_iconst (v := 1) hx hb dL_law__2147 (by decide) ?_
  refine lv_iadd hx hb dL_law__2148 ?_
  refine va_sld hx hb hX hbl hbA hS (by unfold vp_in; decide) dL_law__2149 ?_
  refine lv_aload_n hx hb dL_law__2150 rfl (lv_at hl 6 rfl) ?_
  refine lv_iload hx hb dL_law__2151 (lv_at hl 1 rfl) ?_
  refine lv_iconst (v := 2) hx hb dL_law__2153 (by decide) ?_
  refine lv_iadd hx hb dL_law__2154 ?_
  refine va_sld hx hb hX hbl hbA hS (by unfold vp_in; decide) dL_law__2155 ?_
  have hPc := hP.sub (ws' := [(m2, .inr (16, [.int 0, .ref ms, .ref sk, .int 0])), (ms, .inr (4, [.int 0, .ref e0, .int 0]))]) [4, 5] rfl
  have hDc := hD.sub (ws' := [(m2, .inr (16, [.int 0, .ref ms, .ref sk, .int 0])), (ms, .inr (4, [.int 0, .ref e0, .int 0]))]) [4, 5] (by decide) rfl
  have hKc := hK.sub (tys' := []) [] rfl
  have hFc := va_free (wc := [(m2, .inr (16, [.int 0, .ref ms, .ref sk, .int 0])), (ms, .inr (4, [.int 0, .ref e0, .int 0]))]) hD hS hA [4, 5] rfl
  refine va_calli (va_runV (As := [.int (xs (Int32.toNatClampNeg (0 + 1))), .int (xs (Int32.toNatClampNeg (0 + 2)))]) (rest := []) ⟨hx, hb, hml, hown, hts⟩ (k_LM_tension l D m2 0 ms (.ref sk) (.int 0) 0 (.ref e0) (xs (Int32.toNatClampNeg (0 + 1))) (xs (Int32.toNatClampNeg (0 + 2))) H.size) (cwV 2 hts (gV q1691 q1692 q1693 q6 (gA q1694)) rfl rfl rfl (by decide +kernel) ⟨Nat.le_of_ble_eq_true rfl, Nat.le_of_ble_eq_true rfl⟩) ⟨EV.fb, va_recv hKc hPc (ci := 16) (q0 := 0) rfl rfl, fun U hU hW => ⟨rfl, EV.at hPc hKc hDc hG (hZ.no hS) U hU hW⟩⟩ rfl rfl hl.1 rfl (lv_room (Nat.le_of_ble_eq_true rfl)) dL_law__2156 ⟨Nat.le_of_ble_eq_true rfl, Nat.le_of_ble_eq_true rfl⟩) hS (fun q _ h => hFc q h) hFc (fun r_2 u t H1 locs ht hvm hw hB hz1 hk1 hS => ?_)
  obtain ⟨hP1, hD1⟩ := hB
  rw [ht] at hP1
  obtain ⟨hP, hD⟩ := va_join (wr := [(x, .inr (11, [.ref cs, .ref th, .ref nw, .ref mi, .int 9999, .int 0, .int 0])), (cs, .inr (4, [.int 0, .ref e0, .int 0])), (th, .inr (4, [.int 0, .ref e0, .int 0])), (nw, .inr (10, [.int 10, .int 0, .int 0])), (sk, .inr (15, [.int 10, .int 0, .int 0, .int 9999, .int 0])), (o, .inl (cA, 1, .inr (.inl (fun _ => 0)))), (od, .inl (cB, 1, .inr (.inr (.inr (.inl (fun _ => 0))))))]) (w1 := [(m2, .inr (16, [.int 1, .ref ms, .ref sk, .int 0])), (ms, .inr (4, [.int 0, .ref e0, .int 0]))]) hP hD [4, 5] [0, 1, 2, 3, 6, 7, 8] rfl rfl (by decide) (by decide) hk1 hFc hP1 hD1
  generalize H1 = H at hP hS ⊢
  have hP : va_P D vwCl [(x, .inr (11, [.ref cs, .ref th, .ref nw, .ref mi, .int 9999, .int 0, .int 0])), (cs, .inr (4, [.int 0, .ref e0, .int 0])), (th, .inr (4, [.int 0, .ref e0, .int 0])), (nw, .inr (10, [.int 10, .int 0, .int 0])), (sk, .inr (15, [.int 10, .int 0, .int 0, .int 9999, .int 0])), (o, .inl (cA, 1, .inr (.inl (fun _ => 0)))), (od, .inl (cB, 1, .inr (.inr (.inr (.inl (fun _ => 0)))))), (m2, .inr (16, [.int 1, .ref ms, .ref sk, .int 0])), (ms, .inr (4, [.int 0, .ref e0, .int 0]))] H := hP
  have hD : va_D (fun q : Nat => s.heap.size ≤ q) [(x, .inr (11, [.ref cs, .ref th, .ref nw, .ref mi, .int 9999, .int 0, .int 0])), (cs, .inr (4, [.int 0, .ref e0, .int 0])), (th, .inr (4, [.int 0, .ref e0, .int 0])), (nw, .inr (10, [.int 10, .int 0, .int 0])), (sk, .inr (15, [.int 10, .int 0, .int 0, .int 9999, .int 0])), (o, .inl (cA, 1, .inr (.inl (fun _ => 0)))), (od, .inl (cB, 1, .inr (.inr (.inr (.inl (fun _ => 0)))))), (m2, .inr (16, [.int 1, .ref ms, .ref sk, .int 0])), (ms, .inr (4, [.int 0, .ref e0, .int 0]))] := hD
  refine lv_istore (lv' := [(7, .int r_2), (6, .int 1), (5, .int 0), (4, .ref od), (3, .ref o), (2, .ref m2), (1, .ref x), (0, .ref b)]) hx hb dL_law__2159 hl (by decide) rfl (fun ls hl => ?_)
  refine lv_aload_n hx hb dL_law__2161 rfl (lv_at hl 5 rfl) ?_
  have hPc := hP.sub (ws' := [(m2, .inr (16, [.int 1, .ref ms, .ref sk, .int 0]))]) [7] rfl
  have hDc := hD.sub (ws' := [(m2, .inr (16, [.int 1, .ref ms, .ref sk, .int 0]))]) [7] (by decide) rfl
  have hKc := hK.sub (tys' := []) [] rfl
  refine va_calli (va_runV (As := []) (rest := []) ⟨hx, hb, hml, hown, hts⟩ (k_LM_thrown l D m2 1 ms (.ref sk) (.int 0) 0 .null H.size) (cwV 0 hts (gV q1174 q1175 q1176 q6 (gA q1177)) rfl rfl rfl (by decide +kernel) ⟨Nat.le_of_ble_eq_true rfl, Nat.le_of_ble_eq_true rfl⟩) ⟨EV.fb, va_recv hKc hPc (ci := 16) (q0 := 0) rfl rfl, fun U hU hW => ⟨rfl, EV.at hPc hKc hDc hG (hZ.no hS) U hU hW⟩⟩ rfl rfl hl.1 rfl (lv_room (Nat.le_of_ble_eq_true rfl)) dL_law__2162 ⟨Nat.le_of_ble_eq_true rfl, Nat.le_of_ble_eq_true rfl⟩) hS (fun q _ h => h.elim) (fun q h => h.elim) (fun r_3 u t H1 locs ht hvm hw hB hz1 hk1 hS => ?_)
  have hP := P_kept hP hk1
  generalize H1 = H at hP hS ⊢
  have hP : va_P D vwCl [(x, .inr (11, [.ref cs, .ref th, .ref nw, .ref mi, .int 9999, .int 0, .int 0])), (cs, .inr (4, [.int 0, .ref e0, .int 0])), (th, .inr (4, [.int 0, .ref e0, .int 0])), (nw, .inr (10, [.int 10, .int 0, .int 0])), (sk, .inr (15, [.int 10, .int 0, .int 0, .int 9999, .int 0])), (o, .inl (cA, 1, .inr (.inl (fun _ => 0)))), (od, .inl (cB, 1, .inr (.inr (.inr (.inl (fun _ => 0)))))), (m2, .inr (16, [.int 1, .ref ms, .ref sk, .int 0])), (ms, .inr (4, [.int 0, .ref e0, .int 0]))] H := hP
  subst hw
  refine lv_iload hx hb dL_law__2165 (lv_at hl 1 rfl) ?_
  refine lv_icmp_eq (tgt := 2172) hx hb dL_law__2167 (by decide) (fun c_4 => ?_) (fun c_4 => ?_)
  · refine lv_iload hx hb dL_law__2172 (lv_at hl 1 rfl) ?_
    refine lv_if_ne (tgt := 2189) hx hb dL_law__2174 (by decide) (fun c_5 => ?_) (fun c_5 => ?_)
    · refine lv_goto (tgt := 2850) hx hb dL_law__2189 (by decide) ?_
      exact law_end (D := D) hst hx hb hr hml hown hts hX hbl hlocks hS (Nat.le_of_ble_eq_true rfl) (Nat.le_of_ble_eq_true rfl) (lv_sub hl [7, 2] rfl)
    · exact absurd c_5 (by decide)
  · exact absurd (by decide) c_4
set_option maxHeartbeats 8000000 in
set_option maxRecDepth 100000 in
/-- case 29: reflection -/
theorem law_29 {p : Program} {l : Launch} {e : Env} {s : State} {m : MethodId} {below : List Frame} {meth : Method} {c : Code} {D : va_G} {b : Nat} {xs : Nat → Int32} (hst : l.stackTraces = false) (hx : p.tables.exec = Jvm.exec) (hb : c.code = code) (hr : meth.sig.returnType = ret) (hml : c.maxLocals = 9) (hown : s.vm.findClass RL = some m.cls) (hts : ∀ w ∈ lw_all, w.before #[Value.ref b] s = true) (hX : va_X b 5 xs s s.heap) (hbl : b < s.heap.size) (hlocks : meth.locks = false) (hG : GE s) (hZ : ZZ (fun q : Nat => s.heap.size ≤ q) s s.heap) {e0 : Nat} (hZd : ZD e0 (fun q : Nat => s.heap.size ≤ q) s s.heap) (hZt : ZT e0 (fun q : Nat => s.heap.size ≤ q) s s.heap) (hAO : va_AO "java/lang/Object" s) {fq fv : Nat} (hSF : SF fq fv (fun q : Nat => s.heap.size ≤ q) s s.heap) (hvk : vk_R RX12 58 "fsn" fq s) {x cs th nw mi m2 ms sk o od : Nat} {cA cB : ClassId} {H : Heap} {locs : List Loc} (hK : va_K D vwCl [(cA, .long), (cB, .double)] s) (hP : va_P D vwCl [(x, .inr (11, [.ref cs, .ref th, .ref nw, .ref mi, .int 9999, .int 0, .int 0])), (cs, .inr (4, [.int 0, .ref e0, .int 0])), (th, .inr (4, [.int 0, .ref e0, .int 0])), (nw, .inr (10, [.int 10, .int 0, .int 0])), (m2, .inr (16, [.int 0, .ref ms, .ref sk, .int 0])), (ms, .inr (4, [.int 0, .ref e0, .int 0])), (sk, .inr (15, [.int 10, .int 0, .int 0, .int 9999, .int 0])), (o, .inl (cA, 1, .inr (.inl (fun _ => 0)))), (od, .inl (cB, 1, .inr (.inr (.inr (.inl (fun _ => 0))))))] H) (hD : va_D (fun q : Nat => s.heap.size ≤ q) [(x, .inr (11, [.ref cs, .ref th, .ref nw, .ref mi, .int 9999, .int 0, .int 0])), (cs, .inr (4, [.int 0, .ref e0, .int 0])), (th, .inr (4, [.int 0, .ref e0, .int 0])), (nw, .inr (10, [.int 10, .int 0, .int 0])), (m2, .inr (16, [.int 0, .ref ms, .ref sk, .int 0])), (ms, .inr (4, [.int 0, .ref e0, .int 0])), (sk, .inr (15, [.int 10, .int 0, .int 0, .int 9999, .int 0])), (o, .inl (cA, 1, .inr (.inl (fun _ => 0)))), (od, .inl (cB, 1, .inr (.inr (.inr (.inl (fun _ => 0))))))]) (hS : va_S (fun q : Nat => s.heap.size ≤ q) s.heap H locs) {ls : Array Slot} (hl : lv_has ls 9 [(5, .int 0), (4, .ref od), (3, .ref o), (2, .ref m2), (1, .ref x), (0, .ref b)]) : W p l e room_1 s m #[Value.ref b] below meth c H locs 10 70 (lw_Z below #[Value.ref b] s) (F0 m 2192 ls []) := by
  have hA : ∀ q : Nat, s.heap.size ≤ q → (fun q : Nat => s.heap.size ≤ q) q := fun _ h => h
  have hbA : ¬ (fun q : Nat => s.heap.size ≤ q) b := Nat.not_le.mpr hbl
  refine lv_aload_n hx hb dL_law__2192 rfl (lv_at hl 4 rfl) ?_
  refine lv_aload_n hx hb dL_law__2193 rfl (lv_at hl 5 rfl) ?_
  refine lv_iload hx hb dL_law__2194 (lv_at hl 0 rfl) ?_
  refine lv_iconst (v := 1) hx hb dL_law__2196 (by decide) ?_
  refine lv_iadd hx hb dL_law__2197 ?_
  refine va_sld hx hb hX hbl hbA hS (by unfold vp_in; decide) dL_law__2198 ?_
  refine lv_aload_n hx hb dL_law__2199 rfl (lv_at hl 5 rfl) ?_
  refine lv_iload hx hb dL_law__2200 (lv_at hl 0 rfl) ?_
  refine lv_iconst (v := 2) hx hb dL_law__2202 (by decide) ?_
  refine lv_iadd hx hb dL_law__2203 ?_
  refine va_sld hx hb hX hbl hbA hS (by unfold vp_in; decide) dL_law__2204 ?_
  refine lv_aload_n hx hb dL_law__2205 rfl (lv_at hl 2 rfl) ?_
  have hPc := hP.sub (ws' := [(x, .inr (11, [.ref cs, .ref th, .ref nw, .ref mi, .int 9999, .int 0, .int 0])), (cs, .inr (4, [.int 0, .ref e0, .int 0]))]) [0, 1] rfl
  have hDc := hD.sub (ws' := [(x, .inr (11, [.ref cs, .ref th, .ref nw, .ref mi, .int 9999, .int 0, .int 0])), (cs, .inr (4, [.int 0, .ref e0, .int 0]))]) [0, 1] (by decide) rfl
  have hKc := hK.sub (tys' := []) [] rfl
  refine va_calli (vx_runSW (As := [.ref x, .int (xs (Int32.toNatClampNeg (0 + 1))), .int (xs (Int32.toNatClampNeg (0 + 2))), .ref o]) (rest := []) ⟨hx, hb, hml, hown, hts⟩ (k_LL_reflection l hst D x cs (.ref th) (.ref nw) (.ref mi) (.int 9999) (.int 0) (.int 0) 0 (.ref e0) (xs (Int32.toNatClampNeg (0 + 1))) (xs (Int32.toNatClampNeg (0 + 2))) o H.size) (vx_cwSW 4 hts (gS q1014 q1015 q0 (gH q1016)) rfl rfl rfl (by decide +kernel) ⟨Nat.le_of_ble_eq_true rfl, Nat.le_of_ble_eq_true rfl⟩) ⟨EV.fb, fun U hU hW => ⟨rfl, EV.at hPc hKc hDc hG (hZ.no hS) U hU hW⟩⟩ rfl rfl hl.1 rfl (lv_room (Nat.le_of_ble_eq_true rfl)) dL_law__2206 ⟨Nat.le_of_ble_eq_true rfl, Nat.le_of_ble_eq_true rfl⟩) hS (fun q _ h => h.elim) (fun q h => h.elim) (fun r_1 u t H1 locs ht hvm hw hB hz1 hk1 hS => ?_)
  have hP := P_kept hP hk1
  generalize H1 = H at hP hS ⊢
  have hP : va_P D vwCl [(x, .inr (11, [.ref cs, .ref th, .ref nw, .ref mi, .int 9999, .int 0, .int 0])), (cs, .inr (4, [.int 0, .ref e0, .int 0])), (th, .inr (4, [.int 0, .ref e0, .int 0])), (nw, .inr (10, [.int 10, .int 0, .int 0])), (m2, .inr (16, [.int 0, .ref ms, .ref sk, .int 0])), (ms, .inr (4, [.int 0, .ref e0, .int 0])), (sk, .inr (15, [.int 10, .int 0, .int 0, .int 9999, .int 0])), (o, .inl (cA, 1, .inr (.inl (fun _ => 0)))), (od, .inl (cB, 1, .inr (.inr (.inr (.inl (fun _ => 0))))))] H := hP
  subst hw
  refine lv_istore (lv' := [(6, .int 1), (5, .int 0), (4, .ref od), (3, .ref o), (2, .ref m2), (1, .ref x), (0, .ref b)]) hx hb dL_law__2209 hl (by decide) rfl (fun ls hl => ?_)
  refine lv_aload_n hx hb dL_law__2211 rfl (lv_at hl 4 rfl) ?_
  refine lv_aload_n hx hb dL_law__2212 rfl (lv_at hl 6 rfl) ?_
  refine lv_iload hx hb dL_law__2213 (lv_at hl 1 rfl) ?_
  refine lv_iconst (v := 1) hx hb dL_law__2215 (by decide) ?_
  refine lv_iadd hx hb dL_law__2216 ?_
  refine va_sld hx hb hX hbl hbA hS (by unfold vp_in; decide) dL_law__2217 ?_
  refine lv_aload_n hx hb dL_law__2218 rfl (lv_at hl 6 rfl) ?_
  refine lv_iload hx hb dL_law__2219 (lv_at hl 1 rfl) ?_
  refine lv_iconst (v := 2) hx hb dL_law__2221 (by decide) ?_
  refine lv_iadd hx hb dL_law__2222 ?_
  refine va_sld hx hb hX hbl hbA hS (by unfold vp_in; decide) dL_law__2223 ?_
  have hPc := hP.sub (ws' := [(m2, .inr (16, [.int 0, .ref ms, .ref sk, .int 0])), (ms, .inr (4, [.int 0, .ref e0, .int 0]))]) [4, 5] rfl
  have hDc := hD.sub (ws' := [(m2, .inr (16, [.int 0, .ref ms, .ref sk, .int 0])), (ms, .inr (4, [.int 0, .ref e0, .int 0]))]) [4, 5] (by decide) rfl
  have hKc := hK.sub (tys' := []) [] rfl
  have hFc := va_free (wc := [(m2, .inr (16, [.int 0, .ref ms, .ref sk, .int 0])), (ms, .inr (4, [.int 0, .ref e0, .int 0]))]) hD hS hA [4, 5] rfl
  refine va_calli (va_runV (As := [.int (xs (Int32.toNatClampNeg (0 + 1))), .int (xs (Int32.toNatClampNeg (0 + 2)))]) (rest := []) ⟨hx, hb, hml, hown, hts⟩ (k_LM_reflection l D m2 0 ms (.ref sk) (.int 0) 0 (.ref e0) (xs (Int32.toNatClampNeg (0 + 1))) (xs (Int32.toNatClampNeg (0 + 2))) H.size) (cwV 2 hts (gV q1695 q1696 q1697 q6 (gA q1698)) rfl rfl rfl (by decide +kernel) ⟨Nat.le_of_ble_eq_true rfl, Nat.le_of_ble_eq_true rfl⟩) ⟨EV.fb, va_recv hKc hPc (ci := 16) (q0 := 0) rfl rfl, fun U hU hW => ⟨rfl, EV.at hPc hKc hDc hG (hZ.no hS) U hU hW⟩⟩ rfl rfl hl.1 rfl (lv_room (Nat.le_of_ble_eq_true rfl)) dL_law__2224 ⟨Nat.le_of_ble_eq_true rfl, Nat.le_of_ble_eq_true rfl⟩) hS (fun q _ h => hFc q h) hFc (fun r_2 u t H1 locs ht hvm hw hB hz1 hk1 hS => ?_)
  obtain ⟨hP1, hD1⟩ := hB
  rw [ht] at hP1
  obtain ⟨hP, hD⟩ := va_join (wr := [(x, .inr (11, [.ref cs, .ref th, .ref nw, .ref mi, .int 9999, .int 0, .int 0])), (cs, .inr (4, [.int 0, .ref e0, .int 0])), (th, .inr (4, [.int 0, .ref e0, .int 0])), (nw, .inr (10, [.int 10, .int 0, .int 0])), (sk, .inr (15, [.int 10, .int 0, .int 0, .int 9999, .int 0])), (o, .inl (cA, 1, .inr (.inl (fun _ => 0)))), (od, .inl (cB, 1, .inr (.inr (.inr (.inl (fun _ => 0))))))]) (w1 := [(m2, .inr (16, [.int 1, .ref ms, .ref sk, .int 0])), (ms, .inr (4, [.int 0, .ref e0, .int 0]))]) hP hD [4, 5] [0, 1, 2, 3, 6, 7, 8] rfl rfl (by decide) (by decide) hk1 hFc hP1 hD1
  generalize H1 = H at hP hS ⊢
  have hP : va_P D vwCl [(x, .inr (11, [.ref cs, .ref th, .ref nw, .ref mi, .int 9999, .int 0, .int 0])), (cs, .inr (4, [.int 0, .ref e0, .int 0])), (th, .inr (4, [.int 0, .ref e0, .int 0])), (nw, .inr (10, [.int 10, .int 0, .int 0])), (sk, .inr (15, [.int 10, .int 0, .int 0, .int 9999, .int 0])), (o, .inl (cA, 1, .inr (.inl (fun _ => 0)))), (od, .inl (cB, 1, .inr (.inr (.inr (.inl (fun _ => 0)))))), (m2, .inr (16, [.int 1, .ref ms, .ref sk, .int 0])), (ms, .inr (4, [.int 0, .ref e0, .int 0]))] H := hP
  have hD : va_D (fun q : Nat => s.heap.size ≤ q) [(x, .inr (11, [.ref cs, .ref th, .ref nw, .ref mi, .int 9999, .int 0, .int 0])), (cs, .inr (4, [.int 0, .ref e0, .int 0])), (th, .inr (4, [.int 0, .ref e0, .int 0])), (nw, .inr (10, [.int 10, .int 0, .int 0])), (sk, .inr (15, [.int 10, .int 0, .int 0, .int 9999, .int 0])), (o, .inl (cA, 1, .inr (.inl (fun _ => 0)))), (od, .inl (cB, 1, .inr (.inr (.inr (.inl (fun _ => 0)))))), (m2, .inr (16, [.int 1, .ref ms, .ref sk, .int 0])), (ms, .inr (4, [.int 0, .ref e0, .int 0]))] := hD
  refine lv_istore (lv' := [(7, .int r_2), (6, .int 1), (5, .int 0), (4, .ref od), (3, .ref o), (2, .ref m2), (1, .ref x), (0, .ref b)]) hx hb dL_law__2227 hl (by decide) rfl (fun ls hl => ?_)
  refine lv_aload_n hx hb dL_law__2229 rfl (lv_at hl 5 rfl) ?_
  have hPc := hP.sub (ws' := [(m2, .inr (16, [.int 1, .ref ms, .ref sk, .int 0]))]) [7] rfl
  have hDc := hD.sub (ws' := [(m2, .inr (16, [.int 1, .ref ms, .ref sk, .int 0]))]) [7] (by decide) rfl
  have hKc := hK.sub (tys' := []) [] rfl
  refine va_calli (va_runV (As := []) (rest := []) ⟨hx, hb, hml, hown, hts⟩ (k_LM_thrown l D m2 1 ms (.ref sk) (.int 0) 0 .null H.size) (cwV 0 hts (gV q1174 q1175 q1176 q6 (gA q1177)) rfl rfl rfl (by decide +kernel) ⟨Nat.le_of_ble_eq_true rfl, Nat.le_of_ble_eq_true rfl⟩) ⟨EV.fb, va_recv hKc hPc (ci := 16) (q0 := 0) rfl rfl, fun U hU hW => ⟨rfl, EV.at hPc hKc hDc hG (hZ.no hS) U hU hW⟩⟩ rfl rfl hl.1 rfl (lv_room (Nat.le_of_ble_eq_true rfl)) dL_law__2230 ⟨Nat.le_of_ble_eq_true rfl, Nat.le_of_ble_eq_true rfl⟩) hS (fun q _ h => h.elim) (fun q h => h.elim) (fun r_3 u t H1 locs ht hvm hw hB hz1 hk1 hS => ?_)
  have hP := P_kept hP hk1
  generalize H1 = H at hP hS ⊢
  have hP : va_P D vwCl [(x, .inr (11, [.ref cs, .ref th, .ref nw, .ref mi, .int 9999, .int 0, .int 0])), (cs, .inr (4, [.int 0, .ref e0, .int 0])), (th, .inr (4, [.int 0, .ref e0, .int 0])), (nw, .inr (10, [.int 10, .int 0, .int 0])), (sk, .inr (15, [.int 10, .int 0, .int 0, .int 9999, .int 0])), (o, .inl (cA, 1, .inr (.inl (fun _ => 0)))), (od, .inl (cB, 1, .inr (.inr (.inr (.inl (fun _ => 0)))))), (m2, .inr (16, [.int 1, .ref ms, .ref sk, .int 0])), (ms, .inr (4, [.int 0, .ref e0, .int 0]))] H := hP
  subst hw
  refine lv_iload hx hb dL_law__2233 (lv_at hl 1 rfl) ?_
  refine lv_icmp_eq (tgt := 2240) hx hb dL_law__2235 (by decide) (fun c_4 => ?_) (fun c_4 => ?_)
  · refine lv_iload hx hb dL_law__2240 (lv_at hl 1 rfl) ?_
    refine lv_if_ne (tgt := 2257) hx hb dL_law__2242 (by decide) (fun c_5 => ?_) (fun c_5 => ?_)
    · refine lv_goto (tgt := 2850) hx hb dL_law__2257 (by decide) ?_
      exact law_end (D := D) hst hx hb hr hml hown hts hX hbl hlocks hS (Nat.le_of_ble_eq_true rfl) (Nat.le_of_ble_eq_true rfl) (lv_sub hl [7, 2] rfl)
    · exact absurd c_5 (by decide)
  · exact absurd (by decide) c_4
set_option maxHeartbeats 8000000 in
set_option maxRecDepth 100000 in
/-- case 30: setRight -/
theorem law_30 {p : Program} {l : Launch} {e : Env} {s : State} {m : MethodId} {below : List Frame} {meth : Method} {c : Code} {D : va_G} {b : Nat} {xs : Nat → Int32} (hst : l.stackTraces = false) (hx : p.tables.exec = Jvm.exec) (hb : c.code = code) (hr : meth.sig.returnType = ret) (hml : c.maxLocals = 9) (hown : s.vm.findClass RL = some m.cls) (hts : ∀ w ∈ lw_all, w.before #[Value.ref b] s = true) (hX : va_X b 5 xs s s.heap) (hbl : b < s.heap.size) (hlocks : meth.locks = false) (hG : GE s) (hZ : ZZ (fun q : Nat => s.heap.size ≤ q) s s.heap) {e0 : Nat} (hZd : ZD e0 (fun q : Nat => s.heap.size ≤ q) s s.heap) (hZt : ZT e0 (fun q : Nat => s.heap.size ≤ q) s s.heap) (hAO : va_AO "java/lang/Object" s) {fq fv : Nat} (hSF : SF fq fv (fun q : Nat => s.heap.size ≤ q) s s.heap) (hvk : vk_R RX12 58 "fsn" fq s) {x cs th nw mi m2 ms sk o od : Nat} {cA cB : ClassId} {H : Heap} {locs : List Loc} (hK : va_K D vwCl [(cA, .long), (cB, .double)] s) (hP : va_P D vwCl [(x, .inr (11, [.ref cs, .ref th, .ref nw, .ref mi, .int 9999, .int 0, .int 0])), (cs, .inr (4, [.int 0, .ref e0, .int 0])), (th, .inr (4, [.int 0, .ref e0, .int 0])), (nw, .inr (10, [.int 10, .int 0, .int 0])), (m2, .inr (16, [.int 0, .ref ms, .ref sk, .int 0])), (ms, .inr (4, [.int 0, .ref e0, .int 0])), (sk, .inr (15, [.int 10, .int 0, .int 0, .int 9999, .int 0])), (o, .inl (cA, 1, .inr (.inl (fun _ => 0)))), (od, .inl (cB, 1, .inr (.inr (.inr (.inl (fun _ => 0))))))] H) (hD : va_D (fun q : Nat => s.heap.size ≤ q) [(x, .inr (11, [.ref cs, .ref th, .ref nw, .ref mi, .int 9999, .int 0, .int 0])), (cs, .inr (4, [.int 0, .ref e0, .int 0])), (th, .inr (4, [.int 0, .ref e0, .int 0])), (nw, .inr (10, [.int 10, .int 0, .int 0])), (m2, .inr (16, [.int 0, .ref ms, .ref sk, .int 0])), (ms, .inr (4, [.int 0, .ref e0, .int 0])), (sk, .inr (15, [.int 10, .int 0, .int 0, .int 9999, .int 0])), (o, .inl (cA, 1, .inr (.inl (fun _ => 0)))), (od, .inl (cB, 1, .inr (.inr (.inr (.inl (fun _ => 0))))))]) (hS : va_S (fun q : Nat => s.heap.size ≤ q) s.heap H locs) {ls : Array Slot} (hl : lv_has ls 9 [(5, .int 0), (4, .ref od), (3, .ref o), (2, .ref m2), (1, .ref x), (0, .ref b)]) : W p l e room_1 s m #[Value.ref b] below meth c H locs 10 70 (lw_Z below #[Value.ref b] s) (F0 m 2260 ls []) := by
  have hA : ∀ q : Nat, s.heap.size ≤ q → (fun q : Nat => s.heap.size ≤ q) q := fun _ h => h
  have hbA : ¬ (fun q : Nat => s.heap.size ≤ q) b := Nat.not_le.mpr hbl
  refine lv_aload_n hx hb dL_law__2260 rfl (lv_at hl 4 rfl) ?_
  refine lv_aload_n hx hb dL_law__2261 rfl (lv_at hl 5 rfl) ?_
  refine lv_iload hx hb dL_law__2262 (lv_at hl 0 rfl) ?_
  refine lv_iconst (v := 1) hx hb dL_law__2264 (by decide) ?_
  refine lv_iadd hx hb dL_law__2265 ?_
  refine va_sld hx hb hX hbl hbA hS (by unfold vp_in; decide) dL_law__2266 ?_
  refine lv_aload_n hx hb dL_law__2267 rfl (lv_at hl 2 rfl) ?_
  have hPc := hP.sub (ws' := [(x, .inr (11, [.ref cs, .ref th, .ref nw, .ref mi, .int 9999, .int 0, .int 0])), (cs, .inr (4, [.int 0, .ref e0, .int 0]))]) [0, 1] rfl
  have hDc := hD.sub (ws' := [(x, .inr (11, [.ref cs, .ref th, .ref nw, .ref mi, .int 9999, .int 0, .int 0])), (cs, .inr (4, [.int 0, .ref e0, .int 0]))]) [0, 1] (by decide) rfl
  have hKc := hK.sub (tys' := []) [] rfl
  refine va_calli (vx_runSW (As := [.ref x, .int (xs (Int32.toNatClampNeg (0 + 1))), .ref o]) (rest := []) ⟨hx, hb, hml, hown, hts⟩ (k_LL_setRight l hst D x cs (.ref th) (.ref nw) (.ref mi) (.int 9999) (.int 0) (.int 0) 0 (.ref e0) (xs (Int32.toNatClampNeg (0 + 1))) o H.size) (vx_cwSW 3 hts (gS q1029 q1030 q0 (gH q1031)) rfl rfl rfl (by decide +kernel) ⟨Nat.le_of_ble_eq_true rfl, Nat.le_of_ble_eq_true rfl⟩) ⟨EV.fb, fun U hU hW => ⟨rfl, EV.at hPc hKc hDc hG (hZ.no hS) U hU hW⟩⟩ rfl rfl hl.1 rfl (lv_room (Nat.le_of_ble_eq_true rfl)) dL_law__2268 ⟨Nat.le_of_ble_eq_true rfl, Nat.le_of_ble_eq_true rfl⟩) hS (fun q _ h => h.elim) (fun q h => h.elim) (fun r_1 u t H1 locs ht hvm hw hB hz1 hk1 hS => ?_)
  have hP := P_kept hP hk1
  generalize H1 = H at hP hS ⊢
  have hP : va_P D vwCl [(x, .inr (11, [.ref cs, .ref th, .ref nw, .ref mi, .int 9999, .int 0, .int 0])), (cs, .inr (4, [.int 0, .ref e0, .int 0])), (th, .inr (4, [.int 0, .ref e0, .int 0])), (nw, .inr (10, [.int 10, .int 0, .int 0])), (m2, .inr (16, [.int 0, .ref ms, .ref sk, .int 0])), (ms, .inr (4, [.int 0, .ref e0, .int 0])), (sk, .inr (15, [.int 10, .int 0, .int 0, .int 9999, .int 0])), (o, .inl (cA, 1, .inr (.inl (fun _ => 0)))), (od, .inl (cB, 1, .inr (.inr (.inr (.inl (fun _ => 0))))))] H := hP
  subst hw
  refine lv_istore (lv' := [(6, .int 1), (5, .int 0), (4, .ref od), (3, .ref o), (2, .ref m2), (1, .ref x), (0, .ref b)]) hx hb dL_law__2271 hl (by decide) rfl (fun ls hl => ?_)
  refine lv_aload_n hx hb dL_law__2273 rfl (lv_at hl 4 rfl) ?_
  refine lv_aload_n hx hb dL_law__2274 rfl (lv_at hl 6 rfl) ?_
  refine lv_iload hx hb dL_law__2275 (lv_at hl 1 rfl) ?_
  refine lv_iconst (v := 1) hx hb dL_law__2277 (by decide) ?_
  refine lv_iadd hx hb dL_law__2278 ?_
  refine va_sld hx hb hX hbl hbA hS (by unfold vp_in; decide) dL_law__2279 ?_
  have hPc := hP.sub (ws' := [(m2, .inr (16, [.int 0, .ref ms, .ref sk, .int 0])), (ms, .inr (4, [.int 0, .ref e0, .int 0]))]) [4, 5] rfl
  have hDc := hD.sub (ws' := [(m2, .inr (16, [.int 0, .ref ms, .ref sk, .int 0])), (ms, .inr (4, [.int 0, .ref e0, .int 0]))]) [4, 5] (by decide) rfl
  have hKc := hK.sub (tys' := []) [] rfl
  have hFc := va_free (wc := [(m2, .inr (16, [.int 0, .ref ms, .ref sk, .int 0])), (ms, .inr (4, [.int 0, .ref e0, .int 0]))]) hD hS hA [4, 5] rfl
  refine va_calli (va_runV (As := [.int (xs (Int32.toNatClampNeg (0 + 1)))]) (rest := []) ⟨hx, hb, hml, hown, hts⟩ (k_LM_setRight l D m2 0 ms (.ref sk) (.int 0) 0 (.ref e0) (xs (Int32.toNatClampNeg (0 + 1))) H.size) (cwV 1 hts (gV q1699 q1700 q1701 q6 (gA q1702)) rfl rfl rfl (by decide +kernel) ⟨Nat.le_of_ble_eq_true rfl, Nat.le_of_ble_eq_true rfl⟩) ⟨EV.fb, va_recv hKc hPc (ci := 16) (q0 := 0) rfl rfl, fun U hU hW => ⟨rfl, EV.at hPc hKc hDc hG (hZ.no hS) U hU hW⟩⟩ rfl rfl hl.1 rfl (lv_room (Nat.le_of_ble_eq_true rfl)) dL_law__2280 ⟨Nat.le_of_ble_eq_true rfl, Nat.le_of_ble_eq_true rfl⟩) hS (fun q _ h => hFc q h) hFc (fun r_2 u t H1 locs ht hvm hw hB hz1 hk1 hS => ?_)
  obtain ⟨hP1, hD1⟩ := hB
  rw [ht] at hP1
  obtain ⟨hP, hD⟩ := va_join (wr := [(x, .inr (11, [.ref cs, .ref th, .ref nw, .ref mi, .int 9999, .int 0, .int 0])), (cs, .inr (4, [.int 0, .ref e0, .int 0])), (th, .inr (4, [.int 0, .ref e0, .int 0])), (nw, .inr (10, [.int 10, .int 0, .int 0])), (sk, .inr (15, [.int 10, .int 0, .int 0, .int 9999, .int 0])), (o, .inl (cA, 1, .inr (.inl (fun _ => 0)))), (od, .inl (cB, 1, .inr (.inr (.inr (.inl (fun _ => 0))))))]) (w1 := [(m2, .inr (16, [.int 1, .ref ms, .ref sk, .int 0])), (ms, .inr (4, [.int 0, .ref e0, .int 0]))]) hP hD [4, 5] [0, 1, 2, 3, 6, 7, 8] rfl rfl (by decide) (by decide) hk1 hFc hP1 hD1
  generalize H1 = H at hP hS ⊢
  have hP : va_P D vwCl [(x, .inr (11, [.ref cs, .ref th, .ref nw, .ref mi, .int 9999, .int 0, .int 0])), (cs, .inr (4, [.int 0, .ref e0, .int 0])), (th, .inr (4, [.int 0, .ref e0, .int 0])), (nw, .inr (10, [.int 10, .int 0, .int 0])), (sk, .inr (15, [.int 10, .int 0, .int 0, .int 9999, .int 0])), (o, .inl (cA, 1, .inr (.inl (fun _ => 0)))), (od, .inl (cB, 1, .inr (.inr (.inr (.inl (fun _ => 0)))))), (m2, .inr (16, [.int 1, .ref ms, .ref sk, .int 0])), (ms, .inr (4, [.int 0, .ref e0, .int 0]))] H := hP
  have hD : va_D (fun q : Nat => s.heap.size ≤ q) [(x, .inr (11, [.ref cs, .ref th, .ref nw, .ref mi, .int 9999, .int 0, .int 0])), (cs, .inr (4, [.int 0, .ref e0, .int 0])), (th, .inr (4, [.int 0, .ref e0, .int 0])), (nw, .inr (10, [.int 10, .int 0, .int 0])), (sk, .inr (15, [.int 10, .int 0, .int 0, .int 9999, .int 0])), (o, .inl (cA, 1, .inr (.inl (fun _ => 0)))), (od, .inl (cB, 1, .inr (.inr (.inr (.inl (fun _ => 0)))))), (m2, .inr (16, [.int 1, .ref ms, .ref sk, .int 0])), (ms, .inr (4, [.int 0, .ref e0, .int 0]))] := hD
  refine lv_istore (lv' := [(7, .int r_2), (6, .int 1), (5, .int 0), (4, .ref od), (3, .ref o), (2, .ref m2), (1, .ref x), (0, .ref b)]) hx hb dL_law__2283 hl (by decide) rfl (fun ls hl => ?_)
  refine lv_aload_n hx hb dL_law__2285 rfl (lv_at hl 5 rfl) ?_
  have hPc := hP.sub (ws' := [(m2, .inr (16, [.int 1, .ref ms, .ref sk, .int 0]))]) [7] rfl
  have hDc := hD.sub (ws' := [(m2, .inr (16, [.int 1, .ref ms, .ref sk, .int 0]))]) [7] (by decide) rfl
  have hKc := hK.sub (tys' := []) [] rfl
  refine va_calli (va_runV (As := []) (rest := []) ⟨hx, hb, hml, hown, hts⟩ (k_LM_thrown l D m2 1 ms (.ref sk) (.int 0) 0 .null H.size) (cwV 0 hts (gV q1174 q1175 q1176 q6 (gA q1177)) rfl rfl rfl (by decide +kernel) ⟨Nat.le_of_ble_eq_true rfl, Nat.le_of_ble_eq_true rfl⟩) ⟨EV.fb, va_recv hKc hPc (ci := 16) (q0 := 0) rfl rfl, fun U hU hW => ⟨rfl, EV.at hPc hKc hDc hG (hZ.no hS) U hU hW⟩⟩ rfl rfl hl.1 rfl (lv_room (Nat.le_of_ble_eq_true rfl)) dL_law__2286 ⟨Nat.le_of_ble_eq_true rfl, Nat.le_of_ble_eq_true rfl⟩) hS (fun q _ h => h.elim) (fun q h => h.elim) (fun r_3 u t H1 locs ht hvm hw hB hz1 hk1 hS => ?_)
  have hP := P_kept hP hk1
  generalize H1 = H at hP hS ⊢
  have hP : va_P D vwCl [(x, .inr (11, [.ref cs, .ref th, .ref nw, .ref mi, .int 9999, .int 0, .int 0])), (cs, .inr (4, [.int 0, .ref e0, .int 0])), (th, .inr (4, [.int 0, .ref e0, .int 0])), (nw, .inr (10, [.int 10, .int 0, .int 0])), (sk, .inr (15, [.int 10, .int 0, .int 0, .int 9999, .int 0])), (o, .inl (cA, 1, .inr (.inl (fun _ => 0)))), (od, .inl (cB, 1, .inr (.inr (.inr (.inl (fun _ => 0)))))), (m2, .inr (16, [.int 1, .ref ms, .ref sk, .int 0])), (ms, .inr (4, [.int 0, .ref e0, .int 0]))] H := hP
  subst hw
  refine lv_iload hx hb dL_law__2289 (lv_at hl 1 rfl) ?_
  refine lv_icmp_eq (tgt := 2296) hx hb dL_law__2291 (by decide) (fun c_4 => ?_) (fun c_4 => ?_)
  · refine lv_iload hx hb dL_law__2296 (lv_at hl 1 rfl) ?_
    refine lv_if_ne (tgt := 2313) hx hb dL_law__2298 (by decide) (fun c_5 => ?_) (fun c_5 => ?_)
    · refine lv_goto (tgt := 2850) hx hb dL_law__2313 (by decide) ?_
      exact law_end (D := D) hst hx hb hr hml hown hts hX hbl hlocks hS (Nat.le_of_ble_eq_true rfl) (Nat.le_of_ble_eq_true rfl) (lv_sub hl [7, 2] rfl)
    · exact absurd c_5 (by decide)
  · exact absurd (by decide) c_4
set_option maxHeartbeats 8000000 in
set_option maxRecDepth 100000 in
/-- case 31: weigh -/
theorem law_31 {p : Program} {l : Launch} {e : Env} {s : State} {m : MethodId} {below : List Frame} {meth : Method} {c : Code} {D : va_G} {b : Nat} {xs : Nat → Int32} (hst : l.stackTraces = false) (hx : p.tables.exec = Jvm.exec) (hb : c.code = code) (hr : meth.sig.returnType = ret) (hml : c.maxLocals = 9) (hown : s.vm.findClass RL = some m.cls) (hts : ∀ w ∈ lw_all, w.before #[Value.ref b] s = true) (hX : va_X b 5 xs s s.heap) (hbl : b < s.heap.size) (hlocks : meth.locks = false) (hG : GE s) (hZ : ZZ (fun q : Nat => s.heap.size ≤ q) s s.heap) {e0 : Nat} (hZd : ZD e0 (fun q : Nat => s.heap.size ≤ q) s s.heap) (hZt : ZT e0 (fun q : Nat => s.heap.size ≤ q) s s.heap) (hAO : va_AO "java/lang/Object" s) {fq fv : Nat} (hSF : SF fq fv (fun q : Nat => s.heap.size ≤ q) s s.heap) (hvk : vk_R RX12 58 "fsn" fq s) {x cs th nw mi m2 ms sk o od : Nat} {cA cB : ClassId} {H : Heap} {locs : List Loc} (hK : va_K D vwCl [(cA, .long), (cB, .double)] s) (hP : va_P D vwCl [(x, .inr (11, [.ref cs, .ref th, .ref nw, .ref mi, .int 9999, .int 0, .int 0])), (cs, .inr (4, [.int 0, .ref e0, .int 0])), (th, .inr (4, [.int 0, .ref e0, .int 0])), (nw, .inr (10, [.int 10, .int 0, .int 0])), (m2, .inr (16, [.int 0, .ref ms, .ref sk, .int 0])), (ms, .inr (4, [.int 0, .ref e0, .int 0])), (sk, .inr (15, [.int 10, .int 0, .int 0, .int 9999, .int 0])), (o, .inl (cA, 1, .inr (.inl (fun _ => 0)))), (od, .inl (cB, 1, .inr (.inr (.inr (.inl (fun _ => 0))))))] H) (hD : va_D (fun q : Nat => s.heap.size ≤ q) [(x, .inr (11, [.ref cs, .ref th, .ref nw, .ref mi, .int 9999, .int 0, .int 0])), (cs, .inr (4, [.int 0, .ref e0, .int 0])), (th, .inr (4, [.int 0, .ref e0, .int 0])), (nw, .inr (10, [.int 10, .int 0, .int 0])), (m2, .inr (16, [.int 0, .ref ms, .ref sk, .int 0])), (ms, .inr (4, [.int 0, .ref e0, .int 0])), (sk, .inr (15, [.int 10, .int 0, .int 0, .int 9999, .int 0])), (o, .inl (cA, 1, .inr (.inl (fun _ => 0)))), (od, .inl (cB, 1, .inr (.inr (.inr (.inl (fun _ => 0))))))]) (hS : va_S (fun q : Nat => s.heap.size ≤ q) s.heap H locs) {ls : Array Slot} (hl : lv_has ls 9 [(5, .int 0), (4, .ref od), (3, .ref o), (2, .ref m2), (1, .ref x), (0, .ref b)]) : W p l e room_1 s m #[Value.ref b] below meth c H locs 10 70 (lw_Z below #[Value.ref b] s) (F0 m 2316 ls []) := by
  have hA : ∀ q : Nat, s.heap.size ≤ q → (fun q : Nat => s.heap.size ≤ q) q := fun _ h => h
  have hbA : ¬ (fun q : Nat => s.heap.size ≤ q) b := Nat.not_le.mpr hbl
  refine lv_aload_n hx hb dL_law__2316 rfl (lv_at hl 4 rfl) ?_
  refine lv_aload_n hx hb dL_law__2317 rfl (lv_at hl 5 rfl) ?_
  refine lv_iload hx hb dL_law__2318 (lv_at hl 0 rfl) ?_
  refine lv_iconst (v := 1) hx hb dL_law__2320 (by decide) ?_
  refine lv_iadd hx hb dL_law__2321 ?_
  refine va_sld hx hb hX hbl hbA hS (by unfold vp_in; decide) dL_law__2322 ?_
  refine lv_aload_n hx hb dL_law__2323 rfl (lv_at hl 2 rfl) ?_
  have hPc := hP.sub (ws' := [(x, .inr (11, [.ref cs, .ref th, .ref nw, .ref mi, .int 9999, .int 0, .int 0])), (cs, .inr (4, [.int 0, .ref e0, .int 0]))]) [0, 1] rfl
  have hDc := hD.sub (ws' := [(x, .inr (11, [.ref cs, .ref th, .ref nw, .ref mi, .int 9999, .int 0, .int 0])), (cs, .inr (4, [.int 0, .ref e0, .int 0]))]) [0, 1] (by decide) rfl
  have hKc := hK.sub (tys' := []) [] rfl
  refine va_calli (vx_runSW (As := [.ref x, .int (xs (Int32.toNatClampNeg (0 + 1))), .ref o]) (rest := []) ⟨hx, hb, hml, hown, hts⟩ (k_LL_weigh l hst D x cs (.ref th) (.ref nw) (.ref mi) (.int 9999) (.int 0) (.int 0) 0 (.ref e0) (xs (Int32.toNatClampNeg (0 + 1))) o H.size) (vx_cwSW 3 hts (gS q1036 q1037 q0 (gH q1038)) rfl rfl rfl (by decide +kernel) ⟨Nat.le_of_ble_eq_true rfl, Nat.le_of_ble_eq_true rfl⟩) ⟨EV.fb, fun U hU hW => ⟨rfl, EV.at hPc hKc hDc hG (hZ.no hS) U hU hW⟩⟩ rfl rfl hl.1 rfl (lv_room (Nat.le_of_ble_eq_true rfl)) dL_law__2324 ⟨Nat.le_of_ble_eq_true rfl, Nat.le_of_ble_eq_true rfl⟩) hS (fun q _ h => h.elim) (fun q h => h.elim) (fun r_1 u t H1 locs ht hvm hw hB hz1 hk1 hS => ?_)
  have hP := P_kept hP hk1
  generalize H1 = H at hP hS ⊢
  have hP : va_P D vwCl [(x, .inr (11, [.ref cs, .ref th, .ref nw, .ref mi, .int 9999, .int 0, .int 0])), (cs, .inr (4, [.int 0, .ref e0, .int 0])), (th, .inr (4, [.int 0, .ref e0, .int 0])), (nw, .inr (10, [.int 10, .int 0, .int 0])), (m2, .inr (16, [.int 0, .ref ms, .ref sk, .int 0])), (ms, .inr (4, [.int 0, .ref e0, .int 0])), (sk, .inr (15, [.int 10, .int 0, .int 0, .int 9999, .int 0])), (o, .inl (cA, 1, .inr (.inl (fun _ => 0)))), (od, .inl (cB, 1, .inr (.inr (.inr (.inl (fun _ => 0))))))] H := hP
  subst hw
  refine lv_istore (lv' := [(6, .int 1), (5, .int 0), (4, .ref od), (3, .ref o), (2, .ref m2), (1, .ref x), (0, .ref b)]) hx hb dL_law__2327 hl (by decide) rfl (fun ls hl => ?_)
  refine lv_aload_n hx hb dL_law__2329 rfl (lv_at hl 4 rfl) ?_
  refine lv_aload_n hx hb dL_law__2330 rfl (lv_at hl 6 rfl) ?_
  refine lv_iload hx hb dL_law__2331 (lv_at hl 1 rfl) ?_
  refine lv_iconst (v := 1) hx hb dL_law__2333 (by decide) ?_
  refine lv_iadd hx hb dL_law__2334 ?_
  refine va_sld hx hb hX hbl hbA hS (by unfold vp_in; decide) dL_law__2335 ?_
  have hPc := hP.sub (ws' := [(m2, .inr (16, [.int 0, .ref ms, .ref sk, .int 0])), (ms, .inr (4, [.int 0, .ref e0, .int 0]))]) [4, 5] rfl
  have hDc := hD.sub (ws' := [(m2, .inr (16, [.int 0, .ref ms, .ref sk, .int 0])), (ms, .inr (4, [.int 0, .ref e0, .int 0]))]) [4, 5] (by decide) rfl
  have hKc := hK.sub (tys' := []) [] rfl
  have hFc := va_free (wc := [(m2, .inr (16, [.int 0, .ref ms, .ref sk, .int 0])), (ms, .inr (4, [.int 0, .ref e0, .int 0]))]) hD hS hA [4, 5] rfl
  refine va_calli (va_runV (As := [.int (xs (Int32.toNatClampNeg (0 + 1)))]) (rest := []) ⟨hx, hb, hml, hown, hts⟩ (k_LM_weigh l D m2 0 ms (.ref sk) (.int 0) 0 (.ref e0) (xs (Int32.toNatClampNeg (0 + 1))) H.size) (cwV 1 hts (gV q1703 q1704 q1705 q6 (gA q1706)) rfl rfl rfl (by decide +kernel) ⟨Nat.le_of_ble_eq_true rfl, Nat.le_of_ble_eq_true rfl⟩) ⟨EV.fb, va_recv hKc hPc (ci := 16) (q0 := 0) rfl rfl, fun U hU hW => ⟨rfl, EV.at hPc hKc hDc hG (hZ.no hS) U hU hW⟩⟩ rfl rfl hl.1 rfl (lv_room (Nat.le_of_ble_eq_true rfl)) dL_law__2336 ⟨Nat.le_of_ble_eq_true rfl, Nat.le_of_ble_eq_true rfl⟩) hS (fun q _ h => hFc q h) hFc (fun r_2 u t H1 locs ht hvm hw hB hz1 hk1 hS => ?_)
  obtain ⟨hP1, hD1⟩ := hB
  rw [ht] at hP1
  obtain ⟨hP, hD⟩ := va_join (wr := [(x, .inr (11, [.ref cs, .ref th, .ref nw, .ref mi, .int 9999, .int 0, .int 0])), (cs, .inr (4, [.int 0, .ref e0, .int 0])), (th, .inr (4, [.int 0, .ref e0, .int 0])), (nw, .inr (10, [.int 10, .int 0, .int 0])), (sk, .inr (15, [.int 10, .int 0, .int 0, .int 9999, .int 0])), (o, .inl (cA, 1, .inr (.inl (fun _ => 0)))), (od, .inl (cB, 1, .inr (.inr (.inr (.inl (fun _ => 0))))))]) (w1 := [(m2, .inr (16, [.int 1, .ref ms, .ref sk, .int 0])), (ms, .inr (4, [.int 0, .ref e0, .int 0]))]) hP hD [4, 5] [0, 1, 2, 3, 6, 7, 8] rfl rfl (by decide) (by decide) hk1 hFc hP1 hD1
  generalize H1 = H at hP hS ⊢
  have hP : va_P D vwCl [(x, .inr (11, [.ref cs, .ref th, .ref nw, .ref mi, .int 9999, .int 0, .int 0])), (cs, .inr (4, [.int 0, .ref e0, .int 0])), (th, .inr (4, [.int 0, .ref e0, .int 0])), (nw, .inr (10, [.int 10, .int 0, .int 0])), (sk, .inr (15, [.int 10, .int 0, .int 0, .int 9999, .int 0])), (o, .inl (cA, 1, .inr (.inl (fun _ => 0)))), (od, .inl (cB, 1, .inr (.inr (.inr (.inl (fun _ => 0)))))), (m2, .inr (16, [.int 1, .ref ms, .ref sk, .int 0])), (ms, .inr (4, [.int 0, .ref e0, .int 0]))] H := hP
  have hD : va_D (fun q : Nat => s.heap.size ≤ q) [(x, .inr (11, [.ref cs, .ref th, .ref nw, .ref mi, .int 9999, .int 0, .int 0])), (cs, .inr (4, [.int 0, .ref e0, .int 0])), (th, .inr (4, [.int 0, .ref e0, .int 0])), (nw, .inr (10, [.int 10, .int 0, .int 0])), (sk, .inr (15, [.int 10, .int 0, .int 0, .int 9999, .int 0])), (o, .inl (cA, 1, .inr (.inl (fun _ => 0)))), (od, .inl (cB, 1, .inr (.inr (.inr (.inl (fun _ => 0)))))), (m2, .inr (16, [.int 1, .ref ms, .ref sk, .int 0])), (ms, .inr (4, [.int 0, .ref e0, .int 0]))] := hD
  refine lv_istore (lv' := [(7, .int r_2), (6, .int 1), (5, .int 0), (4, .ref od), (3, .ref o), (2, .ref m2), (1, .ref x), (0, .ref b)]) hx hb dL_law__2339 hl (by decide) rfl (fun ls hl => ?_)
  refine lv_aload_n hx hb dL_law__2341 rfl (lv_at hl 5 rfl) ?_
  have hPc := hP.sub (ws' := [(m2, .inr (16, [.int 1, .ref ms, .ref sk, .int 0]))]) [7] rfl
  have hDc := hD.sub (ws' := [(m2, .inr (16, [.int 1, .ref ms, .ref sk, .int 0]))]) [7] (by decide) rfl
  have hKc := hK.sub (tys' := []) [] rfl
  refine va_calli (va_runV (As := []) (rest := []) ⟨hx, hb, hml, hown, hts⟩ (k_LM_thrown l D m2 1 ms (.ref sk) (.int 0) 0 .null H.size) (cwV 0 hts (gV q1174 q1175 q1176 q6 (gA q1177)) rfl rfl rfl (by decide +kernel) ⟨Nat.le_of_ble_eq_true rfl, Nat.le_of_ble_eq_true rfl⟩) ⟨EV.fb, va_recv hKc hPc (ci := 16) (q0 := 0) rfl rfl, fun U hU hW => ⟨rfl, EV.at hPc hKc hDc hG (hZ.no hS) U hU hW⟩⟩ rfl rfl hl.1 rfl (lv_room (Nat.le_of_ble_eq_true rfl)) dL_law__2342 ⟨Nat.le_of_ble_eq_true rfl, Nat.le_of_ble_eq_true rfl⟩) hS (fun q _ h => h.elim) (fun q h => h.elim) (fun r_3 u t H1 locs ht hvm hw hB hz1 hk1 hS => ?_)
  have hP := P_kept hP hk1
  generalize H1 = H at hP hS ⊢
  have hP : va_P D vwCl [(x, .inr (11, [.ref cs, .ref th, .ref nw, .ref mi, .int 9999, .int 0, .int 0])), (cs, .inr (4, [.int 0, .ref e0, .int 0])), (th, .inr (4, [.int 0, .ref e0, .int 0])), (nw, .inr (10, [.int 10, .int 0, .int 0])), (sk, .inr (15, [.int 10, .int 0, .int 0, .int 9999, .int 0])), (o, .inl (cA, 1, .inr (.inl (fun _ => 0)))), (od, .inl (cB, 1, .inr (.inr (.inr (.inl (fun _ => 0)))))), (m2, .inr (16, [.int 1, .ref ms, .ref sk, .int 0])), (ms, .inr (4, [.int 0, .ref e0, .int 0]))] H := hP
  subst hw
  refine lv_iload hx hb dL_law__2345 (lv_at hl 1 rfl) ?_
  refine lv_icmp_eq (tgt := 2352) hx hb dL_law__2347 (by decide) (fun c_4 => ?_) (fun c_4 => ?_)
  · refine lv_iload hx hb dL_law__2352 (lv_at hl 1 rfl) ?_
    refine lv_if_ne (tgt := 2369) hx hb dL_law__2354 (by decide) (fun c_5 => ?_) (fun c_5 => ?_)
    · refine lv_goto (tgt := 2850) hx hb dL_law__2369 (by decide) ?_
      exact law_end (D := D) hst hx hb hr hml hown hts hX hbl hlocks hS (Nat.le_of_ble_eq_true rfl) (Nat.le_of_ble_eq_true rfl) (lv_sub hl [7, 2] rfl)
    · exact absurd c_5 (by decide)
  · exact absurd (by decide) c_4
set_option maxHeartbeats 8000000 in
set_option maxRecDepth 100000 in
/-- case 32: fines -/
theorem law_32 {p : Program} {l : Launch} {e : Env} {s : State} {m : MethodId} {below : List Frame} {meth : Method} {c : Code} {D : va_G} {b : Nat} {xs : Nat → Int32} (hst : l.stackTraces = false) (hx : p.tables.exec = Jvm.exec) (hb : c.code = code) (hr : meth.sig.returnType = ret) (hml : c.maxLocals = 9) (hown : s.vm.findClass RL = some m.cls) (hts : ∀ w ∈ lw_all, w.before #[Value.ref b] s = true) (hX : va_X b 5 xs s s.heap) (hbl : b < s.heap.size) (hlocks : meth.locks = false) (hG : GE s) (hZ : ZZ (fun q : Nat => s.heap.size ≤ q) s s.heap) {e0 : Nat} (hZd : ZD e0 (fun q : Nat => s.heap.size ≤ q) s s.heap) (hZt : ZT e0 (fun q : Nat => s.heap.size ≤ q) s s.heap) (hAO : va_AO "java/lang/Object" s) {fq fv : Nat} (hSF : SF fq fv (fun q : Nat => s.heap.size ≤ q) s s.heap) (hvk : vk_R RX12 58 "fsn" fq s) {x cs th nw mi m2 ms sk o od : Nat} {cA cB : ClassId} {H : Heap} {locs : List Loc} (hK : va_K D vwCl [(cA, .long), (cB, .double)] s) (hP : va_P D vwCl [(x, .inr (11, [.ref cs, .ref th, .ref nw, .ref mi, .int 9999, .int 0, .int 0])), (cs, .inr (4, [.int 0, .ref e0, .int 0])), (th, .inr (4, [.int 0, .ref e0, .int 0])), (nw, .inr (10, [.int 10, .int 0, .int 0])), (m2, .inr (16, [.int 0, .ref ms, .ref sk, .int 0])), (ms, .inr (4, [.int 0, .ref e0, .int 0])), (sk, .inr (15, [.int 10, .int 0, .int 0, .int 9999, .int 0])), (o, .inl (cA, 1, .inr (.inl (fun _ => 0)))), (od, .inl (cB, 1, .inr (.inr (.inr (.inl (fun _ => 0))))))] H) (hD : va_D (fun q : Nat => s.heap.size ≤ q) [(x, .inr (11, [.ref cs, .ref th, .ref nw, .ref mi, .int 9999, .int 0, .int 0])), (cs, .inr (4, [.int 0, .ref e0, .int 0])), (th, .inr (4, [.int 0, .ref e0, .int 0])), (nw, .inr (10, [.int 10, .int 0, .int 0])), (m2, .inr (16, [.int 0, .ref ms, .ref sk, .int 0])), (ms, .inr (4, [.int 0, .ref e0, .int 0])), (sk, .inr (15, [.int 10, .int 0, .int 0, .int 9999, .int 0])), (o, .inl (cA, 1, .inr (.inl (fun _ => 0)))), (od, .inl (cB, 1, .inr (.inr (.inr (.inl (fun _ => 0))))))]) (hS : va_S (fun q : Nat => s.heap.size ≤ q) s.heap H locs) {ls : Array Slot} (hl : lv_has ls 9 [(5, .int 0), (4, .ref od), (3, .ref o), (2, .ref m2), (1, .ref x), (0, .ref b)]) : W p l e room_1 s m #[Value.ref b] below meth c H locs 10 70 (lw_Z below #[Value.ref b] s) (F0 m 2372 ls []) := by
  have hA : ∀ q : Nat, s.heap.size ≤ q → (fun q : Nat => s.heap.size ≤ q) q := fun _ h => h
  have hbA : ¬ (fun q : Nat => s.heap.size ≤ q) b := Nat.not_le.mpr hbl
  refine lv_aload_n hx hb dL_law__2372 rfl (lv_at hl 4 rfl) ?_
  refine lv_aload_n hx hb dL_law__2373 rfl (lv_at hl 5 rfl) ?_
  refine lv_iload hx hb dL_law__2374 (lv_at hl 0 rfl) ?_
  refine lv_iconst (v := 1) hx hb dL_law__2376 (by decide) ?_
  refine lv_iadd hx hb dL_law__2377 ?_
  refine va_sld hx hb hX hbl hbA hS (by unfold vp_in; decide) dL_law__2378 ?_
  refine lv_aload_n hx hb dL_law__2379 rfl (lv_at hl 2 rfl) ?_
  have hPc := hP.sub (ws' := [(x, .inr (11, [.ref cs, .ref th, .ref nw, .ref mi, .int 9999, .int 0, .int 0])), (cs, .inr (4, [.int 0, .ref e0, .int 0]))]) [0, 1] rfl
  have hDc := hD.sub (ws' := [(x, .inr (11, [.ref cs, .ref th, .ref nw, .ref mi, .int 9999, .int 0, .int 0])), (cs, .inr (4, [.int 0, .ref e0, .int 0]))]) [0, 1] (by decide) rfl
  have hKc := hK.sub (tys' := []) [] rfl
  refine va_calli (vx_runSW (As := [.ref x, .int (xs (Int32.toNatClampNeg (0 + 1))), .ref o]) (rest := []) ⟨hx, hb, hml, hown, hts⟩ (k_LL_fines l hst D x cs (.ref th) (.ref nw) (.ref mi) (.int 9999) (.int 0) (.int 0) 0 (.ref e0) (xs (Int32.toNatClampNeg (0 + 1))) o H.size) (vx_cwSW 3 hts (gS q1044 q1045 q0 (gH q1046)) rfl rfl rfl (by decide +kernel) ⟨Nat.le_of_ble_eq_true rfl, Nat.le_of_ble_eq_true rfl⟩) ⟨EV.fb, fun U hU hW => ⟨rfl, EV.at hPc hKc hDc hG (hZ.no hS) U hU hW⟩⟩ rfl rfl hl.1 rfl (lv_room (Nat.le_of_ble_eq_true rfl)) dL_law__2380 ⟨Nat.le_of_ble_eq_true rfl, Nat.le_of_ble_eq_true rfl⟩) hS (fun q _ h => h.elim) (fun q h => h.elim) (fun r_1 u t H1 locs ht hvm hw hB hz1 hk1 hS => ?_)
  have hP := P_kept hP hk1
  generalize H1 = H at hP hS ⊢
  have hP : va_P D vwCl [(x, .inr (11, [.ref cs, .ref th, .ref nw, .ref mi, .int 9999, .int 0, .int 0])), (cs, .inr (4, [.int 0, .ref e0, .int 0])), (th, .inr (4, [.int 0, .ref e0, .int 0])), (nw, .inr (10, [.int 10, .int 0, .int 0])), (m2, .inr (16, [.int 0, .ref ms, .ref sk, .int 0])), (ms, .inr (4, [.int 0, .ref e0, .int 0])), (sk, .inr (15, [.int 10, .int 0, .int 0, .int 9999, .int 0])), (o, .inl (cA, 1, .inr (.inl (fun _ => 0)))), (od, .inl (cB, 1, .inr (.inr (.inr (.inl (fun _ => 0))))))] H := hP
  subst hw
  refine lv_istore (lv' := [(6, .int 1), (5, .int 0), (4, .ref od), (3, .ref o), (2, .ref m2), (1, .ref x), (0, .ref b)]) hx hb dL_law__2383 hl (by decide) rfl (fun ls hl => ?_)
  refine lv_aload_n hx hb dL_law__2385 rfl (lv_at hl 4 rfl) ?_
  refine lv_aload_n hx hb dL_law__2386 rfl (lv_at hl 6 rfl) ?_
  refine lv_iload hx hb dL_law__2387 (lv_at hl 1 rfl) ?_
  refine lv_iconst (v := 1) hx hb dL_law__2389 (by decide) ?_
  refine lv_iadd hx hb dL_law__2390 ?_
  refine va_sld hx hb hX hbl hbA hS (by unfold vp_in; decide) dL_law__2391 ?_
  have hPc := hP.sub (ws' := [(m2, .inr (16, [.int 0, .ref ms, .ref sk, .int 0])), (ms, .inr (4, [.int 0, .ref e0, .int 0]))]) [4, 5] rfl
  have hDc := hD.sub (ws' := [(m2, .inr (16, [.int 0, .ref ms, .ref sk, .int 0])), (ms, .inr (4, [.int 0, .ref e0, .int 0]))]) [4, 5] (by decide) rfl
  have hKc := hK.sub (tys' := []) [] rfl
  have hFc := va_free (wc := [(m2, .inr (16, [.int 0, .ref ms, .ref sk, .int 0])), (ms, .inr (4, [.int 0, .ref e0, .int 0]))]) hD hS hA [4, 5] rfl
  refine va_calll (va_runV (As := [.int (xs (Int32.toNatClampNeg (0 + 1)))]) (rest := []) ⟨hx, hb, hml, hown, hts⟩ (k_LM_fines l D m2 0 ms (.ref sk) (.int 0) 0 (.ref e0) (xs (Int32.toNatClampNeg (0 + 1))) H.size) (cwV 1 hts (gV q1707 q1708 q1709 q6 (gA q1710)) rfl rfl rfl (by decide +kernel) ⟨Nat.le_of_ble_eq_true rfl, Nat.le_of_ble_eq_true rfl⟩) ⟨EV.fb, va_recv hKc hPc (ci := 16) (q0 := 0) rfl rfl, fun U hU hW => ⟨rfl, EV.at hPc hKc hDc hG (hZ.no hS) U hU hW⟩⟩ rfl rfl hl.1 rfl (lv_room (Nat.le_of_ble_eq_true rfl)) dL_law__2392 ⟨Nat.le_of_ble_eq_true rfl, Nat.le_of_ble_eq_true rfl⟩) hS (fun q _ h => hFc q h) hFc (fun r_2 u t H1 locs ht hvm hw hB hz1 hk1 hS => ?_)
  obtain ⟨hP1, hD1⟩ := hB
  rw [ht] at hP1
  obtain ⟨hP, hD⟩ := va_join (wr := [(x, .inr (11, [.ref cs, .ref th, .ref nw, .ref mi, .int 9999, .int 0, .int 0])), (cs, .inr (4, [.int 0, .ref e0, .int 0])), (th, .inr (4, [.int 0, .ref e0, .int 0])), (nw, .inr (10, [.int 10, .int 0, .int 0])), (sk, .inr (15, [.int 10, .int 0, .int 0, .int 9999, .int 0])), (o, .inl (cA, 1, .inr (.inl (fun _ => 0)))), (od, .inl (cB, 1, .inr (.inr (.inr (.inl (fun _ => 0))))))]) (w1 := [(m2, .inr (16, [.int 1, .ref ms, .ref sk, .int 0])), (ms, .inr (4, [.int 0, .ref e0, .int 0]))]) hP hD [4, 5] [0, 1, 2, 3, 6, 7, 8] rfl rfl (by decide) (by decide) hk1 hFc hP1 hD1
  generalize H1 = H at hP hS ⊢
  have hP : va_P D vwCl [(x, .inr (11, [.ref cs, .ref th, .ref nw, .ref mi, .int 9999, .int 0, .int 0])), (cs, .inr (4, [.int 0, .ref e0, .int 0])), (th, .inr (4, [.int 0, .ref e0, .int 0])), (nw, .inr (10, [.int 10, .int 0, .int 0])), (sk, .inr (15, [.int 10, .int 0, .int 0, .int 9999, .int 0])), (o, .inl (cA, 1, .inr (.inl (fun _ => 0)))), (od, .inl (cB, 1, .inr (.inr (.inr (.inl (fun _ => 0)))))), (m2, .inr (16, [.int 1, .ref ms, .ref sk, .int 0])), (ms, .inr (4, [.int 0, .ref e0, .int 0]))] H := hP
  have hD : va_D (fun q : Nat => s.heap.size ≤ q) [(x, .inr (11, [.ref cs, .ref th, .ref nw, .ref mi, .int 9999, .int 0, .int 0])), (cs, .inr (4, [.int 0, .ref e0, .int 0])), (th, .inr (4, [.int 0, .ref e0, .int 0])), (nw, .inr (10, [.int 10, .int 0, .int 0])), (sk, .inr (15, [.int 10, .int 0, .int 0, .int 9999, .int 0])), (o, .inl (cA, 1, .inr (.inl (fun _ => 0)))), (od, .inl (cB, 1, .inr (.inr (.inr (.inl (fun _ => 0)))))), (m2, .inr (16, [.int 1, .ref ms, .ref sk, .int 0])), (ms, .inr (4, [.int 0, .ref e0, .int 0]))] := hD
  refine lv_lstore (lv' := [(7, .long r_2), (6, .int 1), (5, .int 0), (4, .ref od), (3, .ref o), (2, .ref m2), (1, .ref x), (0, .ref b)]) hx hb dL_law__2395 hl (by decide) rfl (fun ls hl => ?_)
  refine lv_aload_n hx hb dL_law__2397 rfl (lv_at hl 5 rfl) ?_
  have hPc := hP.sub (ws' := [(m2, .inr (16, [.int 1, .ref ms, .ref sk, .int 0]))]) [7] rfl
  have hDc := hD.sub (ws' := [(m2, .inr (16, [.int 1, .ref ms, .ref sk, .int 0]))]) [7] (by decide) rfl
  have hKc := hK.sub (tys' := []) [] rfl
  refine va_calli (va_runV (As := []) (rest := []) ⟨hx, hb, hml, hown, hts⟩ (k_LM_thrown l D m2 1 ms (.ref sk) (.int 0) 0 .null H.size) (cwV 0 hts (gV q1174 q1175 q1176 q6 (gA q1177)) rfl rfl rfl (by decide +kernel) ⟨Nat.le_of_ble_eq_true rfl, Nat.le_of_ble_eq_true rfl⟩) ⟨EV.fb, va_recv hKc hPc (ci := 16) (q0 := 0) rfl rfl, fun U hU hW => ⟨rfl, EV.at hPc hKc hDc hG (hZ.no hS) U hU hW⟩⟩ rfl rfl hl.1 rfl (lv_room (Nat.le_of_ble_eq_true rfl)) dL_law__2398 ⟨Nat.le_of_ble_eq_true rfl, Nat.le_of_ble_eq_true rfl⟩) hS (fun q _ h => h.elim) (fun q h => h.elim) (fun r_3 u t H1 locs ht hvm hw hB hz1 hk1 hS => ?_)
  have hP := P_kept hP hk1
  generalize H1 = H at hP hS ⊢
  have hP : va_P D vwCl [(x, .inr (11, [.ref cs, .ref th, .ref nw, .ref mi, .int 9999, .int 0, .int 0])), (cs, .inr (4, [.int 0, .ref e0, .int 0])), (th, .inr (4, [.int 0, .ref e0, .int 0])), (nw, .inr (10, [.int 10, .int 0, .int 0])), (sk, .inr (15, [.int 10, .int 0, .int 0, .int 9999, .int 0])), (o, .inl (cA, 1, .inr (.inl (fun _ => 0)))), (od, .inl (cB, 1, .inr (.inr (.inr (.inl (fun _ => 0)))))), (m2, .inr (16, [.int 1, .ref ms, .ref sk, .int 0])), (ms, .inr (4, [.int 0, .ref e0, .int 0]))] H := hP
  subst hw
  refine lv_iload hx hb dL_law__2401 (lv_at hl 1 rfl) ?_
  refine lv_icmp_eq (tgt := 2408) hx hb dL_law__2403 (by decide) (fun c_4 => ?_) (fun c_4 => ?_)
  · refine lv_iload hx hb dL_law__2408 (lv_at hl 1 rfl) ?_
    refine lv_if_ne (tgt := 2424) hx hb dL_law__2410 (by decide) (fun c_5 => ?_) (fun c_5 => ?_)
    · refine lv_goto (tgt := 2850) hx hb dL_law__2424 (by decide) ?_
      exact law_end (D := D) hst hx hb hr hml hown hts hX hbl hlocks hS (Nat.le_of_ble_eq_true rfl) (Nat.le_of_ble_eq_true rfl) (lv_sub hl [7, 2] rfl)
    · exact absurd c_5 (by decide)
  · exact absurd (by decide) c_4
set_option maxHeartbeats 8000000 in
set_option maxRecDepth 100000 in
/-- case 33: forecast -/
theorem law_33 {p : Program} {l : Launch} {e : Env} {s : State} {m : MethodId} {below : List Frame} {meth : Method} {c : Code} {D : va_G} {b : Nat} {xs : Nat → Int32} (hst : l.stackTraces = false) (hx : p.tables.exec = Jvm.exec) (hb : c.code = code) (hr : meth.sig.returnType = ret) (hml : c.maxLocals = 9) (hown : s.vm.findClass RL = some m.cls) (hts : ∀ w ∈ lw_all, w.before #[Value.ref b] s = true) (hX : va_X b 5 xs s s.heap) (hbl : b < s.heap.size) (hlocks : meth.locks = false) (hG : GE s) (hZ : ZZ (fun q : Nat => s.heap.size ≤ q) s s.heap) {e0 : Nat} (hZd : ZD e0 (fun q : Nat => s.heap.size ≤ q) s s.heap) (hZt : ZT e0 (fun q : Nat => s.heap.size ≤ q) s s.heap) (hAO : va_AO "java/lang/Object" s) {fq fv : Nat} (hSF : SF fq fv (fun q : Nat => s.heap.size ≤ q) s s.heap) (hvk : vk_R RX12 58 "fsn" fq s) {x cs th nw mi m2 ms sk o od : Nat} {cA cB : ClassId} {H : Heap} {locs : List Loc} (hK : va_K D vwCl [(cA, .long), (cB, .double)] s) (hP : va_P D vwCl [(x, .inr (11, [.ref cs, .ref th, .ref nw, .ref mi, .int 9999, .int 0, .int 0])), (cs, .inr (4, [.int 0, .ref e0, .int 0])), (th, .inr (4, [.int 0, .ref e0, .int 0])), (nw, .inr (10, [.int 10, .int 0, .int 0])), (m2, .inr (16, [.int 0, .ref ms, .ref sk, .int 0])), (ms, .inr (4, [.int 0, .ref e0, .int 0])), (sk, .inr (15, [.int 10, .int 0, .int 0, .int 9999, .int 0])), (o, .inl (cA, 1, .inr (.inl (fun _ => 0)))), (od, .inl (cB, 1, .inr (.inr (.inr (.inl (fun _ => 0))))))] H) (hD : va_D (fun q : Nat => s.heap.size ≤ q) [(x, .inr (11, [.ref cs, .ref th, .ref nw, .ref mi, .int 9999, .int 0, .int 0])), (cs, .inr (4, [.int 0, .ref e0, .int 0])), (th, .inr (4, [.int 0, .ref e0, .int 0])), (nw, .inr (10, [.int 10, .int 0, .int 0])), (m2, .inr (16, [.int 0, .ref ms, .ref sk, .int 0])), (ms, .inr (4, [.int 0, .ref e0, .int 0])), (sk, .inr (15, [.int 10, .int 0, .int 0, .int 9999, .int 0])), (o, .inl (cA, 1, .inr (.inl (fun _ => 0)))), (od, .inl (cB, 1, .inr (.inr (.inr (.inl (fun _ => 0))))))]) (hS : va_S (fun q : Nat => s.heap.size ≤ q) s.heap H locs) {ls : Array Slot} (hl : lv_has ls 9 [(5, .int 0), (4, .ref od), (3, .ref o), (2, .ref m2), (1, .ref x), (0, .ref b)]) : W p l e room_1 s m #[Value.ref b] below meth c H locs 10 70 (lw_Z below #[Value.ref b] s) (F0 m 2427 ls []) := by
  have hA : ∀ q : Nat, s.heap.size ≤ q → (fun q : Nat => s.heap.size ≤ q) q := fun _ h => h
  have hbA : ¬ (fun q : Nat => s.heap.size ≤ q) b := Nat.not_le.mpr hbl
  refine lv_aload_n hx hb dL_law__2427 rfl (lv_at hl 4 rfl) ?_
  refine lv_aload_n hx hb dL_law__2428 rfl (lv_at hl 5 rfl) ?_
  refine lv_iload hx hb dL_law__2429 (lv_at hl 0 rfl) ?_
  refine lv_iconst (v := 1) hx hb dL_law__2431 (by decide) ?_
  refine lv_iadd hx hb dL_law__2432 ?_
  refine va_sld hx hb hX hbl hbA hS (by unfold vp_in; decide) dL_law__2433 ?_
  refine lv_aload_n hx hb dL_law__2434 rfl (lv_at hl 5 rfl) ?_
  refine lv_iload hx hb dL_law__2435 (lv_at hl 0 rfl) ?_
  refine lv_iconst (v := 2) hx hb dL_law__2437 (by decide) ?_
  refine lv_iadd hx hb dL_law__2438 ?_
  refine va_sld hx hb hX hbl hbA hS (by unfold vp_in; decide) dL_law__2439 ?_
  refine lv_aload_n hx hb dL_law__2440 rfl (lv_at hl 5 rfl) ?_
  refine lv_iload hx hb dL_law__2441 (lv_at hl 0 rfl) ?_
  refine lv_iconst (v := 3) hx hb dL_law__2443 (by decide) ?_
  refine lv_iadd hx hb dL_law__2444 ?_
  refine va_sld hx hb hX hbl hbA hS (by unfold vp_in; decide) dL_law__2445 ?_
  refine lv_aload_n hx hb dL_law__2446 rfl (lv_at hl 2 rfl) ?_
  have hPc := hP.sub (ws' := [(x, .inr (11, [.ref cs, .ref th, .ref nw, .ref mi, .int 9999, .int 0, .int 0])), (cs, .inr (4, [.int 0, .ref e0, .int 0]))]) [0, 1] rfl
  have hDc := hD.sub (ws' := [(x, .inr (11, [.ref cs, .ref th, .ref nw, .ref mi, .int 9999, .int 0, .int 0])), (cs, .inr (4, [.int 0, .ref e0, .int 0]))]) [0, 1] (by decide) rfl
  have hKc := hK.sub (tys' := []) [] rfl
  refine va_calli (vx_runSW (As := [.ref x, .int (xs (Int32.toNatClampNeg (0 + 1))), .int (xs (Int32.toNatClampNeg (0 + 2))), .int (xs (Int32.toNatClampNeg (0 + 3))), .ref o]) (rest := []) ⟨hx, hb, hml, hown, hts⟩ (k_LL_forecast l hst D x cs (.ref th) (.ref nw) (.ref mi) (.int 9999) (.int 0) (.int 0) 0 (.ref e0) (xs (Int32.toNatClampNeg (0 + 1))) (xs (Int32.toNatClampNeg (0 + 2))) (xs (Int32.toNatClampNeg (0 + 3))) o H.size) (vx_cwSW 5 hts (gS q1051 q1052 q0 (gH q1053)) rfl rfl rfl (by decide +kernel) ⟨Nat.le_of_ble_eq_true rfl, Nat.le_of_ble_eq_true rfl⟩) ⟨EV.fb, fun U hU hW => ⟨rfl, EV.at hPc hKc hDc hG (hZ.no hS) U hU hW⟩⟩ rfl rfl hl.1 rfl (lv_room (Nat.le_of_ble_eq_true rfl)) dL_law__2447 ⟨Nat.le_of_ble_eq_true rfl, Nat.le_of_ble_eq_true rfl⟩) hS (fun q _ h => h.elim) (fun q h => h.elim) (fun r_1 u t H1 locs ht hvm hw hB hz1 hk1 hS => ?_)
  have hP := P_kept hP hk1
  generalize H1 = H at hP hS ⊢
  have hP : va_P D vwCl [(x, .inr (11, [.ref cs, .ref th, .ref nw, .ref mi, .int 9999, .int 0, .int 0])), (cs, .inr (4, [.int 0, .ref e0, .int 0])), (th, .inr (4, [.int 0, .ref e0, .int 0])), (nw, .inr (10, [.int 10, .int 0, .int 0])), (m2, .inr (16, [.int 0, .ref ms, .ref sk, .int 0])), (ms, .inr (4, [.int 0, .ref e0, .int 0])), (sk, .inr (15, [.int 10, .int 0, .int 0, .int 9999, .int 0])), (o, .inl (cA, 1, .inr (.inl (fun _ => 0)))), (od, .inl (cB, 1, .inr (.inr (.inr (.inl (fun _ => 0))))))] H := hP
  subst hw
  refine lv_istore (lv' := [(6, .int 1), (5, .int 0), (4, .ref od), (3, .ref o), (2, .ref m2), (1, .ref x), (0, .ref b)]) hx hb dL_law__2450 hl (by decide) rfl (fun ls hl => ?_)
  refine lv_aload_n hx hb dL_law__2452 rfl (lv_at hl 4 rfl) ?_
  refine lv_aload_n hx hb dL_law__2453 rfl (lv_at hl 6 rfl) ?_
  refine lv_iload hx hb dL_law__2454 (lv_at hl 1 rfl) ?_
  refine lv_iconst (v := 1) hx hb dL_law__2456 (by decide) ?_
  refine lv_iadd hx hb dL_law__2457 ?_
  refine va_sld hx hb hX hbl hbA hS (by unfold vp_in; decide) dL_law__2458 ?_
  refine lv_aload_n hx hb dL_law__2459 rfl (lv_at hl 6 rfl) ?_
  refine lv_iload hx hb dL_law__2460 (lv_at hl 1 rfl) ?_
  refine lv_iconst (v := 2) hx hb dL_law__2462 (by decide) ?_
  refine lv_iadd hx hb dL_law__2463 ?_
  refine va_sld hx hb hX hbl hbA hS (by unfold vp_in; decide) dL_law__2464 ?_
  refine lv_aload_n hx hb dL_law__2465 rfl (lv_at hl 6 rfl) ?_
  refine lv_iload hx hb dL_law__2466 (lv_at hl 1 rfl) ?_
  refine lv_iconst (v := 3) hx hb dL_law__2468 (by decide) ?_
  refine lv_iadd hx hb dL_law__2469 ?_
  refine va_sld hx hb hX hbl hbA hS (by unfold vp_in; decide) dL_law__2470 ?_
  have hPc := hP.sub (ws' := [(m2, .inr (16, [.int 0, .ref ms, .ref sk, .int 0])), (ms, .inr (4, [.int 0, .ref e0, .int 0]))]) [4, 5] rfl
  have hDc := hD.sub (ws' := [(m2, .inr (16, [.int 0, .ref ms, .ref sk, .int 0])), (ms, .inr (4, [.int 0, .ref e0, .int 0]))]) [4, 5] (by decide) rfl
  have hKc := hK.sub (tys' := []) [] rfl
  have hFc := va_free (wc := [(m2, .inr (16, [.int 0, .ref ms, .ref sk, .int 0])), (ms, .inr (4, [.int 0, .ref e0, .int 0]))]) hD hS hA [4, 5] rfl
  refine va_calll (va_runV (As := [.int (xs (Int32.toNatClampNeg (0 + 1))), .int (xs (Int32.toNatClampNeg (0 + 2))), .int (xs (Int32.toNatClampNeg (0 + 3)))]) (rest := []) ⟨hx, hb, hml, hown, hts⟩ (k_LM_forecast l D m2 0 ms (.ref sk) (.int 0) 0 (.ref e0) (xs (Int32.toNatClampNeg (0 + 1))) (xs (Int32.toNatClampNeg (0 + 2))) (xs (Int32.toNatClampNeg (0 + 3))) H.size) (cwV 3 hts (gV q1711 q1712 q1713 q6 (gA q1714)) rfl rfl rfl (by decide +kernel) ⟨Nat.le_of_ble_eq_true rfl, Nat.le_of_ble_eq_true rfl⟩) ⟨EV.fb, va_recv hKc hPc (ci := 16) (q0 := 0) rfl rfl, fun U hU hW => ⟨rfl, EV.at hPc hKc hDc hG (hZ.no hS) U hU hW⟩⟩ rfl rfl hl.1 rfl (lv_room (Nat.le_of_ble_eq_true rfl)) dL_law__2471 ⟨Nat.le_of_ble_eq_true rfl, Nat.le_of_ble_eq_true rfl⟩) hS (fun q _ h => hFc q h) hFc (fun r_2 u t H1 locs ht hvm hw hB hz1 hk1 hS => ?_)
  obtain ⟨hP1, hD1⟩ := hB
  rw [ht] at hP1
  obtain ⟨hP, hD⟩ := va_join (wr := [(x, .inr (11, [.ref cs, .ref th, .ref nw, .ref mi, .int 9999, .int 0, .int 0])), (cs, .inr (4, [.int 0, .ref e0, .int 0])), (th, .inr (4, [.int 0, .ref e0, .int 0])), (nw, .inr (10, [.int 10, .int 0, .int 0])), (sk, .inr (15, [.int 10, .int 0, .int 0, .int 9999, .int 0])), (o, .inl (cA, 1, .inr (.inl (fun _ => 0)))), (od, .inl (cB, 1, .inr (.inr (.inr (.inl (fun _ => 0))))))]) (w1 := [(m2, .inr (16, [.int 1, .ref ms, .ref sk, .int 0])), (ms, .inr (4, [.int 0, .ref e0, .int 0]))]) hP hD [4, 5] [0, 1, 2, 3, 6, 7, 8] rfl rfl (by decide) (by decide) hk1 hFc hP1 hD1
  generalize H1 = H at hP hS ⊢
  have hP : va_P D vwCl [(x, .inr (11, [.ref cs, .ref th, .ref nw, .ref mi, .int 9999, .int 0, .int 0])), (cs, .inr (4, [.int 0, .ref e0, .int 0])), (th, .inr (4, [.int 0, .ref e0, .int 0])), (nw, .inr (10, [.int 10, .int 0, .int 0])), (sk, .inr (15, [.int 10, .int 0, .int 0, .int 9999, .int 0])), (o, .inl (cA, 1, .inr (.inl (fun _ => 0)))), (od, .inl (cB, 1, .inr (.inr (.inr (.inl (fun _ => 0)))))), (m2, .inr (16, [.int 1, .ref ms, .ref sk, .int 0])), (ms, .inr (4, [.int 0, .ref e0, .int 0]))] H := hP
  have hD : va_D (fun q : Nat => s.heap.size ≤ q) [(x, .inr (11, [.ref cs, .ref th, .ref nw, .ref mi, .int 9999, .int 0, .int 0])), (cs, .inr (4, [.int 0, .ref e0, .int 0])), (th, .inr (4, [.int 0, .ref e0, .int 0])), (nw, .inr (10, [.int 10, .int 0, .int 0])), (sk, .inr (15, [.int 10, .int 0, .int 0, .int 9999, .int 0])), (o, .inl (cA, 1, .inr (.inl (fun _ => 0)))), (od, .inl (cB, 1, .inr (.inr (.inr (.inl (fun _ => 0)))))), (m2, .inr (16, [.int 1, .ref ms, .ref sk, .int 0])), (ms, .inr (4, [.int 0, .ref e0, .int 0]))] := hD
  refine lv_lstore (lv' := [(7, .long r_2), (6, .int 1), (5, .int 0), (4, .ref od), (3, .ref o), (2, .ref m2), (1, .ref x), (0, .ref b)]) hx hb dL_law__2474 hl (by decide) rfl (fun ls hl => ?_)
  refine lv_aload_n hx hb dL_law__2476 rfl (lv_at hl 5 rfl) ?_
  have hPc := hP.sub (ws' := [(m2, .inr (16, [.int 1, .ref ms, .ref sk, .int 0]))]) [7] rfl
  have hDc := hD.sub (ws' := [(m2, .inr (16, [.int 1, .ref ms, .ref sk, .int 0]))]) [7] (by decide) rfl
  have hKc := hK.sub (tys' := []) [] rfl
  refine va_calli (va_runV (As := []) (rest := []) ⟨hx, hb, hml, hown, hts⟩ (k_LM_thrown l D m2 1 ms (.ref sk) (.int 0) 0 .null H.size) (cwV 0 hts (gV q1174 q1175 q1176 q6 (gA q1177)) rfl rfl rfl (by decide +kernel) ⟨Nat.le_of_ble_eq_true rfl, Nat.le_of_ble_eq_true rfl⟩) ⟨EV.fb, va_recv hKc hPc (ci := 16) (q0 := 0) rfl rfl, fun U hU hW => ⟨rfl, EV.at hPc hKc hDc hG (hZ.no hS) U hU hW⟩⟩ rfl rfl hl.1 rfl (lv_room (Nat.le_of_ble_eq_true rfl)) dL_law__2477 ⟨Nat.le_of_ble_eq_true rfl, Nat.le_of_ble_eq_true rfl⟩) hS (fun q _ h => h.elim) (fun q h => h.elim) (fun r_3 u t H1 locs ht hvm hw hB hz1 hk1 hS => ?_)
  have hP := P_kept hP hk1
  generalize H1 = H at hP hS ⊢
  have hP : va_P D vwCl [(x, .inr (11, [.ref cs, .ref th, .ref nw, .ref mi, .int 9999, .int 0, .int 0])), (cs, .inr (4, [.int 0, .ref e0, .int 0])), (th, .inr (4, [.int 0, .ref e0, .int 0])), (nw, .inr (10, [.int 10, .int 0, .int 0])), (sk, .inr (15, [.int 10, .int 0, .int 0, .int 9999, .int 0])), (o, .inl (cA, 1, .inr (.inl (fun _ => 0)))), (od, .inl (cB, 1, .inr (.inr (.inr (.inl (fun _ => 0)))))), (m2, .inr (16, [.int 1, .ref ms, .ref sk, .int 0])), (ms, .inr (4, [.int 0, .ref e0, .int 0]))] H := hP
  subst hw
  refine lv_iload hx hb dL_law__2480 (lv_at hl 1 rfl) ?_
  refine lv_icmp_eq (tgt := 2487) hx hb dL_law__2482 (by decide) (fun c_4 => ?_) (fun c_4 => ?_)
  · refine lv_iload hx hb dL_law__2487 (lv_at hl 1 rfl) ?_
    refine lv_if_ne (tgt := 2503) hx hb dL_law__2489 (by decide) (fun c_5 => ?_) (fun c_5 => ?_)
    · refine lv_goto (tgt := 2850) hx hb dL_law__2503 (by decide) ?_
      exact law_end (D := D) hst hx hb hr hml hown hts hX hbl hlocks hS (Nat.le_of_ble_eq_true rfl) (Nat.le_of_ble_eq_true rfl) (lv_sub hl [7, 2] rfl)
    · exact absurd c_5 (by decide)
  · exact absurd (by decide) c_4
set_option maxHeartbeats 8000000 in
set_option maxRecDepth 100000 in
/-- case 34: fits -/
theorem law_34 {p : Program} {l : Launch} {e : Env} {s : State} {m : MethodId} {below : List Frame} {meth : Method} {c : Code} {D : va_G} {b : Nat} {xs : Nat → Int32} (hst : l.stackTraces = false) (hx : p.tables.exec = Jvm.exec) (hb : c.code = code) (hr : meth.sig.returnType = ret) (hml : c.maxLocals = 9) (hown : s.vm.findClass RL = some m.cls) (hts : ∀ w ∈ lw_all, w.before #[Value.ref b] s = true) (hX : va_X b 5 xs s s.heap) (hbl : b < s.heap.size) (hlocks : meth.locks = false) (hG : GE s) (hZ : ZZ (fun q : Nat => s.heap.size ≤ q) s s.heap) {e0 : Nat} (hZd : ZD e0 (fun q : Nat => s.heap.size ≤ q) s s.heap) (hZt : ZT e0 (fun q : Nat => s.heap.size ≤ q) s s.heap) (hAO : va_AO "java/lang/Object" s) {fq fv : Nat} (hSF : SF fq fv (fun q : Nat => s.heap.size ≤ q) s s.heap) (hvk : vk_R RX12 58 "fsn" fq s) {x cs th nw mi m2 ms sk o od : Nat} {cA cB : ClassId} {H : Heap} {locs : List Loc} (hK : va_K D vwCl [(cA, .long), (cB, .double)] s) (hP : va_P D vwCl [(x, .inr (11, [.ref cs, .ref th, .ref nw, .ref mi, .int 9999, .int 0, .int 0])), (cs, .inr (4, [.int 0, .ref e0, .int 0])), (th, .inr (4, [.int 0, .ref e0, .int 0])), (nw, .inr (10, [.int 10, .int 0, .int 0])), (m2, .inr (16, [.int 0, .ref ms, .ref sk, .int 0])), (ms, .inr (4, [.int 0, .ref e0, .int 0])), (sk, .inr (15, [.int 10, .int 0, .int 0, .int 9999, .int 0])), (o, .inl (cA, 1, .inr (.inl (fun _ => 0)))), (od, .inl (cB, 1, .inr (.inr (.inr (.inl (fun _ => 0))))))] H) (hD : va_D (fun q : Nat => s.heap.size ≤ q) [(x, .inr (11, [.ref cs, .ref th, .ref nw, .ref mi, .int 9999, .int 0, .int 0])), (cs, .inr (4, [.int 0, .ref e0, .int 0])), (th, .inr (4, [.int 0, .ref e0, .int 0])), (nw, .inr (10, [.int 10, .int 0, .int 0])), (m2, .inr (16, [.int 0, .ref ms, .ref sk, .int 0])), (ms, .inr (4, [.int 0, .ref e0, .int 0])), (sk, .inr (15, [.int 10, .int 0, .int 0, .int 9999, .int 0])), (o, .inl (cA, 1, .inr (.inl (fun _ => 0)))), (od, .inl (cB, 1, .inr (.inr (.inr (.inl (fun _ => 0))))))]) (hS : va_S (fun q : Nat => s.heap.size ≤ q) s.heap H locs) {ls : Array Slot} (hl : lv_has ls 9 [(5, .int 0), (4, .ref od), (3, .ref o), (2, .ref m2), (1, .ref x), (0, .ref b)]) : W p l e room_1 s m #[Value.ref b] below meth c H locs 10 70 (lw_Z below #[Value.ref b] s) (F0 m 2506 ls []) := by
  have hA : ∀ q : Nat, s.heap.size ≤ q → (fun q : Nat => s.heap.size ≤ q) q := fun _ h => h
  have hbA : ¬ (fun q : Nat => s.heap.size ≤ q) b := Nat.not_le.mpr hbl
  refine lv_aload_n hx hb dL_law__2506 rfl (lv_at hl 4 rfl) ?_
  refine lv_aload_n hx hb dL_law__2507 rfl (lv_at hl 5 rfl) ?_
  refine lv_iload hx hb dL_law__2508 (lv_at hl 0 rfl) ?_
  refine lv_iconst (v := 1) hx hb dL_law__2510 (by decide) ?_
  refine lv_iadd hx hb dL_law__2511 ?_
  refine va_sld hx hb hX hbl hbA hS (by unfold vp_in; decide) dL_law__2512 ?_
  refine lv_aload_n hx hb dL_law__2513 rfl (lv_at hl 5 rfl) ?_
  refine lv_iload hx hb dL_law__2514 (lv_at hl 0 rfl) ?_
  refine lv_iconst (v := 2) hx hb dL_law__2516 (by decide) ?_
  refine lv_iadd hx hb dL_law__2517 ?_
  refine va_sld hx hb hX hbl hbA hS (by unfold vp_in; decide) dL_law__2518 ?_
  refine lv_aload_n hx hb dL_law__2519 rfl (lv_at hl 5 rfl) ?_
  refine lv_iload hx hb dL_law__2520 (lv_at hl 0 rfl) ?_
  refine lv_iconst (v := 3) hx hb dL_law__2522 (by decide) ?_
  refine lv_iadd hx hb dL_law__2523 ?_
  refine va_sld hx hb hX hbl hbA hS (by unfold vp_in; decide) dL_law__2524 ?_
  refine lv_aload_n hx hb dL_law__2525 rfl (lv_at hl 2 rfl) ?_
  have hPc := hP.sub (ws' := [(x, .inr (11, [.ref cs, .ref th, .ref nw, .ref mi, .int 9999, .int 0, .int 0])), (cs, .inr (4, [.int 0, .ref e0, .int 0]))]) [0, 1] rfl
  have hDc := hD.sub (ws' := [(x, .inr (11, [.ref cs, .ref th, .ref nw, .ref mi, .int 9999, .int 0, .int 0])), (cs, .inr (4, [.int 0, .ref e0, .int 0]))]) [0, 1] (by decide) rfl
  have hKc := hK.sub (tys' := []) [] rfl
  refine va_calli (vx_runSW (As := [.ref x, .int (xs (Int32.toNatClampNeg (0 + 1))), .int (xs (Int32.toNatClampNeg (0 + 2))), .int (xs (Int32.toNatClampNeg (0 + 3))), .ref o]) (rest := []) ⟨hx, hb, hml, hown, hts⟩ (k_LL_fits l hst D x cs (.ref th) (.ref nw) (.ref mi) (.int 9999) (.int 0) (.int 0) 0 (.ref e0) (xs (Int32.toNatClampNeg (0 + 1))) (xs (Int32.toNatClampNeg (0 + 2))) (xs (Int32.toNatClampNeg (0 + 3))) o H.size) (vx_cwSW 5 hts (gS q1058 q1059 q0 (gH q1060)) rfl rfl rfl (by decide +kernel) ⟨Nat.le_of_ble_eq_true rfl, Nat.le_of_ble_eq_true rfl⟩) ⟨EV.fb, fun U hU hW => ⟨rfl, EV.at hPc hKc hDc hG (hZ.no hS) U hU hW⟩⟩ rfl rfl hl.1 rfl (lv_room (Nat.le_of_ble_eq_true rfl)) dL_law__2526 ⟨Nat.le_of_ble_eq_true rfl, Nat.le_of_ble_eq_true rfl⟩) hS (fun q _ h => h.elim) (fun q h => h.elim) (fun r_1 u t H1 locs ht hvm hw hB hz1 hk1 hS => ?_)
  have hP := P_kept hP hk1
  generalize H1 = H at hP hS ⊢
  have hP : va_P D vwCl [(x, .inr (11, [.ref cs, .ref th, .ref nw, .ref mi, .int 9999, .int 0, .int 0])), (cs, .inr (4, [.int 0, .ref e0, .int 0])), (th, .inr (4, [.int 0, .ref e0, .int 0])), (nw, .inr (10, [.int 10, .int 0, .int 0])), (m2, .inr (16, [.int 0, .ref ms, .ref sk, .int 0])), (ms, .inr (4, [.int 0, .ref e0, .int 0])), (sk, .inr (15, [.int 10, .int 0, .int 0, .int 9999, .int 0])), (o, .inl (cA, 1, .inr (.inl (fun _ => 0)))), (od, .inl (cB, 1, .inr (.inr (.inr (.inl (fun _ => 0))))))] H := hP
  subst hw
  refine lv_istore (lv' := [(6, .int 1), (5, .int 0), (4, .ref od), (3, .ref o), (2, .ref m2), (1, .ref x), (0, .ref b)]) hx hb dL_law__2529 hl (by decide) rfl (fun ls hl => ?_)
  refine lv_aload_n hx hb dL_law__2531 rfl (lv_at hl 4 rfl) ?_
  refine lv_aload_n hx hb dL_law__2532 rfl (lv_at hl 6 rfl) ?_
  refine lv_iload hx hb dL_law__2533 (lv_at hl 1 rfl) ?_
  refine lv_iconst (v := 1) hx hb dL_law__2535 (by decide) ?_
  refine lv_iadd hx hb dL_law__2536 ?_
  refine va_sld hx hb hX hbl hbA hS (by unfold vp_in; decide) dL_law__2537 ?_
  refine lv_aload_n hx hb dL_law__2538 rfl (lv_at hl 6 rfl) ?_
  refine lv_iload hx hb dL_law__2539 (lv_at hl 1 rfl) ?_
  refine lv_iconst (v := 2) hx hb dL_law__2541 (by decide) ?_
  refine lv_iadd hx hb dL_law__2542 ?_
  refine va_sld hx hb hX hbl hbA hS (by unfold vp_in; decide) dL_law__2543 ?_
  refine lv_aload_n hx hb dL_law__2544 rfl (lv_at hl 6 rfl) ?_
  refine lv_iload hx hb dL_law__2545 (lv_at hl 1 rfl) ?_
  refine lv_iconst (v := 3) hx hb dL_law__2547 (by decide) ?_
  refine lv_iadd hx hb dL_law__2548 ?_
  refine va_sld hx hb hX hbl hbA hS (by unfold vp_in; decide) dL_law__2549 ?_
  have hPc := hP.sub (ws' := [(m2, .inr (16, [.int 0, .ref ms, .ref sk, .int 0])), (ms, .inr (4, [.int 0, .ref e0, .int 0]))]) [4, 5] rfl
  have hDc := hD.sub (ws' := [(m2, .inr (16, [.int 0, .ref ms, .ref sk, .int 0])), (ms, .inr (4, [.int 0, .ref e0, .int 0]))]) [4, 5] (by decide) rfl
  have hKc := hK.sub (tys' := []) [] rfl
  have hFc := va_free (wc := [(m2, .inr (16, [.int 0, .ref ms, .ref sk, .int 0])), (ms, .inr (4, [.int 0, .ref e0, .int 0]))]) hD hS hA [4, 5] rfl
  refine va_calli (va_runV (As := [.int (xs (Int32.toNatClampNeg (0 + 1))), .int (xs (Int32.toNatClampNeg (0 + 2))), .int (xs (Int32.toNatClampNeg (0 + 3)))]) (rest := []) ⟨hx, hb, hml, hown, hts⟩ (k_LM_fits l D m2 0 ms (.ref sk) (.int 0) 0 (.ref e0) (xs (Int32.toNatClampNeg (0 + 1))) (xs (Int32.toNatClampNeg (0 + 2))) (xs (Int32.toNatClampNeg (0 + 3))) H.size) (cwV 3 hts (gV q1733 q1734 q1735 q6 (gA q1736)) rfl rfl rfl (by decide +kernel) ⟨Nat.le_of_ble_eq_true rfl, Nat.le_of_ble_eq_true rfl⟩) ⟨EV.fb, va_recv hKc hPc (ci := 16) (q0 := 0) rfl rfl, fun U hU hW => ⟨rfl, EV.at hPc hKc hDc hG (hZ.no hS) U hU hW⟩⟩ rfl rfl hl.1 rfl (lv_room (Nat.le_of_ble_eq_true rfl)) dL_law__2550 ⟨Nat.le_of_ble_eq_true rfl, Nat.le_of_ble_eq_true rfl⟩) hS (fun q _ h => hFc q h) hFc (fun r_2 u t H1 locs ht hvm hw hB hz1 hk1 hS => ?_)
  obtain ⟨hP1, hD1⟩ := hB
  rw [ht] at hP1
  obtain ⟨hP, hD⟩ := va_join (wr := [(x, .inr (11, [.ref cs, .ref th, .ref nw, .ref mi, .int 9999, .int 0, .int 0])), (cs, .inr (4, [.int 0, .ref e0, .int 0])), (th, .inr (4, [.int 0, .ref e0, .int 0])), (nw, .inr (10, [.int 10, .int 0, .int 0])), (sk, .inr (15, [.int 10, .int 0, .int 0, .int 9999, .int 0])), (o, .inl (cA, 1, .inr (.inl (fun _ => 0)))), (od, .inl (cB, 1, .inr (.inr (.inr (.inl (fun _ => 0))))))]) (w1 := [(m2, .inr (16, [.int 1, .ref ms, .ref sk, .int 0])), (ms, .inr (4, [.int 0, .ref e0, .int 0]))]) hP hD [4, 5] [0, 1, 2, 3, 6, 7, 8] rfl rfl (by decide) (by decide) hk1 hFc hP1 hD1
  generalize H1 = H at hP hS ⊢
  have hP : va_P D vwCl [(x, .inr (11, [.ref cs, .ref th, .ref nw, .ref mi, .int 9999, .int 0, .int 0])), (cs, .inr (4, [.int 0, .ref e0, .int 0])), (th, .inr (4, [.int 0, .ref e0, .int 0])), (nw, .inr (10, [.int 10, .int 0, .int 0])), (sk, .inr (15, [.int 10, .int 0, .int 0, .int 9999, .int 0])), (o, .inl (cA, 1, .inr (.inl (fun _ => 0)))), (od, .inl (cB, 1, .inr (.inr (.inr (.inl (fun _ => 0)))))), (m2, .inr (16, [.int 1, .ref ms, .ref sk, .int 0])), (ms, .inr (4, [.int 0, .ref e0, .int 0]))] H := hP
  have hD : va_D (fun q : Nat => s.heap.size ≤ q) [(x, .inr (11, [.ref cs, .ref th, .ref nw, .ref mi, .int 9999, .int 0, .int 0])), (cs, .inr (4, [.int 0, .ref e0, .int 0])), (th, .inr (4, [.int 0, .ref e0, .int 0])), (nw, .inr (10, [.int 10, .int 0, .int 0])), (sk, .inr (15, [.int 10, .int 0, .int 0, .int 9999, .int 0])), (o, .inl (cA, 1, .inr (.inl (fun _ => 0)))), (od, .inl (cB, 1, .inr (.inr (.inr (.inl (fun _ => 0)))))), (m2, .inr (16, [.int 1, .ref ms, .ref sk, .int 0])), (ms, .inr (4, [.int 0, .ref e0, .int 0]))] := hD
  refine lv_istore (lv' := [(7, .int r_2), (6, .int 1), (5, .int 0), (4, .ref od), (3, .ref o), (2, .ref m2), (1, .ref x), (0, .ref b)]) hx hb dL_law__2553 hl (by decide) rfl (fun ls hl => ?_)
  refine lv_aload_n hx hb dL_law__2555 rfl (lv_at hl 5 rfl) ?_
  have hPc := hP.sub (ws' := [(m2, .inr (16, [.int 1, .ref ms, .ref sk, .int 0]))]) [7] rfl
  have hDc := hD.sub (ws' := [(m2, .inr (16, [.int 1, .ref ms, .ref sk, .int 0]))]) [7] (by decide) rfl
  have hKc := hK.sub (tys' := []) [] rfl
  refine va_calli (va_runV (As := []) (rest := []) ⟨hx, hb, hml, hown, hts⟩ (k_LM_thrown l D m2 1 ms (.ref sk) (.int 0) 0 .null H.size) (cwV 0 hts (gV q1174 q1175 q1176 q6 (gA q1177)) rfl rfl rfl (by decide +kernel) ⟨Nat.le_of_ble_eq_true rfl, Nat.le_of_ble_eq_true rfl⟩) ⟨EV.fb, va_recv hKc hPc (ci := 16) (q0 := 0) rfl rfl, fun U hU hW => ⟨rfl, EV.at hPc hKc hDc hG (hZ.no hS) U hU hW⟩⟩ rfl rfl hl.1 rfl (lv_room (Nat.le_of_ble_eq_true rfl)) dL_law__2556 ⟨Nat.le_of_ble_eq_true rfl, Nat.le_of_ble_eq_true rfl⟩) hS (fun q _ h => h.elim) (fun q h => h.elim) (fun r_3 u t H1 locs ht hvm hw hB hz1 hk1 hS => ?_)
  have hP := P_kept hP hk1
  generalize H1 = H at hP hS ⊢
  have hP : va_P D vwCl [(x, .inr (11, [.ref cs, .ref th, .ref nw, .ref mi, .int 9999, .int 0, .int 0])), (cs, .inr (4, [.int 0, .ref e0, .int 0])), (th, .inr (4, [.int 0, .ref e0, .int 0])), (nw, .inr (10, [.int 10, .int 0, .int 0])), (sk, .inr (15, [.int 10, .int 0, .int 0, .int 9999, .int 0])), (o, .inl (cA, 1, .inr (.inl (fun _ => 0)))), (od, .inl (cB, 1, .inr (.inr (.inr (.inl (fun _ => 0)))))), (m2, .inr (16, [.int 1, .ref ms, .ref sk, .int 0])), (ms, .inr (4, [.int 0, .ref e0, .int 0]))] H := hP
  subst hw
  refine lv_iload hx hb dL_law__2559 (lv_at hl 1 rfl) ?_
  refine lv_icmp_eq (tgt := 2566) hx hb dL_law__2561 (by decide) (fun c_4 => ?_) (fun c_4 => ?_)
  · refine lv_iload hx hb dL_law__2566 (lv_at hl 1 rfl) ?_
    refine lv_if_ne (tgt := 2583) hx hb dL_law__2568 (by decide) (fun c_5 => ?_) (fun c_5 => ?_)
    · refine lv_goto (tgt := 2850) hx hb dL_law__2583 (by decide) ?_
      exact law_end (D := D) hst hx hb hr hml hown hts hX hbl hlocks hS (Nat.le_of_ble_eq_true rfl) (Nat.le_of_ble_eq_true rfl) (lv_sub hl [7, 2] rfl)
    · exact absurd c_5 (by decide)
  · exact absurd (by decide) c_4
