set_option maxHeartbeats 8000000 in
set_option maxRecDepth 100000 in
/-- case 0: column -/
theorem law_0 {p : Program} {l : Launch} {e : Env} {s : State} {m : MethodId} {below : List Frame} {meth : Method} {c : Code} {D : va_G} {b : Nat} {xs : Nat → Int32} (hst : l.stackTraces = false) (hx : p.tables.exec = Jvm.exec) (hb : c.code = code) (hr : meth.sig.returnType = ret) (hml : c.maxLocals = 9) (hown : s.vm.findClass RL = some m.cls) (hts : ∀ w ∈ lw_all, w.before #[Value.ref b] s = true) (hX : va_X b 5 xs s s.heap) (hbl : b < s.heap.size) (hlocks : meth.locks = false) (hG : GE s) (hZ : ZZ (fun q : Nat => s.heap.size ≤ q) s s.heap) {e0 : Nat} (hZd : ZD e0 (fun q : Nat => s.heap.size ≤ q) s s.heap) (hZt : ZT e0 (fun q : Nat => s.heap.size ≤ q) s s.heap) (hAO : va_AO "java/lang/Object" s) {fq fv : Nat} (hSF : SF fq fv (fun q : Nat => s.heap.size ≤ q) s s.heap) (hvk : vk_R RX12 58 "fsn" fq s) {x cs th nw mi m2 ms sk o od : Nat} {cA cB : ClassId} {H : Heap} {locs : List Loc} (hK : va_K D vwCl [(cA, .long), (cB, .double)] s) (hP : va_P D vwCl [(x, .inr (11, [.ref cs, .ref th, .ref nw, .ref mi, .int 9999, .int 0, .int 0])), (cs, .inr (4, [.int 0, .ref e0, .int 0])), (th, .inr (4, [.int 0, .ref e0, .int 0])), (nw, .inr (10, [.int 10, .int 0, .int 0])), (m2, .inr (16, [.int 0, .ref ms, .ref sk, .int 0])), (ms, .inr (4, [.int 0, .ref e0, .int 0])), (sk, .inr (15, [.int 10, .int 0, .int 0, .int 9999, .int 0])), (o, .inl (cA, 1, .inr (.inl (fun _ => 0)))), (od, .inl (cB, 1, .inr (.inr (.inr (.inl (fun _ => 0))))))] H) (hD : va_D (fun q : Nat => s.heap.size ≤ q) [(x, .inr (11, [.ref cs, .ref th, .ref nw, .ref mi, .int 9999, .int 0, .int 0])), (cs, .inr (4, [.int 0, .ref e0, .int 0])), (th, .inr (4, [.int 0, .ref e0, .int 0])), (nw, .inr (10, [.int 10, .int 0, .int 0])), (m2, .inr (16, [.int 0, .ref ms, .ref sk, .int 0])), (ms, .inr (4, [.int 0, .ref e0, .int 0])), (sk, .inr (15, [.int 10, .int 0, .int 0, .int 9999, .int 0])), (o, .inl (cA, 1, .inr (.inl (fun _ => 0)))), (od, .inl (cB, 1, .inr (.inr (.inr (.inl (fun _ => 0))))))]) (hS : va_S (fun q : Nat => s.heap.size ≤ q) s.heap H locs) {ls : Array Slot} (hl : lv_has ls 9 [(5, .int 0), (4, .ref od), (3, .ref o), (2, .ref m2), (1, .ref x), (0, .ref b)]) : W p l e room_1 s m #[Value.ref b] below meth c H locs 10 70 (lw_Z below #[Value.ref b] s) (F0 m 224 ls []) := by
  have hA : ∀ q : Nat, s.heap.size ≤ q → (fun q : Nat => s.heap.size ≤ q) q := fun _ h => h
  have hbA : ¬ (fun q : Nat => s.heap.size ≤ q) b := Nat.not_le.mpr hbl
  refine lv_aload_n hx hb dL_law__224 rfl (lv_at hl 4 rfl) ?_
  refine lv_aload_n hx hb dL_law__225 rfl (lv_at hl 5 rfl) ?_
  refine lv_iload hx hb dL_law__226 (lv_at hl 0 rfl) ?_
  refine lv_iconst (v := 1) hx hb dL_law__228 (by decide) ?_
  refine lv_iadd hx hb dL_law__229 ?_
  refine va_sld hx hb hX hbl hbA hS (by unfold vp_in; decide) dL_law__230 ?_
  refine lv_i2c hx hb dL_law__231 rfl ?_
  refine lv_aload_n hx hb dL_law__232 rfl (lv_at hl 2 rfl) ?_
  have hPc := hP.sub (ws' := [(x, .inr (11, [.ref cs, .ref th, .ref nw, .ref mi, .int 9999, .int 0, .int 0])), (cs, .inr (4, [.int 0, .ref e0, .int 0])), (th, .inr (4, [.int 0, .ref e0, .int 0])), (o, .inl (cA, 1, .inr (.inl (fun _ => 0))))]) [0, 1, 2, 7] rfl
  have hDc := hD.sub (ws' := [(x, .inr (11, [.ref cs, .ref th, .ref nw, .ref mi, .int 9999, .int 0, .int 0])), (cs, .inr (4, [.int 0, .ref e0, .int 0])), (th, .inr (4, [.int 0, .ref e0, .int 0])), (o, .inl (cA, 1, .inr (.inl (fun _ => 0))))]) [0, 1, 2, 7] (by decide) rfl
  have hKc := hK.sub (tys' := [(cA, .long)]) [0] rfl
  have hFc := va_free (wc := [(x, .inr (11, [.ref cs, .ref th, .ref nw, .ref mi, .int 9999, .int 0, .int 0])), (cs, .inr (4, [.int 0, .ref e0, .int 0])), (th, .inr (4, [.int 0, .ref e0, .int 0])), (o, .inl (cA, 1, .inr (.inl (fun _ => 0))))]) hD hS hA [0, 1, 2, 7] rfl
  refine va_calli (vx_runSW (As := [.ref x, .int (UInt32.toInt32 (Int32.toUInt32 (xs (Int32.toNatClampNeg (0 + 1))) % 65536)), .ref o]) (rest := []) ⟨hx, hb, hml, hown, hts⟩ (k_LL_column l hst D e0 x cs th (.ref nw) (.ref mi) (.int 9999) (.int 0) 0 0 0 (UInt32.toInt32 (Int32.toUInt32 (xs (Int32.toNatClampNeg (0 + 1))) % 65536)) o cA (fun _ => 0) H.size) (vx_cwSW 3 hts (gS q407 q408 q0 (gH q409)) rfl rfl rfl (by decide +kernel) ⟨Nat.le_of_ble_eq_true rfl, Nat.le_of_ble_eq_true rfl⟩) ⟨EY.fb, fun U hU hW => ⟨rfl, EY.at hPc hKc hDc hG (hZ.no hS) (ZD.no hZd hS) hZt hAO hS hFc U hU hW⟩⟩ rfl rfl hl.1 rfl (lv_room (Nat.le_of_ble_eq_true rfl)) dL_law__233 ⟨Nat.le_of_ble_eq_true rfl, Nat.le_of_ble_eq_true rfl⟩) hS (fun q _ h => hFc q h) hFc (fun r_1 u t H1 locs ht hvm hw hB hz1 hk1 hS => ?_)
  obtain ⟨u_2, e_u_2⟩ : ∃ z, z = u := ⟨_, rfl⟩
  subst e_u_2
  obtain ⟨hP1, hD1⟩ := hB
  rw [ht] at hP1
  obtain ⟨hP, hD⟩ := va_join (wr := [(nw, .inr (10, [.int 10, .int 0, .int 0])), (m2, .inr (16, [.int 0, .ref ms, .ref sk, .int 0])), (ms, .inr (4, [.int 0, .ref e0, .int 0])), (sk, .inr (15, [.int 10, .int 0, .int 0, .int 9999, .int 0])), (od, .inl (cB, 1, .inr (.inr (.inr (.inl (fun _ => 0))))))]) (w1 := [(o, .inl (cA, 1, .inr (.inl u_2)))]) hP hD [0, 1, 2, 7] [3, 4, 5, 6, 8] rfl rfl (by decide) (by decide) hk1 hFc hP1 hD1
  generalize H1 = H at hP hS ⊢
  have hP : va_P D vwCl [(nw, .inr (10, [.int 10, .int 0, .int 0])), (m2, .inr (16, [.int 0, .ref ms, .ref sk, .int 0])), (ms, .inr (4, [.int 0, .ref e0, .int 0])), (sk, .inr (15, [.int 10, .int 0, .int 0, .int 9999, .int 0])), (od, .inl (cB, 1, .inr (.inr (.inr (.inl (fun _ => 0)))))), (o, .inl (cA, 1, .inr (.inl u_2)))] H := hP
  have hD : va_D (fun q : Nat => s.heap.size ≤ q) [(nw, .inr (10, [.int 10, .int 0, .int 0])), (m2, .inr (16, [.int 0, .ref ms, .ref sk, .int 0])), (ms, .inr (4, [.int 0, .ref e0, .int 0])), (sk, .inr (15, [.int 10, .int 0, .int 0, .int 9999, .int 0])), (od, .inl (cB, 1, .inr (.inr (.inr (.inl (fun _ => 0)))))), (o, .inl (cA, 1, .inr (.inl u_2)))] := hD
  have hwH_3 := hw
  refine lv_istore (lv' := [(6, .int r_1), (5, .int 0), (4, .ref od), (3, .ref o), (2, .ref m2), (1, .ref x), (0, .ref b)]) hx hb dL_law__236 hl (by decide) rfl (fun ls hl => ?_)
  refine lv_aload_n hx hb dL_law__238 rfl (lv_at hl 4 rfl) ?_
  refine lv_aload_n hx hb dL_law__239 rfl (lv_at hl 6 rfl) ?_
  refine lv_iload hx hb dL_law__240 (lv_at hl 1 rfl) ?_
  refine lv_iconst (v := 1) hx hb dL_law__242 (by decide) ?_
  refine lv_iadd hx hb dL_law__243 ?_
  refine va_sld hx hb hX hbl hbA hS (by unfold vp_in; decide) dL_law__244 ?_
  refine lv_i2c hx hb dL_law__245 rfl ?_
  have hPc := hP.sub (ws' := [(m2, .inr (16, [.int 0, .ref ms, .ref sk, .int 0])), (ms, .inr (4, [.int 0, .ref e0, .int 0]))]) [1, 2] rfl
  have hDc := hD.sub (ws' := [(m2, .inr (16, [.int 0, .ref ms, .ref sk, .int 0])), (ms, .inr (4, [.int 0, .ref e0, .int 0]))]) [1, 2] (by decide) rfl
  have hKc := hK.sub (tys' := []) [] rfl
  have hFc := va_free (wc := [(m2, .inr (16, [.int 0, .ref ms, .ref sk, .int 0])), (ms, .inr (4, [.int 0, .ref e0, .int 0]))]) hD hS hA [1, 2] rfl
  refine va_calli (va_runV (As := [.int (UInt32.toInt32 (Int32.toUInt32 (xs (Int32.toNatClampNeg (0 + 1))) % 65536))]) (rest := []) ⟨hx, hb, hml, hown, hts⟩ (k_LM_column l D e0 fq fv m2 0 ms (.ref sk) (.int 0) 0 (UInt32.toInt32 (Int32.toUInt32 (xs (Int32.toNatClampNeg (0 + 1))) % 65536)) H.size (pk_nc _) (pk_fc _)) (cwV 1 hts (gV q1178 q1179 q1180 q6 (gA q1181)) rfl rfl rfl (by decide +kernel) ⟨Nat.le_of_ble_eq_true rfl, Nat.le_of_ble_eq_true rfl⟩) ⟨MB.fb, va_recv hKc hPc (ci := 16) (q0 := 0) rfl rfl, fun U hU hW => ⟨rfl, EY.at hPc hKc hDc hG (hZ.no hS) (ZD.no hZd hS) hZt hAO hS hFc U hU hW, by rw [hU]; exact SF.mv hW.alike (SF.no hSF hS), vk_R.warm hW hvk⟩⟩ rfl rfl hl.1 rfl (lv_room (Nat.le_of_ble_eq_true rfl)) dL_law__246 ⟨Nat.le_of_ble_eq_true rfl, Nat.le_of_ble_eq_true rfl⟩) hS (fun q _ h => hFc q h) hFc (fun r_4 u t H1 locs ht hvm hw hB hz1 hk1 hS => ?_)
  obtain ⟨u_5, e_u_5⟩ : ∃ z, z = u := ⟨_, rfl⟩
  subst e_u_5
  obtain ⟨hP1, hD1⟩ := hB
  rw [ht] at hP1
  obtain ⟨hP, hD⟩ := va_join (wr := [(nw, .inr (10, [.int 10, .int 0, .int 0])), (sk, .inr (15, [.int 10, .int 0, .int 0, .int 9999, .int 0])), (od, .inl (cB, 1, .inr (.inr (.inr (.inl (fun _ => 0)))))), (o, .inl (cA, 1, .inr (.inl u_2)))]) (w1 := [(m2, .inr (16, [.int u_5, .ref ms, .ref sk, .int 0]))]) hP hD [1, 2] [0, 3, 4, 5] rfl rfl (by decide) (by decide) hk1 hFc hP1 hD1
  generalize H1 = H at hP hS ⊢
  have hP : va_P D vwCl [(nw, .inr (10, [.int 10, .int 0, .int 0])), (sk, .inr (15, [.int 10, .int 0, .int 0, .int 9999, .int 0])), (od, .inl (cB, 1, .inr (.inr (.inr (.inl (fun _ => 0)))))), (o, .inl (cA, 1, .inr (.inl u_2))), (m2, .inr (16, [.int u_5, .ref ms, .ref sk, .int 0]))] H := hP
  have hD : va_D (fun q : Nat => s.heap.size ≤ q) [(nw, .inr (10, [.int 10, .int 0, .int 0])), (sk, .inr (15, [.int 10, .int 0, .int 0, .int 9999, .int 0])), (od, .inl (cB, 1, .inr (.inr (.inr (.inl (fun _ => 0)))))), (o, .inl (cA, 1, .inr (.inl u_2))), (m2, .inr (16, [.int u_5, .ref ms, .ref sk, .int 0]))] := hD
  try dsimp only at hw
  have hwM_6 := hw
  rcases hwH_3 with ⟨rfl, g1, e1⟩ | ⟨rfl, g1⟩
  · rcases hwM_6 with ⟨rfl, g2, rfl⟩ | ⟨rfl, g2⟩
    · refine lv_istore (lv' := [(7, .int 0), (6, .int 0), (5, .int 0), (4, .ref od), (3, .ref o), (2, .ref m2), (1, .ref x), (0, .ref b)]) hx hb dL_law__249 hl (by decide) rfl (fun ls hl => ?_)
      refine lv_aload_n hx hb dL_law__251 rfl (lv_at hl 5 rfl) ?_
      have hPc := hP.sub (ws' := [(m2, .inr (16, [.int 0, .ref ms, .ref sk, .int 0]))]) [4] rfl
      have hDc := hD.sub (ws' := [(m2, .inr (16, [.int 0, .ref ms, .ref sk, .int 0]))]) [4] (by decide) rfl
      have hKc := hK.sub (tys' := []) [] rfl
      refine va_calli (va_runV (As := []) (rest := []) ⟨hx, hb, hml, hown, hts⟩ (k_LM_thrown l D m2 0 ms (.ref sk) (.int 0) 0 .null H.size) (cwV 0 hts (gV q1174 q1175 q1176 q6 (gA q1177)) rfl rfl rfl (by decide +kernel) ⟨Nat.le_of_ble_eq_true rfl, Nat.le_of_ble_eq_true rfl⟩) ⟨EV.fb, va_recv hKc hPc (ci := 16) (q0 := 0) rfl rfl, fun U hU hW => ⟨rfl, EV.at hPc hKc hDc hG (hZ.no hS) U hU hW⟩⟩ rfl rfl hl.1 rfl (lv_room (Nat.le_of_ble_eq_true rfl)) dL_law__252 ⟨Nat.le_of_ble_eq_true rfl, Nat.le_of_ble_eq_true rfl⟩) hS (fun q _ h => h.elim) (fun q h => h.elim) (fun r_7 u t H1 locs ht hvm hw hB hz1 hk1 hS => ?_)
      have hP := P_kept hP hk1
      generalize H1 = H at hP hS ⊢
      have hP : va_P D vwCl [(nw, .inr (10, [.int 10, .int 0, .int 0])), (sk, .inr (15, [.int 10, .int 0, .int 0, .int 9999, .int 0])), (od, .inl (cB, 1, .inr (.inr (.inr (.inl (fun _ => 0)))))), (o, .inl (cA, 1, .inr (.inl u_2))), (m2, .inr (16, [.int 0, .ref ms, .ref sk, .int 0]))] H := hP
      subst hw
      refine lv_iload hx hb dL_law__255 (lv_at hl 1 rfl) ?_
      refine lv_icmp_eq (tgt := 262) hx hb dL_law__257 (by decide) (fun c_8 => ?_) (fun c_8 => ?_)
      · refine lv_iload hx hb dL_law__262 (lv_at hl 1 rfl) ?_
        refine lv_if_ne (tgt := 279) hx hb dL_law__264 (by decide) (fun c_9 => ?_) (fun c_9 => ?_)
        · exact absurd rfl c_9
        · refine lv_aload_n hx hb dL_law__267 rfl (lv_at hl 4 rfl) ?_
          refine lv_iconst (v := 0) hx hb dL_law__268 (by decide) ?_
          refine va_lald hx hb hK hP 3 0 rfl rfl (by unfold vp_in; decide) dL_law__269 ?_
          refine lv_iload hx hb dL_law__270 (lv_at hl 0 rfl) ?_
          refine lv_i2l hx hb dL_law__272 rfl ?_
          refine W.lcmp hx hb dL_law__273 ?_
          refine lv_if_eq (tgt := 279) hx hb dL_law__274 (by decide) (fun c_10 => ?_) (fun c_10 => ?_)
          · refine lv_goto (tgt := 2850) hx hb dL_law__279 (by decide) ?_
            exact law_end (D := D) hst hx hb hr hml hown hts hX hbl hlocks hS (Nat.le_of_ble_eq_true rfl) (Nat.le_of_ble_eq_true rfl) (lv_sub hl [7, 2] rfl)
          · exact absurd ((lg_cmp_eq _ _).mpr e1) c_10
      · exact absurd (by decide) c_8
    · exact absurd g1 g2
  · rcases hwM_6 with ⟨rfl, g2, rfl⟩ | ⟨rfl, g2⟩
    · exact absurd g2 g1
    · refine lv_istore (lv' := [(7, .int r_4), (6, .int 1), (5, .int 0), (4, .ref od), (3, .ref o), (2, .ref m2), (1, .ref x), (0, .ref b)]) hx hb dL_law__249 hl (by decide) rfl (fun ls hl => ?_)
      refine lv_aload_n hx hb dL_law__251 rfl (lv_at hl 5 rfl) ?_
      have hPc := hP.sub (ws' := [(m2, .inr (16, [.int 1, .ref ms, .ref sk, .int 0]))]) [4] rfl
      have hDc := hD.sub (ws' := [(m2, .inr (16, [.int 1, .ref ms, .ref sk, .int 0]))]) [4] (by decide) rfl
      have hKc := hK.sub (tys' := []) [] rfl
      refine va_calli (va_runV (As := []) (rest := []) ⟨hx, hb, hml, hown, hts⟩ (k_LM_thrown l D m2 1 ms (.ref sk) (.int 0) 0 .null H.size) (cwV 0 hts (gV q1174 q1175 q1176 q6 (gA q1177)) rfl rfl rfl (by decide +kernel) ⟨Nat.le_of_ble_eq_true rfl, Nat.le_of_ble_eq_true rfl⟩) ⟨EV.fb, va_recv hKc hPc (ci := 16) (q0 := 0) rfl rfl, fun U hU hW => ⟨rfl, EV.at hPc hKc hDc hG (hZ.no hS) U hU hW⟩⟩ rfl rfl hl.1 rfl (lv_room (Nat.le_of_ble_eq_true rfl)) dL_law__252 ⟨Nat.le_of_ble_eq_true rfl, Nat.le_of_ble_eq_true rfl⟩) hS (fun q _ h => h.elim) (fun q h => h.elim) (fun r_11 u t H1 locs ht hvm hw hB hz1 hk1 hS => ?_)
      have hP := P_kept hP hk1
      generalize H1 = H at hP hS ⊢
      have hP : va_P D vwCl [(nw, .inr (10, [.int 10, .int 0, .int 0])), (sk, .inr (15, [.int 10, .int 0, .int 0, .int 9999, .int 0])), (od, .inl (cB, 1, .inr (.inr (.inr (.inl (fun _ => 0)))))), (o, .inl (cA, 1, .inr (.inl u_2))), (m2, .inr (16, [.int 1, .ref ms, .ref sk, .int 0]))] H := hP
      subst hw
      refine lv_iload hx hb dL_law__255 (lv_at hl 1 rfl) ?_
      refine lv_icmp_eq (tgt := 262) hx hb dL_law__257 (by decide) (fun c_12 => ?_) (fun c_12 => ?_)
      · refine lv_iload hx hb dL_law__262 (lv_at hl 1 rfl) ?_
        refine lv_if_ne (tgt := 279) hx hb dL_law__264 (by decide) (fun c_13 => ?_) (fun c_13 => ?_)
        · refine lv_goto (tgt := 2850) hx hb dL_law__279 (by decide) ?_
          exact law_end (D := D) hst hx hb hr hml hown hts hX hbl hlocks hS (Nat.le_of_ble_eq_true rfl) (Nat.le_of_ble_eq_true rfl) (lv_sub hl [7, 2] rfl)
        · exact absurd c_13 (by decide)
      · exact absurd (by decide) c_12
set_option maxHeartbeats 8000000 in
set_option maxRecDepth 100000 in
/-- case 1: layer -/
theorem law_1 {p : Program} {l : Launch} {e : Env} {s : State} {m : MethodId} {below : List Frame} {meth : Method} {c : Code} {D : va_G} {b : Nat} {xs : Nat → Int32} (hst : l.stackTraces = false) (hx : p.tables.exec = Jvm.exec) (hb : c.code = code) (hr : meth.sig.returnType = ret) (hml : c.maxLocals = 9) (hown : s.vm.findClass RL = some m.cls) (hts : ∀ w ∈ lw_all, w.before #[Value.ref b] s = true) (hX : va_X b 5 xs s s.heap) (hbl : b < s.heap.size) (hlocks : meth.locks = false) (hG : GE s) (hZ : ZZ (fun q : Nat => s.heap.size ≤ q) s s.heap) {e0 : Nat} (hZd : ZD e0 (fun q : Nat => s.heap.size ≤ q) s s.heap) (hZt : ZT e0 (fun q : Nat => s.heap.size ≤ q) s s.heap) (hAO : va_AO "java/lang/Object" s) {fq fv : Nat} (hSF : SF fq fv (fun q : Nat => s.heap.size ≤ q) s s.heap) (hvk : vk_R RX12 58 "fsn" fq s) {x cs th nw mi m2 ms sk o od : Nat} {cA cB : ClassId} {H : Heap} {locs : List Loc} (hK : va_K D vwCl [(cA, .long), (cB, .double)] s) (hP : va_P D vwCl [(x, .inr (11, [.ref cs, .ref th, .ref nw, .ref mi, .int 9999, .int 0, .int 0])), (cs, .inr (4, [.int 0, .ref e0, .int 0])), (th, .inr (4, [.int 0, .ref e0, .int 0])), (nw, .inr (10, [.int 10, .int 0, .int 0])), (m2, .inr (16, [.int 0, .ref ms, .ref sk, .int 0])), (ms, .inr (4, [.int 0, .ref e0, .int 0])), (sk, .inr (15, [.int 10, .int 0, .int 0, .int 9999, .int 0])), (o, .inl (cA, 1, .inr (.inl (fun _ => 0)))), (od, .inl (cB, 1, .inr (.inr (.inr (.inl (fun _ => 0))))))] H) (hD : va_D (fun q : Nat => s.heap.size ≤ q) [(x, .inr (11, [.ref cs, .ref th, .ref nw, .ref mi, .int 9999, .int 0, .int 0])), (cs, .inr (4, [.int 0, .ref e0, .int 0])), (th, .inr (4, [.int 0, .ref e0, .int 0])), (nw, .inr (10, [.int 10, .int 0, .int 0])), (m2, .inr (16, [.int 0, .ref ms, .ref sk, .int 0])), (ms, .inr (4, [.int 0, .ref e0, .int 0])), (sk, .inr (15, [.int 10, .int 0, .int 0, .int 9999, .int 0])), (o, .inl (cA, 1, .inr (.inl (fun _ => 0)))), (od, .inl (cB, 1, .inr (.inr (.inr (.inl (fun _ => 0))))))]) (hS : va_S (fun q : Nat => s.heap.size ≤ q) s.heap H locs) {ls : Array Slot} (hl : lv_has ls 9 [(5, .int 0), (4, .ref od), (3, .ref o), (2, .ref m2), (1, .ref x), (0, .ref b)]) : W p l e room_1 s m #[Value.ref b] below meth c H locs 10 70 (lw_Z below #[Value.ref b] s) (F0 m 282 ls []) := by
  have hA : ∀ q : Nat, s.heap.size ≤ q → (fun q : Nat => s.heap.size ≤ q) q := fun _ h => h
  have hbA : ¬ (fun q : Nat => s.heap.size ≤ q) b := Nat.not_le.mpr hbl
  refine lv_aload_n hx hb dL_law__282 rfl (lv_at hl 4 rfl) ?_
  refine lv_aload_n hx hb dL_law__283 rfl (lv_at hl 5 rfl) ?_
  refine lv_iload hx hb dL_law__284 (lv_at hl 0 rfl) ?_
  refine lv_iconst (v := 1) hx hb dL_law__286 (by decide) ?_
  refine lv_iadd hx hb dL_law__287 ?_
  refine va_sld hx hb hX hbl hbA hS (by unfold vp_in; decide) dL_law__288 ?_
  refine lv_aload_n hx hb dL_law__289 rfl (lv_at hl 5 rfl) ?_
  refine lv_iload hx hb dL_law__290 (lv_at hl 0 rfl) ?_
  refine lv_iconst (v := 2) hx hb dL_law__292 (by decide) ?_
  refine lv_iadd hx hb dL_law__293 ?_
  refine va_sld hx hb hX hbl hbA hS (by unfold vp_in; decide) dL_law__294 ?_
  refine lv_i2c hx hb dL_law__295 rfl ?_
  refine lv_aload_n hx hb dL_law__296 rfl (lv_at hl 5 rfl) ?_
  refine lv_iload hx hb dL_law__297 (lv_at hl 0 rfl) ?_
  refine lv_iconst (v := 3) hx hb dL_law__299 (by decide) ?_
  refine lv_iadd hx hb dL_law__300 ?_
  refine va_sld hx hb hX hbl hbA hS (by unfold vp_in; decide) dL_law__301 ?_
  refine lv_aload_n hx hb dL_law__302 rfl (lv_at hl 2 rfl) ?_
  have hPc := hP.sub (ws' := [(x, .inr (11, [.ref cs, .ref th, .ref nw, .ref mi, .int 9999, .int 0, .int 0])), (cs, .inr (4, [.int 0, .ref e0, .int 0]))]) [0, 1] rfl
  have hDc := hD.sub (ws' := [(x, .inr (11, [.ref cs, .ref th, .ref nw, .ref mi, .int 9999, .int 0, .int 0])), (cs, .inr (4, [.int 0, .ref e0, .int 0]))]) [0, 1] (by decide) rfl
  have hKc := hK.sub (tys' := []) [] rfl
  refine va_calli (vx_runSW (As := [.ref x, .int (xs (Int32.toNatClampNeg (0 + 1))), .int (UInt32.toInt32 (Int32.toUInt32 (xs (Int32.toNatClampNeg (0 + 2))) % 65536)), .int (xs (Int32.toNatClampNeg (0 + 3))), .ref o]) (rest := []) ⟨hx, hb, hml, hown, hts⟩ (k_LL_layer l hst D x cs (.ref th) (.ref nw) (.ref mi) (.int 9999) (.int 0) (.int 0) 0 (.ref e0) (xs (Int32.toNatClampNeg (0 + 1))) (UInt32.toInt32 (Int32.toUInt32 (xs (Int32.toNatClampNeg (0 + 2))) % 65536)) (xs (Int32.toNatClampNeg (0 + 3))) o H.size) (vx_cwSW 5 hts (gS q640 q641 q0 (gH q642)) rfl rfl rfl (by decide +kernel) ⟨Nat.le_of_ble_eq_true rfl, Nat.le_of_ble_eq_true rfl⟩) ⟨EV.fb, fun U hU hW => ⟨rfl, EV.at hPc hKc hDc hG (hZ.no hS) U hU hW⟩⟩ rfl rfl hl.1 rfl (lv_room (Nat.le_of_ble_eq_true rfl)) dL_law__303 ⟨Nat.le_of_ble_eq_true rfl, Nat.le_of_ble_eq_true rfl⟩) hS (fun q _ h => h.elim) (fun q h => h.elim) (fun r_1 u t H1 locs ht hvm hw hB hz1 hk1 hS => ?_)
  have hP := P_kept hP hk1
  generalize H1 = H at hP hS ⊢
  have hP : va_P D vwCl [(x, .inr (11, [.ref cs, .ref th, .ref nw, .ref mi, .int 9999, .int 0, .int 0])), (cs, .inr (4, [.int 0, .ref e0, .int 0])), (th, .inr (4, [.int 0, .ref e0, .int 0])), (nw, .inr (10, [.int 10, .int 0, .int 0])), (m2, .inr (16, [.int 0, .ref ms, .ref sk, .int 0])), (ms, .inr (4, [.int 0, .ref e0, .int 0])), (sk, .inr (15, [.int 10, .int 0, .int 0, .int 9999, .int 0])), (o, .inl (cA, 1, .inr (.inl (fun _ => 0)))), (od, .inl (cB, 1, .inr (.inr (.inr (.inl (fun _ => 0))))))] H := hP
  subst hw
  refine lv_istore (lv' := [(6, .int 1), (5, .int 0), (4, .ref od), (3, .ref o), (2, .ref m2), (1, .ref x), (0, .ref b)]) hx hb dL_law__306 hl (by decide) rfl (fun ls hl => ?_)
  refine lv_aload_n hx hb dL_law__308 rfl (lv_at hl 4 rfl) ?_
  refine lv_aload_n hx hb dL_law__309 rfl (lv_at hl 6 rfl) ?_
  refine lv_iload hx hb dL_law__310 (lv_at hl 1 rfl) ?_
  refine lv_iconst (v := 1) hx hb dL_law__312 (by decide) ?_
  refine lv_iadd hx hb dL_law__313 ?_
  refine va_sld hx hb hX hbl hbA hS (by unfold vp_in; decide) dL_law__314 ?_
  refine lv_aload_n hx hb dL_law__315 rfl (lv_at hl 6 rfl) ?_
  refine lv_iload hx hb dL_law__316 (lv_at hl 1 rfl) ?_
  refine lv_iconst (v := 2) hx hb dL_law__318 (by decide) ?_
  refine lv_iadd hx hb dL_law__319 ?_
  refine va_sld hx hb hX hbl hbA hS (by unfold vp_in; decide) dL_law__320 ?_
  refine lv_i2c hx hb dL_law__321 rfl ?_
  refine lv_aload_n hx hb dL_law__322 rfl (lv_at hl 6 rfl) ?_
  refine lv_iload hx hb dL_law__323 (lv_at hl 1 rfl) ?_
  refine lv_iconst (v := 3) hx hb dL_law__325 (by decide) ?_
  refine lv_iadd hx hb dL_law__326 ?_
  refine va_sld hx hb hX hbl hbA hS (by unfold vp_in; decide) dL_law__327 ?_
  have hPc := hP.sub (ws' := [(m2, .inr (16, [.int 0, .ref ms, .ref sk, .int 0])), (ms, .inr (4, [.int 0, .ref e0, .int 0]))]) [4, 5] rfl
  have hDc := hD.sub (ws' := [(m2, .inr (16, [.int 0, .ref ms, .ref sk, .int 0])), (ms, .inr (4, [.int 0, .ref e0, .int 0]))]) [4, 5] (by decide) rfl
  have hKc := hK.sub (tys' := []) [] rfl
  have hFc := va_free (wc := [(m2, .inr (16, [.int 0, .ref ms, .ref sk, .int 0])), (ms, .inr (4, [.int 0, .ref e0, .int 0]))]) hD hS hA [4, 5] rfl
  refine va_calli (va_runV (As := [.int (xs (Int32.toNatClampNeg (0 + 1))), .int (UInt32.toInt32 (Int32.toUInt32 (xs (Int32.toNatClampNeg (0 + 2))) % 65536)), .int (xs (Int32.toNatClampNeg (0 + 3)))]) (rest := []) ⟨hx, hb, hml, hown, hts⟩ (k_LM_layer l D m2 0 ms (.ref sk) (.int 0) 0 (.ref e0) (xs (Int32.toNatClampNeg (0 + 1))) (UInt32.toInt32 (Int32.toUInt32 (xs (Int32.toNatClampNeg (0 + 2))) % 65536)) (xs (Int32.toNatClampNeg (0 + 3))) H.size) (cwV 3 hts (gV q1346 q1347 q1348 q6 (gA q1349)) rfl rfl rfl (by decide +kernel) ⟨Nat.le_of_ble_eq_true rfl, Nat.le_of_ble_eq_true rfl⟩) ⟨EV.fb, va_recv hKc hPc (ci := 16) (q0 := 0) rfl rfl, fun U hU hW => ⟨rfl, EV.at hPc hKc hDc hG (hZ.no hS) U hU hW⟩⟩ rfl rfl hl.1 rfl (lv_room (Nat.le_of_ble_eq_true rfl)) dL_law__328 ⟨Nat.le_of_ble_eq_true rfl, Nat.le_of_ble_eq_true rfl⟩) hS (fun q _ h => hFc q h) hFc (fun r_2 u t H1 locs ht hvm hw hB hz1 hk1 hS => ?_)
  obtain ⟨hP1, hD1⟩ := hB
  rw [ht] at hP1
  obtain ⟨hP, hD⟩ := va_join (wr := [(x, .inr (11, [.ref cs, .ref th, .ref nw, .ref mi, .int 9999, .int 0, .int 0])), (cs, .inr (4, [.int 0, .ref e0, .int 0])), (th, .inr (4, [.int 0, .ref e0, .int 0])), (nw, .inr (10, [.int 10, .int 0, .int 0])), (sk, .inr (15, [.int 10, .int 0, .int 0, .int 9999, .int 0])), (o, .inl (cA, 1, .inr (.inl (fun _ => 0)))), (od, .inl (cB, 1, .inr (.inr (.inr (.inl (fun _ => 0))))))]) (w1 := [(m2, .inr (16, [.int 1, .ref ms, .ref sk, .int 0])), (ms, .inr (4, [.int 0, .ref e0, .int 0]))]) hP hD [4, 5] [0, 1, 2, 3, 6, 7, 8] rfl rfl (by decide) (by decide) hk1 hFc hP1 hD1
  generalize H1 = H at hP hS ⊢
  have hP : va_P D vwCl [(x, .inr (11, [.ref cs, .ref th, .ref nw, .ref mi, .int 9999, .int 0, .int 0])), (cs, .inr (4, [.int 0, .ref e0, .int 0])), (th, .inr (4, [.int 0, .ref e0, .int 0])), (nw, .inr (10, [.int 10, .int 0, .int 0])), (sk, .inr (15, [.int 10, .int 0, .int 0, .int 9999, .int 0])), (o, .inl (cA, 1, .inr (.inl (fun _ => 0)))), (od, .inl (cB, 1, .inr (.inr (.inr (.inl (fun _ => 0)))))), (m2, .inr (16, [.int 1, .ref ms, .ref sk, .int 0])), (ms, .inr (4, [.int 0, .ref e0, .int 0]))] H := hP
  have hD : va_D (fun q : Nat => s.heap.size ≤ q) [(x, .inr (11, [.ref cs, .ref th, .ref nw, .ref mi, .int 9999, .int 0, .int 0])), (cs, .inr (4, [.int 0, .ref e0, .int 0])), (th, .inr (4, [.int 0, .ref e0, .int 0])), (nw, .inr (10, [.int 10, .int 0, .int 0])), (sk, .inr (15, [.int 10, .int 0, .int 0, .int 9999, .int 0])), (o, .inl (cA, 1, .inr (.inl (fun _ => 0)))), (od, .inl (cB, 1, .inr (.inr (.inr (.inl (fun _ => 0)))))), (m2, .inr (16, [.int 1, .ref ms, .ref sk, .int 0])), (ms, .inr (4, [.int 0, .ref e0, .int 0]))] := hD
  refine lv_istore (lv' := [(7, .int r_2), (6, .int 1), (5, .int 0), (4, .ref od), (3, .ref o), (2, .ref m2), (1, .ref x), (0, .ref b)]) hx hb dL_law__331 hl (by decide) rfl (fun ls hl => ?_)
  refine lv_aload_n hx hb dL_law__333 rfl (lv_at hl 5 rfl) ?_
  have hPc := hP.sub (ws' := [(m2, .inr (16, [.int 1, .ref ms, .ref sk, .int 0]))]) [7] rfl
  have hDc := hD.sub (ws' := [(m2, .inr (16, [.int 1, .ref ms, .ref sk, .int 0]))]) [7] (by decide) rfl
  have hKc := hK.sub (tys' := []) [] rfl
  refine va_calli (va_runV (As := []) (rest := []) ⟨hx, hb, hml, hown, hts⟩ (k_LM_thrown l D m2 1 ms (.ref sk) (.int 0) 0 .null H.size) (cwV 0 hts (gV q1174 q1175 q1176 q6 (gA q1177)) rfl rfl rfl (by decide +kernel) ⟨Nat.le_of_ble_eq_true rfl, Nat.le_of_ble_eq_true rfl⟩) ⟨EV.fb, va_recv hKc hPc (ci := 16) (q0 := 0) rfl rfl, fun U hU hW => ⟨rfl, EV.at hPc hKc hDc hG (hZ.no hS) U hU hW⟩⟩ rfl rfl hl.1 rfl (lv_room (Nat.le_of_ble_eq_true rfl)) dL_law__334 ⟨Nat.le_of_ble_eq_true rfl, Nat.le_of_ble_eq_true rfl⟩) hS (fun q _ h => h.elim) (fun q h => h.elim) (fun r_3 u t H1 locs ht hvm hw hB hz1 hk1 hS => ?_)
  have hP := P_kept hP hk1
  generalize H1 = H at hP hS ⊢
  have hP : va_P D vwCl [(x, .inr (11, [.ref cs, .ref th, .ref nw, .ref mi, .int 9999, .int 0, .int 0])), (cs, .inr (4, [.int 0, .ref e0, .int 0])), (th, .inr (4, [.int 0, .ref e0, .int 0])), (nw, .inr (10, [.int 10, .int 0, .int 0])), (sk, .inr (15, [.int 10, .int 0, .int 0, .int 9999, .int 0])), (o, .inl (cA, 1, .inr (.inl (fun _ => 0)))), (od, .inl (cB, 1, .inr (.inr (.inr (.inl (fun _ => 0)))))), (m2, .inr (16, [.int 1, .ref ms, .ref sk, .int 0])), (ms, .inr (4, [.int 0, .ref e0, .int 0]))] H := hP
  subst hw
  refine lv_iload hx hb dL_law__337 (lv_at hl 1 rfl) ?_
  refine lv_icmp_eq (tgt := 344) hx hb dL_law__339 (by decide) (fun c_4 => ?_) (fun c_4 => ?_)
  · refine lv_iload hx hb dL_law__344 (lv_at hl 1 rfl) ?_
    refine lv_if_ne (tgt := 361) hx hb dL_law__346 (by decide) (fun c_5 => ?_) (fun c_5 => ?_)
    · refine lv_goto (tgt := 2850) hx hb dL_law__361 (by decide) ?_
      exact law_end (D := D) hst hx hb hr hml hown hts hX hbl hlocks hS (Nat.le_of_ble_eq_true rfl) (Nat.le_of_ble_eq_true rfl) (lv_sub hl [7, 2] rfl)
    · exact absurd c_5 (by decide)
  · exact absurd (by decide) c_4
set_option maxHeartbeats 8000000 in
set_option maxRecDepth 100000 in
/-- case 2: wet -/
theorem law_2 {p : Program} {l : Launch} {e : Env} {s : State} {m : MethodId} {below : List Frame} {meth : Method} {c : Code} {D : va_G} {b : Nat} {xs : Nat → Int32} (hst : l.stackTraces = false) (hx : p.tables.exec = Jvm.exec) (hb : c.code = code) (hr : meth.sig.returnType = ret) (hml : c.maxLocals = 9) (hown : s.vm.findClass RL = some m.cls) (hts : ∀ w ∈ lw_all, w.before #[Value.ref b] s = true) (hX : va_X b 5 xs s s.heap) (hbl : b < s.heap.size) (hlocks : meth.locks = false) (hG : GE s) (hZ : ZZ (fun q : Nat => s.heap.size ≤ q) s s.heap) {e0 : Nat} (hZd : ZD e0 (fun q : Nat => s.heap.size ≤ q) s s.heap) (hZt : ZT e0 (fun q : Nat => s.heap.size ≤ q) s s.heap) (hAO : va_AO "java/lang/Object" s) {fq fv : Nat} (hSF : SF fq fv (fun q : Nat => s.heap.size ≤ q) s s.heap) (hvk : vk_R RX12 58 "fsn" fq s) {x cs th nw mi m2 ms sk o od : Nat} {cA cB : ClassId} {H : Heap} {locs : List Loc} (hK : va_K D vwCl [(cA, .long), (cB, .double)] s) (hP : va_P D vwCl [(x, .inr (11, [.ref cs, .ref th, .ref nw, .ref mi, .int 9999, .int 0, .int 0])), (cs, .inr (4, [.int 0, .ref e0, .int 0])), (th, .inr (4, [.int 0, .ref e0, .int 0])), (nw, .inr (10, [.int 10, .int 0, .int 0])), (m2, .inr (16, [.int 0, .ref ms, .ref sk, .int 0])), (ms, .inr (4, [.int 0, .ref e0, .int 0])), (sk, .inr (15, [.int 10, .int 0, .int 0, .int 9999, .int 0])), (o, .inl (cA, 1, .inr (.inl (fun _ => 0)))), (od, .inl (cB, 1, .inr (.inr (.inr (.inl (fun _ => 0))))))] H) (hD : va_D (fun q : Nat => s.heap.size ≤ q) [(x, .inr (11, [.ref cs, .ref th, .ref nw, .ref mi, .int 9999, .int 0, .int 0])), (cs, .inr (4, [.int 0, .ref e0, .int 0])), (th, .inr (4, [.int 0, .ref e0, .int 0])), (nw, .inr (10, [.int 10, .int 0, .int 0])), (m2, .inr (16, [.int 0, .ref ms, .ref sk, .int 0])), (ms, .inr (4, [.int 0, .ref e0, .int 0])), (sk, .inr (15, [.int 10, .int 0, .int 0, .int 9999, .int 0])), (o, .inl (cA, 1, .inr (.inl (fun _ => 0)))), (od, .inl (cB, 1, .inr (.inr (.inr (.inl (fun _ => 0))))))]) (hS : va_S (fun q : Nat => s.heap.size ≤ q) s.heap H locs) {ls : Array Slot} (hl : lv_has ls 9 [(5, .int 0), (4, .ref od), (3, .ref o), (2, .ref m2), (1, .ref x), (0, .ref b)]) : W p l e room_1 s m #[Value.ref b] below meth c H locs 10 70 (lw_Z below #[Value.ref b] s) (F0 m 364 ls []) := by
  have hA : ∀ q : Nat, s.heap.size ≤ q → (fun q : Nat => s.heap.size ≤ q) q := fun _ h => h
  have hbA : ¬ (fun q : Nat => s.heap.size ≤ q) b := Nat.not_le.mpr hbl
  refine lv_aload_n hx hb dL_law__364 rfl (lv_at hl 4 rfl) ?_
  refine lv_aload_n hx hb dL_law__365 rfl (lv_at hl 5 rfl) ?_
  refine lv_iload hx hb dL_law__366 (lv_at hl 0 rfl) ?_
  refine lv_iconst (v := 1) hx hb dL_law__368 (by decide) ?_
  refine lv_iadd hx hb dL_law__369 ?_
  refine va_sld hx hb hX hbl hbA hS (by unfold vp_in; decide) dL_law__370 ?_
  refine lv_aload_n hx hb dL_law__371 rfl (lv_at hl 5 rfl) ?_
  refine lv_iload hx hb dL_law__372 (lv_at hl 0 rfl) ?_
  refine lv_iconst (v := 2) hx hb dL_law__374 (by decide) ?_
  refine lv_iadd hx hb dL_law__375 ?_
  refine va_sld hx hb hX hbl hbA hS (by unfold vp_in; decide) dL_law__376 ?_
  refine lv_aload_n hx hb dL_law__377 rfl (lv_at hl 5 rfl) ?_
  refine lv_iload hx hb dL_law__378 (lv_at hl 0 rfl) ?_
  refine lv_iconst (v := 3) hx hb dL_law__380 (by decide) ?_
  refine lv_iadd hx hb dL_law__381 ?_
  refine va_sld hx hb hX hbl hbA hS (by unfold vp_in; decide) dL_law__382 ?_
  refine lv_aload_n hx hb dL_law__383 rfl (lv_at hl 2 rfl) ?_
  have hPc := hP.sub (ws' := [(x, .inr (11, [.ref cs, .ref th, .ref nw, .ref mi, .int 9999, .int 0, .int 0])), (cs, .inr (4, [.int 0, .ref e0, .int 0]))]) [0, 1] rfl
  have hDc := hD.sub (ws' := [(x, .inr (11, [.ref cs, .ref th, .ref nw, .ref mi, .int 9999, .int 0, .int 0])), (cs, .inr (4, [.int 0, .ref e0, .int 0]))]) [0, 1] (by decide) rfl
  have hKc := hK.sub (tys' := []) [] rfl
  refine va_calli (vx_runSW (As := [.ref x, .int (xs (Int32.toNatClampNeg (0 + 1))), .int (xs (Int32.toNatClampNeg (0 + 2))), .int (xs (Int32.toNatClampNeg (0 + 3))), .ref o]) (rest := []) ⟨hx, hb, hml, hown, hts⟩ (k_LL_wet l hst D x cs (.ref th) (.ref nw) (.ref mi) (.int 9999) (.int 0) (.int 0) 0 (.ref e0) (xs (Int32.toNatClampNeg (0 + 1))) (xs (Int32.toNatClampNeg (0 + 2))) (xs (Int32.toNatClampNeg (0 + 3))) o H.size) (vx_cwSW 5 hts (gS q729 q730 q0 (gH q731)) rfl rfl rfl (by decide +kernel) ⟨Nat.le_of_ble_eq_true rfl, Nat.le_of_ble_eq_true rfl⟩) ⟨EV.fb, fun U hU hW => ⟨rfl, EV.at hPc hKc hDc hG (hZ.no hS) U hU hW⟩⟩ rfl rfl hl.1 rfl (lv_room (Nat.le_of_ble_eq_true rfl)) dL_law__384 ⟨Nat.le_of_ble_eq_true rfl, Nat.le_of_ble_eq_true rfl⟩) hS (fun q _ h => h.elim) (fun q h => h.elim) (fun r_1 u t H1 locs ht hvm hw hB hz1 hk1 hS => ?_)
  have hP := P_kept hP hk1
  generalize H1 = H at hP hS ⊢
  have hP : va_P D vwCl [(x, .inr (11, [.ref cs, .ref th, .ref nw, .ref mi, .int 9999, .int 0, .int 0])), (cs, .inr (4, [.int 0, .ref e0, .int 0])), (th, .inr (4, [.int 0, .ref e0, .int 0])), (nw, .inr (10, [.int 10, .int 0, .int 0])), (m2, .inr (16, [.int 0, .ref ms, .ref sk, .int 0])), (ms, .inr (4, [.int 0, .ref e0, .int 0])), (sk, .inr (15, [.int 10, .int 0, .int 0, .int 9999, .int 0])), (o, .inl (cA, 1, .inr (.inl (fun _ => 0)))), (od, .inl (cB, 1, .inr (.inr (.inr (.inl (fun _ => 0))))))] H := hP
  subst hw
  refine lv_istore (lv' := [(6, .int 1), (5, .int 0), (4, .ref od), (3, .ref o), (2, .ref m2), (1, .ref x), (0, .ref b)]) hx hb dL_law__387 hl (by decide) rfl (fun ls hl => ?_)
  refine lv_aload_n hx hb dL_law__389 rfl (lv_at hl 4 rfl) ?_
  refine lv_aload_n hx hb dL_law__390 rfl (lv_at hl 6 rfl) ?_
  refine lv_iload hx hb dL_law__391 (lv_at hl 1 rfl) ?_
  refine lv_iconst (v := 1) hx hb dL_law__393 (by decide) ?_
  refine lv_iadd hx hb dL_law__394 ?_
  refine va_sld hx hb hX hbl hbA hS (by unfold vp_in; decide) dL_law__395 ?_
  refine lv_aload_n hx hb dL_law__396 rfl (lv_at hl 6 rfl) ?_
  refine lv_iload hx hb dL_law__397 (lv_at hl 1 rfl) ?_
  refine lv_iconst (v := 2) hx hb dL_law__399 (by decide) ?_
  refine lv_iadd hx hb dL_law__400 ?_
  refine va_sld hx hb hX hbl hbA hS (by unfold vp_in; decide) dL_law__401 ?_
  refine lv_aload_n hx hb dL_law__402 rfl (lv_at hl 6 rfl) ?_
  refine lv_iload hx hb dL_law__403 (lv_at hl 1 rfl) ?_
  refine lv_iconst (v := 3) hx hb dL_law__405 (by decide) ?_
  refine lv_iadd hx hb dL_law__406 ?_
  refine va_sld hx hb hX hbl hbA hS (by unfold vp_in; decide) dL_law__407 ?_
  have hPc := hP.sub (ws' := [(m2, .inr (16, [.int 0, .ref ms, .ref sk, .int 0])), (ms, .inr (4, [.int 0, .ref e0, .int 0]))]) [4, 5] rfl
  have hDc := hD.sub (ws' := [(m2, .inr (16, [.int 0, .ref ms, .ref sk, .int 0])), (ms, .inr (4, [.int 0, .ref e0, .int 0]))]) [4, 5] (by decide) rfl
  have hKc := hK.sub (tys' := []) [] rfl
  have hFc := va_free (wc := [(m2, .inr (16, [.int 0, .ref ms, .ref sk, .int 0])), (ms, .inr (4, [.int 0, .ref e0, .int 0]))]) hD hS hA [4, 5] rfl
  refine va_calli (va_runV (As := [.int (xs (Int32.toNatClampNeg (0 + 1))), .int (xs (Int32.toNatClampNeg (0 + 2))), .int (xs (Int32.toNatClampNeg (0 + 3)))]) (rest := []) ⟨hx, hb, hml, hown, hts⟩ (k_LM_wet l D m2 0 ms (.ref sk) (.int 0) 0 (.ref e0) (xs (Int32.toNatClampNeg (0 + 1))) (xs (Int32.toNatClampNeg (0 + 2))) (xs (Int32.toNatClampNeg (0 + 3))) H.size) (cwV 3 hts (gV q1415 q1416 q1417 q6 (gA q1418)) rfl rfl rfl (by decide +kernel) ⟨Nat.le_of_ble_eq_true rfl, Nat.le_of_ble_eq_true rfl⟩) ⟨EV.fb, va_recv hKc hPc (ci := 16) (q0 := 0) rfl rfl, fun U hU hW => ⟨rfl, EV.at hPc hKc hDc hG (hZ.no hS) U hU hW⟩⟩ rfl rfl hl.1 rfl (lv_room (Nat.le_of_ble_eq_true rfl)) dL_law__408 ⟨Nat.le_of_ble_eq_true rfl, Nat.le_of_ble_eq_true rfl⟩) hS (fun q _ h => hFc q h) hFc (fun r_2 u t H1 locs ht hvm hw hB hz1 hk1 hS => ?_)
  obtain ⟨hP1, hD1⟩ := hB
  rw [ht] at hP1
  obtain ⟨hP, hD⟩ := va_join (wr := [(x, .inr (11, [.ref cs, .ref th, .ref nw, .ref mi, .int 9999, .int 0, .int 0])), (cs, .inr (4, [.int 0, .ref e0, .int 0])), (th, .inr (4, [.int 0, .ref e0, .int 0])), (nw, .inr (10, [.int 10, .int 0, .int 0])), (sk, .inr (15, [.int 10, .int 0, .int 0, .int 9999, .int 0])), (o, .inl (cA, 1, .inr (.inl (fun _ => 0)))), (od, .inl (cB, 1, .inr (.inr (.inr (.inl (fun _ => 0))))))]) (w1 := [(m2, .inr (16, [.int 1, .ref ms, .ref sk, .int 0])), (ms, .inr (4, [.int 0, .ref e0, .int 0]))]) hP hD [4, 5] [0, 1, 2, 3, 6, 7, 8] rfl rfl (by decide) (by decide) hk1 hFc hP1 hD1
  generalize H1 = H at hP hS ⊢
  have hP : va_P D vwCl [(x, .inr (11, [.ref cs, .ref th, .ref nw, .ref mi, .int 9999, .int 0, .int 0])), (cs, .inr (4, [.int 0, .ref e0, .int 0])), (th, .inr (4, [.int 0, .ref e0, .int 0])), (nw, .inr (10, [.int 10, .int 0, .int 0])), (sk, .inr (15, [.int 10, .int 0, .int 0, .int 9999, .int 0])), (o, .inl (cA, 1, .inr (.inl (fun _ => 0)))), (od, .inl (cB, 1, .inr (.inr (.inr (.inl (fun _ => 0)))))), (m2, .inr (16, [.int 1, .ref ms, .ref sk, .int 0])), (ms, .inr (4, [.int 0, .ref e0, .int 0]))] H := hP
  have hD : va_D (fun q : Nat => s.heap.size ≤ q) [(x, .inr (11, [.ref cs, .ref th, .ref nw, .ref mi, .int 9999, .int 0, .int 0])), (cs, .inr (4, [.int 0, .ref e0, .int 0])), (th, .inr (4, [.int 0, .ref e0, .int 0])), (nw, .inr (10, [.int 10, .int 0, .int 0])), (sk, .inr (15, [.int 10, .int 0, .int 0, .int 9999, .int 0])), (o, .inl (cA, 1, .inr (.inl (fun _ => 0)))), (od, .inl (cB, 1, .inr (.inr (.inr (.inl (fun _ => 0)))))), (m2, .inr (16, [.int 1, .ref ms, .ref sk, .int 0])), (ms, .inr (4, [.int 0, .ref e0, .int 0]))] := hD
  refine lv_istore (lv' := [(7, .int r_2), (6, .int 1), (5, .int 0), (4, .ref od), (3, .ref o), (2, .ref m2), (1, .ref x), (0, .ref b)]) hx hb dL_law__411 hl (by decide) rfl (fun ls hl => ?_)
  refine lv_aload_n hx hb dL_law__413 rfl (lv_at hl 5 rfl) ?_
  have hPc := hP.sub (ws' := [(m2, .inr (16, [.int 1, .ref ms, .ref sk, .int 0]))]) [7] rfl
  have hDc := hD.sub (ws' := [(m2, .inr (16, [.int 1, .ref ms, .ref sk, .int 0]))]) [7] (by decide) rfl
  have hKc := hK.sub (tys' := []) [] rfl
  refine va_calli (va_runV (As := []) (rest := []) ⟨hx, hb, hml, hown, hts⟩ (k_LM_thrown l D m2 1 ms (.ref sk) (.int 0) 0 .null H.size) (cwV 0 hts (gV q1174 q1175 q1176 q6 (gA q1177)) rfl rfl rfl (by decide +kernel) ⟨Nat.le_of_ble_eq_true rfl, Nat.le_of_ble_eq_true rfl⟩) ⟨EV.fb, va_recv hKc hPc (ci := 16) (q0 := 0) rfl rfl, fun U hU hW => ⟨rfl, EV.at hPc hKc hDc hG (hZ.no hS) U hU hW⟩⟩ rfl rfl hl.1 rfl (lv_room (Nat.le_of_ble_eq_true rfl)) dL_law__414 ⟨Nat.le_of_ble_eq_true rfl, Nat.le_of_ble_eq_true rfl⟩) hS (fun q _ h => h.elim) (fun q h => h.elim) (fun r_3 u t H1 locs ht hvm hw hB hz1 hk1 hS => ?_)
  have hP := P_kept hP hk1
  generalize H1 = H at hP hS ⊢
  have hP : va_P D vwCl [(x, .inr (11, [.ref cs, .ref th, .ref nw, .ref mi, .int 9999, .int 0, .int 0])), (cs, .inr (4, [.int 0, .ref e0, .int 0])), (th, .inr (4, [.int 0, .ref e0, .int 0])), (nw, .inr (10, [.int 10, .int 0, .int 0])), (sk, .inr (15, [.int 10, .int 0, .int 0, .int 9999, .int 0])), (o, .inl (cA, 1, .inr (.inl (fun _ => 0)))), (od, .inl (cB, 1, .inr (.inr (.inr (.inl (fun _ => 0)))))), (m2, .inr (16, [.int 1, .ref ms, .ref sk, .int 0])), (ms, .inr (4, [.int 0, .ref e0, .int 0]))] H := hP
  subst hw
  refine lv_iload hx hb dL_law__417 (lv_at hl 1 rfl) ?_
  refine lv_icmp_eq (tgt := 424) hx hb dL_law__419 (by decide) (fun c_4 => ?_) (fun c_4 => ?_)
  · refine lv_iload hx hb dL_law__424 (lv_at hl 1 rfl) ?_
    refine lv_if_ne (tgt := 441) hx hb dL_law__426 (by decide) (fun c_5 => ?_) (fun c_5 => ?_)
    · refine lv_goto (tgt := 2850) hx hb dL_law__441 (by decide) ?_
      exact law_end (D := D) hst hx hb hr hml hown hts hX hbl hlocks hS (Nat.le_of_ble_eq_true rfl) (Nat.le_of_ble_eq_true rfl) (lv_sub hl [7, 2] rfl)
    · exact absurd c_5 (by decide)
  · exact absurd (by decide) c_4
set_option maxHeartbeats 8000000 in
set_option maxRecDepth 100000 in
/-- case 3: water -/
theorem law_3 {p : Program} {l : Launch} {e : Env} {s : State} {m : MethodId} {below : List Frame} {meth : Method} {c : Code} {D : va_G} {b : Nat} {xs : Nat → Int32} (hst : l.stackTraces = false) (hx : p.tables.exec = Jvm.exec) (hb : c.code = code) (hr : meth.sig.returnType = ret) (hml : c.maxLocals = 9) (hown : s.vm.findClass RL = some m.cls) (hts : ∀ w ∈ lw_all, w.before #[Value.ref b] s = true) (hX : va_X b 5 xs s s.heap) (hbl : b < s.heap.size) (hlocks : meth.locks = false) (hG : GE s) (hZ : ZZ (fun q : Nat => s.heap.size ≤ q) s s.heap) {e0 : Nat} (hZd : ZD e0 (fun q : Nat => s.heap.size ≤ q) s s.heap) (hZt : ZT e0 (fun q : Nat => s.heap.size ≤ q) s s.heap) (hAO : va_AO "java/lang/Object" s) {fq fv : Nat} (hSF : SF fq fv (fun q : Nat => s.heap.size ≤ q) s s.heap) (hvk : vk_R RX12 58 "fsn" fq s) {x cs th nw mi m2 ms sk o od : Nat} {cA cB : ClassId} {H : Heap} {locs : List Loc} (hK : va_K D vwCl [(cA, .long), (cB, .double)] s) (hP : va_P D vwCl [(x, .inr (11, [.ref cs, .ref th, .ref nw, .ref mi, .int 9999, .int 0, .int 0])), (cs, .inr (4, [.int 0, .ref e0, .int 0])), (th, .inr (4, [.int 0, .ref e0, .int 0])), (nw, .inr (10, [.int 10, .int 0, .int 0])), (m2, .inr (16, [.int 0, .ref ms, .ref sk, .int 0])), (ms, .inr (4, [.int 0, .ref e0, .int 0])), (sk, .inr (15, [.int 10, .int 0, .int 0, .int 9999, .int 0])), (o, .inl (cA, 1, .inr (.inl (fun _ => 0)))), (od, .inl (cB, 1, .inr (.inr (.inr (.inl (fun _ => 0))))))] H) (hD : va_D (fun q : Nat => s.heap.size ≤ q) [(x, .inr (11, [.ref cs, .ref th, .ref nw, .ref mi, .int 9999, .int 0, .int 0])), (cs, .inr (4, [.int 0, .ref e0, .int 0])), (th, .inr (4, [.int 0, .ref e0, .int 0])), (nw, .inr (10, [.int 10, .int 0, .int 0])), (m2, .inr (16, [.int 0, .ref ms, .ref sk, .int 0])), (ms, .inr (4, [.int 0, .ref e0, .int 0])), (sk, .inr (15, [.int 10, .int 0, .int 0, .int 9999, .int 0])), (o, .inl (cA, 1, .inr (.inl (fun _ => 0)))), (od, .inl (cB, 1, .inr (.inr (.inr (.inl (fun _ => 0))))))]) (hS : va_S (fun q : Nat => s.heap.size ≤ q) s.heap H locs) {ls : Array Slot} (hl : lv_has ls 9 [(5, .int 0), (4, .ref od), (3, .ref o), (2, .ref m2), (1, .ref x), (0, .ref b)]) : W p l e room_1 s m #[Value.ref b] below meth c H locs 10 70 (lw_Z below #[Value.ref b] s) (F0 m 444 ls []) := by
  have hA : ∀ q : Nat, s.heap.size ≤ q → (fun q : Nat => s.heap.size ≤ q) q := fun _ h => h
  have hbA : ¬ (fun q : Nat => s.heap.size ≤ q) b := Nat.not_le.mpr hbl
  refine lv_aload_n hx hb dL_law__444 rfl (lv_at hl 4 rfl) ?_
  refine lv_aload_n hx hb dL_law__445 rfl (lv_at hl 5 rfl) ?_
  refine lv_iload hx hb dL_law__446 (lv_at hl 0 rfl) ?_
  refine lv_iconst (v := 1) hx hb dL_law__448 (by decide) ?_
  refine lv_iadd hx hb dL_law__449 ?_
  refine va_sld hx hb hX hbl hbA hS (by unfold vp_in; decide) dL_law__450 ?_
  refine lv_aload_n hx hb dL_law__451 rfl (lv_at hl 5 rfl) ?_
  refine lv_iload hx hb dL_law__452 (lv_at hl 0 rfl) ?_
  refine lv_iconst (v := 2) hx hb dL_law__454 (by decide) ?_
  refine lv_iadd hx hb dL_law__455 ?_
  refine va_sld hx hb hX hbl hbA hS (by unfold vp_in; decide) dL_law__456 ?_
  refine lv_aload_n hx hb dL_law__457 rfl (lv_at hl 2 rfl) ?_
  have hPc := hP.sub (ws' := [(x, .inr (11, [.ref cs, .ref th, .ref nw, .ref mi, .int 9999, .int 0, .int 0])), (cs, .inr (4, [.int 0, .ref e0, .int 0]))]) [0, 1] rfl
  have hDc := hD.sub (ws' := [(x, .inr (11, [.ref cs, .ref th, .ref nw, .ref mi, .int 9999, .int 0, .int 0])), (cs, .inr (4, [.int 0, .ref e0, .int 0]))]) [0, 1] (by decide) rfl
  have hKc := hK.sub (tys' := []) [] rfl
  refine va_calli (vx_runSW (As := [.ref x, .int (xs (Int32.toNatClampNeg (0 + 1))), .int (xs (Int32.toNatClampNeg (0 + 2))), .ref o]) (rest := []) ⟨hx, hb, hml, hown, hts⟩ (k_LL_water l hst D x cs (.ref th) (.ref nw) (.ref mi) (.int 9999) (.int 0) (.int 0) 0 (.ref e0) (xs (Int32.toNatClampNeg (0 + 1))) (xs (Int32.toNatClampNeg (0 + 2))) o H.size) (vx_cwSW 4 hts (gS q741 q742 q0 (gH q743)) rfl rfl rfl (by decide +kernel) ⟨Nat.le_of_ble_eq_true rfl, Nat.le_of_ble_eq_true rfl⟩) ⟨EV.fb, fun U hU hW => ⟨rfl, EV.at hPc hKc hDc hG (hZ.no hS) U hU hW⟩⟩ rfl rfl hl.1 rfl (lv_room (Nat.le_of_ble_eq_true rfl)) dL_law__458 ⟨Nat.le_of_ble_eq_true rfl, Nat.le_of_ble_eq_true rfl⟩) hS (fun q _ h => h.elim) (fun q h => h.elim) (fun r_1 u t H1 locs ht hvm hw hB hz1 hk1 hS => ?_)
  have hP := P_kept hP hk1
  generalize H1 = H at hP hS ⊢
  have hP : va_P D vwCl [(x, .inr (11, [.ref cs, .ref th, .ref nw, .ref mi, .int 9999, .int 0, .int 0])), (cs, .inr (4, [.int 0, .ref e0, .int 0])), (th, .inr (4, [.int 0, .ref e0, .int 0])), (nw, .inr (10, [.int 10, .int 0, .int 0])), (m2, .inr (16, [.int 0, .ref ms, .ref sk, .int 0])), (ms, .inr (4, [.int 0, .ref e0, .int 0])), (sk, .inr (15, [.int 10, .int 0, .int 0, .int 9999, .int 0])), (o, .inl (cA, 1, .inr (.inl (fun _ => 0)))), (od, .inl (cB, 1, .inr (.inr (.inr (.inl (fun _ => 0))))))] H := hP
  subst hw
  refine lv_istore (lv' := [(6, .int 1), (5, .int 0), (4, .ref od), (3, .ref o), (2, .ref m2), (1, .ref x), (0, .ref b)]) hx hb dL_law__461 hl (by decide) rfl (fun ls hl => ?_)
  refine lv_aload_n hx hb dL_law__463 rfl (lv_at hl 4 rfl) ?_
  refine lv_aload_n hx hb dL_law__464 rfl (lv_at hl 6 rfl) ?_
  refine lv_iload hx hb dL_law__465 (lv_at hl 1 rfl) ?_
  refine lv_iconst (v := 1) hx hb dL_law__467 (by decide) ?_
  refine lv_iadd hx hb dL_law__468 ?_
  refine va_sld hx hb hX hbl hbA hS (by unfold vp_in; decide) dL_law__469 ?_
  refine lv_aload_n hx hb dL_law__470 rfl (lv_at hl 6 rfl) ?_
  refine lv_iload hx hb dL_law__471 (lv_at hl 1 rfl) ?_
  refine lv_iconst (v := 2) hx hb dL_law__473 (by decide) ?_
  refine lv_iadd hx hb dL_law__474 ?_
  refine va_sld hx hb hX hbl hbA hS (by unfold vp_in; decide) dL_law__475 ?_
  have hPc := hP.sub (ws' := [(m2, .inr (16, [.int 0, .ref ms, .ref sk, .int 0])), (ms, .inr (4, [.int 0, .ref e0, .int 0]))]) [4, 5] rfl
  have hDc := hD.sub (ws' := [(m2, .inr (16, [.int 0, .ref ms, .ref sk, .int 0])), (ms, .inr (4, [.int 0, .ref e0, .int 0]))]) [4, 5] (by decide) rfl
  have hKc := hK.sub (tys' := []) [] rfl
  have hFc := va_free (wc := [(m2, .inr (16, [.int 0, .ref ms, .ref sk, .int 0])), (ms, .inr (4, [.int 0, .ref e0, .int 0]))]) hD hS hA [4, 5] rfl
  refine va_calli (va_runV (As := [.int (xs (Int32.toNatClampNeg (0 + 1))), .int (xs (Int32.toNatClampNeg (0 + 2)))]) (rest := []) ⟨hx, hb, hml, hown, hts⟩ (k_LM_water l D m2 0 ms (.ref sk) (.int 0) 0 (.ref e0) (xs (Int32.toNatClampNeg (0 + 1))) (xs (Int32.toNatClampNeg (0 + 2))) H.size) (cwV 2 hts (gV q1427 q1428 q1429 q6 (gA q1430)) rfl rfl rfl (by decide +kernel) ⟨Nat.le_of_ble_eq_true rfl, Nat.le_of_ble_eq_true rfl⟩) ⟨EV.fb, va_recv hKc hPc (ci := 16) (q0 := 0) rfl rfl, fun U hU hW => ⟨rfl, EV.at hPc hKc hDc hG (hZ.no hS) U hU hW⟩⟩ rfl rfl hl.1 rfl (lv_room (Nat.le_of_ble_eq_true rfl)) dL_law__476 ⟨Nat.le_of_ble_eq_true rfl, Nat.le_of_ble_eq_true rfl⟩) hS (fun q _ h => hFc q h) hFc (fun r_2 u t H1 locs ht hvm hw hB hz1 hk1 hS => ?_)
  obtain ⟨hP1, hD1⟩ := hB
  rw [ht] at hP1
  obtain ⟨hP, hD⟩ := va_join (wr := [(x, .inr (11, [.ref cs, .ref th, .ref nw, .ref mi, .int 9999, .int 0, .int 0])), (cs, .inr (4, [.int 0, .ref e0, .int 0])), (th, .inr (4, [.int 0, .ref e0, .int 0])), (nw, .inr (10, [.int 10, .int 0, .int 0])), (sk, .inr (15, [.int 10, .int 0, .int 0, .int 9999, .int 0])), (o, .inl (cA, 1, .inr (.inl (fun _ => 0)))), (od, .inl (cB, 1, .inr (.inr (.inr (.inl (fun _ => 0))))))]) (w1 := [(m2, .inr (16, [.int 1, .ref ms, .ref sk, .int 0])), (ms, .inr (4, [.int 0, .ref e0, .int 0]))]) hP hD [4, 5] [0, 1, 2, 3, 6, 7, 8] rfl rfl (by decide) (by decide) hk1 hFc hP1 hD1
  generalize H1 = H at hP hS ⊢
  have hP : va_P D vwCl [(x, .inr (11, [.ref cs, .ref th, .ref nw, .ref mi, .int 9999, .int 0, .int 0])), (cs, .inr (4, [.int 0, .ref e0, .int 0])), (th, .inr (4, [.int 0, .ref e0, .int 0])), (nw, .inr (10, [.int 10, .int 0, .int 0])), (sk, .inr (15, [.int 10, .int 0, .int 0, .int 9999, .int 0])), (o, .inl (cA, 1, .inr (.inl (fun _ => 0)))), (od, .inl (cB, 1, .inr (.inr (.inr (.inl (fun _ => 0)))))), (m2, .inr (16, [.int 1, .ref ms, .ref sk, .int 0])), (ms, .inr (4, [.int 0, .ref e0, .int 0]))] H := hP
  have hD : va_D (fun q : Nat => s.heap.size ≤ q) [(x, .inr (11, [.ref cs, .ref th, .ref nw, .ref mi, .int 9999, .int 0, .int 0])), (cs, .inr (4, [.int 0, .ref e0, .int 0])), (th, .inr (4, [.int 0, .ref e0, .int 0])), (nw, .inr (10, [.int 10, .int 0, .int 0])), (sk, .inr (15, [.int 10, .int 0, .int 0, .int 9999, .int 0])), (o, .inl (cA, 1, .inr (.inl (fun _ => 0)))), (od, .inl (cB, 1, .inr (.inr (.inr (.inl (fun _ => 0)))))), (m2, .inr (16, [.int 1, .ref ms, .ref sk, .int 0])), (ms, .inr (4, [.int 0, .ref e0, .int 0]))] := hD
  refine lv_istore (lv' := [(7, .int r_2), (6, .int 1), (5, .int 0), (4, .ref od), (3, .ref o), (2, .ref m2), (1, .ref x), (0, .ref b)]) hx hb dL_law__479 hl (by decide) rfl (fun ls hl => ?_)
  refine lv_aload_n hx hb dL_law__481 rfl (lv_at hl 5 rfl) ?_
  have hPc := hP.sub (ws' := [(m2, .inr (16, [.int 1, .ref ms, .ref sk, .int 0]))]) [7] rfl
  have hDc := hD.sub (ws' := [(m2, .inr (16, [.int 1, .ref ms, .ref sk, .int 0]))]) [7] (by decide) rfl
  have hKc := hK.sub (tys' := []) [] rfl
  refine va_calli (va_runV (As := []) (rest := []) ⟨hx, hb, hml, hown, hts⟩ (k_LM_thrown l D m2 1 ms (.ref sk) (.int 0) 0 .null H.size) (cwV 0 hts (gV q1174 q1175 q1176 q6 (gA q1177)) rfl rfl rfl (by decide +kernel) ⟨Nat.le_of_ble_eq_true rfl, Nat.le_of_ble_eq_true rfl⟩) ⟨EV.fb, va_recv hKc hPc (ci := 16) (q0 := 0) rfl rfl, fun U hU hW => ⟨rfl, EV.at hPc hKc hDc hG (hZ.no hS) U hU hW⟩⟩ rfl rfl hl.1 rfl (lv_room (Nat.le_of_ble_eq_true rfl)) dL_law__482 ⟨Nat.le_of_ble_eq_true rfl, Nat.le_of_ble_eq_true rfl⟩) hS (fun q _ h => h.elim) (fun q h => h.elim) (fun r_3 u t H1 locs ht hvm hw hB hz1 hk1 hS => ?_)
  have hP := P_kept hP hk1
  generalize H1 = H at hP hS ⊢
  have hP : va_P D vwCl [(x, .inr (11, [.ref cs, .ref th, .ref nw, .ref mi, .int 9999, .int 0, .int 0])), (cs, .inr (4, [.int 0, .ref e0, .int 0])), (th, .inr (4, [.int 0, .ref e0, .int 0])), (nw, .inr (10, [.int 10, .int 0, .int 0])), (sk, .inr (15, [.int 10, .int 0, .int 0, .int 9999, .int 0])), (o, .inl (cA, 1, .inr (.inl (fun _ => 0)))), (od, .inl (cB, 1, .inr (.inr (.inr (.inl (fun _ => 0)))))), (m2, .inr (16, [.int 1, .ref ms, .ref sk, .int 0])), (ms, .inr (4, [.int 0, .ref e0, .int 0]))] H := hP
  subst hw
  refine lv_iload hx hb dL_law__485 (lv_at hl 1 rfl) ?_
  refine lv_icmp_eq (tgt := 492) hx hb dL_law__487 (by decide) (fun c_4 => ?_) (fun c_4 => ?_)
  · refine lv_iload hx hb dL_law__492 (lv_at hl 1 rfl) ?_
    refine lv_if_ne (tgt := 509) hx hb dL_law__494 (by decide) (fun c_5 => ?_) (fun c_5 => ?_)
    · refine lv_goto (tgt := 2850) hx hb dL_law__509 (by decide) ?_
      exact law_end (D := D) hst hx hb hr hml hown hts hX hbl hlocks hS (Nat.le_of_ble_eq_true rfl) (Nat.le_of_ble_eq_true rfl) (lv_sub hl [7, 2] rfl)
    · exact absurd c_5 (by decide)
  · exact absurd (by decide) c_4
set_option maxHeartbeats 8000000 in
set_option maxRecDepth 100000 in
/-- case 4: capacity -/
theorem law_4 {p : Program} {l : Launch} {e : Env} {s : State} {m : MethodId} {below : List Frame} {meth : Method} {c : Code} {D : va_G} {b : Nat} {xs : Nat → Int32} (hst : l.stackTraces = false) (hx : p.tables.exec = Jvm.exec) (hb : c.code = code) (hr : meth.sig.returnType = ret) (hml : c.maxLocals = 9) (hown : s.vm.findClass RL = some m.cls) (hts : ∀ w ∈ lw_all, w.before #[Value.ref b] s = true) (hX : va_X b 5 xs s s.heap) (hbl : b < s.heap.size) (hlocks : meth.locks = false) (hG : GE s) (hZ : ZZ (fun q : Nat => s.heap.size ≤ q) s s.heap) {e0 : Nat} (hZd : ZD e0 (fun q : Nat => s.heap.size ≤ q) s s.heap) (hZt : ZT e0 (fun q : Nat => s.heap.size ≤ q) s s.heap) (hAO : va_AO "java/lang/Object" s) {fq fv : Nat} (hSF : SF fq fv (fun q : Nat => s.heap.size ≤ q) s s.heap) (hvk : vk_R RX12 58 "fsn" fq s) {x cs th nw mi m2 ms sk o od : Nat} {cA cB : ClassId} {H : Heap} {locs : List Loc} (hK : va_K D vwCl [(cA, .long), (cB, .double)] s) (hP : va_P D vwCl [(x, .inr (11, [.ref cs, .ref th, .ref nw, .ref mi, .int 9999, .int 0, .int 0])), (cs, .inr (4, [.int 0, .ref e0, .int 0])), (th, .inr (4, [.int 0, .ref e0, .int 0])), (nw, .inr (10, [.int 10, .int 0, .int 0])), (m2, .inr (16, [.int 0, .ref ms, .ref sk, .int 0])), (ms, .inr (4, [.int 0, .ref e0, .int 0])), (sk, .inr (15, [.int 10, .int 0, .int 0, .int 9999, .int 0])), (o, .inl (cA, 1, .inr (.inl (fun _ => 0)))), (od, .inl (cB, 1, .inr (.inr (.inr (.inl (fun _ => 0))))))] H) (hD : va_D (fun q : Nat => s.heap.size ≤ q) [(x, .inr (11, [.ref cs, .ref th, .ref nw, .ref mi, .int 9999, .int 0, .int 0])), (cs, .inr (4, [.int 0, .ref e0, .int 0])), (th, .inr (4, [.int 0, .ref e0, .int 0])), (nw, .inr (10, [.int 10, .int 0, .int 0])), (m2, .inr (16, [.int 0, .ref ms, .ref sk, .int 0])), (ms, .inr (4, [.int 0, .ref e0, .int 0])), (sk, .inr (15, [.int 10, .int 0, .int 0, .int 9999, .int 0])), (o, .inl (cA, 1, .inr (.inl (fun _ => 0)))), (od, .inl (cB, 1, .inr (.inr (.inr (.inl (fun _ => 0))))))]) (hS : va_S (fun q : Nat => s.heap.size ≤ q) s.heap H locs) {ls : Array Slot} (hl : lv_has ls 9 [(5, .int 0), (4, .ref od), (3, .ref o), (2, .ref m2), (1, .ref x), (0, .ref b)]) : W p l e room_1 s m #[Value.ref b] below meth c H locs 10 70 (lw_Z below #[Value.ref b] s) (F0 m 512 ls []) := by
  have hA : ∀ q : Nat, s.heap.size ≤ q → (fun q : Nat => s.heap.size ≤ q) q := fun _ h => h
  have hbA : ¬ (fun q : Nat => s.heap.size ≤ q) b := Nat.not_le.mpr hbl
  refine lv_aload_n hx hb dL_law__512 rfl (lv_at hl 4 rfl) ?_
  refine lv_aload_n hx hb dL_law__513 rfl (lv_at hl 5 rfl) ?_
  refine lv_iload hx hb dL_law__514 (lv_at hl 0 rfl) ?_
  refine lv_iconst (v := 1) hx hb dL_law__516 (by decide) ?_
  refine lv_iadd hx hb dL_law__517 ?_
  refine va_sld hx hb hX hbl hbA hS (by unfold vp_in; decide) dL_law__518 ?_
  refine lv_aload_n hx hb dL_law__519 rfl (lv_at hl 5 rfl) ?_
  refine lv_iload hx hb dL_law__520 (lv_at hl 0 rfl) ?_
  refine lv_iconst (v := 2) hx hb dL_law__522 (by decide) ?_
  refine lv_iadd hx hb dL_law__523 ?_
  refine va_sld hx hb hX hbl hbA hS (by unfold vp_in; decide) dL_law__524 ?_
  refine lv_aload_n hx hb dL_law__525 rfl (lv_at hl 2 rfl) ?_
  have hPc := hP.sub (ws' := [(x, .inr (11, [.ref cs, .ref th, .ref nw, .ref mi, .int 9999, .int 0, .int 0])), (cs, .inr (4, [.int 0, .ref e0, .int 0]))]) [0, 1] rfl
  have hDc := hD.sub (ws' := [(x, .inr (11, [.ref cs, .ref th, .ref nw, .ref mi, .int 9999, .int 0, .int 0])), (cs, .inr (4, [.int 0, .ref e0, .int 0]))]) [0, 1] (by decide) rfl
  have hKc := hK.sub (tys' := []) [] rfl
  refine va_calli (vx_runSW (As := [.ref x, .int (xs (Int32.toNatClampNeg (0 + 1))), .int (xs (Int32.toNatClampNeg (0 + 2))), .ref o]) (rest := []) ⟨hx, hb, hml, hown, hts⟩ (k_LL_capacity l hst D x cs (.ref th) (.ref nw) (.ref mi) (.int 9999) (.int 0) (.int 0) 0 (.ref e0) (xs (Int32.toNatClampNeg (0 + 1))) (xs (Int32.toNatClampNeg (0 + 2))) o H.size) (vx_cwSW 4 hts (gS q748 q749 q0 (gH q750)) rfl rfl rfl (by decide +kernel) ⟨Nat.le_of_ble_eq_true rfl, Nat.le_of_ble_eq_true rfl⟩) ⟨EV.fb, fun U hU hW => ⟨rfl, EV.at hPc hKc hDc hG (hZ.no hS) U hU hW⟩⟩ rfl rfl hl.1 rfl (lv_room (Nat.le_of_ble_eq_true rfl)) dL_law__526 ⟨Nat.le_of_ble_eq_true rfl, Nat.le_of_ble_eq_true rfl⟩) hS (fun q _ h => h.elim) (fun q h => h.elim) (fun r_1 u t H1 locs ht hvm hw hB hz1 hk1 hS => ?_)
  have hP := P_kept hP hk1
  generalize H1 = H at hP hS ⊢
  have hP : va_P D vwCl [(x, .inr (11, [.ref cs, .ref th, .ref nw, .ref mi, .int 9999, .int 0, .int 0])), (cs, .inr (4, [.int 0, .ref e0, .int 0])), (th, .inr (4, [.int 0, .ref e0, .int 0])), (nw, .inr (10, [.int 10, .int 0, .int 0])), (m2, .inr (16, [.int 0, .ref ms, .ref sk, .int 0])), (ms, .inr (4, [.int 0, .ref e0, .int 0])), (sk, .inr (15, [.int 10, .int 0, .int 0, .int 9999, .int 0])), (o, .inl (cA, 1, .inr (.inl (fun _ => 0)))), (od, .inl (cB, 1, .inr (.inr (.inr (.inl (fun _ => 0))))))] H := hP
  subst hw
  refine lv_istore (lv' := [(6, .int 1), (5, .int 0), (4, .ref od), (3, .ref o), (2, .ref m2), (1, .ref x), (0, .ref b)]) hx hb dL_law__529 hl (by decide) rfl (fun ls hl => ?_)
  refine lv_aload_n hx hb dL_law__531 rfl (lv_at hl 4 rfl) ?_
  refine lv_aload_n hx hb dL_law__532 rfl (lv_at hl 6 rfl) ?_
  refine lv_iload hx hb dL_law__533 (lv_at hl 1 rfl) ?_
  refine lv_iconst (v := 1) hx hb dL_law__535 (by decide) ?_
  refine lv_iadd hx hb dL_law__536 ?_
  refine va_sld hx hb hX hbl hbA hS (by unfold vp_in; decide) dL_law__537 ?_
  refine lv_aload_n hx hb dL_law__538 rfl (lv_at hl 6 rfl) ?_
  refine lv_iload hx hb dL_law__539 (lv_at hl 1 rfl) ?_
  refine lv_iconst (v := 2) hx hb dL_law__541 (by decide) ?_
  refine lv_iadd hx hb dL_law__542 ?_
  refine va_sld hx hb hX hbl hbA hS (by unfold vp_in; decide) dL_law__543 ?_
  have hPc := hP.sub (ws' := [(m2, .inr (16, [.int 0, .ref ms, .ref sk, .int 0])), (ms, .inr (4, [.int 0, .ref e0, .int 0]))]) [4, 5] rfl
  have hDc := hD.sub (ws' := [(m2, .inr (16, [.int 0, .ref ms, .ref sk, .int 0])), (ms, .inr (4, [.int 0, .ref e0, .int 0]))]) [4, 5] (by decide) rfl
  have hKc := hK.sub (tys' := []) [] rfl
  have hFc := va_free (wc := [(m2, .inr (16, [.int 0, .ref ms, .ref sk, .int 0])), (ms, .inr (4, [.int 0, .ref e0, .int 0]))]) hD hS hA [4, 5] rfl
  refine va_calli (va_runV (As := [.int (xs (Int32.toNatClampNeg (0 + 1))), .int (xs (Int32.toNatClampNeg (0 + 2)))]) (rest := []) ⟨hx, hb, hml, hown, hts⟩ (k_LM_capacity l D m2 0 ms (.ref sk) (.int 0) 0 (.ref e0) (xs (Int32.toNatClampNeg (0 + 1))) (xs (Int32.toNatClampNeg (0 + 2))) H.size) (cwV 2 hts (gV q1431 q1432 q1433 q6 (gA q1434)) rfl rfl rfl (by decide +kernel) ⟨Nat.le_of_ble_eq_true rfl, Nat.le_of_ble_eq_true rfl⟩) ⟨EV.fb, va_recv hKc hPc (ci := 16) (q0 := 0) rfl rfl, fun U hU hW => ⟨rfl, EV.at hPc hKc hDc hG (hZ.no hS) U hU hW⟩⟩ rfl rfl hl.1 rfl (lv_room (Nat.le_of_ble_eq_true rfl)) dL_law__544 ⟨Nat.le_of_ble_eq_true rfl, Nat.le_of_ble_eq_true rfl⟩) hS (fun q _ h => hFc q h) hFc (fun r_2 u t H1 locs ht hvm hw hB hz1 hk1 hS => ?_)
  obtain ⟨hP1, hD1⟩ := hB
  rw [ht] at hP1
  obtain ⟨hP, hD⟩ := va_join (wr := [(x, .inr (11, [.ref cs, .ref th, .ref nw, .ref mi, .int 9999, .int 0, .int 0])), (cs, .inr (4, [.int 0, .ref e0, .int 0])), (th, .inr (4, [.int 0, .ref e0, .int 0])), (nw, .inr (10, [.int 10, .int 0, .int 0])), (sk, .inr (15, [.int 10, .int 0, .int 0, .int 9999, .int 0])), (o, .inl (cA, 1, .inr (.inl (fun _ => 0)))), (od, .inl (cB, 1, .inr (.inr (.inr (.inl (fun _ => 0))))))]) (w1 := [(m2, .inr (16, [.int 1, .ref ms, .ref sk, .int 0])), (ms, .inr (4, [.int 0, .ref e0, .int 0]))]) hP hD [4, 5] [0, 1, 2, 3, 6, 7, 8] rfl rfl (by decide) (by decide) hk1 hFc hP1 hD1
  generalize H1 = H at hP hS ⊢
  have hP : va_P D vwCl [(x, .inr (11, [.ref cs, .ref th, .ref nw, .ref mi, .int 9999, .int 0, .int 0])), (cs, .inr (4, [.int 0, .ref e0, .int 0])), (th, .inr (4, [.int 0, .ref e0, .int 0])), (nw, .inr (10, [.int 10, .int 0, .int 0])), (sk, .inr (15, [.int 10, .int 0, .int 0, .int 9999, .int 0])), (o, .inl (cA, 1, .inr (.inl (fun _ => 0)))), (od, .inl (cB, 1, .inr (.inr (.inr (.inl (fun _ => 0)))))), (m2, .inr (16, [.int 1, .ref ms, .ref sk, .int 0])), (ms, .inr (4, [.int 0, .ref e0, .int 0]))] H := hP
  have hD : va_D (fun q : Nat => s.heap.size ≤ q) [(x, .inr (11, [.ref cs, .ref th, .ref nw, .ref mi, .int 9999, .int 0, .int 0])), (cs, .inr (4, [.int 0, .ref e0, .int 0])), (th, .inr (4, [.int 0, .ref e0, .int 0])), (nw, .inr (10, [.int 10, .int 0, .int 0])), (sk, .inr (15, [.int 10, .int 0, .int 0, .int 9999, .int 0])), (o, .inl (cA, 1, .inr (.inl (fun _ => 0)))), (od, .inl (cB, 1, .inr (.inr (.inr (.inl (fun _ => 0)))))), (m2, .inr (16, [.int 1, .ref ms, .ref sk, .int 0])), (ms, .inr (4, [.int 0, .ref e0, .int 0]))] := hD
  refine lv_istore (lv' := [(7, .int r_2), (6, .int 1), (5, .int 0), (4, .ref od), (3, .ref o), (2, .ref m2), (1, .ref x), (0, .ref b)]) hx hb dL_law__547 hl (by decide) rfl (fun ls hl => ?_)
  refine lv_aload_n hx hb dL_law__549 rfl (lv_at hl 5 rfl) ?_
  have hPc := hP.sub (ws' := [(m2, .inr (16, [.int 1, .ref ms, .ref sk, .int 0]))]) [7] rfl
  have hDc := hD.sub (ws' := [(m2, .inr (16, [.int 1, .ref ms, .ref sk, .int 0]))]) [7] (by decide) rfl
  have hKc := hK.sub (tys' := []) [] rfl
  refine va_calli (va_runV (As := []) (rest := []) ⟨hx, hb, hml, hown, hts⟩ (k_LM_thrown l D m2 1 ms (.ref sk) (.int 0) 0 .null H.size) (cwV 0 hts (gV q1174 q1175 q1176 q6 (gA q1177)) rfl rfl rfl (by decide +kernel) ⟨Nat.le_of_ble_eq_true rfl, Nat.le_of_ble_eq_true rfl⟩) ⟨EV.fb, va_recv hKc hPc (ci := 16) (q0 := 0) rfl rfl, fun U hU hW => ⟨rfl, EV.at hPc hKc hDc hG (hZ.no hS) U hU hW⟩⟩ rfl rfl hl.1 rfl (lv_room (Nat.le_of_ble_eq_true rfl)) dL_law__550 ⟨Nat.le_of_ble_eq_true rfl, Nat.le_of_ble_eq_true rfl⟩) hS (fun q _ h => h.elim) (fun q h => h.elim) (fun r_3 u t H1 locs ht hvm hw hB hz1 hk1 hS => ?_)
  have hP := P_kept hP hk1
  generalize H1 = H at hP hS ⊢
  have hP : va_P D vwCl [(x, .inr (11, [.ref cs, .ref th, .ref nw, .ref mi, .int 9999, .int 0, .int 0])), (cs, .inr (4, [.int 0, .ref e0, .int 0])), (th, .inr (4, [.int 0, .ref e0, .int 0])), (nw, .inr (10, [.int 10, .int 0, .int 0])), (sk, .inr (15, [.int 10, .int 0, .int 0, .int 9999, .int 0])), (o, .inl (cA, 1, .inr (.inl (fun _ => 0)))), (od, .inl (cB, 1, .inr (.inr (.inr (.inl (fun _ => 0)))))), (m2, .inr (16, [.int 1, .ref ms, .ref sk, .int 0])), (ms, .inr (4, [.int 0, .ref e0, .int 0]))] H := hP
  subst hw
  refine lv_iload hx hb dL_law__553 (lv_at hl 1 rfl) ?_
  refine lv_icmp_eq (tgt := 560) hx hb dL_law__555 (by decide) (fun c_4 => ?_) (fun c_4 => ?_)
  · refine lv_iload hx hb dL_law__560 (lv_at hl 1 rfl) ?_
    refine lv_if_ne (tgt := 577) hx hb dL_law__562 (by decide) (fun c_5 => ?_) (fun c_5 => ?_)
    · refine lv_goto (tgt := 2850) hx hb dL_law__577 (by decide) ?_
      exact law_end (D := D) hst hx hb hr hml hown hts hX hbl hlocks hS (Nat.le_of_ble_eq_true rfl) (Nat.le_of_ble_eq_true rfl) (lv_sub hl [7, 2] rfl)
    · exact absurd c_5 (by decide)
  · exact absurd (by decide) c_4
set_option maxHeartbeats 8000000 in
set_option maxRecDepth 100000 in
/-- case 5: link -/
theorem law_5 {p : Program} {l : Launch} {e : Env} {s : State} {m : MethodId} {below : List Frame} {meth : Method} {c : Code} {D : va_G} {b : Nat} {xs : Nat → Int32} (hst : l.stackTraces = false) (hx : p.tables.exec = Jvm.exec) (hb : c.code = code) (hr : meth.sig.returnType = ret) (hml : c.maxLocals = 9) (hown : s.vm.findClass RL = some m.cls) (hts : ∀ w ∈ lw_all, w.before #[Value.ref b] s = true) (hX : va_X b 5 xs s s.heap) (hbl : b < s.heap.size) (hlocks : meth.locks = false) (hG : GE s) (hZ : ZZ (fun q : Nat => s.heap.size ≤ q) s s.heap) {e0 : Nat} (hZd : ZD e0 (fun q : Nat => s.heap.size ≤ q) s s.heap) (hZt : ZT e0 (fun q : Nat => s.heap.size ≤ q) s s.heap) (hAO : va_AO "java/lang/Object" s) {fq fv : Nat} (hSF : SF fq fv (fun q : Nat => s.heap.size ≤ q) s s.heap) (hvk : vk_R RX12 58 "fsn" fq s) {x cs th nw mi m2 ms sk o od : Nat} {cA cB : ClassId} {H : Heap} {locs : List Loc} (hK : va_K D vwCl [(cA, .long), (cB, .double)] s) (hP : va_P D vwCl [(x, .inr (11, [.ref cs, .ref th, .ref nw, .ref mi, .int 9999, .int 0, .int 0])), (cs, .inr (4, [.int 0, .ref e0, .int 0])), (th, .inr (4, [.int 0, .ref e0, .int 0])), (nw, .inr (10, [.int 10, .int 0, .int 0])), (m2, .inr (16, [.int 0, .ref ms, .ref sk, .int 0])), (ms, .inr (4, [.int 0, .ref e0, .int 0])), (sk, .inr (15, [.int 10, .int 0, .int 0, .int 9999, .int 0])), (o, .inl (cA, 1, .inr (.inl (fun _ => 0)))), (od, .inl (cB, 1, .inr (.inr (.inr (.inl (fun _ => 0))))))] H) (hD : va_D (fun q : Nat => s.heap.size ≤ q) [(x, .inr (11, [.ref cs, .ref th, .ref nw, .ref mi, .int 9999, .int 0, .int 0])), (cs, .inr (4, [.int 0, .ref e0, .int 0])), (th, .inr (4, [.int 0, .ref e0, .int 0])), (nw, .inr (10, [.int 10, .int 0, .int 0])), (m2, .inr (16, [.int 0, .ref ms, .ref sk, .int 0])), (ms, .inr (4, [.int 0, .ref e0, .int 0])), (sk, .inr (15, [.int 10, .int 0, .int 0, .int 9999, .int 0])), (o, .inl (cA, 1, .inr (.inl (fun _ => 0)))), (od, .inl (cB, 1, .inr (.inr (.inr (.inl (fun _ => 0))))))]) (hS : va_S (fun q : Nat => s.heap.size ≤ q) s.heap H locs) {ls : Array Slot} (hl : lv_has ls 9 [(5, .int 0), (4, .ref od), (3, .ref o), (2, .ref m2), (1, .ref x), (0, .ref b)]) : W p l e room_1 s m #[Value.ref b] below meth c H locs 10 70 (lw_Z below #[Value.ref b] s) (F0 m 580 ls []) := by
  have hA : ∀ q : Nat, s.heap.size ≤ q → (fun q : Nat => s.heap.size ≤ q) q := fun _ h => h
  have hbA : ¬ (fun q : Nat => s.heap.size ≤ q) b := Nat.not_le.mpr hbl
  refine lv_aload_n hx hb dL_law__580 rfl (lv_at hl 4 rfl) ?_
  refine lv_aload_n hx hb dL_law__581 rfl (lv_at hl 5 rfl) ?_
  refine lv_iload hx hb dL_law__582 (lv_at hl 0 rfl) ?_
  refine lv_iconst (v := 1) hx hb dL_law__584 (by decide) ?_
  refine lv_iadd hx hb dL_law__585 ?_
  refine va_sld hx hb hX hbl hbA hS (by unfold vp_in; decide) dL_law__586 ?_
  refine lv_aload_n hx hb dL_law__587 rfl (lv_at hl 5 rfl) ?_
  refine lv_iload hx hb dL_law__588 (lv_at hl 0 rfl) ?_
  refine lv_iconst (v := 2) hx hb dL_law__590 (by decide) ?_
  refine lv_iadd hx hb dL_law__591 ?_
  refine va_sld hx hb hX hbl hbA hS (by unfold vp_in; decide) dL_law__592 ?_
  refine lv_aload_n hx hb dL_law__593 rfl (lv_at hl 2 rfl) ?_
  have hPc := hP.sub (ws' := [(x, .inr (11, [.ref cs, .ref th, .ref nw, .ref mi, .int 9999, .int 0, .int 0])), (cs, .inr (4, [.int 0, .ref e0, .int 0]))]) [0, 1] rfl
  have hDc := hD.sub (ws' := [(x, .inr (11, [.ref cs, .ref th, .ref nw, .ref mi, .int 9999, .int 0, .int 0])), (cs, .inr (4, [.int 0, .ref e0, .int 0]))]) [0, 1] (by decide) rfl
  have hKc := hK.sub (tys' := []) [] rfl
  refine va_calli (vx_runSW (As := [.ref x, .int (xs (Int32.toNatClampNeg (0 + 1))), .int (xs (Int32.toNatClampNeg (0 + 2))), .ref o]) (rest := []) ⟨hx, hb, hml, hown, hts⟩ (k_LL_link l hst D x cs (.ref th) (.ref nw) (.ref mi) (.int 9999) (.int 0) (.int 0) 0 (.ref e0) (xs (Int32.toNatClampNeg (0 + 1))) (xs (Int32.toNatClampNeg (0 + 2))) o H.size) (vx_cwSW 4 hts (gS q755 q756 q0 (gH q757)) rfl rfl rfl (by decide +kernel) ⟨Nat.le_of_ble_eq_true rfl, Nat.le_of_ble_eq_true rfl⟩) ⟨EV.fb, fun U hU hW => ⟨rfl, EV.at hPc hKc hDc hG (hZ.no hS) U hU hW⟩⟩ rfl rfl hl.1 rfl (lv_room (Nat.le_of_ble_eq_true rfl)) dL_law__594 ⟨Nat.le_of_ble_eq_true rfl, Nat.le_of_ble_eq_true rfl⟩) hS (fun q _ h => h.elim) (fun q h => h.elim) (fun r_1 u t H1 locs ht hvm hw hB hz1 hk1 hS => ?_)
  have hP := P_kept hP hk1
  generalize H1 = H at hP hS ⊢
  have hP : va_P D vwCl [(x, .inr (11, [.ref cs, .ref th, .ref nw, .ref mi, .int 9999, .int 0, .int 0])), (cs, .inr (4, [.int 0, .ref e0, .int 0])), (th, .inr (4, [.int 0, .ref e0, .int 0])), (nw, .inr (10, [.int 10, .int 0, .int 0])), (m2, .inr (16, [.int 0, .ref ms, .ref sk, .int 0])), (ms, .inr (4, [.int 0, .ref e0, .int 0])), (sk, .inr (15, [.int 10, .int 0, .int 0, .int 9999, .int 0])), (o, .inl (cA, 1, .inr (.inl (fun _ => 0)))), (od, .inl (cB, 1, .inr (.inr (.inr (.inl (fun _ => 0))))))] H := hP
  subst hw
  refine lv_istore (lv' := [(6, .int 1), (5, .int 0), (4, .ref od), (3, .ref o), (2, .ref m2), (1, .ref x), (0, .ref b)]) hx hb dL_law__597 hl (by decide) rfl (fun ls hl => ?_)
  refine lv_aload_n hx hb dL_law__599 rfl (lv_at hl 4 rfl) ?_
  refine lv_aload_n hx hb dL_law__600 rfl (lv_at hl 6 rfl) ?_
  refine lv_iload hx hb dL_law__601 (lv_at hl 1 rfl) ?_
  refine lv_iconst (v := 1) hx hb dL_law__603 (by decide) ?_
  refine lv_iadd hx hb dL_law__604 ?_
  refine va_sld hx hb hX hbl hbA hS (by unfold vp_in; decide) dL_law__605 ?_
  refine lv_aload_n hx hb dL_law__606 rfl (lv_at hl 6 rfl) ?_
  refine lv_iload hx hb dL_law__607 (lv_at hl 1 rfl) ?_
  refine lv_iconst (v := 2) hx hb dL_law__609 (by decide) ?_
  refine lv_iadd hx hb dL_law__610 ?_
  refine va_sld hx hb hX hbl hbA hS (by unfold vp_in; decide) dL_law__611 ?_
  have hPc := hP.sub (ws' := [(m2, .inr (16, [.int 0, .ref ms, .ref sk, .int 0])), (ms, .inr (4, [.int 0, .ref e0, .int 0]))]) [4, 5] rfl
  have hDc := hD.sub (ws' := [(m2, .inr (16, [.int 0, .ref ms, .ref sk, .int 0])), (ms, .inr (4, [.int 0, .ref e0, .int 0]))]) [4, 5] (by decide) rfl
  have hKc := hK.sub (tys' := []) [] rfl
  have hFc := va_free (wc := [(m2, .inr (16, [.int 0, .ref ms, .ref sk, .int 0])), (ms, .inr (4, [.int 0, .ref e0, .int 0]))]) hD hS hA [4, 5] rfl
  refine va_calli (va_runV (As := [.int (xs (Int32.toNatClampNeg (0 + 1))), .int (xs (Int32.toNatClampNeg (0 + 2)))]) (rest := []) ⟨hx, hb, hml, hown, hts⟩ (k_LM_link l D m2 0 ms (.ref sk) (.int 0) 0 (.ref e0) (xs (Int32.toNatClampNeg (0 + 1))) (xs (Int32.toNatClampNeg (0 + 2))) H.size) (cwV 2 hts (gV q1435 q1436 q1437 q6 (gA q1438)) rfl rfl rfl (by decide +kernel) ⟨Nat.le_of_ble_eq_true rfl, Nat.le_of_ble_eq_true rfl⟩) ⟨EV.fb, va_recv hKc hPc (ci := 16) (q0 := 0) rfl rfl, fun U hU hW => ⟨rfl, EV.at hPc hKc hDc hG (hZ.no hS) U hU hW⟩⟩ rfl rfl hl.1 rfl (lv_room (Nat.le_of_ble_eq_true rfl)) dL_law__612 ⟨Nat.le_of_ble_eq_true rfl, Nat.le_of_ble_eq_true rfl⟩) hS (fun q _ h => hFc q h) hFc (fun r_2 u t H1 locs ht hvm hw hB hz1 hk1 hS => ?_)
  obtain ⟨hP1, hD1⟩ := hB
  rw [ht] at hP1
  obtain ⟨hP, hD⟩ := va_join (wr := [(x, .inr (11, [.ref cs, .ref th, .ref nw, .ref mi, .int 9999, .int 0, .int 0])), (cs, .inr (4, [.int 0, .ref e0, .int 0])), (th, .inr (4, [.int 0, .ref e0, .int 0])), (nw, .inr (10, [.int 10, .int 0, .int 0])), (sk, .inr (15, [.int 10, .int 0, .int 0, .int 9999, .int 0])), (o, .inl (cA, 1, .inr (.inl (fun _ => 0)))), (od, .inl (cB, 1, .inr (.inr (.inr (.inl (fun _ => 0))))))]) (w1 := [(m2, .inr (16, [.int 1, .ref ms, .ref sk, .int 0])), (ms, .inr (4, [.int 0, .ref e0, .int 0]))]) hP hD [4, 5] [0, 1, 2, 3, 6, 7, 8] rfl rfl (by decide) (by decide) hk1 hFc hP1 hD1
  generalize H1 = H at hP hS ⊢
  have hP : va_P D vwCl [(x, .inr (11, [.ref cs, .ref th, .ref nw, .ref mi, .int 9999, .int 0, .int 0])), (cs, .inr (4, [.int 0, .ref e0, .int 0])), (th, .inr (4, [.int 0, .ref e0, .int 0])), (nw, .inr (10, [.int 10, .int 0, .int 0])), (sk, .inr (15, [.int 10, .int 0, .int 0, .int 9999, .int 0])), (o, .inl (cA, 1, .inr (.inl (fun _ => 0)))), (od, .inl (cB, 1, .inr (.inr (.inr (.inl (fun _ => 0)))))), (m2, .inr (16, [.int 1, .ref ms, .ref sk, .int 0])), (ms, .inr (4, [.int 0, .ref e0, .int 0]))] H := hP
  have hD : va_D (fun q : Nat => s.heap.size ≤ q) [(x, .inr (11, [.ref cs, .ref th, .ref nw, .ref mi, .int 9999, .int 0, .int 0])), (cs, .inr (4, [.int 0, .ref e0, .int 0])), (th, .inr (4, [.int 0, .ref e0, .int 0])), (nw, .inr (10, [.int 10, .int 0, .int 0])), (sk, .inr (15, [.int 10, .int 0, .int 0, .int 9999, .int 0])), (o, .inl (cA, 1, .inr (.inl (fun _ => 0)))), (od, .inl (cB, 1, .inr (.inr (.inr (.inl (fun _ => 0)))))), (m2, .inr (16, [.int 1, .ref ms, .ref sk, .int 0])), (ms, .inr (4, [.int 0, .ref e0, .int 0]))] := hD
  refine lv_istore (lv' := [(7, .int r_2), (6, .int 1), (5, .int 0), (4, .ref od), (3, .ref o), (2, .ref m2), (1, .ref x), (0, .ref b)]) hx hb dL_law__615 hl (by decide) rfl (fun ls hl => ?_)
  refine lv_aload_n hx hb dL_law__617 rfl (lv_at hl 5 rfl) ?_
  have hPc := hP.sub (ws' := [(m2, .inr (16, [.int 1, .ref ms, .ref sk, .int 0]))]) [7] rfl
  have hDc := hD.sub (ws' := [(m2, .inr (16, [.int 1, .ref ms, .ref sk, .int 0]))]) [7] (by decide) rfl
  have hKc := hK.sub (tys' := []) [] rfl
  refine va_calli (va_runV (As := []) (rest := []) ⟨hx, hb, hml, hown, hts⟩ (k_LM_thrown l D m2 1 ms (.ref sk) (.int 0) 0 .null H.size) (cwV 0 hts (gV q1174 q1175 q1176 q6 (gA q1177)) rfl rfl rfl (by decide +kernel) ⟨Nat.le_of_ble_eq_true rfl, Nat.le_of_ble_eq_true rfl⟩) ⟨EV.fb, va_recv hKc hPc (ci := 16) (q0 := 0) rfl rfl, fun U hU hW => ⟨rfl, EV.at hPc hKc hDc hG (hZ.no hS) U hU hW⟩⟩ rfl rfl hl.1 rfl (lv_room (Nat.le_of_ble_eq_true rfl)) dL_law__618 ⟨Nat.le_of_ble_eq_true rfl, Nat.le_of_ble_eq_true rfl⟩) hS (fun q _ h => h.elim) (fun q h => h.elim) (fun r_3 u t H1 locs ht hvm hw hB hz1 hk1 hS => ?_)
  have hP := P_kept hP hk1
  generalize H1 = H at hP hS ⊢
  have hP : va_P D vwCl [(x, .inr (11, [.ref cs, .ref th, .ref nw, .ref mi, .int 9999, .int 0, .int 0])), (cs, .inr (4, [.int 0, .ref e0, .int 0])), (th, .inr (4, [.int 0, .ref e0, .int 0])), (nw, .inr (10, [.int 10, .int 0, .int 0])), (sk, .inr (15, [.int 10, .int 0, .int 0, .int 9999, .int 0])), (o, .inl (cA, 1, .inr (.inl (fun _ => 0)))), (od, .inl (cB, 1, .inr (.inr (.inr (.inl (fun _ => 0)))))), (m2, .inr (16, [.int 1, .ref ms, .ref sk, .int 0])), (ms, .inr (4, [.int 0, .ref e0, .int 0]))] H := hP
  subst hw
  refine lv_iload hx hb dL_law__621 (lv_at hl 1 rfl) ?_
  refine lv_icmp_eq (tgt := 628) hx hb dL_law__623 (by decide) (fun c_4 => ?_) (fun c_4 => ?_)
  · refine lv_iload hx hb dL_law__628 (lv_at hl 1 rfl) ?_
    refine lv_if_ne (tgt := 645) hx hb dL_law__630 (by decide) (fun c_5 => ?_) (fun c_5 => ?_)
    · refine lv_goto (tgt := 2850) hx hb dL_law__645 (by decide) ?_
      exact law_end (D := D) hst hx hb hr hml hown hts hX hbl hlocks hS (Nat.le_of_ble_eq_true rfl) (Nat.le_of_ble_eq_true rfl) (lv_sub hl [7, 2] rfl)
    · exact absurd c_5 (by decide)
  · exact absurd (by decide) c_4
set_option maxHeartbeats 8000000 in
set_option maxRecDepth 100000 in
/-- case 6: scale -/
theorem law_6 {p : Program} {l : Launch} {e : Env} {s : State} {m : MethodId} {below : List Frame} {meth : Method} {c : Code} {D : va_G} {b : Nat} {xs : Nat → Int32} (hst : l.stackTraces = false) (hx : p.tables.exec = Jvm.exec) (hb : c.code = code) (hr : meth.sig.returnType = ret) (hml : c.maxLocals = 9) (hown : s.vm.findClass RL = some m.cls) (hts : ∀ w ∈ lw_all, w.before #[Value.ref b] s = true) (hX : va_X b 5 xs s s.heap) (hbl : b < s.heap.size) (hlocks : meth.locks = false) (hG : GE s) (hZ : ZZ (fun q : Nat => s.heap.size ≤ q) s s.heap) {e0 : Nat} (hZd : ZD e0 (fun q : Nat => s.heap.size ≤ q) s s.heap) (hZt : ZT e0 (fun q : Nat => s.heap.size ≤ q) s s.heap) (hAO : va_AO "java/lang/Object" s) {fq fv : Nat} (hSF : SF fq fv (fun q : Nat => s.heap.size ≤ q) s s.heap) (hvk : vk_R RX12 58 "fsn" fq s) {x cs th nw mi m2 ms sk o od : Nat} {cA cB : ClassId} {H : Heap} {locs : List Loc} (hK : va_K D vwCl [(cA, .long), (cB, .double)] s) (hP : va_P D vwCl [(x, .inr (11, [.ref cs, .ref th, .ref nw, .ref mi, .int 9999, .int 0, .int 0])), (cs, .inr (4, [.int 0, .ref e0, .int 0])), (th, .inr (4, [.int 0, .ref e0, .int 0])), (nw, .inr (10, [.int 10, .int 0, .int 0])), (m2, .inr (16, [.int 0, .ref ms, .ref sk, .int 0])), (ms, .inr (4, [.int 0, .ref e0, .int 0])), (sk, .inr (15, [.int 10, .int 0, .int 0, .int 9999, .int 0])), (o, .inl (cA, 1, .inr (.inl (fun _ => 0)))), (od, .inl (cB, 1, .inr (.inr (.inr (.inl (fun _ => 0))))))] H) (hD : va_D (fun q : Nat => s.heap.size ≤ q) [(x, .inr (11, [.ref cs, .ref th, .ref nw, .ref mi, .int 9999, .int 0, .int 0])), (cs, .inr (4, [.int 0, .ref e0, .int 0])), (th, .inr (4, [.int 0, .ref e0, .int 0])), (nw, .inr (10, [.int 10, .int 0, .int 0])), (m2, .inr (16, [.int 0, .ref ms, .ref sk, .int 0])), (ms, .inr (4, [.int 0, .ref e0, .int 0])), (sk, .inr (15, [.int 10, .int 0, .int 0, .int 9999, .int 0])), (o, .inl (cA, 1, .inr (.inl (fun _ => 0)))), (od, .inl (cB, 1, .inr (.inr (.inr (.inl (fun _ => 0))))))]) (hS : va_S (fun q : Nat => s.heap.size ≤ q) s.heap H locs) {ls : Array Slot} (hl : lv_has ls 9 [(5, .int 0), (4, .ref od), (3, .ref o), (2, .ref m2), (1, .ref x), (0, .ref b)]) : W p l e room_1 s m #[Value.ref b] below meth c H locs 10 70 (lw_Z below #[Value.ref b] s) (F0 m 648 ls []) := by
  have hA : ∀ q : Nat, s.heap.size ≤ q → (fun q : Nat => s.heap.size ≤ q) q := fun _ h => h
  have hbA : ¬ (fun q : Nat => s.heap.size ≤ q) b := Nat.not_le.mpr hbl
  refine lv_aload_n hx hb dL_law__648 rfl (lv_at hl 4 rfl) ?_
  refine lv_aload_n hx hb dL_law__649 rfl (lv_at hl 5 rfl) ?_
  refine lv_iload hx hb dL_law__650 (lv_at hl 0 rfl) ?_
  refine lv_iconst (v := 1) hx hb dL_law__652 (by decide) ?_
  refine lv_iadd hx hb dL_law__653 ?_
  refine va_sld hx hb hX hbl hbA hS (by unfold vp_in; decide) dL_law__654 ?_
  refine lv_aload_n hx hb dL_law__655 rfl (lv_at hl 5 rfl) ?_
  refine lv_iload hx hb dL_law__656 (lv_at hl 0 rfl) ?_
  refine lv_iconst (v := 2) hx hb dL_law__658 (by decide) ?_
  refine lv_iadd hx hb dL_law__659 ?_
  refine va_sld hx hb hX hbl hbA hS (by unfold vp_in; decide) dL_law__660 ?_
  refine lv_aload_n hx hb dL_law__661 rfl (lv_at hl 2 rfl) ?_
  have hPc := hP.sub (ws' := [(x, .inr (11, [.ref cs, .ref th, .ref nw, .ref mi, .int 9999, .int 0, .int 0])), (cs, .inr (4, [.int 0, .ref e0, .int 0]))]) [0, 1] rfl
  have hDc := hD.sub (ws' := [(x, .inr (11, [.ref cs, .ref th, .ref nw, .ref mi, .int 9999, .int 0, .int 0])), (cs, .inr (4, [.int 0, .ref e0, .int 0]))]) [0, 1] (by decide) rfl
  have hKc := hK.sub (tys' := []) [] rfl
  refine va_calli (vx_runSW (As := [.ref x, .int (xs (Int32.toNatClampNeg (0 + 1))), .int (xs (Int32.toNatClampNeg (0 + 2))), .ref o]) (rest := []) ⟨hx, hb, hml, hown, hts⟩ (k_LL_scale l hst D x cs (.ref th) (.ref nw) (.ref mi) (.int 9999) (.int 0) (.int 0) 0 (.ref e0) (xs (Int32.toNatClampNeg (0 + 1))) (xs (Int32.toNatClampNeg (0 + 2))) o H.size) (vx_cwSW 4 hts (gS q764 q765 q0 (gH q766)) rfl rfl rfl (by decide +kernel) ⟨Nat.le_of_ble_eq_true rfl, Nat.le_of_ble_eq_true rfl⟩) ⟨EV.fb, fun U hU hW => ⟨rfl, EV.at hPc hKc hDc hG (hZ.no hS) U hU hW⟩⟩ rfl rfl hl.1 rfl (lv_room (Nat.le_of_ble_eq_true rfl)) dL_law__662 ⟨Nat.le_of_ble_eq_true rfl, Nat.le_of_ble_eq_true rfl⟩) hS (fun q _ h => h.elim) (fun q h => h.elim) (fun r_1 u t H1 locs ht hvm hw hB hz1 hk1 hS => ?_)
  have hP := P_kept hP hk1
  generalize H1 = H at hP hS ⊢
  have hP : va_P D vwCl [(x, .inr (11, [.ref cs, .ref th, .ref nw, .ref mi, .int 9999, .int 0, .int 0])), (cs, .inr (4, [.int 0, .ref e0, .int 0])), (th, .inr (4, [.int 0, .ref e0, .int 0])), (nw, .inr (10, [.int 10, .int 0, .int 0])), (m2, .inr (16, [.int 0, .ref ms, .ref sk, .int 0])), (ms, .inr (4, [.int 0, .ref e0, .int 0])), (sk, .inr (15, [.int 10, .int 0, .int 0, .int 9999, .int 0])), (o, .inl (cA, 1, .inr (.inl (fun _ => 0)))), (od, .inl (cB, 1, .inr (.inr (.inr (.inl (fun _ => 0))))))] H := hP
  subst hw
  refine lv_istore (lv' := [(6, .int 1), (5, .int 0), (4, .ref od), (3, .ref o), (2, .ref m2), (1, .ref x), (0, .ref b)]) hx hb dL_law__665 hl (by decide) rfl (fun ls hl => ?_)
  refine lv_aload_n hx hb dL_law__667 rfl (lv_at hl 4 rfl) ?_
  refine lv_aload_n hx hb dL_law__668 rfl (lv_at hl 6 rfl) ?_
  refine lv_iload hx hb dL_law__669 (lv_at hl 1 rfl) ?_
  refine lv_iconst (v := 1) hx hb dL_law__671 (by decide) ?_
  refine lv_iadd hx hb dL_law__672 ?_
  refine va_sld hx hb hX hbl hbA hS (by unfold vp_in; decide) dL_law__673 ?_
  refine lv_aload_n hx hb dL_law__674 rfl (lv_at hl 6 rfl) ?_
  refine lv_iload hx hb dL_law__675 (lv_at hl 1 rfl) ?_
  refine lv_iconst (v := 2) hx hb dL_law__677 (by decide) ?_
  refine lv_iadd hx hb dL_law__678 ?_
  refine va_sld hx hb hX hbl hbA hS (by unfold vp_in; decide) dL_law__679 ?_
  have hPc := hP.sub (ws' := [(m2, .inr (16, [.int 0, .ref ms, .ref sk, .int 0])), (ms, .inr (4, [.int 0, .ref e0, .int 0]))]) [4, 5] rfl
  have hDc := hD.sub (ws' := [(m2, .inr (16, [.int 0, .ref ms, .ref sk, .int 0])), (ms, .inr (4, [.int 0, .ref e0, .int 0]))]) [4, 5] (by decide) rfl
  have hKc := hK.sub (tys' := []) [] rfl
  have hFc := va_free (wc := [(m2, .inr (16, [.int 0, .ref ms, .ref sk, .int 0])), (ms, .inr (4, [.int 0, .ref e0, .int 0]))]) hD hS hA [4, 5] rfl
  refine va_calli (va_runV (As := [.int (xs (Int32.toNatClampNeg (0 + 1))), .int (xs (Int32.toNatClampNeg (0 + 2)))]) (rest := []) ⟨hx, hb, hml, hown, hts⟩ (k_LM_scale l D m2 0 ms (.ref sk) (.int 0) 0 (.ref e0) (xs (Int32.toNatClampNeg (0 + 1))) (xs (Int32.toNatClampNeg (0 + 2))) H.size) (cwV 2 hts (gV q1439 q1440 q1441 q6 (gA q1442)) rfl rfl rfl (by decide +kernel) ⟨Nat.le_of_ble_eq_true rfl, Nat.le_of_ble_eq_true rfl⟩) ⟨EV.fb, va_recv hKc hPc (ci := 16) (q0 := 0) rfl rfl, fun U hU hW => ⟨rfl, EV.at hPc hKc hDc hG (hZ.no hS) U hU hW⟩⟩ rfl rfl hl.1 rfl (lv_room (Nat.le_of_ble_eq_true rfl)) dL_law__680 ⟨Nat.le_of_ble_eq_true rfl, Nat.le_of_ble_eq_true rfl⟩) hS (fun q _ h => hFc q h) hFc (fun r_2 u t H1 locs ht hvm hw hB hz1 hk1 hS => ?_)
  obtain ⟨hP1, hD1⟩ := hB
  rw [ht] at hP1
  obtain ⟨hP, hD⟩ := va_join (wr := [(x, .inr (11, [.ref cs, .ref th, .ref nw, .ref mi, .int 9999, .int 0, .int 0])), (cs, .inr (4, [.int 0, .ref e0, .int 0])), (th, .inr (4, [.int 0, .ref e0, .int 0])), (nw, .inr (10, [.int 10, .int 0, .int 0])), (sk, .inr (15, [.int 10, .int 0, .int 0, .int 9999, .int 0])), (o, .inl (cA, 1, .inr (.inl (fun _ => 0)))), (od, .inl (cB, 1, .inr (.inr (.inr (.inl (fun _ => 0))))))]) (w1 := [(m2, .inr (16, [.int 1, .ref ms, .ref sk, .int 0])), (ms, .inr (4, [.int 0, .ref e0, .int 0]))]) hP hD [4, 5] [0, 1, 2, 3, 6, 7, 8] rfl rfl (by decide) (by decide) hk1 hFc hP1 hD1
  generalize H1 = H at hP hS ⊢
  have hP : va_P D vwCl [(x, .inr (11, [.ref cs, .ref th, .ref nw, .ref mi, .int 9999, .int 0, .int 0])), (cs, .inr (4, [.int 0, .ref e0, .int 0])), (th, .inr (4, [.int 0, .ref e0, .int 0])), (nw, .inr (10, [.int 10, .int 0, .int 0])), (sk, .inr (15, [.int 10, .int 0, .int 0, .int 9999, .int 0])), (o, .inl (cA, 1, .inr (.inl (fun _ => 0)))), (od, .inl (cB, 1, .inr (.inr (.inr (.inl (fun _ => 0)))))), (m2, .inr (16, [.int 1, .ref ms, .ref sk, .int 0])), (ms, .inr (4, [.int 0, .ref e0, .int 0]))] H := hP
  have hD : va_D (fun q : Nat => s.heap.size ≤ q) [(x, .inr (11, [.ref cs, .ref th, .ref nw, .ref mi, .int 9999, .int 0, .int 0])), (cs, .inr (4, [.int 0, .ref e0, .int 0])), (th, .inr (4, [.int 0, .ref e0, .int 0])), (nw, .inr (10, [.int 10, .int 0, .int 0])), (sk, .inr (15, [.int 10, .int 0, .int 0, .int 9999, .int 0])), (o, .inl (cA, 1, .inr (.inl (fun _ => 0)))), (od, .inl (cB, 1, .inr (.inr (.inr (.inl (fun _ => 0)))))), (m2, .inr (16, [.int 1, .ref ms, .ref sk, .int 0])), (ms, .inr (4, [.int 0, .ref e0, .int 0]))] := hD
  refine lv_istore (lv' := [(7, .int r_2), (6, .int 1), (5, .int 0), (4, .ref od), (3, .ref o), (2, .ref m2), (1, .ref x), (0, .ref b)]) hx hb dL_law__683 hl (by decide) rfl (fun ls hl => ?_)
  refine lv_aload_n hx hb dL_law__685 rfl (lv_at hl 5 rfl) ?_
  have hPc := hP.sub (ws' := [(m2, .inr (16, [.int 1, .ref ms, .ref sk, .int 0]))]) [7] rfl
  have hDc := hD.sub (ws' := [(m2, .inr (16, [.int 1, .ref ms, .ref sk, .int 0]))]) [7] (by decide) rfl
  have hKc := hK.sub (tys' := []) [] rfl
  refine va_calli (va_runV (As := []) (rest := []) ⟨hx, hb, hml, hown, hts⟩ (k_LM_thrown l D m2 1 ms (.ref sk) (.int 0) 0 .null H.size) (cwV 0 hts (gV q1174 q1175 q1176 q6 (gA q1177)) rfl rfl rfl (by decide +kernel) ⟨Nat.le_of_ble_eq_true rfl, Nat.le_of_ble_eq_true rfl⟩) ⟨EV.fb, va_recv hKc hPc (ci := 16) (q0 := 0) rfl rfl, fun U hU hW => ⟨rfl, EV.at hPc hKc hDc hG (hZ.no hS) U hU hW⟩⟩ rfl rfl hl.1 rfl (lv_room (Nat.le_of_ble_eq_true rfl)) dL_law__686 ⟨Nat.le_of_ble_eq_true rfl, Nat.le_of_ble_eq_true rfl⟩) hS (fun q _ h => h.elim) (fun q h => h.elim) (fun r_3 u t H1 locs ht hvm hw hB hz1 hk1 hS => ?_)
  have hP := P_kept hP hk1
  generalize H1 = H at hP hS ⊢
  have hP : va_P D vwCl [(x, .inr (11, [.ref cs, .ref th, .ref nw, .ref mi, .int 9999, .int 0, .int 0])), (cs, .inr (4, [.int 0, .ref e0, .int 0])), (th, .inr (4, [.int 0, .ref e0, .int 0])), (nw, .inr (10, [.int 10, .int 0, .int 0])), (sk, .inr (15, [.int 10, .int 0, .int 0, .int 9999, .int 0])), (o, .inl (cA, 1, .inr (.inl (fun _ => 0)))), (od, .inl (cB, 1, .inr (.inr (.inr (.inl (fun _ => 0)))))), (m2, .inr (16, [.int 1, .ref ms, .ref sk, .int 0])), (ms, .inr (4, [.int 0, .ref e0, .int 0]))] H := hP
  subst hw
  refine lv_iload hx hb dL_law__689 (lv_at hl 1 rfl) ?_
  refine lv_icmp_eq (tgt := 696) hx hb dL_law__691 (by decide) (fun c_4 => ?_) (fun c_4 => ?_)
  · refine lv_iload hx hb dL_law__696 (lv_at hl 1 rfl) ?_
    refine lv_if_ne (tgt := 713) hx hb dL_law__698 (by decide) (fun c_5 => ?_) (fun c_5 => ?_)
    · refine lv_goto (tgt := 2850) hx hb dL_law__713 (by decide) ?_
      exact law_end (D := D) hst hx hb hr hml hown hts hX hbl hlocks hS (Nat.le_of_ble_eq_true rfl) (Nat.le_of_ble_eq_true rfl) (lv_sub hl [7, 2] rfl)
    · exact absurd c_5 (by decide)
  · exact absurd (by decide) c_4
