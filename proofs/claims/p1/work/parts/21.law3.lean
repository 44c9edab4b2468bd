set_option maxHeartbeats 8000000 in
set_option maxRecDepth 100000 in
/-- case 14: solute -/
theorem law_14 {p : Program} {l : Launch} {e : Env} {s : State} {m : MethodId} {below : List Frame} {meth : Method} {c : Code} {D : va_G} {b : Nat} {xs : Nat → Int32} (hst : l.stackTraces = false) (hx : p.tables.exec = Jvm.exec) (hb : c.code = code) (hr : meth.sig.returnType = ret) (hml : c.maxLocals = 9) (hown : s.vm.findClass RL = some m.cls) (hts : ∀ w ∈ lw_all, w.before #[Value.ref b] s = true) (hX : va_X b 5 xs s s.heap) (hbl : b < s.heap.size) (hlocks : meth.locks = false) (hG : GE s) (hZ : ZZ (fun q : Nat => s.heap.size ≤ q) s s.heap) {e0 : Nat} (hZd : ZD e0 (fun q : Nat => s.heap.size ≤ q) s s.heap) (hZt : ZT e0 (fun q : Nat => s.heap.size ≤ q) s s.heap) (hAO : va_AO "java/lang/Object" s) {fq fv : Nat} (hSF : SF fq fv (fun q : Nat => s.heap.size ≤ q) s s.heap) (hvk : vk_R RX12 58 "fsn" fq s) {x cs th nw mi m2 ms sk o od : Nat} {cA cB : ClassId} {H : Heap} {locs : List Loc} (hK : va_K D vwCl [(cA, .long), (cB, .double)] s) (hP : va_P D vwCl [(x, .inr (11, [.ref cs, .ref th, .ref nw, .ref mi, .int 9999, .int 0, .int 0])), (cs, .inr (4, [.int 0, .ref e0, .int 0])), (th, .inr (4, [.int 0, .ref e0, .int 0])), (nw, .inr (10, [.int 10, .int 0, .int 0])), (m2, .inr (16, [.int 0, .ref ms, .ref sk, .int 0])), (ms, .inr (4, [.int 0, .ref e0, .int 0])), (sk, .inr (15, [.int 10, .int 0, .int 0, .int 9999, .int 0])), (o, .inl (cA, 1, .inr (.inl (fun _ => 0)))), (od, .inl (cB, 1, .inr (.inr (.inr (.inl (fun _ => 0))))))] H) (hD : va_D (fun q : Nat => s.heap.size ≤ q) [(x, .inr (11, [.ref cs, .ref th, .ref nw, .ref mi, .int 9999, .int 0, .int 0])), (cs, .inr (4, [.int 0, .ref e0, .int 0])), (th, .inr (4, [.int 0, .ref e0, .int 0])), (nw, .inr (10, [.int 10, .int 0, .int 0])), (m2, .inr (16, [.int 0, .ref ms, .ref sk, .int 0])), (ms, .inr (4, [.int 0, .ref e0, .int 0])), (sk, .inr (15, [.int 10, .int 0, .int 0, .int 9999, .int 0])), (o, .inl (cA, 1, .inr (.inl (fun _ => 0)))), (od, .inl (cB, 1, .inr (.inr (.inr (.inl (fun _ => 0))))))]) (hS : va_S (fun q : Nat => s.heap.size ≤ q) s.heap H locs) {ls : Array Slot} (hl : lv_has ls 9 [(5, .int 0), (4, .ref od), (3, .ref o), (2, .ref m2), (1, .ref x), (0, .ref b)]) : W p l e room_1 s m #[Value.ref b] below meth c H locs 10 70 (lw_Z below #[Value.ref b] s) (F0 m 1239 ls []) := by
  have hA : ∀ q : Nat, s.heap.size ≤ q → (fun q : Nat => s.heap.size ≤ q) q := fun _ h => h
  have hbA : ¬ (fun q : Nat => s.heap.size ≤ q) b := Nat.not_le.mpr hbl
  refine lv_aload_n hx hb dL_law__1239 rfl (lv_at hl 4 rfl) ?_
  refine lv_aload_n hx hb dL_law__1240 rfl (lv_at hl 5 rfl) ?_
  refine lv_iload hx hb dL_law__1241 (lv_at hl 0 rfl) ?_
  refine lv_iconst (v := 1) hx hb dL_law__1243 (by decide) ?_
  refine lv_iadd hx hb dL_law__1244 ?_
  refine va_sld hx hb hX hbl hbA hS (by unfold vp_in; decide) dL_law__1245 ?_
  refine lv_aload_n hx hb dL_law__1246 rfl (lv_at hl 5 rfl) ?_
  refine lv_iload hx hb dL_law__1247 (lv_at hl 0 rfl) ?_
  refine lv_iconst (v := 2) hx hb dL_law__1249 (by decide) ?_
  refine lv_iadd hx hb dL_law__1250 ?_
  refine va_sld hx hb hX hbl hbA hS (by unfold vp_in; decide) dL_law__1251 ?_
  refine lv_aload_n hx hb dL_law__1252 rfl (lv_at hl 5 rfl) ?_
  refine lv_iload hx hb dL_law__1253 (lv_at hl 0 rfl) ?_
  refine lv_iconst (v := 3) hx hb dL_law__1255 (by decide) ?_
  refine lv_iadd hx hb dL_law__1256 ?_
  refine va_sld hx hb hX hbl hbA hS (by unfold vp_in; decide) dL_law__1257 ?_
  refine lv_i2c hx hb dL_law__1258 rfl ?_
  refine lv_aload_n hx hb dL_law__1259 rfl (lv_at hl 2 rfl) ?_
  have hPc := hP.sub (ws' := [(x, .inr (11, [.ref cs, .ref th, .ref nw, .ref mi, .int 9999, .int 0, .int 0])), (cs, .inr (4, [.int 0, .ref e0, .int 0]))]) [0, 1] rfl
  have hDc := hD.sub (ws' := [(x, .inr (11, [.ref cs, .ref th, .ref nw, .ref mi, .int 9999, .int 0, .int 0])), (cs, .inr (4, [.int 0, .ref e0, .int 0]))]) [0, 1] (by decide) rfl
  have hKc := hK.sub (tys' := []) [] rfl
  refine va_calli (vx_runSW (As := [.ref x, .int (xs (Int32.toNatClampNeg (0 + 1))), .int (xs (Int32.toNatClampNeg (0 + 2))), .int (UInt32.toInt32 (Int32.toUInt32 (xs (Int32.toNatClampNeg (0 + 3))) % 65536)), .ref o]) (rest := []) ⟨hx, hb, hml, hown, hts⟩ (k_LL_solute l hst D x cs (.ref th) (.ref nw) (.ref mi) (.int 9999) (.int 0) (.int 0) 0 (.ref e0) (xs (Int32.toNatClampNeg (0 + 1))) (xs (Int32.toNatClampNeg (0 + 2))) (UInt32.toInt32 (Int32.toUInt32 (xs (Int32.toNatClampNeg (0 + 3))) % 65536)) o H.size) (vx_cwSW 5 hts (gS q886 q887 q0 (gH q888)) rfl rfl rfl (by decide +kernel) ⟨Nat.le_of_ble_eq_true rfl, Nat.le_of_ble_eq_true rfl⟩) ⟨EV.fb, fun U hU hW => ⟨rfl, EV.at hPc hKc hDc hG (hZ.no hS) U hU hW⟩⟩ rfl rfl hl.1 rfl (lv_room (Nat.le_of_ble_eq_true rfl)) dL_law__1260 ⟨Nat.le_of_ble_eq_true rfl, Nat.le_of_ble_eq_true rfl⟩) hS (fun q _ h => h.elim) (fun q h => h.elim) (fun r_1 u t H1 locs ht hvm hw hB hz1 hk1 hS => ?_)
  have hP := P_kept hP hk1
  generalize H1 = H at hP hS ⊢
  have hP : va_P D vwCl [(x, .inr (11, [.ref cs, .ref th, .ref nw, .ref mi, .int 9999, .int 0, .int 0])), (cs, .inr (4, [.int 0, .ref e0, .int 0])), (th, .inr (4, [.int 0, .ref e0, .int 0])), (nw, .inr (10, [.int 10, .int 0, .int 0])), (m2, .inr (16, [.int 0, .ref ms, .ref sk, .int 0])), (ms, .inr (4, [.int 0, .ref e0, .int 0])), (sk, .inr (15, [.int 10, .int 0, .int 0, .int 9999, .int 0])), (o, .inl (cA, 1, .inr (.inl (fun _ => 0)))), (od, .inl (cB, 1, .inr (.inr (.inr (.inl (fun _ => 0))))))] H := hP
  subst hw
  refine lv_istore (lv' := [(6, .int 1), (5, .int 0), (4, .ref od), (3, .ref o), (2, .ref m2), (1, .ref x), (0, .ref b)]) hx hb dL_law__1263 hl (by decide) rfl (fun ls hl => ?_)
  refine lv_aload_n hx hb dL_law__1265 rfl (lv_at hl 4 rfl) ?_
  refine lv_aload_n hx hb dL_law__1266 rfl (lv_at hl 6 rfl) ?_
  refine lv_iload hx hb dL_law__1267 (lv_at hl 1 rfl) ?_
  refine lv_iconst (v := 1) hx hb dL_law__1269 (by decide) ?_
  refine lv_iadd hx hb dL_law__1270 ?_
  refine va_sld hx hb hX hbl hbA hS (by unfold vp_in; decide) dL_law__1271 ?_
  refine lv_aload_n hx hb dL_law__1272 rfl (lv_at hl 6 rfl) ?_
  refine lv_iload hx hb dL_law__1273 (lv_at hl 1 rfl) ?_
  refine lv_iconst (v := 2) hx hb dL_law__1275 (by decide) ?_
  refine lv_iadd hx hb dL_law__1276 ?_
  refine va_sld hx hb hX hbl hbA hS (by unfold vp_in; decide) dL_law__1277 ?_
  refine lv_aload_n hx hb dL_law__1278 rfl (lv_at hl 6 rfl) ?_
  refine lv_iload hx hb dL_law__1279 (lv_at hl 1 rfl) ?_
  refine lv_iconst (v := 3) hx hb dL_law__1281 (by decide) ?_
  refine lv_iadd hx hb dL_law__1282 ?_
  refine va_sld hx hb hX hbl hbA hS (by unfold vp_in; decide) dL_law__1283 ?_
  refine lv_i2c hx hb dL_law__1284 rfl ?_
  have hPc := hP.sub (ws' := [(m2, .inr (16, [.int 0, .ref ms, .ref sk, .int 0])), (ms, .inr (4, [.int 0, .ref e0, .int 0]))]) [4, 5] rfl
  have hDc := hD.sub (ws' := [(m2, .inr (16, [.int 0, .ref ms, .ref sk, .int 0])), (ms, .inr (4, [.int 0, .ref e0, .int 0]))]) [4, 5] (by decide) rfl
  have hKc := hK.sub (tys' := []) [] rfl
  have hFc := va_free (wc := [(m2, .inr (16, [.int 0, .ref ms, .ref sk, .int 0])), (ms, .inr (4, [.int 0, .ref e0, .int 0]))]) hD hS hA [4, 5] rfl
  refine va_calll (va_runV (As := [.int (xs (Int32.toNatClampNeg (0 + 1))), .int (xs (Int32.toNatClampNeg (0 + 2))), .int (UInt32.toInt32 (Int32.toUInt32 (xs (Int32.toNatClampNeg (0 + 3))) % 65536))]) (rest := []) ⟨hx, hb, hml, hown, hts⟩ (k_LM_solute l D m2 0 ms (.ref sk) (.int 0) 0 (.ref e0) (xs (Int32.toNatClampNeg (0 + 1))) (xs (Int32.toNatClampNeg (0 + 2))) (UInt32.toInt32 (Int32.toUInt32 (xs (Int32.toNatClampNeg (0 + 3))) % 65536)) H.size) (cwV 3 hts (gV q1502 q1503 q1504 q6 (gA q1505)) rfl rfl rfl (by decide +kernel) ⟨Nat.le_of_ble_eq_true rfl, Nat.le_of_ble_eq_true rfl⟩) ⟨EV.fb, va_recv hKc hPc (ci := 16) (q0 := 0) rfl rfl, fun U hU hW => ⟨rfl, EV.at hPc hKc hDc hG (hZ.no hS) U hU hW⟩⟩ rfl rfl hl.1 rfl (lv_room (Nat.le_of_ble_eq_true rfl)) dL_law__1285 ⟨Nat.le_of_ble_eq_true rfl, Nat.le_of_ble_eq_true rfl⟩) hS (fun q _ h => hFc q h) hFc (fun r_2 u t H1 locs ht hvm hw hB hz1 hk1 hS => ?_)
  obtain ⟨hP1, hD1⟩ := hB
  rw [ht] at hP1
  obtain ⟨hP, hD⟩ := va_join (wr := [(x, .inr (11, [.ref cs, .ref th, .ref nw, .ref mi, .int 9999, .int 0, .int 0])), (cs, .inr (4, [.int 0, .ref e0, .int 0])), (th, .inr (4, [.int 0, .ref e0, .int 0])), (nw, .inr (10, [.int 10, .int 0, .int 0])), (sk, .inr (15, [.int 10, .int 0, .int 0, .int 9999, .int 0])), (o, .inl (cA, 1, .inr (.inl (fun _ => 0)))), (od, .inl (cB, 1, .inr (.inr (.inr (.inl (fun _ => 0))))))]) (w1 := [(m2, .inr (16, [.int 1, .ref ms, .ref sk, .int 0])), (ms, .inr (4, [.int 0, .ref e0, .int 0]))]) hP hD [4, 5] [0, 1, 2, 3, 6, 7, 8] rfl rfl (by decide) (by decide) hk1 hFc hP1 hD1
  generalize H1 = H at hP hS ⊢
  have hP : va_P D vwCl [(x, .inr (11, [.ref cs, .ref th, .ref nw, .ref mi, .int 9999, .int 0, .int 0])), (cs, .inr (4, [.int 0, .ref e0, .int 0])), (th, .inr (4, [.int 0, .ref e0, .int 0])), (nw, .inr (10, [.int 10, .int 0, .int 0])), (sk, .inr (15, [.int 10, .int 0, .int 0, .int 9999, .int 0])), (o, .inl (cA, 1, .inr (.inl (fun _ => 0)))), (od, .inl (cB, 1, .inr (.inr (.inr (.inl (fun _ => 0)))))), (m2, .inr (16, [.int 1, .ref ms, .ref sk, .int 0])), (ms, .inr (4, [.int 0, .ref e0, .int 0]))] H := hP
  have hD : va_D (fun q : Nat => s.heap.size ≤ q) [(x, .inr (11, [.ref cs, .ref th, .ref nw, .ref mi, .int 9999, .int 0, .int 0])), (cs, .inr (4, [.int 0, .ref e0, .int 0])), (th, .inr (4, [.int 0, .ref e0, .int 0])), (nw, .inr (10, [.int 10, .int 0, .int 0])), (sk, .inr (15, [.int 10, .int 0, .int 0, .int 9999, .int 0])), (o, .inl (cA, 1, .inr (.inl (fun _ => 0)))), (od, .inl (cB, 1, .inr (.inr (.inr (.inl (fun _ => 0)))))), (m2, .inr (16, [.int 1, .ref ms, .ref sk, .int 0])), (ms, .inr (4, [.int 0, .ref e0, .int 0]))] := hD
  refine lv_lstore (lv' := [(7, .long r_2), (6, .int 1), (5, .int 0), (4, .ref od), (3, .ref o), (2, .ref m2), (1, .ref x), (0, .ref b)]) hx hb dL_law__1288 hl (by decide) rfl (fun ls hl => ?_)
  refine lv_aload_n hx hb dL_law__1290 rfl (lv_at hl 5 rfl) ?_
  have hPc := hP.sub (ws' := [(m2, .inr (16, [.int 1, .ref ms, .ref sk, .int 0]))]) [7] rfl
  have hDc := hD.sub (ws' := [(m2, .inr (16, [.int 1, .ref ms, .ref sk, .int 0]))]) [7] (by decide) rfl
  have hKc := hK.sub (tys' := []) [] rfl
  refine va_calli (va_runV (As := []) (rest := []) ⟨hx, hb, hml, hown, hts⟩ (k_LM_thrown l D m2 1 ms (.ref sk) (.int 0) 0 .null H.size) (cwV 0 hts (gV q1174 q1175 q1176 q6 (gA q1177)) rfl rfl rfl (by decide +kernel) ⟨Nat.le_of_ble_eq_true rfl, Nat.le_of_ble_eq_true rfl⟩) ⟨EV.fb, va_recv hKc hPc (ci := 16) (q0 := 0) rfl rfl, fun U hU hW => ⟨rfl, EV.at hPc hKc hDc hG (hZ.no hS) U hU hW⟩⟩ rfl rfl hl.1 rfl (lv_room (Nat.le_of_ble_eq_true rfl)) dL_law__1291 ⟨Nat.le_of_ble_eq_true rfl, Nat.le_of_ble_eq_true rfl⟩) hS (fun q _ h => h.elim) (fun q h => h.elim) (fun r_3 u t H1 locs ht hvm hw hB hz1 hk1 hS => ?_)
  have hP := P_kept hP hk1
  generalize H1 = H at hP hS ⊢
  have hP : va_P D vwCl [(x, .inr (11, [.ref cs, .ref th, .ref nw, .ref mi, .int 9999, .int 0, .int 0])), (cs, .inr (4, [.int 0, .ref e0, .int 0])), (th, .inr (4, [.int 0, .ref e0, .int 0])), (nw, .inr (10, [.int 10, .int 0, .int 0])), (sk, .inr (15, [.int 10, .int 0, .int 0, .int 9999, .int 0])), (o, .inl (cA, 1, .inr (.inl (fun _ => 0)))), (od, .inl (cB, 1, .inr (.inr (.inr (.inl (fun _ => 0)))))), (m2, .inr (16, [.int 1, .ref ms, .ref sk, .int 0])), (ms, .inr (4, [.int 0, .ref e0, .int 0]))] H := hP
  subst hw
  refine lv_iload hx hb dL_law__1294 (lv_at hl 1 rfl) ?_
  refine lv_icmp_eq (tgt := 1301) hx hb dL_law__1296 (by decide) (fun c_4 => ?_) (fun c_4 => ?_)
  · refine lv_iload hx hb dL_law__1301 (lv_at hl 1 rfl) ?_
    refine lv_if_ne (tgt := 1317) hx hb dL_law__1303 (by decide) (fun c_5 => ?_) (fun c_5 => ?_)
    · refine lv_goto (tgt := 2850) hx hb dL_law__1317 (by decide) ?_
      exact law_end (D := D) hst hx hb hr hml hown hts hX hbl hlocks hS (Nat.le_of_ble_eq_true rfl) (Nat.le_of_ble_eq_true rfl) (lv_sub hl [7, 2] rfl)
    · exact absurd c_5 (by decide)
  · exact absurd (by decide) c_4
set_option maxHeartbeats 8000000 in
set_option maxRecDepth 100000 in
/-- case 15: out -/
theorem law_15 {p : Program} {l : Launch} {e : Env} {s : State} {m : MethodId} {below : List Frame} {meth : Method} {c : Code} {D : va_G} {b : Nat} {xs : Nat → Int32} (hst : l.stackTraces = false) (hx : p.tables.exec = Jvm.exec) (hb : c.code = code) (hr : meth.sig.returnType = ret) (hml : c.maxLocals = 9) (hown : s.vm.findClass RL = some m.cls) (hts : ∀ w ∈ lw_all, w.before #[Value.ref b] s = true) (hX : va_X b 5 xs s s.heap) (hbl : b < s.heap.size) (hlocks : meth.locks = false) (hG : GE s) (hZ : ZZ (fun q : Nat => s.heap.size ≤ q) s s.heap) {e0 : Nat} (hZd : ZD e0 (fun q : Nat => s.heap.size ≤ q) s s.heap) (hZt : ZT e0 (fun q : Nat => s.heap.size ≤ q) s s.heap) (hAO : va_AO "java/lang/Object" s) {fq fv : Nat} (hSF : SF fq fv (fun q : Nat => s.heap.size ≤ q) s s.heap) (hvk : vk_R RX12 58 "fsn" fq s) {x cs th nw mi m2 ms sk o od : Nat} {cA cB : ClassId} {H : Heap} {locs : List Loc} (hK : va_K D vwCl [(cA, .long), (cB, .double)] s) (hP : va_P D vwCl [(x, .inr (11, [.ref cs, .ref th, .ref nw, .ref mi, .int 9999, .int 0, .int 0])), (cs, .inr (4, [.int 0, .ref e0, .int 0])), (th, .inr (4, [.int 0, .ref e0, .int 0])), (nw, .inr (10, [.int 10, .int 0, .int 0])), (m2, .inr (16, [.int 0, .ref ms, .ref sk, .int 0])), (ms, .inr (4, [.int 0, .ref e0, .int 0])), (sk, .inr (15, [.int 10, .int 0, .int 0, .int 9999, .int 0])), (o, .inl (cA, 1, .inr (.inl (fun _ => 0)))), (od, .inl (cB, 1, .inr (.inr (.inr (.inl (fun _ => 0))))))] H) (hD : va_D (fun q : Nat => s.heap.size ≤ q) [(x, .inr (11, [.ref cs, .ref th, .ref nw, .ref mi, .int 9999, .int 0, .int 0])), (cs, .inr (4, [.int 0, .ref e0, .int 0])), (th, .inr (4, [.int 0, .ref e0, .int 0])), (nw, .inr (10, [.int 10, .int 0, .int 0])), (m2, .inr (16, [.int 0, .ref ms, .ref sk, .int 0])), (ms, .inr (4, [.int 0, .ref e0, .int 0])), (sk, .inr (15, [.int 10, .int 0, .int 0, .int 9999, .int 0])), (o, .inl (cA, 1, .inr (.inl (fun _ => 0)))), (od, .inl (cB, 1, .inr (.inr (.inr (.inl (fun _ => 0))))))]) (hS : va_S (fun q : Nat => s.heap.size ≤ q) s.heap H locs) {ls : Array Slot} (hl : lv_has ls 9 [(5, .int 0), (4, .ref od), (3, .ref o), (2, .ref m2), (1, .ref x), (0, .ref b)]) : W p l e room_1 s m #[Value.ref b] below meth c H locs 10 70 (lw_Z below #[Value.ref b] s) (F0 m 1320 ls []) := by
  have hA : ∀ q : Nat, s.heap.size ≤ q → (fun q : Nat => s.heap.size ≤ q) q := fun _ h => h
  have hbA : ¬ (fun q : Nat => s.heap.size ≤ q) b := Nat.not_le.mpr hbl
  refine lv_aload_n hx hb dL_law__1320 rfl (lv_at hl 4 rfl) ?_
  refine lv_aload_n hx hb dL_law__1321 rfl (lv_at hl 5 rfl) ?_
  refine lv_iload hx hb dL_law__1322 (lv_at hl 0 rfl) ?_
  refine lv_iconst (v := 1) hx hb dL_law__1324 (by decide) ?_
  refine lv_iadd hx hb dL_law__1325 ?_
  refine va_sld hx hb hX hbl hbA hS (by unfold vp_in; decide) dL_law__1326 ?_
  refine lv_aload_n hx hb dL_law__1327 rfl (lv_at hl 5 rfl) ?_
  refine lv_iload hx hb dL_law__1328 (lv_at hl 0 rfl) ?_
  refine lv_iconst (v := 2) hx hb dL_law__1330 (by decide) ?_
  refine lv_iadd hx hb dL_law__1331 ?_
  refine va_sld hx hb hX hbl hbA hS (by unfold vp_in; decide) dL_law__1332 ?_
  refine lv_i2c hx hb dL_law__1333 rfl ?_
  refine lv_aload_n hx hb dL_law__1334 rfl (lv_at hl 2 rfl) ?_
  have hPc := hP.sub (ws' := [(x, .inr (11, [.ref cs, .ref th, .ref nw, .ref mi, .int 9999, .int 0, .int 0])), (cs, .inr (4, [.int 0, .ref e0, .int 0]))]) [0, 1] rfl
  have hDc := hD.sub (ws' := [(x, .inr (11, [.ref cs, .ref th, .ref nw, .ref mi, .int 9999, .int 0, .int 0])), (cs, .inr (4, [.int 0, .ref e0, .int 0]))]) [0, 1] (by decide) rfl
  have hKc := hK.sub (tys' := []) [] rfl
  refine va_calli (vx_runSW (As := [.ref x, .int (xs (Int32.toNatClampNeg (0 + 1))), .int (UInt32.toInt32 (Int32.toUInt32 (xs (Int32.toNatClampNeg (0 + 2))) % 65536)), .ref o]) (rest := []) ⟨hx, hb, hml, hown, hts⟩ (k_LL_out l hst D x cs (.ref th) (.ref nw) (.ref mi) (.int 9999) (.int 0) (.int 0) 0 (.ref e0) (xs (Int32.toNatClampNeg (0 + 1))) (UInt32.toInt32 (Int32.toUInt32 (xs (Int32.toNatClampNeg (0 + 2))) % 65536)) o H.size) (vx_cwSW 4 hts (gS q893 q894 q0 (gH q895)) rfl rfl rfl (by decide +kernel) ⟨Nat.le_of_ble_eq_true rfl, Nat.le_of_ble_eq_true rfl⟩) ⟨EV.fb, fun U hU hW => ⟨rfl, EV.at hPc hKc hDc hG (hZ.no hS) U hU hW⟩⟩ rfl rfl hl.1 rfl (lv_room (Nat.le_of_ble_eq_true rfl)) dL_law__1335 ⟨Nat.le_of_ble_eq_true rfl, Nat.le_of_ble_eq_true rfl⟩) hS (fun q _ h => h.elim) (fun q h => h.elim) (fun r_1 u t H1 locs ht hvm hw hB hz1 hk1 hS => ?_)
  have hP := P_kept hP hk1
  generalize H1 = H at hP hS ⊢
  have hP : va_P D vwCl [(x, .inr (11, [.ref cs, .ref th, .ref nw, .ref mi, .int 9999, .int 0, .int 0])), (cs, .inr (4, [.int 0, .ref e0, .int 0])), (th, .inr (4, [.int 0, .ref e0, .int 0])), (nw, .inr (10, [.int 10, .int 0, .int 0])), (m2, .inr (16, [.int 0, .ref ms, .ref sk, .int 0])), (ms, .inr (4, [.int 0, .ref e0, .int 0])), (sk, .inr (15, [.int 10, .int 0, .int 0, .int 9999, .int 0])), (o, .inl (cA, 1, .inr (.inl (fun _ => 0)))), (od, .inl (cB, 1, .inr (.inr (.inr (.inl (fun _ => 0))))))] H := hP
  subst hw
  refine lv_istore (lv' := [(6, .int 1), (5, .int 0), (4, .ref od), (3, .ref o), (2, .ref m2), (1, .ref x), (0, .ref b)]) hx hb dL_law__1338 hl (by decide) rfl (fun ls hl => ?_)
  refine lv_aload_n hx hb dL_law__1340 rfl (lv_at hl 4 rfl) ?_
  refine lv_aload_n hx hb dL_law__1341 rfl (lv_at hl 6 rfl) ?_
  refine lv_iload hx hb dL_law__1342 (lv_at hl 1 rfl) ?_
  refine lv_iconst (v := 1) hx hb dL_law__1344 (by decide) ?_
  refine lv_iadd hx hb dL_law__1345 ?_
  refine va_sld hx hb hX hbl hbA hS (by unfold vp_in; decide) dL_law__1346 ?_
  refine lv_aload_n hx hb dL_law__1347 rfl (lv_at hl 6 rfl) ?_
  refine lv_iload hx hb dL_law__1348 (lv_at hl 1 rfl) ?_
  refine lv_iconst (v := 2) hx hb dL_law__1350 (by decide) ?_
  refine lv_iadd hx hb dL_law__1351 ?_
  refine va_sld hx hb hX hbl hbA hS (by unfold vp_in; decide) dL_law__1352 ?_
  refine lv_i2c hx hb dL_law__1353 rfl ?_
  have hPc := hP.sub (ws' := [(m2, .inr (16, [.int 0, .ref ms, .ref sk, .int 0])), (ms, .inr (4, [.int 0, .ref e0, .int 0]))]) [4, 5] rfl
  have hDc := hD.sub (ws' := [(m2, .inr (16, [.int 0, .ref ms, .ref sk, .int 0])), (ms, .inr (4, [.int 0, .ref e0, .int 0]))]) [4, 5] (by decide) rfl
  have hKc := hK.sub (tys' := []) [] rfl
  have hFc := va_free (wc := [(m2, .inr (16, [.int 0, .ref ms, .ref sk, .int 0])), (ms, .inr (4, [.int 0, .ref e0, .int 0]))]) hD hS hA [4, 5] rfl
  refine va_calll (va_runV (As := [.int (xs (Int32.toNatClampNeg (0 + 1))), .int (UInt32.toInt32 (Int32.toUInt32 (xs (Int32.toNatClampNeg (0 + 2))) % 65536))]) (rest := []) ⟨hx, hb, hml, hown, hts⟩ (k_LM_out l D m2 0 ms (.ref sk) (.int 0) 0 (.ref e0) (xs (Int32.toNatClampNeg (0 + 1))) (UInt32.toInt32 (Int32.toUInt32 (xs (Int32.toNatClampNeg (0 + 2))) % 65536)) H.size) (cwV 2 hts (gV q1506 q1507 q1508 q6 (gA q1509)) rfl rfl rfl (by decide +kernel) ⟨Nat.le_of_ble_eq_true rfl, Nat.le_of_ble_eq_true rfl⟩) ⟨EV.fb, va_recv hKc hPc (ci := 16) (q0 := 0) rfl rfl, fun U hU hW => ⟨rfl, EV.at hPc hKc hDc hG (hZ.no hS) U hU hW⟩⟩ rfl rfl hl.1 rfl (lv_room (Nat.le_of_ble_eq_true rfl)) dL_law__1354 ⟨Nat.le_of_ble_eq_true rfl, Nat.le_of_ble_eq_true rfl⟩) hS (fun q _ h => hFc q h) hFc (fun r_2 u t H1 locs ht hvm hw hB hz1 hk1 hS => ?_)
  obtain ⟨hP1, hD1⟩ := hB
  rw [ht] at hP1
  obtain ⟨hP, hD⟩ := va_join (wr := [(x, .inr (11, [.ref cs, .ref th, .ref nw, .ref mi, .int 9999, .int 0, .int 0])), (cs, .inr (4, [.int 0, .ref e0, .int 0])), (th, .inr (4, [.int 0, .ref e0, .int 0])), (nw, .inr (10, [.int 10, .int 0, .int 0])), (sk, .inr (15, [.int 10, .int 0, .int 0, .int 9999, .int 0])), (o, .inl (cA, 1, .inr (.inl (fun _ => 0)))), (od, .inl (cB, 1, .inr (.inr (.inr (.inl (fun _ => 0))))))]) (w1 := [(m2, .inr (16, [.int 1, .ref ms, .ref sk, .int 0])), (ms, .inr (4, [.int 0, .ref e0, .int 0]))]) hP hD [4, 5] [0, 1, 2, 3, 6, 7, 8] rfl rfl (by decide) (by decide) hk1 hFc hP1 hD1
  generalize H1 = H at hP hS ⊢
  have hP : va_P D vwCl [(x, .inr (11, [.ref cs, .ref th, .ref nw, .ref mi, .int 9999, .int 0, .int 0])), (cs, .inr (4, [.int 0, .ref e0, .int 0])), (th, .inr (4, [.int 0, .ref e0, .int 0])), (nw, .inr (10, [.int 10, .int 0, .int 0])), (sk, .inr (15, [.int 10, .int 0, .int 0, .int 9999, .int 0])), (o, .inl (cA, 1, .inr (.inl (fun _ => 0)))), (od, .inl (cB, 1, .inr (.inr (.inr (.inl (fun _ => 0)))))), (m2, .inr (16, [.int 1, .ref ms, .ref sk, .int 0])), (ms, .inr (4, [.int 0, .ref e0, .int 0]))] H := hP
  have hD : va_D (fun q : Nat => s.heap.size ≤ q) [(x, .inr (11, [.ref cs, .ref th, .ref nw, .ref mi, .int 9999, .int 0, .int 0])), (cs, .inr (4, [.int 0, .ref e0, .int 0])), (th, .inr (4, [.int 0, .ref e0, .int 0])), (nw, .inr (10, [.int 10, .int 0, .int 0])), (sk, .inr (15, [.int 10, .int 0, .int 0, .int 9999, .int 0])), (o, .inl (cA, 1, .inr (.inl (fun _ => 0)))), (od, .inl (cB, 1, .inr (.inr (.inr (.inl (fun _ => 0)))))), (m2, .inr (16, [.int 1, .ref ms, .ref sk, .int 0])), (ms, .inr (4, [.int 0, .ref e0, .int 0]))] := hD
  refine lv_lstore (lv' := [(7, .long r_2), (6, .int 1), (5, .int 0), (4, .ref od), (3, .ref o), (2, .ref m2), (1, .ref x), (0, .ref b)]) hx hb dL_law__1357 hl (by decide) rfl (fun ls hl => ?_)
  refine lv_aload_n hx hb dL_law__1359 rfl (lv_at hl 5 rfl) ?_
  have hPc := hP.sub (ws' := [(m2, .inr (16, [.int 1, .ref ms, .ref sk, .int 0]))]) [7] rfl
  have hDc := hD.sub (ws' := [(m2, .inr (16, [.int 1, .ref ms, .ref sk, .int 0]))]) [7] (by decide) rfl
  have hKc := hK.sub (tys' := []) [] rfl
  refine va_calli (va_runV (As := []) (rest := []) ⟨hx, hb, hml, hown, hts⟩ (k_LM_thrown l D m2 1 ms (.ref sk) (.int 0) 0 .null H.size) (cwV 0 hts (gV q1174 q1175 q1176 q6 (gA q1177)) rfl rfl rfl (by decide +kernel) ⟨Nat.le_of_ble_eq_true rfl, Nat.le_of_ble_eq_true rfl⟩) ⟨EV.fb, va_recv hKc hPc (ci := 16) (q0 := 0) rfl rfl, fun U hU hW => ⟨rfl, EV.at hPc hKc hDc hG (hZ.no hS) U hU hW⟩⟩ rfl rfl hl.1 rfl (lv_room (Nat.le_of_ble_eq_true rfl)) dL_law__1360 ⟨Nat.le_of_ble_eq_true rfl, Nat.le_of_ble_eq_true rfl⟩) hS (fun q _ h => h.elim) (fun q h => h.elim) (fun r_3 u t H1 locs ht hvm hw hB hz1 hk1 hS => ?_)
  have hP := P_kept hP hk1
  generalize H1 = H at hP hS ⊢
  have hP : va_P D vwCl [(x, .inr (11, [.ref cs, .ref th, .ref nw, .ref mi, .int 9999, .int 0, .int 0])), (cs, .inr (4, [.int 0, .ref e0, .int 0])), (th, .inr (4, [.int 0, .ref e0, .int 0])), (nw, .inr (10, [.int 10, .int 0, .int 0])), (sk, .inr (15, [.int 10, .int 0, .int 0, .int 9999, .int 0])), (o, .inl (cA, 1, .inr (.inl (fun _ => 0)))), (od, .inl (cB, 1, .inr (.inr (.inr (.inl (fun _ => 0)))))), (m2, .inr (16, [.int 1, .ref ms, .ref sk, .int 0])), (ms, .inr (4, [.int 0, .ref e0, .int 0]))] H := hP
  subst hw
  refine lv_iload hx hb dL_law__1363 (lv_at hl 1 rfl) ?_
  refine lv_icmp_eq (tgt := 1370) hx hb dL_law__1365 (by decide) (fun c_4 => ?_) (fun c_4 => ?_)
  · refine lv_iload hx hb dL_law__1370 (lv_at hl 1 rfl) ?_
    refine lv_if_ne (tgt := 1386) hx hb dL_law__1372 (by decide) (fun c_5 => ?_) (fun c_5 => ?_)
    · refine lv_goto (tgt := 2850) hx hb dL_law__1386 (by decide) ?_
      exact law_end (D := D) hst hx hb hr hml hown hts hX hbl hlocks hS (Nat.le_of_ble_eq_true rfl) (Nat.le_of_ble_eq_true rfl) (lv_sub hl [7, 2] rfl)
    · exact absurd c_5 (by decide)
  · exact absurd (by decide) c_4
set_option maxHeartbeats 8000000 in
set_option maxRecDepth 100000 in
/-- case 16: eaten -/
theorem law_16 {p : Program} {l : Launch} {e : Env} {s : State} {m : MethodId} {below : List Frame} {meth : Method} {c : Code} {D : va_G} {b : Nat} {xs : Nat → Int32} (hst : l.stackTraces = false) (hx : p.tables.exec = Jvm.exec) (hb : c.code = code) (hr : meth.sig.returnType = ret) (hml : c.maxLocals = 9) (hown : s.vm.findClass RL = some m.cls) (hts : ∀ w ∈ lw_all, w.before #[Value.ref b] s = true) (hX : va_X b 5 xs s s.heap) (hbl : b < s.heap.size) (hlocks : meth.locks = false) (hG : GE s) (hZ : ZZ (fun q : Nat => s.heap.size ≤ q) s s.heap) {e0 : Nat} (hZd : ZD e0 (fun q : Nat => s.heap.size ≤ q) s s.heap) (hZt : ZT e0 (fun q : Nat => s.heap.size ≤ q) s s.heap) (hAO : va_AO "java/lang/Object" s) {fq fv : Nat} (hSF : SF fq fv (fun q : Nat => s.heap.size ≤ q) s s.heap) (hvk : vk_R RX12 58 "fsn" fq s) {x cs th nw mi m2 ms sk o od : Nat} {cA cB : ClassId} {H : Heap} {locs : List Loc} (hK : va_K D vwCl [(cA, .long), (cB, .double)] s) (hP : va_P D vwCl [(x, .inr (11, [.ref cs, .ref th, .ref nw, .ref mi, .int 9999, .int 0, .int 0])), (cs, .inr (4, [.int 0, .ref e0, .int 0])), (th, .inr (4, [.int 0, .ref e0, .int 0])), (nw, .inr (10, [.int 10, .int 0, .int 0])), (m2, .inr (16, [.int 0, .ref ms, .ref sk, .int 0])), (ms, .inr (4, [.int 0, .ref e0, .int 0])), (sk, .inr (15, [.int 10, .int 0, .int 0, .int 9999, .int 0])), (o, .inl (cA, 1, .inr (.inl (fun _ => 0)))), (od, .inl (cB, 1, .inr (.inr (.inr (.inl (fun _ => 0))))))] H) (hD : va_D (fun q : Nat => s.heap.size ≤ q) [(x, .inr (11, [.ref cs, .ref th, .ref nw, .ref mi, .int 9999, .int 0, .int 0])), (cs, .inr (4, [.int 0, .ref e0, .int 0])), (th, .inr (4, [.int 0, .ref e0, .int 0])), (nw, .inr (10, [.int 10, .int 0, .int 0])), (m2, .inr (16, [.int 0, .ref ms, .ref sk, .int 0])), (ms, .inr (4, [.int 0, .ref e0, .int 0])), (sk, .inr (15, [.int 10, .int 0, .int 0, .int 9999, .int 0])), (o, .inl (cA, 1, .inr (.inl (fun _ => 0)))), (od, .inl (cB, 1, .inr (.inr (.inr (.inl (fun _ => 0))))))]) (hS : va_S (fun q : Nat => s.heap.size ≤ q) s.heap H locs) {ls : Array Slot} (hl : lv_has ls 9 [(5, .int 0), (4, .ref od), (3, .ref o), (2, .ref m2), (1, .ref x), (0, .ref b)]) : W p l e room_1 s m #[Value.ref b] below meth c H locs 10 70 (lw_Z below #[Value.ref b] s) (F0 m 1389 ls []) := by
  have hA : ∀ q : Nat, s.heap.size ≤ q → (fun q : Nat => s.heap.size ≤ q) q := fun _ h => h
  have hbA : ¬ (fun q : Nat => s.heap.size ≤ q) b := Nat.not_le.mpr hbl
  refine lv_aload_n hx hb dL_law__1389 rfl (lv_at hl 4 rfl) ?_
  refine lv_aload_n hx hb dL_law__1390 rfl (lv_at hl 5 rfl) ?_
  refine lv_iload hx hb dL_law__1391 (lv_at hl 0 rfl) ?_
  refine lv_iconst (v := 1) hx hb dL_law__1393 (by decide) ?_
  refine lv_iadd hx hb dL_law__1394 ?_
  refine va_sld hx hb hX hbl hbA hS (by unfold vp_in; decide) dL_law__1395 ?_
  refine lv_aload_n hx hb dL_law__1396 rfl (lv_at hl 2 rfl) ?_
  have hPc := hP.sub (ws' := [(x, .inr (11, [.ref cs, .ref th, .ref nw, .ref mi, .int 9999, .int 0, .int 0])), (cs, .inr (4, [.int 0, .ref e0, .int 0]))]) [0, 1] rfl
  have hDc := hD.sub (ws' := [(x, .inr (11, [.ref cs, .ref th, .ref nw, .ref mi, .int 9999, .int 0, .int 0])), (cs, .inr (4, [.int 0, .ref e0, .int 0]))]) [0, 1] (by decide) rfl
  have hKc := hK.sub (tys' := []) [] rfl
  refine va_calli (vx_runSW (As := [.ref x, .int (xs (Int32.toNatClampNeg (0 + 1))), .ref o]) (rest := []) ⟨hx, hb, hml, hown, hts⟩ (k_LL_eaten l hst D x cs (.ref th) (.ref nw) (.ref mi) (.int 9999) (.int 0) (.int 0) 0 (.ref e0) (xs (Int32.toNatClampNeg (0 + 1))) o H.size) (vx_cwSW 3 hts (gS q900 q901 q0 (gH q902)) rfl rfl rfl (by decide +kernel) ⟨Nat.le_of_ble_eq_true rfl, Nat.le_of_ble_eq_true rfl⟩) ⟨EV.fb, fun U hU hW => ⟨rfl, EV.at hPc hKc hDc hG (hZ.no hS) U hU hW⟩⟩ rfl rfl hl.1 rfl (lv_room (Nat.le_of_ble_eq_true rfl)) dL_law__1397 ⟨Nat.le_of_ble_eq_true rfl, Nat.le_of_ble_eq_true rfl⟩) hS (fun q _ h => h.elim) (fun q h => h.elim) (fun r_1 u t H1 locs ht hvm hw hB hz1 hk1 hS => ?_)
  have hP := P_kept hP hk1
  generalize H1 = H at hP hS ⊢
  have hP : va_P D vwCl [(x, .inr (11, [.ref cs, .ref th, .ref nw, .ref mi, .int 9999, .int 0, .int 0])), (cs, .inr (4, [.int 0, .ref e0, .int 0])), (th, .inr (4, [.int 0, .ref e0, .int 0])), (nw, .inr (10, [.int 10, .int 0, .int 0])), (m2, .inr (16, [.int 0, .ref ms, .ref sk, .int 0])), (ms, .inr (4, [.int 0, .ref e0, .int 0])), (sk, .inr (15, [.int 10, .int 0, .int 0, .int 9999, .int 0])), (o, .inl (cA, 1, .inr (.inl (fun _ => 0)))), (od, .inl (cB, 1, .inr (.inr (.inr (.inl (fun _ => 0))))))] H := hP
  subst hw
  refine lv_istore (lv' := [(6, .int 1), (5, .int 0), (4, .ref od), (3, .ref o), (2, .ref m2), (1, .ref x), (0, .ref b)]) hx hb dL_law__1400 hl (by decide) rfl (fun ls hl => ?_)
  refine lv_aload_n hx hb dL_law__1402 rfl (lv_at hl 4 rfl) ?_
  refine lv_aload_n hx hb dL_law__1403 rfl (lv_at hl 6 rfl) ?_
  refine lv_iload hx hb dL_law__1404 (lv_at hl 1 rfl) ?_
  refine lv_iconst (v := 1) hx hb dL_law__1406 (by decide) ?_
  refine lv_iadd hx hb dL_law__1407 ?_
  refine va_sld hx hb hX hbl hbA hS (by unfold vp_in; decide) dL_law__1408 ?_
  have hPc := hP.sub (ws' := [(m2, .inr (16, [.int 0, .ref ms, .ref sk, .int 0])), (ms, .inr (4, [.int 0, .ref e0, .int 0]))]) [4, 5] rfl
  have hDc := hD.sub (ws' := [(m2, .inr (16, [.int 0, .ref ms, .ref sk, .int 0])), (ms, .inr (4, [.int 0, .ref e0, .int 0]))]) [4, 5] (by decide) rfl
  have hKc := hK.sub (tys' := []) [] rfl
  have hFc := va_free (wc := [(m2, .inr (16, [.int 0, .ref ms, .ref sk, .int 0])), (ms, .inr (4, [.int 0, .ref e0, .int 0]))]) hD hS hA [4, 5] rfl
  refine va_calll (va_runV (As := [.int (xs (Int32.toNatClampNeg (0 + 1)))]) (rest := []) ⟨hx, hb, hml, hown, hts⟩ (k_LM_eaten l D m2 0 ms (.ref sk) (.int 0) 0 (.ref e0) (xs (Int32.toNatClampNeg (0 + 1))) H.size) (cwV 1 hts (gV q1510 q1511 q1512 q6 (gA q1513)) rfl rfl rfl (by decide +kernel) ⟨Nat.le_of_ble_eq_true rfl, Nat.le_of_ble_eq_true rfl⟩) ⟨EV.fb, va_recv hKc hPc (ci := 16) (q0 := 0) rfl rfl, fun U hU hW => ⟨rfl, EV.at hPc hKc hDc hG (hZ.no hS) U hU hW⟩⟩ rfl rfl hl.1 rfl (lv_room (Nat.le_of_ble_eq_true rfl)) dL_law__1409 ⟨Nat.le_of_ble_eq_true rfl, Nat.le_of_ble_eq_true rfl⟩) hS (fun q _ h => hFc q h) hFc (fun r_2 u t H1 locs ht hvm hw hB hz1 hk1 hS => ?_)
  obtain ⟨hP1, hD1⟩ := hB
  rw [ht] at hP1
  obtain ⟨hP, hD⟩ := va_join (wr := [(x, .inr (11, [.ref cs, .ref th, .ref nw, .ref mi, .int 9999, .int 0, .int 0])), (cs, .inr (4, [.int 0, .ref e0, .int 0])), (th, .inr (4, [.int 0, .ref e0, .int 0])), (nw, .inr (10, [.int 10, .int 0, .int 0])), (sk, .inr (15, [.int 10, .int 0, .int 0, .int 9999, .int 0])), (o, .inl (cA, 1, .inr (.inl (fun _ => 0)))), (od, .inl (cB, 1, .inr (.inr (.inr (.inl (fun _ => 0))))))]) (w1 := [(m2, .inr (16, [.int 1, .ref ms, .ref sk, .int 0])), (ms, .inr (4, [.int 0, .ref e0, .int 0]))]) hP hD [4, 5] [0, 1, 2, 3, 6, 7, 8] rfl rfl (by decide) (by decide) hk1 hFc hP1 hD1
  generalize H1 = H at hP hS ⊢
  have hP : va_P D vwCl [(x, .inr (11, [.ref cs, .ref th, .ref nw, .ref mi, .int 9999, .int 0, .int 0])), (cs, .inr (4, [.int 0, .ref e0, .int 0])), (th, .inr (4, [.int 0, .ref e0, .int 0])), (nw, .inr (10, [.int 10, .int 0, .int 0])), (sk, .inr (15, [.int 10, .int 0, .int 0, .int 9999, .int 0])), (o, .inl (cA, 1, .inr (.inl (fun _ => 0)))), (od, .inl (cB, 1, .inr (.inr (.inr (.inl (fun _ => 0)))))), (m2, .inr (16, [.int 1, .ref ms, .ref sk, .int 0])), (ms, .inr (4, [.int 0, .ref e0, .int 0]))] H := hP
  have hD : va_D (fun q : Nat => s.heap.size ≤ q) [(x, .inr (11, [.ref cs, .ref th, .ref nw, .ref mi, .int 9999, .int 0, .int 0])), (cs, .inr (4, [.int 0, .ref e0, .int 0])), (th, .inr (4, [.int 0, .ref e0, .int 0])), (nw, .inr (10, [.int 10, .int 0, .int 0])), (sk, .inr (15, [.int 10, .int 0, .int 0, .int 9999, .int 0])), (o, .inl (cA, 1, .inr (.inl (fun _ => 0)))), (od, .inl (cB, 1, .inr (.inr (.inr (.inl (fun _ => 0)))))), (m2, .inr (16, [.int 1, .ref ms, .ref sk, .int 0])), (ms, .inr (4, [.int 0, .ref e0, .int 0]))] := hD
  refine lv_lstore (lv' := [(7, .long r_2), (6, .int 1), (5, .int 0), (4, .ref od), (3, .ref o), (2, .ref m2), (1, .ref x), (0, .ref b)]) hx hb dL_law__1412 hl (by decide) rfl (fun ls hl => ?_)
  refine lv_aload_n hx hb dL_law__1414 rfl (lv_at hl 5 rfl) ?_
  have hPc := hP.sub (ws' := [(m2, .inr (16, [.int 1, .ref ms, .ref sk, .int 0]))]) [7] rfl
  have hDc := hD.sub (ws' := [(m2, .inr (16, [.int 1, .ref ms, .ref sk, .int 0]))]) [7] (by decide) rfl
  have hKc := hK.sub (tys' := []) [] rfl
  refine va_calli (va_runV (As := []) (rest := []) ⟨hx, hb, hml, hown, hts⟩ (k_LM_thrown l D m2 1 ms (.ref sk) (.int 0) 0 .null H.size) (cwV 0 hts (gV q1174 q1175 q1176 q6 (gA q1177)) rfl rfl rfl (by decide +kernel) ⟨Nat.le_of_ble_eq_true rfl, Nat.le_of_ble_eq_true rfl⟩) ⟨EV.fb, va_recv hKc hPc (ci := 16) (q0 := 0) rfl rfl, fun U hU hW => ⟨rfl, EV.at hPc hKc hDc hG (hZ.no hS) U hU hW⟩⟩ rfl rfl hl.1 rfl (lv_room (Nat.le_of_ble_eq_true rfl)) dL_law__1415 ⟨Nat.le_of_ble_eq_true rfl, Nat.le_of_ble_eq_true rfl⟩) hS (fun q _ h => h.elim) (fun q h => h.elim) (fun r_3 u t H1 locs ht hvm hw hB hz1 hk1 hS => ?_)
  have hP := P_kept hP hk1
  generalize H1 = H at hP hS ⊢
  have hP : va_P D vwCl [(x, .inr (11, [.ref cs, .ref th, .ref nw, .ref mi, .int 9999, .int 0, .int 0])), (cs, .inr (4, [.int 0, .ref e0, .int 0])), (th, .inr (4, [.int 0, .ref e0, .int 0])), (nw, .inr (10, [.int 10, .int 0, .int 0])), (sk, .inr (15, [.int 10, .int 0, .int 0, .int 9999, .int 0])), (o, .inl (cA, 1, .inr (.inl (fun _ => 0)))), (od, .inl (cB, 1, .inr (.inr (.inr (.inl (fun _ => 0)))))), (m2, .inr (16, [.int 1, .ref ms, .ref sk, .int 0])), (ms, .inr (4, [.int 0, .ref e0, .int 0]))] H := hP
  subst hw
  refine lv_iload hx hb dL_law__1418 (lv_at hl 1 rfl) ?_
  refine lv_icmp_eq (tgt := 1425) hx hb dL_law__1420 (by decide) (fun c_4 => ?_) (fun c_4 => ?_)
  · refine lv_iload hx hb dL_law__1425 (lv_at hl 1 rfl) ?_
    refine lv_if_ne (tgt := 1441) hx hb dL_law__1427 (by decide) (fun c_5 => ?_) (fun c_5 => ?_)
    · refine lv_goto (tgt := 2850) hx hb dL_law__1441 (by decide) ?_
      exact law_end (D := D) hst hx hb hr hml hown hts hX hbl hlocks hS (Nat.le_of_ble_eq_true rfl) (Nat.le_of_ble_eq_true rfl) (lv_sub hl [7, 2] rfl)
    · exact absurd c_5 (by decide)
  · exact absurd (by decide) c_4
set_option maxHeartbeats 8000000 in
set_option maxRecDepth 100000 in
/-- case 17: weather -/
theorem law_17 {p : Program} {l : Launch} {e : Env} {s : State} {m : MethodId} {below : List Frame} {meth : Method} {c : Code} {D : va_G} {b : Nat} {xs : Nat → Int32} (hst : l.stackTraces = false) (hx : p.tables.exec = Jvm.exec) (hb : c.code = code) (hr : meth.sig.returnType = ret) (hml : c.maxLocals = 9) (hown : s.vm.findClass RL = some m.cls) (hts : ∀ w ∈ lw_all, w.before #[Value.ref b] s = true) (hX : va_X b 5 xs s s.heap) (hbl : b < s.heap.size) (hlocks : meth.locks = false) (hG : GE s) (hZ : ZZ (fun q : Nat => s.heap.size ≤ q) s s.heap) {e0 : Nat} (hZd : ZD e0 (fun q : Nat => s.heap.size ≤ q) s s.heap) (hZt : ZT e0 (fun q : Nat => s.heap.size ≤ q) s s.heap) (hAO : va_AO "java/lang/Object" s) {fq fv : Nat} (hSF : SF fq fv (fun q : Nat => s.heap.size ≤ q) s s.heap) (hvk : vk_R RX12 58 "fsn" fq s) {x cs th nw mi m2 ms sk o od : Nat} {cA cB : ClassId} {H : Heap} {locs : List Loc} (hK : va_K D vwCl [(cA, .long), (cB, .double)] s) (hP : va_P D vwCl [(x, .inr (11, [.ref cs, .ref th, .ref nw, .ref mi, .int 9999, .int 0, .int 0])), (cs, .inr (4, [.int 0, .ref e0, .int 0])), (th, .inr (4, [.int 0, .ref e0, .int 0])), (nw, .inr (10, [.int 10, .int 0, .int 0])), (m2, .inr (16, [.int 0, .ref ms, .ref sk, .int 0])), (ms, .inr (4, [.int 0, .ref e0, .int 0])), (sk, .inr (15, [.int 10, .int 0, .int 0, .int 9999, .int 0])), (o, .inl (cA, 1, .inr (.inl (fun _ => 0)))), (od, .inl (cB, 1, .inr (.inr (.inr (.inl (fun _ => 0))))))] H) (hD : va_D (fun q : Nat => s.heap.size ≤ q) [(x, .inr (11, [.ref cs, .ref th, .ref nw, .ref mi, .int 9999, .int 0, .int 0])), (cs, .inr (4, [.int 0, .ref e0, .int 0])), (th, .inr (4, [.int 0, .ref e0, .int 0])), (nw, .inr (10, [.int 10, .int 0, .int 0])), (m2, .inr (16, [.int 0, .ref ms, .ref sk, .int 0])), (ms, .inr (4, [.int 0, .ref e0, .int 0])), (sk, .inr (15, [.int 10, .int 0, .int 0, .int 9999, .int 0])), (o, .inl (cA, 1, .inr (.inl (fun _ => 0)))), (od, .inl (cB, 1, .inr (.inr (.inr (.inl (fun _ => 0))))))]) (hS : va_S (fun q : Nat => s.heap.size ≤ q) s.heap H locs) {ls : Array Slot} (hl : lv_has ls 9 [(5, .int 0), (4, .ref od), (3, .ref o), (2, .ref m2), (1, .ref x), (0, .ref b)]) : W p l e room_1 s m #[Value.ref b] below meth c H locs 10 70 (lw_Z below #[Value.ref b] s) (F0 m 1444 ls []) := by
  have hA : ∀ q : Nat, s.heap.size ≤ q → (fun q : Nat => s.heap.size ≤ q) q := fun _ h => h
  have hbA : ¬ (fun q : Nat => s.heap.size ≤ q) b := Nat.not_le.mpr hbl
  refine lv_aload_n hx hb dL_law__1444 rfl (lv_at hl 4 rfl) ?_
  refine lv_aload_n hx hb dL_law__1445 rfl (lv_at hl 5 rfl) ?_
  refine lv_iload hx hb dL_law__1446 (lv_at hl 0 rfl) ?_
  refine lv_iconst (v := 1) hx hb dL_law__1448 (by decide) ?_
  refine lv_iadd hx hb dL_law__1449 ?_
  refine va_sld hx hb hX hbl hbA hS (by unfold vp_in; decide) dL_law__1450 ?_
  refine lv_aload_n hx hb dL_law__1451 rfl (lv_at hl 5 rfl) ?_
  refine lv_iload hx hb dL_law__1452 (lv_at hl 0 rfl) ?_
  refine lv_iconst (v := 2) hx hb dL_law__1454 (by decide) ?_
  refine lv_iadd hx hb dL_law__1455 ?_
  refine va_sld hx hb hX hbl hbA hS (by unfold vp_in; decide) dL_law__1456 ?_
  refine lv_aload_n hx hb dL_law__1457 rfl (lv_at hl 5 rfl) ?_
  refine lv_iload hx hb dL_law__1458 (lv_at hl 0 rfl) ?_
  refine lv_iconst (v := 3) hx hb dL_law__1460 (by decide) ?_
  refine lv_iadd hx hb dL_law__1461 ?_
  refine va_sld hx hb hX hbl hbA hS (by unfold vp_in; decide) dL_law__1462 ?_
  refine lv_aload_n hx hb dL_law__1463 rfl (lv_at hl 2 rfl) ?_
  have hPc := hP.sub (ws' := [(x, .inr (11, [.ref cs, .ref th, .ref nw, .ref mi, .int 9999, .int 0, .int 0])), (nw, .inr (10, [.int 10, .int 0, .int 0])), (o, .inl (cA, 1, .inr (.inl (fun _ => 0))))]) [0, 3, 7] rfl
  have hDc := hD.sub (ws' := [(x, .inr (11, [.ref cs, .ref th, .ref nw, .ref mi, .int 9999, .int 0, .int 0])), (nw, .inr (10, [.int 10, .int 0, .int 0])), (o, .inl (cA, 1, .inr (.inl (fun _ => 0))))]) [0, 3, 7] (by decide) rfl
  have hKc := hK.sub (tys' := [(cA, .long)]) [0] rfl
  have hFc := va_free (wc := [(x, .inr (11, [.ref cs, .ref th, .ref nw, .ref mi, .int 9999, .int 0, .int 0])), (nw, .inr (10, [.int 10, .int 0, .int 0])), (o, .inl (cA, 1, .inr (.inl (fun _ => 0))))]) hD hS hA [0, 3, 7] rfl
  refine va_calli (vx_runSW (As := [.ref x, .int (xs (Int32.toNatClampNeg (0 + 1))), .int (xs (Int32.toNatClampNeg (0 + 2))), .int (xs (Int32.toNatClampNeg (0 + 3))), .ref o]) (rest := []) ⟨hx, hb, hml, hown, hts⟩ (k_LL_weather l hst D x (.ref cs) (.ref th) (.ref mi) (.int 9999) (.int 0) (.int 0) nw 10 0 0 (xs (Int32.toNatClampNeg (0 + 1))) (xs (Int32.toNatClampNeg (0 + 2))) (xs (Int32.toNatClampNeg (0 + 3)))  o cA (fun _ => 0) H.size) (vx_cwSW 5 hts (gS q907 q908 q0 (gH q909)) rfl rfl rfl (by decide +kernel) ⟨Nat.le_of_ble_eq_true rfl, Nat.le_of_ble_eq_true rfl⟩) ⟨EV.fb, fun U hU hW => ⟨rfl, EV.at hPc hKc hDc hG (hZ.no hS) U hU hW⟩⟩ rfl rfl hl.1 rfl (lv_room (Nat.le_of_ble_eq_true rfl)) dL_law__1464 ⟨Nat.le_of_ble_eq_true rfl, Nat.le_of_ble_eq_true rfl⟩) hS (fun q _ h => hFc q h) hFc (fun r_1 u t H1 locs ht hvm hw hB hz1 hk1 hS => ?_)
  obtain ⟨u_2, e_u_2⟩ : ∃ z, z = u := ⟨_, rfl⟩
  subst e_u_2
  obtain ⟨hP1, hD1⟩ := hB
  rw [ht] at hP1
  obtain ⟨hP, hD⟩ := va_join (wr := [(cs, .inr (4, [.int 0, .ref e0, .int 0])), (th, .inr (4, [.int 0, .ref e0, .int 0])), (m2, .inr (16, [.int 0, .ref ms, .ref sk, .int 0])), (ms, .inr (4, [.int 0, .ref e0, .int 0])), (sk, .inr (15, [.int 10, .int 0, .int 0, .int 9999, .int 0])), (od, .inl (cB, 1, .inr (.inr (.inr (.inl (fun _ => 0))))))]) (w1 := [(o, .inl (cA, 1, .inr (.inl u_2)))]) hP hD [0, 3, 7] [1, 2, 4, 5, 6, 8] rfl rfl (by decide) (by decide) hk1 hFc hP1 hD1
  generalize H1 = H at hP hS ⊢
  have hP : va_P D vwCl [(cs, .inr (4, [.int 0, .ref e0, .int 0])), (th, .inr (4, [.int 0, .ref e0, .int 0])), (m2, .inr (16, [.int 0, .ref ms, .ref sk, .int 0])), (ms, .inr (4, [.int 0, .ref e0, .int 0])), (sk, .inr (15, [.int 10, .int 0, .int 0, .int 9999, .int 0])), (od, .inl (cB, 1, .inr (.inr (.inr (.inl (fun _ => 0)))))), (o, .inl (cA, 1, .inr (.inl u_2)))] H := hP
  have hD : va_D (fun q : Nat => s.heap.size ≤ q) [(cs, .inr (4, [.int 0, .ref e0, .int 0])), (th, .inr (4, [.int 0, .ref e0, .int 0])), (m2, .inr (16, [.int 0, .ref ms, .ref sk, .int 0])), (ms, .inr (4, [.int 0, .ref e0, .int 0])), (sk, .inr (15, [.int 10, .int 0, .int 0, .int 9999, .int 0])), (od, .inl (cB, 1, .inr (.inr (.inr (.inl (fun _ => 0)))))), (o, .inl (cA, 1, .inr (.inl u_2)))] := hD
  have hwH_3 := hw
  refine lv_istore (lv' := [(6, .int r_1), (5, .int 0), (4, .ref od), (3, .ref o), (2, .ref m2), (1, .ref x), (0, .ref b)]) hx hb dL_law__1467 hl (by decide) rfl (fun ls hl => ?_)
  refine lv_aload_n hx hb dL_law__1469 rfl (lv_at hl 4 rfl) ?_
  refine lv_aload_n hx hb dL_law__1470 rfl (lv_at hl 6 rfl) ?_
  refine lv_iload hx hb dL_law__1471 (lv_at hl 1 rfl) ?_
  refine lv_iconst (v := 1) hx hb dL_law__1473 (by decide) ?_
  refine lv_iadd hx hb dL_law__1474 ?_
  refine va_sld hx hb hX hbl hbA hS (by unfold vp_in; decide) dL_law__1475 ?_
  refine lv_aload_n hx hb dL_law__1476 rfl (lv_at hl 6 rfl) ?_
  refine lv_iload hx hb dL_law__1477 (lv_at hl 1 rfl) ?_
  refine lv_iconst (v := 2) hx hb dL_law__1479 (by decide) ?_
  refine lv_iadd hx hb dL_law__1480 ?_
  refine va_sld hx hb hX hbl hbA hS (by unfold vp_in; decide) dL_law__1481 ?_
  refine lv_aload_n hx hb dL_law__1482 rfl (lv_at hl 6 rfl) ?_
  refine lv_iload hx hb dL_law__1483 (lv_at hl 1 rfl) ?_
  refine lv_iconst (v := 3) hx hb dL_law__1485 (by decide) ?_
  refine lv_iadd hx hb dL_law__1486 ?_
  refine va_sld hx hb hX hbl hbA hS (by unfold vp_in; decide) dL_law__1487 ?_
  have hPc := hP.sub (ws' := [(m2, .inr (16, [.int 0, .ref ms, .ref sk, .int 0])), (sk, .inr (15, [.int 10, .int 0, .int 0, .int 9999, .int 0]))]) [2, 4] rfl
  have hDc := hD.sub (ws' := [(m2, .inr (16, [.int 0, .ref ms, .ref sk, .int 0])), (sk, .inr (15, [.int 10, .int 0, .int 0, .int 9999, .int 0]))]) [2, 4] (by decide) rfl
  have hKc := hK.sub (tys' := []) [] rfl
  have hFc := va_free (wc := [(m2, .inr (16, [.int 0, .ref ms, .ref sk, .int 0])), (sk, .inr (15, [.int 10, .int 0, .int 0, .int 9999, .int 0]))]) hD hS hA [2, 4] rfl
  refine va_calli (va_runV (As := [.int (xs (Int32.toNatClampNeg (0 + 1))), .int (xs (Int32.toNatClampNeg (0 + 2))), .int (xs (Int32.toNatClampNeg (0 + 3)))]) (rest := []) ⟨hx, hb, hml, hown, hts⟩ (k_LM_weather l D m2 0 (.ref ms) (.int 0) sk 10 0 0 9999 0 (xs (Int32.toNatClampNeg (0 + 1))) (xs (Int32.toNatClampNeg (0 + 2))) (xs (Int32.toNatClampNeg (0 + 3))) H.size) (cwV 3 hts (gV q1514 q1515 q1516 q6 (gA q1517)) rfl rfl rfl (by decide +kernel) ⟨Nat.le_of_ble_eq_true rfl, Nat.le_of_ble_eq_true rfl⟩) ⟨EV.fb, va_recv hKc hPc (ci := 16) (q0 := 0) rfl rfl, fun U hU hW => ⟨rfl, EV.at hPc hKc hDc hG (hZ.no hS) U hU hW⟩⟩ rfl rfl hl.1 rfl (lv_room (Nat.le_of_ble_eq_true rfl)) dL_law__1488 ⟨Nat.le_of_ble_eq_true rfl, Nat.le_of_ble_eq_true rfl⟩) hS (fun q _ h => hFc q h) hFc (fun r_4 u t H1 locs ht hvm hw hB hz1 hk1 hS => ?_)
  obtain ⟨u_5, e_u_5⟩ : ∃ z, z = u := ⟨_, rfl⟩
  subst e_u_5
  obtain ⟨hP1, hD1⟩ := hB
  rw [ht] at hP1
  obtain ⟨hP, hD⟩ := va_join (wr := [(cs, .inr (4, [.int 0, .ref e0, .int 0])), (th, .inr (4, [.int 0, .ref e0, .int 0])), (ms, .inr (4, [.int 0, .ref e0, .int 0])), (od, .inl (cB, 1, .inr (.inr (.inr (.inl (fun _ => 0)))))), (o, .inl (cA, 1, .inr (.inl u_2)))]) (w1 := [(m2, .inr (16, [.int u_5, .ref ms, .ref sk, .int 0]))]) hP hD [2, 4] [0, 1, 3, 5, 6] rfl rfl (by decide) (by decide) hk1 hFc hP1 hD1
  generalize H1 = H at hP hS ⊢
  have hP : va_P D vwCl [(cs, .inr (4, [.int 0, .ref e0, .int 0])), (th, .inr (4, [.int 0, .ref e0, .int 0])), (ms, .inr (4, [.int 0, .ref e0, .int 0])), (od, .inl (cB, 1, .inr (.inr (.inr (.inl (fun _ => 0)))))), (o, .inl (cA, 1, .inr (.inl u_2))), (m2, .inr (16, [.int u_5, .ref ms, .ref sk, .int 0]))] H := hP
  have hD : va_D (fun q : Nat => s.heap.size ≤ q) [(cs, .inr (4, [.int 0, .ref e0, .int 0])), (th, .inr (4, [.int 0, .ref e0, .int 0])), (ms, .inr (4, [.int 0, .ref e0, .int 0])), (od, .inl (cB, 1, .inr (.inr (.inr (.inl (fun _ => 0)))))), (o, .inl (cA, 1, .inr (.inl u_2))), (m2, .inr (16, [.int u_5, .ref ms, .ref sk, .int 0]))] := hD
  try dsimp only at hw
  have hwM_6 := hw
  rcases hwH_3 with ⟨rfl, g1, e1⟩ | ⟨rfl, g1⟩
  · rcases hwM_6 with ⟨rfl, g2, rfl⟩ | ⟨rfl, g2⟩
    · refine lv_istore (lv' := [(7, .int 10), (6, .int 0), (5, .int 0), (4, .ref od), (3, .ref o), (2, .ref m2), (1, .ref x), (0, .ref b)]) hx hb dL_law__1491 hl (by decide) rfl (fun ls hl => ?_)
      refine lv_aload_n hx hb dL_law__1493 rfl (lv_at hl 5 rfl) ?_
      have hPc := hP.sub (ws' := [(m2, .inr (16, [.int 0, .ref ms, .ref sk, .int 0]))]) [5] rfl
      have hDc := hD.sub (ws' := [(m2, .inr (16, [.int 0, .ref ms, .ref sk, .int 0]))]) [5] (by decide) rfl
      have hKc := hK.sub (tys' := []) [] rfl
      refine va_calli (va_runV (As := []) (rest := []) ⟨hx, hb, hml, hown, hts⟩ (k_LM_thrown l D m2 0 ms (.ref sk) (.int 0) 0 .null H.size) (cwV 0 hts (gV q1174 q1175 q1176 q6 (gA q1177)) rfl rfl rfl (by decide +kernel) ⟨Nat.le_of_ble_eq_true rfl, Nat.le_of_ble_eq_true rfl⟩) ⟨EV.fb, va_recv hKc hPc (ci := 16) (q0 := 0) rfl rfl, fun U hU hW => ⟨rfl, EV.at hPc hKc hDc hG (hZ.no hS) U hU hW⟩⟩ rfl rfl hl.1 rfl (lv_room (Nat.le_of_ble_eq_true rfl)) dL_law__1494 ⟨Nat.le_of_ble_eq_true rfl, Nat.le_of_ble_eq_true rfl⟩) hS (fun q _ h => h.elim) (fun q h => h.elim) (fun r_7 u t H1 locs ht hvm hw hB hz1 hk1 hS => ?_)
      have hP := P_kept hP hk1
      generalize H1 = H at hP hS ⊢
      have hP : va_P D vwCl [(cs, .inr (4, [.int 0, .ref e0, .int 0])), (th, .inr (4, [.int 0, .ref e0, .int 0])), (ms, .inr (4, [.int 0, .ref e0, .int 0])), (od, .inl (cB, 1, .inr (.inr (.inr (.inl (fun _ => 0)))))), (o, .inl (cA, 1, .inr (.inl u_2))), (m2, .inr (16, [.int 0, .ref ms, .ref sk, .int 0]))] H := hP
      subst hw
      refine lv_iload hx hb dL_law__1497 (lv_at hl 1 rfl) ?_
      refine lv_icmp_eq (tgt := 1504) hx hb dL_law__1499 (by decide) (fun c_8 => ?_) (fun c_8 => ?_)
      · refine lv_iload hx hb dL_law__1504 (lv_at hl 1 rfl) ?_
        refine lv_if_ne (tgt := 1521) hx hb dL_law__1506 (by decide) (fun c_9 => ?_) (fun c_9 => ?_)
        · exact absurd rfl c_9
        · refine lv_aload_n hx hb dL_law__1509 rfl (lv_at hl 4 rfl) ?_
          refine lv_iconst (v := 0) hx hb dL_law__1510 (by decide) ?_
          refine va_lald hx hb hK hP 4 0 rfl rfl (by unfold vp_in; decide) dL_law__1511 ?_
          refine lv_iload hx hb dL_law__1512 (lv_at hl 0 rfl) ?_
          refine lv_i2l hx hb dL_law__1514 rfl ?_
          refine W.lcmp hx hb dL_law__1515 ?_
          refine lv_if_eq (tgt := 1521) hx hb dL_law__1516 (by decide) (fun c_10 => ?_) (fun c_10 => ?_)
          · refine lv_goto (tgt := 2850) hx hb dL_law__1521 (by decide) ?_
            exact law_end (D := D) hst hx hb hr hml hown hts hX hbl hlocks hS (Nat.le_of_ble_eq_true rfl) (Nat.le_of_ble_eq_true rfl) (lv_sub hl [7, 2] rfl)
          · exact absurd ((lg_cmp_eq _ _).mpr e1) c_10
      · exact absurd (by decide) c_8
    · exact absurd g1 g2
  · rcases hwM_6 with ⟨rfl, g2, rfl⟩ | ⟨rfl, g2⟩
    · exact absurd g2 g1
    · refine lv_istore (lv' := [(7, .int r_4), (6, .int 1), (5, .int 0), (4, .ref od), (3, .ref o), (2, .ref m2), (1, .ref x), (0, .ref b)]) hx hb dL_law__1491 hl (by decide) rfl (fun ls hl => ?_)
      refine lv_aload_n hx hb dL_law__1493 rfl (lv_at hl 5 rfl) ?_
      have hPc := hP.sub (ws' := [(m2, .inr (16, [.int 1, .ref ms, .ref sk, .int 0]))]) [5] rfl
      have hDc := hD.sub (ws' := [(m2, .inr (16, [.int 1, .ref ms, .ref sk, .int 0]))]) [5] (by decide) rfl
      have hKc := hK.sub (tys' := []) [] rfl
      refine va_calli (va_runV (As := []) (rest := []) ⟨hx, hb, hml, hown, hts⟩ (k_LM_thrown l D m2 1 ms (.ref sk) (.int 0) 0 .null H.size) (cwV 0 hts (gV q1174 q1175 q1176 q6 (gA q1177)) rfl rfl rfl (by decide +kernel) ⟨Nat.le_of_ble_eq_true rfl, Nat.le_of_ble_eq_true rfl⟩) ⟨EV.fb, va_recv hKc hPc (ci := 16) (q0 := 0) rfl rfl, fun U hU hW => ⟨rfl, EV.at hPc hKc hDc hG (hZ.no hS) U hU hW⟩⟩ rfl rfl hl.1 rfl (lv_room (Nat.le_of_ble_eq_true rfl)) dL_law__1494 ⟨Nat.le_of_ble_eq_true rfl, Nat.le_of_ble_eq_true rfl⟩) hS (fun q _ h => h.elim) (fun q h => h.elim) (fun r_11 u t H1 locs ht hvm hw hB hz1 hk1 hS => ?_)
      have hP := P_kept hP hk1
      generalize H1 = H at hP hS ⊢
      have hP : va_P D vwCl [(cs, .inr (4, [.int 0, .ref e0, .int 0])), (th, .inr (4, [.int 0, .ref e0, .int 0])), (ms, .inr (4, [.int 0, .ref e0, .int 0])), (od, .inl (cB, 1, .inr (.inr (.inr (.inl (fun _ => 0)))))), (o, .inl (cA, 1, .inr (.inl u_2))), (m2, .inr (16, [.int 1, .ref ms, .ref sk, .int 0]))] H := hP
      subst hw
      refine lv_iload hx hb dL_law__1497 (lv_at hl 1 rfl) ?_
      refine lv_icmp_eq (tgt := 1504) hx hb dL_law__1499 (by decide) (fun c_12 => ?_) (fun c_12 => ?_)
      · refine lv_iload hx hb dL_law__1504 (lv_at hl 1 rfl) ?_
        refine lv_if_ne (tgt := 1521) hx hb dL_law__1506 (by decide) (fun c_13 => ?_) (fun c_13 => ?_)
        · refine lv_goto (tgt := 2850) hx hb dL_law__1521 (by decide) ?_
          exact law_end (D := D) hst hx hb hr hml hown hts hX hbl hlocks hS (Nat.le_of_ble_eq_true rfl) (Nat.le_of_ble_eq_true rfl) (lv_sub hl [7, 2] rfl)
        · exact absurd c_13 (by decide)
      · exact absurd (by decide) c_12
set_option maxHeartbeats 8000000 in
set_option maxRecDepth 100000 in
/-- case 18: law -/
theorem law_18 {p : Program} {l : Launch} {e : Env} {s : State} {m : MethodId} {below : List Frame} {meth : Method} {c : Code} {D : va_G} {b : Nat} {xs : Nat → Int32} (hst : l.stackTraces = false) (hx : p.tables.exec = Jvm.exec) (hb : c.code = code) (hr : meth.sig.returnType = ret) (hml : c.maxLocals = 9) (hown : s.vm.findClass RL = some m.cls) (hts : ∀ w ∈ lw_all, w.before #[Value.ref b] s = true) (hX : va_X b 5 xs s s.heap) (hbl : b < s.heap.size) (hlocks : meth.locks = false) (hG : GE s) (hZ : ZZ (fun q : Nat => s.heap.size ≤ q) s s.heap) {e0 : Nat} (hZd : ZD e0 (fun q : Nat => s.heap.size ≤ q) s s.heap) (hZt : ZT e0 (fun q : Nat => s.heap.size ≤ q) s s.heap) (hAO : va_AO "java/lang/Object" s) {fq fv : Nat} (hSF : SF fq fv (fun q : Nat => s.heap.size ≤ q) s s.heap) (hvk : vk_R RX12 58 "fsn" fq s) {x cs th nw mi m2 ms sk o od : Nat} {cA cB : ClassId} {H : Heap} {locs : List Loc} (hK : va_K D vwCl [(cA, .long), (cB, .double)] s) (hP : va_P D vwCl [(x, .inr (11, [.ref cs, .ref th, .ref nw, .ref mi, .int 9999, .int 0, .int 0])), (cs, .inr (4, [.int 0, .ref e0, .int 0])), (th, .inr (4, [.int 0, .ref e0, .int 0])), (nw, .inr (10, [.int 10, .int 0, .int 0])), (m2, .inr (16, [.int 0, .ref ms, .ref sk, .int 0])), (ms, .inr (4, [.int 0, .ref e0, .int 0])), (sk, .inr (15, [.int 10, .int 0, .int 0, .int 9999, .int 0])), (o, .inl (cA, 1, .inr (.inl (fun _ => 0)))), (od, .inl (cB, 1, .inr (.inr (.inr (.inl (fun _ => 0))))))] H) (hD : va_D (fun q : Nat => s.heap.size ≤ q) [(x, .inr (11, [.ref cs, .ref th, .ref nw, .ref mi, .int 9999, .int 0, .int 0])), (cs, .inr (4, [.int 0, .ref e0, .int 0])), (th, .inr (4, [.int 0, .ref e0, .int 0])), (nw, .inr (10, [.int 10, .int 0, .int 0])), (m2, .inr (16, [.int 0, .ref ms, .ref sk, .int 0])), (ms, .inr (4, [.int 0, .ref e0, .int 0])), (sk, .inr (15, [.int 10, .int 0, .int 0, .int 9999, .int 0])), (o, .inl (cA, 1, .inr (.inl (fun _ => 0)))), (od, .inl (cB, 1, .inr (.inr (.inr (.inl (fun _ => 0))))))]) (hS : va_S (fun q : Nat => s.heap.size ≤ q) s.heap H locs) {ls : Array Slot} (hl : lv_has ls 9 [(5, .int 0), (4, .ref od), (3, .ref o), (2, .ref m2), (1, .ref x), (0, .ref b)]) : W p l e room_1 s m #[Value.ref b] below meth c H locs 10 70 (lw_Z below #[Value.ref b] s) (F0 m 1524 ls []) := by
  have hA : ∀ q : Nat, s.heap.size ≤ q → (fun q : Nat => s.heap.size ≤ q) q := fun _ h => h
  have hbA : ¬ (fun q : Nat => s.heap.size ≤ q) b := Nat.not_le.mpr hbl
  refine lv_aload_n hx hb dL_law__1524 rfl (lv_at hl 4 rfl) ?_
  refine lv_aload_n hx hb dL_law__1525 rfl (lv_at hl 5 rfl) ?_
  refine lv_iload hx hb dL_law__1526 (lv_at hl 0 rfl) ?_
  refine lv_iconst (v := 1) hx hb dL_law__1528 (by decide) ?_
  refine lv_iadd hx hb dL_law__1529 ?_
  refine va_sld hx hb hX hbl hbA hS (by unfold vp_in; decide) dL_law__1530 ?_
  refine lv_aload_n hx hb dL_law__1531 rfl (lv_at hl 5 rfl) ?_
  refine lv_iload hx hb dL_law__1532 (lv_at hl 0 rfl) ?_
  refine lv_iconst (v := 2) hx hb dL_law__1534 (by decide) ?_
  refine lv_iadd hx hb dL_law__1535 ?_
  refine va_sld hx hb hX hbl hbA hS (by unfold vp_in; decide) dL_law__1536 ?_
  refine lv_aload_n hx hb dL_law__1537 rfl (lv_at hl 2 rfl) ?_
  have hPc := hP.sub (ws' := [(x, .inr (11, [.ref cs, .ref th, .ref nw, .ref mi, .int 9999, .int 0, .int 0])), (o, .inl (cA, 1, .inr (.inl (fun _ => 0))))]) [0, 7] rfl
  have hDc := hD.sub (ws' := [(x, .inr (11, [.ref cs, .ref th, .ref nw, .ref mi, .int 9999, .int 0, .int 0])), (o, .inl (cA, 1, .inr (.inl (fun _ => 0))))]) [0, 7] (by decide) rfl
  have hKc := hK.sub (tys' := [(cA, .long)]) [0] rfl
  have hFc := va_free (wc := [(x, .inr (11, [.ref cs, .ref th, .ref nw, .ref mi, .int 9999, .int 0, .int 0])), (o, .inl (cA, 1, .inr (.inl (fun _ => 0))))]) hD hS hA [0, 7] rfl
  refine va_calli (vx_runSW (As := [.ref x, .int (xs (Int32.toNatClampNeg (0 + 1))), .int (xs (Int32.toNatClampNeg (0 + 2))), .ref o]) (rest := []) ⟨hx, hb, hml, hown, hts⟩ (k_LL_law l hst D x (.ref cs) (.ref th) (.ref nw) (.ref mi) (.int 0) 9999 0 (xs (Int32.toNatClampNeg (0 + 1))) (xs (Int32.toNatClampNeg (0 + 2))) o cA (fun _ => 0) H.size) (vx_cwSW 4 hts (gS q914 q915 q0 (gH q916)) rfl rfl rfl (by decide +kernel) ⟨Nat.le_of_ble_eq_true rfl, Nat.le_of_ble_eq_true rfl⟩) ⟨EV.fb, fun U hU hW => ⟨rfl, EV.at hPc hKc hDc hG (hZ.no hS) U hU hW⟩⟩ rfl rfl hl.1 rfl (lv_room (Nat.le_of_ble_eq_true rfl)) dL_law__1538 ⟨Nat.le_of_ble_eq_true rfl, Nat.le_of_ble_eq_true rfl⟩) hS (fun q _ h => hFc q h) hFc (fun r_1 u t H1 locs ht hvm hw hB hz1 hk1 hS => ?_)
  obtain ⟨u_2, e_u_2⟩ : ∃ z, z = u := ⟨_, rfl⟩
  subst e_u_2
  obtain ⟨hP1, hD1⟩ := hB
  rw [ht] at hP1
  obtain ⟨hP, hD⟩ := va_join (wr := [(cs, .inr (4, [.int 0, .ref e0, .int 0])), (th, .inr (4, [.int 0, .ref e0, .int 0])), (nw, .inr (10, [.int 10, .int 0, .int 0])), (m2, .inr (16, [.int 0, .ref ms, .ref sk, .int 0])), (ms, .inr (4, [.int 0, .ref e0, .int 0])), (sk, .inr (15, [.int 10, .int 0, .int 0, .int 9999, .int 0])), (od, .inl (cB, 1, .inr (.inr (.inr (.inl (fun _ => 0))))))]) (w1 := [(o, .inl (cA, 1, .inr (.inl u_2)))]) hP hD [0, 7] [1, 2, 3, 4, 5, 6, 8] rfl rfl (by decide) (by decide) hk1 hFc hP1 hD1
  generalize H1 = H at hP hS ⊢
  have hP : va_P D vwCl [(cs, .inr (4, [.int 0, .ref e0, .int 0])), (th, .inr (4, [.int 0, .ref e0, .int 0])), (nw, .inr (10, [.int 10, .int 0, .int 0])), (m2, .inr (16, [.int 0, .ref ms, .ref sk, .int 0])), (ms, .inr (4, [.int 0, .ref e0, .int 0])), (sk, .inr (15, [.int 10, .int 0, .int 0, .int 9999, .int 0])), (od, .inl (cB, 1, .inr (.inr (.inr (.inl (fun _ => 0)))))), (o, .inl (cA, 1, .inr (.inl u_2)))] H := hP
  have hD : va_D (fun q : Nat => s.heap.size ≤ q) [(cs, .inr (4, [.int 0, .ref e0, .int 0])), (th, .inr (4, [.int 0, .ref e0, .int 0])), (nw, .inr (10, [.int 10, .int 0, .int 0])), (m2, .inr (16, [.int 0, .ref ms, .ref sk, .int 0])), (ms, .inr (4, [.int 0, .ref e0, .int 0])), (sk, .inr (15, [.int 10, .int 0, .int 0, .int 9999, .int 0])), (od, .inl (cB, 1, .inr (.inr (.inr (.inl (fun _ => 0)))))), (o, .inl (cA, 1, .inr (.inl u_2)))] := hD
  have hwH_3 := hw
  refine lv_istore (lv' := [(6, .int r_1), (5, .int 0), (4, .ref od), (3, .ref o), (2, .ref m2), (1, .ref x), (0, .ref b)]) hx hb dL_law__1541 hl (by decide) rfl (fun ls hl => ?_)
  refine lv_aload_n hx hb dL_law__1543 rfl (lv_at hl 4 rfl) ?_
  refine lv_aload_n hx hb dL_law__1544 rfl (lv_at hl 6 rfl) ?_
  refine lv_iload hx hb dL_law__1545 (lv_at hl 1 rfl) ?_
  refine lv_iconst (v := 1) hx hb dL_law__1547 (by decide) ?_
  refine lv_iadd hx hb dL_law__1548 ?_
  refine va_sld hx hb hX hbl hbA hS (by unfold vp_in; decide) dL_law__1549 ?_
  refine lv_aload_n hx hb dL_law__1550 rfl (lv_at hl 6 rfl) ?_
  refine lv_iload hx hb dL_law__1551 (lv_at hl 1 rfl) ?_
  refine lv_iconst (v := 2) hx hb dL_law__1553 (by decide) ?_
  refine lv_iadd hx hb dL_law__1554 ?_
  refine va_sld hx hb hX hbl hbA hS (by unfold vp_in; decide) dL_law__1555 ?_
  have hPc := hP.sub (ws' := [(m2, .inr (16, [.int 0, .ref ms, .ref sk, .int 0])), (sk, .inr (15, [.int 10, .int 0, .int 0, .int 9999, .int 0]))]) [3, 5] rfl
  have hDc := hD.sub (ws' := [(m2, .inr (16, [.int 0, .ref ms, .ref sk, .int 0])), (sk, .inr (15, [.int 10, .int 0, .int 0, .int 9999, .int 0]))]) [3, 5] (by decide) rfl
  have hKc := hK.sub (tys' := []) [] rfl
  have hFc := va_free (wc := [(m2, .inr (16, [.int 0, .ref ms, .ref sk, .int 0])), (sk, .inr (15, [.int 10, .int 0, .int 0, .int 9999, .int 0]))]) hD hS hA [3, 5] rfl
  refine va_calli (va_runV (As := [.int (xs (Int32.toNatClampNeg (0 + 1))), .int (xs (Int32.toNatClampNeg (0 + 2)))]) (rest := []) ⟨hx, hb, hml, hown, hts⟩ (k_LM_law l D m2 0 (.ref ms) (.int 0) sk 10 0 0 9999 0 (xs (Int32.toNatClampNeg (0 + 1))) (xs (Int32.toNatClampNeg (0 + 2))) H.size) (cwV 2 hts (gV q1522 q1523 q1524 q6 (gA q1525)) rfl rfl rfl (by decide +kernel) ⟨Nat.le_of_ble_eq_true rfl, Nat.le_of_ble_eq_true rfl⟩) ⟨EV.fb, va_recv hKc hPc (ci := 16) (q0 := 0) rfl rfl, fun U hU hW => ⟨rfl, EV.at hPc hKc hDc hG (hZ.no hS) U hU hW⟩⟩ rfl rfl hl.1 rfl (lv_room (Nat.le_of_ble_eq_true rfl)) dL_law__1556 ⟨Nat.le_of_ble_eq_true rfl, Nat.le_of_ble_eq_true rfl⟩) hS (fun q _ h => hFc q h) hFc (fun r_4 u t H1 locs ht hvm hw hB hz1 hk1 hS => ?_)
  obtain ⟨u_5, e_u_5⟩ : ∃ z, z = u := ⟨_, rfl⟩
  subst e_u_5
  obtain ⟨hP1, hD1⟩ := hB
  rw [ht] at hP1
  obtain ⟨hP, hD⟩ := va_join (wr := [(cs, .inr (4, [.int 0, .ref e0, .int 0])), (th, .inr (4, [.int 0, .ref e0, .int 0])), (nw, .inr (10, [.int 10, .int 0, .int 0])), (ms, .inr (4, [.int 0, .ref e0, .int 0])), (od, .inl (cB, 1, .inr (.inr (.inr (.inl (fun _ => 0)))))), (o, .inl (cA, 1, .inr (.inl u_2)))]) (w1 := [(m2, .inr (16, [.int u_5, .ref ms, .ref sk, .int 0]))]) hP hD [3, 5] [0, 1, 2, 4, 6, 7] rfl rfl (by decide) (by decide) hk1 hFc hP1 hD1
  generalize H1 = H at hP hS ⊢
  have hP : va_P D vwCl [(cs, .inr (4, [.int 0, .ref e0, .int 0])), (th, .inr (4, [.int 0, .ref e0, .int 0])), (nw, .inr (10, [.int 10, .int 0, .int 0])), (ms, .inr (4, [.int 0, .ref e0, .int 0])), (od, .inl (cB, 1, .inr (.inr (.inr (.inl (fun _ => 0)))))), (o, .inl (cA, 1, .inr (.inl u_2))), (m2, .inr (16, [.int u_5, .ref ms, .ref sk, .int 0]))] H := hP
  have hD : va_D (fun q : Nat => s.heap.size ≤ q) [(cs, .inr (4, [.int 0, .ref e0, .int 0])), (th, .inr (4, [.int 0, .ref e0, .int 0])), (nw, .inr (10, [.int 10, .int 0, .int 0])), (ms, .inr (4, [.int 0, .ref e0, .int 0])), (od, .inl (cB, 1, .inr (.inr (.inr (.inl (fun _ => 0)))))), (o, .inl (cA, 1, .inr (.inl u_2))), (m2, .inr (16, [.int u_5, .ref ms, .ref sk, .int 0]))] := hD
  try dsimp only at hw
  have hwM_6 := hw
  rcases hwH_3 with ⟨rfl, g1, e1⟩ | ⟨rfl, g1⟩
  · rcases hwM_6 with ⟨rfl, g2, rfl⟩ | ⟨rfl, g2⟩
    · refine lv_istore (lv' := [(7, .int 9999), (6, .int 0), (5, .int 0), (4, .ref od), (3, .ref o), (2, .ref m2), (1, .ref x), (0, .ref b)]) hx hb dL_law__1559 hl (by decide) rfl (fun ls hl => ?_)
      refine lv_aload_n hx hb dL_law__1561 rfl (lv_at hl 5 rfl) ?_
      have hPc := hP.sub (ws' := [(m2, .inr (16, [.int 0, .ref ms, .ref sk, .int 0]))]) [6] rfl
      have hDc := hD.sub (ws' := [(m2, .inr (16, [.int 0, .ref ms, .ref sk, .int 0]))]) [6] (by decide) rfl
      have hKc := hK.sub (tys' := []) [] rfl
      refine va_calli (va_runV (As := []) (rest := []) ⟨hx, hb, hml, hown, hts⟩ (k_LM_thrown l D m2 0 ms (.ref sk) (.int 0) 0 .null H.size) (cwV 0 hts (gV q1174 q1175 q1176 q6 (gA q1177)) rfl rfl rfl (by decide +kernel) ⟨Nat.le_of_ble_eq_true rfl, Nat.le_of_ble_eq_true rfl⟩) ⟨EV.fb, va_recv hKc hPc (ci := 16) (q0 := 0) rfl rfl, fun U hU hW => ⟨rfl, EV.at hPc hKc hDc hG (hZ.no hS) U hU hW⟩⟩ rfl rfl hl.1 rfl (lv_room (Nat.le_of_ble_eq_true rfl)) dL_law__1562 ⟨Nat.le_of_ble_eq_true rfl, Nat.le_of_ble_eq_true rfl⟩) hS (fun q _ h => h.elim) (fun q h => h.elim) (fun r_7 u t H1 locs ht hvm hw hB hz1 hk1 hS => ?_)
      have hP := P_kept hP hk1
      generalize H1 = H at hP hS ⊢
      have hP : va_P D vwCl [(cs, .inr (4, [.int 0, .ref e0, .int 0])), (th, .inr (4, [.int 0, .ref e0, .int 0])), (nw, .inr (10, [.int 10, .int 0, .int 0])), (ms, .inr (4, [.int 0, .ref e0, .int 0])), (od, .inl (cB, 1, .inr (.inr (.inr (.inl (fun _ => 0)))))), (o, .inl (cA, 1, .inr (.inl u_2))), (m2, .inr (16, [.int 0, .ref ms, .ref sk, .int 0]))] H := hP
      subst hw
      refine lv_iload hx hb dL_law__1565 (lv_at hl 1 rfl) ?_
      refine lv_icmp_eq (tgt := 1572) hx hb dL_law__1567 (by decide) (fun c_8 => ?_) (fun c_8 => ?_)
      · refine lv_iload hx hb dL_law__1572 (lv_at hl 1 rfl) ?_
        refine lv_if_ne (tgt := 1589) hx hb dL_law__1574 (by decide) (fun c_9 => ?_) (fun c_9 => ?_)
        · exact absurd rfl c_9
        · refine lv_aload_n hx hb dL_law__1577 rfl (lv_at hl 4 rfl) ?_
          refine lv_iconst (v := 0) hx hb dL_law__1578 (by decide) ?_
          refine va_lald hx hb hK hP 5 0 rfl rfl (by unfold vp_in; decide) dL_law__1579 ?_
          refine lv_iload hx hb dL_law__1580 (lv_at hl 0 rfl) ?_
          refine lv_i2l hx hb dL_law__1582 rfl ?_
          refine W.lcmp hx hb dL_law__1583 ?_
          refine lv_if_eq (tgt := 1589) hx hb dL_law__1584 (by decide) (fun c_10 => ?_) (fun c_10 => ?_)
          · refine lv_goto (tgt := 2850) hx hb dL_law__1589 (by decide) ?_
            exact law_end (D := D) hst hx hb hr hml hown hts hX hbl hlocks hS (Nat.le_of_ble_eq_true rfl) (Nat.le_of_ble_eq_true rfl) (lv_sub hl [7, 2] rfl)
          · exact absurd ((lg_cmp_eq _ _).mpr e1) c_10
      · exact absurd (by decide) c_8
    · exact absurd g1 g2
  · rcases hwM_6 with ⟨rfl, g2, rfl⟩ | ⟨rfl, g2⟩
    · exact absurd g2 g1
    · refine lv_istore (lv' := [(7, .int r_4), (6, .int 1), (5, .int 0), (4, .ref od), (3, .ref o), (2, .ref m2), (1, .ref x), (0, .ref b)]) hx hb dL_law__1559 hl (by decide) rfl (fun ls hl => ?_)
      refine lv_aload_n hx hb dL_law__1561 rfl (lv_at hl 5 rfl) ?_
      have hPc := hP.sub (ws' := [(m2, .inr (16, [.int 1, .ref ms, .ref sk, .int 0]))]) [6] rfl
      have hDc := hD.sub (ws' := [(m2, .inr (16, [.int 1, .ref ms, .ref sk, .int 0]))]) [6] (by decide) rfl
      have hKc := hK.sub (tys' := []) [] rfl
      refine va_calli (va_runV (As := []) (rest := []) ⟨hx, hb, hml, hown, hts⟩ (k_LM_thrown l D m2 1 ms (.ref sk) (.int 0) 0 .null H.size) (cwV 0 hts (gV q1174 q1175 q1176 q6 (gA q1177)) rfl rfl rfl (by decide +kernel) ⟨Nat.le_of_ble_eq_true rfl, Nat.le_of_ble_eq_true rfl⟩) ⟨EV.fb, va_recv hKc hPc (ci := 16) (q0 := 0) rfl rfl, fun U hU hW => ⟨rfl, EV.at hPc hKc hDc hG (hZ.no hS) U hU hW⟩⟩ rfl rfl hl.1 rfl (lv_room (Nat.le_of_ble_eq_true rfl)) dL_law__1562 ⟨Nat.le_of_ble_eq_true rfl, Nat.le_of_ble_eq_true rfl⟩) hS (fun q _ h => h.elim) (fun q h => h.elim) (fun r_11 u t H1 locs ht hvm hw hB hz1 hk1 hS => ?_)
      have hP := P_kept hP hk1
      generalize H1 = H at hP hS ⊢
      have hP : va_P D vwCl [(cs, .inr (4, [.int 0, .ref e0, .int 0])), (th, .inr (4, [.int 0, .ref e0, .int 0])), (nw, .inr (10, [.int 10, .int 0, .int 0])), (ms, .inr (4, [.int 0, .ref e0, .int 0])), (od, .inl (cB, 1, .inr (.inr (.inr (.inl (fun _ => 0)))))), (o, .inl (cA, 1, .inr (.inl u_2))), (m2, .inr (16, [.int 1, .ref ms, .ref sk, .int 0]))] H := hP
      subst hw
      refine lv_iload hx hb dL_law__1565 (lv_at hl 1 rfl) ?_
      refine lv_icmp_eq (tgt := 1572) hx hb dL_law__1567 (by decide) (fun c_12 => ?_) (fun c_12 => ?_)
      · refine lv_iload hx hb dL_law__1572 (lv_at hl 1 rfl) ?_
        refine lv_if_ne (tgt := 1589) hx hb dL_law__1574 (by decide) (fun c_13 => ?_) (fun c_13 => ?_)
        · refine lv_goto (tgt := 2850) hx hb dL_law__1589 (by decide) ?_
          exact law_end (D := D) hst hx hb hr hml hown hts hX hbl hlocks hS (Nat.le_of_ble_eq_true rfl) (Nat.le_of_ble_eq_true rfl) (lv_sub hl [7, 2] rfl)
        · exact absurd c_13 (by decide)
      · exact absurd (by decide) c_12
set_option maxHeartbeats 8000000 in
set_option maxRecDepth 100000 in
/-- case 19: hours -/
theorem law_19 {p : Program} {l : Launch} {e : Env} {s : State} {m : MethodId} {below : List Frame} {meth : Method} {c : Code} {D : va_G} {b : Nat} {xs : Nat → Int32} (hst : l.stackTraces = false) (hx : p.tables.exec = Jvm.exec) (hb : c.code = code) (hr : meth.sig.returnType = ret) (hml : c.maxLocals = 9) (hown : s.vm.findClass RL = some m.cls) (hts : ∀ w ∈ lw_all, w.before #[Value.ref b] s = true) (hX : va_X b 5 xs s s.heap) (hbl : b < s.heap.size) (hlocks : meth.locks = false) (hG : GE s) (hZ : ZZ (fun q : Nat => s.heap.size ≤ q) s s.heap) {e0 : Nat} (hZd : ZD e0 (fun q : Nat => s.heap.size ≤ q) s s.heap) (hZt : ZT e0 (fun q : Nat => s.heap.size ≤ q) s s.heap) (hAO : va_AO "java/lang/Object" s) {fq fv : Nat} (hSF : SF fq fv (fun q : Nat => s.heap.size ≤ q) s s.heap) (hvk : vk_R RX12 58 "fsn" fq s) {x cs th nw mi m2 ms sk o od : Nat} {cA cB : ClassId} {H : Heap} {locs : List Loc} (hK : va_K D vwCl [(cA, .long), (cB, .double)] s) (hP : va_P D vwCl [(x, .inr (11, [.ref cs, .ref th, .ref nw, .ref mi, .int 9999, .int 0, .int 0])), (cs, .inr (4, [.int 0, .ref e0, .int 0])), (th, .inr (4, [.int 0, .ref e0, .int 0])), (nw, .inr (10, [.int 10, .int 0, .int 0])), (m2, .inr (16, [.int 0, .ref ms, .ref sk, .int 0])), (ms, .inr (4, [.int 0, .ref e0, .int 0])), (sk, .inr (15, [.int 10, .int 0, .int 0, .int 9999, .int 0])), (o, .inl (cA, 1, .inr (.inl (fun _ => 0)))), (od, .inl (cB, 1, .inr (.inr (.inr (.inl (fun _ => 0))))))] H) (hD : va_D (fun q : Nat => s.heap.size ≤ q) [(x, .inr (11, [.ref cs, .ref th, .ref nw, .ref mi, .int 9999, .int 0, .int 0])), (cs, .inr (4, [.int 0, .ref e0, .int 0])), (th, .inr (4, [.int 0, .ref e0, .int 0])), (nw, .inr (10, [.int 10, .int 0, .int 0])), (m2, .inr (16, [.int 0, .ref ms, .ref sk, .int 0])), (ms, .inr (4, [.int 0, .ref e0, .int 0])), (sk, .inr (15, [.int 10, .int 0, .int 0, .int 9999, .int 0])), (o, .inl (cA, 1, .inr (.inl (fun _ => 0)))), (od, .inl (cB, 1, .inr (.inr (.inr (.inl (fun _ => 0))))))]) (hS : va_S (fun q : Nat => s.heap.size ≤ q) s.heap H locs) {ls : Array Slot} (hl : lv_has ls 9 [(5, .int 0), (4, .ref od), (3, .ref o), (2, .ref m2), (1, .ref x), (0, .ref b)]) : W p l e room_1 s m #[Value.ref b] below meth c H locs 10 70 (lw_Z below #[Value.ref b] s) (F0 m 1592 ls []) := by
  have hA : ∀ q : Nat, s.heap.size ≤ q → (fun q : Nat => s.heap.size ≤ q) q := fun _ h => h
  have hbA : ¬ (fun q : Nat => s.heap.size ≤ q) b := Nat.not_le.mpr hbl
  refine lv_aload_n hx hb dL_law__1592 rfl (lv_at hl 4 rfl) ?_
  refine lv_aload_n hx hb dL_law__1593 rfl (lv_at hl 5 rfl) ?_
  refine lv_iload hx hb dL_law__1594 (lv_at hl 0 rfl) ?_
  refine lv_iconst (v := 1) hx hb dL_law__1596 (by decide) ?_
  refine lv_iadd hx hb dL_law__1597 ?_
  refine va_sld hx hb hX hbl hbA hS (by unfold vp_in; decide) dL_law__1598 ?_
  refine lv_aload_n hx hb dL_law__1599 rfl (lv_at hl 2 rfl) ?_
  have hPc := hP.sub (ws' := [(x, .inr (11, [.ref cs, .ref th, .ref nw, .ref mi, .int 9999, .int 0, .int 0])), (cs, .inr (4, [.int 0, .ref e0, .int 0])), (o, .inl (cA, 1, .inr (.inl (fun _ => 0))))]) [0, 1, 7] rfl
  have hDc := hD.sub (ws' := [(x, .inr (11, [.ref cs, .ref th, .ref nw, .ref mi, .int 9999, .int 0, .int 0])), (cs, .inr (4, [.int 0, .ref e0, .int 0])), (o, .inl (cA, 1, .inr (.inl (fun _ => 0))))]) [0, 1, 7] (by decide) rfl
  have hKc := hK.sub (tys' := [(cA, .long)]) [0] rfl
  have hFc := va_free (wc := [(x, .inr (11, [.ref cs, .ref th, .ref nw, .ref mi, .int 9999, .int 0, .int 0])), (cs, .inr (4, [.int 0, .ref e0, .int 0])), (o, .inl (cA, 1, .inr (.inl (fun _ => 0))))]) hD hS hA [0, 1, 7] rfl
  refine va_calli (vx_runSW (As := [.ref x, .int (xs (Int32.toNatClampNeg (0 + 1))), .ref o]) (rest := []) ⟨hx, hb, hml, hown, hts⟩ (k_LL_hours l hst D x cs (.ref th) (.ref nw) (.ref mi) (.int 9999) (.int 0) 0 (.ref e0) (xs (Int32.toNatClampNeg (0 + 1))) o cA (fun _ => 0) H.size) (vx_cwSW 3 hts (gS q921 q922 q0 (gH q923)) rfl rfl rfl (by decide +kernel) ⟨Nat.le_of_ble_eq_true rfl, Nat.le_of_ble_eq_true rfl⟩) ⟨EV.fb, fun U hU hW => ⟨rfl, EV.at hPc hKc hDc hG (hZ.no hS) U hU hW⟩⟩ rfl rfl hl.1 rfl (lv_room (Nat.le_of_ble_eq_true rfl)) dL_law__1600 ⟨Nat.le_of_ble_eq_true rfl, Nat.le_of_ble_eq_true rfl⟩) hS (fun q _ h => hFc q h) hFc (fun r_1 u t H1 locs ht hvm hw hB hz1 hk1 hS => ?_)
  obtain ⟨u_2, e_u_2⟩ : ∃ z, z = u := ⟨_, rfl⟩
  subst e_u_2
  obtain ⟨hP1, hD1⟩ := hB
  rw [ht] at hP1
  obtain ⟨hP, hD⟩ := va_join (wr := [(th, .inr (4, [.int 0, .ref e0, .int 0])), (nw, .inr (10, [.int 10, .int 0, .int 0])), (m2, .inr (16, [.int 0, .ref ms, .ref sk, .int 0])), (ms, .inr (4, [.int 0, .ref e0, .int 0])), (sk, .inr (15, [.int 10, .int 0, .int 0, .int 9999, .int 0])), (od, .inl (cB, 1, .inr (.inr (.inr (.inl (fun _ => 0))))))]) (w1 := [(o, .inl (cA, 1, .inr (.inl u_2)))]) hP hD [0, 1, 7] [2, 3, 4, 5, 6, 8] rfl rfl (by decide) (by decide) hk1 hFc hP1 hD1
  generalize H1 = H at hP hS ⊢
  have hP : va_P D vwCl [(th, .inr (4, [.int 0, .ref e0, .int 0])), (nw, .inr (10, [.int 10, .int 0, .int 0])), (m2, .inr (16, [.int 0, .ref ms, .ref sk, .int 0])), (ms, .inr (4, [.int 0, .ref e0, .int 0])), (sk, .inr (15, [.int 10, .int 0, .int 0, .int 9999, .int 0])), (od, .inl (cB, 1, .inr (.inr (.inr (.inl (fun _ => 0)))))), (o, .inl (cA, 1, .inr (.inl u_2)))] H := hP
  have hD : va_D (fun q : Nat => s.heap.size ≤ q) [(th, .inr (4, [.int 0, .ref e0, .int 0])), (nw, .inr (10, [.int 10, .int 0, .int 0])), (m2, .inr (16, [.int 0, .ref ms, .ref sk, .int 0])), (ms, .inr (4, [.int 0, .ref e0, .int 0])), (sk, .inr (15, [.int 10, .int 0, .int 0, .int 9999, .int 0])), (od, .inl (cB, 1, .inr (.inr (.inr (.inl (fun _ => 0)))))), (o, .inl (cA, 1, .inr (.inl u_2)))] := hD
  have hwH_3 := hw
  refine lv_istore (lv' := [(6, .int r_1), (5, .int 0), (4, .ref od), (3, .ref o), (2, .ref m2), (1, .ref x), (0, .ref b)]) hx hb dL_law__1603 hl (by decide) rfl (fun ls hl => ?_)
  refine lv_aload_n hx hb dL_law__1605 rfl (lv_at hl 4 rfl) ?_
  refine lv_aload_n hx hb dL_law__1606 rfl (lv_at hl 6 rfl) ?_
  refine lv_iload hx hb dL_law__1607 (lv_at hl 1 rfl) ?_
  refine lv_iconst (v := 1) hx hb dL_law__1609 (by decide) ?_
  refine lv_iadd hx hb dL_law__1610 ?_
  refine va_sld hx hb hX hbl hbA hS (by unfold vp_in; decide) dL_law__1611 ?_
  have hPc := hP.sub (ws' := [(m2, .inr (16, [.int 0, .ref ms, .ref sk, .int 0])), (ms, .inr (4, [.int 0, .ref e0, .int 0]))]) [2, 3] rfl
  have hDc := hD.sub (ws' := [(m2, .inr (16, [.int 0, .ref ms, .ref sk, .int 0])), (ms, .inr (4, [.int 0, .ref e0, .int 0]))]) [2, 3] (by decide) rfl
  have hKc := hK.sub (tys' := []) [] rfl
  have hFc := va_free (wc := [(m2, .inr (16, [.int 0, .ref ms, .ref sk, .int 0])), (ms, .inr (4, [.int 0, .ref e0, .int 0]))]) hD hS hA [2, 3] rfl
  refine va_calli (va_runV (As := [.int (xs (Int32.toNatClampNeg (0 + 1)))]) (rest := []) ⟨hx, hb, hml, hown, hts⟩ (k_LM_hours l D m2 0 ms (.ref sk) 0 (.ref e0) (xs (Int32.toNatClampNeg (0 + 1))) H.size) (cwV 1 hts (gV q1526 q1527 q1528 q6 (gA q1529)) rfl rfl rfl (by decide +kernel) ⟨Nat.le_of_ble_eq_true rfl, Nat.le_of_ble_eq_true rfl⟩) ⟨EV.fb, va_recv hKc hPc (ci := 16) (q0 := 0) rfl rfl, fun U hU hW => ⟨rfl, EV.at hPc hKc hDc hG (hZ.no hS) U hU hW⟩⟩ rfl rfl hl.1 rfl (lv_room (Nat.le_of_ble_eq_true rfl)) dL_law__1612 ⟨Nat.le_of_ble_eq_true rfl, Nat.le_of_ble_eq_true rfl⟩) hS (fun q _ h => hFc q h) hFc (fun r_4 u t H1 locs ht hvm hw hB hz1 hk1 hS => ?_)
  obtain ⟨u_5, u_5v⟩ := u
  obtain ⟨hP1, hD1⟩ := hB
  rw [ht] at hP1
  obtain ⟨hP, hD⟩ := va_join (wr := [(th, .inr (4, [.int 0, .ref e0, .int 0])), (nw, .inr (10, [.int 10, .int 0, .int 0])), (sk, .inr (15, [.int 10, .int 0, .int 0, .int 9999, .int 0])), (od, .inl (cB, 1, .inr (.inr (.inr (.inl (fun _ => 0)))))), (o, .inl (cA, 1, .inr (.inl u_2)))]) (w1 := [(m2, .inr (16, [.int u_5, .ref ms, .ref sk, .int u_5v]))]) hP hD [2, 3] [0, 1, 4, 5, 6] rfl rfl (by decide) (by decide) hk1 hFc hP1 hD1
  generalize H1 = H at hP hS ⊢
  have hP : va_P D vwCl [(th, .inr (4, [.int 0, .ref e0, .int 0])), (nw, .inr (10, [.int 10, .int 0, .int 0])), (sk, .inr (15, [.int 10, .int 0, .int 0, .int 9999, .int 0])), (od, .inl (cB, 1, .inr (.inr (.inr (.inl (fun _ => 0)))))), (o, .inl (cA, 1, .inr (.inl u_2))), (m2, .inr (16, [.int u_5, .ref ms, .ref sk, .int u_5v]))] H := hP
  have hD : va_D (fun q : Nat => s.heap.size ≤ q) [(th, .inr (4, [.int 0, .ref e0, .int 0])), (nw, .inr (10, [.int 10, .int 0, .int 0])), (sk, .inr (15, [.int 10, .int 0, .int 0, .int 9999, .int 0])), (od, .inl (cB, 1, .inr (.inr (.inr (.inl (fun _ => 0)))))), (o, .inl (cA, 1, .inr (.inl u_2))), (m2, .inr (16, [.int u_5, .ref ms, .ref sk, .int u_5v]))] := hD
  try dsimp only at hw
  have hwM_6 := hw
  rcases hwH_3 with ⟨rfl, g1, e1⟩ | ⟨rfl, g1⟩
  · rcases hwM_6 with ⟨rfl, g2, rfl⟩ | ⟨rfl, g2⟩
    · refine lv_istore (lv' := [(7, .int (xs (Int32.toNatClampNeg (0 + 1)))), (6, .int 0), (5, .int 0), (4, .ref od), (3, .ref o), (2, .ref m2), (1, .ref x), (0, .ref b)]) hx hb dL_law__1615 hl (by decide) rfl (fun ls hl => ?_)
      refine lv_aload_n hx hb dL_law__1617 rfl (lv_at hl 5 rfl) ?_
      have hPc := hP.sub (ws' := [(m2, .inr (16, [.int 0, .ref ms, .ref sk, .int u_5v]))]) [5] rfl
      have hDc := hD.sub (ws' := [(m2, .inr (16, [.int 0, .ref ms, .ref sk, .int u_5v]))]) [5] (by decide) rfl
      have hKc := hK.sub (tys' := []) [] rfl
      refine va_calli (va_runV (As := []) (rest := []) ⟨hx, hb, hml, hown, hts⟩ (k_LM_thrown l D m2 0 ms (.ref sk) (.int u_5v) 0 .null H.size) (cwV 0 hts (gV q1174 q1175 q1176 q6 (gA q1177)) rfl rfl rfl (by decide +kernel) ⟨Nat.le_of_ble_eq_true rfl, Nat.le_of_ble_eq_true rfl⟩) ⟨EV.fb, va_recv hKc hPc (ci := 16) (q0 := 0) rfl rfl, fun U hU hW => ⟨rfl, EV.at hPc hKc hDc hG (hZ.no hS) U hU hW⟩⟩ rfl rfl hl.1 rfl (lv_room (Nat.le_of_ble_eq_true rfl)) dL_law__1618 ⟨Nat.le_of_ble_eq_true rfl, Nat.le_of_ble_eq_true rfl⟩) hS (fun q _ h => h.elim) (fun q h => h.elim) (fun r_7 u t H1 locs ht hvm hw hB hz1 hk1 hS => ?_)
      have hP := P_kept hP hk1
      generalize H1 = H at hP hS ⊢
      have hP : va_P D vwCl [(th, .inr (4, [.int 0, .ref e0, .int 0])), (nw, .inr (10, [.int 10, .int 0, .int 0])), (sk, .inr (15, [.int 10, .int 0, .int 0, .int 9999, .int 0])), (od, .inl (cB, 1, .inr (.inr (.inr (.inl (fun _ => 0)))))), (o, .inl (cA, 1, .inr (.inl u_2))), (m2, .inr (16, [.int 0, .ref ms, .ref sk, .int u_5v]))] H := hP
      subst hw
      refine lv_iload hx hb dL_law__1621 (lv_at hl 1 rfl) ?_
      refine lv_icmp_eq (tgt := 1628) hx hb dL_law__1623 (by decide) (fun c_8 => ?_) (fun c_8 => ?_)
      · refine lv_iload hx hb dL_law__1628 (lv_at hl 1 rfl) ?_
        refine lv_if_ne (tgt := 1645) hx hb dL_law__1630 (by decide) (fun c_9 => ?_) (fun c_9 => ?_)
        · exact absurd rfl c_9
        · refine lv_aload_n hx hb dL_law__1633 rfl (lv_at hl 4 rfl) ?_
          refine lv_iconst (v := 0) hx hb dL_law__1634 (by decide) ?_
          refine va_lald hx hb hK hP 4 0 rfl rfl (by unfold vp_in; decide) dL_law__1635 ?_
          refine lv_iload hx hb dL_law__1636 (lv_at hl 0 rfl) ?_
          refine lv_i2l hx hb dL_law__1638 rfl ?_
          refine W.lcmp hx hb dL_law__1639 ?_
          refine lv_if_eq (tgt := 1645) hx hb dL_law__1640 (by decide) (fun c_10 => ?_) (fun c_10 => ?_)
          · refine lv_goto (tgt := 2850) hx hb dL_law__1645 (by decide) ?_
            exact law_end (D := D) hst hx hb hr hml hown hts hX hbl hlocks hS (Nat.le_of_ble_eq_true rfl) (Nat.le_of_ble_eq_true rfl) (lv_sub hl [7, 2] rfl)
          · exact absurd ((lg_cmp_eq _ _).mpr e1) c_10
      · exact absurd (by decide) c_8
    · exact absurd g1 g2
  · rcases hwM_6 with ⟨rfl, g2, rfl⟩ | ⟨rfl, g2⟩
    · exact absurd g2 g1
    · refine lv_istore (lv' := [(7, .int r_4), (6, .int 1), (5, .int 0), (4, .ref od), (3, .ref o), (2, .ref m2), (1, .ref x), (0, .ref b)]) hx hb dL_law__1615 hl (by decide) rfl (fun ls hl => ?_)
      refine lv_aload_n hx hb dL_law__1617 rfl (lv_at hl 5 rfl) ?_
      have hPc := hP.sub (ws' := [(m2, .inr (16, [.int 1, .ref ms, .ref sk, .int u_5v]))]) [5] rfl
      have hDc := hD.sub (ws' := [(m2, .inr (16, [.int 1, .ref ms, .ref sk, .int u_5v]))]) [5] (by decide) rfl
      have hKc := hK.sub (tys' := []) [] rfl
      refine va_calli (va_runV (As := []) (rest := []) ⟨hx, hb, hml, hown, hts⟩ (k_LM_thrown l D m2 1 ms (.ref sk) (.int u_5v) 0 .null H.size) (cwV 0 hts (gV q1174 q1175 q1176 q6 (gA q1177)) rfl rfl rfl (by decide +kernel) ⟨Nat.le_of_ble_eq_true rfl, Nat.le_of_ble_eq_true rfl⟩) ⟨EV.fb, va_recv hKc hPc (ci := 16) (q0 := 0) rfl rfl, fun U hU hW => ⟨rfl, EV.at hPc hKc hDc hG (hZ.no hS) U hU hW⟩⟩ rfl rfl hl.1 rfl (lv_room (Nat.le_of_ble_eq_true rfl)) dL_law__1618 ⟨Nat.le_of_ble_eq_true rfl, Nat.le_of_ble_eq_true rfl⟩) hS (fun q _ h => h.elim) (fun q h => h.elim) (fun r_11 u t H1 locs ht hvm hw hB hz1 hk1 hS => ?_)
      have hP := P_kept hP hk1
      generalize H1 = H at hP hS ⊢
      have hP : va_P D vwCl [(th, .inr (4, [.int 0, .ref e0, .int 0])), (nw, .inr (10, [.int 10, .int 0, .int 0])), (sk, .inr (15, [.int 10, .int 0, .int 0, .int 9999, .int 0])), (od, .inl (cB, 1, .inr (.inr (.inr (.inl (fun _ => 0)))))), (o, .inl (cA, 1, .inr (.inl u_2))), (m2, .inr (16, [.int 1, .ref ms, .ref sk, .int u_5v]))] H := hP
      subst hw
      refine lv_iload hx hb dL_law__1621 (lv_at hl 1 rfl) ?_
      refine lv_icmp_eq (tgt := 1628) hx hb dL_law__1623 (by decide) (fun c_12 => ?_) (fun c_12 => ?_)
      · refine lv_iload hx hb dL_law__1628 (lv_at hl 1 rfl) ?_
        refine lv_if_ne (tgt := 1645) hx hb dL_law__1630 (by decide) (fun c_13 => ?_) (fun c_13 => ?_)
        · refine lv_goto (tgt := 2850) hx hb dL_law__1645 (by decide) ?_
          exact law_end (D := D) hst hx hb hr hml hown hts hX hbl hlocks hS (Nat.le_of_ble_eq_true rfl) (Nat.le_of_ble_eq_true rfl) (lv_sub hl [7, 2] rfl)
        · exact absurd c_13 (by decide)
      · exact absurd (by decide) c_12
set_option maxHeartbeats 8000000 in
set_option maxRecDepth 100000 in
/-- case 20: standing -/
theorem law_20 {p : Program} {l : Launch} {e : Env} {s : State} {m : MethodId} {below : List Frame} {meth : Method} {c : Code} {D : va_G} {b : Nat} {xs : Nat → Int32} (hst : l.stackTraces = false) (hx : p.tables.exec = Jvm.exec) (hb : c.code = code) (hr : meth.sig.returnType = ret) (hml : c.maxLocals = 9) (hown : s.vm.findClass RL = some m.cls) (hts : ∀ w ∈ lw_all, w.before #[Value.ref b] s = true) (hX : va_X b 5 xs s s.heap) (hbl : b < s.heap.size) (hlocks : meth.locks = false) (hG : GE s) (hZ : ZZ (fun q : Nat => s.heap.size ≤ q) s s.heap) {e0 : Nat} (hZd : ZD e0 (fun q : Nat => s.heap.size ≤ q) s s.heap) (hZt : ZT e0 (fun q : Nat => s.heap.size ≤ q) s s.heap) (hAO : va_AO "java/lang/Object" s) {fq fv : Nat} (hSF : SF fq fv (fun q : Nat => s.heap.size ≤ q) s s.heap) (hvk : vk_R RX12 58 "fsn" fq s) {x cs th nw mi m2 ms sk o od : Nat} {cA cB : ClassId} {H : Heap} {locs : List Loc} (hK : va_K D vwCl [(cA, .long), (cB, .double)] s) (hP : va_P D vwCl [(x, .inr (11, [.ref cs, .ref th, .ref nw, .ref mi, .int 9999, .int 0, .int 0])), (cs, .inr (4, [.int 0, .ref e0, .int 0])), (th, .inr (4, [.int 0, .ref e0, .int 0])), (nw, .inr (10, [.int 10, .int 0, .int 0])), (m2, .inr (16, [.int 0, .ref ms, .ref sk, .int 0])), (ms, .inr (4, [.int 0, .ref e0, .int 0])), (sk, .inr (15, [.int 10, .int 0, .int 0, .int 9999, .int 0])), (o, .inl (cA, 1, .inr (.inl (fun _ => 0)))), (od, .inl (cB, 1, .inr (.inr (.inr (.inl (fun _ => 0))))))] H) (hD : va_D (fun q : Nat => s.heap.size ≤ q) [(x, .inr (11, [.ref cs, .ref th, .ref nw, .ref mi, .int 9999, .int 0, .int 0])), (cs, .inr (4, [.int 0, .ref e0, .int 0])), (th, .inr (4, [.int 0, .ref e0, .int 0])), (nw, .inr (10, [.int 10, .int 0, .int 0])), (m2, .inr (16, [.int 0, .ref ms, .ref sk, .int 0])), (ms, .inr (4, [.int 0, .ref e0, .int 0])), (sk, .inr (15, [.int 10, .int 0, .int 0, .int 9999, .int 0])), (o, .inl (cA, 1, .inr (.inl (fun _ => 0)))), (od, .inl (cB, 1, .inr (.inr (.inr (.inl (fun _ => 0))))))]) (hS : va_S (fun q : Nat => s.heap.size ≤ q) s.heap H locs) {ls : Array Slot} (hl : lv_has ls 9 [(5, .int 0), (4, .ref od), (3, .ref o), (2, .ref m2), (1, .ref x), (0, .ref b)]) : W p l e room_1 s m #[Value.ref b] below meth c H locs 10 70 (lw_Z below #[Value.ref b] s) (F0 m 1648 ls []) := by
  have hA : ∀ q : Nat, s.heap.size ≤ q → (fun q : Nat => s.heap.size ≤ q) q := fun _ h => h
  have hbA : ¬ (fun q : Nat => s.heap.size ≤ q) b := Nat.not_le.mpr hbl
  refine lv_aload_n hx hb dL_law__1648 rfl (lv_at hl 4 rfl) ?_
  refine lv_aload_n hx hb dL_law__1649 rfl (lv_at hl 5 rfl) ?_
  refine lv_iload hx hb dL_law__1650 (lv_at hl 0 rfl) ?_
  refine lv_iconst (v := 1) hx hb dL_law__1652 (by decide) ?_
  refine lv_iadd hx hb dL_law__1653 ?_
  refine va_sld hx hb hX hbl hbA hS (by unfold vp_in; decide) dL_law__1654 ?_
  refine lv_aload_n hx hb dL_law__1655 rfl (lv_at hl 2 rfl) ?_
  have hPc := hP.sub (ws' := [(x, .inr (11, [.ref cs, .ref th, .ref nw, .ref mi, .int 9999, .int 0, .int 0])), (cs, .inr (4, [.int 0, .ref e0, .int 0]))]) [0, 1] rfl
  have hDc := hD.sub (ws' := [(x, .inr (11, [.ref cs, .ref th, .ref nw, .ref mi, .int 9999, .int 0, .int 0])), (cs, .inr (4, [.int 0, .ref e0, .int 0]))]) [0, 1] (by decide) rfl
  have hKc := hK.sub (tys' := []) [] rfl
  refine va_calli (vx_runSW (As := [.ref x, .int (xs (Int32.toNatClampNeg (0 + 1))), .ref o]) (rest := []) ⟨hx, hb, hml, hown, hts⟩ (k_LL_standing l hst D x cs (.ref th) (.ref nw) (.ref mi) (.int 9999) (.int 0) (.int 0) 0 (.ref e0) (xs (Int32.toNatClampNeg (0 + 1))) o H.size) (vx_cwSW 3 hts (gS q941 q942 q0 (gH q943)) rfl rfl rfl (by decide +kernel) ⟨Nat.le_of_ble_eq_true rfl, Nat.le_of_ble_eq_true rfl⟩) ⟨EV.fb, fun U hU hW => ⟨rfl, EV.at hPc hKc hDc hG (hZ.no hS) U hU hW⟩⟩ rfl rfl hl.1 rfl (lv_room (Nat.le_of_ble_eq_true rfl)) dL_law__1656 ⟨Nat.le_of_ble_eq_true rfl, Nat.le_of_ble_eq_true rfl⟩) hS (fun q _ h => h.elim) (fun q h => h.elim) (fun r_1 u t H1 locs ht hvm hw hB hz1 hk1 hS => ?_)
  have hP := P_kept hP hk1
  generalize H1 = H at hP hS ⊢
  have hP : va_P D vwCl [(x, .inr (11, [.ref cs, .ref th, .ref nw, .ref mi, .int 9999, .int 0, .int 0])), (cs, .inr (4, [.int 0, .ref e0, .int 0])), (th, .inr (4, [.int 0, .ref e0, .int 0])), (nw, .inr (10, [.int 10, .int 0, .int 0])), (m2, .inr (16, [.int 0, .ref ms, .ref sk, .int 0])), (ms, .inr (4, [.int 0, .ref e0, .int 0])), (sk, .inr (15, [.int 10, .int 0, .int 0, .int 9999, .int 0])), (o, .inl (cA, 1, .inr (.inl (fun _ => 0)))), (od, .inl (cB, 1, .inr (.inr (.inr (.inl (fun _ => 0))))))] H := hP
  subst hw
  refine lv_istore (lv' := [(6, .int 1), (5, .int 0), (4, .ref od), (3, .ref o), (2, .ref m2), (1, .ref x), (0, .ref b)]) hx hb dL_law__1659 hl (by decide) rfl (fun ls hl => ?_)
  refine lv_aload_n hx hb dL_law__1661 rfl (lv_at hl 4 rfl) ?_
  refine lv_aload_n hx hb dL_law__1662 rfl (lv_at hl 6 rfl) ?_
  refine lv_iload hx hb dL_law__1663 (lv_at hl 1 rfl) ?_
  refine lv_iconst (v := 1) hx hb dL_law__1665 (by decide) ?_
  refine lv_iadd hx hb dL_law__1666 ?_
  refine va_sld hx hb hX hbl hbA hS (by unfold vp_in; decide) dL_law__1667 ?_
  have hPc := hP.sub (ws' := [(m2, .inr (16, [.int 0, .ref ms, .ref sk, .int 0])), (ms, .inr (4, [.int 0, .ref e0, .int 0]))]) [4, 5] rfl
  have hDc := hD.sub (ws' := [(m2, .inr (16, [.int 0, .ref ms, .ref sk, .int 0])), (ms, .inr (4, [.int 0, .ref e0, .int 0]))]) [4, 5] (by decide) rfl
  have hKc := hK.sub (tys' := []) [] rfl
  have hFc := va_free (wc := [(m2, .inr (16, [.int 0, .ref ms, .ref sk, .int 0])), (ms, .inr (4, [.int 0, .ref e0, .int 0]))]) hD hS hA [4, 5] rfl
  refine va_calli (va_runV (As := [.int (xs (Int32.toNatClampNeg (0 + 1)))]) (rest := []) ⟨hx, hb, hml, hown, hts⟩ (k_LM_standing l D m2 0 ms (.ref sk) (.int 0) 0 (.ref e0) (xs (Int32.toNatClampNeg (0 + 1))) H.size) (cwV 1 hts (gV q1658 q1659 q1660 q6 (gA q1661)) rfl rfl rfl (by decide +kernel) ⟨Nat.le_of_ble_eq_true rfl, Nat.le_of_ble_eq_true rfl⟩) ⟨EV.fb, va_recv hKc hPc (ci := 16) (q0 := 0) rfl rfl, fun U hU hW => ⟨rfl, EV.at hPc hKc hDc hG (hZ.no hS) U hU hW⟩⟩ rfl rfl hl.1 rfl (lv_room (Nat.le_of_ble_eq_true rfl)) dL_law__1668 ⟨Nat.le_of_ble_eq_true rfl, Nat.le_of_ble_eq_true rfl⟩) hS (fun q _ h => hFc q h) hFc (fun r_2 u t H1 locs ht hvm hw hB hz1 hk1 hS => ?_)
  obtain ⟨hP1, hD1⟩ := hB
  rw [ht] at hP1
  obtain ⟨hP, hD⟩ := va_join (wr := [(x, .inr (11, [.ref cs, .ref th, .ref nw, .ref mi, .int 9999, .int 0, .int 0])), (cs, .inr (4, [.int 0, .ref e0, .int 0])), (th, .inr (4, [.int 0, .ref e0, .int 0])), (nw, .inr (10, [.int 10, .int 0, .int 0])), (sk, .inr (15, [.int 10, .int 0, .int 0, .int 9999, .int 0])), (o, .inl (cA, 1, .inr (.inl (fun _ => 0)))), (od, .inl (cB, 1, .inr (.inr (.inr (.inl (fun _ => 0))))))]) (w1 := [(m2, .inr (16, [.int 1, .ref ms, .ref sk, .int 0])), (ms, .inr (4, [.int 0, .ref e0, .int 0]))]) hP hD [4, 5] [0, 1, 2, 3, 6, 7, 8] rfl rfl (by decide) (by decide) hk1 hFc hP1 hD1
  generalize H1 = H at hP hS ⊢
  have hP : va_P D vwCl [(x, .inr (11, [.ref cs, .ref th, .ref nw, .ref mi, .int 9999, .int 0, .int 0])), (cs, .inr (4, [.int 0, .ref e0, .int 0])), (th, .inr (4, [.int 0, .ref e0, .int 0])), (nw, .inr (10, [.int 10, .int 0, .int 0])), (sk, .inr (15, [.int 10, .int 0, .int 0, .int 9999, .int 0])), (o, .inl (cA, 1, .inr (.inl (fun _ => 0)))), (od, .inl (cB, 1, .inr (.inr (.inr (.inl (fun _ => 0)))))), (m2, .inr (16, [.int 1, .ref ms, .ref sk, .int 0])), (ms, .inr (4, [.int 0, .ref e0, .int 0]))] H := hP
  have hD : va_D (fun q : Nat => s.heap.size ≤ q) [(x, .inr (11, [.ref cs, .ref th, .ref nw, .ref mi, .int 9999, .int 0, .int 0])), (cs, .inr (4, [.int 0, .ref e0, .int 0])), (th, .inr (4, [.int 0, .ref e0, .int 0])), (nw, .inr (10, [.int 10, .int 0, .int 0])), (sk, .inr (15, [.int 10, .int 0, .int 0, .int 9999, .int 0])), (o, .inl (cA, 1, .inr (.inl (fun _ => 0)))), (od, .inl (cB, 1, .inr (.inr (.inr (.inl (fun _ => 0)))))), (m2, .inr (16, [.int 1, .ref ms, .ref sk, .int 0])), (ms, .inr (4, [.int 0, .ref e0, .int 0]))] := hD
  refine lv_istore (lv' := [(7, .int r_2), (6, .int 1), (5, .int 0), (4, .ref od), (3, .ref o), (2, .ref m2), (1, .ref x), (0, .ref b)]) hx hb dL_law__1671 hl (by decide) rfl (fun ls hl => ?_)
  refine lv_aload_n hx hb dL_law__1673 rfl (lv_at hl 5 rfl) ?_
  have hPc := hP.sub (ws' := [(m2, .inr (16, [.int 1, .ref ms, .ref sk, .int 0]))]) [7] rfl
  have hDc := hD.sub (ws' := [(m2, .inr (16, [.int 1, .ref ms, .ref sk, .int 0]))]) [7] (by decide) rfl
  have hKc := hK.sub (tys' := []) [] rfl
  refine va_calli (va_runV (As := []) (rest := []) ⟨hx, hb, hml, hown, hts⟩ (k_LM_thrown l D m2 1 ms (.ref sk) (.int 0) 0 .null H.size) (cwV 0 hts (gV q1174 q1175 q1176 q6 (gA q1177)) rfl rfl rfl (by decide +kernel) ⟨Nat.le_of_ble_eq_true rfl, Nat.le_of_ble_eq_true rfl⟩) ⟨EV.fb, va_recv hKc hPc (ci := 16) (q0 := 0) rfl rfl, fun U hU hW => ⟨rfl, EV.at hPc hKc hDc hG (hZ.no hS) U hU hW⟩⟩ rfl rfl hl.1 rfl (lv_room (Nat.le_of_ble_eq_true rfl)) dL_law__1674 ⟨Nat.le_of_ble_eq_true rfl, Nat.le_of_ble_eq_true rfl⟩) hS (fun q _ h => h.elim) (fun q h => h.elim) (fun r_3 u t H1 locs ht hvm hw hB hz1 hk1 hS => ?_)
  have hP := P_kept hP hk1
  generalize H1 = H at hP hS ⊢
  have hP : va_P D vwCl [(x, .inr (11, [.ref cs, .ref th, .ref nw, .ref mi, .int 9999, .int 0, .int 0])), (cs, .inr (4, [.int 0, .ref e0, .int 0])), (th, .inr (4, [.int 0, .ref e0, .int 0])), (nw, .inr (10, [.int 10, .int 0, .int 0])), (sk, .inr (15, [.int 10, .int 0, .int 0, .int 9999, .int 0])), (o, .inl (cA, 1, .inr (.inl (fun _ => 0)))), (od, .inl (cB, 1, .inr (.inr (.inr (.inl (fun _ => 0)))))), (m2, .inr (16, [.int 1, .ref ms, .ref sk, .int 0])), (ms, .inr (4, [.int 0, .ref e0, .int 0]))] H := hP
  subst hw
  refine lv_iload hx hb dL_law__1677 (lv_at hl 1 rfl) ?_
  refine lv_icmp_eq (tgt := 1684) hx hb dL_law__1679 (by decide) (fun c_4 => ?_) (fun c_4 => ?_)
  · refine lv_iload hx hb dL_law__1684 (lv_at hl 1 rfl) ?_
    refine lv_if_ne (tgt := 1701) hx hb dL_law__1686 (by decide) (fun c_5 => ?_) (fun c_5 => ?_)
    · refine lv_goto (tgt := 2850) hx hb dL_law__1701 (by decide) ?_
      exact law_end (D := D) hst hx hb hr hml hown hts hX hbl hlocks hS (Nat.le_of_ble_eq_true rfl) (Nat.le_of_ble_eq_true rfl) (lv_sub hl [7, 2] rfl)
    · exact absurd c_5 (by decide)
  · exact absurd (by decide) c_4
