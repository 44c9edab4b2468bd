theorem iwJ0 : ∀ w ∈ wsJ00, w ∈ lw_all := al_all (by decide +kernel)
theorem iwJ6 : ∀ w ∈ wsJ60, w ∈ lw_all := al_all (by decide +kernel)
theorem iwJx00060 : ∀ w ∈ wsJx000600, w ∈ lw_all := al_all (by decide +kernel)
theorem iwX2 : ∀ w ∈ wsX20, w ∈ lw_all := al_all (by decide +kernel)
theorem iwX3 : ∀ w ∈ wsX30, w ∈ lw_all := al_all (by decide +kernel)
theorem iwX9 : ∀ w ∈ wsX90, w ∈ lw_all := al_all (by decide +kernel)
theorem iwX10 : ∀ w ∈ wsX100, w ∈ lw_all := al_all (by decide +kernel)
theorem q644 : Cond.instantiable RJx00060 6 ∈ lw_all := al_in (i := 644) (by decide +kernel) (by decide +kernel)
theorem q659 : Cond.instantiable RJ0 4 ∈ lw_all := al_in (i := 659) (by decide +kernel) (by decide +kernel)
theorem q682 : Cond.instantiable RX2 9 ∈ lw_all := al_in (i := 682) (by decide +kernel) (by decide +kernel)
theorem q780 : Cond.instantiable RX3 3 ∈ lw_all := al_in (i := 780) (by decide +kernel) (by decide +kernel)
theorem q1366 : Cond.instantiable RX9 9 ∈ lw_all := al_in (i := 1366) (by decide +kernel) (by decide +kernel)
theorem q1451 : Cond.instantiable RX10 3 ∈ lw_all := al_in (i := 1451) (by decide +kernel) (by decide +kernel)
theorem q1756 : Cond.instantiable RJ6 1 ∈ lw_all := al_in (i := 1756) (by decide +kernel) (by decide +kernel)
theorem t1182 : Cond.stringRef RX12 58 "fsn" ∈ lw_st := al_stin (i := 1182) (by decide +kernel) (by decide +kernel)
theorem known_all {args : Array Value} {s : State} (hts : ∀ w ∈ lw_all, w.before args s = true) : ∃ D : va_G, va_K D vwCl [] s := by
  obtain ⟨c0, i0, h0⟩ := u_known (C := RJ0) (T := TJ0) (N := 2) (n := 4) hts iwJ0 (hts _ q659)
  obtain ⟨c1, i1, h1⟩ := u_known (C := RJ6) (T := TJ6) (N := 1) (n := 1) hts iwJ6 (hts _ q1756)
  obtain ⟨c2, i2, h2⟩ := u_known (C := RJx00060) (T := TJx00060) (N := 6) (n := 6) hts iwJx00060 (hts _ q644)
  obtain ⟨c3, i3, h3⟩ := u_known (C := RJx35411) (T := TJx35411) (N := 4) (n := 4) hts iwJx35411 (hts _ q1536)
  obtain ⟨c4, i4, h4⟩ := u_known (C := RJx4a65c) (T := TJx4a65c) (N := 3) (n := 3) hts iwJx4a65c (hts _ q51)
  obtain ⟨c5, i5, h5⟩ := u_known (C := RX0) (T := TX0) (N := 11) (n := 11) hts iwX0 (hts _ q455)
  obtain ⟨c6, i6, h6⟩ := u_known (C := RX1) (T := TX1) (N := 13) (n := 13) hts iwX1 (hts _ q291)
  obtain ⟨c7, i7, h7⟩ := u_known (C := RX2) (T := TX2) (N := 9) (n := 9) hts iwX2 (hts _ q682)
  obtain ⟨c8, i8, h8⟩ := u_known (C := RX3) (T := TX3) (N := 3) (n := 3) hts iwX3 (hts _ q780)
  obtain ⟨c9, i9, h9⟩ := u_known (C := RX5) (T := TX5) (N := 1) (n := 1) hts iwX5 (hts _ q461)
  obtain ⟨c10, i10, h10⟩ := u_known (C := RX6) (T := TX6) (N := 3) (n := 3) hts iwX6 (hts _ q80)
  obtain ⟨c11, i11, h11⟩ := u_known (C := RX7) (T := TX7) (N := 7) (n := 7) hts iwX7 (hts _ q43)
  obtain ⟨c12, i12, h12⟩ := u_known (C := RX8) (T := TX8) (N := 18) (n := 18) hts iwX8 (hts _ q1267)
  obtain ⟨c13, i13, h13⟩ := u_known (C := RX9) (T := TX9) (N := 9) (n := 9) hts iwX9 (hts _ q1366)
  obtain ⟨c14, i14, h14⟩ := u_known (C := RX10) (T := TX10) (N := 3) (n := 3) hts iwX10 (hts _ q1451)
  obtain ⟨c15, i15, h15⟩ := u_known (C := RX11) (T := TX11) (N := 5) (n := 5) hts iwX11 (hts _ q1134)
  obtain ⟨c16, i16, h16⟩ := u_known (C := RX12) (T := TX12) (N := 4) (n := 4) hts iwX12 (hts _ q1126)
  refine ⟨(fun k => if k = 0 then c0 else if k = 1 then c1 else if k = 2 then c2 else if k = 3 then c3 else if k = 4 then c4 else if k = 5 then c5 else if k = 6 then c6 else if k = 7 then c7 else if k = 8 then c8 else if k = 9 then c9 else if k = 10 then c10 else if k = 11 then c11 else if k = 12 then c12 else if k = 13 then c13 else if k = 14 then c14 else if k = 15 then c15 else c16, fun k => if k = 0 then i0 else if k = 1 then i1 else if k = 2 then i2 else if k = 3 then i3 else if k = 4 then i4 else if k = 5 then i5 else if k = 6 then i6 else if k = 7 then i7 else if k = 8 then i8 else if k = 9 then i9 else if k = 10 then i10 else if k = 11 then i11 else if k = 12 then i12 else if k = 13 then i13 else if k = 14 then i14 else if k = 15 then i15 else i16), ?_, fun k q h => by simp at h⟩
  intro k q hq
  match k, hq with
  | 0, hq => cases hq; exact h0
  | 1, hq => cases hq; exact h1
  | 2, hq => cases hq; exact h2
  | 3, hq => cases hq; exact h3
  | 4, hq => cases hq; exact h4
  | 5, hq => cases hq; exact h5
  | 6, hq => cases hq; exact h6
  | 7, hq => cases hq; exact h7
  | 8, hq => cases hq; exact h8
  | 9, hq => cases hq; exact h9
  | 10, hq => cases hq; exact h10
  | 11, hq => cases hq; exact h11
  | 12, hq => cases hq; exact h12
  | 13, hq => cases hq; exact h13
  | 14, hq => cases hq; exact h14
  | 15, hq => cases hq; exact h15
  | 16, hq => cases hq; exact h16
  | k + 17, hq => simp [vwCl] at hq
set_option maxHeartbeats 8000000 in
set_option maxRecDepth 100000 in
/-- THE LAW, from its entry -/
theorem law_run {p : Program} {l : Launch} {e : Env} {s : State} {m : MethodId} {below : List Frame} {meth : Method} {c : Code} {D : va_G} {b : Nat} {xs : Nat → Int32} (hst : l.stackTraces = false) (hx : p.tables.exec = Jvm.exec) (hb : c.code = code) (hr : meth.sig.returnType = ret) (hml : c.maxLocals = 9) (hown : s.vm.findClass RL = some m.cls) (hts : ∀ w ∈ lw_all, w.before #[Value.ref b] s = true) {L : Nat} (hL : L ≤ 5) (hX : va_X b L xs s s.heap) (hbl : b < s.heap.size) (hlocks : meth.locks = false) (hG : GE s) (hZ : ZZ (fun q : Nat => s.heap.size ≤ q) s s.heap) {e0 : Nat} (hZd : ZD e0 (fun q : Nat => s.heap.size ≤ q) s s.heap) (hZt : ZT e0 (fun q : Nat => s.heap.size ≤ q) s s.heap) (hAO : va_AO "java/lang/Object" s) {fq fv : Nat} (hSF : SF fq fv (fun q : Nat => s.heap.size ≤ q) s s.heap) (hvk : vk_R RX12 58 "fsn" fq s) (hK : va_K D vwCl [] s) : W p l e room_1 s m #[Value.ref b] below meth c s.heap [] 0 0 (lw_Z below #[Value.ref b] s) (entryFrame m ([Value.ref b] : List Value).toArray 9) := by
  have hA : ∀ q : Nat, s.heap.size ≤ q → (fun q : Nat => s.heap.size ≤ q) q := fun _ h => h
  have hbA : ¬ (fun q : Nat => s.heap.size ≤ q) b := Nat.not_le.mpr hbl
  have hS : va_S (fun q : Nat => s.heap.size ≤ q) s.heap s.heap [] := va_S.rf
  have hP : va_P D vwCl [] s.heap := P_nil
  have hD : va_D (fun q : Nat => s.heap.size ≤ q) [] := D_nil
  have hl := lv_entry ([.ref b]) (n := 9) (Nat.le_of_ble_eq_true rfl)
  rw [lg_entry_eq]
  generalize (lg_sl ([.ref b]) ++ List.replicate (9 - (lg_sl ([.ref b])).length) Slot.unset).toArray = ls at hl ⊢
  have hl : lv_has ls 9 [(0, .ref b)] := hl
  refine va_new (ci := 11) (fs := [.null, .null, .null, .null, .int 0, .int 0, .int 0]) (C := RX7) (T := TX7) (N := 7) hx hb hts iwX7 tyX7 tyX7_ok hown (hts _ q42) (hts _ q43) (hts _ q1) hK hP hD hS hA rfl (fun j hj => by rcases (show j = 0 ∨ j = 1 ∨ j = 2 ∨ j = 3 ∨ j = 4 ∨ j = 5 ∨ j = 6 by omega) with rfl | rfl | rfl | rfl | rfl | rfl | rfl <;> rfl) (Nat.le_of_ble_eq_true rfl) (Nat.le_of_ble_eq_true rfl) dL_law__0 (fun o_1 H hP hD hS => ?_)
  have hP : va_P D vwCl [(o_1, .inr (11, [.null, .null, .null, .null, .int 0, .int 0, .int 0]))] H := hP
  have hD : va_D (fun q : Nat => s.heap.size ≤ q) [(o_1, .inr (11, [.null, .null, .null, .null, .int 0, .int 0, .int 0]))] := hD
  refine lv_dup hx hb dL_law__3 rfl ?_
  have hPc := hP.sub (ws' := [(o_1, .inr (11, [.null, .null, .null, .null, .int 0, .int 0, .int 0]))]) [0] rfl
  have hDc := hD.sub (ws' := [(o_1, .inr (11, [.null, .null, .null, .null, .int 0, .int 0, .int 0]))]) [0] (by decide) rfl
  have hKc := hK.sub (tys' := []) [] rfl
  have hFc := va_free (wc := [(o_1, .inr (11, [.null, .null, .null, .null, .int 0, .int 0, .int 0]))]) hD hS hA [0] rfl
  refine va_callv (va_runI (As := []) (rest := [.ref o_1]) ⟨hx, hb, hml, hown, hts⟩ (k_LF_init l D e0 o_1 H.size) (cwI 0 hts (gA q46) rfl rfl rfl (hts _ q1) (hts _ q44) (hts _ q45) rfl (by decide +kernel) ⟨Nat.le_of_ble_eq_true rfl, Nat.le_of_ble_eq_true rfl⟩) ⟨EW.fb, fun U hU hW => ⟨rfl, EW.at hPc hKc hDc hG (hZ.no hS) (ZD.no hZd hS) U hU hW⟩⟩ rfl rfl hl.1 rfl (lv_room (Nat.le_of_ble_eq_true rfl)) dL_law__4 ⟨Nat.le_of_ble_eq_true rfl, Nat.le_of_ble_eq_true rfl⟩) hS (fun q _ h => hFc q h) hFc (fun u t H1 locs ht hvm hw hB hz1 hk1 hS => ?_)
  obtain ⟨cs, th, nw, mi⟩ := u
  obtain ⟨hP1, hD1⟩ := hB
  rw [ht] at hP1
  obtain ⟨hP, hD⟩ := va_join (wr := []) (w1 := [(o_1, .inr (11, [.ref cs, .ref th, .ref nw, .ref mi, .int 9999, .int 0, .int 0])), (cs, .inr (4, [.int 0, .ref e0, .int 0])), (th, .inr (4, [.int 0, .ref e0, .int 0])), (nw, .inr (10, [.int 10, .int 0, .int 0]))]) hP hD [0] [] rfl rfl (by decide) (by decide) hk1 hFc hP1 hD1
  generalize H1 = H at hP hS ⊢
  have hP : va_P D vwCl [(o_1, .inr (11, [.ref cs, .ref th, .ref nw, .ref mi, .int 9999, .int 0, .int 0])), (cs, .inr (4, [.int 0, .ref e0, .int 0])), (th, .inr (4, [.int 0, .ref e0, .int 0])), (nw, .inr (10, [.int 10, .int 0, .int 0]))] H := hP
  have hD : va_D (fun q : Nat => s.heap.size ≤ q) [(o_1, .inr (11, [.ref cs, .ref th, .ref nw, .ref mi, .int 9999, .int 0, .int 0])), (cs, .inr (4, [.int 0, .ref e0, .int 0])), (th, .inr (4, [.int 0, .ref e0, .int 0])), (nw, .inr (10, [.int 10, .int 0, .int 0]))] := hD
  refine lv_astore_n (lv' := [(1, .ref o_1), (0, .ref b)]) hx hb dL_law__7 rfl hl (by decide) rfl (fun ls hl => ?_)
  refine va_new (ci := 16) (fs := [.int 0, .null, .null, .int 0]) (C := RX12) (T := TX12) (N := 4) hx hb hts iwX12 tyX12 tyX12_ok hown (hts _ q1125) (hts _ q1126) (hts _ q6) hK hP hD hS hA rfl (fun j hj => by rcases (show j = 0 ∨ j = 1 ∨ j = 2 ∨ j = 3 by omega) with rfl | rfl | rfl | rfl <;> rfl) (Nat.le_of_ble_eq_true rfl) (Nat.le_of_ble_eq_true rfl) dL_law__8 (fun o_3 H hP hD hS => ?_)
  have hP : va_P D vwCl [(o_1, .inr (11, [.ref cs, .ref th, .ref nw, .ref mi, .int 9999, .int 0, .int 0])), (cs, .inr (4, [.int 0, .ref e0, .int 0])), (th, .inr (4, [.int 0, .ref e0, .int 0])), (nw, .inr (10, [.int 10, .int 0, .int 0])), (o_3, .inr (16, [.int 0, .null, .null, .int 0]))] H := hP
  have hD : va_D (fun q : Nat => s.heap.size ≤ q) [(o_1, .inr (11, [.ref cs, .ref th, .ref nw, .ref mi, .int 9999, .int 0, .int 0])), (cs, .inr (4, [.int 0, .ref e0, .int 0])), (th, .inr (4, [.int 0, .ref e0, .int 0])), (nw, .inr (10, [.int 10, .int 0, .int 0])), (o_3, .inr (16, [.int 0, .null, .null, .int 0]))] := hD
  refine lv_dup hx hb dL_law__11 rfl ?_
  have hPc := hP.sub (ws' := [(o_3, .inr (16, [.int 0, .null, .null, .int 0]))]) [4] rfl
  have hDc := hD.sub (ws' := [(o_3, .inr (16, [.int 0, .null, .null, .int 0]))]) [4] (by decide) rfl
  have hKc := hK.sub (tys' := []) [] rfl
  have hFc := va_free (wc := [(o_3, .inr (16, [.int 0, .null, .null, .int 0]))]) hD hS hA [4] rfl
  refine va_callv (va_runI (As := []) (rest := [.ref o_3]) ⟨hx, hb, hml, hown, hts⟩ (k_LM_init l D e0 o_3 H.size) (cwI 0 hts (gA q1129) rfl rfl rfl (hts _ q6) (hts _ q1127) (hts _ q1128) rfl (by decide +kernel) ⟨Nat.le_of_ble_eq_true rfl, Nat.le_of_ble_eq_true rfl⟩) ⟨EW.fb, fun U hU hW => ⟨rfl, EW.at hPc hKc hDc hG (hZ.no hS) (ZD.no hZd hS) U hU hW⟩⟩ rfl rfl hl.1 rfl (lv_room (Nat.le_of_ble_eq_true rfl)) dL_law__12 ⟨Nat.le_of_ble_eq_true rfl, Nat.le_of_ble_eq_true rfl⟩) hS (fun q _ h => hFc q h) hFc (fun u t H1 locs ht hvm hw hB hz1 hk1 hS => ?_)
  obtain ⟨ms, sk⟩ := u
  obtain ⟨hP1, hD1⟩ := hB
  rw [ht] at hP1
  obtain ⟨hP, hD⟩ := va_join (wr := [(o_1, .inr (11, [.ref cs, .ref th, .ref nw, .ref mi, .int 9999, .int 0, .int 0])), (cs, .inr (4, [.int 0, .ref e0, .int 0])), (th, .inr (4, [.int 0, .ref e0, .int 0])), (nw, .inr (10, [.int 10, .int 0, .int 0]))]) (w1 := [(o_3, .inr (16, [.int 0, .ref ms, .ref sk, .int 0])), (ms, .inr (4, [.int 0, .ref e0, .int 0])), (sk, .inr (15, [.int 10, .int 0, .int 0, .int 9999, .int 0]))]) hP hD [4] [0, 1, 2, 3] rfl rfl (by decide) (by decide) hk1 hFc hP1 hD1
  generalize H1 = H at hP hS ⊢
  have hP : va_P D vwCl [(o_1, .inr (11, [.ref cs, .ref th, .ref nw, .ref mi, .int 9999, .int 0, .int 0])), (cs, .inr (4, [.int 0, .ref e0, .int 0])), (th, .inr (4, [.int 0, .ref e0, .int 0])), (nw, .inr (10, [.int 10, .int 0, .int 0])), (o_3, .inr (16, [.int 0, .ref ms, .ref sk, .int 0])), (ms, .inr (4, [.int 0, .ref e0, .int 0])), (sk, .inr (15, [.int 10, .int 0, .int 0, .int 9999, .int 0]))] H := hP
  have hD : va_D (fun q : Nat => s.heap.size ≤ q) [(o_1, .inr (11, [.ref cs, .ref th, .ref nw, .ref mi, .int 9999, .int 0, .int 0])), (cs, .inr (4, [.int 0, .ref e0, .int 0])), (th, .inr (4, [.int 0, .ref e0, .int 0])), (nw, .inr (10, [.int 10, .int 0, .int 0])), (o_3, .inr (16, [.int 0, .ref ms, .ref sk, .int 0])), (ms, .inr (4, [.int 0, .ref e0, .int 0])), (sk, .inr (15, [.int 10, .int 0, .int 0, .int 9999, .int 0]))] := hD
  refine lv_astore_n (lv' := [(2, .ref o_3), (1, .ref o_1), (0, .ref b)]) hx hb dL_law__15 rfl hl (by decide) rfl (fun ls hl => ?_)
  refine lv_iconst (v := 1) hx hb dL_law__16 (by decide) ?_
  refine va_newa (atype := .long) (a0 := (1, .inr (.inl (fun _ => 0)))) (N' := 1) (ty := .long) hx hb (hts _ q120) rfl hK hP hD hS hA (fun cA => rfl) (by decide) (by decide) (Nat.le_of_ble_eq_true rfl) (Nat.le_of_ble_eq_true rfl) (Nat.le_of_ble_eq_true rfl) dL_law__17 (fun o_5 cA_6 H hK hP hD hS => ?_)
  have hP : va_P D vwCl [(o_1, .inr (11, [.ref cs, .ref th, .ref nw, .ref mi, .int 9999, .int 0, .int 0])), (cs, .inr (4, [.int 0, .ref e0, .int 0])), (th, .inr (4, [.int 0, .ref e0, .int 0])), (nw, .inr (10, [.int 10, .int 0, .int 0])), (o_3, .inr (16, [.int 0, .ref ms, .ref sk, .int 0])), (ms, .inr (4, [.int 0, .ref e0, .int 0])), (sk, .inr (15, [.int 10, .int 0, .int 0, .int 9999, .int 0])), (o_5, .inl (cA_6, 1, .inr (.inl (fun _ => 0))))] H := hP
  have hD : va_D (fun q : Nat => s.heap.size ≤ q) [(o_1, .inr (11, [.ref cs, .ref th, .ref nw, .ref mi, .int 9999, .int 0, .int 0])), (cs, .inr (4, [.int 0, .ref e0, .int 0])), (th, .inr (4, [.int 0, .ref e0, .int 0])), (nw, .inr (10, [.int 10, .int 0, .int 0])), (o_3, .inr (16, [.int 0, .ref ms, .ref sk, .int 0])), (ms, .inr (4, [.int 0, .ref e0, .int 0])), (sk, .inr (15, [.int 10, .int 0, .int 0, .int 9999, .int 0])), (o_5, .inl (cA_6, 1, .inr (.inl (fun _ => 0))))] := hD
  have hK : va_K D vwCl [(cA_6, .long)] s := hK
  refine lv_astore_n (lv' := [(3, .ref o_5), (2, .ref o_3), (1, .ref o_1), (0, .ref b)]) hx hb dL_law__19 rfl hl (by decide) rfl (fun ls hl => ?_)
  refine lv_iconst (v := 1) hx hb dL_law__20 (by decide) ?_
  refine va_newa (atype := .double) (a0 := (1, .inr (.inr (.inr (.inl (fun _ => 0)))))) (N' := 1) (ty := .double) hx hb (hts _ q1799) rfl hK hP hD hS hA (fun cA => rfl) (by decide) (by decide) (Nat.le_of_ble_eq_true rfl) (Nat.le_of_ble_eq_true rfl) (Nat.le_of_ble_eq_true rfl) dL_law__21 (fun o_7 cA_8 H hK hP hD hS => ?_)
  have hP : va_P D vwCl [(o_1, .inr (11, [.ref cs, .ref th, .ref nw, .ref mi, .int 9999, .int 0, .int 0])), (cs, .inr (4, [.int 0, .ref e0, .int 0])), (th, .inr (4, [.int 0, .ref e0, .int 0])), (nw, .inr (10, [.int 10, .int 0, .int 0])), (o_3, .inr (16, [.int 0, .ref ms, .ref sk, .int 0])), (ms, .inr (4, [.int 0, .ref e0, .int 0])), (sk, .inr (15, [.int 10, .int 0, .int 0, .int 9999, .int 0])), (o_5, .inl (cA_6, 1, .inr (.inl (fun _ => 0)))), (o_7, .inl (cA_8, 1, .inr (.inr (.inr (.inl (fun _ => 0))))))] H := hP
  have hD : va_D (fun q : Nat => s.heap.size ≤ q) [(o_1, .inr (11, [.ref cs, .ref th, .ref nw, .ref mi, .int 9999, .int 0, .int 0])), (cs, .inr (4, [.int 0, .ref e0, .int 0])), (th, .inr (4, [.int 0, .ref e0, .int 0])), (nw, .inr (10, [.int 10, .int 0, .int 0])), (o_3, .inr (16, [.int 0, .ref ms, .ref sk, .int 0])), (ms, .inr (4, [.int 0, .ref e0, .int 0])), (sk, .inr (15, [.int 10, .int 0, .int 0, .int 9999, .int 0])), (o_5, .inl (cA_6, 1, .inr (.inl (fun _ => 0)))), (o_7, .inl (cA_8, 1, .inr (.inr (.inr (.inl (fun _ => 0))))))] := hD
  have hK : va_K D vwCl [(cA_6, .long), (cA_8, .double)] s := hK
  refine lv_astore (lv' := [(4, .ref o_7), (3, .ref o_5), (2, .ref o_3), (1, .ref o_1), (0, .ref b)]) hx hb dL_law__23 hl (by decide) rfl (fun ls hl => ?_)
  refine lv_iconst (v := 0) hx hb dL_law__25 (by decide) ?_
  refine lv_istore (lv' := [(5, .int 0), (4, .ref o_7), (3, .ref o_5), (2, .ref o_3), (1, .ref o_1), (0, .ref b)]) hx hb dL_law__26 hl (by decide) rfl (fun ls hl => ?_)
  refine lv_iload hx hb dL_law__28 (lv_at hl 0 rfl) ?_
  refine lv_aload_n hx hb dL_law__30 rfl (lv_at hl 5 rfl) ?_
  refine va_slen hx hb hX hbl hbA hS dL_law__31 ?_
  refine lv_iconst (v := 5) hx hb dL_law__32 (by decide) ?_
  refine lv_isub hx hb dL_law__33 ?_
  refine lv_icmp_gt (tgt := 2856) hx hb dL_law__34 (by decide) (fun c_1 => ?_) (fun c_1 => ?_)
  · refine lv_iconst (v := 1) hx hb dL_law__2856 (by decide) ?_
    refine va_forget (fun q hq => hS.2.2 q hq) ?_
    refine W.widen (k := 731620) (n := 6907171) (Nat.le_of_ble_eq_true rfl) (Nat.le_of_ble_eq_true rfl) ?_
    exact W.base (lw_ret (d0 := s.drawn) (Drawn.sameBut.refl s.drawn lw_cs) hx hb hr hlocks dL_law__2857)
  · have hL5 : L = 5 := by
      rcases (show L = 0 ∨ L = 1 ∨ L = 2 ∨ L = 3 ∨ L = 4 ∨ L = 5 by omega) with rfl | rfl | rfl | rfl | rfl | rfl <;> first | rfl | exact absurd (by decide) c_1
    subst hL5
    refine lv_aload_n hx hb dL_law__37 rfl (lv_at hl 5 rfl) ?_
    refine lv_iload hx hb dL_law__38 (lv_at hl 0 rfl) ?_
    refine va_sld hx hb hX hbl hbA hS (by unfold vp_in; decide) dL_law__40 ?_
    refine lv_bipush (v := 63) hx hb dL_law__41 (by decide) ?_
    refine lv_iand hx hb dL_law__43 ?_
    have hP9 := hP.sub (ws' := [(o_1, .inr (11, [.ref cs, .ref th, .ref nw, .ref mi, .int 9999, .int 0, .int 0])), (cs, .inr (4, [.int 0, .ref e0, .int 0])), (th, .inr (4, [.int 0, .ref e0, .int 0])), (nw, .inr (10, [.int 10, .int 0, .int 0])), (o_3, .inr (16, [.int 0, .ref ms, .ref sk, .int 0])), (ms, .inr (4, [.int 0, .ref e0, .int 0])), (sk, .inr (15, [.int 10, .int 0, .int 0, .int 9999, .int 0])), (o_5, .inl (cA_6, 1, .inr (.inl (fun _ => 0)))), (o_7, .inl (cA_8, 1, .inr (.inr (.inr (.inl (fun _ => 0))))))]) [0, 1, 2, 3, 4, 5, 6, 7, 8] rfl
    have hD9 := hD.sub (ws' := [(o_1, .inr (11, [.ref cs, .ref th, .ref nw, .ref mi, .int 9999, .int 0, .int 0])), (cs, .inr (4, [.int 0, .ref e0, .int 0])), (th, .inr (4, [.int 0, .ref e0, .int 0])), (nw, .inr (10, [.int 10, .int 0, .int 0])), (o_3, .inr (16, [.int 0, .ref ms, .ref sk, .int 0])), (ms, .inr (4, [.int 0, .ref e0, .int 0])), (sk, .inr (15, [.int 10, .int 0, .int 0, .int 9999, .int 0])), (o_5, .inl (cA_6, 1, .inr (.inl (fun _ => 0)))), (o_7, .inl (cA_8, 1, .inr (.inr (.inr (.inl (fun _ => 0))))))]) [0, 1, 2, 3, 4, 5, 6, 7, 8] (by decide) rfl
    have hl9 := lv_sub hl [0, 1, 2, 3, 4, 5] rfl
    obtain ⟨j, hj, hz⟩ := pk_andE (xs (Int32.toNatClampNeg 0)) (m := 63) 6 (by decide)
    rw [hz]
    match j, hj with
    | 0, _ => exact lv_tableIn (off := 180) (tgt := 224) hx hb dL_law__44 (by decide) (by decide) (by decide) (by decide) (law_0 hst hx hb hr hml hown hts hX hbl hlocks hG hZ hZd hZt hAO hSF hvk hK hP9 hD9 hS hl9)
    | 1, _ => exact lv_tableIn (off := 238) (tgt := 282) hx hb dL_law__44 (by decide) (by decide) (by decide) (by decide) (law_1 hst hx hb hr hml hown hts hX hbl hlocks hG hZ hZd hZt hAO hSF hvk hK hP9 hD9 hS hl9)
    | 2, _ => exact lv_tableIn (off := 320) (tgt := 364) hx hb dL_law__44 (by decide) (by decide) (by decide) (by decide) (law_2 hst hx hb hr hml hown hts hX hbl hlocks hG hZ hZd hZt hAO hSF hvk hK hP9 hD9 hS hl9)
    | 3, _ => exact lv_tableIn (off := 400) (tgt := 444) hx hb dL_law__44 (by decide) (by decide) (by decide) (by decide) (law_3 hst hx hb hr hml hown hts hX hbl hlocks hG hZ hZd hZt hAO hSF hvk hK hP9 hD9 hS hl9)
    | 4, _ => exact lv_tableIn (off := 468) (tgt := 512) hx hb dL_law__44 (by decide) (by decide) (by decide) (by decide) (law_4 hst hx hb hr hml hown hts hX hbl hlocks hG hZ hZd hZt hAO hSF hvk hK hP9 hD9 hS hl9)
    | 5, _ => exact lv_tableIn (off := 536) (tgt := 580) hx hb dL_law__44 (by decide) (by decide) (by decide) (by decide) (law_5 hst hx hb hr hml hown hts hX hbl hlocks hG hZ hZd hZt hAO hSF hvk hK hP9 hD9 hS hl9)
    | 6, _ => exact lv_tableIn (off := 604) (tgt := 648) hx hb dL_law__44 (by decide) (by decide) (by decide) (by decide) (law_6 hst hx hb hr hml hown hts hX hbl hlocks hG hZ hZd hZt hAO hSF hvk hK hP9 hD9 hS hl9)
    | 7, _ => exact lv_tableIn (off := 672) (tgt := 716) hx hb dL_law__44 (by decide) (by decide) (by decide) (by decide) (law_7 hst hx hb hr hml hown hts hX hbl hlocks hG hZ hZd hZt hAO hSF hvk hK hP9 hD9 hS hl9)
    | 8, _ => exact lv_tableIn (off := 752) (tgt := 796) hx hb dL_law__44 (by decide) (by decide) (by decide) (by decide) (law_8 hst hx hb hr hml hown hts hX hbl hlocks hG hZ hZd hZt hAO hSF hvk hK hP9 hD9 hS hl9)
    | 9, _ => exact lv_tableIn (off := 808) (tgt := 852) hx hb dL_law__44 (by decide) (by decide) (by decide) (by decide) (law_9 hst hx hb hr hml hown hts hX hbl hlocks hG hZ hZd hZt hAO hSF hvk hK hP9 hD9 hS hl9)
    | 10, _ => exact lv_tableIn (off := 876) (tgt := 920) hx hb dL_law__44 (by decide) (by decide) (by decide) (by decide) (law_10 hst hx hb hr hml hown hts hX hbl hlocks hG hZ hZd hZt hAO hSF hvk hK hP9 hD9 hS hl9)
    | 11, _ => exact lv_tableIn (off := 967) (tgt := 1011) hx hb dL_law__44 (by decide) (by decide) (by decide) (by decide) (law_11 hst hx hb hr hml hown hts hX hbl hlocks hG hZ hZd hZt hAO hSF hvk hK hP9 hD9 hS hl9)
    | 12, _ => exact lv_tableIn (off := 1047) (tgt := 1091) hx hb dL_law__44 (by decide) (by decide) (by decide) (by decide) (law_12 hst hx hb hr hml hown hts hX hbl hlocks hG hZ hZd hZt hAO hSF hvk hK hP9 hD9 hS hl9)
    | 13, _ => exact lv_tableIn (off := 1128) (tgt := 1172) hx hb dL_law__44 (by decide) (by decide) (by decide) (by decide) (law_13 hst hx hb hr hml hown hts hX hbl hlocks hG hZ hZd hZt hAO hSF hvk hK hP9 hD9 hS hl9)
    | 14, _ => exact lv_tableIn (off := 1195) (tgt := 1239) hx hb dL_law__44 (by decide) (by decide) (by decide) (by decide) (law_14 hst hx hb hr hml hown hts hX hbl hlocks hG hZ hZd hZt hAO hSF hvk hK hP9 hD9 hS hl9)
    | 15, _ => exact lv_tableIn (off := 1276) (tgt := 1320) hx hb dL_law__44 (by decide) (by decide) (by decide) (by decide) (law_15 hst hx hb hr hml hown hts hX hbl hlocks hG hZ hZd hZt hAO hSF hvk hK hP9 hD9 hS hl9)
    | 16, _ => exact lv_tableIn (off := 1345) (tgt := 1389) hx hb dL_law__44 (by decide) (by decide) (by decide) (by decide) (law_16 hst hx hb hr hml hown hts hX hbl hlocks hG hZ hZd hZt hAO hSF hvk hK hP9 hD9 hS hl9)
    | 17, _ => exact lv_tableIn (off := 1400) (tgt := 1444) hx hb dL_law__44 (by decide) (by decide) (by decide) (by decide) (law_17 hst hx hb hr hml hown hts hX hbl hlocks hG hZ hZd hZt hAO hSF hvk hK hP9 hD9 hS hl9)
    | 18, _ => exact lv_tableIn (off := 1480) (tgt := 1524) hx hb dL_law__44 (by decide) (by decide) (by decide) (by decide) (law_18 hst hx hb hr hml hown hts hX hbl hlocks hG hZ hZd hZt hAO hSF hvk hK hP9 hD9 hS hl9)
    | 19, _ => exact lv_tableIn (off := 1548) (tgt := 1592) hx hb dL_law__44 (by decide) (by decide) (by decide) (by decide) (law_19 hst hx hb hr hml hown hts hX hbl hlocks hG hZ hZd hZt hAO hSF hvk hK hP9 hD9 hS hl9)
    | 20, _ => exact lv_tableIn (off := 1604) (tgt := 1648) hx hb dL_law__44 (by decide) (by decide) (by decide) (by decide) (law_20 hst hx hb hr hml hown hts hX hbl hlocks hG hZ hZd hZt hAO hSF hvk hK hP9 hD9 hS hl9)
    | 21, _ => exact lv_tableIn (off := 1660) (tgt := 1704) hx hb dL_law__44 (by decide) (by decide) (by decide) (by decide) (law_21 hst hx hb hr hml hown hts hX hbl hlocks hG hZ hZd hZt hAO hSF hvk hK hP9 hD9 hS hl9)
    | 22, _ => exact lv_tableIn (off := 1715) (tgt := 1759) hx hb dL_law__44 (by decide) (by decide) (by decide) (by decide) (law_22 hst hx hb hr hml hown hts hX hbl hlocks hG hZ hZd hZt hAO hSF hvk hK hP9 hD9 hS hl9)
    | 23, _ => exact lv_tableIn (off := 1770) (tgt := 1814) hx hb dL_law__44 (by decide) (by decide) (by decide) (by decide) (law_23 hst hx hb hr hml hown hts hX hbl hlocks hG hZ hZd hZt hAO hSF hvk hK hP9 hD9 hS hl9)
    | 24, _ => exact lv_tableIn (off := 1825) (tgt := 1869) hx hb dL_law__44 (by decide) (by decide) (by decide) (by decide) (law_24 hst hx hb hr hml hown hts hX hbl hlocks hG hZ hZd hZt hAO hSF hvk hK hP9 hD9 hS hl9)
    | 25, _ => exact lv_tableIn (off := 1900) (tgt := 1944) hx hb dL_law__44 (by decide) (by decide) (by decide) (by decide) (law_25 hst hx hb hr hml hown hts hX hbl hlocks hG hZ hZd hZt hAO hSF hvk hK hP9 hD9 hS hl9)
    | 26, _ => exact lv_tableIn (off := 1968) (tgt := 2012) hx hb dL_law__44 (by decide) (by decide) (by decide) (by decide) (law_26 hst hx hb hr hml hown hts hX hbl hlocks hG hZ hZd hZt hAO hSF hvk hK hP9 hD9 hS hl9)
    | 27, _ => exact lv_tableIn (off := 2024) (tgt := 2068) hx hb dL_law__44 (by decide) (by decide) (by decide) (by decide) (law_27 hst hx hb hr hml hown hts hX hbl hlocks hG hZ hZd hZt hAO hSF hvk hK hP9 hD9 hS hl9)
    | 28, _ => exact lv_tableIn (off := 2080) (tgt := 2124) hx hb dL_law__44 (by decide) (by decide) (by decide) (by decide) (law_28 hst hx hb hr hml hown hts hX hbl hlocks hG hZ hZd hZt hAO hSF hvk hK hP9 hD9 hS hl9)
    | 29, _ => exact lv_tableIn (off := 2148) (tgt := 2192) hx hb dL_law__44 (by decide) (by decide) (by decide) (by decide) (law_29 hst hx hb hr hml hown hts hX hbl hlocks hG hZ hZd hZt hAO hSF hvk hK hP9 hD9 hS hl9)
    | 30, _ => exact lv_tableIn (off := 2216) (tgt := 2260) hx hb dL_law__44 (by decide) (by decide) (by decide) (by decide) (law_30 hst hx hb hr hml hown hts hX hbl hlocks hG hZ hZd hZt hAO hSF hvk hK hP9 hD9 hS hl9)
    | 31, _ => exact lv_tableIn (off := 2272) (tgt := 2316) hx hb dL_law__44 (by decide) (by decide) (by decide) (by decide) (law_31 hst hx hb hr hml hown hts hX hbl hlocks hG hZ hZd hZt hAO hSF hvk hK hP9 hD9 hS hl9)
    | 32, _ => exact lv_tableIn (off := 2328) (tgt := 2372) hx hb dL_law__44 (by decide) (by decide) (by decide) (by decide) (law_32 hst hx hb hr hml hown hts hX hbl hlocks hG hZ hZd hZt hAO hSF hvk hK hP9 hD9 hS hl9)
    | 33, _ => exact lv_tableIn (off := 2383) (tgt := 2427) hx hb dL_law__44 (by decide) (by decide) (by decide) (by decide) (law_33 hst hx hb hr hml hown hts hX hbl hlocks hG hZ hZd hZt hAO hSF hvk hK hP9 hD9 hS hl9)
    | 34, _ => exact lv_tableIn (off := 2462) (tgt := 2506) hx hb dL_law__44 (by decide) (by decide) (by decide) (by decide) (law_34 hst hx hb hr hml hown hts hX hbl hlocks hG hZ hZd hZt hAO hSF hvk hK hP9 hD9 hS hl9)
    | 35, _ => exact lv_tableIn (off := 2542) (tgt := 2586) hx hb dL_law__44 (by decide) (by decide) (by decide) (by decide) (law_35 hst hx hb hr hml hown hts hX hbl hlocks hG hZ hZd hZt hAO hSF hvk hK hP9 hD9 hS hl9)
    | 36, _ => exact lv_tableIn (off := 2634) (tgt := 2678) hx hb dL_law__44 (by decide) (by decide) (by decide) (by decide) (law_36 hst hx hb hr hml hown hts hX hbl hlocks hG hZ hZd hZt hAO hSF hvk hK hP9 hD9 hS hl9)
    | 37, _ => exact lv_tableIn (off := 2648) (tgt := 2692) hx hb dL_law__44 (by decide) (by decide) (by decide) (by decide) (law_37 hst hx hb hr hml hown hts hX hbl hlocks hG hZ hZd hZt hAO hSF hvk hK hP9 hD9 hS hl9)
    | 38, _ => exact lv_tableIn (off := 2714) (tgt := 2758) hx hb dL_law__44 (by decide) (by decide) (by decide) (by decide) (law_38 hst hx hb hr hml hown hts hX hbl hlocks hG hZ hZd hZt hAO hSF hvk hK hP9 hD9 hS hl9)
    | 39, _ => exact lv_tableIn (off := 2779) (tgt := 2823) hx hb dL_law__44 (by decide) (by decide) (by decide) (by decide) (law_39 hst hx hb hr hml hown hts hX hbl hlocks hG hZ hZd hZt hAO hSF hvk hK hP9 hD9 hS hl9)
    | 40, _ => exact lv_tableIn (off := 2793) (tgt := 2837) hx hb dL_law__44 (by decide) (by decide) (by decide) (by decide) (law_40 hst hx hb hr hml hown hts hX hbl hlocks hG hZ hZd hZt hAO hSF hvk hK hP9 hD9 hS hl9)
    | n + 41, hj => exact lv_tableOut (tgt := 2850) hx hb dL_law__44 (Or.inr (by rw [nI_toInt (by omega)]; omega)) (by decide) (law_end (D := D) hst hx hb hr hml hown hts hX hbl hlocks hS (Nat.le_of_ble_eq_true rfl) (Nat.le_of_ble_eq_true rfl) (lv_sub hl [5, 0] rfl))
