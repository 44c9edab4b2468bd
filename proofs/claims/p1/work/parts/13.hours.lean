theorem dL_hours_0 : decode cL_hours 0 = .ok (.aload_n 2, 1) := by decide +kernel
theorem dL_hours_1 : decode cL_hours 1 = .ok (.iconst 0, 1) := by decide +kernel
theorem dL_hours_2 : decode cL_hours 2 = .ok (.aload_n 0, 1) := by decide +kernel
theorem dL_hours_3 : decode cL_hours 3 = .ok (.iload_n 1, 1) := by decide +kernel
theorem dL_hours_4 : decode cL_hours 4 = .ok (.invokevirtual 87, 3) := by decide +kernel
theorem dL_hours_7 : decode cL_hours 7 = .ok (.i2l, 1) := by decide +kernel
theorem dL_hours_8 : decode cL_hours 8 = .ok (.lastore, 1) := by decide +kernel
theorem dL_hours_9 : decode cL_hours 9 = .ok (.goto 6, 3) := by decide +kernel
theorem dL_hours_12 : decode cL_hours 12 = .ok (.astore_n 3, 1) := by decide +kernel
theorem dL_hours_13 : decode cL_hours 13 = .ok (.iconst 1, 1) := by decide +kernel
theorem dL_hours_14 : decode cL_hours 14 = .ok (.ireturn, 1) := by decide +kernel
theorem dL_hours_15 : decode cL_hours 15 = .ok (.iconst 0, 1) := by decide +kernel
theorem dL_hours_16 : decode cL_hours 16 = .ok (.ireturn, 1) := by decide +kernel
theorem dX12_hours_0 : decode cX12_hours 0 = .ok (.aload_n 0, 1) := by decide +kernel
theorem dX12_hours_1 : decode cX12_hours 1 = .ok (.iload_n 1, 1) := by decide +kernel
theorem dX12_hours_2 : decode cX12_hours 2 = .ok (.i2l, 1) := by decide +kernel
theorem dX12_hours_3 : decode cX12_hours 3 = .ok (.lconst 1, 1) := by decide +kernel
theorem dX12_hours_4 : decode cX12_hours 4 = .ok (.ldc2_w 180, 3) := by decide +kernel
theorem dX12_hours_7 : decode cX12_hours 7 = .ok (.invokestatic 39, 3) := by decide +kernel
theorem dX12_hours_10 : decode cX12_hours 10 = .ok (.ifCond .eq 7, 3) := by decide +kernel
theorem dX12_hours_13 : decode cX12_hours 13 = .ok (.iconst 0, 1) := by decide +kernel
theorem dX12_hours_14 : decode cX12_hours 14 = .ok (.goto 4, 3) := by decide +kernel
theorem dX12_hours_17 : decode cX12_hours 17 = .ok (.iconst 1, 1) := by decide +kernel
theorem dX12_hours_18 : decode cX12_hours 18 = .ok (.putfield 31, 3) := by decide +kernel
theorem dX12_hours_21 : decode cX12_hours 21 = .ok (.iconst 0, 1) := by decide +kernel
theorem dX12_hours_22 : decode cX12_hours 22 = .ok (.istore_n 2, 1) := by decide +kernel
theorem dX12_hours_23 : decode cX12_hours 23 = .ok (.iload_n 2, 1) := by decide +kernel
theorem dX12_hours_24 : decode cX12_hours 24 = .ok (.iload_n 1, 1) := by decide +kernel
theorem dX12_hours_25 : decode cX12_hours 25 = .ok (.if_icmp .ge 131, 3) := by decide +kernel
theorem dX12_hours_28 : decode cX12_hours 28 = .ok (.aload_n 0, 1) := by decide +kernel
theorem dX12_hours_29 : decode cX12_hours 29 = .ok (.getfield 31, 3) := by decide +kernel
theorem dX12_hours_32 : decode cX12_hours 32 = .ok (.ifCond .ne 124, 3) := by decide +kernel
theorem dX12_hours_35 : decode cX12_hours 35 = .ok (.aload_n 0, 1) := by decide +kernel
theorem dX12_hours_36 : decode cX12_hours 36 = .ok (.getfield 18, 3) := by decide +kernel
theorem dX12_hours_39 : decode cX12_hours 39 = .ok (.invokevirtual 182, 3) := by decide +kernel
theorem dX12_hours_42 : decode cX12_hours 42 = .ok (.astore_n 3, 1) := by decide +kernel
theorem dX12_hours_43 : decode cX12_hours 43 = .ok (.aload_n 3, 1) := by decide +kernel
theorem dX12_hours_44 : decode cX12_hours 44 = .ok (.invokeinterface 186 1, 5) := by decide +kernel
theorem dX12_hours_49 : decode cX12_hours 49 = .ok (.ifCond .eq 91, 3) := by decide +kernel
theorem dX12_hours_140 : decode cX12_hours 140 = .ok (.aload_n 0, 1) := by decide +kernel
theorem dX12_hours_141 : decode cX12_hours 141 = .ok (.dup, 1) := by decide +kernel
theorem dX12_hours_142 : decode cX12_hours 142 = .ok (.getfield 205, 3) := by decide +kernel
theorem dX12_hours_145 : decode cX12_hours 145 = .ok (.iconst 1, 1) := by decide +kernel
theorem dX12_hours_146 : decode cX12_hours 146 = .ok (.iadd, 1) := by decide +kernel
theorem dX12_hours_147 : decode cX12_hours 147 = .ok (.putfield 205, 3) := by decide +kernel
theorem dX12_hours_150 : decode cX12_hours 150 = .ok (.iinc 2 1, 3) := by decide +kernel
theorem dX12_hours_153 : decode cX12_hours 153 = .ok (.goto (-130), 3) := by decide +kernel
theorem dX12_hours_156 : decode cX12_hours 156 = .ok (.aload_n 0, 1) := by decide +kernel
theorem dX12_hours_157 : decode cX12_hours 157 = .ok (.getfield 31, 3) := by decide +kernel
theorem dX12_hours_160 : decode cX12_hours 160 = .ok (.ifCond .le 7, 3) := by decide +kernel
theorem dX12_hours_163 : decode cX12_hours 163 = .ok (.iconst 0, 1) := by decide +kernel
theorem dX12_hours_164 : decode cX12_hours 164 = .ok (.goto 7, 3) := by decide +kernel
theorem dX12_hours_167 : decode cX12_hours 167 = .ok (.aload_n 0, 1) := by decide +kernel
theorem dX12_hours_168 : decode cX12_hours 168 = .ok (.getfield 205, 3) := by decide +kernel
theorem dX12_hours_171 : decode cX12_hours 171 = .ok (.ireturn, 1) := by decide +kernel
theorem dX7_hours_0 : decode cX7_hours 0 = .ok (.iload_n 1, 1) := by decide +kernel
theorem dX7_hours_1 : decode cX7_hours 1 = .ok (.iconst 1, 1) := by decide +kernel
theorem dX7_hours_2 : decode cX7_hours 2 = .ok (.bipush 48, 2) := by decide +kernel
theorem dX7_hours_4 : decode cX7_hours 4 = .ok (.invokestatic 73, 3) := by decide +kernel
theorem dX7_hours_7 : decode cX7_hours 7 = .ok (.iconst 0, 1) := by decide +kernel
theorem dX7_hours_8 : decode cX7_hours 8 = .ok (.istore_n 2, 1) := by decide +kernel
theorem dX7_hours_9 : decode cX7_hours 9 = .ok (.iload_n 2, 1) := by decide +kernel
theorem dX7_hours_10 : decode cX7_hours 10 = .ok (.iload_n 1, 1) := by decide +kernel
theorem dX7_hours_11 : decode cX7_hours 11 = .ok (.if_icmp .ge 53, 3) := by decide +kernel
theorem dX7_hours_14 : decode cX7_hours 14 = .ok (.iconst 0, 1) := by decide +kernel
theorem dX7_hours_15 : decode cX7_hours 15 = .ok (.istore_n 3, 1) := by decide +kernel
theorem dX7_hours_16 : decode cX7_hours 16 = .ok (.iload_n 3, 1) := by decide +kernel
theorem dX7_hours_17 : decode cX7_hours 17 = .ok (.aload_n 0, 1) := by decide +kernel
theorem dX7_hours_18 : decode cX7_hours 18 = .ok (.getfield 10, 3) := by decide +kernel
theorem dX7_hours_21 : decode cX7_hours 21 = .ok (.invokevirtual 47, 3) := by decide +kernel
theorem dX7_hours_24 : decode cX7_hours 24 = .ok (.if_icmp .ge 24, 3) := by decide +kernel
theorem dX7_hours_48 : decode cX7_hours 48 = .ok (.aload_n 0, 1) := by decide +kernel
theorem dX7_hours_49 : decode cX7_hours 49 = .ok (.dup, 1) := by decide +kernel
theorem dX7_hours_50 : decode cX7_hours 50 = .ok (.getfield 37, 3) := by decide +kernel
theorem dX7_hours_53 : decode cX7_hours 53 = .ok (.iconst 1, 1) := by decide +kernel
theorem dX7_hours_54 : decode cX7_hours 54 = .ok (.iadd, 1) := by decide +kernel
theorem dX7_hours_55 : decode cX7_hours 55 = .ok (.putfield 37, 3) := by decide +kernel
theorem dX7_hours_58 : decode cX7_hours 58 = .ok (.iinc 2 1, 3) := by decide +kernel
theorem dX7_hours_61 : decode cX7_hours 61 = .ok (.goto (-52), 3) := by decide +kernel
theorem dX7_hours_64 : decode cX7_hours 64 = .ok (.aload_n 0, 1) := by decide +kernel
theorem dX7_hours_65 : decode cX7_hours 65 = .ok (.getfield 37, 3) := by decide +kernel
theorem dX7_hours_68 : decode cX7_hours 68 = .ok (.ireturn, 1) := by decide +kernel
theorem q924 : Cond.methodLink RL 87 yX7_hours ∈ lw_all := al_in (i := 924) (by decide +kernel) (by decide +kernel)
theorem q925 : Cond.instanceMethod yX7_hours ∈ lw_all := al_in (i := 925) (by decide +kernel) (by decide +kernel)
theorem q926 : Cond.selects RX7 yX7_hours yX7_hours ∈ lw_all := al_in (i := 926) (by decide +kernel) (by decide +kernel)
theorem q927 : Cond.code yX7_hours cX7_hours 4 (some .int) ∈ lw_all := al_in (i := 927) (by decide +kernel) (by decide +kernel)
theorem q1164 : Cond.fieldLink RX12 205 "LysimeterFieldModel" "hours" "I" ∈ lw_all := al_in (i := 1164) (by decide +kernel) (by decide +kernel)
theorem q1530 : Cond.constantLong RX12 180 (48) ∈ lw_all := al_in (i := 1530) (by decide +kernel) (by decide +kernel)
set_option maxHeartbeats 4000000 in
set_option maxRecDepth 100000 in
/-- hours on the fresh object: they go by, or IllegalArgumentException -/
theorem k_LF_hours (l : Launch) (hst : l.stackTraces = false) (D : va_G) (h cs : Nat) (f1 f2 f3 f4 f5 : Value) (md : Int32) (ed : Value) (p0 : Int32) (sz : Nat) : vx_Met l yX7_hours (wsA yX7_hours cX7_hours 4 (some .int)) ({ frames := 7, cells := 1, slots := 6, locals := 104 }) (va_Pc [.ref h, .int p0] (EV D [] [(h, .inr (11, [.ref cs, f1, f2, f3, f4, f5, .int 0])), (cs, .inr (4, [.int md, ed, .int 0]))] sz)) (va_Qi (fun (r u : Int32) => r = p0 ∧ good p0 1 48) (fun u t => va_P D vwCl [(h, .inr (11, [.ref cs, f1, f2, f3, f4, f5, .int u]))] t.heap ∧ va_D (va_A [(h, .inr (11, [.ref cs, f1, f2, f3, f4, f5, .int 0])), (cs, .inr (4, [.int md, ed, .int 0]))] sz) [(h, .inr (11, [.ref cs, f1, f2, f3, f4, f5, .int u]))]) (va_A [(h, .inr (11, [.ref cs, f1, f2, f3, f4, f5, .int 0])), (cs, .inr (4, [.int md, ed, .int 0]))] sz)) (XG "java/lang/IllegalArgumentException" (¬ good p0 1 48) (va_A [(h, .inr (11, [.ref cs, f1, f2, f3, f4, f5, .int 0])), (cs, .inr (4, [.int md, ed, .int 0]))] sz)) 1 6 (va_A [(h, .inr (11, [.ref cs, f1, f2, f3, f4, f5, .int 0])), (cs, .inr (4, [.int md, ed, .int 0]))] sz) := by
  refine vx_ofW (cc := cX7_hours) (maxL := 4) (ret := (some .int)) (ws' := lw_all) (by decide) rfl ?_
  intro p e s m args below meth c s₁ B hml hnt hv
  obtain ⟨rfl, hsz, hP, hK, hD0, hG, hZ0⟩ := hv
  have hx := B.exec
  have hb := B.bytes
  have hr := B.returns
  have hts0 := atoms_spec (ws := wsA yX7_hours cX7_hours 4 (some .int)) B.pre
  have hts : ∀ w ∈ lw_all, w.before _ s = true := fun w h => hts0 w (List.mem_cons_of_mem _ h)
  have hown : s.vm.findClass RX7 = some m.cls := findClass_of_methodNamed B.named
  have hlocks := B.notSynchronized
  subst hsz
  have hZ := ZZ.wide hP hZ0
  have hD := hD0.self (sz := s.heap.size)
  generalize hAe : va_A [(h, .inr (11, [.ref cs, f1, f2, f3, f4, f5, .int 0])), (cs, .inr (4, [.int md, ed, .int 0]))] s.heap.size = A at hD hZ ⊢
  have hA : ∀ q : Nat, s.heap.size ≤ q → A q := fun q h => by rw [← hAe]; exact Or.inr h
  have hS : va_S A s.heap s.heap [] := va_S.rf
  have hP : va_P D vwCl [(h, .inr (11, [.ref cs, f1, f2, f3, f4, f5, .int 0])), (cs, .inr (4, [.int md, ed, .int 0]))] s.heap := hP
  have hl := lv_entry ([.ref h, .int p0]) (n := 4) (Nat.le_of_ble_eq_true rfl)
  rw [lg_entry_eq]
  generalize (lg_sl ([.ref h, .int p0]) ++ List.replicate (4 - (lg_sl ([.ref h, .int p0])).length) Slot.unset).toArray = ls at hl ⊢
  have hl : lv_has ls 4 [(0, .ref h), (1, .int p0)] := hl
  refine lv_iload_n hx hb dX7_hours_0 rfl (lv_at hl 1 rfl) ?_
  refine lv_iconst (v := 1) hx hb dX7_hours_1 (by decide) ?_
  refine lv_bipush (v := 48) hx hb dX7_hours_2 (by decide) ?_
  have hPc := hP.sub (ws' := []) [] rfl
  have hDc := hD.sub (ws' := []) [] (by decide) rfl
  have hKc := hK.sub (tys' := []) [] rfl
  refine vx_callv (vx_runS (As := [.int p0, .int 1, .int 48]) (rest := []) ⟨hx, hb, hml, hown, hts⟩ (k_LF_checkRange l hst D p0 1 48 s.heap.size) (va_cwS 3 hts (gS q677 q678 q1 (gA q679)) rfl rfl rfl (by decide +kernel) ⟨Nat.le_of_ble_eq_true rfl, Nat.le_of_ble_eq_true rfl⟩) ⟨EV.fb, fun U hU hW => ⟨rfl, EV.at hPc hKc hDc hG (hZ.no hS) U hU hW⟩⟩ rfl rfl hl.1 rfl (lv_room (Nat.le_of_ble_eq_true rfl)) dX7_hours_4 ⟨Nat.le_of_ble_eq_true rfl, Nat.le_of_ble_eq_true rfl⟩) hS (fun q _ h => h.elim) (fun q h => h.elim) (fun q _ h => h.elim) (fun E ce q9 u t H1 locs1 ht hvm hpx_3 hBX hz1 hk1 hS hcell hcv hcl => ?_) (fun u t H1 locs ht hvm hw_2 hB hz1 hk1 hS => ?_)
  · have hP := P_kept hP hk1
    exact vx_out (fun x hx => (hnt x hx).elim) hlocks hcell hcv hcl (fun t ht _ => ⟨(), hpx_3, hBX, hS.F ht⟩) (fun z hz => hS.2.2 z hz) (Nat.le_of_ble_eq_true rfl) (Nat.le_of_ble_eq_true rfl)
  · have hP := P_kept hP hk1
    generalize H1 = H at hP hS ⊢
    have hP : va_P D vwCl [(h, .inr (11, [.ref cs, f1, f2, f3, f4, f5, .int 0])), (cs, .inr (4, [.int md, ed, .int 0]))] H := hP
    refine lv_iconst (v := 0) hx hb dX7_hours_7 (by decide) ?_
    refine lv_istore_n (lv' := [(2, .int 0), (0, .ref h), (1, .int p0)]) hx hb dX7_hours_8 rfl hl (by decide) rfl (fun ls hl => ?_)
    obtain ⟨N, hN1, hN2, rfl⟩ := good_nat hw_2
    refine loop_up N (fun _ => 1) (fun _ => 6) (fun k H locs ls => va_P D vwCl [(h, .inr (11, [.ref cs, f1, f2, f3, f4, f5, .int (nI k)])), (cs, .inr (4, [.int md, ed, .int 0]))] H ∧ va_D A [(h, .inr (11, [.ref cs, f1, f2, f3, f4, f5, .int (nI k)])), (cs, .inr (4, [.int md, ed, .int 0]))] ∧ va_S A s.heap H locs ∧ lv_has ls 4 [(0, .ref h), (1, .int (nI N)), (2, .int (nI k))]) ?_ ?_ H locs ls ⟨hP, hD, hS, lv_sub hl [1, 2, 0] rfl⟩
    · intro k H locs ls hk hI ih
      obtain ⟨hP, hD, hS, hl⟩ := hI
      refine lv_iload_n hx hb dX7_hours_9 rfl (lv_at hl 2 rfl) ?_
      refine lv_iload_n hx hb dX7_hours_10 rfl (lv_at hl 1 rfl) ?_
      refine lv_icmp_ge (tgt := 64) hx hb dX7_hours_11 (by decide) (fun c_4 => ?_) (fun c_4 => ?_)
      · exact absurd c_4 (nI_ge hk (by omega))
      · refine lv_iconst (v := 0) hx hb dX7_hours_14 (by decide) ?_
        refine lv_istore_n (lv' := [(3, .int 0), (0, .ref h), (1, .int (nI N)), (2, .int (nI k))]) hx hb dX7_hours_15 rfl hl (by decide) rfl (fun ls hl => ?_)
        refine lv_iload_n hx hb dX7_hours_16 rfl (lv_at hl 0 rfl) ?_
        refine lv_aload_n hx hb dX7_hours_17 rfl (lv_at hl 1 rfl) ?_
        refine va_get (D := D) (ci := 11) (v := .ref cs) (C := RX7) (T := TX7) (N := 7) hx hb hts iwX7 hown hK hP 0 rfl rfl 0 (by decide) (hts _ q98) (fun _ h9 => h9) rfl dX7_hours_18 ?_
        have hPc := hP.sub (ws' := [(cs, .inr (4, [.int md, ed, .int 0]))]) [1] rfl
        have hDc := hD.sub (ws' := [(cs, .inr (4, [.int md, ed, .int 0]))]) [1] (by decide) rfl
        have hKc := hK.sub (tys' := []) [] rfl
        refine va_calli (va_runV (As := []) (rest := [.int 0]) ⟨hx, hb, hml, hown, hts⟩ (k_AL_size l D cs md (ed) 0 H.size) (cwV 0 hts (gV q125 q126 q127 q4 (gA q128)) rfl rfl rfl (by decide +kernel) ⟨Nat.le_of_ble_eq_true rfl, Nat.le_of_ble_eq_true rfl⟩) ⟨EV.fb, va_recv hKc hPc (ci := 4) (q0 := 0) rfl rfl, fun U hU hW => ⟨rfl, EV.at hPc hKc hDc hG (hZ.no hS) U hU hW⟩⟩ rfl rfl hl.1 rfl (lv_room (Nat.le_of_ble_eq_true rfl)) dX7_hours_21 ⟨Nat.le_of_ble_eq_true rfl, Nat.le_of_ble_eq_true rfl⟩) hS (fun q _ h => h.elim) (fun q h => h.elim) (fun r_5 u t H1 locs ht hvm hw hB hz1 hk1 hS => ?_)
        have hP := P_kept hP hk1
        generalize H1 = H at hP hS ⊢
        have hP : va_P D vwCl [(h, .inr (11, [.ref cs, f1, f2, f3, f4, f5, .int (nI k)])), (cs, .inr (4, [.int md, ed, .int 0]))] H := hP
        subst hw
        refine lv_icmp_ge (tgt := 48) hx hb dX7_hours_24 (by decide) (fun c_6 => ?_) (fun c_6 => ?_)
        · refine lv_aload_n hx hb dX7_hours_48 rfl (lv_at hl 1 rfl) ?_
          refine lv_dup hx hb dX7_hours_49 rfl ?_
          refine va_get (D := D) (ci := 11) (v := .int (nI k)) (C := RX7) (T := TX7) (N := 7) hx hb hts iwX7 hown hK hP 0 rfl rfl 6 (by decide) (hts _ q104) (fun _ h9 => h9) rfl dX7_hours_50 ?_
          refine lv_iconst (v := 1) hx hb dX7_hours_53 (by decide) ?_
          refine lv_iadd hx hb dX7_hours_54 ?_
          refine va_put (D := D) (ci := 11) (v := .int ((nI k) + 1)) (ty := .int) (C := RX7) (T := TX7) (N := 7) hx hb hts iwX7 tyX7 tyX7_ok nmX7 hown hK hP hD hS 0 rfl rfl 6 (by decide) (hts _ q104) (fun _ h9 => h9) rfl (by decide +kernel) rfl rfl (Nat.le_of_ble_eq_true rfl) dX7_hours_55 (fun H locs hP hD hS => ?_)
          have hP : va_P D vwCl [(h, .inr (11, [.ref cs, f1, f2, f3, f4, f5, .int ((nI k) + 1)])), (cs, .inr (4, [.int md, ed, .int 0]))] H := hP
          have hD : va_D A [(h, .inr (11, [.ref cs, f1, f2, f3, f4, f5, .int ((nI k) + 1)])), (cs, .inr (4, [.int md, ed, .int 0]))] := hD
          refine lv_iinc (v := ((nI k) + 1)) (lv' := [(2, .int ((nI k) + 1)), (3, .int 0), (0, .ref h), (1, .int (nI N))]) hx hb dX7_hours_58 hl (k := 3) rfl (by first | rfl | decide) (by decide) rfl (fun ls hl => ?_)
          refine lv_goto (tgt := 9) hx hb dX7_hours_61 (by decide) ?_
          exact ih H locs ls ⟨by rw [← nI_1]; exact hP, by rw [← nI_1]; exact hD, hS, by rw [← nI_1]; exact lv_sub hl [2, 3, 0] rfl⟩
        · exact absurd (by decide) c_6
    · intro H locs ls hI
      obtain ⟨hP, hD, hS, hl⟩ := hI
      refine lv_iload_n hx hb dX7_hours_9 rfl (lv_at hl 2 rfl) ?_
      refine lv_iload_n hx hb dX7_hours_10 rfl (lv_at hl 1 rfl) ?_
      refine lv_icmp_ge (tgt := 64) hx hb dX7_hours_11 (by decide) (fun c_7 => ?_) (fun c_7 => ?_)
      · refine lv_aload_n hx hb dX7_hours_64 rfl (lv_at hl 0 rfl) ?_
        refine va_get (D := D) (ci := 11) (v := .int (nI N)) (C := RX7) (T := TX7) (N := 7) hx hb hts iwX7 hown hK hP 0 rfl rfl 6 (by decide) (hts _ q104) (fun _ h9 => h9) rfl dX7_hours_65 ?_
        have hP9 := hP.sub (ws' := [(h, .inr (11, [.ref cs, f1, f2, f3, f4, f5, .int (nI N)]))]) [0] rfl
        have hD9 := hD.sub (ws' := [(h, .inr (11, [.ref cs, f1, f2, f3, f4, f5, .int (nI N)]))]) [0] (by decide) rfl
        refine W.widen (k := 1) (n := 6) (Nat.le_of_ble_eq_true rfl) (Nat.le_of_ble_eq_true rfl) ?_
        refine vx_ret ?_
        exact W.iret (v := (nI N)) hx hb hr (fun t ht hW => ⟨⟨(nI N), (nI N), rfl, ⟨rfl, hw_2⟩, by rw [ht]; exact hP9, hD9⟩, hS.F ht⟩) hS.2.2 dX7_hours_68
      · exact absurd (nI_le (Nat.le_refl N) (by omega)) c_7
set_option maxHeartbeats 4000000 in
set_option maxRecDepth 100000 in
/-- the helper hours -/
theorem k_LL_hours (l : Launch) (hst : l.stackTraces = false) (D : va_G) (h cs : Nat) (f1 f2 f3 f4 f5 : Value) (md : Int32) (ed : Value) (p0 : Int32) (o : Nat) (cA : ClassId) (f : Nat → Int64) (sz : Nat) : Met l yL_hours (wsH yL_hours cL_hours 4 (some .int) [(0, 9, 12, 13)]) ({ frames := 8, cells := 1, slots := 6, locals := 127 }) (va_Pc [.ref h, .int p0, .ref o] (EV D [(cA, .long)] [(h, .inr (11, [.ref cs, f1, f2, f3, f4, f5, .int 0])), (cs, .inr (4, [.int md, ed, .int 0])), (o, .inl (cA, 1, .inr (.inl f)))] sz)) (va_Qi (fun (r : Int32) (u : Nat → Int64) => QH (good p0 1 48) (Int32.toInt64 p0) r u) (fun u t => va_P D vwCl [(o, .inl (cA, 1, .inr (.inl u)))] t.heap ∧ va_D (va_A [(h, .inr (11, [.ref cs, f1, f2, f3, f4, f5, .int 0])), (cs, .inr (4, [.int md, ed, .int 0])), (o, .inl (cA, 1, .inr (.inl f)))] sz) [(o, .inl (cA, 1, .inr (.inl u)))]) (va_A [(h, .inr (11, [.ref cs, f1, f2, f3, f4, f5, .int 0])), (cs, .inr (4, [.int md, ed, .int 0])), (o, .inl (cA, 1, .inr (.inl f)))] sz)) 1 6 (va_A [(h, .inr (11, [.ref cs, f1, f2, f3, f4, f5, .int 0])), (cs, .inr (4, [.int md, ed, .int 0])), (o, .inl (cA, 1, .inr (.inl f)))] sz) := by
  refine va_MetW (cc := cL_hours) (maxL := 4) (ret := (some .int)) (hh := [(0, 9, 12, 13)]) (ws' := lw_all) (by decide) rfl ?_
  intro p e s m args below meth c s₁ B hml hv
  obtain ⟨rfl, hsz, hP, hK, hD0, hG, hZ0⟩ := hv
  have hx := B.exec
  have hb := B.bytes
  have hr := B.returns
  have hts0 := atoms_spec (ws := wsH yL_hours cL_hours 4 (some .int) [(0, 9, 12, 13)]) B.pre
  have hts : ∀ w ∈ lw_all, w.before _ s = true := fun w h => hts0 w (List.mem_cons_of_mem _ h)
  have hown : s.vm.findClass RL = some m.cls := findClass_of_methodNamed B.named
  have hlocks := B.notSynchronized
  have htab : c.exceptionTable.toList = tableOf [(0, 9, 12, 13)] := vx_table (x := objectInit) B (hts0 _ List.mem_cons_self)
  subst hsz
  have hZ := ZZ.wide hP hZ0
  have hD := hD0.self (sz := s.heap.size)
  generalize hAe : va_A [(h, .inr (11, [.ref cs, f1, f2, f3, f4, f5, .int 0])), (cs, .inr (4, [.int md, ed, .int 0])), (o, .inl (cA, 1, .inr (.inl f)))] s.heap.size = A at hD hZ ⊢
  have hA : ∀ q : Nat, s.heap.size ≤ q → A q := fun q h => by rw [← hAe]; exact Or.inr h
  have hS : va_S A s.heap s.heap [] := va_S.rf
  have hP : va_P D vwCl [(h, .inr (11, [.ref cs, f1, f2, f3, f4, f5, .int 0])), (cs, .inr (4, [.int md, ed, .int 0])), (o, .inl (cA, 1, .inr (.inl f)))] s.heap := hP
  have hl := lv_entry ([.ref h, .int p0, .ref o]) (n := 4) (Nat.le_of_ble_eq_true rfl)
  rw [lg_entry_eq]
  generalize (lg_sl ([.ref h, .int p0, .ref o]) ++ List.replicate (4 - (lg_sl ([.ref h, .int p0, .ref o])).length) Slot.unset).toArray = ls at hl ⊢
  have hl : lv_has ls 4 [(0, .ref h), (1, .int p0), (2, .ref o)] := hl
  refine lv_aload_n hx hb dL_hours_0 rfl (lv_at hl 2 rfl) ?_
  refine lv_iconst (v := 0) hx hb dL_hours_1 (by decide) ?_
  refine lv_aload_n hx hb dL_hours_2 rfl (lv_at hl 0 rfl) ?_
  refine lv_iload_n hx hb dL_hours_3 rfl (lv_at hl 1 rfl) ?_
  have hPc := hP.sub (ws' := [(h, .inr (11, [.ref cs, f1, f2, f3, f4, f5, .int 0])), (cs, .inr (4, [.int md, ed, .int 0]))]) [0, 1] rfl
  have hDc := hD.sub (ws' := [(h, .inr (11, [.ref cs, f1, f2, f3, f4, f5, .int 0])), (cs, .inr (4, [.int md, ed, .int 0]))]) [0, 1] (by decide) rfl
  have hKc := hK.sub (tys' := []) [] rfl
  have hFc := va_free (wc := [(h, .inr (11, [.ref cs, f1, f2, f3, f4, f5, .int 0])), (cs, .inr (4, [.int md, ed, .int 0]))]) hD hS hA [0, 1] rfl
  refine vx_calli (vx_runV (As := [.int p0]) (rest := [.int 0, .ref o]) ⟨hx, hb, hml, hown, hts⟩ (k_LF_hours l hst D h cs f1 f2 f3 f4 f5 md (ed) p0 s.heap.size) (cwV 1 hts (gV q924 q925 q926 q1 (gA q927)) rfl rfl rfl (by decide +kernel) ⟨Nat.le_of_ble_eq_true rfl, Nat.le_of_ble_eq_true rfl⟩) ⟨EV.fb, va_recv hKc hPc (ci := 11) (q0 := 0) rfl rfl, fun U hU hW => ⟨rfl, EV.at hPc hKc hDc hG (hZ.no hS) U hU hW⟩⟩ rfl rfl hl.1 rfl (lv_room (Nat.le_of_ble_eq_true rfl)) dL_hours_4 ⟨Nat.le_of_ble_eq_true rfl, Nat.le_of_ble_eq_true rfl⟩) hS (fun q _ h => hFc q h) hFc (fun q _ h => hFc q h) (fun E ce q9 u t H1 locs1 ht hvm hpx_3 hBX hz1 hk1 hS hcell hcv hcl => ?_) (fun r_1 u t H1 locs ht hvm hw_2 hB hz1 hk1 hS => ?_)
  · obtain ⟨hP, hD⟩ := va_join (wr := [(o, .inl (cA, 1, .inr (.inl f)))]) (w1 := []) hP hD [0, 1] [2] rfl rfl (by decide) (by decide) hk1 hFc P_nil D_nil
    subst hBX
    refine vx_catch (own := RL) (name := "java/lang/IllegalArgumentException") (E := "java/lang/IllegalArgumentException") hown [] ⟨0, 9, 12, 13⟩ [] (by rw [htab]; rfl) (fun z hz => absurd hz List.not_mem_nil) rfl (by decide) (hts _ q410) (hG.use t418) hcell hcv hcl ?_
    generalize H1 = H at hP hS ⊢
    have hP : va_P D vwCl [(o, .inl (cA, 1, .inr (.inl f)))] H := hP
    refine lv_astore_n (lv' := [(3, .ref q9), (0, .ref h), (1, .int p0), (2, .ref o)]) hx hb dL_hours_12 rfl hl (by decide) rfl (fun ls hl => ?_)
    refine lv_iconst (v := 1) hx hb dL_hours_13 (by decide) ?_
    have hP9 := hP.sub (ws' := [(o, .inl (cA, 1, .inr (.inl f)))]) [0] rfl
    have hD9 := hD.sub (ws' := [(o, .inl (cA, 1, .inr (.inl f)))]) [0] (by decide) rfl
    refine W.widen (k := 1) (n := 6) (Nat.le_of_ble_eq_true rfl) (Nat.le_of_ble_eq_true rfl) ?_
    exact W.iret (v := 1) hx hb hr (fun t ht hW => ⟨⟨1, f, rfl, Or.inr ⟨rfl, hpx_3⟩, by rw [ht]; exact hP9, hD9⟩, hS.F ht⟩) hS.2.2 dL_hours_14
  · obtain ⟨hP1, hD1⟩ := hB
    rw [ht] at hP1
    obtain ⟨hP, hD⟩ := va_join (wr := [(o, .inl (cA, 1, .inr (.inl f)))]) (w1 := [(h, .inr (11, [.ref cs, f1, f2, f3, f4, f5, .int u]))]) hP hD [0, 1] [2] rfl rfl (by decide) (by decide) hk1 hFc hP1 hD1
    generalize H1 = H at hP hS ⊢
    have hP : va_P D vwCl [(o, .inl (cA, 1, .inr (.inl f))), (h, .inr (11, [.ref cs, f1, f2, f3, f4, f5, .int u]))] H := hP
    have hD : va_D A [(o, .inl (cA, 1, .inr (.inl f))), (h, .inr (11, [.ref cs, f1, f2, f3, f4, f5, .int u]))] := hD
    obtain ⟨er, hg⟩ := hw_2
    rw [er]
    refine lv_i2l hx hb dL_hours_7 rfl ?_
    refine va_last hx hb hK hP hD hS 0 0 rfl rfl (x := (Int32.toInt64 p0)) (by unfold vp_in; decide) dL_hours_8 (fun H locs hP hD hS => ?_)
    have hP : va_P D vwCl [(o, .inl (cA, 1, .inr (.inl (vp_updL f 0 (Int32.toInt64 p0))))), (h, .inr (11, [.ref cs, f1, f2, f3, f4, f5, .int u]))] H := hP
    have hD : va_D A [(o, .inl (cA, 1, .inr (.inl (vp_updL f 0 (Int32.toInt64 p0))))), (h, .inr (11, [.ref cs, f1, f2, f3, f4, f5, .int u]))] := hD
    refine lv_goto (tgt := 15) hx hb dL_hours_9 (by decide) ?_
    refine lv_iconst (v := 0) hx hb dL_hours_15 (by decide) ?_
    have hP9 := hP.sub (ws' := [(o, .inl (cA, 1, .inr (.inl (vp_updL f 0 (Int32.toInt64 p0)))))]) [0] rfl
    have hD9 := hD.sub (ws' := [(o, .inl (cA, 1, .inr (.inl (vp_updL f 0 (Int32.toInt64 p0)))))]) [0] (by decide) rfl
    refine W.widen (k := 1) (n := 6) (Nat.le_of_ble_eq_true rfl) (Nat.le_of_ble_eq_true rfl) ?_
    exact W.iret (v := 0) hx hb hr (fun t ht hW => ⟨⟨0, (vp_updL f 0 (Int32.toInt64 p0)), rfl, Or.inl ⟨rfl, hg, rfl⟩, by rw [ht]; exact hP9, hD9⟩, hS.F ht⟩) hS.2.2 dL_hours_16
set_option maxHeartbeats 4000000 in
set_option maxRecDepth 100000 in
/-- hours of the fresh reference -/
theorem k_LM_hours (l : Launch) (D : va_G) (h : Nat) (th : Int32) (cs : Nat) (sk : Value) (md : Int32) (ed : Value) (p0 : Int32) (sz : Nat) : Met l yX12_hours (wsA yX12_hours cX12_hours 7 (some .int)) ({ frames := 3, cells := 48, slots := 192, locals := 53 }) (va_Pc [.ref h, .int p0] (EV D [] [(h, .inr (16, [.int th, .ref cs, sk, .int 0])), (cs, .inr (4, [.int md, ed, .int 0]))] sz)) (va_Qi (fun (r : Int32) (u : Int32 × Int32) => QM (good p0 1 48) p0 r u.1) (fun u t => va_P D vwCl [(h, .inr (16, [.int u.1, .ref cs, sk, .int u.2]))] t.heap ∧ va_D (va_A [(h, .inr (16, [.int th, .ref cs, sk, .int 0])), (cs, .inr (4, [.int md, ed, .int 0]))] sz) [(h, .inr (16, [.int u.1, .ref cs, sk, .int u.2]))]) (va_A [(h, .inr (16, [.int th, .ref cs, sk, .int 0])), (cs, .inr (4, [.int md, ed, .int 0]))] sz)) 48 192 (va_A [(h, .inr (16, [.int th, .ref cs, sk, .int 0])), (cs, .inr (4, [.int md, ed, .int 0]))] sz) := by
  refine Met.ofW (cc := cX12_hours) (maxL := 7) (ret := (some .int)) (by decide) rfl ?_
  intro p e s m args below meth c s₁ B hml hv
  obtain ⟨rfl, hsz, hP, hK, hD0, hG, hZ0⟩ := hv
  have hx := B.exec
  have hb := B.bytes
  have hr := B.returns
  have hts0 := atoms_spec (ws := wsA yX12_hours cX12_hours 7 (some .int)) B.pre
  have hts : ∀ w ∈ lw_all, w.before _ s = true := fun w h => hts0 w (List.mem_cons_of_mem _ h)
  have hown : s.vm.findClass RX12 = some m.cls := findClass_of_methodNamed B.named
  have hlocks := B.notSynchronized
  subst hsz
  have hZ := ZZ.wide hP hZ0
  have hD := hD0.self (sz := s.heap.size)
  generalize hAe : va_A [(h, .inr (16, [.int th, .ref cs, sk, .int 0])), (cs, .inr (4, [.int md, ed, .int 0]))] s.heap.size = A at hD hZ ⊢
  have hA : ∀ q : Nat, s.heap.size ≤ q → A q := fun q h => by rw [← hAe]; exact Or.inr h
  have hS : va_S A s.heap s.heap [] := va_S.rf
  have hP : va_P D vwCl [(h, .inr (16, [.int th, .ref cs, sk, .int 0])), (cs, .inr (4, [.int md, ed, .int 0]))] s.heap := hP
  have hl := lv_entry ([.ref h, .int p0]) (n := 7) (Nat.le_of_ble_eq_true rfl)
  rw [lg_entry_eq]
  generalize (lg_sl ([.ref h, .int p0]) ++ List.replicate (7 - (lg_sl ([.ref h, .int p0])).length) Slot.unset).toArray = ls at hl ⊢
  have hl : lv_has ls 7 [(0, .ref h), (1, .int p0)] := hl
  refine lv_aload_n hx hb dX12_hours_0 rfl (lv_at hl 0 rfl) ?_
  refine lv_iload_n hx hb dX12_hours_1 rfl (lv_at hl 1 rfl) ?_
  refine lv_i2l hx hb dX12_hours_2 rfl ?_
  refine lv_lconst (v := 1) hx hb dX12_hours_3 (by decide) ?_
  refine lv_ldc2 (v := 48) hx hb hown (hts _ q1530) dX12_hours_4 ?_
  have hPc := hP.sub (ws' := []) [] rfl
  have hDc := hD.sub (ws' := []) [] (by decide) rfl
  have hKc := hK.sub (tys' := []) [] rfl
  refine va_calli (va_runS (As := [.long (Int32.toInt64 p0), .long 1, .long 48]) (rest := [.ref h]) ⟨hx, hb, hml, hown, hts⟩ (k_LM_in l D (Int32.toInt64 p0) 1 48 s.heap.size) (va_cwS 3 hts (gS q1358 q1359 q6 (gA q1360)) rfl rfl rfl (by decide +kernel) ⟨Nat.le_of_ble_eq_true rfl, Nat.le_of_ble_eq_true rfl⟩) ⟨EV.fb, fun U hU hW => ⟨rfl, EV.at hPc hKc hDc hG (hZ.no hS) U hU hW⟩⟩ rfl rfl hl.1 rfl (lv_room (Nat.le_of_ble_eq_true rfl)) dX12_hours_7 ⟨Nat.le_of_ble_eq_true rfl, Nat.le_of_ble_eq_true rfl⟩) hS (fun q _ h => h.elim) (fun q h => h.elim) (fun r_1 u t H1 locs ht hvm hw hB hz1 hk1 hS => ?_)
  have hP := P_kept hP hk1
  generalize H1 = H at hP hS ⊢
  have hP : va_P D vwCl [(h, .inr (16, [.int th, .ref cs, sk, .int 0])), (cs, .inr (4, [.int md, ed, .int 0]))] H := hP
  subst hw
  refine lv_if_eq (tgt := 17) hx hb dX12_hours_10 (by decide) (fun c_2 => ?_) (fun c_2 => ?_)
  · refine lv_iconst (v := 1) hx hb dX12_hours_17 (by decide) ?_
    refine va_put (D := D) (ci := 16) (v := .int 1) (ty := .int) (C := RX12) (T := TX12) (N := 4) hx hb hts iwX12 tyX12 tyX12_ok nmX12 hown hK hP hD hS 0 rfl rfl 0 (by decide) (hts _ q1161) (fun _ h9 => h9) rfl (by decide +kernel) rfl rfl (Nat.le_of_ble_eq_true rfl) dX12_hours_18 (fun H locs hP hD hS => ?_)
    have hP : va_P D vwCl [(h, .inr (16, [.int 1, .ref cs, sk, .int 0])), (cs, .inr (4, [.int md, ed, .int 0]))] H := hP
    have hD : va_D A [(h, .inr (16, [.int 1, .ref cs, sk, .int 0])), (cs, .inr (4, [.int md, ed, .int 0]))] := hD
    refine lv_iconst (v := 0) hx hb dX12_hours_21 (by decide) ?_
    refine lv_istore_n (lv' := [(2, .int 0), (0, .ref h), (1, .int p0)]) hx hb dX12_hours_22 rfl hl (by decide) rfl (fun ls hl => ?_)
    refine lv_iload_n hx hb dX12_hours_23 rfl (lv_at hl 0 rfl) ?_
    refine lv_iload_n hx hb dX12_hours_24 rfl (lv_at hl 2 rfl) ?_
    refine lv_icmp_ge (tgt := 156) hx hb dX12_hours_25 (by decide) (fun c_3 => ?_) (fun c_3 => ?_)
    · refine lv_aload_n hx hb dX12_hours_156 rfl (lv_at hl 1 rfl) ?_
      refine va_get (D := D) (ci := 16) (v := .int 1) (C := RX12) (T := TX12) (N := 4) hx hb hts iwX12 hown hK hP 0 rfl rfl 0 (by decide) (hts _ q1161) (fun _ h9 => h9) rfl dX12_hours_157 ?_
      refine lv_if_le (tgt := 167) hx hb dX12_hours_160 (by decide) (fun c_4 => ?_) (fun c_4 => ?_)
      · exact absurd c_4 (by decide)
      · refine lv_iconst (v := 0) hx hb dX12_hours_163 (by decide) ?_
        refine lv_goto (tgt := 171) hx hb dX12_hours_164 (by decide) ?_
        have hP9 := hP.sub (ws' := [(h, .inr (16, [.int 1, .ref cs, sk, .int 0]))]) [0] rfl
        have hD9 := hD.sub (ws' := [(h, .inr (16, [.int 1, .ref cs, sk, .int 0]))]) [0] (by decide) rfl
        refine W.widen (k := 48) (n := 192) (Nat.le_of_ble_eq_true rfl) (Nat.le_of_ble_eq_true rfl) ?_
        exact W.iret (v := 0) hx hb hr (fun t ht hW => ⟨⟨0, (1, 0), rfl, Or.inr ⟨rfl, xin_bad (by decide) (by decide) c_2⟩, by rw [ht]; exact hP9, hD9⟩, hS.F ht⟩) hS.2.2 dX12_hours_171
    · refine lv_aload_n hx hb dX12_hours_28 rfl (lv_at hl 1 rfl) ?_
      refine va_get (D := D) (ci := 16) (v := .int 1) (C := RX12) (T := TX12) (N := 4) hx hb hts iwX12 hown hK hP 0 rfl rfl 0 (by decide) (hts _ q1161) (fun _ h9 => h9) rfl dX12_hours_29 ?_
      refine lv_if_ne (tgt := 156) hx hb dX12_hours_32 (by decide) (fun c_5 => ?_) (fun c_5 => ?_)
      · refine lv_aload_n hx hb dX12_hours_156 rfl (lv_at hl 1 rfl) ?_
        refine va_get (D := D) (ci := 16) (v := .int 1) (C := RX12) (T := TX12) (N := 4) hx hb hts iwX12 hown hK hP 0 rfl rfl 0 (by decide) (hts _ q1161) (fun _ h9 => h9) rfl dX12_hours_157 ?_
        refine lv_if_le (tgt := 167) hx hb dX12_hours_160 (by decide) (fun c_6 => ?_) (fun c_6 => ?_)
        · exact absurd c_6 (by decide)
        · refine lv_iconst (v := 0) hx hb dX12_hours_163 (by decide) ?_
          refine lv_goto (tgt := 171) hx hb dX12_hours_164 (by decide) ?_
          have hP9 := hP.sub (ws' := [(h, .inr (16, [.int 1, .ref cs, sk, .int 0]))]) [0] rfl
          have hD9 := hD.sub (ws' := [(h, .inr (16, [.int 1, .ref cs, sk, .int 0]))]) [0] (by decide) rfl
          refine W.widen (k := 48) (n := 192) (Nat.le_of_ble_eq_true rfl) (Nat.le_of_ble_eq_true rfl) ?_
          exact W.iret (v := 0) hx hb hr (fun t ht hW => ⟨⟨0, (1, 0), rfl, Or.inr ⟨rfl, xin_bad (by decide) (by decide) c_2⟩, by rw [ht]; exact hP9, hD9⟩, hS.F ht⟩) hS.2.2 dX12_hours_171
      · exact absurd c_5 (by decide)
  · refine lv_iconst (v := 0) hx hb dX12_hours_13 (by decide) ?_
    refine lv_goto (tgt := 18) hx hb dX12_hours_14 (by decide) ?_
    refine va_put (D := D) (ci := 16) (v := .int 0) (ty := .int) (C := RX12) (T := TX12) (N := 4) hx hb hts iwX12 tyX12 tyX12_ok nmX12 hown hK hP hD hS 0 rfl rfl 0 (by decide) (hts _ q1161) (fun _ h9 => h9) rfl (by decide +kernel) rfl rfl (Nat.le_of_ble_eq_true rfl) dX12_hours_18 (fun H locs hP hD hS => ?_)
    have hP : va_P D vwCl [(h, .inr (16, [.int 0, .ref cs, sk, .int 0])), (cs, .inr (4, [.int md, ed, .int 0]))] H := hP
    have hD : va_D A [(h, .inr (16, [.int 0, .ref cs, sk, .int 0])), (cs, .inr (4, [.int md, ed, .int 0]))] := hD
    refine lv_iconst (v := 0) hx hb dX12_hours_21 (by decide) ?_
    refine lv_istore_n (lv' := [(2, .int 0), (0, .ref h), (1, .int p0)]) hx hb dX12_hours_22 rfl hl (by decide) rfl (fun ls hl => ?_)
    have hg0 : good p0 1 48 := xin_good (by decide) (by decide) c_2
    obtain ⟨N, hN1, hN2, hN3⟩ := good_nat hg0
    subst hN3
    refine loop_up N (fun k => k) (fun k => 4 * k) (fun k H locs ls => va_P D vwCl [(h, .inr (16, [.int 0, .ref cs, sk, .int (nI k)])), (cs, .inr (4, [.int md, ed, .int 0]))] H ∧ va_D A [(h, .inr (16, [.int 0, .ref cs, sk, .int (nI k)])), (cs, .inr (4, [.int md, ed, .int 0]))] ∧ va_S A s.heap H locs ∧ lv_has ls 7 [(0, .ref h), (1, .int (nI N)), (2, .int (nI k))]) ?_ ?_ H locs ls ⟨hP, hD, hS, lv_sub hl [1, 2, 0] rfl⟩
    · intro k H locs ls hk hI ih
      obtain ⟨hP, hD, hS, hl⟩ := hI
      show W _ _ _ _ _ _ _ _ _ _ _ _ k (4 * k) _ _
      have hc1 : k + 1 ≤ 48 := by omega
      have hc2 : 4 * k + 4 ≤ 192 := by omega
      refine lv_iload_n hx hb dX12_hours_23 rfl (lv_at hl 2 rfl) ?_
      refine lv_iload_n hx hb dX12_hours_24 rfl (lv_at hl 1 rfl) ?_
      refine lv_icmp_ge (tgt := 156) hx hb dX12_hours_25 (by decide) (fun c_7 => ?_) (fun c_7 => ?_)
      · exact absurd c_7 (nI_ge hk (by omega))
      · refine lv_aload_n hx hb dX12_hours_28 rfl (lv_at hl 0 rfl) ?_
        refine va_get (D := D) (ci := 16) (v := .int 0) (C := RX12) (T := TX12) (N := 4) hx hb hts iwX12 hown hK hP 0 rfl rfl 0 (by decide) (hts _ q1161) (fun _ h9 => h9) rfl dX12_hours_29 ?_
        refine lv_if_ne (tgt := 156) hx hb dX12_hours_32 (by decide) (fun c_8 => ?_) (fun c_8 => ?_)
        · exact absurd rfl c_8
        · refine lv_aload_n hx hb dX12_hours_35 rfl (lv_at hl 0 rfl) ?_
          refine va_get (D := D) (ci := 16) (v := .ref cs) (C := RX12) (T := TX12) (N := 4) hx hb hts iwX12 hown hK hP 0 rfl rfl 1 (by decide) (hts _ q1162) (fun _ h9 => h9) rfl dX12_hours_36 ?_
          have hPc := hP.sub (ws' := [(cs, .inr (4, [.int md, ed, .int 0]))]) [1] rfl
          have hDc := hD.sub (ws' := [(cs, .inr (4, [.int md, ed, .int 0]))]) [1] (by decide) rfl
          have hKc := hK.sub (tys' := []) [] rfl
          have hFc := va_free (wc := [(cs, .inr (4, [.int md, ed, .int 0]))]) hD hS hA [1] rfl
          refine va_callr (va_runV (As := []) (rest := []) ⟨hx, hb, hml, hown, hts⟩ (k_AL_iterator l D cs md (ed) 0 H.size) (cwV 0 hts (gV q1531 q1532 q1533 q4 (gA q1534)) rfl rfl rfl (by decide +kernel) ⟨Nat.le_of_ble_eq_true rfl, Nat.le_of_ble_eq_true rfl⟩) ⟨EV.fb, va_recv hKc hPc (ci := 4) (q0 := 0) rfl rfl, fun U hU hW => ⟨rfl, EV.at hPc hKc hDc hG (hZ.no hS) U hU hW⟩⟩ rfl rfl hl.1 rfl (lv_room (Nat.le_of_ble_eq_true rfl)) dX12_hours_39 ⟨hc1, hc2⟩) hS (fun q _ h => hFc q h) hFc (fun u ra_9 t H1 locs ht hvm hw hB hz1 hk1 hS => ?_)
          obtain ⟨hP1, hD1⟩ := hB
          rw [ht] at hP1
          obtain ⟨hP, hD⟩ := va_join (wr := [(h, .inr (16, [.int 0, .ref cs, sk, .int (nI k)]))]) (w1 := [(cs, .inr (4, [.int md, ed, .int 0])), (ra_9, .inr (3, [.int 0, .int (-1), .int md, .ref cs]))]) hP hD [1] [0] rfl rfl (by decide) (by decide) hk1 hFc hP1 hD1
          generalize H1 = H at hP hS ⊢
          have hP : va_P D vwCl [(h, .inr (16, [.int 0, .ref cs, sk, .int (nI k)])), (cs, .inr (4, [.int md, ed, .int 0])), (ra_9, .inr (3, [.int 0, .int (-1), .int md, .ref cs]))] H := hP
          have hD : va_D A [(h, .inr (16, [.int 0, .ref cs, sk, .int (nI k)])), (cs, .inr (4, [.int md, ed, .int 0])), (ra_9, .inr (3, [.int 0, .int (-1), .int md, .ref cs]))] := hD
          refine lv_astore_n (lv' := [(3, .ref ra_9), (0, .ref h), (1, .int (nI N)), (2, .int (nI k))]) hx hb dX12_hours_42 rfl hl (by decide) rfl (fun ls hl => ?_)
          refine lv_aload_n hx hb dX12_hours_43 rfl (lv_at hl 0 rfl) ?_
          have hPc := hP.sub (ws' := [(ra_9, .inr (3, [.int 0, .int (-1), .int md, .ref cs])), (cs, .inr (4, [.int md, ed, .int 0]))]) [2, 1] rfl
          have hDc := hD.sub (ws' := [(ra_9, .inr (3, [.int 0, .int (-1), .int md, .ref cs])), (cs, .inr (4, [.int md, ed, .int 0]))]) [2, 1] (by decide) rfl
          have hKc := hK.sub (tys' := []) [] rfl
          refine va_callFi (va_runF (C := RJx35411) (hK.1 3 _ rfl).2 (As := []) (rest := []) ⟨hx, hb, hml, hown, hts⟩ (k_It_hasNext0 l D ra_9 cs (-1) md md (ed) H.size) (va_cwF 0 hts (gF q1555 q1559 q1561 q37 (gA q1563)) rfl rfl rfl (va_Fw.of (A := #[]) (hG.use t1557) (hG.use t1556) (hG.use t1562) (hG.use t1560) (hG.use t1558)) (by decide +kernel) ⟨Nat.le_of_ble_eq_true rfl, Nat.le_of_ble_eq_true rfl⟩) ⟨EV.fb, va_recv hKc hPc (ci := 3) (q0 := 0) rfl rfl, fun U hU hW => ⟨rfl, EV.at hPc hKc hDc hG (hZ.no hS) U hU hW⟩⟩ rfl rfl hl.1 rfl (lv_room (Nat.le_of_ble_eq_true rfl)) dX12_hours_44 ⟨hc1, hc2⟩) hS (fun q _ h => h.elim) (fun q h => h.elim) (fun r u t H1 locs ht hvm hw hB hz1 hk1 hS => ?_)
          have hP := P_kept hP hk1
          generalize H1 = H at hP hS ⊢
          have hP : va_P D vwCl [(h, .inr (16, [.int 0, .ref cs, sk, .int (nI k)])), (cs, .inr (4, [.int md, ed, .int 0])), (ra_9, .inr (3, [.int 0, .int (-1), .int md, .ref cs]))] H := hP
          subst hw
          refine lv_if_eq (tgt := 140) hx hb dX12_hours_49 (by decide) (fun c_10 => ?_) (fun c_10 => ?_)
          · refine lv_aload_n hx hb dX12_hours_140 rfl (lv_at hl 1 rfl) ?_
            refine lv_dup hx hb dX12_hours_141 rfl ?_
            refine va_get (D := D) (ci := 16) (v := .int (nI k)) (C := RX12) (T := TX12) (N := 4) hx hb hts iwX12 hown hK hP 0 rfl rfl 3 (by decide) (hts _ q1164) (fun _ h9 => h9) rfl dX12_hours_142 ?_
            refine lv_iconst (v := 1) hx hb dX12_hours_145 (by decide) ?_
            refine lv_iadd hx hb dX12_hours_146 ?_
            refine va_put (D := D) (ci := 16) (v := .int ((nI k) + 1)) (ty := .int) (C := RX12) (T := TX12) (N := 4) hx hb hts iwX12 tyX12 tyX12_ok nmX12 hown hK hP hD hS 0 rfl rfl 3 (by decide) (hts _ q1164) (fun _ h9 => h9) rfl (by decide +kernel) rfl rfl (Nat.le_of_ble_eq_true rfl) dX12_hours_147 (fun H locs hP hD hS => ?_)
            have hP : va_P D vwCl [(h, .inr (16, [.int 0, .ref cs, sk, .int ((nI k) + 1)])), (cs, .inr (4, [.int md, ed, .int 0])), (ra_9, .inr (3, [.int 0, .int (-1), .int md, .ref cs]))] H := hP
            have hD : va_D A [(h, .inr (16, [.int 0, .ref cs, sk, .int ((nI k) + 1)])), (cs, .inr (4, [.int md, ed, .int 0])), (ra_9, .inr (3, [.int 0, .int (-1), .int md, .ref cs]))] := hD
            refine lv_iinc (v := ((nI k) + 1)) (lv' := [(2, .int ((nI k) + 1)), (3, .ref ra_9), (0, .ref h), (1, .int (nI N))]) hx hb dX12_hours_150 hl (k := 3) rfl (by first | rfl | decide) (by decide) rfl (fun ls hl => ?_)
            refine lv_goto (tgt := 23) hx hb dX12_hours_153 (by decide) ?_
            refine W.widen (k := k + 1) (n := 4 * (k + 1)) (by omega) (by omega) ?_
            have hP9 := hP.sub (ws' := [(h, .inr (16, [.int 0, .ref cs, sk, .int ((nI k) + 1)])), (cs, .inr (4, [.int md, ed, .int 0]))]) [0, 1] rfl
            have hD9 := hD.sub (ws' := [(h, .inr (16, [.int 0, .ref cs, sk, .int ((nI k) + 1)])), (cs, .inr (4, [.int md, ed, .int 0]))]) [0, 1] (by decide) rfl
            exact ih H locs ls ⟨by rw [← nI_1]; exact hP9, by rw [← nI_1]; exact hD9, hS, by rw [← nI_1]; exact lv_sub hl [2, 3, 0] rfl⟩
          · exact absurd (by decide) c_10
    · intro H locs ls hI
      obtain ⟨hP, hD, hS, hl⟩ := hI
      show W _ _ _ _ _ _ _ _ _ _ _ _ N (4 * N) _ _
      refine lv_iload_n hx hb dX12_hours_23 rfl (lv_at hl 2 rfl) ?_
      refine lv_iload_n hx hb dX12_hours_24 rfl (lv_at hl 1 rfl) ?_
      refine lv_icmp_ge (tgt := 156) hx hb dX12_hours_25 (by decide) (fun c_11 => ?_) (fun c_11 => ?_)
      · refine lv_aload_n hx hb dX12_hours_156 rfl (lv_at hl 0 rfl) ?_
        refine va_get (D := D) (ci := 16) (v := .int 0) (C := RX12) (T := TX12) (N := 4) hx hb hts iwX12 hown hK hP 0 rfl rfl 0 (by decide) (hts _ q1161) (fun _ h9 => h9) rfl dX12_hours_157 ?_
        refine lv_if_le (tgt := 167) hx hb dX12_hours_160 (by decide) (fun c_12 => ?_) (fun c_12 => ?_)
        · refine lv_aload_n hx hb dX12_hours_167 rfl (lv_at hl 0 rfl) ?_
          refine va_get (D := D) (ci := 16) (v := .int (nI N)) (C := RX12) (T := TX12) (N := 4) hx hb hts iwX12 hown hK hP 0 rfl rfl 3 (by decide) (hts _ q1164) (fun _ h9 => h9) rfl dX12_hours_168 ?_
          have hP9 := hP.sub (ws' := [(h, .inr (16, [.int 0, .ref cs, sk, .int (nI N)]))]) [0] rfl
          have hD9 := hD.sub (ws' := [(h, .inr (16, [.int 0, .ref cs, sk, .int (nI N)]))]) [0] (by decide) rfl
          refine W.widen (k := 48) (n := 192) (hN2) (by omega) ?_
          exact W.iret (v := (nI N)) hx hb hr (fun t ht hW => ⟨⟨(nI N), (0, nI N), rfl, Or.inl ⟨rfl, hg0, rfl⟩, by rw [ht]; exact hP9, hD9⟩, hS.F ht⟩) hS.2.2 dX12_hours_171
        · exact absurd (by decide) c_12
      · exact absurd (nI_le (Nat.le_refl N) (by omega)) c_11
