theorem dL_column_0 : decode cL_column 0 = .ok (.aload_n 2, 1) := by decide +kernel
theorem dL_column_1 : decode cL_column 1 = .ok (.iconst 0, 1) := by decide +kernel
theorem dL_column_2 : decode cL_column 2 = .ok (.aload_n 0, 1) := by decide +kernel
theorem dL_column_3 : decode cL_column 3 = .ok (.iload_n 1, 1) := by decide +kernel
theorem dL_column_4 : decode cL_column 4 = .ok (.invokevirtual 7, 3) := by decide +kernel
theorem dL_column_7 : decode cL_column 7 = .ok (.i2l, 1) := by decide +kernel
theorem dL_column_8 : decode cL_column 8 = .ok (.lastore, 1) := by decide +kernel
theorem dL_column_9 : decode cL_column 9 = .ok (.goto 9, 3) := by decide +kernel
theorem dL_column_12 : decode cL_column 12 = .ok (.astore_n 3, 1) := by decide +kernel
theorem dL_column_13 : decode cL_column 13 = .ok (.iconst 1, 1) := by decide +kernel
theorem dL_column_14 : decode cL_column 14 = .ok (.ireturn, 1) := by decide +kernel
theorem dL_column_18 : decode cL_column 18 = .ok (.iconst 0, 1) := by decide +kernel
theorem dL_column_19 : decode cL_column 19 = .ok (.ireturn, 1) := by decide +kernel
theorem dX12_column_0 : decode cX12_column 0 = .ok (.aload_n 0, 1) := by decide +kernel
theorem dX12_column_1 : decode cX12_column 1 = .ok (.ldc 58, 2) := by decide +kernel
theorem dX12_column_3 : decode cX12_column 3 = .ok (.iload_n 1, 1) := by decide +kernel
theorem dX12_column_4 : decode cX12_column 4 = .ok (.invokevirtual 3, 3) := by decide +kernel
theorem dX12_column_7 : decode cX12_column 7 = .ok (.ifCond .ge 7, 3) := by decide +kernel
theorem dX12_column_10 : decode cX12_column 10 = .ok (.iconst 1, 1) := by decide +kernel
theorem dX12_column_11 : decode cX12_column 11 = .ok (.goto 20, 3) := by decide +kernel
theorem dX12_column_14 : decode cX12_column 14 = .ok (.aload_n 0, 1) := by decide +kernel
theorem dX12_column_15 : decode cX12_column 15 = .ok (.getfield 18, 3) := by decide +kernel
theorem dX12_column_18 : decode cX12_column 18 = .ok (.invokevirtual 35, 3) := by decide +kernel
theorem dX12_column_21 : decode cX12_column 21 = .ok (.bipush 6, 2) := by decide +kernel
theorem dX12_column_23 : decode cX12_column 23 = .ok (.if_icmp .ne 7, 3) := by decide +kernel
theorem dX12_column_30 : decode cX12_column 30 = .ok (.iconst 0, 1) := by decide +kernel
theorem dX12_column_31 : decode cX12_column 31 = .ok (.putfield 31, 3) := by decide +kernel
theorem dX12_column_34 : decode cX12_column 34 = .ok (.aload_n 0, 1) := by decide +kernel
theorem dX12_column_35 : decode cX12_column 35 = .ok (.getfield 31, 3) := by decide +kernel
theorem dX12_column_38 : decode cX12_column 38 = .ok (.ifCond .le 5, 3) := by decide +kernel
theorem dX12_column_41 : decode cX12_column 41 = .ok (.iconst 0, 1) := by decide +kernel
theorem dX12_column_42 : decode cX12_column 42 = .ok (.ireturn, 1) := by decide +kernel
theorem dX12_column_43 : decode cX12_column 43 = .ok (.aload_n 0, 1) := by decide +kernel
theorem dX12_column_44 : decode cX12_column 44 = .ok (.getfield 18, 3) := by decide +kernel
theorem dX12_column_47 : decode cX12_column 47 = .ok (.new 51, 3) := by decide +kernel
theorem dX12_column_50 : decode cX12_column 50 = .ok (.dup, 1) := by decide +kernel
theorem dX12_column_51 : decode cX12_column 51 = .ok (.iload_n 1, 1) := by decide +kernel
theorem dX12_column_52 : decode cX12_column 52 = .ok (.invokespecial 60, 3) := by decide +kernel
theorem dX12_column_55 : decode cX12_column 55 = .ok (.invokevirtual 63, 3) := by decide +kernel
theorem dX12_column_58 : decode cX12_column 58 = .ok (.pop, 1) := by decide +kernel
theorem dX12_column_59 : decode cX12_column 59 = .ok (.aload_n 0, 1) := by decide +kernel
theorem dX12_column_60 : decode cX12_column 60 = .ok (.getfield 18, 3) := by decide +kernel
theorem dX12_column_63 : decode cX12_column 63 = .ok (.invokevirtual 35, 3) := by decide +kernel
theorem dX12_column_66 : decode cX12_column 66 = .ok (.iconst 1, 1) := by decide +kernel
theorem dX12_column_67 : decode cX12_column 67 = .ok (.isub, 1) := by decide +kernel
theorem dX12_column_68 : decode cX12_column 68 = .ok (.ireturn, 1) := by decide +kernel
theorem dX7_column_0 : decode cX7_column 0 = .ok (.iload_n 1, 1) := by decide +kernel
theorem dX7_column_1 : decode cX7_column 1 = .ok (.bipush 102, 2) := by decide +kernel
theorem dX7_column_3 : decode cX7_column 3 = .ok (.if_icmp .eq 25, 3) := by decide +kernel
theorem dX7_column_6 : decode cX7_column 6 = .ok (.iload_n 1, 1) := by decide +kernel
theorem dX7_column_7 : decode cX7_column 7 = .ok (.bipush 115, 2) := by decide +kernel
theorem dX7_column_9 : decode cX7_column 9 = .ok (.if_icmp .eq 19, 3) := by decide +kernel
theorem dX7_column_12 : decode cX7_column 12 = .ok (.iload_n 1, 1) := by decide +kernel
theorem dX7_column_13 : decode cX7_column 13 = .ok (.bipush 110, 2) := by decide +kernel
theorem dX7_column_15 : decode cX7_column 15 = .ok (.if_icmp .eq 13, 3) := by decide +kernel
theorem dX7_column_18 : decode cX7_column 18 = .ok (.new 40, 3) := by decide +kernel
theorem dX7_column_21 : decode cX7_column 21 = .ok (.dup, 1) := by decide +kernel
theorem dX7_column_22 : decode cX7_column 22 = .ok (.ldc 42, 2) := by decide +kernel
theorem dX7_column_24 : decode cX7_column 24 = .ok (.invokespecial 44, 3) := by decide +kernel
theorem dX7_column_27 : decode cX7_column 27 = .ok (.athrow, 1) := by decide +kernel
theorem dX7_column_28 : decode cX7_column 28 = .ok (.aload_n 0, 1) := by decide +kernel
theorem dX7_column_29 : decode cX7_column 29 = .ok (.getfield 10, 3) := by decide +kernel
theorem dX7_column_32 : decode cX7_column 32 = .ok (.invokevirtual 47, 3) := by decide +kernel
theorem dX7_column_35 : decode cX7_column 35 = .ok (.bipush 6, 2) := by decide +kernel
theorem dX7_column_37 : decode cX7_column 37 = .ok (.if_icmp .lt 13, 3) := by decide +kernel
theorem dX7_column_50 : decode cX7_column 50 = .ok (.aload_n 0, 1) := by decide +kernel
theorem dX7_column_51 : decode cX7_column 51 = .ok (.getfield 10, 3) := by decide +kernel
theorem dX7_column_54 : decode cX7_column 54 = .ok (.new 56, 3) := by decide +kernel
theorem dX7_column_57 : decode cX7_column 57 = .ok (.dup, 1) := by decide +kernel
theorem dX7_column_58 : decode cX7_column 58 = .ok (.iload_n 1, 1) := by decide +kernel
theorem dX7_column_59 : decode cX7_column 59 = .ok (.aload_n 0, 1) := by decide +kernel
theorem dX7_column_60 : decode cX7_column 60 = .ok (.getfield 37, 3) := by decide +kernel
theorem dX7_column_63 : decode cX7_column 63 = .ok (.invokespecial 58, 3) := by decide +kernel
theorem dX7_column_66 : decode cX7_column 66 = .ok (.invokevirtual 61, 3) := by decide +kernel
theorem dX7_column_69 : decode cX7_column 69 = .ok (.pop, 1) := by decide +kernel
theorem dX7_column_70 : decode cX7_column 70 = .ok (.aload_n 0, 1) := by decide +kernel
theorem dX7_column_71 : decode cX7_column 71 = .ok (.getfield 16, 3) := by decide +kernel
theorem dX7_column_74 : decode cX7_column 74 = .ok (.new 56, 3) := by decide +kernel
theorem dX7_column_77 : decode cX7_column 77 = .ok (.dup, 1) := by decide +kernel
theorem dX7_column_78 : decode cX7_column 78 = .ok (.iload_n 1, 1) := by decide +kernel
theorem dX7_column_79 : decode cX7_column 79 = .ok (.aload_n 0, 1) := by decide +kernel
theorem dX7_column_80 : decode cX7_column 80 = .ok (.getfield 37, 3) := by decide +kernel
theorem dX7_column_83 : decode cX7_column 83 = .ok (.invokespecial 58, 3) := by decide +kernel
theorem dX7_column_86 : decode cX7_column 86 = .ok (.invokevirtual 61, 3) := by decide +kernel
theorem dX7_column_89 : decode cX7_column 89 = .ok (.pop, 1) := by decide +kernel
theorem dX7_column_90 : decode cX7_column 90 = .ok (.aload_n 0, 1) := by decide +kernel
theorem dX7_column_91 : decode cX7_column 91 = .ok (.getfield 10, 3) := by decide +kernel
theorem dX7_column_94 : decode cX7_column 94 = .ok (.invokevirtual 47, 3) := by decide +kernel
theorem dX7_column_97 : decode cX7_column 97 = .ok (.iconst 1, 1) := by decide +kernel
theorem dX7_column_98 : decode cX7_column 98 = .ok (.isub, 1) := by decide +kernel
theorem dX7_column_99 : decode cX7_column 99 = .ok (.ireturn, 1) := by decide +kernel
theorem q13 : Cond.initialized RX1 ∈ lw_all := al_in (i := 13) (by decide +kernel) (by decide +kernel)
theorem q25 : Cond.initialized RX8 ∈ lw_all := al_in (i := 25) (by decide +kernel) (by decide +kernel)
theorem q143 : Cond.classLink RX7 56 RX1 ∈ lw_all := al_in (i := 143) (by decide +kernel) (by decide +kernel)
theorem q291 : Cond.instantiable RX1 13 ∈ lw_all := al_in (i := 291) (by decide +kernel) (by decide +kernel)
theorem q412 : Cond.methodLink RL 7 yX7_column ∈ lw_all := al_in (i := 412) (by decide +kernel) (by decide +kernel)
theorem q413 : Cond.instanceMethod yX7_column ∈ lw_all := al_in (i := 413) (by decide +kernel) (by decide +kernel)
theorem q414 : Cond.selects RX7 yX7_column yX7_column ∈ lw_all := al_in (i := 414) (by decide +kernel) (by decide +kernel)
theorem q415 : Cond.code yX7_column cX7_column 2 (some .int) ∈ lw_all := al_in (i := 415) (by decide +kernel) (by decide +kernel)
theorem q448 : Cond.methodLink RX7 58 yX1_init ∈ lw_all := al_in (i := 448) (by decide +kernel) (by decide +kernel)
theorem q449 : Cond.instanceMethod yX1_init ∈ lw_all := al_in (i := 449) (by decide +kernel) (by decide +kernel)
theorem q450 : Cond.code yX1_init cX1_init 3 none ∈ lw_all := al_in (i := 450) (by decide +kernel) (by decide +kernel)
theorem q574 : Cond.methodLink RX7 61 yJx4a65c_add_9ea2d ∈ lw_all := al_in (i := 574) (by decide +kernel) (by decide +kernel)
theorem q575 : Cond.instanceMethod yJx4a65c_add_9ea2d ∈ lw_all := al_in (i := 575) (by decide +kernel) (by decide +kernel)
theorem q576 : Cond.selects RJx4a65c yJx4a65c_add_9ea2d yJx4a65c_add_9ea2d ∈ lw_all := al_in (i := 576) (by decide +kernel) (by decide +kernel)
theorem q577 : Cond.code yJx4a65c_add_9ea2d cJx4a65c_add_9ea2d 2 (some .boolean) ∈ lw_all := al_in (i := 577) (by decide +kernel) (by decide +kernel)
theorem q1183 : Cond.methodLink RX12 3 yJ0_indexOf_0f7a4 ∈ lw_all := al_in (i := 1183) (by decide +kernel) (by decide +kernel)
theorem q1184 : Cond.instanceMethod yJ0_indexOf_0f7a4 ∈ lw_all := al_in (i := 1184) (by decide +kernel) (by decide +kernel)
theorem q1185 : Cond.selects RJ0 yJ0_indexOf_0f7a4 yJ0_indexOf_0f7a4 ∈ lw_all := al_in (i := 1185) (by decide +kernel) (by decide +kernel)
theorem q1186 : Cond.code yJ0_indexOf_0f7a4 cJ0_indexOf_0f7a4 2 (some .int) ∈ lw_all := al_in (i := 1186) (by decide +kernel) (by decide +kernel)
theorem q1266 : Cond.classLink RX12 51 RX8 ∈ lw_all := al_in (i := 1266) (by decide +kernel) (by decide +kernel)
theorem q1267 : Cond.instantiable RX8 18 ∈ lw_all := al_in (i := 1267) (by decide +kernel) (by decide +kernel)
theorem q1268 : Cond.methodLink RX12 60 yX8_init ∈ lw_all := al_in (i := 1268) (by decide +kernel) (by decide +kernel)
theorem q1269 : Cond.instanceMethod yX8_init ∈ lw_all := al_in (i := 1269) (by decide +kernel) (by decide +kernel)
theorem q1270 : Cond.code yX8_init cX8_init 2 none ∈ lw_all := al_in (i := 1270) (by decide +kernel) (by decide +kernel)
theorem q1345 : Cond.methodLink RX12 63 yJx4a65c_add_9ea2d ∈ lw_all := al_in (i := 1345) (by decide +kernel) (by decide +kernel)
theorem t425 : Cond.stringRef RX7 42 "no such bottom" ∈ lw_st := al_stin (i := 425) (by decide +kernel) (by decide +kernel)
theorem MB.fb {e0 q v : Nat} {D : va_G} {tys : List (ClassId × FieldType)} {Wd : va_W} {sz : Nat} {av : List Value} : FrameBlind (va_Pc av (fun U => EY e0 D tys Wd sz U ∧ SF q v NoA U U.heap ∧ vk_R RX12 58 "fsn" q U)) := fun a U g mk h => ⟨h.1, (EY.fb (av := av) a U g mk ⟨h.1, h.2.1⟩).2, SF.mv (u := U) (U := U.calling g mk a) (Vm.Alike.refl U.vm) h.2.2.1, vk_R.same (u := U) (U := U.calling g mk a) rfl h.2.2.2⟩
set_option maxHeartbeats 4000000 in
set_option maxRecDepth 100000 in
/-- column on the fresh object -/
theorem k_LF_column (l : Launch) (hst : l.stackTraces = false) (D : va_G) (e0 : Nat) (h cs th : Nat) (f2 f3 f4 f5 : Value) (hh md md2 : Int32) (p0 : Int32) (sz : Nat) : vx_Met l yX7_column (wsA yX7_column cX7_column 2 (some .int)) ({ frames := 6, cells := 18, slots := 96, locals := 101 }) (va_Pc [.ref h, .int p0] (EY e0 D [] [(h, .inr (11, [.ref cs, .ref th, f2, f3, f4, f5, .int hh])), (cs, .inr (4, [.int md, .ref e0, .int 0])), (th, .inr (4, [.int md2, .ref e0, .int 0]))] sz)) (va_Qi (fun (r : Int32) (_ : Unit) => r = 0 ∧ isFSN p0) (fun _ t => va_P D vwCl [] t.heap ∧ va_D (va_A [(h, .inr (11, [.ref cs, .ref th, f2, f3, f4, f5, .int hh])), (cs, .inr (4, [.int md, .ref e0, .int 0])), (th, .inr (4, [.int md2, .ref e0, .int 0]))] sz) []) (va_A [(h, .inr (11, [.ref cs, .ref th, f2, f3, f4, f5, .int hh])), (cs, .inr (4, [.int md, .ref e0, .int 0])), (th, .inr (4, [.int md2, .ref e0, .int 0]))] sz)) (XG "java/lang/IllegalArgumentException" (¬ isFSN p0) (va_A [(h, .inr (11, [.ref cs, .ref th, f2, f3, f4, f5, .int hh])), (cs, .inr (4, [.int md, .ref e0, .int 0])), (th, .inr (4, [.int md2, .ref e0, .int 0]))] sz)) 18 96 (va_A [(h, .inr (11, [.ref cs, .ref th, f2, f3, f4, f5, .int hh])), (cs, .inr (4, [.int md, .ref e0, .int 0])), (th, .inr (4, [.int md2, .ref e0, .int 0]))] sz) := by
  refine vx_ofW (cc := cX7_column) (maxL := 2) (ret := (some .int)) (ws' := lw_all) (by decide) rfl ?_
  intro p e s m args below meth c s₁ B hml hnt hv
  obtain ⟨rfl, ⟨⟨hsz, hP, hK, hD0, hG, hZ0⟩, hZd0⟩, hZt, hAO⟩ := hv
  have hx := B.exec
  have hb := B.bytes
  have hr := B.returns
  have hts0 := atoms_spec (ws := wsA yX7_column cX7_column 2 (some .int)) B.pre
  have hts : ∀ w ∈ lw_all, w.before _ s = true := fun w h => hts0 w (List.mem_cons_of_mem _ h)
  have hown : s.vm.findClass RX7 = some m.cls := findClass_of_methodNamed B.named
  have hlocks := B.notSynchronized
  subst hsz
  have hZ := ZZ.wide hP hZ0
  have hZd := ZD.wide hP hZd0
  have hD := hD0.self (sz := s.heap.size)
  generalize hAe : va_A [(h, .inr (11, [.ref cs, .ref th, f2, f3, f4, f5, .int hh])), (cs, .inr (4, [.int md, .ref e0, .int 0])), (th, .inr (4, [.int md2, .ref e0, .int 0]))] s.heap.size = A at hD hZ hZd hZt ⊢
  have hA : ∀ q : Nat, s.heap.size ≤ q → A q := fun q h => by rw [← hAe]; exact Or.inr h
  have hS : va_S A s.heap s.heap [] := va_S.rf
  have hP : va_P D vwCl [(h, .inr (11, [.ref cs, .ref th, f2, f3, f4, f5, .int hh])), (cs, .inr (4, [.int md, .ref e0, .int 0])), (th, .inr (4, [.int md2, .ref e0, .int 0]))] s.heap := hP
  have hl := lv_entry ([.ref h, .int p0]) (n := 2) (Nat.le_of_ble_eq_true rfl)
  rw [lg_entry_eq]
  generalize (lg_sl ([.ref h, .int p0]) ++ List.replicate (2 - (lg_sl ([.ref h, .int p0])).length) Slot.unset).toArray = ls at hl ⊢
  have hl : lv_has ls 2 [(0, .ref h), (1, .int p0)] := hl
  refine lv_iload_n hx hb dX7_column_0 rfl (lv_at hl 1 rfl) ?_
  refine lv_bipush (v := 102) hx hb dX7_column_1 (by decide) ?_
  refine lv_icmp_eq (tgt := 28) hx hb dX7_column_3 (by decide) (fun c_1 => ?_) (fun c_1 => ?_)
  · subst c_1
    refine lv_aload_n hx hb dX7_column_28 rfl (lv_at hl 0 rfl) ?_
    refine va_get (D := D) (ci := 11) (v := .ref cs) (C := RX7) (T := TX7) (N := 7) hx hb hts iwX7 hown hK hP 0 rfl rfl 0 (by decide) (hts _ q98) (fun _ h9 => h9) rfl dX7_column_29 ?_
    have hPc := hP.sub (ws' := [(cs, .inr (4, [.int md, .ref e0, .int 0]))]) [1] rfl
    have hDc := hD.sub (ws' := [(cs, .inr (4, [.int md, .ref e0, .int 0]))]) [1] (by decide) rfl
    have hKc := hK.sub (tys' := []) [] rfl
    refine va_calli (va_runV (As := []) (rest := []) ⟨hx, hb, hml, hown, hts⟩ (k_AL_size l D cs md (.ref e0) 0 s.heap.size) (cwV 0 hts (gV q125 q126 q127 q4 (gA q128)) rfl rfl rfl (by decide +kernel) ⟨Nat.le_of_ble_eq_true rfl, Nat.le_of_ble_eq_true rfl⟩) ⟨EV.fb, va_recv hKc hPc (ci := 4) (q0 := 0) rfl rfl, fun U hU hW => ⟨rfl, EV.at hPc hKc hDc hG (hZ.no hS) U hU hW⟩⟩ rfl rfl hl.1 rfl (lv_room (Nat.le_of_ble_eq_true rfl)) dX7_column_32 ⟨Nat.le_of_ble_eq_true rfl, Nat.le_of_ble_eq_true rfl⟩) hS (fun q _ h => h.elim) (fun q h => h.elim) (fun r_2 u t H1 locs ht hvm hw hB hz1 hk1 hS => ?_)
    have hP := P_kept hP hk1
    generalize H1 = H at hP hS ⊢
    have hP : va_P D vwCl [(h, .inr (11, [.ref cs, .ref th, f2, f3, f4, f5, .int hh])), (cs, .inr (4, [.int md, .ref e0, .int 0])), (th, .inr (4, [.int md2, .ref e0, .int 0]))] H := hP
    subst hw
    refine lv_bipush (v := 6) hx hb dX7_column_35 (by decide) ?_
    refine lv_icmp_lt (tgt := 50) hx hb dX7_column_37 (by decide) (fun c_3 => ?_) (fun c_3 => ?_)
    · refine lv_aload_n hx hb dX7_column_50 rfl (lv_at hl 0 rfl) ?_
      refine va_get (D := D) (ci := 11) (v := .ref cs) (C := RX7) (T := TX7) (N := 7) hx hb hts iwX7 hown hK hP 0 rfl rfl 0 (by decide) (hts _ q98) (fun _ h9 => h9) rfl dX7_column_51 ?_
      refine va_new (ci := 6) (fs := [.int 0, .null, .null, .null, .int 0, .int 0, .int 0, .int 0, .int 0, .int 0, .int 0, .long 0, .long 0]) (C := RX1) (T := TX1) (N := 13) hx hb hts iwX1 tyX1 tyX1_ok hown (hts _ q143) (hts _ q291) (hts _ q13) hK hP hD hS hA rfl (fun j hj => by rcases (show j = 0 ∨ j = 1 ∨ j = 2 ∨ j = 3 ∨ j = 4 ∨ j = 5 ∨ j = 6 ∨ j = 7 ∨ j = 8 ∨ j = 9 ∨ j = 10 ∨ j = 11 ∨ j = 12 by omega) with rfl | rfl | rfl | rfl | rfl | rfl | rfl | rfl | rfl | rfl | rfl | rfl | rfl <;> rfl) (Nat.le_of_ble_eq_true rfl) (Nat.le_of_ble_eq_true rfl) dX7_column_54 (fun o_4 H hP hD hS => ?_)
      have hP : va_P D vwCl [(h, .inr (11, [.ref cs, .ref th, f2, f3, f4, f5, .int hh])), (cs, .inr (4, [.int md, .ref e0, .int 0])), (th, .inr (4, [.int md2, .ref e0, .int 0])), (o_4, .inr (6, [.int 0, .null, .null, .null, .int 0, .int 0, .int 0, .int 0, .int 0, .int 0, .int 0, .long 0, .long 0]))] H := hP
      have hD : va_D A [(h, .inr (11, [.ref cs, .ref th, f2, f3, f4, f5, .int hh])), (cs, .inr (4, [.int md, .ref e0, .int 0])), (th, .inr (4, [.int md2, .ref e0, .int 0])), (o_4, .inr (6, [.int 0, .null, .null, .null, .int 0, .int 0, .int 0, .int 0, .int 0, .int 0, .int 0, .long 0, .long 0]))] := hD
      refine lv_dup hx hb dX7_column_57 rfl ?_
      refine lv_iload_n hx hb dX7_column_58 rfl (lv_at hl 1 rfl) ?_
      refine lv_aload_n hx hb dX7_column_59 rfl (lv_at hl 0 rfl) ?_
      refine va_get (D := D) (ci := 11) (v := .int hh) (C := RX7) (T := TX7) (N := 7) hx hb hts iwX7 hown hK hP 0 rfl rfl 6 (by decide) (hts _ q104) (fun _ h9 => h9) rfl dX7_column_60 ?_
      have hPc := hP.sub (ws' := [(o_4, .inr (6, [.int 0, .null, .null, .null, .int 0, .int 0, .int 0, .int 0, .int 0, .int 0, .int 0, .long 0, .long 0]))]) [3] rfl
      have hDc := hD.sub (ws' := [(o_4, .inr (6, [.int 0, .null, .null, .null, .int 0, .int 0, .int 0, .int 0, .int 0, .int 0, .int 0, .long 0, .long 0]))]) [3] (by decide) rfl
      have hKc := hK.sub (tys' := []) [] rfl
      have hFc := va_free (wc := [(o_4, .inr (6, [.int 0, .null, .null, .null, .int 0, .int 0, .int 0, .int 0, .int 0, .int 0, .int 0, .long 0, .long 0]))]) hD hS hA [3] rfl
      refine va_callv (va_runI (As := [.int 102, .int hh]) (rest := [.ref o_4, .ref cs]) ⟨hx, hb, hml, hown, hts⟩ (k_LC_init l D e0 o_4 102 hh H.size (by decide) (by decide)) (cwI 2 hts (gA q450) rfl rfl rfl (hts _ q13) (hts _ q448) (hts _ q449) rfl (by decide +kernel) ⟨Nat.le_of_ble_eq_true rfl, Nat.le_of_ble_eq_true rfl⟩) ⟨EW.fb, fun U hU hW => ⟨rfl, EW.at hPc hKc hDc hG (hZ.no hS) (ZD.no hZd hS) U hU hW⟩⟩ rfl rfl hl.1 rfl (lv_room (Nat.le_of_ble_eq_true rfl)) dX7_column_63 ⟨Nat.le_of_ble_eq_true rfl, Nat.le_of_ble_eq_true rfl⟩) hS (fun q _ h => hFc q h) hFc (fun u t H1 locs ht hvm hw hB hz1 hk1 hS => ?_)
      obtain ⟨u_6, e_u_6⟩ : ∃ z, z = u := ⟨_, rfl⟩
      subst e_u_6
      obtain ⟨hP1, hD1⟩ := hB
      rw [ht] at hP1
      obtain ⟨hP, hD⟩ := va_join (wr := [(h, .inr (11, [.ref cs, .ref th, f2, f3, f4, f5, .int hh])), (cs, .inr (4, [.int md, .ref e0, .int 0])), (th, .inr (4, [.int md2, .ref e0, .int 0]))]) (w1 := [(o_4, .inr (6, u_6))]) hP hD [3] [0, 1, 2] rfl rfl (by decide) (by decide) hk1 hFc hP1 hD1
      generalize H1 = H at hP hS ⊢
      have hP : va_P D vwCl [(h, .inr (11, [.ref cs, .ref th, f2, f3, f4, f5, .int hh])), (cs, .inr (4, [.int md, .ref e0, .int 0])), (th, .inr (4, [.int md2, .ref e0, .int 0])), (o_4, .inr (6, u_6))] H := hP
      have hD : va_D A [(h, .inr (11, [.ref cs, .ref th, f2, f3, f4, f5, .int hh])), (cs, .inr (4, [.int md, .ref e0, .int 0])), (th, .inr (4, [.int md2, .ref e0, .int 0])), (o_4, .inr (6, u_6))] := hD
      have hPc := hP.sub (ws' := [(cs, .inr (4, [.int md, .ref e0, .int 0])), (o_4, .inr (6, u_6))]) [1, 3] rfl
      have hDc := hD.sub (ws' := [(cs, .inr (4, [.int md, .ref e0, .int 0])), (o_4, .inr (6, u_6))]) [1, 3] (by decide) rfl
      have hKc := hK.sub (tys' := []) [] rfl
      have hFc := va_free (wc := [(cs, .inr (4, [.int md, .ref e0, .int 0])), (o_4, .inr (6, u_6))]) hD hS hA [1, 3] rfl
      refine va_calli (va_runV (As := [.ref o_4]) (rest := []) ⟨hx, hb, hml, hown, hts⟩ (k_AL_add_LC l D e0 cs o_4 u_6 md H.size) (cwV 1 hts (gV q574 q575 q576 q4 (gA q577)) rfl rfl rfl (by decide +kernel) ⟨Nat.le_of_ble_eq_true rfl, Nat.le_of_ble_eq_true rfl⟩) ⟨EY.fb, va_recv hKc hPc (ci := 4) (q0 := 0) rfl rfl, fun U hU hW => ⟨rfl, EY.at hPc hKc hDc hG (hZ.no hS) (ZD.no hZd hS) hZt hAO hS hFc U hU hW⟩⟩ rfl rfl hl.1 rfl (lv_room (Nat.le_of_ble_eq_true rfl)) dX7_column_66 ⟨Nat.le_of_ble_eq_true rfl, Nat.le_of_ble_eq_true rfl⟩) hS (fun q _ h => hFc q h) hFc (fun r_7 u t H1 locs ht hvm hw hB hz1 hk1 hS => ?_)
      obtain ⟨u_8a, u_8b⟩ := u
      obtain ⟨hP1, hD1⟩ := hB
      rw [ht] at hP1
      obtain ⟨hP, hD⟩ := va_join (wr := [(h, .inr (11, [.ref cs, .ref th, f2, f3, f4, f5, .int hh])), (th, .inr (4, [.int md2, .ref e0, .int 0]))]) (w1 := [(cs, .inr (4, [.int u_8a, .ref u_8b, .int 1]))]) hP hD [1, 3] [0, 2] rfl rfl (by decide) (by decide) hk1 hFc hP1 hD1
      generalize H1 = H at hP hS ⊢
      have hP : va_P D vwCl [(h, .inr (11, [.ref cs, .ref th, f2, f3, f4, f5, .int hh])), (th, .inr (4, [.int md2, .ref e0, .int 0])), (cs, .inr (4, [.int u_8a, .ref u_8b, .int 1]))] H := hP
      have hD : va_D A [(h, .inr (11, [.ref cs, .ref th, f2, f3, f4, f5, .int hh])), (th, .inr (4, [.int md2, .ref e0, .int 0])), (cs, .inr (4, [.int u_8a, .ref u_8b, .int 1]))] := hD
      subst hw
      refine lv_pop hx hb dX7_column_69 rfl ?_
      refine lv_aload_n hx hb dX7_column_70 rfl (lv_at hl 0 rfl) ?_
      refine va_get (D := D) (ci := 11) (v := .ref th) (C := RX7) (T := TX7) (N := 7) hx hb hts iwX7 hown hK hP 0 rfl rfl 1 (by decide) (hts _ q99) (fun _ h9 => h9) rfl dX7_column_71 ?_
      refine va_new (ci := 6) (fs := [.int 0, .null, .null, .null, .int 0, .int 0, .int 0, .int 0, .int 0, .int 0, .int 0, .long 0, .long 0]) (C := RX1) (T := TX1) (N := 13) hx hb hts iwX1 tyX1 tyX1_ok hown (hts _ q143) (hts _ q291) (hts _ q13) hK hP hD hS hA rfl (fun j hj => by rcases (show j = 0 ∨ j = 1 ∨ j = 2 ∨ j = 3 ∨ j = 4 ∨ j = 5 ∨ j = 6 ∨ j = 7 ∨ j = 8 ∨ j = 9 ∨ j = 10 ∨ j = 11 ∨ j = 12 by omega) with rfl | rfl | rfl | rfl | rfl | rfl | rfl | rfl | rfl | rfl | rfl | rfl | rfl <;> rfl) (Nat.le_of_ble_eq_true rfl) (Nat.le_of_ble_eq_true rfl) dX7_column_74 (fun o_9 H hP hD hS => ?_)
      have hP : va_P D vwCl [(h, .inr (11, [.ref cs, .ref th, f2, f3, f4, f5, .int hh])), (th, .inr (4, [.int md2, .ref e0, .int 0])), (cs, .inr (4, [.int u_8a, .ref u_8b, .int 1])), (o_9, .inr (6, [.int 0, .null, .null, .null, .int 0, .int 0, .int 0, .int 0, .int 0, .int 0, .int 0, .long 0, .long 0]))] H := hP
      have hD : va_D A [(h, .inr (11, [.ref cs, .ref th, f2, f3, f4, f5, .int hh])), (th, .inr (4, [.int md2, .ref e0, .int 0])), (cs, .inr (4, [.int u_8a, .ref u_8b, .int 1])), (o_9, .inr (6, [.int 0, .null, .null, .null, .int 0, .int 0, .int 0, .int 0, .int 0, .int 0, .int 0, .long 0, .long 0]))] := hD
      refine lv_dup hx hb dX7_column_77 rfl ?_
      refine lv_iload_n hx hb dX7_column_78 rfl (lv_at hl 1 rfl) ?_
      refine lv_aload_n hx hb dX7_column_79 rfl (lv_at hl 0 rfl) ?_
      refine va_get (D := D) (ci := 11) (v := .int hh) (C := RX7) (T := TX7) (N := 7) hx hb hts iwX7 hown hK hP 0 rfl rfl 6 (by decide) (hts _ q104) (fun _ h9 => h9) rfl dX7_column_80 ?_
      have hPc := hP.sub (ws' := [(o_9, .inr (6, [.int 0, .null, .null, .null, .int 0, .int 0, .int 0, .int 0, .int 0, .int 0, .int 0, .long 0, .long 0]))]) [3] rfl
      have hDc := hD.sub (ws' := [(o_9, .inr (6, [.int 0, .null, .null, .null, .int 0, .int 0, .int 0, .int 0, .int 0, .int 0, .int 0, .long 0, .long 0]))]) [3] (by decide) rfl
      have hKc := hK.sub (tys' := []) [] rfl
      have hFc := va_free (wc := [(o_9, .inr (6, [.int 0, .null, .null, .null, .int 0, .int 0, .int 0, .int 0, .int 0, .int 0, .int 0, .long 0, .long 0]))]) hD hS hA [3] rfl
      refine va_callv (va_runI (As := [.int 102, .int hh]) (rest := [.ref o_9, .ref th]) ⟨hx, hb, hml, hown, hts⟩ (k_LC_init l D e0 o_9 102 hh H.size (by decide) (by decide)) (cwI 2 hts (gA q450) rfl rfl rfl (hts _ q13) (hts _ q448) (hts _ q449) rfl (by decide +kernel) ⟨Nat.le_of_ble_eq_true rfl, Nat.le_of_ble_eq_true rfl⟩) ⟨EW.fb, fun U hU hW => ⟨rfl, EW.at hPc hKc hDc hG (hZ.no hS) (ZD.no hZd hS) U hU hW⟩⟩ rfl rfl hl.1 rfl (lv_room (Nat.le_of_ble_eq_true rfl)) dX7_column_83 ⟨Nat.le_of_ble_eq_true rfl, Nat.le_of_ble_eq_true rfl⟩) hS (fun q _ h => hFc q h) hFc (fun u t H1 locs ht hvm hw hB hz1 hk1 hS => ?_)
      obtain ⟨u_11, e_u_11⟩ : ∃ z, z = u := ⟨_, rfl⟩
      subst e_u_11
      obtain ⟨hP1, hD1⟩ := hB
      rw [ht] at hP1
      obtain ⟨hP, hD⟩ := va_join (wr := [(h, .inr (11, [.ref cs, .ref th, f2, f3, f4, f5, .int hh])), (th, .inr (4, [.int md2, .ref e0, .int 0])), (cs, .inr (4, [.int u_8a, .ref u_8b, .int 1]))]) (w1 := [(o_9, .inr (6, u_11))]) hP hD [3] [0, 1, 2] rfl rfl (by decide) (by decide) hk1 hFc hP1 hD1
      generalize H1 = H at hP hS ⊢
      have hP : va_P D vwCl [(h, .inr (11, [.ref cs, .ref th, f2, f3, f4, f5, .int hh])), (th, .inr (4, [.int md2, .ref e0, .int 0])), (cs, .inr (4, [.int u_8a, .ref u_8b, .int 1])), (o_9, .inr (6, u_11))] H := hP
      have hD : va_D A [(h, .inr (11, [.ref cs, .ref th, f2, f3, f4, f5, .int hh])), (th, .inr (4, [.int md2, .ref e0, .int 0])), (cs, .inr (4, [.int u_8a, .ref u_8b, .int 1])), (o_9, .inr (6, u_11))] := hD
      have hPc := hP.sub (ws' := [(th, .inr (4, [.int md2, .ref e0, .int 0])), (o_9, .inr (6, u_11))]) [1, 3] rfl
      have hDc := hD.sub (ws' := [(th, .inr (4, [.int md2, .ref e0, .int 0])), (o_9, .inr (6, u_11))]) [1, 3] (by decide) rfl
      have hKc := hK.sub (tys' := []) [] rfl
      have hFc := va_free (wc := [(th, .inr (4, [.int md2, .ref e0, .int 0])), (o_9, .inr (6, u_11))]) hD hS hA [1, 3] rfl
      refine va_calli (va_runV (As := [.ref o_9]) (rest := []) ⟨hx, hb, hml, hown, hts⟩ (k_AL_add_LC l D e0 th o_9 u_11 md2 H.size) (cwV 1 hts (gV q574 q575 q576 q4 (gA q577)) rfl rfl rfl (by decide +kernel) ⟨Nat.le_of_ble_eq_true rfl, Nat.le_of_ble_eq_true rfl⟩) ⟨EY.fb, va_recv hKc hPc (ci := 4) (q0 := 0) rfl rfl, fun U hU hW => ⟨rfl, EY.at hPc hKc hDc hG (hZ.no hS) (ZD.no hZd hS) hZt hAO hS hFc U hU hW⟩⟩ rfl rfl hl.1 rfl (lv_room (Nat.le_of_ble_eq_true rfl)) dX7_column_86 ⟨Nat.le_of_ble_eq_true rfl, Nat.le_of_ble_eq_true rfl⟩) hS (fun q _ h => hFc q h) hFc (fun r_12 u t H1 locs ht hvm hw hB hz1 hk1 hS => ?_)
      obtain ⟨u_13a, u_13b⟩ := u
      obtain ⟨hP1, hD1⟩ := hB
      rw [ht] at hP1
      obtain ⟨hP, hD⟩ := va_join (wr := [(h, .inr (11, [.ref cs, .ref th, f2, f3, f4, f5, .int hh])), (cs, .inr (4, [.int u_8a, .ref u_8b, .int 1]))]) (w1 := [(th, .inr (4, [.int u_13a, .ref u_13b, .int 1]))]) hP hD [1, 3] [0, 2] rfl rfl (by decide) (by decide) hk1 hFc hP1 hD1
      generalize H1 = H at hP hS ⊢
      have hP : va_P D vwCl [(h, .inr (11, [.ref cs, .ref th, f2, f3, f4, f5, .int hh])), (cs, .inr (4, [.int u_8a, .ref u_8b, .int 1])), (th, .inr (4, [.int u_13a, .ref u_13b, .int 1]))] H := hP
      have hD : va_D A [(h, .inr (11, [.ref cs, .ref th, f2, f3, f4, f5, .int hh])), (cs, .inr (4, [.int u_8a, .ref u_8b, .int 1])), (th, .inr (4, [.int u_13a, .ref u_13b, .int 1]))] := hD
      subst hw
      refine lv_pop hx hb dX7_column_89 rfl ?_
      refine lv_aload_n hx hb dX7_column_90 rfl (lv_at hl 0 rfl) ?_
      refine va_get (D := D) (ci := 11) (v := .ref cs) (C := RX7) (T := TX7) (N := 7) hx hb hts iwX7 hown hK hP 0 rfl rfl 0 (by decide) (hts _ q98) (fun _ h9 => h9) rfl dX7_column_91 ?_
      have hPc := hP.sub (ws' := [(cs, .inr (4, [.int u_8a, .ref u_8b, .int 1]))]) [1] rfl
      have hDc := hD.sub (ws' := [(cs, .inr (4, [.int u_8a, .ref u_8b, .int 1]))]) [1] (by decide) rfl
      have hKc := hK.sub (tys' := []) [] rfl
      refine va_calli (va_runV (As := []) (rest := []) ⟨hx, hb, hml, hown, hts⟩ (k_AL_size l D cs u_8a (.ref u_8b) 1 H.size) (cwV 0 hts (gV q125 q126 q127 q4 (gA q128)) rfl rfl rfl (by decide +kernel) ⟨Nat.le_of_ble_eq_true rfl, Nat.le_of_ble_eq_true rfl⟩) ⟨EV.fb, va_recv hKc hPc (ci := 4) (q0 := 0) rfl rfl, fun U hU hW => ⟨rfl, EV.at hPc hKc hDc hG (hZ.no hS) U hU hW⟩⟩ rfl rfl hl.1 rfl (lv_room (Nat.le_of_ble_eq_true rfl)) dX7_column_94 ⟨Nat.le_of_ble_eq_true rfl, Nat.le_of_ble_eq_true rfl⟩) hS (fun q _ h => h.elim) (fun q h => h.elim) (fun r_14 u t H1 locs ht hvm hw hB hz1 hk1 hS => ?_)
      have hP := P_kept hP hk1
      generalize H1 = H at hP hS ⊢
      have hP : va_P D vwCl [(h, .inr (11, [.ref cs, .ref th, f2, f3, f4, f5, .int hh])), (cs, .inr (4, [.int u_8a, .ref u_8b, .int 1])), (th, .inr (4, [.int u_13a, .ref u_13b, .int 1]))] H := hP
      subst hw
      refine lv_iconst (v := 1) hx hb dX7_column_97 (by decide) ?_
      refine lv_isub hx hb dX7_column_98 ?_
      refine W.eq (g2 := F0 m 99 ls [.int 0]) (congrArg (fun z : Int32 => F0 m 99 ls [Value.int z]) (show (1 - 1 : Int32) = 0 by decide)) ?_
      have hP9 := hP.sub (ws' := []) [] rfl
      have hD9 := hD.sub (ws' := []) [] (by decide) rfl
      refine W.widen (k := 18) (n := 96) (Nat.le_of_ble_eq_true rfl) (Nat.le_of_ble_eq_true rfl) ?_
      refine vx_ret ?_
      exact W.iret (v := 0) hx hb hr (fun t ht hW => ⟨⟨0, (), rfl, ⟨rfl, Or.inl rfl⟩, by rw [ht]; exact hP9, hD9⟩, hS.F ht⟩) hS.2.2 dX7_column_99
    · exact absurd (by decide) c_3
  · refine lv_iload_n hx hb dX7_column_6 rfl (lv_at hl 1 rfl) ?_
    refine lv_bipush (v := 115) hx hb dX7_column_7 (by decide) ?_
    refine lv_icmp_eq (tgt := 28) hx hb dX7_column_9 (by decide) (fun c_15 => ?_) (fun c_15 => ?_)
    · subst c_15
      refine lv_aload_n hx hb dX7_column_28 rfl (lv_at hl 0 rfl) ?_
      refine va_get (D := D) (ci := 11) (v := .ref cs) (C := RX7) (T := TX7) (N := 7) hx hb hts iwX7 hown hK hP 0 rfl rfl 0 (by decide) (hts _ q98) (fun _ h9 => h9) rfl dX7_column_29 ?_
      have hPc := hP.sub (ws' := [(cs, .inr (4, [.int md, .ref e0, .int 0]))]) [1] rfl
      have hDc := hD.sub (ws' := [(cs, .inr (4, [.int md, .ref e0, .int 0]))]) [1] (by decide) rfl
      have hKc := hK.sub (tys' := []) [] rfl
      refine va_calli (va_runV (As := []) (rest := []) ⟨hx, hb, hml, hown, hts⟩ (k_AL_size l D cs md (.ref e0) 0 s.heap.size) (cwV 0 hts (gV q125 q126 q127 q4 (gA q128)) rfl rfl rfl (by decide +kernel) ⟨Nat.le_of_ble_eq_true rfl, Nat.le_of_ble_eq_true rfl⟩) ⟨EV.fb, va_recv hKc hPc (ci := 4) (q0 := 0) rfl rfl, fun U hU hW => ⟨rfl, EV.at hPc hKc hDc hG (hZ.no hS) U hU hW⟩⟩ rfl rfl hl.1 rfl (lv_room (Nat.le_of_ble_eq_true rfl)) dX7_column_32 ⟨Nat.le_of_ble_eq_true rfl, Nat.le_of_ble_eq_true rfl⟩) hS (fun q _ h => h.elim) (fun q h => h.elim) (fun r_16 u t H1 locs ht hvm hw hB hz1 hk1 hS => ?_)
      have hP := P_kept hP hk1
      generalize H1 = H at hP hS ⊢
      have hP : va_P D vwCl [(h, .inr (11, [.ref cs, .ref th, f2, f3, f4, f5, .int hh])), (cs, .inr (4, [.int md, .ref e0, .int 0])), (th, .inr (4, [.int md2, .ref e0, .int 0]))] H := hP
      subst hw
      refine lv_bipush (v := 6) hx hb dX7_column_35 (by decide) ?_
      refine lv_icmp_lt (tgt := 50) hx hb dX7_column_37 (by decide) (fun c_17 => ?_) (fun c_17 => ?_)
      · refine lv_aload_n hx hb dX7_column_50 rfl (lv_at hl 0 rfl) ?_
        refine va_get (D := D) (ci := 11) (v := .ref cs) (C := RX7) (T := TX7) (N := 7) hx hb hts iwX7 hown hK hP 0 rfl rfl 0 (by decide) (hts _ q98) (fun _ h9 => h9) rfl dX7_column_51 ?_
        refine va_new (ci := 6) (fs := [.int 0, .null, .null, .null, .int 0, .int 0, .int 0, .int 0, .int 0, .int 0, .int 0, .long 0, .long 0]) (C := RX1) (T := TX1) (N := 13) hx hb hts iwX1 tyX1 tyX1_ok hown (hts _ q143) (hts _ q291) (hts _ q13) hK hP hD hS hA rfl (fun j hj => by rcases (show j = 0 ∨ j = 1 ∨ j = 2 ∨ j = 3 ∨ j = 4 ∨ j = 5 ∨ j = 6 ∨ j = 7 ∨ j = 8 ∨ j = 9 ∨ j = 10 ∨ j = 11 ∨ j = 12 by omega) with rfl | rfl | rfl | rfl | rfl | rfl | rfl | rfl | rfl | rfl | rfl | rfl | rfl <;> rfl) (Nat.le_of_ble_eq_true rfl) (Nat.le_of_ble_eq_true rfl) dX7_column_54 (fun o_18 H hP hD hS => ?_)
        have hP : va_P D vwCl [(h, .inr (11, [.ref cs, .ref th, f2, f3, f4, f5, .int hh])), (cs, .inr (4, [.int md, .ref e0, .int 0])), (th, .inr (4, [.int md2, .ref e0, .int 0])), (o_18, .inr (6, [.int 0, .null, .null, .null, .int 0, .int 0, .int 0, .int 0, .int 0, .int 0, .int 0, .long 0, .long 0]))] H := hP
        have hD : va_D A [(h, .inr (11, [.ref cs, .ref th, f2, f3, f4, f5, .int hh])), (cs, .inr (4, [.int md, .ref e0, .int 0])), (th, .inr (4, [.int md2, .ref e0, .int 0])), (o_18, .inr (6, [.int 0, .null, .null, .null, .int 0, .int 0, .int 0, .int 0, .int 0, .int 0, .int 0, .long 0, .long 0]))] := hD
        refine lv_dup hx hb dX7_column_57 rfl ?_
        refine lv_iload_n hx hb dX7_column_58 rfl (lv_at hl 1 rfl) ?_
        refine lv_aload_n hx hb dX7_column_59 rfl (lv_at hl 0 rfl) ?_
        refine va_get (D := D) (ci := 11) (v := .int hh) (C := RX7) (T := TX7) (N := 7) hx hb hts iwX7 hown hK hP 0 rfl rfl 6 (by decide) (hts _ q104) (fun _ h9 => h9) rfl dX7_column_60 ?_
        have hPc := hP.sub (ws' := [(o_18, .inr (6, [.int 0, .null, .null, .null, .int 0, .int 0, .int 0, .int 0, .int 0, .int 0, .int 0, .long 0, .long 0]))]) [3] rfl
        have hDc := hD.sub (ws' := [(o_18, .inr (6, [.int 0, .null, .null, .null, .int 0, .int 0, .int 0, .int 0, .int 0, .int 0, .int 0, .long 0, .long 0]))]) [3] (by decide) rfl
        have hKc := hK.sub (tys' := []) [] rfl
        have hFc := va_free (wc := [(o_18, .inr (6, [.int 0, .null, .null, .null, .int 0, .int 0, .int 0, .int 0, .int 0, .int 0, .int 0, .long 0, .long 0]))]) hD hS hA [3] rfl
        refine va_callv (va_runI (As := [.int 115, .int hh]) (rest := [.ref o_18, .ref cs]) ⟨hx, hb, hml, hown, hts⟩ (k_LC_init l D e0 o_18 115 hh H.size (by decide) (by decide)) (cwI 2 hts (gA q450) rfl rfl rfl (hts _ q13) (hts _ q448) (hts _ q449) rfl (by decide +kernel) ⟨Nat.le_of_ble_eq_true rfl, Nat.le_of_ble_eq_true rfl⟩) ⟨EW.fb, fun U hU hW => ⟨rfl, EW.at hPc hKc hDc hG (hZ.no hS) (ZD.no hZd hS) U hU hW⟩⟩ rfl rfl hl.1 rfl (lv_room (Nat.le_of_ble_eq_true rfl)) dX7_column_63 ⟨Nat.le_of_ble_eq_true rfl, Nat.le_of_ble_eq_true rfl⟩) hS (fun q _ h => hFc q h) hFc (fun u t H1 locs ht hvm hw hB hz1 hk1 hS => ?_)
        obtain ⟨u_20, e_u_20⟩ : ∃ z, z = u := ⟨_, rfl⟩
        subst e_u_20
        obtain ⟨hP1, hD1⟩ := hB
        rw [ht] at hP1
        obtain ⟨hP, hD⟩ := va_join (wr := [(h, .inr (11, [.ref cs, .ref th, f2, f3, f4, f5, .int hh])), (cs, .inr (4, [.int md, .ref e0, .int 0])), (th, .inr (4, [.int md2, .ref e0, .int 0]))]) (w1 := [(o_18, .inr (6, u_20))]) hP hD [3] [0, 1, 2] rfl rfl (by decide) (by decide) hk1 hFc hP1 hD1
        generalize H1 = H at hP hS ⊢
        have hP : va_P D vwCl [(h, .inr (11, [.ref cs, .ref th, f2, f3, f4, f5, .int hh])), (cs, .inr (4, [.int md, .ref e0, .int 0])), (th, .inr (4, [.int md2, .ref e0, .int 0])), (o_18, .inr (6, u_20))] H := hP
        have hD : va_D A [(h, .inr (11, [.ref cs, .ref th, f2, f3, f4, f5, .int hh])), (cs, .inr (4, [.int md, .ref e0, .int 0])), (th, .inr (4, [.int md2, .ref e0, .int 0])), (o_18, .inr (6, u_20))] := hD
        have hPc := hP.sub (ws' := [(cs, .inr (4, [.int md, .ref e0, .int 0])), (o_18, .inr (6, u_20))]) [1, 3] rfl
        have hDc := hD.sub (ws' := [(cs, .inr (4, [.int md, .ref e0, .int 0])), (o_18, .inr (6, u_20))]) [1, 3] (by decide) rfl
        have hKc := hK.sub (tys' := []) [] rfl
        have hFc := va_free (wc := [(cs, .inr (4, [.int md, .ref e0, .int 0])), (o_18, .inr (6, u_20))]) hD hS hA [1, 3] rfl
        refine va_calli (va_runV (As := [.ref o_18]) (rest := []) ⟨hx, hb, hml, hown, hts⟩ (k_AL_add_LC l D e0 cs o_18 u_20 md H.size) (cwV 1 hts (gV q574 q575 q576 q4 (gA q577)) rfl rfl rfl (by decide +kernel) ⟨Nat.le_of_ble_eq_true rfl, Nat.le_of_ble_eq_true rfl⟩) ⟨EY.fb, va_recv hKc hPc (ci := 4) (q0 := 0) rfl rfl, fun U hU hW => ⟨rfl, EY.at hPc hKc hDc hG (hZ.no hS) (ZD.no hZd hS) hZt hAO hS hFc U hU hW⟩⟩ rfl rfl hl.1 rfl (lv_room (Nat.le_of_ble_eq_true rfl)) dX7_column_66 ⟨Nat.le_of_ble_eq_true rfl, Nat.le_of_ble_eq_true rfl⟩) hS (fun q _ h => hFc q h) hFc (fun r_21 u t H1 locs ht hvm hw hB hz1 hk1 hS => ?_)
        obtain ⟨u_22a, u_22b⟩ := u
        obtain ⟨hP1, hD1⟩ := hB
        rw [ht] at hP1
        obtain ⟨hP, hD⟩ := va_join (wr := [(h, .inr (11, [.ref cs, .ref th, f2, f3, f4, f5, .int hh])), (th, .inr (4, [.int md2, .ref e0, .int 0]))]) (w1 := [(cs, .inr (4, [.int u_22a, .ref u_22b, .int 1]))]) hP hD [1, 3] [0, 2] rfl rfl (by decide) (by decide) hk1 hFc hP1 hD1
        generalize H1 = H at hP hS ⊢
        have hP : va_P D vwCl [(h, .inr (11, [.ref cs, .ref th, f2, f3, f4, f5, .int hh])), (th, .inr (4, [.int md2, .ref e0, .int 0])), (cs, .inr (4, [.int u_22a, .ref u_22b, .int 1]))] H := hP
        have hD : va_D A [(h, .inr (11, [.ref cs, .ref th, f2, f3, f4, f5, .int hh])), (th, .inr (4, [.int md2, .ref e0, .int 0])), (cs, .inr (4, [.int u_22a, .ref u_22b, .int 1]))] := hD
        subst hw
        refine lv_pop hx hb dX7_column_69 rfl ?_
        refine lv_aload_n hx hb dX7_column_70 rfl (lv_at hl 0 rfl) ?_
        refine va_get (D := D) (ci := 11) (v := .ref th) (C := RX7) (T := TX7) (N := 7) hx hb hts iwX7 hown hK hP 0 rfl rfl 1 (by decide) (hts _ q99) (fun _ h9 => h9) rfl dX7_column_71 ?_
        refine va_new (ci := 6) (fs := [.int 0, .null, .null, .null, .int 0, .int 0, .int 0, .int 0, .int 0, .int 0, .int 0, .long 0, .long 0]) (C := RX1) (T := TX1) (N := 13) hx hb hts iwX1 tyX1 tyX1_ok hown (hts _ q143) (hts _ q291) (hts _ q13) hK hP hD hS hA rfl (fun j hj => by rcases (show j = 0 ∨ j = 1 ∨ j = 2 ∨ j = 3 ∨ j = 4 ∨ j = 5 ∨ j = 6 ∨ j = 7 ∨ j = 8 ∨ j = 9 ∨ j = 10 ∨ j = 11 ∨ j = 12 by omega) with rfl | rfl | rfl | rfl | rfl | rfl | rfl | rfl | rfl | rfl | rfl | rfl | rfl <;> rfl) (Nat.le_of_ble_eq_true rfl) (Nat.le_of_ble_eq_true rfl) dX7_column_74 (fun o_23 H hP hD hS => ?_)
        have hP : va_P D vwCl [(h, .inr (11, [.ref cs, .ref th, f2, f3, f4, f5, .int hh])), (th, .inr (4, [.int md2, .ref e0, .int 0])), (cs, .inr (4, [.int u_22a, .ref u_22b, .int 1])), (o_23, .inr (6, [.int 0, .null, .null, .null, .int 0, .int 0, .int 0, .int 0, .int 0, .int 0, .int 0, .long 0, .long 0]))] H := hP
        have hD : va_D A [(h, .inr (11, [.ref cs, .ref th, f2, f3, f4, f5, .int hh])), (th, .inr (4, [.int md2, .ref e0, .int 0])), (cs, .inr (4, [.int u_22a, .ref u_22b, .int 1])), (o_23, .inr (6, [.int 0, .null, .null, .null, .int 0, .int 0, .int 0, .int 0, .int 0, .int 0, .int 0, .long 0, .long 0]))] := hD
        refine lv_dup hx hb dX7_column_77 rfl ?_
        refine lv_iload_n hx hb dX7_column_78 rfl (lv_at hl 1 rfl) ?_
        refine lv_aload_n hx hb dX7_column_79 rfl (lv_at hl 0 rfl) ?_
        refine va_get (D := D) (ci := 11) (v := .int hh) (C := RX7) (T := TX7) (N := 7) hx hb hts iwX7 hown hK hP 0 rfl rfl 6 (by decide) (hts _ q104) (fun _ h9 => h9) rfl dX7_column_80 ?_
        have hPc := hP.sub (ws' := [(o_23, .inr (6, [.int 0, .null, .null, .null, .int 0, .int 0, .int 0, .int 0, .int 0, .int 0, .int 0, .long 0, .long 0]))]) [3] rfl
        have hDc := hD.sub (ws' := [(o_23, .inr (6, [.int 0, .null, .null, .null, .int 0, .int 0, .int 0, .int 0, .int 0, .int 0, .int 0, .long 0, .long 0]))]) [3] (by decide) rfl
        have hKc := hK.sub (tys' := []) [] rfl
        have hFc := va_free (wc := [(o_23, .inr (6, [.int 0, .null, .null, .null, .int 0, .int 0, .int 0, .int 0, .int 0, .int 0, .int 0, .long 0, .long 0]))]) hD hS hA [3] rfl
        refine va_callv (va_runI (As := [.int 115, .int hh]) (rest := [.ref o_23, .ref th]) ⟨hx, hb, hml, hown, hts⟩ (k_LC_init l D e0 o_23 115 hh H.size (by decide) (by decide)) (cwI 2 hts (gA q450) rfl rfl rfl (hts _ q13) (hts _ q448) (hts _ q449) rfl (by decide +kernel) ⟨Nat.le_of_ble_eq_true rfl, Nat.le_of_ble_eq_true rfl⟩) ⟨EW.fb, fun U hU hW => ⟨rfl, EW.at hPc hKc hDc hG (hZ.no hS) (ZD.no hZd hS) U hU hW⟩⟩ rfl rfl hl.1 rfl (lv_room (Nat.le_of_ble_eq_true rfl)) dX7_column_83 ⟨Nat.le_of_ble_eq_true rfl, Nat.le_of_ble_eq_true rfl⟩) hS (fun q _ h => hFc q h) hFc (fun u t H1 locs ht hvm hw hB hz1 hk1 hS => ?_)
        obtain ⟨u_25, e_u_25⟩ : ∃ z, z = u := ⟨_, rfl⟩
        subst e_u_25
        obtain ⟨hP1, hD1⟩ := hB
        rw [ht] at hP1
        obtain ⟨hP, hD⟩ := va_join (wr := [(h, .inr (11, [.ref cs, .ref th, f2, f3, f4, f5, .int hh])), (th, .inr (4, [.int md2, .ref e0, .int 0])), (cs, .inr (4, [.int u_22a, .ref u_22b, .int 1]))]) (w1 := [(o_23, .inr (6, u_25))]) hP hD [3] [0, 1, 2] rfl rfl (by decide) (by decide) hk1 hFc hP1 hD1
        generalize H1 = H at hP hS ⊢
        have hP : va_P D vwCl [(h, .inr (11, [.ref cs, .ref th, f2, f3, f4, f5, .int hh])), (th, .inr (4, [.int md2, .ref e0, .int 0])), (cs, .inr (4, [.int u_22a, .ref u_22b, .int 1])), (o_23, .inr (6, u_25))] H := hP
        have hD : va_D A [(h, .inr (11, [.ref cs, .ref th, f2, f3, f4, f5, .int hh])), (th, .inr (4, [.int md2, .ref e0, .int 0])), (cs, .inr (4, [.int u_22a, .ref u_22b, .int 1])), (o_23, .inr (6, u_25))] := hD
        have hPc := hP.sub (ws' := [(th, .inr (4, [.int md2, .ref e0, .int 0])), (o_23, .inr (6, u_25))]) [1, 3] rfl
        have hDc := hD.sub (ws' := [(th, .inr (4, [.int md2, .ref e0, .int 0])), (o_23, .inr (6, u_25))]) [1, 3] (by decide) rfl
        have hKc := hK.sub (tys' := []) [] rfl
        have hFc := va_free (wc := [(th, .inr (4, [.int md2, .ref e0, .int 0])), (o_23, .inr (6, u_25))]) hD hS hA [1, 3] rfl
        refine va_calli (va_runV (As := [.ref o_23]) (rest := []) ⟨hx, hb, hml, hown, hts⟩ (k_AL_add_LC l D e0 th o_23 u_25 md2 H.size) (cwV 1 hts (gV q574 q575 q576 q4 (gA q577)) rfl rfl rfl (by decide +kernel) ⟨Nat.le_of_ble_eq_true rfl, Nat.le_of_ble_eq_true rfl⟩) ⟨EY.fb, va_recv hKc hPc (ci := 4) (q0 := 0) rfl rfl, fun U hU hW => ⟨rfl, EY.at hPc hKc hDc hG (hZ.no hS) (ZD.no hZd hS) hZt hAO hS hFc U hU hW⟩⟩ rfl rfl hl.1 rfl (lv_room (Nat.le_of_ble_eq_true rfl)) dX7_column_86 ⟨Nat.le_of_ble_eq_true rfl, Nat.le_of_ble_eq_true rfl⟩) hS (fun q _ h => hFc q h) hFc (fun r_26 u t H1 locs ht hvm hw hB hz1 hk1 hS => ?_)
        obtain ⟨u_27a, u_27b⟩ := u
        obtain ⟨hP1, hD1⟩ := hB
        rw [ht] at hP1
        obtain ⟨hP, hD⟩ := va_join (wr := [(h, .inr (11, [.ref cs, .ref th, f2, f3, f4, f5, .int hh])), (cs, .inr (4, [.int u_22a, .ref u_22b, .int 1]))]) (w1 := [(th, .inr (4, [.int u_27a, .ref u_27b, .int 1]))]) hP hD [1, 3] [0, 2] rfl rfl (by decide) (by decide) hk1 hFc hP1 hD1
        generalize H1 = H at hP hS ⊢
        have hP : va_P D vwCl [(h, .inr (11, [.ref cs, .ref th, f2, f3, f4, f5, .int hh])), (cs, .inr (4, [.int u_22a, .ref u_22b, .int 1])), (th, .inr (4, [.int u_27a, .ref u_27b, .int 1]))] H := hP
        have hD : va_D A [(h, .inr (11, [.ref cs, .ref th, f2, f3, f4, f5, .int hh])), (cs, .inr (4, [.int u_22a, .ref u_22b, .int 1])), (th, .inr (4, [.int u_27a, .ref u_27b, .int 1]))] := hD
        subst hw
        refine lv_pop hx hb dX7_column_89 rfl ?_
        refine lv_aload_n hx hb dX7_column_90 rfl (lv_at hl 0 rfl) ?_
        refine va_get (D := D) (ci := 11) (v := .ref cs) (C := RX7) (T := TX7) (N := 7) hx hb hts iwX7 hown hK hP 0 rfl rfl 0 (by decide) (hts _ q98) (fun _ h9 => h9) rfl dX7_column_91 ?_
        have hPc := hP.sub (ws' := [(cs, .inr (4, [.int u_22a, .ref u_22b, .int 1]))]) [1] rfl
        have hDc := hD.sub (ws' := [(cs, .inr (4, [.int u_22a, .ref u_22b, .int 1]))]) [1] (by decide) rfl
        have hKc := hK.sub (tys' := []) [] rfl
        refine va_calli (va_runV (As := []) (rest := []) ⟨hx, hb, hml, hown, hts⟩ (k_AL_size l D cs u_22a (.ref u_22b) 1 H.size) (cwV 0 hts (gV q125 q126 q127 q4 (gA q128)) rfl rfl rfl (by decide +kernel) ⟨Nat.le_of_ble_eq_true rfl, Nat.le_of_ble_eq_true rfl⟩) ⟨EV.fb, va_recv hKc hPc (ci := 4) (q0 := 0) rfl rfl, fun U hU hW => ⟨rfl, EV.at hPc hKc hDc hG (hZ.no hS) U hU hW⟩⟩ rfl rfl hl.1 rfl (lv_room (Nat.le_of_ble_eq_true rfl)) dX7_column_94 ⟨Nat.le_of_ble_eq_true rfl, Nat.le_of_ble_eq_true rfl⟩) hS (fun q _ h => h.elim) (fun q h => h.elim) (fun r_28 u t H1 locs ht hvm hw hB hz1 hk1 hS => ?_)
        have hP := P_kept hP hk1
        generalize H1 = H at hP hS ⊢
        have hP : va_P D vwCl [(h, .inr (11, [.ref cs, .ref th, f2, f3, f4, f5, .int hh])), (cs, .inr (4, [.int u_22a, .ref u_22b, .int 1])), (th, .inr (4, [.int u_27a, .ref u_27b, .int 1]))] H := hP
        subst hw
        refine lv_iconst (v := 1) hx hb dX7_column_97 (by decide) ?_
        refine lv_isub hx hb dX7_column_98 ?_
        refine W.eq (g2 := F0 m 99 ls [.int 0]) (congrArg (fun z : Int32 => F0 m 99 ls [Value.int z]) (show (1 - 1 : Int32) = 0 by decide)) ?_
        have hP9 := hP.sub (ws' := []) [] rfl
        have hD9 := hD.sub (ws' := []) [] (by decide) rfl
        refine W.widen (k := 18) (n := 96) (Nat.le_of_ble_eq_true rfl) (Nat.le_of_ble_eq_true rfl) ?_
        refine vx_ret ?_
        exact W.iret (v := 0) hx hb hr (fun t ht hW => ⟨⟨0, (), rfl, ⟨rfl, Or.inr (Or.inl rfl)⟩, by rw [ht]; exact hP9, hD9⟩, hS.F ht⟩) hS.2.2 dX7_column_99
      · exact absurd (by decide) c_17
    · refine lv_iload_n hx hb dX7_column_12 rfl (lv_at hl 1 rfl) ?_
      refine lv_bipush (v := 110) hx hb dX7_column_13 (by decide) ?_
      refine lv_icmp_eq (tgt := 28) hx hb dX7_column_15 (by decide) (fun c_29 => ?_) (fun c_29 => ?_)
      · subst c_29
        refine lv_aload_n hx hb dX7_column_28 rfl (lv_at hl 0 rfl) ?_
        refine va_get (D := D) (ci := 11) (v := .ref cs) (C := RX7) (T := TX7) (N := 7) hx hb hts iwX7 hown hK hP 0 rfl rfl 0 (by decide) (hts _ q98) (fun _ h9 => h9) rfl dX7_column_29 ?_
        have hPc := hP.sub (ws' := [(cs, .inr (4, [.int md, .ref e0, .int 0]))]) [1] rfl
        have hDc := hD.sub (ws' := [(cs, .inr (4, [.int md, .ref e0, .int 0]))]) [1] (by decide) rfl
        have hKc := hK.sub (tys' := []) [] rfl
        refine va_calli (va_runV (As := []) (rest := []) ⟨hx, hb, hml, hown, hts⟩ (k_AL_size l D cs md (.ref e0) 0 s.heap.size) (cwV 0 hts (gV q125 q126 q127 q4 (gA q128)) rfl rfl rfl (by decide +kernel) ⟨Nat.le_of_ble_eq_true rfl, Nat.le_of_ble_eq_true rfl⟩) ⟨EV.fb, va_recv hKc hPc (ci := 4) (q0 := 0) rfl rfl, fun U hU hW => ⟨rfl, EV.at hPc hKc hDc hG (hZ.no hS) U hU hW⟩⟩ rfl rfl hl.1 rfl (lv_room (Nat.le_of_ble_eq_true rfl)) dX7_column_32 ⟨Nat.le_of_ble_eq_true rfl, Nat.le_of_ble_eq_true rfl⟩) hS (fun q _ h => h.elim) (fun q h => h.elim) (fun r_30 u t H1 locs ht hvm hw hB hz1 hk1 hS => ?_)
        have hP := P_kept hP hk1
        generalize H1 = H at hP hS ⊢
        have hP : va_P D vwCl [(h, .inr (11, [.ref cs, .ref th, f2, f3, f4, f5, .int hh])), (cs, .inr (4, [.int md, .ref e0, .int 0])), (th, .inr (4, [.int md2, .ref e0, .int 0]))] H := hP
        subst hw
        refine lv_bipush (v := 6) hx hb dX7_column_35 (by decide) ?_
        refine lv_icmp_lt (tgt := 50) hx hb dX7_column_37 (by decide) (fun c_31 => ?_) (fun c_31 => ?_)
        · refine lv_aload_n hx hb dX7_column_50 rfl (lv_at hl 0 rfl) ?_
          refine va_get (D := D) (ci := 11) (v := .ref cs) (C := RX7) (T := TX7) (N := 7) hx hb hts iwX7 hown hK hP 0 rfl rfl 0 (by decide) (hts _ q98) (fun _ h9 => h9) rfl dX7_column_51 ?_
          refine va_new (ci := 6) (fs := [.int 0, .null, .null, .null, .int 0, .int 0, .int 0, .int 0, .int 0, .int 0, .int 0, .long 0, .long 0]) (C := RX1) (T := TX1) (N := 13) hx hb hts iwX1 tyX1 tyX1_ok hown (hts _ q143) (hts _ q291) (hts _ q13) hK hP hD hS hA rfl (fun j hj => by rcases (show j = 0 ∨ j = 1 ∨ j = 2 ∨ j = 3 ∨ j = 4 ∨ j = 5 ∨ j = 6 ∨ j = 7 ∨ j = 8 ∨ j = 9 ∨ j = 10 ∨ j = 11 ∨ j = 12 by omega) with rfl | rfl | rfl | rfl | rfl | rfl | rfl | rfl | rfl | rfl | rfl | rfl | rfl <;> rfl) (Nat.le_of_ble_eq_true rfl) (Nat.le_of_ble_eq_true rfl) dX7_column_54 (fun o_32 H hP hD hS => ?_)
          have hP : va_P D vwCl [(h, .inr (11, [.ref cs, .ref th, f2, f3, f4, f5, .int hh])), (cs, .inr (4, [.int md, .ref e0, .int 0])), (th, .inr (4, [.int md2, .ref e0, .int 0])), (o_32, .inr (6, [.int 0, .null, .null, .null, .int 0, .int 0, .int 0, .int 0, .int 0, .int 0, .int 0, .long 0, .long 0]))] H := hP
          have hD : va_D A [(h, .inr (11, [.ref cs, .ref th, f2, f3, f4, f5, .int hh])), (cs, .inr (4, [.int md, .ref e0, .int 0])), (th, .inr (4, [.int md2, .ref e0, .int 0])), (o_32, .inr (6, [.int 0, .null, .null, .null, .int 0, .int 0, .int 0, .int 0, .int 0, .int 0, .int 0, .long 0, .long 0]))] := hD
          refine lv_dup hx hb dX7_column_57 rfl ?_
          refine lv_iload_n hx hb dX7_column_58 rfl (lv_at hl 1 rfl) ?_
          refine lv_aload_n hx hb dX7_column_59 rfl (lv_at hl 0 rfl) ?_
          refine va_get (D := D) (ci := 11) (v := .int hh) (C := RX7) (T := TX7) (N := 7) hx hb hts iwX7 hown hK hP 0 rfl rfl 6 (by decide) (hts _ q104) (fun _ h9 => h9) rfl dX7_column_60 ?_
          have hPc := hP.sub (ws' := [(o_32, .inr (6, [.int 0, .null, .null, .null, .int 0, .int 0, .int 0, .int 0, .int 0, .int 0, .int 0, .long 0, .long 0]))]) [3] rfl
          have hDc := hD.sub (ws' := [(o_32, .inr (6, [.int 0, .null, .null, .null, .int 0, .int 0, .int 0, .int 0, .int 0, .int 0, .int 0, .long 0, .long 0]))]) [3] (by decide) rfl
          have hKc := hK.sub (tys' := []) [] rfl
          have hFc := va_free (wc := [(o_32, .inr (6, [.int 0, .null, .null, .null, .int 0, .int 0, .int 0, .int 0, .int 0, .int 0, .int 0, .long 0, .long 0]))]) hD hS hA [3] rfl
          refine va_callv (va_runI (As := [.int 110, .int hh]) (rest := [.ref o_32, .ref cs]) ⟨hx, hb, hml, hown, hts⟩ (k_LC_init l D e0 o_32 110 hh H.size (by decide) (by decide)) (cwI 2 hts (gA q450) rfl rfl rfl (hts _ q13) (hts _ q448) (hts _ q449) rfl (by decide +kernel) ⟨Nat.le_of_ble_eq_true rfl, Nat.le_of_ble_eq_true rfl⟩) ⟨EW.fb, fun U hU hW => ⟨rfl, EW.at hPc hKc hDc hG (hZ.no hS) (ZD.no hZd hS) U hU hW⟩⟩ rfl rfl hl.1 rfl (lv_room (Nat.le_of_ble_eq_true rfl)) dX7_column_63 ⟨Nat.le_of_ble_eq_true rfl, Nat.le_of_ble_eq_true rfl⟩) hS (fun q _ h => hFc q h) hFc (fun u t H1 locs ht hvm hw hB hz1 hk1 hS => ?_)
          obtain ⟨u_34, e_u_34⟩ : ∃ z, z = u := ⟨_, rfl⟩
          subst e_u_34
          obtain ⟨hP1, hD1⟩ := hB
          rw [ht] at hP1
          obtain ⟨hP, hD⟩ := va_join (wr := [(h, .inr (11, [.ref cs, .ref th, f2, f3, f4, f5, .int hh])), (cs, .inr (4, [.int md, .ref e0, .int 0])), (th, .inr (4, [.int md2, .ref e0, .int 0]))]) (w1 := [(o_32, .inr (6, u_34))]) hP hD [3] [0, 1, 2] rfl rfl (by decide) (by decide) hk1 hFc hP1 hD1
          generalize H1 = H at hP hS ⊢
          have hP : va_P D vwCl [(h, .inr (11, [.ref cs, .ref th, f2, f3, f4, f5, .int hh])), (cs, .inr (4, [.int md, .ref e0, .int 0])), (th, .inr (4, [.int md2, .ref e0, .int 0])), (o_32, .inr (6, u_34))] H := hP
          have hD : va_D A [(h, .inr (11, [.ref cs, .ref th, f2, f3, f4, f5, .int hh])), (cs, .inr (4, [.int md, .ref e0, .int 0])), (th, .inr (4, [.int md2, .ref e0, .int 0])), (o_32, .inr (6, u_34))] := hD
          have hPc := hP.sub (ws' := [(cs, .inr (4, [.int md, .ref e0, .int 0])), (o_32, .inr (6, u_34))]) [1, 3] rfl
          have hDc := hD.sub (ws' := [(cs, .inr (4, [.int md, .ref e0, .int 0])), (o_32, .inr (6, u_34))]) [1, 3] (by decide) rfl
          have hKc := hK.sub (tys' := []) [] rfl
          have hFc := va_free (wc := [(cs, .inr (4, [.int md, .ref e0, .int 0])), (o_32, .inr (6, u_34))]) hD hS hA [1, 3] rfl
          refine va_calli (va_runV (As := [.ref o_32]) (rest := []) ⟨hx, hb, hml, hown, hts⟩ (k_AL_add_LC l D e0 cs o_32 u_34 md H.size) (cwV 1 hts (gV q574 q575 q576 q4 (gA q577)) rfl rfl rfl (by decide +kernel) ⟨Nat.le_of_ble_eq_true rfl, Nat.le_of_ble_eq_true rfl⟩) ⟨EY.fb, va_recv hKc hPc (ci := 4) (q0 := 0) rfl rfl, fun U hU hW => ⟨rfl, EY.at hPc hKc hDc hG (hZ.no hS) (ZD.no hZd hS) hZt hAO hS hFc U hU hW⟩⟩ rfl rfl hl.1 rfl (lv_room (Nat.le_of_ble_eq_true rfl)) dX7_column_66 ⟨Nat.le_of_ble_eq_true rfl, Nat.le_of_ble_eq_true rfl⟩) hS (fun q _ h => hFc q h) hFc (fun r_35 u t H1 locs ht hvm hw hB hz1 hk1 hS => ?_)
          obtain ⟨u_36a, u_36b⟩ := u
          obtain ⟨hP1, hD1⟩ := hB
          rw [ht] at hP1
          obtain ⟨hP, hD⟩ := va_join (wr := [(h, .inr (11, [.ref cs, .ref th, f2, f3, f4, f5, .int hh])), (th, .inr (4, [.int md2, .ref e0, .int 0]))]) (w1 := [(cs, .inr (4, [.int u_36a, .ref u_36b, .int 1]))]) hP hD [1, 3] [0, 2] rfl rfl (by decide) (by decide) hk1 hFc hP1 hD1
          generalize H1 = H at hP hS ⊢
          have hP : va_P D vwCl [(h, .inr (11, [.ref cs, .ref th, f2, f3, f4, f5, .int hh])), (th, .inr (4, [.int md2, .ref e0, .int 0])), (cs, .inr (4, [.int u_36a, .ref u_36b, .int 1]))] H := hP
          have hD : va_D A [(h, .inr (11, [.ref cs, .ref th, f2, f3, f4, f5, .int hh])), (th, .inr (4, [.int md2, .ref e0, .int 0])), (cs, .inr (4, [.int u_36a, .ref u_36b, .int 1]))] := hD
          subst hw
          refine lv_pop hx hb dX7_column_69 rfl ?_
          refine lv_aload_n hx hb dX7_column_70 rfl (lv_at hl 0 rfl) ?_
          refine va_get (D := D) (ci := 11) (v := .ref th) (C := RX7) (T := TX7) (N := 7) hx hb hts iwX7 hown hK hP 0 rfl rfl 1 (by decide) (hts _ q99) (fun _ h9 => h9) rfl dX7_column_71 ?_
          refine va_new (ci := 6) (fs := [.int 0, .null, .null, .null, .int 0, .int 0, .int 0, .int 0, .int 0, .int 0, .int 0, .long 0, .long 0]) (C := RX1) (T := TX1) (N := 13) hx hb hts iwX1 tyX1 tyX1_ok hown (hts _ q143) (hts _ q291) (hts _ q13) hK hP hD hS hA rfl (fun j hj => by rcases (show j = 0 ∨ j = 1 ∨ j = 2 ∨ j = 3 ∨ j = 4 ∨ j = 5 ∨ j = 6 ∨ j = 7 ∨ j = 8 ∨ j = 9 ∨ j = 10 ∨ j = 11 ∨ j = 12 by omega) with rfl | rfl | rfl | rfl | rfl | rfl | rfl | rfl | rfl | rfl | rfl | rfl | rfl <;> rfl) (Nat.le_of_ble_eq_true rfl) (Nat.le_of_ble_eq_true rfl) dX7_column_74 (fun o_37 H hP hD hS => ?_)
          have hP : va_P D vwCl [(h, .inr (11, [.ref cs, .ref th, f2, f3, f4, f5, .int hh])), (th, .inr (4, [.int md2, .ref e0, .int 0])), (cs, .inr (4, [.int u_36a, .ref u_36b, .int 1])), (o_37, .inr (6, [.int 0, .null, .null, .null, .int 0, .int 0, .int 0, .int 0, .int 0, .int 0, .int 0, .long 0, .long 0]))] H := hP
          have hD : va_D A [(h, .inr (11, [.ref cs, .ref th, f2, f3, f4, f5, .int hh])), (th, .inr (4, [.int md2, .ref e0, .int 0])), (cs, .inr (4, [.int u_36a, .ref u_36b, .int 1])), (o_37, .inr (6, [.int 0, .null, .null, .null, .int 0, .int 0, .int 0, .int 0, .int 0, .int 0, .int 0, .long 0, .long 0]))] := hD
          refine lv_dup hx hb dX7_column_77 rfl ?_
          refine lv_iload_n hx hb dX7_column_78 rfl (lv_at hl 1 rfl) ?_
          refine lv_aload_n hx hb dX7_column_79 rfl (lv_at hl 0 rfl) ?_
          refine va_get (D := D) (ci := 11) (v := .int hh) (C := RX7) (T := TX7) (N := 7) hx hb hts iwX7 hown hK hP 0 rfl rfl 6 (by decide) (hts _ q104) (fun _ h9 => h9) rfl dX7_column_80 ?_
          have hPc := hP.sub (ws' := [(o_37, .inr (6, [.int 0, .null, .null, .null, .int 0, .int 0, .int 0, .int 0, .int 0, .int 0, .int 0, .long 0, .long 0]))]) [3] rfl
          have hDc := hD.sub (ws' := [(o_37, .inr (6, [.int 0, .null, .null, .null, .int 0, .int 0, .int 0, .int 0, .int 0, .int 0, .int 0, .long 0, .long 0]))]) [3] (by decide) rfl
          have hKc := hK.sub (tys' := []) [] rfl
          have hFc := va_free (wc := [(o_37, .inr (6, [.int 0, .null, .null, .null, .int 0, .int 0, .int 0, .int 0, .int 0, .int 0, .int 0, .long 0, .long 0]))]) hD hS hA [3] rfl
          refine va_callv (va_runI (As := [.int 110, .int hh]) (rest := [.ref o_37, .ref th]) ⟨hx, hb, hml, hown, hts⟩ (k_LC_init l D e0 o_37 110 hh H.size (by decide) (by decide)) (cwI 2 hts (gA q450) rfl rfl rfl (hts _ q13) (hts _ q448) (hts _ q449) rfl (by decide +kernel) ⟨Nat.le_of_ble_eq_true rfl, Nat.le_of_ble_eq_true rfl⟩) ⟨EW.fb, fun U hU hW => ⟨rfl, EW.at hPc hKc hDc hG (hZ.no hS) (ZD.no hZd hS) U hU hW⟩⟩ rfl rfl hl.1 rfl (lv_room (Nat.le_of_ble_eq_true rfl)) dX7_column_83 ⟨Nat.le_of_ble_eq_true rfl, Nat.le_of_ble_eq_true rfl⟩) hS (fun q _ h => hFc q h) hFc (fun u t H1 locs ht hvm hw hB hz1 hk1 hS => ?_)
          obtain ⟨u_39, e_u_39⟩ : ∃ z, z = u := ⟨_, rfl⟩
          subst e_u_39
          obtain ⟨hP1, hD1⟩ := hB
          rw [ht] at hP1
          obtain ⟨hP, hD⟩ := va_join (wr := [(h, .inr (11, [.ref cs, .ref th, f2, f3, f4, f5, .int hh])), (th, .inr (4, [.int md2, .ref e0, .int 0])), (cs, .inr (4, [.int u_36a, .ref u_36b, .int 1]))]) (w1 := [(o_37, .inr (6, u_39))]) hP hD [3] [0, 1, 2] rfl rfl (by decide) (by decide) hk1 hFc hP1 hD1
          generalize H1 = H at hP hS ⊢
          have hP : va_P D vwCl [(h, .inr (11, [.ref cs, .ref th, f2, f3, f4, f5, .int hh])), (th, .inr (4, [.int md2, .ref e0, .int 0])), (cs, .inr (4, [.int u_36a, .ref u_36b, .int 1])), (o_37, .inr (6, u_39))] H := hP
          have hD : va_D A [(h, .inr (11, [.ref cs, .ref th, f2, f3, f4, f5, .int hh])), (th, .inr (4, [.int md2, .ref e0, .int 0])), (cs, .inr (4, [.int u_36a, .ref u_36b, .int 1])), (o_37, .inr (6, u_39))] := hD
          have hPc := hP.sub (ws' := [(th, .inr (4, [.int md2, .ref e0, .int 0])), (o_37, .inr (6, u_39))]) [1, 3] rfl
          have hDc := hD.sub (ws' := [(th, .inr (4, [.int md2, .ref e0, .int 0])), (o_37, .inr (6, u_39))]) [1, 3] (by decide) rfl
          have hKc := hK.sub (tys' := []) [] rfl
          have hFc := va_free (wc := [(th, .inr (4, [.int md2, .ref e0, .int 0])), (o_37, .inr (6, u_39))]) hD hS hA [1, 3] rfl
          refine va_calli (va_runV (As := [.ref o_37]) (rest := []) ⟨hx, hb, hml, hown, hts⟩ (k_AL_add_LC l D e0 th o_37 u_39 md2 H.size) (cwV 1 hts (gV q574 q575 q576 q4 (gA q577)) rfl rfl rfl (by decide +kernel) ⟨Nat.le_of_ble_eq_true rfl, Nat.le_of_ble_eq_true rfl⟩) ⟨EY.fb, va_recv hKc hPc (ci := 4) (q0 := 0) rfl rfl, fun U hU hW => ⟨rfl, EY.at hPc hKc hDc hG (hZ.no hS) (ZD.no hZd hS) hZt hAO hS hFc U hU hW⟩⟩ rfl rfl hl.1 rfl (lv_room (Nat.le_of_ble_eq_true rfl)) dX7_column_86 ⟨Nat.le_of_ble_eq_true rfl, Nat.le_of_ble_eq_true rfl⟩) hS (fun q _ h => hFc q h) hFc (fun r_40 u t H1 locs ht hvm hw hB hz1 hk1 hS => ?_)
          obtain ⟨u_41a, u_41b⟩ := u
          obtain ⟨hP1, hD1⟩ := hB
          rw [ht] at hP1
          obtain ⟨hP, hD⟩ := va_join (wr := [(h, .inr (11, [.ref cs, .ref th, f2, f3, f4, f5, .int hh])), (cs, .inr (4, [.int u_36a, .ref u_36b, .int 1]))]) (w1 := [(th, .inr (4, [.int u_41a, .ref u_41b, .int 1]))]) hP hD [1, 3] [0, 2] rfl rfl (by decide) (by decide) hk1 hFc hP1 hD1
          generalize H1 = H at hP hS ⊢
          have hP : va_P D vwCl [(h, .inr (11, [.ref cs, .ref th, f2, f3, f4, f5, .int hh])), (cs, .inr (4, [.int u_36a, .ref u_36b, .int 1])), (th, .inr (4, [.int u_41a, .ref u_41b, .int 1]))] H := hP
          have hD : va_D A [(h, .inr (11, [.ref cs, .ref th, f2, f3, f4, f5, .int hh])), (cs, .inr (4, [.int u_36a, .ref u_36b, .int 1])), (th, .inr (4, [.int u_41a, .ref u_41b, .int 1]))] := hD
          subst hw
          refine lv_pop hx hb dX7_column_89 rfl ?_
          refine lv_aload_n hx hb dX7_column_90 rfl (lv_at hl 0 rfl) ?_
          refine va_get (D := D) (ci := 11) (v := .ref cs) (C := RX7) (T := TX7) (N := 7) hx hb hts iwX7 hown hK hP 0 rfl rfl 0 (by decide) (hts _ q98) (fun _ h9 => h9) rfl dX7_column_91 ?_
          have hPc := hP.sub (ws' := [(cs, .inr (4, [.int u_36a, .ref u_36b, .int 1]))]) [1] rfl
          have hDc := hD.sub (ws' := [(cs, .inr (4, [.int u_36a, .ref u_36b, .int 1]))]) [1] (by decide) rfl
          have hKc := hK.sub (tys' := []) [] rfl
          refine va_calli (va_runV (As := []) (rest := []) ⟨hx, hb, hml, hown, hts⟩ (k_AL_size l D cs u_36a (.ref u_36b) 1 H.size) (cwV 0 hts (gV q125 q126 q127 q4 (gA q128)) rfl rfl rfl (by decide +kernel) ⟨Nat.le_of_ble_eq_true rfl, Nat.le_of_ble_eq_true rfl⟩) ⟨EV.fb, va_recv hKc hPc (ci := 4) (q0 := 0) rfl rfl, fun U hU hW => ⟨rfl, EV.at hPc hKc hDc hG (hZ.no hS) U hU hW⟩⟩ rfl rfl hl.1 rfl (lv_room (Nat.le_of_ble_eq_true rfl)) dX7_column_94 ⟨Nat.le_of_ble_eq_true rfl, Nat.le_of_ble_eq_true rfl⟩) hS (fun q _ h => h.elim) (fun q h => h.elim) (fun r_42 u t H1 locs ht hvm hw hB hz1 hk1 hS => ?_)
          have hP := P_kept hP hk1
          generalize H1 = H at hP hS ⊢
          have hP : va_P D vwCl [(h, .inr (11, [.ref cs, .ref th, f2, f3, f4, f5, .int hh])), (cs, .inr (4, [.int u_36a, .ref u_36b, .int 1])), (th, .inr (4, [.int u_41a, .ref u_41b, .int 1]))] H := hP
          subst hw
          refine lv_iconst (v := 1) hx hb dX7_column_97 (by decide) ?_
          refine lv_isub hx hb dX7_column_98 ?_
          refine W.eq (g2 := F0 m 99 ls [.int 0]) (congrArg (fun z : Int32 => F0 m 99 ls [Value.int z]) (show (1 - 1 : Int32) = 0 by decide)) ?_
          have hP9 := hP.sub (ws' := []) [] rfl
          have hD9 := hD.sub (ws' := []) [] (by decide) rfl
          refine W.widen (k := 18) (n := 96) (Nat.le_of_ble_eq_true rfl) (Nat.le_of_ble_eq_true rfl) ?_
          refine vx_ret ?_
          exact W.iret (v := 0) hx hb hr (fun t ht hW => ⟨⟨0, (), rfl, ⟨rfl, Or.inr (Or.inr rfl)⟩, by rw [ht]; exact hP9, hD9⟩, hS.F ht⟩) hS.2.2 dX7_column_99
        · exact absurd (by decide) c_31
      · obtain ⟨sa, hstr⟩ := hG.str t425 hown
        exact vx_throwS (own := RX7) (cls := "java/lang/IllegalArgumentException") (text := "no such bottom") (names := xnR) (ik := 40) (is := 42) (ic := 44) (sa := sa) hx hb hst hown (by decide +kernel) (by decide +kernel) (hts _ q416) (hts _ q11) hstr (al_use xa_X7_44 hts hG) xa_X7_44_g hZ.1 hZ.2 hS (by rw [hml]; exact hl.1) dX7_column_18 dX7_column_21 dX7_column_22 dX7_column_24 dX7_column_27 (fun x hx => (hnt x hx).elim) (Nat.le_of_ble_eq_true rfl) (Nat.le_of_ble_eq_true rfl) (Nat.le_of_ble_eq_true rfl) (Nat.le_of_ble_eq_true rfl) hlocks (fun t _ hz hk => ⟨(), fun z => by rcases z with z | z | z; exact c_1 z; exact c_15 z; exact c_29 z, rfl, F_of hS hz hk⟩) (fun z hz => hS.2.2 z hz) (Nat.le_of_ble_eq_true rfl) (Nat.le_of_ble_eq_true rfl)
set_option maxHeartbeats 4000000 in
set_option maxRecDepth 100000 in
/-- the helper column -/
theorem k_LL_column (l : Launch) (hst : l.stackTraces = false) (D : va_G) (e0 : Nat) (h cs th : Nat) (f2 f3 f4 f5 : Value) (hh md md2 : Int32) (p0 : Int32) (o : Nat) (cA : ClassId) (f : Nat → Int64) (sz : Nat) : Met l yL_column (wsH yL_column cL_column 4 (some .int) [(0, 9, 12, 13), (0, 9, 15, 15)]) ({ frames := 7, cells := 18, slots := 96, locals := 122 }) (va_Pc [.ref h, .int p0, .ref o] (EY e0 D [(cA, .long)] [(h, .inr (11, [.ref cs, .ref th, f2, f3, f4, f5, .int hh])), (cs, .inr (4, [.int md, .ref e0, .int 0])), (th, .inr (4, [.int md2, .ref e0, .int 0])), (o, .inl (cA, 1, .inr (.inl f)))] sz)) (va_Qi (fun (r : Int32) (u : Nat → Int64) => QH (isFSN p0) (Int32.toInt64 0) r u) (fun u t => va_P D vwCl [(o, .inl (cA, 1, .inr (.inl u)))] t.heap ∧ va_D (va_A [(h, .inr (11, [.ref cs, .ref th, f2, f3, f4, f5, .int hh])), (cs, .inr (4, [.int md, .ref e0, .int 0])), (th, .inr (4, [.int md2, .ref e0, .int 0])), (o, .inl (cA, 1, .inr (.inl f)))] sz) [(o, .inl (cA, 1, .inr (.inl u)))]) (va_A [(h, .inr (11, [.ref cs, .ref th, f2, f3, f4, f5, .int hh])), (cs, .inr (4, [.int md, .ref e0, .int 0])), (th, .inr (4, [.int md2, .ref e0, .int 0])), (o, .inl (cA, 1, .inr (.inl f)))] sz)) 18 96 (va_A [(h, .inr (11, [.ref cs, .ref th, f2, f3, f4, f5, .int hh])), (cs, .inr (4, [.int md, .ref e0, .int 0])), (th, .inr (4, [.int md2, .ref e0, .int 0])), (o, .inl (cA, 1, .inr (.inl f)))] sz) := by
  refine va_MetW (cc := cL_column) (maxL := 4) (ret := (some .int)) (hh := [(0, 9, 12, 13), (0, 9, 15, 15)]) (ws' := lw_all) (by decide) rfl ?_
  intro p e s m args below meth c s₁ B hml hv
  obtain ⟨rfl, ⟨⟨hsz, hP, hK, hD0, hG, hZ0⟩, hZd0⟩, hZt, hAO⟩ := hv
  have hx := B.exec
  have hb := B.bytes
  have hr := B.returns
  have hts0 := atoms_spec (ws := wsH yL_column cL_column 4 (some .int) [(0, 9, 12, 13), (0, 9, 15, 15)]) B.pre
  have hts : ∀ w ∈ lw_all, w.before _ s = true := fun w h => hts0 w (List.mem_cons_of_mem _ h)
  have hown : s.vm.findClass RL = some m.cls := findClass_of_methodNamed B.named
  have hlocks := B.notSynchronized
  have htab : c.exceptionTable.toList = tableOf [(0, 9, 12, 13), (0, 9, 15, 15)] := vx_table (x := objectInit) B (hts0 _ List.mem_cons_self)
  subst hsz
  have hZ := ZZ.wide hP hZ0
  have hZd := ZD.wide hP hZd0
  have hD := hD0.self (sz := s.heap.size)
  generalize hAe : va_A [(h, .inr (11, [.ref cs, .ref th, f2, f3, f4, f5, .int hh])), (cs, .inr (4, [.int md, .ref e0, .int 0])), (th, .inr (4, [.int md2, .ref e0, .int 0])), (o, .inl (cA, 1, .inr (.inl f)))] s.heap.size = A at hD hZ hZd hZt ⊢
  have hA : ∀ q : Nat, s.heap.size ≤ q → A q := fun q h => by rw [← hAe]; exact Or.inr h
  have hS : va_S A s.heap s.heap [] := va_S.rf
  have hP : va_P D vwCl [(h, .inr (11, [.ref cs, .ref th, f2, f3, f4, f5, .int hh])), (cs, .inr (4, [.int md, .ref e0, .int 0])), (th, .inr (4, [.int md2, .ref e0, .int 0])), (o, .inl (cA, 1, .inr (.inl f)))] s.heap := hP
  have hl := lv_entry ([.ref h, .int p0, .ref o]) (n := 4) (Nat.le_of_ble_eq_true rfl)
  rw [lg_entry_eq]
  generalize (lg_sl ([.ref h, .int p0, .ref o]) ++ List.replicate (4 - (lg_sl ([.ref h, .int p0, .ref o])).length) Slot.unset).toArray = ls at hl ⊢
  have hl : lv_has ls 4 [(0, .ref h), (1, .int p0), (2, .ref o)] := hl
  refine lv_aload_n hx hb dL_column_0 rfl (lv_at hl 2 rfl) ?_
  refine lv_iconst (v := 0) hx hb dL_column_1 (by decide) ?_
  refine lv_aload_n hx hb dL_column_2 rfl (lv_at hl 0 rfl) ?_
  refine lv_iload_n hx hb dL_column_3 rfl (lv_at hl 1 rfl) ?_
  have hPc := hP.sub (ws' := [(h, .inr (11, [.ref cs, .ref th, f2, f3, f4, f5, .int hh])), (cs, .inr (4, [.int md, .ref e0, .int 0])), (th, .inr (4, [.int md2, .ref e0, .int 0]))]) [0, 1, 2] rfl
  have hDc := hD.sub (ws' := [(h, .inr (11, [.ref cs, .ref th, f2, f3, f4, f5, .int hh])), (cs, .inr (4, [.int md, .ref e0, .int 0])), (th, .inr (4, [.int md2, .ref e0, .int 0]))]) [0, 1, 2] (by decide) rfl
  have hKc := hK.sub (tys' := []) [] rfl
  have hFc := va_free (wc := [(h, .inr (11, [.ref cs, .ref th, f2, f3, f4, f5, .int hh])), (cs, .inr (4, [.int md, .ref e0, .int 0])), (th, .inr (4, [.int md2, .ref e0, .int 0]))]) hD hS hA [0, 1, 2] rfl
  refine vx_calli (vx_runV (As := [.int p0]) (rest := [.int 0, .ref o]) ⟨hx, hb, hml, hown, hts⟩ (k_LF_column l hst D e0 h cs th f2 f3 f4 f5 hh md md2 p0 s.heap.size) (cwV 1 hts (gV q412 q413 q414 q1 (gA q415)) rfl rfl rfl (by decide +kernel) ⟨Nat.le_of_ble_eq_true rfl, Nat.le_of_ble_eq_true rfl⟩) ⟨EY.fb, va_recv hKc hPc (ci := 11) (q0 := 0) rfl rfl, fun U hU hW => ⟨rfl, EY.at hPc hKc hDc hG (hZ.no hS) (ZD.no hZd hS) hZt hAO hS hFc U hU hW⟩⟩ rfl rfl hl.1 rfl (lv_room (Nat.le_of_ble_eq_true rfl)) dL_column_4 ⟨Nat.le_of_ble_eq_true rfl, Nat.le_of_ble_eq_true rfl⟩) hS (fun q _ h => hFc q h) hFc (fun q _ h => hFc q h) (fun E ce q9 u t H1 locs1 ht hvm hpx_3 hBX hz1 hk1 hS hcell hcv hcl => ?_) (fun r_1 u t H1 locs ht hvm hw_2 hB hz1 hk1 hS => ?_)
  · obtain ⟨hP, hD⟩ := va_join (wr := [(o, .inl (cA, 1, .inr (.inl f)))]) (w1 := []) hP hD [0, 1, 2] [3] rfl rfl (by decide) (by decide) hk1 hFc P_nil D_nil
    subst hBX
    refine vx_catch (own := RL) (name := "java/lang/IllegalArgumentException") (E := "java/lang/IllegalArgumentException") hown [] ⟨0, 9, 12, 13⟩ [⟨0, 9, 15, 15⟩] (by rw [htab]; rfl) (fun z hz => absurd hz List.not_mem_nil) rfl (by decide) (hts _ q410) (hG.use t418) hcell hcv hcl ?_
    generalize H1 = H at hP hS ⊢
    have hP : va_P D vwCl [(o, .inl (cA, 1, .inr (.inl f)))] H := hP
    refine lv_astore_n (lv' := [(3, .ref q9), (0, .ref h), (1, .int p0), (2, .ref o)]) hx hb dL_column_12 rfl hl (by decide) rfl (fun ls hl => ?_)
    refine lv_iconst (v := 1) hx hb dL_column_13 (by decide) ?_
    have hP9 := hP.sub (ws' := [(o, .inl (cA, 1, .inr (.inl f)))]) [0] rfl
    have hD9 := hD.sub (ws' := [(o, .inl (cA, 1, .inr (.inl f)))]) [0] (by decide) rfl
    refine W.widen (k := 18) (n := 96) (Nat.le_of_ble_eq_true rfl) (Nat.le_of_ble_eq_true rfl) ?_
    exact W.iret (v := 1) hx hb hr (fun t ht hW => ⟨⟨1, f, rfl, Or.inr ⟨rfl, hpx_3⟩, by rw [ht]; exact hP9, hD9⟩, hS.F ht⟩) hS.2.2 dL_column_14
  · obtain ⟨hP1, hD1⟩ := hB
    rw [ht] at hP1
    obtain ⟨hP, hD⟩ := va_join (wr := [(o, .inl (cA, 1, .inr (.inl f)))]) (w1 := []) hP hD [0, 1, 2] [3] rfl rfl (by decide) (by decide) hk1 hFc hP1 hD1
    generalize H1 = H at hP hS ⊢
    have hP : va_P D vwCl [(o, .inl (cA, 1, .inr (.inl f)))] H := hP
    have hD : va_D A [(o, .inl (cA, 1, .inr (.inl f)))] := hD
    obtain ⟨er, hg⟩ := hw_2
    rw [er]
    refine lv_i2l hx hb dL_column_7 rfl ?_
    refine va_last hx hb hK hP hD hS 0 0 rfl rfl (x := (Int32.toInt64 0)) (by unfold vp_in; decide) dL_column_8 (fun H locs hP hD hS => ?_)
    have hP : va_P D vwCl [(o, .inl (cA, 1, .inr (.inl (vp_updL f 0 (Int32.toInt64 0)))))] H := hP
    have hD : va_D A [(o, .inl (cA, 1, .inr (.inl (vp_updL f 0 (Int32.toInt64 0)))))] := hD
    refine lv_goto (tgt := 18) hx hb dL_column_9 (by decide) ?_
    refine lv_iconst (v := 0) hx hb dL_column_18 (by decide) ?_
    have hP9 := hP.sub (ws' := [(o, .inl (cA, 1, .inr (.inl (vp_updL f 0 (Int32.toInt64 0)))))]) [0] rfl
    have hD9 := hD.sub (ws' := [(o, .inl (cA, 1, .inr (.inl (vp_updL f 0 (Int32.toInt64 0)))))]) [0] (by decide) rfl
    refine W.widen (k := 18) (n := 96) (Nat.le_of_ble_eq_true rfl) (Nat.le_of_ble_eq_true rfl) ?_
    exact W.iret (v := 0) hx hb hr (fun t ht hW => ⟨⟨0, (vp_updL f 0 (Int32.toInt64 0)), rfl, Or.inl ⟨rfl, hg, rfl⟩, by rw [ht]; exact hP9, hD9⟩, hS.F ht⟩) hS.2.2 dL_column_19
set_option maxHeartbeats 4000000 in
set_option maxRecDepth 100000 in
/-- column of the fresh reference -/
theorem k_LM_column (l : Launch) (D : va_G) (e0 : Nat) (q v : Nat) (h : Nat) (th : Int32) (cs : Nat) (sk vh : Value) (md : Int32) (p0 : Int32) (sz : Nat) (hn : narrow .char (.int p0) = .int p0) (hf : fits .char (.int p0) = true) : Met l yX12_column (wsA yX12_column cX12_column 2 (some .int)) ({ frames := 5, cells := 5, slots := 37, locals := 101 }) (va_Pc [.ref h, .int p0] (fun U => (EY e0 D [] [(h, .inr (16, [.int th, .ref cs, sk, vh])), (cs, .inr (4, [.int md, .ref e0, .int 0]))] sz) U ∧ SF q v NoA U U.heap ∧ vk_R RX12 58 "fsn" q U)) (va_Qi (fun (r u : Int32) => QM (isFSN p0) 0 r u) (fun u t => va_P D vwCl [(h, .inr (16, [.int u, .ref cs, sk, vh]))] t.heap ∧ va_D (va_A [(h, .inr (16, [.int th, .ref cs, sk, vh])), (cs, .inr (4, [.int md, .ref e0, .int 0]))] sz) [(h, .inr (16, [.int u, .ref cs, sk, vh]))]) (va_A [(h, .inr (16, [.int th, .ref cs, sk, vh])), (cs, .inr (4, [.int md, .ref e0, .int 0]))] sz)) 5 37 (va_A [(h, .inr (16, [.int th, .ref cs, sk, vh])), (cs, .inr (4, [.int md, .ref e0, .int 0]))] sz) := by
  refine Met.ofW (cc := cX12_column) (maxL := 2) (ret := (some .int)) (by decide) rfl ?_
  intro p e s m args below meth c s₁ B hml hv
  obtain ⟨rfl, ⟨⟨⟨hsz, hP, hK, hD0, hG, hZ0⟩, hZd0⟩, hZt, hAO⟩, hSF0, hvk⟩ := hv
  have hx := B.exec
  have hb := B.bytes
  have hr := B.returns
  have hts0 := atoms_spec (ws := wsA yX12_column cX12_column 2 (some .int)) B.pre
  have hts : ∀ w ∈ lw_all, w.before _ s = true := fun w h => hts0 w (List.mem_cons_of_mem _ h)
  have hown : s.vm.findClass RX12 = some m.cls := findClass_of_methodNamed B.named
  have hlocks := B.notSynchronized
  subst hsz
  have hZ := ZZ.wide hP hZ0
  have hZd := ZD.wide hP hZd0
  have hD := hD0.self (sz := s.heap.size)
  generalize hAe : va_A [(h, .inr (16, [.int th, .ref cs, sk, vh])), (cs, .inr (4, [.int md, .ref e0, .int 0]))] s.heap.size = A at hD hZ hZd hZt ⊢
  have hA : ∀ q : Nat, s.heap.size ≤ q → A q := fun q h => by rw [← hAe]; exact Or.inr h
  have hS : va_S A s.heap s.heap [] := va_S.rf
  have hP : va_P D vwCl [(h, .inr (16, [.int th, .ref cs, sk, vh])), (cs, .inr (4, [.int md, .ref e0, .int 0]))] s.heap := hP
  have hl := lv_entry ([.ref h, .int p0]) (n := 2) (Nat.le_of_ble_eq_true rfl)
  rw [lg_entry_eq]
  generalize (lg_sl ([.ref h, .int p0]) ++ List.replicate (2 - (lg_sl ([.ref h, .int p0])).length) Slot.unset).toArray = ls at hl ⊢
  have hl : lv_has ls 2 [(0, .ref h), (1, .int p0)] := hl
  refine lv_aload_n hx hb dX12_column_0 rfl (lv_at hl 0 rfl) ?_
  refine va_ldcS hx hb hown hvk dX12_column_1 ?_
  refine lv_iload_n hx hb dX12_column_3 rfl (lv_at hl 1 rfl) ?_
  have hPc := hP.sub (ws' := []) [] rfl
  have hDc := hD.sub (ws' := []) [] (by decide) rfl
  have hKc := hK.sub (tys' := []) [] rfl
  refine va_calli (va_runV (As := [.int p0]) (rest := [.ref h]) ⟨hx, hb, hml, hown, hts⟩ (k_St_indexOf l D q v p0 s.heap.size) (cwV 1 hts (gV q1183 q1184 q1185 q20 (gA q1186)) rfl rfl rfl (by decide +kernel) ⟨Nat.le_of_ble_eq_true rfl, Nat.le_of_ble_eq_true rfl⟩) ⟨EX.fb (X := SF q v) SF.mv, va_Orecv hSF0.1 (va_S.rf (A := NoA)), fun U hU hW => ⟨rfl, EX.at (X := SF q v) SF.mv hPc hKc hDc hG hZ0 hSF0 U hU hW⟩⟩ rfl rfl hl.1 rfl (lv_room (Nat.le_of_ble_eq_true rfl)) dX12_column_4 ⟨Nat.le_of_ble_eq_true rfl, Nat.le_of_ble_eq_true rfl⟩) hS (fun q _ h => h.elim) (fun q h => h.elim) (fun r u t H1 locs ht hvm hwI hB hz1 hk1 hS => ?_)
  have hP := P_kept hP hk1
  generalize H1 = H at hP hS ⊢
  have hP : va_P D vwCl [(h, .inr (16, [.int th, .ref cs, sk, vh])), (cs, .inr (4, [.int md, .ref e0, .int 0]))] H := hP
  rcases hwI with ⟨hwn, hwb⟩ | ⟨hwn, hwb⟩
  · refine lv_if_ge (tgt := 14) hx hb dX12_column_7 (by decide) (fun c_1 => ?_) (fun c_1 => ?_)
    · exact absurd hwn (Int32.not_lt.mpr c_1)
    · refine lv_iconst (v := 1) hx hb dX12_column_10 (by decide) ?_
      refine lv_goto (tgt := 31) hx hb dX12_column_11 (by decide) ?_
      refine va_put (D := D) (ci := 16) (v := .int 1) (ty := .int) (C := RX12) (T := TX12) (N := 4) hx hb hts iwX12 tyX12 tyX12_ok nmX12 hown hK hP hD hS 0 rfl rfl 0 (by decide) (hts _ q1161) (fun _ h9 => h9) rfl (by decide +kernel) rfl rfl (Nat.le_of_ble_eq_true rfl) dX12_column_31 (fun H locs hP hD hS => ?_)
      have hP : va_P D vwCl [(h, .inr (16, [.int 1, .ref cs, sk, vh])), (cs, .inr (4, [.int md, .ref e0, .int 0]))] H := hP
      have hD : va_D A [(h, .inr (16, [.int 1, .ref cs, sk, vh])), (cs, .inr (4, [.int md, .ref e0, .int 0]))] := hD
      refine lv_aload_n hx hb dX12_column_34 rfl (lv_at hl 0 rfl) ?_
      refine va_get (D := D) (ci := 16) (v := .int 1) (C := RX12) (T := TX12) (N := 4) hx hb hts iwX12 hown hK hP 0 rfl rfl 0 (by decide) (hts _ q1161) (fun _ h9 => h9) rfl dX12_column_35 ?_
      refine lv_if_le (tgt := 43) hx hb dX12_column_38 (by decide) (fun c_2 => ?_) (fun c_2 => ?_)
      · exact absurd c_2 (by decide)
      · refine lv_iconst (v := 0) hx hb dX12_column_41 (by decide) ?_
        have hP9 := hP.sub (ws' := [(h, .inr (16, [.int 1, .ref cs, sk, vh]))]) [0] rfl
        have hD9 := hD.sub (ws' := [(h, .inr (16, [.int 1, .ref cs, sk, vh]))]) [0] (by decide) rfl
        refine W.widen (k := 5) (n := 37) (Nat.le_of_ble_eq_true rfl) (Nat.le_of_ble_eq_true rfl) ?_
        exact W.iret (v := 0) hx hb hr (fun t ht hW => ⟨⟨0, 1, rfl, Or.inr ⟨rfl, hwb⟩, by rw [ht]; exact hP9, hD9⟩, hS.F ht⟩) hS.2.2 dX12_column_42
  · refine lv_if_ge (tgt := 14) hx hb dX12_column_7 (by decide) (fun c_3 => ?_) (fun c_3 => ?_)
    · refine lv_aload_n hx hb dX12_column_14 rfl (lv_at hl 0 rfl) ?_
      refine va_get (D := D) (ci := 16) (v := .ref cs) (C := RX12) (T := TX12) (N := 4) hx hb hts iwX12 hown hK hP 0 rfl rfl 1 (by decide) (hts _ q1162) (fun _ h9 => h9) rfl dX12_column_15 ?_
      have hPc := hP.sub (ws' := [(cs, .inr (4, [.int md, .ref e0, .int 0]))]) [1] rfl
      have hDc := hD.sub (ws' := [(cs, .inr (4, [.int md, .ref e0, .int 0]))]) [1] (by decide) rfl
      have hKc := hK.sub (tys' := []) [] rfl
      refine va_calli (va_runV (As := []) (rest := [.ref h]) ⟨hx, hb, hml, hown, hts⟩ (k_AL_size l D cs md (.ref e0) 0 H.size) (cwV 0 hts (gV q1265 q126 q127 q4 (gA q128)) rfl rfl rfl (by decide +kernel) ⟨Nat.le_of_ble_eq_true rfl, Nat.le_of_ble_eq_true rfl⟩) ⟨EV.fb, va_recv hKc hPc (ci := 4) (q0 := 0) rfl rfl, fun U hU hW => ⟨rfl, EV.at hPc hKc hDc hG (hZ.no hS) U hU hW⟩⟩ rfl rfl hl.1 rfl (lv_room (Nat.le_of_ble_eq_true rfl)) dX12_column_18 ⟨Nat.le_of_ble_eq_true rfl, Nat.le_of_ble_eq_true rfl⟩) hS (fun q _ h => h.elim) (fun q h => h.elim) (fun r_4 u t H1 locs ht hvm hw hB hz1 hk1 hS => ?_)
      have hP := P_kept hP hk1
      generalize H1 = H at hP hS ⊢
      have hP : va_P D vwCl [(h, .inr (16, [.int th, .ref cs, sk, vh])), (cs, .inr (4, [.int md, .ref e0, .int 0]))] H := hP
      subst hw
      refine lv_bipush (v := 6) hx hb dX12_column_21 (by decide) ?_
      refine lv_icmp_ne (tgt := 30) hx hb dX12_column_23 (by decide) (fun c_5 => ?_) (fun c_5 => ?_)
      · refine lv_iconst (v := 0) hx hb dX12_column_30 (by decide) ?_
        refine va_put (D := D) (ci := 16) (v := .int 0) (ty := .int) (C := RX12) (T := TX12) (N := 4) hx hb hts iwX12 tyX12 tyX12_ok nmX12 hown hK hP hD hS 0 rfl rfl 0 (by decide) (hts _ q1161) (fun _ h9 => h9) rfl (by decide +kernel) rfl rfl (Nat.le_of_ble_eq_true rfl) dX12_column_31 (fun H locs hP hD hS => ?_)
        have hP : va_P D vwCl [(h, .inr (16, [.int 0, .ref cs, sk, vh])), (cs, .inr (4, [.int md, .ref e0, .int 0]))] H := hP
        have hD : va_D A [(h, .inr (16, [.int 0, .ref cs, sk, vh])), (cs, .inr (4, [.int md, .ref e0, .int 0]))] := hD
        refine lv_aload_n hx hb dX12_column_34 rfl (lv_at hl 0 rfl) ?_
        refine va_get (D := D) (ci := 16) (v := .int 0) (C := RX12) (T := TX12) (N := 4) hx hb hts iwX12 hown hK hP 0 rfl rfl 0 (by decide) (hts _ q1161) (fun _ h9 => h9) rfl dX12_column_35 ?_
        refine lv_if_le (tgt := 43) hx hb dX12_column_38 (by decide) (fun c_6 => ?_) (fun c_6 => ?_)
        · refine lv_aload_n hx hb dX12_column_43 rfl (lv_at hl 0 rfl) ?_
          refine va_get (D := D) (ci := 16) (v := .ref cs) (C := RX12) (T := TX12) (N := 4) hx hb hts iwX12 hown hK hP 0 rfl rfl 1 (by decide) (hts _ q1162) (fun _ h9 => h9) rfl dX12_column_44 ?_
          refine va_new (ci := 12) (fs := [.int 0, .null, .null, .int 0, .int 0, .int 0, .int 0, .int 0, .int 0, .int 0, .long 0, .int 0, .long 0, .long 0, .long 0, .long 0, .long 0, .null]) (C := RX8) (T := TX8) (N := 18) hx hb hts iwX8 tyX8 tyX8_ok hown (hts _ q1266) (hts _ q1267) (hts _ q25) hK hP hD hS hA rfl (fun j hj => by rcases (show j = 0 ∨ j = 1 ∨ j = 2 ∨ j = 3 ∨ j = 4 ∨ j = 5 ∨ j = 6 ∨ j = 7 ∨ j = 8 ∨ j = 9 ∨ j = 10 ∨ j = 11 ∨ j = 12 ∨ j = 13 ∨ j = 14 ∨ j = 15 ∨ j = 16 ∨ j = 17 by omega) with rfl | rfl | rfl | rfl | rfl | rfl | rfl | rfl | rfl | rfl | rfl | rfl | rfl | rfl | rfl | rfl | rfl | rfl <;> rfl) (Nat.le_of_ble_eq_true rfl) (Nat.le_of_ble_eq_true rfl) dX12_column_47 (fun o_7 H hP hD hS => ?_)
          have hP : va_P D vwCl [(h, .inr (16, [.int 0, .ref cs, sk, vh])), (cs, .inr (4, [.int md, .ref e0, .int 0])), (o_7, .inr (12, [.int 0, .null, .null, .int 0, .int 0, .int 0, .int 0, .int 0, .int 0, .int 0, .long 0, .int 0, .long 0, .long 0, .long 0, .long 0, .long 0, .null]))] H := hP
          have hD : va_D A [(h, .inr (16, [.int 0, .ref cs, sk, vh])), (cs, .inr (4, [.int md, .ref e0, .int 0])), (o_7, .inr (12, [.int 0, .null, .null, .int 0, .int 0, .int 0, .int 0, .int 0, .int 0, .int 0, .long 0, .int 0, .long 0, .long 0, .long 0, .long 0, .long 0, .null]))] := hD
          refine lv_dup hx hb dX12_column_50 rfl ?_
          refine lv_iload_n hx hb dX12_column_51 rfl (lv_at hl 1 rfl) ?_
          have hPc := hP.sub (ws' := [(o_7, .inr (12, [.int 0, .null, .null, .int 0, .int 0, .int 0, .int 0, .int 0, .int 0, .int 0, .long 0, .int 0, .long 0, .long 0, .long 0, .long 0, .long 0, .null]))]) [2] rfl
          have hDc := hD.sub (ws' := [(o_7, .inr (12, [.int 0, .null, .null, .int 0, .int 0, .int 0, .int 0, .int 0, .int 0, .int 0, .long 0, .int 0, .long 0, .long 0, .long 0, .long 0, .long 0, .null]))]) [2] (by decide) rfl
          have hKc := hK.sub (tys' := []) [] rfl
          have hFc := va_free (wc := [(o_7, .inr (12, [.int 0, .null, .null, .int 0, .int 0, .int 0, .int 0, .int 0, .int 0, .int 0, .long 0, .int 0, .long 0, .long 0, .long 0, .long 0, .long 0, .null]))]) hD hS hA [2] rfl
          refine va_callv (va_runI (As := [.int p0]) (rest := [.ref o_7, .ref cs]) ⟨hx, hb, hml, hown, hts⟩ (k_MC_init l D e0 o_7 p0 H.size hn hf) (cwI 1 hts (gA q1270) rfl rfl rfl (hts _ q25) (hts _ q1268) (hts _ q1269) rfl (by decide +kernel) ⟨Nat.le_of_ble_eq_true rfl, Nat.le_of_ble_eq_true rfl⟩) ⟨EW.fb, fun U hU hW => ⟨rfl, EW.at hPc hKc hDc hG (hZ.no hS) (ZD.no hZd hS) U hU hW⟩⟩ rfl rfl hl.1 rfl (lv_room (Nat.le_of_ble_eq_true rfl)) dX12_column_52 ⟨Nat.le_of_ble_eq_true rfl, Nat.le_of_ble_eq_true rfl⟩) hS (fun q _ h => hFc q h) hFc (fun u t H1 locs ht hvm hw hB hz1 hk1 hS => ?_)
          obtain ⟨u_9, e_u_9⟩ : ∃ z, z = u := ⟨_, rfl⟩
          subst e_u_9
          obtain ⟨hP1, hD1⟩ := hB
          rw [ht] at hP1
          obtain ⟨hP, hD⟩ := va_join (wr := [(h, .inr (16, [.int 0, .ref cs, sk, vh])), (cs, .inr (4, [.int md, .ref e0, .int 0]))]) (w1 := [(o_7, .inr (12, u_9))]) hP hD [2] [0, 1] rfl rfl (by decide) (by decide) hk1 hFc hP1 hD1
          generalize H1 = H at hP hS ⊢
          have hP : va_P D vwCl [(h, .inr (16, [.int 0, .ref cs, sk, vh])), (cs, .inr (4, [.int md, .ref e0, .int 0])), (o_7, .inr (12, u_9))] H := hP
          have hD : va_D A [(h, .inr (16, [.int 0, .ref cs, sk, vh])), (cs, .inr (4, [.int md, .ref e0, .int 0])), (o_7, .inr (12, u_9))] := hD
          have hPc := hP.sub (ws' := [(cs, .inr (4, [.int md, .ref e0, .int 0])), (o_7, .inr (12, u_9))]) [1, 2] rfl
          have hDc := hD.sub (ws' := [(cs, .inr (4, [.int md, .ref e0, .int 0])), (o_7, .inr (12, u_9))]) [1, 2] (by decide) rfl
          have hKc := hK.sub (tys' := []) [] rfl
          have hFc := va_free (wc := [(cs, .inr (4, [.int md, .ref e0, .int 0])), (o_7, .inr (12, u_9))]) hD hS hA [1, 2] rfl
          refine va_calli (va_runV (As := [.ref o_7]) (rest := []) ⟨hx, hb, hml, hown, hts⟩ (k_AL_add_MC l D e0 cs o_7 u_9 md H.size) (cwV 1 hts (gV q1345 q575 q576 q4 (gA q577)) rfl rfl rfl (by decide +kernel) ⟨Nat.le_of_ble_eq_true rfl, Nat.le_of_ble_eq_true rfl⟩) ⟨EY.fb, va_recv hKc hPc (ci := 4) (q0 := 0) rfl rfl, fun U hU hW => ⟨rfl, EY.at hPc hKc hDc hG (hZ.no hS) (ZD.no hZd hS) hZt hAO hS hFc U hU hW⟩⟩ rfl rfl hl.1 rfl (lv_room (Nat.le_of_ble_eq_true rfl)) dX12_column_55 ⟨Nat.le_of_ble_eq_true rfl, Nat.le_of_ble_eq_true rfl⟩) hS (fun q _ h => hFc q h) hFc (fun r_10 u t H1 locs ht hvm hw hB hz1 hk1 hS => ?_)
          obtain ⟨u_11a, u_11b⟩ := u
          obtain ⟨hP1, hD1⟩ := hB
          rw [ht] at hP1
          obtain ⟨hP, hD⟩ := va_join (wr := [(h, .inr (16, [.int 0, .ref cs, sk, vh]))]) (w1 := [(cs, .inr (4, [.int u_11a, .ref u_11b, .int 1]))]) hP hD [1, 2] [0] rfl rfl (by decide) (by decide) hk1 hFc hP1 hD1
          generalize H1 = H at hP hS ⊢
          have hP : va_P D vwCl [(h, .inr (16, [.int 0, .ref cs, sk, vh])), (cs, .inr (4, [.int u_11a, .ref u_11b, .int 1]))] H := hP
          have hD : va_D A [(h, .inr (16, [.int 0, .ref cs, sk, vh])), (cs, .inr (4, [.int u_11a, .ref u_11b, .int 1]))] := hD
          subst hw
          refine lv_pop hx hb dX12_column_58 rfl ?_
          refine lv_aload_n hx hb dX12_column_59 rfl (lv_at hl 0 rfl) ?_
          refine va_get (D := D) (ci := 16) (v := .ref cs) (C := RX12) (T := TX12) (N := 4) hx hb hts iwX12 hown hK hP 0 rfl rfl 1 (by decide) (hts _ q1162) (fun _ h9 => h9) rfl dX12_column_60 ?_
          have hPc := hP.sub (ws' := [(cs, .inr (4, [.int u_11a, .ref u_11b, .int 1]))]) [1] rfl
          have hDc := hD.sub (ws' := [(cs, .inr (4, [.int u_11a, .ref u_11b, .int 1]))]) [1] (by decide) rfl
          have hKc := hK.sub (tys' := []) [] rfl
          refine va_calli (va_runV (As := []) (rest := []) ⟨hx, hb, hml, hown, hts⟩ (k_AL_size l D cs u_11a (.ref u_11b) 1 H.size) (cwV 0 hts (gV q1265 q126 q127 q4 (gA q128)) rfl rfl rfl (by decide +kernel) ⟨Nat.le_of_ble_eq_true rfl, Nat.le_of_ble_eq_true rfl⟩) ⟨EV.fb, va_recv hKc hPc (ci := 4) (q0 := 0) rfl rfl, fun U hU hW => ⟨rfl, EV.at hPc hKc hDc hG (hZ.no hS) U hU hW⟩⟩ rfl rfl hl.1 rfl (lv_room (Nat.le_of_ble_eq_true rfl)) dX12_column_63 ⟨Nat.le_of_ble_eq_true rfl, Nat.le_of_ble_eq_true rfl⟩) hS (fun q _ h => h.elim) (fun q h => h.elim) (fun r_12 u t H1 locs ht hvm hw hB hz1 hk1 hS => ?_)
          have hP := P_kept hP hk1
          generalize H1 = H at hP hS ⊢
          have hP : va_P D vwCl [(h, .inr (16, [.int 0, .ref cs, sk, vh])), (cs, .inr (4, [.int u_11a, .ref u_11b, .int 1]))] H := hP
          subst hw
          refine lv_iconst (v := 1) hx hb dX12_column_66 (by decide) ?_
          refine lv_isub hx hb dX12_column_67 ?_
          refine W.eq (g2 := F0 m 68 ls [.int 0]) (congrArg (fun z : Int32 => F0 m 68 ls [Value.int z]) (show (1 - 1 : Int32) = 0 by decide)) ?_
          have hP9 := hP.sub (ws' := [(h, .inr (16, [.int 0, .ref cs, sk, vh]))]) [0] rfl
          have hD9 := hD.sub (ws' := [(h, .inr (16, [.int 0, .ref cs, sk, vh]))]) [0] (by decide) rfl
          refine W.widen (k := 5) (n := 37) (Nat.le_of_ble_eq_true rfl) (Nat.le_of_ble_eq_true rfl) ?_
          exact W.iret (v := 0) hx hb hr (fun t ht hW => ⟨⟨0, 0, rfl, Or.inl ⟨rfl, hwb, rfl⟩, by rw [ht]; exact hP9, hD9⟩, hS.F ht⟩) hS.2.2 dX12_column_68
        · exact absurd (by decide) c_6
      · exact absurd c_5 (by decide)
    · exact absurd (Int32.not_le.mp c_3) hwn
