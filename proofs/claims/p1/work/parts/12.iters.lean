theorem dJx35411_hasNext_aae02_0 : decode cJx35411_hasNext_aae02 0 = .ok (.aload_n 0, 1) := by decide +kernel
theorem dJx35411_hasNext_aae02_1 : decode cJx35411_hasNext_aae02 1 = .ok (.getfield 25, 3) := by decide +kernel
theorem dJx35411_hasNext_aae02_4 : decode cJx35411_hasNext_aae02 4 = .ok (.aload_n 0, 1) := by decide +kernel
theorem dJx35411_hasNext_aae02_5 : decode cJx35411_hasNext_aae02 5 = .ok (.getfield 1, 3) := by decide +kernel
theorem dJx35411_hasNext_aae02_8 : decode cJx35411_hasNext_aae02 8 = .ok (.getfield 28, 3) := by decide +kernel
theorem dJx35411_hasNext_aae02_11 : decode cJx35411_hasNext_aae02 11 = .ok (.if_icmp .eq 7, 3) := by decide +kernel
theorem dJx35411_hasNext_aae02_18 : decode cJx35411_hasNext_aae02 18 = .ok (.iconst 0, 1) := by decide +kernel
theorem dJx35411_hasNext_aae02_19 : decode cJx35411_hasNext_aae02 19 = .ok (.ireturn, 1) := by decide +kernel
theorem dJx35411_init_45d68_0 : decode cJx35411_init_45d68 0 = .ok (.aload_n 0, 1) := by decide +kernel
theorem dJx35411_init_45d68_1 : decode cJx35411_init_45d68 1 = .ok (.aload_n 1, 1) := by decide +kernel
theorem dJx35411_init_45d68_2 : decode cJx35411_init_45d68 2 = .ok (.putfield 1, 3) := by decide +kernel
theorem dJx35411_init_45d68_5 : decode cJx35411_init_45d68 5 = .ok (.aload_n 0, 1) := by decide +kernel
theorem dJx35411_init_45d68_6 : decode cJx35411_init_45d68 6 = .ok (.invokespecial 7, 3) := by decide +kernel
theorem dJx35411_init_45d68_9 : decode cJx35411_init_45d68 9 = .ok (.aload_n 0, 1) := by decide +kernel
theorem dJx35411_init_45d68_10 : decode cJx35411_init_45d68 10 = .ok (.iconst (-1), 1) := by decide +kernel
theorem dJx35411_init_45d68_11 : decode cJx35411_init_45d68 11 = .ok (.putfield 13, 3) := by decide +kernel
theorem dJx35411_init_45d68_14 : decode cJx35411_init_45d68 14 = .ok (.aload_n 0, 1) := by decide +kernel
theorem dJx35411_init_45d68_15 : decode cJx35411_init_45d68 15 = .ok (.aload_n 0, 1) := by decide +kernel
theorem dJx35411_init_45d68_16 : decode cJx35411_init_45d68 16 = .ok (.getfield 1, 3) := by decide +kernel
theorem dJx35411_init_45d68_19 : decode cJx35411_init_45d68 19 = .ok (.getfield 17, 3) := by decide +kernel
theorem dJx35411_init_45d68_22 : decode cJx35411_init_45d68 22 = .ok (.putfield 22, 3) := by decide +kernel
theorem dJx35411_init_45d68_25 : decode cJx35411_init_45d68 25 = .ok (.return_, 1) := by decide +kernel
theorem dJx4a65c_iterator_32c93_0 : decode cJx4a65c_iterator_32c93 0 = .ok (.new 267, 3) := by decide +kernel
theorem dJx4a65c_iterator_32c93_3 : decode cJx4a65c_iterator_32c93 3 = .ok (.dup, 1) := by decide +kernel
theorem dJx4a65c_iterator_32c93_4 : decode cJx4a65c_iterator_32c93 4 = .ok (.aload_n 0, 1) := by decide +kernel
theorem dJx4a65c_iterator_32c93_5 : decode cJx4a65c_iterator_32c93 5 = .ok (.invokespecial 269, 3) := by decide +kernel
theorem dJx4a65c_iterator_32c93_8 : decode cJx4a65c_iterator_32c93 8 = .ok (.areturn, 1) := by decide +kernel
theorem dX12_checksum_0 : decode cX12_checksum 0 = .ok (.aload_n 0, 1) := by decide +kernel
theorem dX12_checksum_1 : decode cX12_checksum 1 = .ok (.iconst 0, 1) := by decide +kernel
theorem dX12_checksum_2 : decode cX12_checksum 2 = .ok (.putfield 31, 3) := by decide +kernel
theorem dX12_checksum_5 : decode cX12_checksum 5 = .ok (.ldc2_w 278, 3) := by decide +kernel
theorem dX12_checksum_8 : decode cX12_checksum 8 = .ok (.lstore_n 1, 1) := by decide +kernel
theorem dX12_checksum_9 : decode cX12_checksum 9 = .ok (.aload_n 0, 1) := by decide +kernel
theorem dX12_checksum_10 : decode cX12_checksum 10 = .ok (.getfield 18, 3) := by decide +kernel
theorem dX12_checksum_13 : decode cX12_checksum 13 = .ok (.invokevirtual 182, 3) := by decide +kernel
theorem dX12_checksum_16 : decode cX12_checksum 16 = .ok (.astore_n 3, 1) := by decide +kernel
theorem dX12_checksum_17 : decode cX12_checksum 17 = .ok (.aload_n 3, 1) := by decide +kernel
theorem dX12_checksum_18 : decode cX12_checksum 18 = .ok (.invokeinterface 186 1, 5) := by decide +kernel
theorem dX12_checksum_23 : decode cX12_checksum 23 = .ok (.ifCond .eq 117, 3) := by decide +kernel
theorem dX12_checksum_140 : decode cX12_checksum 140 = .ok (.lload_n 1, 1) := by decide +kernel
theorem dX12_checksum_141 : decode cX12_checksum 141 = .ok (.lreturn, 1) := by decide +kernel
theorem dX12_frozenShare_0 : decode cX12_frozenShare 0 = .ok (.iconst 0, 1) := by decide +kernel
theorem dX12_frozenShare_1 : decode cX12_frozenShare 1 = .ok (.istore_n 1, 1) := by decide +kernel
theorem dX12_frozenShare_2 : decode cX12_frozenShare 2 = .ok (.iconst 0, 1) := by decide +kernel
theorem dX12_frozenShare_3 : decode cX12_frozenShare 3 = .ok (.istore_n 2, 1) := by decide +kernel
theorem dX12_frozenShare_4 : decode cX12_frozenShare 4 = .ok (.aload_n 0, 1) := by decide +kernel
theorem dX12_frozenShare_5 : decode cX12_frozenShare 5 = .ok (.getfield 18, 3) := by decide +kernel
theorem dX12_frozenShare_8 : decode cX12_frozenShare 8 = .ok (.invokevirtual 182, 3) := by decide +kernel
theorem dX12_frozenShare_11 : decode cX12_frozenShare 11 = .ok (.astore_n 3, 1) := by decide +kernel
theorem dX12_frozenShare_12 : decode cX12_frozenShare 12 = .ok (.aload_n 3, 1) := by decide +kernel
theorem dX12_frozenShare_13 : decode cX12_frozenShare 13 = .ok (.invokeinterface 186 1, 5) := by decide +kernel
theorem dX12_frozenShare_18 : decode cX12_frozenShare 18 = .ok (.ifCond .eq 71, 3) := by decide +kernel
theorem dX12_frozenShare_89 : decode cX12_frozenShare 89 = .ok (.aload_n 0, 1) := by decide +kernel
theorem dX12_frozenShare_90 : decode cX12_frozenShare 90 = .ok (.iload_n 1, 1) := by decide +kernel
theorem dX12_frozenShare_91 : decode cX12_frozenShare 91 = .ok (.ifCond .ne 7, 3) := by decide +kernel
theorem dX12_frozenShare_94 : decode cX12_frozenShare 94 = .ok (.iconst 1, 1) := by decide +kernel
theorem dX12_frozenShare_95 : decode cX12_frozenShare 95 = .ok (.goto 4, 3) := by decide +kernel
theorem dX12_frozenShare_99 : decode cX12_frozenShare 99 = .ok (.putfield 31, 3) := by decide +kernel
theorem dX12_frozenShare_102 : decode cX12_frozenShare 102 = .ok (.aload_n 0, 1) := by decide +kernel
theorem dX12_frozenShare_103 : decode cX12_frozenShare 103 = .ok (.getfield 31, 3) := by decide +kernel
theorem dX12_frozenShare_106 : decode cX12_frozenShare 106 = .ok (.ifCond .le 7, 3) := by decide +kernel
theorem dX12_frozenShare_109 : decode cX12_frozenShare 109 = .ok (.fconst 0, 1) := by decide +kernel
theorem dX12_frozenShare_110 : decode cX12_frozenShare 110 = .ok (.goto 8, 3) := by decide +kernel
theorem dX12_frozenShare_118 : decode cX12_frozenShare 118 = .ok (.freturn, 1) := by decide +kernel
theorem dX12_meanWater_0 : decode cX12_meanWater 0 = .ok (.iconst 0, 1) := by decide +kernel
theorem dX12_meanWater_1 : decode cX12_meanWater 1 = .ok (.istore_n 1, 1) := by decide +kernel
theorem dX12_meanWater_2 : decode cX12_meanWater 2 = .ok (.iconst 0, 1) := by decide +kernel
theorem dX12_meanWater_3 : decode cX12_meanWater 3 = .ok (.istore_n 2, 1) := by decide +kernel
theorem dX12_meanWater_4 : decode cX12_meanWater 4 = .ok (.aload_n 0, 1) := by decide +kernel
theorem dX12_meanWater_5 : decode cX12_meanWater 5 = .ok (.getfield 18, 3) := by decide +kernel
theorem dX12_meanWater_8 : decode cX12_meanWater 8 = .ok (.invokevirtual 182, 3) := by decide +kernel
theorem dX12_meanWater_11 : decode cX12_meanWater 11 = .ok (.astore_n 3, 1) := by decide +kernel
theorem dX12_meanWater_12 : decode cX12_meanWater 12 = .ok (.aload_n 3, 1) := by decide +kernel
theorem dX12_meanWater_13 : decode cX12_meanWater 13 = .ok (.invokeinterface 186 1, 5) := by decide +kernel
theorem dX12_meanWater_18 : decode cX12_meanWater 18 = .ok (.ifCond .eq 63, 3) := by decide +kernel
theorem dX12_meanWater_81 : decode cX12_meanWater 81 = .ok (.aload_n 0, 1) := by decide +kernel
theorem dX12_meanWater_82 : decode cX12_meanWater 82 = .ok (.iload_n 1, 1) := by decide +kernel
theorem dX12_meanWater_83 : decode cX12_meanWater 83 = .ok (.ifCond .ne 7, 3) := by decide +kernel
theorem dX12_meanWater_86 : decode cX12_meanWater 86 = .ok (.iconst 1, 1) := by decide +kernel
theorem dX12_meanWater_87 : decode cX12_meanWater 87 = .ok (.goto 4, 3) := by decide +kernel
theorem dX12_meanWater_91 : decode cX12_meanWater 91 = .ok (.putfield 31, 3) := by decide +kernel
theorem dX12_meanWater_94 : decode cX12_meanWater 94 = .ok (.aload_n 0, 1) := by decide +kernel
theorem dX12_meanWater_95 : decode cX12_meanWater 95 = .ok (.getfield 31, 3) := by decide +kernel
theorem dX12_meanWater_98 : decode cX12_meanWater 98 = .ok (.ifCond .le 7, 3) := by decide +kernel
theorem dX12_meanWater_101 : decode cX12_meanWater 101 = .ok (.dconst 0, 1) := by decide +kernel
theorem dX12_meanWater_102 : decode cX12_meanWater 102 = .ok (.goto 8, 3) := by decide +kernel
theorem dX12_meanWater_110 : decode cX12_meanWater 110 = .ok (.dreturn, 1) := by decide +kernel
theorem iwJx35411 : ∀ w ∈ wsJx354110, w ∈ lw_all := al_all (by decide +kernel)
theorem q37 : Cond.initialized RJx35411 ∈ lw_all := al_in (i := 37) (by decide +kernel) (by decide +kernel)
theorem q69 : Cond.fieldLink RJx35411 17 "java/util/ArrayList" "modCount" "I" ∈ lw_all := al_in (i := 69) (by decide +kernel) (by decide +kernel)
theorem q70 : Cond.sameField "java/util/ArrayList" "java/util/AbstractList" "modCount" "I" ∈ lw_all := al_in (i := 70) (by decide +kernel) (by decide +kernel)
theorem q1531 : Cond.methodLink RX12 182 yJx4a65c_iterator_32c93 ∈ lw_all := al_in (i := 1531) (by decide +kernel) (by decide +kernel)
theorem q1532 : Cond.instanceMethod yJx4a65c_iterator_32c93 ∈ lw_all := al_in (i := 1532) (by decide +kernel) (by decide +kernel)
theorem q1533 : Cond.selects RJx4a65c yJx4a65c_iterator_32c93 yJx4a65c_iterator_32c93 ∈ lw_all := al_in (i := 1533) (by decide +kernel) (by decide +kernel)
theorem q1534 : Cond.code yJx4a65c_iterator_32c93 cJx4a65c_iterator_32c93 1 (some (.object "java/util/Iterator")) ∈ lw_all := al_in (i := 1534) (by decide +kernel) (by decide +kernel)
theorem q1535 : Cond.classLink RJx4a65c 267 RJx35411 ∈ lw_all := al_in (i := 1535) (by decide +kernel) (by decide +kernel)
theorem q1536 : Cond.instantiable RJx35411 4 ∈ lw_all := al_in (i := 1536) (by decide +kernel) (by decide +kernel)
theorem q1537 : Cond.methodLink RJx4a65c 269 yJx35411_init_45d68 ∈ lw_all := al_in (i := 1537) (by decide +kernel) (by decide +kernel)
theorem q1538 : Cond.instanceMethod yJx35411_init_45d68 ∈ lw_all := al_in (i := 1538) (by decide +kernel) (by decide +kernel)
theorem q1539 : Cond.code yJx35411_init_45d68 cJx35411_init_45d68 2 none ∈ lw_all := al_in (i := 1539) (by decide +kernel) (by decide +kernel)
theorem q1540 : Cond.methodLink RJx35411 7 ⟨"java/lang/Object", "<init>", "()V"⟩ ∈ lw_all := al_in (i := 1540) (by decide +kernel) (by decide +kernel)
theorem q1541 : Cond.fieldLink RJx35411 25 "java/util/ArrayList$Itr" "cursor" "I" ∈ lw_all := al_in (i := 1541) (by decide +kernel) (by decide +kernel)
theorem q1542 : Cond.fieldLink RJx35411 13 "java/util/ArrayList$Itr" "lastRet" "I" ∈ lw_all := al_in (i := 1542) (by decide +kernel) (by decide +kernel)
theorem q1543 : Cond.fieldLink RJx35411 22 "java/util/ArrayList$Itr" "expectedModCount" "I" ∈ lw_all := al_in (i := 1543) (by decide +kernel) (by decide +kernel)
theorem q1544 : Cond.fieldLink RJx35411 1 "java/util/ArrayList$Itr" "this$0" "Ljava/util/ArrayList;" ∈ lw_all := al_in (i := 1544) (by decide +kernel) (by decide +kernel)
theorem q1555 : Cond.methodLink RX12 186 ⟨"java/util/Iterator", "hasNext", "()Z"⟩ ∈ lw_all := al_in (i := 1555) (by decide +kernel) (by decide +kernel)
theorem q1559 : Cond.selects RJx35411 ⟨"java/util/Iterator", "hasNext", "()Z"⟩ yJx35411_hasNext_aae02 ∈ lw_all := al_in (i := 1559) (by decide +kernel) (by decide +kernel)
theorem q1561 : Cond.instanceMethod yJx35411_hasNext_aae02 ∈ lw_all := al_in (i := 1561) (by decide +kernel) (by decide +kernel)
theorem q1563 : Cond.code yJx35411_hasNext_aae02 cJx35411_hasNext_aae02 1 (some .boolean) ∈ lw_all := al_in (i := 1563) (by decide +kernel) (by decide +kernel)
theorem q1793 : Cond.constantLong RX12 278 (7) ∈ lw_all := al_in (i := 1793) (by decide +kernel) (by decide +kernel)
theorem t66 : Cond.fieldLinkNest RJx35411 28 "java/util/ArrayList" "size" "I" "java/util/ArrayList" ∈ lw_st := al_stin (i := 66) (by decide +kernel) (by decide +kernel)
theorem t1556 : Cond.interfaceMethod "java/util/Iterator" "java/util/Iterator" "hasNext" "()Z" ∈ lw_st := al_stin (i := 1556) (by decide +kernel) (by decide +kernel)
theorem t1557 : Cond.declares ⟨"java/util/Iterator", "hasNext", "()Z"⟩ ∈ lw_st := al_stin (i := 1557) (by decide +kernel) (by decide +kernel)
theorem t1558 : Cond.castable "java/util/ArrayList$Itr" "java/util/Iterator" ∈ lw_st := al_stin (i := 1558) (by decide +kernel) (by decide +kernel)
theorem t1560 : Cond.unhidden "java/util/ArrayList$Itr" "hasNext" "()Z" ∈ lw_st := al_stin (i := 1560) (by decide +kernel) (by decide +kernel)
theorem t1562 : Cond.publicMethod yJx35411_hasNext_aae02 ∈ lw_st := al_stin (i := 1562) (by decide +kernel) (by decide +kernel)
set_option maxHeartbeats 4000000 in
set_option maxRecDepth 100000 in
/-- Itr(list) -/
theorem k_It_init (l : Launch) (D : va_G) (h q : Nat) (md : Int32) (ed : Value) (n : Int32) (sz : Nat) : Met l yJx35411_init_45d68 (wsA yJx35411_init_45d68 cJx35411_init_45d68 2 none) ({ frames := 1, cells := 0, slots := 0, locals := 12 }) (va_Pc [.ref h, .ref q] (EV D [] [(h, .inr (3, [.int 0, .int 0, .int 0, .null])), (q, .inr (4, [.int md, ed, .int n]))] sz)) (va_Qv (fun (_ : Unit) => True) (fun _ t => va_P D vwCl [(h, .inr (3, [.int 0, .int (-1), .int md, .ref q])), (q, .inr (4, [.int md, ed, .int n]))] t.heap ∧ va_D (va_A [(h, .inr (3, [.int 0, .int 0, .int 0, .null])), (q, .inr (4, [.int md, ed, .int n]))] sz) [(h, .inr (3, [.int 0, .int (-1), .int md, .ref q])), (q, .inr (4, [.int md, ed, .int n]))]) (va_A [(h, .inr (3, [.int 0, .int 0, .int 0, .null])), (q, .inr (4, [.int md, ed, .int n]))] sz)) 0 0 (va_A [(h, .inr (3, [.int 0, .int 0, .int 0, .null])), (q, .inr (4, [.int md, ed, .int n]))] sz) := by
  refine Met.ofW (cc := cJx35411_init_45d68) (maxL := 2) (ret := none) (by decide) rfl ?_
  intro p e s m args below meth c s₁ B hml hv
  obtain ⟨rfl, hsz, hP, hK, hD0, hG, hZ0⟩ := hv
  have hx := B.exec
  have hb := B.bytes
  have hr := B.returns
  have hts0 := atoms_spec (ws := wsA yJx35411_init_45d68 cJx35411_init_45d68 2 none) B.pre
  have hts : ∀ w ∈ lw_all, w.before _ s = true := fun w h => hts0 w (List.mem_cons_of_mem _ h)
  have hown : s.vm.findClass RJx35411 = some m.cls := findClass_of_methodNamed B.named
  have hlocks := B.notSynchronized
  have hin : meth.name = "<init>" := (name_of_methodNamed B.named B.method).1
  subst hsz
  have hZ := ZZ.wide hP hZ0
  have hD := hD0.self (sz := s.heap.size)
  generalize hAe : va_A [(h, .inr (3, [.int 0, .int 0, .int 0, .null])), (q, .inr (4, [.int md, ed, .int n]))] s.heap.size = A at hD hZ ⊢
  have hA : ∀ q : Nat, s.heap.size ≤ q → A q := fun q h => by rw [← hAe]; exact Or.inr h
  have hS : va_S A s.heap s.heap [] := va_S.rf
  have hP : va_P D vwCl [(h, .inr (3, [.int 0, .int 0, .int 0, .null])), (q, .inr (4, [.int md, ed, .int n]))] s.heap := hP
  have hl := lv_entry ([.ref h, .ref q]) (n := 2) (Nat.le_of_ble_eq_true rfl)
  rw [lg_entry_eq]
  generalize (lg_sl ([.ref h, .ref q]) ++ List.replicate (2 - (lg_sl ([.ref h, .ref q])).length) Slot.unset).toArray = ls at hl ⊢
  have hl : lv_has ls 2 [(0, .ref h), (1, .ref q)] := hl
  refine lv_aload_n hx hb dJx35411_init_45d68_0 rfl (lv_at hl 0 rfl) ?_
  refine lv_aload_n hx hb dJx35411_init_45d68_1 rfl (lv_at hl 1 rfl) ?_
  refine va_putF (D := D) (ci := 3) (v := .ref q) (ty := (.object "java/util/ArrayList")) (C := RJx35411) (T := TJx35411) (N := 4) hx hb hts iwJx35411 tyJx35411 tyJx35411_ok nmJx35411 hown hK hP hD hS 0 rfl rfl 3 (by decide) (hts _ q1544) (fun _ h9 => h9) rfl hin rfl (by decide +kernel) rfl rfl (Nat.le_of_ble_eq_true rfl) dJx35411_init_45d68_2 (fun H locs hP hD hS => ?_)
  have hP : va_P D vwCl [(h, .inr (3, [.int 0, .int 0, .int 0, .ref q])), (q, .inr (4, [.int md, ed, .int n]))] H := hP
  have hD : va_D A [(h, .inr (3, [.int 0, .int 0, .int 0, .ref q])), (q, .inr (4, [.int md, ed, .int n]))] := hD
  refine lv_aload_n hx hb dJx35411_init_45d68_5 rfl (lv_at hl 0 rfl) ?_
  refine W.objInit hx hb hown (hts _ q1540) (hts _ q48) (hts _ q49) rfl (by rw [hml]; exact hl.1) rfl dJx35411_init_45d68_6 (Nat.le_of_ble_eq_true rfl) (Nat.le_of_ble_eq_true rfl) ?_
  refine W.eq (g2 := F0 m 9 ls []) rfl ?_
  refine lv_aload_n hx hb dJx35411_init_45d68_9 rfl (lv_at hl 0 rfl) ?_
  refine lv_iconst (v := (-1)) hx hb dJx35411_init_45d68_10 (by decide) ?_
  refine va_put (D := D) (ci := 3) (v := .int (-1)) (ty := .int) (C := RJx35411) (T := TJx35411) (N := 4) hx hb hts iwJx35411 tyJx35411 tyJx35411_ok nmJx35411 hown hK hP hD hS 0 rfl rfl 1 (by decide) (hts _ q1542) (fun _ h9 => h9) rfl (by decide +kernel) rfl rfl (Nat.le_of_ble_eq_true rfl) dJx35411_init_45d68_11 (fun H locs hP hD hS => ?_)
  have hP : va_P D vwCl [(h, .inr (3, [.int 0, .int (-1), .int 0, .ref q])), (q, .inr (4, [.int md, ed, .int n]))] H := hP
  have hD : va_D A [(h, .inr (3, [.int 0, .int (-1), .int 0, .ref q])), (q, .inr (4, [.int md, ed, .int n]))] := hD
  refine lv_aload_n hx hb dJx35411_init_45d68_14 rfl (lv_at hl 0 rfl) ?_
  refine lv_aload_n hx hb dJx35411_init_45d68_15 rfl (lv_at hl 0 rfl) ?_
  refine va_get (D := D) (ci := 3) (v := .ref q) (C := RJx35411) (T := TJx35411) (N := 4) hx hb hts iwJx35411 hown hK hP 0 rfl rfl 3 (by decide) (hts _ q1544) (fun _ h9 => h9) rfl dJx35411_init_45d68_16 ?_
  refine va_get (D := D) (ci := 4) (v := .int md) (C := RJx4a65c) (T := TJx4a65c) (N := 3) hx hb hts iwJx4a65c hown hK hP 1 rfl rfl 0 (by decide) (hts _ q69) (u_same (hts _ q70)) rfl dJx35411_init_45d68_19 ?_
  refine va_put (D := D) (ci := 3) (v := .int md) (ty := .int) (C := RJx35411) (T := TJx35411) (N := 4) hx hb hts iwJx35411 tyJx35411 tyJx35411_ok nmJx35411 hown hK hP hD hS 0 rfl rfl 2 (by decide) (hts _ q1543) (fun _ h9 => h9) rfl (by decide +kernel) rfl rfl (Nat.le_of_ble_eq_true rfl) dJx35411_init_45d68_22 (fun H locs hP hD hS => ?_)
  have hP : va_P D vwCl [(h, .inr (3, [.int 0, .int (-1), .int md, .ref q])), (q, .inr (4, [.int md, ed, .int n]))] H := hP
  have hD : va_D A [(h, .inr (3, [.int 0, .int (-1), .int md, .ref q])), (q, .inr (4, [.int md, ed, .int n]))] := hD
  have hP9 := hP.sub (ws' := [(h, .inr (3, [.int 0, .int (-1), .int md, .ref q])), (q, .inr (4, [.int md, ed, .int n]))]) [0, 1] rfl
  have hD9 := hD.sub (ws' := [(h, .inr (3, [.int 0, .int (-1), .int md, .ref q])), (q, .inr (4, [.int md, ed, .int n]))]) [0, 1] (by decide) rfl
  refine W.widen (k := 0) (n := 0) (Nat.le_of_ble_eq_true rfl) (Nat.le_of_ble_eq_true rfl) ?_
  exact W.vret hx hb hr (fun t ht hW => ⟨⟨(), rfl, trivial, by rw [ht]; exact hP9, hD9⟩, hS.F ht⟩) hS.2.2 dJx35411_init_45d68_25
set_option maxHeartbeats 4000000 in
set_option maxRecDepth 100000 in
/-- ArrayList.iterator(): a new one at the start -/
theorem k_AL_iterator (l : Launch) (D : va_G) (q : Nat) (md : Int32) (ed : Value) (n : Int32) (sz : Nat) : Met l yJx4a65c_iterator_32c93 (wsA yJx4a65c_iterator_32c93 cJx4a65c_iterator_32c93 1 (some (.object "java/util/Iterator"))) ({ frames := 2, cells := 1, slots := 4, locals := 33 }) (va_Pc [.ref q] (EV D [] [(q, .inr (4, [.int md, ed, .int n]))] sz)) (va_Qr (fun (_ : Unit) => True) (fun _ ra t => va_P D vwCl [(q, .inr (4, [.int md, ed, .int n])), (ra, .inr (3, [.int 0, .int (-1), .int md, .ref q]))] t.heap ∧ va_D (va_A [(q, .inr (4, [.int md, ed, .int n]))] sz) [(q, .inr (4, [.int md, ed, .int n])), (ra, .inr (3, [.int 0, .int (-1), .int md, .ref q]))]) (va_A [(q, .inr (4, [.int md, ed, .int n]))] sz)) 1 4 (va_A [(q, .inr (4, [.int md, ed, .int n]))] sz) := by
  refine Met.ofW (cc := cJx4a65c_iterator_32c93) (maxL := 1) (ret := (some (.object "java/util/Iterator"))) (by decide) rfl ?_
  intro p e s m args below meth c s₁ B hml hv
  obtain ⟨rfl, hsz, hP, hK, hD0, hG, hZ0⟩ := hv
  have hx := B.exec
  have hb := B.bytes
  have hr := B.returns
  have hts0 := atoms_spec (ws := wsA yJx4a65c_iterator_32c93 cJx4a65c_iterator_32c93 1 (some (.object "java/util/Iterator"))) B.pre
  have hts : ∀ w ∈ lw_all, w.before _ s = true := fun w h => hts0 w (List.mem_cons_of_mem _ h)
  have hown : s.vm.findClass RJx4a65c = some m.cls := findClass_of_methodNamed B.named
  have hlocks := B.notSynchronized
  subst hsz
  have hZ := ZZ.wide hP hZ0
  have hD := hD0.self (sz := s.heap.size)
  generalize hAe : va_A [(q, .inr (4, [.int md, ed, .int n]))] s.heap.size = A at hD hZ ⊢
  have hA : ∀ q : Nat, s.heap.size ≤ q → A q := fun q h => by rw [← hAe]; exact Or.inr h
  have hS : va_S A s.heap s.heap [] := va_S.rf
  have hP : va_P D vwCl [(q, .inr (4, [.int md, ed, .int n]))] s.heap := hP
  have hl := lv_entry ([.ref q]) (n := 1) (Nat.le_of_ble_eq_true rfl)
  rw [lg_entry_eq]
  generalize (lg_sl ([.ref q]) ++ List.replicate (1 - (lg_sl ([.ref q])).length) Slot.unset).toArray = ls at hl ⊢
  have hl : lv_has ls 1 [(0, .ref q)] := hl
  refine va_new (ci := 3) (fs := [.int 0, .int 0, .int 0, .null]) (C := RJx35411) (T := TJx35411) (N := 4) hx hb hts iwJx35411 tyJx35411 tyJx35411_ok hown (hts _ q1535) (hts _ q1536) (hts _ q37) hK hP hD hS hA rfl (fun j hj => by rcases (show j = 0 ∨ j = 1 ∨ j = 2 ∨ j = 3 by omega) with rfl | rfl | rfl | rfl <;> rfl) (Nat.le_of_ble_eq_true rfl) (Nat.le_of_ble_eq_true rfl) dJx4a65c_iterator_32c93_0 (fun o_1 H hP hD hS => ?_)
  have hP : va_P D vwCl [(q, .inr (4, [.int md, ed, .int n])), (o_1, .inr (3, [.int 0, .int 0, .int 0, .null]))] H := hP
  have hD : va_D A [(q, .inr (4, [.int md, ed, .int n])), (o_1, .inr (3, [.int 0, .int 0, .int 0, .null]))] := hD
  refine lv_dup hx hb dJx4a65c_iterator_32c93_3 rfl ?_
  refine lv_aload_n hx hb dJx4a65c_iterator_32c93_4 rfl (lv_at hl 0 rfl) ?_
  have hPc := hP.sub (ws' := [(o_1, .inr (3, [.int 0, .int 0, .int 0, .null])), (q, .inr (4, [.int md, ed, .int n]))]) [1, 0] rfl
  have hDc := hD.sub (ws' := [(o_1, .inr (3, [.int 0, .int 0, .int 0, .null])), (q, .inr (4, [.int md, ed, .int n]))]) [1, 0] (by decide) rfl
  have hKc := hK.sub (tys' := []) [] rfl
  have hFc := va_free (wc := [(o_1, .inr (3, [.int 0, .int 0, .int 0, .null])), (q, .inr (4, [.int md, ed, .int n]))]) hD hS hA [1, 0] rfl
  refine va_callv (va_runI (As := [.ref q]) (rest := [.ref o_1]) ⟨hx, hb, hml, hown, hts⟩ (k_It_init l D o_1 q md (ed) n H.size) (cwI 1 hts (gA q1539) rfl rfl rfl (hts _ q37) (hts _ q1537) (hts _ q1538) rfl (by decide +kernel) ⟨Nat.le_of_ble_eq_true rfl, Nat.le_of_ble_eq_true rfl⟩) ⟨EV.fb, fun U hU hW => ⟨rfl, EV.at hPc hKc hDc hG (hZ.no hS) U hU hW⟩⟩ rfl rfl hl.1 rfl (lv_room (Nat.le_of_ble_eq_true rfl)) dJx4a65c_iterator_32c93_5 ⟨Nat.le_of_ble_eq_true rfl, Nat.le_of_ble_eq_true rfl⟩) hS (fun q _ h => hFc q h) hFc (fun u t H1 locs ht hvm hw hB hz1 hk1 hS => ?_)
  obtain ⟨hP1, hD1⟩ := hB
  rw [ht] at hP1
  obtain ⟨hP, hD⟩ := va_join (wr := []) (w1 := [(o_1, .inr (3, [.int 0, .int (-1), .int md, .ref q])), (q, .inr (4, [.int md, ed, .int n]))]) hP hD [1, 0] [] rfl rfl (by decide) (by decide) hk1 hFc hP1 hD1
  generalize H1 = H at hP hS ⊢
  have hP : va_P D vwCl [(o_1, .inr (3, [.int 0, .int (-1), .int md, .ref q])), (q, .inr (4, [.int md, ed, .int n]))] H := hP
  have hD : va_D A [(o_1, .inr (3, [.int 0, .int (-1), .int md, .ref q])), (q, .inr (4, [.int md, ed, .int n]))] := hD
  have hP9 := hP.sub (ws' := [(q, .inr (4, [.int md, ed, .int n])), (o_1, .inr (3, [.int 0, .int (-1), .int md, .ref q]))]) [1, 0] rfl
  have hD9 := hD.sub (ws' := [(q, .inr (4, [.int md, ed, .int n])), (o_1, .inr (3, [.int 0, .int (-1), .int md, .ref q]))]) [1, 0] (by decide) rfl
  refine W.widen (k := 1) (n := 4) (Nat.le_of_ble_eq_true rfl) (Nat.le_of_ble_eq_true rfl) ?_
  exact W.aret (v := .ref o_1) hx hb hr (Or.inl ⟨_, rfl⟩) (Or.inr ⟨_, rfl⟩) (fun t ht hW => ⟨⟨(), o_1, rfl, trivial, by rw [ht]; exact hP9, hD9⟩, hS.F ht⟩) hS.2.2 dJx4a65c_iterator_32c93_8
set_option maxHeartbeats 4000000 in
set_option maxRecDepth 100000 in
/-- hasNext of an empty list: false -/
theorem k_It_hasNext0 (l : Launch) (D : va_G) (h q : Nat) (lr em md : Int32) (ed : Value) (sz : Nat) : Met l yJx35411_hasNext_aae02 (wsA yJx35411_hasNext_aae02 cJx35411_hasNext_aae02 1 (some .boolean)) ({ frames := 0, cells := 0, slots := 0, locals := 0 }) (va_Pc [.ref h] (EV D [] [(h, .inr (3, [.int 0, .int lr, .int em, .ref q])), (q, .inr (4, [.int md, ed, .int 0]))] sz)) (va_Qi (fun (r : Int32) (_ : Unit) => r = 0) (fun _ _ => True) NoA) 0 0 NoA := by
  refine Met.ofW (cc := cJx35411_hasNext_aae02) (maxL := 1) (ret := (some .boolean)) (by decide) rfl ?_
  intro p e s m args below meth c s₁ B hml hv
  obtain ⟨rfl, hsz, hP, hK, hD0, hG, hZ0⟩ := hv
  have hx := B.exec
  have hb := B.bytes
  have hr := B.returns
  have hts0 := atoms_spec (ws := wsA yJx35411_hasNext_aae02 cJx35411_hasNext_aae02 1 (some .boolean)) B.pre
  have hts : ∀ w ∈ lw_all, w.before _ s = true := fun w h => hts0 w (List.mem_cons_of_mem _ h)
  have hown : s.vm.findClass RJx35411 = some m.cls := findClass_of_methodNamed B.named
  have hlocks := B.notSynchronized
  subst hsz
  have hD : va_D (fun _ => True) [(h, .inr (3, [.int 0, .int lr, .int em, .ref q])), (q, .inr (4, [.int md, ed, .int 0]))] := hD0
  have hZ : ZZ NoA s s.heap := hZ0
  have hS : va_S NoA s.heap s.heap [] := va_S.rf
  have hP : va_P D vwCl [(h, .inr (3, [.int 0, .int lr, .int em, .ref q])), (q, .inr (4, [.int md, ed, .int 0]))] s.heap := hP
  have hl := lv_entry ([.ref h]) (n := 1) (Nat.le_of_ble_eq_true rfl)
  rw [lg_entry_eq]
  generalize (lg_sl ([.ref h]) ++ List.replicate (1 - (lg_sl ([.ref h])).length) Slot.unset).toArray = ls at hl ⊢
  have hl : lv_has ls 1 [(0, .ref h)] := hl
  refine lv_aload_n hx hb dJx35411_hasNext_aae02_0 rfl (lv_at hl 0 rfl) ?_
  refine va_get (D := D) (ci := 3) (v := .int 0) (C := RJx35411) (T := TJx35411) (N := 4) hx hb hts iwJx35411 hown hK hP 0 rfl rfl 0 (by decide) (hts _ q1541) (fun _ h9 => h9) rfl dJx35411_hasNext_aae02_1 ?_
  refine lv_aload_n hx hb dJx35411_hasNext_aae02_4 rfl (lv_at hl 0 rfl) ?_
  refine va_get (D := D) (ci := 3) (v := .ref q) (C := RJx35411) (T := TJx35411) (N := 4) hx hb hts iwJx35411 hown hK hP 0 rfl rfl 3 (by decide) (hts _ q1544) (fun _ h9 => h9) rfl dJx35411_hasNext_aae02_5 ?_
  refine va_getN (D := D) (ci := 4) (v := .int 0) (C := RJx4a65c) (T := TJx4a65c) (N := 3) hx hb hts iwJx4a65c hown hK hP 1 rfl rfl 2 (by decide) (hG.use t66) (fun _ h9 => h9) rfl dJx35411_hasNext_aae02_8 ?_
  refine lv_icmp_eq (tgt := 18) hx hb dJx35411_hasNext_aae02_11 (by decide) (fun c_1 => ?_) (fun c_1 => ?_)
  · refine lv_iconst (v := 0) hx hb dJx35411_hasNext_aae02_18 (by decide) ?_
    exact W.zret (v := 0) hx hb hr rfl (fun t ht hW => ⟨⟨0, (), rfl, rfl, trivial⟩, hS.F ht⟩) hS.2.2 dJx35411_hasNext_aae02_19
  · exact absurd (by decide) c_1
set_option maxHeartbeats 4000000 in
set_option maxRecDepth 100000 in
/-- checksum on the fresh reference -/
theorem k_LM_checksum (l : Launch) (D : va_G) (h : Nat) (th : Int32) (cs : Nat) (sk vh : Value) (md : Int32) (ed : Value) (sz : Nat) : Met l yX12_checksum (wsA yX12_checksum cX12_checksum 7 (some .long)) ({ frames := 3, cells := 1, slots := 4, locals := 53 }) (va_Pc [.ref h] (EV D [] [(h, .inr (16, [.int th, .ref cs, sk, vh])), (cs, .inr (4, [.int md, ed, .int 0]))] sz)) (va_Ql (fun (r : Int64) (_ : Unit) => r = 7) (fun _ t => va_P D vwCl [(h, .inr (16, [.int 0, .ref cs, sk, vh]))] t.heap ∧ va_D (va_A [(h, .inr (16, [.int th, .ref cs, sk, vh])), (cs, .inr (4, [.int md, ed, .int 0]))] sz) [(h, .inr (16, [.int 0, .ref cs, sk, vh]))]) (va_A [(h, .inr (16, [.int th, .ref cs, sk, vh])), (cs, .inr (4, [.int md, ed, .int 0]))] sz)) 1 4 (va_A [(h, .inr (16, [.int th, .ref cs, sk, vh])), (cs, .inr (4, [.int md, ed, .int 0]))] sz) := by
  refine Met.ofW (cc := cX12_checksum) (maxL := 7) (ret := (some .long)) (by decide) rfl ?_
  intro p e s m args below meth c s₁ B hml hv
  obtain ⟨rfl, hsz, hP, hK, hD0, hG, hZ0⟩ := hv
  have hx := B.exec
  have hb := B.bytes
  have hr := B.returns
  have hts0 := atoms_spec (ws := wsA yX12_checksum cX12_checksum 7 (some .long)) B.pre
  have hts : ∀ w ∈ lw_all, w.before _ s = true := fun w h => hts0 w (List.mem_cons_of_mem _ h)
  have hown : s.vm.findClass RX12 = some m.cls := findClass_of_methodNamed B.named
  have hlocks := B.notSynchronized
  subst hsz
  have hZ := ZZ.wide hP hZ0
  have hD := hD0.self (sz := s.heap.size)
  generalize hAe : va_A [(h, .inr (16, [.int th, .ref cs, sk, vh])), (cs, .inr (4, [.int md, ed, .int 0]))] s.heap.size = A at hD hZ ⊢
  have hA : ∀ q : Nat, s.heap.size ≤ q → A q := fun q h => by rw [← hAe]; exact Or.inr h
  have hS : va_S A s.heap s.heap [] := va_S.rf
  have hP : va_P D vwCl [(h, .inr (16, [.int th, .ref cs, sk, vh])), (cs, .inr (4, [.int md, ed, .int 0]))] s.heap := hP
  have hl := lv_entry ([.ref h]) (n := 7) (Nat.le_of_ble_eq_true rfl)
  rw [lg_entry_eq]
  generalize (lg_sl ([.ref h]) ++ List.replicate (7 - (lg_sl ([.ref h])).length) Slot.unset).toArray = ls at hl ⊢
  have hl : lv_has ls 7 [(0, .ref h)] := hl
  refine lv_aload_n hx hb dX12_checksum_0 rfl (lv_at hl 0 rfl) ?_
  refine lv_iconst (v := 0) hx hb dX12_checksum_1 (by decide) ?_
  refine va_put (D := D) (ci := 16) (v := .int 0) (ty := .int) (C := RX12) (T := TX12) (N := 4) hx hb hts iwX12 tyX12 tyX12_ok nmX12 hown hK hP hD hS 0 rfl rfl 0 (by decide) (hts _ q1161) (fun _ h9 => h9) rfl (by decide +kernel) rfl rfl (Nat.le_of_ble_eq_true rfl) dX12_checksum_2 (fun H locs hP hD hS => ?_)
  have hP : va_P D vwCl [(h, .inr (16, [.int 0, .ref cs, sk, vh])), (cs, .inr (4, [.int md, ed, .int 0]))] H := hP
  have hD : va_D A [(h, .inr (16, [.int 0, .ref cs, sk, vh])), (cs, .inr (4, [.int md, ed, .int 0]))] := hD
  refine lv_ldc2 (v := 7) hx hb hown (hts _ q1793) dX12_checksum_5 ?_
  refine lv_lstore_n (lv' := [(1, .long 7), (0, .ref h)]) hx hb dX12_checksum_8 rfl hl (by decide) rfl (fun ls hl => ?_)
  refine lv_aload_n hx hb dX12_checksum_9 rfl (lv_at hl 1 rfl) ?_
  refine va_get (D := D) (ci := 16) (v := .ref cs) (C := RX12) (T := TX12) (N := 4) hx hb hts iwX12 hown hK hP 0 rfl rfl 1 (by decide) (hts _ q1162) (fun _ h9 => h9) rfl dX12_checksum_10 ?_
  have hPc := hP.sub (ws' := [(cs, .inr (4, [.int md, ed, .int 0]))]) [1] rfl
  have hDc := hD.sub (ws' := [(cs, .inr (4, [.int md, ed, .int 0]))]) [1] (by decide) rfl
  have hKc := hK.sub (tys' := []) [] rfl
  have hFc := va_free (wc := [(cs, .inr (4, [.int md, ed, .int 0]))]) hD hS hA [1] rfl
  refine va_callr (va_runV (As := []) (rest := []) ⟨hx, hb, hml, hown, hts⟩ (k_AL_iterator l D cs md (ed) 0 H.size) (cwV 0 hts (gV q1531 q1532 q1533 q4 (gA q1534)) rfl rfl rfl (by decide +kernel) ⟨Nat.le_of_ble_eq_true rfl, Nat.le_of_ble_eq_true rfl⟩) ⟨EV.fb, va_recv hKc hPc (ci := 4) (q0 := 0) rfl rfl, fun U hU hW => ⟨rfl, EV.at hPc hKc hDc hG (hZ.no hS) U hU hW⟩⟩ rfl rfl hl.1 rfl (lv_room (Nat.le_of_ble_eq_true rfl)) dX12_checksum_13 ⟨Nat.le_of_ble_eq_true rfl, Nat.le_of_ble_eq_true rfl⟩) hS (fun q _ h => hFc q h) hFc (fun u ra_1 t H1 locs ht hvm hw hB hz1 hk1 hS => ?_)
  obtain ⟨hP1, hD1⟩ := hB
  rw [ht] at hP1
  obtain ⟨hP, hD⟩ := va_join (wr := [(h, .inr (16, [.int 0, .ref cs, sk, vh]))]) (w1 := [(cs, .inr (4, [.int md, ed, .int 0])), (ra_1, .inr (3, [.int 0, .int (-1), .int md, .ref cs]))]) hP hD [1] [0] rfl rfl (by decide) (by decide) hk1 hFc hP1 hD1
  generalize H1 = H at hP hS ⊢
  have hP : va_P D vwCl [(h, .inr (16, [.int 0, .ref cs, sk, vh])), (cs, .inr (4, [.int md, ed, .int 0])), (ra_1, .inr (3, [.int 0, .int (-1), .int md, .ref cs]))] H := hP
  have hD : va_D A [(h, .inr (16, [.int 0, .ref cs, sk, vh])), (cs, .inr (4, [.int md, ed, .int 0])), (ra_1, .inr (3, [.int 0, .int (-1), .int md, .ref cs]))] := hD
  refine lv_astore_n (lv' := [(3, .ref ra_1), (1, .long 7), (0, .ref h)]) hx hb dX12_checksum_16 rfl hl (by decide) rfl (fun ls hl => ?_)
  refine lv_aload_n hx hb dX12_checksum_17 rfl (lv_at hl 0 rfl) ?_
  have hPc := hP.sub (ws' := [(ra_1, .inr (3, [.int 0, .int (-1), .int md, .ref cs])), (cs, .inr (4, [.int md, ed, .int 0]))]) [2, 1] rfl
  have hDc := hD.sub (ws' := [(ra_1, .inr (3, [.int 0, .int (-1), .int md, .ref cs])), (cs, .inr (4, [.int md, ed, .int 0]))]) [2, 1] (by decide) rfl
  have hKc := hK.sub (tys' := []) [] rfl
  refine va_callFi (va_runF (C := RJx35411) (hK.1 3 _ rfl).2 (As := []) (rest := []) ⟨hx, hb, hml, hown, hts⟩ (k_It_hasNext0 l D ra_1 cs (-1) md md (ed) H.size) (va_cwF 0 hts (gF q1555 q1559 q1561 q37 (gA q1563)) rfl rfl rfl (va_Fw.of (A := #[]) (hG.use t1557) (hG.use t1556) (hG.use t1562) (hG.use t1560) (hG.use t1558)) (by decide +kernel) ⟨Nat.le_of_ble_eq_true rfl, Nat.le_of_ble_eq_true rfl⟩) ⟨EV.fb, va_recv hKc hPc (ci := 3) (q0 := 0) rfl rfl, fun U hU hW => ⟨rfl, EV.at hPc hKc hDc hG (hZ.no hS) U hU hW⟩⟩ rfl rfl hl.1 rfl (lv_room (Nat.le_of_ble_eq_true rfl)) dX12_checksum_18 ⟨Nat.le_of_ble_eq_true rfl, Nat.le_of_ble_eq_true rfl⟩) hS (fun q _ h => h.elim) (fun q h => h.elim) (fun r u t H1 locs ht hvm hw hB hz1 hk1 hS => ?_)
  have hP := P_kept hP hk1
  generalize H1 = H at hP hS ⊢
  have hP : va_P D vwCl [(h, .inr (16, [.int 0, .ref cs, sk, vh])), (cs, .inr (4, [.int md, ed, .int 0])), (ra_1, .inr (3, [.int 0, .int (-1), .int md, .ref cs]))] H := hP
  subst hw
  refine lv_if_eq (tgt := 140) hx hb dX12_checksum_23 (by decide) (fun c_2 => ?_) (fun c_2 => ?_)
  · refine lv_lload_n hx hb dX12_checksum_140 rfl (lv_at hl 1 rfl) ?_
    have hP9 := hP.sub (ws' := [(h, .inr (16, [.int 0, .ref cs, sk, vh]))]) [0] rfl
    have hD9 := hD.sub (ws' := [(h, .inr (16, [.int 0, .ref cs, sk, vh]))]) [0] (by decide) rfl
    refine W.widen (k := 1) (n := 4) (Nat.le_of_ble_eq_true rfl) (Nat.le_of_ble_eq_true rfl) ?_
    exact W.lret (v := 7) hx hb hr (fun t ht hW => ⟨⟨7, (), rfl, rfl, by rw [ht]; exact hP9, hD9⟩, hS.F ht⟩) hS.2.2 dX12_checksum_141
  · exact absurd (by decide) c_2
set_option maxHeartbeats 4000000 in
set_option maxRecDepth 100000 in
/-- frozenShare on the fresh reference -/
theorem k_LM_frozenShare (l : Launch) (D : va_G) (h : Nat) (th : Int32) (cs : Nat) (sk vh : Value) (md : Int32) (ed : Value) (sz : Nat) : Met l yX12_frozenShare (wsA yX12_frozenShare cX12_frozenShare 7 (some .float)) ({ frames := 3, cells := 1, slots := 4, locals := 53 }) (va_Pc [.ref h] (EV D [] [(h, .inr (16, [.int th, .ref cs, sk, vh])), (cs, .inr (4, [.int md, ed, .int 0]))] sz)) (va_Qf (fun (r : UInt32) (_ : Unit) => True) (fun _ t => va_P D vwCl [(h, .inr (16, [.int 1, .ref cs, sk, vh]))] t.heap ∧ va_D (va_A [(h, .inr (16, [.int th, .ref cs, sk, vh])), (cs, .inr (4, [.int md, ed, .int 0]))] sz) [(h, .inr (16, [.int 1, .ref cs, sk, vh]))]) (va_A [(h, .inr (16, [.int th, .ref cs, sk, vh])), (cs, .inr (4, [.int md, ed, .int 0]))] sz)) 1 4 (va_A [(h, .inr (16, [.int th, .ref cs, sk, vh])), (cs, .inr (4, [.int md, ed, .int 0]))] sz) := by
  refine Met.ofW (cc := cX12_frozenShare) (maxL := 7) (ret := (some .float)) (by decide) rfl ?_
  intro p e s m args below meth c s₁ B hml hv
  obtain ⟨rfl, hsz, hP, hK, hD0, hG, hZ0⟩ := hv
  have hx := B.exec
  have hb := B.bytes
  have hr := B.returns
  have hts0 := atoms_spec (ws := wsA yX12_frozenShare cX12_frozenShare 7 (some .float)) B.pre
  have hts : ∀ w ∈ lw_all, w.before _ s = true := fun w h => hts0 w (List.mem_cons_of_mem _ h)
  have hown : s.vm.findClass RX12 = some m.cls := findClass_of_methodNamed B.named
  have hlocks := B.notSynchronized
  subst hsz
  have hZ := ZZ.wide hP hZ0
  have hD := hD0.self (sz := s.heap.size)
  generalize hAe : va_A [(h, .inr (16, [.int th, .ref cs, sk, vh])), (cs, .inr (4, [.int md, ed, .int 0]))] s.heap.size = A at hD hZ ⊢
  have hA : ∀ q : Nat, s.heap.size ≤ q → A q := fun q h => by rw [← hAe]; exact Or.inr h
  have hS : va_S A s.heap s.heap [] := va_S.rf
  have hP : va_P D vwCl [(h, .inr (16, [.int th, .ref cs, sk, vh])), (cs, .inr (4, [.int md, ed, .int 0]))] s.heap := hP
  have hl := lv_entry ([.ref h]) (n := 7) (Nat.le_of_ble_eq_true rfl)
  rw [lg_entry_eq]
  generalize (lg_sl ([.ref h]) ++ List.replicate (7 - (lg_sl ([.ref h])).length) Slot.unset).toArray = ls at hl ⊢
  have hl : lv_has ls 7 [(0, .ref h)] := hl
  refine lv_iconst (v := 0) hx hb dX12_frozenShare_0 (by decide) ?_
  refine lv_istore_n (lv' := [(1, .int 0), (0, .ref h)]) hx hb dX12_frozenShare_1 rfl hl (by decide) rfl (fun ls hl => ?_)
  refine lv_iconst (v := 0) hx hb dX12_frozenShare_2 (by decide) ?_
  refine lv_istore_n (lv' := [(2, .int 0), (1, .int 0), (0, .ref h)]) hx hb dX12_frozenShare_3 rfl hl (by decide) rfl (fun ls hl => ?_)
  refine lv_aload_n hx hb dX12_frozenShare_4 rfl (lv_at hl 2 rfl) ?_
  refine va_get (D := D) (ci := 16) (v := .ref cs) (C := RX12) (T := TX12) (N := 4) hx hb hts iwX12 hown hK hP 0 rfl rfl 1 (by decide) (hts _ q1162) (fun _ h9 => h9) rfl dX12_frozenShare_5 ?_
  have hPc := hP.sub (ws' := [(cs, .inr (4, [.int md, ed, .int 0]))]) [1] rfl
  have hDc := hD.sub (ws' := [(cs, .inr (4, [.int md, ed, .int 0]))]) [1] (by decide) rfl
  have hKc := hK.sub (tys' := []) [] rfl
  have hFc := va_free (wc := [(cs, .inr (4, [.int md, ed, .int 0]))]) hD hS hA [1] rfl
  refine va_callr (va_runV (As := []) (rest := []) ⟨hx, hb, hml, hown, hts⟩ (k_AL_iterator l D cs md (ed) 0 s.heap.size) (cwV 0 hts (gV q1531 q1532 q1533 q4 (gA q1534)) rfl rfl rfl (by decide +kernel) ⟨Nat.le_of_ble_eq_true rfl, Nat.le_of_ble_eq_true rfl⟩) ⟨EV.fb, va_recv hKc hPc (ci := 4) (q0 := 0) rfl rfl, fun U hU hW => ⟨rfl, EV.at hPc hKc hDc hG (hZ.no hS) U hU hW⟩⟩ rfl rfl hl.1 rfl (lv_room (Nat.le_of_ble_eq_true rfl)) dX12_frozenShare_8 ⟨Nat.le_of_ble_eq_true rfl, Nat.le_of_ble_eq_true rfl⟩) hS (fun q _ h => hFc q h) hFc (fun u ra_1 t H1 locs ht hvm hw hB hz1 hk1 hS => ?_)
  obtain ⟨hP1, hD1⟩ := hB
  rw [ht] at hP1
  obtain ⟨hP, hD⟩ := va_join (wr := [(h, .inr (16, [.int th, .ref cs, sk, vh]))]) (w1 := [(cs, .inr (4, [.int md, ed, .int 0])), (ra_1, .inr (3, [.int 0, .int (-1), .int md, .ref cs]))]) hP hD [1] [0] rfl rfl (by decide) (by decide) hk1 hFc hP1 hD1
  generalize H1 = H at hP hS ⊢
  have hP : va_P D vwCl [(h, .inr (16, [.int th, .ref cs, sk, vh])), (cs, .inr (4, [.int md, ed, .int 0])), (ra_1, .inr (3, [.int 0, .int (-1), .int md, .ref cs]))] H := hP
  have hD : va_D A [(h, .inr (16, [.int th, .ref cs, sk, vh])), (cs, .inr (4, [.int md, ed, .int 0])), (ra_1, .inr (3, [.int 0, .int (-1), .int md, .ref cs]))] := hD
  refine lv_astore_n (lv' := [(3, .ref ra_1), (2, .int 0), (1, .int 0), (0, .ref h)]) hx hb dX12_frozenShare_11 rfl hl (by decide) rfl (fun ls hl => ?_)
  refine lv_aload_n hx hb dX12_frozenShare_12 rfl (lv_at hl 0 rfl) ?_
  have hPc := hP.sub (ws' := [(ra_1, .inr (3, [.int 0, .int (-1), .int md, .ref cs])), (cs, .inr (4, [.int md, ed, .int 0]))]) [2, 1] rfl
  have hDc := hD.sub (ws' := [(ra_1, .inr (3, [.int 0, .int (-1), .int md, .ref cs])), (cs, .inr (4, [.int md, ed, .int 0]))]) [2, 1] (by decide) rfl
  have hKc := hK.sub (tys' := []) [] rfl
  refine va_callFi (va_runF (C := RJx35411) (hK.1 3 _ rfl).2 (As := []) (rest := []) ⟨hx, hb, hml, hown, hts⟩ (k_It_hasNext0 l D ra_1 cs (-1) md md (ed) H.size) (va_cwF 0 hts (gF q1555 q1559 q1561 q37 (gA q1563)) rfl rfl rfl (va_Fw.of (A := #[]) (hG.use t1557) (hG.use t1556) (hG.use t1562) (hG.use t1560) (hG.use t1558)) (by decide +kernel) ⟨Nat.le_of_ble_eq_true rfl, Nat.le_of_ble_eq_true rfl⟩) ⟨EV.fb, va_recv hKc hPc (ci := 3) (q0 := 0) rfl rfl, fun U hU hW => ⟨rfl, EV.at hPc hKc hDc hG (hZ.no hS) U hU hW⟩⟩ rfl rfl hl.1 rfl (lv_room (Nat.le_of_ble_eq_true rfl)) dX12_frozenShare_13 ⟨Nat.le_of_ble_eq_true rfl, Nat.le_of_ble_eq_true rfl⟩) hS (fun q _ h => h.elim) (fun q h => h.elim) (fun r u t H1 locs ht hvm hw hB hz1 hk1 hS => ?_)
  have hP := P_kept hP hk1
  generalize H1 = H at hP hS ⊢
  have hP : va_P D vwCl [(h, .inr (16, [.int th, .ref cs, sk, vh])), (cs, .inr (4, [.int md, ed, .int 0])), (ra_1, .inr (3, [.int 0, .int (-1), .int md, .ref cs]))] H := hP
  subst hw
  refine lv_if_eq (tgt := 89) hx hb dX12_frozenShare_18 (by decide) (fun c_2 => ?_) (fun c_2 => ?_)
  · refine lv_aload_n hx hb dX12_frozenShare_89 rfl (lv_at hl 3 rfl) ?_
    refine lv_iload_n hx hb dX12_frozenShare_90 rfl (lv_at hl 2 rfl) ?_
    refine lv_if_ne (tgt := 98) hx hb dX12_frozenShare_91 (by decide) (fun c_3 => ?_) (fun c_3 => ?_)
    · exact absurd rfl c_3
    · refine lv_iconst (v := 1) hx hb dX12_frozenShare_94 (by decide) ?_
      refine lv_goto (tgt := 99) hx hb dX12_frozenShare_95 (by decide) ?_
      refine va_put (D := D) (ci := 16) (v := .int 1) (ty := .int) (C := RX12) (T := TX12) (N := 4) hx hb hts iwX12 tyX12 tyX12_ok nmX12 hown hK hP hD hS 0 rfl rfl 0 (by decide) (hts _ q1161) (fun _ h9 => h9) rfl (by decide +kernel) rfl rfl (Nat.le_of_ble_eq_true rfl) dX12_frozenShare_99 (fun H locs hP hD hS => ?_)
      have hP : va_P D vwCl [(h, .inr (16, [.int 1, .ref cs, sk, vh])), (cs, .inr (4, [.int md, ed, .int 0])), (ra_1, .inr (3, [.int 0, .int (-1), .int md, .ref cs]))] H := hP
      have hD : va_D A [(h, .inr (16, [.int 1, .ref cs, sk, vh])), (cs, .inr (4, [.int md, ed, .int 0])), (ra_1, .inr (3, [.int 0, .int (-1), .int md, .ref cs]))] := hD
      refine lv_aload_n hx hb dX12_frozenShare_102 rfl (lv_at hl 3 rfl) ?_
      refine va_get (D := D) (ci := 16) (v := .int 1) (C := RX12) (T := TX12) (N := 4) hx hb hts iwX12 hown hK hP 0 rfl rfl 0 (by decide) (hts _ q1161) (fun _ h9 => h9) rfl dX12_frozenShare_103 ?_
      refine lv_if_le (tgt := 113) hx hb dX12_frozenShare_106 (by decide) (fun c_4 => ?_) (fun c_4 => ?_)
      · exact absurd c_4 (by decide)
      · refine lv_fconst0 hx hb dX12_frozenShare_109 ?_
        refine lv_goto (tgt := 118) hx hb dX12_frozenShare_110 (by decide) ?_
        have hP9 := hP.sub (ws' := [(h, .inr (16, [.int 1, .ref cs, sk, vh]))]) [0] rfl
        have hD9 := hD.sub (ws' := [(h, .inr (16, [.int 1, .ref cs, sk, vh]))]) [0] (by decide) rfl
        refine W.widen (k := 1) (n := 4) (Nat.le_of_ble_eq_true rfl) (Nat.le_of_ble_eq_true rfl) ?_
        exact W.fret (v := 0) hx hb hr (fun t ht hW => ⟨⟨0, (), rfl, trivial, by rw [ht]; exact hP9, hD9⟩, hS.F ht⟩) hS.2.2 dX12_frozenShare_118
  · exact absurd (by decide) c_2
set_option maxHeartbeats 4000000 in
set_option maxRecDepth 100000 in
/-- meanWater on the fresh reference -/
theorem k_LM_meanWater (l : Launch) (D : va_G) (h : Nat) (th : Int32) (cs : Nat) (sk vh : Value) (md : Int32) (ed : Value) (sz : Nat) : Met l yX12_meanWater (wsA yX12_meanWater cX12_meanWater 7 (some .double)) ({ frames := 3, cells := 1, slots := 4, locals := 53 }) (va_Pc [.ref h] (EV D [] [(h, .inr (16, [.int th, .ref cs, sk, vh])), (cs, .inr (4, [.int md, ed, .int 0]))] sz)) (va_Qd (fun (r : UInt64) (_ : Unit) => True) (fun _ t => va_P D vwCl [(h, .inr (16, [.int 1, .ref cs, sk, vh]))] t.heap ∧ va_D (va_A [(h, .inr (16, [.int th, .ref cs, sk, vh])), (cs, .inr (4, [.int md, ed, .int 0]))] sz) [(h, .inr (16, [.int 1, .ref cs, sk, vh]))]) (va_A [(h, .inr (16, [.int th, .ref cs, sk, vh])), (cs, .inr (4, [.int md, ed, .int 0]))] sz)) 1 4 (va_A [(h, .inr (16, [.int th, .ref cs, sk, vh])), (cs, .inr (4, [.int md, ed, .int 0]))] sz) := by
  refine Met.ofW (cc := cX12_meanWater) (maxL := 7) (ret := (some .double)) (by decide) rfl ?_
  intro p e s m args below meth c s₁ B hml hv
  obtain ⟨rfl, hsz, hP, hK, hD0, hG, hZ0⟩ := hv
  have hx := B.exec
  have hb := B.bytes
  have hr := B.returns
  have hts0 := atoms_spec (ws := wsA yX12_meanWater cX12_meanWater 7 (some .double)) B.pre
  have hts : ∀ w ∈ lw_all, w.before _ s = true := fun w h => hts0 w (List.mem_cons_of_mem _ h)
  have hown : s.vm.findClass RX12 = some m.cls := findClass_of_methodNamed B.named
  have hlocks := B.notSynchronized
  subst hsz
  have hZ := ZZ.wide hP hZ0
  have hD := hD0.self (sz := s.heap.size)
  generalize hAe : va_A [(h, .inr (16, [.int th, .ref cs, sk, vh])), (cs, .inr (4, [.int md, ed, .int 0]))] s.heap.size = A at hD hZ ⊢
  have hA : ∀ q : Nat, s.heap.size ≤ q → A q := fun q h => by rw [← hAe]; exact Or.inr h
  have hS : va_S A s.heap s.heap [] := va_S.rf
  have hP : va_P D vwCl [(h, .inr (16, [.int th, .ref cs, sk, vh])), (cs, .inr (4, [.int md, ed, .int 0]))] s.heap := hP
  have hl := lv_entry ([.ref h]) (n := 7) (Nat.le_of_ble_eq_true rfl)
  rw [lg_entry_eq]
  generalize (lg_sl ([.ref h]) ++ List.replicate (7 - (lg_sl ([.ref h])).length) Slot.unset).toArray = ls at hl ⊢
  have hl : lv_has ls 7 [(0, .ref h)] := hl
  refine lv_iconst (v := 0) hx hb dX12_meanWater_0 (by decide) ?_
  refine lv_istore_n (lv' := [(1, .int 0), (0, .ref h)]) hx hb dX12_meanWater_1 rfl hl (by decide) rfl (fun ls hl => ?_)
  refine lv_iconst (v := 0) hx hb dX12_meanWater_2 (by decide) ?_
  refine lv_istore_n (lv' := [(2, .int 0), (1, .int 0), (0, .ref h)]) hx hb dX12_meanWater_3 rfl hl (by decide) rfl (fun ls hl => ?_)
  refine lv_aload_n hx hb dX12_meanWater_4 rfl (lv_at hl 2 rfl) ?_
  refine va_get (D := D) (ci := 16) (v := .ref cs) (C := RX12) (T := TX12) (N := 4) hx hb hts iwX12 hown hK hP 0 rfl rfl 1 (by decide) (hts _ q1162) (fun _ h9 => h9) rfl dX12_meanWater_5 ?_
  have hPc := hP.sub (ws' := [(cs, .inr (4, [.int md, ed, .int 0]))]) [1] rfl
  have hDc := hD.sub (ws' := [(cs, .inr (4, [.int md, ed, .int 0]))]) [1] (by decide) rfl
  have hKc := hK.sub (tys' := []) [] rfl
  have hFc := va_free (wc := [(cs, .inr (4, [.int md, ed, .int 0]))]) hD hS hA [1] rfl
  refine va_callr (va_runV (As := []) (rest := []) ⟨hx, hb, hml, hown, hts⟩ (k_AL_iterator l D cs md (ed) 0 s.heap.size) (cwV 0 hts (gV q1531 q1532 q1533 q4 (gA q1534)) rfl rfl rfl (by decide +kernel) ⟨Nat.le_of_ble_eq_true rfl, Nat.le_of_ble_eq_true rfl⟩) ⟨EV.fb, va_recv hKc hPc (ci := 4) (q0 := 0) rfl rfl, fun U hU hW => ⟨rfl, EV.at hPc hKc hDc hG (hZ.no hS) U hU hW⟩⟩ rfl rfl hl.1 rfl (lv_room (Nat.le_of_ble_eq_true rfl)) dX12_meanWater_8 ⟨Nat.le_of_ble_eq_true rfl, Nat.le_of_ble_eq_true rfl⟩) hS (fun q _ h => hFc q h) hFc (fun u ra_1 t H1 locs ht hvm hw hB hz1 hk1 hS => ?_)
  obtain ⟨hP1, hD1⟩ := hB
  rw [ht] at hP1
  obtain ⟨hP, hD⟩ := va_join (wr := [(h, .inr (16, [.int th, .ref cs, sk, vh]))]) (w1 := [(cs, .inr (4, [.int md, ed, .int 0])), (ra_1, .inr (3, [.int 0, .int (-1), .int md, .ref cs]))]) hP hD [1] [0] rfl rfl (by decide) (by decide) hk1 hFc hP1 hD1
  generalize H1 = H at hP hS ⊢
  have hP : va_P D vwCl [(h, .inr (16, [.int th, .ref cs, sk, vh])), (cs, .inr (4, [.int md, ed, .int 0])), (ra_1, .inr (3, [.int 0, .int (-1), .int md, .ref cs]))] H := hP
  have hD : va_D A [(h, .inr (16, [.int th, .ref cs, sk, vh])), (cs, .inr (4, [.int md, ed, .int 0])), (ra_1, .inr (3, [.int 0, .int (-1), .int md, .ref cs]))] := hD
  refine lv_astore_n (lv' := [(3, .ref ra_1), (2, .int 0), (1, .int 0), (0, .ref h)]) hx hb dX12_meanWater_11 rfl hl (by decide) rfl (fun ls hl => ?_)
  refine lv_aload_n hx hb dX12_meanWater_12 rfl (lv_at hl 0 rfl) ?_
  have hPc := hP.sub (ws' := [(ra_1, .inr (3, [.int 0, .int (-1), .int md, .ref cs])), (cs, .inr (4, [.int md, ed, .int 0]))]) [2, 1] rfl
  have hDc := hD.sub (ws' := [(ra_1, .inr (3, [.int 0, .int (-1), .int md, .ref cs])), (cs, .inr (4, [.int md, ed, .int 0]))]) [2, 1] (by decide) rfl
  have hKc := hK.sub (tys' := []) [] rfl
  refine va_callFi (va_runF (C := RJx35411) (hK.1 3 _ rfl).2 (As := []) (rest := []) ⟨hx, hb, hml, hown, hts⟩ (k_It_hasNext0 l D ra_1 cs (-1) md md (ed) H.size) (va_cwF 0 hts (gF q1555 q1559 q1561 q37 (gA q1563)) rfl rfl rfl (va_Fw.of (A := #[]) (hG.use t1557) (hG.use t1556) (hG.use t1562) (hG.use t1560) (hG.use t1558)) (by decide +kernel) ⟨Nat.le_of_ble_eq_true rfl, Nat.le_of_ble_eq_true rfl⟩) ⟨EV.fb, va_recv hKc hPc (ci := 3) (q0 := 0) rfl rfl, fun U hU hW => ⟨rfl, EV.at hPc hKc hDc hG (hZ.no hS) U hU hW⟩⟩ rfl rfl hl.1 rfl (lv_room (Nat.le_of_ble_eq_true rfl)) dX12_meanWater_13 ⟨Nat.le_of_ble_eq_true rfl, Nat.le_of_ble_eq_true rfl⟩) hS (fun q _ h => h.elim) (fun q h => h.elim) (fun r u t H1 locs ht hvm hw hB hz1 hk1 hS => ?_)
  have hP := P_kept hP hk1
  generalize H1 = H at hP hS ⊢
  have hP : va_P D vwCl [(h, .inr (16, [.int th, .ref cs, sk, vh])), (cs, .inr (4, [.int md, ed, .int 0])), (ra_1, .inr (3, [.int 0, .int (-1), .int md, .ref cs]))] H := hP
  subst hw
  refine lv_if_eq (tgt := 81) hx hb dX12_meanWater_18 (by decide) (fun c_2 => ?_) (fun c_2 => ?_)
  · refine lv_aload_n hx hb dX12_meanWater_81 rfl (lv_at hl 3 rfl) ?_
    refine lv_iload_n hx hb dX12_meanWater_82 rfl (lv_at hl 2 rfl) ?_
    refine lv_if_ne (tgt := 90) hx hb dX12_meanWater_83 (by decide) (fun c_3 => ?_) (fun c_3 => ?_)
    · exact absurd rfl c_3
    · refine lv_iconst (v := 1) hx hb dX12_meanWater_86 (by decide) ?_
      refine lv_goto (tgt := 91) hx hb dX12_meanWater_87 (by decide) ?_
      refine va_put (D := D) (ci := 16) (v := .int 1) (ty := .int) (C := RX12) (T := TX12) (N := 4) hx hb hts iwX12 tyX12 tyX12_ok nmX12 hown hK hP hD hS 0 rfl rfl 0 (by decide) (hts _ q1161) (fun _ h9 => h9) rfl (by decide +kernel) rfl rfl (Nat.le_of_ble_eq_true rfl) dX12_meanWater_91 (fun H locs hP hD hS => ?_)
      have hP : va_P D vwCl [(h, .inr (16, [.int 1, .ref cs, sk, vh])), (cs, .inr (4, [.int md, ed, .int 0])), (ra_1, .inr (3, [.int 0, .int (-1), .int md, .ref cs]))] H := hP
      have hD : va_D A [(h, .inr (16, [.int 1, .ref cs, sk, vh])), (cs, .inr (4, [.int md, ed, .int 0])), (ra_1, .inr (3, [.int 0, .int (-1), .int md, .ref cs]))] := hD
      refine lv_aload_n hx hb dX12_meanWater_94 rfl (lv_at hl 3 rfl) ?_
      refine va_get (D := D) (ci := 16) (v := .int 1) (C := RX12) (T := TX12) (N := 4) hx hb hts iwX12 hown hK hP 0 rfl rfl 0 (by decide) (hts _ q1161) (fun _ h9 => h9) rfl dX12_meanWater_95 ?_
      refine lv_if_le (tgt := 105) hx hb dX12_meanWater_98 (by decide) (fun c_4 => ?_) (fun c_4 => ?_)
      · exact absurd c_4 (by decide)
      · refine lv_dconst0 hx hb dX12_meanWater_101 ?_
        refine lv_goto (tgt := 110) hx hb dX12_meanWater_102 (by decide) ?_
        have hP9 := hP.sub (ws' := [(h, .inr (16, [.int 1, .ref cs, sk, vh]))]) [0] rfl
        have hD9 := hD.sub (ws' := [(h, .inr (16, [.int 1, .ref cs, sk, vh]))]) [0] (by decide) rfl
        refine W.widen (k := 1) (n := 4) (Nat.le_of_ble_eq_true rfl) (Nat.le_of_ble_eq_true rfl) ?_
        exact W.dret (v := 0) hx hb hr (fun t ht hW => ⟨⟨0, (), rfl, trivial, by rw [ht]; exact hP9, hD9⟩, hS.F ht⟩) hS.2.2 dX12_meanWater_110
  · exact absurd (by decide) c_2
