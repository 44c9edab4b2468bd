theorem dJx4a65c_size_8abf5_0 : decode cJx4a65c_size_8abf5 0 = .ok (.aload_n 0, 1) := by decide +kernel
theorem dJx4a65c_size_8abf5_1 : decode cJx4a65c_size_8abf5 1 = .ok (.getfield 48, 3) := by decide +kernel
theorem dJx4a65c_size_8abf5_4 : decode cJx4a65c_size_8abf5 4 = .ok (.ireturn, 1) := by decide +kernel
theorem dX7_capacity_0 : decode cX7_capacity 0 = .ok (.aload_n 0, 1) := by decide +kernel
theorem dX7_capacity_1 : decode cX7_capacity 1 = .ok (.iload_n 1, 1) := by decide +kernel
theorem dX7_capacity_2 : decode cX7_capacity 2 = .ok (.iload_n 2, 1) := by decide +kernel
theorem dX7_capacity_3 : decode cX7_capacity 3 = .ok (.invokevirtual 103, 3) := by decide +kernel
theorem dX7_columnAt_0 : decode cX7_columnAt 0 = .ok (.iload_n 1, 1) := by decide +kernel
theorem dX7_columnAt_1 : decode cX7_columnAt 1 = .ok (.ifCond .lt 14, 3) := by decide +kernel
theorem dX7_columnAt_4 : decode cX7_columnAt 4 = .ok (.iload_n 1, 1) := by decide +kernel
theorem dX7_columnAt_5 : decode cX7_columnAt 5 = .ok (.aload_n 0, 1) := by decide +kernel
theorem dX7_columnAt_6 : decode cX7_columnAt 6 = .ok (.getfield 10, 3) := by decide +kernel
theorem dX7_columnAt_9 : decode cX7_columnAt 9 = .ok (.invokevirtual 47, 3) := by decide +kernel
theorem dX7_columnAt_12 : decode cX7_columnAt 12 = .ok (.if_icmp .lt 14, 3) := by decide +kernel
theorem dX7_columnAt_15 : decode cX7_columnAt 15 = .ok (.new 110, 3) := by decide +kernel
theorem dX7_columnAt_18 : decode cX7_columnAt 18 = .ok (.dup, 1) := by decide +kernel
theorem dX7_columnAt_19 : decode cX7_columnAt 19 = .ok (.ldc_w 305, 3) := by decide +kernel
theorem dX7_columnAt_22 : decode cX7_columnAt 22 = .ok (.invokespecial 114, 3) := by decide +kernel
theorem dX7_columnAt_25 : decode cX7_columnAt 25 = .ok (.athrow, 1) := by decide +kernel
theorem dX7_compareForecasts_0 : decode cX7_compareForecasts 0 = .ok (.aload_n 0, 1) := by decide +kernel
theorem dX7_compareForecasts_1 : decode cX7_compareForecasts 1 = .ok (.iload_n 1, 1) := by decide +kernel
theorem dX7_compareForecasts_2 : decode cX7_compareForecasts 2 = .ok (.invokevirtual 65, 3) := by decide +kernel
theorem dX7_crack_0 : decode cX7_crack 0 = .ok (.aload_n 0, 1) := by decide +kernel
theorem dX7_crack_1 : decode cX7_crack 1 = .ok (.iload_n 1, 1) := by decide +kernel
theorem dX7_crack_2 : decode cX7_crack 2 = .ok (.invokevirtual 65, 3) := by decide +kernel
theorem dX7_eaten_0 : decode cX7_eaten 0 = .ok (.aload_n 0, 1) := by decide +kernel
theorem dX7_eaten_1 : decode cX7_eaten 1 = .ok (.iload_n 1, 1) := by decide +kernel
theorem dX7_eaten_2 : decode cX7_eaten 2 = .ok (.invokevirtual 65, 3) := by decide +kernel
theorem dX7_fines_0 : decode cX7_fines 0 = .ok (.aload_n 0, 1) := by decide +kernel
theorem dX7_fines_1 : decode cX7_fines 1 = .ok (.iload_n 1, 1) := by decide +kernel
theorem dX7_fines_2 : decode cX7_fines 2 = .ok (.invokevirtual 65, 3) := by decide +kernel
theorem dX7_fit_0 : decode cX7_fit 0 = .ok (.aload_n 0, 1) := by decide +kernel
theorem dX7_fit_1 : decode cX7_fit 1 = .ok (.iload_n 1, 1) := by decide +kernel
theorem dX7_fit_2 : decode cX7_fit 2 = .ok (.iload_n 2, 1) := by decide +kernel
theorem dX7_fit_3 : decode cX7_fit 3 = .ok (.iload_n 3, 1) := by decide +kernel
theorem dX7_fit_4 : decode cX7_fit 4 = .ok (.invokevirtual 263, 3) := by decide +kernel
theorem dX7_fits_0 : decode cX7_fits 0 = .ok (.aload_n 0, 1) := by decide +kernel
theorem dX7_fits_1 : decode cX7_fits 1 = .ok (.iload_n 1, 1) := by decide +kernel
theorem dX7_fits_2 : decode cX7_fits 2 = .ok (.iload_n 2, 1) := by decide +kernel
theorem dX7_fits_3 : decode cX7_fits 3 = .ok (.iload_n 3, 1) := by decide +kernel
theorem dX7_fits_4 : decode cX7_fits 4 = .ok (.invokevirtual 263, 3) := by decide +kernel
theorem dX7_forecast_0 : decode cX7_forecast 0 = .ok (.aload_n 0, 1) := by decide +kernel
theorem dX7_forecast_1 : decode cX7_forecast 1 = .ok (.iload_n 1, 1) := by decide +kernel
theorem dX7_forecast_2 : decode cX7_forecast 2 = .ok (.invokevirtual 65, 3) := by decide +kernel
theorem dX7_frost_0 : decode cX7_frost 0 = .ok (.aload_n 0, 1) := by decide +kernel
theorem dX7_frost_1 : decode cX7_frost 1 = .ok (.iload_n 1, 1) := by decide +kernel
theorem dX7_frost_2 : decode cX7_frost 2 = .ok (.iload_n 2, 1) := by decide +kernel
theorem dX7_frost_3 : decode cX7_frost 3 = .ok (.invokevirtual 103, 3) := by decide +kernel
theorem dX7_harvest_0 : decode cX7_harvest 0 = .ok (.aload_n 0, 1) := by decide +kernel
theorem dX7_harvest_1 : decode cX7_harvest 1 = .ok (.iload_n 1, 1) := by decide +kernel
theorem dX7_harvest_2 : decode cX7_harvest 2 = .ok (.invokevirtual 65, 3) := by decide +kernel
theorem dX7_heave_0 : decode cX7_heave 0 = .ok (.aload_n 0, 1) := by decide +kernel
theorem dX7_heave_1 : decode cX7_heave 1 = .ok (.iload_n 1, 1) := by decide +kernel
theorem dX7_heave_2 : decode cX7_heave 2 = .ok (.invokevirtual 65, 3) := by decide +kernel
theorem dX7_isFrozen_0 : decode cX7_isFrozen 0 = .ok (.aload_n 0, 1) := by decide +kernel
theorem dX7_isFrozen_1 : decode cX7_isFrozen 1 = .ok (.iload_n 1, 1) := by decide +kernel
theorem dX7_isFrozen_2 : decode cX7_isFrozen 2 = .ok (.iload_n 2, 1) := by decide +kernel
theorem dX7_isFrozen_3 : decode cX7_isFrozen 3 = .ok (.invokevirtual 103, 3) := by decide +kernel
theorem dX7_layer_0 : decode cX7_layer 0 = .ok (.aload_n 0, 1) := by decide +kernel
theorem dX7_layer_1 : decode cX7_layer 1 = .ok (.iload_n 1, 1) := by decide +kernel
theorem dX7_layer_2 : decode cX7_layer 2 = .ok (.invokevirtual 65, 3) := by decide +kernel
theorem dX7_layerAt_0 : decode cX7_layerAt 0 = .ok (.aload_n 0, 1) := by decide +kernel
theorem dX7_layerAt_1 : decode cX7_layerAt 1 = .ok (.iload_n 1, 1) := by decide +kernel
theorem dX7_layerAt_2 : decode cX7_layerAt 2 = .ok (.invokevirtual 65, 3) := by decide +kernel
theorem dX7_link_0 : decode cX7_link 0 = .ok (.aload_n 0, 1) := by decide +kernel
theorem dX7_link_1 : decode cX7_link 1 = .ok (.iload_n 1, 1) := by decide +kernel
theorem dX7_link_2 : decode cX7_link 2 = .ok (.invokevirtual 65, 3) := by decide +kernel
theorem dX7_manure_0 : decode cX7_manure 0 = .ok (.aload_n 0, 1) := by decide +kernel
theorem dX7_manure_1 : decode cX7_manure 1 = .ok (.iload_n 1, 1) := by decide +kernel
theorem dX7_manure_2 : decode cX7_manure 2 = .ok (.invokevirtual 65, 3) := by decide +kernel
theorem dX7_mulch_0 : decode cX7_mulch 0 = .ok (.aload_n 0, 1) := by decide +kernel
theorem dX7_mulch_1 : decode cX7_mulch 1 = .ok (.iload_n 1, 1) := by decide +kernel
theorem dX7_mulch_2 : decode cX7_mulch 2 = .ok (.invokevirtual 65, 3) := by decide +kernel
theorem dX7_out_0 : decode cX7_out 0 = .ok (.aload_n 0, 1) := by decide +kernel
theorem dX7_out_1 : decode cX7_out 1 = .ok (.iload_n 1, 1) := by decide +kernel
theorem dX7_out_2 : decode cX7_out 2 = .ok (.invokevirtual 65, 3) := by decide +kernel
theorem dX7_plant_0 : decode cX7_plant 0 = .ok (.aload_n 0, 1) := by decide +kernel
theorem dX7_plant_1 : decode cX7_plant 1 = .ok (.iload_n 1, 1) := by decide +kernel
theorem dX7_plant_2 : decode cX7_plant 2 = .ok (.invokevirtual 65, 3) := by decide +kernel
theorem dX7_recharge_0 : decode cX7_recharge 0 = .ok (.aload_n 0, 1) := by decide +kernel
theorem dX7_recharge_1 : decode cX7_recharge 1 = .ok (.iload_n 1, 1) := by decide +kernel
theorem dX7_recharge_2 : decode cX7_recharge 2 = .ok (.invokevirtual 65, 3) := by decide +kernel
theorem dX7_reflection_0 : decode cX7_reflection 0 = .ok (.aload_n 0, 1) := by decide +kernel
theorem dX7_reflection_1 : decode cX7_reflection 1 = .ok (.iload_n 1, 1) := by decide +kernel
theorem dX7_reflection_2 : decode cX7_reflection 2 = .ok (.iload_n 2, 1) := by decide +kernel
theorem dX7_reflection_3 : decode cX7_reflection 3 = .ok (.invokevirtual 103, 3) := by decide +kernel
theorem dX7_rule_0 : decode cX7_rule 0 = .ok (.aload_n 0, 1) := by decide +kernel
theorem dX7_rule_1 : decode cX7_rule 1 = .ok (.iload_n 1, 1) := by decide +kernel
theorem dX7_rule_2 : decode cX7_rule 2 = .ok (.invokevirtual 65, 3) := by decide +kernel
theorem dX7_runoff_0 : decode cX7_runoff 0 = .ok (.aload_n 0, 1) := by decide +kernel
theorem dX7_runoff_1 : decode cX7_runoff 1 = .ok (.iload_n 1, 1) := by decide +kernel
theorem dX7_runoff_2 : decode cX7_runoff 2 = .ok (.invokevirtual 65, 3) := by decide +kernel
theorem dX7_scale_0 : decode cX7_scale 0 = .ok (.aload_n 0, 1) := by decide +kernel
theorem dX7_scale_1 : decode cX7_scale 1 = .ok (.iload_n 1, 1) := by decide +kernel
theorem dX7_scale_2 : decode cX7_scale 2 = .ok (.invokevirtual 65, 3) := by decide +kernel
theorem dX7_setRight_0 : decode cX7_setRight 0 = .ok (.aload_n 0, 1) := by decide +kernel
theorem dX7_setRight_1 : decode cX7_setRight 1 = .ok (.iload_n 1, 1) := by decide +kernel
theorem dX7_setRight_2 : decode cX7_setRight 2 = .ok (.invokevirtual 65, 3) := by decide +kernel
theorem dX7_solute_0 : decode cX7_solute 0 = .ok (.aload_n 0, 1) := by decide +kernel
theorem dX7_solute_1 : decode cX7_solute 1 = .ok (.iload_n 1, 1) := by decide +kernel
theorem dX7_solute_2 : decode cX7_solute 2 = .ok (.iload_n 2, 1) := by decide +kernel
theorem dX7_solute_3 : decode cX7_solute 3 = .ok (.invokevirtual 103, 3) := by decide +kernel
theorem dX7_spread_0 : decode cX7_spread 0 = .ok (.aload_n 0, 1) := by decide +kernel
theorem dX7_spread_1 : decode cX7_spread 1 = .ok (.iload_n 1, 1) := by decide +kernel
theorem dX7_spread_2 : decode cX7_spread 2 = .ok (.invokevirtual 65, 3) := by decide +kernel
theorem dX7_standing_0 : decode cX7_standing 0 = .ok (.aload_n 0, 1) := by decide +kernel
theorem dX7_standing_1 : decode cX7_standing 1 = .ok (.iload_n 1, 1) := by decide +kernel
theorem dX7_standing_2 : decode cX7_standing 2 = .ok (.invokevirtual 65, 3) := by decide +kernel
theorem dX7_stress_0 : decode cX7_stress 0 = .ok (.aload_n 0, 1) := by decide +kernel
theorem dX7_stress_1 : decode cX7_stress 1 = .ok (.iload_n 1, 1) := by decide +kernel
theorem dX7_stress_2 : decode cX7_stress 2 = .ok (.invokevirtual 65, 3) := by decide +kernel
theorem dX7_tension_0 : decode cX7_tension 0 = .ok (.aload_n 0, 1) := by decide +kernel
theorem dX7_tension_1 : decode cX7_tension 1 = .ok (.iload_n 1, 1) := by decide +kernel
theorem dX7_tension_2 : decode cX7_tension 2 = .ok (.iload_n 2, 1) := by decide +kernel
theorem dX7_tension_3 : decode cX7_tension 3 = .ok (.invokevirtual 103, 3) := by decide +kernel
theorem dX7_vapour_0 : decode cX7_vapour 0 = .ok (.aload_n 0, 1) := by decide +kernel
theorem dX7_vapour_1 : decode cX7_vapour 1 = .ok (.iload_n 1, 1) := by decide +kernel
theorem dX7_vapour_2 : decode cX7_vapour 2 = .ok (.invokevirtual 65, 3) := by decide +kernel
theorem dX7_water_0 : decode cX7_water 0 = .ok (.aload_n 0, 1) := by decide +kernel
theorem dX7_water_1 : decode cX7_water 1 = .ok (.iload_n 1, 1) := by decide +kernel
theorem dX7_water_2 : decode cX7_water 2 = .ok (.iload_n 2, 1) := by decide +kernel
theorem dX7_water_3 : decode cX7_water 3 = .ok (.invokevirtual 103, 3) := by decide +kernel
theorem dX7_weigh_0 : decode cX7_weigh 0 = .ok (.aload_n 0, 1) := by decide +kernel
theorem dX7_weigh_1 : decode cX7_weigh 1 = .ok (.iload_n 1, 1) := by decide +kernel
theorem dX7_weigh_2 : decode cX7_weigh 2 = .ok (.invokevirtual 65, 3) := by decide +kernel
theorem dX7_wet_0 : decode cX7_wet 0 = .ok (.aload_n 0, 1) := by decide +kernel
theorem dX7_wet_1 : decode cX7_wet 1 = .ok (.iload_n 1, 1) := by decide +kernel
theorem dX7_wet_2 : decode cX7_wet 2 = .ok (.iload_n 2, 1) := by decide +kernel
theorem dX7_wet_3 : decode cX7_wet 3 = .ok (.invokevirtual 103, 3) := by decide +kernel
theorem iwJx4a65c : ∀ w ∈ wsJx4a65c0, w ∈ lw_all := al_all (by decide +kernel)
theorem iwX7 : ∀ w ∈ wsX70, w ∈ lw_all := al_all (by decide +kernel)
theorem q1 : Cond.initialized RX7 ∈ lw_all := al_in (i := 1) (by decide +kernel) (by decide +kernel)
theorem q4 : Cond.initialized RJx4a65c ∈ lw_all := al_in (i := 4) (by decide +kernel) (by decide +kernel)
theorem q26 : Cond.initialized "java/lang/IndexOutOfBoundsException" ∈ lw_all := al_in (i := 26) (by decide +kernel) (by decide +kernel)
theorem q67 : Cond.fieldLink RJx4a65c 48 "java/util/ArrayList" "size" "I" ∈ lw_all := al_in (i := 67) (by decide +kernel) (by decide +kernel)
theorem q98 : Cond.fieldLink RX7 10 "LysimeterField" "columns" "Ljava/util/ArrayList;" ∈ lw_all := al_in (i := 98) (by decide +kernel) (by decide +kernel)
theorem q125 : Cond.methodLink RX7 47 yJx4a65c_size_8abf5 ∈ lw_all := al_in (i := 125) (by decide +kernel) (by decide +kernel)
theorem q126 : Cond.instanceMethod yJx4a65c_size_8abf5 ∈ lw_all := al_in (i := 126) (by decide +kernel) (by decide +kernel)
theorem q127 : Cond.selects RJx4a65c yJx4a65c_size_8abf5 yJx4a65c_size_8abf5 ∈ lw_all := al_in (i := 127) (by decide +kernel) (by decide +kernel)
theorem q128 : Cond.code yJx4a65c_size_8abf5 cJx4a65c_size_8abf5 1 (some .int) ∈ lw_all := al_in (i := 128) (by decide +kernel) (by decide +kernel)
theorem q188 : Cond.methodLink RX7 65 yX7_columnAt ∈ lw_all := al_in (i := 188) (by decide +kernel) (by decide +kernel)
theorem q190 : Cond.instanceMethod yX7_columnAt ∈ lw_all := al_in (i := 190) (by decide +kernel) (by decide +kernel)
theorem q191 : Cond.code yX7_columnAt cX7_columnAt 2 (some (.object "LysimeterField$Column")) ∈ lw_all := al_in (i := 191) (by decide +kernel) (by decide +kernel)
theorem q192 : Cond.classLink RX7 110 "java/lang/IndexOutOfBoundsException" ∈ lw_all := al_in (i := 192) (by decide +kernel) (by decide +kernel)
theorem q736 : Cond.methodLink RX7 103 yX7_layerAt ∈ lw_all := al_in (i := 736) (by decide +kernel) (by decide +kernel)
theorem q738 : Cond.instanceMethod yX7_layerAt ∈ lw_all := al_in (i := 738) (by decide +kernel) (by decide +kernel)
theorem q739 : Cond.code yX7_layerAt cX7_layerAt 4 (some (.object "LysimeterField$Layer")) ∈ lw_all := al_in (i := 739) (by decide +kernel) (by decide +kernel)
theorem q1065 : Cond.methodLink RX7 263 yX7_compareForecasts ∈ lw_all := al_in (i := 1065) (by decide +kernel) (by decide +kernel)
theorem q1067 : Cond.instanceMethod yX7_compareForecasts ∈ lw_all := al_in (i := 1067) (by decide +kernel) (by decide +kernel)
theorem q1068 : Cond.code yX7_compareForecasts cX7_compareForecasts 7 (some .long) ∈ lw_all := al_in (i := 1068) (by decide +kernel) (by decide +kernel)
theorem qs1 : Cond.selects RX7 yX7_columnAt yX7_columnAt ∈ lw_all := al_sel (i := 1) (by decide +kernel) (by decide +kernel)
theorem qs22 : Cond.selects RX7 yX7_layerAt yX7_layerAt ∈ lw_all := al_sel (i := 22) (by decide +kernel) (by decide +kernel)
theorem qs27 : Cond.selects RX7 yX7_compareForecasts yX7_compareForecasts ∈ lw_all := al_sel (i := 27) (by decide +kernel) (by decide +kernel)
theorem t237 : Cond.stringRef RX7 305 "no such column" ∈ lw_st := al_stin (i := 237) (by decide +kernel) (by decide +kernel)
theorem xa_X7_114 : al_both (vx_atS RX7 114 "java/lang/IndexOutOfBoundsException" xnR) = true := by decide +kernel
theorem xa_X7_114_g : ∀ w ∈ Cond.classLink RX7 110 "java/lang/IndexOutOfBoundsException" :: Cond.initialized "java/lang/IndexOutOfBoundsException" :: vx_atS RX7 114 "java/lang/IndexOutOfBoundsException" xnR, vx_ot w = true := by decide +kernel
set_option maxHeartbeats 4000000 in
set_option maxRecDepth 100000 in
/-- ArrayList.size(): the field -/
theorem k_AL_size (l : Launch) (D : va_G) (q : Nat) (md : Int32) (ed : Value) (n : Int32) (sz : Nat) : Met l yJx4a65c_size_8abf5 (wsA yJx4a65c_size_8abf5 cJx4a65c_size_8abf5 1 (some .int)) ({ frames := 0, cells := 0, slots := 0, locals := 0 }) (va_Pc [.ref q] (EV D [] [(q, .inr (4, [.int md, ed, .int n]))] sz)) (va_Qi (fun (r : Int32) (_ : Unit) => r = n) (fun _ _ => True) NoA) 0 0 NoA := by
  refine Met.ofW (cc := cJx4a65c_size_8abf5) (maxL := 1) (ret := (some .int)) (by decide) rfl ?_
  intro p e s m args below meth c s₁ B hml hv
  obtain ⟨rfl, hsz, hP, hK, hD0, hG, hZ0⟩ := hv
  have hx := B.exec
  have hb := B.bytes
  have hr := B.returns
  have hts0 := atoms_spec (ws := wsA yJx4a65c_size_8abf5 cJx4a65c_size_8abf5 1 (some .int)) B.pre
  have hts : ∀ w ∈ lw_all, w.before _ s = true := fun w h => hts0 w (List.mem_cons_of_mem _ h)
  have hown : s.vm.findClass RJx4a65c = some m.cls := findClass_of_methodNamed B.named
  have hlocks := B.notSynchronized
  subst hsz
  have hD : va_D (fun _ => True) [(q, .inr (4, [.int md, ed, .int n]))] := hD0
  have hZ : ZZ NoA s s.heap := hZ0
  have hS : va_S NoA s.heap s.heap [] := va_S.rf
  have hP : va_P D vwCl [(q, .inr (4, [.int md, ed, .int n]))] s.heap := hP
  have hl := lv_entry ([.ref q]) (n := 1) (Nat.le_of_ble_eq_true rfl)
  rw [lg_entry_eq]
  generalize (lg_sl ([.ref q]) ++ List.replicate (1 - (lg_sl ([.ref q])).length) Slot.unset).toArray = ls at hl ⊢
  have hl : lv_has ls 1 [(0, .ref q)] := hl
  refine lv_aload_n hx hb dJx4a65c_size_8abf5_0 rfl (lv_at hl 0 rfl) ?_
  refine va_get (D := D) (ci := 4) (v := .int n) (C := RJx4a65c) (T := TJx4a65c) (N := 3) hx hb hts iwJx4a65c hown hK hP 0 rfl rfl 2 (by decide) (hts _ q67) (fun _ h9 => h9) rfl dJx4a65c_size_8abf5_1 ?_
  exact W.iret (v := n) hx hb hr (fun t ht hW => ⟨⟨n, (), rfl, rfl, trivial⟩, hS.F ht⟩) hS.2.2 dJx4a65c_size_8abf5_4
set_option maxHeartbeats 4000000 in
set_option maxRecDepth 100000 in
/-- columnAt on the fresh object: always IndexOutOfBoundsException -/
theorem k_LF_columnAt (l : Launch) (hst : l.stackTraces = false) (D : va_G) (h : Nat) (cs : Nat) (f1 f2 f3 f4 f5 f6 : Value) (md : Int32) (ed : Value) (p0 : Int32) (sz : Nat) : vx_Met l yX7_columnAt (wsA yX7_columnAt cX7_columnAt 2 (some (.object "LysimeterField$Column"))) ({ frames := 6, cells := 1, slots := 6, locals := 82 }) (va_Pc [.ref h, .int p0] (EV D [] [(h, .inr (11, [.ref cs, f1, f2, f3, f4, f5, f6])), (cs, .inr (4, [.int md, ed, .int 0]))] sz)) QX (XX "java/lang/IndexOutOfBoundsException") 1 6 NoA := by
  refine vx_ofW (cc := cX7_columnAt) (maxL := 2) (ret := (some (.object "LysimeterField$Column"))) (ws' := lw_all) (by decide) rfl ?_
  intro p e s m args below meth c s₁ B hml hnt hv
  obtain ⟨rfl, hsz, hP, hK, hD0, hG, hZ0⟩ := hv
  have hx := B.exec
  have hb := B.bytes
  have hr := B.returns
  have hts0 := atoms_spec (ws := wsA yX7_columnAt cX7_columnAt 2 (some (.object "LysimeterField$Column"))) B.pre
  have hts : ∀ w ∈ lw_all, w.before _ s = true := fun w h => hts0 w (List.mem_cons_of_mem _ h)
  have hown : s.vm.findClass RX7 = some m.cls := findClass_of_methodNamed B.named
  have hlocks := B.notSynchronized
  subst hsz
  have hD : va_D (fun _ => True) [(h, .inr (11, [.ref cs, f1, f2, f3, f4, f5, f6])), (cs, .inr (4, [.int md, ed, .int 0]))] := hD0
  have hZ : ZZ NoA s s.heap := hZ0
  have hS : va_S NoA s.heap s.heap [] := va_S.rf
  have hP : va_P D vwCl [(h, .inr (11, [.ref cs, f1, f2, f3, f4, f5, f6])), (cs, .inr (4, [.int md, ed, .int 0]))] s.heap := hP
  have hl := lv_entry ([.ref h, .int p0]) (n := 2) (Nat.le_of_ble_eq_true rfl)
  rw [lg_entry_eq]
  generalize (lg_sl ([.ref h, .int p0]) ++ List.replicate (2 - (lg_sl ([.ref h, .int p0])).length) Slot.unset).toArray = ls at hl ⊢
  have hl : lv_has ls 2 [(0, .ref h), (1, .int p0)] := hl
  refine lv_iload_n hx hb dX7_columnAt_0 rfl (lv_at hl 1 rfl) ?_
  refine lv_if_lt (tgt := 15) hx hb dX7_columnAt_1 (by decide) (fun c_1 => ?_) (fun c_1 => ?_)
  · obtain ⟨sa, hstr⟩ := hG.str t237 hown
    exact vx_throwSW (own := RX7) (cls := "java/lang/IndexOutOfBoundsException") (text := "no such column") (names := xnR) (ik := 110) (is := 305) (ic := 114) (sa := sa) hx hb hst hown (by decide +kernel) (by decide +kernel) (hts _ q192) (hts _ q26) hstr (al_use xa_X7_114 hts hG) xa_X7_114_g hZ.1 hZ.2 hS (by rw [hml]; exact hl.1) dX7_columnAt_15 dX7_columnAt_18 dX7_columnAt_19 dX7_columnAt_22 dX7_columnAt_25 (fun x hx => (hnt x hx).elim) (Nat.le_of_ble_eq_true rfl) (Nat.le_of_ble_eq_true rfl) (Nat.le_of_ble_eq_true rfl) (Nat.le_of_ble_eq_true rfl) hlocks (fun t _ hz hk => ⟨(), trivial, rfl, F_of hS hz hk⟩) (fun z hz => hS.2.2 z hz) (Nat.le_of_ble_eq_true rfl) (Nat.le_of_ble_eq_true rfl)
  · refine lv_iload_n hx hb dX7_columnAt_4 rfl (lv_at hl 1 rfl) ?_
    refine lv_aload_n hx hb dX7_columnAt_5 rfl (lv_at hl 0 rfl) ?_
    refine va_get (D := D) (ci := 11) (v := .ref cs) (C := RX7) (T := TX7) (N := 7) hx hb hts iwX7 hown hK hP 0 rfl rfl 0 (by decide) (hts _ q98) (fun _ h9 => h9) rfl dX7_columnAt_6 ?_
    have hPc := hP.sub (ws' := [(cs, .inr (4, [.int md, ed, .int 0]))]) [1] rfl
    have hDc := hD.sub (ws' := [(cs, .inr (4, [.int md, ed, .int 0]))]) [1] (by decide) rfl
    have hKc := hK.sub (tys' := []) [] rfl
    refine va_calli (va_runV (As := []) (rest := [.int p0]) ⟨hx, hb, hml, hown, hts⟩ (k_AL_size l D cs md (ed) 0 s.heap.size) (cwV 0 hts (gV q125 q126 q127 q4 (gA q128)) rfl rfl rfl (by decide +kernel) ⟨Nat.le_of_ble_eq_true rfl, Nat.le_of_ble_eq_true rfl⟩) ⟨EV.fb, va_recv hKc hPc (ci := 4) (q0 := 0) rfl rfl, fun U hU hW => ⟨rfl, EV.at hPc hKc hDc hG (hZ.no hS) U hU hW⟩⟩ rfl rfl hl.1 rfl (lv_room (Nat.le_of_ble_eq_true rfl)) dX7_columnAt_9 ⟨Nat.le_of_ble_eq_true rfl, Nat.le_of_ble_eq_true rfl⟩) hS (fun q _ h => h.elim) (fun q h => h.elim) (fun r_2 u t H1 locs ht hvm hw hB hz1 hk1 hS => ?_)
    have hP := P_kept hP hk1
    generalize H1 = H at hP hS ⊢
    have hP : va_P D vwCl [(h, .inr (11, [.ref cs, f1, f2, f3, f4, f5, f6])), (cs, .inr (4, [.int md, ed, .int 0]))] H := hP
    subst hw
    refine lv_icmp_lt (tgt := 26) hx hb dX7_columnAt_12 (by decide) (fun c_3 => ?_) (fun c_3 => ?_)
    · exact absurd c_3 c_1
    · obtain ⟨sa, hstr⟩ := hG.str t237 hown
      exact vx_throwSW (own := RX7) (cls := "java/lang/IndexOutOfBoundsException") (text := "no such column") (names := xnR) (ik := 110) (is := 305) (ic := 114) (sa := sa) hx hb hst hown (by decide +kernel) (by decide +kernel) (hts _ q192) (hts _ q26) hstr (al_use xa_X7_114 hts hG) xa_X7_114_g hZ.1 hZ.2 hS (by rw [hml]; exact hl.1) dX7_columnAt_15 dX7_columnAt_18 dX7_columnAt_19 dX7_columnAt_22 dX7_columnAt_25 (fun x hx => (hnt x hx).elim) (Nat.le_of_ble_eq_true rfl) (Nat.le_of_ble_eq_true rfl) (Nat.le_of_ble_eq_true rfl) (Nat.le_of_ble_eq_true rfl) hlocks (fun t _ hz hk => ⟨(), trivial, rfl, F_of hS hz hk⟩) (fun z hz => hS.2.2 z hz) (Nat.le_of_ble_eq_true rfl) (Nat.le_of_ble_eq_true rfl)
set_option maxHeartbeats 4000000 in
set_option maxRecDepth 100000 in
/-- layerAt on the fresh object: always IndexOutOfBoundsException -/
theorem k_LF_layerAt (l : Launch) (hst : l.stackTraces = false) (D : va_G) (h : Nat) (cs : Nat) (f1 f2 f3 f4 f5 f6 : Value) (md : Int32) (ed : Value) (p0 : Int32) (p1 : Int32) (sz : Nat) : vx_Met l yX7_layerAt (wsA yX7_layerAt cX7_layerAt 4 (some (.object "LysimeterField$Layer"))) ({ frames := 7, cells := 1, slots := 6, locals := 103 }) (va_Pc [.ref h, .int p0, .int p1] (EV D [] [(h, .inr (11, [.ref cs, f1, f2, f3, f4, f5, f6])), (cs, .inr (4, [.int md, ed, .int 0]))] sz)) QX (XX "java/lang/IndexOutOfBoundsException") 1 6 NoA := by
  refine vx_ofW (cc := cX7_layerAt) (maxL := 4) (ret := (some (.object "LysimeterField$Layer"))) (ws' := lw_all) (by decide) rfl ?_
  intro p e s m args below meth c s₁ B hml hnt hv
  obtain ⟨rfl, hsz, hP, hK, hD0, hG, hZ0⟩ := hv
  have hx := B.exec
  have hb := B.bytes
  have hr := B.returns
  have hts0 := atoms_spec (ws := wsA yX7_layerAt cX7_layerAt 4 (some (.object "LysimeterField$Layer"))) B.pre
  have hts : ∀ w ∈ lw_all, w.before _ s = true := fun w h => hts0 w (List.mem_cons_of_mem _ h)
  have hown : s.vm.findClass RX7 = some m.cls := findClass_of_methodNamed B.named
  have hlocks := B.notSynchronized
  subst hsz
  have hD : va_D (fun _ => True) [(h, .inr (11, [.ref cs, f1, f2, f3, f4, f5, f6])), (cs, .inr (4, [.int md, ed, .int 0]))] := hD0
  have hZ : ZZ NoA s s.heap := hZ0
  have hS : va_S NoA s.heap s.heap [] := va_S.rf
  have hP : va_P D vwCl [(h, .inr (11, [.ref cs, f1, f2, f3, f4, f5, f6])), (cs, .inr (4, [.int md, ed, .int 0]))] s.heap := hP
  have hl := lv_entry ([.ref h, .int p0, .int p1]) (n := 4) (Nat.le_of_ble_eq_true rfl)
  rw [lg_entry_eq]
  generalize (lg_sl ([.ref h, .int p0, .int p1]) ++ List.replicate (4 - (lg_sl ([.ref h, .int p0, .int p1])).length) Slot.unset).toArray = ls at hl ⊢
  have hl : lv_has ls 4 [(0, .ref h), (1, .int p0), (2, .int p1)] := hl
  refine lv_aload_n hx hb dX7_layerAt_0 rfl (lv_at hl 0 rfl) ?_
  refine lv_iload_n hx hb dX7_layerAt_1 rfl (lv_at hl 1 rfl) ?_
  have hPc := hP.sub (ws' := [(h, .inr (11, [.ref cs, f1, f2, f3, f4, f5, f6])), (cs, .inr (4, [.int md, ed, .int 0]))]) [0, 1] rfl
  have hDc := hD.sub (ws' := [(h, .inr (11, [.ref cs, f1, f2, f3, f4, f5, f6])), (cs, .inr (4, [.int md, ed, .int 0]))]) [0, 1] (by decide) rfl
  have hKc := hK.sub (tys' := []) [] rfl
  refine vx_calli (vx_runV (As := [.int p0]) (rest := []) ⟨hx, hb, hml, hown, hts⟩ (k_LF_columnAt l hst D h cs f1 f2 f3 f4 f5 f6 md (ed) p0 s.heap.size) (cwV 1 hts (gV q188 q190 qs1 q1 (gA q191)) rfl rfl rfl (by decide +kernel) ⟨Nat.le_of_ble_eq_true rfl, Nat.le_of_ble_eq_true rfl⟩) ⟨EV.fb, va_recv hKc hPc (ci := 11) (q0 := 0) rfl rfl, fun U hU hW => ⟨rfl, EV.at hPc hKc hDc hG (hZ.no hS) U hU hW⟩⟩ rfl rfl hl.1 rfl (lv_room (Nat.le_of_ble_eq_true rfl)) dX7_layerAt_2 ⟨Nat.le_of_ble_eq_true rfl, Nat.le_of_ble_eq_true rfl⟩) hS (fun q _ h => h.elim) (fun q h => h.elim) (fun q _ h => h.elim) (fun E ce q9 u t H1 locs1 ht hvm hpx hBX hz1 hk1 hS hcell hcv hcl => ?_) (fun r u t H1 locs1 ht hvm hw hB hz1 hk1 hS => hw.elim)
  have hP := P_kept hP hk1
  exact vx_out (fun x hx => (hnt x hx).elim) hlocks hcell hcv hcl (fun t ht _ => ⟨(), trivial, hBX, hS.F ht⟩) (fun z hz => hS.2.2 z hz) (Nat.le_of_ble_eq_true rfl) (Nat.le_of_ble_eq_true rfl)
set_option maxHeartbeats 4000000 in
set_option maxRecDepth 100000 in
/-- layer on the fresh object: always IndexOutOfBoundsException -/
theorem k_LF_layer (l : Launch) (hst : l.stackTraces = false) (D : va_G) (h : Nat) (cs : Nat) (f1 f2 f3 f4 f5 f6 : Value) (md : Int32) (ed : Value) (p0 : Int32) (p1 : Int32) (p2 : Int32) (sz : Nat) : vx_Met l yX7_layer (wsA yX7_layer cX7_layer 7 (some .int)) ({ frames := 7, cells := 1, slots := 6, locals := 103 }) (va_Pc [.ref h, .int p0, .int p1, .int p2] (EV D [] [(h, .inr (11, [.ref cs, f1, f2, f3, f4, f5, f6])), (cs, .inr (4, [.int md, ed, .int 0]))] sz)) QX (XX "java/lang/IndexOutOfBoundsException") 1 6 NoA := by
  refine vx_ofW (cc := cX7_layer) (maxL := 7) (ret := (some .int)) (ws' := lw_all) (by decide) rfl ?_
  intro p e s m args below meth c s₁ B hml hnt hv
  obtain ⟨rfl, hsz, hP, hK, hD0, hG, hZ0⟩ := hv
  have hx := B.exec
  have hb := B.bytes
  have hr := B.returns
  have hts0 := atoms_spec (ws := wsA yX7_layer cX7_layer 7 (some .int)) B.pre
  have hts : ∀ w ∈ lw_all, w.before _ s = true := fun w h => hts0 w (List.mem_cons_of_mem _ h)
  have hown : s.vm.findClass RX7 = some m.cls := findClass_of_methodNamed B.named
  have hlocks := B.notSynchronized
  subst hsz
  have hD : va_D (fun _ => True) [(h, .inr (11, [.ref cs, f1, f2, f3, f4, f5, f6])), (cs, .inr (4, [.int md, ed, .int 0]))] := hD0
  have hZ : ZZ NoA s s.heap := hZ0
  have hS : va_S NoA s.heap s.heap [] := va_S.rf
  have hP : va_P D vwCl [(h, .inr (11, [.ref cs, f1, f2, f3, f4, f5, f6])), (cs, .inr (4, [.int md, ed, .int 0]))] s.heap := hP
  have hl := lv_entry ([.ref h, .int p0, .int p1, .int p2]) (n := 7) (Nat.le_of_ble_eq_true rfl)
  rw [lg_entry_eq]
  generalize (lg_sl ([.ref h, .int p0, .int p1, .int p2]) ++ List.replicate (7 - (lg_sl ([.ref h, .int p0, .int p1, .int p2])).length) Slot.unset).toArray = ls at hl ⊢
  have hl : lv_has ls 7 [(0, .ref h), (1, .int p0), (2, .int p1), (3, .int p2)] := hl
  refine lv_aload_n hx hb dX7_layer_0 rfl (lv_at hl 0 rfl) ?_
  refine lv_iload_n hx hb dX7_layer_1 rfl (lv_at hl 1 rfl) ?_
  have hPc := hP.sub (ws' := [(h, .inr (11, [.ref cs, f1, f2, f3, f4, f5, f6])), (cs, .inr (4, [.int md, ed, .int 0]))]) [0, 1] rfl
  have hDc := hD.sub (ws' := [(h, .inr (11, [.ref cs, f1, f2, f3, f4, f5, f6])), (cs, .inr (4, [.int md, ed, .int 0]))]) [0, 1] (by decide) rfl
  have hKc := hK.sub (tys' := []) [] rfl
  refine vx_calli (vx_runV (As := [.int p0]) (rest := []) ⟨hx, hb, hml, hown, hts⟩ (k_LF_columnAt l hst D h cs f1 f2 f3 f4 f5 f6 md (ed) p0 s.heap.size) (cwV 1 hts (gV q188 q190 qs1 q1 (gA q191)) rfl rfl rfl (by decide +kernel) ⟨Nat.le_of_ble_eq_true rfl, Nat.le_of_ble_eq_true rfl⟩) ⟨EV.fb, va_recv hKc hPc (ci := 11) (q0 := 0) rfl rfl, fun U hU hW => ⟨rfl, EV.at hPc hKc hDc hG (hZ.no hS) U hU hW⟩⟩ rfl rfl hl.1 rfl (lv_room (Nat.le_of_ble_eq_true rfl)) dX7_layer_2 ⟨Nat.le_of_ble_eq_true rfl, Nat.le_of_ble_eq_true rfl⟩) hS (fun q _ h => h.elim) (fun q h => h.elim) (fun q _ h => h.elim) (fun E ce q9 u t H1 locs1 ht hvm hpx hBX hz1 hk1 hS hcell hcv hcl => ?_) (fun r u t H1 locs1 ht hvm hw hB hz1 hk1 hS => hw.elim)
  have hP := P_kept hP hk1
  exact vx_out (fun x hx => (hnt x hx).elim) hlocks hcell hcv hcl (fun t ht _ => ⟨(), trivial, hBX, hS.F ht⟩) (fun z hz => hS.2.2 z hz) (Nat.le_of_ble_eq_true rfl) (Nat.le_of_ble_eq_true rfl)
set_option maxHeartbeats 4000000 in
set_option maxRecDepth 100000 in
/-- wet on the fresh object: always IndexOutOfBoundsException -/
theorem k_LF_wet (l : Launch) (hst : l.stackTraces = false) (D : va_G) (h : Nat) (cs : Nat) (f1 f2 f3 f4 f5 f6 : Value) (md : Int32) (ed : Value) (p0 : Int32) (p1 : Int32) (p2 : Int32) (sz : Nat) : vx_Met l yX7_wet (wsA yX7_wet cX7_wet 6 (some .int)) ({ frames := 8, cells := 1, slots := 6, locals := 126 }) (va_Pc [.ref h, .int p0, .int p1, .int p2] (EV D [] [(h, .inr (11, [.ref cs, f1, f2, f3, f4, f5, f6])), (cs, .inr (4, [.int md, ed, .int 0]))] sz)) QX (XX "java/lang/IndexOutOfBoundsException") 1 6 NoA := by
  refine vx_ofW (cc := cX7_wet) (maxL := 6) (ret := (some .int)) (ws' := lw_all) (by decide) rfl ?_
  intro p e s m args below meth c s₁ B hml hnt hv
  obtain ⟨rfl, hsz, hP, hK, hD0, hG, hZ0⟩ := hv
  have hx := B.exec
  have hb := B.bytes
  have hr := B.returns
  have hts0 := atoms_spec (ws := wsA yX7_wet cX7_wet 6 (some .int)) B.pre
  have hts : ∀ w ∈ lw_all, w.before _ s = true := fun w h => hts0 w (List.mem_cons_of_mem _ h)
  have hown : s.vm.findClass RX7 = some m.cls := findClass_of_methodNamed B.named
  have hlocks := B.notSynchronized
  subst hsz
  have hD : va_D (fun _ => True) [(h, .inr (11, [.ref cs, f1, f2, f3, f4, f5, f6])), (cs, .inr (4, [.int md, ed, .int 0]))] := hD0
  have hZ : ZZ NoA s s.heap := hZ0
  have hS : va_S NoA s.heap s.heap [] := va_S.rf
  have hP : va_P D vwCl [(h, .inr (11, [.ref cs, f1, f2, f3, f4, f5, f6])), (cs, .inr (4, [.int md, ed, .int 0]))] s.heap := hP
  have hl := lv_entry ([.ref h, .int p0, .int p1, .int p2]) (n := 6) (Nat.le_of_ble_eq_true rfl)
  rw [lg_entry_eq]
  generalize (lg_sl ([.ref h, .int p0, .int p1, .int p2]) ++ List.replicate (6 - (lg_sl ([.ref h, .int p0, .int p1, .int p2])).length) Slot.unset).toArray = ls at hl ⊢
  have hl : lv_has ls 6 [(0, .ref h), (1, .int p0), (2, .int p1), (3, .int p2)] := hl
  refine lv_aload_n hx hb dX7_wet_0 rfl (lv_at hl 0 rfl) ?_
  refine lv_iload_n hx hb dX7_wet_1 rfl (lv_at hl 1 rfl) ?_
  refine lv_iload_n hx hb dX7_wet_2 rfl (lv_at hl 2 rfl) ?_
  have hPc := hP.sub (ws' := [(h, .inr (11, [.ref cs, f1, f2, f3, f4, f5, f6])), (cs, .inr (4, [.int md, ed, .int 0]))]) [0, 1] rfl
  have hDc := hD.sub (ws' := [(h, .inr (11, [.ref cs, f1, f2, f3, f4, f5, f6])), (cs, .inr (4, [.int md, ed, .int 0]))]) [0, 1] (by decide) rfl
  have hKc := hK.sub (tys' := []) [] rfl
  refine vx_calli (vx_runV (As := [.int p0, .int p1]) (rest := []) ⟨hx, hb, hml, hown, hts⟩ (k_LF_layerAt l hst D h cs f1 f2 f3 f4 f5 f6 md (ed) p0 p1 s.heap.size) (cwV 2 hts (gV q736 q738 qs22 q1 (gA q739)) rfl rfl rfl (by decide +kernel) ⟨Nat.le_of_ble_eq_true rfl, Nat.le_of_ble_eq_true rfl⟩) ⟨EV.fb, va_recv hKc hPc (ci := 11) (q0 := 0) rfl rfl, fun U hU hW => ⟨rfl, EV.at hPc hKc hDc hG (hZ.no hS) U hU hW⟩⟩ rfl rfl hl.1 rfl (lv_room (Nat.le_of_ble_eq_true rfl)) dX7_wet_3 ⟨Nat.le_of_ble_eq_true rfl, Nat.le_of_ble_eq_true rfl⟩) hS (fun q _ h => h.elim) (fun q h => h.elim) (fun q _ h => h.elim) (fun E ce q9 u t H1 locs1 ht hvm hpx hBX hz1 hk1 hS hcell hcv hcl => ?_) (fun r u t H1 locs1 ht hvm hw hB hz1 hk1 hS => hw.elim)
  have hP := P_kept hP hk1
  exact vx_out (fun x hx => (hnt x hx).elim) hlocks hcell hcv hcl (fun t ht _ => ⟨(), trivial, hBX, hS.F ht⟩) (fun z hz => hS.2.2 z hz) (Nat.le_of_ble_eq_true rfl) (Nat.le_of_ble_eq_true rfl)
set_option maxHeartbeats 4000000 in
set_option maxRecDepth 100000 in
/-- water on the fresh object: always IndexOutOfBoundsException -/
theorem k_LF_water (l : Launch) (hst : l.stackTraces = false) (D : va_G) (h : Nat) (cs : Nat) (f1 f2 f3 f4 f5 f6 : Value) (md : Int32) (ed : Value) (p0 : Int32) (p1 : Int32) (sz : Nat) : vx_Met l yX7_water (wsA yX7_water cX7_water 3 (some .int)) ({ frames := 8, cells := 1, slots := 6, locals := 126 }) (va_Pc [.ref h, .int p0, .int p1] (EV D [] [(h, .inr (11, [.ref cs, f1, f2, f3, f4, f5, f6])), (cs, .inr (4, [.int md, ed, .int 0]))] sz)) QX (XX "java/lang/IndexOutOfBoundsException") 1 6 NoA := by
  refine vx_ofW (cc := cX7_water) (maxL := 3) (ret := (some .int)) (ws' := lw_all) (by decide) rfl ?_
  intro p e s m args below meth c s₁ B hml hnt hv
  obtain ⟨rfl, hsz, hP, hK, hD0, hG, hZ0⟩ := hv
  have hx := B.exec
  have hb := B.bytes
  have hr := B.returns
  have hts0 := atoms_spec (ws := wsA yX7_water cX7_water 3 (some .int)) B.pre
  have hts : ∀ w ∈ lw_all, w.before _ s = true := fun w h => hts0 w (List.mem_cons_of_mem _ h)
  have hown : s.vm.findClass RX7 = some m.cls := findClass_of_methodNamed B.named
  have hlocks := B.notSynchronized
  subst hsz
  have hD : va_D (fun _ => True) [(h, .inr (11, [.ref cs, f1, f2, f3, f4, f5, f6])), (cs, .inr (4, [.int md, ed, .int 0]))] := hD0
  have hZ : ZZ NoA s s.heap := hZ0
  have hS : va_S NoA s.heap s.heap [] := va_S.rf
  have hP : va_P D vwCl [(h, .inr (11, [.ref cs, f1, f2, f3, f4, f5, f6])), (cs, .inr (4, [.int md, ed, .int 0]))] s.heap := hP
  have hl := lv_entry ([.ref h, .int p0, .int p1]) (n := 3) (Nat.le_of_ble_eq_true rfl)
  rw [lg_entry_eq]
  generalize (lg_sl ([.ref h, .int p0, .int p1]) ++ List.replicate (3 - (lg_sl ([.ref h, .int p0, .int p1])).length) Slot.unset).toArray = ls at hl ⊢
  have hl : lv_has ls 3 [(0, .ref h), (1, .int p0), (2, .int p1)] := hl
  refine lv_aload_n hx hb dX7_water_0 rfl (lv_at hl 0 rfl) ?_
  refine lv_iload_n hx hb dX7_water_1 rfl (lv_at hl 1 rfl) ?_
  refine lv_iload_n hx hb dX7_water_2 rfl (lv_at hl 2 rfl) ?_
  have hPc := hP.sub (ws' := [(h, .inr (11, [.ref cs, f1, f2, f3, f4, f5, f6])), (cs, .inr (4, [.int md, ed, .int 0]))]) [0, 1] rfl
  have hDc := hD.sub (ws' := [(h, .inr (11, [.ref cs, f1, f2, f3, f4, f5, f6])), (cs, .inr (4, [.int md, ed, .int 0]))]) [0, 1] (by decide) rfl
  have hKc := hK.sub (tys' := []) [] rfl
  refine vx_calli (vx_runV (As := [.int p0, .int p1]) (rest := []) ⟨hx, hb, hml, hown, hts⟩ (k_LF_layerAt l hst D h cs f1 f2 f3 f4 f5 f6 md (ed) p0 p1 s.heap.size) (cwV 2 hts (gV q736 q738 qs22 q1 (gA q739)) rfl rfl rfl (by decide +kernel) ⟨Nat.le_of_ble_eq_true rfl, Nat.le_of_ble_eq_true rfl⟩) ⟨EV.fb, va_recv hKc hPc (ci := 11) (q0 := 0) rfl rfl, fun U hU hW => ⟨rfl, EV.at hPc hKc hDc hG (hZ.no hS) U hU hW⟩⟩ rfl rfl hl.1 rfl (lv_room (Nat.le_of_ble_eq_true rfl)) dX7_water_3 ⟨Nat.le_of_ble_eq_true rfl, Nat.le_of_ble_eq_true rfl⟩) hS (fun q _ h => h.elim) (fun q h => h.elim) (fun q _ h => h.elim) (fun E ce q9 u t H1 locs1 ht hvm hpx hBX hz1 hk1 hS hcell hcv hcl => ?_) (fun r u t H1 locs1 ht hvm hw hB hz1 hk1 hS => hw.elim)
  have hP := P_kept hP hk1
  exact vx_out (fun x hx => (hnt x hx).elim) hlocks hcell hcv hcl (fun t ht _ => ⟨(), trivial, hBX, hS.F ht⟩) (fun z hz => hS.2.2 z hz) (Nat.le_of_ble_eq_true rfl) (Nat.le_of_ble_eq_true rfl)
set_option maxHeartbeats 4000000 in
set_option maxRecDepth 100000 in
/-- capacity on the fresh object: always IndexOutOfBoundsException -/
theorem k_LF_capacity (l : Launch) (hst : l.stackTraces = false) (D : va_G) (h : Nat) (cs : Nat) (f1 f2 f3 f4 f5 f6 : Value) (md : Int32) (ed : Value) (p0 : Int32) (p1 : Int32) (sz : Nat) : vx_Met l yX7_capacity (wsA yX7_capacity cX7_capacity 3 (some .int)) ({ frames := 8, cells := 1, slots := 6, locals := 126 }) (va_Pc [.ref h, .int p0, .int p1] (EV D [] [(h, .inr (11, [.ref cs, f1, f2, f3, f4, f5, f6])), (cs, .inr (4, [.int md, ed, .int 0]))] sz)) QX (XX "java/lang/IndexOutOfBoundsException") 1 6 NoA := by
  refine vx_ofW (cc := cX7_capacity) (maxL := 3) (ret := (some .int)) (ws' := lw_all) (by decide) rfl ?_
  intro p e s m args below meth c s₁ B hml hnt hv
  obtain ⟨rfl, hsz, hP, hK, hD0, hG, hZ0⟩ := hv
  have hx := B.exec
  have hb := B.bytes
  have hr := B.returns
  have hts0 := atoms_spec (ws := wsA yX7_capacity cX7_capacity 3 (some .int)) B.pre
  have hts : ∀ w ∈ lw_all, w.before _ s = true := fun w h => hts0 w (List.mem_cons_of_mem _ h)
  have hown : s.vm.findClass RX7 = some m.cls := findClass_of_methodNamed B.named
  have hlocks := B.notSynchronized
  subst hsz
  have hD : va_D (fun _ => True) [(h, .inr (11, [.ref cs, f1, f2, f3, f4, f5, f6])), (cs, .inr (4, [.int md, ed, .int 0]))] := hD0
  have hZ : ZZ NoA s s.heap := hZ0
  have hS : va_S NoA s.heap s.heap [] := va_S.rf
  have hP : va_P D vwCl [(h, .inr (11, [.ref cs, f1, f2, f3, f4, f5, f6])), (cs, .inr (4, [.int md, ed, .int 0]))] s.heap := hP
  have hl := lv_entry ([.ref h, .int p0, .int p1]) (n := 3) (Nat.le_of_ble_eq_true rfl)
  rw [lg_entry_eq]
  generalize (lg_sl ([.ref h, .int p0, .int p1]) ++ List.replicate (3 - (lg_sl ([.ref h, .int p0, .int p1])).length) Slot.unset).toArray = ls at hl ⊢
  have hl : lv_has ls 3 [(0, .ref h), (1, .int p0), (2, .int p1)] := hl
  refine lv_aload_n hx hb dX7_capacity_0 rfl (lv_at hl 0 rfl) ?_
  refine lv_iload_n hx hb dX7_capacity_1 rfl (lv_at hl 1 rfl) ?_
  refine lv_iload_n hx hb dX7_capacity_2 rfl (lv_at hl 2 rfl) ?_
  have hPc := hP.sub (ws' := [(h, .inr (11, [.ref cs, f1, f2, f3, f4, f5, f6])), (cs, .inr (4, [.int md, ed, .int 0]))]) [0, 1] rfl
  have hDc := hD.sub (ws' := [(h, .inr (11, [.ref cs, f1, f2, f3, f4, f5, f6])), (cs, .inr (4, [.int md, ed, .int 0]))]) [0, 1] (by decide) rfl
  have hKc := hK.sub (tys' := []) [] rfl
  refine vx_calli (vx_runV (As := [.int p0, .int p1]) (rest := []) ⟨hx, hb, hml, hown, hts⟩ (k_LF_layerAt l hst D h cs f1 f2 f3 f4 f5 f6 md (ed) p0 p1 s.heap.size) (cwV 2 hts (gV q736 q738 qs22 q1 (gA q739)) rfl rfl rfl (by decide +kernel) ⟨Nat.le_of_ble_eq_true rfl, Nat.le_of_ble_eq_true rfl⟩) ⟨EV.fb, va_recv hKc hPc (ci := 11) (q0 := 0) rfl rfl, fun U hU hW => ⟨rfl, EV.at hPc hKc hDc hG (hZ.no hS) U hU hW⟩⟩ rfl rfl hl.1 rfl (lv_room (Nat.le_of_ble_eq_true rfl)) dX7_capacity_3 ⟨Nat.le_of_ble_eq_true rfl, Nat.le_of_ble_eq_true rfl⟩) hS (fun q _ h => h.elim) (fun q h => h.elim) (fun q _ h => h.elim) (fun E ce q9 u t H1 locs1 ht hvm hpx hBX hz1 hk1 hS hcell hcv hcl => ?_) (fun r u t H1 locs1 ht hvm hw hB hz1 hk1 hS => hw.elim)
  have hP := P_kept hP hk1
  exact vx_out (fun x hx => (hnt x hx).elim) hlocks hcell hcv hcl (fun t ht _ => ⟨(), trivial, hBX, hS.F ht⟩) (fun z hz => hS.2.2 z hz) (Nat.le_of_ble_eq_true rfl) (Nat.le_of_ble_eq_true rfl)
set_option maxHeartbeats 4000000 in
set_option maxRecDepth 100000 in
/-- link on the fresh object: always IndexOutOfBoundsException -/
theorem k_LF_link (l : Launch) (hst : l.stackTraces = false) (D : va_G) (h : Nat) (cs : Nat) (f1 f2 f3 f4 f5 f6 : Value) (md : Int32) (ed : Value) (p0 : Int32) (p1 : Int32) (sz : Nat) : vx_Met l yX7_link (wsA yX7_link cX7_link 5 (some .int)) ({ frames := 7, cells := 1, slots := 6, locals := 103 }) (va_Pc [.ref h, .int p0, .int p1] (EV D [] [(h, .inr (11, [.ref cs, f1, f2, f3, f4, f5, f6])), (cs, .inr (4, [.int md, ed, .int 0]))] sz)) QX (XX "java/lang/IndexOutOfBoundsException") 1 6 NoA := by
  refine vx_ofW (cc := cX7_link) (maxL := 5) (ret := (some .int)) (ws' := lw_all) (by decide) rfl ?_
  intro p e s m args below meth c s₁ B hml hnt hv
  obtain ⟨rfl, hsz, hP, hK, hD0, hG, hZ0⟩ := hv
  have hx := B.exec
  have hb := B.bytes
  have hr := B.returns
  have hts0 := atoms_spec (ws := wsA yX7_link cX7_link 5 (some .int)) B.pre
  have hts : ∀ w ∈ lw_all, w.before _ s = true := fun w h => hts0 w (List.mem_cons_of_mem _ h)
  have hown : s.vm.findClass RX7 = some m.cls := findClass_of_methodNamed B.named
  have hlocks := B.notSynchronized
  subst hsz
  have hD : va_D (fun _ => True) [(h, .inr (11, [.ref cs, f1, f2, f3, f4, f5, f6])), (cs, .inr (4, [.int md, ed, .int 0]))] := hD0
  have hZ : ZZ NoA s s.heap := hZ0
  have hS : va_S NoA s.heap s.heap [] := va_S.rf
  have hP : va_P D vwCl [(h, .inr (11, [.ref cs, f1, f2, f3, f4, f5, f6])), (cs, .inr (4, [.int md, ed, .int 0]))] s.heap := hP
  have hl := lv_entry ([.ref h, .int p0, .int p1]) (n := 5) (Nat.le_of_ble_eq_true rfl)
  rw [lg_entry_eq]
  generalize (lg_sl ([.ref h, .int p0, .int p1]) ++ List.replicate (5 - (lg_sl ([.ref h, .int p0, .int p1])).length) Slot.unset).toArray = ls at hl ⊢
  have hl : lv_has ls 5 [(0, .ref h), (1, .int p0), (2, .int p1)] := hl
  refine lv_aload_n hx hb dX7_link_0 rfl (lv_at hl 0 rfl) ?_
  refine lv_iload_n hx hb dX7_link_1 rfl (lv_at hl 1 rfl) ?_
  have hPc := hP.sub (ws' := [(h, .inr (11, [.ref cs, f1, f2, f3, f4, f5, f6])), (cs, .inr (4, [.int md, ed, .int 0]))]) [0, 1] rfl
  have hDc := hD.sub (ws' := [(h, .inr (11, [.ref cs, f1, f2, f3, f4, f5, f6])), (cs, .inr (4, [.int md, ed, .int 0]))]) [0, 1] (by decide) rfl
  have hKc := hK.sub (tys' := []) [] rfl
  refine vx_calli (vx_runV (As := [.int p0]) (rest := []) ⟨hx, hb, hml, hown, hts⟩ (k_LF_columnAt l hst D h cs f1 f2 f3 f4 f5 f6 md (ed) p0 s.heap.size) (cwV 1 hts (gV q188 q190 qs1 q1 (gA q191)) rfl rfl rfl (by decide +kernel) ⟨Nat.le_of_ble_eq_true rfl, Nat.le_of_ble_eq_true rfl⟩) ⟨EV.fb, va_recv hKc hPc (ci := 11) (q0 := 0) rfl rfl, fun U hU hW => ⟨rfl, EV.at hPc hKc hDc hG (hZ.no hS) U hU hW⟩⟩ rfl rfl hl.1 rfl (lv_room (Nat.le_of_ble_eq_true rfl)) dX7_link_2 ⟨Nat.le_of_ble_eq_true rfl, Nat.le_of_ble_eq_true rfl⟩) hS (fun q _ h => h.elim) (fun q h => h.elim) (fun q _ h => h.elim) (fun E ce q9 u t H1 locs1 ht hvm hpx hBX hz1 hk1 hS hcell hcv hcl => ?_) (fun r u t H1 locs1 ht hvm hw hB hz1 hk1 hS => hw.elim)
  have hP := P_kept hP hk1
  exact vx_out (fun x hx => (hnt x hx).elim) hlocks hcell hcv hcl (fun t ht _ => ⟨(), trivial, hBX, hS.F ht⟩) (fun z hz => hS.2.2 z hz) (Nat.le_of_ble_eq_true rfl) (Nat.le_of_ble_eq_true rfl)
set_option maxHeartbeats 4000000 in
set_option maxRecDepth 100000 in
/-- scale on the fresh object: always IndexOutOfBoundsException -/
theorem k_LF_scale (l : Launch) (hst : l.stackTraces = false) (D : va_G) (h : Nat) (cs : Nat) (f1 f2 f3 f4 f5 f6 : Value) (md : Int32) (ed : Value) (p0 : Int32) (p1 : Int32) (sz : Nat) : vx_Met l yX7_scale (wsA yX7_scale cX7_scale 5 (some .int)) ({ frames := 7, cells := 1, slots := 6, locals := 103 }) (va_Pc [.ref h, .int p0, .int p1] (EV D [] [(h, .inr (11, [.ref cs, f1, f2, f3, f4, f5, f6])), (cs, .inr (4, [.int md, ed, .int 0]))] sz)) QX (XX "java/lang/IndexOutOfBoundsException") 1 6 NoA := by
  refine vx_ofW (cc := cX7_scale) (maxL := 5) (ret := (some .int)) (ws' := lw_all) (by decide) rfl ?_
  intro p e s m args below meth c s₁ B hml hnt hv
  obtain ⟨rfl, hsz, hP, hK, hD0, hG, hZ0⟩ := hv
  have hx := B.exec
  have hb := B.bytes
  have hr := B.returns
  have hts0 := atoms_spec (ws := wsA yX7_scale cX7_scale 5 (some .int)) B.pre
  have hts : ∀ w ∈ lw_all, w.before _ s = true := fun w h => hts0 w (List.mem_cons_of_mem _ h)
  have hown : s.vm.findClass RX7 = some m.cls := findClass_of_methodNamed B.named
  have hlocks := B.notSynchronized
  subst hsz
  have hD : va_D (fun _ => True) [(h, .inr (11, [.ref cs, f1, f2, f3, f4, f5, f6])), (cs, .inr (4, [.int md, ed, .int 0]))] := hD0
  have hZ : ZZ NoA s s.heap := hZ0
  have hS : va_S NoA s.heap s.heap [] := va_S.rf
  have hP : va_P D vwCl [(h, .inr (11, [.ref cs, f1, f2, f3, f4, f5, f6])), (cs, .inr (4, [.int md, ed, .int 0]))] s.heap := hP
  have hl := lv_entry ([.ref h, .int p0, .int p1]) (n := 5) (Nat.le_of_ble_eq_true rfl)
  rw [lg_entry_eq]
  generalize (lg_sl ([.ref h, .int p0, .int p1]) ++ List.replicate (5 - (lg_sl ([.ref h, .int p0, .int p1])).length) Slot.unset).toArray = ls at hl ⊢
  have hl : lv_has ls 5 [(0, .ref h), (1, .int p0), (2, .int p1)] := hl
  refine lv_aload_n hx hb dX7_scale_0 rfl (lv_at hl 0 rfl) ?_
  refine lv_iload_n hx hb dX7_scale_1 rfl (lv_at hl 1 rfl) ?_
  have hPc := hP.sub (ws' := [(h, .inr (11, [.ref cs, f1, f2, f3, f4, f5, f6])), (cs, .inr (4, [.int md, ed, .int 0]))]) [0, 1] rfl
  have hDc := hD.sub (ws' := [(h, .inr (11, [.ref cs, f1, f2, f3, f4, f5, f6])), (cs, .inr (4, [.int md, ed, .int 0]))]) [0, 1] (by decide) rfl
  have hKc := hK.sub (tys' := []) [] rfl
  refine vx_calli (vx_runV (As := [.int p0]) (rest := []) ⟨hx, hb, hml, hown, hts⟩ (k_LF_columnAt l hst D h cs f1 f2 f3 f4 f5 f6 md (ed) p0 s.heap.size) (cwV 1 hts (gV q188 q190 qs1 q1 (gA q191)) rfl rfl rfl (by decide +kernel) ⟨Nat.le_of_ble_eq_true rfl, Nat.le_of_ble_eq_true rfl⟩) ⟨EV.fb, va_recv hKc hPc (ci := 11) (q0 := 0) rfl rfl, fun U hU hW => ⟨rfl, EV.at hPc hKc hDc hG (hZ.no hS) U hU hW⟩⟩ rfl rfl hl.1 rfl (lv_room (Nat.le_of_ble_eq_true rfl)) dX7_scale_2 ⟨Nat.le_of_ble_eq_true rfl, Nat.le_of_ble_eq_true rfl⟩) hS (fun q _ h => h.elim) (fun q h => h.elim) (fun q _ h => h.elim) (fun E ce q9 u t H1 locs1 ht hvm hpx hBX hz1 hk1 hS hcell hcv hcl => ?_) (fun r u t H1 locs1 ht hvm hw hB hz1 hk1 hS => hw.elim)
  have hP := P_kept hP hk1
  exact vx_out (fun x hx => (hnt x hx).elim) hlocks hcell hcv hcl (fun t ht _ => ⟨(), trivial, hBX, hS.F ht⟩) (fun z hz => hS.2.2 z hz) (Nat.le_of_ble_eq_true rfl) (Nat.le_of_ble_eq_true rfl)
set_option maxHeartbeats 4000000 in
set_option maxRecDepth 100000 in
/-- plant on the fresh object: always IndexOutOfBoundsException -/
theorem k_LF_plant (l : Launch) (hst : l.stackTraces = false) (D : va_G) (h : Nat) (cs : Nat) (f1 f2 f3 f4 f5 f6 : Value) (md : Int32) (ed : Value) (p0 : Int32) (p1 : Int32) (p2 : Int32) (sz : Nat) : vx_Met l yX7_plant (wsA yX7_plant cX7_plant 5 (some .int)) ({ frames := 7, cells := 1, slots := 6, locals := 103 }) (va_Pc [.ref h, .int p0, .int p1, .int p2] (EV D [] [(h, .inr (11, [.ref cs, f1, f2, f3, f4, f5, f6])), (cs, .inr (4, [.int md, ed, .int 0]))] sz)) QX (XX "java/lang/IndexOutOfBoundsException") 1 6 NoA := by
  refine vx_ofW (cc := cX7_plant) (maxL := 5) (ret := (some .int)) (ws' := lw_all) (by decide) rfl ?_
  intro p e s m args below meth c s₁ B hml hnt hv
  obtain ⟨rfl, hsz, hP, hK, hD0, hG, hZ0⟩ := hv
  have hx := B.exec
  have hb := B.bytes
  have hr := B.returns
  have hts0 := atoms_spec (ws := wsA yX7_plant cX7_plant 5 (some .int)) B.pre
  have hts : ∀ w ∈ lw_all, w.before _ s = true := fun w h => hts0 w (List.mem_cons_of_mem _ h)
  have hown : s.vm.findClass RX7 = some m.cls := findClass_of_methodNamed B.named
  have hlocks := B.notSynchronized
  subst hsz
  have hD : va_D (fun _ => True) [(h, .inr (11, [.ref cs, f1, f2, f3, f4, f5, f6])), (cs, .inr (4, [.int md, ed, .int 0]))] := hD0
  have hZ : ZZ NoA s s.heap := hZ0
  have hS : va_S NoA s.heap s.heap [] := va_S.rf
  have hP : va_P D vwCl [(h, .inr (11, [.ref cs, f1, f2, f3, f4, f5, f6])), (cs, .inr (4, [.int md, ed, .int 0]))] s.heap := hP
  have hl := lv_entry ([.ref h, .int p0, .int p1, .int p2]) (n := 5) (Nat.le_of_ble_eq_true rfl)
  rw [lg_entry_eq]
  generalize (lg_sl ([.ref h, .int p0, .int p1, .int p2]) ++ List.replicate (5 - (lg_sl ([.ref h, .int p0, .int p1, .int p2])).length) Slot.unset).toArray = ls at hl ⊢
  have hl : lv_has ls 5 [(0, .ref h), (1, .int p0), (2, .int p1), (3, .int p2)] := hl
  refine lv_aload_n hx hb dX7_plant_0 rfl (lv_at hl 0 rfl) ?_
  refine lv_iload_n hx hb dX7_plant_1 rfl (lv_at hl 1 rfl) ?_
  have hPc := hP.sub (ws' := [(h, .inr (11, [.ref cs, f1, f2, f3, f4, f5, f6])), (cs, .inr (4, [.int md, ed, .int 0]))]) [0, 1] rfl
  have hDc := hD.sub (ws' := [(h, .inr (11, [.ref cs, f1, f2, f3, f4, f5, f6])), (cs, .inr (4, [.int md, ed, .int 0]))]) [0, 1] (by decide) rfl
  have hKc := hK.sub (tys' := []) [] rfl
  refine vx_calli (vx_runV (As := [.int p0]) (rest := []) ⟨hx, hb, hml, hown, hts⟩ (k_LF_columnAt l hst D h cs f1 f2 f3 f4 f5 f6 md (ed) p0 s.heap.size) (cwV 1 hts (gV q188 q190 qs1 q1 (gA q191)) rfl rfl rfl (by decide +kernel) ⟨Nat.le_of_ble_eq_true rfl, Nat.le_of_ble_eq_true rfl⟩) ⟨EV.fb, va_recv hKc hPc (ci := 11) (q0 := 0) rfl rfl, fun U hU hW => ⟨rfl, EV.at hPc hKc hDc hG (hZ.no hS) U hU hW⟩⟩ rfl rfl hl.1 rfl (lv_room (Nat.le_of_ble_eq_true rfl)) dX7_plant_2 ⟨Nat.le_of_ble_eq_true rfl, Nat.le_of_ble_eq_true rfl⟩) hS (fun q _ h => h.elim) (fun q h => h.elim) (fun q _ h => h.elim) (fun E ce q9 u t H1 locs1 ht hvm hpx hBX hz1 hk1 hS hcell hcv hcl => ?_) (fun r u t H1 locs1 ht hvm hw hB hz1 hk1 hS => hw.elim)
  have hP := P_kept hP hk1
  exact vx_out (fun x hx => (hnt x hx).elim) hlocks hcell hcv hcl (fun t ht _ => ⟨(), trivial, hBX, hS.F ht⟩) (fun z hz => hS.2.2 z hz) (Nat.le_of_ble_eq_true rfl) (Nat.le_of_ble_eq_true rfl)
set_option maxHeartbeats 4000000 in
set_option maxRecDepth 100000 in
/-- harvest on the fresh object: always IndexOutOfBoundsException -/
theorem k_LF_harvest (l : Launch) (hst : l.stackTraces = false) (D : va_G) (h : Nat) (cs : Nat) (f1 f2 f3 f4 f5 f6 : Value) (md : Int32) (ed : Value) (p0 : Int32) (sz : Nat) : vx_Met l yX7_harvest (wsA yX7_harvest cX7_harvest 4 (some .int)) ({ frames := 7, cells := 1, slots := 6, locals := 103 }) (va_Pc [.ref h, .int p0] (EV D [] [(h, .inr (11, [.ref cs, f1, f2, f3, f4, f5, f6])), (cs, .inr (4, [.int md, ed, .int 0]))] sz)) QX (XX "java/lang/IndexOutOfBoundsException") 1 6 NoA := by
  refine vx_ofW (cc := cX7_harvest) (maxL := 4) (ret := (some .int)) (ws' := lw_all) (by decide) rfl ?_
  intro p e s m args below meth c s₁ B hml hnt hv
  obtain ⟨rfl, hsz, hP, hK, hD0, hG, hZ0⟩ := hv
  have hx := B.exec
  have hb := B.bytes
  have hr := B.returns
  have hts0 := atoms_spec (ws := wsA yX7_harvest cX7_harvest 4 (some .int)) B.pre
  have hts : ∀ w ∈ lw_all, w.before _ s = true := fun w h => hts0 w (List.mem_cons_of_mem _ h)
  have hown : s.vm.findClass RX7 = some m.cls := findClass_of_methodNamed B.named
  have hlocks := B.notSynchronized
  subst hsz
  have hD : va_D (fun _ => True) [(h, .inr (11, [.ref cs, f1, f2, f3, f4, f5, f6])), (cs, .inr (4, [.int md, ed, .int 0]))] := hD0
  have hZ : ZZ NoA s s.heap := hZ0
  have hS : va_S NoA s.heap s.heap [] := va_S.rf
  have hP : va_P D vwCl [(h, .inr (11, [.ref cs, f1, f2, f3, f4, f5, f6])), (cs, .inr (4, [.int md, ed, .int 0]))] s.heap := hP
  have hl := lv_entry ([.ref h, .int p0]) (n := 4) (Nat.le_of_ble_eq_true rfl)
  rw [lg_entry_eq]
  generalize (lg_sl ([.ref h, .int p0]) ++ List.replicate (4 - (lg_sl ([.ref h, .int p0])).length) Slot.unset).toArray = ls at hl ⊢
  have hl : lv_has ls 4 [(0, .ref h), (1, .int p0)] := hl
  refine lv_aload_n hx hb dX7_harvest_0 rfl (lv_at hl 0 rfl) ?_
  refine lv_iload_n hx hb dX7_harvest_1 rfl (lv_at hl 1 rfl) ?_
  have hPc := hP.sub (ws' := [(h, .inr (11, [.ref cs, f1, f2, f3, f4, f5, f6])), (cs, .inr (4, [.int md, ed, .int 0]))]) [0, 1] rfl
  have hDc := hD.sub (ws' := [(h, .inr (11, [.ref cs, f1, f2, f3, f4, f5, f6])), (cs, .inr (4, [.int md, ed, .int 0]))]) [0, 1] (by decide) rfl
  have hKc := hK.sub (tys' := []) [] rfl
  refine vx_calli (vx_runV (As := [.int p0]) (rest := []) ⟨hx, hb, hml, hown, hts⟩ (k_LF_columnAt l hst D h cs f1 f2 f3 f4 f5 f6 md (ed) p0 s.heap.size) (cwV 1 hts (gV q188 q190 qs1 q1 (gA q191)) rfl rfl rfl (by decide +kernel) ⟨Nat.le_of_ble_eq_true rfl, Nat.le_of_ble_eq_true rfl⟩) ⟨EV.fb, va_recv hKc hPc (ci := 11) (q0 := 0) rfl rfl, fun U hU hW => ⟨rfl, EV.at hPc hKc hDc hG (hZ.no hS) U hU hW⟩⟩ rfl rfl hl.1 rfl (lv_room (Nat.le_of_ble_eq_true rfl)) dX7_harvest_2 ⟨Nat.le_of_ble_eq_true rfl, Nat.le_of_ble_eq_true rfl⟩) hS (fun q _ h => h.elim) (fun q h => h.elim) (fun q _ h => h.elim) (fun E ce q9 u t H1 locs1 ht hvm hpx hBX hz1 hk1 hS hcell hcv hcl => ?_) (fun r u t H1 locs1 ht hvm hw hB hz1 hk1 hS => hw.elim)
  have hP := P_kept hP hk1
  exact vx_out (fun x hx => (hnt x hx).elim) hlocks hcell hcv hcl (fun t ht _ => ⟨(), trivial, hBX, hS.F ht⟩) (fun z hz => hS.2.2 z hz) (Nat.le_of_ble_eq_true rfl) (Nat.le_of_ble_eq_true rfl)
set_option maxHeartbeats 4000000 in
set_option maxRecDepth 100000 in
/-- stress on the fresh object: always IndexOutOfBoundsException -/
theorem k_LF_stress (l : Launch) (hst : l.stackTraces = false) (D : va_G) (h : Nat) (cs : Nat) (f1 f2 f3 f4 f5 f6 : Value) (md : Int32) (ed : Value) (p0 : Int32) (p1 : Int32) (sz : Nat) : vx_Met l yX7_stress (wsA yX7_stress cX7_stress 4 (some .int)) ({ frames := 7, cells := 1, slots := 6, locals := 103 }) (va_Pc [.ref h, .int p0, .int p1] (EV D [] [(h, .inr (11, [.ref cs, f1, f2, f3, f4, f5, f6])), (cs, .inr (4, [.int md, ed, .int 0]))] sz)) QX (XX "java/lang/IndexOutOfBoundsException") 1 6 NoA := by
  refine vx_ofW (cc := cX7_stress) (maxL := 4) (ret := (some .int)) (ws' := lw_all) (by decide) rfl ?_
  intro p e s m args below meth c s₁ B hml hnt hv
  obtain ⟨rfl, hsz, hP, hK, hD0, hG, hZ0⟩ := hv
  have hx := B.exec
  have hb := B.bytes
  have hr := B.returns
  have hts0 := atoms_spec (ws := wsA yX7_stress cX7_stress 4 (some .int)) B.pre
  have hts : ∀ w ∈ lw_all, w.before _ s = true := fun w h => hts0 w (List.mem_cons_of_mem _ h)
  have hown : s.vm.findClass RX7 = some m.cls := findClass_of_methodNamed B.named
  have hlocks := B.notSynchronized
  subst hsz
  have hD : va_D (fun _ => True) [(h, .inr (11, [.ref cs, f1, f2, f3, f4, f5, f6])), (cs, .inr (4, [.int md, ed, .int 0]))] := hD0
  have hZ : ZZ NoA s s.heap := hZ0
  have hS : va_S NoA s.heap s.heap [] := va_S.rf
  have hP : va_P D vwCl [(h, .inr (11, [.ref cs, f1, f2, f3, f4, f5, f6])), (cs, .inr (4, [.int md, ed, .int 0]))] s.heap := hP
  have hl := lv_entry ([.ref h, .int p0, .int p1]) (n := 4) (Nat.le_of_ble_eq_true rfl)
  rw [lg_entry_eq]
  generalize (lg_sl ([.ref h, .int p0, .int p1]) ++ List.replicate (4 - (lg_sl ([.ref h, .int p0, .int p1])).length) Slot.unset).toArray = ls at hl ⊢
  have hl : lv_has ls 4 [(0, .ref h), (1, .int p0), (2, .int p1)] := hl
  refine lv_aload_n hx hb dX7_stress_0 rfl (lv_at hl 0 rfl) ?_
  refine lv_iload_n hx hb dX7_stress_1 rfl (lv_at hl 1 rfl) ?_
  have hPc := hP.sub (ws' := [(h, .inr (11, [.ref cs, f1, f2, f3, f4, f5, f6])), (cs, .inr (4, [.int md, ed, .int 0]))]) [0, 1] rfl
  have hDc := hD.sub (ws' := [(h, .inr (11, [.ref cs, f1, f2, f3, f4, f5, f6])), (cs, .inr (4, [.int md, ed, .int 0]))]) [0, 1] (by decide) rfl
  have hKc := hK.sub (tys' := []) [] rfl
  refine vx_calli (vx_runV (As := [.int p0]) (rest := []) ⟨hx, hb, hml, hown, hts⟩ (k_LF_columnAt l hst D h cs f1 f2 f3 f4 f5 f6 md (ed) p0 s.heap.size) (cwV 1 hts (gV q188 q190 qs1 q1 (gA q191)) rfl rfl rfl (by decide +kernel) ⟨Nat.le_of_ble_eq_true rfl, Nat.le_of_ble_eq_true rfl⟩) ⟨EV.fb, va_recv hKc hPc (ci := 11) (q0 := 0) rfl rfl, fun U hU hW => ⟨rfl, EV.at hPc hKc hDc hG (hZ.no hS) U hU hW⟩⟩ rfl rfl hl.1 rfl (lv_room (Nat.le_of_ble_eq_true rfl)) dX7_stress_2 ⟨Nat.le_of_ble_eq_true rfl, Nat.le_of_ble_eq_true rfl⟩) hS (fun q _ h => h.elim) (fun q h => h.elim) (fun q _ h => h.elim) (fun E ce q9 u t H1 locs1 ht hvm hpx hBX hz1 hk1 hS hcell hcv hcl => ?_) (fun r u t H1 locs1 ht hvm hw hB hz1 hk1 hS => hw.elim)
  have hP := P_kept hP hk1
  exact vx_out (fun x hx => (hnt x hx).elim) hlocks hcell hcv hcl (fun t ht _ => ⟨(), trivial, hBX, hS.F ht⟩) (fun z hz => hS.2.2 z hz) (Nat.le_of_ble_eq_true rfl) (Nat.le_of_ble_eq_true rfl)
set_option maxHeartbeats 4000000 in
set_option maxRecDepth 100000 in
/-- mulch on the fresh object: always IndexOutOfBoundsException -/
theorem k_LF_mulch (l : Launch) (hst : l.stackTraces = false) (D : va_G) (h : Nat) (cs : Nat) (f1 f2 f3 f4 f5 f6 : Value) (md : Int32) (ed : Value) (p0 : Int32) (p1 : Int32) (sz : Nat) : vx_Met l yX7_mulch (wsA yX7_mulch cX7_mulch 5 (some .boolean)) ({ frames := 7, cells := 1, slots := 6, locals := 103 }) (va_Pc [.ref h, .int p0, .int p1] (EV D [] [(h, .inr (11, [.ref cs, f1, f2, f3, f4, f5, f6])), (cs, .inr (4, [.int md, ed, .int 0]))] sz)) QX (XX "java/lang/IndexOutOfBoundsException") 1 6 NoA := by
  refine vx_ofW (cc := cX7_mulch) (maxL := 5) (ret := (some .boolean)) (ws' := lw_all) (by decide) rfl ?_
  intro p e s m args below meth c s₁ B hml hnt hv
  obtain ⟨rfl, hsz, hP, hK, hD0, hG, hZ0⟩ := hv
  have hx := B.exec
  have hb := B.bytes
  have hr := B.returns
  have hts0 := atoms_spec (ws := wsA yX7_mulch cX7_mulch 5 (some .boolean)) B.pre
  have hts : ∀ w ∈ lw_all, w.before _ s = true := fun w h => hts0 w (List.mem_cons_of_mem _ h)
  have hown : s.vm.findClass RX7 = some m.cls := findClass_of_methodNamed B.named
  have hlocks := B.notSynchronized
  subst hsz
  have hD : va_D (fun _ => True) [(h, .inr (11, [.ref cs, f1, f2, f3, f4, f5, f6])), (cs, .inr (4, [.int md, ed, .int 0]))] := hD0
  have hZ : ZZ NoA s s.heap := hZ0
  have hS : va_S NoA s.heap s.heap [] := va_S.rf
  have hP : va_P D vwCl [(h, .inr (11, [.ref cs, f1, f2, f3, f4, f5, f6])), (cs, .inr (4, [.int md, ed, .int 0]))] s.heap := hP
  have hl := lv_entry ([.ref h, .int p0, .int p1]) (n := 5) (Nat.le_of_ble_eq_true rfl)
  rw [lg_entry_eq]
  generalize (lg_sl ([.ref h, .int p0, .int p1]) ++ List.replicate (5 - (lg_sl ([.ref h, .int p0, .int p1])).length) Slot.unset).toArray = ls at hl ⊢
  have hl : lv_has ls 5 [(0, .ref h), (1, .int p0), (2, .int p1)] := hl
  refine lv_aload_n hx hb dX7_mulch_0 rfl (lv_at hl 0 rfl) ?_
  refine lv_iload_n hx hb dX7_mulch_1 rfl (lv_at hl 1 rfl) ?_
  have hPc := hP.sub (ws' := [(h, .inr (11, [.ref cs, f1, f2, f3, f4, f5, f6])), (cs, .inr (4, [.int md, ed, .int 0]))]) [0, 1] rfl
  have hDc := hD.sub (ws' := [(h, .inr (11, [.ref cs, f1, f2, f3, f4, f5, f6])), (cs, .inr (4, [.int md, ed, .int 0]))]) [0, 1] (by decide) rfl
  have hKc := hK.sub (tys' := []) [] rfl
  refine vx_calli (vx_runV (As := [.int p0]) (rest := []) ⟨hx, hb, hml, hown, hts⟩ (k_LF_columnAt l hst D h cs f1 f2 f3 f4 f5 f6 md (ed) p0 s.heap.size) (cwV 1 hts (gV q188 q190 qs1 q1 (gA q191)) rfl rfl rfl (by decide +kernel) ⟨Nat.le_of_ble_eq_true rfl, Nat.le_of_ble_eq_true rfl⟩) ⟨EV.fb, va_recv hKc hPc (ci := 11) (q0 := 0) rfl rfl, fun U hU hW => ⟨rfl, EV.at hPc hKc hDc hG (hZ.no hS) U hU hW⟩⟩ rfl rfl hl.1 rfl (lv_room (Nat.le_of_ble_eq_true rfl)) dX7_mulch_2 ⟨Nat.le_of_ble_eq_true rfl, Nat.le_of_ble_eq_true rfl⟩) hS (fun q _ h => h.elim) (fun q h => h.elim) (fun q _ h => h.elim) (fun E ce q9 u t H1 locs1 ht hvm hpx hBX hz1 hk1 hS hcell hcv hcl => ?_) (fun r u t H1 locs1 ht hvm hw hB hz1 hk1 hS => hw.elim)
  have hP := P_kept hP hk1
  exact vx_out (fun x hx => (hnt x hx).elim) hlocks hcell hcv hcl (fun t ht _ => ⟨(), trivial, hBX, hS.F ht⟩) (fun z hz => hS.2.2 z hz) (Nat.le_of_ble_eq_true rfl) (Nat.le_of_ble_eq_true rfl)
set_option maxHeartbeats 4000000 in
set_option maxRecDepth 100000 in
/-- rule on the fresh object: always IndexOutOfBoundsException -/
theorem k_LF_rule (l : Launch) (hst : l.stackTraces = false) (D : va_G) (h : Nat) (cs : Nat) (f1 f2 f3 f4 f5 f6 : Value) (md : Int32) (ed : Value) (p0 : Int32) (p1 : Int32) (p2 : Int32) (sz : Nat) : vx_Met l yX7_rule (wsA yX7_rule cX7_rule 6 (some .int)) ({ frames := 7, cells := 1, slots := 6, locals := 103 }) (va_Pc [.ref h, .int p0, .int p1, .int p2] (EV D [] [(h, .inr (11, [.ref cs, f1, f2, f3, f4, f5, f6])), (cs, .inr (4, [.int md, ed, .int 0]))] sz)) QX (XX "java/lang/IndexOutOfBoundsException") 1 6 NoA := by
  refine vx_ofW (cc := cX7_rule) (maxL := 6) (ret := (some .int)) (ws' := lw_all) (by decide) rfl ?_
  intro p e s m args below meth c s₁ B hml hnt hv
  obtain ⟨rfl, hsz, hP, hK, hD0, hG, hZ0⟩ := hv
  have hx := B.exec
  have hb := B.bytes
  have hr := B.returns
  have hts0 := atoms_spec (ws := wsA yX7_rule cX7_rule 6 (some .int)) B.pre
  have hts : ∀ w ∈ lw_all, w.before _ s = true := fun w h => hts0 w (List.mem_cons_of_mem _ h)
  have hown : s.vm.findClass RX7 = some m.cls := findClass_of_methodNamed B.named
  have hlocks := B.notSynchronized
  subst hsz
  have hD : va_D (fun _ => True) [(h, .inr (11, [.ref cs, f1, f2, f3, f4, f5, f6])), (cs, .inr (4, [.int md, ed, .int 0]))] := hD0
  have hZ : ZZ NoA s s.heap := hZ0
  have hS : va_S NoA s.heap s.heap [] := va_S.rf
  have hP : va_P D vwCl [(h, .inr (11, [.ref cs, f1, f2, f3, f4, f5, f6])), (cs, .inr (4, [.int md, ed, .int 0]))] s.heap := hP
  have hl := lv_entry ([.ref h, .int p0, .int p1, .int p2]) (n := 6) (Nat.le_of_ble_eq_true rfl)
  rw [lg_entry_eq]
  generalize (lg_sl ([.ref h, .int p0, .int p1, .int p2]) ++ List.replicate (6 - (lg_sl ([.ref h, .int p0, .int p1, .int p2])).length) Slot.unset).toArray = ls at hl ⊢
  have hl : lv_has ls 6 [(0, .ref h), (1, .int p0), (2, .int p1), (3, .int p2)] := hl
  refine lv_aload_n hx hb dX7_rule_0 rfl (lv_at hl 0 rfl) ?_
  refine lv_iload_n hx hb dX7_rule_1 rfl (lv_at hl 1 rfl) ?_
  have hPc := hP.sub (ws' := [(h, .inr (11, [.ref cs, f1, f2, f3, f4, f5, f6])), (cs, .inr (4, [.int md, ed, .int 0]))]) [0, 1] rfl
  have hDc := hD.sub (ws' := [(h, .inr (11, [.ref cs, f1, f2, f3, f4, f5, f6])), (cs, .inr (4, [.int md, ed, .int 0]))]) [0, 1] (by decide) rfl
  have hKc := hK.sub (tys' := []) [] rfl
  refine vx_calli (vx_runV (As := [.int p0]) (rest := []) ⟨hx, hb, hml, hown, hts⟩ (k_LF_columnAt l hst D h cs f1 f2 f3 f4 f5 f6 md (ed) p0 s.heap.size) (cwV 1 hts (gV q188 q190 qs1 q1 (gA q191)) rfl rfl rfl (by decide +kernel) ⟨Nat.le_of_ble_eq_true rfl, Nat.le_of_ble_eq_true rfl⟩) ⟨EV.fb, va_recv hKc hPc (ci := 11) (q0 := 0) rfl rfl, fun U hU hW => ⟨rfl, EV.at hPc hKc hDc hG (hZ.no hS) U hU hW⟩⟩ rfl rfl hl.1 rfl (lv_room (Nat.le_of_ble_eq_true rfl)) dX7_rule_2 ⟨Nat.le_of_ble_eq_true rfl, Nat.le_of_ble_eq_true rfl⟩) hS (fun q _ h => h.elim) (fun q h => h.elim) (fun q _ h => h.elim) (fun E ce q9 u t H1 locs1 ht hvm hpx hBX hz1 hk1 hS hcell hcv hcl => ?_) (fun r u t H1 locs1 ht hvm hw hB hz1 hk1 hS => hw.elim)
  have hP := P_kept hP hk1
  exact vx_out (fun x hx => (hnt x hx).elim) hlocks hcell hcv hcl (fun t ht _ => ⟨(), trivial, hBX, hS.F ht⟩) (fun z hz => hS.2.2 z hz) (Nat.le_of_ble_eq_true rfl) (Nat.le_of_ble_eq_true rfl)
set_option maxHeartbeats 4000000 in
set_option maxRecDepth 100000 in
/-- spread on the fresh object: always IndexOutOfBoundsException -/
theorem k_LF_spread (l : Launch) (hst : l.stackTraces = false) (D : va_G) (h : Nat) (cs : Nat) (f1 f2 f3 f4 f5 f6 : Value) (md : Int32) (ed : Value) (p0 : Int32) (p1 : Int32) (p2 : Int32) (sz : Nat) : vx_Met l yX7_spread (wsA yX7_spread cX7_spread 7 (some .long)) ({ frames := 7, cells := 1, slots := 6, locals := 103 }) (va_Pc [.ref h, .int p0, .int p1, .int p2] (EV D [] [(h, .inr (11, [.ref cs, f1, f2, f3, f4, f5, f6])), (cs, .inr (4, [.int md, ed, .int 0]))] sz)) QX (XX "java/lang/IndexOutOfBoundsException") 1 6 NoA := by
  refine vx_ofW (cc := cX7_spread) (maxL := 7) (ret := (some .long)) (ws' := lw_all) (by decide) rfl ?_
  intro p e s m args below meth c s₁ B hml hnt hv
  obtain ⟨rfl, hsz, hP, hK, hD0, hG, hZ0⟩ := hv
  have hx := B.exec
  have hb := B.bytes
  have hr := B.returns
  have hts0 := atoms_spec (ws := wsA yX7_spread cX7_spread 7 (some .long)) B.pre
  have hts : ∀ w ∈ lw_all, w.before _ s = true := fun w h => hts0 w (List.mem_cons_of_mem _ h)
  have hown : s.vm.findClass RX7 = some m.cls := findClass_of_methodNamed B.named
  have hlocks := B.notSynchronized
  subst hsz
  have hD : va_D (fun _ => True) [(h, .inr (11, [.ref cs, f1, f2, f3, f4, f5, f6])), (cs, .inr (4, [.int md, ed, .int 0]))] := hD0
  have hZ : ZZ NoA s s.heap := hZ0
  have hS : va_S NoA s.heap s.heap [] := va_S.rf
  have hP : va_P D vwCl [(h, .inr (11, [.ref cs, f1, f2, f3, f4, f5, f6])), (cs, .inr (4, [.int md, ed, .int 0]))] s.heap := hP
  have hl := lv_entry ([.ref h, .int p0, .int p1, .int p2]) (n := 7) (Nat.le_of_ble_eq_true rfl)
  rw [lg_entry_eq]
  generalize (lg_sl ([.ref h, .int p0, .int p1, .int p2]) ++ List.replicate (7 - (lg_sl ([.ref h, .int p0, .int p1, .int p2])).length) Slot.unset).toArray = ls at hl ⊢
  have hl : lv_has ls 7 [(0, .ref h), (1, .int p0), (2, .int p1), (3, .int p2)] := hl
  refine lv_aload_n hx hb dX7_spread_0 rfl (lv_at hl 0 rfl) ?_
  refine lv_iload_n hx hb dX7_spread_1 rfl (lv_at hl 1 rfl) ?_
  have hPc := hP.sub (ws' := [(h, .inr (11, [.ref cs, f1, f2, f3, f4, f5, f6])), (cs, .inr (4, [.int md, ed, .int 0]))]) [0, 1] rfl
  have hDc := hD.sub (ws' := [(h, .inr (11, [.ref cs, f1, f2, f3, f4, f5, f6])), (cs, .inr (4, [.int md, ed, .int 0]))]) [0, 1] (by decide) rfl
  have hKc := hK.sub (tys' := []) [] rfl
  refine vx_calli (vx_runV (As := [.int p0]) (rest := []) ⟨hx, hb, hml, hown, hts⟩ (k_LF_columnAt l hst D h cs f1 f2 f3 f4 f5 f6 md (ed) p0 s.heap.size) (cwV 1 hts (gV q188 q190 qs1 q1 (gA q191)) rfl rfl rfl (by decide +kernel) ⟨Nat.le_of_ble_eq_true rfl, Nat.le_of_ble_eq_true rfl⟩) ⟨EV.fb, va_recv hKc hPc (ci := 11) (q0 := 0) rfl rfl, fun U hU hW => ⟨rfl, EV.at hPc hKc hDc hG (hZ.no hS) U hU hW⟩⟩ rfl rfl hl.1 rfl (lv_room (Nat.le_of_ble_eq_true rfl)) dX7_spread_2 ⟨Nat.le_of_ble_eq_true rfl, Nat.le_of_ble_eq_true rfl⟩) hS (fun q _ h => h.elim) (fun q h => h.elim) (fun q _ h => h.elim) (fun E ce q9 u t H1 locs1 ht hvm hpx hBX hz1 hk1 hS hcell hcv hcl => ?_) (fun r u t H1 locs1 ht hvm hw hB hz1 hk1 hS => hw.elim)
  have hP := P_kept hP hk1
  exact vx_out (fun x hx => (hnt x hx).elim) hlocks hcell hcv hcl (fun t ht _ => ⟨(), trivial, hBX, hS.F ht⟩) (fun z hz => hS.2.2 z hz) (Nat.le_of_ble_eq_true rfl) (Nat.le_of_ble_eq_true rfl)
set_option maxHeartbeats 4000000 in
set_option maxRecDepth 100000 in
/-- manure on the fresh object: always IndexOutOfBoundsException -/
theorem k_LF_manure (l : Launch) (hst : l.stackTraces = false) (D : va_G) (h : Nat) (cs : Nat) (f1 f2 f3 f4 f5 f6 : Value) (md : Int32) (ed : Value) (p0 : Int32) (p1 : Int32) (sz : Nat) : vx_Met l yX7_manure (wsA yX7_manure cX7_manure 4 (some .long)) ({ frames := 7, cells := 1, slots := 6, locals := 103 }) (va_Pc [.ref h, .int p0, .int p1] (EV D [] [(h, .inr (11, [.ref cs, f1, f2, f3, f4, f5, f6])), (cs, .inr (4, [.int md, ed, .int 0]))] sz)) QX (XX "java/lang/IndexOutOfBoundsException") 1 6 NoA := by
  refine vx_ofW (cc := cX7_manure) (maxL := 4) (ret := (some .long)) (ws' := lw_all) (by decide) rfl ?_
  intro p e s m args below meth c s₁ B hml hnt hv
  obtain ⟨rfl, hsz, hP, hK, hD0, hG, hZ0⟩ := hv
  have hx := B.exec
  have hb := B.bytes
  have hr := B.returns
  have hts0 := atoms_spec (ws := wsA yX7_manure cX7_manure 4 (some .long)) B.pre
  have hts : ∀ w ∈ lw_all, w.before _ s = true := fun w h => hts0 w (List.mem_cons_of_mem _ h)
  have hown : s.vm.findClass RX7 = some m.cls := findClass_of_methodNamed B.named
  have hlocks := B.notSynchronized
  subst hsz
  have hD : va_D (fun _ => True) [(h, .inr (11, [.ref cs, f1, f2, f3, f4, f5, f6])), (cs, .inr (4, [.int md, ed, .int 0]))] := hD0
  have hZ : ZZ NoA s s.heap := hZ0
  have hS : va_S NoA s.heap s.heap [] := va_S.rf
  have hP : va_P D vwCl [(h, .inr (11, [.ref cs, f1, f2, f3, f4, f5, f6])), (cs, .inr (4, [.int md, ed, .int 0]))] s.heap := hP
  have hl := lv_entry ([.ref h, .int p0, .int p1]) (n := 4) (Nat.le_of_ble_eq_true rfl)
  rw [lg_entry_eq]
  generalize (lg_sl ([.ref h, .int p0, .int p1]) ++ List.replicate (4 - (lg_sl ([.ref h, .int p0, .int p1])).length) Slot.unset).toArray = ls at hl ⊢
  have hl : lv_has ls 4 [(0, .ref h), (1, .int p0), (2, .int p1)] := hl
  refine lv_aload_n hx hb dX7_manure_0 rfl (lv_at hl 0 rfl) ?_
  refine lv_iload_n hx hb dX7_manure_1 rfl (lv_at hl 1 rfl) ?_
  have hPc := hP.sub (ws' := [(h, .inr (11, [.ref cs, f1, f2, f3, f4, f5, f6])), (cs, .inr (4, [.int md, ed, .int 0]))]) [0, 1] rfl
  have hDc := hD.sub (ws' := [(h, .inr (11, [.ref cs, f1, f2, f3, f4, f5, f6])), (cs, .inr (4, [.int md, ed, .int 0]))]) [0, 1] (by decide) rfl
  have hKc := hK.sub (tys' := []) [] rfl
  refine vx_calli (vx_runV (As := [.int p0]) (rest := []) ⟨hx, hb, hml, hown, hts⟩ (k_LF_columnAt l hst D h cs f1 f2 f3 f4 f5 f6 md (ed) p0 s.heap.size) (cwV 1 hts (gV q188 q190 qs1 q1 (gA q191)) rfl rfl rfl (by decide +kernel) ⟨Nat.le_of_ble_eq_true rfl, Nat.le_of_ble_eq_true rfl⟩) ⟨EV.fb, va_recv hKc hPc (ci := 11) (q0 := 0) rfl rfl, fun U hU hW => ⟨rfl, EV.at hPc hKc hDc hG (hZ.no hS) U hU hW⟩⟩ rfl rfl hl.1 rfl (lv_room (Nat.le_of_ble_eq_true rfl)) dX7_manure_2 ⟨Nat.le_of_ble_eq_true rfl, Nat.le_of_ble_eq_true rfl⟩) hS (fun q _ h => h.elim) (fun q h => h.elim) (fun q _ h => h.elim) (fun E ce q9 u t H1 locs1 ht hvm hpx hBX hz1 hk1 hS hcell hcv hcl => ?_) (fun r u t H1 locs1 ht hvm hw hB hz1 hk1 hS => hw.elim)
  have hP := P_kept hP hk1
  exact vx_out (fun x hx => (hnt x hx).elim) hlocks hcell hcv hcl (fun t ht _ => ⟨(), trivial, hBX, hS.F ht⟩) (fun z hz => hS.2.2 z hz) (Nat.le_of_ble_eq_true rfl) (Nat.le_of_ble_eq_true rfl)
set_option maxHeartbeats 4000000 in
set_option maxRecDepth 100000 in
/-- solute on the fresh object: always IndexOutOfBoundsException -/
theorem k_LF_solute (l : Launch) (hst : l.stackTraces = false) (D : va_G) (h : Nat) (cs : Nat) (f1 f2 f3 f4 f5 f6 : Value) (md : Int32) (ed : Value) (p0 : Int32) (p1 : Int32) (p2 : Int32) (sz : Nat) : vx_Met l yX7_solute (wsA yX7_solute cX7_solute 5 (some .long)) ({ frames := 8, cells := 1, slots := 6, locals := 126 }) (va_Pc [.ref h, .int p0, .int p1, .int p2] (EV D [] [(h, .inr (11, [.ref cs, f1, f2, f3, f4, f5, f6])), (cs, .inr (4, [.int md, ed, .int 0]))] sz)) QX (XX "java/lang/IndexOutOfBoundsException") 1 6 NoA := by
  refine vx_ofW (cc := cX7_solute) (maxL := 5) (ret := (some .long)) (ws' := lw_all) (by decide) rfl ?_
  intro p e s m args below meth c s₁ B hml hnt hv
  obtain ⟨rfl, hsz, hP, hK, hD0, hG, hZ0⟩ := hv
  have hx := B.exec
  have hb := B.bytes
  have hr := B.returns
  have hts0 := atoms_spec (ws := wsA yX7_solute cX7_solute 5 (some .long)) B.pre
  have hts : ∀ w ∈ lw_all, w.before _ s = true := fun w h => hts0 w (List.mem_cons_of_mem _ h)
  have hown : s.vm.findClass RX7 = some m.cls := findClass_of_methodNamed B.named
  have hlocks := B.notSynchronized
  subst hsz
  have hD : va_D (fun _ => True) [(h, .inr (11, [.ref cs, f1, f2, f3, f4, f5, f6])), (cs, .inr (4, [.int md, ed, .int 0]))] := hD0
  have hZ : ZZ NoA s s.heap := hZ0
  have hS : va_S NoA s.heap s.heap [] := va_S.rf
  have hP : va_P D vwCl [(h, .inr (11, [.ref cs, f1, f2, f3, f4, f5, f6])), (cs, .inr (4, [.int md, ed, .int 0]))] s.heap := hP
  have hl := lv_entry ([.ref h, .int p0, .int p1, .int p2]) (n := 5) (Nat.le_of_ble_eq_true rfl)
  rw [lg_entry_eq]
  generalize (lg_sl ([.ref h, .int p0, .int p1, .int p2]) ++ List.replicate (5 - (lg_sl ([.ref h, .int p0, .int p1, .int p2])).length) Slot.unset).toArray = ls at hl ⊢
  have hl : lv_has ls 5 [(0, .ref h), (1, .int p0), (2, .int p1), (3, .int p2)] := hl
  refine lv_aload_n hx hb dX7_solute_0 rfl (lv_at hl 0 rfl) ?_
  refine lv_iload_n hx hb dX7_solute_1 rfl (lv_at hl 1 rfl) ?_
  refine lv_iload_n hx hb dX7_solute_2 rfl (lv_at hl 2 rfl) ?_
  have hPc := hP.sub (ws' := [(h, .inr (11, [.ref cs, f1, f2, f3, f4, f5, f6])), (cs, .inr (4, [.int md, ed, .int 0]))]) [0, 1] rfl
  have hDc := hD.sub (ws' := [(h, .inr (11, [.ref cs, f1, f2, f3, f4, f5, f6])), (cs, .inr (4, [.int md, ed, .int 0]))]) [0, 1] (by decide) rfl
  have hKc := hK.sub (tys' := []) [] rfl
  refine vx_calli (vx_runV (As := [.int p0, .int p1]) (rest := []) ⟨hx, hb, hml, hown, hts⟩ (k_LF_layerAt l hst D h cs f1 f2 f3 f4 f5 f6 md (ed) p0 p1 s.heap.size) (cwV 2 hts (gV q736 q738 qs22 q1 (gA q739)) rfl rfl rfl (by decide +kernel) ⟨Nat.le_of_ble_eq_true rfl, Nat.le_of_ble_eq_true rfl⟩) ⟨EV.fb, va_recv hKc hPc (ci := 11) (q0 := 0) rfl rfl, fun U hU hW => ⟨rfl, EV.at hPc hKc hDc hG (hZ.no hS) U hU hW⟩⟩ rfl rfl hl.1 rfl (lv_room (Nat.le_of_ble_eq_true rfl)) dX7_solute_3 ⟨Nat.le_of_ble_eq_true rfl, Nat.le_of_ble_eq_true rfl⟩) hS (fun q _ h => h.elim) (fun q h => h.elim) (fun q _ h => h.elim) (fun E ce q9 u t H1 locs1 ht hvm hpx hBX hz1 hk1 hS hcell hcv hcl => ?_) (fun r u t H1 locs1 ht hvm hw hB hz1 hk1 hS => hw.elim)
  have hP := P_kept hP hk1
  exact vx_out (fun x hx => (hnt x hx).elim) hlocks hcell hcv hcl (fun t ht _ => ⟨(), trivial, hBX, hS.F ht⟩) (fun z hz => hS.2.2 z hz) (Nat.le_of_ble_eq_true rfl) (Nat.le_of_ble_eq_true rfl)
set_option maxHeartbeats 4000000 in
set_option maxRecDepth 100000 in
/-- out on the fresh object: always IndexOutOfBoundsException -/
theorem k_LF_out (l : Launch) (hst : l.stackTraces = false) (D : va_G) (h : Nat) (cs : Nat) (f1 f2 f3 f4 f5 f6 : Value) (md : Int32) (ed : Value) (p0 : Int32) (p1 : Int32) (sz : Nat) : vx_Met l yX7_out (wsA yX7_out cX7_out 4 (some .long)) ({ frames := 7, cells := 1, slots := 6, locals := 103 }) (va_Pc [.ref h, .int p0, .int p1] (EV D [] [(h, .inr (11, [.ref cs, f1, f2, f3, f4, f5, f6])), (cs, .inr (4, [.int md, ed, .int 0]))] sz)) QX (XX "java/lang/IndexOutOfBoundsException") 1 6 NoA := by
  refine vx_ofW (cc := cX7_out) (maxL := 4) (ret := (some .long)) (ws' := lw_all) (by decide) rfl ?_
  intro p e s m args below meth c s₁ B hml hnt hv
  obtain ⟨rfl, hsz, hP, hK, hD0, hG, hZ0⟩ := hv
  have hx := B.exec
  have hb := B.bytes
  have hr := B.returns
  have hts0 := atoms_spec (ws := wsA yX7_out cX7_out 4 (some .long)) B.pre
  have hts : ∀ w ∈ lw_all, w.before _ s = true := fun w h => hts0 w (List.mem_cons_of_mem _ h)
  have hown : s.vm.findClass RX7 = some m.cls := findClass_of_methodNamed B.named
  have hlocks := B.notSynchronized
  subst hsz
  have hD : va_D (fun _ => True) [(h, .inr (11, [.ref cs, f1, f2, f3, f4, f5, f6])), (cs, .inr (4, [.int md, ed, .int 0]))] := hD0
  have hZ : ZZ NoA s s.heap := hZ0
  have hS : va_S NoA s.heap s.heap [] := va_S.rf
  have hP : va_P D vwCl [(h, .inr (11, [.ref cs, f1, f2, f3, f4, f5, f6])), (cs, .inr (4, [.int md, ed, .int 0]))] s.heap := hP
  have hl := lv_entry ([.ref h, .int p0, .int p1]) (n := 4) (Nat.le_of_ble_eq_true rfl)
  rw [lg_entry_eq]
  generalize (lg_sl ([.ref h, .int p0, .int p1]) ++ List.replicate (4 - (lg_sl ([.ref h, .int p0, .int p1])).length) Slot.unset).toArray = ls at hl ⊢
  have hl : lv_has ls 4 [(0, .ref h), (1, .int p0), (2, .int p1)] := hl
  refine lv_aload_n hx hb dX7_out_0 rfl (lv_at hl 0 rfl) ?_
  refine lv_iload_n hx hb dX7_out_1 rfl (lv_at hl 1 rfl) ?_
  have hPc := hP.sub (ws' := [(h, .inr (11, [.ref cs, f1, f2, f3, f4, f5, f6])), (cs, .inr (4, [.int md, ed, .int 0]))]) [0, 1] rfl
  have hDc := hD.sub (ws' := [(h, .inr (11, [.ref cs, f1, f2, f3, f4, f5, f6])), (cs, .inr (4, [.int md, ed, .int 0]))]) [0, 1] (by decide) rfl
  have hKc := hK.sub (tys' := []) [] rfl
  refine vx_calli (vx_runV (As := [.int p0]) (rest := []) ⟨hx, hb, hml, hown, hts⟩ (k_LF_columnAt l hst D h cs f1 f2 f3 f4 f5 f6 md (ed) p0 s.heap.size) (cwV 1 hts (gV q188 q190 qs1 q1 (gA q191)) rfl rfl rfl (by decide +kernel) ⟨Nat.le_of_ble_eq_true rfl, Nat.le_of_ble_eq_true rfl⟩) ⟨EV.fb, va_recv hKc hPc (ci := 11) (q0 := 0) rfl rfl, fun U hU hW => ⟨rfl, EV.at hPc hKc hDc hG (hZ.no hS) U hU hW⟩⟩ rfl rfl hl.1 rfl (lv_room (Nat.le_of_ble_eq_true rfl)) dX7_out_2 ⟨Nat.le_of_ble_eq_true rfl, Nat.le_of_ble_eq_true rfl⟩) hS (fun q _ h => h.elim) (fun q h => h.elim) (fun q _ h => h.elim) (fun E ce q9 u t H1 locs1 ht hvm hpx hBX hz1 hk1 hS hcell hcv hcl => ?_) (fun r u t H1 locs1 ht hvm hw hB hz1 hk1 hS => hw.elim)
  have hP := P_kept hP hk1
  exact vx_out (fun x hx => (hnt x hx).elim) hlocks hcell hcv hcl (fun t ht _ => ⟨(), trivial, hBX, hS.F ht⟩) (fun z hz => hS.2.2 z hz) (Nat.le_of_ble_eq_true rfl) (Nat.le_of_ble_eq_true rfl)
set_option maxHeartbeats 4000000 in
set_option maxRecDepth 100000 in
/-- eaten on the fresh object: always IndexOutOfBoundsException -/
theorem k_LF_eaten (l : Launch) (hst : l.stackTraces = false) (D : va_G) (h : Nat) (cs : Nat) (f1 f2 f3 f4 f5 f6 : Value) (md : Int32) (ed : Value) (p0 : Int32) (sz : Nat) : vx_Met l yX7_eaten (wsA yX7_eaten cX7_eaten 2 (some .long)) ({ frames := 7, cells := 1, slots := 6, locals := 103 }) (va_Pc [.ref h, .int p0] (EV D [] [(h, .inr (11, [.ref cs, f1, f2, f3, f4, f5, f6])), (cs, .inr (4, [.int md, ed, .int 0]))] sz)) QX (XX "java/lang/IndexOutOfBoundsException") 1 6 NoA := by
  refine vx_ofW (cc := cX7_eaten) (maxL := 2) (ret := (some .long)) (ws' := lw_all) (by decide) rfl ?_
  intro p e s m args below meth c s₁ B hml hnt hv
  obtain ⟨rfl, hsz, hP, hK, hD0, hG, hZ0⟩ := hv
  have hx := B.exec
  have hb := B.bytes
  have hr := B.returns
  have hts0 := atoms_spec (ws := wsA yX7_eaten cX7_eaten 2 (some .long)) B.pre
  have hts : ∀ w ∈ lw_all, w.before _ s = true := fun w h => hts0 w (List.mem_cons_of_mem _ h)
  have hown : s.vm.findClass RX7 = some m.cls := findClass_of_methodNamed B.named
  have hlocks := B.notSynchronized
  subst hsz
  have hD : va_D (fun _ => True) [(h, .inr (11, [.ref cs, f1, f2, f3, f4, f5, f6])), (cs, .inr (4, [.int md, ed, .int 0]))] := hD0
  have hZ : ZZ NoA s s.heap := hZ0
  have hS : va_S NoA s.heap s.heap [] := va_S.rf
  have hP : va_P D vwCl [(h, .inr (11, [.ref cs, f1, f2, f3, f4, f5, f6])), (cs, .inr (4, [.int md, ed, .int 0]))] s.heap := hP
  have hl := lv_entry ([.ref h, .int p0]) (n := 2) (Nat.le_of_ble_eq_true rfl)
  rw [lg_entry_eq]
  generalize (lg_sl ([.ref h, .int p0]) ++ List.replicate (2 - (lg_sl ([.ref h, .int p0])).length) Slot.unset).toArray = ls at hl ⊢
  have hl : lv_has ls 2 [(0, .ref h), (1, .int p0)] := hl
  refine lv_aload_n hx hb dX7_eaten_0 rfl (lv_at hl 0 rfl) ?_
  refine lv_iload_n hx hb dX7_eaten_1 rfl (lv_at hl 1 rfl) ?_
  have hPc := hP.sub (ws' := [(h, .inr (11, [.ref cs, f1, f2, f3, f4, f5, f6])), (cs, .inr (4, [.int md, ed, .int 0]))]) [0, 1] rfl
  have hDc := hD.sub (ws' := [(h, .inr (11, [.ref cs, f1, f2, f3, f4, f5, f6])), (cs, .inr (4, [.int md, ed, .int 0]))]) [0, 1] (by decide) rfl
  have hKc := hK.sub (tys' := []) [] rfl
  refine vx_calli (vx_runV (As := [.int p0]) (rest := []) ⟨hx, hb, hml, hown, hts⟩ (k_LF_columnAt l hst D h cs f1 f2 f3 f4 f5 f6 md (ed) p0 s.heap.size) (cwV 1 hts (gV q188 q190 qs1 q1 (gA q191)) rfl rfl rfl (by decide +kernel) ⟨Nat.le_of_ble_eq_true rfl, Nat.le_of_ble_eq_true rfl⟩) ⟨EV.fb, va_recv hKc hPc (ci := 11) (q0 := 0) rfl rfl, fun U hU hW => ⟨rfl, EV.at hPc hKc hDc hG (hZ.no hS) U hU hW⟩⟩ rfl rfl hl.1 rfl (lv_room (Nat.le_of_ble_eq_true rfl)) dX7_eaten_2 ⟨Nat.le_of_ble_eq_true rfl, Nat.le_of_ble_eq_true rfl⟩) hS (fun q _ h => h.elim) (fun q h => h.elim) (fun q _ h => h.elim) (fun E ce q9 u t H1 locs1 ht hvm hpx hBX hz1 hk1 hS hcell hcv hcl => ?_) (fun r u t H1 locs1 ht hvm hw hB hz1 hk1 hS => hw.elim)
  have hP := P_kept hP hk1
  exact vx_out (fun x hx => (hnt x hx).elim) hlocks hcell hcv hcl (fun t ht _ => ⟨(), trivial, hBX, hS.F ht⟩) (fun z hz => hS.2.2 z hz) (Nat.le_of_ble_eq_true rfl) (Nat.le_of_ble_eq_true rfl)
set_option maxHeartbeats 4000000 in
set_option maxRecDepth 100000 in
/-- standing on the fresh object: always IndexOutOfBoundsException -/
theorem k_LF_standing (l : Launch) (hst : l.stackTraces = false) (D : va_G) (h : Nat) (cs : Nat) (f1 f2 f3 f4 f5 f6 : Value) (md : Int32) (ed : Value) (p0 : Int32) (sz : Nat) : vx_Met l yX7_standing (wsA yX7_standing cX7_standing 2 (some .int)) ({ frames := 7, cells := 1, slots := 6, locals := 103 }) (va_Pc [.ref h, .int p0] (EV D [] [(h, .inr (11, [.ref cs, f1, f2, f3, f4, f5, f6])), (cs, .inr (4, [.int md, ed, .int 0]))] sz)) QX (XX "java/lang/IndexOutOfBoundsException") 1 6 NoA := by
  refine vx_ofW (cc := cX7_standing) (maxL := 2) (ret := (some .int)) (ws' := lw_all) (by decide) rfl ?_
  intro p e s m args below meth c s₁ B hml hnt hv
  obtain ⟨rfl, hsz, hP, hK, hD0, hG, hZ0⟩ := hv
  have hx := B.exec
  have hb := B.bytes
  have hr := B.returns
  have hts0 := atoms_spec (ws := wsA yX7_standing cX7_standing 2 (some .int)) B.pre
  have hts : ∀ w ∈ lw_all, w.before _ s = true := fun w h => hts0 w (List.mem_cons_of_mem _ h)
  have hown : s.vm.findClass RX7 = some m.cls := findClass_of_methodNamed B.named
  have hlocks := B.notSynchronized
  subst hsz
  have hD : va_D (fun _ => True) [(h, .inr (11, [.ref cs, f1, f2, f3, f4, f5, f6])), (cs, .inr (4, [.int md, ed, .int 0]))] := hD0
  have hZ : ZZ NoA s s.heap := hZ0
  have hS : va_S NoA s.heap s.heap [] := va_S.rf
  have hP : va_P D vwCl [(h, .inr (11, [.ref cs, f1, f2, f3, f4, f5, f6])), (cs, .inr (4, [.int md, ed, .int 0]))] s.heap := hP
  have hl := lv_entry ([.ref h, .int p0]) (n := 2) (Nat.le_of_ble_eq_true rfl)
  rw [lg_entry_eq]
  generalize (lg_sl ([.ref h, .int p0]) ++ List.replicate (2 - (lg_sl ([.ref h, .int p0])).length) Slot.unset).toArray = ls at hl ⊢
  have hl : lv_has ls 2 [(0, .ref h), (1, .int p0)] := hl
  refine lv_aload_n hx hb dX7_standing_0 rfl (lv_at hl 0 rfl) ?_
  refine lv_iload_n hx hb dX7_standing_1 rfl (lv_at hl 1 rfl) ?_
  have hPc := hP.sub (ws' := [(h, .inr (11, [.ref cs, f1, f2, f3, f4, f5, f6])), (cs, .inr (4, [.int md, ed, .int 0]))]) [0, 1] rfl
  have hDc := hD.sub (ws' := [(h, .inr (11, [.ref cs, f1, f2, f3, f4, f5, f6])), (cs, .inr (4, [.int md, ed, .int 0]))]) [0, 1] (by decide) rfl
  have hKc := hK.sub (tys' := []) [] rfl
  refine vx_calli (vx_runV (As := [.int p0]) (rest := []) ⟨hx, hb, hml, hown, hts⟩ (k_LF_columnAt l hst D h cs f1 f2 f3 f4 f5 f6 md (ed) p0 s.heap.size) (cwV 1 hts (gV q188 q190 qs1 q1 (gA q191)) rfl rfl rfl (by decide +kernel) ⟨Nat.le_of_ble_eq_true rfl, Nat.le_of_ble_eq_true rfl⟩) ⟨EV.fb, va_recv hKc hPc (ci := 11) (q0 := 0) rfl rfl, fun U hU hW => ⟨rfl, EV.at hPc hKc hDc hG (hZ.no hS) U hU hW⟩⟩ rfl rfl hl.1 rfl (lv_room (Nat.le_of_ble_eq_true rfl)) dX7_standing_2 ⟨Nat.le_of_ble_eq_true rfl, Nat.le_of_ble_eq_true rfl⟩) hS (fun q _ h => h.elim) (fun q h => h.elim) (fun q _ h => h.elim) (fun E ce q9 u t H1 locs1 ht hvm hpx hBX hz1 hk1 hS hcell hcv hcl => ?_) (fun r u t H1 locs1 ht hvm hw hB hz1 hk1 hS => hw.elim)
  have hP := P_kept hP hk1
  exact vx_out (fun x hx => (hnt x hx).elim) hlocks hcell hcv hcl (fun t ht _ => ⟨(), trivial, hBX, hS.F ht⟩) (fun z hz => hS.2.2 z hz) (Nat.le_of_ble_eq_true rfl) (Nat.le_of_ble_eq_true rfl)
set_option maxHeartbeats 4000000 in
set_option maxRecDepth 100000 in
/-- recharge on the fresh object: always IndexOutOfBoundsException -/
theorem k_LF_recharge (l : Launch) (hst : l.stackTraces = false) (D : va_G) (h : Nat) (cs : Nat) (f1 f2 f3 f4 f5 f6 : Value) (md : Int32) (ed : Value) (p0 : Int32) (sz : Nat) : vx_Met l yX7_recharge (wsA yX7_recharge cX7_recharge 2 (some .long)) ({ frames := 7, cells := 1, slots := 6, locals := 103 }) (va_Pc [.ref h, .int p0] (EV D [] [(h, .inr (11, [.ref cs, f1, f2, f3, f4, f5, f6])), (cs, .inr (4, [.int md, ed, .int 0]))] sz)) QX (XX "java/lang/IndexOutOfBoundsException") 1 6 NoA := by
  refine vx_ofW (cc := cX7_recharge) (maxL := 2) (ret := (some .long)) (ws' := lw_all) (by decide) rfl ?_
  intro p e s m args below meth c s₁ B hml hnt hv
  obtain ⟨rfl, hsz, hP, hK, hD0, hG, hZ0⟩ := hv
  have hx := B.exec
  have hb := B.bytes
  have hr := B.returns
  have hts0 := atoms_spec (ws := wsA yX7_recharge cX7_recharge 2 (some .long)) B.pre
  have hts : ∀ w ∈ lw_all, w.before _ s = true := fun w h => hts0 w (List.mem_cons_of_mem _ h)
  have hown : s.vm.findClass RX7 = some m.cls := findClass_of_methodNamed B.named
  have hlocks := B.notSynchronized
  subst hsz
  have hD : va_D (fun _ => True) [(h, .inr (11, [.ref cs, f1, f2, f3, f4, f5, f6])), (cs, .inr (4, [.int md, ed, .int 0]))] := hD0
  have hZ : ZZ NoA s s.heap := hZ0
  have hS : va_S NoA s.heap s.heap [] := va_S.rf
  have hP : va_P D vwCl [(h, .inr (11, [.ref cs, f1, f2, f3, f4, f5, f6])), (cs, .inr (4, [.int md, ed, .int 0]))] s.heap := hP
  have hl := lv_entry ([.ref h, .int p0]) (n := 2) (Nat.le_of_ble_eq_true rfl)
  rw [lg_entry_eq]
  generalize (lg_sl ([.ref h, .int p0]) ++ List.replicate (2 - (lg_sl ([.ref h, .int p0])).length) Slot.unset).toArray = ls at hl ⊢
  have hl : lv_has ls 2 [(0, .ref h), (1, .int p0)] := hl
  refine lv_aload_n hx hb dX7_recharge_0 rfl (lv_at hl 0 rfl) ?_
  refine lv_iload_n hx hb dX7_recharge_1 rfl (lv_at hl 1 rfl) ?_
  have hPc := hP.sub (ws' := [(h, .inr (11, [.ref cs, f1, f2, f3, f4, f5, f6])), (cs, .inr (4, [.int md, ed, .int 0]))]) [0, 1] rfl
  have hDc := hD.sub (ws' := [(h, .inr (11, [.ref cs, f1, f2, f3, f4, f5, f6])), (cs, .inr (4, [.int md, ed, .int 0]))]) [0, 1] (by decide) rfl
  have hKc := hK.sub (tys' := []) [] rfl
  refine vx_calli (vx_runV (As := [.int p0]) (rest := []) ⟨hx, hb, hml, hown, hts⟩ (k_LF_columnAt l hst D h cs f1 f2 f3 f4 f5 f6 md (ed) p0 s.heap.size) (cwV 1 hts (gV q188 q190 qs1 q1 (gA q191)) rfl rfl rfl (by decide +kernel) ⟨Nat.le_of_ble_eq_true rfl, Nat.le_of_ble_eq_true rfl⟩) ⟨EV.fb, va_recv hKc hPc (ci := 11) (q0 := 0) rfl rfl, fun U hU hW => ⟨rfl, EV.at hPc hKc hDc hG (hZ.no hS) U hU hW⟩⟩ rfl rfl hl.1 rfl (lv_room (Nat.le_of_ble_eq_true rfl)) dX7_recharge_2 ⟨Nat.le_of_ble_eq_true rfl, Nat.le_of_ble_eq_true rfl⟩) hS (fun q _ h => h.elim) (fun q h => h.elim) (fun q _ h => h.elim) (fun E ce q9 u t H1 locs1 ht hvm hpx hBX hz1 hk1 hS hcell hcv hcl => ?_) (fun r u t H1 locs1 ht hvm hw hB hz1 hk1 hS => hw.elim)
  have hP := P_kept hP hk1
  exact vx_out (fun x hx => (hnt x hx).elim) hlocks hcell hcv hcl (fun t ht _ => ⟨(), trivial, hBX, hS.F ht⟩) (fun z hz => hS.2.2 z hz) (Nat.le_of_ble_eq_true rfl) (Nat.le_of_ble_eq_true rfl)
set_option maxHeartbeats 4000000 in
set_option maxRecDepth 100000 in
/-- runoff on the fresh object: always IndexOutOfBoundsException -/
theorem k_LF_runoff (l : Launch) (hst : l.stackTraces = false) (D : va_G) (h : Nat) (cs : Nat) (f1 f2 f3 f4 f5 f6 : Value) (md : Int32) (ed : Value) (p0 : Int32) (sz : Nat) : vx_Met l yX7_runoff (wsA yX7_runoff cX7_runoff 2 (some .long)) ({ frames := 7, cells := 1, slots := 6, locals := 103 }) (va_Pc [.ref h, .int p0] (EV D [] [(h, .inr (11, [.ref cs, f1, f2, f3, f4, f5, f6])), (cs, .inr (4, [.int md, ed, .int 0]))] sz)) QX (XX "java/lang/IndexOutOfBoundsException") 1 6 NoA := by
  refine vx_ofW (cc := cX7_runoff) (maxL := 2) (ret := (some .long)) (ws' := lw_all) (by decide) rfl ?_
  intro p e s m args below meth c s₁ B hml hnt hv
  obtain ⟨rfl, hsz, hP, hK, hD0, hG, hZ0⟩ := hv
  have hx := B.exec
  have hb := B.bytes
  have hr := B.returns
  have hts0 := atoms_spec (ws := wsA yX7_runoff cX7_runoff 2 (some .long)) B.pre
  have hts : ∀ w ∈ lw_all, w.before _ s = true := fun w h => hts0 w (List.mem_cons_of_mem _ h)
  have hown : s.vm.findClass RX7 = some m.cls := findClass_of_methodNamed B.named
  have hlocks := B.notSynchronized
  subst hsz
  have hD : va_D (fun _ => True) [(h, .inr (11, [.ref cs, f1, f2, f3, f4, f5, f6])), (cs, .inr (4, [.int md, ed, .int 0]))] := hD0
  have hZ : ZZ NoA s s.heap := hZ0
  have hS : va_S NoA s.heap s.heap [] := va_S.rf
  have hP : va_P D vwCl [(h, .inr (11, [.ref cs, f1, f2, f3, f4, f5, f6])), (cs, .inr (4, [.int md, ed, .int 0]))] s.heap := hP
  have hl := lv_entry ([.ref h, .int p0]) (n := 2) (Nat.le_of_ble_eq_true rfl)
  rw [lg_entry_eq]
  generalize (lg_sl ([.ref h, .int p0]) ++ List.replicate (2 - (lg_sl ([.ref h, .int p0])).length) Slot.unset).toArray = ls at hl ⊢
  have hl : lv_has ls 2 [(0, .ref h), (1, .int p0)] := hl
  refine lv_aload_n hx hb dX7_runoff_0 rfl (lv_at hl 0 rfl) ?_
  refine lv_iload_n hx hb dX7_runoff_1 rfl (lv_at hl 1 rfl) ?_
  have hPc := hP.sub (ws' := [(h, .inr (11, [.ref cs, f1, f2, f3, f4, f5, f6])), (cs, .inr (4, [.int md, ed, .int 0]))]) [0, 1] rfl
  have hDc := hD.sub (ws' := [(h, .inr (11, [.ref cs, f1, f2, f3, f4, f5, f6])), (cs, .inr (4, [.int md, ed, .int 0]))]) [0, 1] (by decide) rfl
  have hKc := hK.sub (tys' := []) [] rfl
  refine vx_calli (vx_runV (As := [.int p0]) (rest := []) ⟨hx, hb, hml, hown, hts⟩ (k_LF_columnAt l hst D h cs f1 f2 f3 f4 f5 f6 md (ed) p0 s.heap.size) (cwV 1 hts (gV q188 q190 qs1 q1 (gA q191)) rfl rfl rfl (by decide +kernel) ⟨Nat.le_of_ble_eq_true rfl, Nat.le_of_ble_eq_true rfl⟩) ⟨EV.fb, va_recv hKc hPc (ci := 11) (q0 := 0) rfl rfl, fun U hU hW => ⟨rfl, EV.at hPc hKc hDc hG (hZ.no hS) U hU hW⟩⟩ rfl rfl hl.1 rfl (lv_room (Nat.le_of_ble_eq_true rfl)) dX7_runoff_2 ⟨Nat.le_of_ble_eq_true rfl, Nat.le_of_ble_eq_true rfl⟩) hS (fun q _ h => h.elim) (fun q h => h.elim) (fun q _ h => h.elim) (fun E ce q9 u t H1 locs1 ht hvm hpx hBX hz1 hk1 hS hcell hcv hcl => ?_) (fun r u t H1 locs1 ht hvm hw hB hz1 hk1 hS => hw.elim)
  have hP := P_kept hP hk1
  exact vx_out (fun x hx => (hnt x hx).elim) hlocks hcell hcv hcl (fun t ht _ => ⟨(), trivial, hBX, hS.F ht⟩) (fun z hz => hS.2.2 z hz) (Nat.le_of_ble_eq_true rfl) (Nat.le_of_ble_eq_true rfl)
set_option maxHeartbeats 4000000 in
set_option maxRecDepth 100000 in
/-- vapour on the fresh object: always IndexOutOfBoundsException -/
theorem k_LF_vapour (l : Launch) (hst : l.stackTraces = false) (D : va_G) (h : Nat) (cs : Nat) (f1 f2 f3 f4 f5 f6 : Value) (md : Int32) (ed : Value) (p0 : Int32) (sz : Nat) : vx_Met l yX7_vapour (wsA yX7_vapour cX7_vapour 2 (some .long)) ({ frames := 7, cells := 1, slots := 6, locals := 103 }) (va_Pc [.ref h, .int p0] (EV D [] [(h, .inr (11, [.ref cs, f1, f2, f3, f4, f5, f6])), (cs, .inr (4, [.int md, ed, .int 0]))] sz)) QX (XX "java/lang/IndexOutOfBoundsException") 1 6 NoA := by
  refine vx_ofW (cc := cX7_vapour) (maxL := 2) (ret := (some .long)) (ws' := lw_all) (by decide) rfl ?_
  intro p e s m args below meth c s₁ B hml hnt hv
  obtain ⟨rfl, hsz, hP, hK, hD0, hG, hZ0⟩ := hv
  have hx := B.exec
  have hb := B.bytes
  have hr := B.returns
  have hts0 := atoms_spec (ws := wsA yX7_vapour cX7_vapour 2 (some .long)) B.pre
  have hts : ∀ w ∈ lw_all, w.before _ s = true := fun w h => hts0 w (List.mem_cons_of_mem _ h)
  have hown : s.vm.findClass RX7 = some m.cls := findClass_of_methodNamed B.named
  have hlocks := B.notSynchronized
  subst hsz
  have hD : va_D (fun _ => True) [(h, .inr (11, [.ref cs, f1, f2, f3, f4, f5, f6])), (cs, .inr (4, [.int md, ed, .int 0]))] := hD0
  have hZ : ZZ NoA s s.heap := hZ0
  have hS : va_S NoA s.heap s.heap [] := va_S.rf
  have hP : va_P D vwCl [(h, .inr (11, [.ref cs, f1, f2, f3, f4, f5, f6])), (cs, .inr (4, [.int md, ed, .int 0]))] s.heap := hP
  have hl := lv_entry ([.ref h, .int p0]) (n := 2) (Nat.le_of_ble_eq_true rfl)
  rw [lg_entry_eq]
  generalize (lg_sl ([.ref h, .int p0]) ++ List.replicate (2 - (lg_sl ([.ref h, .int p0])).length) Slot.unset).toArray = ls at hl ⊢
  have hl : lv_has ls 2 [(0, .ref h), (1, .int p0)] := hl
  refine lv_aload_n hx hb dX7_vapour_0 rfl (lv_at hl 0 rfl) ?_
  refine lv_iload_n hx hb dX7_vapour_1 rfl (lv_at hl 1 rfl) ?_
  have hPc := hP.sub (ws' := [(h, .inr (11, [.ref cs, f1, f2, f3, f4, f5, f6])), (cs, .inr (4, [.int md, ed, .int 0]))]) [0, 1] rfl
  have hDc := hD.sub (ws' := [(h, .inr (11, [.ref cs, f1, f2, f3, f4, f5, f6])), (cs, .inr (4, [.int md, ed, .int 0]))]) [0, 1] (by decide) rfl
  have hKc := hK.sub (tys' := []) [] rfl
  refine vx_calli (vx_runV (As := [.int p0]) (rest := []) ⟨hx, hb, hml, hown, hts⟩ (k_LF_columnAt l hst D h cs f1 f2 f3 f4 f5 f6 md (ed) p0 s.heap.size) (cwV 1 hts (gV q188 q190 qs1 q1 (gA q191)) rfl rfl rfl (by decide +kernel) ⟨Nat.le_of_ble_eq_true rfl, Nat.le_of_ble_eq_true rfl⟩) ⟨EV.fb, va_recv hKc hPc (ci := 11) (q0 := 0) rfl rfl, fun U hU hW => ⟨rfl, EV.at hPc hKc hDc hG (hZ.no hS) U hU hW⟩⟩ rfl rfl hl.1 rfl (lv_room (Nat.le_of_ble_eq_true rfl)) dX7_vapour_2 ⟨Nat.le_of_ble_eq_true rfl, Nat.le_of_ble_eq_true rfl⟩) hS (fun q _ h => h.elim) (fun q h => h.elim) (fun q _ h => h.elim) (fun E ce q9 u t H1 locs1 ht hvm hpx hBX hz1 hk1 hS hcell hcv hcl => ?_) (fun r u t H1 locs1 ht hvm hw hB hz1 hk1 hS => hw.elim)
  have hP := P_kept hP hk1
  exact vx_out (fun x hx => (hnt x hx).elim) hlocks hcell hcv hcl (fun t ht _ => ⟨(), trivial, hBX, hS.F ht⟩) (fun z hz => hS.2.2 z hz) (Nat.le_of_ble_eq_true rfl) (Nat.le_of_ble_eq_true rfl)
set_option maxHeartbeats 4000000 in
set_option maxRecDepth 100000 in
/-- isFrozen on the fresh object: always IndexOutOfBoundsException -/
theorem k_LF_isFrozen (l : Launch) (hst : l.stackTraces = false) (D : va_G) (h : Nat) (cs : Nat) (f1 f2 f3 f4 f5 f6 : Value) (md : Int32) (ed : Value) (p0 : Int32) (p1 : Int32) (sz : Nat) : vx_Met l yX7_isFrozen (wsA yX7_isFrozen cX7_isFrozen 3 (some .boolean)) ({ frames := 8, cells := 1, slots := 6, locals := 126 }) (va_Pc [.ref h, .int p0, .int p1] (EV D [] [(h, .inr (11, [.ref cs, f1, f2, f3, f4, f5, f6])), (cs, .inr (4, [.int md, ed, .int 0]))] sz)) QX (XX "java/lang/IndexOutOfBoundsException") 1 6 NoA := by
  refine vx_ofW (cc := cX7_isFrozen) (maxL := 3) (ret := (some .boolean)) (ws' := lw_all) (by decide) rfl ?_
  intro p e s m args below meth c s₁ B hml hnt hv
  obtain ⟨rfl, hsz, hP, hK, hD0, hG, hZ0⟩ := hv
  have hx := B.exec
  have hb := B.bytes
  have hr := B.returns
  have hts0 := atoms_spec (ws := wsA yX7_isFrozen cX7_isFrozen 3 (some .boolean)) B.pre
  have hts : ∀ w ∈ lw_all, w.before _ s = true := fun w h => hts0 w (List.mem_cons_of_mem _ h)
  have hown : s.vm.findClass RX7 = some m.cls := findClass_of_methodNamed B.named
  have hlocks := B.notSynchronized
  subst hsz
  have hD : va_D (fun _ => True) [(h, .inr (11, [.ref cs, f1, f2, f3, f4, f5, f6])), (cs, .inr (4, [.int md, ed, .int 0]))] := hD0
  have hZ : ZZ NoA s s.heap := hZ0
  have hS : va_S NoA s.heap s.heap [] := va_S.rf
  have hP : va_P D vwCl [(h, .inr (11, [.ref cs, f1, f2, f3, f4, f5, f6])), (cs, .inr (4, [.int md, ed, .int 0]))] s.heap := hP
  have hl := lv_entry ([.ref h, .int p0, .int p1]) (n := 3) (Nat.le_of_ble_eq_true rfl)
  rw [lg_entry_eq]
  generalize (lg_sl ([.ref h, .int p0, .int p1]) ++ List.replicate (3 - (lg_sl ([.ref h, .int p0, .int p1])).length) Slot.unset).toArray = ls at hl ⊢
  have hl : lv_has ls 3 [(0, .ref h), (1, .int p0), (2, .int p1)] := hl
  refine lv_aload_n hx hb dX7_isFrozen_0 rfl (lv_at hl 0 rfl) ?_
  refine lv_iload_n hx hb dX7_isFrozen_1 rfl (lv_at hl 1 rfl) ?_
  refine lv_iload_n hx hb dX7_isFrozen_2 rfl (lv_at hl 2 rfl) ?_
  have hPc := hP.sub (ws' := [(h, .inr (11, [.ref cs, f1, f2, f3, f4, f5, f6])), (cs, .inr (4, [.int md, ed, .int 0]))]) [0, 1] rfl
  have hDc := hD.sub (ws' := [(h, .inr (11, [.ref cs, f1, f2, f3, f4, f5, f6])), (cs, .inr (4, [.int md, ed, .int 0]))]) [0, 1] (by decide) rfl
  have hKc := hK.sub (tys' := []) [] rfl
  refine vx_calli (vx_runV (As := [.int p0, .int p1]) (rest := []) ⟨hx, hb, hml, hown, hts⟩ (k_LF_layerAt l hst D h cs f1 f2 f3 f4 f5 f6 md (ed) p0 p1 s.heap.size) (cwV 2 hts (gV q736 q738 qs22 q1 (gA q739)) rfl rfl rfl (by decide +kernel) ⟨Nat.le_of_ble_eq_true rfl, Nat.le_of_ble_eq_true rfl⟩) ⟨EV.fb, va_recv hKc hPc (ci := 11) (q0 := 0) rfl rfl, fun U hU hW => ⟨rfl, EV.at hPc hKc hDc hG (hZ.no hS) U hU hW⟩⟩ rfl rfl hl.1 rfl (lv_room (Nat.le_of_ble_eq_true rfl)) dX7_isFrozen_3 ⟨Nat.le_of_ble_eq_true rfl, Nat.le_of_ble_eq_true rfl⟩) hS (fun q _ h => h.elim) (fun q h => h.elim) (fun q _ h => h.elim) (fun E ce q9 u t H1 locs1 ht hvm hpx hBX hz1 hk1 hS hcell hcv hcl => ?_) (fun r u t H1 locs1 ht hvm hw hB hz1 hk1 hS => hw.elim)
  have hP := P_kept hP hk1
  exact vx_out (fun x hx => (hnt x hx).elim) hlocks hcell hcv hcl (fun t ht _ => ⟨(), trivial, hBX, hS.F ht⟩) (fun z hz => hS.2.2 z hz) (Nat.le_of_ble_eq_true rfl) (Nat.le_of_ble_eq_true rfl)
set_option maxHeartbeats 4000000 in
set_option maxRecDepth 100000 in
/-- frost on the fresh object: always IndexOutOfBoundsException -/
theorem k_LF_frost (l : Launch) (hst : l.stackTraces = false) (D : va_G) (h : Nat) (cs : Nat) (f1 f2 f3 f4 f5 f6 : Value) (md : Int32) (ed : Value) (p0 : Int32) (p1 : Int32) (sz : Nat) : vx_Met l yX7_frost (wsA yX7_frost cX7_frost 3 (some .int)) ({ frames := 8, cells := 1, slots := 6, locals := 126 }) (va_Pc [.ref h, .int p0, .int p1] (EV D [] [(h, .inr (11, [.ref cs, f1, f2, f3, f4, f5, f6])), (cs, .inr (4, [.int md, ed, .int 0]))] sz)) QX (XX "java/lang/IndexOutOfBoundsException") 1 6 NoA := by
  refine vx_ofW (cc := cX7_frost) (maxL := 3) (ret := (some .int)) (ws' := lw_all) (by decide) rfl ?_
  intro p e s m args below meth c s₁ B hml hnt hv
  obtain ⟨rfl, hsz, hP, hK, hD0, hG, hZ0⟩ := hv
  have hx := B.exec
  have hb := B.bytes
  have hr := B.returns
  have hts0 := atoms_spec (ws := wsA yX7_frost cX7_frost 3 (some .int)) B.pre
  have hts : ∀ w ∈ lw_all, w.before _ s = true := fun w h => hts0 w (List.mem_cons_of_mem _ h)
  have hown : s.vm.findClass RX7 = some m.cls := findClass_of_methodNamed B.named
  have hlocks := B.notSynchronized
  subst hsz
  have hD : va_D (fun _ => True) [(h, .inr (11, [.ref cs, f1, f2, f3, f4, f5, f6])), (cs, .inr (4, [.int md, ed, .int 0]))] := hD0
  have hZ : ZZ NoA s s.heap := hZ0
  have hS : va_S NoA s.heap s.heap [] := va_S.rf
  have hP : va_P D vwCl [(h, .inr (11, [.ref cs, f1, f2, f3, f4, f5, f6])), (cs, .inr (4, [.int md, ed, .int 0]))] s.heap := hP
  have hl := lv_entry ([.ref h, .int p0, .int p1]) (n := 3) (Nat.le_of_ble_eq_true rfl)
  rw [lg_entry_eq]
  generalize (lg_sl ([.ref h, .int p0, .int p1]) ++ List.replicate (3 - (lg_sl ([.ref h, .int p0, .int p1])).length) Slot.unset).toArray = ls at hl ⊢
  have hl : lv_has ls 3 [(0, .ref h), (1, .int p0), (2, .int p1)] := hl
  refine lv_aload_n hx hb dX7_frost_0 rfl (lv_at hl 0 rfl) ?_
  refine lv_iload_n hx hb dX7_frost_1 rfl (lv_at hl 1 rfl) ?_
  refine lv_iload_n hx hb dX7_frost_2 rfl (lv_at hl 2 rfl) ?_
  have hPc := hP.sub (ws' := [(h, .inr (11, [.ref cs, f1, f2, f3, f4, f5, f6])), (cs, .inr (4, [.int md, ed, .int 0]))]) [0, 1] rfl
  have hDc := hD.sub (ws' := [(h, .inr (11, [.ref cs, f1, f2, f3, f4, f5, f6])), (cs, .inr (4, [.int md, ed, .int 0]))]) [0, 1] (by decide) rfl
  have hKc := hK.sub (tys' := []) [] rfl
  refine vx_calli (vx_runV (As := [.int p0, .int p1]) (rest := []) ⟨hx, hb, hml, hown, hts⟩ (k_LF_layerAt l hst D h cs f1 f2 f3 f4 f5 f6 md (ed) p0 p1 s.heap.size) (cwV 2 hts (gV q736 q738 qs22 q1 (gA q739)) rfl rfl rfl (by decide +kernel) ⟨Nat.le_of_ble_eq_true rfl, Nat.le_of_ble_eq_true rfl⟩) ⟨EV.fb, va_recv hKc hPc (ci := 11) (q0 := 0) rfl rfl, fun U hU hW => ⟨rfl, EV.at hPc hKc hDc hG (hZ.no hS) U hU hW⟩⟩ rfl rfl hl.1 rfl (lv_room (Nat.le_of_ble_eq_true rfl)) dX7_frost_3 ⟨Nat.le_of_ble_eq_true rfl, Nat.le_of_ble_eq_true rfl⟩) hS (fun q _ h => h.elim) (fun q h => h.elim) (fun q _ h => h.elim) (fun E ce q9 u t H1 locs1 ht hvm hpx hBX hz1 hk1 hS hcell hcv hcl => ?_) (fun r u t H1 locs1 ht hvm hw hB hz1 hk1 hS => hw.elim)
  have hP := P_kept hP hk1
  exact vx_out (fun x hx => (hnt x hx).elim) hlocks hcell hcv hcl (fun t ht _ => ⟨(), trivial, hBX, hS.F ht⟩) (fun z hz => hS.2.2 z hz) (Nat.le_of_ble_eq_true rfl) (Nat.le_of_ble_eq_true rfl)
set_option maxHeartbeats 4000000 in
set_option maxRecDepth 100000 in
/-- heave on the fresh object: always IndexOutOfBoundsException -/
theorem k_LF_heave (l : Launch) (hst : l.stackTraces = false) (D : va_G) (h : Nat) (cs : Nat) (f1 f2 f3 f4 f5 f6 : Value) (md : Int32) (ed : Value) (p0 : Int32) (sz : Nat) : vx_Met l yX7_heave (wsA yX7_heave cX7_heave 2 (some .int)) ({ frames := 7, cells := 1, slots := 6, locals := 103 }) (va_Pc [.ref h, .int p0] (EV D [] [(h, .inr (11, [.ref cs, f1, f2, f3, f4, f5, f6])), (cs, .inr (4, [.int md, ed, .int 0]))] sz)) QX (XX "java/lang/IndexOutOfBoundsException") 1 6 NoA := by
  refine vx_ofW (cc := cX7_heave) (maxL := 2) (ret := (some .int)) (ws' := lw_all) (by decide) rfl ?_
  intro p e s m args below meth c s₁ B hml hnt hv
  obtain ⟨rfl, hsz, hP, hK, hD0, hG, hZ0⟩ := hv
  have hx := B.exec
  have hb := B.bytes
  have hr := B.returns
  have hts0 := atoms_spec (ws := wsA yX7_heave cX7_heave 2 (some .int)) B.pre
  have hts : ∀ w ∈ lw_all, w.before _ s = true := fun w h => hts0 w (List.mem_cons_of_mem _ h)
  have hown : s.vm.findClass RX7 = some m.cls := findClass_of_methodNamed B.named
  have hlocks := B.notSynchronized
  subst hsz
  have hD : va_D (fun _ => True) [(h, .inr (11, [.ref cs, f1, f2, f3, f4, f5, f6])), (cs, .inr (4, [.int md, ed, .int 0]))] := hD0
  have hZ : ZZ NoA s s.heap := hZ0
  have hS : va_S NoA s.heap s.heap [] := va_S.rf
  have hP : va_P D vwCl [(h, .inr (11, [.ref cs, f1, f2, f3, f4, f5, f6])), (cs, .inr (4, [.int md, ed, .int 0]))] s.heap := hP
  have hl := lv_entry ([.ref h, .int p0]) (n := 2) (Nat.le_of_ble_eq_true rfl)
  rw [lg_entry_eq]
  generalize (lg_sl ([.ref h, .int p0]) ++ List.replicate (2 - (lg_sl ([.ref h, .int p0])).length) Slot.unset).toArray = ls at hl ⊢
  have hl : lv_has ls 2 [(0, .ref h), (1, .int p0)] := hl
  refine lv_aload_n hx hb dX7_heave_0 rfl (lv_at hl 0 rfl) ?_
  refine lv_iload_n hx hb dX7_heave_1 rfl (lv_at hl 1 rfl) ?_
  have hPc := hP.sub (ws' := [(h, .inr (11, [.ref cs, f1, f2, f3, f4, f5, f6])), (cs, .inr (4, [.int md, ed, .int 0]))]) [0, 1] rfl
  have hDc := hD.sub (ws' := [(h, .inr (11, [.ref cs, f1, f2, f3, f4, f5, f6])), (cs, .inr (4, [.int md, ed, .int 0]))]) [0, 1] (by decide) rfl
  have hKc := hK.sub (tys' := []) [] rfl
  refine vx_calli (vx_runV (As := [.int p0]) (rest := []) ⟨hx, hb, hml, hown, hts⟩ (k_LF_columnAt l hst D h cs f1 f2 f3 f4 f5 f6 md (ed) p0 s.heap.size) (cwV 1 hts (gV q188 q190 qs1 q1 (gA q191)) rfl rfl rfl (by decide +kernel) ⟨Nat.le_of_ble_eq_true rfl, Nat.le_of_ble_eq_true rfl⟩) ⟨EV.fb, va_recv hKc hPc (ci := 11) (q0 := 0) rfl rfl, fun U hU hW => ⟨rfl, EV.at hPc hKc hDc hG (hZ.no hS) U hU hW⟩⟩ rfl rfl hl.1 rfl (lv_room (Nat.le_of_ble_eq_true rfl)) dX7_heave_2 ⟨Nat.le_of_ble_eq_true rfl, Nat.le_of_ble_eq_true rfl⟩) hS (fun q _ h => h.elim) (fun q h => h.elim) (fun q _ h => h.elim) (fun E ce q9 u t H1 locs1 ht hvm hpx hBX hz1 hk1 hS hcell hcv hcl => ?_) (fun r u t H1 locs1 ht hvm hw hB hz1 hk1 hS => hw.elim)
  have hP := P_kept hP hk1
  exact vx_out (fun x hx => (hnt x hx).elim) hlocks hcell hcv hcl (fun t ht _ => ⟨(), trivial, hBX, hS.F ht⟩) (fun z hz => hS.2.2 z hz) (Nat.le_of_ble_eq_true rfl) (Nat.le_of_ble_eq_true rfl)
set_option maxHeartbeats 4000000 in
set_option maxRecDepth 100000 in
/-- crack on the fresh object: always IndexOutOfBoundsException -/
theorem k_LF_crack (l : Launch) (hst : l.stackTraces = false) (D : va_G) (h : Nat) (cs : Nat) (f1 f2 f3 f4 f5 f6 : Value) (md : Int32) (ed : Value) (p0 : Int32) (sz : Nat) : vx_Met l yX7_crack (wsA yX7_crack cX7_crack 2 (some .int)) ({ frames := 7, cells := 1, slots := 6, locals := 103 }) (va_Pc [.ref h, .int p0] (EV D [] [(h, .inr (11, [.ref cs, f1, f2, f3, f4, f5, f6])), (cs, .inr (4, [.int md, ed, .int 0]))] sz)) QX (XX "java/lang/IndexOutOfBoundsException") 1 6 NoA := by
  refine vx_ofW (cc := cX7_crack) (maxL := 2) (ret := (some .int)) (ws' := lw_all) (by decide) rfl ?_
  intro p e s m args below meth c s₁ B hml hnt hv
  obtain ⟨rfl, hsz, hP, hK, hD0, hG, hZ0⟩ := hv
  have hx := B.exec
  have hb := B.bytes
  have hr := B.returns
  have hts0 := atoms_spec (ws := wsA yX7_crack cX7_crack 2 (some .int)) B.pre
  have hts : ∀ w ∈ lw_all, w.before _ s = true := fun w h => hts0 w (List.mem_cons_of_mem _ h)
  have hown : s.vm.findClass RX7 = some m.cls := findClass_of_methodNamed B.named
  have hlocks := B.notSynchronized
  subst hsz
  have hD : va_D (fun _ => True) [(h, .inr (11, [.ref cs, f1, f2, f3, f4, f5, f6])), (cs, .inr (4, [.int md, ed, .int 0]))] := hD0
  have hZ : ZZ NoA s s.heap := hZ0
  have hS : va_S NoA s.heap s.heap [] := va_S.rf
  have hP : va_P D vwCl [(h, .inr (11, [.ref cs, f1, f2, f3, f4, f5, f6])), (cs, .inr (4, [.int md, ed, .int 0]))] s.heap := hP
  have hl := lv_entry ([.ref h, .int p0]) (n := 2) (Nat.le_of_ble_eq_true rfl)
  rw [lg_entry_eq]
  generalize (lg_sl ([.ref h, .int p0]) ++ List.replicate (2 - (lg_sl ([.ref h, .int p0])).length) Slot.unset).toArray = ls at hl ⊢
  have hl : lv_has ls 2 [(0, .ref h), (1, .int p0)] := hl
  refine lv_aload_n hx hb dX7_crack_0 rfl (lv_at hl 0 rfl) ?_
  refine lv_iload_n hx hb dX7_crack_1 rfl (lv_at hl 1 rfl) ?_
  have hPc := hP.sub (ws' := [(h, .inr (11, [.ref cs, f1, f2, f3, f4, f5, f6])), (cs, .inr (4, [.int md, ed, .int 0]))]) [0, 1] rfl
  have hDc := hD.sub (ws' := [(h, .inr (11, [.ref cs, f1, f2, f3, f4, f5, f6])), (cs, .inr (4, [.int md, ed, .int 0]))]) [0, 1] (by decide) rfl
  have hKc := hK.sub (tys' := []) [] rfl
  refine vx_calli (vx_runV (As := [.int p0]) (rest := []) ⟨hx, hb, hml, hown, hts⟩ (k_LF_columnAt l hst D h cs f1 f2 f3 f4 f5 f6 md (ed) p0 s.heap.size) (cwV 1 hts (gV q188 q190 qs1 q1 (gA q191)) rfl rfl rfl (by decide +kernel) ⟨Nat.le_of_ble_eq_true rfl, Nat.le_of_ble_eq_true rfl⟩) ⟨EV.fb, va_recv hKc hPc (ci := 11) (q0 := 0) rfl rfl, fun U hU hW => ⟨rfl, EV.at hPc hKc hDc hG (hZ.no hS) U hU hW⟩⟩ rfl rfl hl.1 rfl (lv_room (Nat.le_of_ble_eq_true rfl)) dX7_crack_2 ⟨Nat.le_of_ble_eq_true rfl, Nat.le_of_ble_eq_true rfl⟩) hS (fun q _ h => h.elim) (fun q h => h.elim) (fun q _ h => h.elim) (fun E ce q9 u t H1 locs1 ht hvm hpx hBX hz1 hk1 hS hcell hcv hcl => ?_) (fun r u t H1 locs1 ht hvm hw hB hz1 hk1 hS => hw.elim)
  have hP := P_kept hP hk1
  exact vx_out (fun x hx => (hnt x hx).elim) hlocks hcell hcv hcl (fun t ht _ => ⟨(), trivial, hBX, hS.F ht⟩) (fun z hz => hS.2.2 z hz) (Nat.le_of_ble_eq_true rfl) (Nat.le_of_ble_eq_true rfl)
set_option maxHeartbeats 4000000 in
set_option maxRecDepth 100000 in
/-- tension on the fresh object: always IndexOutOfBoundsException -/
theorem k_LF_tension (l : Launch) (hst : l.stackTraces = false) (D : va_G) (h : Nat) (cs : Nat) (f1 f2 f3 f4 f5 f6 : Value) (md : Int32) (ed : Value) (p0 : Int32) (p1 : Int32) (sz : Nat) : vx_Met l yX7_tension (wsA yX7_tension cX7_tension 5 (some .int)) ({ frames := 8, cells := 1, slots := 6, locals := 126 }) (va_Pc [.ref h, .int p0, .int p1] (EV D [] [(h, .inr (11, [.ref cs, f1, f2, f3, f4, f5, f6])), (cs, .inr (4, [.int md, ed, .int 0]))] sz)) QX (XX "java/lang/IndexOutOfBoundsException") 1 6 NoA := by
  refine vx_ofW (cc := cX7_tension) (maxL := 5) (ret := (some .int)) (ws' := lw_all) (by decide) rfl ?_
  intro p e s m args below meth c s₁ B hml hnt hv
  obtain ⟨rfl, hsz, hP, hK, hD0, hG, hZ0⟩ := hv
  have hx := B.exec
  have hb := B.bytes
  have hr := B.returns
  have hts0 := atoms_spec (ws := wsA yX7_tension cX7_tension 5 (some .int)) B.pre
  have hts : ∀ w ∈ lw_all, w.before _ s = true := fun w h => hts0 w (List.mem_cons_of_mem _ h)
  have hown : s.vm.findClass RX7 = some m.cls := findClass_of_methodNamed B.named
  have hlocks := B.notSynchronized
  subst hsz
  have hD : va_D (fun _ => True) [(h, .inr (11, [.ref cs, f1, f2, f3, f4, f5, f6])), (cs, .inr (4, [.int md, ed, .int 0]))] := hD0
  have hZ : ZZ NoA s s.heap := hZ0
  have hS : va_S NoA s.heap s.heap [] := va_S.rf
  have hP : va_P D vwCl [(h, .inr (11, [.ref cs, f1, f2, f3, f4, f5, f6])), (cs, .inr (4, [.int md, ed, .int 0]))] s.heap := hP
  have hl := lv_entry ([.ref h, .int p0, .int p1]) (n := 5) (Nat.le_of_ble_eq_true rfl)
  rw [lg_entry_eq]
  generalize (lg_sl ([.ref h, .int p0, .int p1]) ++ List.replicate (5 - (lg_sl ([.ref h, .int p0, .int p1])).length) Slot.unset).toArray = ls at hl ⊢
  have hl : lv_has ls 5 [(0, .ref h), (1, .int p0), (2, .int p1)] := hl
  refine lv_aload_n hx hb dX7_tension_0 rfl (lv_at hl 0 rfl) ?_
  refine lv_iload_n hx hb dX7_tension_1 rfl (lv_at hl 1 rfl) ?_
  refine lv_iload_n hx hb dX7_tension_2 rfl (lv_at hl 2 rfl) ?_
  have hPc := hP.sub (ws' := [(h, .inr (11, [.ref cs, f1, f2, f3, f4, f5, f6])), (cs, .inr (4, [.int md, ed, .int 0]))]) [0, 1] rfl
  have hDc := hD.sub (ws' := [(h, .inr (11, [.ref cs, f1, f2, f3, f4, f5, f6])), (cs, .inr (4, [.int md, ed, .int 0]))]) [0, 1] (by decide) rfl
  have hKc := hK.sub (tys' := []) [] rfl
  refine vx_calli (vx_runV (As := [.int p0, .int p1]) (rest := []) ⟨hx, hb, hml, hown, hts⟩ (k_LF_layerAt l hst D h cs f1 f2 f3 f4 f5 f6 md (ed) p0 p1 s.heap.size) (cwV 2 hts (gV q736 q738 qs22 q1 (gA q739)) rfl rfl rfl (by decide +kernel) ⟨Nat.le_of_ble_eq_true rfl, Nat.le_of_ble_eq_true rfl⟩) ⟨EV.fb, va_recv hKc hPc (ci := 11) (q0 := 0) rfl rfl, fun U hU hW => ⟨rfl, EV.at hPc hKc hDc hG (hZ.no hS) U hU hW⟩⟩ rfl rfl hl.1 rfl (lv_room (Nat.le_of_ble_eq_true rfl)) dX7_tension_3 ⟨Nat.le_of_ble_eq_true rfl, Nat.le_of_ble_eq_true rfl⟩) hS (fun q _ h => h.elim) (fun q h => h.elim) (fun q _ h => h.elim) (fun E ce q9 u t H1 locs1 ht hvm hpx hBX hz1 hk1 hS hcell hcv hcl => ?_) (fun r u t H1 locs1 ht hvm hw hB hz1 hk1 hS => hw.elim)
  have hP := P_kept hP hk1
  exact vx_out (fun x hx => (hnt x hx).elim) hlocks hcell hcv hcl (fun t ht _ => ⟨(), trivial, hBX, hS.F ht⟩) (fun z hz => hS.2.2 z hz) (Nat.le_of_ble_eq_true rfl) (Nat.le_of_ble_eq_true rfl)
set_option maxHeartbeats 4000000 in
set_option maxRecDepth 100000 in
/-- reflection on the fresh object: always IndexOutOfBoundsException -/
theorem k_LF_reflection (l : Launch) (hst : l.stackTraces = false) (D : va_G) (h : Nat) (cs : Nat) (f1 f2 f3 f4 f5 f6 : Value) (md : Int32) (ed : Value) (p0 : Int32) (p1 : Int32) (sz : Nat) : vx_Met l yX7_reflection (wsA yX7_reflection cX7_reflection 5 (some .int)) ({ frames := 8, cells := 1, slots := 6, locals := 126 }) (va_Pc [.ref h, .int p0, .int p1] (EV D [] [(h, .inr (11, [.ref cs, f1, f2, f3, f4, f5, f6])), (cs, .inr (4, [.int md, ed, .int 0]))] sz)) QX (XX "java/lang/IndexOutOfBoundsException") 1 6 NoA := by
  refine vx_ofW (cc := cX7_reflection) (maxL := 5) (ret := (some .int)) (ws' := lw_all) (by decide) rfl ?_
  intro p e s m args below meth c s₁ B hml hnt hv
  obtain ⟨rfl, hsz, hP, hK, hD0, hG, hZ0⟩ := hv
  have hx := B.exec
  have hb := B.bytes
  have hr := B.returns
  have hts0 := atoms_spec (ws := wsA yX7_reflection cX7_reflection 5 (some .int)) B.pre
  have hts : ∀ w ∈ lw_all, w.before _ s = true := fun w h => hts0 w (List.mem_cons_of_mem _ h)
  have hown : s.vm.findClass RX7 = some m.cls := findClass_of_methodNamed B.named
  have hlocks := B.notSynchronized
  subst hsz
  have hD : va_D (fun _ => True) [(h, .inr (11, [.ref cs, f1, f2, f3, f4, f5, f6])), (cs, .inr (4, [.int md, ed, .int 0]))] := hD0
  have hZ : ZZ NoA s s.heap := hZ0
  have hS : va_S NoA s.heap s.heap [] := va_S.rf
  have hP : va_P D vwCl [(h, .inr (11, [.ref cs, f1, f2, f3, f4, f5, f6])), (cs, .inr (4, [.int md, ed, .int 0]))] s.heap := hP
  have hl := lv_entry ([.ref h, .int p0, .int p1]) (n := 5) (Nat.le_of_ble_eq_true rfl)
  rw [lg_entry_eq]
  generalize (lg_sl ([.ref h, .int p0, .int p1]) ++ List.replicate (5 - (lg_sl ([.ref h, .int p0, .int p1])).length) Slot.unset).toArray = ls at hl ⊢
  have hl : lv_has ls 5 [(0, .ref h), (1, .int p0), (2, .int p1)] := hl
  refine lv_aload_n hx hb dX7_reflection_0 rfl (lv_at hl 0 rfl) ?_
  refine lv_iload_n hx hb dX7_reflection_1 rfl (lv_at hl 1 rfl) ?_
  refine lv_iload_n hx hb dX7_reflection_2 rfl (lv_at hl 2 rfl) ?_
  have hPc := hP.sub (ws' := [(h, .inr (11, [.ref cs, f1, f2, f3, f4, f5, f6])), (cs, .inr (4, [.int md, ed, .int 0]))]) [0, 1] rfl
  have hDc := hD.sub (ws' := [(h, .inr (11, [.ref cs, f1, f2, f3, f4, f5, f6])), (cs, .inr (4, [.int md, ed, .int 0]))]) [0, 1] (by decide) rfl
  have hKc := hK.sub (tys' := []) [] rfl
  refine vx_calli (vx_runV (As := [.int p0, .int p1]) (rest := []) ⟨hx, hb, hml, hown, hts⟩ (k_LF_layerAt l hst D h cs f1 f2 f3 f4 f5 f6 md (ed) p0 p1 s.heap.size) (cwV 2 hts (gV q736 q738 qs22 q1 (gA q739)) rfl rfl rfl (by decide +kernel) ⟨Nat.le_of_ble_eq_true rfl, Nat.le_of_ble_eq_true rfl⟩) ⟨EV.fb, va_recv hKc hPc (ci := 11) (q0 := 0) rfl rfl, fun U hU hW => ⟨rfl, EV.at hPc hKc hDc hG (hZ.no hS) U hU hW⟩⟩ rfl rfl hl.1 rfl (lv_room (Nat.le_of_ble_eq_true rfl)) dX7_reflection_3 ⟨Nat.le_of_ble_eq_true rfl, Nat.le_of_ble_eq_true rfl⟩) hS (fun q _ h => h.elim) (fun q h => h.elim) (fun q _ h => h.elim) (fun E ce q9 u t H1 locs1 ht hvm hpx hBX hz1 hk1 hS hcell hcv hcl => ?_) (fun r u t H1 locs1 ht hvm hw hB hz1 hk1 hS => hw.elim)
  have hP := P_kept hP hk1
  exact vx_out (fun x hx => (hnt x hx).elim) hlocks hcell hcv hcl (fun t ht _ => ⟨(), trivial, hBX, hS.F ht⟩) (fun z hz => hS.2.2 z hz) (Nat.le_of_ble_eq_true rfl) (Nat.le_of_ble_eq_true rfl)
set_option maxHeartbeats 4000000 in
set_option maxRecDepth 100000 in
/-- setRight on the fresh object: always IndexOutOfBoundsException -/
theorem k_LF_setRight (l : Launch) (hst : l.stackTraces = false) (D : va_G) (h : Nat) (cs : Nat) (f1 f2 f3 f4 f5 f6 : Value) (md : Int32) (ed : Value) (p0 : Int32) (sz : Nat) : vx_Met l yX7_setRight (wsA yX7_setRight cX7_setRight 4 (some .int)) ({ frames := 7, cells := 1, slots := 6, locals := 103 }) (va_Pc [.ref h, .int p0] (EV D [] [(h, .inr (11, [.ref cs, f1, f2, f3, f4, f5, f6])), (cs, .inr (4, [.int md, ed, .int 0]))] sz)) QX (XX "java/lang/IndexOutOfBoundsException") 1 6 NoA := by
  refine vx_ofW (cc := cX7_setRight) (maxL := 4) (ret := (some .int)) (ws' := lw_all) (by decide) rfl ?_
  intro p e s m args below meth c s₁ B hml hnt hv
  obtain ⟨rfl, hsz, hP, hK, hD0, hG, hZ0⟩ := hv
  have hx := B.exec
  have hb := B.bytes
  have hr := B.returns
  have hts0 := atoms_spec (ws := wsA yX7_setRight cX7_setRight 4 (some .int)) B.pre
  have hts : ∀ w ∈ lw_all, w.before _ s = true := fun w h => hts0 w (List.mem_cons_of_mem _ h)
  have hown : s.vm.findClass RX7 = some m.cls := findClass_of_methodNamed B.named
  have hlocks := B.notSynchronized
  subst hsz
  have hD : va_D (fun _ => True) [(h, .inr (11, [.ref cs, f1, f2, f3, f4, f5, f6])), (cs, .inr (4, [.int md, ed, .int 0]))] := hD0
  have hZ : ZZ NoA s s.heap := hZ0
  have hS : va_S NoA s.heap s.heap [] := va_S.rf
  have hP : va_P D vwCl [(h, .inr (11, [.ref cs, f1, f2, f3, f4, f5, f6])), (cs, .inr (4, [.int md, ed, .int 0]))] s.heap := hP
  have hl := lv_entry ([.ref h, .int p0]) (n := 4) (Nat.le_of_ble_eq_true rfl)
  rw [lg_entry_eq]
  generalize (lg_sl ([.ref h, .int p0]) ++ List.replicate (4 - (lg_sl ([.ref h, .int p0])).length) Slot.unset).toArray = ls at hl ⊢
  have hl : lv_has ls 4 [(0, .ref h), (1, .int p0)] := hl
  refine lv_aload_n hx hb dX7_setRight_0 rfl (lv_at hl 0 rfl) ?_
  refine lv_iload_n hx hb dX7_setRight_1 rfl (lv_at hl 1 rfl) ?_
  have hPc := hP.sub (ws' := [(h, .inr (11, [.ref cs, f1, f2, f3, f4, f5, f6])), (cs, .inr (4, [.int md, ed, .int 0]))]) [0, 1] rfl
  have hDc := hD.sub (ws' := [(h, .inr (11, [.ref cs, f1, f2, f3, f4, f5, f6])), (cs, .inr (4, [.int md, ed, .int 0]))]) [0, 1] (by decide) rfl
  have hKc := hK.sub (tys' := []) [] rfl
  refine vx_calli (vx_runV (As := [.int p0]) (rest := []) ⟨hx, hb, hml, hown, hts⟩ (k_LF_columnAt l hst D h cs f1 f2 f3 f4 f5 f6 md (ed) p0 s.heap.size) (cwV 1 hts (gV q188 q190 qs1 q1 (gA q191)) rfl rfl rfl (by decide +kernel) ⟨Nat.le_of_ble_eq_true rfl, Nat.le_of_ble_eq_true rfl⟩) ⟨EV.fb, va_recv hKc hPc (ci := 11) (q0 := 0) rfl rfl, fun U hU hW => ⟨rfl, EV.at hPc hKc hDc hG (hZ.no hS) U hU hW⟩⟩ rfl rfl hl.1 rfl (lv_room (Nat.le_of_ble_eq_true rfl)) dX7_setRight_2 ⟨Nat.le_of_ble_eq_true rfl, Nat.le_of_ble_eq_true rfl⟩) hS (fun q _ h => h.elim) (fun q h => h.elim) (fun q _ h => h.elim) (fun E ce q9 u t H1 locs1 ht hvm hpx hBX hz1 hk1 hS hcell hcv hcl => ?_) (fun r u t H1 locs1 ht hvm hw hB hz1 hk1 hS => hw.elim)
  have hP := P_kept hP hk1
  exact vx_out (fun x hx => (hnt x hx).elim) hlocks hcell hcv hcl (fun t ht _ => ⟨(), trivial, hBX, hS.F ht⟩) (fun z hz => hS.2.2 z hz) (Nat.le_of_ble_eq_true rfl) (Nat.le_of_ble_eq_true rfl)
set_option maxHeartbeats 4000000 in
set_option maxRecDepth 100000 in
/-- weigh on the fresh object: always IndexOutOfBoundsException -/
theorem k_LF_weigh (l : Launch) (hst : l.stackTraces = false) (D : va_G) (h : Nat) (cs : Nat) (f1 f2 f3 f4 f5 f6 : Value) (md : Int32) (ed : Value) (p0 : Int32) (sz : Nat) : vx_Met l yX7_weigh (wsA yX7_weigh cX7_weigh 4 (some .int)) ({ frames := 7, cells := 1, slots := 6, locals := 103 }) (va_Pc [.ref h, .int p0] (EV D [] [(h, .inr (11, [.ref cs, f1, f2, f3, f4, f5, f6])), (cs, .inr (4, [.int md, ed, .int 0]))] sz)) QX (XX "java/lang/IndexOutOfBoundsException") 1 6 NoA := by
  refine vx_ofW (cc := cX7_weigh) (maxL := 4) (ret := (some .int)) (ws' := lw_all) (by decide) rfl ?_
  intro p e s m args below meth c s₁ B hml hnt hv
  obtain ⟨rfl, hsz, hP, hK, hD0, hG, hZ0⟩ := hv
  have hx := B.exec
  have hb := B.bytes
  have hr := B.returns
  have hts0 := atoms_spec (ws := wsA yX7_weigh cX7_weigh 4 (some .int)) B.pre
  have hts : ∀ w ∈ lw_all, w.before _ s = true := fun w h => hts0 w (List.mem_cons_of_mem _ h)
  have hown : s.vm.findClass RX7 = some m.cls := findClass_of_methodNamed B.named
  have hlocks := B.notSynchronized
  subst hsz
  have hD : va_D (fun _ => True) [(h, .inr (11, [.ref cs, f1, f2, f3, f4, f5, f6])), (cs, .inr (4, [.int md, ed, .int 0]))] := hD0
  have hZ : ZZ NoA s s.heap := hZ0
  have hS : va_S NoA s.heap s.heap [] := va_S.rf
  have hP : va_P D vwCl [(h, .inr (11, [.ref cs, f1, f2, f3, f4, f5, f6])), (cs, .inr (4, [.int md, ed, .int 0]))] s.heap := hP
  have hl := lv_entry ([.ref h, .int p0]) (n := 4) (Nat.le_of_ble_eq_true rfl)
  rw [lg_entry_eq]
  generalize (lg_sl ([.ref h, .int p0]) ++ List.replicate (4 - (lg_sl ([.ref h, .int p0])).length) Slot.unset).toArray = ls at hl ⊢
  have hl : lv_has ls 4 [(0, .ref h), (1, .int p0)] := hl
  refine lv_aload_n hx hb dX7_weigh_0 rfl (lv_at hl 0 rfl) ?_
  refine lv_iload_n hx hb dX7_weigh_1 rfl (lv_at hl 1 rfl) ?_
  have hPc := hP.sub (ws' := [(h, .inr (11, [.ref cs, f1, f2, f3, f4, f5, f6])), (cs, .inr (4, [.int md, ed, .int 0]))]) [0, 1] rfl
  have hDc := hD.sub (ws' := [(h, .inr (11, [.ref cs, f1, f2, f3, f4, f5, f6])), (cs, .inr (4, [.int md, ed, .int 0]))]) [0, 1] (by decide) rfl
  have hKc := hK.sub (tys' := []) [] rfl
  refine vx_calli (vx_runV (As := [.int p0]) (rest := []) ⟨hx, hb, hml, hown, hts⟩ (k_LF_columnAt l hst D h cs f1 f2 f3 f4 f5 f6 md (ed) p0 s.heap.size) (cwV 1 hts (gV q188 q190 qs1 q1 (gA q191)) rfl rfl rfl (by decide +kernel) ⟨Nat.le_of_ble_eq_true rfl, Nat.le_of_ble_eq_true rfl⟩) ⟨EV.fb, va_recv hKc hPc (ci := 11) (q0 := 0) rfl rfl, fun U hU hW => ⟨rfl, EV.at hPc hKc hDc hG (hZ.no hS) U hU hW⟩⟩ rfl rfl hl.1 rfl (lv_room (Nat.le_of_ble_eq_true rfl)) dX7_weigh_2 ⟨Nat.le_of_ble_eq_true rfl, Nat.le_of_ble_eq_true rfl⟩) hS (fun q _ h => h.elim) (fun q h => h.elim) (fun q _ h => h.elim) (fun E ce q9 u t H1 locs1 ht hvm hpx hBX hz1 hk1 hS hcell hcv hcl => ?_) (fun r u t H1 locs1 ht hvm hw hB hz1 hk1 hS => hw.elim)
  have hP := P_kept hP hk1
  exact vx_out (fun x hx => (hnt x hx).elim) hlocks hcell hcv hcl (fun t ht _ => ⟨(), trivial, hBX, hS.F ht⟩) (fun z hz => hS.2.2 z hz) (Nat.le_of_ble_eq_true rfl) (Nat.le_of_ble_eq_true rfl)
set_option maxHeartbeats 4000000 in
set_option maxRecDepth 100000 in
/-- fines on the fresh object: always IndexOutOfBoundsException -/
theorem k_LF_fines (l : Launch) (hst : l.stackTraces = false) (D : va_G) (h : Nat) (cs : Nat) (f1 f2 f3 f4 f5 f6 : Value) (md : Int32) (ed : Value) (p0 : Int32) (sz : Nat) : vx_Met l yX7_fines (wsA yX7_fines cX7_fines 2 (some .long)) ({ frames := 7, cells := 1, slots := 6, locals := 103 }) (va_Pc [.ref h, .int p0] (EV D [] [(h, .inr (11, [.ref cs, f1, f2, f3, f4, f5, f6])), (cs, .inr (4, [.int md, ed, .int 0]))] sz)) QX (XX "java/lang/IndexOutOfBoundsException") 1 6 NoA := by
  refine vx_ofW (cc := cX7_fines) (maxL := 2) (ret := (some .long)) (ws' := lw_all) (by decide) rfl ?_
  intro p e s m args below meth c s₁ B hml hnt hv
  obtain ⟨rfl, hsz, hP, hK, hD0, hG, hZ0⟩ := hv
  have hx := B.exec
  have hb := B.bytes
  have hr := B.returns
  have hts0 := atoms_spec (ws := wsA yX7_fines cX7_fines 2 (some .long)) B.pre
  have hts : ∀ w ∈ lw_all, w.before _ s = true := fun w h => hts0 w (List.mem_cons_of_mem _ h)
  have hown : s.vm.findClass RX7 = some m.cls := findClass_of_methodNamed B.named
  have hlocks := B.notSynchronized
  subst hsz
  have hD : va_D (fun _ => True) [(h, .inr (11, [.ref cs, f1, f2, f3, f4, f5, f6])), (cs, .inr (4, [.int md, ed, .int 0]))] := hD0
  have hZ : ZZ NoA s s.heap := hZ0
  have hS : va_S NoA s.heap s.heap [] := va_S.rf
  have hP : va_P D vwCl [(h, .inr (11, [.ref cs, f1, f2, f3, f4, f5, f6])), (cs, .inr (4, [.int md, ed, .int 0]))] s.heap := hP
  have hl := lv_entry ([.ref h, .int p0]) (n := 2) (Nat.le_of_ble_eq_true rfl)
  rw [lg_entry_eq]
  generalize (lg_sl ([.ref h, .int p0]) ++ List.replicate (2 - (lg_sl ([.ref h, .int p0])).length) Slot.unset).toArray = ls at hl ⊢
  have hl : lv_has ls 2 [(0, .ref h), (1, .int p0)] := hl
  refine lv_aload_n hx hb dX7_fines_0 rfl (lv_at hl 0 rfl) ?_
  refine lv_iload_n hx hb dX7_fines_1 rfl (lv_at hl 1 rfl) ?_
  have hPc := hP.sub (ws' := [(h, .inr (11, [.ref cs, f1, f2, f3, f4, f5, f6])), (cs, .inr (4, [.int md, ed, .int 0]))]) [0, 1] rfl
  have hDc := hD.sub (ws' := [(h, .inr (11, [.ref cs, f1, f2, f3, f4, f5, f6])), (cs, .inr (4, [.int md, ed, .int 0]))]) [0, 1] (by decide) rfl
  have hKc := hK.sub (tys' := []) [] rfl
  refine vx_calli (vx_runV (As := [.int p0]) (rest := []) ⟨hx, hb, hml, hown, hts⟩ (k_LF_columnAt l hst D h cs f1 f2 f3 f4 f5 f6 md (ed) p0 s.heap.size) (cwV 1 hts (gV q188 q190 qs1 q1 (gA q191)) rfl rfl rfl (by decide +kernel) ⟨Nat.le_of_ble_eq_true rfl, Nat.le_of_ble_eq_true rfl⟩) ⟨EV.fb, va_recv hKc hPc (ci := 11) (q0 := 0) rfl rfl, fun U hU hW => ⟨rfl, EV.at hPc hKc hDc hG (hZ.no hS) U hU hW⟩⟩ rfl rfl hl.1 rfl (lv_room (Nat.le_of_ble_eq_true rfl)) dX7_fines_2 ⟨Nat.le_of_ble_eq_true rfl, Nat.le_of_ble_eq_true rfl⟩) hS (fun q _ h => h.elim) (fun q h => h.elim) (fun q _ h => h.elim) (fun E ce q9 u t H1 locs1 ht hvm hpx hBX hz1 hk1 hS hcell hcv hcl => ?_) (fun r u t H1 locs1 ht hvm hw hB hz1 hk1 hS => hw.elim)
  have hP := P_kept hP hk1
  exact vx_out (fun x hx => (hnt x hx).elim) hlocks hcell hcv hcl (fun t ht _ => ⟨(), trivial, hBX, hS.F ht⟩) (fun z hz => hS.2.2 z hz) (Nat.le_of_ble_eq_true rfl) (Nat.le_of_ble_eq_true rfl)
set_option maxHeartbeats 4000000 in
set_option maxRecDepth 100000 in
/-- forecast on the fresh object: always IndexOutOfBoundsException -/
theorem k_LF_forecast (l : Launch) (hst : l.stackTraces = false) (D : va_G) (h : Nat) (cs : Nat) (f1 f2 f3 f4 f5 f6 : Value) (md : Int32) (ed : Value) (p0 : Int32) (p1 : Int32) (p2 : Int32) (sz : Nat) : vx_Met l yX7_forecast (wsA yX7_forecast cX7_forecast 4 (some .long)) ({ frames := 7, cells := 1, slots := 6, locals := 103 }) (va_Pc [.ref h, .int p0, .int p1, .int p2] (EV D [] [(h, .inr (11, [.ref cs, f1, f2, f3, f4, f5, f6])), (cs, .inr (4, [.int md, ed, .int 0]))] sz)) QX (XX "java/lang/IndexOutOfBoundsException") 1 6 NoA := by
  refine vx_ofW (cc := cX7_forecast) (maxL := 4) (ret := (some .long)) (ws' := lw_all) (by decide) rfl ?_
  intro p e s m args below meth c s₁ B hml hnt hv
  obtain ⟨rfl, hsz, hP, hK, hD0, hG, hZ0⟩ := hv
  have hx := B.exec
  have hb := B.bytes
  have hr := B.returns
  have hts0 := atoms_spec (ws := wsA yX7_forecast cX7_forecast 4 (some .long)) B.pre
  have hts : ∀ w ∈ lw_all, w.before _ s = true := fun w h => hts0 w (List.mem_cons_of_mem _ h)
  have hown : s.vm.findClass RX7 = some m.cls := findClass_of_methodNamed B.named
  have hlocks := B.notSynchronized
  subst hsz
  have hD : va_D (fun _ => True) [(h, .inr (11, [.ref cs, f1, f2, f3, f4, f5, f6])), (cs, .inr (4, [.int md, ed, .int 0]))] := hD0
  have hZ : ZZ NoA s s.heap := hZ0
  have hS : va_S NoA s.heap s.heap [] := va_S.rf
  have hP : va_P D vwCl [(h, .inr (11, [.ref cs, f1, f2, f3, f4, f5, f6])), (cs, .inr (4, [.int md, ed, .int 0]))] s.heap := hP
  have hl := lv_entry ([.ref h, .int p0, .int p1, .int p2]) (n := 4) (Nat.le_of_ble_eq_true rfl)
  rw [lg_entry_eq]
  generalize (lg_sl ([.ref h, .int p0, .int p1, .int p2]) ++ List.replicate (4 - (lg_sl ([.ref h, .int p0, .int p1, .int p2])).length) Slot.unset).toArray = ls at hl ⊢
  have hl : lv_has ls 4 [(0, .ref h), (1, .int p0), (2, .int p1), (3, .int p2)] := hl
  refine lv_aload_n hx hb dX7_forecast_0 rfl (lv_at hl 0 rfl) ?_
  refine lv_iload_n hx hb dX7_forecast_1 rfl (lv_at hl 1 rfl) ?_
  have hPc := hP.sub (ws' := [(h, .inr (11, [.ref cs, f1, f2, f3, f4, f5, f6])), (cs, .inr (4, [.int md, ed, .int 0]))]) [0, 1] rfl
  have hDc := hD.sub (ws' := [(h, .inr (11, [.ref cs, f1, f2, f3, f4, f5, f6])), (cs, .inr (4, [.int md, ed, .int 0]))]) [0, 1] (by decide) rfl
  have hKc := hK.sub (tys' := []) [] rfl
  refine vx_calli (vx_runV (As := [.int p0]) (rest := []) ⟨hx, hb, hml, hown, hts⟩ (k_LF_columnAt l hst D h cs f1 f2 f3 f4 f5 f6 md (ed) p0 s.heap.size) (cwV 1 hts (gV q188 q190 qs1 q1 (gA q191)) rfl rfl rfl (by decide +kernel) ⟨Nat.le_of_ble_eq_true rfl, Nat.le_of_ble_eq_true rfl⟩) ⟨EV.fb, va_recv hKc hPc (ci := 11) (q0 := 0) rfl rfl, fun U hU hW => ⟨rfl, EV.at hPc hKc hDc hG (hZ.no hS) U hU hW⟩⟩ rfl rfl hl.1 rfl (lv_room (Nat.le_of_ble_eq_true rfl)) dX7_forecast_2 ⟨Nat.le_of_ble_eq_true rfl, Nat.le_of_ble_eq_true rfl⟩) hS (fun q _ h => h.elim) (fun q h => h.elim) (fun q _ h => h.elim) (fun E ce q9 u t H1 locs1 ht hvm hpx hBX hz1 hk1 hS hcell hcv hcl => ?_) (fun r u t H1 locs1 ht hvm hw hB hz1 hk1 hS => hw.elim)
  have hP := P_kept hP hk1
  exact vx_out (fun x hx => (hnt x hx).elim) hlocks hcell hcv hcl (fun t ht _ => ⟨(), trivial, hBX, hS.F ht⟩) (fun z hz => hS.2.2 z hz) (Nat.le_of_ble_eq_true rfl) (Nat.le_of_ble_eq_true rfl)
set_option maxHeartbeats 4000000 in
set_option maxRecDepth 100000 in
/-- compareForecasts on the fresh object: always IndexOutOfBoundsException -/
theorem k_LF_compareForecasts (l : Launch) (hst : l.stackTraces = false) (D : va_G) (h : Nat) (cs : Nat) (f1 f2 f3 f4 f5 f6 : Value) (md : Int32) (ed : Value) (p0 : Int32) (p1 : Int32) (p2 : Int32) (sz : Nat) : vx_Met l yX7_compareForecasts (wsA yX7_compareForecasts cX7_compareForecasts 7 (some .long)) ({ frames := 7, cells := 1, slots := 6, locals := 103 }) (va_Pc [.ref h, .int p0, .int p1, .int p2] (EV D [] [(h, .inr (11, [.ref cs, f1, f2, f3, f4, f5, f6])), (cs, .inr (4, [.int md, ed, .int 0]))] sz)) QX (XX "java/lang/IndexOutOfBoundsException") 1 6 NoA := by
  refine vx_ofW (cc := cX7_compareForecasts) (maxL := 7) (ret := (some .long)) (ws' := lw_all) (by decide) rfl ?_
  intro p e s m args below meth c s₁ B hml hnt hv
  obtain ⟨rfl, hsz, hP, hK, hD0, hG, hZ0⟩ := hv
  have hx := B.exec
  have hb := B.bytes
  have hr := B.returns
  have hts0 := atoms_spec (ws := wsA yX7_compareForecasts cX7_compareForecasts 7 (some .long)) B.pre
  have hts : ∀ w ∈ lw_all, w.before _ s = true := fun w h => hts0 w (List.mem_cons_of_mem _ h)
  have hown : s.vm.findClass RX7 = some m.cls := findClass_of_methodNamed B.named
  have hlocks := B.notSynchronized
  subst hsz
  have hD : va_D (fun _ => True) [(h, .inr (11, [.ref cs, f1, f2, f3, f4, f5, f6])), (cs, .inr (4, [.int md, ed, .int 0]))] := hD0
  have hZ : ZZ NoA s s.heap := hZ0
  have hS : va_S NoA s.heap s.heap [] := va_S.rf
  have hP : va_P D vwCl [(h, .inr (11, [.ref cs, f1, f2, f3, f4, f5, f6])), (cs, .inr (4, [.int md, ed, .int 0]))] s.heap := hP
  have hl := lv_entry ([.ref h, .int p0, .int p1, .int p2]) (n := 7) (Nat.le_of_ble_eq_true rfl)
  rw [lg_entry_eq]
  generalize (lg_sl ([.ref h, .int p0, .int p1, .int p2]) ++ List.replicate (7 - (lg_sl ([.ref h, .int p0, .int p1, .int p2])).length) Slot.unset).toArray = ls at hl ⊢
  have hl : lv_has ls 7 [(0, .ref h), (1, .int p0), (2, .int p1), (3, .int p2)] := hl
  refine lv_aload_n hx hb dX7_compareForecasts_0 rfl (lv_at hl 0 rfl) ?_
  refine lv_iload_n hx hb dX7_compareForecasts_1 rfl (lv_at hl 1 rfl) ?_
  have hPc := hP.sub (ws' := [(h, .inr (11, [.ref cs, f1, f2, f3, f4, f5, f6])), (cs, .inr (4, [.int md, ed, .int 0]))]) [0, 1] rfl
  have hDc := hD.sub (ws' := [(h, .inr (11, [.ref cs, f1, f2, f3, f4, f5, f6])), (cs, .inr (4, [.int md, ed, .int 0]))]) [0, 1] (by decide) rfl
  have hKc := hK.sub (tys' := []) [] rfl
  refine vx_calli (vx_runV (As := [.int p0]) (rest := []) ⟨hx, hb, hml, hown, hts⟩ (k_LF_columnAt l hst D h cs f1 f2 f3 f4 f5 f6 md (ed) p0 s.heap.size) (cwV 1 hts (gV q188 q190 qs1 q1 (gA q191)) rfl rfl rfl (by decide +kernel) ⟨Nat.le_of_ble_eq_true rfl, Nat.le_of_ble_eq_true rfl⟩) ⟨EV.fb, va_recv hKc hPc (ci := 11) (q0 := 0) rfl rfl, fun U hU hW => ⟨rfl, EV.at hPc hKc hDc hG (hZ.no hS) U hU hW⟩⟩ rfl rfl hl.1 rfl (lv_room (Nat.le_of_ble_eq_true rfl)) dX7_compareForecasts_2 ⟨Nat.le_of_ble_eq_true rfl, Nat.le_of_ble_eq_true rfl⟩) hS (fun q _ h => h.elim) (fun q h => h.elim) (fun q _ h => h.elim) (fun E ce q9 u t H1 locs1 ht hvm hpx hBX hz1 hk1 hS hcell hcv hcl => ?_) (fun r u t H1 locs1 ht hvm hw hB hz1 hk1 hS => hw.elim)
  have hP := P_kept hP hk1
  exact vx_out (fun x hx => (hnt x hx).elim) hlocks hcell hcv hcl (fun t ht _ => ⟨(), trivial, hBX, hS.F ht⟩) (fun z hz => hS.2.2 z hz) (Nat.le_of_ble_eq_true rfl) (Nat.le_of_ble_eq_true rfl)
set_option maxHeartbeats 4000000 in
set_option maxRecDepth 100000 in
/-- fits on the fresh object: always IndexOutOfBoundsException -/
theorem k_LF_fits (l : Launch) (hst : l.stackTraces = false) (D : va_G) (h : Nat) (cs : Nat) (f1 f2 f3 f4 f5 f6 : Value) (md : Int32) (ed : Value) (p0 : Int32) (p1 : Int32) (p2 : Int32) (sz : Nat) : vx_Met l yX7_fits (wsA yX7_fits cX7_fits 8 (some .int)) ({ frames := 8, cells := 1, slots := 6, locals := 129 }) (va_Pc [.ref h, .int p0, .int p1, .int p2] (EV D [] [(h, .inr (11, [.ref cs, f1, f2, f3, f4, f5, f6])), (cs, .inr (4, [.int md, ed, .int 0]))] sz)) QX (XX "java/lang/IndexOutOfBoundsException") 1 6 NoA := by
  refine vx_ofW (cc := cX7_fits) (maxL := 8) (ret := (some .int)) (ws' := lw_all) (by decide) rfl ?_
  intro p e s m args below meth c s₁ B hml hnt hv
  obtain ⟨rfl, hsz, hP, hK, hD0, hG, hZ0⟩ := hv
  have hx := B.exec
  have hb := B.bytes
  have hr := B.returns
  have hts0 := atoms_spec (ws := wsA yX7_fits cX7_fits 8 (some .int)) B.pre
  have hts : ∀ w ∈ lw_all, w.before _ s = true := fun w h => hts0 w (List.mem_cons_of_mem _ h)
  have hown : s.vm.findClass RX7 = some m.cls := findClass_of_methodNamed B.named
  have hlocks := B.notSynchronized
  subst hsz
  have hD : va_D (fun _ => True) [(h, .inr (11, [.ref cs, f1, f2, f3, f4, f5, f6])), (cs, .inr (4, [.int md, ed, .int 0]))] := hD0
  have hZ : ZZ NoA s s.heap := hZ0
  have hS : va_S NoA s.heap s.heap [] := va_S.rf
  have hP : va_P D vwCl [(h, .inr (11, [.ref cs, f1, f2, f3, f4, f5, f6])), (cs, .inr (4, [.int md, ed, .int 0]))] s.heap := hP
  have hl := lv_entry ([.ref h, .int p0, .int p1, .int p2]) (n := 8) (Nat.le_of_ble_eq_true rfl)
  rw [lg_entry_eq]
  generalize (lg_sl ([.ref h, .int p0, .int p1, .int p2]) ++ List.replicate (8 - (lg_sl ([.ref h, .int p0, .int p1, .int p2])).length) Slot.unset).toArray = ls at hl ⊢
  have hl : lv_has ls 8 [(0, .ref h), (1, .int p0), (2, .int p1), (3, .int p2)] := hl
  refine lv_aload_n hx hb dX7_fits_0 rfl (lv_at hl 0 rfl) ?_
  refine lv_iload_n hx hb dX7_fits_1 rfl (lv_at hl 1 rfl) ?_
  refine lv_iload_n hx hb dX7_fits_2 rfl (lv_at hl 2 rfl) ?_
  refine lv_iload_n hx hb dX7_fits_3 rfl (lv_at hl 3 rfl) ?_
  have hPc := hP.sub (ws' := [(h, .inr (11, [.ref cs, f1, f2, f3, f4, f5, f6])), (cs, .inr (4, [.int md, ed, .int 0]))]) [0, 1] rfl
  have hDc := hD.sub (ws' := [(h, .inr (11, [.ref cs, f1, f2, f3, f4, f5, f6])), (cs, .inr (4, [.int md, ed, .int 0]))]) [0, 1] (by decide) rfl
  have hKc := hK.sub (tys' := []) [] rfl
  refine vx_calli (vx_runV (As := [.int p0, .int p1, .int p2]) (rest := []) ⟨hx, hb, hml, hown, hts⟩ (k_LF_compareForecasts l hst D h cs f1 f2 f3 f4 f5 f6 md (ed) p0 p1 p2 s.heap.size) (cwV 3 hts (gV q1065 q1067 qs27 q1 (gA q1068)) rfl rfl rfl (by decide +kernel) ⟨Nat.le_of_ble_eq_true rfl, Nat.le_of_ble_eq_true rfl⟩) ⟨EV.fb, va_recv hKc hPc (ci := 11) (q0 := 0) rfl rfl, fun U hU hW => ⟨rfl, EV.at hPc hKc hDc hG (hZ.no hS) U hU hW⟩⟩ rfl rfl hl.1 rfl (lv_room (Nat.le_of_ble_eq_true rfl)) dX7_fits_4 ⟨Nat.le_of_ble_eq_true rfl, Nat.le_of_ble_eq_true rfl⟩) hS (fun q _ h => h.elim) (fun q h => h.elim) (fun q _ h => h.elim) (fun E ce q9 u t H1 locs1 ht hvm hpx hBX hz1 hk1 hS hcell hcv hcl => ?_) (fun r u t H1 locs1 ht hvm hw hB hz1 hk1 hS => hw.elim)
  have hP := P_kept hP hk1
  exact vx_out (fun x hx => (hnt x hx).elim) hlocks hcell hcv hcl (fun t ht _ => ⟨(), trivial, hBX, hS.F ht⟩) (fun z hz => hS.2.2 z hz) (Nat.le_of_ble_eq_true rfl) (Nat.le_of_ble_eq_true rfl)
set_option maxHeartbeats 4000000 in
set_option maxRecDepth 100000 in
/-- fit on the fresh object: always IndexOutOfBoundsException -/
theorem k_LF_fit (l : Launch) (hst : l.stackTraces = false) (D : va_G) (h : Nat) (cs : Nat) (f1 f2 f3 f4 f5 f6 : Value) (md : Int32) (ed : Value) (p0 : Int32) (p1 : Int32) (p2 : Int32) (p3 : Int32) (sz : Nat) : vx_Met l yX7_fit (wsA yX7_fit cX7_fit 9 (some .int)) ({ frames := 8, cells := 1, slots := 6, locals := 129 }) (va_Pc [.ref h, .int p0, .int p1, .int p2, .int p3] (EV D [] [(h, .inr (11, [.ref cs, f1, f2, f3, f4, f5, f6])), (cs, .inr (4, [.int md, ed, .int 0]))] sz)) QX (XX "java/lang/IndexOutOfBoundsException") 1 6 NoA := by
  refine vx_ofW (cc := cX7_fit) (maxL := 9) (ret := (some .int)) (ws' := lw_all) (by decide) rfl ?_
  intro p e s m args below meth c s₁ B hml hnt hv
  obtain ⟨rfl, hsz, hP, hK, hD0, hG, hZ0⟩ := hv
  have hx := B.exec
  have hb := B.bytes
  have hr := B.returns
  have hts0 := atoms_spec (ws := wsA yX7_fit cX7_fit 9 (some .int)) B.pre
  have hts : ∀ w ∈ lw_all, w.before _ s = true := fun w h => hts0 w (List.mem_cons_of_mem _ h)
  have hown : s.vm.findClass RX7 = some m.cls := findClass_of_methodNamed B.named
  have hlocks := B.notSynchronized
  subst hsz
  have hD : va_D (fun _ => True) [(h, .inr (11, [.ref cs, f1, f2, f3, f4, f5, f6])), (cs, .inr (4, [.int md, ed, .int 0]))] := hD0
  have hZ : ZZ NoA s s.heap := hZ0
  have hS : va_S NoA s.heap s.heap [] := va_S.rf
  have hP : va_P D vwCl [(h, .inr (11, [.ref cs, f1, f2, f3, f4, f5, f6])), (cs, .inr (4, [.int md, ed, .int 0]))] s.heap := hP
  have hl := lv_entry ([.ref h, .int p0, .int p1, .int p2, .int p3]) (n := 9) (Nat.le_of_ble_eq_true rfl)
  rw [lg_entry_eq]
  generalize (lg_sl ([.ref h, .int p0, .int p1, .int p2, .int p3]) ++ List.replicate (9 - (lg_sl ([.ref h, .int p0, .int p1, .int p2, .int p3])).length) Slot.unset).toArray = ls at hl ⊢
  have hl : lv_has ls 9 [(0, .ref h), (1, .int p0), (2, .int p1), (3, .int p2), (4, .int p3)] := hl
  refine lv_aload_n hx hb dX7_fit_0 rfl (lv_at hl 0 rfl) ?_
  refine lv_iload_n hx hb dX7_fit_1 rfl (lv_at hl 1 rfl) ?_
  refine lv_iload_n hx hb dX7_fit_2 rfl (lv_at hl 2 rfl) ?_
  refine lv_iload_n hx hb dX7_fit_3 rfl (lv_at hl 3 rfl) ?_
  have hPc := hP.sub (ws' := [(h, .inr (11, [.ref cs, f1, f2, f3, f4, f5, f6])), (cs, .inr (4, [.int md, ed, .int 0]))]) [0, 1] rfl
  have hDc := hD.sub (ws' := [(h, .inr (11, [.ref cs, f1, f2, f3, f4, f5, f6])), (cs, .inr (4, [.int md, ed, .int 0]))]) [0, 1] (by decide) rfl
  have hKc := hK.sub (tys' := []) [] rfl
  refine vx_calli (vx_runV (As := [.int p0, .int p1, .int p2]) (rest := []) ⟨hx, hb, hml, hown, hts⟩ (k_LF_compareForecasts l hst D h cs f1 f2 f3 f4 f5 f6 md (ed) p0 p1 p2 s.heap.size) (cwV 3 hts (gV q1065 q1067 qs27 q1 (gA q1068)) rfl rfl rfl (by decide +kernel) ⟨Nat.le_of_ble_eq_true rfl, Nat.le_of_ble_eq_true rfl⟩) ⟨EV.fb, va_recv hKc hPc (ci := 11) (q0 := 0) rfl rfl, fun U hU hW => ⟨rfl, EV.at hPc hKc hDc hG (hZ.no hS) U hU hW⟩⟩ rfl rfl hl.1 rfl (lv_room (Nat.le_of_ble_eq_true rfl)) dX7_fit_4 ⟨Nat.le_of_ble_eq_true rfl, Nat.le_of_ble_eq_true rfl⟩) hS (fun q _ h => h.elim) (fun q h => h.elim) (fun q _ h => h.elim) (fun E ce q9 u t H1 locs1 ht hvm hpx hBX hz1 hk1 hS hcell hcv hcl => ?_) (fun r u t H1 locs1 ht hvm hw hB hz1 hk1 hS => hw.elim)
  have hP := P_kept hP hk1
  exact vx_out (fun x hx => (hnt x hx).elim) hlocks hcell hcv hcl (fun t ht _ => ⟨(), trivial, hBX, hS.F ht⟩) (fun z hz => hS.2.2 z hz) (Nat.le_of_ble_eq_true rfl) (Nat.le_of_ble_eq_true rfl)
