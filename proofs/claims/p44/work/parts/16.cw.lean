/-! ===== words of callees, handlers ===== -/
theorem cw_Jx4a65c_elementData_915e3 : CalW mJx4a65c_elementData_915e3 1 := ⟨rfl, q127, by decide, by decide +kernel, q4⟩
theorem cw_Jx4a65c_get_915e3 : CalW mJx4a65c_get_915e3 1 := ⟨rfl, q117, by decide, by decide +kernel, q4⟩
theorem cw_Jx4a65c_size_8abf5 : CalW mJx4a65c_size_8abf5 0 := ⟨rfl, q113, by decide, by decide +kernel, q4⟩
theorem cw_J15_checkIndex_7cf53 : CalW mJ15_checkIndex_7cf53 2 := ⟨rfl, q120, by decide, by decide +kernel, q11⟩
theorem cw_J3_checkIndex_8e157 : CalW mJ3_checkIndex_8e157 3 := ⟨rfl, q123, by decide, by decide +kernel, q12⟩
theorem cw_X2_canReceive : CalW mX2_canReceive 0 := ⟨rfl, q329, by decide, by decide +kernel, q26⟩
theorem cw_X2_canSink : CalW mX2_canSink 1 := ⟨rfl, q347, by decide, by decide +kernel, q26⟩
theorem cw_X2_room : CalW mX2_room 0 := ⟨rfl, q163, by decide, by decide +kernel, q26⟩
theorem cw_X5_amountOf : CalW mX5_amountOf 1 := ⟨rfl, q150, by decide, by decide +kernel, q22⟩
theorem cw_J9_min_7cf53 : CalW mJ9_min_7cf53 2 := ⟨rfl, q332, by decide, by decide +kernel, q14⟩
theorem cw_J9_min_f86c9 : CalW mJ9_min_f86c9 2 := ⟨rfl, q335, by decide, by decide +kernel, q14⟩
theorem cw_X5_change : CalW mX5_change 2 := ⟨rfl, q386, by decide, by decide +kernel, q22⟩
theorem cw_X2_sendWater : CalW mX2_sendWater 2 := ⟨rfl, q352, by decide, by decide +kernel, q26⟩
theorem cw_X5_giveShare : CalW mX5_giveShare 3 := ⟨rfl, q356, by decide, by decide +kernel, q22⟩
theorem cw_X1_goThroughAnHour : CalW mX1_goThroughAnHour 3 := ⟨rfl, q272, by decide, by decide +kernel, q17⟩
theorem cw_X1_letWaterSink : CalW mX1_letWaterSink 0 := ⟨rfl, q343, by decide, by decide +kernel, q17⟩
theorem cw_X7_init : CalW mX7_init 0 := ⟨rfl, q34, by decide, by decide +kernel, q1⟩
theorem cw_X7_capacity : CalW mX7_capacity 2 := ⟨rfl, q722, by decide, by decide +kernel, q1⟩
theorem cw_X7_checkRange : CalW mX7_checkRange 3 := ⟨rfl, q656, by decide, by decide +kernel, q1⟩
theorem cw_X7_checksum : CalW mX7_checksum 0 := ⟨rfl, q143, by decide, by decide +kernel, q1⟩
theorem cw_X7_column : CalW mX7_column 1 := ⟨rfl, q423, by decide, by decide +kernel, q1⟩
theorem cw_X7_columnAt : CalW mX7_columnAt 1 := ⟨rfl, q176, by decide, by decide +kernel, q1⟩
theorem cw_X7_compareForecasts : CalW mX7_compareForecasts 3 := ⟨rfl, q947, by decide, by decide +kernel, q1⟩
theorem cw_X7_crack : CalW mX7_crack 1 := ⟨rfl, q900, by decide, by decide +kernel, q1⟩
theorem cw_X7_driftOf : CalW mX7_driftOf 1 := ⟨rfl, q922, by decide, by decide +kernel, q1⟩
theorem cw_X7_eaten : CalW mX7_eaten 1 := ⟨rfl, q839, by decide, by decide +kernel, q1⟩
theorem cw_X7_fines : CalW mX7_fines 1 := ⟨rfl, q935, by decide, by decide +kernel, q1⟩
theorem cw_X7_fit : CalW mX7_fit 4 := ⟨rfl, q960, by decide, by decide +kernel, q1⟩
theorem cw_X7_fits : CalW mX7_fits 3 := ⟨rfl, q943, by decide, by decide +kernel, q1⟩
theorem cw_X7_fittedScale : CalW mX7_fittedScale 1 := ⟨rfl, q952, by decide, by decide +kernel, q1⟩
theorem cw_X7_forecast : CalW mX7_forecast 3 := ⟨rfl, q939, by decide, by decide +kernel, q1⟩
theorem cw_X7_forecastHolds : CalW mX7_forecastHolds 1 := ⟨rfl, q172, by decide, by decide +kernel, q1⟩
theorem cw_X7_foresee : CalW mX7_foresee 3 := ⟨rfl, q252, by decide, by decide +kernel, q1⟩
theorem cw_X7_frost : CalW mX7_frost 2 := ⟨rfl, q888, by decide, by decide +kernel, q1⟩
theorem cw_X7_frozenShare : CalW mX7_frozenShare 0 := ⟨rfl, q987, by decide, by decide +kernel, q1⟩
theorem cw_X7_harvest : CalW mX7_harvest 1 := ⟨rfl, q761, by decide, by decide +kernel, q1⟩
theorem cw_X7_heave : CalW mX7_heave 1 := ⟨rfl, q892, by decide, by decide +kernel, q1⟩
theorem cw_X7_hours : CalW mX7_hours 1 := ⟨rfl, q851, by decide, by decide +kernel, q1⟩
theorem cw_X7_isFrozen : CalW mX7_isFrozen 2 := ⟨rfl, q884, by decide, by decide +kernel, q1⟩
theorem cw_X7_isTrue : CalW mX7_isTrue 0 := ⟨rfl, q154, by decide, by decide +kernel, q1⟩
theorem cw_X7_judge : CalW mX7_judge 3 := ⟨rfl, q863, by decide, by decide +kernel, q1⟩
theorem cw_X7_kindOf : CalW mX7_kindOf 1 := ⟨rfl, q800, by decide, by decide +kernel, q1⟩
theorem cw_X7_law : CalW mX7_law 2 := ⟨rfl, q847, by decide, by decide +kernel, q1⟩
theorem cw_X7_layer : CalW mX7_layer 3 := ⟨rfl, q644, by decide, by decide +kernel, q1⟩
theorem cw_X7_layerAt : CalW mX7_layerAt 2 := ⟨rfl, q713, by decide, by decide +kernel, q1⟩
theorem cw_X7_layersInAll : CalW mX7_layersInAll 0 := ⟨rfl, q991, by decide, by decide +kernel, q1⟩
theorem cw_X7_letAnHourGoBy : CalW mX7_letAnHourGoBy 1 := ⟨rfl, q855, by decide, by decide +kernel, q1⟩
theorem cw_X7_link : CalW mX7_link 2 := ⟨rfl, q726, by decide, by decide +kernel, q1⟩
theorem cw_X7_manure : CalW mX7_manure 2 := ⟨rfl, q824, by decide, by decide +kernel, q1⟩
theorem cw_X7_meanWater : CalW mX7_meanWater 0 := ⟨rfl, q1002, by decide, by decide +kernel, q1⟩
theorem cw_X7_missing : CalW mX7_missing 0 := ⟨rfl, q109, by decide, by decide +kernel, q1⟩
theorem cw_X7_mulch : CalW mX7_mulch 2 := ⟨rfl, q789, by decide, by decide +kernel, q1⟩
theorem cw_X7_out : CalW mX7_out 2 := ⟨rfl, q832, by decide, by decide +kernel, q1⟩
theorem cw_X7_plant : CalW mX7_plant 3 := ⟨rfl, q736, by decide, by decide +kernel, q1⟩
theorem cw_X7_recharge : CalW mX7_recharge 1 := ⟨rfl, q872, by decide, by decide +kernel, q1⟩
theorem cw_X7_reflection : CalW mX7_reflection 2 := ⟨rfl, q914, by decide, by decide +kernel, q1⟩
theorem cw_X7_rule : CalW mX7_rule 3 := ⟨rfl, q793, by decide, by decide +kernel, q1⟩
theorem cw_X7_runOn : CalW mX7_runOn 2 := ⟨rfl, q859, by decide, by decide +kernel, q1⟩
theorem cw_X7_runoff : CalW mX7_runoff 1 := ⟨rfl, q876, by decide, by decide +kernel, q1⟩
theorem cw_X7_scale : CalW mX7_scale 2 := ⟨rfl, q732, by decide, by decide +kernel, q1⟩
theorem cw_X7_setRight : CalW mX7_setRight 1 := ⟨rfl, q926, by decide, by decide +kernel, q1⟩
theorem cw_X7_soilOf : CalW mX7_soilOf 1 := ⟨rfl, q647, by decide, by decide +kernel, q1⟩
theorem cw_X7_solute : CalW mX7_solute 3 := ⟨rfl, q828, by decide, by decide +kernel, q1⟩
theorem cw_X7_spread : CalW mX7_spread 3 := ⟨rfl, q797, by decide, by decide +kernel, q1⟩
theorem cw_X7_standing : CalW mX7_standing 1 := ⟨rfl, q868, by decide, by decide +kernel, q1⟩
theorem cw_X7_stress : CalW mX7_stress 2 := ⟨rfl, q769, by decide, by decide +kernel, q1⟩
theorem cw_X7_tension : CalW mX7_tension 2 := ⟨rfl, q908, by decide, by decide +kernel, q1⟩
theorem cw_X7_thinkOf : CalW mX7_thinkOf 2 := ⟨rfl, q256, by decide, by decide +kernel, q1⟩
theorem cw_X7_thoughtAt : CalW mX7_thoughtAt 1 := ⟨rfl, q260, by decide, by decide +kernel, q1⟩
theorem cw_X7_vapour : CalW mX7_vapour 1 := ⟨rfl, q880, by decide, by decide +kernel, q1⟩
theorem cw_X7_water : CalW mX7_water 2 := ⟨rfl, q718, by decide, by decide +kernel, q1⟩
theorem cw_X7_weather : CalW mX7_weather 3 := ⟨rfl, q843, by decide, by decide +kernel, q1⟩
theorem cw_X7_weigh : CalW mX7_weigh 1 := ⟨rfl, q930, by decide, by decide +kernel, q1⟩
theorem cw_X7_wet : CalW mX7_wet 3 := ⟨rfl, q709, by decide, by decide +kernel, q1⟩
theorem cw_X0_init : CalW mX0_init 0 := ⟨rfl, q466, by decide, by decide +kernel, q21⟩
theorem cw_X1_init : CalW mX1_init 2 := ⟨rfl, q458, by decide, by decide +kernel, q17⟩
theorem cw_X1_becomeLike : CalW mX1_becomeLike 1 := ⟨rfl, q264, by decide, by decide +kernel, q17⟩
theorem cw_X1_crackBetween : CalW mX1_crackBetween 2 := ⟨rfl, q325, by decide, by decide +kernel, q17⟩
theorem cw_X1_crackCanTake : CalW mX1_crackCanTake 0 := ⟨rfl, q904, by decide, by decide +kernel, q17⟩
theorem cw_X1_crackEnd : CalW mX1_crackEnd 1 := ⟨rfl, q320, by decide, by decide +kernel, q17⟩
theorem cw_X1_eatNitrate : CalW mX1_eatNitrate 1 := ⟨rfl, q390, by decide, by decide +kernel, q17⟩
theorem cw_X1_fillCrack : CalW mX1_fillCrack 2 := ⟨rfl, q316, by decide, by decide +kernel, q17⟩
theorem cw_X1_frozenLayers : CalW mX1_frozenLayers 0 := ⟨rfl, q998, by decide, by decide +kernel, q17⟩
theorem cw_X1_frozenWater : CalW mX1_frozenWater 0 := ⟨rfl, q896, by decide, by decide +kernel, q17⟩
theorem cw_X1_layersHold : CalW mX1_layersHold 0 := ⟨rfl, q159, by decide, by decide +kernel, q17⟩
theorem cw_X1_letDrink : CalW mX1_letDrink 1 := ⟨rfl, q361, by decide, by decide +kernel, q17⟩
theorem cw_X1_letFrostMove : CalW mX1_letFrostMove 1 := ⟨rfl, q277, by decide, by decide +kernel, q17⟩
theorem cw_X1_letWaterCome : CalW mX1_letWaterCome 1 := ⟨rfl, q296, by decide, by decide +kernel, q17⟩
theorem cw_X1_letWaterDry : CalW mX1_letWaterDry 1 := ⟨rfl, q373, by decide, by decide +kernel, q17⟩
theorem cw_X1_makeNitrate : CalW mX1_makeNitrate 1 := ⟨rfl, q381, by decide, by decide +kernel, q17⟩
theorem cw_X1_missingWater : CalW mX1_missingWater 0 := ⟨rfl, q132, by decide, by decide +kernel, q17⟩
theorem cw_X1_soakIn : CalW mX1_soakIn 2 := ⟨rfl, q338, by decide, by decide +kernel, q17⟩
theorem cw_X1_solutesHold : CalW mX1_solutesHold 0 := ⟨rfl, q167, by decide, by decide +kernel, q17⟩
theorem cw_X1_takeArrivals : CalW mX1_takeArrivals 1 := ⟨rfl, q308, by decide, by decide +kernel, q17⟩
theorem cw_X1_takeWatering : CalW mX1_takeWatering 1 := ⟨rfl, q312, by decide, by decide +kernel, q17⟩
theorem cw_X1_topOrNull : CalW mX1_topOrNull 0 := ⟨rfl, q300, by decide, by decide +kernel, q17⟩
theorem cw_X1_uppermost : CalW mX1_uppermost 1 := ⟨rfl, q281, by decide, by decide +kernel, q17⟩
theorem cw_X1_waterOfLayers : CalW mX1_waterOfLayers 0 := ⟨rfl, q136, by decide, by decide +kernel, q17⟩
theorem cw_X1_wettest : CalW mX1_wettest 1 := ⟨rfl, q369, by decide, by decide +kernel, q17⟩
theorem cw_X2_init : CalW mX2_init 2 := ⟨rfl, q662, by decide, by decide +kernel, q26⟩
theorem cw_X2_becomeLike : CalW mX2_becomeLike 1 := ⟨rfl, q268, by decide, by decide +kernel, q26⟩
theorem cw_X2_canFeedRoots : CalW mX2_canFeedRoots 0 := ⟨rfl, q365, by decide, by decide +kernel, q26⟩
theorem cw_X2_canGiveToAir : CalW mX2_canGiveToAir 0 := ⟨rfl, q377, by decide, by decide +kernel, q26⟩
theorem cw_X2_freeze : CalW mX2_freeze 1 := ⟨rfl, q285, by decide, by decide +kernel, q26⟩
theorem cw_X2_hundredthsOfWater : CalW mX2_hundredthsOfWater 0 := ⟨rfl, q918, by decide, by decide +kernel, q26⟩
theorem cw_X2_thaw : CalW mX2_thaw 1 := ⟨rfl, q289, by decide, by decide +kernel, q26⟩
theorem cw_X3_init : CalW mX3_init 2 := ⟨rfl, q742, by decide, by decide +kernel, q27⟩
theorem cw_X5_init : CalW mX5_init 0 := ⟨rfl, q472, by decide, by decide +kernel, q22⟩
theorem cw_X6_init : CalW mX6_init 0 := ⟨rfl, q68, by decide, by decide +kernel, q5⟩
theorem cw_J9_abs_067f4 : CalW mJ9_abs_067f4 1 := ⟨rfl, q955, by decide, by decide +kernel, q14⟩
theorem cw_J9_max_7cf53 : CalW mJ9_max_7cf53 2 := ⟨rfl, q292, by decide, by decide +kernel, q14⟩
theorem cw_Jxa1e45_init_da8c8 : CalW mJxa1e45_init_da8c8 0 := ⟨rfl, q48, by decide, by decide +kernel, q2⟩
theorem cw_Jxc12de_init_da8c8 : CalW mJxc12de_init_da8c8 0 := ⟨rfl, q45, by decide, by decide +kernel, q3⟩
theorem cw_Jx4a65c_init_da8c8 : CalW mJx4a65c_init_da8c8 0 := ⟨rfl, q42, by decide, by decide +kernel, q4⟩
theorem cw_Jx4a65c_add_9ea2d : CalW mJx4a65c_add_9ea2d 1 := ⟨rfl, q585, by decide, by decide +kernel, q4⟩
theorem cw_Jx4a65c_add_72be8 : CalW mJx4a65c_add_72be8 3 := ⟨rfl, q589, by decide, by decide +kernel, q4⟩
theorem cw_Jx4a65c_clear_da8c8 : CalW mJx4a65c_clear_da8c8 0 := ⟨rfl, q765, by decide, by decide +kernel, q4⟩
theorem cw_Jx4a65c_grow_d5877 : CalW mJx4a65c_grow_d5877 0 := ⟨rfl, q593, by decide, by decide +kernel, q4⟩
theorem cw_Jx4a65c_grow_92f84 : CalW mJx4a65c_grow_92f84 1 := ⟨rfl, q597, by decide, by decide +kernel, q4⟩
theorem cw_Jx4a65c_isEmpty_aae02 : CalW mJx4a65c_isEmpty_aae02 0 := ⟨rfl, q304, by decide, by decide +kernel, q4⟩
theorem cw_L_asked : CalW mL_asked 3 := ⟨rfl, q835, by decide, by decide +kernel, q0⟩
theorem cw_L_at : CalW mL_at 2 := ⟨rfl, q1055, by decide, by decide +kernel, q0⟩
theorem cw_L_cracks : CalW mL_cracks 0 := ⟨rfl, q1032, by decide, by decide +kernel, q0⟩
theorem cw_L_frosts : CalW mL_frosts 1 := ⟨rfl, q1052, by decide, by decide +kernel, q0⟩
theorem cw_L_links : CalW mL_links 0 := ⟨rfl, q1062, by decide, by decide +kernel, q0⟩
theorem cw_L_sinks : CalW mL_sinks 0 := ⟨rfl, q1005, by decide, by decide +kernel, q0⟩
theorem cw_L_some : CalW mL_some 2 := ⟨rfl, q1058, by decide, by decide +kernel, q0⟩
theorem hw_L_ask : ∀ q ∈ mL_ask.2.2.2.2, q.2.2.2 ≠ 0 ∧ Cond.classLink mL_ask.1.cls q.2.2.2 (xnm (ctA q.2.2.2)) ∈ lw_all := by
  intro q hq
  have h : q.2.2.2 = 73 ∨ q.2.2.2 = 77 ∨ q.2.2.2 = 81 ∨ q.2.2.2 = 85 ∨ q.2.2.2 = 89 := by revert q; decide +kernel
  rcases h with h | h | h | h | h
  · rw [h]
    exact ⟨by decide, q395⟩
  · rw [h]
    exact ⟨by decide, q416⟩
  · rw [h]
    exact ⟨by decide, q417⟩
  · rw [h]
    exact ⟨by decide, q418⟩
  · rw [h]
    exact ⟨by decide, q419⟩
theorem hw_L_hasNone : ∀ q ∈ mL_hasNone.2.2.2.2, q.2.2.2 ≠ 0 ∧ Cond.classLink mL_hasNone.1.cls q.2.2.2 (xnm (ctN q.2.2.2)) ∈ lw_all := by
  intro q hq
  have h : q.2.2.2 = 165 := by revert q; decide +kernel
  rcases h with h
  · rw [h]
    exact ⟨by decide, q970⟩
