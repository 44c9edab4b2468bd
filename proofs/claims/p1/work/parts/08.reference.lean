theorem dX12_capacity_0 : decode cX12_capacity 0 = .ok (.aload_n 0, 1) := by decide +kernel
theorem dX12_capacity_1 : decode cX12_capacity 1 = .ok (.iload_n 1, 1) := by decide +kernel
theorem dX12_capacity_2 : decode cX12_capacity 2 = .ok (.iload_n 2, 1) := by decide +kernel
theorem dX12_capacity_3 : decode cX12_capacity 3 = .ok (.invokevirtual 79, 3) := by decide +kernel
theorem dX12_capacity_6 : decode cX12_capacity 6 = .ok (.ifCond .eq 7, 3) := by decide +kernel
theorem dX12_capacity_9 : decode cX12_capacity 9 = .ok (.iconst 0, 1) := by decide +kernel
theorem dX12_capacity_10 : decode cX12_capacity 10 = .ok (.goto 12, 3) := by decide +kernel
theorem dX12_capacity_22 : decode cX12_capacity 22 = .ok (.ireturn, 1) := by decide +kernel
theorem dX12_crack_0 : decode cX12_crack 0 = .ok (.aload_n 0, 1) := by decide +kernel
theorem dX12_crack_1 : decode cX12_crack 1 = .ok (.iload_n 1, 1) := by decide +kernel
theorem dX12_crack_2 : decode cX12_crack 2 = .ok (.invokevirtual 67, 3) := by decide +kernel
theorem dX12_crack_5 : decode cX12_crack 5 = .ok (.ifCond .eq 7, 3) := by decide +kernel
theorem dX12_crack_8 : decode cX12_crack 8 = .ok (.iconst 0, 1) := by decide +kernel
theorem dX12_crack_9 : decode cX12_crack 9 = .ok (.goto 17, 3) := by decide +kernel
theorem dX12_crack_26 : decode cX12_crack 26 = .ok (.ireturn, 1) := by decide +kernel
theorem dX12_eaten_0 : decode cX12_eaten 0 = .ok (.aload_n 0, 1) := by decide +kernel
theorem dX12_eaten_1 : decode cX12_eaten 1 = .ok (.iload_n 1, 1) := by decide +kernel
theorem dX12_eaten_2 : decode cX12_eaten 2 = .ok (.invokevirtual 67, 3) := by decide +kernel
theorem dX12_eaten_5 : decode cX12_eaten 5 = .ok (.ifCond .eq 7, 3) := by decide +kernel
theorem dX12_eaten_8 : decode cX12_eaten 8 = .ok (.lconst 0, 1) := by decide +kernel
theorem dX12_eaten_9 : decode cX12_eaten 9 = .ok (.goto 17, 3) := by decide +kernel
theorem dX12_eaten_26 : decode cX12_eaten 26 = .ok (.lreturn, 1) := by decide +kernel
theorem dX12_fines_0 : decode cX12_fines 0 = .ok (.aload_n 0, 1) := by decide +kernel
theorem dX12_fines_1 : decode cX12_fines 1 = .ok (.iload_n 1, 1) := by decide +kernel
theorem dX12_fines_2 : decode cX12_fines 2 = .ok (.invokevirtual 67, 3) := by decide +kernel
theorem dX12_fines_5 : decode cX12_fines 5 = .ok (.ifCond .eq 7, 3) := by decide +kernel
theorem dX12_fines_8 : decode cX12_fines 8 = .ok (.lconst 0, 1) := by decide +kernel
theorem dX12_fines_9 : decode cX12_fines 9 = .ok (.goto 17, 3) := by decide +kernel
theorem dX12_fines_26 : decode cX12_fines 26 = .ok (.lreturn, 1) := by decide +kernel
theorem dX12_fit_0 : decode cX12_fit 0 = .ok (.aload_n 0, 1) := by decide +kernel
theorem dX12_fit_1 : decode cX12_fit 1 = .ok (.iload_n 1, 1) := by decide +kernel
theorem dX12_fit_2 : decode cX12_fit 2 = .ok (.iload_n 2, 1) := by decide +kernel
theorem dX12_fit_3 : decode cX12_fit 3 = .ok (.iload_n 3, 1) := by decide +kernel
theorem dX12_fit_4 : decode cX12_fit 4 = .ok (.invokevirtual 267, 3) := by decide +kernel
theorem dX12_fit_7 : decode cX12_fit 7 = .ok (.ifCond .eq 5, 3) := by decide +kernel
theorem dX12_fit_10 : decode cX12_fit 10 = .ok (.iconst 0, 1) := by decide +kernel
theorem dX12_fit_11 : decode cX12_fit 11 = .ok (.ireturn, 1) := by decide +kernel
theorem dX12_fits_0 : decode cX12_fits 0 = .ok (.aload_n 0, 1) := by decide +kernel
theorem dX12_fits_1 : decode cX12_fits 1 = .ok (.iload_n 1, 1) := by decide +kernel
theorem dX12_fits_2 : decode cX12_fits 2 = .ok (.iload_n 2, 1) := by decide +kernel
theorem dX12_fits_3 : decode cX12_fits 3 = .ok (.iload_n 3, 1) := by decide +kernel
theorem dX12_fits_4 : decode cX12_fits 4 = .ok (.invokevirtual 267, 3) := by decide +kernel
theorem dX12_fits_7 : decode cX12_fits 7 = .ok (.ifCond .eq 7, 3) := by decide +kernel
theorem dX12_fits_10 : decode cX12_fits 10 = .ok (.iconst 0, 1) := by decide +kernel
theorem dX12_fits_11 : decode cX12_fits 11 = .ok (.goto 13, 3) := by decide +kernel
theorem dX12_fits_24 : decode cX12_fits 24 = .ok (.ireturn, 1) := by decide +kernel
theorem dX12_forecast_0 : decode cX12_forecast 0 = .ok (.aload_n 0, 1) := by decide +kernel
theorem dX12_forecast_1 : decode cX12_forecast 1 = .ok (.iload_n 1, 1) := by decide +kernel
theorem dX12_forecast_2 : decode cX12_forecast 2 = .ok (.invokevirtual 67, 3) := by decide +kernel
theorem dX12_forecast_5 : decode cX12_forecast 5 = .ok (.ifCond .eq 5, 3) := by decide +kernel
theorem dX12_forecast_8 : decode cX12_forecast 8 = .ok (.lconst 0, 1) := by decide +kernel
theorem dX12_forecast_9 : decode cX12_forecast 9 = .ok (.lreturn, 1) := by decide +kernel
theorem dX12_frost_0 : decode cX12_frost 0 = .ok (.aload_n 0, 1) := by decide +kernel
theorem dX12_frost_1 : decode cX12_frost 1 = .ok (.iload_n 1, 1) := by decide +kernel
theorem dX12_frost_2 : decode cX12_frost 2 = .ok (.iload_n 2, 1) := by decide +kernel
theorem dX12_frost_3 : decode cX12_frost 3 = .ok (.invokevirtual 79, 3) := by decide +kernel
theorem dX12_frost_6 : decode cX12_frost 6 = .ok (.ifCond .eq 7, 3) := by decide +kernel
theorem dX12_frost_9 : decode cX12_frost 9 = .ok (.iconst 0, 1) := by decide +kernel
theorem dX12_frost_10 : decode cX12_frost 10 = .ok (.goto 12, 3) := by decide +kernel
theorem dX12_frost_22 : decode cX12_frost 22 = .ok (.ireturn, 1) := by decide +kernel
theorem dX12_harvest_0 : decode cX12_harvest 0 = .ok (.aload_n 0, 1) := by decide +kernel
theorem dX12_harvest_1 : decode cX12_harvest 1 = .ok (.iload_n 1, 1) := by decide +kernel
theorem dX12_harvest_2 : decode cX12_harvest 2 = .ok (.invokevirtual 67, 3) := by decide +kernel
theorem dX12_harvest_5 : decode cX12_harvest 5 = .ok (.ifCond .eq 5, 3) := by decide +kernel
theorem dX12_harvest_8 : decode cX12_harvest 8 = .ok (.iconst 0, 1) := by decide +kernel
theorem dX12_harvest_9 : decode cX12_harvest 9 = .ok (.ireturn, 1) := by decide +kernel
theorem dX12_heave_0 : decode cX12_heave 0 = .ok (.aload_n 0, 1) := by decide +kernel
theorem dX12_heave_1 : decode cX12_heave 1 = .ok (.iload_n 1, 1) := by decide +kernel
theorem dX12_heave_2 : decode cX12_heave 2 = .ok (.invokevirtual 67, 3) := by decide +kernel
theorem dX12_heave_5 : decode cX12_heave 5 = .ok (.ifCond .eq 5, 3) := by decide +kernel
theorem dX12_heave_8 : decode cX12_heave 8 = .ok (.iconst 0, 1) := by decide +kernel
theorem dX12_heave_9 : decode cX12_heave 9 = .ok (.ireturn, 1) := by decide +kernel
theorem dX12_in_0 : decode cX12_in 0 = .ok (.lload_n 0, 1) := by decide +kernel
theorem dX12_in_1 : decode cX12_in 1 = .ok (.lload_n 2, 1) := by decide +kernel
theorem dX12_in_2 : decode cX12_in 2 = .ok (.lcmp, 1) := by decide +kernel
theorem dX12_in_3 : decode cX12_in 3 = .ok (.ifCond .lt 14, 3) := by decide +kernel
theorem dX12_in_6 : decode cX12_in 6 = .ok (.lload_n 0, 1) := by decide +kernel
theorem dX12_in_7 : decode cX12_in 7 = .ok (.lload 4, 2) := by decide +kernel
theorem dX12_in_9 : decode cX12_in 9 = .ok (.lcmp, 1) := by decide +kernel
theorem dX12_in_10 : decode cX12_in 10 = .ok (.ifCond .gt 7, 3) := by decide +kernel
theorem dX12_in_13 : decode cX12_in 13 = .ok (.iconst 1, 1) := by decide +kernel
theorem dX12_in_14 : decode cX12_in 14 = .ok (.goto 4, 3) := by decide +kernel
theorem dX12_in_17 : decode cX12_in 17 = .ok (.iconst 0, 1) := by decide +kernel
theorem dX12_in_18 : decode cX12_in 18 = .ok (.ireturn, 1) := by decide +kernel
theorem dX12_isColumn_0 : decode cX12_isColumn 0 = .ok (.iload_n 1, 1) := by decide +kernel
theorem dX12_isColumn_1 : decode cX12_isColumn 1 = .ok (.i2l, 1) := by decide +kernel
theorem dX12_isColumn_2 : decode cX12_isColumn 2 = .ok (.lconst 0, 1) := by decide +kernel
theorem dX12_isColumn_3 : decode cX12_isColumn 3 = .ok (.aload_n 0, 1) := by decide +kernel
theorem dX12_isColumn_4 : decode cX12_isColumn 4 = .ok (.getfield 18, 3) := by decide +kernel
theorem dX12_isColumn_7 : decode cX12_isColumn 7 = .ok (.invokevirtual 35, 3) := by decide +kernel
theorem dX12_isColumn_10 : decode cX12_isColumn 10 = .ok (.iconst 1, 1) := by decide +kernel
theorem dX12_isColumn_11 : decode cX12_isColumn 11 = .ok (.isub, 1) := by decide +kernel
theorem dX12_isColumn_12 : decode cX12_isColumn 12 = .ok (.i2l, 1) := by decide +kernel
theorem dX12_isColumn_13 : decode cX12_isColumn 13 = .ok (.invokestatic 39, 3) := by decide +kernel
theorem dX12_isColumn_16 : decode cX12_isColumn 16 = .ok (.ireturn, 1) := by decide +kernel
theorem dX12_isFrozen_0 : decode cX12_isFrozen 0 = .ok (.aload_n 0, 1) := by decide +kernel
theorem dX12_isFrozen_1 : decode cX12_isFrozen 1 = .ok (.iload_n 1, 1) := by decide +kernel
theorem dX12_isFrozen_2 : decode cX12_isFrozen 2 = .ok (.iload_n 2, 1) := by decide +kernel
theorem dX12_isFrozen_3 : decode cX12_isFrozen 3 = .ok (.invokevirtual 79, 3) := by decide +kernel
theorem dX12_isFrozen_6 : decode cX12_isFrozen 6 = .ok (.ifCond .ne 19, 3) := by decide +kernel
theorem dX12_isFrozen_25 : decode cX12_isFrozen 25 = .ok (.iconst 0, 1) := by decide +kernel
theorem dX12_isFrozen_26 : decode cX12_isFrozen 26 = .ok (.ireturn, 1) := by decide +kernel
theorem dX12_layer_0 : decode cX12_layer 0 = .ok (.aload_n 0, 1) := by decide +kernel
theorem dX12_layer_1 : decode cX12_layer 1 = .ok (.iload_n 1, 1) := by decide +kernel
theorem dX12_layer_2 : decode cX12_layer 2 = .ok (.invokevirtual 67, 3) := by decide +kernel
theorem dX12_layer_5 : decode cX12_layer 5 = .ok (.ifCond .eq 5, 3) := by decide +kernel
theorem dX12_layer_8 : decode cX12_layer 8 = .ok (.iconst 0, 1) := by decide +kernel
theorem dX12_layer_9 : decode cX12_layer 9 = .ok (.ireturn, 1) := by decide +kernel
theorem dX12_manure_0 : decode cX12_manure 0 = .ok (.aload_n 0, 1) := by decide +kernel
theorem dX12_manure_1 : decode cX12_manure 1 = .ok (.iload_n 1, 1) := by decide +kernel
theorem dX12_manure_2 : decode cX12_manure 2 = .ok (.invokevirtual 67, 3) := by decide +kernel
theorem dX12_manure_5 : decode cX12_manure 5 = .ok (.ifCond .eq 5, 3) := by decide +kernel
theorem dX12_manure_8 : decode cX12_manure 8 = .ok (.lconst 0, 1) := by decide +kernel
theorem dX12_manure_9 : decode cX12_manure 9 = .ok (.lreturn, 1) := by decide +kernel
theorem dX12_mulch_0 : decode cX12_mulch 0 = .ok (.aload_n 0, 1) := by decide +kernel
theorem dX12_mulch_1 : decode cX12_mulch 1 = .ok (.iload_n 1, 1) := by decide +kernel
theorem dX12_mulch_2 : decode cX12_mulch 2 = .ok (.invokevirtual 67, 3) := by decide +kernel
theorem dX12_mulch_5 : decode cX12_mulch 5 = .ok (.ifCond .eq 5, 3) := by decide +kernel
theorem dX12_mulch_8 : decode cX12_mulch 8 = .ok (.iconst 0, 1) := by decide +kernel
theorem dX12_mulch_9 : decode cX12_mulch 9 = .ok (.ireturn, 1) := by decide +kernel
theorem dX12_noColumn_0 : decode cX12_noColumn 0 = .ok (.aload_n 0, 1) := by decide +kernel
theorem dX12_noColumn_1 : decode cX12_noColumn 1 = .ok (.aload_n 0, 1) := by decide +kernel
theorem dX12_noColumn_2 : decode cX12_noColumn 2 = .ok (.iload_n 1, 1) := by decide +kernel
theorem dX12_noColumn_3 : decode cX12_noColumn 3 = .ok (.invokevirtual 43, 3) := by decide +kernel
theorem dX12_noColumn_6 : decode cX12_noColumn 6 = .ok (.ifCond .eq 7, 3) := by decide +kernel
theorem dX12_noColumn_13 : decode cX12_noColumn 13 = .ok (.iconst 1, 1) := by decide +kernel
theorem dX12_noColumn_14 : decode cX12_noColumn 14 = .ok (.putfield 31, 3) := by decide +kernel
theorem dX12_noColumn_17 : decode cX12_noColumn 17 = .ok (.aload_n 0, 1) := by decide +kernel
theorem dX12_noColumn_18 : decode cX12_noColumn 18 = .ok (.getfield 31, 3) := by decide +kernel
theorem dX12_noColumn_21 : decode cX12_noColumn 21 = .ok (.ifCond .le 7, 3) := by decide +kernel
theorem dX12_noColumn_24 : decode cX12_noColumn 24 = .ok (.iconst 1, 1) := by decide +kernel
theorem dX12_noColumn_25 : decode cX12_noColumn 25 = .ok (.goto 4, 3) := by decide +kernel
theorem dX12_noColumn_29 : decode cX12_noColumn 29 = .ok (.ireturn, 1) := by decide +kernel
theorem dX12_noFit_0 : decode cX12_noFit 0 = .ok (.aload_n 0, 1) := by decide +kernel
theorem dX12_noFit_1 : decode cX12_noFit 1 = .ok (.iload_n 1, 1) := by decide +kernel
theorem dX12_noFit_2 : decode cX12_noFit 2 = .ok (.invokevirtual 67, 3) := by decide +kernel
theorem dX12_noFit_5 : decode cX12_noFit 5 = .ok (.ifCond .ne 36, 3) := by decide +kernel
theorem dX12_noFit_41 : decode cX12_noFit 41 = .ok (.aload_n 0, 1) := by decide +kernel
theorem dX12_noFit_42 : decode cX12_noFit 42 = .ok (.getfield 31, 3) := by decide +kernel
theorem dX12_noFit_45 : decode cX12_noFit 45 = .ok (.ifCond .le 7, 3) := by decide +kernel
theorem dX12_noFit_48 : decode cX12_noFit 48 = .ok (.iconst 1, 1) := by decide +kernel
theorem dX12_noFit_49 : decode cX12_noFit 49 = .ok (.goto 4, 3) := by decide +kernel
theorem dX12_noFit_53 : decode cX12_noFit 53 = .ok (.ireturn, 1) := by decide +kernel
theorem dX12_noLayer_0 : decode cX12_noLayer 0 = .ok (.aload_n 0, 1) := by decide +kernel
theorem dX12_noLayer_1 : decode cX12_noLayer 1 = .ok (.aload_n 0, 1) := by decide +kernel
theorem dX12_noLayer_2 : decode cX12_noLayer 2 = .ok (.iload_n 1, 1) := by decide +kernel
theorem dX12_noLayer_3 : decode cX12_noLayer 3 = .ok (.invokevirtual 43, 3) := by decide +kernel
theorem dX12_noLayer_6 : decode cX12_noLayer 6 = .ok (.ifCond .eq 36, 3) := by decide +kernel
theorem dX12_noLayer_42 : decode cX12_noLayer 42 = .ok (.iconst 1, 1) := by decide +kernel
theorem dX12_noLayer_43 : decode cX12_noLayer 43 = .ok (.putfield 31, 3) := by decide +kernel
theorem dX12_noLayer_46 : decode cX12_noLayer 46 = .ok (.aload_n 0, 1) := by decide +kernel
theorem dX12_noLayer_47 : decode cX12_noLayer 47 = .ok (.getfield 31, 3) := by decide +kernel
theorem dX12_noLayer_50 : decode cX12_noLayer 50 = .ok (.ifCond .le 7, 3) := by decide +kernel
theorem dX12_noLayer_53 : decode cX12_noLayer 53 = .ok (.iconst 1, 1) := by decide +kernel
theorem dX12_noLayer_54 : decode cX12_noLayer 54 = .ok (.goto 4, 3) := by decide +kernel
theorem dX12_noLayer_58 : decode cX12_noLayer 58 = .ok (.ireturn, 1) := by decide +kernel
theorem dX12_out_0 : decode cX12_out 0 = .ok (.aload_n 0, 1) := by decide +kernel
theorem dX12_out_1 : decode cX12_out 1 = .ok (.iload_n 1, 1) := by decide +kernel
theorem dX12_out_2 : decode cX12_out 2 = .ok (.invokevirtual 67, 3) := by decide +kernel
theorem dX12_out_5 : decode cX12_out 5 = .ok (.ifCond .eq 5, 3) := by decide +kernel
theorem dX12_out_8 : decode cX12_out 8 = .ok (.lconst 0, 1) := by decide +kernel
theorem dX12_out_9 : decode cX12_out 9 = .ok (.lreturn, 1) := by decide +kernel
theorem dX12_plant_0 : decode cX12_plant 0 = .ok (.aload_n 0, 1) := by decide +kernel
theorem dX12_plant_1 : decode cX12_plant 1 = .ok (.iload_n 1, 1) := by decide +kernel
theorem dX12_plant_2 : decode cX12_plant 2 = .ok (.invokevirtual 67, 3) := by decide +kernel
theorem dX12_plant_5 : decode cX12_plant 5 = .ok (.ifCond .eq 5, 3) := by decide +kernel
theorem dX12_plant_8 : decode cX12_plant 8 = .ok (.iconst 0, 1) := by decide +kernel
theorem dX12_plant_9 : decode cX12_plant 9 = .ok (.ireturn, 1) := by decide +kernel
theorem dX12_recharge_0 : decode cX12_recharge 0 = .ok (.aload_n 0, 1) := by decide +kernel
theorem dX12_recharge_1 : decode cX12_recharge 1 = .ok (.iload_n 1, 1) := by decide +kernel
theorem dX12_recharge_2 : decode cX12_recharge 2 = .ok (.invokevirtual 67, 3) := by decide +kernel
theorem dX12_recharge_5 : decode cX12_recharge 5 = .ok (.ifCond .eq 7, 3) := by decide +kernel
theorem dX12_recharge_8 : decode cX12_recharge 8 = .ok (.lconst 0, 1) := by decide +kernel
theorem dX12_recharge_9 : decode cX12_recharge 9 = .ok (.goto 17, 3) := by decide +kernel
theorem dX12_recharge_26 : decode cX12_recharge 26 = .ok (.lreturn, 1) := by decide +kernel
theorem dX12_reflection_0 : decode cX12_reflection 0 = .ok (.aload_n 0, 1) := by decide +kernel
theorem dX12_reflection_1 : decode cX12_reflection 1 = .ok (.iload_n 1, 1) := by decide +kernel
theorem dX12_reflection_2 : decode cX12_reflection 2 = .ok (.iload_n 2, 1) := by decide +kernel
theorem dX12_reflection_3 : decode cX12_reflection 3 = .ok (.invokevirtual 79, 3) := by decide +kernel
theorem dX12_reflection_6 : decode cX12_reflection 6 = .ok (.ifCond .eq 5, 3) := by decide +kernel
theorem dX12_reflection_9 : decode cX12_reflection 9 = .ok (.iconst 0, 1) := by decide +kernel
theorem dX12_reflection_10 : decode cX12_reflection 10 = .ok (.ireturn, 1) := by decide +kernel
theorem dX12_rule_0 : decode cX12_rule 0 = .ok (.aload_n 0, 1) := by decide +kernel
theorem dX12_rule_1 : decode cX12_rule 1 = .ok (.iload_n 1, 1) := by decide +kernel
theorem dX12_rule_2 : decode cX12_rule 2 = .ok (.invokevirtual 67, 3) := by decide +kernel
theorem dX12_rule_5 : decode cX12_rule 5 = .ok (.ifCond .eq 5, 3) := by decide +kernel
theorem dX12_rule_8 : decode cX12_rule 8 = .ok (.iconst 0, 1) := by decide +kernel
theorem dX12_rule_9 : decode cX12_rule 9 = .ok (.ireturn, 1) := by decide +kernel
theorem dX12_runoff_0 : decode cX12_runoff 0 = .ok (.aload_n 0, 1) := by decide +kernel
theorem dX12_runoff_1 : decode cX12_runoff 1 = .ok (.iload_n 1, 1) := by decide +kernel
theorem dX12_runoff_2 : decode cX12_runoff 2 = .ok (.invokevirtual 67, 3) := by decide +kernel
theorem dX12_runoff_5 : decode cX12_runoff 5 = .ok (.ifCond .eq 7, 3) := by decide +kernel
theorem dX12_runoff_8 : decode cX12_runoff 8 = .ok (.lconst 0, 1) := by decide +kernel
theorem dX12_runoff_9 : decode cX12_runoff 9 = .ok (.goto 17, 3) := by decide +kernel
theorem dX12_runoff_26 : decode cX12_runoff 26 = .ok (.lreturn, 1) := by decide +kernel
theorem dX12_scale_0 : decode cX12_scale 0 = .ok (.aload_n 0, 1) := by decide +kernel
theorem dX12_scale_1 : decode cX12_scale 1 = .ok (.iload_n 1, 1) := by decide +kernel
theorem dX12_scale_2 : decode cX12_scale 2 = .ok (.invokevirtual 67, 3) := by decide +kernel
theorem dX12_scale_5 : decode cX12_scale 5 = .ok (.ifCond .eq 5, 3) := by decide +kernel
theorem dX12_scale_8 : decode cX12_scale 8 = .ok (.iconst 0, 1) := by decide +kernel
theorem dX12_scale_9 : decode cX12_scale 9 = .ok (.ireturn, 1) := by decide +kernel
theorem dX12_setRight_0 : decode cX12_setRight 0 = .ok (.aload_n 0, 1) := by decide +kernel
theorem dX12_setRight_1 : decode cX12_setRight 1 = .ok (.iload_n 1, 1) := by decide +kernel
theorem dX12_setRight_2 : decode cX12_setRight 2 = .ok (.invokevirtual 67, 3) := by decide +kernel
theorem dX12_setRight_5 : decode cX12_setRight 5 = .ok (.ifCond .eq 5, 3) := by decide +kernel
theorem dX12_setRight_8 : decode cX12_setRight 8 = .ok (.iconst 0, 1) := by decide +kernel
theorem dX12_setRight_9 : decode cX12_setRight 9 = .ok (.ireturn, 1) := by decide +kernel
theorem dX12_solute_0 : decode cX12_solute 0 = .ok (.aload_n 0, 1) := by decide +kernel
theorem dX12_solute_1 : decode cX12_solute 1 = .ok (.iload_n 1, 1) := by decide +kernel
theorem dX12_solute_2 : decode cX12_solute 2 = .ok (.iload_n 2, 1) := by decide +kernel
theorem dX12_solute_3 : decode cX12_solute 3 = .ok (.invokevirtual 79, 3) := by decide +kernel
theorem dX12_solute_6 : decode cX12_solute 6 = .ok (.ifCond .eq 5, 3) := by decide +kernel
theorem dX12_solute_9 : decode cX12_solute 9 = .ok (.lconst 0, 1) := by decide +kernel
theorem dX12_solute_10 : decode cX12_solute 10 = .ok (.lreturn, 1) := by decide +kernel
theorem dX12_spread_0 : decode cX12_spread 0 = .ok (.aload_n 0, 1) := by decide +kernel
theorem dX12_spread_1 : decode cX12_spread 1 = .ok (.iload_n 1, 1) := by decide +kernel
theorem dX12_spread_2 : decode cX12_spread 2 = .ok (.invokevirtual 67, 3) := by decide +kernel
theorem dX12_spread_5 : decode cX12_spread 5 = .ok (.ifCond .eq 5, 3) := by decide +kernel
theorem dX12_spread_8 : decode cX12_spread 8 = .ok (.lconst 0, 1) := by decide +kernel
theorem dX12_spread_9 : decode cX12_spread 9 = .ok (.lreturn, 1) := by decide +kernel
theorem dX12_standing_0 : decode cX12_standing 0 = .ok (.aload_n 0, 1) := by decide +kernel
theorem dX12_standing_1 : decode cX12_standing 1 = .ok (.iload_n 1, 1) := by decide +kernel
theorem dX12_standing_2 : decode cX12_standing 2 = .ok (.invokevirtual 67, 3) := by decide +kernel
theorem dX12_standing_5 : decode cX12_standing 5 = .ok (.ifCond .eq 7, 3) := by decide +kernel
theorem dX12_standing_8 : decode cX12_standing 8 = .ok (.iconst 0, 1) := by decide +kernel
theorem dX12_standing_9 : decode cX12_standing 9 = .ok (.goto 17, 3) := by decide +kernel
theorem dX12_standing_26 : decode cX12_standing 26 = .ok (.ireturn, 1) := by decide +kernel
theorem dX12_stress_0 : decode cX12_stress 0 = .ok (.aload_n 0, 1) := by decide +kernel
theorem dX12_stress_1 : decode cX12_stress 1 = .ok (.iload_n 1, 1) := by decide +kernel
theorem dX12_stress_2 : decode cX12_stress 2 = .ok (.invokevirtual 67, 3) := by decide +kernel
theorem dX12_stress_5 : decode cX12_stress 5 = .ok (.ifCond .eq 5, 3) := by decide +kernel
theorem dX12_stress_8 : decode cX12_stress 8 = .ok (.iconst 0, 1) := by decide +kernel
theorem dX12_stress_9 : decode cX12_stress 9 = .ok (.ireturn, 1) := by decide +kernel
theorem dX12_tension_0 : decode cX12_tension 0 = .ok (.aload_n 0, 1) := by decide +kernel
theorem dX12_tension_1 : decode cX12_tension 1 = .ok (.iload_n 1, 1) := by decide +kernel
theorem dX12_tension_2 : decode cX12_tension 2 = .ok (.iload_n 2, 1) := by decide +kernel
theorem dX12_tension_3 : decode cX12_tension 3 = .ok (.invokevirtual 79, 3) := by decide +kernel
theorem dX12_tension_6 : decode cX12_tension 6 = .ok (.ifCond .eq 5, 3) := by decide +kernel
theorem dX12_tension_9 : decode cX12_tension 9 = .ok (.iconst 0, 1) := by decide +kernel
theorem dX12_tension_10 : decode cX12_tension 10 = .ok (.ireturn, 1) := by decide +kernel
theorem dX12_thrown_0 : decode cX12_thrown 0 = .ok (.aload_n 0, 1) := by decide +kernel
theorem dX12_thrown_1 : decode cX12_thrown 1 = .ok (.getfield 31, 3) := by decide +kernel
theorem dX12_thrown_4 : decode cX12_thrown 4 = .ok (.ireturn, 1) := by decide +kernel
theorem dX12_vapour_0 : decode cX12_vapour 0 = .ok (.aload_n 0, 1) := by decide +kernel
theorem dX12_vapour_1 : decode cX12_vapour 1 = .ok (.iload_n 1, 1) := by decide +kernel
theorem dX12_vapour_2 : decode cX12_vapour 2 = .ok (.invokevirtual 67, 3) := by decide +kernel
theorem dX12_vapour_5 : decode cX12_vapour 5 = .ok (.ifCond .eq 7, 3) := by decide +kernel
theorem dX12_vapour_8 : decode cX12_vapour 8 = .ok (.lconst 0, 1) := by decide +kernel
theorem dX12_vapour_9 : decode cX12_vapour 9 = .ok (.goto 17, 3) := by decide +kernel
theorem dX12_vapour_26 : decode cX12_vapour 26 = .ok (.lreturn, 1) := by decide +kernel
theorem dX12_water_0 : decode cX12_water 0 = .ok (.aload_n 0, 1) := by decide +kernel
theorem dX12_water_1 : decode cX12_water 1 = .ok (.iload_n 1, 1) := by decide +kernel
theorem dX12_water_2 : decode cX12_water 2 = .ok (.iload_n 2, 1) := by decide +kernel
theorem dX12_water_3 : decode cX12_water 3 = .ok (.invokevirtual 79, 3) := by decide +kernel
theorem dX12_water_6 : decode cX12_water 6 = .ok (.ifCond .eq 7, 3) := by decide +kernel
theorem dX12_water_9 : decode cX12_water 9 = .ok (.iconst 0, 1) := by decide +kernel
theorem dX12_water_10 : decode cX12_water 10 = .ok (.goto 12, 3) := by decide +kernel
theorem dX12_water_22 : decode cX12_water 22 = .ok (.ireturn, 1) := by decide +kernel
theorem dX12_weigh_0 : decode cX12_weigh 0 = .ok (.aload_n 0, 1) := by decide +kernel
theorem dX12_weigh_1 : decode cX12_weigh 1 = .ok (.iload_n 1, 1) := by decide +kernel
theorem dX12_weigh_2 : decode cX12_weigh 2 = .ok (.invokevirtual 67, 3) := by decide +kernel
theorem dX12_weigh_5 : decode cX12_weigh 5 = .ok (.ifCond .eq 5, 3) := by decide +kernel
theorem dX12_weigh_8 : decode cX12_weigh 8 = .ok (.iconst 0, 1) := by decide +kernel
theorem dX12_weigh_9 : decode cX12_weigh 9 = .ok (.ireturn, 1) := by decide +kernel
theorem dX12_wet_0 : decode cX12_wet 0 = .ok (.aload_n 0, 1) := by decide +kernel
theorem dX12_wet_1 : decode cX12_wet 1 = .ok (.iload_n 1, 1) := by decide +kernel
theorem dX12_wet_2 : decode cX12_wet 2 = .ok (.iload_n 2, 1) := by decide +kernel
theorem dX12_wet_3 : decode cX12_wet 3 = .ok (.invokevirtual 79, 3) := by decide +kernel
theorem dX12_wet_6 : decode cX12_wet 6 = .ok (.ifCond .eq 5, 3) := by decide +kernel
theorem dX12_wet_9 : decode cX12_wet 9 = .ok (.iconst 0, 1) := by decide +kernel
theorem dX12_wet_10 : decode cX12_wet 10 = .ok (.ireturn, 1) := by decide +kernel
theorem iwX12 : ∀ w ∈ wsX120, w ∈ lw_all := al_all (by decide +kernel)
theorem q6 : Cond.initialized RX12 ∈ lw_all := al_in (i := 6) (by decide +kernel) (by decide +kernel)
theorem q1161 : Cond.fieldLink RX12 31 "LysimeterFieldModel" "thrown" "I" ∈ lw_all := al_in (i := 1161) (by decide +kernel) (by decide +kernel)
theorem q1162 : Cond.fieldLink RX12 18 "LysimeterFieldModel" "columns" "Ljava/util/ArrayList;" ∈ lw_all := al_in (i := 1162) (by decide +kernel) (by decide +kernel)
theorem q1265 : Cond.methodLink RX12 35 yJx4a65c_size_8abf5 ∈ lw_all := al_in (i := 1265) (by decide +kernel) (by decide +kernel)
theorem q1350 : Cond.methodLink RX12 67 yX12_noColumn ∈ lw_all := al_in (i := 1350) (by decide +kernel) (by decide +kernel)
theorem q1352 : Cond.instanceMethod yX12_noColumn ∈ lw_all := al_in (i := 1352) (by decide +kernel) (by decide +kernel)
theorem q1353 : Cond.code yX12_noColumn cX12_noColumn 2 (some .boolean) ∈ lw_all := al_in (i := 1353) (by decide +kernel) (by decide +kernel)
theorem q1354 : Cond.methodLink RX12 43 yX12_isColumn ∈ lw_all := al_in (i := 1354) (by decide +kernel) (by decide +kernel)
theorem q1356 : Cond.instanceMethod yX12_isColumn ∈ lw_all := al_in (i := 1356) (by decide +kernel) (by decide +kernel)
theorem q1357 : Cond.code yX12_isColumn cX12_isColumn 2 (some .boolean) ∈ lw_all := al_in (i := 1357) (by decide +kernel) (by decide +kernel)
theorem q1358 : Cond.methodLink RX12 39 yX12_in ∈ lw_all := al_in (i := 1358) (by decide +kernel) (by decide +kernel)
theorem q1359 : Cond.static yX12_in ∈ lw_all := al_in (i := 1359) (by decide +kernel) (by decide +kernel)
theorem q1360 : Cond.code yX12_in cX12_in 6 (some .boolean) ∈ lw_all := al_in (i := 1360) (by decide +kernel) (by decide +kernel)
theorem q1419 : Cond.methodLink RX12 79 yX12_noLayer ∈ lw_all := al_in (i := 1419) (by decide +kernel) (by decide +kernel)
theorem q1421 : Cond.instanceMethod yX12_noLayer ∈ lw_all := al_in (i := 1421) (by decide +kernel) (by decide +kernel)
theorem q1422 : Cond.code yX12_noLayer cX12_noLayer 3 (some .boolean) ∈ lw_all := al_in (i := 1422) (by decide +kernel) (by decide +kernel)
theorem q1737 : Cond.methodLink RX12 267 yX12_noFit ∈ lw_all := al_in (i := 1737) (by decide +kernel) (by decide +kernel)
theorem q1739 : Cond.instanceMethod yX12_noFit ∈ lw_all := al_in (i := 1739) (by decide +kernel) (by decide +kernel)
theorem q1740 : Cond.code yX12_noFit cX12_noFit 4 (some .boolean) ∈ lw_all := al_in (i := 1740) (by decide +kernel) (by decide +kernel)
theorem qs29 : Cond.selects RX12 yX12_noColumn yX12_noColumn ∈ lw_all := al_sel (i := 29) (by decide +kernel) (by decide +kernel)
theorem qs30 : Cond.selects RX12 yX12_isColumn yX12_isColumn ∈ lw_all := al_sel (i := 30) (by decide +kernel) (by decide +kernel)
theorem qs31 : Cond.selects RX12 yX12_noLayer yX12_noLayer ∈ lw_all := al_sel (i := 31) (by decide +kernel) (by decide +kernel)
theorem qs41 : Cond.selects RX12 yX12_noFit yX12_noFit ∈ lw_all := al_sel (i := 41) (by decide +kernel) (by decide +kernel)
set_option maxHeartbeats 4000000 in
set_option maxRecDepth 100000 in
/-- in(v, low, high) -/
theorem k_LM_in (l : Launch) (D : va_G) (p0 p1 p2 : Int64) (sz : Nat) : Met l yX12_in (wsA yX12_in cX12_in 6 (some .boolean)) ({ frames := 0, cells := 0, slots := 0, locals := 0 }) (va_Pc [.long p0, .long p1, .long p2] (EV D [] [] sz)) (va_Qi (fun (r : Int32) (_ : Unit) => r = xin p0 p1 p2) (fun _ _ => True) NoA) 0 0 NoA := by
  refine Met.ofW (cc := cX12_in) (maxL := 6) (ret := (some .boolean)) (by decide) rfl ?_
  intro p e s m args below meth c s₁ B hml hv
  obtain ⟨rfl, hsz, hP, hK, hD0, hG, hZ0⟩ := hv
  have hx := B.exec
  have hb := B.bytes
  have hr := B.returns
  have hts0 := atoms_spec (ws := wsA yX12_in cX12_in 6 (some .boolean)) B.pre
  have hts : ∀ w ∈ lw_all, w.before _ s = true := fun w h => hts0 w (List.mem_cons_of_mem _ h)
  have hown : s.vm.findClass RX12 = some m.cls := findClass_of_methodNamed B.named
  have hlocks := B.notSynchronized
  subst hsz
  have hD : va_D (fun _ => True) [] := hD0
  have hZ : ZZ NoA s s.heap := hZ0
  have hS : va_S NoA s.heap s.heap [] := va_S.rf
  have hP : va_P D vwCl [] s.heap := hP
  have hl := lv_entry ([.long p0, .long p1, .long p2]) (n := 6) (Nat.le_of_ble_eq_true rfl)
  rw [lg_entry_eq]
  generalize (lg_sl ([.long p0, .long p1, .long p2]) ++ List.replicate (6 - (lg_sl ([.long p0, .long p1, .long p2])).length) Slot.unset).toArray = ls at hl ⊢
  have hl : lv_has ls 6 [(0, .long p0), (2, .long p1), (4, .long p2)] := hl
  refine lv_lload_n hx hb dX12_in_0 rfl (lv_at hl 0 rfl) ?_
  refine lv_lload_n hx hb dX12_in_1 rfl (lv_at hl 1 rfl) ?_
  refine W.lcmp hx hb dX12_in_2 ?_
  refine lv_if_lt (tgt := 17) hx hb dX12_in_3 (by decide) (fun c_1 => ?_) (fun c_1 => ?_)
  · refine lv_iconst (v := 0) hx hb dX12_in_17 (by decide) ?_
    exact W.zret (v := 0) hx hb hr rfl (fun t ht hW => ⟨⟨0, (), rfl, xin_lo c_1, trivial⟩, hS.F ht⟩) hS.2.2 dX12_in_18
  · refine lv_lload_n hx hb dX12_in_6 rfl (lv_at hl 0 rfl) ?_
    refine lv_lload hx hb dX12_in_7 (lv_at hl 2 rfl) ?_
    refine W.lcmp hx hb dX12_in_9 ?_
    refine lv_if_gt (tgt := 17) hx hb dX12_in_10 (by decide) (fun c_2 => ?_) (fun c_2 => ?_)
    · refine lv_iconst (v := 0) hx hb dX12_in_17 (by decide) ?_
      exact W.zret (v := 0) hx hb hr rfl (fun t ht hW => ⟨⟨0, (), rfl, xin_hi c_2, trivial⟩, hS.F ht⟩) hS.2.2 dX12_in_18
    · refine lv_iconst (v := 1) hx hb dX12_in_13 (by decide) ?_
      refine lv_goto (tgt := 18) hx hb dX12_in_14 (by decide) ?_
      exact W.zret (v := 1) hx hb hr rfl (fun t ht hW => ⟨⟨1, (), rfl, xin_ok c_1 c_2, trivial⟩, hS.F ht⟩) hS.2.2 dX12_in_18
set_option maxHeartbeats 4000000 in
set_option maxRecDepth 100000 in
/-- isColumn on the fresh reference: false -/
theorem k_LM_isColumn (l : Launch) (D : va_G) (h : Nat) (th : Int32) (cs : Nat) (sk vh : Value) (md : Int32) (ed : Value) (p0 : Int32) (sz : Nat) : Met l yX12_isColumn (wsA yX12_isColumn cX12_isColumn 2 (some .boolean)) ({ frames := 1, cells := 0, slots := 0, locals := 25 }) (va_Pc [.ref h, .int p0] (EV D [] [(h, .inr (16, [.int th, .ref cs, sk, vh])), (cs, .inr (4, [.int md, ed, .int 0]))] sz)) (va_Qi (fun (r : Int32) (_ : Unit) => r = 0) (fun _ _ => True) NoA) 0 0 NoA := by
  refine Met.ofW (cc := cX12_isColumn) (maxL := 2) (ret := (some .boolean)) (by decide) rfl ?_
  intro p e s m args below meth c s₁ B hml hv
  obtain ⟨rfl, hsz, hP, hK, hD0, hG, hZ0⟩ := hv
  have hx := B.exec
  have hb := B.bytes
  have hr := B.returns
  have hts0 := atoms_spec (ws := wsA yX12_isColumn cX12_isColumn 2 (some .boolean)) B.pre
  have hts : ∀ w ∈ lw_all, w.before _ s = true := fun w h => hts0 w (List.mem_cons_of_mem _ h)
  have hown : s.vm.findClass RX12 = some m.cls := findClass_of_methodNamed B.named
  have hlocks := B.notSynchronized
  subst hsz
  have hD : va_D (fun _ => True) [(h, .inr (16, [.int th, .ref cs, sk, vh])), (cs, .inr (4, [.int md, ed, .int 0]))] := hD0
  have hZ : ZZ NoA s s.heap := hZ0
  have hS : va_S NoA s.heap s.heap [] := va_S.rf
  have hP : va_P D vwCl [(h, .inr (16, [.int th, .ref cs, sk, vh])), (cs, .inr (4, [.int md, ed, .int 0]))] s.heap := hP
  have hl := lv_entry ([.ref h, .int p0]) (n := 2) (Nat.le_of_ble_eq_true rfl)
  rw [lg_entry_eq]
  generalize (lg_sl ([.ref h, .int p0]) ++ List.replicate (2 - (lg_sl ([.ref h, .int p0])).length) Slot.unset).toArray = ls at hl ⊢
  have hl : lv_has ls 2 [(0, .ref h), (1, .int p0)] := hl
  refine lv_iload_n hx hb dX12_isColumn_0 rfl (lv_at hl 1 rfl) ?_
  refine lv_i2l hx hb dX12_isColumn_1 rfl ?_
  refine lv_lconst (v := 0) hx hb dX12_isColumn_2 (by decide) ?_
  refine lv_aload_n hx hb dX12_isColumn_3 rfl (lv_at hl 0 rfl) ?_
  refine va_get (D := D) (ci := 16) (v := .ref cs) (C := RX12) (T := TX12) (N := 4) hx hb hts iwX12 hown hK hP 0 rfl rfl 1 (by decide) (hts _ q1162) (fun _ h9 => h9) rfl dX12_isColumn_4 ?_
  have hPc := hP.sub (ws' := [(cs, .inr (4, [.int md, ed, .int 0]))]) [1] rfl
  have hDc := hD.sub (ws' := [(cs, .inr (4, [.int md, ed, .int 0]))]) [1] (by decide) rfl
  have hKc := hK.sub (tys' := []) [] rfl
  refine va_calli (va_runV (As := []) (rest := [.long 0, .long (Int32.toInt64 p0)]) ⟨hx, hb, hml, hown, hts⟩ (k_AL_size l D cs md (ed) 0 s.heap.size) (cwV 0 hts (gV q1265 q126 q127 q4 (gA q128)) rfl rfl rfl (by decide +kernel) ⟨Nat.le_of_ble_eq_true rfl, Nat.le_of_ble_eq_true rfl⟩) ⟨EV.fb, va_recv hKc hPc (ci := 4) (q0 := 0) rfl rfl, fun U hU hW => ⟨rfl, EV.at hPc hKc hDc hG (hZ.no hS) U hU hW⟩⟩ rfl rfl hl.1 rfl (lv_room (Nat.le_of_ble_eq_true rfl)) dX12_isColumn_7 ⟨Nat.le_of_ble_eq_true rfl, Nat.le_of_ble_eq_true rfl⟩) hS (fun q _ h => h.elim) (fun q h => h.elim) (fun r_1 u t H1 locs ht hvm hw hB hz1 hk1 hS => ?_)
  have hP := P_kept hP hk1
  generalize H1 = H at hP hS ⊢
  have hP : va_P D vwCl [(h, .inr (16, [.int th, .ref cs, sk, vh])), (cs, .inr (4, [.int md, ed, .int 0]))] H := hP
  subst hw
  refine lv_iconst (v := 1) hx hb dX12_isColumn_10 (by decide) ?_
  refine lv_isub hx hb dX12_isColumn_11 ?_
  refine lv_i2l hx hb dX12_isColumn_12 rfl ?_
  have hPc := hP.sub (ws' := []) [] rfl
  have hDc := hD.sub (ws' := []) [] (by decide) rfl
  have hKc := hK.sub (tys' := []) [] rfl
  refine va_calli (va_runS (As := [.long (Int32.toInt64 p0), .long 0, .long (Int32.toInt64 (0 - 1))]) (rest := []) ⟨hx, hb, hml, hown, hts⟩ (k_LM_in l D (Int32.toInt64 p0) 0 (Int32.toInt64 (0 - 1)) H.size) (va_cwS 3 hts (gS q1358 q1359 q6 (gA q1360)) rfl rfl rfl (by decide +kernel) ⟨Nat.le_of_ble_eq_true rfl, Nat.le_of_ble_eq_true rfl⟩) ⟨EV.fb, fun U hU hW => ⟨rfl, EV.at hPc hKc hDc hG (hZ.no hS) U hU hW⟩⟩ rfl rfl hl.1 rfl (lv_room (Nat.le_of_ble_eq_true rfl)) dX12_isColumn_13 ⟨Nat.le_of_ble_eq_true rfl, Nat.le_of_ble_eq_true rfl⟩) hS (fun q _ h => h.elim) (fun q h => h.elim) (fun r_2 u t H1 locs ht hvm hw hB hz1 hk1 hS => ?_)
  have hP := P_kept hP hk1
  generalize H1 = H at hP hS ⊢
  have hP : va_P D vwCl [(h, .inr (16, [.int th, .ref cs, sk, vh])), (cs, .inr (4, [.int md, ed, .int 0]))] H := hP
  have hw := hw.trans (xin_none _)
  subst hw
  exact W.zret (v := 0) hx hb hr rfl (fun t ht hW => ⟨⟨0, (), rfl, rfl, trivial⟩, hS.F ht⟩) hS.2.2 dX12_isColumn_16
set_option maxHeartbeats 4000000 in
set_option maxRecDepth 100000 in
/-- noColumn on the fresh reference: thrown is 1 then -/
theorem k_LM_noColumn (l : Launch) (D : va_G) (h : Nat) (th : Int32) (cs : Nat) (sk vh : Value) (md : Int32) (ed : Value) (p0 : Int32) (sz : Nat) : Met l yX12_noColumn (wsA yX12_noColumn cX12_noColumn 2 (some .boolean)) ({ frames := 2, cells := 0, slots := 0, locals := 46 }) (va_Pc [.ref h, .int p0] (EV D [] [(h, .inr (16, [.int th, .ref cs, sk, vh])), (cs, .inr (4, [.int md, ed, .int 0]))] sz)) (va_Qi (fun (r : Int32) (_ : Unit) => r = 1) (fun _ t => va_P D vwCl [(h, .inr (16, [.int 1, .ref cs, sk, vh])), (cs, .inr (4, [.int md, ed, .int 0]))] t.heap ∧ va_D (va_A [(h, .inr (16, [.int th, .ref cs, sk, vh])), (cs, .inr (4, [.int md, ed, .int 0]))] sz) [(h, .inr (16, [.int 1, .ref cs, sk, vh])), (cs, .inr (4, [.int md, ed, .int 0]))]) (va_A [(h, .inr (16, [.int th, .ref cs, sk, vh])), (cs, .inr (4, [.int md, ed, .int 0]))] sz)) 0 0 (va_A [(h, .inr (16, [.int th, .ref cs, sk, vh])), (cs, .inr (4, [.int md, ed, .int 0]))] sz) := by
  refine Met.ofW (cc := cX12_noColumn) (maxL := 2) (ret := (some .boolean)) (by decide) rfl ?_
  intro p e s m args below meth c s₁ B hml hv
  obtain ⟨rfl, hsz, hP, hK, hD0, hG, hZ0⟩ := hv
  have hx := B.exec
  have hb := B.bytes
  have hr := B.returns
  have hts0 := atoms_spec (ws := wsA yX12_noColumn cX12_noColumn 2 (some .boolean)) B.pre
  have hts : ∀ w ∈ lw_all, w.before _ s = true := fun w h => hts0 w (List.mem_cons_of_mem _ h)
  have hown : s.vm.findClass RX12 = some m.cls := findClass_of_methodNamed B.named
  have hlocks := B.notSynchronized
  subst hsz
  have hZ := ZZ.wide hP hZ0
  have hD := hD0.self (sz := s.heap.size)
  generalize hAe : va_A [(h, .inr (16, [.int th, .ref cs, sk, vh])), (cs, .inr (4, [.int md, ed, .int 0]))] s.heap.size = A at hD hZ ⊢
  have hA : ∀ q : Nat, s.heap.size ≤ q → A q := fun q h => by rw [← hAe]; exact Or.inr h
  have hS : va_S A s.heap s.heap [] := va_S.rf
  have hP : va_P D vwCl [(h, .inr (16, [.int th, .ref cs, sk, vh])), (cs, .inr (4, [.int md, ed, .int 0]))] s.heap := hP
  have hl := lv_entry ([.ref h, .int p0]) (n := 2) (Nat.le_of_ble_eq_true rfl)
  rw [lg_entry_eq]
  generalize (lg_sl ([.ref h, .int p0]) ++ List.replicate (2 - (lg_sl ([.ref h, .int p0])).length) Slot.unset).toArray = ls at hl ⊢
  have hl : lv_has ls 2 [(0, .ref h), (1, .int p0)] := hl
  refine lv_aload_n hx hb dX12_noColumn_0 rfl (lv_at hl 0 rfl) ?_
  refine lv_aload_n hx hb dX12_noColumn_1 rfl (lv_at hl 0 rfl) ?_
  refine lv_iload_n hx hb dX12_noColumn_2 rfl (lv_at hl 1 rfl) ?_
  have hPc := hP.sub (ws' := [(h, .inr (16, [.int th, .ref cs, sk, vh])), (cs, .inr (4, [.int md, ed, .int 0]))]) [0, 1] rfl
  have hDc := hD.sub (ws' := [(h, .inr (16, [.int th, .ref cs, sk, vh])), (cs, .inr (4, [.int md, ed, .int 0]))]) [0, 1] (by decide) rfl
  have hKc := hK.sub (tys' := []) [] rfl
  refine va_calli (va_runV (As := [.int p0]) (rest := [.ref h]) ⟨hx, hb, hml, hown, hts⟩ (k_LM_isColumn l D h th cs sk vh md (ed) p0 s.heap.size) (cwV 1 hts (gV q1354 q1356 qs30 q6 (gA q1357)) rfl rfl rfl (by decide +kernel) ⟨Nat.le_of_ble_eq_true rfl, Nat.le_of_ble_eq_true rfl⟩) ⟨EV.fb, va_recv hKc hPc (ci := 16) (q0 := 0) rfl rfl, fun U hU hW => ⟨rfl, EV.at hPc hKc hDc hG (hZ.no hS) U hU hW⟩⟩ rfl rfl hl.1 rfl (lv_room (Nat.le_of_ble_eq_true rfl)) dX12_noColumn_3 ⟨Nat.le_of_ble_eq_true rfl, Nat.le_of_ble_eq_true rfl⟩) hS (fun q _ h => h.elim) (fun q h => h.elim) (fun r_1 u t H1 locs ht hvm hw hB hz1 hk1 hS => ?_)
  have hP := P_kept hP hk1
  generalize H1 = H at hP hS ⊢
  have hP : va_P D vwCl [(h, .inr (16, [.int th, .ref cs, sk, vh])), (cs, .inr (4, [.int md, ed, .int 0]))] H := hP
  subst hw
  refine lv_if_eq (tgt := 13) hx hb dX12_noColumn_6 (by decide) (fun c_2 => ?_) (fun c_2 => ?_)
  · refine lv_iconst (v := 1) hx hb dX12_noColumn_13 (by decide) ?_
    refine va_put (D := D) (ci := 16) (v := .int 1) (ty := .int) (C := RX12) (T := TX12) (N := 4) hx hb hts iwX12 tyX12 tyX12_ok nmX12 hown hK hP hD hS 0 rfl rfl 0 (by decide) (hts _ q1161) (fun _ h9 => h9) rfl (by decide +kernel) rfl rfl (Nat.le_of_ble_eq_true rfl) dX12_noColumn_14 (fun H locs hP hD hS => ?_)
    have hP : va_P D vwCl [(h, .inr (16, [.int 1, .ref cs, sk, vh])), (cs, .inr (4, [.int md, ed, .int 0]))] H := hP
    have hD : va_D A [(h, .inr (16, [.int 1, .ref cs, sk, vh])), (cs, .inr (4, [.int md, ed, .int 0]))] := hD
    refine lv_aload_n hx hb dX12_noColumn_17 rfl (lv_at hl 0 rfl) ?_
    refine va_get (D := D) (ci := 16) (v := .int 1) (C := RX12) (T := TX12) (N := 4) hx hb hts iwX12 hown hK hP 0 rfl rfl 0 (by decide) (hts _ q1161) (fun _ h9 => h9) rfl dX12_noColumn_18 ?_
    refine lv_if_le (tgt := 28) hx hb dX12_noColumn_21 (by decide) (fun c_3 => ?_) (fun c_3 => ?_)
    · exact absurd c_3 (by decide)
    · refine lv_iconst (v := 1) hx hb dX12_noColumn_24 (by decide) ?_
      refine lv_goto (tgt := 29) hx hb dX12_noColumn_25 (by decide) ?_
      have hP9 := hP.sub (ws' := [(h, .inr (16, [.int 1, .ref cs, sk, vh])), (cs, .inr (4, [.int md, ed, .int 0]))]) [0, 1] rfl
      have hD9 := hD.sub (ws' := [(h, .inr (16, [.int 1, .ref cs, sk, vh])), (cs, .inr (4, [.int md, ed, .int 0]))]) [0, 1] (by decide) rfl
      refine W.widen (k := 0) (n := 0) (Nat.le_of_ble_eq_true rfl) (Nat.le_of_ble_eq_true rfl) ?_
      exact W.zret (v := 1) hx hb hr rfl (fun t ht hW => ⟨⟨1, (), rfl, rfl, by rw [ht]; exact hP9, hD9⟩, hS.F ht⟩) hS.2.2 dX12_noColumn_29
  · exact absurd (by decide) c_2
set_option maxHeartbeats 4000000 in
set_option maxRecDepth 100000 in
/-- noLayer on the fresh reference: thrown is 1 then -/
theorem k_LM_noLayer (l : Launch) (D : va_G) (h : Nat) (th : Int32) (cs : Nat) (sk vh : Value) (md : Int32) (ed : Value) (p0 : Int32) (p1 : Int32) (sz : Nat) : Met l yX12_noLayer (wsA yX12_noLayer cX12_noLayer 3 (some .boolean)) ({ frames := 2, cells := 0, slots := 0, locals := 46 }) (va_Pc [.ref h, .int p0, .int p1] (EV D [] [(h, .inr (16, [.int th, .ref cs, sk, vh])), (cs, .inr (4, [.int md, ed, .int 0]))] sz)) (va_Qi (fun (r : Int32) (_ : Unit) => r = 1) (fun _ t => va_P D vwCl [(h, .inr (16, [.int 1, .ref cs, sk, vh])), (cs, .inr (4, [.int md, ed, .int 0]))] t.heap ∧ va_D (va_A [(h, .inr (16, [.int th, .ref cs, sk, vh])), (cs, .inr (4, [.int md, ed, .int 0]))] sz) [(h, .inr (16, [.int 1, .ref cs, sk, vh])), (cs, .inr (4, [.int md, ed, .int 0]))]) (va_A [(h, .inr (16, [.int th, .ref cs, sk, vh])), (cs, .inr (4, [.int md, ed, .int 0]))] sz)) 0 0 (va_A [(h, .inr (16, [.int th, .ref cs, sk, vh])), (cs, .inr (4, [.int md, ed, .int 0]))] sz) := by
  refine Met.ofW (cc := cX12_noLayer) (maxL := 3) (ret := (some .boolean)) (by decide) rfl ?_
  intro p e s m args below meth c s₁ B hml hv
  obtain ⟨rfl, hsz, hP, hK, hD0, hG, hZ0⟩ := hv
  have hx := B.exec
  have hb := B.bytes
  have hr := B.returns
  have hts0 := atoms_spec (ws := wsA yX12_noLayer cX12_noLayer 3 (some .boolean)) B.pre
  have hts : ∀ w ∈ lw_all, w.before _ s = true := fun w h => hts0 w (List.mem_cons_of_mem _ h)
  have hown : s.vm.findClass RX12 = some m.cls := findClass_of_methodNamed B.named
  have hlocks := B.notSynchronized
  subst hsz
  have hZ := ZZ.wide hP hZ0
  have hD := hD0.self (sz := s.heap.size)
  generalize hAe : va_A [(h, .inr (16, [.int th, .ref cs, sk, vh])), (cs, .inr (4, [.int md, ed, .int 0]))] s.heap.size = A at hD hZ ⊢
  have hA : ∀ q : Nat, s.heap.size ≤ q → A q := fun q h => by rw [← hAe]; exact Or.inr h
  have hS : va_S A s.heap s.heap [] := va_S.rf
  have hP : va_P D vwCl [(h, .inr (16, [.int th, .ref cs, sk, vh])), (cs, .inr (4, [.int md, ed, .int 0]))] s.heap := hP
  have hl := lv_entry ([.ref h, .int p0, .int p1]) (n := 3) (Nat.le_of_ble_eq_true rfl)
  rw [lg_entry_eq]
  generalize (lg_sl ([.ref h, .int p0, .int p1]) ++ List.replicate (3 - (lg_sl ([.ref h, .int p0, .int p1])).length) Slot.unset).toArray = ls at hl ⊢
  have hl : lv_has ls 3 [(0, .ref h), (1, .int p0), (2, .int p1)] := hl
  refine lv_aload_n hx hb dX12_noLayer_0 rfl (lv_at hl 0 rfl) ?_
  refine lv_aload_n hx hb dX12_noLayer_1 rfl (lv_at hl 0 rfl) ?_
  refine lv_iload_n hx hb dX12_noLayer_2 rfl (lv_at hl 1 rfl) ?_
  have hPc := hP.sub (ws' := [(h, .inr (16, [.int th, .ref cs, sk, vh])), (cs, .inr (4, [.int md, ed, .int 0]))]) [0, 1] rfl
  have hDc := hD.sub (ws' := [(h, .inr (16, [.int th, .ref cs, sk, vh])), (cs, .inr (4, [.int md, ed, .int 0]))]) [0, 1] (by decide) rfl
  have hKc := hK.sub (tys' := []) [] rfl
  refine va_calli (va_runV (As := [.int p0]) (rest := [.ref h]) ⟨hx, hb, hml, hown, hts⟩ (k_LM_isColumn l D h th cs sk vh md (ed) p0 s.heap.size) (cwV 1 hts (gV q1354 q1356 qs30 q6 (gA q1357)) rfl rfl rfl (by decide +kernel) ⟨Nat.le_of_ble_eq_true rfl, Nat.le_of_ble_eq_true rfl⟩) ⟨EV.fb, va_recv hKc hPc (ci := 16) (q0 := 0) rfl rfl, fun U hU hW => ⟨rfl, EV.at hPc hKc hDc hG (hZ.no hS) U hU hW⟩⟩ rfl rfl hl.1 rfl (lv_room (Nat.le_of_ble_eq_true rfl)) dX12_noLayer_3 ⟨Nat.le_of_ble_eq_true rfl, Nat.le_of_ble_eq_true rfl⟩) hS (fun q _ h => h.elim) (fun q h => h.elim) (fun r_1 u t H1 locs ht hvm hw hB hz1 hk1 hS => ?_)
  have hP := P_kept hP hk1
  generalize H1 = H at hP hS ⊢
  have hP : va_P D vwCl [(h, .inr (16, [.int th, .ref cs, sk, vh])), (cs, .inr (4, [.int md, ed, .int 0]))] H := hP
  subst hw
  refine lv_if_eq (tgt := 42) hx hb dX12_noLayer_6 (by decide) (fun c_2 => ?_) (fun c_2 => ?_)
  · refine lv_iconst (v := 1) hx hb dX12_noLayer_42 (by decide) ?_
    refine va_put (D := D) (ci := 16) (v := .int 1) (ty := .int) (C := RX12) (T := TX12) (N := 4) hx hb hts iwX12 tyX12 tyX12_ok nmX12 hown hK hP hD hS 0 rfl rfl 0 (by decide) (hts _ q1161) (fun _ h9 => h9) rfl (by decide +kernel) rfl rfl (Nat.le_of_ble_eq_true rfl) dX12_noLayer_43 (fun H locs hP hD hS => ?_)
    have hP : va_P D vwCl [(h, .inr (16, [.int 1, .ref cs, sk, vh])), (cs, .inr (4, [.int md, ed, .int 0]))] H := hP
    have hD : va_D A [(h, .inr (16, [.int 1, .ref cs, sk, vh])), (cs, .inr (4, [.int md, ed, .int 0]))] := hD
    refine lv_aload_n hx hb dX12_noLayer_46 rfl (lv_at hl 0 rfl) ?_
    refine va_get (D := D) (ci := 16) (v := .int 1) (C := RX12) (T := TX12) (N := 4) hx hb hts iwX12 hown hK hP 0 rfl rfl 0 (by decide) (hts _ q1161) (fun _ h9 => h9) rfl dX12_noLayer_47 ?_
    refine lv_if_le (tgt := 57) hx hb dX12_noLayer_50 (by decide) (fun c_3 => ?_) (fun c_3 => ?_)
    · exact absurd c_3 (by decide)
    · refine lv_iconst (v := 1) hx hb dX12_noLayer_53 (by decide) ?_
      refine lv_goto (tgt := 58) hx hb dX12_noLayer_54 (by decide) ?_
      have hP9 := hP.sub (ws' := [(h, .inr (16, [.int 1, .ref cs, sk, vh])), (cs, .inr (4, [.int md, ed, .int 0]))]) [0, 1] rfl
      have hD9 := hD.sub (ws' := [(h, .inr (16, [.int 1, .ref cs, sk, vh])), (cs, .inr (4, [.int md, ed, .int 0]))]) [0, 1] (by decide) rfl
      refine W.widen (k := 0) (n := 0) (Nat.le_of_ble_eq_true rfl) (Nat.le_of_ble_eq_true rfl) ?_
      exact W.zret (v := 1) hx hb hr rfl (fun t ht hW => ⟨⟨1, (), rfl, rfl, by rw [ht]; exact hP9, hD9⟩, hS.F ht⟩) hS.2.2 dX12_noLayer_58
  · exact absurd (by decide) c_2
set_option maxHeartbeats 4000000 in
set_option maxRecDepth 100000 in
/-- noFit on the fresh reference: thrown is 1 then -/
theorem k_LM_noFit (l : Launch) (D : va_G) (h : Nat) (th : Int32) (cs : Nat) (sk vh : Value) (md : Int32) (ed : Value) (p0 : Int32) (p1 : Int32) (p2 : Int32) (sz : Nat) : Met l yX12_noFit (wsA yX12_noFit cX12_noFit 4 (some .boolean)) ({ frames := 3, cells := 0, slots := 0, locals := 67 }) (va_Pc [.ref h, .int p0, .int p1, .int p2] (EV D [] [(h, .inr (16, [.int th, .ref cs, sk, vh])), (cs, .inr (4, [.int md, ed, .int 0]))] sz)) (va_Qi (fun (r : Int32) (_ : Unit) => r = 1) (fun _ t => va_P D vwCl [(h, .inr (16, [.int 1, .ref cs, sk, vh])), (cs, .inr (4, [.int md, ed, .int 0]))] t.heap ∧ va_D (va_A [(h, .inr (16, [.int th, .ref cs, sk, vh])), (cs, .inr (4, [.int md, ed, .int 0]))] sz) [(h, .inr (16, [.int 1, .ref cs, sk, vh])), (cs, .inr (4, [.int md, ed, .int 0]))]) (va_A [(h, .inr (16, [.int th, .ref cs, sk, vh])), (cs, .inr (4, [.int md, ed, .int 0]))] sz)) 0 0 (va_A [(h, .inr (16, [.int th, .ref cs, sk, vh])), (cs, .inr (4, [.int md, ed, .int 0]))] sz) := by
  refine Met.ofW (cc := cX12_noFit) (maxL := 4) (ret := (some .boolean)) (by decide) rfl ?_
  intro p e s m args below meth c s₁ B hml hv
  obtain ⟨rfl, hsz, hP, hK, hD0, hG, hZ0⟩ := hv
  have hx := B.exec
  have hb := B.bytes
  have hr := B.returns
  have hts0 := atoms_spec (ws := wsA yX12_noFit cX12_noFit 4 (some .boolean)) B.pre
  have hts : ∀ w ∈ lw_all, w.before _ s = true := fun w h => hts0 w (List.mem_cons_of_mem _ h)
  have hown : s.vm.findClass RX12 = some m.cls := findClass_of_methodNamed B.named
  have hlocks := B.notSynchronized
  subst hsz
  have hZ := ZZ.wide hP hZ0
  have hD := hD0.self (sz := s.heap.size)
  generalize hAe : va_A [(h, .inr (16, [.int th, .ref cs, sk, vh])), (cs, .inr (4, [.int md, ed, .int 0]))] s.heap.size = A at hD hZ ⊢
  have hA : ∀ q : Nat, s.heap.size ≤ q → A q := fun q h => by rw [← hAe]; exact Or.inr h
  have hS : va_S A s.heap s.heap [] := va_S.rf
  have hP : va_P D vwCl [(h, .inr (16, [.int th, .ref cs, sk, vh])), (cs, .inr (4, [.int md, ed, .int 0]))] s.heap := hP
  have hl := lv_entry ([.ref h, .int p0, .int p1, .int p2]) (n := 4) (Nat.le_of_ble_eq_true rfl)
  rw [lg_entry_eq]
  generalize (lg_sl ([.ref h, .int p0, .int p1, .int p2]) ++ List.replicate (4 - (lg_sl ([.ref h, .int p0, .int p1, .int p2])).length) Slot.unset).toArray = ls at hl ⊢
  have hl : lv_has ls 4 [(0, .ref h), (1, .int p0), (2, .int p1), (3, .int p2)] := hl
  refine lv_aload_n hx hb dX12_noFit_0 rfl (lv_at hl 0 rfl) ?_
  refine lv_iload_n hx hb dX12_noFit_1 rfl (lv_at hl 1 rfl) ?_
  have hPc := hP.sub (ws' := [(h, .inr (16, [.int th, .ref cs, sk, vh])), (cs, .inr (4, [.int md, ed, .int 0]))]) [0, 1] rfl
  have hDc := hD.sub (ws' := [(h, .inr (16, [.int th, .ref cs, sk, vh])), (cs, .inr (4, [.int md, ed, .int 0]))]) [0, 1] (by decide) rfl
  have hKc := hK.sub (tys' := []) [] rfl
  have hFc := va_free (wc := [(h, .inr (16, [.int th, .ref cs, sk, vh])), (cs, .inr (4, [.int md, ed, .int 0]))]) hD hS hA [0, 1] rfl
  refine va_calli (va_runV (As := [.int p0]) (rest := []) ⟨hx, hb, hml, hown, hts⟩ (k_LM_noColumn l D h th cs sk vh md (ed) p0 s.heap.size) (cwV 1 hts (gV q1350 q1352 qs29 q6 (gA q1353)) rfl rfl rfl (by decide +kernel) ⟨Nat.le_of_ble_eq_true rfl, Nat.le_of_ble_eq_true rfl⟩) ⟨EV.fb, va_recv hKc hPc (ci := 16) (q0 := 0) rfl rfl, fun U hU hW => ⟨rfl, EV.at hPc hKc hDc hG (hZ.no hS) U hU hW⟩⟩ rfl rfl hl.1 rfl (lv_room (Nat.le_of_ble_eq_true rfl)) dX12_noFit_2 ⟨Nat.le_of_ble_eq_true rfl, Nat.le_of_ble_eq_true rfl⟩) hS (fun q _ h => hFc q h) hFc (fun r_1 u t H1 locs ht hvm hw hB hz1 hk1 hS => ?_)
  obtain ⟨hP1, hD1⟩ := hB
  rw [ht] at hP1
  obtain ⟨hP, hD⟩ := va_join (wr := []) (w1 := [(h, .inr (16, [.int 1, .ref cs, sk, vh])), (cs, .inr (4, [.int md, ed, .int 0]))]) hP hD [0, 1] [] rfl rfl (by decide) (by decide) hk1 hFc hP1 hD1
  generalize H1 = H at hP hS ⊢
  have hP : va_P D vwCl [(h, .inr (16, [.int 1, .ref cs, sk, vh])), (cs, .inr (4, [.int md, ed, .int 0]))] H := hP
  have hD : va_D A [(h, .inr (16, [.int 1, .ref cs, sk, vh])), (cs, .inr (4, [.int md, ed, .int 0]))] := hD
  subst hw
  refine lv_if_ne (tgt := 41) hx hb dX12_noFit_5 (by decide) (fun c_2 => ?_) (fun c_2 => ?_)
  · refine lv_aload_n hx hb dX12_noFit_41 rfl (lv_at hl 0 rfl) ?_
    refine va_get (D := D) (ci := 16) (v := .int 1) (C := RX12) (T := TX12) (N := 4) hx hb hts iwX12 hown hK hP 0 rfl rfl 0 (by decide) (hts _ q1161) (fun _ h9 => h9) rfl dX12_noFit_42 ?_
    refine lv_if_le (tgt := 52) hx hb dX12_noFit_45 (by decide) (fun c_3 => ?_) (fun c_3 => ?_)
    · exact absurd c_3 (by decide)
    · refine lv_iconst (v := 1) hx hb dX12_noFit_48 (by decide) ?_
      refine lv_goto (tgt := 53) hx hb dX12_noFit_49 (by decide) ?_
      have hP9 := hP.sub (ws' := [(h, .inr (16, [.int 1, .ref cs, sk, vh])), (cs, .inr (4, [.int md, ed, .int 0]))]) [0, 1] rfl
      have hD9 := hD.sub (ws' := [(h, .inr (16, [.int 1, .ref cs, sk, vh])), (cs, .inr (4, [.int md, ed, .int 0]))]) [0, 1] (by decide) rfl
      refine W.widen (k := 0) (n := 0) (Nat.le_of_ble_eq_true rfl) (Nat.le_of_ble_eq_true rfl) ?_
      exact W.zret (v := 1) hx hb hr rfl (fun t ht hW => ⟨⟨1, (), rfl, rfl, by rw [ht]; exact hP9, hD9⟩, hS.F ht⟩) hS.2.2 dX12_noFit_53
  · exact absurd c_2 (by decide)
set_option maxHeartbeats 4000000 in
set_option maxRecDepth 100000 in
/-- thrown() -/
theorem k_LM_thrown (l : Launch) (D : va_G) (h : Nat) (th : Int32) (cs : Nat) (sk vh : Value) (md : Int32) (ed : Value) (sz : Nat) : Met l yX12_thrown (wsA yX12_thrown cX12_thrown 1 (some .int)) ({ frames := 0, cells := 0, slots := 0, locals := 0 }) (va_Pc [.ref h] (EV D [] [(h, .inr (16, [.int th, .ref cs, sk, vh]))] sz)) (va_Qi (fun (r : Int32) (_ : Unit) => r = th) (fun _ _ => True) NoA) 0 0 NoA := by
  refine Met.ofW (cc := cX12_thrown) (maxL := 1) (ret := (some .int)) (by decide) rfl ?_
  intro p e s m args below meth c s₁ B hml hv
  obtain ⟨rfl, hsz, hP, hK, hD0, hG, hZ0⟩ := hv
  have hx := B.exec
  have hb := B.bytes
  have hr := B.returns
  have hts0 := atoms_spec (ws := wsA yX12_thrown cX12_thrown 1 (some .int)) B.pre
  have hts : ∀ w ∈ lw_all, w.before _ s = true := fun w h => hts0 w (List.mem_cons_of_mem _ h)
  have hown : s.vm.findClass RX12 = some m.cls := findClass_of_methodNamed B.named
  have hlocks := B.notSynchronized
  subst hsz
  have hD : va_D (fun _ => True) [(h, .inr (16, [.int th, .ref cs, sk, vh]))] := hD0
  have hZ : ZZ NoA s s.heap := hZ0
  have hS : va_S NoA s.heap s.heap [] := va_S.rf
  have hP : va_P D vwCl [(h, .inr (16, [.int th, .ref cs, sk, vh]))] s.heap := hP
  have hl := lv_entry ([.ref h]) (n := 1) (Nat.le_of_ble_eq_true rfl)
  rw [lg_entry_eq]
  generalize (lg_sl ([.ref h]) ++ List.replicate (1 - (lg_sl ([.ref h])).length) Slot.unset).toArray = ls at hl ⊢
  have hl : lv_has ls 1 [(0, .ref h)] := hl
  refine lv_aload_n hx hb dX12_thrown_0 rfl (lv_at hl 0 rfl) ?_
  refine va_get (D := D) (ci := 16) (v := .int th) (C := RX12) (T := TX12) (N := 4) hx hb hts iwX12 hown hK hP 0 rfl rfl 0 (by decide) (hts _ q1161) (fun _ h9 => h9) rfl dX12_thrown_1 ?_
  exact W.iret (v := th) hx hb hr (fun t ht hW => ⟨⟨th, (), rfl, rfl, trivial⟩, hS.F ht⟩) hS.2.2 dX12_thrown_4
set_option maxHeartbeats 4000000 in
set_option maxRecDepth 100000 in
/-- layer on the fresh reference: refused -/
theorem k_LM_layer (l : Launch) (D : va_G) (h : Nat) (th : Int32) (cs : Nat) (sk vh : Value) (md : Int32) (ed : Value) (p0 : Int32) (p1 : Int32) (p2 : Int32) (sz : Nat) : Met l yX12_layer (wsA yX12_layer cX12_layer 6 (some .int)) ({ frames := 3, cells := 0, slots := 0, locals := 67 }) (va_Pc [.ref h, .int p0, .int p1, .int p2] (EV D [] [(h, .inr (16, [.int th, .ref cs, sk, vh])), (cs, .inr (4, [.int md, ed, .int 0]))] sz)) (va_Qi (fun (_ : Int32) (_ : Unit) => True) (fun _ t => va_P D vwCl [(h, .inr (16, [.int 1, .ref cs, sk, vh])), (cs, .inr (4, [.int md, ed, .int 0]))] t.heap ∧ va_D (va_A [(h, .inr (16, [.int th, .ref cs, sk, vh])), (cs, .inr (4, [.int md, ed, .int 0]))] sz) [(h, .inr (16, [.int 1, .ref cs, sk, vh])), (cs, .inr (4, [.int md, ed, .int 0]))]) (va_A [(h, .inr (16, [.int th, .ref cs, sk, vh])), (cs, .inr (4, [.int md, ed, .int 0]))] sz)) 0 0 (va_A [(h, .inr (16, [.int th, .ref cs, sk, vh])), (cs, .inr (4, [.int md, ed, .int 0]))] sz) := by
  refine Met.ofW (cc := cX12_layer) (maxL := 6) (ret := (some .int)) (by decide) rfl ?_
  intro p e s m args below meth c s₁ B hml hv
  obtain ⟨rfl, hsz, hP, hK, hD0, hG, hZ0⟩ := hv
  have hx := B.exec
  have hb := B.bytes
  have hr := B.returns
  have hts0 := atoms_spec (ws := wsA yX12_layer cX12_layer 6 (some .int)) B.pre
  have hts : ∀ w ∈ lw_all, w.before _ s = true := fun w h => hts0 w (List.mem_cons_of_mem _ h)
  have hown : s.vm.findClass RX12 = some m.cls := findClass_of_methodNamed B.named
  have hlocks := B.notSynchronized
  subst hsz
  have hZ := ZZ.wide hP hZ0
  have hD := hD0.self (sz := s.heap.size)
  generalize hAe : va_A [(h, .inr (16, [.int th, .ref cs, sk, vh])), (cs, .inr (4, [.int md, ed, .int 0]))] s.heap.size = A at hD hZ ⊢
  have hA : ∀ q : Nat, s.heap.size ≤ q → A q := fun q h => by rw [← hAe]; exact Or.inr h
  have hS : va_S A s.heap s.heap [] := va_S.rf
  have hP : va_P D vwCl [(h, .inr (16, [.int th, .ref cs, sk, vh])), (cs, .inr (4, [.int md, ed, .int 0]))] s.heap := hP
  have hl := lv_entry ([.ref h, .int p0, .int p1, .int p2]) (n := 6) (Nat.le_of_ble_eq_true rfl)
  rw [lg_entry_eq]
  generalize (lg_sl ([.ref h, .int p0, .int p1, .int p2]) ++ List.replicate (6 - (lg_sl ([.ref h, .int p0, .int p1, .int p2])).length) Slot.unset).toArray = ls at hl ⊢
  have hl : lv_has ls 6 [(0, .ref h), (1, .int p0), (2, .int p1), (3, .int p2)] := hl
  refine lv_aload_n hx hb dX12_layer_0 rfl (lv_at hl 0 rfl) ?_
  refine lv_iload_n hx hb dX12_layer_1 rfl (lv_at hl 1 rfl) ?_
  have hPc := hP.sub (ws' := [(h, .inr (16, [.int th, .ref cs, sk, vh])), (cs, .inr (4, [.int md, ed, .int 0]))]) [0, 1] rfl
  have hDc := hD.sub (ws' := [(h, .inr (16, [.int th, .ref cs, sk, vh])), (cs, .inr (4, [.int md, ed, .int 0]))]) [0, 1] (by decide) rfl
  have hKc := hK.sub (tys' := []) [] rfl
  have hFc := va_free (wc := [(h, .inr (16, [.int th, .ref cs, sk, vh])), (cs, .inr (4, [.int md, ed, .int 0]))]) hD hS hA [0, 1] rfl
  refine va_calli (va_runV (As := [.int p0]) (rest := []) ⟨hx, hb, hml, hown, hts⟩ (k_LM_noColumn l D h th cs sk vh md (ed) p0 s.heap.size) (cwV 1 hts (gV q1350 q1352 qs29 q6 (gA q1353)) rfl rfl rfl (by decide +kernel) ⟨Nat.le_of_ble_eq_true rfl, Nat.le_of_ble_eq_true rfl⟩) ⟨EV.fb, va_recv hKc hPc (ci := 16) (q0 := 0) rfl rfl, fun U hU hW => ⟨rfl, EV.at hPc hKc hDc hG (hZ.no hS) U hU hW⟩⟩ rfl rfl hl.1 rfl (lv_room (Nat.le_of_ble_eq_true rfl)) dX12_layer_2 ⟨Nat.le_of_ble_eq_true rfl, Nat.le_of_ble_eq_true rfl⟩) hS (fun q _ h => hFc q h) hFc (fun r_1 u t H1 locs ht hvm hw hB hz1 hk1 hS => ?_)
  obtain ⟨hP1, hD1⟩ := hB
  rw [ht] at hP1
  obtain ⟨hP, hD⟩ := va_join (wr := []) (w1 := [(h, .inr (16, [.int 1, .ref cs, sk, vh])), (cs, .inr (4, [.int md, ed, .int 0]))]) hP hD [0, 1] [] rfl rfl (by decide) (by decide) hk1 hFc hP1 hD1
  generalize H1 = H at hP hS ⊢
  have hP : va_P D vwCl [(h, .inr (16, [.int 1, .ref cs, sk, vh])), (cs, .inr (4, [.int md, ed, .int 0]))] H := hP
  have hD : va_D A [(h, .inr (16, [.int 1, .ref cs, sk, vh])), (cs, .inr (4, [.int md, ed, .int 0]))] := hD
  subst hw
  refine lv_if_eq (tgt := 10) hx hb dX12_layer_5 (by decide) (fun c_2 => ?_) (fun c_2 => ?_)
  · exact absurd c_2 (by decide)
  · refine lv_iconst (v := 0) hx hb dX12_layer_8 (by decide) ?_
    have hP9 := hP.sub (ws' := [(h, .inr (16, [.int 1, .ref cs, sk, vh])), (cs, .inr (4, [.int md, ed, .int 0]))]) [0, 1] rfl
    have hD9 := hD.sub (ws' := [(h, .inr (16, [.int 1, .ref cs, sk, vh])), (cs, .inr (4, [.int md, ed, .int 0]))]) [0, 1] (by decide) rfl
    refine W.widen (k := 0) (n := 0) (Nat.le_of_ble_eq_true rfl) (Nat.le_of_ble_eq_true rfl) ?_
    exact W.iret (v := 0) hx hb hr (fun t ht hW => ⟨⟨0, (), rfl, trivial, by rw [ht]; exact hP9, hD9⟩, hS.F ht⟩) hS.2.2 dX12_layer_9
set_option maxHeartbeats 4000000 in
set_option maxRecDepth 100000 in
/-- wet on the fresh reference: refused -/
theorem k_LM_wet (l : Launch) (D : va_G) (h : Nat) (th : Int32) (cs : Nat) (sk vh : Value) (md : Int32) (ed : Value) (p0 : Int32) (p1 : Int32) (p2 : Int32) (sz : Nat) : Met l yX12_wet (wsA yX12_wet cX12_wet 6 (some .int)) ({ frames := 3, cells := 0, slots := 0, locals := 68 }) (va_Pc [.ref h, .int p0, .int p1, .int p2] (EV D [] [(h, .inr (16, [.int th, .ref cs, sk, vh])), (cs, .inr (4, [.int md, ed, .int 0]))] sz)) (va_Qi (fun (_ : Int32) (_ : Unit) => True) (fun _ t => va_P D vwCl [(h, .inr (16, [.int 1, .ref cs, sk, vh])), (cs, .inr (4, [.int md, ed, .int 0]))] t.heap ∧ va_D (va_A [(h, .inr (16, [.int th, .ref cs, sk, vh])), (cs, .inr (4, [.int md, ed, .int 0]))] sz) [(h, .inr (16, [.int 1, .ref cs, sk, vh])), (cs, .inr (4, [.int md, ed, .int 0]))]) (va_A [(h, .inr (16, [.int th, .ref cs, sk, vh])), (cs, .inr (4, [.int md, ed, .int 0]))] sz)) 0 0 (va_A [(h, .inr (16, [.int th, .ref cs, sk, vh])), (cs, .inr (4, [.int md, ed, .int 0]))] sz) := by
  refine Met.ofW (cc := cX12_wet) (maxL := 6) (ret := (some .int)) (by decide) rfl ?_
  intro p e s m args below meth c s₁ B hml hv
  obtain ⟨rfl, hsz, hP, hK, hD0, hG, hZ0⟩ := hv
  have hx := B.exec
  have hb := B.bytes
  have hr := B.returns
  have hts0 := atoms_spec (ws := wsA yX12_wet cX12_wet 6 (some .int)) B.pre
  have hts : ∀ w ∈ lw_all, w.before _ s = true := fun w h => hts0 w (List.mem_cons_of_mem _ h)
  have hown : s.vm.findClass RX12 = some m.cls := findClass_of_methodNamed B.named
  have hlocks := B.notSynchronized
  subst hsz
  have hZ := ZZ.wide hP hZ0
  have hD := hD0.self (sz := s.heap.size)
  generalize hAe : va_A [(h, .inr (16, [.int th, .ref cs, sk, vh])), (cs, .inr (4, [.int md, ed, .int 0]))] s.heap.size = A at hD hZ ⊢
  have hA : ∀ q : Nat, s.heap.size ≤ q → A q := fun q h => by rw [← hAe]; exact Or.inr h
  have hS : va_S A s.heap s.heap [] := va_S.rf
  have hP : va_P D vwCl [(h, .inr (16, [.int th, .ref cs, sk, vh])), (cs, .inr (4, [.int md, ed, .int 0]))] s.heap := hP
  have hl := lv_entry ([.ref h, .int p0, .int p1, .int p2]) (n := 6) (Nat.le_of_ble_eq_true rfl)
  rw [lg_entry_eq]
  generalize (lg_sl ([.ref h, .int p0, .int p1, .int p2]) ++ List.replicate (6 - (lg_sl ([.ref h, .int p0, .int p1, .int p2])).length) Slot.unset).toArray = ls at hl ⊢
  have hl : lv_has ls 6 [(0, .ref h), (1, .int p0), (2, .int p1), (3, .int p2)] := hl
  refine lv_aload_n hx hb dX12_wet_0 rfl (lv_at hl 0 rfl) ?_
  refine lv_iload_n hx hb dX12_wet_1 rfl (lv_at hl 1 rfl) ?_
  refine lv_iload_n hx hb dX12_wet_2 rfl (lv_at hl 2 rfl) ?_
  have hPc := hP.sub (ws' := [(h, .inr (16, [.int th, .ref cs, sk, vh])), (cs, .inr (4, [.int md, ed, .int 0]))]) [0, 1] rfl
  have hDc := hD.sub (ws' := [(h, .inr (16, [.int th, .ref cs, sk, vh])), (cs, .inr (4, [.int md, ed, .int 0]))]) [0, 1] (by decide) rfl
  have hKc := hK.sub (tys' := []) [] rfl
  have hFc := va_free (wc := [(h, .inr (16, [.int th, .ref cs, sk, vh])), (cs, .inr (4, [.int md, ed, .int 0]))]) hD hS hA [0, 1] rfl
  refine va_calli (va_runV (As := [.int p0, .int p1]) (rest := []) ⟨hx, hb, hml, hown, hts⟩ (k_LM_noLayer l D h th cs sk vh md (ed) p0 p1 s.heap.size) (cwV 2 hts (gV q1419 q1421 qs31 q6 (gA q1422)) rfl rfl rfl (by decide +kernel) ⟨Nat.le_of_ble_eq_true rfl, Nat.le_of_ble_eq_true rfl⟩) ⟨EV.fb, va_recv hKc hPc (ci := 16) (q0 := 0) rfl rfl, fun U hU hW => ⟨rfl, EV.at hPc hKc hDc hG (hZ.no hS) U hU hW⟩⟩ rfl rfl hl.1 rfl (lv_room (Nat.le_of_ble_eq_true rfl)) dX12_wet_3 ⟨Nat.le_of_ble_eq_true rfl, Nat.le_of_ble_eq_true rfl⟩) hS (fun q _ h => hFc q h) hFc (fun r_1 u t H1 locs ht hvm hw hB hz1 hk1 hS => ?_)
  obtain ⟨hP1, hD1⟩ := hB
  rw [ht] at hP1
  obtain ⟨hP, hD⟩ := va_join (wr := []) (w1 := [(h, .inr (16, [.int 1, .ref cs, sk, vh])), (cs, .inr (4, [.int md, ed, .int 0]))]) hP hD [0, 1] [] rfl rfl (by decide) (by decide) hk1 hFc hP1 hD1
  generalize H1 = H at hP hS ⊢
  have hP : va_P D vwCl [(h, .inr (16, [.int 1, .ref cs, sk, vh])), (cs, .inr (4, [.int md, ed, .int 0]))] H := hP
  have hD : va_D A [(h, .inr (16, [.int 1, .ref cs, sk, vh])), (cs, .inr (4, [.int md, ed, .int 0]))] := hD
  subst hw
  refine lv_if_eq (tgt := 11) hx hb dX12_wet_6 (by decide) (fun c_2 => ?_) (fun c_2 => ?_)
  · exact absurd c_2 (by decide)
  · refine lv_iconst (v := 0) hx hb dX12_wet_9 (by decide) ?_
    have hP9 := hP.sub (ws' := [(h, .inr (16, [.int 1, .ref cs, sk, vh])), (cs, .inr (4, [.int md, ed, .int 0]))]) [0, 1] rfl
    have hD9 := hD.sub (ws' := [(h, .inr (16, [.int 1, .ref cs, sk, vh])), (cs, .inr (4, [.int md, ed, .int 0]))]) [0, 1] (by decide) rfl
    refine W.widen (k := 0) (n := 0) (Nat.le_of_ble_eq_true rfl) (Nat.le_of_ble_eq_true rfl) ?_
    exact W.iret (v := 0) hx hb hr (fun t ht hW => ⟨⟨0, (), rfl, trivial, by rw [ht]; exact hP9, hD9⟩, hS.F ht⟩) hS.2.2 dX12_wet_10
set_option maxHeartbeats 4000000 in
set_option maxRecDepth 100000 in
/-- water on the fresh reference: refused -/
theorem k_LM_water (l : Launch) (D : va_G) (h : Nat) (th : Int32) (cs : Nat) (sk vh : Value) (md : Int32) (ed : Value) (p0 : Int32) (p1 : Int32) (sz : Nat) : Met l yX12_water (wsA yX12_water cX12_water 3 (some .int)) ({ frames := 3, cells := 0, slots := 0, locals := 68 }) (va_Pc [.ref h, .int p0, .int p1] (EV D [] [(h, .inr (16, [.int th, .ref cs, sk, vh])), (cs, .inr (4, [.int md, ed, .int 0]))] sz)) (va_Qi (fun (_ : Int32) (_ : Unit) => True) (fun _ t => va_P D vwCl [(h, .inr (16, [.int 1, .ref cs, sk, vh])), (cs, .inr (4, [.int md, ed, .int 0]))] t.heap ∧ va_D (va_A [(h, .inr (16, [.int th, .ref cs, sk, vh])), (cs, .inr (4, [.int md, ed, .int 0]))] sz) [(h, .inr (16, [.int 1, .ref cs, sk, vh])), (cs, .inr (4, [.int md, ed, .int 0]))]) (va_A [(h, .inr (16, [.int th, .ref cs, sk, vh])), (cs, .inr (4, [.int md, ed, .int 0]))] sz)) 0 0 (va_A [(h, .inr (16, [.int th, .ref cs, sk, vh])), (cs, .inr (4, [.int md, ed, .int 0]))] sz) := by
  refine Met.ofW (cc := cX12_water) (maxL := 3) (ret := (some .int)) (by decide) rfl ?_
  intro p e s m args below meth c s₁ B hml hv
  obtain ⟨rfl, hsz, hP, hK, hD0, hG, hZ0⟩ := hv
  have hx := B.exec
  have hb := B.bytes
  have hr := B.returns
  have hts0 := atoms_spec (ws := wsA yX12_water cX12_water 3 (some .int)) B.pre
  have hts : ∀ w ∈ lw_all, w.before _ s = true := fun w h => hts0 w (List.mem_cons_of_mem _ h)
  have hown : s.vm.findClass RX12 = some m.cls := findClass_of_methodNamed B.named
  have hlocks := B.notSynchronized
  subst hsz
  have hZ := ZZ.wide hP hZ0
  have hD := hD0.self (sz := s.heap.size)
  generalize hAe : va_A [(h, .inr (16, [.int th, .ref cs, sk, vh])), (cs, .inr (4, [.int md, ed, .int 0]))] s.heap.size = A at hD hZ ⊢
  have hA : ∀ q : Nat, s.heap.size ≤ q → A q := fun q h => by rw [← hAe]; exact Or.inr h
  have hS : va_S A s.heap s.heap [] := va_S.rf
  have hP : va_P D vwCl [(h, .inr (16, [.int th, .ref cs, sk, vh])), (cs, .inr (4, [.int md, ed, .int 0]))] s.heap := hP
  have hl := lv_entry ([.ref h, .int p0, .int p1]) (n := 3) (Nat.le_of_ble_eq_true rfl)
  rw [lg_entry_eq]
  generalize (lg_sl ([.ref h, .int p0, .int p1]) ++ List.replicate (3 - (lg_sl ([.ref h, .int p0, .int p1])).length) Slot.unset).toArray = ls at hl ⊢
  have hl : lv_has ls 3 [(0, .ref h), (1, .int p0), (2, .int p1)] := hl
  refine lv_aload_n hx hb dX12_water_0 rfl (lv_at hl 0 rfl) ?_
  refine lv_iload_n hx hb dX12_water_1 rfl (lv_at hl 1 rfl) ?_
  refine lv_iload_n hx hb dX12_water_2 rfl (lv_at hl 2 rfl) ?_
  have hPc := hP.sub (ws' := [(h, .inr (16, [.int th, .ref cs, sk, vh])), (cs, .inr (4, [.int md, ed, .int 0]))]) [0, 1] rfl
  have hDc := hD.sub (ws' := [(h, .inr (16, [.int th, .ref cs, sk, vh])), (cs, .inr (4, [.int md, ed, .int 0]))]) [0, 1] (by decide) rfl
  have hKc := hK.sub (tys' := []) [] rfl
  have hFc := va_free (wc := [(h, .inr (16, [.int th, .ref cs, sk, vh])), (cs, .inr (4, [.int md, ed, .int 0]))]) hD hS hA [0, 1] rfl
  refine va_calli (va_runV (As := [.int p0, .int p1]) (rest := []) ⟨hx, hb, hml, hown, hts⟩ (k_LM_noLayer l D h th cs sk vh md (ed) p0 p1 s.heap.size) (cwV 2 hts (gV q1419 q1421 qs31 q6 (gA q1422)) rfl rfl rfl (by decide +kernel) ⟨Nat.le_of_ble_eq_true rfl, Nat.le_of_ble_eq_true rfl⟩) ⟨EV.fb, va_recv hKc hPc (ci := 16) (q0 := 0) rfl rfl, fun U hU hW => ⟨rfl, EV.at hPc hKc hDc hG (hZ.no hS) U hU hW⟩⟩ rfl rfl hl.1 rfl (lv_room (Nat.le_of_ble_eq_true rfl)) dX12_water_3 ⟨Nat.le_of_ble_eq_true rfl, Nat.le_of_ble_eq_true rfl⟩) hS (fun q _ h => hFc q h) hFc (fun r_1 u t H1 locs ht hvm hw hB hz1 hk1 hS => ?_)
  obtain ⟨hP1, hD1⟩ := hB
  rw [ht] at hP1
  obtain ⟨hP, hD⟩ := va_join (wr := []) (w1 := [(h, .inr (16, [.int 1, .ref cs, sk, vh])), (cs, .inr (4, [.int md, ed, .int 0]))]) hP hD [0, 1] [] rfl rfl (by decide) (by decide) hk1 hFc hP1 hD1
  generalize H1 = H at hP hS ⊢
  have hP : va_P D vwCl [(h, .inr (16, [.int 1, .ref cs, sk, vh])), (cs, .inr (4, [.int md, ed, .int 0]))] H := hP
  have hD : va_D A [(h, .inr (16, [.int 1, .ref cs, sk, vh])), (cs, .inr (4, [.int md, ed, .int 0]))] := hD
  subst hw
  refine lv_if_eq (tgt := 13) hx hb dX12_water_6 (by decide) (fun c_2 => ?_) (fun c_2 => ?_)
  · exact absurd c_2 (by decide)
  · refine lv_iconst (v := 0) hx hb dX12_water_9 (by decide) ?_
    refine lv_goto (tgt := 22) hx hb dX12_water_10 (by decide) ?_
    have hP9 := hP.sub (ws' := [(h, .inr (16, [.int 1, .ref cs, sk, vh])), (cs, .inr (4, [.int md, ed, .int 0]))]) [0, 1] rfl
    have hD9 := hD.sub (ws' := [(h, .inr (16, [.int 1, .ref cs, sk, vh])), (cs, .inr (4, [.int md, ed, .int 0]))]) [0, 1] (by decide) rfl
    refine W.widen (k := 0) (n := 0) (Nat.le_of_ble_eq_true rfl) (Nat.le_of_ble_eq_true rfl) ?_
    exact W.iret (v := 0) hx hb hr (fun t ht hW => ⟨⟨0, (), rfl, trivial, by rw [ht]; exact hP9, hD9⟩, hS.F ht⟩) hS.2.2 dX12_water_22
set_option maxHeartbeats 4000000 in
set_option maxRecDepth 100000 in
/-- capacity on the fresh reference: refused -/
theorem k_LM_capacity (l : Launch) (D : va_G) (h : Nat) (th : Int32) (cs : Nat) (sk vh : Value) (md : Int32) (ed : Value) (p0 : Int32) (p1 : Int32) (sz : Nat) : Met l yX12_capacity (wsA yX12_capacity cX12_capacity 3 (some .int)) ({ frames := 3, cells := 0, slots := 0, locals := 68 }) (va_Pc [.ref h, .int p0, .int p1] (EV D [] [(h, .inr (16, [.int th, .ref cs, sk, vh])), (cs, .inr (4, [.int md, ed, .int 0]))] sz)) (va_Qi (fun (_ : Int32) (_ : Unit) => True) (fun _ t => va_P D vwCl [(h, .inr (16, [.int 1, .ref cs, sk, vh])), (cs, .inr (4, [.int md, ed, .int 0]))] t.heap ∧ va_D (va_A [(h, .inr (16, [.int th, .ref cs, sk, vh])), (cs, .inr (4, [.int md, ed, .int 0]))] sz) [(h, .inr (16, [.int 1, .ref cs, sk, vh])), (cs, .inr (4, [.int md, ed, .int 0]))]) (va_A [(h, .inr (16, [.int th, .ref cs, sk, vh])), (cs, .inr (4, [.int md, ed, .int 0]))] sz)) 0 0 (va_A [(h, .inr (16, [.int th, .ref cs, sk, vh])), (cs, .inr (4, [.int md, ed, .int 0]))] sz) := by
  refine Met.ofW (cc := cX12_capacity) (maxL := 3) (ret := (some .int)) (by decide) rfl ?_
  intro p e s m args below meth c s₁ B hml hv
  obtain ⟨rfl, hsz, hP, hK, hD0, hG, hZ0⟩ := hv
  have hx := B.exec
  have hb := B.bytes
  have hr := B.returns
  have hts0 := atoms_spec (ws := wsA yX12_capacity cX12_capacity 3 (some .int)) B.pre
  have hts : ∀ w ∈ lw_all, w.before _ s = true := fun w h => hts0 w (List.mem_cons_of_mem _ h)
  have hown : s.vm.findClass RX12 = some m.cls := findClass_of_methodNamed B.named
  have hlocks := B.notSynchronized
  subst hsz
  have hZ := ZZ.wide hP hZ0
  have hD := hD0.self (sz := s.heap.size)
  generalize hAe : va_A [(h, .inr (16, [.int th, .ref cs, sk, vh])), (cs, .inr (4, [.int md, ed, .int 0]))] s.heap.size = A at hD hZ ⊢
  have hA : ∀ q : Nat, s.heap.size ≤ q → A q := fun q h => by rw [← hAe]; exact Or.inr h
  have hS : va_S A s.heap s.heap [] := va_S.rf
  have hP : va_P D vwCl [(h, .inr (16, [.int th, .ref cs, sk, vh])), (cs, .inr (4, [.int md, ed, .int 0]))] s.heap := hP
  have hl := lv_entry ([.ref h, .int p0, .int p1]) (n := 3) (Nat.le_of_ble_eq_true rfl)
  rw [lg_entry_eq]
  generalize (lg_sl ([.ref h, .int p0, .int p1]) ++ List.replicate (3 - (lg_sl ([.ref h, .int p0, .int p1])).length) Slot.unset).toArray = ls at hl ⊢
  have hl : lv_has ls 3 [(0, .ref h), (1, .int p0), (2, .int p1)] := hl
  refine lv_aload_n hx hb dX12_capacity_0 rfl (lv_at hl 0 rfl) ?_
  refine lv_iload_n hx hb dX12_capacity_1 rfl (lv_at hl 1 rfl) ?_
  refine lv_iload_n hx hb dX12_capacity_2 rfl (lv_at hl 2 rfl) ?_
  have hPc := hP.sub (ws' := [(h, .inr (16, [.int th, .ref cs, sk, vh])), (cs, .inr (4, [.int md, ed, .int 0]))]) [0, 1] rfl
  have hDc := hD.sub (ws' := [(h, .inr (16, [.int th, .ref cs, sk, vh])), (cs, .inr (4, [.int md, ed, .int 0]))]) [0, 1] (by decide) rfl
  have hKc := hK.sub (tys' := []) [] rfl
  have hFc := va_free (wc := [(h, .inr (16, [.int th, .ref cs, sk, vh])), (cs, .inr (4, [.int md, ed, .int 0]))]) hD hS hA [0, 1] rfl
  refine va_calli (va_runV (As := [.int p0, .int p1]) (rest := []) ⟨hx, hb, hml, hown, hts⟩ (k_LM_noLayer l D h th cs sk vh md (ed) p0 p1 s.heap.size) (cwV 2 hts (gV q1419 q1421 qs31 q6 (gA q1422)) rfl rfl rfl (by decide +kernel) ⟨Nat.le_of_ble_eq_true rfl, Nat.le_of_ble_eq_true rfl⟩) ⟨EV.fb, va_recv hKc hPc (ci := 16) (q0 := 0) rfl rfl, fun U hU hW => ⟨rfl, EV.at hPc hKc hDc hG (hZ.no hS) U hU hW⟩⟩ rfl rfl hl.1 rfl (lv_room (Nat.le_of_ble_eq_true rfl)) dX12_capacity_3 ⟨Nat.le_of_ble_eq_true rfl, Nat.le_of_ble_eq_true rfl⟩) hS (fun q _ h => hFc q h) hFc (fun r_1 u t H1 locs ht hvm hw hB hz1 hk1 hS => ?_)
  obtain ⟨hP1, hD1⟩ := hB
  rw [ht] at hP1
  obtain ⟨hP, hD⟩ := va_join (wr := []) (w1 := [(h, .inr (16, [.int 1, .ref cs, sk, vh])), (cs, .inr (4, [.int md, ed, .int 0]))]) hP hD [0, 1] [] rfl rfl (by decide) (by decide) hk1 hFc hP1 hD1
  generalize H1 = H at hP hS ⊢
  have hP : va_P D vwCl [(h, .inr (16, [.int 1, .ref cs, sk, vh])), (cs, .inr (4, [.int md, ed, .int 0]))] H := hP
  have hD : va_D A [(h, .inr (16, [.int 1, .ref cs, sk, vh])), (cs, .inr (4, [.int md, ed, .int 0]))] := hD
  subst hw
  refine lv_if_eq (tgt := 13) hx hb dX12_capacity_6 (by decide) (fun c_2 => ?_) (fun c_2 => ?_)
  · exact absurd c_2 (by decide)
  · refine lv_iconst (v := 0) hx hb dX12_capacity_9 (by decide) ?_
    refine lv_goto (tgt := 22) hx hb dX12_capacity_10 (by decide) ?_
    have hP9 := hP.sub (ws' := [(h, .inr (16, [.int 1, .ref cs, sk, vh])), (cs, .inr (4, [.int md, ed, .int 0]))]) [0, 1] rfl
    have hD9 := hD.sub (ws' := [(h, .inr (16, [.int 1, .ref cs, sk, vh])), (cs, .inr (4, [.int md, ed, .int 0]))]) [0, 1] (by decide) rfl
    refine W.widen (k := 0) (n := 0) (Nat.le_of_ble_eq_true rfl) (Nat.le_of_ble_eq_true rfl) ?_
    exact W.iret (v := 0) hx hb hr (fun t ht hW => ⟨⟨0, (), rfl, trivial, by rw [ht]; exact hP9, hD9⟩, hS.F ht⟩) hS.2.2 dX12_capacity_22
set_option maxHeartbeats 4000000 in
set_option maxRecDepth 100000 in
/-- scale on the fresh reference: refused -/
theorem k_LM_scale (l : Launch) (D : va_G) (h : Nat) (th : Int32) (cs : Nat) (sk vh : Value) (md : Int32) (ed : Value) (p0 : Int32) (p1 : Int32) (sz : Nat) : Met l yX12_scale (wsA yX12_scale cX12_scale 4 (some .int)) ({ frames := 3, cells := 0, slots := 0, locals := 67 }) (va_Pc [.ref h, .int p0, .int p1] (EV D [] [(h, .inr (16, [.int th, .ref cs, sk, vh])), (cs, .inr (4, [.int md, ed, .int 0]))] sz)) (va_Qi (fun (_ : Int32) (_ : Unit) => True) (fun _ t => va_P D vwCl [(h, .inr (16, [.int 1, .ref cs, sk, vh])), (cs, .inr (4, [.int md, ed, .int 0]))] t.heap ∧ va_D (va_A [(h, .inr (16, [.int th, .ref cs, sk, vh])), (cs, .inr (4, [.int md, ed, .int 0]))] sz) [(h, .inr (16, [.int 1, .ref cs, sk, vh])), (cs, .inr (4, [.int md, ed, .int 0]))]) (va_A [(h, .inr (16, [.int th, .ref cs, sk, vh])), (cs, .inr (4, [.int md, ed, .int 0]))] sz)) 0 0 (va_A [(h, .inr (16, [.int th, .ref cs, sk, vh])), (cs, .inr (4, [.int md, ed, .int 0]))] sz) := by
  refine Met.ofW (cc := cX12_scale) (maxL := 4) (ret := (some .int)) (by decide) rfl ?_
  intro p e s m args below meth c s₁ B hml hv
  obtain ⟨rfl, hsz, hP, hK, hD0, hG, hZ0⟩ := hv
  have hx := B.exec
  have hb := B.bytes
  have hr := B.returns
  have hts0 := atoms_spec (ws := wsA yX12_scale cX12_scale 4 (some .int)) B.pre
  have hts : ∀ w ∈ lw_all, w.before _ s = true := fun w h => hts0 w (List.mem_cons_of_mem _ h)
  have hown : s.vm.findClass RX12 = some m.cls := findClass_of_methodNamed B.named
  have hlocks := B.notSynchronized
  subst hsz
  have hZ := ZZ.wide hP hZ0
  have hD := hD0.self (sz := s.heap.size)
  generalize hAe : va_A [(h, .inr (16, [.int th, .ref cs, sk, vh])), (cs, .inr (4, [.int md, ed, .int 0]))] s.heap.size = A at hD hZ ⊢
  have hA : ∀ q : Nat, s.heap.size ≤ q → A q := fun q h => by rw [← hAe]; exact Or.inr h
  have hS : va_S A s.heap s.heap [] := va_S.rf
  have hP : va_P D vwCl [(h, .inr (16, [.int th, .ref cs, sk, vh])), (cs, .inr (4, [.int md, ed, .int 0]))] s.heap := hP
  have hl := lv_entry ([.ref h, .int p0, .int p1]) (n := 4) (Nat.le_of_ble_eq_true rfl)
  rw [lg_entry_eq]
  generalize (lg_sl ([.ref h, .int p0, .int p1]) ++ List.replicate (4 - (lg_sl ([.ref h, .int p0, .int p1])).length) Slot.unset).toArray = ls at hl ⊢
  have hl : lv_has ls 4 [(0, .ref h), (1, .int p0), (2, .int p1)] := hl
  refine lv_aload_n hx hb dX12_scale_0 rfl (lv_at hl 0 rfl) ?_
  refine lv_iload_n hx hb dX12_scale_1 rfl (lv_at hl 1 rfl) ?_
  have hPc := hP.sub (ws' := [(h, .inr (16, [.int th, .ref cs, sk, vh])), (cs, .inr (4, [.int md, ed, .int 0]))]) [0, 1] rfl
  have hDc := hD.sub (ws' := [(h, .inr (16, [.int th, .ref cs, sk, vh])), (cs, .inr (4, [.int md, ed, .int 0]))]) [0, 1] (by decide) rfl
  have hKc := hK.sub (tys' := []) [] rfl
  have hFc := va_free (wc := [(h, .inr (16, [.int th, .ref cs, sk, vh])), (cs, .inr (4, [.int md, ed, .int 0]))]) hD hS hA [0, 1] rfl
  refine va_calli (va_runV (As := [.int p0]) (rest := []) ⟨hx, hb, hml, hown, hts⟩ (k_LM_noColumn l D h th cs sk vh md (ed) p0 s.heap.size) (cwV 1 hts (gV q1350 q1352 qs29 q6 (gA q1353)) rfl rfl rfl (by decide +kernel) ⟨Nat.le_of_ble_eq_true rfl, Nat.le_of_ble_eq_true rfl⟩) ⟨EV.fb, va_recv hKc hPc (ci := 16) (q0 := 0) rfl rfl, fun U hU hW => ⟨rfl, EV.at hPc hKc hDc hG (hZ.no hS) U hU hW⟩⟩ rfl rfl hl.1 rfl (lv_room (Nat.le_of_ble_eq_true rfl)) dX12_scale_2 ⟨Nat.le_of_ble_eq_true rfl, Nat.le_of_ble_eq_true rfl⟩) hS (fun q _ h => hFc q h) hFc (fun r_1 u t H1 locs ht hvm hw hB hz1 hk1 hS => ?_)
  obtain ⟨hP1, hD1⟩ := hB
  rw [ht] at hP1
  obtain ⟨hP, hD⟩ := va_join (wr := []) (w1 := [(h, .inr (16, [.int 1, .ref cs, sk, vh])), (cs, .inr (4, [.int md, ed, .int 0]))]) hP hD [0, 1] [] rfl rfl (by decide) (by decide) hk1 hFc hP1 hD1
  generalize H1 = H at hP hS ⊢
  have hP : va_P D vwCl [(h, .inr (16, [.int 1, .ref cs, sk, vh])), (cs, .inr (4, [.int md, ed, .int 0]))] H := hP
  have hD : va_D A [(h, .inr (16, [.int 1, .ref cs, sk, vh])), (cs, .inr (4, [.int md, ed, .int 0]))] := hD
  subst hw
  refine lv_if_eq (tgt := 10) hx hb dX12_scale_5 (by decide) (fun c_2 => ?_) (fun c_2 => ?_)
  · exact absurd c_2 (by decide)
  · refine lv_iconst (v := 0) hx hb dX12_scale_8 (by decide) ?_
    have hP9 := hP.sub (ws' := [(h, .inr (16, [.int 1, .ref cs, sk, vh])), (cs, .inr (4, [.int md, ed, .int 0]))]) [0, 1] rfl
    have hD9 := hD.sub (ws' := [(h, .inr (16, [.int 1, .ref cs, sk, vh])), (cs, .inr (4, [.int md, ed, .int 0]))]) [0, 1] (by decide) rfl
    refine W.widen (k := 0) (n := 0) (Nat.le_of_ble_eq_true rfl) (Nat.le_of_ble_eq_true rfl) ?_
    exact W.iret (v := 0) hx hb hr (fun t ht hW => ⟨⟨0, (), rfl, trivial, by rw [ht]; exact hP9, hD9⟩, hS.F ht⟩) hS.2.2 dX12_scale_9
set_option maxHeartbeats 4000000 in
set_option maxRecDepth 100000 in
/-- plant on the fresh reference: refused -/
theorem k_LM_plant (l : Launch) (D : va_G) (h : Nat) (th : Int32) (cs : Nat) (sk vh : Value) (md : Int32) (ed : Value) (p0 : Int32) (p1 : Int32) (p2 : Int32) (sz : Nat) : Met l yX12_plant (wsA yX12_plant cX12_plant 5 (some .int)) ({ frames := 3, cells := 0, slots := 0, locals := 67 }) (va_Pc [.ref h, .int p0, .int p1, .int p2] (EV D [] [(h, .inr (16, [.int th, .ref cs, sk, vh])), (cs, .inr (4, [.int md, ed, .int 0]))] sz)) (va_Qi (fun (_ : Int32) (_ : Unit) => True) (fun _ t => va_P D vwCl [(h, .inr (16, [.int 1, .ref cs, sk, vh])), (cs, .inr (4, [.int md, ed, .int 0]))] t.heap ∧ va_D (va_A [(h, .inr (16, [.int th, .ref cs, sk, vh])), (cs, .inr (4, [.int md, ed, .int 0]))] sz) [(h, .inr (16, [.int 1, .ref cs, sk, vh])), (cs, .inr (4, [.int md, ed, .int 0]))]) (va_A [(h, .inr (16, [.int th, .ref cs, sk, vh])), (cs, .inr (4, [.int md, ed, .int 0]))] sz)) 0 0 (va_A [(h, .inr (16, [.int th, .ref cs, sk, vh])), (cs, .inr (4, [.int md, ed, .int 0]))] sz) := by
  refine Met.ofW (cc := cX12_plant) (maxL := 5) (ret := (some .int)) (by decide) rfl ?_
  intro p e s m args below meth c s₁ B hml hv
  obtain ⟨rfl, hsz, hP, hK, hD0, hG, hZ0⟩ := hv
  have hx := B.exec
  have hb := B.bytes
  have hr := B.returns
  have hts0 := atoms_spec (ws := wsA yX12_plant cX12_plant 5 (some .int)) B.pre
  have hts : ∀ w ∈ lw_all, w.before _ s = true := fun w h => hts0 w (List.mem_cons_of_mem _ h)
  have hown : s.vm.findClass RX12 = some m.cls := findClass_of_methodNamed B.named
  have hlocks := B.notSynchronized
  subst hsz
  have hZ := ZZ.wide hP hZ0
  have hD := hD0.self (sz := s.heap.size)
  generalize hAe : va_A [(h, .inr (16, [.int th, .ref cs, sk, vh])), (cs, .inr (4, [.int md, ed, .int 0]))] s.heap.size = A at hD hZ ⊢
  have hA : ∀ q : Nat, s.heap.size ≤ q → A q := fun q h => by rw [← hAe]; exact Or.inr h
  have hS : va_S A s.heap s.heap [] := va_S.rf
  have hP : va_P D vwCl [(h, .inr (16, [.int th, .ref cs, sk, vh])), (cs, .inr (4, [.int md, ed, .int 0]))] s.heap := hP
  have hl := lv_entry ([.ref h, .int p0, .int p1, .int p2]) (n := 5) (Nat.le_of_ble_eq_true rfl)
  rw [lg_entry_eq]
  generalize (lg_sl ([.ref h, .int p0, .int p1, .int p2]) ++ List.replicate (5 - (lg_sl ([.ref h, .int p0, .int p1, .int p2])).length) Slot.unset).toArray = ls at hl ⊢
  have hl : lv_has ls 5 [(0, .ref h), (1, .int p0), (2, .int p1), (3, .int p2)] := hl
  refine lv_aload_n hx hb dX12_plant_0 rfl (lv_at hl 0 rfl) ?_
  refine lv_iload_n hx hb dX12_plant_1 rfl (lv_at hl 1 rfl) ?_
  have hPc := hP.sub (ws' := [(h, .inr (16, [.int th, .ref cs, sk, vh])), (cs, .inr (4, [.int md, ed, .int 0]))]) [0, 1] rfl
  have hDc := hD.sub (ws' := [(h, .inr (16, [.int th, .ref cs, sk, vh])), (cs, .inr (4, [.int md, ed, .int 0]))]) [0, 1] (by decide) rfl
  have hKc := hK.sub (tys' := []) [] rfl
  have hFc := va_free (wc := [(h, .inr (16, [.int th, .ref cs, sk, vh])), (cs, .inr (4, [.int md, ed, .int 0]))]) hD hS hA [0, 1] rfl
  refine va_calli (va_runV (As := [.int p0]) (rest := []) ⟨hx, hb, hml, hown, hts⟩ (k_LM_noColumn l D h th cs sk vh md (ed) p0 s.heap.size) (cwV 1 hts (gV q1350 q1352 qs29 q6 (gA q1353)) rfl rfl rfl (by decide +kernel) ⟨Nat.le_of_ble_eq_true rfl, Nat.le_of_ble_eq_true rfl⟩) ⟨EV.fb, va_recv hKc hPc (ci := 16) (q0 := 0) rfl rfl, fun U hU hW => ⟨rfl, EV.at hPc hKc hDc hG (hZ.no hS) U hU hW⟩⟩ rfl rfl hl.1 rfl (lv_room (Nat.le_of_ble_eq_true rfl)) dX12_plant_2 ⟨Nat.le_of_ble_eq_true rfl, Nat.le_of_ble_eq_true rfl⟩) hS (fun q _ h => hFc q h) hFc (fun r_1 u t H1 locs ht hvm hw hB hz1 hk1 hS => ?_)
  obtain ⟨hP1, hD1⟩ := hB
  rw [ht] at hP1
  obtain ⟨hP, hD⟩ := va_join (wr := []) (w1 := [(h, .inr (16, [.int 1, .ref cs, sk, vh])), (cs, .inr (4, [.int md, ed, .int 0]))]) hP hD [0, 1] [] rfl rfl (by decide) (by decide) hk1 hFc hP1 hD1
  generalize H1 = H at hP hS ⊢
  have hP : va_P D vwCl [(h, .inr (16, [.int 1, .ref cs, sk, vh])), (cs, .inr (4, [.int md, ed, .int 0]))] H := hP
  have hD : va_D A [(h, .inr (16, [.int 1, .ref cs, sk, vh])), (cs, .inr (4, [.int md, ed, .int 0]))] := hD
  subst hw
  refine lv_if_eq (tgt := 10) hx hb dX12_plant_5 (by decide) (fun c_2 => ?_) (fun c_2 => ?_)
  · exact absurd c_2 (by decide)
  · refine lv_iconst (v := 0) hx hb dX12_plant_8 (by decide) ?_
    have hP9 := hP.sub (ws' := [(h, .inr (16, [.int 1, .ref cs, sk, vh])), (cs, .inr (4, [.int md, ed, .int 0]))]) [0, 1] rfl
    have hD9 := hD.sub (ws' := [(h, .inr (16, [.int 1, .ref cs, sk, vh])), (cs, .inr (4, [.int md, ed, .int 0]))]) [0, 1] (by decide) rfl
    refine W.widen (k := 0) (n := 0) (Nat.le_of_ble_eq_true rfl) (Nat.le_of_ble_eq_true rfl) ?_
    exact W.iret (v := 0) hx hb hr (fun t ht hW => ⟨⟨0, (), rfl, trivial, by rw [ht]; exact hP9, hD9⟩, hS.F ht⟩) hS.2.2 dX12_plant_9
set_option maxHeartbeats 4000000 in
set_option maxRecDepth 100000 in
/-- harvest on the fresh reference: refused -/
theorem k_LM_harvest (l : Launch) (D : va_G) (h : Nat) (th : Int32) (cs : Nat) (sk vh : Value) (md : Int32) (ed : Value) (p0 : Int32) (sz : Nat) : Met l yX12_harvest (wsA yX12_harvest cX12_harvest 3 (some .int)) ({ frames := 3, cells := 0, slots := 0, locals := 67 }) (va_Pc [.ref h, .int p0] (EV D [] [(h, .inr (16, [.int th, .ref cs, sk, vh])), (cs, .inr (4, [.int md, ed, .int 0]))] sz)) (va_Qi (fun (_ : Int32) (_ : Unit) => True) (fun _ t => va_P D vwCl [(h, .inr (16, [.int 1, .ref cs, sk, vh])), (cs, .inr (4, [.int md, ed, .int 0]))] t.heap ∧ va_D (va_A [(h, .inr (16, [.int th, .ref cs, sk, vh])), (cs, .inr (4, [.int md, ed, .int 0]))] sz) [(h, .inr (16, [.int 1, .ref cs, sk, vh])), (cs, .inr (4, [.int md, ed, .int 0]))]) (va_A [(h, .inr (16, [.int th, .ref cs, sk, vh])), (cs, .inr (4, [.int md, ed, .int 0]))] sz)) 0 0 (va_A [(h, .inr (16, [.int th, .ref cs, sk, vh])), (cs, .inr (4, [.int md, ed, .int 0]))] sz) := by
  refine Met.ofW (cc := cX12_harvest) (maxL := 3) (ret := (some .int)) (by decide) rfl ?_
  intro p e s m args below meth c s₁ B hml hv
  obtain ⟨rfl, hsz, hP, hK, hD0, hG, hZ0⟩ := hv
  have hx := B.exec
  have hb := B.bytes
  have hr := B.returns
  have hts0 := atoms_spec (ws := wsA yX12_harvest cX12_harvest 3 (some .int)) B.pre
  have hts : ∀ w ∈ lw_all, w.before _ s = true := fun w h => hts0 w (List.mem_cons_of_mem _ h)
  have hown : s.vm.findClass RX12 = some m.cls := findClass_of_methodNamed B.named
  have hlocks := B.notSynchronized
  subst hsz
  have hZ := ZZ.wide hP hZ0
  have hD := hD0.self (sz := s.heap.size)
  generalize hAe : va_A [(h, .inr (16, [.int th, .ref cs, sk, vh])), (cs, .inr (4, [.int md, ed, .int 0]))] s.heap.size = A at hD hZ ⊢
  have hA : ∀ q : Nat, s.heap.size ≤ q → A q := fun q h => by rw [← hAe]; exact Or.inr h
  have hS : va_S A s.heap s.heap [] := va_S.rf
  have hP : va_P D vwCl [(h, .inr (16, [.int th, .ref cs, sk, vh])), (cs, .inr (4, [.int md, ed, .int 0]))] s.heap := hP
  have hl := lv_entry ([.ref h, .int p0]) (n := 3) (Nat.le_of_ble_eq_true rfl)
  rw [lg_entry_eq]
  generalize (lg_sl ([.ref h, .int p0]) ++ List.replicate (3 - (lg_sl ([.ref h, .int p0])).length) Slot.unset).toArray = ls at hl ⊢
  have hl : lv_has ls 3 [(0, .ref h), (1, .int p0)] := hl
  refine lv_aload_n hx hb dX12_harvest_0 rfl (lv_at hl 0 rfl) ?_
  refine lv_iload_n hx hb dX12_harvest_1 rfl (lv_at hl 1 rfl) ?_
  have hPc := hP.sub (ws' := [(h, .inr (16, [.int th, .ref cs, sk, vh])), (cs, .inr (4, [.int md, ed, .int 0]))]) [0, 1] rfl
  have hDc := hD.sub (ws' := [(h, .inr (16, [.int th, .ref cs, sk, vh])), (cs, .inr (4, [.int md, ed, .int 0]))]) [0, 1] (by decide) rfl
  have hKc := hK.sub (tys' := []) [] rfl
  have hFc := va_free (wc := [(h, .inr (16, [.int th, .ref cs, sk, vh])), (cs, .inr (4, [.int md, ed, .int 0]))]) hD hS hA [0, 1] rfl
  refine va_calli (va_runV (As := [.int p0]) (rest := []) ⟨hx, hb, hml, hown, hts⟩ (k_LM_noColumn l D h th cs sk vh md (ed) p0 s.heap.size) (cwV 1 hts (gV q1350 q1352 qs29 q6 (gA q1353)) rfl rfl rfl (by decide +kernel) ⟨Nat.le_of_ble_eq_true rfl, Nat.le_of_ble_eq_true rfl⟩) ⟨EV.fb, va_recv hKc hPc (ci := 16) (q0 := 0) rfl rfl, fun U hU hW => ⟨rfl, EV.at hPc hKc hDc hG (hZ.no hS) U hU hW⟩⟩ rfl rfl hl.1 rfl (lv_room (Nat.le_of_ble_eq_true rfl)) dX12_harvest_2 ⟨Nat.le_of_ble_eq_true rfl, Nat.le_of_ble_eq_true rfl⟩) hS (fun q _ h => hFc q h) hFc (fun r_1 u t H1 locs ht hvm hw hB hz1 hk1 hS => ?_)
  obtain ⟨hP1, hD1⟩ := hB
  rw [ht] at hP1
  obtain ⟨hP, hD⟩ := va_join (wr := []) (w1 := [(h, .inr (16, [.int 1, .ref cs, sk, vh])), (cs, .inr (4, [.int md, ed, .int 0]))]) hP hD [0, 1] [] rfl rfl (by decide) (by decide) hk1 hFc hP1 hD1
  generalize H1 = H at hP hS ⊢
  have hP : va_P D vwCl [(h, .inr (16, [.int 1, .ref cs, sk, vh])), (cs, .inr (4, [.int md, ed, .int 0]))] H := hP
  have hD : va_D A [(h, .inr (16, [.int 1, .ref cs, sk, vh])), (cs, .inr (4, [.int md, ed, .int 0]))] := hD
  subst hw
  refine lv_if_eq (tgt := 10) hx hb dX12_harvest_5 (by decide) (fun c_2 => ?_) (fun c_2 => ?_)
  · exact absurd c_2 (by decide)
  · refine lv_iconst (v := 0) hx hb dX12_harvest_8 (by decide) ?_
    have hP9 := hP.sub (ws' := [(h, .inr (16, [.int 1, .ref cs, sk, vh])), (cs, .inr (4, [.int md, ed, .int 0]))]) [0, 1] rfl
    have hD9 := hD.sub (ws' := [(h, .inr (16, [.int 1, .ref cs, sk, vh])), (cs, .inr (4, [.int md, ed, .int 0]))]) [0, 1] (by decide) rfl
    refine W.widen (k := 0) (n := 0) (Nat.le_of_ble_eq_true rfl) (Nat.le_of_ble_eq_true rfl) ?_
    exact W.iret (v := 0) hx hb hr (fun t ht hW => ⟨⟨0, (), rfl, trivial, by rw [ht]; exact hP9, hD9⟩, hS.F ht⟩) hS.2.2 dX12_harvest_9
set_option maxHeartbeats 4000000 in
set_option maxRecDepth 100000 in
/-- stress on the fresh reference: refused -/
theorem k_LM_stress (l : Launch) (D : va_G) (h : Nat) (th : Int32) (cs : Nat) (sk vh : Value) (md : Int32) (ed : Value) (p0 : Int32) (p1 : Int32) (sz : Nat) : Met l yX12_stress (wsA yX12_stress cX12_stress 3 (some .int)) ({ frames := 3, cells := 0, slots := 0, locals := 67 }) (va_Pc [.ref h, .int p0, .int p1] (EV D [] [(h, .inr (16, [.int th, .ref cs, sk, vh])), (cs, .inr (4, [.int md, ed, .int 0]))] sz)) (va_Qi (fun (_ : Int32) (_ : Unit) => True) (fun _ t => va_P D vwCl [(h, .inr (16, [.int 1, .ref cs, sk, vh])), (cs, .inr (4, [.int md, ed, .int 0]))] t.heap ∧ va_D (va_A [(h, .inr (16, [.int th, .ref cs, sk, vh])), (cs, .inr (4, [.int md, ed, .int 0]))] sz) [(h, .inr (16, [.int 1, .ref cs, sk, vh])), (cs, .inr (4, [.int md, ed, .int 0]))]) (va_A [(h, .inr (16, [.int th, .ref cs, sk, vh])), (cs, .inr (4, [.int md, ed, .int 0]))] sz)) 0 0 (va_A [(h, .inr (16, [.int th, .ref cs, sk, vh])), (cs, .inr (4, [.int md, ed, .int 0]))] sz) := by
  refine Met.ofW (cc := cX12_stress) (maxL := 3) (ret := (some .int)) (by decide) rfl ?_
  intro p e s m args below meth c s₁ B hml hv
  obtain ⟨rfl, hsz, hP, hK, hD0, hG, hZ0⟩ := hv
  have hx := B.exec
  have hb := B.bytes
  have hr := B.returns
  have hts0 := atoms_spec (ws := wsA yX12_stress cX12_stress 3 (some .int)) B.pre
  have hts : ∀ w ∈ lw_all, w.before _ s = true := fun w h => hts0 w (List.mem_cons_of_mem _ h)
  have hown : s.vm.findClass RX12 = some m.cls := findClass_of_methodNamed B.named
  have hlocks := B.notSynchronized
  subst hsz
  have hZ := ZZ.wide hP hZ0
  have hD := hD0.self (sz := s.heap.size)
  generalize hAe : va_A [(h, .inr (16, [.int th, .ref cs, sk, vh])), (cs, .inr (4, [.int md, ed, .int 0]))] s.heap.size = A at hD hZ ⊢
  have hA : ∀ q : Nat, s.heap.size ≤ q → A q := fun q h => by rw [← hAe]; exact Or.inr h
  have hS : va_S A s.heap s.heap [] := va_S.rf
  have hP : va_P D vwCl [(h, .inr (16, [.int th, .ref cs, sk, vh])), (cs, .inr (4, [.int md, ed, .int 0]))] s.heap := hP
  have hl := lv_entry ([.ref h, .int p0, .int p1]) (n := 3) (Nat.le_of_ble_eq_true rfl)
  rw [lg_entry_eq]
  generalize (lg_sl ([.ref h, .int p0, .int p1]) ++ List.replicate (3 - (lg_sl ([.ref h, .int p0, .int p1])).length) Slot.unset).toArray = ls at hl ⊢
  have hl : lv_has ls 3 [(0, .ref h), (1, .int p0), (2, .int p1)] := hl
  refine lv_aload_n hx hb dX12_stress_0 rfl (lv_at hl 0 rfl) ?_
  refine lv_iload_n hx hb dX12_stress_1 rfl (lv_at hl 1 rfl) ?_
  have hPc := hP.sub (ws' := [(h, .inr (16, [.int th, .ref cs, sk, vh])), (cs, .inr (4, [.int md, ed, .int 0]))]) [0, 1] rfl
  have hDc := hD.sub (ws' := [(h, .inr (16, [.int th, .ref cs, sk, vh])), (cs, .inr (4, [.int md, ed, .int 0]))]) [0, 1] (by decide) rfl
  have hKc := hK.sub (tys' := []) [] rfl
  have hFc := va_free (wc := [(h, .inr (16, [.int th, .ref cs, sk, vh])), (cs, .inr (4, [.int md, ed, .int 0]))]) hD hS hA [0, 1] rfl
  refine va_calli (va_runV (As := [.int p0]) (rest := []) ⟨hx, hb, hml, hown, hts⟩ (k_LM_noColumn l D h th cs sk vh md (ed) p0 s.heap.size) (cwV 1 hts (gV q1350 q1352 qs29 q6 (gA q1353)) rfl rfl rfl (by decide +kernel) ⟨Nat.le_of_ble_eq_true rfl, Nat.le_of_ble_eq_true rfl⟩) ⟨EV.fb, va_recv hKc hPc (ci := 16) (q0 := 0) rfl rfl, fun U hU hW => ⟨rfl, EV.at hPc hKc hDc hG (hZ.no hS) U hU hW⟩⟩ rfl rfl hl.1 rfl (lv_room (Nat.le_of_ble_eq_true rfl)) dX12_stress_2 ⟨Nat.le_of_ble_eq_true rfl, Nat.le_of_ble_eq_true rfl⟩) hS (fun q _ h => hFc q h) hFc (fun r_1 u t H1 locs ht hvm hw hB hz1 hk1 hS => ?_)
  obtain ⟨hP1, hD1⟩ := hB
  rw [ht] at hP1
  obtain ⟨hP, hD⟩ := va_join (wr := []) (w1 := [(h, .inr (16, [.int 1, .ref cs, sk, vh])), (cs, .inr (4, [.int md, ed, .int 0]))]) hP hD [0, 1] [] rfl rfl (by decide) (by decide) hk1 hFc hP1 hD1
  generalize H1 = H at hP hS ⊢
  have hP : va_P D vwCl [(h, .inr (16, [.int 1, .ref cs, sk, vh])), (cs, .inr (4, [.int md, ed, .int 0]))] H := hP
  have hD : va_D A [(h, .inr (16, [.int 1, .ref cs, sk, vh])), (cs, .inr (4, [.int md, ed, .int 0]))] := hD
  subst hw
  refine lv_if_eq (tgt := 10) hx hb dX12_stress_5 (by decide) (fun c_2 => ?_) (fun c_2 => ?_)
  · exact absurd c_2 (by decide)
  · refine lv_iconst (v := 0) hx hb dX12_stress_8 (by decide) ?_
    have hP9 := hP.sub (ws' := [(h, .inr (16, [.int 1, .ref cs, sk, vh])), (cs, .inr (4, [.int md, ed, .int 0]))]) [0, 1] rfl
    have hD9 := hD.sub (ws' := [(h, .inr (16, [.int 1, .ref cs, sk, vh])), (cs, .inr (4, [.int md, ed, .int 0]))]) [0, 1] (by decide) rfl
    refine W.widen (k := 0) (n := 0) (Nat.le_of_ble_eq_true rfl) (Nat.le_of_ble_eq_true rfl) ?_
    exact W.iret (v := 0) hx hb hr (fun t ht hW => ⟨⟨0, (), rfl, trivial, by rw [ht]; exact hP9, hD9⟩, hS.F ht⟩) hS.2.2 dX12_stress_9
set_option maxHeartbeats 4000000 in
set_option maxRecDepth 100000 in
/-- mulch on the fresh reference: refused -/
theorem k_LM_mulch (l : Launch) (D : va_G) (h : Nat) (th : Int32) (cs : Nat) (sk vh : Value) (md : Int32) (ed : Value) (p0 : Int32) (p1 : Int32) (sz : Nat) : Met l yX12_mulch (wsA yX12_mulch cX12_mulch 4 (some .boolean)) ({ frames := 3, cells := 0, slots := 0, locals := 67 }) (va_Pc [.ref h, .int p0, .int p1] (EV D [] [(h, .inr (16, [.int th, .ref cs, sk, vh])), (cs, .inr (4, [.int md, ed, .int 0]))] sz)) (va_Qi (fun (_ : Int32) (_ : Unit) => True) (fun _ t => va_P D vwCl [(h, .inr (16, [.int 1, .ref cs, sk, vh])), (cs, .inr (4, [.int md, ed, .int 0]))] t.heap ∧ va_D (va_A [(h, .inr (16, [.int th, .ref cs, sk, vh])), (cs, .inr (4, [.int md, ed, .int 0]))] sz) [(h, .inr (16, [.int 1, .ref cs, sk, vh])), (cs, .inr (4, [.int md, ed, .int 0]))]) (va_A [(h, .inr (16, [.int th, .ref cs, sk, vh])), (cs, .inr (4, [.int md, ed, .int 0]))] sz)) 0 0 (va_A [(h, .inr (16, [.int th, .ref cs, sk, vh])), (cs, .inr (4, [.int md, ed, .int 0]))] sz) := by
  refine Met.ofW (cc := cX12_mulch) (maxL := 4) (ret := (some .boolean)) (by decide) rfl ?_
  intro p e s m args below meth c s₁ B hml hv
  obtain ⟨rfl, hsz, hP, hK, hD0, hG, hZ0⟩ := hv
  have hx := B.exec
  have hb := B.bytes
  have hr := B.returns
  have hts0 := atoms_spec (ws := wsA yX12_mulch cX12_mulch 4 (some .boolean)) B.pre
  have hts : ∀ w ∈ lw_all, w.before _ s = true := fun w h => hts0 w (List.mem_cons_of_mem _ h)
  have hown : s.vm.findClass RX12 = some m.cls := findClass_of_methodNamed B.named
  have hlocks := B.notSynchronized
  subst hsz
  have hZ := ZZ.wide hP hZ0
  have hD := hD0.self (sz := s.heap.size)
  generalize hAe : va_A [(h, .inr (16, [.int th, .ref cs, sk, vh])), (cs, .inr (4, [.int md, ed, .int 0]))] s.heap.size = A at hD hZ ⊢
  have hA : ∀ q : Nat, s.heap.size ≤ q → A q := fun q h => by rw [← hAe]; exact Or.inr h
  have hS : va_S A s.heap s.heap [] := va_S.rf
  have hP : va_P D vwCl [(h, .inr (16, [.int th, .ref cs, sk, vh])), (cs, .inr (4, [.int md, ed, .int 0]))] s.heap := hP
  have hl := lv_entry ([.ref h, .int p0, .int p1]) (n := 4) (Nat.le_of_ble_eq_true rfl)
  rw [lg_entry_eq]
  generalize (lg_sl ([.ref h, .int p0, .int p1]) ++ List.replicate (4 - (lg_sl ([.ref h, .int p0, .int p1])).length) Slot.unset).toArray = ls at hl ⊢
  have hl : lv_has ls 4 [(0, .ref h), (1, .int p0), (2, .int p1)] := hl
  refine lv_aload_n hx hb dX12_mulch_0 rfl (lv_at hl 0 rfl) ?_
  refine lv_iload_n hx hb dX12_mulch_1 rfl (lv_at hl 1 rfl) ?_
  have hPc := hP.sub (ws' := [(h, .inr (16, [.int th, .ref cs, sk, vh])), (cs, .inr (4, [.int md, ed, .int 0]))]) [0, 1] rfl
  have hDc := hD.sub (ws' := [(h, .inr (16, [.int th, .ref cs, sk, vh])), (cs, .inr (4, [.int md, ed, .int 0]))]) [0, 1] (by decide) rfl
  have hKc := hK.sub (tys' := []) [] rfl
  have hFc := va_free (wc := [(h, .inr (16, [.int th, .ref cs, sk, vh])), (cs, .inr (4, [.int md, ed, .int 0]))]) hD hS hA [0, 1] rfl
  refine va_calli (va_runV (As := [.int p0]) (rest := []) ⟨hx, hb, hml, hown, hts⟩ (k_LM_noColumn l D h th cs sk vh md (ed) p0 s.heap.size) (cwV 1 hts (gV q1350 q1352 qs29 q6 (gA q1353)) rfl rfl rfl (by decide +kernel) ⟨Nat.le_of_ble_eq_true rfl, Nat.le_of_ble_eq_true rfl⟩) ⟨EV.fb, va_recv hKc hPc (ci := 16) (q0 := 0) rfl rfl, fun U hU hW => ⟨rfl, EV.at hPc hKc hDc hG (hZ.no hS) U hU hW⟩⟩ rfl rfl hl.1 rfl (lv_room (Nat.le_of_ble_eq_true rfl)) dX12_mulch_2 ⟨Nat.le_of_ble_eq_true rfl, Nat.le_of_ble_eq_true rfl⟩) hS (fun q _ h => hFc q h) hFc (fun r_1 u t H1 locs ht hvm hw hB hz1 hk1 hS => ?_)
  obtain ⟨hP1, hD1⟩ := hB
  rw [ht] at hP1
  obtain ⟨hP, hD⟩ := va_join (wr := []) (w1 := [(h, .inr (16, [.int 1, .ref cs, sk, vh])), (cs, .inr (4, [.int md, ed, .int 0]))]) hP hD [0, 1] [] rfl rfl (by decide) (by decide) hk1 hFc hP1 hD1
  generalize H1 = H at hP hS ⊢
  have hP : va_P D vwCl [(h, .inr (16, [.int 1, .ref cs, sk, vh])), (cs, .inr (4, [.int md, ed, .int 0]))] H := hP
  have hD : va_D A [(h, .inr (16, [.int 1, .ref cs, sk, vh])), (cs, .inr (4, [.int md, ed, .int 0]))] := hD
  subst hw
  refine lv_if_eq (tgt := 10) hx hb dX12_mulch_5 (by decide) (fun c_2 => ?_) (fun c_2 => ?_)
  · exact absurd c_2 (by decide)
  · refine lv_iconst (v := 0) hx hb dX12_mulch_8 (by decide) ?_
    have hP9 := hP.sub (ws' := [(h, .inr (16, [.int 1, .ref cs, sk, vh])), (cs, .inr (4, [.int md, ed, .int 0]))]) [0, 1] rfl
    have hD9 := hD.sub (ws' := [(h, .inr (16, [.int 1, .ref cs, sk, vh])), (cs, .inr (4, [.int md, ed, .int 0]))]) [0, 1] (by decide) rfl
    refine W.widen (k := 0) (n := 0) (Nat.le_of_ble_eq_true rfl) (Nat.le_of_ble_eq_true rfl) ?_
    exact W.zret (v := 0) hx hb hr rfl (fun t ht hW => ⟨⟨0, (), rfl, trivial, by rw [ht]; exact hP9, hD9⟩, hS.F ht⟩) hS.2.2 dX12_mulch_9
set_option maxHeartbeats 4000000 in
set_option maxRecDepth 100000 in
/-- rule on the fresh reference: refused -/
theorem k_LM_rule (l : Launch) (D : va_G) (h : Nat) (th : Int32) (cs : Nat) (sk vh : Value) (md : Int32) (ed : Value) (p0 : Int32) (p1 : Int32) (p2 : Int32) (sz : Nat) : Met l yX12_rule (wsA yX12_rule cX12_rule 5 (some .int)) ({ frames := 3, cells := 0, slots := 0, locals := 67 }) (va_Pc [.ref h, .int p0, .int p1, .int p2] (EV D [] [(h, .inr (16, [.int th, .ref cs, sk, vh])), (cs, .inr (4, [.int md, ed, .int 0]))] sz)) (va_Qi (fun (_ : Int32) (_ : Unit) => True) (fun _ t => va_P D vwCl [(h, .inr (16, [.int 1, .ref cs, sk, vh])), (cs, .inr (4, [.int md, ed, .int 0]))] t.heap ∧ va_D (va_A [(h, .inr (16, [.int th, .ref cs, sk, vh])), (cs, .inr (4, [.int md, ed, .int 0]))] sz) [(h, .inr (16, [.int 1, .ref cs, sk, vh])), (cs, .inr (4, [.int md, ed, .int 0]))]) (va_A [(h, .inr (16, [.int th, .ref cs, sk, vh])), (cs, .inr (4, [.int md, ed, .int 0]))] sz)) 0 0 (va_A [(h, .inr (16, [.int th, .ref cs, sk, vh])), (cs, .inr (4, [.int md, ed, .int 0]))] sz) := by
  refine Met.ofW (cc := cX12_rule) (maxL := 5) (ret := (some .int)) (by decide) rfl ?_
  intro p e s m args below meth c s₁ B hml hv
  obtain ⟨rfl, hsz, hP, hK, hD0, hG, hZ0⟩ := hv
  have hx := B.exec
  have hb := B.bytes
  have hr := B.returns
  have hts0 := atoms_spec (ws := wsA yX12_rule cX12_rule 5 (some .int)) B.pre
  have hts : ∀ w ∈ lw_all, w.before _ s = true := fun w h => hts0 w (List.mem_cons_of_mem _ h)
  have hown : s.vm.findClass RX12 = some m.cls := findClass_of_methodNamed B.named
  have hlocks := B.notSynchronized
  subst hsz
  have hZ := ZZ.wide hP hZ0
  have hD := hD0.self (sz := s.heap.size)
  generalize hAe : va_A [(h, .inr (16, [.int th, .ref cs, sk, vh])), (cs, .inr (4, [.int md, ed, .int 0]))] s.heap.size = A at hD hZ ⊢
  have hA : ∀ q : Nat, s.heap.size ≤ q → A q := fun q h => by rw [← hAe]; exact Or.inr h
  have hS : va_S A s.heap s.heap [] := va_S.rf
  have hP : va_P D vwCl [(h, .inr (16, [.int th, .ref cs, sk, vh])), (cs, .inr (4, [.int md, ed, .int 0]))] s.heap := hP
  have hl := lv_entry ([.ref h, .int p0, .int p1, .int p2]) (n := 5) (Nat.le_of_ble_eq_true rfl)
  rw [lg_entry_eq]
  generalize (lg_sl ([.ref h, .int p0, .int p1, .int p2]) ++ List.replicate (5 - (lg_sl ([.ref h, .int p0, .int p1, .int p2])).length) Slot.unset).toArray = ls at hl ⊢
  have hl : lv_has ls 5 [(0, .ref h), (1, .int p0), (2, .int p1), (3, .int p2)] := hl
  refine lv_aload_n hx hb dX12_rule_0 rfl (lv_at hl 0 rfl) ?_
  refine lv_iload_n hx hb dX12_rule_1 rfl (lv_at hl 1 rfl) ?_
  have hPc := hP.sub (ws' := [(h, .inr (16, [.int th, .ref cs, sk, vh])), (cs, .inr (4, [.int md, ed, .int 0]))]) [0, 1] rfl
  have hDc := hD.sub (ws' := [(h, .inr (16, [.int th, .ref cs, sk, vh])), (cs, .inr (4, [.int md, ed, .int 0]))]) [0, 1] (by decide) rfl
  have hKc := hK.sub (tys' := []) [] rfl
  have hFc := va_free (wc := [(h, .inr (16, [.int th, .ref cs, sk, vh])), (cs, .inr (4, [.int md, ed, .int 0]))]) hD hS hA [0, 1] rfl
  refine va_calli (va_runV (As := [.int p0]) (rest := []) ⟨hx, hb, hml, hown, hts⟩ (k_LM_noColumn l D h th cs sk vh md (ed) p0 s.heap.size) (cwV 1 hts (gV q1350 q1352 qs29 q6 (gA q1353)) rfl rfl rfl (by decide +kernel) ⟨Nat.le_of_ble_eq_true rfl, Nat.le_of_ble_eq_true rfl⟩) ⟨EV.fb, va_recv hKc hPc (ci := 16) (q0 := 0) rfl rfl, fun U hU hW => ⟨rfl, EV.at hPc hKc hDc hG (hZ.no hS) U hU hW⟩⟩ rfl rfl hl.1 rfl (lv_room (Nat.le_of_ble_eq_true rfl)) dX12_rule_2 ⟨Nat.le_of_ble_eq_true rfl, Nat.le_of_ble_eq_true rfl⟩) hS (fun q _ h => hFc q h) hFc (fun r_1 u t H1 locs ht hvm hw hB hz1 hk1 hS => ?_)
  obtain ⟨hP1, hD1⟩ := hB
  rw [ht] at hP1
  obtain ⟨hP, hD⟩ := va_join (wr := []) (w1 := [(h, .inr (16, [.int 1, .ref cs, sk, vh])), (cs, .inr (4, [.int md, ed, .int 0]))]) hP hD [0, 1] [] rfl rfl (by decide) (by decide) hk1 hFc hP1 hD1
  generalize H1 = H at hP hS ⊢
  have hP : va_P D vwCl [(h, .inr (16, [.int 1, .ref cs, sk, vh])), (cs, .inr (4, [.int md, ed, .int 0]))] H := hP
  have hD : va_D A [(h, .inr (16, [.int 1, .ref cs, sk, vh])), (cs, .inr (4, [.int md, ed, .int 0]))] := hD
  subst hw
  refine lv_if_eq (tgt := 10) hx hb dX12_rule_5 (by decide) (fun c_2 => ?_) (fun c_2 => ?_)
  · exact absurd c_2 (by decide)
  · refine lv_iconst (v := 0) hx hb dX12_rule_8 (by decide) ?_
    have hP9 := hP.sub (ws' := [(h, .inr (16, [.int 1, .ref cs, sk, vh])), (cs, .inr (4, [.int md, ed, .int 0]))]) [0, 1] rfl
    have hD9 := hD.sub (ws' := [(h, .inr (16, [.int 1, .ref cs, sk, vh])), (cs, .inr (4, [.int md, ed, .int 0]))]) [0, 1] (by decide) rfl
    refine W.widen (k := 0) (n := 0) (Nat.le_of_ble_eq_true rfl) (Nat.le_of_ble_eq_true rfl) ?_
    exact W.iret (v := 0) hx hb hr (fun t ht hW => ⟨⟨0, (), rfl, trivial, by rw [ht]; exact hP9, hD9⟩, hS.F ht⟩) hS.2.2 dX12_rule_9
set_option maxHeartbeats 4000000 in
set_option maxRecDepth 100000 in
/-- spread on the fresh reference: refused -/
theorem k_LM_spread (l : Launch) (D : va_G) (h : Nat) (th : Int32) (cs : Nat) (sk vh : Value) (md : Int32) (ed : Value) (p0 : Int32) (p1 : Int32) (p2 : Int32) (sz : Nat) : Met l yX12_spread (wsA yX12_spread cX12_spread 5 (some .long)) ({ frames := 3, cells := 0, slots := 0, locals := 67 }) (va_Pc [.ref h, .int p0, .int p1, .int p2] (EV D [] [(h, .inr (16, [.int th, .ref cs, sk, vh])), (cs, .inr (4, [.int md, ed, .int 0]))] sz)) (va_Ql (fun (_ : Int64) (_ : Unit) => True) (fun _ t => va_P D vwCl [(h, .inr (16, [.int 1, .ref cs, sk, vh])), (cs, .inr (4, [.int md, ed, .int 0]))] t.heap ∧ va_D (va_A [(h, .inr (16, [.int th, .ref cs, sk, vh])), (cs, .inr (4, [.int md, ed, .int 0]))] sz) [(h, .inr (16, [.int 1, .ref cs, sk, vh])), (cs, .inr (4, [.int md, ed, .int 0]))]) (va_A [(h, .inr (16, [.int th, .ref cs, sk, vh])), (cs, .inr (4, [.int md, ed, .int 0]))] sz)) 0 0 (va_A [(h, .inr (16, [.int th, .ref cs, sk, vh])), (cs, .inr (4, [.int md, ed, .int 0]))] sz) := by
  refine Met.ofW (cc := cX12_spread) (maxL := 5) (ret := (some .long)) (by decide) rfl ?_
  intro p e s m args below meth c s₁ B hml hv
  obtain ⟨rfl, hsz, hP, hK, hD0, hG, hZ0⟩ := hv
  have hx := B.exec
  have hb := B.bytes
  have hr := B.returns
  have hts0 := atoms_spec (ws := wsA yX12_spread cX12_spread 5 (some .long)) B.pre
  have hts : ∀ w ∈ lw_all, w.before _ s = true := fun w h => hts0 w (List.mem_cons_of_mem _ h)
  have hown : s.vm.findClass RX12 = some m.cls := findClass_of_methodNamed B.named
  have hlocks := B.notSynchronized
  subst hsz
  have hZ := ZZ.wide hP hZ0
  have hD := hD0.self (sz := s.heap.size)
  generalize hAe : va_A [(h, .inr (16, [.int th, .ref cs, sk, vh])), (cs, .inr (4, [.int md, ed, .int 0]))] s.heap.size = A at hD hZ ⊢
  have hA : ∀ q : Nat, s.heap.size ≤ q → A q := fun q h => by rw [← hAe]; exact Or.inr h
  have hS : va_S A s.heap s.heap [] := va_S.rf
  have hP : va_P D vwCl [(h, .inr (16, [.int th, .ref cs, sk, vh])), (cs, .inr (4, [.int md, ed, .int 0]))] s.heap := hP
  have hl := lv_entry ([.ref h, .int p0, .int p1, .int p2]) (n := 5) (Nat.le_of_ble_eq_true rfl)
  rw [lg_entry_eq]
  generalize (lg_sl ([.ref h, .int p0, .int p1, .int p2]) ++ List.replicate (5 - (lg_sl ([.ref h, .int p0, .int p1, .int p2])).length) Slot.unset).toArray = ls at hl ⊢
  have hl : lv_has ls 5 [(0, .ref h), (1, .int p0), (2, .int p1), (3, .int p2)] := hl
  refine lv_aload_n hx hb dX12_spread_0 rfl (lv_at hl 0 rfl) ?_
  refine lv_iload_n hx hb dX12_spread_1 rfl (lv_at hl 1 rfl) ?_
  have hPc := hP.sub (ws' := [(h, .inr (16, [.int th, .ref cs, sk, vh])), (cs, .inr (4, [.int md, ed, .int 0]))]) [0, 1] rfl
  have hDc := hD.sub (ws' := [(h, .inr (16, [.int th, .ref cs, sk, vh])), (cs, .inr (4, [.int md, ed, .int 0]))]) [0, 1] (by decide) rfl
  have hKc := hK.sub (tys' := []) [] rfl
  have hFc := va_free (wc := [(h, .inr (16, [.int th, .ref cs, sk, vh])), (cs, .inr (4, [.int md, ed, .int 0]))]) hD hS hA [0, 1] rfl
  refine va_calli (va_runV (As := [.int p0]) (rest := []) ⟨hx, hb, hml, hown, hts⟩ (k_LM_noColumn l D h th cs sk vh md (ed) p0 s.heap.size) (cwV 1 hts (gV q1350 q1352 qs29 q6 (gA q1353)) rfl rfl rfl (by decide +kernel) ⟨Nat.le_of_ble_eq_true rfl, Nat.le_of_ble_eq_true rfl⟩) ⟨EV.fb, va_recv hKc hPc (ci := 16) (q0 := 0) rfl rfl, fun U hU hW => ⟨rfl, EV.at hPc hKc hDc hG (hZ.no hS) U hU hW⟩⟩ rfl rfl hl.1 rfl (lv_room (Nat.le_of_ble_eq_true rfl)) dX12_spread_2 ⟨Nat.le_of_ble_eq_true rfl, Nat.le_of_ble_eq_true rfl⟩) hS (fun q _ h => hFc q h) hFc (fun r_1 u t H1 locs ht hvm hw hB hz1 hk1 hS => ?_)
  obtain ⟨hP1, hD1⟩ := hB
  rw [ht] at hP1
  obtain ⟨hP, hD⟩ := va_join (wr := []) (w1 := [(h, .inr (16, [.int 1, .ref cs, sk, vh])), (cs, .inr (4, [.int md, ed, .int 0]))]) hP hD [0, 1] [] rfl rfl (by decide) (by decide) hk1 hFc hP1 hD1
  generalize H1 = H at hP hS ⊢
  have hP : va_P D vwCl [(h, .inr (16, [.int 1, .ref cs, sk, vh])), (cs, .inr (4, [.int md, ed, .int 0]))] H := hP
  have hD : va_D A [(h, .inr (16, [.int 1, .ref cs, sk, vh])), (cs, .inr (4, [.int md, ed, .int 0]))] := hD
  subst hw
  refine lv_if_eq (tgt := 10) hx hb dX12_spread_5 (by decide) (fun c_2 => ?_) (fun c_2 => ?_)
  · exact absurd c_2 (by decide)
  · refine lv_lconst (v := 0) hx hb dX12_spread_8 (by decide) ?_
    have hP9 := hP.sub (ws' := [(h, .inr (16, [.int 1, .ref cs, sk, vh])), (cs, .inr (4, [.int md, ed, .int 0]))]) [0, 1] rfl
    have hD9 := hD.sub (ws' := [(h, .inr (16, [.int 1, .ref cs, sk, vh])), (cs, .inr (4, [.int md, ed, .int 0]))]) [0, 1] (by decide) rfl
    refine W.widen (k := 0) (n := 0) (Nat.le_of_ble_eq_true rfl) (Nat.le_of_ble_eq_true rfl) ?_
    exact W.lret (v := 0) hx hb hr (fun t ht hW => ⟨⟨0, (), rfl, trivial, by rw [ht]; exact hP9, hD9⟩, hS.F ht⟩) hS.2.2 dX12_spread_9
set_option maxHeartbeats 4000000 in
set_option maxRecDepth 100000 in
/-- manure on the fresh reference: refused -/
theorem k_LM_manure (l : Launch) (D : va_G) (h : Nat) (th : Int32) (cs : Nat) (sk vh : Value) (md : Int32) (ed : Value) (p0 : Int32) (p1 : Int32) (sz : Nat) : Met l yX12_manure (wsA yX12_manure cX12_manure 3 (some .long)) ({ frames := 3, cells := 0, slots := 0, locals := 67 }) (va_Pc [.ref h, .int p0, .int p1] (EV D [] [(h, .inr (16, [.int th, .ref cs, sk, vh])), (cs, .inr (4, [.int md, ed, .int 0]))] sz)) (va_Ql (fun (_ : Int64) (_ : Unit) => True) (fun _ t => va_P D vwCl [(h, .inr (16, [.int 1, .ref cs, sk, vh])), (cs, .inr (4, [.int md, ed, .int 0]))] t.heap ∧ va_D (va_A [(h, .inr (16, [.int th, .ref cs, sk, vh])), (cs, .inr (4, [.int md, ed, .int 0]))] sz) [(h, .inr (16, [.int 1, .ref cs, sk, vh])), (cs, .inr (4, [.int md, ed, .int 0]))]) (va_A [(h, .inr (16, [.int th, .ref cs, sk, vh])), (cs, .inr (4, [.int md, ed, .int 0]))] sz)) 0 0 (va_A [(h, .inr (16, [.int th, .ref cs, sk, vh])), (cs, .inr (4, [.int md, ed, .int 0]))] sz) := by
  refine Met.ofW (cc := cX12_manure) (maxL := 3) (ret := (some .long)) (by decide) rfl ?_
  intro p e s m args below meth c s₁ B hml hv
  obtain ⟨rfl, hsz, hP, hK, hD0, hG, hZ0⟩ := hv
  have hx := B.exec
  have hb := B.bytes
  have hr := B.returns
  have hts0 := atoms_spec (ws := wsA yX12_manure cX12_manure 3 (some .long)) B.pre
  have hts : ∀ w ∈ lw_all, w.before _ s = true := fun w h => hts0 w (List.mem_cons_of_mem _ h)
  have hown : s.vm.findClass RX12 = some m.cls := findClass_of_methodNamed B.named
  have hlocks := B.notSynchronized
  subst hsz
  have hZ := ZZ.wide hP hZ0
  have hD := hD0.self (sz := s.heap.size)
  generalize hAe : va_A [(h, .inr (16, [.int th, .ref cs, sk, vh])), (cs, .inr (4, [.int md, ed, .int 0]))] s.heap.size = A at hD hZ ⊢
  have hA : ∀ q : Nat, s.heap.size ≤ q → A q := fun q h => by rw [← hAe]; exact Or.inr h
  have hS : va_S A s.heap s.heap [] := va_S.rf
  have hP : va_P D vwCl [(h, .inr (16, [.int th, .ref cs, sk, vh])), (cs, .inr (4, [.int md, ed, .int 0]))] s.heap := hP
  have hl := lv_entry ([.ref h, .int p0, .int p1]) (n := 3) (Nat.le_of_ble_eq_true rfl)
  rw [lg_entry_eq]
  generalize (lg_sl ([.ref h, .int p0, .int p1]) ++ List.replicate (3 - (lg_sl ([.ref h, .int p0, .int p1])).length) Slot.unset).toArray = ls at hl ⊢
  have hl : lv_has ls 3 [(0, .ref h), (1, .int p0), (2, .int p1)] := hl
  refine lv_aload_n hx hb dX12_manure_0 rfl (lv_at hl 0 rfl) ?_
  refine lv_iload_n hx hb dX12_manure_1 rfl (lv_at hl 1 rfl) ?_
  have hPc := hP.sub (ws' := [(h, .inr (16, [.int th, .ref cs, sk, vh])), (cs, .inr (4, [.int md, ed, .int 0]))]) [0, 1] rfl
  have hDc := hD.sub (ws' := [(h, .inr (16, [.int th, .ref cs, sk, vh])), (cs, .inr (4, [.int md, ed, .int 0]))]) [0, 1] (by decide) rfl
  have hKc := hK.sub (tys' := []) [] rfl
  have hFc := va_free (wc := [(h, .inr (16, [.int th, .ref cs, sk, vh])), (cs, .inr (4, [.int md, ed, .int 0]))]) hD hS hA [0, 1] rfl
  refine va_calli (va_runV (As := [.int p0]) (rest := []) ⟨hx, hb, hml, hown, hts⟩ (k_LM_noColumn l D h th cs sk vh md (ed) p0 s.heap.size) (cwV 1 hts (gV q1350 q1352 qs29 q6 (gA q1353)) rfl rfl rfl (by decide +kernel) ⟨Nat.le_of_ble_eq_true rfl, Nat.le_of_ble_eq_true rfl⟩) ⟨EV.fb, va_recv hKc hPc (ci := 16) (q0 := 0) rfl rfl, fun U hU hW => ⟨rfl, EV.at hPc hKc hDc hG (hZ.no hS) U hU hW⟩⟩ rfl rfl hl.1 rfl (lv_room (Nat.le_of_ble_eq_true rfl)) dX12_manure_2 ⟨Nat.le_of_ble_eq_true rfl, Nat.le_of_ble_eq_true rfl⟩) hS (fun q _ h => hFc q h) hFc (fun r_1 u t H1 locs ht hvm hw hB hz1 hk1 hS => ?_)
  obtain ⟨hP1, hD1⟩ := hB
  rw [ht] at hP1
  obtain ⟨hP, hD⟩ := va_join (wr := []) (w1 := [(h, .inr (16, [.int 1, .ref cs, sk, vh])), (cs, .inr (4, [.int md, ed, .int 0]))]) hP hD [0, 1] [] rfl rfl (by decide) (by decide) hk1 hFc hP1 hD1
  generalize H1 = H at hP hS ⊢
  have hP : va_P D vwCl [(h, .inr (16, [.int 1, .ref cs, sk, vh])), (cs, .inr (4, [.int md, ed, .int 0]))] H := hP
  have hD : va_D A [(h, .inr (16, [.int 1, .ref cs, sk, vh])), (cs, .inr (4, [.int md, ed, .int 0]))] := hD
  subst hw
  refine lv_if_eq (tgt := 10) hx hb dX12_manure_5 (by decide) (fun c_2 => ?_) (fun c_2 => ?_)
  · exact absurd c_2 (by decide)
  · refine lv_lconst (v := 0) hx hb dX12_manure_8 (by decide) ?_
    have hP9 := hP.sub (ws' := [(h, .inr (16, [.int 1, .ref cs, sk, vh])), (cs, .inr (4, [.int md, ed, .int 0]))]) [0, 1] rfl
    have hD9 := hD.sub (ws' := [(h, .inr (16, [.int 1, .ref cs, sk, vh])), (cs, .inr (4, [.int md, ed, .int 0]))]) [0, 1] (by decide) rfl
    refine W.widen (k := 0) (n := 0) (Nat.le_of_ble_eq_true rfl) (Nat.le_of_ble_eq_true rfl) ?_
    exact W.lret (v := 0) hx hb hr (fun t ht hW => ⟨⟨0, (), rfl, trivial, by rw [ht]; exact hP9, hD9⟩, hS.F ht⟩) hS.2.2 dX12_manure_9
set_option maxHeartbeats 4000000 in
set_option maxRecDepth 100000 in
/-- solute on the fresh reference: refused -/
theorem k_LM_solute (l : Launch) (D : va_G) (h : Nat) (th : Int32) (cs : Nat) (sk vh : Value) (md : Int32) (ed : Value) (p0 : Int32) (p1 : Int32) (p2 : Int32) (sz : Nat) : Met l yX12_solute (wsA yX12_solute cX12_solute 4 (some .long)) ({ frames := 3, cells := 0, slots := 0, locals := 68 }) (va_Pc [.ref h, .int p0, .int p1, .int p2] (EV D [] [(h, .inr (16, [.int th, .ref cs, sk, vh])), (cs, .inr (4, [.int md, ed, .int 0]))] sz)) (va_Ql (fun (_ : Int64) (_ : Unit) => True) (fun _ t => va_P D vwCl [(h, .inr (16, [.int 1, .ref cs, sk, vh])), (cs, .inr (4, [.int md, ed, .int 0]))] t.heap ∧ va_D (va_A [(h, .inr (16, [.int th, .ref cs, sk, vh])), (cs, .inr (4, [.int md, ed, .int 0]))] sz) [(h, .inr (16, [.int 1, .ref cs, sk, vh])), (cs, .inr (4, [.int md, ed, .int 0]))]) (va_A [(h, .inr (16, [.int th, .ref cs, sk, vh])), (cs, .inr (4, [.int md, ed, .int 0]))] sz)) 0 0 (va_A [(h, .inr (16, [.int th, .ref cs, sk, vh])), (cs, .inr (4, [.int md, ed, .int 0]))] sz) := by
  refine Met.ofW (cc := cX12_solute) (maxL := 4) (ret := (some .long)) (by decide) rfl ?_
  intro p e s m args below meth c s₁ B hml hv
  obtain ⟨rfl, hsz, hP, hK, hD0, hG, hZ0⟩ := hv
  have hx := B.exec
  have hb := B.bytes
  have hr := B.returns
  have hts0 := atoms_spec (ws := wsA yX12_solute cX12_solute 4 (some .long)) B.pre
  have hts : ∀ w ∈ lw_all, w.before _ s = true := fun w h => hts0 w (List.mem_cons_of_mem _ h)
  have hown : s.vm.findClass RX12 = some m.cls := findClass_of_methodNamed B.named
  have hlocks := B.notSynchronized
  subst hsz
  have hZ := ZZ.wide hP hZ0
  have hD := hD0.self (sz := s.heap.size)
  generalize hAe : va_A [(h, .inr (16, [.int th, .ref cs, sk, vh])), (cs, .inr (4, [.int md, ed, .int 0]))] s.heap.size = A at hD hZ ⊢
  have hA : ∀ q : Nat, s.heap.size ≤ q → A q := fun q h => by rw [← hAe]; exact Or.inr h
  have hS : va_S A s.heap s.heap [] := va_S.rf
  have hP : va_P D vwCl [(h, .inr (16, [.int th, .ref cs, sk, vh])), (cs, .inr (4, [.int md, ed, .int 0]))] s.heap := hP
  have hl := lv_entry ([.ref h, .int p0, .int p1, .int p2]) (n := 4) (Nat.le_of_ble_eq_true rfl)
  rw [lg_entry_eq]
  generalize (lg_sl ([.ref h, .int p0, .int p1, .int p2]) ++ List.replicate (4 - (lg_sl ([.ref h, .int p0, .int p1, .int p2])).length) Slot.unset).toArray = ls at hl ⊢
  have hl : lv_has ls 4 [(0, .ref h), (1, .int p0), (2, .int p1), (3, .int p2)] := hl
  refine lv_aload_n hx hb dX12_solute_0 rfl (lv_at hl 0 rfl) ?_
  refine lv_iload_n hx hb dX12_solute_1 rfl (lv_at hl 1 rfl) ?_
  refine lv_iload_n hx hb dX12_solute_2 rfl (lv_at hl 2 rfl) ?_
  have hPc := hP.sub (ws' := [(h, .inr (16, [.int th, .ref cs, sk, vh])), (cs, .inr (4, [.int md, ed, .int 0]))]) [0, 1] rfl
  have hDc := hD.sub (ws' := [(h, .inr (16, [.int th, .ref cs, sk, vh])), (cs, .inr (4, [.int md, ed, .int 0]))]) [0, 1] (by decide) rfl
  have hKc := hK.sub (tys' := []) [] rfl
  have hFc := va_free (wc := [(h, .inr (16, [.int th, .ref cs, sk, vh])), (cs, .inr (4, [.int md, ed, .int 0]))]) hD hS hA [0, 1] rfl
  refine va_calli (va_runV (As := [.int p0, .int p1]) (rest := []) ⟨hx, hb, hml, hown, hts⟩ (k_LM_noLayer l D h th cs sk vh md (ed) p0 p1 s.heap.size) (cwV 2 hts (gV q1419 q1421 qs31 q6 (gA q1422)) rfl rfl rfl (by decide +kernel) ⟨Nat.le_of_ble_eq_true rfl, Nat.le_of_ble_eq_true rfl⟩) ⟨EV.fb, va_recv hKc hPc (ci := 16) (q0 := 0) rfl rfl, fun U hU hW => ⟨rfl, EV.at hPc hKc hDc hG (hZ.no hS) U hU hW⟩⟩ rfl rfl hl.1 rfl (lv_room (Nat.le_of_ble_eq_true rfl)) dX12_solute_3 ⟨Nat.le_of_ble_eq_true rfl, Nat.le_of_ble_eq_true rfl⟩) hS (fun q _ h => hFc q h) hFc (fun r_1 u t H1 locs ht hvm hw hB hz1 hk1 hS => ?_)
  obtain ⟨hP1, hD1⟩ := hB
  rw [ht] at hP1
  obtain ⟨hP, hD⟩ := va_join (wr := []) (w1 := [(h, .inr (16, [.int 1, .ref cs, sk, vh])), (cs, .inr (4, [.int md, ed, .int 0]))]) hP hD [0, 1] [] rfl rfl (by decide) (by decide) hk1 hFc hP1 hD1
  generalize H1 = H at hP hS ⊢
  have hP : va_P D vwCl [(h, .inr (16, [.int 1, .ref cs, sk, vh])), (cs, .inr (4, [.int md, ed, .int 0]))] H := hP
  have hD : va_D A [(h, .inr (16, [.int 1, .ref cs, sk, vh])), (cs, .inr (4, [.int md, ed, .int 0]))] := hD
  subst hw
  refine lv_if_eq (tgt := 11) hx hb dX12_solute_6 (by decide) (fun c_2 => ?_) (fun c_2 => ?_)
  · exact absurd c_2 (by decide)
  · refine lv_lconst (v := 0) hx hb dX12_solute_9 (by decide) ?_
    have hP9 := hP.sub (ws' := [(h, .inr (16, [.int 1, .ref cs, sk, vh])), (cs, .inr (4, [.int md, ed, .int 0]))]) [0, 1] rfl
    have hD9 := hD.sub (ws' := [(h, .inr (16, [.int 1, .ref cs, sk, vh])), (cs, .inr (4, [.int md, ed, .int 0]))]) [0, 1] (by decide) rfl
    refine W.widen (k := 0) (n := 0) (Nat.le_of_ble_eq_true rfl) (Nat.le_of_ble_eq_true rfl) ?_
    exact W.lret (v := 0) hx hb hr (fun t ht hW => ⟨⟨0, (), rfl, trivial, by rw [ht]; exact hP9, hD9⟩, hS.F ht⟩) hS.2.2 dX12_solute_10
set_option maxHeartbeats 4000000 in
set_option maxRecDepth 100000 in
/-- out on the fresh reference: refused -/
theorem k_LM_out (l : Launch) (D : va_G) (h : Nat) (th : Int32) (cs : Nat) (sk vh : Value) (md : Int32) (ed : Value) (p0 : Int32) (p1 : Int32) (sz : Nat) : Met l yX12_out (wsA yX12_out cX12_out 3 (some .long)) ({ frames := 3, cells := 0, slots := 0, locals := 67 }) (va_Pc [.ref h, .int p0, .int p1] (EV D [] [(h, .inr (16, [.int th, .ref cs, sk, vh])), (cs, .inr (4, [.int md, ed, .int 0]))] sz)) (va_Ql (fun (_ : Int64) (_ : Unit) => True) (fun _ t => va_P D vwCl [(h, .inr (16, [.int 1, .ref cs, sk, vh])), (cs, .inr (4, [.int md, ed, .int 0]))] t.heap ∧ va_D (va_A [(h, .inr (16, [.int th, .ref cs, sk, vh])), (cs, .inr (4, [.int md, ed, .int 0]))] sz) [(h, .inr (16, [.int 1, .ref cs, sk, vh])), (cs, .inr (4, [.int md, ed, .int 0]))]) (va_A [(h, .inr (16, [.int th, .ref cs, sk, vh])), (cs, .inr (4, [.int md, ed, .int 0]))] sz)) 0 0 (va_A [(h, .inr (16, [.int th, .ref cs, sk, vh])), (cs, .inr (4, [.int md, ed, .int 0]))] sz) := by
  refine Met.ofW (cc := cX12_out) (maxL := 3) (ret := (some .long)) (by decide) rfl ?_
  intro p e s m args below meth c s₁ B hml hv
  obtain ⟨rfl, hsz, hP, hK, hD0, hG, hZ0⟩ := hv
  have hx := B.exec
  have hb := B.bytes
  have hr := B.returns
  have hts0 := atoms_spec (ws := wsA yX12_out cX12_out 3 (some .long)) B.pre
  have hts : ∀ w ∈ lw_all, w.before _ s = true := fun w h => hts0 w (List.mem_cons_of_mem _ h)
  have hown : s.vm.findClass RX12 = some m.cls := findClass_of_methodNamed B.named
  have hlocks := B.notSynchronized
  subst hsz
  have hZ := ZZ.wide hP hZ0
  have hD := hD0.self (sz := s.heap.size)
  generalize hAe : va_A [(h, .inr (16, [.int th, .ref cs, sk, vh])), (cs, .inr (4, [.int md, ed, .int 0]))] s.heap.size = A at hD hZ ⊢
  have hA : ∀ q : Nat, s.heap.size ≤ q → A q := fun q h => by rw [← hAe]; exact Or.inr h
  have hS : va_S A s.heap s.heap [] := va_S.rf
  have hP : va_P D vwCl [(h, .inr (16, [.int th, .ref cs, sk, vh])), (cs, .inr (4, [.int md, ed, .int 0]))] s.heap := hP
  have hl := lv_entry ([.ref h, .int p0, .int p1]) (n := 3) (Nat.le_of_ble_eq_true rfl)
  rw [lg_entry_eq]
  generalize (lg_sl ([.ref h, .int p0, .int p1]) ++ List.replicate (3 - (lg_sl ([.ref h, .int p0, .int p1])).length) Slot.unset).toArray = ls at hl ⊢
  have hl : lv_has ls 3 [(0, .ref h), (1, .int p0), (2, .int p1)] := hl
  refine lv_aload_n hx hb dX12_out_0 rfl (lv_at hl 0 rfl) ?_
  refine lv_iload_n hx hb dX12_out_1 rfl (lv_at hl 1 rfl) ?_
  have hPc := hP.sub (ws' := [(h, .inr (16, [.int th, .ref cs, sk, vh])), (cs, .inr (4, [.int md, ed, .int 0]))]) [0, 1] rfl
  have hDc := hD.sub (ws' := [(h, .inr (16, [.int th, .ref cs, sk, vh])), (cs, .inr (4, [.int md, ed, .int 0]))]) [0, 1] (by decide) rfl
  have hKc := hK.sub (tys' := []) [] rfl
  have hFc := va_free (wc := [(h, .inr (16, [.int th, .ref cs, sk, vh])), (cs, .inr (4, [.int md, ed, .int 0]))]) hD hS hA [0, 1] rfl
  refine va_calli (va_runV (As := [.int p0]) (rest := []) ⟨hx, hb, hml, hown, hts⟩ (k_LM_noColumn l D h th cs sk vh md (ed) p0 s.heap.size) (cwV 1 hts (gV q1350 q1352 qs29 q6 (gA q1353)) rfl rfl rfl (by decide +kernel) ⟨Nat.le_of_ble_eq_true rfl, Nat.le_of_ble_eq_true rfl⟩) ⟨EV.fb, va_recv hKc hPc (ci := 16) (q0 := 0) rfl rfl, fun U hU hW => ⟨rfl, EV.at hPc hKc hDc hG (hZ.no hS) U hU hW⟩⟩ rfl rfl hl.1 rfl (lv_room (Nat.le_of_ble_eq_true rfl)) dX12_out_2 ⟨Nat.le_of_ble_eq_true rfl, Nat.le_of_ble_eq_true rfl⟩) hS (fun q _ h => hFc q h) hFc (fun r_1 u t H1 locs ht hvm hw hB hz1 hk1 hS => ?_)
  obtain ⟨hP1, hD1⟩ := hB
  rw [ht] at hP1
  obtain ⟨hP, hD⟩ := va_join (wr := []) (w1 := [(h, .inr (16, [.int 1, .ref cs, sk, vh])), (cs, .inr (4, [.int md, ed, .int 0]))]) hP hD [0, 1] [] rfl rfl (by decide) (by decide) hk1 hFc hP1 hD1
  generalize H1 = H at hP hS ⊢
  have hP : va_P D vwCl [(h, .inr (16, [.int 1, .ref cs, sk, vh])), (cs, .inr (4, [.int md, ed, .int 0]))] H := hP
  have hD : va_D A [(h, .inr (16, [.int 1, .ref cs, sk, vh])), (cs, .inr (4, [.int md, ed, .int 0]))] := hD
  subst hw
  refine lv_if_eq (tgt := 10) hx hb dX12_out_5 (by decide) (fun c_2 => ?_) (fun c_2 => ?_)
  · exact absurd c_2 (by decide)
  · refine lv_lconst (v := 0) hx hb dX12_out_8 (by decide) ?_
    have hP9 := hP.sub (ws' := [(h, .inr (16, [.int 1, .ref cs, sk, vh])), (cs, .inr (4, [.int md, ed, .int 0]))]) [0, 1] rfl
    have hD9 := hD.sub (ws' := [(h, .inr (16, [.int 1, .ref cs, sk, vh])), (cs, .inr (4, [.int md, ed, .int 0]))]) [0, 1] (by decide) rfl
    refine W.widen (k := 0) (n := 0) (Nat.le_of_ble_eq_true rfl) (Nat.le_of_ble_eq_true rfl) ?_
    exact W.lret (v := 0) hx hb hr (fun t ht hW => ⟨⟨0, (), rfl, trivial, by rw [ht]; exact hP9, hD9⟩, hS.F ht⟩) hS.2.2 dX12_out_9
set_option maxHeartbeats 4000000 in
set_option maxRecDepth 100000 in
/-- eaten on the fresh reference: refused -/
theorem k_LM_eaten (l : Launch) (D : va_G) (h : Nat) (th : Int32) (cs : Nat) (sk vh : Value) (md : Int32) (ed : Value) (p0 : Int32) (sz : Nat) : Met l yX12_eaten (wsA yX12_eaten cX12_eaten 2 (some .long)) ({ frames := 3, cells := 0, slots := 0, locals := 67 }) (va_Pc [.ref h, .int p0] (EV D [] [(h, .inr (16, [.int th, .ref cs, sk, vh])), (cs, .inr (4, [.int md, ed, .int 0]))] sz)) (va_Ql (fun (_ : Int64) (_ : Unit) => True) (fun _ t => va_P D vwCl [(h, .inr (16, [.int 1, .ref cs, sk, vh])), (cs, .inr (4, [.int md, ed, .int 0]))] t.heap ∧ va_D (va_A [(h, .inr (16, [.int th, .ref cs, sk, vh])), (cs, .inr (4, [.int md, ed, .int 0]))] sz) [(h, .inr (16, [.int 1, .ref cs, sk, vh])), (cs, .inr (4, [.int md, ed, .int 0]))]) (va_A [(h, .inr (16, [.int th, .ref cs, sk, vh])), (cs, .inr (4, [.int md, ed, .int 0]))] sz)) 0 0 (va_A [(h, .inr (16, [.int th, .ref cs, sk, vh])), (cs, .inr (4, [.int md, ed, .int 0]))] sz) := by
  refine Met.ofW (cc := cX12_eaten) (maxL := 2) (ret := (some .long)) (by decide) rfl ?_
  intro p e s m args below meth c s₁ B hml hv
  obtain ⟨rfl, hsz, hP, hK, hD0, hG, hZ0⟩ := hv
  have hx := B.exec
  have hb := B.bytes
  have hr := B.returns
  have hts0 := atoms_spec (ws := wsA yX12_eaten cX12_eaten 2 (some .long)) B.pre
  have hts : ∀ w ∈ lw_all, w.before _ s = true := fun w h => hts0 w (List.mem_cons_of_mem _ h)
  have hown : s.vm.findClass RX12 = some m.cls := findClass_of_methodNamed B.named
  have hlocks := B.notSynchronized
  subst hsz
  have hZ := ZZ.wide hP hZ0
  have hD := hD0.self (sz := s.heap.size)
  generalize hAe : va_A [(h, .inr (16, [.int th, .ref cs, sk, vh])), (cs, .inr (4, [.int md, ed, .int 0]))] s.heap.size = A at hD hZ ⊢
  have hA : ∀ q : Nat, s.heap.size ≤ q → A q := fun q h => by rw [← hAe]; exact Or.inr h
  have hS : va_S A s.heap s.heap [] := va_S.rf
  have hP : va_P D vwCl [(h, .inr (16, [.int th, .ref cs, sk, vh])), (cs, .inr (4, [.int md, ed, .int 0]))] s.heap := hP
  have hl := lv_entry ([.ref h, .int p0]) (n := 2) (Nat.le_of_ble_eq_true rfl)
  rw [lg_entry_eq]
  generalize (lg_sl ([.ref h, .int p0]) ++ List.replicate (2 - (lg_sl ([.ref h, .int p0])).length) Slot.unset).toArray = ls at hl ⊢
  have hl : lv_has ls 2 [(0, .ref h), (1, .int p0)] := hl
  refine lv_aload_n hx hb dX12_eaten_0 rfl (lv_at hl 0 rfl) ?_
  refine lv_iload_n hx hb dX12_eaten_1 rfl (lv_at hl 1 rfl) ?_
  have hPc := hP.sub (ws' := [(h, .inr (16, [.int th, .ref cs, sk, vh])), (cs, .inr (4, [.int md, ed, .int 0]))]) [0, 1] rfl
  have hDc := hD.sub (ws' := [(h, .inr (16, [.int th, .ref cs, sk, vh])), (cs, .inr (4, [.int md, ed, .int 0]))]) [0, 1] (by decide) rfl
  have hKc := hK.sub (tys' := []) [] rfl
  have hFc := va_free (wc := [(h, .inr (16, [.int th, .ref cs, sk, vh])), (cs, .inr (4, [.int md, ed, .int 0]))]) hD hS hA [0, 1] rfl
  refine va_calli (va_runV (As := [.int p0]) (rest := []) ⟨hx, hb, hml, hown, hts⟩ (k_LM_noColumn l D h th cs sk vh md (ed) p0 s.heap.size) (cwV 1 hts (gV q1350 q1352 qs29 q6 (gA q1353)) rfl rfl rfl (by decide +kernel) ⟨Nat.le_of_ble_eq_true rfl, Nat.le_of_ble_eq_true rfl⟩) ⟨EV.fb, va_recv hKc hPc (ci := 16) (q0 := 0) rfl rfl, fun U hU hW => ⟨rfl, EV.at hPc hKc hDc hG (hZ.no hS) U hU hW⟩⟩ rfl rfl hl.1 rfl (lv_room (Nat.le_of_ble_eq_true rfl)) dX12_eaten_2 ⟨Nat.le_of_ble_eq_true rfl, Nat.le_of_ble_eq_true rfl⟩) hS (fun q _ h => hFc q h) hFc (fun r_1 u t H1 locs ht hvm hw hB hz1 hk1 hS => ?_)
  obtain ⟨hP1, hD1⟩ := hB
  rw [ht] at hP1
  obtain ⟨hP, hD⟩ := va_join (wr := []) (w1 := [(h, .inr (16, [.int 1, .ref cs, sk, vh])), (cs, .inr (4, [.int md, ed, .int 0]))]) hP hD [0, 1] [] rfl rfl (by decide) (by decide) hk1 hFc hP1 hD1
  generalize H1 = H at hP hS ⊢
  have hP : va_P D vwCl [(h, .inr (16, [.int 1, .ref cs, sk, vh])), (cs, .inr (4, [.int md, ed, .int 0]))] H := hP
  have hD : va_D A [(h, .inr (16, [.int 1, .ref cs, sk, vh])), (cs, .inr (4, [.int md, ed, .int 0]))] := hD
  subst hw
  refine lv_if_eq (tgt := 12) hx hb dX12_eaten_5 (by decide) (fun c_2 => ?_) (fun c_2 => ?_)
  · exact absurd c_2 (by decide)
  · refine lv_lconst (v := 0) hx hb dX12_eaten_8 (by decide) ?_
    refine lv_goto (tgt := 26) hx hb dX12_eaten_9 (by decide) ?_
    have hP9 := hP.sub (ws' := [(h, .inr (16, [.int 1, .ref cs, sk, vh])), (cs, .inr (4, [.int md, ed, .int 0]))]) [0, 1] rfl
    have hD9 := hD.sub (ws' := [(h, .inr (16, [.int 1, .ref cs, sk, vh])), (cs, .inr (4, [.int md, ed, .int 0]))]) [0, 1] (by decide) rfl
    refine W.widen (k := 0) (n := 0) (Nat.le_of_ble_eq_true rfl) (Nat.le_of_ble_eq_true rfl) ?_
    exact W.lret (v := 0) hx hb hr (fun t ht hW => ⟨⟨0, (), rfl, trivial, by rw [ht]; exact hP9, hD9⟩, hS.F ht⟩) hS.2.2 dX12_eaten_26
set_option maxHeartbeats 4000000 in
set_option maxRecDepth 100000 in
/-- standing on the fresh reference: refused -/
theorem k_LM_standing (l : Launch) (D : va_G) (h : Nat) (th : Int32) (cs : Nat) (sk vh : Value) (md : Int32) (ed : Value) (p0 : Int32) (sz : Nat) : Met l yX12_standing (wsA yX12_standing cX12_standing 2 (some .int)) ({ frames := 3, cells := 0, slots := 0, locals := 67 }) (va_Pc [.ref h, .int p0] (EV D [] [(h, .inr (16, [.int th, .ref cs, sk, vh])), (cs, .inr (4, [.int md, ed, .int 0]))] sz)) (va_Qi (fun (_ : Int32) (_ : Unit) => True) (fun _ t => va_P D vwCl [(h, .inr (16, [.int 1, .ref cs, sk, vh])), (cs, .inr (4, [.int md, ed, .int 0]))] t.heap ∧ va_D (va_A [(h, .inr (16, [.int th, .ref cs, sk, vh])), (cs, .inr (4, [.int md, ed, .int 0]))] sz) [(h, .inr (16, [.int 1, .ref cs, sk, vh])), (cs, .inr (4, [.int md, ed, .int 0]))]) (va_A [(h, .inr (16, [.int th, .ref cs, sk, vh])), (cs, .inr (4, [.int md, ed, .int 0]))] sz)) 0 0 (va_A [(h, .inr (16, [.int th, .ref cs, sk, vh])), (cs, .inr (4, [.int md, ed, .int 0]))] sz) := by
  refine Met.ofW (cc := cX12_standing) (maxL := 2) (ret := (some .int)) (by decide) rfl ?_
  intro p e s m args below meth c s₁ B hml hv
  obtain ⟨rfl, hsz, hP, hK, hD0, hG, hZ0⟩ := hv
  have hx := B.exec
  have hb := B.bytes
  have hr := B.returns
  have hts0 := atoms_spec (ws := wsA yX12_standing cX12_standing 2 (some .int)) B.pre
  have hts : ∀ w ∈ lw_all, w.before _ s = true := fun w h => hts0 w (List.mem_cons_of_mem _ h)
  have hown : s.vm.findClass RX12 = some m.cls := findClass_of_methodNamed B.named
  have hlocks := B.notSynchronized
  subst hsz
  have hZ := ZZ.wide hP hZ0
  have hD := hD0.self (sz := s.heap.size)
  generalize hAe : va_A [(h, .inr (16, [.int th, .ref cs, sk, vh])), (cs, .inr (4, [.int md, ed, .int 0]))] s.heap.size = A at hD hZ ⊢
  have hA : ∀ q : Nat, s.heap.size ≤ q → A q := fun q h => by rw [← hAe]; exact Or.inr h
  have hS : va_S A s.heap s.heap [] := va_S.rf
  have hP : va_P D vwCl [(h, .inr (16, [.int th, .ref cs, sk, vh])), (cs, .inr (4, [.int md, ed, .int 0]))] s.heap := hP
  have hl := lv_entry ([.ref h, .int p0]) (n := 2) (Nat.le_of_ble_eq_true rfl)
  rw [lg_entry_eq]
  generalize (lg_sl ([.ref h, .int p0]) ++ List.replicate (2 - (lg_sl ([.ref h, .int p0])).length) Slot.unset).toArray = ls at hl ⊢
  have hl : lv_has ls 2 [(0, .ref h), (1, .int p0)] := hl
  refine lv_aload_n hx hb dX12_standing_0 rfl (lv_at hl 0 rfl) ?_
  refine lv_iload_n hx hb dX12_standing_1 rfl (lv_at hl 1 rfl) ?_
  have hPc := hP.sub (ws' := [(h, .inr (16, [.int th, .ref cs, sk, vh])), (cs, .inr (4, [.int md, ed, .int 0]))]) [0, 1] rfl
  have hDc := hD.sub (ws' := [(h, .inr (16, [.int th, .ref cs, sk, vh])), (cs, .inr (4, [.int md, ed, .int 0]))]) [0, 1] (by decide) rfl
  have hKc := hK.sub (tys' := []) [] rfl
  have hFc := va_free (wc := [(h, .inr (16, [.int th, .ref cs, sk, vh])), (cs, .inr (4, [.int md, ed, .int 0]))]) hD hS hA [0, 1] rfl
  refine va_calli (va_runV (As := [.int p0]) (rest := []) ⟨hx, hb, hml, hown, hts⟩ (k_LM_noColumn l D h th cs sk vh md (ed) p0 s.heap.size) (cwV 1 hts (gV q1350 q1352 qs29 q6 (gA q1353)) rfl rfl rfl (by decide +kernel) ⟨Nat.le_of_ble_eq_true rfl, Nat.le_of_ble_eq_true rfl⟩) ⟨EV.fb, va_recv hKc hPc (ci := 16) (q0 := 0) rfl rfl, fun U hU hW => ⟨rfl, EV.at hPc hKc hDc hG (hZ.no hS) U hU hW⟩⟩ rfl rfl hl.1 rfl (lv_room (Nat.le_of_ble_eq_true rfl)) dX12_standing_2 ⟨Nat.le_of_ble_eq_true rfl, Nat.le_of_ble_eq_true rfl⟩) hS (fun q _ h => hFc q h) hFc (fun r_1 u t H1 locs ht hvm hw hB hz1 hk1 hS => ?_)
  obtain ⟨hP1, hD1⟩ := hB
  rw [ht] at hP1
  obtain ⟨hP, hD⟩ := va_join (wr := []) (w1 := [(h, .inr (16, [.int 1, .ref cs, sk, vh])), (cs, .inr (4, [.int md, ed, .int 0]))]) hP hD [0, 1] [] rfl rfl (by decide) (by decide) hk1 hFc hP1 hD1
  generalize H1 = H at hP hS ⊢
  have hP : va_P D vwCl [(h, .inr (16, [.int 1, .ref cs, sk, vh])), (cs, .inr (4, [.int md, ed, .int 0]))] H := hP
  have hD : va_D A [(h, .inr (16, [.int 1, .ref cs, sk, vh])), (cs, .inr (4, [.int md, ed, .int 0]))] := hD
  subst hw
  refine lv_if_eq (tgt := 12) hx hb dX12_standing_5 (by decide) (fun c_2 => ?_) (fun c_2 => ?_)
  · exact absurd c_2 (by decide)
  · refine lv_iconst (v := 0) hx hb dX12_standing_8 (by decide) ?_
    refine lv_goto (tgt := 26) hx hb dX12_standing_9 (by decide) ?_
    have hP9 := hP.sub (ws' := [(h, .inr (16, [.int 1, .ref cs, sk, vh])), (cs, .inr (4, [.int md, ed, .int 0]))]) [0, 1] rfl
    have hD9 := hD.sub (ws' := [(h, .inr (16, [.int 1, .ref cs, sk, vh])), (cs, .inr (4, [.int md, ed, .int 0]))]) [0, 1] (by decide) rfl
    refine W.widen (k := 0) (n := 0) (Nat.le_of_ble_eq_true rfl) (Nat.le_of_ble_eq_true rfl) ?_
    exact W.iret (v := 0) hx hb hr (fun t ht hW => ⟨⟨0, (), rfl, trivial, by rw [ht]; exact hP9, hD9⟩, hS.F ht⟩) hS.2.2 dX12_standing_26
set_option maxHeartbeats 4000000 in
set_option maxRecDepth 100000 in
/-- recharge on the fresh reference: refused -/
theorem k_LM_recharge (l : Launch) (D : va_G) (h : Nat) (th : Int32) (cs : Nat) (sk vh : Value) (md : Int32) (ed : Value) (p0 : Int32) (sz : Nat) : Met l yX12_recharge (wsA yX12_recharge cX12_recharge 2 (some .long)) ({ frames := 3, cells := 0, slots := 0, locals := 67 }) (va_Pc [.ref h, .int p0] (EV D [] [(h, .inr (16, [.int th, .ref cs, sk, vh])), (cs, .inr (4, [.int md, ed, .int 0]))] sz)) (va_Ql (fun (_ : Int64) (_ : Unit) => True) (fun _ t => va_P D vwCl [(h, .inr (16, [.int 1, .ref cs, sk, vh])), (cs, .inr (4, [.int md, ed, .int 0]))] t.heap ∧ va_D (va_A [(h, .inr (16, [.int th, .ref cs, sk, vh])), (cs, .inr (4, [.int md, ed, .int 0]))] sz) [(h, .inr (16, [.int 1, .ref cs, sk, vh])), (cs, .inr (4, [.int md, ed, .int 0]))]) (va_A [(h, .inr (16, [.int th, .ref cs, sk, vh])), (cs, .inr (4, [.int md, ed, .int 0]))] sz)) 0 0 (va_A [(h, .inr (16, [.int th, .ref cs, sk, vh])), (cs, .inr (4, [.int md, ed, .int 0]))] sz) := by
  refine Met.ofW (cc := cX12_recharge) (maxL := 2) (ret := (some .long)) (by decide) rfl ?_
  intro p e s m args below meth c s₁ B hml hv
  obtain ⟨rfl, hsz, hP, hK, hD0, hG, hZ0⟩ := hv
  have hx := B.exec
  have hb := B.bytes
  have hr := B.returns
  have hts0 := atoms_spec (ws := wsA yX12_recharge cX12_recharge 2 (some .long)) B.pre
  have hts : ∀ w ∈ lw_all, w.before _ s = true := fun w h => hts0 w (List.mem_cons_of_mem _ h)
  have hown : s.vm.findClass RX12 = some m.cls := findClass_of_methodNamed B.named
  have hlocks := B.notSynchronized
  subst hsz
  have hZ := ZZ.wide hP hZ0
  have hD := hD0.self (sz := s.heap.size)
  generalize hAe : va_A [(h, .inr (16, [.int th, .ref cs, sk, vh])), (cs, .inr (4, [.int md, ed, .int 0]))] s.heap.size = A at hD hZ ⊢
  have hA : ∀ q : Nat, s.heap.size ≤ q → A q := fun q h => by rw [← hAe]; exact Or.inr h
  have hS : va_S A s.heap s.heap [] := va_S.rf
  have hP : va_P D vwCl [(h, .inr (16, [.int th, .ref cs, sk, vh])), (cs, .inr (4, [.int md, ed, .int 0]))] s.heap := hP
  have hl := lv_entry ([.ref h, .int p0]) (n := 2) (Nat.le_of_ble_eq_true rfl)
  rw [lg_entry_eq]
  generalize (lg_sl ([.ref h, .int p0]) ++ List.replicate (2 - (lg_sl ([.ref h, .int p0])).length) Slot.unset).toArray = ls at hl ⊢
  have hl : lv_has ls 2 [(0, .ref h), (1, .int p0)] := hl
  refine lv_aload_n hx hb dX12_recharge_0 rfl (lv_at hl 0 rfl) ?_
  refine lv_iload_n hx hb dX12_recharge_1 rfl (lv_at hl 1 rfl) ?_
  have hPc := hP.sub (ws' := [(h, .inr (16, [.int th, .ref cs, sk, vh])), (cs, .inr (4, [.int md, ed, .int 0]))]) [0, 1] rfl
  have hDc := hD.sub (ws' := [(h, .inr (16, [.int th, .ref cs, sk, vh])), (cs, .inr (4, [.int md, ed, .int 0]))]) [0, 1] (by decide) rfl
  have hKc := hK.sub (tys' := []) [] rfl
  have hFc := va_free (wc := [(h, .inr (16, [.int th, .ref cs, sk, vh])), (cs, .inr (4, [.int md, ed, .int 0]))]) hD hS hA [0, 1] rfl
  refine va_calli (va_runV (As := [.int p0]) (rest := []) ⟨hx, hb, hml, hown, hts⟩ (k_LM_noColumn l D h th cs sk vh md (ed) p0 s.heap.size) (cwV 1 hts (gV q1350 q1352 qs29 q6 (gA q1353)) rfl rfl rfl (by decide +kernel) ⟨Nat.le_of_ble_eq_true rfl, Nat.le_of_ble_eq_true rfl⟩) ⟨EV.fb, va_recv hKc hPc (ci := 16) (q0 := 0) rfl rfl, fun U hU hW => ⟨rfl, EV.at hPc hKc hDc hG (hZ.no hS) U hU hW⟩⟩ rfl rfl hl.1 rfl (lv_room (Nat.le_of_ble_eq_true rfl)) dX12_recharge_2 ⟨Nat.le_of_ble_eq_true rfl, Nat.le_of_ble_eq_true rfl⟩) hS (fun q _ h => hFc q h) hFc (fun r_1 u t H1 locs ht hvm hw hB hz1 hk1 hS => ?_)
  obtain ⟨hP1, hD1⟩ := hB
  rw [ht] at hP1
  obtain ⟨hP, hD⟩ := va_join (wr := []) (w1 := [(h, .inr (16, [.int 1, .ref cs, sk, vh])), (cs, .inr (4, [.int md, ed, .int 0]))]) hP hD [0, 1] [] rfl rfl (by decide) (by decide) hk1 hFc hP1 hD1
  generalize H1 = H at hP hS ⊢
  have hP : va_P D vwCl [(h, .inr (16, [.int 1, .ref cs, sk, vh])), (cs, .inr (4, [.int md, ed, .int 0]))] H := hP
  have hD : va_D A [(h, .inr (16, [.int 1, .ref cs, sk, vh])), (cs, .inr (4, [.int md, ed, .int 0]))] := hD
  subst hw
  refine lv_if_eq (tgt := 12) hx hb dX12_recharge_5 (by decide) (fun c_2 => ?_) (fun c_2 => ?_)
  · exact absurd c_2 (by decide)
  · refine lv_lconst (v := 0) hx hb dX12_recharge_8 (by decide) ?_
    refine lv_goto (tgt := 26) hx hb dX12_recharge_9 (by decide) ?_
    have hP9 := hP.sub (ws' := [(h, .inr (16, [.int 1, .ref cs, sk, vh])), (cs, .inr (4, [.int md, ed, .int 0]))]) [0, 1] rfl
    have hD9 := hD.sub (ws' := [(h, .inr (16, [.int 1, .ref cs, sk, vh])), (cs, .inr (4, [.int md, ed, .int 0]))]) [0, 1] (by decide) rfl
    refine W.widen (k := 0) (n := 0) (Nat.le_of_ble_eq_true rfl) (Nat.le_of_ble_eq_true rfl) ?_
    exact W.lret (v := 0) hx hb hr (fun t ht hW => ⟨⟨0, (), rfl, trivial, by rw [ht]; exact hP9, hD9⟩, hS.F ht⟩) hS.2.2 dX12_recharge_26
set_option maxHeartbeats 4000000 in
set_option maxRecDepth 100000 in
/-- runoff on the fresh reference: refused -/
theorem k_LM_runoff (l : Launch) (D : va_G) (h : Nat) (th : Int32) (cs : Nat) (sk vh : Value) (md : Int32) (ed : Value) (p0 : Int32) (sz : Nat) : Met l yX12_runoff (wsA yX12_runoff cX12_runoff 2 (some .long)) ({ frames := 3, cells := 0, slots := 0, locals := 67 }) (va_Pc [.ref h, .int p0] (EV D [] [(h, .inr (16, [.int th, .ref cs, sk, vh])), (cs, .inr (4, [.int md, ed, .int 0]))] sz)) (va_Ql (fun (_ : Int64) (_ : Unit) => True) (fun _ t => va_P D vwCl [(h, .inr (16, [.int 1, .ref cs, sk, vh])), (cs, .inr (4, [.int md, ed, .int 0]))] t.heap ∧ va_D (va_A [(h, .inr (16, [.int th, .ref cs, sk, vh])), (cs, .inr (4, [.int md, ed, .int 0]))] sz) [(h, .inr (16, [.int 1, .ref cs, sk, vh])), (cs, .inr (4, [.int md, ed, .int 0]))]) (va_A [(h, .inr (16, [.int th, .ref cs, sk, vh])), (cs, .inr (4, [.int md, ed, .int 0]))] sz)) 0 0 (va_A [(h, .inr (16, [.int th, .ref cs, sk, vh])), (cs, .inr (4, [.int md, ed, .int 0]))] sz) := by
  refine Met.ofW (cc := cX12_runoff) (maxL := 2) (ret := (some .long)) (by decide) rfl ?_
  intro p e s m args below meth c s₁ B hml hv
  obtain ⟨rfl, hsz, hP, hK, hD0, hG, hZ0⟩ := hv
  have hx := B.exec
  have hb := B.bytes
  have hr := B.returns
  have hts0 := atoms_spec (ws := wsA yX12_runoff cX12_runoff 2 (some .long)) B.pre
  have hts : ∀ w ∈ lw_all, w.before _ s = true := fun w h => hts0 w (List.mem_cons_of_mem _ h)
  have hown : s.vm.findClass RX12 = some m.cls := findClass_of_methodNamed B.named
  have hlocks := B.notSynchronized
  subst hsz
  have hZ := ZZ.wide hP hZ0
  have hD := hD0.self (sz := s.heap.size)
  generalize hAe : va_A [(h, .inr (16, [.int th, .ref cs, sk, vh])), (cs, .inr (4, [.int md, ed, .int 0]))] s.heap.size = A at hD hZ ⊢
  have hA : ∀ q : Nat, s.heap.size ≤ q → A q := fun q h => by rw [← hAe]; exact Or.inr h
  have hS : va_S A s.heap s.heap [] := va_S.rf
  have hP : va_P D vwCl [(h, .inr (16, [.int th, .ref cs, sk, vh])), (cs, .inr (4, [.int md, ed, .int 0]))] s.heap := hP
  have hl := lv_entry ([.ref h, .int p0]) (n := 2) (Nat.le_of_ble_eq_true rfl)
  rw [lg_entry_eq]
  generalize (lg_sl ([.ref h, .int p0]) ++ List.replicate (2 - (lg_sl ([.ref h, .int p0])).length) Slot.unset).toArray = ls at hl ⊢
  have hl : lv_has ls 2 [(0, .ref h), (1, .int p0)] := hl
  refine lv_aload_n hx hb dX12_runoff_0 rfl (lv_at hl 0 rfl) ?_
  refine lv_iload_n hx hb dX12_runoff_1 rfl (lv_at hl 1 rfl) ?_
  have hPc := hP.sub (ws' := [(h, .inr (16, [.int th, .ref cs, sk, vh])), (cs, .inr (4, [.int md, ed, .int 0]))]) [0, 1] rfl
  have hDc := hD.sub (ws' := [(h, .inr (16, [.int th, .ref cs, sk, vh])), (cs, .inr (4, [.int md, ed, .int 0]))]) [0, 1] (by decide) rfl
  have hKc := hK.sub (tys' := []) [] rfl
  have hFc := va_free (wc := [(h, .inr (16, [.int th, .ref cs, sk, vh])), (cs, .inr (4, [.int md, ed, .int 0]))]) hD hS hA [0, 1] rfl
  refine va_calli (va_runV (As := [.int p0]) (rest := []) ⟨hx, hb, hml, hown, hts⟩ (k_LM_noColumn l D h th cs sk vh md (ed) p0 s.heap.size) (cwV 1 hts (gV q1350 q1352 qs29 q6 (gA q1353)) rfl rfl rfl (by decide +kernel) ⟨Nat.le_of_ble_eq_true rfl, Nat.le_of_ble_eq_true rfl⟩) ⟨EV.fb, va_recv hKc hPc (ci := 16) (q0 := 0) rfl rfl, fun U hU hW => ⟨rfl, EV.at hPc hKc hDc hG (hZ.no hS) U hU hW⟩⟩ rfl rfl hl.1 rfl (lv_room (Nat.le_of_ble_eq_true rfl)) dX12_runoff_2 ⟨Nat.le_of_ble_eq_true rfl, Nat.le_of_ble_eq_true rfl⟩) hS (fun q _ h => hFc q h) hFc (fun r_1 u t H1 locs ht hvm hw hB hz1 hk1 hS => ?_)
  obtain ⟨hP1, hD1⟩ := hB
  rw [ht] at hP1
  obtain ⟨hP, hD⟩ := va_join (wr := []) (w1 := [(h, .inr (16, [.int 1, .ref cs, sk, vh])), (cs, .inr (4, [.int md, ed, .int 0]))]) hP hD [0, 1] [] rfl rfl (by decide) (by decide) hk1 hFc hP1 hD1
  generalize H1 = H at hP hS ⊢
  have hP : va_P D vwCl [(h, .inr (16, [.int 1, .ref cs, sk, vh])), (cs, .inr (4, [.int md, ed, .int 0]))] H := hP
  have hD : va_D A [(h, .inr (16, [.int 1, .ref cs, sk, vh])), (cs, .inr (4, [.int md, ed, .int 0]))] := hD
  subst hw
  refine lv_if_eq (tgt := 12) hx hb dX12_runoff_5 (by decide) (fun c_2 => ?_) (fun c_2 => ?_)
  · exact absurd c_2 (by decide)
  · refine lv_lconst (v := 0) hx hb dX12_runoff_8 (by decide) ?_
    refine lv_goto (tgt := 26) hx hb dX12_runoff_9 (by decide) ?_
    have hP9 := hP.sub (ws' := [(h, .inr (16, [.int 1, .ref cs, sk, vh])), (cs, .inr (4, [.int md, ed, .int 0]))]) [0, 1] rfl
    have hD9 := hD.sub (ws' := [(h, .inr (16, [.int 1, .ref cs, sk, vh])), (cs, .inr (4, [.int md, ed, .int 0]))]) [0, 1] (by decide) rfl
    refine W.widen (k := 0) (n := 0) (Nat.le_of_ble_eq_true rfl) (Nat.le_of_ble_eq_true rfl) ?_
    exact W.lret (v := 0) hx hb hr (fun t ht hW => ⟨⟨0, (), rfl, trivial, by rw [ht]; exact hP9, hD9⟩, hS.F ht⟩) hS.2.2 dX12_runoff_26
set_option maxHeartbeats 4000000 in
set_option maxRecDepth 100000 in
/-- vapour on the fresh reference: refused -/
theorem k_LM_vapour (l : Launch) (D : va_G) (h : Nat) (th : Int32) (cs : Nat) (sk vh : Value) (md : Int32) (ed : Value) (p0 : Int32) (sz : Nat) : Met l yX12_vapour (wsA yX12_vapour cX12_vapour 2 (some .long)) ({ frames := 3, cells := 0, slots := 0, locals := 67 }) (va_Pc [.ref h, .int p0] (EV D [] [(h, .inr (16, [.int th, .ref cs, sk, vh])), (cs, .inr (4, [.int md, ed, .int 0]))] sz)) (va_Ql (fun (_ : Int64) (_ : Unit) => True) (fun _ t => va_P D vwCl [(h, .inr (16, [.int 1, .ref cs, sk, vh])), (cs, .inr (4, [.int md, ed, .int 0]))] t.heap ∧ va_D (va_A [(h, .inr (16, [.int th, .ref cs, sk, vh])), (cs, .inr (4, [.int md, ed, .int 0]))] sz) [(h, .inr (16, [.int 1, .ref cs, sk, vh])), (cs, .inr (4, [.int md, ed, .int 0]))]) (va_A [(h, .inr (16, [.int th, .ref cs, sk, vh])), (cs, .inr (4, [.int md, ed, .int 0]))] sz)) 0 0 (va_A [(h, .inr (16, [.int th, .ref cs, sk, vh])), (cs, .inr (4, [.int md, ed, .int 0]))] sz) := by
  refine Met.ofW (cc := cX12_vapour) (maxL := 2) (ret := (some .long)) (by decide) rfl ?_
  intro p e s m args below meth c s₁ B hml hv
  obtain ⟨rfl, hsz, hP, hK, hD0, hG, hZ0⟩ := hv
  have hx := B.exec
  have hb := B.bytes
  have hr := B.returns
  have hts0 := atoms_spec (ws := wsA yX12_vapour cX12_vapour 2 (some .long)) B.pre
  have hts : ∀ w ∈ lw_all, w.before _ s = true := fun w h => hts0 w (List.mem_cons_of_mem _ h)
  have hown : s.vm.findClass RX12 = some m.cls := findClass_of_methodNamed B.named
  have hlocks := B.notSynchronized
  subst hsz
  have hZ := ZZ.wide hP hZ0
  have hD := hD0.self (sz := s.heap.size)
  generalize hAe : va_A [(h, .inr (16, [.int th, .ref cs, sk, vh])), (cs, .inr (4, [.int md, ed, .int 0]))] s.heap.size = A at hD hZ ⊢
  have hA : ∀ q : Nat, s.heap.size ≤ q → A q := fun q h => by rw [← hAe]; exact Or.inr h
  have hS : va_S A s.heap s.heap [] := va_S.rf
  have hP : va_P D vwCl [(h, .inr (16, [.int th, .ref cs, sk, vh])), (cs, .inr (4, [.int md, ed, .int 0]))] s.heap := hP
  have hl := lv_entry ([.ref h, .int p0]) (n := 2) (Nat.le_of_ble_eq_true rfl)
  rw [lg_entry_eq]
  generalize (lg_sl ([.ref h, .int p0]) ++ List.replicate (2 - (lg_sl ([.ref h, .int p0])).length) Slot.unset).toArray = ls at hl ⊢
  have hl : lv_has ls 2 [(0, .ref h), (1, .int p0)] := hl
  refine lv_aload_n hx hb dX12_vapour_0 rfl (lv_at hl 0 rfl) ?_
  refine lv_iload_n hx hb dX12_vapour_1 rfl (lv_at hl 1 rfl) ?_
  have hPc := hP.sub (ws' := [(h, .inr (16, [.int th, .ref cs, sk, vh])), (cs, .inr (4, [.int md, ed, .int 0]))]) [0, 1] rfl
  have hDc := hD.sub (ws' := [(h, .inr (16, [.int th, .ref cs, sk, vh])), (cs, .inr (4, [.int md, ed, .int 0]))]) [0, 1] (by decide) rfl
  have hKc := hK.sub (tys' := []) [] rfl
  have hFc := va_free (wc := [(h, .inr (16, [.int th, .ref cs, sk, vh])), (cs, .inr (4, [.int md, ed, .int 0]))]) hD hS hA [0, 1] rfl
  refine va_calli (va_runV (As := [.int p0]) (rest := []) ⟨hx, hb, hml, hown, hts⟩ (k_LM_noColumn l D h th cs sk vh md (ed) p0 s.heap.size) (cwV 1 hts (gV q1350 q1352 qs29 q6 (gA q1353)) rfl rfl rfl (by decide +kernel) ⟨Nat.le_of_ble_eq_true rfl, Nat.le_of_ble_eq_true rfl⟩) ⟨EV.fb, va_recv hKc hPc (ci := 16) (q0 := 0) rfl rfl, fun U hU hW => ⟨rfl, EV.at hPc hKc hDc hG (hZ.no hS) U hU hW⟩⟩ rfl rfl hl.1 rfl (lv_room (Nat.le_of_ble_eq_true rfl)) dX12_vapour_2 ⟨Nat.le_of_ble_eq_true rfl, Nat.le_of_ble_eq_true rfl⟩) hS (fun q _ h => hFc q h) hFc (fun r_1 u t H1 locs ht hvm hw hB hz1 hk1 hS => ?_)
  obtain ⟨hP1, hD1⟩ := hB
  rw [ht] at hP1
  obtain ⟨hP, hD⟩ := va_join (wr := []) (w1 := [(h, .inr (16, [.int 1, .ref cs, sk, vh])), (cs, .inr (4, [.int md, ed, .int 0]))]) hP hD [0, 1] [] rfl rfl (by decide) (by decide) hk1 hFc hP1 hD1
  generalize H1 = H at hP hS ⊢
  have hP : va_P D vwCl [(h, .inr (16, [.int 1, .ref cs, sk, vh])), (cs, .inr (4, [.int md, ed, .int 0]))] H := hP
  have hD : va_D A [(h, .inr (16, [.int 1, .ref cs, sk, vh])), (cs, .inr (4, [.int md, ed, .int 0]))] := hD
  subst hw
  refine lv_if_eq (tgt := 12) hx hb dX12_vapour_5 (by decide) (fun c_2 => ?_) (fun c_2 => ?_)
  · exact absurd c_2 (by decide)
  · refine lv_lconst (v := 0) hx hb dX12_vapour_8 (by decide) ?_
    refine lv_goto (tgt := 26) hx hb dX12_vapour_9 (by decide) ?_
    have hP9 := hP.sub (ws' := [(h, .inr (16, [.int 1, .ref cs, sk, vh])), (cs, .inr (4, [.int md, ed, .int 0]))]) [0, 1] rfl
    have hD9 := hD.sub (ws' := [(h, .inr (16, [.int 1, .ref cs, sk, vh])), (cs, .inr (4, [.int md, ed, .int 0]))]) [0, 1] (by decide) rfl
    refine W.widen (k := 0) (n := 0) (Nat.le_of_ble_eq_true rfl) (Nat.le_of_ble_eq_true rfl) ?_
    exact W.lret (v := 0) hx hb hr (fun t ht hW => ⟨⟨0, (), rfl, trivial, by rw [ht]; exact hP9, hD9⟩, hS.F ht⟩) hS.2.2 dX12_vapour_26
set_option maxHeartbeats 4000000 in
set_option maxRecDepth 100000 in
/-- isFrozen on the fresh reference: refused -/
theorem k_LM_isFrozen (l : Launch) (D : va_G) (h : Nat) (th : Int32) (cs : Nat) (sk vh : Value) (md : Int32) (ed : Value) (p0 : Int32) (p1 : Int32) (sz : Nat) : Met l yX12_isFrozen (wsA yX12_isFrozen cX12_isFrozen 3 (some .boolean)) ({ frames := 3, cells := 0, slots := 0, locals := 68 }) (va_Pc [.ref h, .int p0, .int p1] (EV D [] [(h, .inr (16, [.int th, .ref cs, sk, vh])), (cs, .inr (4, [.int md, ed, .int 0]))] sz)) (va_Qi (fun (_ : Int32) (_ : Unit) => True) (fun _ t => va_P D vwCl [(h, .inr (16, [.int 1, .ref cs, sk, vh])), (cs, .inr (4, [.int md, ed, .int 0]))] t.heap ∧ va_D (va_A [(h, .inr (16, [.int th, .ref cs, sk, vh])), (cs, .inr (4, [.int md, ed, .int 0]))] sz) [(h, .inr (16, [.int 1, .ref cs, sk, vh])), (cs, .inr (4, [.int md, ed, .int 0]))]) (va_A [(h, .inr (16, [.int th, .ref cs, sk, vh])), (cs, .inr (4, [.int md, ed, .int 0]))] sz)) 0 0 (va_A [(h, .inr (16, [.int th, .ref cs, sk, vh])), (cs, .inr (4, [.int md, ed, .int 0]))] sz) := by
  refine Met.ofW (cc := cX12_isFrozen) (maxL := 3) (ret := (some .boolean)) (by decide) rfl ?_
  intro p e s m args below meth c s₁ B hml hv
  obtain ⟨rfl, hsz, hP, hK, hD0, hG, hZ0⟩ := hv
  have hx := B.exec
  have hb := B.bytes
  have hr := B.returns
  have hts0 := atoms_spec (ws := wsA yX12_isFrozen cX12_isFrozen 3 (some .boolean)) B.pre
  have hts : ∀ w ∈ lw_all, w.before _ s = true := fun w h => hts0 w (List.mem_cons_of_mem _ h)
  have hown : s.vm.findClass RX12 = some m.cls := findClass_of_methodNamed B.named
  have hlocks := B.notSynchronized
  subst hsz
  have hZ := ZZ.wide hP hZ0
  have hD := hD0.self (sz := s.heap.size)
  generalize hAe : va_A [(h, .inr (16, [.int th, .ref cs, sk, vh])), (cs, .inr (4, [.int md, ed, .int 0]))] s.heap.size = A at hD hZ ⊢
  have hA : ∀ q : Nat, s.heap.size ≤ q → A q := fun q h => by rw [← hAe]; exact Or.inr h
  have hS : va_S A s.heap s.heap [] := va_S.rf
  have hP : va_P D vwCl [(h, .inr (16, [.int th, .ref cs, sk, vh])), (cs, .inr (4, [.int md, ed, .int 0]))] s.heap := hP
  have hl := lv_entry ([.ref h, .int p0, .int p1]) (n := 3) (Nat.le_of_ble_eq_true rfl)
  rw [lg_entry_eq]
  generalize (lg_sl ([.ref h, .int p0, .int p1]) ++ List.replicate (3 - (lg_sl ([.ref h, .int p0, .int p1])).length) Slot.unset).toArray = ls at hl ⊢
  have hl : lv_has ls 3 [(0, .ref h), (1, .int p0), (2, .int p1)] := hl
  refine lv_aload_n hx hb dX12_isFrozen_0 rfl (lv_at hl 0 rfl) ?_
  refine lv_iload_n hx hb dX12_isFrozen_1 rfl (lv_at hl 1 rfl) ?_
  refine lv_iload_n hx hb dX12_isFrozen_2 rfl (lv_at hl 2 rfl) ?_
  have hPc := hP.sub (ws' := [(h, .inr (16, [.int th, .ref cs, sk, vh])), (cs, .inr (4, [.int md, ed, .int 0]))]) [0, 1] rfl
  have hDc := hD.sub (ws' := [(h, .inr (16, [.int th, .ref cs, sk, vh])), (cs, .inr (4, [.int md, ed, .int 0]))]) [0, 1] (by decide) rfl
  have hKc := hK.sub (tys' := []) [] rfl
  have hFc := va_free (wc := [(h, .inr (16, [.int th, .ref cs, sk, vh])), (cs, .inr (4, [.int md, ed, .int 0]))]) hD hS hA [0, 1] rfl
  refine va_calli (va_runV (As := [.int p0, .int p1]) (rest := []) ⟨hx, hb, hml, hown, hts⟩ (k_LM_noLayer l D h th cs sk vh md (ed) p0 p1 s.heap.size) (cwV 2 hts (gV q1419 q1421 qs31 q6 (gA q1422)) rfl rfl rfl (by decide +kernel) ⟨Nat.le_of_ble_eq_true rfl, Nat.le_of_ble_eq_true rfl⟩) ⟨EV.fb, va_recv hKc hPc (ci := 16) (q0 := 0) rfl rfl, fun U hU hW => ⟨rfl, EV.at hPc hKc hDc hG (hZ.no hS) U hU hW⟩⟩ rfl rfl hl.1 rfl (lv_room (Nat.le_of_ble_eq_true rfl)) dX12_isFrozen_3 ⟨Nat.le_of_ble_eq_true rfl, Nat.le_of_ble_eq_true rfl⟩) hS (fun q _ h => hFc q h) hFc (fun r_1 u t H1 locs ht hvm hw hB hz1 hk1 hS => ?_)
  obtain ⟨hP1, hD1⟩ := hB
  rw [ht] at hP1
  obtain ⟨hP, hD⟩ := va_join (wr := []) (w1 := [(h, .inr (16, [.int 1, .ref cs, sk, vh])), (cs, .inr (4, [.int md, ed, .int 0]))]) hP hD [0, 1] [] rfl rfl (by decide) (by decide) hk1 hFc hP1 hD1
  generalize H1 = H at hP hS ⊢
  have hP : va_P D vwCl [(h, .inr (16, [.int 1, .ref cs, sk, vh])), (cs, .inr (4, [.int md, ed, .int 0]))] H := hP
  have hD : va_D A [(h, .inr (16, [.int 1, .ref cs, sk, vh])), (cs, .inr (4, [.int md, ed, .int 0]))] := hD
  subst hw
  refine lv_if_ne (tgt := 25) hx hb dX12_isFrozen_6 (by decide) (fun c_2 => ?_) (fun c_2 => ?_)
  · refine lv_iconst (v := 0) hx hb dX12_isFrozen_25 (by decide) ?_
    have hP9 := hP.sub (ws' := [(h, .inr (16, [.int 1, .ref cs, sk, vh])), (cs, .inr (4, [.int md, ed, .int 0]))]) [0, 1] rfl
    have hD9 := hD.sub (ws' := [(h, .inr (16, [.int 1, .ref cs, sk, vh])), (cs, .inr (4, [.int md, ed, .int 0]))]) [0, 1] (by decide) rfl
    refine W.widen (k := 0) (n := 0) (Nat.le_of_ble_eq_true rfl) (Nat.le_of_ble_eq_true rfl) ?_
    exact W.zret (v := 0) hx hb hr rfl (fun t ht hW => ⟨⟨0, (), rfl, trivial, by rw [ht]; exact hP9, hD9⟩, hS.F ht⟩) hS.2.2 dX12_isFrozen_26
  · exact absurd c_2 (by decide)
set_option maxHeartbeats 4000000 in
set_option maxRecDepth 100000 in
/-- frost on the fresh reference: refused -/
theorem k_LM_frost (l : Launch) (D : va_G) (h : Nat) (th : Int32) (cs : Nat) (sk vh : Value) (md : Int32) (ed : Value) (p0 : Int32) (p1 : Int32) (sz : Nat) : Met l yX12_frost (wsA yX12_frost cX12_frost 3 (some .int)) ({ frames := 3, cells := 0, slots := 0, locals := 68 }) (va_Pc [.ref h, .int p0, .int p1] (EV D [] [(h, .inr (16, [.int th, .ref cs, sk, vh])), (cs, .inr (4, [.int md, ed, .int 0]))] sz)) (va_Qi (fun (_ : Int32) (_ : Unit) => True) (fun _ t => va_P D vwCl [(h, .inr (16, [.int 1, .ref cs, sk, vh])), (cs, .inr (4, [.int md, ed, .int 0]))] t.heap ∧ va_D (va_A [(h, .inr (16, [.int th, .ref cs, sk, vh])), (cs, .inr (4, [.int md, ed, .int 0]))] sz) [(h, .inr (16, [.int 1, .ref cs, sk, vh])), (cs, .inr (4, [.int md, ed, .int 0]))]) (va_A [(h, .inr (16, [.int th, .ref cs, sk, vh])), (cs, .inr (4, [.int md, ed, .int 0]))] sz)) 0 0 (va_A [(h, .inr (16, [.int th, .ref cs, sk, vh])), (cs, .inr (4, [.int md, ed, .int 0]))] sz) := by
  refine Met.ofW (cc := cX12_frost) (maxL := 3) (ret := (some .int)) (by decide) rfl ?_
  intro p e s m args below meth c s₁ B hml hv
  obtain ⟨rfl, hsz, hP, hK, hD0, hG, hZ0⟩ := hv
  have hx := B.exec
  have hb := B.bytes
  have hr := B.returns
  have hts0 := atoms_spec (ws := wsA yX12_frost cX12_frost 3 (some .int)) B.pre
  have hts : ∀ w ∈ lw_all, w.before _ s = true := fun w h => hts0 w (List.mem_cons_of_mem _ h)
  have hown : s.vm.findClass RX12 = some m.cls := findClass_of_methodNamed B.named
  have hlocks := B.notSynchronized
  subst hsz
  have hZ := ZZ.wide hP hZ0
  have hD := hD0.self (sz := s.heap.size)
  generalize hAe : va_A [(h, .inr (16, [.int th, .ref cs, sk, vh])), (cs, .inr (4, [.int md, ed, .int 0]))] s.heap.size = A at hD hZ ⊢
  have hA : ∀ q : Nat, s.heap.size ≤ q → A q := fun q h => by rw [← hAe]; exact Or.inr h
  have hS : va_S A s.heap s.heap [] := va_S.rf
  have hP : va_P D vwCl [(h, .inr (16, [.int th, .ref cs, sk, vh])), (cs, .inr (4, [.int md, ed, .int 0]))] s.heap := hP
  have hl := lv_entry ([.ref h, .int p0, .int p1]) (n := 3) (Nat.le_of_ble_eq_true rfl)
  rw [lg_entry_eq]
  generalize (lg_sl ([.ref h, .int p0, .int p1]) ++ List.replicate (3 - (lg_sl ([.ref h, .int p0, .int p1])).length) Slot.unset).toArray = ls at hl ⊢
  have hl : lv_has ls 3 [(0, .ref h), (1, .int p0), (2, .int p1)] := hl
  refine lv_aload_n hx hb dX12_frost_0 rfl (lv_at hl 0 rfl) ?_
  refine lv_iload_n hx hb dX12_frost_1 rfl (lv_at hl 1 rfl) ?_
  refine lv_iload_n hx hb dX12_frost_2 rfl (lv_at hl 2 rfl) ?_
  have hPc := hP.sub (ws' := [(h, .inr (16, [.int th, .ref cs, sk, vh])), (cs, .inr (4, [.int md, ed, .int 0]))]) [0, 1] rfl
  have hDc := hD.sub (ws' := [(h, .inr (16, [.int th, .ref cs, sk, vh])), (cs, .inr (4, [.int md, ed, .int 0]))]) [0, 1] (by decide) rfl
  have hKc := hK.sub (tys' := []) [] rfl
  have hFc := va_free (wc := [(h, .inr (16, [.int th, .ref cs, sk, vh])), (cs, .inr (4, [.int md, ed, .int 0]))]) hD hS hA [0, 1] rfl
  refine va_calli (va_runV (As := [.int p0, .int p1]) (rest := []) ⟨hx, hb, hml, hown, hts⟩ (k_LM_noLayer l D h th cs sk vh md (ed) p0 p1 s.heap.size) (cwV 2 hts (gV q1419 q1421 qs31 q6 (gA q1422)) rfl rfl rfl (by decide +kernel) ⟨Nat.le_of_ble_eq_true rfl, Nat.le_of_ble_eq_true rfl⟩) ⟨EV.fb, va_recv hKc hPc (ci := 16) (q0 := 0) rfl rfl, fun U hU hW => ⟨rfl, EV.at hPc hKc hDc hG (hZ.no hS) U hU hW⟩⟩ rfl rfl hl.1 rfl (lv_room (Nat.le_of_ble_eq_true rfl)) dX12_frost_3 ⟨Nat.le_of_ble_eq_true rfl, Nat.le_of_ble_eq_true rfl⟩) hS (fun q _ h => hFc q h) hFc (fun r_1 u t H1 locs ht hvm hw hB hz1 hk1 hS => ?_)
  obtain ⟨hP1, hD1⟩ := hB
  rw [ht] at hP1
  obtain ⟨hP, hD⟩ := va_join (wr := []) (w1 := [(h, .inr (16, [.int 1, .ref cs, sk, vh])), (cs, .inr (4, [.int md, ed, .int 0]))]) hP hD [0, 1] [] rfl rfl (by decide) (by decide) hk1 hFc hP1 hD1
  generalize H1 = H at hP hS ⊢
  have hP : va_P D vwCl [(h, .inr (16, [.int 1, .ref cs, sk, vh])), (cs, .inr (4, [.int md, ed, .int 0]))] H := hP
  have hD : va_D A [(h, .inr (16, [.int 1, .ref cs, sk, vh])), (cs, .inr (4, [.int md, ed, .int 0]))] := hD
  subst hw
  refine lv_if_eq (tgt := 13) hx hb dX12_frost_6 (by decide) (fun c_2 => ?_) (fun c_2 => ?_)
  · exact absurd c_2 (by decide)
  · refine lv_iconst (v := 0) hx hb dX12_frost_9 (by decide) ?_
    refine lv_goto (tgt := 22) hx hb dX12_frost_10 (by decide) ?_
    have hP9 := hP.sub (ws' := [(h, .inr (16, [.int 1, .ref cs, sk, vh])), (cs, .inr (4, [.int md, ed, .int 0]))]) [0, 1] rfl
    have hD9 := hD.sub (ws' := [(h, .inr (16, [.int 1, .ref cs, sk, vh])), (cs, .inr (4, [.int md, ed, .int 0]))]) [0, 1] (by decide) rfl
    refine W.widen (k := 0) (n := 0) (Nat.le_of_ble_eq_true rfl) (Nat.le_of_ble_eq_true rfl) ?_
    exact W.iret (v := 0) hx hb hr (fun t ht hW => ⟨⟨0, (), rfl, trivial, by rw [ht]; exact hP9, hD9⟩, hS.F ht⟩) hS.2.2 dX12_frost_22
set_option maxHeartbeats 4000000 in
set_option maxRecDepth 100000 in
/-- heave on the fresh reference: refused -/
theorem k_LM_heave (l : Launch) (D : va_G) (h : Nat) (th : Int32) (cs : Nat) (sk vh : Value) (md : Int32) (ed : Value) (p0 : Int32) (sz : Nat) : Met l yX12_heave (wsA yX12_heave cX12_heave 5 (some .int)) ({ frames := 3, cells := 0, slots := 0, locals := 67 }) (va_Pc [.ref h, .int p0] (EV D [] [(h, .inr (16, [.int th, .ref cs, sk, vh])), (cs, .inr (4, [.int md, ed, .int 0]))] sz)) (va_Qi (fun (_ : Int32) (_ : Unit) => True) (fun _ t => va_P D vwCl [(h, .inr (16, [.int 1, .ref cs, sk, vh])), (cs, .inr (4, [.int md, ed, .int 0]))] t.heap ∧ va_D (va_A [(h, .inr (16, [.int th, .ref cs, sk, vh])), (cs, .inr (4, [.int md, ed, .int 0]))] sz) [(h, .inr (16, [.int 1, .ref cs, sk, vh])), (cs, .inr (4, [.int md, ed, .int 0]))]) (va_A [(h, .inr (16, [.int th, .ref cs, sk, vh])), (cs, .inr (4, [.int md, ed, .int 0]))] sz)) 0 0 (va_A [(h, .inr (16, [.int th, .ref cs, sk, vh])), (cs, .inr (4, [.int md, ed, .int 0]))] sz) := by
  refine Met.ofW (cc := cX12_heave) (maxL := 5) (ret := (some .int)) (by decide) rfl ?_
  intro p e s m args below meth c s₁ B hml hv
  obtain ⟨rfl, hsz, hP, hK, hD0, hG, hZ0⟩ := hv
  have hx := B.exec
  have hb := B.bytes
  have hr := B.returns
  have hts0 := atoms_spec (ws := wsA yX12_heave cX12_heave 5 (some .int)) B.pre
  have hts : ∀ w ∈ lw_all, w.before _ s = true := fun w h => hts0 w (List.mem_cons_of_mem _ h)
  have hown : s.vm.findClass RX12 = some m.cls := findClass_of_methodNamed B.named
  have hlocks := B.notSynchronized
  subst hsz
  have hZ := ZZ.wide hP hZ0
  have hD := hD0.self (sz := s.heap.size)
  generalize hAe : va_A [(h, .inr (16, [.int th, .ref cs, sk, vh])), (cs, .inr (4, [.int md, ed, .int 0]))] s.heap.size = A at hD hZ ⊢
  have hA : ∀ q : Nat, s.heap.size ≤ q → A q := fun q h => by rw [← hAe]; exact Or.inr h
  have hS : va_S A s.heap s.heap [] := va_S.rf
  have hP : va_P D vwCl [(h, .inr (16, [.int th, .ref cs, sk, vh])), (cs, .inr (4, [.int md, ed, .int 0]))] s.heap := hP
  have hl := lv_entry ([.ref h, .int p0]) (n := 5) (Nat.le_of_ble_eq_true rfl)
  rw [lg_entry_eq]
  generalize (lg_sl ([.ref h, .int p0]) ++ List.replicate (5 - (lg_sl ([.ref h, .int p0])).length) Slot.unset).toArray = ls at hl ⊢
  have hl : lv_has ls 5 [(0, .ref h), (1, .int p0)] := hl
  refine lv_aload_n hx hb dX12_heave_0 rfl (lv_at hl 0 rfl) ?_
  refine lv_iload_n hx hb dX12_heave_1 rfl (lv_at hl 1 rfl) ?_
  have hPc := hP.sub (ws' := [(h, .inr (16, [.int th, .ref cs, sk, vh])), (cs, .inr (4, [.int md, ed, .int 0]))]) [0, 1] rfl
  have hDc := hD.sub (ws' := [(h, .inr (16, [.int th, .ref cs, sk, vh])), (cs, .inr (4, [.int md, ed, .int 0]))]) [0, 1] (by decide) rfl
  have hKc := hK.sub (tys' := []) [] rfl
  have hFc := va_free (wc := [(h, .inr (16, [.int th, .ref cs, sk, vh])), (cs, .inr (4, [.int md, ed, .int 0]))]) hD hS hA [0, 1] rfl
  refine va_calli (va_runV (As := [.int p0]) (rest := []) ⟨hx, hb, hml, hown, hts⟩ (k_LM_noColumn l D h th cs sk vh md (ed) p0 s.heap.size) (cwV 1 hts (gV q1350 q1352 qs29 q6 (gA q1353)) rfl rfl rfl (by decide +kernel) ⟨Nat.le_of_ble_eq_true rfl, Nat.le_of_ble_eq_true rfl⟩) ⟨EV.fb, va_recv hKc hPc (ci := 16) (q0 := 0) rfl rfl, fun U hU hW => ⟨rfl, EV.at hPc hKc hDc hG (hZ.no hS) U hU hW⟩⟩ rfl rfl hl.1 rfl (lv_room (Nat.le_of_ble_eq_true rfl)) dX12_heave_2 ⟨Nat.le_of_ble_eq_true rfl, Nat.le_of_ble_eq_true rfl⟩) hS (fun q _ h => hFc q h) hFc (fun r_1 u t H1 locs ht hvm hw hB hz1 hk1 hS => ?_)
  obtain ⟨hP1, hD1⟩ := hB
  rw [ht] at hP1
  obtain ⟨hP, hD⟩ := va_join (wr := []) (w1 := [(h, .inr (16, [.int 1, .ref cs, sk, vh])), (cs, .inr (4, [.int md, ed, .int 0]))]) hP hD [0, 1] [] rfl rfl (by decide) (by decide) hk1 hFc hP1 hD1
  generalize H1 = H at hP hS ⊢
  have hP : va_P D vwCl [(h, .inr (16, [.int 1, .ref cs, sk, vh])), (cs, .inr (4, [.int md, ed, .int 0]))] H := hP
  have hD : va_D A [(h, .inr (16, [.int 1, .ref cs, sk, vh])), (cs, .inr (4, [.int md, ed, .int 0]))] := hD
  subst hw
  refine lv_if_eq (tgt := 10) hx hb dX12_heave_5 (by decide) (fun c_2 => ?_) (fun c_2 => ?_)
  · exact absurd c_2 (by decide)
  · refine lv_iconst (v := 0) hx hb dX12_heave_8 (by decide) ?_
    have hP9 := hP.sub (ws' := [(h, .inr (16, [.int 1, .ref cs, sk, vh])), (cs, .inr (4, [.int md, ed, .int 0]))]) [0, 1] rfl
    have hD9 := hD.sub (ws' := [(h, .inr (16, [.int 1, .ref cs, sk, vh])), (cs, .inr (4, [.int md, ed, .int 0]))]) [0, 1] (by decide) rfl
    refine W.widen (k := 0) (n := 0) (Nat.le_of_ble_eq_true rfl) (Nat.le_of_ble_eq_true rfl) ?_
    exact W.iret (v := 0) hx hb hr (fun t ht hW => ⟨⟨0, (), rfl, trivial, by rw [ht]; exact hP9, hD9⟩, hS.F ht⟩) hS.2.2 dX12_heave_9
set_option maxHeartbeats 4000000 in
set_option maxRecDepth 100000 in
/-- crack on the fresh reference: refused -/
theorem k_LM_crack (l : Launch) (D : va_G) (h : Nat) (th : Int32) (cs : Nat) (sk vh : Value) (md : Int32) (ed : Value) (p0 : Int32) (sz : Nat) : Met l yX12_crack (wsA yX12_crack cX12_crack 2 (some .int)) ({ frames := 3, cells := 0, slots := 0, locals := 67 }) (va_Pc [.ref h, .int p0] (EV D [] [(h, .inr (16, [.int th, .ref cs, sk, vh])), (cs, .inr (4, [.int md, ed, .int 0]))] sz)) (va_Qi (fun (_ : Int32) (_ : Unit) => True) (fun _ t => va_P D vwCl [(h, .inr (16, [.int 1, .ref cs, sk, vh])), (cs, .inr (4, [.int md, ed, .int 0]))] t.heap ∧ va_D (va_A [(h, .inr (16, [.int th, .ref cs, sk, vh])), (cs, .inr (4, [.int md, ed, .int 0]))] sz) [(h, .inr (16, [.int 1, .ref cs, sk, vh])), (cs, .inr (4, [.int md, ed, .int 0]))]) (va_A [(h, .inr (16, [.int th, .ref cs, sk, vh])), (cs, .inr (4, [.int md, ed, .int 0]))] sz)) 0 0 (va_A [(h, .inr (16, [.int th, .ref cs, sk, vh])), (cs, .inr (4, [.int md, ed, .int 0]))] sz) := by
  refine Met.ofW (cc := cX12_crack) (maxL := 2) (ret := (some .int)) (by decide) rfl ?_
  intro p e s m args below meth c s₁ B hml hv
  obtain ⟨rfl, hsz, hP, hK, hD0, hG, hZ0⟩ := hv
  have hx := B.exec
  have hb := B.bytes
  have hr := B.returns
  have hts0 := atoms_spec (ws := wsA yX12_crack cX12_crack 2 (some .int)) B.pre
  have hts : ∀ w ∈ lw_all, w.before _ s = true := fun w h => hts0 w (List.mem_cons_of_mem _ h)
  have hown : s.vm.findClass RX12 = some m.cls := findClass_of_methodNamed B.named
  have hlocks := B.notSynchronized
  subst hsz
  have hZ := ZZ.wide hP hZ0
  have hD := hD0.self (sz := s.heap.size)
  generalize hAe : va_A [(h, .inr (16, [.int th, .ref cs, sk, vh])), (cs, .inr (4, [.int md, ed, .int 0]))] s.heap.size = A at hD hZ ⊢
  have hA : ∀ q : Nat, s.heap.size ≤ q → A q := fun q h => by rw [← hAe]; exact Or.inr h
  have hS : va_S A s.heap s.heap [] := va_S.rf
  have hP : va_P D vwCl [(h, .inr (16, [.int th, .ref cs, sk, vh])), (cs, .inr (4, [.int md, ed, .int 0]))] s.heap := hP
  have hl := lv_entry ([.ref h, .int p0]) (n := 2) (Nat.le_of_ble_eq_true rfl)
  rw [lg_entry_eq]
  generalize (lg_sl ([.ref h, .int p0]) ++ List.replicate (2 - (lg_sl ([.ref h, .int p0])).length) Slot.unset).toArray = ls at hl ⊢
  have hl : lv_has ls 2 [(0, .ref h), (1, .int p0)] := hl
  refine lv_aload_n hx hb dX12_crack_0 rfl (lv_at hl 0 rfl) ?_
  refine lv_iload_n hx hb dX12_crack_1 rfl (lv_at hl 1 rfl) ?_
  have hPc := hP.sub (ws' := [(h, .inr (16, [.int th, .ref cs, sk, vh])), (cs, .inr (4, [.int md, ed, .int 0]))]) [0, 1] rfl
  have hDc := hD.sub (ws' := [(h, .inr (16, [.int th, .ref cs, sk, vh])), (cs, .inr (4, [.int md, ed, .int 0]))]) [0, 1] (by decide) rfl
  have hKc := hK.sub (tys' := []) [] rfl
  have hFc := va_free (wc := [(h, .inr (16, [.int th, .ref cs, sk, vh])), (cs, .inr (4, [.int md, ed, .int 0]))]) hD hS hA [0, 1] rfl
  refine va_calli (va_runV (As := [.int p0]) (rest := []) ⟨hx, hb, hml, hown, hts⟩ (k_LM_noColumn l D h th cs sk vh md (ed) p0 s.heap.size) (cwV 1 hts (gV q1350 q1352 qs29 q6 (gA q1353)) rfl rfl rfl (by decide +kernel) ⟨Nat.le_of_ble_eq_true rfl, Nat.le_of_ble_eq_true rfl⟩) ⟨EV.fb, va_recv hKc hPc (ci := 16) (q0 := 0) rfl rfl, fun U hU hW => ⟨rfl, EV.at hPc hKc hDc hG (hZ.no hS) U hU hW⟩⟩ rfl rfl hl.1 rfl (lv_room (Nat.le_of_ble_eq_true rfl)) dX12_crack_2 ⟨Nat.le_of_ble_eq_true rfl, Nat.le_of_ble_eq_true rfl⟩) hS (fun q _ h => hFc q h) hFc (fun r_1 u t H1 locs ht hvm hw hB hz1 hk1 hS => ?_)
  obtain ⟨hP1, hD1⟩ := hB
  rw [ht] at hP1
  obtain ⟨hP, hD⟩ := va_join (wr := []) (w1 := [(h, .inr (16, [.int 1, .ref cs, sk, vh])), (cs, .inr (4, [.int md, ed, .int 0]))]) hP hD [0, 1] [] rfl rfl (by decide) (by decide) hk1 hFc hP1 hD1
  generalize H1 = H at hP hS ⊢
  have hP : va_P D vwCl [(h, .inr (16, [.int 1, .ref cs, sk, vh])), (cs, .inr (4, [.int md, ed, .int 0]))] H := hP
  have hD : va_D A [(h, .inr (16, [.int 1, .ref cs, sk, vh])), (cs, .inr (4, [.int md, ed, .int 0]))] := hD
  subst hw
  refine lv_if_eq (tgt := 12) hx hb dX12_crack_5 (by decide) (fun c_2 => ?_) (fun c_2 => ?_)
  · exact absurd c_2 (by decide)
  · refine lv_iconst (v := 0) hx hb dX12_crack_8 (by decide) ?_
    refine lv_goto (tgt := 26) hx hb dX12_crack_9 (by decide) ?_
    have hP9 := hP.sub (ws' := [(h, .inr (16, [.int 1, .ref cs, sk, vh])), (cs, .inr (4, [.int md, ed, .int 0]))]) [0, 1] rfl
    have hD9 := hD.sub (ws' := [(h, .inr (16, [.int 1, .ref cs, sk, vh])), (cs, .inr (4, [.int md, ed, .int 0]))]) [0, 1] (by decide) rfl
    refine W.widen (k := 0) (n := 0) (Nat.le_of_ble_eq_true rfl) (Nat.le_of_ble_eq_true rfl) ?_
    exact W.iret (v := 0) hx hb hr (fun t ht hW => ⟨⟨0, (), rfl, trivial, by rw [ht]; exact hP9, hD9⟩, hS.F ht⟩) hS.2.2 dX12_crack_26
set_option maxHeartbeats 4000000 in
set_option maxRecDepth 100000 in
/-- tension on the fresh reference: refused -/
theorem k_LM_tension (l : Launch) (D : va_G) (h : Nat) (th : Int32) (cs : Nat) (sk vh : Value) (md : Int32) (ed : Value) (p0 : Int32) (p1 : Int32) (sz : Nat) : Met l yX12_tension (wsA yX12_tension cX12_tension 5 (some .int)) ({ frames := 3, cells := 0, slots := 0, locals := 68 }) (va_Pc [.ref h, .int p0, .int p1] (EV D [] [(h, .inr (16, [.int th, .ref cs, sk, vh])), (cs, .inr (4, [.int md, ed, .int 0]))] sz)) (va_Qi (fun (_ : Int32) (_ : Unit) => True) (fun _ t => va_P D vwCl [(h, .inr (16, [.int 1, .ref cs, sk, vh])), (cs, .inr (4, [.int md, ed, .int 0]))] t.heap ∧ va_D (va_A [(h, .inr (16, [.int th, .ref cs, sk, vh])), (cs, .inr (4, [.int md, ed, .int 0]))] sz) [(h, .inr (16, [.int 1, .ref cs, sk, vh])), (cs, .inr (4, [.int md, ed, .int 0]))]) (va_A [(h, .inr (16, [.int th, .ref cs, sk, vh])), (cs, .inr (4, [.int md, ed, .int 0]))] sz)) 0 0 (va_A [(h, .inr (16, [.int th, .ref cs, sk, vh])), (cs, .inr (4, [.int md, ed, .int 0]))] sz) := by
  refine Met.ofW (cc := cX12_tension) (maxL := 5) (ret := (some .int)) (by decide) rfl ?_
  intro p e s m args below meth c s₁ B hml hv
  obtain ⟨rfl, hsz, hP, hK, hD0, hG, hZ0⟩ := hv
  have hx := B.exec
  have hb := B.bytes
  have hr := B.returns
  have hts0 := atoms_spec (ws := wsA yX12_tension cX12_tension 5 (some .int)) B.pre
  have hts : ∀ w ∈ lw_all, w.before _ s = true := fun w h => hts0 w (List.mem_cons_of_mem _ h)
  have hown : s.vm.findClass RX12 = some m.cls := findClass_of_methodNamed B.named
  have hlocks := B.notSynchronized
  subst hsz
  have hZ := ZZ.wide hP hZ0
  have hD := hD0.self (sz := s.heap.size)
  generalize hAe : va_A [(h, .inr (16, [.int th, .ref cs, sk, vh])), (cs, .inr (4, [.int md, ed, .int 0]))] s.heap.size = A at hD hZ ⊢
  have hA : ∀ q : Nat, s.heap.size ≤ q → A q := fun q h => by rw [← hAe]; exact Or.inr h
  have hS : va_S A s.heap s.heap [] := va_S.rf
  have hP : va_P D vwCl [(h, .inr (16, [.int th, .ref cs, sk, vh])), (cs, .inr (4, [.int md, ed, .int 0]))] s.heap := hP
  have hl := lv_entry ([.ref h, .int p0, .int p1]) (n := 5) (Nat.le_of_ble_eq_true rfl)
  rw [lg_entry_eq]
  generalize (lg_sl ([.ref h, .int p0, .int p1]) ++ List.replicate (5 - (lg_sl ([.ref h, .int p0, .int p1])).length) Slot.unset).toArray = ls at hl ⊢
  have hl : lv_has ls 5 [(0, .ref h), (1, .int p0), (2, .int p1)] := hl
  refine lv_aload_n hx hb dX12_tension_0 rfl (lv_at hl 0 rfl) ?_
  refine lv_iload_n hx hb dX12_tension_1 rfl (lv_at hl 1 rfl) ?_
  refine lv_iload_n hx hb dX12_tension_2 rfl (lv_at hl 2 rfl) ?_
  have hPc := hP.sub (ws' := [(h, .inr (16, [.int th, .ref cs, sk, vh])), (cs, .inr (4, [.int md, ed, .int 0]))]) [0, 1] rfl
  have hDc := hD.sub (ws' := [(h, .inr (16, [.int th, .ref cs, sk, vh])), (cs, .inr (4, [.int md, ed, .int 0]))]) [0, 1] (by decide) rfl
  have hKc := hK.sub (tys' := []) [] rfl
  have hFc := va_free (wc := [(h, .inr (16, [.int th, .ref cs, sk, vh])), (cs, .inr (4, [.int md, ed, .int 0]))]) hD hS hA [0, 1] rfl
  refine va_calli (va_runV (As := [.int p0, .int p1]) (rest := []) ⟨hx, hb, hml, hown, hts⟩ (k_LM_noLayer l D h th cs sk vh md (ed) p0 p1 s.heap.size) (cwV 2 hts (gV q1419 q1421 qs31 q6 (gA q1422)) rfl rfl rfl (by decide +kernel) ⟨Nat.le_of_ble_eq_true rfl, Nat.le_of_ble_eq_true rfl⟩) ⟨EV.fb, va_recv hKc hPc (ci := 16) (q0 := 0) rfl rfl, fun U hU hW => ⟨rfl, EV.at hPc hKc hDc hG (hZ.no hS) U hU hW⟩⟩ rfl rfl hl.1 rfl (lv_room (Nat.le_of_ble_eq_true rfl)) dX12_tension_3 ⟨Nat.le_of_ble_eq_true rfl, Nat.le_of_ble_eq_true rfl⟩) hS (fun q _ h => hFc q h) hFc (fun r_1 u t H1 locs ht hvm hw hB hz1 hk1 hS => ?_)
  obtain ⟨hP1, hD1⟩ := hB
  rw [ht] at hP1
  obtain ⟨hP, hD⟩ := va_join (wr := []) (w1 := [(h, .inr (16, [.int 1, .ref cs, sk, vh])), (cs, .inr (4, [.int md, ed, .int 0]))]) hP hD [0, 1] [] rfl rfl (by decide) (by decide) hk1 hFc hP1 hD1
  generalize H1 = H at hP hS ⊢
  have hP : va_P D vwCl [(h, .inr (16, [.int 1, .ref cs, sk, vh])), (cs, .inr (4, [.int md, ed, .int 0]))] H := hP
  have hD : va_D A [(h, .inr (16, [.int 1, .ref cs, sk, vh])), (cs, .inr (4, [.int md, ed, .int 0]))] := hD
  subst hw
  refine lv_if_eq (tgt := 11) hx hb dX12_tension_6 (by decide) (fun c_2 => ?_) (fun c_2 => ?_)
  · exact absurd c_2 (by decide)
  · refine lv_iconst (v := 0) hx hb dX12_tension_9 (by decide) ?_
    have hP9 := hP.sub (ws' := [(h, .inr (16, [.int 1, .ref cs, sk, vh])), (cs, .inr (4, [.int md, ed, .int 0]))]) [0, 1] rfl
    have hD9 := hD.sub (ws' := [(h, .inr (16, [.int 1, .ref cs, sk, vh])), (cs, .inr (4, [.int md, ed, .int 0]))]) [0, 1] (by decide) rfl
    refine W.widen (k := 0) (n := 0) (Nat.le_of_ble_eq_true rfl) (Nat.le_of_ble_eq_true rfl) ?_
    exact W.iret (v := 0) hx hb hr (fun t ht hW => ⟨⟨0, (), rfl, trivial, by rw [ht]; exact hP9, hD9⟩, hS.F ht⟩) hS.2.2 dX12_tension_10
set_option maxHeartbeats 4000000 in
set_option maxRecDepth 100000 in
/-- reflection on the fresh reference: refused -/
theorem k_LM_reflection (l : Launch) (D : va_G) (h : Nat) (th : Int32) (cs : Nat) (sk vh : Value) (md : Int32) (ed : Value) (p0 : Int32) (p1 : Int32) (sz : Nat) : Met l yX12_reflection (wsA yX12_reflection cX12_reflection 5 (some .int)) ({ frames := 3, cells := 0, slots := 0, locals := 68 }) (va_Pc [.ref h, .int p0, .int p1] (EV D [] [(h, .inr (16, [.int th, .ref cs, sk, vh])), (cs, .inr (4, [.int md, ed, .int 0]))] sz)) (va_Qi (fun (_ : Int32) (_ : Unit) => True) (fun _ t => va_P D vwCl [(h, .inr (16, [.int 1, .ref cs, sk, vh])), (cs, .inr (4, [.int md, ed, .int 0]))] t.heap ∧ va_D (va_A [(h, .inr (16, [.int th, .ref cs, sk, vh])), (cs, .inr (4, [.int md, ed, .int 0]))] sz) [(h, .inr (16, [.int 1, .ref cs, sk, vh])), (cs, .inr (4, [.int md, ed, .int 0]))]) (va_A [(h, .inr (16, [.int th, .ref cs, sk, vh])), (cs, .inr (4, [.int md, ed, .int 0]))] sz)) 0 0 (va_A [(h, .inr (16, [.int th, .ref cs, sk, vh])), (cs, .inr (4, [.int md, ed, .int 0]))] sz) := by
  refine Met.ofW (cc := cX12_reflection) (maxL := 5) (ret := (some .int)) (by decide) rfl ?_
  intro p e s m args below meth c s₁ B hml hv
  obtain ⟨rfl, hsz, hP, hK, hD0, hG, hZ0⟩ := hv
  have hx := B.exec
  have hb := B.bytes
  have hr := B.returns
  have hts0 := atoms_spec (ws := wsA yX12_reflection cX12_reflection 5 (some .int)) B.pre
  have hts : ∀ w ∈ lw_all, w.before _ s = true := fun w h => hts0 w (List.mem_cons_of_mem _ h)
  have hown : s.vm.findClass RX12 = some m.cls := findClass_of_methodNamed B.named
  have hlocks := B.notSynchronized
  subst hsz
  have hZ := ZZ.wide hP hZ0
  have hD := hD0.self (sz := s.heap.size)
  generalize hAe : va_A [(h, .inr (16, [.int th, .ref cs, sk, vh])), (cs, .inr (4, [.int md, ed, .int 0]))] s.heap.size = A at hD hZ ⊢
  have hA : ∀ q : Nat, s.heap.size ≤ q → A q := fun q h => by rw [← hAe]; exact Or.inr h
  have hS : va_S A s.heap s.heap [] := va_S.rf
  have hP : va_P D vwCl [(h, .inr (16, [.int th, .ref cs, sk, vh])), (cs, .inr (4, [.int md, ed, .int 0]))] s.heap := hP
  have hl := lv_entry ([.ref h, .int p0, .int p1]) (n := 5) (Nat.le_of_ble_eq_true rfl)
  rw [lg_entry_eq]
  generalize (lg_sl ([.ref h, .int p0, .int p1]) ++ List.replicate (5 - (lg_sl ([.ref h, .int p0, .int p1])).length) Slot.unset).toArray = ls at hl ⊢
  have hl : lv_has ls 5 [(0, .ref h), (1, .int p0), (2, .int p1)] := hl
  refine lv_aload_n hx hb dX12_reflection_0 rfl (lv_at hl 0 rfl) ?_
  refine lv_iload_n hx hb dX12_reflection_1 rfl (lv_at hl 1 rfl) ?_
  refine lv_iload_n hx hb dX12_reflection_2 rfl (lv_at hl 2 rfl) ?_
  have hPc := hP.sub (ws' := [(h, .inr (16, [.int th, .ref cs, sk, vh])), (cs, .inr (4, [.int md, ed, .int 0]))]) [0, 1] rfl
  have hDc := hD.sub (ws' := [(h, .inr (16, [.int th, .ref cs, sk, vh])), (cs, .inr (4, [.int md, ed, .int 0]))]) [0, 1] (by decide) rfl
  have hKc := hK.sub (tys' := []) [] rfl
  have hFc := va_free (wc := [(h, .inr (16, [.int th, .ref cs, sk, vh])), (cs, .inr (4, [.int md, ed, .int 0]))]) hD hS hA [0, 1] rfl
  refine va_calli (va_runV (As := [.int p0, .int p1]) (rest := []) ⟨hx, hb, hml, hown, hts⟩ (k_LM_noLayer l D h th cs sk vh md (ed) p0 p1 s.heap.size) (cwV 2 hts (gV q1419 q1421 qs31 q6 (gA q1422)) rfl rfl rfl (by decide +kernel) ⟨Nat.le_of_ble_eq_true rfl, Nat.le_of_ble_eq_true rfl⟩) ⟨EV.fb, va_recv hKc hPc (ci := 16) (q0 := 0) rfl rfl, fun U hU hW => ⟨rfl, EV.at hPc hKc hDc hG (hZ.no hS) U hU hW⟩⟩ rfl rfl hl.1 rfl (lv_room (Nat.le_of_ble_eq_true rfl)) dX12_reflection_3 ⟨Nat.le_of_ble_eq_true rfl, Nat.le_of_ble_eq_true rfl⟩) hS (fun q _ h => hFc q h) hFc (fun r_1 u t H1 locs ht hvm hw hB hz1 hk1 hS => ?_)
  obtain ⟨hP1, hD1⟩ := hB
  rw [ht] at hP1
  obtain ⟨hP, hD⟩ := va_join (wr := []) (w1 := [(h, .inr (16, [.int 1, .ref cs, sk, vh])), (cs, .inr (4, [.int md, ed, .int 0]))]) hP hD [0, 1] [] rfl rfl (by decide) (by decide) hk1 hFc hP1 hD1
  generalize H1 = H at hP hS ⊢
  have hP : va_P D vwCl [(h, .inr (16, [.int 1, .ref cs, sk, vh])), (cs, .inr (4, [.int md, ed, .int 0]))] H := hP
  have hD : va_D A [(h, .inr (16, [.int 1, .ref cs, sk, vh])), (cs, .inr (4, [.int md, ed, .int 0]))] := hD
  subst hw
  refine lv_if_eq (tgt := 11) hx hb dX12_reflection_6 (by decide) (fun c_2 => ?_) (fun c_2 => ?_)
  · exact absurd c_2 (by decide)
  · refine lv_iconst (v := 0) hx hb dX12_reflection_9 (by decide) ?_
    have hP9 := hP.sub (ws' := [(h, .inr (16, [.int 1, .ref cs, sk, vh])), (cs, .inr (4, [.int md, ed, .int 0]))]) [0, 1] rfl
    have hD9 := hD.sub (ws' := [(h, .inr (16, [.int 1, .ref cs, sk, vh])), (cs, .inr (4, [.int md, ed, .int 0]))]) [0, 1] (by decide) rfl
    refine W.widen (k := 0) (n := 0) (Nat.le_of_ble_eq_true rfl) (Nat.le_of_ble_eq_true rfl) ?_
    exact W.iret (v := 0) hx hb hr (fun t ht hW => ⟨⟨0, (), rfl, trivial, by rw [ht]; exact hP9, hD9⟩, hS.F ht⟩) hS.2.2 dX12_reflection_10
set_option maxHeartbeats 4000000 in
set_option maxRecDepth 100000 in
/-- setRight on the fresh reference: refused -/
theorem k_LM_setRight (l : Launch) (D : va_G) (h : Nat) (th : Int32) (cs : Nat) (sk vh : Value) (md : Int32) (ed : Value) (p0 : Int32) (sz : Nat) : Met l yX12_setRight (wsA yX12_setRight cX12_setRight 3 (some .int)) ({ frames := 3, cells := 0, slots := 0, locals := 67 }) (va_Pc [.ref h, .int p0] (EV D [] [(h, .inr (16, [.int th, .ref cs, sk, vh])), (cs, .inr (4, [.int md, ed, .int 0]))] sz)) (va_Qi (fun (_ : Int32) (_ : Unit) => True) (fun _ t => va_P D vwCl [(h, .inr (16, [.int 1, .ref cs, sk, vh])), (cs, .inr (4, [.int md, ed, .int 0]))] t.heap ∧ va_D (va_A [(h, .inr (16, [.int th, .ref cs, sk, vh])), (cs, .inr (4, [.int md, ed, .int 0]))] sz) [(h, .inr (16, [.int 1, .ref cs, sk, vh])), (cs, .inr (4, [.int md, ed, .int 0]))]) (va_A [(h, .inr (16, [.int th, .ref cs, sk, vh])), (cs, .inr (4, [.int md, ed, .int 0]))] sz)) 0 0 (va_A [(h, .inr (16, [.int th, .ref cs, sk, vh])), (cs, .inr (4, [.int md, ed, .int 0]))] sz) := by
  refine Met.ofW (cc := cX12_setRight) (maxL := 3) (ret := (some .int)) (by decide) rfl ?_
  intro p e s m args below meth c s₁ B hml hv
  obtain ⟨rfl, hsz, hP, hK, hD0, hG, hZ0⟩ := hv
  have hx := B.exec
  have hb := B.bytes
  have hr := B.returns
  have hts0 := atoms_spec (ws := wsA yX12_setRight cX12_setRight 3 (some .int)) B.pre
  have hts : ∀ w ∈ lw_all, w.before _ s = true := fun w h => hts0 w (List.mem_cons_of_mem _ h)
  have hown : s.vm.findClass RX12 = some m.cls := findClass_of_methodNamed B.named
  have hlocks := B.notSynchronized
  subst hsz
  have hZ := ZZ.wide hP hZ0
  have hD := hD0.self (sz := s.heap.size)
  generalize hAe : va_A [(h, .inr (16, [.int th, .ref cs, sk, vh])), (cs, .inr (4, [.int md, ed, .int 0]))] s.heap.size = A at hD hZ ⊢
  have hA : ∀ q : Nat, s.heap.size ≤ q → A q := fun q h => by rw [← hAe]; exact Or.inr h
  have hS : va_S A s.heap s.heap [] := va_S.rf
  have hP : va_P D vwCl [(h, .inr (16, [.int th, .ref cs, sk, vh])), (cs, .inr (4, [.int md, ed, .int 0]))] s.heap := hP
  have hl := lv_entry ([.ref h, .int p0]) (n := 3) (Nat.le_of_ble_eq_true rfl)
  rw [lg_entry_eq]
  generalize (lg_sl ([.ref h, .int p0]) ++ List.replicate (3 - (lg_sl ([.ref h, .int p0])).length) Slot.unset).toArray = ls at hl ⊢
  have hl : lv_has ls 3 [(0, .ref h), (1, .int p0)] := hl
  refine lv_aload_n hx hb dX12_setRight_0 rfl (lv_at hl 0 rfl) ?_
  refine lv_iload_n hx hb dX12_setRight_1 rfl (lv_at hl 1 rfl) ?_
  have hPc := hP.sub (ws' := [(h, .inr (16, [.int th, .ref cs, sk, vh])), (cs, .inr (4, [.int md, ed, .int 0]))]) [0, 1] rfl
  have hDc := hD.sub (ws' := [(h, .inr (16, [.int th, .ref cs, sk, vh])), (cs, .inr (4, [.int md, ed, .int 0]))]) [0, 1] (by decide) rfl
  have hKc := hK.sub (tys' := []) [] rfl
  have hFc := va_free (wc := [(h, .inr (16, [.int th, .ref cs, sk, vh])), (cs, .inr (4, [.int md, ed, .int 0]))]) hD hS hA [0, 1] rfl
  refine va_calli (va_runV (As := [.int p0]) (rest := []) ⟨hx, hb, hml, hown, hts⟩ (k_LM_noColumn l D h th cs sk vh md (ed) p0 s.heap.size) (cwV 1 hts (gV q1350 q1352 qs29 q6 (gA q1353)) rfl rfl rfl (by decide +kernel) ⟨Nat.le_of_ble_eq_true rfl, Nat.le_of_ble_eq_true rfl⟩) ⟨EV.fb, va_recv hKc hPc (ci := 16) (q0 := 0) rfl rfl, fun U hU hW => ⟨rfl, EV.at hPc hKc hDc hG (hZ.no hS) U hU hW⟩⟩ rfl rfl hl.1 rfl (lv_room (Nat.le_of_ble_eq_true rfl)) dX12_setRight_2 ⟨Nat.le_of_ble_eq_true rfl, Nat.le_of_ble_eq_true rfl⟩) hS (fun q _ h => hFc q h) hFc (fun r_1 u t H1 locs ht hvm hw hB hz1 hk1 hS => ?_)
  obtain ⟨hP1, hD1⟩ := hB
  rw [ht] at hP1
  obtain ⟨hP, hD⟩ := va_join (wr := []) (w1 := [(h, .inr (16, [.int 1, .ref cs, sk, vh])), (cs, .inr (4, [.int md, ed, .int 0]))]) hP hD [0, 1] [] rfl rfl (by decide) (by decide) hk1 hFc hP1 hD1
  generalize H1 = H at hP hS ⊢
  have hP : va_P D vwCl [(h, .inr (16, [.int 1, .ref cs, sk, vh])), (cs, .inr (4, [.int md, ed, .int 0]))] H := hP
  have hD : va_D A [(h, .inr (16, [.int 1, .ref cs, sk, vh])), (cs, .inr (4, [.int md, ed, .int 0]))] := hD
  subst hw
  refine lv_if_eq (tgt := 10) hx hb dX12_setRight_5 (by decide) (fun c_2 => ?_) (fun c_2 => ?_)
  · exact absurd c_2 (by decide)
  · refine lv_iconst (v := 0) hx hb dX12_setRight_8 (by decide) ?_
    have hP9 := hP.sub (ws' := [(h, .inr (16, [.int 1, .ref cs, sk, vh])), (cs, .inr (4, [.int md, ed, .int 0]))]) [0, 1] rfl
    have hD9 := hD.sub (ws' := [(h, .inr (16, [.int 1, .ref cs, sk, vh])), (cs, .inr (4, [.int md, ed, .int 0]))]) [0, 1] (by decide) rfl
    refine W.widen (k := 0) (n := 0) (Nat.le_of_ble_eq_true rfl) (Nat.le_of_ble_eq_true rfl) ?_
    exact W.iret (v := 0) hx hb hr (fun t ht hW => ⟨⟨0, (), rfl, trivial, by rw [ht]; exact hP9, hD9⟩, hS.F ht⟩) hS.2.2 dX12_setRight_9
set_option maxHeartbeats 4000000 in
set_option maxRecDepth 100000 in
/-- weigh on the fresh reference: refused -/
theorem k_LM_weigh (l : Launch) (D : va_G) (h : Nat) (th : Int32) (cs : Nat) (sk vh : Value) (md : Int32) (ed : Value) (p0 : Int32) (sz : Nat) : Met l yX12_weigh (wsA yX12_weigh cX12_weigh 5 (some .int)) ({ frames := 3, cells := 0, slots := 0, locals := 67 }) (va_Pc [.ref h, .int p0] (EV D [] [(h, .inr (16, [.int th, .ref cs, sk, vh])), (cs, .inr (4, [.int md, ed, .int 0]))] sz)) (va_Qi (fun (_ : Int32) (_ : Unit) => True) (fun _ t => va_P D vwCl [(h, .inr (16, [.int 1, .ref cs, sk, vh])), (cs, .inr (4, [.int md, ed, .int 0]))] t.heap ∧ va_D (va_A [(h, .inr (16, [.int th, .ref cs, sk, vh])), (cs, .inr (4, [.int md, ed, .int 0]))] sz) [(h, .inr (16, [.int 1, .ref cs, sk, vh])), (cs, .inr (4, [.int md, ed, .int 0]))]) (va_A [(h, .inr (16, [.int th, .ref cs, sk, vh])), (cs, .inr (4, [.int md, ed, .int 0]))] sz)) 0 0 (va_A [(h, .inr (16, [.int th, .ref cs, sk, vh])), (cs, .inr (4, [.int md, ed, .int 0]))] sz) := by
  refine Met.ofW (cc := cX12_weigh) (maxL := 5) (ret := (some .int)) (by decide) rfl ?_
  intro p e s m args below meth c s₁ B hml hv
  obtain ⟨rfl, hsz, hP, hK, hD0, hG, hZ0⟩ := hv
  have hx := B.exec
  have hb := B.bytes
  have hr := B.returns
  have hts0 := atoms_spec (ws := wsA yX12_weigh cX12_weigh 5 (some .int)) B.pre
  have hts : ∀ w ∈ lw_all, w.before _ s = true := fun w h => hts0 w (List.mem_cons_of_mem _ h)
  have hown : s.vm.findClass RX12 = some m.cls := findClass_of_methodNamed B.named
  have hlocks := B.notSynchronized
  subst hsz
  have hZ := ZZ.wide hP hZ0
  have hD := hD0.self (sz := s.heap.size)
  generalize hAe : va_A [(h, .inr (16, [.int th, .ref cs, sk, vh])), (cs, .inr (4, [.int md, ed, .int 0]))] s.heap.size = A at hD hZ ⊢
  have hA : ∀ q : Nat, s.heap.size ≤ q → A q := fun q h => by rw [← hAe]; exact Or.inr h
  have hS : va_S A s.heap s.heap [] := va_S.rf
  have hP : va_P D vwCl [(h, .inr (16, [.int th, .ref cs, sk, vh])), (cs, .inr (4, [.int md, ed, .int 0]))] s.heap := hP
  have hl := lv_entry ([.ref h, .int p0]) (n := 5) (Nat.le_of_ble_eq_true rfl)
  rw [lg_entry_eq]
  generalize (lg_sl ([.ref h, .int p0]) ++ List.replicate (5 - (lg_sl ([.ref h, .int p0])).length) Slot.unset).toArray = ls at hl ⊢
  have hl : lv_has ls 5 [(0, .ref h), (1, .int p0)] := hl
  refine lv_aload_n hx hb dX12_weigh_0 rfl (lv_at hl 0 rfl) ?_
  refine lv_iload_n hx hb dX12_weigh_1 rfl (lv_at hl 1 rfl) ?_
  have hPc := hP.sub (ws' := [(h, .inr (16, [.int th, .ref cs, sk, vh])), (cs, .inr (4, [.int md, ed, .int 0]))]) [0, 1] rfl
  have hDc := hD.sub (ws' := [(h, .inr (16, [.int th, .ref cs, sk, vh])), (cs, .inr (4, [.int md, ed, .int 0]))]) [0, 1] (by decide) rfl
  have hKc := hK.sub (tys' := []) [] rfl
  have hFc := va_free (wc := [(h, .inr (16, [.int th, .ref cs, sk, vh])), (cs, .inr (4, [.int md, ed, .int 0]))]) hD hS hA [0, 1] rfl
  refine va_calli (va_runV (As := [.int p0]) (rest := []) ⟨hx, hb, hml, hown, hts⟩ (k_LM_noColumn l D h th cs sk vh md (ed) p0 s.heap.size) (cwV 1 hts (gV q1350 q1352 qs29 q6 (gA q1353)) rfl rfl rfl (by decide +kernel) ⟨Nat.le_of_ble_eq_true rfl, Nat.le_of_ble_eq_true rfl⟩) ⟨EV.fb, va_recv hKc hPc (ci := 16) (q0 := 0) rfl rfl, fun U hU hW => ⟨rfl, EV.at hPc hKc hDc hG (hZ.no hS) U hU hW⟩⟩ rfl rfl hl.1 rfl (lv_room (Nat.le_of_ble_eq_true rfl)) dX12_weigh_2 ⟨Nat.le_of_ble_eq_true rfl, Nat.le_of_ble_eq_true rfl⟩) hS (fun q _ h => hFc q h) hFc (fun r_1 u t H1 locs ht hvm hw hB hz1 hk1 hS => ?_)
  obtain ⟨hP1, hD1⟩ := hB
  rw [ht] at hP1
  obtain ⟨hP, hD⟩ := va_join (wr := []) (w1 := [(h, .inr (16, [.int 1, .ref cs, sk, vh])), (cs, .inr (4, [.int md, ed, .int 0]))]) hP hD [0, 1] [] rfl rfl (by decide) (by decide) hk1 hFc hP1 hD1
  generalize H1 = H at hP hS ⊢
  have hP : va_P D vwCl [(h, .inr (16, [.int 1, .ref cs, sk, vh])), (cs, .inr (4, [.int md, ed, .int 0]))] H := hP
  have hD : va_D A [(h, .inr (16, [.int 1, .ref cs, sk, vh])), (cs, .inr (4, [.int md, ed, .int 0]))] := hD
  subst hw
  refine lv_if_eq (tgt := 10) hx hb dX12_weigh_5 (by decide) (fun c_2 => ?_) (fun c_2 => ?_)
  · exact absurd c_2 (by decide)
  · refine lv_iconst (v := 0) hx hb dX12_weigh_8 (by decide) ?_
    have hP9 := hP.sub (ws' := [(h, .inr (16, [.int 1, .ref cs, sk, vh])), (cs, .inr (4, [.int md, ed, .int 0]))]) [0, 1] rfl
    have hD9 := hD.sub (ws' := [(h, .inr (16, [.int 1, .ref cs, sk, vh])), (cs, .inr (4, [.int md, ed, .int 0]))]) [0, 1] (by decide) rfl
    refine W.widen (k := 0) (n := 0) (Nat.le_of_ble_eq_true rfl) (Nat.le_of_ble_eq_true rfl) ?_
    exact W.iret (v := 0) hx hb hr (fun t ht hW => ⟨⟨0, (), rfl, trivial, by rw [ht]; exact hP9, hD9⟩, hS.F ht⟩) hS.2.2 dX12_weigh_9
set_option maxHeartbeats 4000000 in
set_option maxRecDepth 100000 in
/-- fines on the fresh reference: refused -/
theorem k_LM_fines (l : Launch) (D : va_G) (h : Nat) (th : Int32) (cs : Nat) (sk vh : Value) (md : Int32) (ed : Value) (p0 : Int32) (sz : Nat) : Met l yX12_fines (wsA yX12_fines cX12_fines 2 (some .long)) ({ frames := 3, cells := 0, slots := 0, locals := 67 }) (va_Pc [.ref h, .int p0] (EV D [] [(h, .inr (16, [.int th, .ref cs, sk, vh])), (cs, .inr (4, [.int md, ed, .int 0]))] sz)) (va_Ql (fun (_ : Int64) (_ : Unit) => True) (fun _ t => va_P D vwCl [(h, .inr (16, [.int 1, .ref cs, sk, vh])), (cs, .inr (4, [.int md, ed, .int 0]))] t.heap ∧ va_D (va_A [(h, .inr (16, [.int th, .ref cs, sk, vh])), (cs, .inr (4, [.int md, ed, .int 0]))] sz) [(h, .inr (16, [.int 1, .ref cs, sk, vh])), (cs, .inr (4, [.int md, ed, .int 0]))]) (va_A [(h, .inr (16, [.int th, .ref cs, sk, vh])), (cs, .inr (4, [.int md, ed, .int 0]))] sz)) 0 0 (va_A [(h, .inr (16, [.int th, .ref cs, sk, vh])), (cs, .inr (4, [.int md, ed, .int 0]))] sz) := by
  refine Met.ofW (cc := cX12_fines) (maxL := 2) (ret := (some .long)) (by decide) rfl ?_
  intro p e s m args below meth c s₁ B hml hv
  obtain ⟨rfl, hsz, hP, hK, hD0, hG, hZ0⟩ := hv
  have hx := B.exec
  have hb := B.bytes
  have hr := B.returns
  have hts0 := atoms_spec (ws := wsA yX12_fines cX12_fines 2 (some .long)) B.pre
  have hts : ∀ w ∈ lw_all, w.before _ s = true := fun w h => hts0 w (List.mem_cons_of_mem _ h)
  have hown : s.vm.findClass RX12 = some m.cls := findClass_of_methodNamed B.named
  have hlocks := B.notSynchronized
  subst hsz
  have hZ := ZZ.wide hP hZ0
  have hD := hD0.self (sz := s.heap.size)
  generalize hAe : va_A [(h, .inr (16, [.int th, .ref cs, sk, vh])), (cs, .inr (4, [.int md, ed, .int 0]))] s.heap.size = A at hD hZ ⊢
  have hA : ∀ q : Nat, s.heap.size ≤ q → A q := fun q h => by rw [← hAe]; exact Or.inr h
  have hS : va_S A s.heap s.heap [] := va_S.rf
  have hP : va_P D vwCl [(h, .inr (16, [.int th, .ref cs, sk, vh])), (cs, .inr (4, [.int md, ed, .int 0]))] s.heap := hP
  have hl := lv_entry ([.ref h, .int p0]) (n := 2) (Nat.le_of_ble_eq_true rfl)
  rw [lg_entry_eq]
  generalize (lg_sl ([.ref h, .int p0]) ++ List.replicate (2 - (lg_sl ([.ref h, .int p0])).length) Slot.unset).toArray = ls at hl ⊢
  have hl : lv_has ls 2 [(0, .ref h), (1, .int p0)] := hl
  refine lv_aload_n hx hb dX12_fines_0 rfl (lv_at hl 0 rfl) ?_
  refine lv_iload_n hx hb dX12_fines_1 rfl (lv_at hl 1 rfl) ?_
  have hPc := hP.sub (ws' := [(h, .inr (16, [.int th, .ref cs, sk, vh])), (cs, .inr (4, [.int md, ed, .int 0]))]) [0, 1] rfl
  have hDc := hD.sub (ws' := [(h, .inr (16, [.int th, .ref cs, sk, vh])), (cs, .inr (4, [.int md, ed, .int 0]))]) [0, 1] (by decide) rfl
  have hKc := hK.sub (tys' := []) [] rfl
  have hFc := va_free (wc := [(h, .inr (16, [.int th, .ref cs, sk, vh])), (cs, .inr (4, [.int md, ed, .int 0]))]) hD hS hA [0, 1] rfl
  refine va_calli (va_runV (As := [.int p0]) (rest := []) ⟨hx, hb, hml, hown, hts⟩ (k_LM_noColumn l D h th cs sk vh md (ed) p0 s.heap.size) (cwV 1 hts (gV q1350 q1352 qs29 q6 (gA q1353)) rfl rfl rfl (by decide +kernel) ⟨Nat.le_of_ble_eq_true rfl, Nat.le_of_ble_eq_true rfl⟩) ⟨EV.fb, va_recv hKc hPc (ci := 16) (q0 := 0) rfl rfl, fun U hU hW => ⟨rfl, EV.at hPc hKc hDc hG (hZ.no hS) U hU hW⟩⟩ rfl rfl hl.1 rfl (lv_room (Nat.le_of_ble_eq_true rfl)) dX12_fines_2 ⟨Nat.le_of_ble_eq_true rfl, Nat.le_of_ble_eq_true rfl⟩) hS (fun q _ h => hFc q h) hFc (fun r_1 u t H1 locs ht hvm hw hB hz1 hk1 hS => ?_)
  obtain ⟨hP1, hD1⟩ := hB
  rw [ht] at hP1
  obtain ⟨hP, hD⟩ := va_join (wr := []) (w1 := [(h, .inr (16, [.int 1, .ref cs, sk, vh])), (cs, .inr (4, [.int md, ed, .int 0]))]) hP hD [0, 1] [] rfl rfl (by decide) (by decide) hk1 hFc hP1 hD1
  generalize H1 = H at hP hS ⊢
  have hP : va_P D vwCl [(h, .inr (16, [.int 1, .ref cs, sk, vh])), (cs, .inr (4, [.int md, ed, .int 0]))] H := hP
  have hD : va_D A [(h, .inr (16, [.int 1, .ref cs, sk, vh])), (cs, .inr (4, [.int md, ed, .int 0]))] := hD
  subst hw
  refine lv_if_eq (tgt := 12) hx hb dX12_fines_5 (by decide) (fun c_2 => ?_) (fun c_2 => ?_)
  · exact absurd c_2 (by decide)
  · refine lv_lconst (v := 0) hx hb dX12_fines_8 (by decide) ?_
    refine lv_goto (tgt := 26) hx hb dX12_fines_9 (by decide) ?_
    have hP9 := hP.sub (ws' := [(h, .inr (16, [.int 1, .ref cs, sk, vh])), (cs, .inr (4, [.int md, ed, .int 0]))]) [0, 1] rfl
    have hD9 := hD.sub (ws' := [(h, .inr (16, [.int 1, .ref cs, sk, vh])), (cs, .inr (4, [.int md, ed, .int 0]))]) [0, 1] (by decide) rfl
    refine W.widen (k := 0) (n := 0) (Nat.le_of_ble_eq_true rfl) (Nat.le_of_ble_eq_true rfl) ?_
    exact W.lret (v := 0) hx hb hr (fun t ht hW => ⟨⟨0, (), rfl, trivial, by rw [ht]; exact hP9, hD9⟩, hS.F ht⟩) hS.2.2 dX12_fines_26
set_option maxHeartbeats 4000000 in
set_option maxRecDepth 100000 in
/-- forecast on the fresh reference: refused -/
theorem k_LM_forecast (l : Launch) (D : va_G) (h : Nat) (th : Int32) (cs : Nat) (sk vh : Value) (md : Int32) (ed : Value) (p0 : Int32) (p1 : Int32) (p2 : Int32) (sz : Nat) : Met l yX12_forecast (wsA yX12_forecast cX12_forecast 4 (some .long)) ({ frames := 3, cells := 0, slots := 0, locals := 67 }) (va_Pc [.ref h, .int p0, .int p1, .int p2] (EV D [] [(h, .inr (16, [.int th, .ref cs, sk, vh])), (cs, .inr (4, [.int md, ed, .int 0]))] sz)) (va_Ql (fun (_ : Int64) (_ : Unit) => True) (fun _ t => va_P D vwCl [(h, .inr (16, [.int 1, .ref cs, sk, vh])), (cs, .inr (4, [.int md, ed, .int 0]))] t.heap ∧ va_D (va_A [(h, .inr (16, [.int th, .ref cs, sk, vh])), (cs, .inr (4, [.int md, ed, .int 0]))] sz) [(h, .inr (16, [.int 1, .ref cs, sk, vh])), (cs, .inr (4, [.int md, ed, .int 0]))]) (va_A [(h, .inr (16, [.int th, .ref cs, sk, vh])), (cs, .inr (4, [.int md, ed, .int 0]))] sz)) 0 0 (va_A [(h, .inr (16, [.int th, .ref cs, sk, vh])), (cs, .inr (4, [.int md, ed, .int 0]))] sz) := by
  refine Met.ofW (cc := cX12_forecast) (maxL := 4) (ret := (some .long)) (by decide) rfl ?_
  intro p e s m args below meth c s₁ B hml hv
  obtain ⟨rfl, hsz, hP, hK, hD0, hG, hZ0⟩ := hv
  have hx := B.exec
  have hb := B.bytes
  have hr := B.returns
  have hts0 := atoms_spec (ws := wsA yX12_forecast cX12_forecast 4 (some .long)) B.pre
  have hts : ∀ w ∈ lw_all, w.before _ s = true := fun w h => hts0 w (List.mem_cons_of_mem _ h)
  have hown : s.vm.findClass RX12 = some m.cls := findClass_of_methodNamed B.named
  have hlocks := B.notSynchronized
  subst hsz
  have hZ := ZZ.wide hP hZ0
  have hD := hD0.self (sz := s.heap.size)
  generalize hAe : va_A [(h, .inr (16, [.int th, .ref cs, sk, vh])), (cs, .inr (4, [.int md, ed, .int 0]))] s.heap.size = A at hD hZ ⊢
  have hA : ∀ q : Nat, s.heap.size ≤ q → A q := fun q h => by rw [← hAe]; exact Or.inr h
  have hS : va_S A s.heap s.heap [] := va_S.rf
  have hP : va_P D vwCl [(h, .inr (16, [.int th, .ref cs, sk, vh])), (cs, .inr (4, [.int md, ed, .int 0]))] s.heap := hP
  have hl := lv_entry ([.ref h, .int p0, .int p1, .int p2]) (n := 4) (Nat.le_of_ble_eq_true rfl)
  rw [lg_entry_eq]
  generalize (lg_sl ([.ref h, .int p0, .int p1, .int p2]) ++ List.replicate (4 - (lg_sl ([.ref h, .int p0, .int p1, .int p2])).length) Slot.unset).toArray = ls at hl ⊢
  have hl : lv_has ls 4 [(0, .ref h), (1, .int p0), (2, .int p1), (3, .int p2)] := hl
  refine lv_aload_n hx hb dX12_forecast_0 rfl (lv_at hl 0 rfl) ?_
  refine lv_iload_n hx hb dX12_forecast_1 rfl (lv_at hl 1 rfl) ?_
  have hPc := hP.sub (ws' := [(h, .inr (16, [.int th, .ref cs, sk, vh])), (cs, .inr (4, [.int md, ed, .int 0]))]) [0, 1] rfl
  have hDc := hD.sub (ws' := [(h, .inr (16, [.int th, .ref cs, sk, vh])), (cs, .inr (4, [.int md, ed, .int 0]))]) [0, 1] (by decide) rfl
  have hKc := hK.sub (tys' := []) [] rfl
  have hFc := va_free (wc := [(h, .inr (16, [.int th, .ref cs, sk, vh])), (cs, .inr (4, [.int md, ed, .int 0]))]) hD hS hA [0, 1] rfl
  refine va_calli (va_runV (As := [.int p0]) (rest := []) ⟨hx, hb, hml, hown, hts⟩ (k_LM_noColumn l D h th cs sk vh md (ed) p0 s.heap.size) (cwV 1 hts (gV q1350 q1352 qs29 q6 (gA q1353)) rfl rfl rfl (by decide +kernel) ⟨Nat.le_of_ble_eq_true rfl, Nat.le_of_ble_eq_true rfl⟩) ⟨EV.fb, va_recv hKc hPc (ci := 16) (q0 := 0) rfl rfl, fun U hU hW => ⟨rfl, EV.at hPc hKc hDc hG (hZ.no hS) U hU hW⟩⟩ rfl rfl hl.1 rfl (lv_room (Nat.le_of_ble_eq_true rfl)) dX12_forecast_2 ⟨Nat.le_of_ble_eq_true rfl, Nat.le_of_ble_eq_true rfl⟩) hS (fun q _ h => hFc q h) hFc (fun r_1 u t H1 locs ht hvm hw hB hz1 hk1 hS => ?_)
  obtain ⟨hP1, hD1⟩ := hB
  rw [ht] at hP1
  obtain ⟨hP, hD⟩ := va_join (wr := []) (w1 := [(h, .inr (16, [.int 1, .ref cs, sk, vh])), (cs, .inr (4, [.int md, ed, .int 0]))]) hP hD [0, 1] [] rfl rfl (by decide) (by decide) hk1 hFc hP1 hD1
  generalize H1 = H at hP hS ⊢
  have hP : va_P D vwCl [(h, .inr (16, [.int 1, .ref cs, sk, vh])), (cs, .inr (4, [.int md, ed, .int 0]))] H := hP
  have hD : va_D A [(h, .inr (16, [.int 1, .ref cs, sk, vh])), (cs, .inr (4, [.int md, ed, .int 0]))] := hD
  subst hw
  refine lv_if_eq (tgt := 10) hx hb dX12_forecast_5 (by decide) (fun c_2 => ?_) (fun c_2 => ?_)
  · exact absurd c_2 (by decide)
  · refine lv_lconst (v := 0) hx hb dX12_forecast_8 (by decide) ?_
    have hP9 := hP.sub (ws' := [(h, .inr (16, [.int 1, .ref cs, sk, vh])), (cs, .inr (4, [.int md, ed, .int 0]))]) [0, 1] rfl
    have hD9 := hD.sub (ws' := [(h, .inr (16, [.int 1, .ref cs, sk, vh])), (cs, .inr (4, [.int md, ed, .int 0]))]) [0, 1] (by decide) rfl
    refine W.widen (k := 0) (n := 0) (Nat.le_of_ble_eq_true rfl) (Nat.le_of_ble_eq_true rfl) ?_
    exact W.lret (v := 0) hx hb hr (fun t ht hW => ⟨⟨0, (), rfl, trivial, by rw [ht]; exact hP9, hD9⟩, hS.F ht⟩) hS.2.2 dX12_forecast_9
set_option maxHeartbeats 4000000 in
set_option maxRecDepth 100000 in
/-- fits on the fresh reference: refused -/
theorem k_LM_fits (l : Launch) (D : va_G) (h : Nat) (th : Int32) (cs : Nat) (sk vh : Value) (md : Int32) (ed : Value) (p0 : Int32) (p1 : Int32) (p2 : Int32) (sz : Nat) : Met l yX12_fits (wsA yX12_fits cX12_fits 4 (some .int)) ({ frames := 4, cells := 0, slots := 0, locals := 90 }) (va_Pc [.ref h, .int p0, .int p1, .int p2] (EV D [] [(h, .inr (16, [.int th, .ref cs, sk, vh])), (cs, .inr (4, [.int md, ed, .int 0]))] sz)) (va_Qi (fun (_ : Int32) (_ : Unit) => True) (fun _ t => va_P D vwCl [(h, .inr (16, [.int 1, .ref cs, sk, vh])), (cs, .inr (4, [.int md, ed, .int 0]))] t.heap ∧ va_D (va_A [(h, .inr (16, [.int th, .ref cs, sk, vh])), (cs, .inr (4, [.int md, ed, .int 0]))] sz) [(h, .inr (16, [.int 1, .ref cs, sk, vh])), (cs, .inr (4, [.int md, ed, .int 0]))]) (va_A [(h, .inr (16, [.int th, .ref cs, sk, vh])), (cs, .inr (4, [.int md, ed, .int 0]))] sz)) 0 0 (va_A [(h, .inr (16, [.int th, .ref cs, sk, vh])), (cs, .inr (4, [.int md, ed, .int 0]))] sz) := by
  refine Met.ofW (cc := cX12_fits) (maxL := 4) (ret := (some .int)) (by decide) rfl ?_
  intro p e s m args below meth c s₁ B hml hv
  obtain ⟨rfl, hsz, hP, hK, hD0, hG, hZ0⟩ := hv
  have hx := B.exec
  have hb := B.bytes
  have hr := B.returns
  have hts0 := atoms_spec (ws := wsA yX12_fits cX12_fits 4 (some .int)) B.pre
  have hts : ∀ w ∈ lw_all, w.before _ s = true := fun w h => hts0 w (List.mem_cons_of_mem _ h)
  have hown : s.vm.findClass RX12 = some m.cls := findClass_of_methodNamed B.named
  have hlocks := B.notSynchronized
  subst hsz
  have hZ := ZZ.wide hP hZ0
  have hD := hD0.self (sz := s.heap.size)
  generalize hAe : va_A [(h, .inr (16, [.int th, .ref cs, sk, vh])), (cs, .inr (4, [.int md, ed, .int 0]))] s.heap.size = A at hD hZ ⊢
  have hA : ∀ q : Nat, s.heap.size ≤ q → A q := fun q h => by rw [← hAe]; exact Or.inr h
  have hS : va_S A s.heap s.heap [] := va_S.rf
  have hP : va_P D vwCl [(h, .inr (16, [.int th, .ref cs, sk, vh])), (cs, .inr (4, [.int md, ed, .int 0]))] s.heap := hP
  have hl := lv_entry ([.ref h, .int p0, .int p1, .int p2]) (n := 4) (Nat.le_of_ble_eq_true rfl)
  rw [lg_entry_eq]
  generalize (lg_sl ([.ref h, .int p0, .int p1, .int p2]) ++ List.replicate (4 - (lg_sl ([.ref h, .int p0, .int p1, .int p2])).length) Slot.unset).toArray = ls at hl ⊢
  have hl : lv_has ls 4 [(0, .ref h), (1, .int p0), (2, .int p1), (3, .int p2)] := hl
  refine lv_aload_n hx hb dX12_fits_0 rfl (lv_at hl 0 rfl) ?_
  refine lv_iload_n hx hb dX12_fits_1 rfl (lv_at hl 1 rfl) ?_
  refine lv_iload_n hx hb dX12_fits_2 rfl (lv_at hl 2 rfl) ?_
  refine lv_iload_n hx hb dX12_fits_3 rfl (lv_at hl 3 rfl) ?_
  have hPc := hP.sub (ws' := [(h, .inr (16, [.int th, .ref cs, sk, vh])), (cs, .inr (4, [.int md, ed, .int 0]))]) [0, 1] rfl
  have hDc := hD.sub (ws' := [(h, .inr (16, [.int th, .ref cs, sk, vh])), (cs, .inr (4, [.int md, ed, .int 0]))]) [0, 1] (by decide) rfl
  have hKc := hK.sub (tys' := []) [] rfl
  have hFc := va_free (wc := [(h, .inr (16, [.int th, .ref cs, sk, vh])), (cs, .inr (4, [.int md, ed, .int 0]))]) hD hS hA [0, 1] rfl
  refine va_calli (va_runV (As := [.int p0, .int p1, .int p2]) (rest := []) ⟨hx, hb, hml, hown, hts⟩ (k_LM_noFit l D h th cs sk vh md (ed) p0 p1 p2 s.heap.size) (cwV 3 hts (gV q1737 q1739 qs41 q6 (gA q1740)) rfl rfl rfl (by decide +kernel) ⟨Nat.le_of_ble_eq_true rfl, Nat.le_of_ble_eq_true rfl⟩) ⟨EV.fb, va_recv hKc hPc (ci := 16) (q0 := 0) rfl rfl, fun U hU hW => ⟨rfl, EV.at hPc hKc hDc hG (hZ.no hS) U hU hW⟩⟩ rfl rfl hl.1 rfl (lv_room (Nat.le_of_ble_eq_true rfl)) dX12_fits_4 ⟨Nat.le_of_ble_eq_true rfl, Nat.le_of_ble_eq_true rfl⟩) hS (fun q _ h => hFc q h) hFc (fun r_1 u t H1 locs ht hvm hw hB hz1 hk1 hS => ?_)
  obtain ⟨hP1, hD1⟩ := hB
  rw [ht] at hP1
  obtain ⟨hP, hD⟩ := va_join (wr := []) (w1 := [(h, .inr (16, [.int 1, .ref cs, sk, vh])), (cs, .inr (4, [.int md, ed, .int 0]))]) hP hD [0, 1] [] rfl rfl (by decide) (by decide) hk1 hFc hP1 hD1
  generalize H1 = H at hP hS ⊢
  have hP : va_P D vwCl [(h, .inr (16, [.int 1, .ref cs, sk, vh])), (cs, .inr (4, [.int md, ed, .int 0]))] H := hP
  have hD : va_D A [(h, .inr (16, [.int 1, .ref cs, sk, vh])), (cs, .inr (4, [.int md, ed, .int 0]))] := hD
  subst hw
  refine lv_if_eq (tgt := 14) hx hb dX12_fits_7 (by decide) (fun c_2 => ?_) (fun c_2 => ?_)
  · exact absurd c_2 (by decide)
  · refine lv_iconst (v := 0) hx hb dX12_fits_10 (by decide) ?_
    refine lv_goto (tgt := 24) hx hb dX12_fits_11 (by decide) ?_
    have hP9 := hP.sub (ws' := [(h, .inr (16, [.int 1, .ref cs, sk, vh])), (cs, .inr (4, [.int md, ed, .int 0]))]) [0, 1] rfl
    have hD9 := hD.sub (ws' := [(h, .inr (16, [.int 1, .ref cs, sk, vh])), (cs, .inr (4, [.int md, ed, .int 0]))]) [0, 1] (by decide) rfl
    refine W.widen (k := 0) (n := 0) (Nat.le_of_ble_eq_true rfl) (Nat.le_of_ble_eq_true rfl) ?_
    exact W.iret (v := 0) hx hb hr (fun t ht hW => ⟨⟨0, (), rfl, trivial, by rw [ht]; exact hP9, hD9⟩, hS.F ht⟩) hS.2.2 dX12_fits_24
set_option maxHeartbeats 4000000 in
set_option maxRecDepth 100000 in
/-- fit on the fresh reference: refused -/
theorem k_LM_fit (l : Launch) (D : va_G) (h : Nat) (th : Int32) (cs : Nat) (sk vh : Value) (md : Int32) (ed : Value) (p0 : Int32) (p1 : Int32) (p2 : Int32) (p3 : Int32) (sz : Nat) : Met l yX12_fit (wsA yX12_fit cX12_fit 6 (some .int)) ({ frames := 4, cells := 0, slots := 0, locals := 90 }) (va_Pc [.ref h, .int p0, .int p1, .int p2, .int p3] (EV D [] [(h, .inr (16, [.int th, .ref cs, sk, vh])), (cs, .inr (4, [.int md, ed, .int 0]))] sz)) (va_Qi (fun (_ : Int32) (_ : Unit) => True) (fun _ t => va_P D vwCl [(h, .inr (16, [.int 1, .ref cs, sk, vh])), (cs, .inr (4, [.int md, ed, .int 0]))] t.heap ∧ va_D (va_A [(h, .inr (16, [.int th, .ref cs, sk, vh])), (cs, .inr (4, [.int md, ed, .int 0]))] sz) [(h, .inr (16, [.int 1, .ref cs, sk, vh])), (cs, .inr (4, [.int md, ed, .int 0]))]) (va_A [(h, .inr (16, [.int th, .ref cs, sk, vh])), (cs, .inr (4, [.int md, ed, .int 0]))] sz)) 0 0 (va_A [(h, .inr (16, [.int th, .ref cs, sk, vh])), (cs, .inr (4, [.int md, ed, .int 0]))] sz) := by
  refine Met.ofW (cc := cX12_fit) (maxL := 6) (ret := (some .int)) (by decide) rfl ?_
  intro p e s m args below meth c s₁ B hml hv
  obtain ⟨rfl, hsz, hP, hK, hD0, hG, hZ0⟩ := hv
  have hx := B.exec
  have hb := B.bytes
  have hr := B.returns
  have hts0 := atoms_spec (ws := wsA yX12_fit cX12_fit 6 (some .int)) B.pre
  have hts : ∀ w ∈ lw_all, w.before _ s = true := fun w h => hts0 w (List.mem_cons_of_mem _ h)
  have hown : s.vm.findClass RX12 = some m.cls := findClass_of_methodNamed B.named
  have hlocks := B.notSynchronized
  subst hsz
  have hZ := ZZ.wide hP hZ0
  have hD := hD0.self (sz := s.heap.size)
  generalize hAe : va_A [(h, .inr (16, [.int th, .ref cs, sk, vh])), (cs, .inr (4, [.int md, ed, .int 0]))] s.heap.size = A at hD hZ ⊢
  have hA : ∀ q : Nat, s.heap.size ≤ q → A q := fun q h => by rw [← hAe]; exact Or.inr h
  have hS : va_S A s.heap s.heap [] := va_S.rf
  have hP : va_P D vwCl [(h, .inr (16, [.int th, .ref cs, sk, vh])), (cs, .inr (4, [.int md, ed, .int 0]))] s.heap := hP
  have hl := lv_entry ([.ref h, .int p0, .int p1, .int p2, .int p3]) (n := 6) (Nat.le_of_ble_eq_true rfl)
  rw [lg_entry_eq]
  generalize (lg_sl ([.ref h, .int p0, .int p1, .int p2, .int p3]) ++ List.replicate (6 - (lg_sl ([.ref h, .int p0, .int p1, .int p2, .int p3])).length) Slot.unset).toArray = ls at hl ⊢
  have hl : lv_has ls 6 [(0, .ref h), (1, .int p0), (2, .int p1), (3, .int p2), (4, .int p3)] := hl
  refine lv_aload_n hx hb dX12_fit_0 rfl (lv_at hl 0 rfl) ?_
  refine lv_iload_n hx hb dX12_fit_1 rfl (lv_at hl 1 rfl) ?_
  refine lv_iload_n hx hb dX12_fit_2 rfl (lv_at hl 2 rfl) ?_
  refine lv_iload_n hx hb dX12_fit_3 rfl (lv_at hl 3 rfl) ?_
  have hPc := hP.sub (ws' := [(h, .inr (16, [.int th, .ref cs, sk, vh])), (cs, .inr (4, [.int md, ed, .int 0]))]) [0, 1] rfl
  have hDc := hD.sub (ws' := [(h, .inr (16, [.int th, .ref cs, sk, vh])), (cs, .inr (4, [.int md, ed, .int 0]))]) [0, 1] (by decide) rfl
  have hKc := hK.sub (tys' := []) [] rfl
  have hFc := va_free (wc := [(h, .inr (16, [.int th, .ref cs, sk, vh])), (cs, .inr (4, [.int md, ed, .int 0]))]) hD hS hA [0, 1] rfl
  refine va_calli (va_runV (As := [.int p0, .int p1, .int p2]) (rest := []) ⟨hx, hb, hml, hown, hts⟩ (k_LM_noFit l D h th cs sk vh md (ed) p0 p1 p2 s.heap.size) (cwV 3 hts (gV q1737 q1739 qs41 q6 (gA q1740)) rfl rfl rfl (by decide +kernel) ⟨Nat.le_of_ble_eq_true rfl, Nat.le_of_ble_eq_true rfl⟩) ⟨EV.fb, va_recv hKc hPc (ci := 16) (q0 := 0) rfl rfl, fun U hU hW => ⟨rfl, EV.at hPc hKc hDc hG (hZ.no hS) U hU hW⟩⟩ rfl rfl hl.1 rfl (lv_room (Nat.le_of_ble_eq_true rfl)) dX12_fit_4 ⟨Nat.le_of_ble_eq_true rfl, Nat.le_of_ble_eq_true rfl⟩) hS (fun q _ h => hFc q h) hFc (fun r_1 u t H1 locs ht hvm hw hB hz1 hk1 hS => ?_)
  obtain ⟨hP1, hD1⟩ := hB
  rw [ht] at hP1
  obtain ⟨hP, hD⟩ := va_join (wr := []) (w1 := [(h, .inr (16, [.int 1, .ref cs, sk, vh])), (cs, .inr (4, [.int md, ed, .int 0]))]) hP hD [0, 1] [] rfl rfl (by decide) (by decide) hk1 hFc hP1 hD1
  generalize H1 = H at hP hS ⊢
  have hP : va_P D vwCl [(h, .inr (16, [.int 1, .ref cs, sk, vh])), (cs, .inr (4, [.int md, ed, .int 0]))] H := hP
  have hD : va_D A [(h, .inr (16, [.int 1, .ref cs, sk, vh])), (cs, .inr (4, [.int md, ed, .int 0]))] := hD
  subst hw
  refine lv_if_eq (tgt := 12) hx hb dX12_fit_7 (by decide) (fun c_2 => ?_) (fun c_2 => ?_)
  · exact absurd c_2 (by decide)
  · refine lv_iconst (v := 0) hx hb dX12_fit_10 (by decide) ?_
    have hP9 := hP.sub (ws' := [(h, .inr (16, [.int 1, .ref cs, sk, vh])), (cs, .inr (4, [.int md, ed, .int 0]))]) [0, 1] rfl
    have hD9 := hD.sub (ws' := [(h, .inr (16, [.int 1, .ref cs, sk, vh])), (cs, .inr (4, [.int md, ed, .int 0]))]) [0, 1] (by decide) rfl
    refine W.widen (k := 0) (n := 0) (Nat.le_of_ble_eq_true rfl) (Nat.le_of_ble_eq_true rfl) ?_
    exact W.iret (v := 0) hx hb hr (fun t ht hW => ⟨⟨0, (), rfl, trivial, by rw [ht]; exact hP9, hD9⟩, hS.F ht⟩) hS.2.2 dX12_fit_11
