theorem dL_capacity_0 : decode cL_capacity 0 = .ok (.aload_n 3, 1) := by decide +kernel
theorem dL_capacity_1 : decode cL_capacity 1 = .ok (.iconst 0, 1) := by decide +kernel
theorem dL_capacity_2 : decode cL_capacity 2 = .ok (.aload_n 0, 1) := by decide +kernel
theorem dL_capacity_3 : decode cL_capacity 3 = .ok (.iload_n 1, 1) := by decide +kernel
theorem dL_capacity_4 : decode cL_capacity 4 = .ok (.iload_n 2, 1) := by decide +kernel
theorem dL_capacity_5 : decode cL_capacity 5 = .ok (.invokevirtual 31, 3) := by decide +kernel
theorem dL_capacity_13 : decode cL_capacity 13 = .ok (.astore 4, 2) := by decide +kernel
theorem dL_capacity_15 : decode cL_capacity 15 = .ok (.iconst 1, 1) := by decide +kernel
theorem dL_capacity_16 : decode cL_capacity 16 = .ok (.ireturn, 1) := by decide +kernel
theorem dL_crack_0 : decode cL_crack 0 = .ok (.aload_n 2, 1) := by decide +kernel
theorem dL_crack_1 : decode cL_crack 1 = .ok (.iconst 0, 1) := by decide +kernel
theorem dL_crack_2 : decode cL_crack 2 = .ok (.aload_n 0, 1) := by decide +kernel
theorem dL_crack_3 : decode cL_crack 3 = .ok (.iload_n 1, 1) := by decide +kernel
theorem dL_crack_4 : decode cL_crack 4 = .ok (.invokevirtual 112, 3) := by decide +kernel
theorem dL_crack_12 : decode cL_crack 12 = .ok (.astore_n 3, 1) := by decide +kernel
theorem dL_crack_13 : decode cL_crack 13 = .ok (.iconst 1, 1) := by decide +kernel
theorem dL_crack_14 : decode cL_crack 14 = .ok (.ireturn, 1) := by decide +kernel
theorem dL_eaten_0 : decode cL_eaten 0 = .ok (.aload_n 2, 1) := by decide +kernel
theorem dL_eaten_1 : decode cL_eaten 1 = .ok (.iconst 0, 1) := by decide +kernel
theorem dL_eaten_2 : decode cL_eaten 2 = .ok (.aload_n 0, 1) := by decide +kernel
theorem dL_eaten_3 : decode cL_eaten 3 = .ok (.iload_n 1, 1) := by decide +kernel
theorem dL_eaten_4 : decode cL_eaten 4 = .ok (.invokevirtual 77, 3) := by decide +kernel
theorem dL_eaten_11 : decode cL_eaten 11 = .ok (.astore_n 3, 1) := by decide +kernel
theorem dL_eaten_12 : decode cL_eaten 12 = .ok (.iconst 1, 1) := by decide +kernel
theorem dL_eaten_13 : decode cL_eaten 13 = .ok (.ireturn, 1) := by decide +kernel
theorem dL_fines_0 : decode cL_fines 0 = .ok (.aload_n 2, 1) := by decide +kernel
theorem dL_fines_1 : decode cL_fines 1 = .ok (.iconst 0, 1) := by decide +kernel
theorem dL_fines_2 : decode cL_fines 2 = .ok (.aload_n 0, 1) := by decide +kernel
theorem dL_fines_3 : decode cL_fines 3 = .ok (.iload_n 1, 1) := by decide +kernel
theorem dL_fines_4 : decode cL_fines 4 = .ok (.invokevirtual 127, 3) := by decide +kernel
theorem dL_fines_11 : decode cL_fines 11 = .ok (.astore_n 3, 1) := by decide +kernel
theorem dL_fines_12 : decode cL_fines 12 = .ok (.iconst 1, 1) := by decide +kernel
theorem dL_fines_13 : decode cL_fines 13 = .ok (.ireturn, 1) := by decide +kernel
theorem dL_fit_0 : decode cL_fit 0 = .ok (.aload 5, 2) := by decide +kernel
theorem dL_fit_2 : decode cL_fit 2 = .ok (.iconst 0, 1) := by decide +kernel
theorem dL_fit_3 : decode cL_fit 3 = .ok (.aload_n 0, 1) := by decide +kernel
theorem dL_fit_4 : decode cL_fit 4 = .ok (.iload_n 1, 1) := by decide +kernel
theorem dL_fit_5 : decode cL_fit 5 = .ok (.iload_n 2, 1) := by decide +kernel
theorem dL_fit_6 : decode cL_fit 6 = .ok (.iload_n 3, 1) := by decide +kernel
theorem dL_fit_7 : decode cL_fit 7 = .ok (.iload 4, 2) := by decide +kernel
theorem dL_fit_9 : decode cL_fit 9 = .ok (.invokevirtual 137, 3) := by decide +kernel
theorem dL_fit_17 : decode cL_fit 17 = .ok (.astore 6, 2) := by decide +kernel
theorem dL_fit_19 : decode cL_fit 19 = .ok (.iconst 1, 1) := by decide +kernel
theorem dL_fit_20 : decode cL_fit 20 = .ok (.ireturn, 1) := by decide +kernel
theorem dL_fits_0 : decode cL_fits 0 = .ok (.aload 4, 2) := by decide +kernel
theorem dL_fits_2 : decode cL_fits 2 = .ok (.iconst 0, 1) := by decide +kernel
theorem dL_fits_3 : decode cL_fits 3 = .ok (.aload_n 0, 1) := by decide +kernel
theorem dL_fits_4 : decode cL_fits 4 = .ok (.iload_n 1, 1) := by decide +kernel
theorem dL_fits_5 : decode cL_fits 5 = .ok (.iload_n 2, 1) := by decide +kernel
theorem dL_fits_6 : decode cL_fits 6 = .ok (.iload_n 3, 1) := by decide +kernel
theorem dL_fits_7 : decode cL_fits 7 = .ok (.invokevirtual 134, 3) := by decide +kernel
theorem dL_fits_15 : decode cL_fits 15 = .ok (.astore 5, 2) := by decide +kernel
theorem dL_fits_17 : decode cL_fits 17 = .ok (.iconst 1, 1) := by decide +kernel
theorem dL_fits_18 : decode cL_fits 18 = .ok (.ireturn, 1) := by decide +kernel
theorem dL_forecast_0 : decode cL_forecast 0 = .ok (.aload 4, 2) := by decide +kernel
theorem dL_forecast_2 : decode cL_forecast 2 = .ok (.iconst 0, 1) := by decide +kernel
theorem dL_forecast_3 : decode cL_forecast 3 = .ok (.aload_n 0, 1) := by decide +kernel
theorem dL_forecast_4 : decode cL_forecast 4 = .ok (.iload_n 1, 1) := by decide +kernel
theorem dL_forecast_5 : decode cL_forecast 5 = .ok (.iload_n 2, 1) := by decide +kernel
theorem dL_forecast_6 : decode cL_forecast 6 = .ok (.iload_n 3, 1) := by decide +kernel
theorem dL_forecast_7 : decode cL_forecast 7 = .ok (.invokevirtual 130, 3) := by decide +kernel
theorem dL_forecast_14 : decode cL_forecast 14 = .ok (.astore 5, 2) := by decide +kernel
theorem dL_forecast_16 : decode cL_forecast 16 = .ok (.iconst 1, 1) := by decide +kernel
theorem dL_forecast_17 : decode cL_forecast 17 = .ok (.ireturn, 1) := by decide +kernel
theorem dL_frost_0 : decode cL_frost 0 = .ok (.aload_n 3, 1) := by decide +kernel
theorem dL_frost_1 : decode cL_frost 1 = .ok (.iconst 0, 1) := by decide +kernel
theorem dL_frost_2 : decode cL_frost 2 = .ok (.aload_n 0, 1) := by decide +kernel
theorem dL_frost_3 : decode cL_frost 3 = .ok (.iload_n 1, 1) := by decide +kernel
theorem dL_frost_4 : decode cL_frost 4 = .ok (.iload_n 2, 1) := by decide +kernel
theorem dL_frost_5 : decode cL_frost 5 = .ok (.invokevirtual 106, 3) := by decide +kernel
theorem dL_frost_13 : decode cL_frost 13 = .ok (.astore 4, 2) := by decide +kernel
theorem dL_frost_15 : decode cL_frost 15 = .ok (.iconst 1, 1) := by decide +kernel
theorem dL_frost_16 : decode cL_frost 16 = .ok (.ireturn, 1) := by decide +kernel
theorem dL_harvest_0 : decode cL_harvest 0 = .ok (.aload_n 2, 1) := by decide +kernel
theorem dL_harvest_1 : decode cL_harvest 1 = .ok (.iconst 0, 1) := by decide +kernel
theorem dL_harvest_2 : decode cL_harvest 2 = .ok (.aload_n 0, 1) := by decide +kernel
theorem dL_harvest_3 : decode cL_harvest 3 = .ok (.iload_n 1, 1) := by decide +kernel
theorem dL_harvest_4 : decode cL_harvest 4 = .ok (.invokevirtual 43, 3) := by decide +kernel
theorem dL_harvest_12 : decode cL_harvest 12 = .ok (.astore_n 3, 1) := by decide +kernel
theorem dL_harvest_13 : decode cL_harvest 13 = .ok (.iconst 1, 1) := by decide +kernel
theorem dL_harvest_14 : decode cL_harvest 14 = .ok (.ireturn, 1) := by decide +kernel
theorem dL_heave_0 : decode cL_heave 0 = .ok (.aload_n 2, 1) := by decide +kernel
theorem dL_heave_1 : decode cL_heave 1 = .ok (.iconst 0, 1) := by decide +kernel
theorem dL_heave_2 : decode cL_heave 2 = .ok (.aload_n 0, 1) := by decide +kernel
theorem dL_heave_3 : decode cL_heave 3 = .ok (.iload_n 1, 1) := by decide +kernel
theorem dL_heave_4 : decode cL_heave 4 = .ok (.invokevirtual 109, 3) := by decide +kernel
theorem dL_heave_12 : decode cL_heave 12 = .ok (.astore_n 3, 1) := by decide +kernel
theorem dL_heave_13 : decode cL_heave 13 = .ok (.iconst 1, 1) := by decide +kernel
theorem dL_heave_14 : decode cL_heave 14 = .ok (.ireturn, 1) := by decide +kernel
theorem dL_isFrozen_0 : decode cL_isFrozen 0 = .ok (.aload_n 3, 1) := by decide +kernel
theorem dL_isFrozen_1 : decode cL_isFrozen 1 = .ok (.iconst 0, 1) := by decide +kernel
theorem dL_isFrozen_2 : decode cL_isFrozen 2 = .ok (.aload_n 0, 1) := by decide +kernel
theorem dL_isFrozen_3 : decode cL_isFrozen 3 = .ok (.iload_n 1, 1) := by decide +kernel
theorem dL_isFrozen_4 : decode cL_isFrozen 4 = .ok (.iload_n 2, 1) := by decide +kernel
theorem dL_isFrozen_5 : decode cL_isFrozen 5 = .ok (.invokevirtual 102, 3) := by decide +kernel
theorem dL_isFrozen_20 : decode cL_isFrozen 20 = .ok (.astore 4, 2) := by decide +kernel
theorem dL_isFrozen_22 : decode cL_isFrozen 22 = .ok (.iconst 1, 1) := by decide +kernel
theorem dL_isFrozen_23 : decode cL_isFrozen 23 = .ok (.ireturn, 1) := by decide +kernel
theorem dL_layer_0 : decode cL_layer 0 = .ok (.aload 4, 2) := by decide +kernel
theorem dL_layer_2 : decode cL_layer 2 = .ok (.iconst 0, 1) := by decide +kernel
theorem dL_layer_3 : decode cL_layer 3 = .ok (.aload_n 0, 1) := by decide +kernel
theorem dL_layer_4 : decode cL_layer 4 = .ok (.iload_n 1, 1) := by decide +kernel
theorem dL_layer_5 : decode cL_layer 5 = .ok (.iload_n 2, 1) := by decide +kernel
theorem dL_layer_6 : decode cL_layer 6 = .ok (.iload_n 3, 1) := by decide +kernel
theorem dL_layer_7 : decode cL_layer 7 = .ok (.invokevirtual 17, 3) := by decide +kernel
theorem dL_layer_15 : decode cL_layer 15 = .ok (.astore 5, 2) := by decide +kernel
theorem dL_layer_17 : decode cL_layer 17 = .ok (.iconst 1, 1) := by decide +kernel
theorem dL_layer_18 : decode cL_layer 18 = .ok (.ireturn, 1) := by decide +kernel
theorem dL_link_0 : decode cL_link 0 = .ok (.aload_n 3, 1) := by decide +kernel
theorem dL_link_1 : decode cL_link 1 = .ok (.iconst 0, 1) := by decide +kernel
theorem dL_link_2 : decode cL_link 2 = .ok (.aload_n 0, 1) := by decide +kernel
theorem dL_link_3 : decode cL_link 3 = .ok (.iload_n 1, 1) := by decide +kernel
theorem dL_link_4 : decode cL_link 4 = .ok (.iload_n 2, 1) := by decide +kernel
theorem dL_link_5 : decode cL_link 5 = .ok (.invokevirtual 34, 3) := by decide +kernel
theorem dL_link_13 : decode cL_link 13 = .ok (.astore 4, 2) := by decide +kernel
theorem dL_link_15 : decode cL_link 15 = .ok (.iconst 1, 1) := by decide +kernel
theorem dL_link_16 : decode cL_link 16 = .ok (.ireturn, 1) := by decide +kernel
theorem dL_manure_0 : decode cL_manure 0 = .ok (.aload_n 3, 1) := by decide +kernel
theorem dL_manure_1 : decode cL_manure 1 = .ok (.iconst 0, 1) := by decide +kernel
theorem dL_manure_2 : decode cL_manure 2 = .ok (.aload_n 0, 1) := by decide +kernel
theorem dL_manure_3 : decode cL_manure 3 = .ok (.iload_n 1, 1) := by decide +kernel
theorem dL_manure_4 : decode cL_manure 4 = .ok (.iload_n 2, 1) := by decide +kernel
theorem dL_manure_5 : decode cL_manure 5 = .ok (.invokevirtual 65, 3) := by decide +kernel
theorem dL_manure_12 : decode cL_manure 12 = .ok (.astore 4, 2) := by decide +kernel
theorem dL_manure_14 : decode cL_manure 14 = .ok (.iconst 1, 1) := by decide +kernel
theorem dL_manure_15 : decode cL_manure 15 = .ok (.ireturn, 1) := by decide +kernel
theorem dL_mulch_0 : decode cL_mulch 0 = .ok (.aload_n 3, 1) := by decide +kernel
theorem dL_mulch_1 : decode cL_mulch 1 = .ok (.iconst 0, 1) := by decide +kernel
theorem dL_mulch_2 : decode cL_mulch 2 = .ok (.aload_n 0, 1) := by decide +kernel
theorem dL_mulch_3 : decode cL_mulch 3 = .ok (.iload_n 1, 1) := by decide +kernel
theorem dL_mulch_4 : decode cL_mulch 4 = .ok (.iload_n 2, 1) := by decide +kernel
theorem dL_mulch_5 : decode cL_mulch 5 = .ok (.invokevirtual 52, 3) := by decide +kernel
theorem dL_mulch_20 : decode cL_mulch 20 = .ok (.astore 4, 2) := by decide +kernel
theorem dL_mulch_22 : decode cL_mulch 22 = .ok (.iconst 1, 1) := by decide +kernel
theorem dL_mulch_23 : decode cL_mulch 23 = .ok (.ireturn, 1) := by decide +kernel
theorem dL_out_0 : decode cL_out 0 = .ok (.aload_n 3, 1) := by decide +kernel
theorem dL_out_1 : decode cL_out 1 = .ok (.iconst 0, 1) := by decide +kernel
theorem dL_out_2 : decode cL_out 2 = .ok (.aload_n 0, 1) := by decide +kernel
theorem dL_out_3 : decode cL_out 3 = .ok (.iload_n 1, 1) := by decide +kernel
theorem dL_out_4 : decode cL_out 4 = .ok (.iload_n 2, 1) := by decide +kernel
theorem dL_out_5 : decode cL_out 5 = .ok (.invokevirtual 73, 3) := by decide +kernel
theorem dL_out_12 : decode cL_out 12 = .ok (.astore 4, 2) := by decide +kernel
theorem dL_out_14 : decode cL_out 14 = .ok (.iconst 1, 1) := by decide +kernel
theorem dL_out_15 : decode cL_out 15 = .ok (.ireturn, 1) := by decide +kernel
theorem dL_plant_0 : decode cL_plant 0 = .ok (.aload 4, 2) := by decide +kernel
theorem dL_plant_2 : decode cL_plant 2 = .ok (.iconst 0, 1) := by decide +kernel
theorem dL_plant_3 : decode cL_plant 3 = .ok (.aload_n 0, 1) := by decide +kernel
theorem dL_plant_4 : decode cL_plant 4 = .ok (.iload_n 1, 1) := by decide +kernel
theorem dL_plant_5 : decode cL_plant 5 = .ok (.iload_n 2, 1) := by decide +kernel
theorem dL_plant_6 : decode cL_plant 6 = .ok (.iload_n 3, 1) := by decide +kernel
theorem dL_plant_7 : decode cL_plant 7 = .ok (.invokevirtual 40, 3) := by decide +kernel
theorem dL_plant_15 : decode cL_plant 15 = .ok (.astore 5, 2) := by decide +kernel
theorem dL_plant_17 : decode cL_plant 17 = .ok (.iconst 1, 1) := by decide +kernel
theorem dL_plant_18 : decode cL_plant 18 = .ok (.ireturn, 1) := by decide +kernel
theorem dL_recharge_0 : decode cL_recharge 0 = .ok (.aload_n 2, 1) := by decide +kernel
theorem dL_recharge_1 : decode cL_recharge 1 = .ok (.iconst 0, 1) := by decide +kernel
theorem dL_recharge_2 : decode cL_recharge 2 = .ok (.aload_n 0, 1) := by decide +kernel
theorem dL_recharge_3 : decode cL_recharge 3 = .ok (.iload_n 1, 1) := by decide +kernel
theorem dL_recharge_4 : decode cL_recharge 4 = .ok (.invokevirtual 93, 3) := by decide +kernel
theorem dL_recharge_11 : decode cL_recharge 11 = .ok (.astore_n 3, 1) := by decide +kernel
theorem dL_recharge_12 : decode cL_recharge 12 = .ok (.iconst 1, 1) := by decide +kernel
theorem dL_recharge_13 : decode cL_recharge 13 = .ok (.ireturn, 1) := by decide +kernel
theorem dL_reflection_0 : decode cL_reflection 0 = .ok (.aload_n 3, 1) := by decide +kernel
theorem dL_reflection_1 : decode cL_reflection 1 = .ok (.iconst 0, 1) := by decide +kernel
theorem dL_reflection_2 : decode cL_reflection 2 = .ok (.aload_n 0, 1) := by decide +kernel
theorem dL_reflection_3 : decode cL_reflection 3 = .ok (.iload_n 1, 1) := by decide +kernel
theorem dL_reflection_4 : decode cL_reflection 4 = .ok (.iload_n 2, 1) := by decide +kernel
theorem dL_reflection_5 : decode cL_reflection 5 = .ok (.invokevirtual 118, 3) := by decide +kernel
theorem dL_reflection_13 : decode cL_reflection 13 = .ok (.astore 4, 2) := by decide +kernel
theorem dL_reflection_15 : decode cL_reflection 15 = .ok (.iconst 1, 1) := by decide +kernel
theorem dL_reflection_16 : decode cL_reflection 16 = .ok (.ireturn, 1) := by decide +kernel
theorem dL_rule_0 : decode cL_rule 0 = .ok (.aload 4, 2) := by decide +kernel
theorem dL_rule_2 : decode cL_rule 2 = .ok (.iconst 0, 1) := by decide +kernel
theorem dL_rule_3 : decode cL_rule 3 = .ok (.aload_n 0, 1) := by decide +kernel
theorem dL_rule_4 : decode cL_rule 4 = .ok (.iload_n 1, 1) := by decide +kernel
theorem dL_rule_5 : decode cL_rule 5 = .ok (.iload_n 2, 1) := by decide +kernel
theorem dL_rule_6 : decode cL_rule 6 = .ok (.iload_n 3, 1) := by decide +kernel
theorem dL_rule_7 : decode cL_rule 7 = .ok (.invokevirtual 56, 3) := by decide +kernel
theorem dL_rule_15 : decode cL_rule 15 = .ok (.astore 5, 2) := by decide +kernel
theorem dL_rule_17 : decode cL_rule 17 = .ok (.iconst 1, 1) := by decide +kernel
theorem dL_rule_18 : decode cL_rule 18 = .ok (.ireturn, 1) := by decide +kernel
theorem dL_runoff_0 : decode cL_runoff 0 = .ok (.aload_n 2, 1) := by decide +kernel
theorem dL_runoff_1 : decode cL_runoff 1 = .ok (.iconst 0, 1) := by decide +kernel
theorem dL_runoff_2 : decode cL_runoff 2 = .ok (.aload_n 0, 1) := by decide +kernel
theorem dL_runoff_3 : decode cL_runoff 3 = .ok (.iload_n 1, 1) := by decide +kernel
theorem dL_runoff_4 : decode cL_runoff 4 = .ok (.invokevirtual 96, 3) := by decide +kernel
theorem dL_runoff_11 : decode cL_runoff 11 = .ok (.astore_n 3, 1) := by decide +kernel
theorem dL_runoff_12 : decode cL_runoff 12 = .ok (.iconst 1, 1) := by decide +kernel
theorem dL_runoff_13 : decode cL_runoff 13 = .ok (.ireturn, 1) := by decide +kernel
theorem dL_scale_0 : decode cL_scale 0 = .ok (.aload_n 3, 1) := by decide +kernel
theorem dL_scale_1 : decode cL_scale 1 = .ok (.iconst 0, 1) := by decide +kernel
theorem dL_scale_2 : decode cL_scale 2 = .ok (.aload_n 0, 1) := by decide +kernel
theorem dL_scale_3 : decode cL_scale 3 = .ok (.iload_n 1, 1) := by decide +kernel
theorem dL_scale_4 : decode cL_scale 4 = .ok (.iload_n 2, 1) := by decide +kernel
theorem dL_scale_5 : decode cL_scale 5 = .ok (.invokevirtual 37, 3) := by decide +kernel
theorem dL_scale_13 : decode cL_scale 13 = .ok (.astore 4, 2) := by decide +kernel
theorem dL_scale_15 : decode cL_scale 15 = .ok (.iconst 1, 1) := by decide +kernel
theorem dL_scale_16 : decode cL_scale 16 = .ok (.ireturn, 1) := by decide +kernel
theorem dL_setRight_0 : decode cL_setRight 0 = .ok (.aload_n 2, 1) := by decide +kernel
theorem dL_setRight_1 : decode cL_setRight 1 = .ok (.iconst 0, 1) := by decide +kernel
theorem dL_setRight_2 : decode cL_setRight 2 = .ok (.aload_n 0, 1) := by decide +kernel
theorem dL_setRight_3 : decode cL_setRight 3 = .ok (.iload_n 1, 1) := by decide +kernel
theorem dL_setRight_4 : decode cL_setRight 4 = .ok (.invokevirtual 121, 3) := by decide +kernel
theorem dL_setRight_12 : decode cL_setRight 12 = .ok (.astore_n 3, 1) := by decide +kernel
theorem dL_setRight_13 : decode cL_setRight 13 = .ok (.iconst 1, 1) := by decide +kernel
theorem dL_setRight_14 : decode cL_setRight 14 = .ok (.ireturn, 1) := by decide +kernel
theorem dL_solute_0 : decode cL_solute 0 = .ok (.aload 4, 2) := by decide +kernel
theorem dL_solute_2 : decode cL_solute 2 = .ok (.iconst 0, 1) := by decide +kernel
theorem dL_solute_3 : decode cL_solute 3 = .ok (.aload_n 0, 1) := by decide +kernel
theorem dL_solute_4 : decode cL_solute 4 = .ok (.iload_n 1, 1) := by decide +kernel
theorem dL_solute_5 : decode cL_solute 5 = .ok (.iload_n 2, 1) := by decide +kernel
theorem dL_solute_6 : decode cL_solute 6 = .ok (.iload_n 3, 1) := by decide +kernel
theorem dL_solute_7 : decode cL_solute 7 = .ok (.invokevirtual 69, 3) := by decide +kernel
theorem dL_solute_14 : decode cL_solute 14 = .ok (.astore 5, 2) := by decide +kernel
theorem dL_solute_16 : decode cL_solute 16 = .ok (.iconst 1, 1) := by decide +kernel
theorem dL_solute_17 : decode cL_solute 17 = .ok (.ireturn, 1) := by decide +kernel
theorem dL_spread_0 : decode cL_spread 0 = .ok (.aload 4, 2) := by decide +kernel
theorem dL_spread_2 : decode cL_spread 2 = .ok (.iconst 0, 1) := by decide +kernel
theorem dL_spread_3 : decode cL_spread 3 = .ok (.aload_n 0, 1) := by decide +kernel
theorem dL_spread_4 : decode cL_spread 4 = .ok (.iload_n 1, 1) := by decide +kernel
theorem dL_spread_5 : decode cL_spread 5 = .ok (.iload_n 2, 1) := by decide +kernel
theorem dL_spread_6 : decode cL_spread 6 = .ok (.iload_n 3, 1) := by decide +kernel
theorem dL_spread_7 : decode cL_spread 7 = .ok (.invokevirtual 59, 3) := by decide +kernel
theorem dL_spread_14 : decode cL_spread 14 = .ok (.astore 5, 2) := by decide +kernel
theorem dL_spread_16 : decode cL_spread 16 = .ok (.iconst 1, 1) := by decide +kernel
theorem dL_spread_17 : decode cL_spread 17 = .ok (.ireturn, 1) := by decide +kernel
theorem dL_standing_0 : decode cL_standing 0 = .ok (.aload_n 2, 1) := by decide +kernel
theorem dL_standing_1 : decode cL_standing 1 = .ok (.iconst 0, 1) := by decide +kernel
theorem dL_standing_2 : decode cL_standing 2 = .ok (.aload_n 0, 1) := by decide +kernel
theorem dL_standing_3 : decode cL_standing 3 = .ok (.iload_n 1, 1) := by decide +kernel
theorem dL_standing_4 : decode cL_standing 4 = .ok (.invokevirtual 90, 3) := by decide +kernel
theorem dL_standing_12 : decode cL_standing 12 = .ok (.astore_n 3, 1) := by decide +kernel
theorem dL_standing_13 : decode cL_standing 13 = .ok (.iconst 1, 1) := by decide +kernel
theorem dL_standing_14 : decode cL_standing 14 = .ok (.ireturn, 1) := by decide +kernel
theorem dL_stress_0 : decode cL_stress 0 = .ok (.aload_n 3, 1) := by decide +kernel
theorem dL_stress_1 : decode cL_stress 1 = .ok (.iconst 0, 1) := by decide +kernel
theorem dL_stress_2 : decode cL_stress 2 = .ok (.aload_n 0, 1) := by decide +kernel
theorem dL_stress_3 : decode cL_stress 3 = .ok (.iload_n 1, 1) := by decide +kernel
theorem dL_stress_4 : decode cL_stress 4 = .ok (.iload_n 2, 1) := by decide +kernel
theorem dL_stress_5 : decode cL_stress 5 = .ok (.invokevirtual 47, 3) := by decide +kernel
theorem dL_stress_13 : decode cL_stress 13 = .ok (.astore 4, 2) := by decide +kernel
theorem dL_stress_15 : decode cL_stress 15 = .ok (.iconst 1, 1) := by decide +kernel
theorem dL_stress_16 : decode cL_stress 16 = .ok (.ireturn, 1) := by decide +kernel
theorem dL_tension_0 : decode cL_tension 0 = .ok (.aload_n 3, 1) := by decide +kernel
theorem dL_tension_1 : decode cL_tension 1 = .ok (.iconst 0, 1) := by decide +kernel
theorem dL_tension_2 : decode cL_tension 2 = .ok (.aload_n 0, 1) := by decide +kernel
theorem dL_tension_3 : decode cL_tension 3 = .ok (.iload_n 1, 1) := by decide +kernel
theorem dL_tension_4 : decode cL_tension 4 = .ok (.iload_n 2, 1) := by decide +kernel
theorem dL_tension_5 : decode cL_tension 5 = .ok (.invokevirtual 115, 3) := by decide +kernel
theorem dL_tension_13 : decode cL_tension 13 = .ok (.astore 4, 2) := by decide +kernel
theorem dL_tension_15 : decode cL_tension 15 = .ok (.iconst 1, 1) := by decide +kernel
theorem dL_tension_16 : decode cL_tension 16 = .ok (.ireturn, 1) := by decide +kernel
theorem dL_vapour_0 : decode cL_vapour 0 = .ok (.aload_n 2, 1) := by decide +kernel
theorem dL_vapour_1 : decode cL_vapour 1 = .ok (.iconst 0, 1) := by decide +kernel
theorem dL_vapour_2 : decode cL_vapour 2 = .ok (.aload_n 0, 1) := by decide +kernel
theorem dL_vapour_3 : decode cL_vapour 3 = .ok (.iload_n 1, 1) := by decide +kernel
theorem dL_vapour_4 : decode cL_vapour 4 = .ok (.invokevirtual 99, 3) := by decide +kernel
theorem dL_vapour_11 : decode cL_vapour 11 = .ok (.astore_n 3, 1) := by decide +kernel
theorem dL_vapour_12 : decode cL_vapour 12 = .ok (.iconst 1, 1) := by decide +kernel
theorem dL_vapour_13 : decode cL_vapour 13 = .ok (.ireturn, 1) := by decide +kernel
theorem dL_water_0 : decode cL_water 0 = .ok (.aload_n 3, 1) := by decide +kernel
theorem dL_water_1 : decode cL_water 1 = .ok (.iconst 0, 1) := by decide +kernel
theorem dL_water_2 : decode cL_water 2 = .ok (.aload_n 0, 1) := by decide +kernel
theorem dL_water_3 : decode cL_water 3 = .ok (.iload_n 1, 1) := by decide +kernel
theorem dL_water_4 : decode cL_water 4 = .ok (.iload_n 2, 1) := by decide +kernel
theorem dL_water_5 : decode cL_water 5 = .ok (.invokevirtual 27, 3) := by decide +kernel
theorem dL_water_13 : decode cL_water 13 = .ok (.astore 4, 2) := by decide +kernel
theorem dL_water_15 : decode cL_water 15 = .ok (.iconst 1, 1) := by decide +kernel
theorem dL_water_16 : decode cL_water 16 = .ok (.ireturn, 1) := by decide +kernel
theorem dL_weigh_0 : decode cL_weigh 0 = .ok (.aload_n 2, 1) := by decide +kernel
theorem dL_weigh_1 : decode cL_weigh 1 = .ok (.iconst 0, 1) := by decide +kernel
theorem dL_weigh_2 : decode cL_weigh 2 = .ok (.aload_n 0, 1) := by decide +kernel
theorem dL_weigh_3 : decode cL_weigh 3 = .ok (.iload_n 1, 1) := by decide +kernel
theorem dL_weigh_4 : decode cL_weigh 4 = .ok (.invokevirtual 124, 3) := by decide +kernel
theorem dL_weigh_12 : decode cL_weigh 12 = .ok (.astore_n 3, 1) := by decide +kernel
theorem dL_weigh_13 : decode cL_weigh 13 = .ok (.iconst 1, 1) := by decide +kernel
theorem dL_weigh_14 : decode cL_weigh 14 = .ok (.ireturn, 1) := by decide +kernel
theorem dL_wet_0 : decode cL_wet 0 = .ok (.aload 4, 2) := by decide +kernel
theorem dL_wet_2 : decode cL_wet 2 = .ok (.iconst 0, 1) := by decide +kernel
theorem dL_wet_3 : decode cL_wet 3 = .ok (.aload_n 0, 1) := by decide +kernel
theorem dL_wet_4 : decode cL_wet 4 = .ok (.iload_n 1, 1) := by decide +kernel
theorem dL_wet_5 : decode cL_wet 5 = .ok (.iload_n 2, 1) := by decide +kernel
theorem dL_wet_6 : decode cL_wet 6 = .ok (.iload_n 3, 1) := by decide +kernel
theorem dL_wet_7 : decode cL_wet 7 = .ok (.invokevirtual 23, 3) := by decide +kernel
theorem dL_wet_15 : decode cL_wet 15 = .ok (.astore 5, 2) := by decide +kernel
theorem dL_wet_17 : decode cL_wet 17 = .ok (.iconst 1, 1) := by decide +kernel
theorem dL_wet_18 : decode cL_wet 18 = .ok (.ireturn, 1) := by decide +kernel
theorem q643 : Cond.classLink RL 21 "java/lang/IndexOutOfBoundsException" ∈ lw_all := al_in (i := 643) (by decide +kernel) (by decide +kernel)
theorem q664 : Cond.methodLink RL 17 yX7_layer ∈ lw_all := al_in (i := 664) (by decide +kernel) (by decide +kernel)
theorem q665 : Cond.instanceMethod yX7_layer ∈ lw_all := al_in (i := 665) (by decide +kernel) (by decide +kernel)
theorem q666 : Cond.selects RX7 yX7_layer yX7_layer ∈ lw_all := al_in (i := 666) (by decide +kernel) (by decide +kernel)
theorem q667 : Cond.code yX7_layer cX7_layer 7 (some .int) ∈ lw_all := al_in (i := 667) (by decide +kernel) (by decide +kernel)
theorem q732 : Cond.methodLink RL 23 yX7_wet ∈ lw_all := al_in (i := 732) (by decide +kernel) (by decide +kernel)
theorem q733 : Cond.instanceMethod yX7_wet ∈ lw_all := al_in (i := 733) (by decide +kernel) (by decide +kernel)
theorem q734 : Cond.selects RX7 yX7_wet yX7_wet ∈ lw_all := al_in (i := 734) (by decide +kernel) (by decide +kernel)
theorem q735 : Cond.code yX7_wet cX7_wet 6 (some .int) ∈ lw_all := al_in (i := 735) (by decide +kernel) (by decide +kernel)
theorem q744 : Cond.methodLink RL 27 yX7_water ∈ lw_all := al_in (i := 744) (by decide +kernel) (by decide +kernel)
theorem q745 : Cond.instanceMethod yX7_water ∈ lw_all := al_in (i := 745) (by decide +kernel) (by decide +kernel)
theorem q746 : Cond.selects RX7 yX7_water yX7_water ∈ lw_all := al_in (i := 746) (by decide +kernel) (by decide +kernel)
theorem q747 : Cond.code yX7_water cX7_water 3 (some .int) ∈ lw_all := al_in (i := 747) (by decide +kernel) (by decide +kernel)
theorem q751 : Cond.methodLink RL 31 yX7_capacity ∈ lw_all := al_in (i := 751) (by decide +kernel) (by decide +kernel)
theorem q752 : Cond.instanceMethod yX7_capacity ∈ lw_all := al_in (i := 752) (by decide +kernel) (by decide +kernel)
theorem q753 : Cond.selects RX7 yX7_capacity yX7_capacity ∈ lw_all := al_in (i := 753) (by decide +kernel) (by decide +kernel)
theorem q754 : Cond.code yX7_capacity cX7_capacity 3 (some .int) ∈ lw_all := al_in (i := 754) (by decide +kernel) (by decide +kernel)
theorem q758 : Cond.methodLink RL 34 yX7_link ∈ lw_all := al_in (i := 758) (by decide +kernel) (by decide +kernel)
theorem q759 : Cond.instanceMethod yX7_link ∈ lw_all := al_in (i := 759) (by decide +kernel) (by decide +kernel)
theorem q760 : Cond.selects RX7 yX7_link yX7_link ∈ lw_all := al_in (i := 760) (by decide +kernel) (by decide +kernel)
theorem q761 : Cond.code yX7_link cX7_link 5 (some .int) ∈ lw_all := al_in (i := 761) (by decide +kernel) (by decide +kernel)
theorem q767 : Cond.methodLink RL 37 yX7_scale ∈ lw_all := al_in (i := 767) (by decide +kernel) (by decide +kernel)
theorem q768 : Cond.instanceMethod yX7_scale ∈ lw_all := al_in (i := 768) (by decide +kernel) (by decide +kernel)
theorem q769 : Cond.selects RX7 yX7_scale yX7_scale ∈ lw_all := al_in (i := 769) (by decide +kernel) (by decide +kernel)
theorem q770 : Cond.code yX7_scale cX7_scale 5 (some .int) ∈ lw_all := al_in (i := 770) (by decide +kernel) (by decide +kernel)
theorem q774 : Cond.methodLink RL 40 yX7_plant ∈ lw_all := al_in (i := 774) (by decide +kernel) (by decide +kernel)
theorem q775 : Cond.instanceMethod yX7_plant ∈ lw_all := al_in (i := 775) (by decide +kernel) (by decide +kernel)
theorem q776 : Cond.selects RX7 yX7_plant yX7_plant ∈ lw_all := al_in (i := 776) (by decide +kernel) (by decide +kernel)
theorem q777 : Cond.code yX7_plant cX7_plant 5 (some .int) ∈ lw_all := al_in (i := 777) (by decide +kernel) (by decide +kernel)
theorem q802 : Cond.methodLink RL 43 yX7_harvest ∈ lw_all := al_in (i := 802) (by decide +kernel) (by decide +kernel)
theorem q803 : Cond.instanceMethod yX7_harvest ∈ lw_all := al_in (i := 803) (by decide +kernel) (by decide +kernel)
theorem q804 : Cond.selects RX7 yX7_harvest yX7_harvest ∈ lw_all := al_in (i := 804) (by decide +kernel) (by decide +kernel)
theorem q805 : Cond.code yX7_harvest cX7_harvest 4 (some .int) ∈ lw_all := al_in (i := 805) (by decide +kernel) (by decide +kernel)
theorem q814 : Cond.methodLink RL 47 yX7_stress ∈ lw_all := al_in (i := 814) (by decide +kernel) (by decide +kernel)
theorem q815 : Cond.instanceMethod yX7_stress ∈ lw_all := al_in (i := 815) (by decide +kernel) (by decide +kernel)
theorem q816 : Cond.selects RX7 yX7_stress yX7_stress ∈ lw_all := al_in (i := 816) (by decide +kernel) (by decide +kernel)
theorem q817 : Cond.code yX7_stress cX7_stress 4 (some .int) ∈ lw_all := al_in (i := 817) (by decide +kernel) (by decide +kernel)
theorem q837 : Cond.methodLink RL 52 yX7_mulch ∈ lw_all := al_in (i := 837) (by decide +kernel) (by decide +kernel)
theorem q838 : Cond.instanceMethod yX7_mulch ∈ lw_all := al_in (i := 838) (by decide +kernel) (by decide +kernel)
theorem q839 : Cond.selects RX7 yX7_mulch yX7_mulch ∈ lw_all := al_in (i := 839) (by decide +kernel) (by decide +kernel)
theorem q840 : Cond.code yX7_mulch cX7_mulch 5 (some .boolean) ∈ lw_all := al_in (i := 840) (by decide +kernel) (by decide +kernel)
theorem q844 : Cond.methodLink RL 56 yX7_rule ∈ lw_all := al_in (i := 844) (by decide +kernel) (by decide +kernel)
theorem q845 : Cond.instanceMethod yX7_rule ∈ lw_all := al_in (i := 845) (by decide +kernel) (by decide +kernel)
theorem q846 : Cond.selects RX7 yX7_rule yX7_rule ∈ lw_all := al_in (i := 846) (by decide +kernel) (by decide +kernel)
theorem q847 : Cond.code yX7_rule cX7_rule 6 (some .int) ∈ lw_all := al_in (i := 847) (by decide +kernel) (by decide +kernel)
theorem q852 : Cond.methodLink RL 59 yX7_spread ∈ lw_all := al_in (i := 852) (by decide +kernel) (by decide +kernel)
theorem q853 : Cond.instanceMethod yX7_spread ∈ lw_all := al_in (i := 853) (by decide +kernel) (by decide +kernel)
theorem q854 : Cond.selects RX7 yX7_spread yX7_spread ∈ lw_all := al_in (i := 854) (by decide +kernel) (by decide +kernel)
theorem q855 : Cond.code yX7_spread cX7_spread 7 (some .long) ∈ lw_all := al_in (i := 855) (by decide +kernel) (by decide +kernel)
theorem q882 : Cond.methodLink RL 65 yX7_manure ∈ lw_all := al_in (i := 882) (by decide +kernel) (by decide +kernel)
theorem q883 : Cond.instanceMethod yX7_manure ∈ lw_all := al_in (i := 883) (by decide +kernel) (by decide +kernel)
theorem q884 : Cond.selects RX7 yX7_manure yX7_manure ∈ lw_all := al_in (i := 884) (by decide +kernel) (by decide +kernel)
theorem q885 : Cond.code yX7_manure cX7_manure 4 (some .long) ∈ lw_all := al_in (i := 885) (by decide +kernel) (by decide +kernel)
theorem q889 : Cond.methodLink RL 69 yX7_solute ∈ lw_all := al_in (i := 889) (by decide +kernel) (by decide +kernel)
theorem q890 : Cond.instanceMethod yX7_solute ∈ lw_all := al_in (i := 890) (by decide +kernel) (by decide +kernel)
theorem q891 : Cond.selects RX7 yX7_solute yX7_solute ∈ lw_all := al_in (i := 891) (by decide +kernel) (by decide +kernel)
theorem q892 : Cond.code yX7_solute cX7_solute 5 (some .long) ∈ lw_all := al_in (i := 892) (by decide +kernel) (by decide +kernel)
theorem q896 : Cond.methodLink RL 73 yX7_out ∈ lw_all := al_in (i := 896) (by decide +kernel) (by decide +kernel)
theorem q897 : Cond.instanceMethod yX7_out ∈ lw_all := al_in (i := 897) (by decide +kernel) (by decide +kernel)
theorem q898 : Cond.selects RX7 yX7_out yX7_out ∈ lw_all := al_in (i := 898) (by decide +kernel) (by decide +kernel)
theorem q899 : Cond.code yX7_out cX7_out 4 (some .long) ∈ lw_all := al_in (i := 899) (by decide +kernel) (by decide +kernel)
theorem q903 : Cond.methodLink RL 77 yX7_eaten ∈ lw_all := al_in (i := 903) (by decide +kernel) (by decide +kernel)
theorem q904 : Cond.instanceMethod yX7_eaten ∈ lw_all := al_in (i := 904) (by decide +kernel) (by decide +kernel)
theorem q905 : Cond.selects RX7 yX7_eaten yX7_eaten ∈ lw_all := al_in (i := 905) (by decide +kernel) (by decide +kernel)
theorem q906 : Cond.code yX7_eaten cX7_eaten 2 (some .long) ∈ lw_all := al_in (i := 906) (by decide +kernel) (by decide +kernel)
theorem q944 : Cond.methodLink RL 90 yX7_standing ∈ lw_all := al_in (i := 944) (by decide +kernel) (by decide +kernel)
theorem q945 : Cond.instanceMethod yX7_standing ∈ lw_all := al_in (i := 945) (by decide +kernel) (by decide +kernel)
theorem q946 : Cond.selects RX7 yX7_standing yX7_standing ∈ lw_all := al_in (i := 946) (by decide +kernel) (by decide +kernel)
theorem q947 : Cond.code yX7_standing cX7_standing 2 (some .int) ∈ lw_all := al_in (i := 947) (by decide +kernel) (by decide +kernel)
theorem q951 : Cond.methodLink RL 93 yX7_recharge ∈ lw_all := al_in (i := 951) (by decide +kernel) (by decide +kernel)
theorem q952 : Cond.instanceMethod yX7_recharge ∈ lw_all := al_in (i := 952) (by decide +kernel) (by decide +kernel)
theorem q953 : Cond.selects RX7 yX7_recharge yX7_recharge ∈ lw_all := al_in (i := 953) (by decide +kernel) (by decide +kernel)
theorem q954 : Cond.code yX7_recharge cX7_recharge 2 (some .long) ∈ lw_all := al_in (i := 954) (by decide +kernel) (by decide +kernel)
theorem q958 : Cond.methodLink RL 96 yX7_runoff ∈ lw_all := al_in (i := 958) (by decide +kernel) (by decide +kernel)
theorem q959 : Cond.instanceMethod yX7_runoff ∈ lw_all := al_in (i := 959) (by decide +kernel) (by decide +kernel)
theorem q960 : Cond.selects RX7 yX7_runoff yX7_runoff ∈ lw_all := al_in (i := 960) (by decide +kernel) (by decide +kernel)
theorem q961 : Cond.code yX7_runoff cX7_runoff 2 (some .long) ∈ lw_all := al_in (i := 961) (by decide +kernel) (by decide +kernel)
theorem q965 : Cond.methodLink RL 99 yX7_vapour ∈ lw_all := al_in (i := 965) (by decide +kernel) (by decide +kernel)
theorem q966 : Cond.instanceMethod yX7_vapour ∈ lw_all := al_in (i := 966) (by decide +kernel) (by decide +kernel)
theorem q967 : Cond.selects RX7 yX7_vapour yX7_vapour ∈ lw_all := al_in (i := 967) (by decide +kernel) (by decide +kernel)
theorem q968 : Cond.code yX7_vapour cX7_vapour 2 (some .long) ∈ lw_all := al_in (i := 968) (by decide +kernel) (by decide +kernel)
theorem q972 : Cond.methodLink RL 102 yX7_isFrozen ∈ lw_all := al_in (i := 972) (by decide +kernel) (by decide +kernel)
theorem q973 : Cond.instanceMethod yX7_isFrozen ∈ lw_all := al_in (i := 973) (by decide +kernel) (by decide +kernel)
theorem q974 : Cond.selects RX7 yX7_isFrozen yX7_isFrozen ∈ lw_all := al_in (i := 974) (by decide +kernel) (by decide +kernel)
theorem q975 : Cond.code yX7_isFrozen cX7_isFrozen 3 (some .boolean) ∈ lw_all := al_in (i := 975) (by decide +kernel) (by decide +kernel)
theorem q979 : Cond.methodLink RL 106 yX7_frost ∈ lw_all := al_in (i := 979) (by decide +kernel) (by decide +kernel)
theorem q980 : Cond.instanceMethod yX7_frost ∈ lw_all := al_in (i := 980) (by decide +kernel) (by decide +kernel)
theorem q981 : Cond.selects RX7 yX7_frost yX7_frost ∈ lw_all := al_in (i := 981) (by decide +kernel) (by decide +kernel)
theorem q982 : Cond.code yX7_frost cX7_frost 3 (some .int) ∈ lw_all := al_in (i := 982) (by decide +kernel) (by decide +kernel)
theorem q986 : Cond.methodLink RL 109 yX7_heave ∈ lw_all := al_in (i := 986) (by decide +kernel) (by decide +kernel)
theorem q987 : Cond.instanceMethod yX7_heave ∈ lw_all := al_in (i := 987) (by decide +kernel) (by decide +kernel)
theorem q988 : Cond.selects RX7 yX7_heave yX7_heave ∈ lw_all := al_in (i := 988) (by decide +kernel) (by decide +kernel)
theorem q989 : Cond.code yX7_heave cX7_heave 2 (some .int) ∈ lw_all := al_in (i := 989) (by decide +kernel) (by decide +kernel)
theorem q997 : Cond.methodLink RL 112 yX7_crack ∈ lw_all := al_in (i := 997) (by decide +kernel) (by decide +kernel)
theorem q998 : Cond.instanceMethod yX7_crack ∈ lw_all := al_in (i := 998) (by decide +kernel) (by decide +kernel)
theorem q999 : Cond.selects RX7 yX7_crack yX7_crack ∈ lw_all := al_in (i := 999) (by decide +kernel) (by decide +kernel)
theorem q1000 : Cond.code yX7_crack cX7_crack 2 (some .int) ∈ lw_all := al_in (i := 1000) (by decide +kernel) (by decide +kernel)
theorem q1008 : Cond.methodLink RL 115 yX7_tension ∈ lw_all := al_in (i := 1008) (by decide +kernel) (by decide +kernel)
theorem q1009 : Cond.instanceMethod yX7_tension ∈ lw_all := al_in (i := 1009) (by decide +kernel) (by decide +kernel)
theorem q1010 : Cond.selects RX7 yX7_tension yX7_tension ∈ lw_all := al_in (i := 1010) (by decide +kernel) (by decide +kernel)
theorem q1011 : Cond.code yX7_tension cX7_tension 5 (some .int) ∈ lw_all := al_in (i := 1011) (by decide +kernel) (by decide +kernel)
theorem q1017 : Cond.methodLink RL 118 yX7_reflection ∈ lw_all := al_in (i := 1017) (by decide +kernel) (by decide +kernel)
theorem q1018 : Cond.instanceMethod yX7_reflection ∈ lw_all := al_in (i := 1018) (by decide +kernel) (by decide +kernel)
theorem q1019 : Cond.selects RX7 yX7_reflection yX7_reflection ∈ lw_all := al_in (i := 1019) (by decide +kernel) (by decide +kernel)
theorem q1020 : Cond.code yX7_reflection cX7_reflection 5 (some .int) ∈ lw_all := al_in (i := 1020) (by decide +kernel) (by decide +kernel)
theorem q1032 : Cond.methodLink RL 121 yX7_setRight ∈ lw_all := al_in (i := 1032) (by decide +kernel) (by decide +kernel)
theorem q1033 : Cond.instanceMethod yX7_setRight ∈ lw_all := al_in (i := 1033) (by decide +kernel) (by decide +kernel)
theorem q1034 : Cond.selects RX7 yX7_setRight yX7_setRight ∈ lw_all := al_in (i := 1034) (by decide +kernel) (by decide +kernel)
theorem q1035 : Cond.code yX7_setRight cX7_setRight 4 (some .int) ∈ lw_all := al_in (i := 1035) (by decide +kernel) (by decide +kernel)
theorem q1039 : Cond.methodLink RL 124 yX7_weigh ∈ lw_all := al_in (i := 1039) (by decide +kernel) (by decide +kernel)
theorem q1040 : Cond.instanceMethod yX7_weigh ∈ lw_all := al_in (i := 1040) (by decide +kernel) (by decide +kernel)
theorem q1041 : Cond.selects RX7 yX7_weigh yX7_weigh ∈ lw_all := al_in (i := 1041) (by decide +kernel) (by decide +kernel)
theorem q1042 : Cond.code yX7_weigh cX7_weigh 4 (some .int) ∈ lw_all := al_in (i := 1042) (by decide +kernel) (by decide +kernel)
theorem q1047 : Cond.methodLink RL 127 yX7_fines ∈ lw_all := al_in (i := 1047) (by decide +kernel) (by decide +kernel)
theorem q1048 : Cond.instanceMethod yX7_fines ∈ lw_all := al_in (i := 1048) (by decide +kernel) (by decide +kernel)
theorem q1049 : Cond.selects RX7 yX7_fines yX7_fines ∈ lw_all := al_in (i := 1049) (by decide +kernel) (by decide +kernel)
theorem q1050 : Cond.code yX7_fines cX7_fines 2 (some .long) ∈ lw_all := al_in (i := 1050) (by decide +kernel) (by decide +kernel)
theorem q1054 : Cond.methodLink RL 130 yX7_forecast ∈ lw_all := al_in (i := 1054) (by decide +kernel) (by decide +kernel)
theorem q1055 : Cond.instanceMethod yX7_forecast ∈ lw_all := al_in (i := 1055) (by decide +kernel) (by decide +kernel)
theorem q1056 : Cond.selects RX7 yX7_forecast yX7_forecast ∈ lw_all := al_in (i := 1056) (by decide +kernel) (by decide +kernel)
theorem q1057 : Cond.code yX7_forecast cX7_forecast 4 (some .long) ∈ lw_all := al_in (i := 1057) (by decide +kernel) (by decide +kernel)
theorem q1061 : Cond.methodLink RL 134 yX7_fits ∈ lw_all := al_in (i := 1061) (by decide +kernel) (by decide +kernel)
theorem q1062 : Cond.instanceMethod yX7_fits ∈ lw_all := al_in (i := 1062) (by decide +kernel) (by decide +kernel)
theorem q1063 : Cond.selects RX7 yX7_fits yX7_fits ∈ lw_all := al_in (i := 1063) (by decide +kernel) (by decide +kernel)
theorem q1064 : Cond.code yX7_fits cX7_fits 8 (some .int) ∈ lw_all := al_in (i := 1064) (by decide +kernel) (by decide +kernel)
theorem q1081 : Cond.methodLink RL 137 yX7_fit ∈ lw_all := al_in (i := 1081) (by decide +kernel) (by decide +kernel)
theorem q1082 : Cond.instanceMethod yX7_fit ∈ lw_all := al_in (i := 1082) (by decide +kernel) (by decide +kernel)
theorem q1083 : Cond.selects RX7 yX7_fit yX7_fit ∈ lw_all := al_in (i := 1083) (by decide +kernel) (by decide +kernel)
theorem q1084 : Cond.code yX7_fit cX7_fit 9 (some .int) ∈ lw_all := al_in (i := 1084) (by decide +kernel) (by decide +kernel)
theorem t194 : Cond.castable "java/lang/IndexOutOfBoundsException" "java/lang/IndexOutOfBoundsException" ∈ lw_st := al_stin (i := 194) (by decide +kernel) (by decide +kernel)
set_option maxHeartbeats 4000000 in
set_option maxRecDepth 100000 in
/-- the helper layer on the fresh object: 1 -/
theorem k_LL_layer (l : Launch) (hst : l.stackTraces = false) (D : va_G) (h : Nat) (cs : Nat) (f1 f2 f3 f4 f5 f6 : Value) (md : Int32) (ed : Value) (p0 : Int32) (p1 : Int32) (p2 : Int32) (o : Nat) (sz : Nat) : Met l yL_layer (wsH yL_layer cL_layer 6 (some .int) [(0, 12, 15, 21), (0, 12, 19, 13), (0, 12, 23, 15)]) ({ frames := 8, cells := 1, slots := 6, locals := 129 }) (va_Pc [.ref h, .int p0, .int p1, .int p2, .ref o] (EV D [] [(h, .inr (11, [.ref cs, f1, f2, f3, f4, f5, f6])), (cs, .inr (4, [.int md, ed, .int 0]))] sz)) (va_Qi (fun (r : Int32) (_ : Unit) => r = 1) (fun _ _ => True) NoA) 1 6 NoA := by
  refine va_MetW (cc := cL_layer) (maxL := 6) (ret := (some .int)) (hh := [(0, 12, 15, 21), (0, 12, 19, 13), (0, 12, 23, 15)]) (ws' := lw_all) (by decide) rfl ?_
  intro p e s m args below meth c s₁ B hml hv
  obtain ⟨rfl, hsz, hP, hK, hD0, hG, hZ0⟩ := hv
  have hx := B.exec
  have hb := B.bytes
  have hr := B.returns
  have hts0 := atoms_spec (ws := wsH yL_layer cL_layer 6 (some .int) [(0, 12, 15, 21), (0, 12, 19, 13), (0, 12, 23, 15)]) B.pre
  have hts : ∀ w ∈ lw_all, w.before _ s = true := fun w h => hts0 w (List.mem_cons_of_mem _ h)
  have hown : s.vm.findClass RL = some m.cls := findClass_of_methodNamed B.named
  have hlocks := B.notSynchronized
  have htab : c.exceptionTable.toList = tableOf [(0, 12, 15, 21), (0, 12, 19, 13), (0, 12, 23, 15)] := vx_table (x := objectInit) B (hts0 _ List.mem_cons_self)
  subst hsz
  have hD : va_D (fun _ => True) [(h, .inr (11, [.ref cs, f1, f2, f3, f4, f5, f6])), (cs, .inr (4, [.int md, ed, .int 0]))] := hD0
  have hZ : ZZ NoA s s.heap := hZ0
  have hS : va_S NoA s.heap s.heap [] := va_S.rf
  have hP : va_P D vwCl [(h, .inr (11, [.ref cs, f1, f2, f3, f4, f5, f6])), (cs, .inr (4, [.int md, ed, .int 0]))] s.heap := hP
  have hl := lv_entry ([.ref h, .int p0, .int p1, .int p2, .ref o]) (n := 6) (Nat.le_of_ble_eq_true rfl)
  rw [lg_entry_eq]
  generalize (lg_sl ([.ref h, .int p0, .int p1, .int p2, .ref o]) ++ List.replicate (6 - (lg_sl ([.ref h, .int p0, .int p1, .int p2, .ref o])).length) Slot.unset).toArray = ls at hl ⊢
  have hl : lv_has ls 6 [(0, .ref h), (1, .int p0), (2, .int p1), (3, .int p2), (4, .ref o)] := hl
  refine lv_aload hx hb dL_layer_0 (lv_at hl 4 rfl) ?_
  refine lv_iconst (v := 0) hx hb dL_layer_2 (by decide) ?_
  refine lv_aload_n hx hb dL_layer_3 rfl (lv_at hl 0 rfl) ?_
  refine lv_iload_n hx hb dL_layer_4 rfl (lv_at hl 1 rfl) ?_
  refine lv_iload_n hx hb dL_layer_5 rfl (lv_at hl 2 rfl) ?_
  refine lv_iload_n hx hb dL_layer_6 rfl (lv_at hl 3 rfl) ?_
  have hPc := hP.sub (ws' := [(h, .inr (11, [.ref cs, f1, f2, f3, f4, f5, f6])), (cs, .inr (4, [.int md, ed, .int 0]))]) [0, 1] rfl
  have hDc := hD.sub (ws' := [(h, .inr (11, [.ref cs, f1, f2, f3, f4, f5, f6])), (cs, .inr (4, [.int md, ed, .int 0]))]) [0, 1] (by decide) rfl
  have hKc := hK.sub (tys' := []) [] rfl
  refine vx_calli (vx_runV (As := [.int p0, .int p1, .int p2]) (rest := [.int 0, .ref o]) ⟨hx, hb, hml, hown, hts⟩ (k_LF_layer l hst D h cs f1 f2 f3 f4 f5 f6 md (ed) p0 p1 p2 s.heap.size) (cwV 3 hts (gV q664 q665 q666 q1 (gA q667)) rfl rfl rfl (by decide +kernel) ⟨Nat.le_of_ble_eq_true rfl, Nat.le_of_ble_eq_true rfl⟩) ⟨EV.fb, va_recv hKc hPc (ci := 11) (q0 := 0) rfl rfl, fun U hU hW => ⟨rfl, EV.at hPc hKc hDc hG (hZ.no hS) U hU hW⟩⟩ rfl rfl hl.1 rfl (lv_room (Nat.le_of_ble_eq_true rfl)) dL_layer_7 ⟨Nat.le_of_ble_eq_true rfl, Nat.le_of_ble_eq_true rfl⟩) hS (fun q _ h => h.elim) (fun q h => h.elim) (fun q _ h => h.elim) (fun E ce q9 u t H1 locs1 ht hvm hpx hBX hz1 hk1 hS hcell hcv hcl => ?_) (fun r u t H1 locs1 ht hvm hw hB hz1 hk1 hS => hw.elim)
  have hP := P_kept hP hk1
  subst hBX
  refine vx_catch (own := RL) (name := "java/lang/IndexOutOfBoundsException") (E := "java/lang/IndexOutOfBoundsException") hown [] ⟨0, 12, 15, 21⟩ [⟨0, 12, 19, 13⟩, ⟨0, 12, 23, 15⟩] (by rw [htab]; rfl) (fun z hz => absurd hz List.not_mem_nil) rfl (by decide) (hts _ q643) (hG.use t194) hcell hcv hcl ?_
  generalize H1 = H at hP hS ⊢
  have hP : va_P D vwCl [(h, .inr (11, [.ref cs, f1, f2, f3, f4, f5, f6])), (cs, .inr (4, [.int md, ed, .int 0]))] H := hP
  refine lv_astore (lv' := [(5, .ref q9), (0, .ref h), (1, .int p0), (2, .int p1), (3, .int p2), (4, .ref o)]) hx hb dL_layer_15 hl (by decide) rfl (fun ls hl => ?_)
  refine lv_iconst (v := 1) hx hb dL_layer_17 (by decide) ?_
  refine W.widen (k := 1) (n := 6) (Nat.le_of_ble_eq_true rfl) (Nat.le_of_ble_eq_true rfl) ?_
  exact W.iret (v := 1) hx hb hr (fun t ht hW => ⟨⟨1, (), rfl, rfl, trivial⟩, hS.F ht⟩) hS.2.2 dL_layer_18
set_option maxHeartbeats 4000000 in
set_option maxRecDepth 100000 in
/-- the helper wet on the fresh object: 1 -/
theorem k_LL_wet (l : Launch) (hst : l.stackTraces = false) (D : va_G) (h : Nat) (cs : Nat) (f1 f2 f3 f4 f5 f6 : Value) (md : Int32) (ed : Value) (p0 : Int32) (p1 : Int32) (p2 : Int32) (o : Nat) (sz : Nat) : Met l yL_wet (wsH yL_wet cL_wet 6 (some .int) [(0, 12, 15, 21), (0, 12, 19, 13)]) ({ frames := 9, cells := 1, slots := 6, locals := 151 }) (va_Pc [.ref h, .int p0, .int p1, .int p2, .ref o] (EV D [] [(h, .inr (11, [.ref cs, f1, f2, f3, f4, f5, f6])), (cs, .inr (4, [.int md, ed, .int 0]))] sz)) (va_Qi (fun (r : Int32) (_ : Unit) => r = 1) (fun _ _ => True) NoA) 1 6 NoA := by
  refine va_MetW (cc := cL_wet) (maxL := 6) (ret := (some .int)) (hh := [(0, 12, 15, 21), (0, 12, 19, 13)]) (ws' := lw_all) (by decide) rfl ?_
  intro p e s m args below meth c s₁ B hml hv
  obtain ⟨rfl, hsz, hP, hK, hD0, hG, hZ0⟩ := hv
  have hx := B.exec
  have hb := B.bytes
  have hr := B.returns
  have hts0 := atoms_spec (ws := wsH yL_wet cL_wet 6 (some .int) [(0, 12, 15, 21), (0, 12, 19, 13)]) B.pre
  have hts : ∀ w ∈ lw_all, w.before _ s = true := fun w h => hts0 w (List.mem_cons_of_mem _ h)
  have hown : s.vm.findClass RL = some m.cls := findClass_of_methodNamed B.named
  have hlocks := B.notSynchronized
  have htab : c.exceptionTable.toList = tableOf [(0, 12, 15, 21), (0, 12, 19, 13)] := vx_table (x := objectInit) B (hts0 _ List.mem_cons_self)
  subst hsz
  have hD : va_D (fun _ => True) [(h, .inr (11, [.ref cs, f1, f2, f3, f4, f5, f6])), (cs, .inr (4, [.int md, ed, .int 0]))] := hD0
  have hZ : ZZ NoA s s.heap := hZ0
  have hS : va_S NoA s.heap s.heap [] := va_S.rf
  have hP : va_P D vwCl [(h, .inr (11, [.ref cs, f1, f2, f3, f4, f5, f6])), (cs, .inr (4, [.int md, ed, .int 0]))] s.heap := hP
  have hl := lv_entry ([.ref h, .int p0, .int p1, .int p2, .ref o]) (n := 6) (Nat.le_of_ble_eq_true rfl)
  rw [lg_entry_eq]
  generalize (lg_sl ([.ref h, .int p0, .int p1, .int p2, .ref o]) ++ List.replicate (6 - (lg_sl ([.ref h, .int p0, .int p1, .int p2, .ref o])).length) Slot.unset).toArray = ls at hl ⊢
  have hl : lv_has ls 6 [(0, .ref h), (1, .int p0), (2, .int p1), (3, .int p2), (4, .ref o)] := hl
  refine lv_aload hx hb dL_wet_0 (lv_at hl 4 rfl) ?_
  refine lv_iconst (v := 0) hx hb dL_wet_2 (by decide) ?_
  refine lv_aload_n hx hb dL_wet_3 rfl (lv_at hl 0 rfl) ?_
  refine lv_iload_n hx hb dL_wet_4 rfl (lv_at hl 1 rfl) ?_
  refine lv_iload_n hx hb dL_wet_5 rfl (lv_at hl 2 rfl) ?_
  refine lv_iload_n hx hb dL_wet_6 rfl (lv_at hl 3 rfl) ?_
  have hPc := hP.sub (ws' := [(h, .inr (11, [.ref cs, f1, f2, f3, f4, f5, f6])), (cs, .inr (4, [.int md, ed, .int 0]))]) [0, 1] rfl
  have hDc := hD.sub (ws' := [(h, .inr (11, [.ref cs, f1, f2, f3, f4, f5, f6])), (cs, .inr (4, [.int md, ed, .int 0]))]) [0, 1] (by decide) rfl
  have hKc := hK.sub (tys' := []) [] rfl
  refine vx_calli (vx_runV (As := [.int p0, .int p1, .int p2]) (rest := [.int 0, .ref o]) ⟨hx, hb, hml, hown, hts⟩ (k_LF_wet l hst D h cs f1 f2 f3 f4 f5 f6 md (ed) p0 p1 p2 s.heap.size) (cwV 3 hts (gV q732 q733 q734 q1 (gA q735)) rfl rfl rfl (by decide +kernel) ⟨Nat.le_of_ble_eq_true rfl, Nat.le_of_ble_eq_true rfl⟩) ⟨EV.fb, va_recv hKc hPc (ci := 11) (q0 := 0) rfl rfl, fun U hU hW => ⟨rfl, EV.at hPc hKc hDc hG (hZ.no hS) U hU hW⟩⟩ rfl rfl hl.1 rfl (lv_room (Nat.le_of_ble_eq_true rfl)) dL_wet_7 ⟨Nat.le_of_ble_eq_true rfl, Nat.le_of_ble_eq_true rfl⟩) hS (fun q _ h => h.elim) (fun q h => h.elim) (fun q _ h => h.elim) (fun E ce q9 u t H1 locs1 ht hvm hpx hBX hz1 hk1 hS hcell hcv hcl => ?_) (fun r u t H1 locs1 ht hvm hw hB hz1 hk1 hS => hw.elim)
  have hP := P_kept hP hk1
  subst hBX
  refine vx_catch (own := RL) (name := "java/lang/IndexOutOfBoundsException") (E := "java/lang/IndexOutOfBoundsException") hown [] ⟨0, 12, 15, 21⟩ [⟨0, 12, 19, 13⟩] (by rw [htab]; rfl) (fun z hz => absurd hz List.not_mem_nil) rfl (by decide) (hts _ q643) (hG.use t194) hcell hcv hcl ?_
  generalize H1 = H at hP hS ⊢
  have hP : va_P D vwCl [(h, .inr (11, [.ref cs, f1, f2, f3, f4, f5, f6])), (cs, .inr (4, [.int md, ed, .int 0]))] H := hP
  refine lv_astore (lv' := [(5, .ref q9), (0, .ref h), (1, .int p0), (2, .int p1), (3, .int p2), (4, .ref o)]) hx hb dL_wet_15 hl (by decide) rfl (fun ls hl => ?_)
  refine lv_iconst (v := 1) hx hb dL_wet_17 (by decide) ?_
  refine W.widen (k := 1) (n := 6) (Nat.le_of_ble_eq_true rfl) (Nat.le_of_ble_eq_true rfl) ?_
  exact W.iret (v := 1) hx hb hr (fun t ht hW => ⟨⟨1, (), rfl, rfl, trivial⟩, hS.F ht⟩) hS.2.2 dL_wet_18
set_option maxHeartbeats 4000000 in
set_option maxRecDepth 100000 in
/-- the helper water on the fresh object: 1 -/
theorem k_LL_water (l : Launch) (hst : l.stackTraces = false) (D : va_G) (h : Nat) (cs : Nat) (f1 f2 f3 f4 f5 f6 : Value) (md : Int32) (ed : Value) (p0 : Int32) (p1 : Int32) (o : Nat) (sz : Nat) : Met l yL_water (wsH yL_water cL_water 5 (some .int) [(0, 10, 13, 21)]) ({ frames := 9, cells := 1, slots := 6, locals := 148 }) (va_Pc [.ref h, .int p0, .int p1, .ref o] (EV D [] [(h, .inr (11, [.ref cs, f1, f2, f3, f4, f5, f6])), (cs, .inr (4, [.int md, ed, .int 0]))] sz)) (va_Qi (fun (r : Int32) (_ : Unit) => r = 1) (fun _ _ => True) NoA) 1 6 NoA := by
  refine va_MetW (cc := cL_water) (maxL := 5) (ret := (some .int)) (hh := [(0, 10, 13, 21)]) (ws' := lw_all) (by decide) rfl ?_
  intro p e s m args below meth c s₁ B hml hv
  obtain ⟨rfl, hsz, hP, hK, hD0, hG, hZ0⟩ := hv
  have hx := B.exec
  have hb := B.bytes
  have hr := B.returns
  have hts0 := atoms_spec (ws := wsH yL_water cL_water 5 (some .int) [(0, 10, 13, 21)]) B.pre
  have hts : ∀ w ∈ lw_all, w.before _ s = true := fun w h => hts0 w (List.mem_cons_of_mem _ h)
  have hown : s.vm.findClass RL = some m.cls := findClass_of_methodNamed B.named
  have hlocks := B.notSynchronized
  have htab : c.exceptionTable.toList = tableOf [(0, 10, 13, 21)] := vx_table (x := objectInit) B (hts0 _ List.mem_cons_self)
  subst hsz
  have hD : va_D (fun _ => True) [(h, .inr (11, [.ref cs, f1, f2, f3, f4, f5, f6])), (cs, .inr (4, [.int md, ed, .int 0]))] := hD0
  have hZ : ZZ NoA s s.heap := hZ0
  have hS : va_S NoA s.heap s.heap [] := va_S.rf
  have hP : va_P D vwCl [(h, .inr (11, [.ref cs, f1, f2, f3, f4, f5, f6])), (cs, .inr (4, [.int md, ed, .int 0]))] s.heap := hP
  have hl := lv_entry ([.ref h, .int p0, .int p1, .ref o]) (n := 5) (Nat.le_of_ble_eq_true rfl)
  rw [lg_entry_eq]
  generalize (lg_sl ([.ref h, .int p0, .int p1, .ref o]) ++ List.replicate (5 - (lg_sl ([.ref h, .int p0, .int p1, .ref o])).length) Slot.unset).toArray = ls at hl ⊢
  have hl : lv_has ls 5 [(0, .ref h), (1, .int p0), (2, .int p1), (3, .ref o)] := hl
  refine lv_aload_n hx hb dL_water_0 rfl (lv_at hl 3 rfl) ?_
  refine lv_iconst (v := 0) hx hb dL_water_1 (by decide) ?_
  refine lv_aload_n hx hb dL_water_2 rfl (lv_at hl 0 rfl) ?_
  refine lv_iload_n hx hb dL_water_3 rfl (lv_at hl 1 rfl) ?_
  refine lv_iload_n hx hb dL_water_4 rfl (lv_at hl 2 rfl) ?_
  have hPc := hP.sub (ws' := [(h, .inr (11, [.ref cs, f1, f2, f3, f4, f5, f6])), (cs, .inr (4, [.int md, ed, .int 0]))]) [0, 1] rfl
  have hDc := hD.sub (ws' := [(h, .inr (11, [.ref cs, f1, f2, f3, f4, f5, f6])), (cs, .inr (4, [.int md, ed, .int 0]))]) [0, 1] (by decide) rfl
  have hKc := hK.sub (tys' := []) [] rfl
  refine vx_calli (vx_runV (As := [.int p0, .int p1]) (rest := [.int 0, .ref o]) ⟨hx, hb, hml, hown, hts⟩ (k_LF_water l hst D h cs f1 f2 f3 f4 f5 f6 md (ed) p0 p1 s.heap.size) (cwV 2 hts (gV q744 q745 q746 q1 (gA q747)) rfl rfl rfl (by decide +kernel) ⟨Nat.le_of_ble_eq_true rfl, Nat.le_of_ble_eq_true rfl⟩) ⟨EV.fb, va_recv hKc hPc (ci := 11) (q0 := 0) rfl rfl, fun U hU hW => ⟨rfl, EV.at hPc hKc hDc hG (hZ.no hS) U hU hW⟩⟩ rfl rfl hl.1 rfl (lv_room (Nat.le_of_ble_eq_true rfl)) dL_water_5 ⟨Nat.le_of_ble_eq_true rfl, Nat.le_of_ble_eq_true rfl⟩) hS (fun q _ h => h.elim) (fun q h => h.elim) (fun q _ h => h.elim) (fun E ce q9 u t H1 locs1 ht hvm hpx hBX hz1 hk1 hS hcell hcv hcl => ?_) (fun r u t H1 locs1 ht hvm hw hB hz1 hk1 hS => hw.elim)
  have hP := P_kept hP hk1
  subst hBX
  refine vx_catch (own := RL) (name := "java/lang/IndexOutOfBoundsException") (E := "java/lang/IndexOutOfBoundsException") hown [] ⟨0, 10, 13, 21⟩ [] (by rw [htab]; rfl) (fun z hz => absurd hz List.not_mem_nil) rfl (by decide) (hts _ q643) (hG.use t194) hcell hcv hcl ?_
  generalize H1 = H at hP hS ⊢
  have hP : va_P D vwCl [(h, .inr (11, [.ref cs, f1, f2, f3, f4, f5, f6])), (cs, .inr (4, [.int md, ed, .int 0]))] H := hP
  refine lv_astore (lv' := [(4, .ref q9), (0, .ref h), (1, .int p0), (2, .int p1), (3, .ref o)]) hx hb dL_water_13 hl (by decide) rfl (fun ls hl => ?_)
  refine lv_iconst (v := 1) hx hb dL_water_15 (by decide) ?_
  refine W.widen (k := 1) (n := 6) (Nat.le_of_ble_eq_true rfl) (Nat.le_of_ble_eq_true rfl) ?_
  exact W.iret (v := 1) hx hb hr (fun t ht hW => ⟨⟨1, (), rfl, rfl, trivial⟩, hS.F ht⟩) hS.2.2 dL_water_16
set_option maxHeartbeats 4000000 in
set_option maxRecDepth 100000 in
/-- the helper capacity on the fresh object: 1 -/
theorem k_LL_capacity (l : Launch) (hst : l.stackTraces = false) (D : va_G) (h : Nat) (cs : Nat) (f1 f2 f3 f4 f5 f6 : Value) (md : Int32) (ed : Value) (p0 : Int32) (p1 : Int32) (o : Nat) (sz : Nat) : Met l yL_capacity (wsH yL_capacity cL_capacity 5 (some .int) [(0, 10, 13, 21)]) ({ frames := 9, cells := 1, slots := 6, locals := 148 }) (va_Pc [.ref h, .int p0, .int p1, .ref o] (EV D [] [(h, .inr (11, [.ref cs, f1, f2, f3, f4, f5, f6])), (cs, .inr (4, [.int md, ed, .int 0]))] sz)) (va_Qi (fun (r : Int32) (_ : Unit) => r = 1) (fun _ _ => True) NoA) 1 6 NoA := by
  refine va_MetW (cc := cL_capacity) (maxL := 5) (ret := (some .int)) (hh := [(0, 10, 13, 21)]) (ws' := lw_all) (by decide) rfl ?_
  intro p e s m args below meth c s₁ B hml hv
  obtain ⟨rfl, hsz, hP, hK, hD0, hG, hZ0⟩ := hv
  have hx := B.exec
  have hb := B.bytes
  have hr := B.returns
  have hts0 := atoms_spec (ws := wsH yL_capacity cL_capacity 5 (some .int) [(0, 10, 13, 21)]) B.pre
  have hts : ∀ w ∈ lw_all, w.before _ s = true := fun w h => hts0 w (List.mem_cons_of_mem _ h)
  have hown : s.vm.findClass RL = some m.cls := findClass_of_methodNamed B.named
  have hlocks := B.notSynchronized
  have htab : c.exceptionTable.toList = tableOf [(0, 10, 13, 21)] := vx_table (x := objectInit) B (hts0 _ List.mem_cons_self)
  subst hsz
  have hD : va_D (fun _ => True) [(h, .inr (11, [.ref cs, f1, f2, f3, f4, f5, f6])), (cs, .inr (4, [.int md, ed, .int 0]))] := hD0
  have hZ : ZZ NoA s s.heap := hZ0
  have hS : va_S NoA s.heap s.heap [] := va_S.rf
  have hP : va_P D vwCl [(h, .inr (11, [.ref cs, f1, f2, f3, f4, f5, f6])), (cs, .inr (4, [.int md, ed, .int 0]))] s.heap := hP
  have hl := lv_entry ([.ref h, .int p0, .int p1, .ref o]) (n := 5) (Nat.le_of_ble_eq_true rfl)
  rw [lg_entry_eq]
  generalize (lg_sl ([.ref h, .int p0, .int p1, .ref o]) ++ List.replicate (5 - (lg_sl ([.ref h, .int p0, .int p1, .ref o])).length) Slot.unset).toArray = ls at hl ⊢
  have hl : lv_has ls 5 [(0, .ref h), (1, .int p0), (2, .int p1), (3, .ref o)] := hl
  refine lv_aload_n hx hb dL_capacity_0 rfl (lv_at hl 3 rfl) ?_
  refine lv_iconst (v := 0) hx hb dL_capacity_1 (by decide) ?_
  refine lv_aload_n hx hb dL_capacity_2 rfl (lv_at hl 0 rfl) ?_
  refine lv_iload_n hx hb dL_capacity_3 rfl (lv_at hl 1 rfl) ?_
  refine lv_iload_n hx hb dL_capacity_4 rfl (lv_at hl 2 rfl) ?_
  have hPc := hP.sub (ws' := [(h, .inr (11, [.ref cs, f1, f2, f3, f4, f5, f6])), (cs, .inr (4, [.int md, ed, .int 0]))]) [0, 1] rfl
  have hDc := hD.sub (ws' := [(h, .inr (11, [.ref cs, f1, f2, f3, f4, f5, f6])), (cs, .inr (4, [.int md, ed, .int 0]))]) [0, 1] (by decide) rfl
  have hKc := hK.sub (tys' := []) [] rfl
  refine vx_calli (vx_runV (As := [.int p0, .int p1]) (rest := [.int 0, .ref o]) ⟨hx, hb, hml, hown, hts⟩ (k_LF_capacity l hst D h cs f1 f2 f3 f4 f5 f6 md (ed) p0 p1 s.heap.size) (cwV 2 hts (gV q751 q752 q753 q1 (gA q754)) rfl rfl rfl (by decide +kernel) ⟨Nat.le_of_ble_eq_true rfl, Nat.le_of_ble_eq_true rfl⟩) ⟨EV.fb, va_recv hKc hPc (ci := 11) (q0 := 0) rfl rfl, fun U hU hW => ⟨rfl, EV.at hPc hKc hDc hG (hZ.no hS) U hU hW⟩⟩ rfl rfl hl.1 rfl (lv_room (Nat.le_of_ble_eq_true rfl)) dL_capacity_5 ⟨Nat.le_of_ble_eq_true rfl, Nat.le_of_ble_eq_true rfl⟩) hS (fun q _ h => h.elim) (fun q h => h.elim) (fun q _ h => h.elim) (fun E ce q9 u t H1 locs1 ht hvm hpx hBX hz1 hk1 hS hcell hcv hcl => ?_) (fun r u t H1 locs1 ht hvm hw hB hz1 hk1 hS => hw.elim)
  have hP := P_kept hP hk1
  subst hBX
  refine vx_catch (own := RL) (name := "java/lang/IndexOutOfBoundsException") (E := "java/lang/IndexOutOfBoundsException") hown [] ⟨0, 10, 13, 21⟩ [] (by rw [htab]; rfl) (fun z hz => absurd hz List.not_mem_nil) rfl (by decide) (hts _ q643) (hG.use t194) hcell hcv hcl ?_
  generalize H1 = H at hP hS ⊢
  have hP : va_P D vwCl [(h, .inr (11, [.ref cs, f1, f2, f3, f4, f5, f6])), (cs, .inr (4, [.int md, ed, .int 0]))] H := hP
  refine lv_astore (lv' := [(4, .ref q9), (0, .ref h), (1, .int p0), (2, .int p1), (3, .ref o)]) hx hb dL_capacity_13 hl (by decide) rfl (fun ls hl => ?_)
  refine lv_iconst (v := 1) hx hb dL_capacity_15 (by decide) ?_
  refine W.widen (k := 1) (n := 6) (Nat.le_of_ble_eq_true rfl) (Nat.le_of_ble_eq_true rfl) ?_
  exact W.iret (v := 1) hx hb hr (fun t ht hW => ⟨⟨1, (), rfl, rfl, trivial⟩, hS.F ht⟩) hS.2.2 dL_capacity_16
set_option maxHeartbeats 4000000 in
set_option maxRecDepth 100000 in
/-- the helper link on the fresh object: 1 -/
theorem k_LL_link (l : Launch) (hst : l.stackTraces = false) (D : va_G) (h : Nat) (cs : Nat) (f1 f2 f3 f4 f5 f6 : Value) (md : Int32) (ed : Value) (p0 : Int32) (p1 : Int32) (o : Nat) (sz : Nat) : Met l yL_link (wsH yL_link cL_link 5 (some .int) [(0, 10, 13, 21), (0, 10, 17, 13)]) ({ frames := 8, cells := 1, slots := 6, locals := 127 }) (va_Pc [.ref h, .int p0, .int p1, .ref o] (EV D [] [(h, .inr (11, [.ref cs, f1, f2, f3, f4, f5, f6])), (cs, .inr (4, [.int md, ed, .int 0]))] sz)) (va_Qi (fun (r : Int32) (_ : Unit) => r = 1) (fun _ _ => True) NoA) 1 6 NoA := by
  refine va_MetW (cc := cL_link) (maxL := 5) (ret := (some .int)) (hh := [(0, 10, 13, 21), (0, 10, 17, 13)]) (ws' := lw_all) (by decide) rfl ?_
  intro p e s m args below meth c s₁ B hml hv
  obtain ⟨rfl, hsz, hP, hK, hD0, hG, hZ0⟩ := hv
  have hx := B.exec
  have hb := B.bytes
  have hr := B.returns
  have hts0 := atoms_spec (ws := wsH yL_link cL_link 5 (some .int) [(0, 10, 13, 21), (0, 10, 17, 13)]) B.pre
  have hts : ∀ w ∈ lw_all, w.before _ s = true := fun w h => hts0 w (List.mem_cons_of_mem _ h)
  have hown : s.vm.findClass RL = some m.cls := findClass_of_methodNamed B.named
  have hlocks := B.notSynchronized
  have htab : c.exceptionTable.toList = tableOf [(0, 10, 13, 21), (0, 10, 17, 13)] := vx_table (x := objectInit) B (hts0 _ List.mem_cons_self)
  subst hsz
  have hD : va_D (fun _ => True) [(h, .inr (11, [.ref cs, f1, f2, f3, f4, f5, f6])), (cs, .inr (4, [.int md, ed, .int 0]))] := hD0
  have hZ : ZZ NoA s s.heap := hZ0
  have hS : va_S NoA s.heap s.heap [] := va_S.rf
  have hP : va_P D vwCl [(h, .inr (11, [.ref cs, f1, f2, f3, f4, f5, f6])), (cs, .inr (4, [.int md, ed, .int 0]))] s.heap := hP
  have hl := lv_entry ([.ref h, .int p0, .int p1, .ref o]) (n := 5) (Nat.le_of_ble_eq_true rfl)
  rw [lg_entry_eq]
  generalize (lg_sl ([.ref h, .int p0, .int p1, .ref o]) ++ List.replicate (5 - (lg_sl ([.ref h, .int p0, .int p1, .ref o])).length) Slot.unset).toArray = ls at hl ⊢
  have hl : lv_has ls 5 [(0, .ref h), (1, .int p0), (2, .int p1), (3, .ref o)] := hl
  refine lv_aload_n hx hb dL_link_0 rfl (lv_at hl 3 rfl) ?_
  refine lv_iconst (v := 0) hx hb dL_link_1 (by decide) ?_
  refine lv_aload_n hx hb dL_link_2 rfl (lv_at hl 0 rfl) ?_
  refine lv_iload_n hx hb dL_link_3 rfl (lv_at hl 1 rfl) ?_
  refine lv_iload_n hx hb dL_link_4 rfl (lv_at hl 2 rfl) ?_
  have hPc := hP.sub (ws' := [(h, .inr (11, [.ref cs, f1, f2, f3, f4, f5, f6])), (cs, .inr (4, [.int md, ed, .int 0]))]) [0, 1] rfl
  have hDc := hD.sub (ws' := [(h, .inr (11, [.ref cs, f1, f2, f3, f4, f5, f6])), (cs, .inr (4, [.int md, ed, .int 0]))]) [0, 1] (by decide) rfl
  have hKc := hK.sub (tys' := []) [] rfl
  refine vx_calli (vx_runV (As := [.int p0, .int p1]) (rest := [.int 0, .ref o]) ⟨hx, hb, hml, hown, hts⟩ (k_LF_link l hst D h cs f1 f2 f3 f4 f5 f6 md (ed) p0 p1 s.heap.size) (cwV 2 hts (gV q758 q759 q760 q1 (gA q761)) rfl rfl rfl (by decide +kernel) ⟨Nat.le_of_ble_eq_true rfl, Nat.le_of_ble_eq_true rfl⟩) ⟨EV.fb, va_recv hKc hPc (ci := 11) (q0 := 0) rfl rfl, fun U hU hW => ⟨rfl, EV.at hPc hKc hDc hG (hZ.no hS) U hU hW⟩⟩ rfl rfl hl.1 rfl (lv_room (Nat.le_of_ble_eq_true rfl)) dL_link_5 ⟨Nat.le_of_ble_eq_true rfl, Nat.le_of_ble_eq_true rfl⟩) hS (fun q _ h => h.elim) (fun q h => h.elim) (fun q _ h => h.elim) (fun E ce q9 u t H1 locs1 ht hvm hpx hBX hz1 hk1 hS hcell hcv hcl => ?_) (fun r u t H1 locs1 ht hvm hw hB hz1 hk1 hS => hw.elim)
  have hP := P_kept hP hk1
  subst hBX
  refine vx_catch (own := RL) (name := "java/lang/IndexOutOfBoundsException") (E := "java/lang/IndexOutOfBoundsException") hown [] ⟨0, 10, 13, 21⟩ [⟨0, 10, 17, 13⟩] (by rw [htab]; rfl) (fun z hz => absurd hz List.not_mem_nil) rfl (by decide) (hts _ q643) (hG.use t194) hcell hcv hcl ?_
  generalize H1 = H at hP hS ⊢
  have hP : va_P D vwCl [(h, .inr (11, [.ref cs, f1, f2, f3, f4, f5, f6])), (cs, .inr (4, [.int md, ed, .int 0]))] H := hP
  refine lv_astore (lv' := [(4, .ref q9), (0, .ref h), (1, .int p0), (2, .int p1), (3, .ref o)]) hx hb dL_link_13 hl (by decide) rfl (fun ls hl => ?_)
  refine lv_iconst (v := 1) hx hb dL_link_15 (by decide) ?_
  refine W.widen (k := 1) (n := 6) (Nat.le_of_ble_eq_true rfl) (Nat.le_of_ble_eq_true rfl) ?_
  exact W.iret (v := 1) hx hb hr (fun t ht hW => ⟨⟨1, (), rfl, rfl, trivial⟩, hS.F ht⟩) hS.2.2 dL_link_16
set_option maxHeartbeats 4000000 in
set_option maxRecDepth 100000 in
/-- the helper scale on the fresh object: 1 -/
theorem k_LL_scale (l : Launch) (hst : l.stackTraces = false) (D : va_G) (h : Nat) (cs : Nat) (f1 f2 f3 f4 f5 f6 : Value) (md : Int32) (ed : Value) (p0 : Int32) (p1 : Int32) (o : Nat) (sz : Nat) : Met l yL_scale (wsH yL_scale cL_scale 5 (some .int) [(0, 10, 13, 21), (0, 10, 17, 13)]) ({ frames := 8, cells := 1, slots := 6, locals := 127 }) (va_Pc [.ref h, .int p0, .int p1, .ref o] (EV D [] [(h, .inr (11, [.ref cs, f1, f2, f3, f4, f5, f6])), (cs, .inr (4, [.int md, ed, .int 0]))] sz)) (va_Qi (fun (r : Int32) (_ : Unit) => r = 1) (fun _ _ => True) NoA) 1 6 NoA := by
  refine va_MetW (cc := cL_scale) (maxL := 5) (ret := (some .int)) (hh := [(0, 10, 13, 21), (0, 10, 17, 13)]) (ws' := lw_all) (by decide) rfl ?_
  intro p e s m args below meth c s₁ B hml hv
  obtain ⟨rfl, hsz, hP, hK, hD0, hG, hZ0⟩ := hv
  have hx := B.exec
  have hb := B.bytes
  have hr := B.returns
  have hts0 := atoms_spec (ws := wsH yL_scale cL_scale 5 (some .int) [(0, 10, 13, 21), (0, 10, 17, 13)]) B.pre
  have hts : ∀ w ∈ lw_all, w.before _ s = true := fun w h => hts0 w (List.mem_cons_of_mem _ h)
  have hown : s.vm.findClass RL = some m.cls := findClass_of_methodNamed B.named
  have hlocks := B.notSynchronized
  have htab : c.exceptionTable.toList = tableOf [(0, 10, 13, 21), (0, 10, 17, 13)] := vx_table (x := objectInit) B (hts0 _ List.mem_cons_self)
  subst hsz
  have hD : va_D (fun _ => True) [(h, .inr (11, [.ref cs, f1, f2, f3, f4, f5, f6])), (cs, .inr (4, [.int md, ed, .int 0]))] := hD0
  have hZ : ZZ NoA s s.heap := hZ0
  have hS : va_S NoA s.heap s.heap [] := va_S.rf
  have hP : va_P D vwCl [(h, .inr (11, [.ref cs, f1, f2, f3, f4, f5, f6])), (cs, .inr (4, [.int md, ed, .int 0]))] s.heap := hP
  have hl := lv_entry ([.ref h, .int p0, .int p1, .ref o]) (n := 5) (Nat.le_of_ble_eq_true rfl)
  rw [lg_entry_eq]
  generalize (lg_sl ([.ref h, .int p0, .int p1, .ref o]) ++ List.replicate (5 - (lg_sl ([.ref h, .int p0, .int p1, .ref o])).length) Slot.unset).toArray = ls at hl ⊢
  have hl : lv_has ls 5 [(0, .ref h), (1, .int p0), (2, .int p1), (3, .ref o)] := hl
  refine lv_aload_n hx hb dL_scale_0 rfl (lv_at hl 3 rfl) ?_
  refine lv_iconst (v := 0) hx hb dL_scale_1 (by decide) ?_
  refine lv_aload_n hx hb dL_scale_2 rfl (lv_at hl 0 rfl) ?_
  refine lv_iload_n hx hb dL_scale_3 rfl (lv_at hl 1 rfl) ?_
  refine lv_iload_n hx hb dL_scale_4 rfl (lv_at hl 2 rfl) ?_
  have hPc := hP.sub (ws' := [(h, .inr (11, [.ref cs, f1, f2, f3, f4, f5, f6])), (cs, .inr (4, [.int md, ed, .int 0]))]) [0, 1] rfl
  have hDc := hD.sub (ws' := [(h, .inr (11, [.ref cs, f1, f2, f3, f4, f5, f6])), (cs, .inr (4, [.int md, ed, .int 0]))]) [0, 1] (by decide) rfl
  have hKc := hK.sub (tys' := []) [] rfl
  refine vx_calli (vx_runV (As := [.int p0, .int p1]) (rest := [.int 0, .ref o]) ⟨hx, hb, hml, hown, hts⟩ (k_LF_scale l hst D h cs f1 f2 f3 f4 f5 f6 md (ed) p0 p1 s.heap.size) (cwV 2 hts (gV q767 q768 q769 q1 (gA q770)) rfl rfl rfl (by decide +kernel) ⟨Nat.le_of_ble_eq_true rfl, Nat.le_of_ble_eq_true rfl⟩) ⟨EV.fb, va_recv hKc hPc (ci := 11) (q0 := 0) rfl rfl, fun U hU hW => ⟨rfl, EV.at hPc hKc hDc hG (hZ.no hS) U hU hW⟩⟩ rfl rfl hl.1 rfl (lv_room (Nat.le_of_ble_eq_true rfl)) dL_scale_5 ⟨Nat.le_of_ble_eq_true rfl, Nat.le_of_ble_eq_true rfl⟩) hS (fun q _ h => h.elim) (fun q h => h.elim) (fun q _ h => h.elim) (fun E ce q9 u t H1 locs1 ht hvm hpx hBX hz1 hk1 hS hcell hcv hcl => ?_) (fun r u t H1 locs1 ht hvm hw hB hz1 hk1 hS => hw.elim)
  have hP := P_kept hP hk1
  subst hBX
  refine vx_catch (own := RL) (name := "java/lang/IndexOutOfBoundsException") (E := "java/lang/IndexOutOfBoundsException") hown [] ⟨0, 10, 13, 21⟩ [⟨0, 10, 17, 13⟩] (by rw [htab]; rfl) (fun z hz => absurd hz List.not_mem_nil) rfl (by decide) (hts _ q643) (hG.use t194) hcell hcv hcl ?_
  generalize H1 = H at hP hS ⊢
  have hP : va_P D vwCl [(h, .inr (11, [.ref cs, f1, f2, f3, f4, f5, f6])), (cs, .inr (4, [.int md, ed, .int 0]))] H := hP
  refine lv_astore (lv' := [(4, .ref q9), (0, .ref h), (1, .int p0), (2, .int p1), (3, .ref o)]) hx hb dL_scale_13 hl (by decide) rfl (fun ls hl => ?_)
  refine lv_iconst (v := 1) hx hb dL_scale_15 (by decide) ?_
  refine W.widen (k := 1) (n := 6) (Nat.le_of_ble_eq_true rfl) (Nat.le_of_ble_eq_true rfl) ?_
  exact W.iret (v := 1) hx hb hr (fun t ht hW => ⟨⟨1, (), rfl, rfl, trivial⟩, hS.F ht⟩) hS.2.2 dL_scale_16
set_option maxHeartbeats 4000000 in
set_option maxRecDepth 100000 in
/-- the helper plant on the fresh object: 1 -/
theorem k_LL_plant (l : Launch) (hst : l.stackTraces = false) (D : va_G) (h : Nat) (cs : Nat) (f1 f2 f3 f4 f5 f6 : Value) (md : Int32) (ed : Value) (p0 : Int32) (p1 : Int32) (p2 : Int32) (o : Nat) (sz : Nat) : Met l yL_plant (wsH yL_plant cL_plant 6 (some .int) [(0, 12, 15, 21), (0, 12, 19, 13), (0, 12, 23, 15)]) ({ frames := 8, cells := 1, slots := 6, locals := 127 }) (va_Pc [.ref h, .int p0, .int p1, .int p2, .ref o] (EV D [] [(h, .inr (11, [.ref cs, f1, f2, f3, f4, f5, f6])), (cs, .inr (4, [.int md, ed, .int 0]))] sz)) (va_Qi (fun (r : Int32) (_ : Unit) => r = 1) (fun _ _ => True) NoA) 1 6 NoA := by
  refine va_MetW (cc := cL_plant) (maxL := 6) (ret := (some .int)) (hh := [(0, 12, 15, 21), (0, 12, 19, 13), (0, 12, 23, 15)]) (ws' := lw_all) (by decide) rfl ?_
  intro p e s m args below meth c s₁ B hml hv
  obtain ⟨rfl, hsz, hP, hK, hD0, hG, hZ0⟩ := hv
  have hx := B.exec
  have hb := B.bytes
  have hr := B.returns
  have hts0 := atoms_spec (ws := wsH yL_plant cL_plant 6 (some .int) [(0, 12, 15, 21), (0, 12, 19, 13), (0, 12, 23, 15)]) B.pre
  have hts : ∀ w ∈ lw_all, w.before _ s = true := fun w h => hts0 w (List.mem_cons_of_mem _ h)
  have hown : s.vm.findClass RL = some m.cls := findClass_of_methodNamed B.named
  have hlocks := B.notSynchronized
  have htab : c.exceptionTable.toList = tableOf [(0, 12, 15, 21), (0, 12, 19, 13), (0, 12, 23, 15)] := vx_table (x := objectInit) B (hts0 _ List.mem_cons_self)
  subst hsz
  have hD : va_D (fun _ => True) [(h, .inr (11, [.ref cs, f1, f2, f3, f4, f5, f6])), (cs, .inr (4, [.int md, ed, .int 0]))] := hD0
  have hZ : ZZ NoA s s.heap := hZ0
  have hS : va_S NoA s.heap s.heap [] := va_S.rf
  have hP : va_P D vwCl [(h, .inr (11, [.ref cs, f1, f2, f3, f4, f5, f6])), (cs, .inr (4, [.int md, ed, .int 0]))] s.heap := hP
  have hl := lv_entry ([.ref h, .int p0, .int p1, .int p2, .ref o]) (n := 6) (Nat.le_of_ble_eq_true rfl)
  rw [lg_entry_eq]
  generalize (lg_sl ([.ref h, .int p0, .int p1, .int p2, .ref o]) ++ List.replicate (6 - (lg_sl ([.ref h, .int p0, .int p1, .int p2, .ref o])).length) Slot.unset).toArray = ls at hl ⊢
  have hl : lv_has ls 6 [(0, .ref h), (1, .int p0), (2, .int p1), (3, .int p2), (4, .ref o)] := hl
  refine lv_aload hx hb dL_plant_0 (lv_at hl 4 rfl) ?_
  refine lv_iconst (v := 0) hx hb dL_plant_2 (by decide) ?_
  refine lv_aload_n hx hb dL_plant_3 rfl (lv_at hl 0 rfl) ?_
  refine lv_iload_n hx hb dL_plant_4 rfl (lv_at hl 1 rfl) ?_
  refine lv_iload_n hx hb dL_plant_5 rfl (lv_at hl 2 rfl) ?_
  refine lv_iload_n hx hb dL_plant_6 rfl (lv_at hl 3 rfl) ?_
  have hPc := hP.sub (ws' := [(h, .inr (11, [.ref cs, f1, f2, f3, f4, f5, f6])), (cs, .inr (4, [.int md, ed, .int 0]))]) [0, 1] rfl
  have hDc := hD.sub (ws' := [(h, .inr (11, [.ref cs, f1, f2, f3, f4, f5, f6])), (cs, .inr (4, [.int md, ed, .int 0]))]) [0, 1] (by decide) rfl
  have hKc := hK.sub (tys' := []) [] rfl
  refine vx_calli (vx_runV (As := [.int p0, .int p1, .int p2]) (rest := [.int 0, .ref o]) ⟨hx, hb, hml, hown, hts⟩ (k_LF_plant l hst D h cs f1 f2 f3 f4 f5 f6 md (ed) p0 p1 p2 s.heap.size) (cwV 3 hts (gV q774 q775 q776 q1 (gA q777)) rfl rfl rfl (by decide +kernel) ⟨Nat.le_of_ble_eq_true rfl, Nat.le_of_ble_eq_true rfl⟩) ⟨EV.fb, va_recv hKc hPc (ci := 11) (q0 := 0) rfl rfl, fun U hU hW => ⟨rfl, EV.at hPc hKc hDc hG (hZ.no hS) U hU hW⟩⟩ rfl rfl hl.1 rfl (lv_room (Nat.le_of_ble_eq_true rfl)) dL_plant_7 ⟨Nat.le_of_ble_eq_true rfl, Nat.le_of_ble_eq_true rfl⟩) hS (fun q _ h => h.elim) (fun q h => h.elim) (fun q _ h => h.elim) (fun E ce q9 u t H1 locs1 ht hvm hpx hBX hz1 hk1 hS hcell hcv hcl => ?_) (fun r u t H1 locs1 ht hvm hw hB hz1 hk1 hS => hw.elim)
  have hP := P_kept hP hk1
  subst hBX
  refine vx_catch (own := RL) (name := "java/lang/IndexOutOfBoundsException") (E := "java/lang/IndexOutOfBoundsException") hown [] ⟨0, 12, 15, 21⟩ [⟨0, 12, 19, 13⟩, ⟨0, 12, 23, 15⟩] (by rw [htab]; rfl) (fun z hz => absurd hz List.not_mem_nil) rfl (by decide) (hts _ q643) (hG.use t194) hcell hcv hcl ?_
  generalize H1 = H at hP hS ⊢
  have hP : va_P D vwCl [(h, .inr (11, [.ref cs, f1, f2, f3, f4, f5, f6])), (cs, .inr (4, [.int md, ed, .int 0]))] H := hP
  refine lv_astore (lv' := [(5, .ref q9), (0, .ref h), (1, .int p0), (2, .int p1), (3, .int p2), (4, .ref o)]) hx hb dL_plant_15 hl (by decide) rfl (fun ls hl => ?_)
  refine lv_iconst (v := 1) hx hb dL_plant_17 (by decide) ?_
  refine W.widen (k := 1) (n := 6) (Nat.le_of_ble_eq_true rfl) (Nat.le_of_ble_eq_true rfl) ?_
  exact W.iret (v := 1) hx hb hr (fun t ht hW => ⟨⟨1, (), rfl, rfl, trivial⟩, hS.F ht⟩) hS.2.2 dL_plant_18
set_option maxHeartbeats 4000000 in
set_option maxRecDepth 100000 in
/-- the helper harvest on the fresh object: 1 -/
theorem k_LL_harvest (l : Launch) (hst : l.stackTraces = false) (D : va_G) (h : Nat) (cs : Nat) (f1 f2 f3 f4 f5 f6 : Value) (md : Int32) (ed : Value) (p0 : Int32) (o : Nat) (sz : Nat) : Met l yL_harvest (wsH yL_harvest cL_harvest 4 (some .int) [(0, 9, 12, 21)]) ({ frames := 8, cells := 1, slots := 6, locals := 126 }) (va_Pc [.ref h, .int p0, .ref o] (EV D [] [(h, .inr (11, [.ref cs, f1, f2, f3, f4, f5, f6])), (cs, .inr (4, [.int md, ed, .int 0]))] sz)) (va_Qi (fun (r : Int32) (_ : Unit) => r = 1) (fun _ _ => True) NoA) 1 6 NoA := by
  refine va_MetW (cc := cL_harvest) (maxL := 4) (ret := (some .int)) (hh := [(0, 9, 12, 21)]) (ws' := lw_all) (by decide) rfl ?_
  intro p e s m args below meth c s₁ B hml hv
  obtain ⟨rfl, hsz, hP, hK, hD0, hG, hZ0⟩ := hv
  have hx := B.exec
  have hb := B.bytes
  have hr := B.returns
  have hts0 := atoms_spec (ws := wsH yL_harvest cL_harvest 4 (some .int) [(0, 9, 12, 21)]) B.pre
  have hts : ∀ w ∈ lw_all, w.before _ s = true := fun w h => hts0 w (List.mem_cons_of_mem _ h)
  have hown : s.vm.findClass RL = some m.cls := findClass_of_methodNamed B.named
  have hlocks := B.notSynchronized
  have htab : c.exceptionTable.toList = tableOf [(0, 9, 12, 21)] := vx_table (x := objectInit) B (hts0 _ List.mem_cons_self)
  subst hsz
  have hD : va_D (fun _ => True) [(h, .inr (11, [.ref cs, f1, f2, f3, f4, f5, f6])), (cs, .inr (4, [.int md, ed, .int 0]))] := hD0
  have hZ : ZZ NoA s s.heap := hZ0
  have hS : va_S NoA s.heap s.heap [] := va_S.rf
  have hP : va_P D vwCl [(h, .inr (11, [.ref cs, f1, f2, f3, f4, f5, f6])), (cs, .inr (4, [.int md, ed, .int 0]))] s.heap := hP
  have hl := lv_entry ([.ref h, .int p0, .ref o]) (n := 4) (Nat.le_of_ble_eq_true rfl)
  rw [lg_entry_eq]
  generalize (lg_sl ([.ref h, .int p0, .ref o]) ++ List.replicate (4 - (lg_sl ([.ref h, .int p0, .ref o])).length) Slot.unset).toArray = ls at hl ⊢
  have hl : lv_has ls 4 [(0, .ref h), (1, .int p0), (2, .ref o)] := hl
  refine lv_aload_n hx hb dL_harvest_0 rfl (lv_at hl 2 rfl) ?_
  refine lv_iconst (v := 0) hx hb dL_harvest_1 (by decide) ?_
  refine lv_aload_n hx hb dL_harvest_2 rfl (lv_at hl 0 rfl) ?_
  refine lv_iload_n hx hb dL_harvest_3 rfl (lv_at hl 1 rfl) ?_
  have hPc := hP.sub (ws' := [(h, .inr (11, [.ref cs, f1, f2, f3, f4, f5, f6])), (cs, .inr (4, [.int md, ed, .int 0]))]) [0, 1] rfl
  have hDc := hD.sub (ws' := [(h, .inr (11, [.ref cs, f1, f2, f3, f4, f5, f6])), (cs, .inr (4, [.int md, ed, .int 0]))]) [0, 1] (by decide) rfl
  have hKc := hK.sub (tys' := []) [] rfl
  refine vx_calli (vx_runV (As := [.int p0]) (rest := [.int 0, .ref o]) ⟨hx, hb, hml, hown, hts⟩ (k_LF_harvest l hst D h cs f1 f2 f3 f4 f5 f6 md (ed) p0 s.heap.size) (cwV 1 hts (gV q802 q803 q804 q1 (gA q805)) rfl rfl rfl (by decide +kernel) ⟨Nat.le_of_ble_eq_true rfl, Nat.le_of_ble_eq_true rfl⟩) ⟨EV.fb, va_recv hKc hPc (ci := 11) (q0 := 0) rfl rfl, fun U hU hW => ⟨rfl, EV.at hPc hKc hDc hG (hZ.no hS) U hU hW⟩⟩ rfl rfl hl.1 rfl (lv_room (Nat.le_of_ble_eq_true rfl)) dL_harvest_4 ⟨Nat.le_of_ble_eq_true rfl, Nat.le_of_ble_eq_true rfl⟩) hS (fun q _ h => h.elim) (fun q h => h.elim) (fun q _ h => h.elim) (fun E ce q9 u t H1 locs1 ht hvm hpx hBX hz1 hk1 hS hcell hcv hcl => ?_) (fun r u t H1 locs1 ht hvm hw hB hz1 hk1 hS => hw.elim)
  have hP := P_kept hP hk1
  subst hBX
  refine vx_catch (own := RL) (name := "java/lang/IndexOutOfBoundsException") (E := "java/lang/IndexOutOfBoundsException") hown [] ⟨0, 9, 12, 21⟩ [] (by rw [htab]; rfl) (fun z hz => absurd hz List.not_mem_nil) rfl (by decide) (hts _ q643) (hG.use t194) hcell hcv hcl ?_
  generalize H1 = H at hP hS ⊢
  have hP : va_P D vwCl [(h, .inr (11, [.ref cs, f1, f2, f3, f4, f5, f6])), (cs, .inr (4, [.int md, ed, .int 0]))] H := hP
  refine lv_astore_n (lv' := [(3, .ref q9), (0, .ref h), (1, .int p0), (2, .ref o)]) hx hb dL_harvest_12 rfl hl (by decide) rfl (fun ls hl => ?_)
  refine lv_iconst (v := 1) hx hb dL_harvest_13 (by decide) ?_
  refine W.widen (k := 1) (n := 6) (Nat.le_of_ble_eq_true rfl) (Nat.le_of_ble_eq_true rfl) ?_
  exact W.iret (v := 1) hx hb hr (fun t ht hW => ⟨⟨1, (), rfl, rfl, trivial⟩, hS.F ht⟩) hS.2.2 dL_harvest_14
set_option maxHeartbeats 4000000 in
set_option maxRecDepth 100000 in
/-- the helper stress on the fresh object: 1 -/
theorem k_LL_stress (l : Launch) (hst : l.stackTraces = false) (D : va_G) (h : Nat) (cs : Nat) (f1 f2 f3 f4 f5 f6 : Value) (md : Int32) (ed : Value) (p0 : Int32) (p1 : Int32) (o : Nat) (sz : Nat) : Met l yL_stress (wsH yL_stress cL_stress 5 (some .int) [(0, 10, 13, 21), (0, 10, 17, 50)]) ({ frames := 8, cells := 1, slots := 6, locals := 126 }) (va_Pc [.ref h, .int p0, .int p1, .ref o] (EV D [] [(h, .inr (11, [.ref cs, f1, f2, f3, f4, f5, f6])), (cs, .inr (4, [.int md, ed, .int 0]))] sz)) (va_Qi (fun (r : Int32) (_ : Unit) => r = 1) (fun _ _ => True) NoA) 1 6 NoA := by
  refine va_MetW (cc := cL_stress) (maxL := 5) (ret := (some .int)) (hh := [(0, 10, 13, 21), (0, 10, 17, 50)]) (ws' := lw_all) (by decide) rfl ?_
  intro p e s m args below meth c s₁ B hml hv
  obtain ⟨rfl, hsz, hP, hK, hD0, hG, hZ0⟩ := hv
  have hx := B.exec
  have hb := B.bytes
  have hr := B.returns
  have hts0 := atoms_spec (ws := wsH yL_stress cL_stress 5 (some .int) [(0, 10, 13, 21), (0, 10, 17, 50)]) B.pre
  have hts : ∀ w ∈ lw_all, w.before _ s = true := fun w h => hts0 w (List.mem_cons_of_mem _ h)
  have hown : s.vm.findClass RL = some m.cls := findClass_of_methodNamed B.named
  have hlocks := B.notSynchronized
  have htab : c.exceptionTable.toList = tableOf [(0, 10, 13, 21), (0, 10, 17, 50)] := vx_table (x := objectInit) B (hts0 _ List.mem_cons_self)
  subst hsz
  have hD : va_D (fun _ => True) [(h, .inr (11, [.ref cs, f1, f2, f3, f4, f5, f6])), (cs, .inr (4, [.int md, ed, .int 0]))] := hD0
  have hZ : ZZ NoA s s.heap := hZ0
  have hS : va_S NoA s.heap s.heap [] := va_S.rf
  have hP : va_P D vwCl [(h, .inr (11, [.ref cs, f1, f2, f3, f4, f5, f6])), (cs, .inr (4, [.int md, ed, .int 0]))] s.heap := hP
  have hl := lv_entry ([.ref h, .int p0, .int p1, .ref o]) (n := 5) (Nat.le_of_ble_eq_true rfl)
  rw [lg_entry_eq]
  generalize (lg_sl ([.ref h, .int p0, .int p1, .ref o]) ++ List.replicate (5 - (lg_sl ([.ref h, .int p0, .int p1, .ref o])).length) Slot.unset).toArray = ls at hl ⊢
  have hl : lv_has ls 5 [(0, .ref h), (1, .int p0), (2, .int p1), (3, .ref o)] := hl
  refine lv_aload_n hx hb dL_stress_0 rfl (lv_at hl 3 rfl) ?_
  refine lv_iconst (v := 0) hx hb dL_stress_1 (by decide) ?_
  refine lv_aload_n hx hb dL_stress_2 rfl (lv_at hl 0 rfl) ?_
  refine lv_iload_n hx hb dL_stress_3 rfl (lv_at hl 1 rfl) ?_
  refine lv_iload_n hx hb dL_stress_4 rfl (lv_at hl 2 rfl) ?_
  have hPc := hP.sub (ws' := [(h, .inr (11, [.ref cs, f1, f2, f3, f4, f5, f6])), (cs, .inr (4, [.int md, ed, .int 0]))]) [0, 1] rfl
  have hDc := hD.sub (ws' := [(h, .inr (11, [.ref cs, f1, f2, f3, f4, f5, f6])), (cs, .inr (4, [.int md, ed, .int 0]))]) [0, 1] (by decide) rfl
  have hKc := hK.sub (tys' := []) [] rfl
  refine vx_calli (vx_runV (As := [.int p0, .int p1]) (rest := [.int 0, .ref o]) ⟨hx, hb, hml, hown, hts⟩ (k_LF_stress l hst D h cs f1 f2 f3 f4 f5 f6 md (ed) p0 p1 s.heap.size) (cwV 2 hts (gV q814 q815 q816 q1 (gA q817)) rfl rfl rfl (by decide +kernel) ⟨Nat.le_of_ble_eq_true rfl, Nat.le_of_ble_eq_true rfl⟩) ⟨EV.fb, va_recv hKc hPc (ci := 11) (q0 := 0) rfl rfl, fun U hU hW => ⟨rfl, EV.at hPc hKc hDc hG (hZ.no hS) U hU hW⟩⟩ rfl rfl hl.1 rfl (lv_room (Nat.le_of_ble_eq_true rfl)) dL_stress_5 ⟨Nat.le_of_ble_eq_true rfl, Nat.le_of_ble_eq_true rfl⟩) hS (fun q _ h => h.elim) (fun q h => h.elim) (fun q _ h => h.elim) (fun E ce q9 u t H1 locs1 ht hvm hpx hBX hz1 hk1 hS hcell hcv hcl => ?_) (fun r u t H1 locs1 ht hvm hw hB hz1 hk1 hS => hw.elim)
  have hP := P_kept hP hk1
  subst hBX
  refine vx_catch (own := RL) (name := "java/lang/IndexOutOfBoundsException") (E := "java/lang/IndexOutOfBoundsException") hown [] ⟨0, 10, 13, 21⟩ [⟨0, 10, 17, 50⟩] (by rw [htab]; rfl) (fun z hz => absurd hz List.not_mem_nil) rfl (by decide) (hts _ q643) (hG.use t194) hcell hcv hcl ?_
  generalize H1 = H at hP hS ⊢
  have hP : va_P D vwCl [(h, .inr (11, [.ref cs, f1, f2, f3, f4, f5, f6])), (cs, .inr (4, [.int md, ed, .int 0]))] H := hP
  refine lv_astore (lv' := [(4, .ref q9), (0, .ref h), (1, .int p0), (2, .int p1), (3, .ref o)]) hx hb dL_stress_13 hl (by decide) rfl (fun ls hl => ?_)
  refine lv_iconst (v := 1) hx hb dL_stress_15 (by decide) ?_
  refine W.widen (k := 1) (n := 6) (Nat.le_of_ble_eq_true rfl) (Nat.le_of_ble_eq_true rfl) ?_
  exact W.iret (v := 1) hx hb hr (fun t ht hW => ⟨⟨1, (), rfl, rfl, trivial⟩, hS.F ht⟩) hS.2.2 dL_stress_16
set_option maxHeartbeats 4000000 in
set_option maxRecDepth 100000 in
/-- the helper mulch on the fresh object: 1 -/
theorem k_LL_mulch (l : Launch) (hst : l.stackTraces = false) (D : va_G) (h : Nat) (cs : Nat) (f1 f2 f3 f4 f5 f6 : Value) (md : Int32) (ed : Value) (p0 : Int32) (p1 : Int32) (o : Nat) (sz : Nat) : Met l yL_mulch (wsH yL_mulch cL_mulch 5 (some .int) [(0, 17, 20, 21)]) ({ frames := 8, cells := 1, slots := 6, locals := 127 }) (va_Pc [.ref h, .int p0, .int p1, .ref o] (EV D [] [(h, .inr (11, [.ref cs, f1, f2, f3, f4, f5, f6])), (cs, .inr (4, [.int md, ed, .int 0]))] sz)) (va_Qi (fun (r : Int32) (_ : Unit) => r = 1) (fun _ _ => True) NoA) 1 6 NoA := by
  refine va_MetW (cc := cL_mulch) (maxL := 5) (ret := (some .int)) (hh := [(0, 17, 20, 21)]) (ws' := lw_all) (by decide) rfl ?_
  intro p e s m args below meth c s₁ B hml hv
  obtain ⟨rfl, hsz, hP, hK, hD0, hG, hZ0⟩ := hv
  have hx := B.exec
  have hb := B.bytes
  have hr := B.returns
  have hts0 := atoms_spec (ws := wsH yL_mulch cL_mulch 5 (some .int) [(0, 17, 20, 21)]) B.pre
  have hts : ∀ w ∈ lw_all, w.before _ s = true := fun w h => hts0 w (List.mem_cons_of_mem _ h)
  have hown : s.vm.findClass RL = some m.cls := findClass_of_methodNamed B.named
  have hlocks := B.notSynchronized
  have htab : c.exceptionTable.toList = tableOf [(0, 17, 20, 21)] := vx_table (x := objectInit) B (hts0 _ List.mem_cons_self)
  subst hsz
  have hD : va_D (fun _ => True) [(h, .inr (11, [.ref cs, f1, f2, f3, f4, f5, f6])), (cs, .inr (4, [.int md, ed, .int 0]))] := hD0
  have hZ : ZZ NoA s s.heap := hZ0
  have hS : va_S NoA s.heap s.heap [] := va_S.rf
  have hP : va_P D vwCl [(h, .inr (11, [.ref cs, f1, f2, f3, f4, f5, f6])), (cs, .inr (4, [.int md, ed, .int 0]))] s.heap := hP
  have hl := lv_entry ([.ref h, .int p0, .int p1, .ref o]) (n := 5) (Nat.le_of_ble_eq_true rfl)
  rw [lg_entry_eq]
  generalize (lg_sl ([.ref h, .int p0, .int p1, .ref o]) ++ List.replicate (5 - (lg_sl ([.ref h, .int p0, .int p1, .ref o])).length) Slot.unset).toArray = ls at hl ⊢
  have hl : lv_has ls 5 [(0, .ref h), (1, .int p0), (2, .int p1), (3, .ref o)] := hl
  refine lv_aload_n hx hb dL_mulch_0 rfl (lv_at hl 3 rfl) ?_
  refine lv_iconst (v := 0) hx hb dL_mulch_1 (by decide) ?_
  refine lv_aload_n hx hb dL_mulch_2 rfl (lv_at hl 0 rfl) ?_
  refine lv_iload_n hx hb dL_mulch_3 rfl (lv_at hl 1 rfl) ?_
  refine lv_iload_n hx hb dL_mulch_4 rfl (lv_at hl 2 rfl) ?_
  have hPc := hP.sub (ws' := [(h, .inr (11, [.ref cs, f1, f2, f3, f4, f5, f6])), (cs, .inr (4, [.int md, ed, .int 0]))]) [0, 1] rfl
  have hDc := hD.sub (ws' := [(h, .inr (11, [.ref cs, f1, f2, f3, f4, f5, f6])), (cs, .inr (4, [.int md, ed, .int 0]))]) [0, 1] (by decide) rfl
  have hKc := hK.sub (tys' := []) [] rfl
  refine vx_calli (vx_runV (As := [.int p0, .int p1]) (rest := [.int 0, .ref o]) ⟨hx, hb, hml, hown, hts⟩ (k_LF_mulch l hst D h cs f1 f2 f3 f4 f5 f6 md (ed) p0 p1 s.heap.size) (cwV 2 hts (gV q837 q838 q839 q1 (gA q840)) rfl rfl rfl (by decide +kernel) ⟨Nat.le_of_ble_eq_true rfl, Nat.le_of_ble_eq_true rfl⟩) ⟨EV.fb, va_recv hKc hPc (ci := 11) (q0 := 0) rfl rfl, fun U hU hW => ⟨rfl, EV.at hPc hKc hDc hG (hZ.no hS) U hU hW⟩⟩ rfl rfl hl.1 rfl (lv_room (Nat.le_of_ble_eq_true rfl)) dL_mulch_5 ⟨Nat.le_of_ble_eq_true rfl, Nat.le_of_ble_eq_true rfl⟩) hS (fun q _ h => h.elim) (fun q h => h.elim) (fun q _ h => h.elim) (fun E ce q9 u t H1 locs1 ht hvm hpx hBX hz1 hk1 hS hcell hcv hcl => ?_) (fun r u t H1 locs1 ht hvm hw hB hz1 hk1 hS => hw.elim)
  have hP := P_kept hP hk1
  subst hBX
  refine vx_catch (own := RL) (name := "java/lang/IndexOutOfBoundsException") (E := "java/lang/IndexOutOfBoundsException") hown [] ⟨0, 17, 20, 21⟩ [] (by rw [htab]; rfl) (fun z hz => absurd hz List.not_mem_nil) rfl (by decide) (hts _ q643) (hG.use t194) hcell hcv hcl ?_
  generalize H1 = H at hP hS ⊢
  have hP : va_P D vwCl [(h, .inr (11, [.ref cs, f1, f2, f3, f4, f5, f6])), (cs, .inr (4, [.int md, ed, .int 0]))] H := hP
  refine lv_astore (lv' := [(4, .ref q9), (0, .ref h), (1, .int p0), (2, .int p1), (3, .ref o)]) hx hb dL_mulch_20 hl (by decide) rfl (fun ls hl => ?_)
  refine lv_iconst (v := 1) hx hb dL_mulch_22 (by decide) ?_
  refine W.widen (k := 1) (n := 6) (Nat.le_of_ble_eq_true rfl) (Nat.le_of_ble_eq_true rfl) ?_
  exact W.iret (v := 1) hx hb hr (fun t ht hW => ⟨⟨1, (), rfl, rfl, trivial⟩, hS.F ht⟩) hS.2.2 dL_mulch_23
set_option maxHeartbeats 4000000 in
set_option maxRecDepth 100000 in
/-- the helper rule on the fresh object: 1 -/
theorem k_LL_rule (l : Launch) (hst : l.stackTraces = false) (D : va_G) (h : Nat) (cs : Nat) (f1 f2 f3 f4 f5 f6 : Value) (md : Int32) (ed : Value) (p0 : Int32) (p1 : Int32) (p2 : Int32) (o : Nat) (sz : Nat) : Met l yL_rule (wsH yL_rule cL_rule 6 (some .int) [(0, 12, 15, 21), (0, 12, 19, 13)]) ({ frames := 8, cells := 1, slots := 6, locals := 128 }) (va_Pc [.ref h, .int p0, .int p1, .int p2, .ref o] (EV D [] [(h, .inr (11, [.ref cs, f1, f2, f3, f4, f5, f6])), (cs, .inr (4, [.int md, ed, .int 0]))] sz)) (va_Qi (fun (r : Int32) (_ : Unit) => r = 1) (fun _ _ => True) NoA) 1 6 NoA := by
  refine va_MetW (cc := cL_rule) (maxL := 6) (ret := (some .int)) (hh := [(0, 12, 15, 21), (0, 12, 19, 13)]) (ws' := lw_all) (by decide) rfl ?_
  intro p e s m args below meth c s₁ B hml hv
  obtain ⟨rfl, hsz, hP, hK, hD0, hG, hZ0⟩ := hv
  have hx := B.exec
  have hb := B.bytes
  have hr := B.returns
  have hts0 := atoms_spec (ws := wsH yL_rule cL_rule 6 (some .int) [(0, 12, 15, 21), (0, 12, 19, 13)]) B.pre
  have hts : ∀ w ∈ lw_all, w.before _ s = true := fun w h => hts0 w (List.mem_cons_of_mem _ h)
  have hown : s.vm.findClass RL = some m.cls := findClass_of_methodNamed B.named
  have hlocks := B.notSynchronized
  have htab : c.exceptionTable.toList = tableOf [(0, 12, 15, 21), (0, 12, 19, 13)] := vx_table (x := objectInit) B (hts0 _ List.mem_cons_self)
  subst hsz
  have hD : va_D (fun _ => True) [(h, .inr (11, [.ref cs, f1, f2, f3, f4, f5, f6])), (cs, .inr (4, [.int md, ed, .int 0]))] := hD0
  have hZ : ZZ NoA s s.heap := hZ0
  have hS : va_S NoA s.heap s.heap [] := va_S.rf
  have hP : va_P D vwCl [(h, .inr (11, [.ref cs, f1, f2, f3, f4, f5, f6])), (cs, .inr (4, [.int md, ed, .int 0]))] s.heap := hP
  have hl := lv_entry ([.ref h, .int p0, .int p1, .int p2, .ref o]) (n := 6) (Nat.le_of_ble_eq_true rfl)
  rw [lg_entry_eq]
  generalize (lg_sl ([.ref h, .int p0, .int p1, .int p2, .ref o]) ++ List.replicate (6 - (lg_sl ([.ref h, .int p0, .int p1, .int p2, .ref o])).length) Slot.unset).toArray = ls at hl ⊢
  have hl : lv_has ls 6 [(0, .ref h), (1, .int p0), (2, .int p1), (3, .int p2), (4, .ref o)] := hl
  refine lv_aload hx hb dL_rule_0 (lv_at hl 4 rfl) ?_
  refine lv_iconst (v := 0) hx hb dL_rule_2 (by decide) ?_
  refine lv_aload_n hx hb dL_rule_3 rfl (lv_at hl 0 rfl) ?_
  refine lv_iload_n hx hb dL_rule_4 rfl (lv_at hl 1 rfl) ?_
  refine lv_iload_n hx hb dL_rule_5 rfl (lv_at hl 2 rfl) ?_
  refine lv_iload_n hx hb dL_rule_6 rfl (lv_at hl 3 rfl) ?_
  have hPc := hP.sub (ws' := [(h, .inr (11, [.ref cs, f1, f2, f3, f4, f5, f6])), (cs, .inr (4, [.int md, ed, .int 0]))]) [0, 1] rfl
  have hDc := hD.sub (ws' := [(h, .inr (11, [.ref cs, f1, f2, f3, f4, f5, f6])), (cs, .inr (4, [.int md, ed, .int 0]))]) [0, 1] (by decide) rfl
  have hKc := hK.sub (tys' := []) [] rfl
  refine vx_calli (vx_runV (As := [.int p0, .int p1, .int p2]) (rest := [.int 0, .ref o]) ⟨hx, hb, hml, hown, hts⟩ (k_LF_rule l hst D h cs f1 f2 f3 f4 f5 f6 md (ed) p0 p1 p2 s.heap.size) (cwV 3 hts (gV q844 q845 q846 q1 (gA q847)) rfl rfl rfl (by decide +kernel) ⟨Nat.le_of_ble_eq_true rfl, Nat.le_of_ble_eq_true rfl⟩) ⟨EV.fb, va_recv hKc hPc (ci := 11) (q0 := 0) rfl rfl, fun U hU hW => ⟨rfl, EV.at hPc hKc hDc hG (hZ.no hS) U hU hW⟩⟩ rfl rfl hl.1 rfl (lv_room (Nat.le_of_ble_eq_true rfl)) dL_rule_7 ⟨Nat.le_of_ble_eq_true rfl, Nat.le_of_ble_eq_true rfl⟩) hS (fun q _ h => h.elim) (fun q h => h.elim) (fun q _ h => h.elim) (fun E ce q9 u t H1 locs1 ht hvm hpx hBX hz1 hk1 hS hcell hcv hcl => ?_) (fun r u t H1 locs1 ht hvm hw hB hz1 hk1 hS => hw.elim)
  have hP := P_kept hP hk1
  subst hBX
  refine vx_catch (own := RL) (name := "java/lang/IndexOutOfBoundsException") (E := "java/lang/IndexOutOfBoundsException") hown [] ⟨0, 12, 15, 21⟩ [⟨0, 12, 19, 13⟩] (by rw [htab]; rfl) (fun z hz => absurd hz List.not_mem_nil) rfl (by decide) (hts _ q643) (hG.use t194) hcell hcv hcl ?_
  generalize H1 = H at hP hS ⊢
  have hP : va_P D vwCl [(h, .inr (11, [.ref cs, f1, f2, f3, f4, f5, f6])), (cs, .inr (4, [.int md, ed, .int 0]))] H := hP
  refine lv_astore (lv' := [(5, .ref q9), (0, .ref h), (1, .int p0), (2, .int p1), (3, .int p2), (4, .ref o)]) hx hb dL_rule_15 hl (by decide) rfl (fun ls hl => ?_)
  refine lv_iconst (v := 1) hx hb dL_rule_17 (by decide) ?_
  refine W.widen (k := 1) (n := 6) (Nat.le_of_ble_eq_true rfl) (Nat.le_of_ble_eq_true rfl) ?_
  exact W.iret (v := 1) hx hb hr (fun t ht hW => ⟨⟨1, (), rfl, rfl, trivial⟩, hS.F ht⟩) hS.2.2 dL_rule_18
set_option maxHeartbeats 4000000 in
set_option maxRecDepth 100000 in
/-- the helper spread on the fresh object: 1 -/
theorem k_LL_spread (l : Launch) (hst : l.stackTraces = false) (D : va_G) (h : Nat) (cs : Nat) (f1 f2 f3 f4 f5 f6 : Value) (md : Int32) (ed : Value) (p0 : Int32) (p1 : Int32) (p2 : Int32) (o : Nat) (sz : Nat) : Met l yL_spread (wsH yL_spread cL_spread 6 (some .int) [(0, 11, 14, 21), (0, 11, 18, 13), (0, 11, 22, 63)]) ({ frames := 8, cells := 1, slots := 6, locals := 129 }) (va_Pc [.ref h, .int p0, .int p1, .int p2, .ref o] (EV D [] [(h, .inr (11, [.ref cs, f1, f2, f3, f4, f5, f6])), (cs, .inr (4, [.int md, ed, .int 0]))] sz)) (va_Qi (fun (r : Int32) (_ : Unit) => r = 1) (fun _ _ => True) NoA) 1 6 NoA := by
  refine va_MetW (cc := cL_spread) (maxL := 6) (ret := (some .int)) (hh := [(0, 11, 14, 21), (0, 11, 18, 13), (0, 11, 22, 63)]) (ws' := lw_all) (by decide) rfl ?_
  intro p e s m args below meth c s₁ B hml hv
  obtain ⟨rfl, hsz, hP, hK, hD0, hG, hZ0⟩ := hv
  have hx := B.exec
  have hb := B.bytes
  have hr := B.returns
  have hts0 := atoms_spec (ws := wsH yL_spread cL_spread 6 (some .int) [(0, 11, 14, 21), (0, 11, 18, 13), (0, 11, 22, 63)]) B.pre
  have hts : ∀ w ∈ lw_all, w.before _ s = true := fun w h => hts0 w (List.mem_cons_of_mem _ h)
  have hown : s.vm.findClass RL = some m.cls := findClass_of_methodNamed B.named
  have hlocks := B.notSynchronized
  have htab : c.exceptionTable.toList = tableOf [(0, 11, 14, 21), (0, 11, 18, 13), (0, 11, 22, 63)] := vx_table (x := objectInit) B (hts0 _ List.mem_cons_self)
  subst hsz
  have hD : va_D (fun _ => True) [(h, .inr (11, [.ref cs, f1, f2, f3, f4, f5, f6])), (cs, .inr (4, [.int md, ed, .int 0]))] := hD0
  have hZ : ZZ NoA s s.heap := hZ0
  have hS : va_S NoA s.heap s.heap [] := va_S.rf
  have hP : va_P D vwCl [(h, .inr (11, [.ref cs, f1, f2, f3, f4, f5, f6])), (cs, .inr (4, [.int md, ed, .int 0]))] s.heap := hP
  have hl := lv_entry ([.ref h, .int p0, .int p1, .int p2, .ref o]) (n := 6) (Nat.le_of_ble_eq_true rfl)
  rw [lg_entry_eq]
  generalize (lg_sl ([.ref h, .int p0, .int p1, .int p2, .ref o]) ++ List.replicate (6 - (lg_sl ([.ref h, .int p0, .int p1, .int p2, .ref o])).length) Slot.unset).toArray = ls at hl ⊢
  have hl : lv_has ls 6 [(0, .ref h), (1, .int p0), (2, .int p1), (3, .int p2), (4, .ref o)] := hl
  refine lv_aload hx hb dL_spread_0 (lv_at hl 4 rfl) ?_
  refine lv_iconst (v := 0) hx hb dL_spread_2 (by decide) ?_
  refine lv_aload_n hx hb dL_spread_3 rfl (lv_at hl 0 rfl) ?_
  refine lv_iload_n hx hb dL_spread_4 rfl (lv_at hl 1 rfl) ?_
  refine lv_iload_n hx hb dL_spread_5 rfl (lv_at hl 2 rfl) ?_
  refine lv_iload_n hx hb dL_spread_6 rfl (lv_at hl 3 rfl) ?_
  have hPc := hP.sub (ws' := [(h, .inr (11, [.ref cs, f1, f2, f3, f4, f5, f6])), (cs, .inr (4, [.int md, ed, .int 0]))]) [0, 1] rfl
  have hDc := hD.sub (ws' := [(h, .inr (11, [.ref cs, f1, f2, f3, f4, f5, f6])), (cs, .inr (4, [.int md, ed, .int 0]))]) [0, 1] (by decide) rfl
  have hKc := hK.sub (tys' := []) [] rfl
  refine vx_calli (vx_runV (As := [.int p0, .int p1, .int p2]) (rest := [.int 0, .ref o]) ⟨hx, hb, hml, hown, hts⟩ (k_LF_spread l hst D h cs f1 f2 f3 f4 f5 f6 md (ed) p0 p1 p2 s.heap.size) (cwV 3 hts (gV q852 q853 q854 q1 (gA q855)) rfl rfl rfl (by decide +kernel) ⟨Nat.le_of_ble_eq_true rfl, Nat.le_of_ble_eq_true rfl⟩) ⟨EV.fb, va_recv hKc hPc (ci := 11) (q0 := 0) rfl rfl, fun U hU hW => ⟨rfl, EV.at hPc hKc hDc hG (hZ.no hS) U hU hW⟩⟩ rfl rfl hl.1 rfl (lv_room (Nat.le_of_ble_eq_true rfl)) dL_spread_7 ⟨Nat.le_of_ble_eq_true rfl, Nat.le_of_ble_eq_true rfl⟩) hS (fun q _ h => h.elim) (fun q h => h.elim) (fun q _ h => h.elim) (fun E ce q9 u t H1 locs1 ht hvm hpx hBX hz1 hk1 hS hcell hcv hcl => ?_) (fun r u t H1 locs1 ht hvm hw hB hz1 hk1 hS => hw.elim)
  have hP := P_kept hP hk1
  subst hBX
  refine vx_catch (own := RL) (name := "java/lang/IndexOutOfBoundsException") (E := "java/lang/IndexOutOfBoundsException") hown [] ⟨0, 11, 14, 21⟩ [⟨0, 11, 18, 13⟩, ⟨0, 11, 22, 63⟩] (by rw [htab]; rfl) (fun z hz => absurd hz List.not_mem_nil) rfl (by decide) (hts _ q643) (hG.use t194) hcell hcv hcl ?_
  generalize H1 = H at hP hS ⊢
  have hP : va_P D vwCl [(h, .inr (11, [.ref cs, f1, f2, f3, f4, f5, f6])), (cs, .inr (4, [.int md, ed, .int 0]))] H := hP
  refine lv_astore (lv' := [(5, .ref q9), (0, .ref h), (1, .int p0), (2, .int p1), (3, .int p2), (4, .ref o)]) hx hb dL_spread_14 hl (by decide) rfl (fun ls hl => ?_)
  refine lv_iconst (v := 1) hx hb dL_spread_16 (by decide) ?_
  refine W.widen (k := 1) (n := 6) (Nat.le_of_ble_eq_true rfl) (Nat.le_of_ble_eq_true rfl) ?_
  exact W.iret (v := 1) hx hb hr (fun t ht hW => ⟨⟨1, (), rfl, rfl, trivial⟩, hS.F ht⟩) hS.2.2 dL_spread_17
set_option maxHeartbeats 4000000 in
set_option maxRecDepth 100000 in
/-- the helper manure on the fresh object: 1 -/
theorem k_LL_manure (l : Launch) (hst : l.stackTraces = false) (D : va_G) (h : Nat) (cs : Nat) (f1 f2 f3 f4 f5 f6 : Value) (md : Int32) (ed : Value) (p0 : Int32) (p1 : Int32) (o : Nat) (sz : Nat) : Met l yL_manure (wsH yL_manure cL_manure 5 (some .int) [(0, 9, 12, 21), (0, 9, 16, 13)]) ({ frames := 8, cells := 1, slots := 6, locals := 126 }) (va_Pc [.ref h, .int p0, .int p1, .ref o] (EV D [] [(h, .inr (11, [.ref cs, f1, f2, f3, f4, f5, f6])), (cs, .inr (4, [.int md, ed, .int 0]))] sz)) (va_Qi (fun (r : Int32) (_ : Unit) => r = 1) (fun _ _ => True) NoA) 1 6 NoA := by
  refine va_MetW (cc := cL_manure) (maxL := 5) (ret := (some .int)) (hh := [(0, 9, 12, 21), (0, 9, 16, 13)]) (ws' := lw_all) (by decide) rfl ?_
  intro p e s m args below meth c s₁ B hml hv
  obtain ⟨rfl, hsz, hP, hK, hD0, hG, hZ0⟩ := hv
  have hx := B.exec
  have hb := B.bytes
  have hr := B.returns
  have hts0 := atoms_spec (ws := wsH yL_manure cL_manure 5 (some .int) [(0, 9, 12, 21), (0, 9, 16, 13)]) B.pre
  have hts : ∀ w ∈ lw_all, w.before _ s = true := fun w h => hts0 w (List.mem_cons_of_mem _ h)
  have hown : s.vm.findClass RL = some m.cls := findClass_of_methodNamed B.named
  have hlocks := B.notSynchronized
  have htab : c.exceptionTable.toList = tableOf [(0, 9, 12, 21), (0, 9, 16, 13)] := vx_table (x := objectInit) B (hts0 _ List.mem_cons_self)
  subst hsz
  have hD : va_D (fun _ => True) [(h, .inr (11, [.ref cs, f1, f2, f3, f4, f5, f6])), (cs, .inr (4, [.int md, ed, .int 0]))] := hD0
  have hZ : ZZ NoA s s.heap := hZ0
  have hS : va_S NoA s.heap s.heap [] := va_S.rf
  have hP : va_P D vwCl [(h, .inr (11, [.ref cs, f1, f2, f3, f4, f5, f6])), (cs, .inr (4, [.int md, ed, .int 0]))] s.heap := hP
  have hl := lv_entry ([.ref h, .int p0, .int p1, .ref o]) (n := 5) (Nat.le_of_ble_eq_true rfl)
  rw [lg_entry_eq]
  generalize (lg_sl ([.ref h, .int p0, .int p1, .ref o]) ++ List.replicate (5 - (lg_sl ([.ref h, .int p0, .int p1, .ref o])).length) Slot.unset).toArray = ls at hl ⊢
  have hl : lv_has ls 5 [(0, .ref h), (1, .int p0), (2, .int p1), (3, .ref o)] := hl
  refine lv_aload_n hx hb dL_manure_0 rfl (lv_at hl 3 rfl) ?_
  refine lv_iconst (v := 0) hx hb dL_manure_1 (by decide) ?_
  refine lv_aload_n hx hb dL_manure_2 rfl (lv_at hl 0 rfl) ?_
  refine lv_iload_n hx hb dL_manure_3 rfl (lv_at hl 1 rfl) ?_
  refine lv_iload_n hx hb dL_manure_4 rfl (lv_at hl 2 rfl) ?_
  have hPc := hP.sub (ws' := [(h, .inr (11, [.ref cs, f1, f2, f3, f4, f5, f6])), (cs, .inr (4, [.int md, ed, .int 0]))]) [0, 1] rfl
  have hDc := hD.sub (ws' := [(h, .inr (11, [.ref cs, f1, f2, f3, f4, f5, f6])), (cs, .inr (4, [.int md, ed, .int 0]))]) [0, 1] (by decide) rfl
  have hKc := hK.sub (tys' := []) [] rfl
  refine vx_calli (vx_runV (As := [.int p0, .int p1]) (rest := [.int 0, .ref o]) ⟨hx, hb, hml, hown, hts⟩ (k_LF_manure l hst D h cs f1 f2 f3 f4 f5 f6 md (ed) p0 p1 s.heap.size) (cwV 2 hts (gV q882 q883 q884 q1 (gA q885)) rfl rfl rfl (by decide +kernel) ⟨Nat.le_of_ble_eq_true rfl, Nat.le_of_ble_eq_true rfl⟩) ⟨EV.fb, va_recv hKc hPc (ci := 11) (q0 := 0) rfl rfl, fun U hU hW => ⟨rfl, EV.at hPc hKc hDc hG (hZ.no hS) U hU hW⟩⟩ rfl rfl hl.1 rfl (lv_room (Nat.le_of_ble_eq_true rfl)) dL_manure_5 ⟨Nat.le_of_ble_eq_true rfl, Nat.le_of_ble_eq_true rfl⟩) hS (fun q _ h => h.elim) (fun q h => h.elim) (fun q _ h => h.elim) (fun E ce q9 u t H1 locs1 ht hvm hpx hBX hz1 hk1 hS hcell hcv hcl => ?_) (fun r u t H1 locs1 ht hvm hw hB hz1 hk1 hS => hw.elim)
  have hP := P_kept hP hk1
  subst hBX
  refine vx_catch (own := RL) (name := "java/lang/IndexOutOfBoundsException") (E := "java/lang/IndexOutOfBoundsException") hown [] ⟨0, 9, 12, 21⟩ [⟨0, 9, 16, 13⟩] (by rw [htab]; rfl) (fun z hz => absurd hz List.not_mem_nil) rfl (by decide) (hts _ q643) (hG.use t194) hcell hcv hcl ?_
  generalize H1 = H at hP hS ⊢
  have hP : va_P D vwCl [(h, .inr (11, [.ref cs, f1, f2, f3, f4, f5, f6])), (cs, .inr (4, [.int md, ed, .int 0]))] H := hP
  refine lv_astore (lv' := [(4, .ref q9), (0, .ref h), (1, .int p0), (2, .int p1), (3, .ref o)]) hx hb dL_manure_12 hl (by decide) rfl (fun ls hl => ?_)
  refine lv_iconst (v := 1) hx hb dL_manure_14 (by decide) ?_
  refine W.widen (k := 1) (n := 6) (Nat.le_of_ble_eq_true rfl) (Nat.le_of_ble_eq_true rfl) ?_
  exact W.iret (v := 1) hx hb hr (fun t ht hW => ⟨⟨1, (), rfl, rfl, trivial⟩, hS.F ht⟩) hS.2.2 dL_manure_15
set_option maxHeartbeats 4000000 in
set_option maxRecDepth 100000 in
/-- the helper solute on the fresh object: 1 -/
theorem k_LL_solute (l : Launch) (hst : l.stackTraces = false) (D : va_G) (h : Nat) (cs : Nat) (f1 f2 f3 f4 f5 f6 : Value) (md : Int32) (ed : Value) (p0 : Int32) (p1 : Int32) (p2 : Int32) (o : Nat) (sz : Nat) : Met l yL_solute (wsH yL_solute cL_solute 6 (some .int) [(0, 11, 14, 21), (0, 11, 18, 13)]) ({ frames := 9, cells := 1, slots := 6, locals := 150 }) (va_Pc [.ref h, .int p0, .int p1, .int p2, .ref o] (EV D [] [(h, .inr (11, [.ref cs, f1, f2, f3, f4, f5, f6])), (cs, .inr (4, [.int md, ed, .int 0]))] sz)) (va_Qi (fun (r : Int32) (_ : Unit) => r = 1) (fun _ _ => True) NoA) 1 6 NoA := by
  refine va_MetW (cc := cL_solute) (maxL := 6) (ret := (some .int)) (hh := [(0, 11, 14, 21), (0, 11, 18, 13)]) (ws' := lw_all) (by decide) rfl ?_
  intro p e s m args below meth c s₁ B hml hv
  obtain ⟨rfl, hsz, hP, hK, hD0, hG, hZ0⟩ := hv
  have hx := B.exec
  have hb := B.bytes
  have hr := B.returns
  have hts0 := atoms_spec (ws := wsH yL_solute cL_solute 6 (some .int) [(0, 11, 14, 21), (0, 11, 18, 13)]) B.pre
  have hts : ∀ w ∈ lw_all, w.before _ s = true := fun w h => hts0 w (List.mem_cons_of_mem _ h)
  have hown : s.vm.findClass RL = some m.cls := findClass_of_methodNamed B.named
  have hlocks := B.notSynchronized
  have htab : c.exceptionTable.toList = tableOf [(0, 11, 14, 21), (0, 11, 18, 13)] := vx_table (x := objectInit) B (hts0 _ List.mem_cons_self)
  subst hsz
  have hD : va_D (fun _ => True) [(h, .inr (11, [.ref cs, f1, f2, f3, f4, f5, f6])), (cs, .inr (4, [.int md, ed, .int 0]))] := hD0
  have hZ : ZZ NoA s s.heap := hZ0
  have hS : va_S NoA s.heap s.heap [] := va_S.rf
  have hP : va_P D vwCl [(h, .inr (11, [.ref cs, f1, f2, f3, f4, f5, f6])), (cs, .inr (4, [.int md, ed, .int 0]))] s.heap := hP
  have hl := lv_entry ([.ref h, .int p0, .int p1, .int p2, .ref o]) (n := 6) (Nat.le_of_ble_eq_true rfl)
  rw [lg_entry_eq]
  generalize (lg_sl ([.ref h, .int p0, .int p1, .int p2, .ref o]) ++ List.replicate (6 - (lg_sl ([.ref h, .int p0, .int p1, .int p2, .ref o])).length) Slot.unset).toArray = ls at hl ⊢
  have hl : lv_has ls 6 [(0, .ref h), (1, .int p0), (2, .int p1), (3, .int p2), (4, .ref o)] := hl
  refine lv_aload hx hb dL_solute_0 (lv_at hl 4 rfl) ?_
  refine lv_iconst (v := 0) hx hb dL_solute_2 (by decide) ?_
  refine lv_aload_n hx hb dL_solute_3 rfl (lv_at hl 0 rfl) ?_
  refine lv_iload_n hx hb dL_solute_4 rfl (lv_at hl 1 rfl) ?_
  refine lv_iload_n hx hb dL_solute_5 rfl (lv_at hl 2 rfl) ?_
  refine lv_iload_n hx hb dL_solute_6 rfl (lv_at hl 3 rfl) ?_
  have hPc := hP.sub (ws' := [(h, .inr (11, [.ref cs, f1, f2, f3, f4, f5, f6])), (cs, .inr (4, [.int md, ed, .int 0]))]) [0, 1] rfl
  have hDc := hD.sub (ws' := [(h, .inr (11, [.ref cs, f1, f2, f3, f4, f5, f6])), (cs, .inr (4, [.int md, ed, .int 0]))]) [0, 1] (by decide) rfl
  have hKc := hK.sub (tys' := []) [] rfl
  refine vx_calli (vx_runV (As := [.int p0, .int p1, .int p2]) (rest := [.int 0, .ref o]) ⟨hx, hb, hml, hown, hts⟩ (k_LF_solute l hst D h cs f1 f2 f3 f4 f5 f6 md (ed) p0 p1 p2 s.heap.size) (cwV 3 hts (gV q889 q890 q891 q1 (gA q892)) rfl rfl rfl (by decide +kernel) ⟨Nat.le_of_ble_eq_true rfl, Nat.le_of_ble_eq_true rfl⟩) ⟨EV.fb, va_recv hKc hPc (ci := 11) (q0 := 0) rfl rfl, fun U hU hW => ⟨rfl, EV.at hPc hKc hDc hG (hZ.no hS) U hU hW⟩⟩ rfl rfl hl.1 rfl (lv_room (Nat.le_of_ble_eq_true rfl)) dL_solute_7 ⟨Nat.le_of_ble_eq_true rfl, Nat.le_of_ble_eq_true rfl⟩) hS (fun q _ h => h.elim) (fun q h => h.elim) (fun q _ h => h.elim) (fun E ce q9 u t H1 locs1 ht hvm hpx hBX hz1 hk1 hS hcell hcv hcl => ?_) (fun r u t H1 locs1 ht hvm hw hB hz1 hk1 hS => hw.elim)
  have hP := P_kept hP hk1
  subst hBX
  refine vx_catch (own := RL) (name := "java/lang/IndexOutOfBoundsException") (E := "java/lang/IndexOutOfBoundsException") hown [] ⟨0, 11, 14, 21⟩ [⟨0, 11, 18, 13⟩] (by rw [htab]; rfl) (fun z hz => absurd hz List.not_mem_nil) rfl (by decide) (hts _ q643) (hG.use t194) hcell hcv hcl ?_
  generalize H1 = H at hP hS ⊢
  have hP : va_P D vwCl [(h, .inr (11, [.ref cs, f1, f2, f3, f4, f5, f6])), (cs, .inr (4, [.int md, ed, .int 0]))] H := hP
  refine lv_astore (lv' := [(5, .ref q9), (0, .ref h), (1, .int p0), (2, .int p1), (3, .int p2), (4, .ref o)]) hx hb dL_solute_14 hl (by decide) rfl (fun ls hl => ?_)
  refine lv_iconst (v := 1) hx hb dL_solute_16 (by decide) ?_
  refine W.widen (k := 1) (n := 6) (Nat.le_of_ble_eq_true rfl) (Nat.le_of_ble_eq_true rfl) ?_
  exact W.iret (v := 1) hx hb hr (fun t ht hW => ⟨⟨1, (), rfl, rfl, trivial⟩, hS.F ht⟩) hS.2.2 dL_solute_17
set_option maxHeartbeats 4000000 in
set_option maxRecDepth 100000 in
/-- the helper out on the fresh object: 1 -/
theorem k_LL_out (l : Launch) (hst : l.stackTraces = false) (D : va_G) (h : Nat) (cs : Nat) (f1 f2 f3 f4 f5 f6 : Value) (md : Int32) (ed : Value) (p0 : Int32) (p1 : Int32) (o : Nat) (sz : Nat) : Met l yL_out (wsH yL_out cL_out 5 (some .int) [(0, 9, 12, 21), (0, 9, 16, 13)]) ({ frames := 8, cells := 1, slots := 6, locals := 126 }) (va_Pc [.ref h, .int p0, .int p1, .ref o] (EV D [] [(h, .inr (11, [.ref cs, f1, f2, f3, f4, f5, f6])), (cs, .inr (4, [.int md, ed, .int 0]))] sz)) (va_Qi (fun (r : Int32) (_ : Unit) => r = 1) (fun _ _ => True) NoA) 1 6 NoA := by
  refine va_MetW (cc := cL_out) (maxL := 5) (ret := (some .int)) (hh := [(0, 9, 12, 21), (0, 9, 16, 13)]) (ws' := lw_all) (by decide) rfl ?_
  intro p e s m args below meth c s₁ B hml hv
  obtain ⟨rfl, hsz, hP, hK, hD0, hG, hZ0⟩ := hv
  have hx := B.exec
  have hb := B.bytes
  have hr := B.returns
  have hts0 := atoms_spec (ws := wsH yL_out cL_out 5 (some .int) [(0, 9, 12, 21), (0, 9, 16, 13)]) B.pre
  have hts : ∀ w ∈ lw_all, w.before _ s = true := fun w h => hts0 w (List.mem_cons_of_mem _ h)
  have hown : s.vm.findClass RL = some m.cls := findClass_of_methodNamed B.named
  have hlocks := B.notSynchronized
  have htab : c.exceptionTable.toList = tableOf [(0, 9, 12, 21), (0, 9, 16, 13)] := vx_table (x := objectInit) B (hts0 _ List.mem_cons_self)
  subst hsz
  have hD : va_D (fun _ => True) [(h, .inr (11, [.ref cs, f1, f2, f3, f4, f5, f6])), (cs, .inr (4, [.int md, ed, .int 0]))] := hD0
  have hZ : ZZ NoA s s.heap := hZ0
  have hS : va_S NoA s.heap s.heap [] := va_S.rf
  have hP : va_P D vwCl [(h, .inr (11, [.ref cs, f1, f2, f3, f4, f5, f6])), (cs, .inr (4, [.int md, ed, .int 0]))] s.heap := hP
  have hl := lv_entry ([.ref h, .int p0, .int p1, .ref o]) (n := 5) (Nat.le_of_ble_eq_true rfl)
  rw [lg_entry_eq]
  generalize (lg_sl ([.ref h, .int p0, .int p1, .ref o]) ++ List.replicate (5 - (lg_sl ([.ref h, .int p0, .int p1, .ref o])).length) Slot.unset).toArray = ls at hl ⊢
  have hl : lv_has ls 5 [(0, .ref h), (1, .int p0), (2, .int p1), (3, .ref o)] := hl
  refine lv_aload_n hx hb dL_out_0 rfl (lv_at hl 3 rfl) ?_
  refine lv_iconst (v := 0) hx hb dL_out_1 (by decide) ?_
  refine lv_aload_n hx hb dL_out_2 rfl (lv_at hl 0 rfl) ?_
  refine lv_iload_n hx hb dL_out_3 rfl (lv_at hl 1 rfl) ?_
  refine lv_iload_n hx hb dL_out_4 rfl (lv_at hl 2 rfl) ?_
  have hPc := hP.sub (ws' := [(h, .inr (11, [.ref cs, f1, f2, f3, f4, f5, f6])), (cs, .inr (4, [.int md, ed, .int 0]))]) [0, 1] rfl
  have hDc := hD.sub (ws' := [(h, .inr (11, [.ref cs, f1, f2, f3, f4, f5, f6])), (cs, .inr (4, [.int md, ed, .int 0]))]) [0, 1] (by decide) rfl
  have hKc := hK.sub (tys' := []) [] rfl
  refine vx_calli (vx_runV (As := [.int p0, .int p1]) (rest := [.int 0, .ref o]) ⟨hx, hb, hml, hown, hts⟩ (k_LF_out l hst D h cs f1 f2 f3 f4 f5 f6 md (ed) p0 p1 s.heap.size) (cwV 2 hts (gV q896 q897 q898 q1 (gA q899)) rfl rfl rfl (by decide +kernel) ⟨Nat.le_of_ble_eq_true rfl, Nat.le_of_ble_eq_true rfl⟩) ⟨EV.fb, va_recv hKc hPc (ci := 11) (q0 := 0) rfl rfl, fun U hU hW => ⟨rfl, EV.at hPc hKc hDc hG (hZ.no hS) U hU hW⟩⟩ rfl rfl hl.1 rfl (lv_room (Nat.le_of_ble_eq_true rfl)) dL_out_5 ⟨Nat.le_of_ble_eq_true rfl, Nat.le_of_ble_eq_true rfl⟩) hS (fun q _ h => h.elim) (fun q h => h.elim) (fun q _ h => h.elim) (fun E ce q9 u t H1 locs1 ht hvm hpx hBX hz1 hk1 hS hcell hcv hcl => ?_) (fun r u t H1 locs1 ht hvm hw hB hz1 hk1 hS => hw.elim)
  have hP := P_kept hP hk1
  subst hBX
  refine vx_catch (own := RL) (name := "java/lang/IndexOutOfBoundsException") (E := "java/lang/IndexOutOfBoundsException") hown [] ⟨0, 9, 12, 21⟩ [⟨0, 9, 16, 13⟩] (by rw [htab]; rfl) (fun z hz => absurd hz List.not_mem_nil) rfl (by decide) (hts _ q643) (hG.use t194) hcell hcv hcl ?_
  generalize H1 = H at hP hS ⊢
  have hP : va_P D vwCl [(h, .inr (11, [.ref cs, f1, f2, f3, f4, f5, f6])), (cs, .inr (4, [.int md, ed, .int 0]))] H := hP
  refine lv_astore (lv' := [(4, .ref q9), (0, .ref h), (1, .int p0), (2, .int p1), (3, .ref o)]) hx hb dL_out_12 hl (by decide) rfl (fun ls hl => ?_)
  refine lv_iconst (v := 1) hx hb dL_out_14 (by decide) ?_
  refine W.widen (k := 1) (n := 6) (Nat.le_of_ble_eq_true rfl) (Nat.le_of_ble_eq_true rfl) ?_
  exact W.iret (v := 1) hx hb hr (fun t ht hW => ⟨⟨1, (), rfl, rfl, trivial⟩, hS.F ht⟩) hS.2.2 dL_out_15
set_option maxHeartbeats 4000000 in
set_option maxRecDepth 100000 in
/-- the helper eaten on the fresh object: 1 -/
theorem k_LL_eaten (l : Launch) (hst : l.stackTraces = false) (D : va_G) (h : Nat) (cs : Nat) (f1 f2 f3 f4 f5 f6 : Value) (md : Int32) (ed : Value) (p0 : Int32) (o : Nat) (sz : Nat) : Met l yL_eaten (wsH yL_eaten cL_eaten 4 (some .int) [(0, 8, 11, 21)]) ({ frames := 8, cells := 1, slots := 6, locals := 124 }) (va_Pc [.ref h, .int p0, .ref o] (EV D [] [(h, .inr (11, [.ref cs, f1, f2, f3, f4, f5, f6])), (cs, .inr (4, [.int md, ed, .int 0]))] sz)) (va_Qi (fun (r : Int32) (_ : Unit) => r = 1) (fun _ _ => True) NoA) 1 6 NoA := by
  refine va_MetW (cc := cL_eaten) (maxL := 4) (ret := (some .int)) (hh := [(0, 8, 11, 21)]) (ws' := lw_all) (by decide) rfl ?_
  intro p e s m args below meth c s₁ B hml hv
  obtain ⟨rfl, hsz, hP, hK, hD0, hG, hZ0⟩ := hv
  have hx := B.exec
  have hb := B.bytes
  have hr := B.returns
  have hts0 := atoms_spec (ws := wsH yL_eaten cL_eaten 4 (some .int) [(0, 8, 11, 21)]) B.pre
  have hts : ∀ w ∈ lw_all, w.before _ s = true := fun w h => hts0 w (List.mem_cons_of_mem _ h)
  have hown : s.vm.findClass RL = some m.cls := findClass_of_methodNamed B.named
  have hlocks := B.notSynchronized
  have htab : c.exceptionTable.toList = tableOf [(0, 8, 11, 21)] := vx_table (x := objectInit) B (hts0 _ List.mem_cons_self)
  subst hsz
  have hD : va_D (fun _ => True) [(h, .inr (11, [.ref cs, f1, f2, f3, f4, f5, f6])), (cs, .inr (4, [.int md, ed, .int 0]))] := hD0
  have hZ : ZZ NoA s s.heap := hZ0
  have hS : va_S NoA s.heap s.heap [] := va_S.rf
  have hP : va_P D vwCl [(h, .inr (11, [.ref cs, f1, f2, f3, f4, f5, f6])), (cs, .inr (4, [.int md, ed, .int 0]))] s.heap := hP
  have hl := lv_entry ([.ref h, .int p0, .ref o]) (n := 4) (Nat.le_of_ble_eq_true rfl)
  rw [lg_entry_eq]
  generalize (lg_sl ([.ref h, .int p0, .ref o]) ++ List.replicate (4 - (lg_sl ([.ref h, .int p0, .ref o])).length) Slot.unset).toArray = ls at hl ⊢
  have hl : lv_has ls 4 [(0, .ref h), (1, .int p0), (2, .ref o)] := hl
  refine lv_aload_n hx hb dL_eaten_0 rfl (lv_at hl 2 rfl) ?_
  refine lv_iconst (v := 0) hx hb dL_eaten_1 (by decide) ?_
  refine lv_aload_n hx hb dL_eaten_2 rfl (lv_at hl 0 rfl) ?_
  refine lv_iload_n hx hb dL_eaten_3 rfl (lv_at hl 1 rfl) ?_
  have hPc := hP.sub (ws' := [(h, .inr (11, [.ref cs, f1, f2, f3, f4, f5, f6])), (cs, .inr (4, [.int md, ed, .int 0]))]) [0, 1] rfl
  have hDc := hD.sub (ws' := [(h, .inr (11, [.ref cs, f1, f2, f3, f4, f5, f6])), (cs, .inr (4, [.int md, ed, .int 0]))]) [0, 1] (by decide) rfl
  have hKc := hK.sub (tys' := []) [] rfl
  refine vx_calli (vx_runV (As := [.int p0]) (rest := [.int 0, .ref o]) ⟨hx, hb, hml, hown, hts⟩ (k_LF_eaten l hst D h cs f1 f2 f3 f4 f5 f6 md (ed) p0 s.heap.size) (cwV 1 hts (gV q903 q904 q905 q1 (gA q906)) rfl rfl rfl (by decide +kernel) ⟨Nat.le_of_ble_eq_true rfl, Nat.le_of_ble_eq_true rfl⟩) ⟨EV.fb, va_recv hKc hPc (ci := 11) (q0 := 0) rfl rfl, fun U hU hW => ⟨rfl, EV.at hPc hKc hDc hG (hZ.no hS) U hU hW⟩⟩ rfl rfl hl.1 rfl (lv_room (Nat.le_of_ble_eq_true rfl)) dL_eaten_4 ⟨Nat.le_of_ble_eq_true rfl, Nat.le_of_ble_eq_true rfl⟩) hS (fun q _ h => h.elim) (fun q h => h.elim) (fun q _ h => h.elim) (fun E ce q9 u t H1 locs1 ht hvm hpx hBX hz1 hk1 hS hcell hcv hcl => ?_) (fun r u t H1 locs1 ht hvm hw hB hz1 hk1 hS => hw.elim)
  have hP := P_kept hP hk1
  subst hBX
  refine vx_catch (own := RL) (name := "java/lang/IndexOutOfBoundsException") (E := "java/lang/IndexOutOfBoundsException") hown [] ⟨0, 8, 11, 21⟩ [] (by rw [htab]; rfl) (fun z hz => absurd hz List.not_mem_nil) rfl (by decide) (hts _ q643) (hG.use t194) hcell hcv hcl ?_
  generalize H1 = H at hP hS ⊢
  have hP : va_P D vwCl [(h, .inr (11, [.ref cs, f1, f2, f3, f4, f5, f6])), (cs, .inr (4, [.int md, ed, .int 0]))] H := hP
  refine lv_astore_n (lv' := [(3, .ref q9), (0, .ref h), (1, .int p0), (2, .ref o)]) hx hb dL_eaten_11 rfl hl (by decide) rfl (fun ls hl => ?_)
  refine lv_iconst (v := 1) hx hb dL_eaten_12 (by decide) ?_
  refine W.widen (k := 1) (n := 6) (Nat.le_of_ble_eq_true rfl) (Nat.le_of_ble_eq_true rfl) ?_
  exact W.iret (v := 1) hx hb hr (fun t ht hW => ⟨⟨1, (), rfl, rfl, trivial⟩, hS.F ht⟩) hS.2.2 dL_eaten_13
set_option maxHeartbeats 4000000 in
set_option maxRecDepth 100000 in
/-- the helper standing on the fresh object: 1 -/
theorem k_LL_standing (l : Launch) (hst : l.stackTraces = false) (D : va_G) (h : Nat) (cs : Nat) (f1 f2 f3 f4 f5 f6 : Value) (md : Int32) (ed : Value) (p0 : Int32) (o : Nat) (sz : Nat) : Met l yL_standing (wsH yL_standing cL_standing 4 (some .int) [(0, 9, 12, 21)]) ({ frames := 8, cells := 1, slots := 6, locals := 124 }) (va_Pc [.ref h, .int p0, .ref o] (EV D [] [(h, .inr (11, [.ref cs, f1, f2, f3, f4, f5, f6])), (cs, .inr (4, [.int md, ed, .int 0]))] sz)) (va_Qi (fun (r : Int32) (_ : Unit) => r = 1) (fun _ _ => True) NoA) 1 6 NoA := by
  refine va_MetW (cc := cL_standing) (maxL := 4) (ret := (some .int)) (hh := [(0, 9, 12, 21)]) (ws' := lw_all) (by decide) rfl ?_
  intro p e s m args below meth c s₁ B hml hv
  obtain ⟨rfl, hsz, hP, hK, hD0, hG, hZ0⟩ := hv
  have hx := B.exec
  have hb := B.bytes
  have hr := B.returns
  have hts0 := atoms_spec (ws := wsH yL_standing cL_standing 4 (some .int) [(0, 9, 12, 21)]) B.pre
  have hts : ∀ w ∈ lw_all, w.before _ s = true := fun w h => hts0 w (List.mem_cons_of_mem _ h)
  have hown : s.vm.findClass RL = some m.cls := findClass_of_methodNamed B.named
  have hlocks := B.notSynchronized
  have htab : c.exceptionTable.toList = tableOf [(0, 9, 12, 21)] := vx_table (x := objectInit) B (hts0 _ List.mem_cons_self)
  subst hsz
  have hD : va_D (fun _ => True) [(h, .inr (11, [.ref cs, f1, f2, f3, f4, f5, f6])), (cs, .inr (4, [.int md, ed, .int 0]))] := hD0
  have hZ : ZZ NoA s s.heap := hZ0
  have hS : va_S NoA s.heap s.heap [] := va_S.rf
  have hP : va_P D vwCl [(h, .inr (11, [.ref cs, f1, f2, f3, f4, f5, f6])), (cs, .inr (4, [.int md, ed, .int 0]))] s.heap := hP
  have hl := lv_entry ([.ref h, .int p0, .ref o]) (n := 4) (Nat.le_of_ble_eq_true rfl)
  rw [lg_entry_eq]
  generalize (lg_sl ([.ref h, .int p0, .ref o]) ++ List.replicate (4 - (lg_sl ([.ref h, .int p0, .ref o])).length) Slot.unset).toArray = ls at hl ⊢
  have hl : lv_has ls 4 [(0, .ref h), (1, .int p0), (2, .ref o)] := hl
  refine lv_aload_n hx hb dL_standing_0 rfl (lv_at hl 2 rfl) ?_
  refine lv_iconst (v := 0) hx hb dL_standing_1 (by decide) ?_
  refine lv_aload_n hx hb dL_standing_2 rfl (lv_at hl 0 rfl) ?_
  refine lv_iload_n hx hb dL_standing_3 rfl (lv_at hl 1 rfl) ?_
  have hPc := hP.sub (ws' := [(h, .inr (11, [.ref cs, f1, f2, f3, f4, f5, f6])), (cs, .inr (4, [.int md, ed, .int 0]))]) [0, 1] rfl
  have hDc := hD.sub (ws' := [(h, .inr (11, [.ref cs, f1, f2, f3, f4, f5, f6])), (cs, .inr (4, [.int md, ed, .int 0]))]) [0, 1] (by decide) rfl
  have hKc := hK.sub (tys' := []) [] rfl
  refine vx_calli (vx_runV (As := [.int p0]) (rest := [.int 0, .ref o]) ⟨hx, hb, hml, hown, hts⟩ (k_LF_standing l hst D h cs f1 f2 f3 f4 f5 f6 md (ed) p0 s.heap.size) (cwV 1 hts (gV q944 q945 q946 q1 (gA q947)) rfl rfl rfl (by decide +kernel) ⟨Nat.le_of_ble_eq_true rfl, Nat.le_of_ble_eq_true rfl⟩) ⟨EV.fb, va_recv hKc hPc (ci := 11) (q0 := 0) rfl rfl, fun U hU hW => ⟨rfl, EV.at hPc hKc hDc hG (hZ.no hS) U hU hW⟩⟩ rfl rfl hl.1 rfl (lv_room (Nat.le_of_ble_eq_true rfl)) dL_standing_4 ⟨Nat.le_of_ble_eq_true rfl, Nat.le_of_ble_eq_true rfl⟩) hS (fun q _ h => h.elim) (fun q h => h.elim) (fun q _ h => h.elim) (fun E ce q9 u t H1 locs1 ht hvm hpx hBX hz1 hk1 hS hcell hcv hcl => ?_) (fun r u t H1 locs1 ht hvm hw hB hz1 hk1 hS => hw.elim)
  have hP := P_kept hP hk1
  subst hBX
  refine vx_catch (own := RL) (name := "java/lang/IndexOutOfBoundsException") (E := "java/lang/IndexOutOfBoundsException") hown [] ⟨0, 9, 12, 21⟩ [] (by rw [htab]; rfl) (fun z hz => absurd hz List.not_mem_nil) rfl (by decide) (hts _ q643) (hG.use t194) hcell hcv hcl ?_
  generalize H1 = H at hP hS ⊢
  have hP : va_P D vwCl [(h, .inr (11, [.ref cs, f1, f2, f3, f4, f5, f6])), (cs, .inr (4, [.int md, ed, .int 0]))] H := hP
  refine lv_astore_n (lv' := [(3, .ref q9), (0, .ref h), (1, .int p0), (2, .ref o)]) hx hb dL_standing_12 rfl hl (by decide) rfl (fun ls hl => ?_)
  refine lv_iconst (v := 1) hx hb dL_standing_13 (by decide) ?_
  refine W.widen (k := 1) (n := 6) (Nat.le_of_ble_eq_true rfl) (Nat.le_of_ble_eq_true rfl) ?_
  exact W.iret (v := 1) hx hb hr (fun t ht hW => ⟨⟨1, (), rfl, rfl, trivial⟩, hS.F ht⟩) hS.2.2 dL_standing_14
set_option maxHeartbeats 4000000 in
set_option maxRecDepth 100000 in
/-- the helper recharge on the fresh object: 1 -/
theorem k_LL_recharge (l : Launch) (hst : l.stackTraces = false) (D : va_G) (h : Nat) (cs : Nat) (f1 f2 f3 f4 f5 f6 : Value) (md : Int32) (ed : Value) (p0 : Int32) (o : Nat) (sz : Nat) : Met l yL_recharge (wsH yL_recharge cL_recharge 4 (some .int) [(0, 8, 11, 21)]) ({ frames := 8, cells := 1, slots := 6, locals := 124 }) (va_Pc [.ref h, .int p0, .ref o] (EV D [] [(h, .inr (11, [.ref cs, f1, f2, f3, f4, f5, f6])), (cs, .inr (4, [.int md, ed, .int 0]))] sz)) (va_Qi (fun (r : Int32) (_ : Unit) => r = 1) (fun _ _ => True) NoA) 1 6 NoA := by
  refine va_MetW (cc := cL_recharge) (maxL := 4) (ret := (some .int)) (hh := [(0, 8, 11, 21)]) (ws' := lw_all) (by decide) rfl ?_
  intro p e s m args below meth c s₁ B hml hv
  obtain ⟨rfl, hsz, hP, hK, hD0, hG, hZ0⟩ := hv
  have hx := B.exec
  have hb := B.bytes
  have hr := B.returns
  have hts0 := atoms_spec (ws := wsH yL_recharge cL_recharge 4 (some .int) [(0, 8, 11, 21)]) B.pre
  have hts : ∀ w ∈ lw_all, w.before _ s = true := fun w h => hts0 w (List.mem_cons_of_mem _ h)
  have hown : s.vm.findClass RL = some m.cls := findClass_of_methodNamed B.named
  have hlocks := B.notSynchronized
  have htab : c.exceptionTable.toList = tableOf [(0, 8, 11, 21)] := vx_table (x := objectInit) B (hts0 _ List.mem_cons_self)
  subst hsz
  have hD : va_D (fun _ => True) [(h, .inr (11, [.ref cs, f1, f2, f3, f4, f5, f6])), (cs, .inr (4, [.int md, ed, .int 0]))] := hD0
  have hZ : ZZ NoA s s.heap := hZ0
  have hS : va_S NoA s.heap s.heap [] := va_S.rf
  have hP : va_P D vwCl [(h, .inr (11, [.ref cs, f1, f2, f3, f4, f5, f6])), (cs, .inr (4, [.int md, ed, .int 0]))] s.heap := hP
  have hl := lv_entry ([.ref h, .int p0, .ref o]) (n := 4) (Nat.le_of_ble_eq_true rfl)
  rw [lg_entry_eq]
  generalize (lg_sl ([.ref h, .int p0, .ref o]) ++ List.replicate (4 - (lg_sl ([.ref h, .int p0, .ref o])).length) Slot.unset).toArray = ls at hl ⊢
  have hl : lv_has ls 4 [(0, .ref h), (1, .int p0), (2, .ref o)] := hl
  refine lv_aload_n hx hb dL_recharge_0 rfl (lv_at hl 2 rfl) ?_
  refine lv_iconst (v := 0) hx hb dL_recharge_1 (by decide) ?_
  refine lv_aload_n hx hb dL_recharge_2 rfl (lv_at hl 0 rfl) ?_
  refine lv_iload_n hx hb dL_recharge_3 rfl (lv_at hl 1 rfl) ?_
  have hPc := hP.sub (ws' := [(h, .inr (11, [.ref cs, f1, f2, f3, f4, f5, f6])), (cs, .inr (4, [.int md, ed, .int 0]))]) [0, 1] rfl
  have hDc := hD.sub (ws' := [(h, .inr (11, [.ref cs, f1, f2, f3, f4, f5, f6])), (cs, .inr (4, [.int md, ed, .int 0]))]) [0, 1] (by decide) rfl
  have hKc := hK.sub (tys' := []) [] rfl
  refine vx_calli (vx_runV (As := [.int p0]) (rest := [.int 0, .ref o]) ⟨hx, hb, hml, hown, hts⟩ (k_LF_recharge l hst D h cs f1 f2 f3 f4 f5 f6 md (ed) p0 s.heap.size) (cwV 1 hts (gV q951 q952 q953 q1 (gA q954)) rfl rfl rfl (by decide +kernel) ⟨Nat.le_of_ble_eq_true rfl, Nat.le_of_ble_eq_true rfl⟩) ⟨EV.fb, va_recv hKc hPc (ci := 11) (q0 := 0) rfl rfl, fun U hU hW => ⟨rfl, EV.at hPc hKc hDc hG (hZ.no hS) U hU hW⟩⟩ rfl rfl hl.1 rfl (lv_room (Nat.le_of_ble_eq_true rfl)) dL_recharge_4 ⟨Nat.le_of_ble_eq_true rfl, Nat.le_of_ble_eq_true rfl⟩) hS (fun q _ h => h.elim) (fun q h => h.elim) (fun q _ h => h.elim) (fun E ce q9 u t H1 locs1 ht hvm hpx hBX hz1 hk1 hS hcell hcv hcl => ?_) (fun r u t H1 locs1 ht hvm hw hB hz1 hk1 hS => hw.elim)
  have hP := P_kept hP hk1
  subst hBX
  refine vx_catch (own := RL) (name := "java/lang/IndexOutOfBoundsException") (E := "java/lang/IndexOutOfBoundsException") hown [] ⟨0, 8, 11, 21⟩ [] (by rw [htab]; rfl) (fun z hz => absurd hz List.not_mem_nil) rfl (by decide) (hts _ q643) (hG.use t194) hcell hcv hcl ?_
  generalize H1 = H at hP hS ⊢
  have hP : va_P D vwCl [(h, .inr (11, [.ref cs, f1, f2, f3, f4, f5, f6])), (cs, .inr (4, [.int md, ed, .int 0]))] H := hP
  refine lv_astore_n (lv' := [(3, .ref q9), (0, .ref h), (1, .int p0), (2, .ref o)]) hx hb dL_recharge_11 rfl hl (by decide) rfl (fun ls hl => ?_)
  refine lv_iconst (v := 1) hx hb dL_recharge_12 (by decide) ?_
  refine W.widen (k := 1) (n := 6) (Nat.le_of_ble_eq_true rfl) (Nat.le_of_ble_eq_true rfl) ?_
  exact W.iret (v := 1) hx hb hr (fun t ht hW => ⟨⟨1, (), rfl, rfl, trivial⟩, hS.F ht⟩) hS.2.2 dL_recharge_13
set_option maxHeartbeats 4000000 in
set_option maxRecDepth 100000 in
/-- the helper runoff on the fresh object: 1 -/
theorem k_LL_runoff (l : Launch) (hst : l.stackTraces = false) (D : va_G) (h : Nat) (cs : Nat) (f1 f2 f3 f4 f5 f6 : Value) (md : Int32) (ed : Value) (p0 : Int32) (o : Nat) (sz : Nat) : Met l yL_runoff (wsH yL_runoff cL_runoff 4 (some .int) [(0, 8, 11, 21)]) ({ frames := 8, cells := 1, slots := 6, locals := 124 }) (va_Pc [.ref h, .int p0, .ref o] (EV D [] [(h, .inr (11, [.ref cs, f1, f2, f3, f4, f5, f6])), (cs, .inr (4, [.int md, ed, .int 0]))] sz)) (va_Qi (fun (r : Int32) (_ : Unit) => r = 1) (fun _ _ => True) NoA) 1 6 NoA := by
  refine va_MetW (cc := cL_runoff) (maxL := 4) (ret := (some .int)) (hh := [(0, 8, 11, 21)]) (ws' := lw_all) (by decide) rfl ?_
  intro p e s m args below meth c s₁ B hml hv
  obtain ⟨rfl, hsz, hP, hK, hD0, hG, hZ0⟩ := hv
  have hx := B.exec
  have hb := B.bytes
  have hr := B.returns
  have hts0 := atoms_spec (ws := wsH yL_runoff cL_runoff 4 (some .int) [(0, 8, 11, 21)]) B.pre
  have hts : ∀ w ∈ lw_all, w.before _ s = true := fun w h => hts0 w (List.mem_cons_of_mem _ h)
  have hown : s.vm.findClass RL = some m.cls := findClass_of_methodNamed B.named
  have hlocks := B.notSynchronized
  have htab : c.exceptionTable.toList = tableOf [(0, 8, 11, 21)] := vx_table (x := objectInit) B (hts0 _ List.mem_cons_self)
  subst hsz
  have hD : va_D (fun _ => True) [(h, .inr (11, [.ref cs, f1, f2, f3, f4, f5, f6])), (cs, .inr (4, [.int md, ed, .int 0]))] := hD0
  have hZ : ZZ NoA s s.heap := hZ0
  have hS : va_S NoA s.heap s.heap [] := va_S.rf
  have hP : va_P D vwCl [(h, .inr (11, [.ref cs, f1, f2, f3, f4, f5, f6])), (cs, .inr (4, [.int md, ed, .int 0]))] s.heap := hP
  have hl := lv_entry ([.ref h, .int p0, .ref o]) (n := 4) (Nat.le_of_ble_eq_true rfl)
  rw [lg_entry_eq]
  generalize (lg_sl ([.ref h, .int p0, .ref o]) ++ List.replicate (4 - (lg_sl ([.ref h, .int p0, .ref o])).length) Slot.unset).toArray = ls at hl ⊢
  have hl : lv_has ls 4 [(0, .ref h), (1, .int p0), (2, .ref o)] := hl
  refine lv_aload_n hx hb dL_runoff_0 rfl (lv_at hl 2 rfl) ?_
  refine lv_iconst (v := 0) hx hb dL_runoff_1 (by decide) ?_
  refine lv_aload_n hx hb dL_runoff_2 rfl (lv_at hl 0 rfl) ?_
  refine lv_iload_n hx hb dL_runoff_3 rfl (lv_at hl 1 rfl) ?_
  have hPc := hP.sub (ws' := [(h, .inr (11, [.ref cs, f1, f2, f3, f4, f5, f6])), (cs, .inr (4, [.int md, ed, .int 0]))]) [0, 1] rfl
  have hDc := hD.sub (ws' := [(h, .inr (11, [.ref cs, f1, f2, f3, f4, f5, f6])), (cs, .inr (4, [.int md, ed, .int 0]))]) [0, 1] (by decide) rfl
  have hKc := hK.sub (tys' := []) [] rfl
  refine vx_calli (vx_runV (As := [.int p0]) (rest := [.int 0, .ref o]) ⟨hx, hb, hml, hown, hts⟩ (k_LF_runoff l hst D h cs f1 f2 f3 f4 f5 f6 md (ed) p0 s.heap.size) (cwV 1 hts (gV q958 q959 q960 q1 (gA q961)) rfl rfl rfl (by decide +kernel) ⟨Nat.le_of_ble_eq_true rfl, Nat.le_of_ble_eq_true rfl⟩) ⟨EV.fb, va_recv hKc hPc (ci := 11) (q0 := 0) rfl rfl, fun U hU hW => ⟨rfl, EV.at hPc hKc hDc hG (hZ.no hS) U hU hW⟩⟩ rfl rfl hl.1 rfl (lv_room (Nat.le_of_ble_eq_true rfl)) dL_runoff_4 ⟨Nat.le_of_ble_eq_true rfl, Nat.le_of_ble_eq_true rfl⟩) hS (fun q _ h => h.elim) (fun q h => h.elim) (fun q _ h => h.elim) (fun E ce q9 u t H1 locs1 ht hvm hpx hBX hz1 hk1 hS hcell hcv hcl => ?_) (fun r u t H1 locs1 ht hvm hw hB hz1 hk1 hS => hw.elim)
  have hP := P_kept hP hk1
  subst hBX
  refine vx_catch (own := RL) (name := "java/lang/IndexOutOfBoundsException") (E := "java/lang/IndexOutOfBoundsException") hown [] ⟨0, 8, 11, 21⟩ [] (by rw [htab]; rfl) (fun z hz => absurd hz List.not_mem_nil) rfl (by decide) (hts _ q643) (hG.use t194) hcell hcv hcl ?_
  generalize H1 = H at hP hS ⊢
  have hP : va_P D vwCl [(h, .inr (11, [.ref cs, f1, f2, f3, f4, f5, f6])), (cs, .inr (4, [.int md, ed, .int 0]))] H := hP
  refine lv_astore_n (lv' := [(3, .ref q9), (0, .ref h), (1, .int p0), (2, .ref o)]) hx hb dL_runoff_11 rfl hl (by decide) rfl (fun ls hl => ?_)
  refine lv_iconst (v := 1) hx hb dL_runoff_12 (by decide) ?_
  refine W.widen (k := 1) (n := 6) (Nat.le_of_ble_eq_true rfl) (Nat.le_of_ble_eq_true rfl) ?_
  exact W.iret (v := 1) hx hb hr (fun t ht hW => ⟨⟨1, (), rfl, rfl, trivial⟩, hS.F ht⟩) hS.2.2 dL_runoff_13
set_option maxHeartbeats 4000000 in
set_option maxRecDepth 100000 in
/-- the helper vapour on the fresh object: 1 -/
theorem k_LL_vapour (l : Launch) (hst : l.stackTraces = false) (D : va_G) (h : Nat) (cs : Nat) (f1 f2 f3 f4 f5 f6 : Value) (md : Int32) (ed : Value) (p0 : Int32) (o : Nat) (sz : Nat) : Met l yL_vapour (wsH yL_vapour cL_vapour 4 (some .int) [(0, 8, 11, 21)]) ({ frames := 8, cells := 1, slots := 6, locals := 124 }) (va_Pc [.ref h, .int p0, .ref o] (EV D [] [(h, .inr (11, [.ref cs, f1, f2, f3, f4, f5, f6])), (cs, .inr (4, [.int md, ed, .int 0]))] sz)) (va_Qi (fun (r : Int32) (_ : Unit) => r = 1) (fun _ _ => True) NoA) 1 6 NoA := by
  refine va_MetW (cc := cL_vapour) (maxL := 4) (ret := (some .int)) (hh := [(0, 8, 11, 21)]) (ws' := lw_all) (by decide) rfl ?_
  intro p e s m args below meth c s₁ B hml hv
  obtain ⟨rfl, hsz, hP, hK, hD0, hG, hZ0⟩ := hv
  have hx := B.exec
  have hb := B.bytes
  have hr := B.returns
  have hts0 := atoms_spec (ws := wsH yL_vapour cL_vapour 4 (some .int) [(0, 8, 11, 21)]) B.pre
  have hts : ∀ w ∈ lw_all, w.before _ s = true := fun w h => hts0 w (List.mem_cons_of_mem _ h)
  have hown : s.vm.findClass RL = some m.cls := findClass_of_methodNamed B.named
  have hlocks := B.notSynchronized
  have htab : c.exceptionTable.toList = tableOf [(0, 8, 11, 21)] := vx_table (x := objectInit) B (hts0 _ List.mem_cons_self)
  subst hsz
  have hD : va_D (fun _ => True) [(h, .inr (11, [.ref cs, f1, f2, f3, f4, f5, f6])), (cs, .inr (4, [.int md, ed, .int 0]))] := hD0
  have hZ : ZZ NoA s s.heap := hZ0
  have hS : va_S NoA s.heap s.heap [] := va_S.rf
  have hP : va_P D vwCl [(h, .inr (11, [.ref cs, f1, f2, f3, f4, f5, f6])), (cs, .inr (4, [.int md, ed, .int 0]))] s.heap := hP
  have hl := lv_entry ([.ref h, .int p0, .ref o]) (n := 4) (Nat.le_of_ble_eq_true rfl)
  rw [lg_entry_eq]
  generalize (lg_sl ([.ref h, .int p0, .ref o]) ++ List.replicate (4 - (lg_sl ([.ref h, .int p0, .ref o])).length) Slot.unset).toArray = ls at hl ⊢
  have hl : lv_has ls 4 [(0, .ref h), (1, .int p0), (2, .ref o)] := hl
  refine lv_aload_n hx hb dL_vapour_0 rfl (lv_at hl 2 rfl) ?_
  refine lv_iconst (v := 0) hx hb dL_vapour_1 (by decide) ?_
  refine lv_aload_n hx hb dL_vapour_2 rfl (lv_at hl 0 rfl) ?_
  refine lv_iload_n hx hb dL_vapour_3 rfl (lv_at hl 1 rfl) ?_
  have hPc := hP.sub (ws' := [(h, .inr (11, [.ref cs, f1, f2, f3, f4, f5, f6])), (cs, .inr (4, [.int md, ed, .int 0]))]) [0, 1] rfl
  have hDc := hD.sub (ws' := [(h, .inr (11, [.ref cs, f1, f2, f3, f4, f5, f6])), (cs, .inr (4, [.int md, ed, .int 0]))]) [0, 1] (by decide) rfl
  have hKc := hK.sub (tys' := []) [] rfl
  refine vx_calli (vx_runV (As := [.int p0]) (rest := [.int 0, .ref o]) ⟨hx, hb, hml, hown, hts⟩ (k_LF_vapour l hst D h cs f1 f2 f3 f4 f5 f6 md (ed) p0 s.heap.size) (cwV 1 hts (gV q965 q966 q967 q1 (gA q968)) rfl rfl rfl (by decide +kernel) ⟨Nat.le_of_ble_eq_true rfl, Nat.le_of_ble_eq_true rfl⟩) ⟨EV.fb, va_recv hKc hPc (ci := 11) (q0 := 0) rfl rfl, fun U hU hW => ⟨rfl, EV.at hPc hKc hDc hG (hZ.no hS) U hU hW⟩⟩ rfl rfl hl.1 rfl (lv_room (Nat.le_of_ble_eq_true rfl)) dL_vapour_4 ⟨Nat.le_of_ble_eq_true rfl, Nat.le_of_ble_eq_true rfl⟩) hS (fun q _ h => h.elim) (fun q h => h.elim) (fun q _ h => h.elim) (fun E ce q9 u t H1 locs1 ht hvm hpx hBX hz1 hk1 hS hcell hcv hcl => ?_) (fun r u t H1 locs1 ht hvm hw hB hz1 hk1 hS => hw.elim)
  have hP := P_kept hP hk1
  subst hBX
  refine vx_catch (own := RL) (name := "java/lang/IndexOutOfBoundsException") (E := "java/lang/IndexOutOfBoundsException") hown [] ⟨0, 8, 11, 21⟩ [] (by rw [htab]; rfl) (fun z hz => absurd hz List.not_mem_nil) rfl (by decide) (hts _ q643) (hG.use t194) hcell hcv hcl ?_
  generalize H1 = H at hP hS ⊢
  have hP : va_P D vwCl [(h, .inr (11, [.ref cs, f1, f2, f3, f4, f5, f6])), (cs, .inr (4, [.int md, ed, .int 0]))] H := hP
  refine lv_astore_n (lv' := [(3, .ref q9), (0, .ref h), (1, .int p0), (2, .ref o)]) hx hb dL_vapour_11 rfl hl (by decide) rfl (fun ls hl => ?_)
  refine lv_iconst (v := 1) hx hb dL_vapour_12 (by decide) ?_
  refine W.widen (k := 1) (n := 6) (Nat.le_of_ble_eq_true rfl) (Nat.le_of_ble_eq_true rfl) ?_
  exact W.iret (v := 1) hx hb hr (fun t ht hW => ⟨⟨1, (), rfl, rfl, trivial⟩, hS.F ht⟩) hS.2.2 dL_vapour_13
set_option maxHeartbeats 4000000 in
set_option maxRecDepth 100000 in
/-- the helper isFrozen on the fresh object: 1 -/
theorem k_LL_isFrozen (l : Launch) (hst : l.stackTraces = false) (D : va_G) (h : Nat) (cs : Nat) (f1 f2 f3 f4 f5 f6 : Value) (md : Int32) (ed : Value) (p0 : Int32) (p1 : Int32) (o : Nat) (sz : Nat) : Met l yL_isFrozen (wsH yL_isFrozen cL_isFrozen 5 (some .int) [(0, 17, 20, 21)]) ({ frames := 9, cells := 1, slots := 6, locals := 148 }) (va_Pc [.ref h, .int p0, .int p1, .ref o] (EV D [] [(h, .inr (11, [.ref cs, f1, f2, f3, f4, f5, f6])), (cs, .inr (4, [.int md, ed, .int 0]))] sz)) (va_Qi (fun (r : Int32) (_ : Unit) => r = 1) (fun _ _ => True) NoA) 1 6 NoA := by
  refine va_MetW (cc := cL_isFrozen) (maxL := 5) (ret := (some .int)) (hh := [(0, 17, 20, 21)]) (ws' := lw_all) (by decide) rfl ?_
  intro p e s m args below meth c s₁ B hml hv
  obtain ⟨rfl, hsz, hP, hK, hD0, hG, hZ0⟩ := hv
  have hx := B.exec
  have hb := B.bytes
  have hr := B.returns
  have hts0 := atoms_spec (ws := wsH yL_isFrozen cL_isFrozen 5 (some .int) [(0, 17, 20, 21)]) B.pre
  have hts : ∀ w ∈ lw_all, w.before _ s = true := fun w h => hts0 w (List.mem_cons_of_mem _ h)
  have hown : s.vm.findClass RL = some m.cls := findClass_of_methodNamed B.named
  have hlocks := B.notSynchronized
  have htab : c.exceptionTable.toList = tableOf [(0, 17, 20, 21)] := vx_table (x := objectInit) B (hts0 _ List.mem_cons_self)
  subst hsz
  have hD : va_D (fun _ => True) [(h, .inr (11, [.ref cs, f1, f2, f3, f4, f5, f6])), (cs, .inr (4, [.int md, ed, .int 0]))] := hD0
  have hZ : ZZ NoA s s.heap := hZ0
  have hS : va_S NoA s.heap s.heap [] := va_S.rf
  have hP : va_P D vwCl [(h, .inr (11, [.ref cs, f1, f2, f3, f4, f5, f6])), (cs, .inr (4, [.int md, ed, .int 0]))] s.heap := hP
  have hl := lv_entry ([.ref h, .int p0, .int p1, .ref o]) (n := 5) (Nat.le_of_ble_eq_true rfl)
  rw [lg_entry_eq]
  generalize (lg_sl ([.ref h, .int p0, .int p1, .ref o]) ++ List.replicate (5 - (lg_sl ([.ref h, .int p0, .int p1, .ref o])).length) Slot.unset).toArray = ls at hl ⊢
  have hl : lv_has ls 5 [(0, .ref h), (1, .int p0), (2, .int p1), (3, .ref o)] := hl
  refine lv_aload_n hx hb dL_isFrozen_0 rfl (lv_at hl 3 rfl) ?_
  refine lv_iconst (v := 0) hx hb dL_isFrozen_1 (by decide) ?_
  refine lv_aload_n hx hb dL_isFrozen_2 rfl (lv_at hl 0 rfl) ?_
  refine lv_iload_n hx hb dL_isFrozen_3 rfl (lv_at hl 1 rfl) ?_
  refine lv_iload_n hx hb dL_isFrozen_4 rfl (lv_at hl 2 rfl) ?_
  have hPc := hP.sub (ws' := [(h, .inr (11, [.ref cs, f1, f2, f3, f4, f5, f6])), (cs, .inr (4, [.int md, ed, .int 0]))]) [0, 1] rfl
  have hDc := hD.sub (ws' := [(h, .inr (11, [.ref cs, f1, f2, f3, f4, f5, f6])), (cs, .inr (4, [.int md, ed, .int 0]))]) [0, 1] (by decide) rfl
  have hKc := hK.sub (tys' := []) [] rfl
  refine vx_calli (vx_runV (As := [.int p0, .int p1]) (rest := [.int 0, .ref o]) ⟨hx, hb, hml, hown, hts⟩ (k_LF_isFrozen l hst D h cs f1 f2 f3 f4 f5 f6 md (ed) p0 p1 s.heap.size) (cwV 2 hts (gV q972 q973 q974 q1 (gA q975)) rfl rfl rfl (by decide +kernel) ⟨Nat.le_of_ble_eq_true rfl, Nat.le_of_ble_eq_true rfl⟩) ⟨EV.fb, va_recv hKc hPc (ci := 11) (q0 := 0) rfl rfl, fun U hU hW => ⟨rfl, EV.at hPc hKc hDc hG (hZ.no hS) U hU hW⟩⟩ rfl rfl hl.1 rfl (lv_room (Nat.le_of_ble_eq_true rfl)) dL_isFrozen_5 ⟨Nat.le_of_ble_eq_true rfl, Nat.le_of_ble_eq_true rfl⟩) hS (fun q _ h => h.elim) (fun q h => h.elim) (fun q _ h => h.elim) (fun E ce q9 u t H1 locs1 ht hvm hpx hBX hz1 hk1 hS hcell hcv hcl => ?_) (fun r u t H1 locs1 ht hvm hw hB hz1 hk1 hS => hw.elim)
  have hP := P_kept hP hk1
  subst hBX
  refine vx_catch (own := RL) (name := "java/lang/IndexOutOfBoundsException") (E := "java/lang/IndexOutOfBoundsException") hown [] ⟨0, 17, 20, 21⟩ [] (by rw [htab]; rfl) (fun z hz => absurd hz List.not_mem_nil) rfl (by decide) (hts _ q643) (hG.use t194) hcell hcv hcl ?_
  generalize H1 = H at hP hS ⊢
  have hP : va_P D vwCl [(h, .inr (11, [.ref cs, f1, f2, f3, f4, f5, f6])), (cs, .inr (4, [.int md, ed, .int 0]))] H := hP
  refine lv_astore (lv' := [(4, .ref q9), (0, .ref h), (1, .int p0), (2, .int p1), (3, .ref o)]) hx hb dL_isFrozen_20 hl (by decide) rfl (fun ls hl => ?_)
  refine lv_iconst (v := 1) hx hb dL_isFrozen_22 (by decide) ?_
  refine W.widen (k := 1) (n := 6) (Nat.le_of_ble_eq_true rfl) (Nat.le_of_ble_eq_true rfl) ?_
  exact W.iret (v := 1) hx hb hr (fun t ht hW => ⟨⟨1, (), rfl, rfl, trivial⟩, hS.F ht⟩) hS.2.2 dL_isFrozen_23
set_option maxHeartbeats 4000000 in
set_option maxRecDepth 100000 in
/-- the helper frost on the fresh object: 1 -/
theorem k_LL_frost (l : Launch) (hst : l.stackTraces = false) (D : va_G) (h : Nat) (cs : Nat) (f1 f2 f3 f4 f5 f6 : Value) (md : Int32) (ed : Value) (p0 : Int32) (p1 : Int32) (o : Nat) (sz : Nat) : Met l yL_frost (wsH yL_frost cL_frost 5 (some .int) [(0, 10, 13, 21)]) ({ frames := 9, cells := 1, slots := 6, locals := 148 }) (va_Pc [.ref h, .int p0, .int p1, .ref o] (EV D [] [(h, .inr (11, [.ref cs, f1, f2, f3, f4, f5, f6])), (cs, .inr (4, [.int md, ed, .int 0]))] sz)) (va_Qi (fun (r : Int32) (_ : Unit) => r = 1) (fun _ _ => True) NoA) 1 6 NoA := by
  refine va_MetW (cc := cL_frost) (maxL := 5) (ret := (some .int)) (hh := [(0, 10, 13, 21)]) (ws' := lw_all) (by decide) rfl ?_
  intro p e s m args below meth c s₁ B hml hv
  obtain ⟨rfl, hsz, hP, hK, hD0, hG, hZ0⟩ := hv
  have hx := B.exec
  have hb := B.bytes
  have hr := B.returns
  have hts0 := atoms_spec (ws := wsH yL_frost cL_frost 5 (some .int) [(0, 10, 13, 21)]) B.pre
  have hts : ∀ w ∈ lw_all, w.before _ s = true := fun w h => hts0 w (List.mem_cons_of_mem _ h)
  have hown : s.vm.findClass RL = some m.cls := findClass_of_methodNamed B.named
  have hlocks := B.notSynchronized
  have htab : c.exceptionTable.toList = tableOf [(0, 10, 13, 21)] := vx_table (x := objectInit) B (hts0 _ List.mem_cons_self)
  subst hsz
  have hD : va_D (fun _ => True) [(h, .inr (11, [.ref cs, f1, f2, f3, f4, f5, f6])), (cs, .inr (4, [.int md, ed, .int 0]))] := hD0
  have hZ : ZZ NoA s s.heap := hZ0
  have hS : va_S NoA s.heap s.heap [] := va_S.rf
  have hP : va_P D vwCl [(h, .inr (11, [.ref cs, f1, f2, f3, f4, f5, f6])), (cs, .inr (4, [.int md, ed, .int 0]))] s.heap := hP
  have hl := lv_entry ([.ref h, .int p0, .int p1, .ref o]) (n := 5) (Nat.le_of_ble_eq_true rfl)
  rw [lg_entry_eq]
  generalize (lg_sl ([.ref h, .int p0, .int p1, .ref o]) ++ List.replicate (5 - (lg_sl ([.ref h, .int p0, .int p1, .ref o])).length) Slot.unset).toArray = ls at hl ⊢
  have hl : lv_has ls 5 [(0, .ref h), (1, .int p0), (2, .int p1), (3, .ref o)] := hl
  refine lv_aload_n hx hb dL_frost_0 rfl (lv_at hl 3 rfl) ?_
  refine lv_iconst (v := 0) hx hb dL_frost_1 (by decide) ?_
  refine lv_aload_n hx hb dL_frost_2 rfl (lv_at hl 0 rfl) ?_
  refine lv_iload_n hx hb dL_frost_3 rfl (lv_at hl 1 rfl) ?_
  refine lv_iload_n hx hb dL_frost_4 rfl (lv_at hl 2 rfl) ?_
  have hPc := hP.sub (ws' := [(h, .inr (11, [.ref cs, f1, f2, f3, f4, f5, f6])), (cs, .inr (4, [.int md, ed, .int 0]))]) [0, 1] rfl
  have hDc := hD.sub (ws' := [(h, .inr (11, [.ref cs, f1, f2, f3, f4, f5, f6])), (cs, .inr (4, [.int md, ed, .int 0]))]) [0, 1] (by decide) rfl
  have hKc := hK.sub (tys' := []) [] rfl
  refine vx_calli (vx_runV (As := [.int p0, .int p1]) (rest := [.int 0, .ref o]) ⟨hx, hb, hml, hown, hts⟩ (k_LF_frost l hst D h cs f1 f2 f3 f4 f5 f6 md (ed) p0 p1 s.heap.size) (cwV 2 hts (gV q979 q980 q981 q1 (gA q982)) rfl rfl rfl (by decide +kernel) ⟨Nat.le_of_ble_eq_true rfl, Nat.le_of_ble_eq_true rfl⟩) ⟨EV.fb, va_recv hKc hPc (ci := 11) (q0 := 0) rfl rfl, fun U hU hW => ⟨rfl, EV.at hPc hKc hDc hG (hZ.no hS) U hU hW⟩⟩ rfl rfl hl.1 rfl (lv_room (Nat.le_of_ble_eq_true rfl)) dL_frost_5 ⟨Nat.le_of_ble_eq_true rfl, Nat.le_of_ble_eq_true rfl⟩) hS (fun q _ h => h.elim) (fun q h => h.elim) (fun q _ h => h.elim) (fun E ce q9 u t H1 locs1 ht hvm hpx hBX hz1 hk1 hS hcell hcv hcl => ?_) (fun r u t H1 locs1 ht hvm hw hB hz1 hk1 hS => hw.elim)
  have hP := P_kept hP hk1
  subst hBX
  refine vx_catch (own := RL) (name := "java/lang/IndexOutOfBoundsException") (E := "java/lang/IndexOutOfBoundsException") hown [] ⟨0, 10, 13, 21⟩ [] (by rw [htab]; rfl) (fun z hz => absurd hz List.not_mem_nil) rfl (by decide) (hts _ q643) (hG.use t194) hcell hcv hcl ?_
  generalize H1 = H at hP hS ⊢
  have hP : va_P D vwCl [(h, .inr (11, [.ref cs, f1, f2, f3, f4, f5, f6])), (cs, .inr (4, [.int md, ed, .int 0]))] H := hP
  refine lv_astore (lv' := [(4, .ref q9), (0, .ref h), (1, .int p0), (2, .int p1), (3, .ref o)]) hx hb dL_frost_13 hl (by decide) rfl (fun ls hl => ?_)
  refine lv_iconst (v := 1) hx hb dL_frost_15 (by decide) ?_
  refine W.widen (k := 1) (n := 6) (Nat.le_of_ble_eq_true rfl) (Nat.le_of_ble_eq_true rfl) ?_
  exact W.iret (v := 1) hx hb hr (fun t ht hW => ⟨⟨1, (), rfl, rfl, trivial⟩, hS.F ht⟩) hS.2.2 dL_frost_16
set_option maxHeartbeats 4000000 in
set_option maxRecDepth 100000 in
/-- the helper heave on the fresh object: 1 -/
theorem k_LL_heave (l : Launch) (hst : l.stackTraces = false) (D : va_G) (h : Nat) (cs : Nat) (f1 f2 f3 f4 f5 f6 : Value) (md : Int32) (ed : Value) (p0 : Int32) (o : Nat) (sz : Nat) : Met l yL_heave (wsH yL_heave cL_heave 4 (some .int) [(0, 9, 12, 21)]) ({ frames := 8, cells := 1, slots := 6, locals := 124 }) (va_Pc [.ref h, .int p0, .ref o] (EV D [] [(h, .inr (11, [.ref cs, f1, f2, f3, f4, f5, f6])), (cs, .inr (4, [.int md, ed, .int 0]))] sz)) (va_Qi (fun (r : Int32) (_ : Unit) => r = 1) (fun _ _ => True) NoA) 1 6 NoA := by
  refine va_MetW (cc := cL_heave) (maxL := 4) (ret := (some .int)) (hh := [(0, 9, 12, 21)]) (ws' := lw_all) (by decide) rfl ?_
  intro p e s m args below meth c s₁ B hml hv
  obtain ⟨rfl, hsz, hP, hK, hD0, hG, hZ0⟩ := hv
  have hx := B.exec
  have hb := B.bytes
  have hr := B.returns
  have hts0 := atoms_spec (ws := wsH yL_heave cL_heave 4 (some .int) [(0, 9, 12, 21)]) B.pre
  have hts : ∀ w ∈ lw_all, w.before _ s = true := fun w h => hts0 w (List.mem_cons_of_mem _ h)
  have hown : s.vm.findClass RL = some m.cls := findClass_of_methodNamed B.named
  have hlocks := B.notSynchronized
  have htab : c.exceptionTable.toList = tableOf [(0, 9, 12, 21)] := vx_table (x := objectInit) B (hts0 _ List.mem_cons_self)
  subst hsz
  have hD : va_D (fun _ => True) [(h, .inr (11, [.ref cs, f1, f2, f3, f4, f5, f6])), (cs, .inr (4, [.int md, ed, .int 0]))] := hD0
  have hZ : ZZ NoA s s.heap := hZ0
  have hS : va_S NoA s.heap s.heap [] := va_S.rf
  have hP : va_P D vwCl [(h, .inr (11, [.ref cs, f1, f2, f3, f4, f5, f6])), (cs, .inr (4, [.int md, ed, .int 0]))] s.heap := hP
  have hl := lv_entry ([.ref h, .int p0, .ref o]) (n := 4) (Nat.le_of_ble_eq_true rfl)
  rw [lg_entry_eq]
  generalize (lg_sl ([.ref h, .int p0, .ref o]) ++ List.replicate (4 - (lg_sl ([.ref h, .int p0, .ref o])).length) Slot.unset).toArray = ls at hl ⊢
  have hl : lv_has ls 4 [(0, .ref h), (1, .int p0), (2, .ref o)] := hl
  refine lv_aload_n hx hb dL_heave_0 rfl (lv_at hl 2 rfl) ?_
  refine lv_iconst (v := 0) hx hb dL_heave_1 (by decide) ?_
  refine lv_aload_n hx hb dL_heave_2 rfl (lv_at hl 0 rfl) ?_
  refine lv_iload_n hx hb dL_heave_3 rfl (lv_at hl 1 rfl) ?_
  have hPc := hP.sub (ws' := [(h, .inr (11, [.ref cs, f1, f2, f3, f4, f5, f6])), (cs, .inr (4, [.int md, ed, .int 0]))]) [0, 1] rfl
  have hDc := hD.sub (ws' := [(h, .inr (11, [.ref cs, f1, f2, f3, f4, f5, f6])), (cs, .inr (4, [.int md, ed, .int 0]))]) [0, 1] (by decide) rfl
  have hKc := hK.sub (tys' := []) [] rfl
  refine vx_calli (vx_runV (As := [.int p0]) (rest := [.int 0, .ref o]) ⟨hx, hb, hml, hown, hts⟩ (k_LF_heave l hst D h cs f1 f2 f3 f4 f5 f6 md (ed) p0 s.heap.size) (cwV 1 hts (gV q986 q987 q988 q1 (gA q989)) rfl rfl rfl (by decide +kernel) ⟨Nat.le_of_ble_eq_true rfl, Nat.le_of_ble_eq_true rfl⟩) ⟨EV.fb, va_recv hKc hPc (ci := 11) (q0 := 0) rfl rfl, fun U hU hW => ⟨rfl, EV.at hPc hKc hDc hG (hZ.no hS) U hU hW⟩⟩ rfl rfl hl.1 rfl (lv_room (Nat.le_of_ble_eq_true rfl)) dL_heave_4 ⟨Nat.le_of_ble_eq_true rfl, Nat.le_of_ble_eq_true rfl⟩) hS (fun q _ h => h.elim) (fun q h => h.elim) (fun q _ h => h.elim) (fun E ce q9 u t H1 locs1 ht hvm hpx hBX hz1 hk1 hS hcell hcv hcl => ?_) (fun r u t H1 locs1 ht hvm hw hB hz1 hk1 hS => hw.elim)
  have hP := P_kept hP hk1
  subst hBX
  refine vx_catch (own := RL) (name := "java/lang/IndexOutOfBoundsException") (E := "java/lang/IndexOutOfBoundsException") hown [] ⟨0, 9, 12, 21⟩ [] (by rw [htab]; rfl) (fun z hz => absurd hz List.not_mem_nil) rfl (by decide) (hts _ q643) (hG.use t194) hcell hcv hcl ?_
  generalize H1 = H at hP hS ⊢
  have hP : va_P D vwCl [(h, .inr (11, [.ref cs, f1, f2, f3, f4, f5, f6])), (cs, .inr (4, [.int md, ed, .int 0]))] H := hP
  refine lv_astore_n (lv' := [(3, .ref q9), (0, .ref h), (1, .int p0), (2, .ref o)]) hx hb dL_heave_12 rfl hl (by decide) rfl (fun ls hl => ?_)
  refine lv_iconst (v := 1) hx hb dL_heave_13 (by decide) ?_
  refine W.widen (k := 1) (n := 6) (Nat.le_of_ble_eq_true rfl) (Nat.le_of_ble_eq_true rfl) ?_
  exact W.iret (v := 1) hx hb hr (fun t ht hW => ⟨⟨1, (), rfl, rfl, trivial⟩, hS.F ht⟩) hS.2.2 dL_heave_14
set_option maxHeartbeats 4000000 in
set_option maxRecDepth 100000 in
/-- the helper crack on the fresh object: 1 -/
theorem k_LL_crack (l : Launch) (hst : l.stackTraces = false) (D : va_G) (h : Nat) (cs : Nat) (f1 f2 f3 f4 f5 f6 : Value) (md : Int32) (ed : Value) (p0 : Int32) (o : Nat) (sz : Nat) : Met l yL_crack (wsH yL_crack cL_crack 4 (some .int) [(0, 9, 12, 21)]) ({ frames := 8, cells := 1, slots := 6, locals := 124 }) (va_Pc [.ref h, .int p0, .ref o] (EV D [] [(h, .inr (11, [.ref cs, f1, f2, f3, f4, f5, f6])), (cs, .inr (4, [.int md, ed, .int 0]))] sz)) (va_Qi (fun (r : Int32) (_ : Unit) => r = 1) (fun _ _ => True) NoA) 1 6 NoA := by
  refine va_MetW (cc := cL_crack) (maxL := 4) (ret := (some .int)) (hh := [(0, 9, 12, 21)]) (ws' := lw_all) (by decide) rfl ?_
  intro p e s m args below meth c s₁ B hml hv
  obtain ⟨rfl, hsz, hP, hK, hD0, hG, hZ0⟩ := hv
  have hx := B.exec
  have hb := B.bytes
  have hr := B.returns
  have hts0 := atoms_spec (ws := wsH yL_crack cL_crack 4 (some .int) [(0, 9, 12, 21)]) B.pre
  have hts : ∀ w ∈ lw_all, w.before _ s = true := fun w h => hts0 w (List.mem_cons_of_mem _ h)
  have hown : s.vm.findClass RL = some m.cls := findClass_of_methodNamed B.named
  have hlocks := B.notSynchronized
  have htab : c.exceptionTable.toList = tableOf [(0, 9, 12, 21)] := vx_table (x := objectInit) B (hts0 _ List.mem_cons_self)
  subst hsz
  have hD : va_D (fun _ => True) [(h, .inr (11, [.ref cs, f1, f2, f3, f4, f5, f6])), (cs, .inr (4, [.int md, ed, .int 0]))] := hD0
  have hZ : ZZ NoA s s.heap := hZ0
  have hS : va_S NoA s.heap s.heap [] := va_S.rf
  have hP : va_P D vwCl [(h, .inr (11, [.ref cs, f1, f2, f3, f4, f5, f6])), (cs, .inr (4, [.int md, ed, .int 0]))] s.heap := hP
  have hl := lv_entry ([.ref h, .int p0, .ref o]) (n := 4) (Nat.le_of_ble_eq_true rfl)
  rw [lg_entry_eq]
  generalize (lg_sl ([.ref h, .int p0, .ref o]) ++ List.replicate (4 - (lg_sl ([.ref h, .int p0, .ref o])).length) Slot.unset).toArray = ls at hl ⊢
  have hl : lv_has ls 4 [(0, .ref h), (1, .int p0), (2, .ref o)] := hl
  refine lv_aload_n hx hb dL_crack_0 rfl (lv_at hl 2 rfl) ?_
  refine lv_iconst (v := 0) hx hb dL_crack_1 (by decide) ?_
  refine lv_aload_n hx hb dL_crack_2 rfl (lv_at hl 0 rfl) ?_
  refine lv_iload_n hx hb dL_crack_3 rfl (lv_at hl 1 rfl) ?_
  have hPc := hP.sub (ws' := [(h, .inr (11, [.ref cs, f1, f2, f3, f4, f5, f6])), (cs, .inr (4, [.int md, ed, .int 0]))]) [0, 1] rfl
  have hDc := hD.sub (ws' := [(h, .inr (11, [.ref cs, f1, f2, f3, f4, f5, f6])), (cs, .inr (4, [.int md, ed, .int 0]))]) [0, 1] (by decide) rfl
  have hKc := hK.sub (tys' := []) [] rfl
  refine vx_calli (vx_runV (As := [.int p0]) (rest := [.int 0, .ref o]) ⟨hx, hb, hml, hown, hts⟩ (k_LF_crack l hst D h cs f1 f2 f3 f4 f5 f6 md (ed) p0 s.heap.size) (cwV 1 hts (gV q997 q998 q999 q1 (gA q1000)) rfl rfl rfl (by decide +kernel) ⟨Nat.le_of_ble_eq_true rfl, Nat.le_of_ble_eq_true rfl⟩) ⟨EV.fb, va_recv hKc hPc (ci := 11) (q0 := 0) rfl rfl, fun U hU hW => ⟨rfl, EV.at hPc hKc hDc hG (hZ.no hS) U hU hW⟩⟩ rfl rfl hl.1 rfl (lv_room (Nat.le_of_ble_eq_true rfl)) dL_crack_4 ⟨Nat.le_of_ble_eq_true rfl, Nat.le_of_ble_eq_true rfl⟩) hS (fun q _ h => h.elim) (fun q h => h.elim) (fun q _ h => h.elim) (fun E ce q9 u t H1 locs1 ht hvm hpx hBX hz1 hk1 hS hcell hcv hcl => ?_) (fun r u t H1 locs1 ht hvm hw hB hz1 hk1 hS => hw.elim)
  have hP := P_kept hP hk1
  subst hBX
  refine vx_catch (own := RL) (name := "java/lang/IndexOutOfBoundsException") (E := "java/lang/IndexOutOfBoundsException") hown [] ⟨0, 9, 12, 21⟩ [] (by rw [htab]; rfl) (fun z hz => absurd hz List.not_mem_nil) rfl (by decide) (hts _ q643) (hG.use t194) hcell hcv hcl ?_
  generalize H1 = H at hP hS ⊢
  have hP : va_P D vwCl [(h, .inr (11, [.ref cs, f1, f2, f3, f4, f5, f6])), (cs, .inr (4, [.int md, ed, .int 0]))] H := hP
  refine lv_astore_n (lv' := [(3, .ref q9), (0, .ref h), (1, .int p0), (2, .ref o)]) hx hb dL_crack_12 rfl hl (by decide) rfl (fun ls hl => ?_)
  refine lv_iconst (v := 1) hx hb dL_crack_13 (by decide) ?_
  refine W.widen (k := 1) (n := 6) (Nat.le_of_ble_eq_true rfl) (Nat.le_of_ble_eq_true rfl) ?_
  exact W.iret (v := 1) hx hb hr (fun t ht hW => ⟨⟨1, (), rfl, rfl, trivial⟩, hS.F ht⟩) hS.2.2 dL_crack_14
set_option maxHeartbeats 4000000 in
set_option maxRecDepth 100000 in
/-- the helper tension on the fresh object: 1 -/
theorem k_LL_tension (l : Launch) (hst : l.stackTraces = false) (D : va_G) (h : Nat) (cs : Nat) (f1 f2 f3 f4 f5 f6 : Value) (md : Int32) (ed : Value) (p0 : Int32) (p1 : Int32) (o : Nat) (sz : Nat) : Met l yL_tension (wsH yL_tension cL_tension 5 (some .int) [(0, 10, 13, 21), (0, 10, 17, 50)]) ({ frames := 9, cells := 1, slots := 6, locals := 150 }) (va_Pc [.ref h, .int p0, .int p1, .ref o] (EV D [] [(h, .inr (11, [.ref cs, f1, f2, f3, f4, f5, f6])), (cs, .inr (4, [.int md, ed, .int 0]))] sz)) (va_Qi (fun (r : Int32) (_ : Unit) => r = 1) (fun _ _ => True) NoA) 1 6 NoA := by
  refine va_MetW (cc := cL_tension) (maxL := 5) (ret := (some .int)) (hh := [(0, 10, 13, 21), (0, 10, 17, 50)]) (ws' := lw_all) (by decide) rfl ?_
  intro p e s m args below meth c s₁ B hml hv
  obtain ⟨rfl, hsz, hP, hK, hD0, hG, hZ0⟩ := hv
  have hx := B.exec
  have hb := B.bytes
  have hr := B.returns
  have hts0 := atoms_spec (ws := wsH yL_tension cL_tension 5 (some .int) [(0, 10, 13, 21), (0, 10, 17, 50)]) B.pre
  have hts : ∀ w ∈ lw_all, w.before _ s = true := fun w h => hts0 w (List.mem_cons_of_mem _ h)
  have hown : s.vm.findClass RL = some m.cls := findClass_of_methodNamed B.named
  have hlocks := B.notSynchronized
  have htab : c.exceptionTable.toList = tableOf [(0, 10, 13, 21), (0, 10, 17, 50)] := vx_table (x := objectInit) B (hts0 _ List.mem_cons_self)
  subst hsz
  have hD : va_D (fun _ => True) [(h, .inr (11, [.ref cs, f1, f2, f3, f4, f5, f6])), (cs, .inr (4, [.int md, ed, .int 0]))] := hD0
  have hZ : ZZ NoA s s.heap := hZ0
  have hS : va_S NoA s.heap s.heap [] := va_S.rf
  have hP : va_P D vwCl [(h, .inr (11, [.ref cs, f1, f2, f3, f4, f5, f6])), (cs, .inr (4, [.int md, ed, .int 0]))] s.heap := hP
  have hl := lv_entry ([.ref h, .int p0, .int p1, .ref o]) (n := 5) (Nat.le_of_ble_eq_true rfl)
  rw [lg_entry_eq]
  generalize (lg_sl ([.ref h, .int p0, .int p1, .ref o]) ++ List.replicate (5 - (lg_sl ([.ref h, .int p0, .int p1, .ref o])).length) Slot.unset).toArray = ls at hl ⊢
  have hl : lv_has ls 5 [(0, .ref h), (1, .int p0), (2, .int p1), (3, .ref o)] := hl
  refine lv_aload_n hx hb dL_tension_0 rfl (lv_at hl 3 rfl) ?_
  refine lv_iconst (v := 0) hx hb dL_tension_1 (by decide) ?_
  refine lv_aload_n hx hb dL_tension_2 rfl (lv_at hl 0 rfl) ?_
  refine lv_iload_n hx hb dL_tension_3 rfl (lv_at hl 1 rfl) ?_
  refine lv_iload_n hx hb dL_tension_4 rfl (lv_at hl 2 rfl) ?_
  have hPc := hP.sub (ws' := [(h, .inr (11, [.ref cs, f1, f2, f3, f4, f5, f6])), (cs, .inr (4, [.int md, ed, .int 0]))]) [0, 1] rfl
  have hDc := hD.sub (ws' := [(h, .inr (11, [.ref cs, f1, f2, f3, f4, f5, f6])), (cs, .inr (4, [.int md, ed, .int 0]))]) [0, 1] (by decide) rfl
  have hKc := hK.sub (tys' := []) [] rfl
  refine vx_calli (vx_runV (As := [.int p0, .int p1]) (rest := [.int 0, .ref o]) ⟨hx, hb, hml, hown, hts⟩ (k_LF_tension l hst D h cs f1 f2 f3 f4 f5 f6 md (ed) p0 p1 s.heap.size) (cwV 2 hts (gV q1008 q1009 q1010 q1 (gA q1011)) rfl rfl rfl (by decide +kernel) ⟨Nat.le_of_ble_eq_true rfl, Nat.le_of_ble_eq_true rfl⟩) ⟨EV.fb, va_recv hKc hPc (ci := 11) (q0 := 0) rfl rfl, fun U hU hW => ⟨rfl, EV.at hPc hKc hDc hG (hZ.no hS) U hU hW⟩⟩ rfl rfl hl.1 rfl (lv_room (Nat.le_of_ble_eq_true rfl)) dL_tension_5 ⟨Nat.le_of_ble_eq_true rfl, Nat.le_of_ble_eq_true rfl⟩) hS (fun q _ h => h.elim) (fun q h => h.elim) (fun q _ h => h.elim) (fun E ce q9 u t H1 locs1 ht hvm hpx hBX hz1 hk1 hS hcell hcv hcl => ?_) (fun r u t H1 locs1 ht hvm hw hB hz1 hk1 hS => hw.elim)
  have hP := P_kept hP hk1
  subst hBX
  refine vx_catch (own := RL) (name := "java/lang/IndexOutOfBoundsException") (E := "java/lang/IndexOutOfBoundsException") hown [] ⟨0, 10, 13, 21⟩ [⟨0, 10, 17, 50⟩] (by rw [htab]; rfl) (fun z hz => absurd hz List.not_mem_nil) rfl (by decide) (hts _ q643) (hG.use t194) hcell hcv hcl ?_
  generalize H1 = H at hP hS ⊢
  have hP : va_P D vwCl [(h, .inr (11, [.ref cs, f1, f2, f3, f4, f5, f6])), (cs, .inr (4, [.int md, ed, .int 0]))] H := hP
  refine lv_astore (lv' := [(4, .ref q9), (0, .ref h), (1, .int p0), (2, .int p1), (3, .ref o)]) hx hb dL_tension_13 hl (by decide) rfl (fun ls hl => ?_)
  refine lv_iconst (v := 1) hx hb dL_tension_15 (by decide) ?_
  refine W.widen (k := 1) (n := 6) (Nat.le_of_ble_eq_true rfl) (Nat.le_of_ble_eq_true rfl) ?_
  exact W.iret (v := 1) hx hb hr (fun t ht hW => ⟨⟨1, (), rfl, rfl, trivial⟩, hS.F ht⟩) hS.2.2 dL_tension_16
set_option maxHeartbeats 4000000 in
set_option maxRecDepth 100000 in
/-- the helper reflection on the fresh object: 1 -/
theorem k_LL_reflection (l : Launch) (hst : l.stackTraces = false) (D : va_G) (h : Nat) (cs : Nat) (f1 f2 f3 f4 f5 f6 : Value) (md : Int32) (ed : Value) (p0 : Int32) (p1 : Int32) (o : Nat) (sz : Nat) : Met l yL_reflection (wsH yL_reflection cL_reflection 5 (some .int) [(0, 10, 13, 21), (0, 10, 17, 50)]) ({ frames := 9, cells := 1, slots := 6, locals := 150 }) (va_Pc [.ref h, .int p0, .int p1, .ref o] (EV D [] [(h, .inr (11, [.ref cs, f1, f2, f3, f4, f5, f6])), (cs, .inr (4, [.int md, ed, .int 0]))] sz)) (va_Qi (fun (r : Int32) (_ : Unit) => r = 1) (fun _ _ => True) NoA) 1 6 NoA := by
  refine va_MetW (cc := cL_reflection) (maxL := 5) (ret := (some .int)) (hh := [(0, 10, 13, 21), (0, 10, 17, 50)]) (ws' := lw_all) (by decide) rfl ?_
  intro p e s m args below meth c s₁ B hml hv
  obtain ⟨rfl, hsz, hP, hK, hD0, hG, hZ0⟩ := hv
  have hx := B.exec
  have hb := B.bytes
  have hr := B.returns
  have hts0 := atoms_spec (ws := wsH yL_reflection cL_reflection 5 (some .int) [(0, 10, 13, 21), (0, 10, 17, 50)]) B.pre
  have hts : ∀ w ∈ lw_all, w.before _ s = true := fun w h => hts0 w (List.mem_cons_of_mem _ h)
  have hown : s.vm.findClass RL = some m.cls := findClass_of_methodNamed B.named
  have hlocks := B.notSynchronized
  have htab : c.exceptionTable.toList = tableOf [(0, 10, 13, 21), (0, 10, 17, 50)] := vx_table (x := objectInit) B (hts0 _ List.mem_cons_self)
  subst hsz
  have hD : va_D (fun _ => True) [(h, .inr (11, [.ref cs, f1, f2, f3, f4, f5, f6])), (cs, .inr (4, [.int md, ed, .int 0]))] := hD0
  have hZ : ZZ NoA s s.heap := hZ0
  have hS : va_S NoA s.heap s.heap [] := va_S.rf
  have hP : va_P D vwCl [(h, .inr (11, [.ref cs, f1, f2, f3, f4, f5, f6])), (cs, .inr (4, [.int md, ed, .int 0]))] s.heap := hP
  have hl := lv_entry ([.ref h, .int p0, .int p1, .ref o]) (n := 5) (Nat.le_of_ble_eq_true rfl)
  rw [lg_entry_eq]
  generalize (lg_sl ([.ref h, .int p0, .int p1, .ref o]) ++ List.replicate (5 - (lg_sl ([.ref h, .int p0, .int p1, .ref o])).length) Slot.unset).toArray = ls at hl ⊢
  have hl : lv_has ls 5 [(0, .ref h), (1, .int p0), (2, .int p1), (3, .ref o)] := hl
  refine lv_aload_n hx hb dL_reflection_0 rfl (lv_at hl 3 rfl) ?_
  refine lv_iconst (v := 0) hx hb dL_reflection_1 (by decide) ?_
  refine lv_aload_n hx hb dL_reflection_2 rfl (lv_at hl 0 rfl) ?_
  refine lv_iload_n hx hb dL_reflection_3 rfl (lv_at hl 1 rfl) ?_
  refine lv_iload_n hx hb dL_reflection_4 rfl (lv_at hl 2 rfl) ?_
  have hPc := hP.sub (ws' := [(h, .inr (11, [.ref cs, f1, f2, f3, f4, f5, f6])), (cs, .inr (4, [.int md, ed, .int 0]))]) [0, 1] rfl
  have hDc := hD.sub (ws' := [(h, .inr (11, [.ref cs, f1, f2, f3, f4, f5, f6])), (cs, .inr (4, [.int md, ed, .int 0]))]) [0, 1] (by decide) rfl
  have hKc := hK.sub (tys' := []) [] rfl
  refine vx_calli (vx_runV (As := [.int p0, .int p1]) (rest := [.int 0, .ref o]) ⟨hx, hb, hml, hown, hts⟩ (k_LF_reflection l hst D h cs f1 f2 f3 f4 f5 f6 md (ed) p0 p1 s.heap.size) (cwV 2 hts (gV q1017 q1018 q1019 q1 (gA q1020)) rfl rfl rfl (by decide +kernel) ⟨Nat.le_of_ble_eq_true rfl, Nat.le_of_ble_eq_true rfl⟩) ⟨EV.fb, va_recv hKc hPc (ci := 11) (q0 := 0) rfl rfl, fun U hU hW => ⟨rfl, EV.at hPc hKc hDc hG (hZ.no hS) U hU hW⟩⟩ rfl rfl hl.1 rfl (lv_room (Nat.le_of_ble_eq_true rfl)) dL_reflection_5 ⟨Nat.le_of_ble_eq_true rfl, Nat.le_of_ble_eq_true rfl⟩) hS (fun q _ h => h.elim) (fun q h => h.elim) (fun q _ h => h.elim) (fun E ce q9 u t H1 locs1 ht hvm hpx hBX hz1 hk1 hS hcell hcv hcl => ?_) (fun r u t H1 locs1 ht hvm hw hB hz1 hk1 hS => hw.elim)
  have hP := P_kept hP hk1
  subst hBX
  refine vx_catch (own := RL) (name := "java/lang/IndexOutOfBoundsException") (E := "java/lang/IndexOutOfBoundsException") hown [] ⟨0, 10, 13, 21⟩ [⟨0, 10, 17, 50⟩] (by rw [htab]; rfl) (fun z hz => absurd hz List.not_mem_nil) rfl (by decide) (hts _ q643) (hG.use t194) hcell hcv hcl ?_
  generalize H1 = H at hP hS ⊢
  have hP : va_P D vwCl [(h, .inr (11, [.ref cs, f1, f2, f3, f4, f5, f6])), (cs, .inr (4, [.int md, ed, .int 0]))] H := hP
  refine lv_astore (lv' := [(4, .ref q9), (0, .ref h), (1, .int p0), (2, .int p1), (3, .ref o)]) hx hb dL_reflection_13 hl (by decide) rfl (fun ls hl => ?_)
  refine lv_iconst (v := 1) hx hb dL_reflection_15 (by decide) ?_
  refine W.widen (k := 1) (n := 6) (Nat.le_of_ble_eq_true rfl) (Nat.le_of_ble_eq_true rfl) ?_
  exact W.iret (v := 1) hx hb hr (fun t ht hW => ⟨⟨1, (), rfl, rfl, trivial⟩, hS.F ht⟩) hS.2.2 dL_reflection_16
set_option maxHeartbeats 4000000 in
set_option maxRecDepth 100000 in
/-- the helper setRight on the fresh object: 1 -/
theorem k_LL_setRight (l : Launch) (hst : l.stackTraces = false) (D : va_G) (h : Nat) (cs : Nat) (f1 f2 f3 f4 f5 f6 : Value) (md : Int32) (ed : Value) (p0 : Int32) (o : Nat) (sz : Nat) : Met l yL_setRight (wsH yL_setRight cL_setRight 4 (some .int) [(0, 9, 12, 21)]) ({ frames := 8, cells := 1, slots := 6, locals := 126 }) (va_Pc [.ref h, .int p0, .ref o] (EV D [] [(h, .inr (11, [.ref cs, f1, f2, f3, f4, f5, f6])), (cs, .inr (4, [.int md, ed, .int 0]))] sz)) (va_Qi (fun (r : Int32) (_ : Unit) => r = 1) (fun _ _ => True) NoA) 1 6 NoA := by
  refine va_MetW (cc := cL_setRight) (maxL := 4) (ret := (some .int)) (hh := [(0, 9, 12, 21)]) (ws' := lw_all) (by decide) rfl ?_
  intro p e s m args below meth c s₁ B hml hv
  obtain ⟨rfl, hsz, hP, hK, hD0, hG, hZ0⟩ := hv
  have hx := B.exec
  have hb := B.bytes
  have hr := B.returns
  have hts0 := atoms_spec (ws := wsH yL_setRight cL_setRight 4 (some .int) [(0, 9, 12, 21)]) B.pre
  have hts : ∀ w ∈ lw_all, w.before _ s = true := fun w h => hts0 w (List.mem_cons_of_mem _ h)
  have hown : s.vm.findClass RL = some m.cls := findClass_of_methodNamed B.named
  have hlocks := B.notSynchronized
  have htab : c.exceptionTable.toList = tableOf [(0, 9, 12, 21)] := vx_table (x := objectInit) B (hts0 _ List.mem_cons_self)
  subst hsz
  have hD : va_D (fun _ => True) [(h, .inr (11, [.ref cs, f1, f2, f3, f4, f5, f6])), (cs, .inr (4, [.int md, ed, .int 0]))] := hD0
  have hZ : ZZ NoA s s.heap := hZ0
  have hS : va_S NoA s.heap s.heap [] := va_S.rf
  have hP : va_P D vwCl [(h, .inr (11, [.ref cs, f1, f2, f3, f4, f5, f6])), (cs, .inr (4, [.int md, ed, .int 0]))] s.heap := hP
  have hl := lv_entry ([.ref h, .int p0, .ref o]) (n := 4) (Nat.le_of_ble_eq_true rfl)
  rw [lg_entry_eq]
  generalize (lg_sl ([.ref h, .int p0, .ref o]) ++ List.replicate (4 - (lg_sl ([.ref h, .int p0, .ref o])).length) Slot.unset).toArray = ls at hl ⊢
  have hl : lv_has ls 4 [(0, .ref h), (1, .int p0), (2, .ref o)] := hl
  refine lv_aload_n hx hb dL_setRight_0 rfl (lv_at hl 2 rfl) ?_
  refine lv_iconst (v := 0) hx hb dL_setRight_1 (by decide) ?_
  refine lv_aload_n hx hb dL_setRight_2 rfl (lv_at hl 0 rfl) ?_
  refine lv_iload_n hx hb dL_setRight_3 rfl (lv_at hl 1 rfl) ?_
  have hPc := hP.sub (ws' := [(h, .inr (11, [.ref cs, f1, f2, f3, f4, f5, f6])), (cs, .inr (4, [.int md, ed, .int 0]))]) [0, 1] rfl
  have hDc := hD.sub (ws' := [(h, .inr (11, [.ref cs, f1, f2, f3, f4, f5, f6])), (cs, .inr (4, [.int md, ed, .int 0]))]) [0, 1] (by decide) rfl
  have hKc := hK.sub (tys' := []) [] rfl
  refine vx_calli (vx_runV (As := [.int p0]) (rest := [.int 0, .ref o]) ⟨hx, hb, hml, hown, hts⟩ (k_LF_setRight l hst D h cs f1 f2 f3 f4 f5 f6 md (ed) p0 s.heap.size) (cwV 1 hts (gV q1032 q1033 q1034 q1 (gA q1035)) rfl rfl rfl (by decide +kernel) ⟨Nat.le_of_ble_eq_true rfl, Nat.le_of_ble_eq_true rfl⟩) ⟨EV.fb, va_recv hKc hPc (ci := 11) (q0 := 0) rfl rfl, fun U hU hW => ⟨rfl, EV.at hPc hKc hDc hG (hZ.no hS) U hU hW⟩⟩ rfl rfl hl.1 rfl (lv_room (Nat.le_of_ble_eq_true rfl)) dL_setRight_4 ⟨Nat.le_of_ble_eq_true rfl, Nat.le_of_ble_eq_true rfl⟩) hS (fun q _ h => h.elim) (fun q h => h.elim) (fun q _ h => h.elim) (fun E ce q9 u t H1 locs1 ht hvm hpx hBX hz1 hk1 hS hcell hcv hcl => ?_) (fun r u t H1 locs1 ht hvm hw hB hz1 hk1 hS => hw.elim)
  have hP := P_kept hP hk1
  subst hBX
  refine vx_catch (own := RL) (name := "java/lang/IndexOutOfBoundsException") (E := "java/lang/IndexOutOfBoundsException") hown [] ⟨0, 9, 12, 21⟩ [] (by rw [htab]; rfl) (fun z hz => absurd hz List.not_mem_nil) rfl (by decide) (hts _ q643) (hG.use t194) hcell hcv hcl ?_
  generalize H1 = H at hP hS ⊢
  have hP : va_P D vwCl [(h, .inr (11, [.ref cs, f1, f2, f3, f4, f5, f6])), (cs, .inr (4, [.int md, ed, .int 0]))] H := hP
  refine lv_astore_n (lv' := [(3, .ref q9), (0, .ref h), (1, .int p0), (2, .ref o)]) hx hb dL_setRight_12 rfl hl (by decide) rfl (fun ls hl => ?_)
  refine lv_iconst (v := 1) hx hb dL_setRight_13 (by decide) ?_
  refine W.widen (k := 1) (n := 6) (Nat.le_of_ble_eq_true rfl) (Nat.le_of_ble_eq_true rfl) ?_
  exact W.iret (v := 1) hx hb hr (fun t ht hW => ⟨⟨1, (), rfl, rfl, trivial⟩, hS.F ht⟩) hS.2.2 dL_setRight_14
set_option maxHeartbeats 4000000 in
set_option maxRecDepth 100000 in
/-- the helper weigh on the fresh object: 1 -/
theorem k_LL_weigh (l : Launch) (hst : l.stackTraces = false) (D : va_G) (h : Nat) (cs : Nat) (f1 f2 f3 f4 f5 f6 : Value) (md : Int32) (ed : Value) (p0 : Int32) (o : Nat) (sz : Nat) : Met l yL_weigh (wsH yL_weigh cL_weigh 4 (some .int) [(0, 9, 12, 21)]) ({ frames := 8, cells := 1, slots := 6, locals := 126 }) (va_Pc [.ref h, .int p0, .ref o] (EV D [] [(h, .inr (11, [.ref cs, f1, f2, f3, f4, f5, f6])), (cs, .inr (4, [.int md, ed, .int 0]))] sz)) (va_Qi (fun (r : Int32) (_ : Unit) => r = 1) (fun _ _ => True) NoA) 1 6 NoA := by
  refine va_MetW (cc := cL_weigh) (maxL := 4) (ret := (some .int)) (hh := [(0, 9, 12, 21)]) (ws' := lw_all) (by decide) rfl ?_
  intro p e s m args below meth c s₁ B hml hv
  obtain ⟨rfl, hsz, hP, hK, hD0, hG, hZ0⟩ := hv
  have hx := B.exec
  have hb := B.bytes
  have hr := B.returns
  have hts0 := atoms_spec (ws := wsH yL_weigh cL_weigh 4 (some .int) [(0, 9, 12, 21)]) B.pre
  have hts : ∀ w ∈ lw_all, w.before _ s = true := fun w h => hts0 w (List.mem_cons_of_mem _ h)
  have hown : s.vm.findClass RL = some m.cls := findClass_of_methodNamed B.named
  have hlocks := B.notSynchronized
  have htab : c.exceptionTable.toList = tableOf [(0, 9, 12, 21)] := vx_table (x := objectInit) B (hts0 _ List.mem_cons_self)
  subst hsz
  have hD : va_D (fun _ => True) [(h, .inr (11, [.ref cs, f1, f2, f3, f4, f5, f6])), (cs, .inr (4, [.int md, ed, .int 0]))] := hD0
  have hZ : ZZ NoA s s.heap := hZ0
  have hS : va_S NoA s.heap s.heap [] := va_S.rf
  have hP : va_P D vwCl [(h, .inr (11, [.ref cs, f1, f2, f3, f4, f5, f6])), (cs, .inr (4, [.int md, ed, .int 0]))] s.heap := hP
  have hl := lv_entry ([.ref h, .int p0, .ref o]) (n := 4) (Nat.le_of_ble_eq_true rfl)
  rw [lg_entry_eq]
  generalize (lg_sl ([.ref h, .int p0, .ref o]) ++ List.replicate (4 - (lg_sl ([.ref h, .int p0, .ref o])).length) Slot.unset).toArray = ls at hl ⊢
  have hl : lv_has ls 4 [(0, .ref h), (1, .int p0), (2, .ref o)] := hl
  refine lv_aload_n hx hb dL_weigh_0 rfl (lv_at hl 2 rfl) ?_
  refine lv_iconst (v := 0) hx hb dL_weigh_1 (by decide) ?_
  refine lv_aload_n hx hb dL_weigh_2 rfl (lv_at hl 0 rfl) ?_
  refine lv_iload_n hx hb dL_weigh_3 rfl (lv_at hl 1 rfl) ?_
  have hPc := hP.sub (ws' := [(h, .inr (11, [.ref cs, f1, f2, f3, f4, f5, f6])), (cs, .inr (4, [.int md, ed, .int 0]))]) [0, 1] rfl
  have hDc := hD.sub (ws' := [(h, .inr (11, [.ref cs, f1, f2, f3, f4, f5, f6])), (cs, .inr (4, [.int md, ed, .int 0]))]) [0, 1] (by decide) rfl
  have hKc := hK.sub (tys' := []) [] rfl
  refine vx_calli (vx_runV (As := [.int p0]) (rest := [.int 0, .ref o]) ⟨hx, hb, hml, hown, hts⟩ (k_LF_weigh l hst D h cs f1 f2 f3 f4 f5 f6 md (ed) p0 s.heap.size) (cwV 1 hts (gV q1039 q1040 q1041 q1 (gA q1042)) rfl rfl rfl (by decide +kernel) ⟨Nat.le_of_ble_eq_true rfl, Nat.le_of_ble_eq_true rfl⟩) ⟨EV.fb, va_recv hKc hPc (ci := 11) (q0 := 0) rfl rfl, fun U hU hW => ⟨rfl, EV.at hPc hKc hDc hG (hZ.no hS) U hU hW⟩⟩ rfl rfl hl.1 rfl (lv_room (Nat.le_of_ble_eq_true rfl)) dL_weigh_4 ⟨Nat.le_of_ble_eq_true rfl, Nat.le_of_ble_eq_true rfl⟩) hS (fun q _ h => h.elim) (fun q h => h.elim) (fun q _ h => h.elim) (fun E ce q9 u t H1 locs1 ht hvm hpx hBX hz1 hk1 hS hcell hcv hcl => ?_) (fun r u t H1 locs1 ht hvm hw hB hz1 hk1 hS => hw.elim)
  have hP := P_kept hP hk1
  subst hBX
  refine vx_catch (own := RL) (name := "java/lang/IndexOutOfBoundsException") (E := "java/lang/IndexOutOfBoundsException") hown [] ⟨0, 9, 12, 21⟩ [] (by rw [htab]; rfl) (fun z hz => absurd hz List.not_mem_nil) rfl (by decide) (hts _ q643) (hG.use t194) hcell hcv hcl ?_
  generalize H1 = H at hP hS ⊢
  have hP : va_P D vwCl [(h, .inr (11, [.ref cs, f1, f2, f3, f4, f5, f6])), (cs, .inr (4, [.int md, ed, .int 0]))] H := hP
  refine lv_astore_n (lv' := [(3, .ref q9), (0, .ref h), (1, .int p0), (2, .ref o)]) hx hb dL_weigh_12 rfl hl (by decide) rfl (fun ls hl => ?_)
  refine lv_iconst (v := 1) hx hb dL_weigh_13 (by decide) ?_
  refine W.widen (k := 1) (n := 6) (Nat.le_of_ble_eq_true rfl) (Nat.le_of_ble_eq_true rfl) ?_
  exact W.iret (v := 1) hx hb hr (fun t ht hW => ⟨⟨1, (), rfl, rfl, trivial⟩, hS.F ht⟩) hS.2.2 dL_weigh_14
set_option maxHeartbeats 4000000 in
set_option maxRecDepth 100000 in
/-- the helper fines on the fresh object: 1 -/
theorem k_LL_fines (l : Launch) (hst : l.stackTraces = false) (D : va_G) (h : Nat) (cs : Nat) (f1 f2 f3 f4 f5 f6 : Value) (md : Int32) (ed : Value) (p0 : Int32) (o : Nat) (sz : Nat) : Met l yL_fines (wsH yL_fines cL_fines 4 (some .int) [(0, 8, 11, 21)]) ({ frames := 8, cells := 1, slots := 6, locals := 124 }) (va_Pc [.ref h, .int p0, .ref o] (EV D [] [(h, .inr (11, [.ref cs, f1, f2, f3, f4, f5, f6])), (cs, .inr (4, [.int md, ed, .int 0]))] sz)) (va_Qi (fun (r : Int32) (_ : Unit) => r = 1) (fun _ _ => True) NoA) 1 6 NoA := by
  refine va_MetW (cc := cL_fines) (maxL := 4) (ret := (some .int)) (hh := [(0, 8, 11, 21)]) (ws' := lw_all) (by decide) rfl ?_
  intro p e s m args below meth c s₁ B hml hv
  obtain ⟨rfl, hsz, hP, hK, hD0, hG, hZ0⟩ := hv
  have hx := B.exec
  have hb := B.bytes
  have hr := B.returns
  have hts0 := atoms_spec (ws := wsH yL_fines cL_fines 4 (some .int) [(0, 8, 11, 21)]) B.pre
  have hts : ∀ w ∈ lw_all, w.before _ s = true := fun w h => hts0 w (List.mem_cons_of_mem _ h)
  have hown : s.vm.findClass RL = some m.cls := findClass_of_methodNamed B.named
  have hlocks := B.notSynchronized
  have htab : c.exceptionTable.toList = tableOf [(0, 8, 11, 21)] := vx_table (x := objectInit) B (hts0 _ List.mem_cons_self)
  subst hsz
  have hD : va_D (fun _ => True) [(h, .inr (11, [.ref cs, f1, f2, f3, f4, f5, f6])), (cs, .inr (4, [.int md, ed, .int 0]))] := hD0
  have hZ : ZZ NoA s s.heap := hZ0
  have hS : va_S NoA s.heap s.heap [] := va_S.rf
  have hP : va_P D vwCl [(h, .inr (11, [.ref cs, f1, f2, f3, f4, f5, f6])), (cs, .inr (4, [.int md, ed, .int 0]))] s.heap := hP
  have hl := lv_entry ([.ref h, .int p0, .ref o]) (n := 4) (Nat.le_of_ble_eq_true rfl)
  rw [lg_entry_eq]
  generalize (lg_sl ([.ref h, .int p0, .ref o]) ++ List.replicate (4 - (lg_sl ([.ref h, .int p0, .ref o])).length) Slot.unset).toArray = ls at hl ⊢
  have hl : lv_has ls 4 [(0, .ref h), (1, .int p0), (2, .ref o)] := hl
  refine lv_aload_n hx hb dL_fines_0 rfl (lv_at hl 2 rfl) ?_
  refine lv_iconst (v := 0) hx hb dL_fines_1 (by decide) ?_
  refine lv_aload_n hx hb dL_fines_2 rfl (lv_at hl 0 rfl) ?_
  refine lv_iload_n hx hb dL_fines_3 rfl (lv_at hl 1 rfl) ?_
  have hPc := hP.sub (ws' := [(h, .inr (11, [.ref cs, f1, f2, f3, f4, f5, f6])), (cs, .inr (4, [.int md, ed, .int 0]))]) [0, 1] rfl
  have hDc := hD.sub (ws' := [(h, .inr (11, [.ref cs, f1, f2, f3, f4, f5, f6])), (cs, .inr (4, [.int md, ed, .int 0]))]) [0, 1] (by decide) rfl
  have hKc := hK.sub (tys' := []) [] rfl
  refine vx_calli (vx_runV (As := [.int p0]) (rest := [.int 0, .ref o]) ⟨hx, hb, hml, hown, hts⟩ (k_LF_fines l hst D h cs f1 f2 f3 f4 f5 f6 md (ed) p0 s.heap.size) (cwV 1 hts (gV q1047 q1048 q1049 q1 (gA q1050)) rfl rfl rfl (by decide +kernel) ⟨Nat.le_of_ble_eq_true rfl, Nat.le_of_ble_eq_true rfl⟩) ⟨EV.fb, va_recv hKc hPc (ci := 11) (q0 := 0) rfl rfl, fun U hU hW => ⟨rfl, EV.at hPc hKc hDc hG (hZ.no hS) U hU hW⟩⟩ rfl rfl hl.1 rfl (lv_room (Nat.le_of_ble_eq_true rfl)) dL_fines_4 ⟨Nat.le_of_ble_eq_true rfl, Nat.le_of_ble_eq_true rfl⟩) hS (fun q _ h => h.elim) (fun q h => h.elim) (fun q _ h => h.elim) (fun E ce q9 u t H1 locs1 ht hvm hpx hBX hz1 hk1 hS hcell hcv hcl => ?_) (fun r u t H1 locs1 ht hvm hw hB hz1 hk1 hS => hw.elim)
  have hP := P_kept hP hk1
  subst hBX
  refine vx_catch (own := RL) (name := "java/lang/IndexOutOfBoundsException") (E := "java/lang/IndexOutOfBoundsException") hown [] ⟨0, 8, 11, 21⟩ [] (by rw [htab]; rfl) (fun z hz => absurd hz List.not_mem_nil) rfl (by decide) (hts _ q643) (hG.use t194) hcell hcv hcl ?_
  generalize H1 = H at hP hS ⊢
  have hP : va_P D vwCl [(h, .inr (11, [.ref cs, f1, f2, f3, f4, f5, f6])), (cs, .inr (4, [.int md, ed, .int 0]))] H := hP
  refine lv_astore_n (lv' := [(3, .ref q9), (0, .ref h), (1, .int p0), (2, .ref o)]) hx hb dL_fines_11 rfl hl (by decide) rfl (fun ls hl => ?_)
  refine lv_iconst (v := 1) hx hb dL_fines_12 (by decide) ?_
  refine W.widen (k := 1) (n := 6) (Nat.le_of_ble_eq_true rfl) (Nat.le_of_ble_eq_true rfl) ?_
  exact W.iret (v := 1) hx hb hr (fun t ht hW => ⟨⟨1, (), rfl, rfl, trivial⟩, hS.F ht⟩) hS.2.2 dL_fines_13
set_option maxHeartbeats 4000000 in
set_option maxRecDepth 100000 in
/-- the helper forecast on the fresh object: 1 -/
theorem k_LL_forecast (l : Launch) (hst : l.stackTraces = false) (D : va_G) (h : Nat) (cs : Nat) (f1 f2 f3 f4 f5 f6 : Value) (md : Int32) (ed : Value) (p0 : Int32) (p1 : Int32) (p2 : Int32) (o : Nat) (sz : Nat) : Met l yL_forecast (wsH yL_forecast cL_forecast 6 (some .int) [(0, 11, 14, 21), (0, 11, 18, 13)]) ({ frames := 8, cells := 1, slots := 6, locals := 126 }) (va_Pc [.ref h, .int p0, .int p1, .int p2, .ref o] (EV D [] [(h, .inr (11, [.ref cs, f1, f2, f3, f4, f5, f6])), (cs, .inr (4, [.int md, ed, .int 0]))] sz)) (va_Qi (fun (r : Int32) (_ : Unit) => r = 1) (fun _ _ => True) NoA) 1 6 NoA := by
  refine va_MetW (cc := cL_forecast) (maxL := 6) (ret := (some .int)) (hh := [(0, 11, 14, 21), (0, 11, 18, 13)]) (ws' := lw_all) (by decide) rfl ?_
  intro p e s m args below meth c s₁ B hml hv
  obtain ⟨rfl, hsz, hP, hK, hD0, hG, hZ0⟩ := hv
  have hx := B.exec
  have hb := B.bytes
  have hr := B.returns
  have hts0 := atoms_spec (ws := wsH yL_forecast cL_forecast 6 (some .int) [(0, 11, 14, 21), (0, 11, 18, 13)]) B.pre
  have hts : ∀ w ∈ lw_all, w.before _ s = true := fun w h => hts0 w (List.mem_cons_of_mem _ h)
  have hown : s.vm.findClass RL = some m.cls := findClass_of_methodNamed B.named
  have hlocks := B.notSynchronized
  have htab : c.exceptionTable.toList = tableOf [(0, 11, 14, 21), (0, 11, 18, 13)] := vx_table (x := objectInit) B (hts0 _ List.mem_cons_self)
  subst hsz
  have hD : va_D (fun _ => True) [(h, .inr (11, [.ref cs, f1, f2, f3, f4, f5, f6])), (cs, .inr (4, [.int md, ed, .int 0]))] := hD0
  have hZ : ZZ NoA s s.heap := hZ0
  have hS : va_S NoA s.heap s.heap [] := va_S.rf
  have hP : va_P D vwCl [(h, .inr (11, [.ref cs, f1, f2, f3, f4, f5, f6])), (cs, .inr (4, [.int md, ed, .int 0]))] s.heap := hP
  have hl := lv_entry ([.ref h, .int p0, .int p1, .int p2, .ref o]) (n := 6) (Nat.le_of_ble_eq_true rfl)
  rw [lg_entry_eq]
  generalize (lg_sl ([.ref h, .int p0, .int p1, .int p2, .ref o]) ++ List.replicate (6 - (lg_sl ([.ref h, .int p0, .int p1, .int p2, .ref o])).length) Slot.unset).toArray = ls at hl ⊢
  have hl : lv_has ls 6 [(0, .ref h), (1, .int p0), (2, .int p1), (3, .int p2), (4, .ref o)] := hl
  refine lv_aload hx hb dL_forecast_0 (lv_at hl 4 rfl) ?_
  refine lv_iconst (v := 0) hx hb dL_forecast_2 (by decide) ?_
  refine lv_aload_n hx hb dL_forecast_3 rfl (lv_at hl 0 rfl) ?_
  refine lv_iload_n hx hb dL_forecast_4 rfl (lv_at hl 1 rfl) ?_
  refine lv_iload_n hx hb dL_forecast_5 rfl (lv_at hl 2 rfl) ?_
  refine lv_iload_n hx hb dL_forecast_6 rfl (lv_at hl 3 rfl) ?_
  have hPc := hP.sub (ws' := [(h, .inr (11, [.ref cs, f1, f2, f3, f4, f5, f6])), (cs, .inr (4, [.int md, ed, .int 0]))]) [0, 1] rfl
  have hDc := hD.sub (ws' := [(h, .inr (11, [.ref cs, f1, f2, f3, f4, f5, f6])), (cs, .inr (4, [.int md, ed, .int 0]))]) [0, 1] (by decide) rfl
  have hKc := hK.sub (tys' := []) [] rfl
  refine vx_calli (vx_runV (As := [.int p0, .int p1, .int p2]) (rest := [.int 0, .ref o]) ⟨hx, hb, hml, hown, hts⟩ (k_LF_forecast l hst D h cs f1 f2 f3 f4 f5 f6 md (ed) p0 p1 p2 s.heap.size) (cwV 3 hts (gV q1054 q1055 q1056 q1 (gA q1057)) rfl rfl rfl (by decide +kernel) ⟨Nat.le_of_ble_eq_true rfl, Nat.le_of_ble_eq_true rfl⟩) ⟨EV.fb, va_recv hKc hPc (ci := 11) (q0 := 0) rfl rfl, fun U hU hW => ⟨rfl, EV.at hPc hKc hDc hG (hZ.no hS) U hU hW⟩⟩ rfl rfl hl.1 rfl (lv_room (Nat.le_of_ble_eq_true rfl)) dL_forecast_7 ⟨Nat.le_of_ble_eq_true rfl, Nat.le_of_ble_eq_true rfl⟩) hS (fun q _ h => h.elim) (fun q h => h.elim) (fun q _ h => h.elim) (fun E ce q9 u t H1 locs1 ht hvm hpx hBX hz1 hk1 hS hcell hcv hcl => ?_) (fun r u t H1 locs1 ht hvm hw hB hz1 hk1 hS => hw.elim)
  have hP := P_kept hP hk1
  subst hBX
  refine vx_catch (own := RL) (name := "java/lang/IndexOutOfBoundsException") (E := "java/lang/IndexOutOfBoundsException") hown [] ⟨0, 11, 14, 21⟩ [⟨0, 11, 18, 13⟩] (by rw [htab]; rfl) (fun z hz => absurd hz List.not_mem_nil) rfl (by decide) (hts _ q643) (hG.use t194) hcell hcv hcl ?_
  generalize H1 = H at hP hS ⊢
  have hP : va_P D vwCl [(h, .inr (11, [.ref cs, f1, f2, f3, f4, f5, f6])), (cs, .inr (4, [.int md, ed, .int 0]))] H := hP
  refine lv_astore (lv' := [(5, .ref q9), (0, .ref h), (1, .int p0), (2, .int p1), (3, .int p2), (4, .ref o)]) hx hb dL_forecast_14 hl (by decide) rfl (fun ls hl => ?_)
  refine lv_iconst (v := 1) hx hb dL_forecast_16 (by decide) ?_
  refine W.widen (k := 1) (n := 6) (Nat.le_of_ble_eq_true rfl) (Nat.le_of_ble_eq_true rfl) ?_
  exact W.iret (v := 1) hx hb hr (fun t ht hW => ⟨⟨1, (), rfl, rfl, trivial⟩, hS.F ht⟩) hS.2.2 dL_forecast_17
set_option maxHeartbeats 4000000 in
set_option maxRecDepth 100000 in
/-- the helper fits on the fresh object: 1 -/
theorem k_LL_fits (l : Launch) (hst : l.stackTraces = false) (D : va_G) (h : Nat) (cs : Nat) (f1 f2 f3 f4 f5 f6 : Value) (md : Int32) (ed : Value) (p0 : Int32) (p1 : Int32) (p2 : Int32) (o : Nat) (sz : Nat) : Met l yL_fits (wsH yL_fits cL_fits 6 (some .int) [(0, 12, 15, 21), (0, 12, 19, 13)]) ({ frames := 9, cells := 1, slots := 6, locals := 156 }) (va_Pc [.ref h, .int p0, .int p1, .int p2, .ref o] (EV D [] [(h, .inr (11, [.ref cs, f1, f2, f3, f4, f5, f6])), (cs, .inr (4, [.int md, ed, .int 0]))] sz)) (va_Qi (fun (r : Int32) (_ : Unit) => r = 1) (fun _ _ => True) NoA) 1 6 NoA := by
  refine va_MetW (cc := cL_fits) (maxL := 6) (ret := (some .int)) (hh := [(0, 12, 15, 21), (0, 12, 19, 13)]) (ws' := lw_all) (by decide) rfl ?_
  intro p e s m args below meth c s₁ B hml hv
  obtain ⟨rfl, hsz, hP, hK, hD0, hG, hZ0⟩ := hv
  have hx := B.exec
  have hb := B.bytes
  have hr := B.returns
  have hts0 := atoms_spec (ws := wsH yL_fits cL_fits 6 (some .int) [(0, 12, 15, 21), (0, 12, 19, 13)]) B.pre
  have hts : ∀ w ∈ lw_all, w.before _ s = true := fun w h => hts0 w (List.mem_cons_of_mem _ h)
  have hown : s.vm.findClass RL = some m.cls := findClass_of_methodNamed B.named
  have hlocks := B.notSynchronized
  have htab : c.exceptionTable.toList = tableOf [(0, 12, 15, 21), (0, 12, 19, 13)] := vx_table (x := objectInit) B (hts0 _ List.mem_cons_self)
  subst hsz
  have hD : va_D (fun _ => True) [(h, .inr (11, [.ref cs, f1, f2, f3, f4, f5, f6])), (cs, .inr (4, [.int md, ed, .int 0]))] := hD0
  have hZ : ZZ NoA s s.heap := hZ0
  have hS : va_S NoA s.heap s.heap [] := va_S.rf
  have hP : va_P D vwCl [(h, .inr (11, [.ref cs, f1, f2, f3, f4, f5, f6])), (cs, .inr (4, [.int md, ed, .int 0]))] s.heap := hP
  have hl := lv_entry ([.ref h, .int p0, .int p1, .int p2, .ref o]) (n := 6) (Nat.le_of_ble_eq_true rfl)
  rw [lg_entry_eq]
  generalize (lg_sl ([.ref h, .int p0, .int p1, .int p2, .ref o]) ++ List.replicate (6 - (lg_sl ([.ref h, .int p0, .int p1, .int p2, .ref o])).length) Slot.unset).toArray = ls at hl ⊢
  have hl : lv_has ls 6 [(0, .ref h), (1, .int p0), (2, .int p1), (3, .int p2), (4, .ref o)] := hl
  refine lv_aload hx hb dL_fits_0 (lv_at hl 4 rfl) ?_
  refine lv_iconst (v := 0) hx hb dL_fits_2 (by decide) ?_
  refine lv_aload_n hx hb dL_fits_3 rfl (lv_at hl 0 rfl) ?_
  refine lv_iload_n hx hb dL_fits_4 rfl (lv_at hl 1 rfl) ?_
  refine lv_iload_n hx hb dL_fits_5 rfl (lv_at hl 2 rfl) ?_
  refine lv_iload_n hx hb dL_fits_6 rfl (lv_at hl 3 rfl) ?_
  have hPc := hP.sub (ws' := [(h, .inr (11, [.ref cs, f1, f2, f3, f4, f5, f6])), (cs, .inr (4, [.int md, ed, .int 0]))]) [0, 1] rfl
  have hDc := hD.sub (ws' := [(h, .inr (11, [.ref cs, f1, f2, f3, f4, f5, f6])), (cs, .inr (4, [.int md, ed, .int 0]))]) [0, 1] (by decide) rfl
  have hKc := hK.sub (tys' := []) [] rfl
  refine vx_calli (vx_runV (As := [.int p0, .int p1, .int p2]) (rest := [.int 0, .ref o]) ⟨hx, hb, hml, hown, hts⟩ (k_LF_fits l hst D h cs f1 f2 f3 f4 f5 f6 md (ed) p0 p1 p2 s.heap.size) (cwV 3 hts (gV q1061 q1062 q1063 q1 (gA q1064)) rfl rfl rfl (by decide +kernel) ⟨Nat.le_of_ble_eq_true rfl, Nat.le_of_ble_eq_true rfl⟩) ⟨EV.fb, va_recv hKc hPc (ci := 11) (q0 := 0) rfl rfl, fun U hU hW => ⟨rfl, EV.at hPc hKc hDc hG (hZ.no hS) U hU hW⟩⟩ rfl rfl hl.1 rfl (lv_room (Nat.le_of_ble_eq_true rfl)) dL_fits_7 ⟨Nat.le_of_ble_eq_true rfl, Nat.le_of_ble_eq_true rfl⟩) hS (fun q _ h => h.elim) (fun q h => h.elim) (fun q _ h => h.elim) (fun E ce q9 u t H1 locs1 ht hvm hpx hBX hz1 hk1 hS hcell hcv hcl => ?_) (fun r u t H1 locs1 ht hvm hw hB hz1 hk1 hS => hw.elim)
  have hP := P_kept hP hk1
  subst hBX
  refine vx_catch (own := RL) (name := "java/lang/IndexOutOfBoundsException") (E := "java/lang/IndexOutOfBoundsException") hown [] ⟨0, 12, 15, 21⟩ [⟨0, 12, 19, 13⟩] (by rw [htab]; rfl) (fun z hz => absurd hz List.not_mem_nil) rfl (by decide) (hts _ q643) (hG.use t194) hcell hcv hcl ?_
  generalize H1 = H at hP hS ⊢
  have hP : va_P D vwCl [(h, .inr (11, [.ref cs, f1, f2, f3, f4, f5, f6])), (cs, .inr (4, [.int md, ed, .int 0]))] H := hP
  refine lv_astore (lv' := [(5, .ref q9), (0, .ref h), (1, .int p0), (2, .int p1), (3, .int p2), (4, .ref o)]) hx hb dL_fits_15 hl (by decide) rfl (fun ls hl => ?_)
  refine lv_iconst (v := 1) hx hb dL_fits_17 (by decide) ?_
  refine W.widen (k := 1) (n := 6) (Nat.le_of_ble_eq_true rfl) (Nat.le_of_ble_eq_true rfl) ?_
  exact W.iret (v := 1) hx hb hr (fun t ht hW => ⟨⟨1, (), rfl, rfl, trivial⟩, hS.F ht⟩) hS.2.2 dL_fits_18
set_option maxHeartbeats 4000000 in
set_option maxRecDepth 100000 in
/-- the helper fit on the fresh object: 1 -/
theorem k_LL_fit (l : Launch) (hst : l.stackTraces = false) (D : va_G) (h : Nat) (cs : Nat) (f1 f2 f3 f4 f5 f6 : Value) (md : Int32) (ed : Value) (p0 : Int32) (p1 : Int32) (p2 : Int32) (p3 : Int32) (o : Nat) (sz : Nat) : Met l yL_fit (wsH yL_fit cL_fit 7 (some .int) [(0, 14, 17, 21), (0, 14, 21, 13), (0, 14, 25, 50)]) ({ frames := 9, cells := 1, slots := 6, locals := 157 }) (va_Pc [.ref h, .int p0, .int p1, .int p2, .int p3, .ref o] (EV D [] [(h, .inr (11, [.ref cs, f1, f2, f3, f4, f5, f6])), (cs, .inr (4, [.int md, ed, .int 0]))] sz)) (va_Qi (fun (r : Int32) (_ : Unit) => r = 1) (fun _ _ => True) NoA) 1 6 NoA := by
  refine va_MetW (cc := cL_fit) (maxL := 7) (ret := (some .int)) (hh := [(0, 14, 17, 21), (0, 14, 21, 13), (0, 14, 25, 50)]) (ws' := lw_all) (by decide) rfl ?_
  intro p e s m args below meth c s₁ B hml hv
  obtain ⟨rfl, hsz, hP, hK, hD0, hG, hZ0⟩ := hv
  have hx := B.exec
  have hb := B.bytes
  have hr := B.returns
  have hts0 := atoms_spec (ws := wsH yL_fit cL_fit 7 (some .int) [(0, 14, 17, 21), (0, 14, 21, 13), (0, 14, 25, 50)]) B.pre
  have hts : ∀ w ∈ lw_all, w.before _ s = true := fun w h => hts0 w (List.mem_cons_of_mem _ h)
  have hown : s.vm.findClass RL = some m.cls := findClass_of_methodNamed B.named
  have hlocks := B.notSynchronized
  have htab : c.exceptionTable.toList = tableOf [(0, 14, 17, 21), (0, 14, 21, 13), (0, 14, 25, 50)] := vx_table (x := objectInit) B (hts0 _ List.mem_cons_self)
  subst hsz
  have hD : va_D (fun _ => True) [(h, .inr (11, [.ref cs, f1, f2, f3, f4, f5, f6])), (cs, .inr (4, [.int md, ed, .int 0]))] := hD0
  have hZ : ZZ NoA s s.heap := hZ0
  have hS : va_S NoA s.heap s.heap [] := va_S.rf
  have hP : va_P D vwCl [(h, .inr (11, [.ref cs, f1, f2, f3, f4, f5, f6])), (cs, .inr (4, [.int md, ed, .int 0]))] s.heap := hP
  have hl := lv_entry ([.ref h, .int p0, .int p1, .int p2, .int p3, .ref o]) (n := 7) (Nat.le_of_ble_eq_true rfl)
  rw [lg_entry_eq]
  generalize (lg_sl ([.ref h, .int p0, .int p1, .int p2, .int p3, .ref o]) ++ List.replicate (7 - (lg_sl ([.ref h, .int p0, .int p1, .int p2, .int p3, .ref o])).length) Slot.unset).toArray = ls at hl ⊢
  have hl : lv_has ls 7 [(0, .ref h), (1, .int p0), (2, .int p1), (3, .int p2), (4, .int p3), (5, .ref o)] := hl
  refine lv_aload hx hb dL_fit_0 (lv_at hl 5 rfl) ?_
  refine lv_iconst (v := 0) hx hb dL_fit_2 (by decide) ?_
  refine lv_aload_n hx hb dL_fit_3 rfl (lv_at hl 0 rfl) ?_
  refine lv_iload_n hx hb dL_fit_4 rfl (lv_at hl 1 rfl) ?_
  refine lv_iload_n hx hb dL_fit_5 rfl (lv_at hl 2 rfl) ?_
  refine lv_iload_n hx hb dL_fit_6 rfl (lv_at hl 3 rfl) ?_
  refine lv_iload hx hb dL_fit_7 (lv_at hl 4 rfl) ?_
  have hPc := hP.sub (ws' := [(h, .inr (11, [.ref cs, f1, f2, f3, f4, f5, f6])), (cs, .inr (4, [.int md, ed, .int 0]))]) [0, 1] rfl
  have hDc := hD.sub (ws' := [(h, .inr (11, [.ref cs, f1, f2, f3, f4, f5, f6])), (cs, .inr (4, [.int md, ed, .int 0]))]) [0, 1] (by decide) rfl
  have hKc := hK.sub (tys' := []) [] rfl
  refine vx_calli (vx_runV (As := [.int p0, .int p1, .int p2, .int p3]) (rest := [.int 0, .ref o]) ⟨hx, hb, hml, hown, hts⟩ (k_LF_fit l hst D h cs f1 f2 f3 f4 f5 f6 md (ed) p0 p1 p2 p3 s.heap.size) (cwV 4 hts (gV q1081 q1082 q1083 q1 (gA q1084)) rfl rfl rfl (by decide +kernel) ⟨Nat.le_of_ble_eq_true rfl, Nat.le_of_ble_eq_true rfl⟩) ⟨EV.fb, va_recv hKc hPc (ci := 11) (q0 := 0) rfl rfl, fun U hU hW => ⟨rfl, EV.at hPc hKc hDc hG (hZ.no hS) U hU hW⟩⟩ rfl rfl hl.1 rfl (lv_room (Nat.le_of_ble_eq_true rfl)) dL_fit_9 ⟨Nat.le_of_ble_eq_true rfl, Nat.le_of_ble_eq_true rfl⟩) hS (fun q _ h => h.elim) (fun q h => h.elim) (fun q _ h => h.elim) (fun E ce q9 u t H1 locs1 ht hvm hpx hBX hz1 hk1 hS hcell hcv hcl => ?_) (fun r u t H1 locs1 ht hvm hw hB hz1 hk1 hS => hw.elim)
  have hP := P_kept hP hk1
  subst hBX
  refine vx_catch (own := RL) (name := "java/lang/IndexOutOfBoundsException") (E := "java/lang/IndexOutOfBoundsException") hown [] ⟨0, 14, 17, 21⟩ [⟨0, 14, 21, 13⟩, ⟨0, 14, 25, 50⟩] (by rw [htab]; rfl) (fun z hz => absurd hz List.not_mem_nil) rfl (by decide) (hts _ q643) (hG.use t194) hcell hcv hcl ?_
  generalize H1 = H at hP hS ⊢
  have hP : va_P D vwCl [(h, .inr (11, [.ref cs, f1, f2, f3, f4, f5, f6])), (cs, .inr (4, [.int md, ed, .int 0]))] H := hP
  refine lv_astore (lv' := [(6, .ref q9), (0, .ref h), (1, .int p0), (2, .int p1), (3, .int p2), (4, .int p3), (5, .ref o)]) hx hb dL_fit_17 hl (by decide) rfl (fun ls hl => ?_)
  refine lv_iconst (v := 1) hx hb dL_fit_19 (by decide) ?_
  refine W.widen (k := 1) (n := 6) (Nat.le_of_ble_eq_true rfl) (Nat.le_of_ble_eq_true rfl) ?_
  exact W.iret (v := 1) hx hb hr (fun t ht hW => ⟨⟨1, (), rfl, rfl, trivial⟩, hS.F ht⟩) hS.2.2 dL_fit_20
