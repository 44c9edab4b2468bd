theorem dX7_compareForecasts_0 : decode cX7_compareForecasts 0 = .ok (.aload_n 0, 1) := by decide +kernel
theorem dX7_compareForecasts_1 : decode cX7_compareForecasts 1 = .ok (.iload_n 1, 1) := by decide +kernel
theorem dX7_compareForecasts_2 : decode cX7_compareForecasts 2 = .ok (.invokevirtual 65, 3) := by decide +kernel
theorem dX7_compareForecasts_5 : decode cX7_compareForecasts 5 = .ok (.pop, 1) := by decide +kernel
theorem dX7_compareForecasts_6 : decode cX7_compareForecasts 6 = .ok (.iload_n 2, 1) := by decide +kernel
theorem dX7_compareForecasts_7 : decode cX7_compareForecasts 7 = .ok (.iconst 1, 1) := by decide +kernel
theorem dX7_compareForecasts_8 : decode cX7_compareForecasts 8 = .ok (.bipush 48, 2) := by decide +kernel
theorem dX7_compareForecasts_10 : decode cX7_compareForecasts 10 = .ok (.invokestatic 73, 3) := by decide +kernel
theorem dX7_compareForecasts_13 : decode cX7_compareForecasts 13 = .ok (.iload_n 3, 1) := by decide +kernel
theorem dX7_compareForecasts_14 : decode cX7_compareForecasts 14 = .ok (.iconst 0, 1) := by decide +kernel
theorem dX7_compareForecasts_15 : decode cX7_compareForecasts 15 = .ok (.ldc_w 353, 3) := by decide +kernel
theorem dX7_compareForecasts_18 : decode cX7_compareForecasts 18 = .ok (.invokestatic 73, 3) := by decide +kernel
theorem dX7_compareForecasts_21 : decode cX7_compareForecasts 21 = .ok (.ldc2_w 356, 3) := by decide +kernel
theorem dX7_compareForecasts_24 : decode cX7_compareForecasts 24 = .ok (.lstore 4, 2) := by decide +kernel
theorem dX7_compareForecasts_26 : decode cX7_compareForecasts 26 = .ok (.iconst 0, 1) := by decide +kernel
theorem dX7_compareForecasts_27 : decode cX7_compareForecasts 27 = .ok (.istore 6, 2) := by decide +kernel
theorem dX7_compareForecasts_29 : decode cX7_compareForecasts 29 = .ok (.iload 6, 2) := by decide +kernel
theorem dX7_compareForecasts_31 : decode cX7_compareForecasts 31 = .ok (.aload_n 0, 1) := by decide +kernel
theorem dX7_compareForecasts_32 : decode cX7_compareForecasts 32 = .ok (.getfield 26, 3) := by decide +kernel
theorem dX7_compareForecasts_35 : decode cX7_compareForecasts 35 = .ok (.arraylength, 1) := by decide +kernel
theorem dX7_compareForecasts_36 : decode cX7_compareForecasts 36 = .ok (.if_icmp .ge 47, 3) := by decide +kernel
theorem dX7_compareForecasts_39 : decode cX7_compareForecasts 39 = .ok (.aload_n 0, 1) := by decide +kernel
theorem dX7_compareForecasts_40 : decode cX7_compareForecasts 40 = .ok (.getfield 26, 3) := by decide +kernel
theorem dX7_compareForecasts_43 : decode cX7_compareForecasts 43 = .ok (.iload 6, 2) := by decide +kernel
theorem dX7_compareForecasts_45 : decode cX7_compareForecasts 45 = .ok (.aload_n 0, 1) := by decide +kernel
theorem dX7_compareForecasts_46 : decode cX7_compareForecasts 46 = .ok (.iload_n 1, 1) := by decide +kernel
theorem dX7_compareForecasts_47 : decode cX7_compareForecasts 47 = .ok (.iload_n 2, 1) := by decide +kernel
theorem dX7_compareForecasts_48 : decode cX7_compareForecasts 48 = .ok (.iload 6, 2) := by decide +kernel
theorem dX7_compareForecasts_50 : decode cX7_compareForecasts 50 = .ok (.invokestatic 266, 3) := by decide +kernel
theorem dX7_compareForecasts_53 : decode cX7_compareForecasts 53 = .ok (.invokevirtual 259, 3) := by decide +kernel
theorem dX7_compareForecasts_56 : decode cX7_compareForecasts 56 = .ok (.iload_n 3, 1) := by decide +kernel
theorem dX7_compareForecasts_57 : decode cX7_compareForecasts 57 = .ok (.i2l, 1) := by decide +kernel
theorem dX7_compareForecasts_58 : decode cX7_compareForecasts 58 = .ok (.lsub, 1) := by decide +kernel
theorem dX7_compareForecasts_59 : decode cX7_compareForecasts 59 = .ok (.invokestatic 358, 3) := by decide +kernel
theorem dX7_compareForecasts_62 : decode cX7_compareForecasts 62 = .ok (.lastore, 1) := by decide +kernel
theorem dX7_compareForecasts_63 : decode cX7_compareForecasts 63 = .ok (.lload 4, 2) := by decide +kernel
theorem dX7_compareForecasts_65 : decode cX7_compareForecasts 65 = .ok (.aload_n 0, 1) := by decide +kernel
theorem dX7_compareForecasts_66 : decode cX7_compareForecasts 66 = .ok (.getfield 26, 3) := by decide +kernel
theorem dX7_compareForecasts_69 : decode cX7_compareForecasts 69 = .ok (.iload 6, 2) := by decide +kernel
theorem dX7_compareForecasts_71 : decode cX7_compareForecasts 71 = .ok (.laload, 1) := by decide +kernel
theorem dX7_compareForecasts_72 : decode cX7_compareForecasts 72 = .ok (.invokestatic 364, 3) := by decide +kernel
theorem dX7_compareForecasts_75 : decode cX7_compareForecasts 75 = .ok (.lstore 4, 2) := by decide +kernel
theorem dX7_compareForecasts_77 : decode cX7_compareForecasts 77 = .ok (.iinc 6 1, 3) := by decide +kernel
theorem dX7_compareForecasts_80 : decode cX7_compareForecasts 80 = .ok (.goto (-51), 3) := by decide +kernel
theorem dX7_compareForecasts_83 : decode cX7_compareForecasts 83 = .ok (.lload 4, 2) := by decide +kernel
theorem dX7_compareForecasts_85 : decode cX7_compareForecasts 85 = .ok (.lreturn, 1) := by decide +kernel
theorem dX7_fittedScale_0 : decode cX7_fittedScale 0 = .ok (.bipush 10, 2) := by decide +kernel
theorem dX7_fittedScale_2 : decode cX7_fittedScale 2 = .ok (.iload_n 0, 1) := by decide +kernel
theorem dX7_fittedScale_3 : decode cX7_fittedScale 3 = .ok (.bipush 10, 2) := by decide +kernel
theorem dX7_fittedScale_5 : decode cX7_fittedScale 5 = .ok (.imul, 1) := by decide +kernel
theorem dX7_fittedScale_6 : decode cX7_fittedScale 6 = .ok (.iadd, 1) := by decide +kernel
theorem dX7_fittedScale_7 : decode cX7_fittedScale 7 = .ok (.ireturn, 1) := by decide +kernel
theorem dX7_layersInAll_0 : decode cX7_layersInAll 0 = .ok (.iconst 0, 1) := by decide +kernel
theorem dX7_layersInAll_1 : decode cX7_layersInAll 1 = .ok (.istore_n 1, 1) := by decide +kernel
theorem dX7_layersInAll_2 : decode cX7_layersInAll 2 = .ok (.iconst 0, 1) := by decide +kernel
theorem dX7_layersInAll_3 : decode cX7_layersInAll 3 = .ok (.istore_n 2, 1) := by decide +kernel
theorem dX7_layersInAll_4 : decode cX7_layersInAll 4 = .ok (.iload_n 2, 1) := by decide +kernel
theorem dX7_layersInAll_5 : decode cX7_layersInAll 5 = .ok (.aload_n 0, 1) := by decide +kernel
theorem dX7_layersInAll_6 : decode cX7_layersInAll 6 = .ok (.getfield 10, 3) := by decide +kernel
theorem dX7_layersInAll_9 : decode cX7_layersInAll 9 = .ok (.invokevirtual 47, 3) := by decide +kernel
theorem dX7_layersInAll_12 : decode cX7_layersInAll 12 = .ok (.if_icmp .ge 29, 3) := by decide +kernel
theorem dX7_layersInAll_15 : decode cX7_layersInAll 15 = .ok (.iload_n 1, 1) := by decide +kernel
theorem dX7_layersInAll_16 : decode cX7_layersInAll 16 = .ok (.aload_n 0, 1) := by decide +kernel
theorem dX7_layersInAll_17 : decode cX7_layersInAll 17 = .ok (.getfield 10, 3) := by decide +kernel
theorem dX7_layersInAll_20 : decode cX7_layersInAll 20 = .ok (.iload_n 2, 1) := by decide +kernel
theorem dX7_layersInAll_21 : decode cX7_layersInAll 21 = .ok (.invokevirtual 141, 3) := by decide +kernel
theorem dX7_layersInAll_24 : decode cX7_layersInAll 24 = .ok (.checkcast 56, 3) := by decide +kernel
theorem dX7_layersInAll_27 : decode cX7_layersInAll 27 = .ok (.getfield 77, 3) := by decide +kernel
theorem dX7_layersInAll_30 : decode cX7_layersInAll 30 = .ok (.invokevirtual 47, 3) := by decide +kernel
theorem dX7_layersInAll_33 : decode cX7_layersInAll 33 = .ok (.iadd, 1) := by decide +kernel
theorem dX7_layersInAll_34 : decode cX7_layersInAll 34 = .ok (.istore_n 1, 1) := by decide +kernel
theorem dX7_layersInAll_35 : decode cX7_layersInAll 35 = .ok (.iinc 2 1, 3) := by decide +kernel
theorem dX7_layersInAll_38 : decode cX7_layersInAll 38 = .ok (.goto (-34), 3) := by decide +kernel
theorem dX7_layersInAll_41 : decode cX7_layersInAll 41 = .ok (.iload_n 1, 1) := by decide +kernel
theorem dX7_layersInAll_42 : decode cX7_layersInAll 42 = .ok (.ireturn, 1) := by decide +kernel
theorem dX7_forecastHolds_0 : decode cX7_forecastHolds 0 = .ok (.aload_n 0, 1) := by decide +kernel
theorem dX7_forecastHolds_1 : decode cX7_forecastHolds 1 = .ok (.iload_n 1, 1) := by decide +kernel
theorem dX7_forecastHolds_2 : decode cX7_forecastHolds 2 = .ok (.invokevirtual 65, 3) := by decide +kernel
theorem dX7_forecastHolds_5 : decode cX7_forecastHolds 5 = .ok (.getfield 120, 3) := by decide +kernel
theorem dX7_forecastHolds_8 : decode cX7_forecastHolds 8 = .ok (.istore_n 2, 1) := by decide +kernel
theorem dX7_forecastHolds_9 : decode cX7_forecastHolds 9 = .ok (.aload_n 0, 1) := by decide +kernel
theorem dX7_forecastHolds_10 : decode cX7_forecastHolds 10 = .ok (.iload_n 1, 1) := by decide +kernel
theorem dX7_forecastHolds_11 : decode cX7_forecastHolds 11 = .ok (.bipush 48, 2) := by decide +kernel
theorem dX7_forecastHolds_13 : decode cX7_forecastHolds 13 = .ok (.iload_n 2, 1) := by decide +kernel
theorem dX7_forecastHolds_14 : decode cX7_forecastHolds 14 = .ok (.invokevirtual 259, 3) := by decide +kernel
theorem dX7_forecastHolds_17 : decode cX7_forecastHolds 17 = .ok (.lstore_n 3, 1) := by decide +kernel
theorem dX7_forecastHolds_18 : decode cX7_forecastHolds 18 = .ok (.aload_n 0, 1) := by decide +kernel
theorem dX7_forecastHolds_19 : decode cX7_forecastHolds 19 = .ok (.iload_n 1, 1) := by decide +kernel
theorem dX7_forecastHolds_20 : decode cX7_forecastHolds 20 = .ok (.iload_n 2, 1) := by decide +kernel
theorem dX7_forecastHolds_21 : decode cX7_forecastHolds 21 = .ok (.invokevirtual 349, 3) := by decide +kernel
theorem dX7_forecastHolds_24 : decode cX7_forecastHolds 24 = .ok (.astore 5, 2) := by decide +kernel
theorem dX7_forecastHolds_26 : decode cX7_forecastHolds 26 = .ok (.lconst 0, 1) := by decide +kernel
theorem dX7_forecastHolds_27 : decode cX7_forecastHolds 27 = .ok (.lstore 6, 2) := by decide +kernel
theorem dX7_forecastHolds_29 : decode cX7_forecastHolds 29 = .ok (.iconst 0, 1) := by decide +kernel
theorem dX7_forecastHolds_30 : decode cX7_forecastHolds 30 = .ok (.istore 8, 2) := by decide +kernel
theorem dX7_forecastHolds_32 : decode cX7_forecastHolds 32 = .ok (.iload 8, 2) := by decide +kernel
theorem dX7_forecastHolds_34 : decode cX7_forecastHolds 34 = .ok (.bipush 48, 2) := by decide +kernel
theorem dX7_forecastHolds_36 : decode cX7_forecastHolds 36 = .ok (.if_icmp .ge 56, 3) := by decide +kernel
theorem dX7_forecastHolds_39 : decode cX7_forecastHolds 39 = .ok (.aload 5, 2) := by decide +kernel
theorem dX7_forecastHolds_41 : decode cX7_forecastHolds 41 = .ok (.getfield 87, 3) := by decide +kernel
theorem dX7_forecastHolds_44 : decode cX7_forecastHolds 44 = .ok (.getfield 214, 3) := by decide +kernel
theorem dX7_forecastHolds_47 : decode cX7_forecastHolds 47 = .ok (.lstore 9, 2) := by decide +kernel
theorem dX7_forecastHolds_49 : decode cX7_forecastHolds 49 = .ok (.aload 5, 2) := by decide +kernel
theorem dX7_forecastHolds_51 : decode cX7_forecastHolds 51 = .ok (.aload_n 0, 1) := by decide +kernel
theorem dX7_forecastHolds_52 : decode cX7_forecastHolds 52 = .ok (.getfield 22, 3) := by decide +kernel
theorem dX7_forecastHolds_55 : decode cX7_forecastHolds 55 = .ok (.getfield 198, 3) := by decide +kernel
theorem dX7_forecastHolds_58 : decode cX7_forecastHolds 58 = .ok (.iconst 0, 1) := by decide +kernel
theorem dX7_forecastHolds_59 : decode cX7_forecastHolds 59 = .ok (.aload_n 0, 1) := by decide +kernel
theorem dX7_forecastHolds_60 : decode cX7_forecastHolds 60 = .ok (.getfield 22, 3) := by decide +kernel
theorem dX7_forecastHolds_63 : decode cX7_forecastHolds 63 = .ok (.getfield 204, 3) := by decide +kernel
theorem dX7_forecastHolds_66 : decode cX7_forecastHolds 66 = .ok (.invokevirtual 327, 3) := by decide +kernel
theorem dX7_forecastHolds_69 : decode cX7_forecastHolds 69 = .ok (.pop2, 1) := by decide +kernel
theorem dX7_forecastHolds_70 : decode cX7_forecastHolds 70 = .ok (.lload 6, 2) := by decide +kernel
theorem dX7_forecastHolds_72 : decode cX7_forecastHolds 72 = .ok (.aload 5, 2) := by decide +kernel
theorem dX7_forecastHolds_74 : decode cX7_forecastHolds 74 = .ok (.getfield 87, 3) := by decide +kernel
theorem dX7_forecastHolds_77 : decode cX7_forecastHolds 77 = .ok (.getfield 214, 3) := by decide +kernel
theorem dX7_forecastHolds_80 : decode cX7_forecastHolds 80 = .ok (.lload 9, 2) := by decide +kernel
theorem dX7_forecastHolds_82 : decode cX7_forecastHolds 82 = .ok (.lsub, 1) := by decide +kernel
theorem dX7_forecastHolds_83 : decode cX7_forecastHolds 83 = .ok (.ladd, 1) := by decide +kernel
theorem dX7_forecastHolds_84 : decode cX7_forecastHolds 84 = .ok (.lstore 6, 2) := by decide +kernel
theorem dX7_forecastHolds_86 : decode cX7_forecastHolds 86 = .ok (.iinc 8 1, 3) := by decide +kernel
theorem dX7_forecastHolds_89 : decode cX7_forecastHolds 89 = .ok (.goto (-57), 3) := by decide +kernel
theorem dX7_forecastHolds_92 : decode cX7_forecastHolds 92 = .ok (.lload_n 3, 1) := by decide +kernel
theorem dX7_forecastHolds_93 : decode cX7_forecastHolds 93 = .ok (.lload 6, 2) := by decide +kernel
theorem dX7_forecastHolds_95 : decode cX7_forecastHolds 95 = .ok (.lcmp, 1) := by decide +kernel
theorem dX7_forecastHolds_96 : decode cX7_forecastHolds 96 = .ok (.ifCond .ne 7, 3) := by decide +kernel
theorem dX7_forecastHolds_99 : decode cX7_forecastHolds 99 = .ok (.iconst 1, 1) := by decide +kernel
theorem dX7_forecastHolds_100 : decode cX7_forecastHolds 100 = .ok (.goto 4, 3) := by decide +kernel
theorem dX7_forecastHolds_103 : decode cX7_forecastHolds 103 = .ok (.iconst 0, 1) := by decide +kernel
theorem dX7_forecastHolds_104 : decode cX7_forecastHolds 104 = .ok (.ireturn, 1) := by decide +kernel
theorem dX8_init_0 : decode cX8_init 0 = .ok (.aload_n 0, 1) := by decide +kernel
theorem dX8_init_1 : decode cX8_init 1 = .ok (.invokespecial 3, 3) := by decide +kernel
theorem dX8_init_4 : decode cX8_init 4 = .ok (.aload_n 0, 1) := by decide +kernel
theorem dX8_init_5 : decode cX8_init 5 = .ok (.new 9, 3) := by decide +kernel
theorem dX8_init_8 : decode cX8_init 8 = .ok (.dup, 1) := by decide +kernel
theorem dX8_init_9 : decode cX8_init 9 = .ok (.invokespecial 11, 3) := by decide +kernel
theorem dX8_init_12 : decode cX8_init 12 = .ok (.putfield 12, 3) := by decide +kernel
theorem dX8_init_15 : decode cX8_init 15 = .ok (.aload_n 0, 1) := by decide +kernel
theorem dX8_init_16 : decode cX8_init 16 = .ok (.new 9, 3) := by decide +kernel
theorem dX8_init_19 : decode cX8_init 19 = .ok (.dup, 1) := by decide +kernel
theorem dX8_init_20 : decode cX8_init 20 = .ok (.invokespecial 11, 3) := by decide +kernel
theorem dX8_init_23 : decode cX8_init 23 = .ok (.putfield 18, 3) := by decide +kernel
theorem dX8_init_26 : decode cX8_init 26 = .ok (.aload_n 0, 1) := by decide +kernel
theorem dX8_init_27 : decode cX8_init 27 = .ok (.iconst (-1), 1) := by decide +kernel
theorem dX8_init_28 : decode cX8_init 28 = .ok (.putfield 21, 3) := by decide +kernel
theorem dX8_init_31 : decode cX8_init 31 = .ok (.aload_n 0, 1) := by decide +kernel
theorem dX8_init_32 : decode cX8_init 32 = .ok (.bipush 100, 2) := by decide +kernel
theorem dX8_init_34 : decode cX8_init 34 = .ok (.putfield 25, 3) := by decide +kernel
theorem dX8_init_37 : decode cX8_init 37 = .ok (.aload_n 0, 1) := by decide +kernel
theorem dX8_init_38 : decode cX8_init 38 = .ok (.iconst 3, 1) := by decide +kernel
theorem dX8_init_39 : decode cX8_init 39 = .ok (.newarray .long, 2) := by decide +kernel
theorem dX8_init_41 : decode cX8_init 41 = .ok (.putfield 28, 3) := by decide +kernel
theorem dX8_init_44 : decode cX8_init 44 = .ok (.aload_n 0, 1) := by decide +kernel
theorem dX8_init_45 : decode cX8_init 45 = .ok (.iload_n 1, 1) := by decide +kernel
theorem dX8_init_46 : decode cX8_init 46 = .ok (.putfield 32, 3) := by decide +kernel
theorem dX8_init_49 : decode cX8_init 49 = .ok (.return_, 1) := by decide +kernel
theorem dX8_copy_0 : decode cX8_copy 0 = .ok (.new 13, 3) := by decide +kernel
theorem dX8_copy_3 : decode cX8_copy 3 = .ok (.dup, 1) := by decide +kernel
theorem dX8_copy_4 : decode cX8_copy 4 = .ok (.aload_n 0, 1) := by decide +kernel
theorem dX8_copy_5 : decode cX8_copy 5 = .ok (.getfield 32, 3) := by decide +kernel
theorem dX8_copy_8 : decode cX8_copy 8 = .ok (.invokespecial 36, 3) := by decide +kernel
theorem dX8_copy_11 : decode cX8_copy 11 = .ok (.astore_n 1, 1) := by decide +kernel
theorem dX8_copy_12 : decode cX8_copy 12 = .ok (.aload_n 0, 1) := by decide +kernel
theorem dX8_copy_13 : decode cX8_copy 13 = .ok (.getfield 12, 3) := by decide +kernel
theorem dX8_copy_16 : decode cX8_copy 16 = .ok (.invokevirtual 39, 3) := by decide +kernel
theorem dX8_copy_19 : decode cX8_copy 19 = .ok (.astore_n 2, 1) := by decide +kernel
theorem dX8_copy_20 : decode cX8_copy 20 = .ok (.aload_n 2, 1) := by decide +kernel
theorem dX8_copy_21 : decode cX8_copy 21 = .ok (.invokeinterface 43 1, 5) := by decide +kernel
theorem dX8_copy_26 : decode cX8_copy 26 = .ok (.ifCond .eq 28, 3) := by decide +kernel
theorem dX8_copy_29 : decode cX8_copy 29 = .ok (.aload_n 2, 1) := by decide +kernel
theorem dX8_copy_30 : decode cX8_copy 30 = .ok (.invokeinterface 49 1, 5) := by decide +kernel
theorem dX8_copy_35 : decode cX8_copy 35 = .ok (.checkcast 53, 3) := by decide +kernel
theorem dX8_copy_38 : decode cX8_copy 38 = .ok (.astore_n 3, 1) := by decide +kernel
theorem dX8_copy_39 : decode cX8_copy 39 = .ok (.aload_n 1, 1) := by decide +kernel
theorem dX8_copy_40 : decode cX8_copy 40 = .ok (.getfield 12, 3) := by decide +kernel
theorem dX8_copy_43 : decode cX8_copy 43 = .ok (.aload_n 3, 1) := by decide +kernel
theorem dX8_copy_44 : decode cX8_copy 44 = .ok (.invokevirtual 55, 3) := by decide +kernel
theorem dX8_copy_47 : decode cX8_copy 47 = .ok (.invokevirtual 59, 3) := by decide +kernel
theorem dX8_copy_50 : decode cX8_copy 50 = .ok (.pop, 1) := by decide +kernel
theorem dX8_copy_51 : decode cX8_copy 51 = .ok (.goto (-31), 3) := by decide +kernel
theorem dX8_copy_54 : decode cX8_copy 54 = .ok (.aload_n 0, 1) := by decide +kernel
theorem dX8_copy_55 : decode cX8_copy 55 = .ok (.getfield 18, 3) := by decide +kernel
theorem dX8_copy_58 : decode cX8_copy 58 = .ok (.invokevirtual 39, 3) := by decide +kernel
theorem dX8_copy_61 : decode cX8_copy 61 = .ok (.astore_n 2, 1) := by decide +kernel
theorem dX8_copy_62 : decode cX8_copy 62 = .ok (.aload_n 2, 1) := by decide +kernel
theorem dX8_copy_63 : decode cX8_copy 63 = .ok (.invokeinterface 43 1, 5) := by decide +kernel
theorem dX8_copy_68 : decode cX8_copy 68 = .ok (.ifCond .eq 39, 3) := by decide +kernel
theorem dX8_copy_71 : decode cX8_copy 71 = .ok (.aload_n 2, 1) := by decide +kernel
theorem dX8_copy_72 : decode cX8_copy 72 = .ok (.invokeinterface 49 1, 5) := by decide +kernel
theorem dX8_copy_77 : decode cX8_copy 77 = .ok (.checkcast 63, 3) := by decide +kernel
theorem dX8_copy_80 : decode cX8_copy 80 = .ok (.astore_n 3, 1) := by decide +kernel
theorem dX8_copy_81 : decode cX8_copy 81 = .ok (.aload_n 1, 1) := by decide +kernel
theorem dX8_copy_82 : decode cX8_copy 82 = .ok (.getfield 18, 3) := by decide +kernel
theorem dX8_copy_85 : decode cX8_copy 85 = .ok (.new 63, 3) := by decide +kernel
theorem dX8_copy_88 : decode cX8_copy 88 = .ok (.dup, 1) := by decide +kernel
theorem dX8_copy_89 : decode cX8_copy 89 = .ok (.aload_n 3, 1) := by decide +kernel
theorem dX8_copy_90 : decode cX8_copy 90 = .ok (.getfield 65, 3) := by decide +kernel
theorem dX8_copy_93 : decode cX8_copy 93 = .ok (.aload_n 3, 1) := by decide +kernel
theorem dX8_copy_94 : decode cX8_copy 94 = .ok (.getfield 68, 3) := by decide +kernel
theorem dX8_copy_97 : decode cX8_copy 97 = .ok (.invokespecial 71, 3) := by decide +kernel
theorem dX8_copy_100 : decode cX8_copy 100 = .ok (.invokevirtual 59, 3) := by decide +kernel
theorem dX8_copy_103 : decode cX8_copy 103 = .ok (.pop, 1) := by decide +kernel
theorem dX8_copy_104 : decode cX8_copy 104 = .ok (.goto (-42), 3) := by decide +kernel
theorem dX8_copy_107 : decode cX8_copy 107 = .ok (.aload_n 1, 1) := by decide +kernel
theorem dX8_copy_108 : decode cX8_copy 108 = .ok (.aload_n 0, 1) := by decide +kernel
theorem dX8_copy_109 : decode cX8_copy 109 = .ok (.getfield 25, 3) := by decide +kernel
theorem dX8_copy_112 : decode cX8_copy 112 = .ok (.putfield 25, 3) := by decide +kernel
theorem dX8_copy_115 : decode cX8_copy 115 = .ok (.aload_n 1, 1) := by decide +kernel
theorem dX8_copy_116 : decode cX8_copy 116 = .ok (.aload_n 0, 1) := by decide +kernel
theorem dX8_copy_117 : decode cX8_copy 117 = .ok (.getfield 74, 3) := by decide +kernel
theorem dX8_copy_120 : decode cX8_copy 120 = .ok (.putfield 74, 3) := by decide +kernel
theorem dX8_copy_123 : decode cX8_copy 123 = .ok (.aload_n 1, 1) := by decide +kernel
theorem dX8_copy_124 : decode cX8_copy 124 = .ok (.aload_n 0, 1) := by decide +kernel
theorem dX8_copy_125 : decode cX8_copy 125 = .ok (.getfield 78, 3) := by decide +kernel
theorem dX8_copy_128 : decode cX8_copy 128 = .ok (.putfield 78, 3) := by decide +kernel
theorem dX8_copy_131 : decode cX8_copy 131 = .ok (.aload_n 1, 1) := by decide +kernel
theorem dX8_copy_132 : decode cX8_copy 132 = .ok (.aload_n 0, 1) := by decide +kernel
theorem dX8_copy_133 : decode cX8_copy 133 = .ok (.getfield 81, 3) := by decide +kernel
theorem dX8_copy_136 : decode cX8_copy 136 = .ok (.putfield 81, 3) := by decide +kernel
theorem dX8_copy_139 : decode cX8_copy 139 = .ok (.aload_n 1, 1) := by decide +kernel
theorem dX8_copy_140 : decode cX8_copy 140 = .ok (.areturn, 1) := by decide +kernel
theorem dX8_freezes_0 : decode cX8_freezes 0 = .ok (.iconst 0, 1) := by decide +kernel
theorem dX8_freezes_1 : decode cX8_freezes 1 = .ok (.istore_n 2, 1) := by decide +kernel
theorem dX8_freezes_2 : decode cX8_freezes 2 = .ok (.iload_n 2, 1) := by decide +kernel
theorem dX8_freezes_3 : decode cX8_freezes 3 = .ok (.aload_n 0, 1) := by decide +kernel
theorem dX8_freezes_4 : decode cX8_freezes 4 = .ok (.getfield 12, 3) := by decide +kernel
theorem dX8_freezes_7 : decode cX8_freezes 7 = .ok (.invokevirtual 85, 3) := by decide +kernel
theorem dX8_freezes_10 : decode cX8_freezes 10 = .ok (.if_icmp .ge 108, 3) := by decide +kernel
theorem dX8_freezes_13 : decode cX8_freezes 13 = .ok (.aload_n 0, 1) := by decide +kernel
theorem dX8_freezes_14 : decode cX8_freezes 14 = .ok (.getfield 12, 3) := by decide +kernel
theorem dX8_freezes_17 : decode cX8_freezes 17 = .ok (.iload_n 2, 1) := by decide +kernel
theorem dX8_freezes_18 : decode cX8_freezes 18 = .ok (.invokevirtual 89, 3) := by decide +kernel
theorem dX8_freezes_21 : decode cX8_freezes 21 = .ok (.checkcast 53, 3) := by decide +kernel
theorem dX8_freezes_24 : decode cX8_freezes 24 = .ok (.astore_n 3, 1) := by decide +kernel
theorem dX8_freezes_25 : decode cX8_freezes 25 = .ok (.iload_n 1, 1) := by decide +kernel
theorem dX8_freezes_26 : decode cX8_freezes 26 = .ok (.ifCond .ge 44, 3) := by decide +kernel
theorem dX8_freezes_29 : decode cX8_freezes 29 = .ok (.aload_n 3, 1) := by decide +kernel
theorem dX8_freezes_30 : decode cX8_freezes 30 = .ok (.getfield 93, 3) := by decide +kernel
theorem dX8_freezes_33 : decode cX8_freezes 33 = .ok (.ifCond .ne 37, 3) := by decide +kernel
theorem dX8_freezes_36 : decode cX8_freezes 36 = .ok (.aload_n 3, 1) := by decide +kernel
theorem dX8_freezes_37 : decode cX8_freezes 37 = .ok (.dup, 1) := by decide +kernel
theorem dX8_freezes_38 : decode cX8_freezes 38 = .ok (.getfield 96, 3) := by decide +kernel
theorem dX8_freezes_41 : decode cX8_freezes 41 = .ok (.iload_n 1, 1) := by decide +kernel
theorem dX8_freezes_42 : decode cX8_freezes 42 = .ok (.isub, 1) := by decide +kernel
theorem dX8_freezes_43 : decode cX8_freezes 43 = .ok (.putfield 96, 3) := by decide +kernel
theorem dX8_freezes_46 : decode cX8_freezes 46 = .ok (.aload_n 3, 1) := by decide +kernel
theorem dX8_freezes_47 : decode cX8_freezes 47 = .ok (.aload_n 3, 1) := by decide +kernel
theorem dX8_freezes_48 : decode cX8_freezes 48 = .ok (.getfield 96, 3) := by decide +kernel
theorem dX8_freezes_51 : decode cX8_freezes 51 = .ok (.aload_n 3, 1) := by decide +kernel
theorem dX8_freezes_52 : decode cX8_freezes 52 = .ok (.getfield 99, 3) := by decide +kernel
theorem dX8_freezes_55 : decode cX8_freezes 55 = .ok (.bipush 10, 2) := by decide +kernel
theorem dX8_freezes_57 : decode cX8_freezes 57 = .ok (.idiv, 1) := by decide +kernel
theorem dX8_freezes_58 : decode cX8_freezes 58 = .ok (.if_icmp .lt 7, 3) := by decide +kernel
theorem dX8_freezes_61 : decode cX8_freezes 61 = .ok (.iconst 1, 1) := by decide +kernel
theorem dX8_freezes_62 : decode cX8_freezes 62 = .ok (.goto 4, 3) := by decide +kernel
theorem dX8_freezes_65 : decode cX8_freezes 65 = .ok (.iconst 0, 1) := by decide +kernel
theorem dX8_freezes_66 : decode cX8_freezes 66 = .ok (.putfield 93, 3) := by decide +kernel
theorem dX8_freezes_69 : decode cX8_freezes 69 = .ok (.return_, 1) := by decide +kernel
theorem dX8_freezes_70 : decode cX8_freezes 70 = .ok (.iload_n 1, 1) := by decide +kernel
theorem dX8_freezes_71 : decode cX8_freezes 71 = .ok (.ifCond .le 41, 3) := by decide +kernel
theorem dX8_freezes_74 : decode cX8_freezes 74 = .ok (.aload_n 3, 1) := by decide +kernel
theorem dX8_freezes_75 : decode cX8_freezes 75 = .ok (.getfield 93, 3) := by decide +kernel
theorem dX8_freezes_78 : decode cX8_freezes 78 = .ok (.ifCond .eq 34, 3) := by decide +kernel
theorem dX8_freezes_81 : decode cX8_freezes 81 = .ok (.aload_n 3, 1) := by decide +kernel
theorem dX8_freezes_82 : decode cX8_freezes 82 = .ok (.iconst 0, 1) := by decide +kernel
theorem dX8_freezes_83 : decode cX8_freezes 83 = .ok (.aload_n 3, 1) := by decide +kernel
theorem dX8_freezes_84 : decode cX8_freezes 84 = .ok (.getfield 96, 3) := by decide +kernel
theorem dX8_freezes_87 : decode cX8_freezes 87 = .ok (.iload_n 1, 1) := by decide +kernel
theorem dX8_freezes_88 : decode cX8_freezes 88 = .ok (.isub, 1) := by decide +kernel
theorem dX8_freezes_89 : decode cX8_freezes 89 = .ok (.invokestatic 102, 3) := by decide +kernel
theorem dX8_freezes_92 : decode cX8_freezes 92 = .ok (.putfield 96, 3) := by decide +kernel
theorem dX8_freezes_95 : decode cX8_freezes 95 = .ok (.aload_n 3, 1) := by decide +kernel
theorem dX8_freezes_96 : decode cX8_freezes 96 = .ok (.aload_n 3, 1) := by decide +kernel
theorem dX8_freezes_97 : decode cX8_freezes 97 = .ok (.getfield 96, 3) := by decide +kernel
theorem dX8_freezes_100 : decode cX8_freezes 100 = .ok (.ifCond .le 7, 3) := by decide +kernel
theorem dX8_freezes_103 : decode cX8_freezes 103 = .ok (.iconst 1, 1) := by decide +kernel
theorem dX8_freezes_104 : decode cX8_freezes 104 = .ok (.goto 4, 3) := by decide +kernel
theorem dX8_freezes_107 : decode cX8_freezes 107 = .ok (.iconst 0, 1) := by decide +kernel
theorem dX8_freezes_108 : decode cX8_freezes 108 = .ok (.putfield 93, 3) := by decide +kernel
theorem dX8_freezes_111 : decode cX8_freezes 111 = .ok (.return_, 1) := by decide +kernel
theorem dX8_freezes_112 : decode cX8_freezes 112 = .ok (.iinc 2 1, 3) := by decide +kernel
theorem dX8_freezes_115 : decode cX8_freezes 115 = .ok (.goto (-113), 3) := by decide +kernel
theorem dX8_freezes_118 : decode cX8_freezes 118 = .ok (.return_, 1) := by decide +kernel
theorem dX8_crackEnd_0 : decode cX8_crackEnd 0 = .ok (.aconst_null, 1) := by decide +kernel
theorem dX8_crackEnd_1 : decode cX8_crackEnd 1 = .ok (.astore_n 1, 1) := by decide +kernel
theorem dX8_crackEnd_2 : decode cX8_crackEnd 2 = .ok (.iconst 0, 1) := by decide +kernel
theorem dX8_crackEnd_3 : decode cX8_crackEnd 3 = .ok (.istore_n 2, 1) := by decide +kernel
theorem dX8_crackEnd_4 : decode cX8_crackEnd 4 = .ok (.iload_n 2, 1) := by decide +kernel
theorem dX8_crackEnd_5 : decode cX8_crackEnd 5 = .ok (.aload_n 0, 1) := by decide +kernel
theorem dX8_crackEnd_6 : decode cX8_crackEnd 6 = .ok (.getfield 12, 3) := by decide +kernel
theorem dX8_crackEnd_9 : decode cX8_crackEnd 9 = .ok (.invokevirtual 85, 3) := by decide +kernel
theorem dX8_crackEnd_12 : decode cX8_crackEnd 12 = .ok (.if_icmp .ge 40, 3) := by decide +kernel
theorem dX8_crackEnd_15 : decode cX8_crackEnd 15 = .ok (.aload_n 0, 1) := by decide +kernel
theorem dX8_crackEnd_16 : decode cX8_crackEnd 16 = .ok (.getfield 12, 3) := by decide +kernel
theorem dX8_crackEnd_19 : decode cX8_crackEnd 19 = .ok (.iload_n 2, 1) := by decide +kernel
theorem dX8_crackEnd_20 : decode cX8_crackEnd 20 = .ok (.invokevirtual 89, 3) := by decide +kernel
theorem dX8_crackEnd_23 : decode cX8_crackEnd 23 = .ok (.checkcast 53, 3) := by decide +kernel
theorem dX8_crackEnd_26 : decode cX8_crackEnd 26 = .ok (.getfield 108, 3) := by decide +kernel
theorem dX8_crackEnd_29 : decode cX8_crackEnd 29 = .ok (.bipush 99, 2) := by decide +kernel
theorem dX8_crackEnd_31 : decode cX8_crackEnd 31 = .ok (.if_icmp .ne 21, 3) := by decide +kernel
theorem dX8_crackEnd_34 : decode cX8_crackEnd 34 = .ok (.aload_n 0, 1) := by decide +kernel
theorem dX8_crackEnd_35 : decode cX8_crackEnd 35 = .ok (.getfield 12, 3) := by decide +kernel
theorem dX8_crackEnd_38 : decode cX8_crackEnd 38 = .ok (.iload_n 2, 1) := by decide +kernel
theorem dX8_crackEnd_39 : decode cX8_crackEnd 39 = .ok (.invokevirtual 89, 3) := by decide +kernel
theorem dX8_crackEnd_42 : decode cX8_crackEnd 42 = .ok (.checkcast 53, 3) := by decide +kernel
theorem dX8_crackEnd_45 : decode cX8_crackEnd 45 = .ok (.astore_n 1, 1) := by decide +kernel
theorem dX8_crackEnd_46 : decode cX8_crackEnd 46 = .ok (.iinc 2 1, 3) := by decide +kernel
theorem dX8_crackEnd_49 : decode cX8_crackEnd 49 = .ok (.goto (-45), 3) := by decide +kernel
theorem dX8_crackEnd_52 : decode cX8_crackEnd 52 = .ok (.aload_n 1, 1) := by decide +kernel
theorem dX8_crackEnd_53 : decode cX8_crackEnd 53 = .ok (.areturn, 1) := by decide +kernel
theorem dX8_crack_0 : decode cX8_crack 0 = .ok (.aload_n 0, 1) := by decide +kernel
theorem dX8_crack_1 : decode cX8_crack 1 = .ok (.invokevirtual 111, 3) := by decide +kernel
theorem dX8_crack_4 : decode cX8_crack 4 = .ok (.astore_n 1, 1) := by decide +kernel
theorem dX8_crack_5 : decode cX8_crack 5 = .ok (.aload_n 1, 1) := by decide +kernel
theorem dX8_crack_6 : decode cX8_crack 6 = .ok (.ifnull 57, 3) := by decide +kernel
theorem dX8_crack_9 : decode cX8_crack 9 = .ok (.aload_n 0, 1) := by decide +kernel
theorem dX8_crack_10 : decode cX8_crack 10 = .ok (.getfield 12, 3) := by decide +kernel
theorem dX8_crack_13 : decode cX8_crack 13 = .ok (.iconst 0, 1) := by decide +kernel
theorem dX8_crack_14 : decode cX8_crack 14 = .ok (.invokevirtual 89, 3) := by decide +kernel
theorem dX8_crack_17 : decode cX8_crack 17 = .ok (.checkcast 53, 3) := by decide +kernel
theorem dX8_crack_20 : decode cX8_crack 20 = .ok (.getfield 93, 3) := by decide +kernel
theorem dX8_crack_23 : decode cX8_crack 23 = .ok (.ifCond .ne 40, 3) := by decide +kernel
theorem dX8_crack_26 : decode cX8_crack 26 = .ok (.aload_n 0, 1) := by decide +kernel
theorem dX8_crack_27 : decode cX8_crack 27 = .ok (.getfield 12, 3) := by decide +kernel
theorem dX8_crack_30 : decode cX8_crack 30 = .ok (.iconst 0, 1) := by decide +kernel
theorem dX8_crack_31 : decode cX8_crack 31 = .ok (.invokevirtual 89, 3) := by decide +kernel
theorem dX8_crack_34 : decode cX8_crack 34 = .ok (.checkcast 53, 3) := by decide +kernel
theorem dX8_crack_37 : decode cX8_crack 37 = .ok (.getfield 114, 3) := by decide +kernel
theorem dX8_crack_40 : decode cX8_crack 40 = .ok (.aload_n 0, 1) := by decide +kernel
theorem dX8_crack_41 : decode cX8_crack 41 = .ok (.getfield 12, 3) := by decide +kernel
theorem dX8_crack_44 : decode cX8_crack 44 = .ok (.iconst 0, 1) := by decide +kernel
theorem dX8_crack_45 : decode cX8_crack 45 = .ok (.invokevirtual 89, 3) := by decide +kernel
theorem dX8_crack_48 : decode cX8_crack 48 = .ok (.checkcast 53, 3) := by decide +kernel
theorem dX8_crack_51 : decode cX8_crack 51 = .ok (.getfield 117, 3) := by decide +kernel
theorem dX8_crack_54 : decode cX8_crack 54 = .ok (.bipush 8, 2) := by decide +kernel
theorem dX8_crack_56 : decode cX8_crack 56 = .ok (.imul, 1) := by decide +kernel
theorem dX8_crack_57 : decode cX8_crack 57 = .ok (.bipush 10, 2) := by decide +kernel
theorem dX8_crack_59 : decode cX8_crack 59 = .ok (.idiv, 1) := by decide +kernel
theorem dX8_crack_60 : decode cX8_crack 60 = .ok (.if_icmp .lt 5, 3) := by decide +kernel
theorem dX8_crack_63 : decode cX8_crack 63 = .ok (.iconst 0, 1) := by decide +kernel
theorem dX8_crack_64 : decode cX8_crack 64 = .ok (.ireturn, 1) := by decide +kernel
theorem dX8_crack_65 : decode cX8_crack 65 = .ok (.aload_n 1, 1) := by decide +kernel
theorem dX8_crack_66 : decode cX8_crack 66 = .ok (.invokevirtual 120, 3) := by decide +kernel
theorem dX8_crack_69 : decode cX8_crack 69 = .ok (.aload_n 0, 1) := by decide +kernel
theorem dX8_crack_70 : decode cX8_crack 70 = .ok (.getfield 12, 3) := by decide +kernel
theorem dX8_crack_73 : decode cX8_crack 73 = .ok (.iconst 0, 1) := by decide +kernel
theorem dX8_crack_74 : decode cX8_crack 74 = .ok (.invokevirtual 89, 3) := by decide +kernel
theorem dX8_crack_77 : decode cX8_crack 77 = .ok (.checkcast 53, 3) := by decide +kernel
theorem dX8_crack_80 : decode cX8_crack 80 = .ok (.getfield 117, 3) := by decide +kernel
theorem dX8_crack_83 : decode cX8_crack 83 = .ok (.aload_n 0, 1) := by decide +kernel
theorem dX8_crack_84 : decode cX8_crack 84 = .ok (.getfield 12, 3) := by decide +kernel
theorem dX8_crack_87 : decode cX8_crack 87 = .ok (.iconst 0, 1) := by decide +kernel
theorem dX8_crack_88 : decode cX8_crack 88 = .ok (.invokevirtual 89, 3) := by decide +kernel
theorem dX8_crack_91 : decode cX8_crack 91 = .ok (.checkcast 53, 3) := by decide +kernel
theorem dX8_crack_94 : decode cX8_crack 94 = .ok (.getfield 114, 3) := by decide +kernel
theorem dX8_crack_97 : decode cX8_crack 97 = .ok (.isub, 1) := by decide +kernel
theorem dX8_crack_98 : decode cX8_crack 98 = .ok (.iconst 4, 1) := by decide +kernel
theorem dX8_crack_99 : decode cX8_crack 99 = .ok (.idiv, 1) := by decide +kernel
theorem dX8_crack_100 : decode cX8_crack 100 = .ok (.invokestatic 123, 3) := by decide +kernel
theorem dX8_crack_103 : decode cX8_crack 103 = .ok (.ireturn, 1) := by decide +kernel
theorem dX8_takesIn_0 : decode cX8_takesIn 0 = .ok (.aload_n 0, 1) := by decide +kernel
theorem dX8_takesIn_1 : decode cX8_takesIn 1 = .ok (.getfield 78, 3) := by decide +kernel
theorem dX8_takesIn_4 : decode cX8_takesIn 4 = .ok (.iload_n 1, 1) := by decide +kernel
theorem dX8_takesIn_5 : decode cX8_takesIn 5 = .ok (.iadd, 1) := by decide +kernel
theorem dX8_takesIn_6 : decode cX8_takesIn 6 = .ok (.istore_n 2, 1) := by decide +kernel
theorem dX8_takesIn_7 : decode cX8_takesIn 7 = .ok (.iload_n 2, 1) := by decide +kernel
theorem dX8_takesIn_8 : decode cX8_takesIn 8 = .ok (.aload_n 0, 1) := by decide +kernel
theorem dX8_takesIn_9 : decode cX8_takesIn 9 = .ok (.invokevirtual 126, 3) := by decide +kernel
theorem dX8_takesIn_12 : decode cX8_takesIn 12 = .ok (.invokestatic 123, 3) := by decide +kernel
theorem dX8_takesIn_15 : decode cX8_takesIn 15 = .ok (.istore_n 3, 1) := by decide +kernel
theorem dX8_takesIn_16 : decode cX8_takesIn 16 = .ok (.iload_n 3, 1) := by decide +kernel
theorem dX8_takesIn_17 : decode cX8_takesIn 17 = .ok (.ifCond .le 20, 3) := by decide +kernel
theorem dX8_takesIn_20 : decode cX8_takesIn 20 = .ok (.aload_n 0, 1) := by decide +kernel
theorem dX8_takesIn_21 : decode cX8_takesIn 21 = .ok (.invokevirtual 111, 3) := by decide +kernel
theorem dX8_takesIn_24 : decode cX8_takesIn 24 = .ok (.dup, 1) := by decide +kernel
theorem dX8_takesIn_25 : decode cX8_takesIn 25 = .ok (.getfield 114, 3) := by decide +kernel
theorem dX8_takesIn_28 : decode cX8_takesIn 28 = .ok (.iload_n 3, 1) := by decide +kernel
theorem dX8_takesIn_29 : decode cX8_takesIn 29 = .ok (.iadd, 1) := by decide +kernel
theorem dX8_takesIn_30 : decode cX8_takesIn 30 = .ok (.putfield 114, 3) := by decide +kernel
theorem dX8_takesIn_33 : decode cX8_takesIn 33 = .ok (.iload_n 2, 1) := by decide +kernel
theorem dX8_takesIn_34 : decode cX8_takesIn 34 = .ok (.iload_n 3, 1) := by decide +kernel
theorem dX8_takesIn_35 : decode cX8_takesIn 35 = .ok (.isub, 1) := by decide +kernel
theorem dX8_takesIn_36 : decode cX8_takesIn 36 = .ok (.istore_n 2, 1) := by decide +kernel
theorem dX8_takesIn_37 : decode cX8_takesIn 37 = .ok (.aload_n 0, 1) := by decide +kernel
theorem dX8_takesIn_38 : decode cX8_takesIn 38 = .ok (.getfield 12, 3) := by decide +kernel
theorem dX8_takesIn_41 : decode cX8_takesIn 41 = .ok (.invokevirtual 129, 3) := by decide +kernel
theorem dX8_takesIn_44 : decode cX8_takesIn 44 = .ok (.ifCond .ne 52, 3) := by decide +kernel
theorem dX8_takesIn_47 : decode cX8_takesIn 47 = .ok (.aload_n 0, 1) := by decide +kernel
theorem dX8_takesIn_48 : decode cX8_takesIn 48 = .ok (.getfield 12, 3) := by decide +kernel
theorem dX8_takesIn_51 : decode cX8_takesIn 51 = .ok (.iconst 0, 1) := by decide +kernel
theorem dX8_takesIn_52 : decode cX8_takesIn 52 = .ok (.invokevirtual 89, 3) := by decide +kernel
theorem dX8_takesIn_55 : decode cX8_takesIn 55 = .ok (.checkcast 53, 3) := by decide +kernel
theorem dX8_takesIn_58 : decode cX8_takesIn 58 = .ok (.astore 4, 2) := by decide +kernel
theorem dX8_takesIn_60 : decode cX8_takesIn 60 = .ok (.iload_n 2, 1) := by decide +kernel
theorem dX8_takesIn_61 : decode cX8_takesIn 61 = .ok (.aload 4, 2) := by decide +kernel
theorem dX8_takesIn_63 : decode cX8_takesIn 63 = .ok (.invokevirtual 132, 3) := by decide +kernel
theorem dX8_takesIn_66 : decode cX8_takesIn 66 = .ok (.aload 4, 2) := by decide +kernel
theorem dX8_takesIn_68 : decode cX8_takesIn 68 = .ok (.invokevirtual 120, 3) := by decide +kernel
theorem dX8_takesIn_71 : decode cX8_takesIn 71 = .ok (.invokestatic 123, 3) := by decide +kernel
theorem dX8_takesIn_74 : decode cX8_takesIn 74 = .ok (.invokestatic 123, 3) := by decide +kernel
theorem dX8_takesIn_77 : decode cX8_takesIn 77 = .ok (.istore 5, 2) := by decide +kernel
theorem dX8_takesIn_79 : decode cX8_takesIn 79 = .ok (.aload 4, 2) := by decide +kernel
theorem dX8_takesIn_81 : decode cX8_takesIn 81 = .ok (.dup, 1) := by decide +kernel
theorem dX8_takesIn_82 : decode cX8_takesIn 82 = .ok (.getfield 114, 3) := by decide +kernel
theorem dX8_takesIn_85 : decode cX8_takesIn 85 = .ok (.iload 5, 2) := by decide +kernel
theorem dX8_takesIn_87 : decode cX8_takesIn 87 = .ok (.iadd, 1) := by decide +kernel
theorem dX8_takesIn_88 : decode cX8_takesIn 88 = .ok (.putfield 114, 3) := by decide +kernel
theorem dX8_takesIn_91 : decode cX8_takesIn 91 = .ok (.iload_n 2, 1) := by decide +kernel
theorem dX8_takesIn_92 : decode cX8_takesIn 92 = .ok (.iload 5, 2) := by decide +kernel
theorem dX8_takesIn_94 : decode cX8_takesIn 94 = .ok (.isub, 1) := by decide +kernel
theorem dX8_takesIn_95 : decode cX8_takesIn 95 = .ok (.istore_n 2, 1) := by decide +kernel
theorem dX8_takesIn_96 : decode cX8_takesIn 96 = .ok (.aload_n 0, 1) := by decide +kernel
theorem dX8_takesIn_97 : decode cX8_takesIn 97 = .ok (.bipush 50, 2) := by decide +kernel
theorem dX8_takesIn_99 : decode cX8_takesIn 99 = .ok (.iload_n 2, 1) := by decide +kernel
theorem dX8_takesIn_100 : decode cX8_takesIn 100 = .ok (.invokestatic 123, 3) := by decide +kernel
theorem dX8_takesIn_103 : decode cX8_takesIn 103 = .ok (.putfield 78, 3) := by decide +kernel
theorem dX8_takesIn_106 : decode cX8_takesIn 106 = .ok (.aload_n 0, 1) := by decide +kernel
theorem dX8_takesIn_107 : decode cX8_takesIn 107 = .ok (.dup, 1) := by decide +kernel
theorem dX8_takesIn_108 : decode cX8_takesIn 108 = .ok (.getfield 135, 3) := by decide +kernel
theorem dX8_takesIn_111 : decode cX8_takesIn 111 = .ok (.iload_n 2, 1) := by decide +kernel
theorem dX8_takesIn_112 : decode cX8_takesIn 112 = .ok (.aload_n 0, 1) := by decide +kernel
theorem dX8_takesIn_113 : decode cX8_takesIn 113 = .ok (.getfield 78, 3) := by decide +kernel
theorem dX8_takesIn_116 : decode cX8_takesIn 116 = .ok (.isub, 1) := by decide +kernel
theorem dX8_takesIn_117 : decode cX8_takesIn 117 = .ok (.i2l, 1) := by decide +kernel
theorem dX8_takesIn_118 : decode cX8_takesIn 118 = .ok (.ladd, 1) := by decide +kernel
theorem dX8_takesIn_119 : decode cX8_takesIn 119 = .ok (.putfield 135, 3) := by decide +kernel
theorem dX8_takesIn_122 : decode cX8_takesIn 122 = .ok (.iload_n 2, 1) := by decide +kernel
theorem dX8_takesIn_123 : decode cX8_takesIn 123 = .ok (.aload_n 0, 1) := by decide +kernel
theorem dX8_takesIn_124 : decode cX8_takesIn 124 = .ok (.getfield 78, 3) := by decide +kernel
theorem dX8_takesIn_127 : decode cX8_takesIn 127 = .ok (.isub, 1) := by decide +kernel
theorem dX8_takesIn_128 : decode cX8_takesIn 128 = .ok (.ireturn, 1) := by decide +kernel
theorem dX8_sinks_0 : decode cX8_sinks 0 = .ok (.iconst 0, 1) := by decide +kernel
theorem dX8_sinks_1 : decode cX8_sinks 1 = .ok (.istore_n 2, 1) := by decide +kernel
theorem dX8_sinks_2 : decode cX8_sinks 2 = .ok (.aload_n 0, 1) := by decide +kernel
theorem dX8_sinks_3 : decode cX8_sinks 3 = .ok (.getfield 12, 3) := by decide +kernel
theorem dX8_sinks_6 : decode cX8_sinks 6 = .ok (.invokevirtual 85, 3) := by decide +kernel
theorem dX8_sinks_9 : decode cX8_sinks 9 = .ok (.iconst 1, 1) := by decide +kernel
theorem dX8_sinks_10 : decode cX8_sinks 10 = .ok (.isub, 1) := by decide +kernel
theorem dX8_sinks_11 : decode cX8_sinks 11 = .ok (.istore_n 3, 1) := by decide +kernel
theorem dX8_sinks_12 : decode cX8_sinks 12 = .ok (.iload_n 3, 1) := by decide +kernel
theorem dX8_sinks_13 : decode cX8_sinks 13 = .ok (.ifCond .lt 327, 3) := by decide +kernel
theorem dX8_sinks_16 : decode cX8_sinks 16 = .ok (.aload_n 0, 1) := by decide +kernel
theorem dX8_sinks_17 : decode cX8_sinks 17 = .ok (.getfield 12, 3) := by decide +kernel
theorem dX8_sinks_20 : decode cX8_sinks 20 = .ok (.iload_n 3, 1) := by decide +kernel
theorem dX8_sinks_21 : decode cX8_sinks 21 = .ok (.invokevirtual 89, 3) := by decide +kernel
theorem dX8_sinks_24 : decode cX8_sinks 24 = .ok (.checkcast 53, 3) := by decide +kernel
theorem dX8_sinks_27 : decode cX8_sinks 27 = .ok (.astore 4, 2) := by decide +kernel
theorem dX8_sinks_29 : decode cX8_sinks 29 = .ok (.aload 4, 2) := by decide +kernel
theorem dX8_sinks_31 : decode cX8_sinks 31 = .ok (.getfield 93, 3) := by decide +kernel
theorem dX8_sinks_34 : decode cX8_sinks 34 = .ok (.ifCond .eq 7, 3) := by decide +kernel
theorem dX8_sinks_37 : decode cX8_sinks 37 = .ok (.iconst 0, 1) := by decide +kernel
theorem dX8_sinks_38 : decode cX8_sinks 38 = .ok (.goto 18, 3) := by decide +kernel
theorem dX8_sinks_41 : decode cX8_sinks 41 = .ok (.iconst 0, 1) := by decide +kernel
theorem dX8_sinks_42 : decode cX8_sinks 42 = .ok (.aload 4, 2) := by decide +kernel
theorem dX8_sinks_44 : decode cX8_sinks 44 = .ok (.getfield 114, 3) := by decide +kernel
theorem dX8_sinks_47 : decode cX8_sinks 47 = .ok (.aload 4, 2) := by decide +kernel
theorem dX8_sinks_49 : decode cX8_sinks 49 = .ok (.getfield 117, 3) := by decide +kernel
theorem dX8_sinks_52 : decode cX8_sinks 52 = .ok (.isub, 1) := by decide +kernel
theorem dX8_sinks_53 : decode cX8_sinks 53 = .ok (.invokestatic 102, 3) := by decide +kernel
theorem dX8_sinks_56 : decode cX8_sinks 56 = .ok (.istore 5, 2) := by decide +kernel
theorem dX8_sinks_58 : decode cX8_sinks 58 = .ok (.iload 5, 2) := by decide +kernel
theorem dX8_sinks_60 : decode cX8_sinks 60 = .ok (.iload 5, 2) := by decide +kernel
theorem dX8_sinks_62 : decode cX8_sinks 62 = .ok (.aload 4, 2) := by decide +kernel
theorem dX8_sinks_64 : decode cX8_sinks 64 = .ok (.invokevirtual 138, 3) := by decide +kernel
theorem dX8_sinks_67 : decode cX8_sinks 67 = .ok (.imul, 1) := by decide +kernel
theorem dX8_sinks_68 : decode cX8_sinks 68 = .ok (.aload_n 0, 1) := by decide +kernel
theorem dX8_sinks_69 : decode cX8_sinks 69 = .ok (.getfield 25, 3) := by decide +kernel
theorem dX8_sinks_72 : decode cX8_sinks 72 = .ok (.imul, 1) := by decide +kernel
theorem dX8_sinks_73 : decode cX8_sinks 73 = .ok (.sipush 10000, 3) := by decide +kernel
theorem dX8_sinks_76 : decode cX8_sinks 76 = .ok (.idiv, 1) := by decide +kernel
theorem dX8_sinks_77 : decode cX8_sinks 77 = .ok (.invokestatic 123, 3) := by decide +kernel
theorem dX8_sinks_80 : decode cX8_sinks 80 = .ok (.istore 6, 2) := by decide +kernel
theorem dX8_sinks_82 : decode cX8_sinks 82 = .ok (.iload_n 3, 1) := by decide +kernel
theorem dX8_sinks_83 : decode cX8_sinks 83 = .ok (.aload_n 0, 1) := by decide +kernel
theorem dX8_sinks_84 : decode cX8_sinks 84 = .ok (.getfield 12, 3) := by decide +kernel
theorem dX8_sinks_87 : decode cX8_sinks 87 = .ok (.invokevirtual 85, 3) := by decide +kernel
theorem dX8_sinks_90 : decode cX8_sinks 90 = .ok (.iconst 1, 1) := by decide +kernel
theorem dX8_sinks_91 : decode cX8_sinks 91 = .ok (.isub, 1) := by decide +kernel
theorem dX8_sinks_92 : decode cX8_sinks 92 = .ok (.if_icmp .ne 7, 3) := by decide +kernel
theorem dX8_sinks_95 : decode cX8_sinks 95 = .ok (.iconst 1, 1) := by decide +kernel
theorem dX8_sinks_96 : decode cX8_sinks 96 = .ok (.goto 4, 3) := by decide +kernel
theorem dX8_sinks_99 : decode cX8_sinks 99 = .ok (.iconst 0, 1) := by decide +kernel
theorem dX8_sinks_100 : decode cX8_sinks 100 = .ok (.istore 7, 2) := by decide +kernel
theorem dX8_sinks_102 : decode cX8_sinks 102 = .ok (.iload 7, 2) := by decide +kernel
theorem dX8_sinks_104 : decode cX8_sinks 104 = .ok (.ifCond .eq 60, 3) := by decide +kernel
theorem dX8_sinks_107 : decode cX8_sinks 107 = .ok (.aload_n 0, 1) := by decide +kernel
theorem dX8_sinks_108 : decode cX8_sinks 108 = .ok (.getfield 32, 3) := by decide +kernel
theorem dX8_sinks_111 : decode cX8_sinks 111 = .ok (.bipush 102, 2) := by decide +kernel
theorem dX8_sinks_113 : decode cX8_sinks 113 = .ok (.if_icmp .eq 25, 3) := by decide +kernel
theorem dX8_sinks_116 : decode cX8_sinks 116 = .ok (.aload_n 0, 1) := by decide +kernel
theorem dX8_sinks_117 : decode cX8_sinks 117 = .ok (.getfield 32, 3) := by decide +kernel
theorem dX8_sinks_120 : decode cX8_sinks 120 = .ok (.bipush 115, 2) := by decide +kernel
theorem dX8_sinks_122 : decode cX8_sinks 122 = .ok (.if_icmp .ne 20, 3) := by decide +kernel
theorem dX8_sinks_125 : decode cX8_sinks 125 = .ok (.aload 4, 2) := by decide +kernel
theorem dX8_sinks_127 : decode cX8_sinks 127 = .ok (.getfield 114, 3) := by decide +kernel
theorem dX8_sinks_130 : decode cX8_sinks 130 = .ok (.aload 4, 2) := by decide +kernel
theorem dX8_sinks_132 : decode cX8_sinks 132 = .ok (.getfield 141, 3) := by decide +kernel
theorem dX8_sinks_135 : decode cX8_sinks 135 = .ok (.if_icmp .ne 7, 3) := by decide +kernel
theorem dX8_sinks_138 : decode cX8_sinks 138 = .ok (.iconst 1, 1) := by decide +kernel
theorem dX8_sinks_139 : decode cX8_sinks 139 = .ok (.goto 4, 3) := by decide +kernel
theorem dX8_sinks_142 : decode cX8_sinks 142 = .ok (.iconst 0, 1) := by decide +kernel
theorem dX8_sinks_143 : decode cX8_sinks 143 = .ok (.istore 8, 2) := by decide +kernel
theorem dX8_sinks_145 : decode cX8_sinks 145 = .ok (.iload 8, 2) := by decide +kernel
theorem dX8_sinks_147 : decode cX8_sinks 147 = .ok (.ifCond .eq 8, 3) := by decide +kernel
theorem dX8_sinks_150 : decode cX8_sinks 150 = .ok (.iload 6, 2) := by decide +kernel
theorem dX8_sinks_152 : decode cX8_sinks 152 = .ok (.goto 4, 3) := by decide +kernel
theorem dX8_sinks_155 : decode cX8_sinks 155 = .ok (.iconst 0, 1) := by decide +kernel
theorem dX8_sinks_156 : decode cX8_sinks 156 = .ok (.istore 6, 2) := by decide +kernel
theorem dX8_sinks_158 : decode cX8_sinks 158 = .ok (.iload 6, 2) := by decide +kernel
theorem dX8_sinks_160 : decode cX8_sinks 160 = .ok (.istore_n 2, 1) := by decide +kernel
theorem dX8_sinks_161 : decode cX8_sinks 161 = .ok (.goto 26, 3) := by decide +kernel
theorem dX8_sinks_164 : decode cX8_sinks 164 = .ok (.iload 6, 2) := by decide +kernel
theorem dX8_sinks_166 : decode cX8_sinks 166 = .ok (.aload_n 0, 1) := by decide +kernel
theorem dX8_sinks_167 : decode cX8_sinks 167 = .ok (.getfield 12, 3) := by decide +kernel
theorem dX8_sinks_170 : decode cX8_sinks 170 = .ok (.iload_n 3, 1) := by decide +kernel
theorem dX8_sinks_171 : decode cX8_sinks 171 = .ok (.iconst 1, 1) := by decide +kernel
theorem dX8_sinks_172 : decode cX8_sinks 172 = .ok (.iadd, 1) := by decide +kernel
theorem dX8_sinks_173 : decode cX8_sinks 173 = .ok (.invokevirtual 89, 3) := by decide +kernel
theorem dX8_sinks_176 : decode cX8_sinks 176 = .ok (.checkcast 53, 3) := by decide +kernel
theorem dX8_sinks_179 : decode cX8_sinks 179 = .ok (.invokevirtual 120, 3) := by decide +kernel
theorem dX8_sinks_182 : decode cX8_sinks 182 = .ok (.invokestatic 123, 3) := by decide +kernel
theorem dX8_sinks_185 : decode cX8_sinks 185 = .ok (.istore 6, 2) := by decide +kernel
theorem dX8_sinks_187 : decode cX8_sinks 187 = .ok (.iconst 0, 1) := by decide +kernel
theorem dX8_sinks_188 : decode cX8_sinks 188 = .ok (.istore 8, 2) := by decide +kernel
theorem dX8_sinks_190 : decode cX8_sinks 190 = .ok (.iload 8, 2) := by decide +kernel
theorem dX8_sinks_192 : decode cX8_sinks 192 = .ok (.iconst 3, 1) := by decide +kernel
theorem dX8_sinks_193 : decode cX8_sinks 193 = .ok (.if_icmp .ge 101, 3) := by decide +kernel
theorem dX8_sinks_196 : decode cX8_sinks 196 = .ok (.iload 6, 2) := by decide +kernel
theorem dX8_sinks_198 : decode cX8_sinks 198 = .ok (.ifCond .le 96, 3) := by decide +kernel
theorem dX8_sinks_201 : decode cX8_sinks 201 = .ok (.aload 4, 2) := by decide +kernel
theorem dX8_sinks_203 : decode cX8_sinks 203 = .ok (.getfield 144, 3) := by decide +kernel
theorem dX8_sinks_206 : decode cX8_sinks 206 = .ok (.iload 8, 2) := by decide +kernel
theorem dX8_sinks_208 : decode cX8_sinks 208 = .ok (.laload, 1) := by decide +kernel
theorem dX8_sinks_209 : decode cX8_sinks 209 = .ok (.iload 6, 2) := by decide +kernel
theorem dX8_sinks_211 : decode cX8_sinks 211 = .ok (.i2l, 1) := by decide +kernel
theorem dX8_sinks_212 : decode cX8_sinks 212 = .ok (.lmul, 1) := by decide +kernel
theorem dX8_sinks_213 : decode cX8_sinks 213 = .ok (.aload 4, 2) := by decide +kernel
theorem dX8_sinks_215 : decode cX8_sinks 215 = .ok (.getfield 114, 3) := by decide +kernel
theorem dX8_sinks_218 : decode cX8_sinks 218 = .ok (.i2l, 1) := by decide +kernel
theorem dX8_sinks_219 : decode cX8_sinks 219 = .ok (.ldiv, 1) := by decide +kernel
theorem dX8_sinks_220 : decode cX8_sinks 220 = .ok (.lstore 9, 2) := by decide +kernel
theorem dX8_sinks_222 : decode cX8_sinks 222 = .ok (.aload 4, 2) := by decide +kernel
theorem dX8_sinks_224 : decode cX8_sinks 224 = .ok (.getfield 144, 3) := by decide +kernel
theorem dX8_sinks_227 : decode cX8_sinks 227 = .ok (.iload 8, 2) := by decide +kernel
theorem dX8_sinks_229 : decode cX8_sinks 229 = .ok (.dup2, 1) := by decide +kernel
theorem dX8_sinks_230 : decode cX8_sinks 230 = .ok (.laload, 1) := by decide +kernel
theorem dX8_sinks_231 : decode cX8_sinks 231 = .ok (.lload 9, 2) := by decide +kernel
theorem dX8_sinks_233 : decode cX8_sinks 233 = .ok (.lsub, 1) := by decide +kernel
theorem dX8_sinks_234 : decode cX8_sinks 234 = .ok (.lastore, 1) := by decide +kernel
theorem dX8_sinks_235 : decode cX8_sinks 235 = .ok (.iload 7, 2) := by decide +kernel
theorem dX8_sinks_237 : decode cX8_sinks 237 = .ok (.ifCond .eq 27, 3) := by decide +kernel
theorem dX8_sinks_240 : decode cX8_sinks 240 = .ok (.aload_n 1, 1) := by decide +kernel
theorem dX8_sinks_241 : decode cX8_sinks 241 = .ok (.iload 8, 2) := by decide +kernel
theorem dX8_sinks_243 : decode cX8_sinks 243 = .ok (.dup2, 1) := by decide +kernel
theorem dX8_sinks_244 : decode cX8_sinks 244 = .ok (.laload, 1) := by decide +kernel
theorem dX8_sinks_245 : decode cX8_sinks 245 = .ok (.lload 9, 2) := by decide +kernel
theorem dX8_sinks_247 : decode cX8_sinks 247 = .ok (.ladd, 1) := by decide +kernel
theorem dX8_sinks_248 : decode cX8_sinks 248 = .ok (.lastore, 1) := by decide +kernel
theorem dX8_sinks_249 : decode cX8_sinks 249 = .ok (.aload_n 0, 1) := by decide +kernel
theorem dX8_sinks_250 : decode cX8_sinks 250 = .ok (.getfield 28, 3) := by decide +kernel
theorem dX8_sinks_253 : decode cX8_sinks 253 = .ok (.iload 8, 2) := by decide +kernel
theorem dX8_sinks_255 : decode cX8_sinks 255 = .ok (.dup2, 1) := by decide +kernel
theorem dX8_sinks_256 : decode cX8_sinks 256 = .ok (.laload, 1) := by decide +kernel
theorem dX8_sinks_257 : decode cX8_sinks 257 = .ok (.lload 9, 2) := by decide +kernel
theorem dX8_sinks_259 : decode cX8_sinks 259 = .ok (.ladd, 1) := by decide +kernel
theorem dX8_sinks_260 : decode cX8_sinks 260 = .ok (.lastore, 1) := by decide +kernel
theorem dX8_sinks_261 : decode cX8_sinks 261 = .ok (.goto 27, 3) := by decide +kernel
theorem dX8_sinks_264 : decode cX8_sinks 264 = .ok (.aload_n 0, 1) := by decide +kernel
theorem dX8_sinks_265 : decode cX8_sinks 265 = .ok (.getfield 12, 3) := by decide +kernel
theorem dX8_sinks_268 : decode cX8_sinks 268 = .ok (.iload_n 3, 1) := by decide +kernel
theorem dX8_sinks_269 : decode cX8_sinks 269 = .ok (.iconst 1, 1) := by decide +kernel
theorem dX8_sinks_270 : decode cX8_sinks 270 = .ok (.iadd, 1) := by decide +kernel
theorem dX8_sinks_271 : decode cX8_sinks 271 = .ok (.invokevirtual 89, 3) := by decide +kernel
theorem dX8_sinks_274 : decode cX8_sinks 274 = .ok (.checkcast 53, 3) := by decide +kernel
theorem dX8_sinks_277 : decode cX8_sinks 277 = .ok (.getfield 144, 3) := by decide +kernel
theorem dX8_sinks_280 : decode cX8_sinks 280 = .ok (.iload 8, 2) := by decide +kernel
theorem dX8_sinks_282 : decode cX8_sinks 282 = .ok (.dup2, 1) := by decide +kernel
theorem dX8_sinks_283 : decode cX8_sinks 283 = .ok (.laload, 1) := by decide +kernel
theorem dX8_sinks_284 : decode cX8_sinks 284 = .ok (.lload 9, 2) := by decide +kernel
theorem dX8_sinks_286 : decode cX8_sinks 286 = .ok (.ladd, 1) := by decide +kernel
theorem dX8_sinks_287 : decode cX8_sinks 287 = .ok (.lastore, 1) := by decide +kernel
theorem dX8_sinks_288 : decode cX8_sinks 288 = .ok (.iinc 8 1, 3) := by decide +kernel
theorem dX8_sinks_291 : decode cX8_sinks 291 = .ok (.goto (-101), 3) := by decide +kernel
theorem dX8_sinks_294 : decode cX8_sinks 294 = .ok (.aload 4, 2) := by decide +kernel
theorem dX8_sinks_296 : decode cX8_sinks 296 = .ok (.dup, 1) := by decide +kernel
theorem dX8_sinks_297 : decode cX8_sinks 297 = .ok (.getfield 114, 3) := by decide +kernel
theorem dX8_sinks_300 : decode cX8_sinks 300 = .ok (.iload 6, 2) := by decide +kernel
theorem dX8_sinks_302 : decode cX8_sinks 302 = .ok (.isub, 1) := by decide +kernel
theorem dX8_sinks_303 : decode cX8_sinks 303 = .ok (.putfield 114, 3) := by decide +kernel
theorem dX8_sinks_306 : decode cX8_sinks 306 = .ok (.iload 7, 2) := by decide +kernel
theorem dX8_sinks_308 : decode cX8_sinks 308 = .ok (.ifCond .ne 26, 3) := by decide +kernel
theorem dX8_sinks_311 : decode cX8_sinks 311 = .ok (.aload_n 0, 1) := by decide +kernel
theorem dX8_sinks_312 : decode cX8_sinks 312 = .ok (.getfield 12, 3) := by decide +kernel
theorem dX8_sinks_315 : decode cX8_sinks 315 = .ok (.iload_n 3, 1) := by decide +kernel
theorem dX8_sinks_316 : decode cX8_sinks 316 = .ok (.iconst 1, 1) := by decide +kernel
theorem dX8_sinks_317 : decode cX8_sinks 317 = .ok (.iadd, 1) := by decide +kernel
theorem dX8_sinks_318 : decode cX8_sinks 318 = .ok (.invokevirtual 89, 3) := by decide +kernel
theorem dX8_sinks_321 : decode cX8_sinks 321 = .ok (.checkcast 53, 3) := by decide +kernel
theorem dX8_sinks_324 : decode cX8_sinks 324 = .ok (.dup, 1) := by decide +kernel
theorem dX8_sinks_325 : decode cX8_sinks 325 = .ok (.getfield 114, 3) := by decide +kernel
theorem dX8_sinks_328 : decode cX8_sinks 328 = .ok (.iload 6, 2) := by decide +kernel
theorem dX8_sinks_330 : decode cX8_sinks 330 = .ok (.iadd, 1) := by decide +kernel
theorem dX8_sinks_331 : decode cX8_sinks 331 = .ok (.putfield 114, 3) := by decide +kernel
theorem dX8_sinks_334 : decode cX8_sinks 334 = .ok (.iinc 3 (-1), 3) := by decide +kernel
theorem dX8_sinks_337 : decode cX8_sinks 337 = .ok (.goto (-325), 3) := by decide +kernel
theorem dX8_sinks_340 : decode cX8_sinks 340 = .ok (.aload_n 0, 1) := by decide +kernel
theorem dX8_sinks_341 : decode cX8_sinks 341 = .ok (.dup, 1) := by decide +kernel
theorem dX8_sinks_342 : decode cX8_sinks 342 = .ok (.getfield 147, 3) := by decide +kernel
theorem dX8_sinks_345 : decode cX8_sinks 345 = .ok (.iload_n 2, 1) := by decide +kernel
theorem dX8_sinks_346 : decode cX8_sinks 346 = .ok (.i2l, 1) := by decide +kernel
theorem dX8_sinks_347 : decode cX8_sinks 347 = .ok (.ladd, 1) := by decide +kernel
theorem dX8_sinks_348 : decode cX8_sinks 348 = .ok (.putfield 147, 3) := by decide +kernel
theorem dX8_sinks_351 : decode cX8_sinks 351 = .ok (.iload_n 2, 1) := by decide +kernel
theorem dX8_sinks_352 : decode cX8_sinks 352 = .ok (.ireturn, 1) := by decide +kernel
theorem dX8_drinks_0 : decode cX8_drinks 0 = .ok (.aload_n 1, 1) := by decide +kernel
theorem dX8_drinks_1 : decode cX8_drinks 1 = .ok (.getfield 65, 3) := by decide +kernel
theorem dX8_drinks_4 : decode cX8_drinks 4 = .ok (.aload_n 0, 1) := by decide +kernel
theorem dX8_drinks_5 : decode cX8_drinks 5 = .ok (.getfield 12, 3) := by decide +kernel
theorem dX8_drinks_8 : decode cX8_drinks 8 = .ok (.invokevirtual 85, 3) := by decide +kernel
theorem dX8_drinks_11 : decode cX8_drinks 11 = .ok (.invokestatic 123, 3) := by decide +kernel
theorem dX8_drinks_14 : decode cX8_drinks 14 = .ok (.istore_n 2, 1) := by decide +kernel
theorem dX8_drinks_15 : decode cX8_drinks 15 = .ok (.iconst 0, 1) := by decide +kernel
theorem dX8_drinks_16 : decode cX8_drinks 16 = .ok (.istore_n 3, 1) := by decide +kernel
theorem dX8_drinks_17 : decode cX8_drinks 17 = .ok (.iconst 0, 1) := by decide +kernel
theorem dX8_drinks_18 : decode cX8_drinks 18 = .ok (.istore 4, 2) := by decide +kernel
theorem dX8_drinks_20 : decode cX8_drinks 20 = .ok (.iload 4, 2) := by decide +kernel
theorem dX8_drinks_22 : decode cX8_drinks 22 = .ok (.iload_n 2, 1) := by decide +kernel
theorem dX8_drinks_23 : decode cX8_drinks 23 = .ok (.if_icmp .ge 27, 3) := by decide +kernel
theorem dX8_drinks_26 : decode cX8_drinks 26 = .ok (.iload_n 3, 1) := by decide +kernel
theorem dX8_drinks_27 : decode cX8_drinks 27 = .ok (.aload_n 0, 1) := by decide +kernel
theorem dX8_drinks_28 : decode cX8_drinks 28 = .ok (.getfield 12, 3) := by decide +kernel
theorem dX8_drinks_31 : decode cX8_drinks 31 = .ok (.iload 4, 2) := by decide +kernel
theorem dX8_drinks_33 : decode cX8_drinks 33 = .ok (.invokevirtual 89, 3) := by decide +kernel
theorem dX8_drinks_36 : decode cX8_drinks 36 = .ok (.checkcast 53, 3) := by decide +kernel
theorem dX8_drinks_39 : decode cX8_drinks 39 = .ok (.invokevirtual 150, 3) := by decide +kernel
theorem dX8_drinks_42 : decode cX8_drinks 42 = .ok (.iadd, 1) := by decide +kernel
theorem dX8_drinks_43 : decode cX8_drinks 43 = .ok (.istore_n 3, 1) := by decide +kernel
theorem dX8_drinks_44 : decode cX8_drinks 44 = .ok (.iinc 4 1, 3) := by decide +kernel
theorem dX8_drinks_47 : decode cX8_drinks 47 = .ok (.goto (-27), 3) := by decide +kernel
theorem dX8_drinks_50 : decode cX8_drinks 50 = .ok (.aload_n 1, 1) := by decide +kernel
theorem dX8_drinks_51 : decode cX8_drinks 51 = .ok (.getfield 68, 3) := by decide +kernel
theorem dX8_drinks_54 : decode cX8_drinks 54 = .ok (.iload_n 3, 1) := by decide +kernel
theorem dX8_drinks_55 : decode cX8_drinks 55 = .ok (.invokestatic 123, 3) := by decide +kernel
theorem dX8_drinks_58 : decode cX8_drinks 58 = .ok (.istore 4, 2) := by decide +kernel
theorem dX8_drinks_60 : decode cX8_drinks 60 = .ok (.iload 4, 2) := by decide +kernel
theorem dX8_drinks_62 : decode cX8_drinks 62 = .ok (.istore 5, 2) := by decide +kernel
theorem dX8_drinks_64 : decode cX8_drinks 64 = .ok (.iconst 0, 1) := by decide +kernel
theorem dX8_drinks_65 : decode cX8_drinks 65 = .ok (.istore 6, 2) := by decide +kernel
theorem dX8_drinks_67 : decode cX8_drinks 67 = .ok (.iload 6, 2) := by decide +kernel
theorem dX8_drinks_69 : decode cX8_drinks 69 = .ok (.iload_n 2, 1) := by decide +kernel
theorem dX8_drinks_70 : decode cX8_drinks 70 = .ok (.if_icmp .ge 65, 3) := by decide +kernel
theorem dX8_drinks_73 : decode cX8_drinks 73 = .ok (.iload 4, 2) := by decide +kernel
theorem dX8_drinks_75 : decode cX8_drinks 75 = .ok (.ifCond .le 60, 3) := by decide +kernel
theorem dX8_drinks_78 : decode cX8_drinks 78 = .ok (.iload 4, 2) := by decide +kernel
theorem dX8_drinks_80 : decode cX8_drinks 80 = .ok (.aload_n 0, 1) := by decide +kernel
theorem dX8_drinks_81 : decode cX8_drinks 81 = .ok (.getfield 12, 3) := by decide +kernel
theorem dX8_drinks_84 : decode cX8_drinks 84 = .ok (.iload 6, 2) := by decide +kernel
theorem dX8_drinks_86 : decode cX8_drinks 86 = .ok (.invokevirtual 89, 3) := by decide +kernel
theorem dX8_drinks_89 : decode cX8_drinks 89 = .ok (.checkcast 53, 3) := by decide +kernel
theorem dX8_drinks_92 : decode cX8_drinks 92 = .ok (.invokevirtual 150, 3) := by decide +kernel
theorem dX8_drinks_95 : decode cX8_drinks 95 = .ok (.imul, 1) := by decide +kernel
theorem dX8_drinks_96 : decode cX8_drinks 96 = .ok (.iload_n 3, 1) := by decide +kernel
theorem dX8_drinks_97 : decode cX8_drinks 97 = .ok (.idiv, 1) := by decide +kernel
theorem dX8_drinks_98 : decode cX8_drinks 98 = .ok (.istore 7, 2) := by decide +kernel
theorem dX8_drinks_100 : decode cX8_drinks 100 = .ok (.aload_n 0, 1) := by decide +kernel
theorem dX8_drinks_101 : decode cX8_drinks 101 = .ok (.getfield 12, 3) := by decide +kernel
theorem dX8_drinks_104 : decode cX8_drinks 104 = .ok (.iload 6, 2) := by decide +kernel
theorem dX8_drinks_106 : decode cX8_drinks 106 = .ok (.invokevirtual 89, 3) := by decide +kernel
theorem dX8_drinks_109 : decode cX8_drinks 109 = .ok (.checkcast 53, 3) := by decide +kernel
theorem dX8_drinks_112 : decode cX8_drinks 112 = .ok (.dup, 1) := by decide +kernel
theorem dX8_drinks_113 : decode cX8_drinks 113 = .ok (.getfield 114, 3) := by decide +kernel
theorem dX8_drinks_116 : decode cX8_drinks 116 = .ok (.iload 7, 2) := by decide +kernel
theorem dX8_drinks_118 : decode cX8_drinks 118 = .ok (.isub, 1) := by decide +kernel
theorem dX8_drinks_119 : decode cX8_drinks 119 = .ok (.putfield 114, 3) := by decide +kernel
theorem dX8_drinks_122 : decode cX8_drinks 122 = .ok (.iload 5, 2) := by decide +kernel
theorem dX8_drinks_124 : decode cX8_drinks 124 = .ok (.iload 7, 2) := by decide +kernel
theorem dX8_drinks_126 : decode cX8_drinks 126 = .ok (.isub, 1) := by decide +kernel
theorem dX8_drinks_127 : decode cX8_drinks 127 = .ok (.istore 5, 2) := by decide +kernel
theorem dX8_drinks_129 : decode cX8_drinks 129 = .ok (.iinc 6 1, 3) := by decide +kernel
theorem dX8_drinks_132 : decode cX8_drinks 132 = .ok (.goto (-65), 3) := by decide +kernel
theorem dX8_drinks_135 : decode cX8_drinks 135 = .ok (.iload 5, 2) := by decide +kernel
theorem dX8_drinks_137 : decode cX8_drinks 137 = .ok (.ifCond .le 90, 3) := by decide +kernel
theorem dX8_drinks_140 : decode cX8_drinks 140 = .ok (.aload_n 0, 1) := by decide +kernel
theorem dX8_drinks_141 : decode cX8_drinks 141 = .ok (.getfield 12, 3) := by decide +kernel
theorem dX8_drinks_144 : decode cX8_drinks 144 = .ok (.iconst 0, 1) := by decide +kernel
theorem dX8_drinks_145 : decode cX8_drinks 145 = .ok (.invokevirtual 89, 3) := by decide +kernel
theorem dX8_drinks_148 : decode cX8_drinks 148 = .ok (.checkcast 53, 3) := by decide +kernel
theorem dX8_drinks_151 : decode cX8_drinks 151 = .ok (.astore 6, 2) := by decide +kernel
theorem dX8_drinks_153 : decode cX8_drinks 153 = .ok (.iconst 1, 1) := by decide +kernel
theorem dX8_drinks_154 : decode cX8_drinks 154 = .ok (.istore 7, 2) := by decide +kernel
theorem dX8_drinks_156 : decode cX8_drinks 156 = .ok (.iload 7, 2) := by decide +kernel
theorem dX8_drinks_158 : decode cX8_drinks 158 = .ok (.iload_n 2, 1) := by decide +kernel
theorem dX8_drinks_159 : decode cX8_drinks 159 = .ok (.if_icmp .ge 51, 3) := by decide +kernel
theorem dX8_drinks_162 : decode cX8_drinks 162 = .ok (.aload_n 0, 1) := by decide +kernel
theorem dX8_drinks_163 : decode cX8_drinks 163 = .ok (.getfield 12, 3) := by decide +kernel
theorem dX8_drinks_166 : decode cX8_drinks 166 = .ok (.iload 7, 2) := by decide +kernel
theorem dX8_drinks_168 : decode cX8_drinks 168 = .ok (.invokevirtual 89, 3) := by decide +kernel
theorem dX8_drinks_171 : decode cX8_drinks 171 = .ok (.checkcast 53, 3) := by decide +kernel
theorem dX8_drinks_174 : decode cX8_drinks 174 = .ok (.invokevirtual 150, 3) := by decide +kernel
theorem dX8_drinks_177 : decode cX8_drinks 177 = .ok (.aload 6, 2) := by decide +kernel
theorem dX8_drinks_179 : decode cX8_drinks 179 = .ok (.invokevirtual 150, 3) := by decide +kernel
theorem dX8_drinks_182 : decode cX8_drinks 182 = .ok (.if_icmp .le 18, 3) := by decide +kernel
theorem dX8_drinks_185 : decode cX8_drinks 185 = .ok (.aload_n 0, 1) := by decide +kernel
theorem dX8_drinks_186 : decode cX8_drinks 186 = .ok (.getfield 12, 3) := by decide +kernel
theorem dX8_drinks_189 : decode cX8_drinks 189 = .ok (.iload 7, 2) := by decide +kernel
theorem dX8_drinks_191 : decode cX8_drinks 191 = .ok (.invokevirtual 89, 3) := by decide +kernel
theorem dX8_drinks_194 : decode cX8_drinks 194 = .ok (.checkcast 53, 3) := by decide +kernel
theorem dX8_drinks_197 : decode cX8_drinks 197 = .ok (.goto 5, 3) := by decide +kernel
theorem dX8_drinks_200 : decode cX8_drinks 200 = .ok (.aload 6, 2) := by decide +kernel
theorem dX8_drinks_202 : decode cX8_drinks 202 = .ok (.astore 6, 2) := by decide +kernel
theorem dX8_drinks_204 : decode cX8_drinks 204 = .ok (.iinc 7 1, 3) := by decide +kernel
theorem dX8_drinks_207 : decode cX8_drinks 207 = .ok (.goto (-51), 3) := by decide +kernel
theorem dX8_drinks_210 : decode cX8_drinks 210 = .ok (.aload 6, 2) := by decide +kernel
theorem dX8_drinks_212 : decode cX8_drinks 212 = .ok (.dup, 1) := by decide +kernel
theorem dX8_drinks_213 : decode cX8_drinks 213 = .ok (.getfield 114, 3) := by decide +kernel
theorem dX8_drinks_216 : decode cX8_drinks 216 = .ok (.iconst 1, 1) := by decide +kernel
theorem dX8_drinks_217 : decode cX8_drinks 217 = .ok (.isub, 1) := by decide +kernel
theorem dX8_drinks_218 : decode cX8_drinks 218 = .ok (.putfield 114, 3) := by decide +kernel
theorem dX8_drinks_221 : decode cX8_drinks 221 = .ok (.iinc 5 (-1), 3) := by decide +kernel
theorem dX8_drinks_224 : decode cX8_drinks 224 = .ok (.goto (-89), 3) := by decide +kernel
theorem dX8_drinks_227 : decode cX8_drinks 227 = .ok (.aload_n 0, 1) := by decide +kernel
theorem dX8_drinks_228 : decode cX8_drinks 228 = .ok (.dup, 1) := by decide +kernel
theorem dX8_drinks_229 : decode cX8_drinks 229 = .ok (.getfield 153, 3) := by decide +kernel
theorem dX8_drinks_232 : decode cX8_drinks 232 = .ok (.iload 4, 2) := by decide +kernel
theorem dX8_drinks_234 : decode cX8_drinks 234 = .ok (.i2l, 1) := by decide +kernel
theorem dX8_drinks_235 : decode cX8_drinks 235 = .ok (.ladd, 1) := by decide +kernel
theorem dX8_drinks_236 : decode cX8_drinks 236 = .ok (.putfield 153, 3) := by decide +kernel
theorem dX8_drinks_239 : decode cX8_drinks 239 = .ok (.aload_n 1, 1) := by decide +kernel
theorem dX8_drinks_240 : decode cX8_drinks 240 = .ok (.dup, 1) := by decide +kernel
theorem dX8_drinks_241 : decode cX8_drinks 241 = .ok (.getfield 156, 3) := by decide +kernel
theorem dX8_drinks_244 : decode cX8_drinks 244 = .ok (.aload_n 1, 1) := by decide +kernel
theorem dX8_drinks_245 : decode cX8_drinks 245 = .ok (.getfield 68, 3) := by decide +kernel
theorem dX8_drinks_248 : decode cX8_drinks 248 = .ok (.iload 4, 2) := by decide +kernel
theorem dX8_drinks_250 : decode cX8_drinks 250 = .ok (.isub, 1) := by decide +kernel
theorem dX8_drinks_251 : decode cX8_drinks 251 = .ok (.iadd, 1) := by decide +kernel
theorem dX8_drinks_252 : decode cX8_drinks 252 = .ok (.putfield 156, 3) := by decide +kernel
theorem dX8_drinks_255 : decode cX8_drinks 255 = .ok (.return_, 1) := by decide +kernel
theorem dX8_dries_0 : decode cX8_dries 0 = .ok (.aload_n 0, 1) := by decide +kernel
theorem dX8_dries_1 : decode cX8_dries 1 = .ok (.getfield 74, 3) := by decide +kernel
theorem dX8_dries_4 : decode cX8_dries 4 = .ok (.ifCond .eq 9, 3) := by decide +kernel
theorem dX8_dries_7 : decode cX8_dries 7 = .ok (.iload_n 1, 1) := by decide +kernel
theorem dX8_dries_8 : decode cX8_dries 8 = .ok (.iconst 2, 1) := by decide +kernel
theorem dX8_dries_9 : decode cX8_dries 9 = .ok (.idiv, 1) := by decide +kernel
theorem dX8_dries_10 : decode cX8_dries 10 = .ok (.goto 4, 3) := by decide +kernel
theorem dX8_dries_13 : decode cX8_dries 13 = .ok (.iload_n 1, 1) := by decide +kernel
theorem dX8_dries_14 : decode cX8_dries 14 = .ok (.istore_n 2, 1) := by decide +kernel
theorem dX8_dries_15 : decode cX8_dries 15 = .ok (.iload_n 2, 1) := by decide +kernel
theorem dX8_dries_16 : decode cX8_dries 16 = .ok (.aload_n 0, 1) := by decide +kernel
theorem dX8_dries_17 : decode cX8_dries 17 = .ok (.getfield 78, 3) := by decide +kernel
theorem dX8_dries_20 : decode cX8_dries 20 = .ok (.invokestatic 123, 3) := by decide +kernel
theorem dX8_dries_23 : decode cX8_dries 23 = .ok (.istore_n 3, 1) := by decide +kernel
theorem dX8_dries_24 : decode cX8_dries 24 = .ok (.aload_n 0, 1) := by decide +kernel
theorem dX8_dries_25 : decode cX8_dries 25 = .ok (.dup, 1) := by decide +kernel
theorem dX8_dries_26 : decode cX8_dries 26 = .ok (.getfield 78, 3) := by decide +kernel
theorem dX8_dries_29 : decode cX8_dries 29 = .ok (.iload_n 3, 1) := by decide +kernel
theorem dX8_dries_30 : decode cX8_dries 30 = .ok (.isub, 1) := by decide +kernel
theorem dX8_dries_31 : decode cX8_dries 31 = .ok (.putfield 78, 3) := by decide +kernel
theorem dX8_dries_34 : decode cX8_dries 34 = .ok (.iload_n 2, 1) := by decide +kernel
theorem dX8_dries_35 : decode cX8_dries 35 = .ok (.iload_n 3, 1) := by decide +kernel
theorem dX8_dries_36 : decode cX8_dries 36 = .ok (.isub, 1) := by decide +kernel
theorem dX8_dries_37 : decode cX8_dries 37 = .ok (.istore_n 2, 1) := by decide +kernel
theorem dX8_dries_38 : decode cX8_dries 38 = .ok (.aload_n 0, 1) := by decide +kernel
theorem dX8_dries_39 : decode cX8_dries 39 = .ok (.dup, 1) := by decide +kernel
theorem dX8_dries_40 : decode cX8_dries 40 = .ok (.getfield 153, 3) := by decide +kernel
theorem dX8_dries_43 : decode cX8_dries 43 = .ok (.iload_n 3, 1) := by decide +kernel
theorem dX8_dries_44 : decode cX8_dries 44 = .ok (.i2l, 1) := by decide +kernel
theorem dX8_dries_45 : decode cX8_dries 45 = .ok (.ladd, 1) := by decide +kernel
theorem dX8_dries_46 : decode cX8_dries 46 = .ok (.putfield 153, 3) := by decide +kernel
theorem dX8_dries_49 : decode cX8_dries 49 = .ok (.aload_n 0, 1) := by decide +kernel
theorem dX8_dries_50 : decode cX8_dries 50 = .ok (.getfield 12, 3) := by decide +kernel
theorem dX8_dries_53 : decode cX8_dries 53 = .ok (.invokevirtual 129, 3) := by decide +kernel
theorem dX8_dries_56 : decode cX8_dries 56 = .ok (.ifCond .ne 80, 3) := by decide +kernel
theorem dX8_dries_59 : decode cX8_dries 59 = .ok (.aload_n 0, 1) := by decide +kernel
theorem dX8_dries_60 : decode cX8_dries 60 = .ok (.getfield 12, 3) := by decide +kernel
theorem dX8_dries_63 : decode cX8_dries 63 = .ok (.iconst 0, 1) := by decide +kernel
theorem dX8_dries_64 : decode cX8_dries 64 = .ok (.invokevirtual 89, 3) := by decide +kernel
theorem dX8_dries_67 : decode cX8_dries 67 = .ok (.checkcast 53, 3) := by decide +kernel
theorem dX8_dries_70 : decode cX8_dries 70 = .ok (.getfield 93, 3) := by decide +kernel
theorem dX8_dries_73 : decode cX8_dries 73 = .ok (.ifCond .ne 63, 3) := by decide +kernel
theorem dX8_dries_76 : decode cX8_dries 76 = .ok (.aload_n 0, 1) := by decide +kernel
theorem dX8_dries_77 : decode cX8_dries 77 = .ok (.getfield 12, 3) := by decide +kernel
theorem dX8_dries_80 : decode cX8_dries 80 = .ok (.iconst 0, 1) := by decide +kernel
theorem dX8_dries_81 : decode cX8_dries 81 = .ok (.invokevirtual 89, 3) := by decide +kernel
theorem dX8_dries_84 : decode cX8_dries 84 = .ok (.checkcast 53, 3) := by decide +kernel
theorem dX8_dries_87 : decode cX8_dries 87 = .ok (.astore 4, 2) := by decide +kernel
theorem dX8_dries_89 : decode cX8_dries 89 = .ok (.iload_n 2, 1) := by decide +kernel
theorem dX8_dries_90 : decode cX8_dries 90 = .ok (.iconst 0, 1) := by decide +kernel
theorem dX8_dries_91 : decode cX8_dries 91 = .ok (.aload 4, 2) := by decide +kernel
theorem dX8_dries_93 : decode cX8_dries 93 = .ok (.getfield 114, 3) := by decide +kernel
theorem dX8_dries_96 : decode cX8_dries 96 = .ok (.aload 4, 2) := by decide +kernel
theorem dX8_dries_98 : decode cX8_dries 98 = .ok (.getfield 159, 3) := by decide +kernel
theorem dX8_dries_101 : decode cX8_dries 101 = .ok (.iconst 2, 1) := by decide +kernel
theorem dX8_dries_102 : decode cX8_dries 102 = .ok (.idiv, 1) := by decide +kernel
theorem dX8_dries_103 : decode cX8_dries 103 = .ok (.isub, 1) := by decide +kernel
theorem dX8_dries_104 : decode cX8_dries 104 = .ok (.invokestatic 102, 3) := by decide +kernel
theorem dX8_dries_107 : decode cX8_dries 107 = .ok (.invokestatic 123, 3) := by decide +kernel
theorem dX8_dries_110 : decode cX8_dries 110 = .ok (.istore 5, 2) := by decide +kernel
theorem dX8_dries_112 : decode cX8_dries 112 = .ok (.aload 4, 2) := by decide +kernel
theorem dX8_dries_114 : decode cX8_dries 114 = .ok (.dup, 1) := by decide +kernel
theorem dX8_dries_115 : decode cX8_dries 115 = .ok (.getfield 114, 3) := by decide +kernel
theorem dX8_dries_118 : decode cX8_dries 118 = .ok (.iload 5, 2) := by decide +kernel
theorem dX8_dries_120 : decode cX8_dries 120 = .ok (.isub, 1) := by decide +kernel
theorem dX8_dries_121 : decode cX8_dries 121 = .ok (.putfield 114, 3) := by decide +kernel
theorem dX8_dries_124 : decode cX8_dries 124 = .ok (.aload_n 0, 1) := by decide +kernel
theorem dX8_dries_125 : decode cX8_dries 125 = .ok (.dup, 1) := by decide +kernel
theorem dX8_dries_126 : decode cX8_dries 126 = .ok (.getfield 153, 3) := by decide +kernel
theorem dX8_dries_129 : decode cX8_dries 129 = .ok (.iload 5, 2) := by decide +kernel
theorem dX8_dries_131 : decode cX8_dries 131 = .ok (.i2l, 1) := by decide +kernel
theorem dX8_dries_132 : decode cX8_dries 132 = .ok (.ladd, 1) := by decide +kernel
theorem dX8_dries_133 : decode cX8_dries 133 = .ok (.putfield 153, 3) := by decide +kernel
theorem dX8_dries_136 : decode cX8_dries 136 = .ok (.return_, 1) := by decide +kernel
theorem dX8_nitrates_0 : decode cX8_nitrates 0 = .ok (.iload_n 1, 1) := by decide +kernel
theorem dX8_nitrates_1 : decode cX8_nitrates 1 = .ok (.ifCond .le 72, 3) := by decide +kernel
theorem dX8_nitrates_4 : decode cX8_nitrates 4 = .ok (.aload_n 0, 1) := by decide +kernel
theorem dX8_nitrates_5 : decode cX8_nitrates 5 = .ok (.getfield 12, 3) := by decide +kernel
theorem dX8_nitrates_8 : decode cX8_nitrates 8 = .ok (.invokevirtual 129, 3) := by decide +kernel
theorem dX8_nitrates_11 : decode cX8_nitrates 11 = .ok (.ifCond .ne 62, 3) := by decide +kernel
theorem dX8_nitrates_14 : decode cX8_nitrates 14 = .ok (.aload_n 0, 1) := by decide +kernel
theorem dX8_nitrates_15 : decode cX8_nitrates 15 = .ok (.getfield 12, 3) := by decide +kernel
theorem dX8_nitrates_18 : decode cX8_nitrates 18 = .ok (.iconst 0, 1) := by decide +kernel
theorem dX8_nitrates_19 : decode cX8_nitrates 19 = .ok (.invokevirtual 89, 3) := by decide +kernel
theorem dX8_nitrates_22 : decode cX8_nitrates 22 = .ok (.checkcast 53, 3) := by decide +kernel
theorem dX8_nitrates_25 : decode cX8_nitrates 25 = .ok (.getfield 93, 3) := by decide +kernel
theorem dX8_nitrates_28 : decode cX8_nitrates 28 = .ok (.ifCond .ne 45, 3) := by decide +kernel
theorem dX8_nitrates_31 : decode cX8_nitrates 31 = .ok (.aload_n 0, 1) := by decide +kernel
theorem dX8_nitrates_32 : decode cX8_nitrates 32 = .ok (.getfield 81, 3) := by decide +kernel
theorem dX8_nitrates_35 : decode cX8_nitrates 35 = .ok (.iload_n 1, 1) := by decide +kernel
theorem dX8_nitrates_36 : decode cX8_nitrates 36 = .ok (.i2l, 1) := by decide +kernel
theorem dX8_nitrates_37 : decode cX8_nitrates 37 = .ok (.lmul, 1) := by decide +kernel
theorem dX8_nitrates_38 : decode cX8_nitrates 38 = .ok (.ldc2_w 162, 3) := by decide +kernel
theorem dX8_nitrates_41 : decode cX8_nitrates 41 = .ok (.ldiv, 1) := by decide +kernel
theorem dX8_nitrates_42 : decode cX8_nitrates 42 = .ok (.lstore_n 2, 1) := by decide +kernel
theorem dX8_nitrates_43 : decode cX8_nitrates 43 = .ok (.aload_n 0, 1) := by decide +kernel
theorem dX8_nitrates_44 : decode cX8_nitrates 44 = .ok (.dup, 1) := by decide +kernel
theorem dX8_nitrates_45 : decode cX8_nitrates 45 = .ok (.getfield 81, 3) := by decide +kernel
theorem dX8_nitrates_48 : decode cX8_nitrates 48 = .ok (.lload_n 2, 1) := by decide +kernel
theorem dX8_nitrates_49 : decode cX8_nitrates 49 = .ok (.lsub, 1) := by decide +kernel
theorem dX8_nitrates_50 : decode cX8_nitrates 50 = .ok (.putfield 81, 3) := by decide +kernel
theorem dX8_nitrates_53 : decode cX8_nitrates 53 = .ok (.aload_n 0, 1) := by decide +kernel
theorem dX8_nitrates_54 : decode cX8_nitrates 54 = .ok (.getfield 12, 3) := by decide +kernel
theorem dX8_nitrates_57 : decode cX8_nitrates 57 = .ok (.iconst 0, 1) := by decide +kernel
theorem dX8_nitrates_58 : decode cX8_nitrates 58 = .ok (.invokevirtual 89, 3) := by decide +kernel
theorem dX8_nitrates_61 : decode cX8_nitrates 61 = .ok (.checkcast 53, 3) := by decide +kernel
theorem dX8_nitrates_64 : decode cX8_nitrates 64 = .ok (.getfield 144, 3) := by decide +kernel
theorem dX8_nitrates_67 : decode cX8_nitrates 67 = .ok (.iconst 0, 1) := by decide +kernel
theorem dX8_nitrates_68 : decode cX8_nitrates 68 = .ok (.dup2, 1) := by decide +kernel
theorem dX8_nitrates_69 : decode cX8_nitrates 69 = .ok (.laload, 1) := by decide +kernel
theorem dX8_nitrates_70 : decode cX8_nitrates 70 = .ok (.lload_n 2, 1) := by decide +kernel
theorem dX8_nitrates_71 : decode cX8_nitrates 71 = .ok (.ladd, 1) := by decide +kernel
theorem dX8_nitrates_72 : decode cX8_nitrates 72 = .ok (.lastore, 1) := by decide +kernel
theorem dX8_nitrates_73 : decode cX8_nitrates 73 = .ok (.iconst 0, 1) := by decide +kernel
theorem dX8_nitrates_74 : decode cX8_nitrates 74 = .ok (.istore_n 2, 1) := by decide +kernel
theorem dX8_nitrates_75 : decode cX8_nitrates 75 = .ok (.iload_n 2, 1) := by decide +kernel
theorem dX8_nitrates_76 : decode cX8_nitrates 76 = .ok (.aload_n 0, 1) := by decide +kernel
theorem dX8_nitrates_77 : decode cX8_nitrates 77 = .ok (.getfield 12, 3) := by decide +kernel
theorem dX8_nitrates_80 : decode cX8_nitrates 80 = .ok (.invokevirtual 85, 3) := by decide +kernel
theorem dX8_nitrates_83 : decode cX8_nitrates 83 = .ok (.if_icmp .ge 87, 3) := by decide +kernel
theorem dX8_nitrates_86 : decode cX8_nitrates 86 = .ok (.iload_n 1, 1) := by decide +kernel
theorem dX8_nitrates_87 : decode cX8_nitrates 87 = .ok (.iconst 5, 1) := by decide +kernel
theorem dX8_nitrates_88 : decode cX8_nitrates 88 = .ok (.if_icmp .le 82, 3) := by decide +kernel
theorem dX8_nitrates_91 : decode cX8_nitrates 91 = .ok (.aload_n 0, 1) := by decide +kernel
theorem dX8_nitrates_92 : decode cX8_nitrates 92 = .ok (.getfield 12, 3) := by decide +kernel
theorem dX8_nitrates_95 : decode cX8_nitrates 95 = .ok (.iload_n 2, 1) := by decide +kernel
theorem dX8_nitrates_96 : decode cX8_nitrates 96 = .ok (.invokevirtual 89, 3) := by decide +kernel
theorem dX8_nitrates_99 : decode cX8_nitrates 99 = .ok (.checkcast 53, 3) := by decide +kernel
theorem dX8_nitrates_102 : decode cX8_nitrates 102 = .ok (.astore_n 3, 1) := by decide +kernel
theorem dX8_nitrates_103 : decode cX8_nitrates 103 = .ok (.aload_n 3, 1) := by decide +kernel
theorem dX8_nitrates_104 : decode cX8_nitrates 104 = .ok (.getfield 93, 3) := by decide +kernel
theorem dX8_nitrates_107 : decode cX8_nitrates 107 = .ok (.ifCond .ne 57, 3) := by decide +kernel
theorem dX8_nitrates_110 : decode cX8_nitrates 110 = .ok (.aload_n 3, 1) := by decide +kernel
theorem dX8_nitrates_111 : decode cX8_nitrates 111 = .ok (.getfield 114, 3) := by decide +kernel
theorem dX8_nitrates_114 : decode cX8_nitrates 114 = .ok (.aload_n 3, 1) := by decide +kernel
theorem dX8_nitrates_115 : decode cX8_nitrates 115 = .ok (.getfield 141, 3) := by decide +kernel
theorem dX8_nitrates_118 : decode cX8_nitrates 118 = .ok (.bipush 9, 2) := by decide +kernel
theorem dX8_nitrates_120 : decode cX8_nitrates 120 = .ok (.imul, 1) := by decide +kernel
theorem dX8_nitrates_121 : decode cX8_nitrates 121 = .ok (.bipush 10, 2) := by decide +kernel
theorem dX8_nitrates_123 : decode cX8_nitrates 123 = .ok (.idiv, 1) := by decide +kernel
theorem dX8_nitrates_124 : decode cX8_nitrates 124 = .ok (.if_icmp .lt 40, 3) := by decide +kernel
theorem dX8_nitrates_127 : decode cX8_nitrates 127 = .ok (.aload_n 3, 1) := by decide +kernel
theorem dX8_nitrates_128 : decode cX8_nitrates 128 = .ok (.getfield 144, 3) := by decide +kernel
theorem dX8_nitrates_131 : decode cX8_nitrates 131 = .ok (.iconst 0, 1) := by decide +kernel
theorem dX8_nitrates_132 : decode cX8_nitrates 132 = .ok (.laload, 1) := by decide +kernel
theorem dX8_nitrates_133 : decode cX8_nitrates 133 = .ok (.iload_n 1, 1) := by decide +kernel
theorem dX8_nitrates_134 : decode cX8_nitrates 134 = .ok (.i2l, 1) := by decide +kernel
theorem dX8_nitrates_135 : decode cX8_nitrates 135 = .ok (.lmul, 1) := by decide +kernel
theorem dX8_nitrates_136 : decode cX8_nitrates 136 = .ok (.ldc2_w 164, 3) := by decide +kernel
theorem dX8_nitrates_139 : decode cX8_nitrates 139 = .ok (.ldiv, 1) := by decide +kernel
theorem dX8_nitrates_140 : decode cX8_nitrates 140 = .ok (.lstore 4, 2) := by decide +kernel
theorem dX8_nitrates_142 : decode cX8_nitrates 142 = .ok (.aload_n 3, 1) := by decide +kernel
theorem dX8_nitrates_143 : decode cX8_nitrates 143 = .ok (.getfield 144, 3) := by decide +kernel
theorem dX8_nitrates_146 : decode cX8_nitrates 146 = .ok (.iconst 0, 1) := by decide +kernel
theorem dX8_nitrates_147 : decode cX8_nitrates 147 = .ok (.dup2, 1) := by decide +kernel
theorem dX8_nitrates_148 : decode cX8_nitrates 148 = .ok (.laload, 1) := by decide +kernel
theorem dX8_nitrates_149 : decode cX8_nitrates 149 = .ok (.lload 4, 2) := by decide +kernel
theorem dX8_nitrates_151 : decode cX8_nitrates 151 = .ok (.lsub, 1) := by decide +kernel
theorem dX8_nitrates_152 : decode cX8_nitrates 152 = .ok (.lastore, 1) := by decide +kernel
theorem dX8_nitrates_153 : decode cX8_nitrates 153 = .ok (.aload_n 0, 1) := by decide +kernel
theorem dX8_nitrates_154 : decode cX8_nitrates 154 = .ok (.dup, 1) := by decide +kernel
theorem dX8_nitrates_155 : decode cX8_nitrates 155 = .ok (.getfield 166, 3) := by decide +kernel
theorem dX8_nitrates_158 : decode cX8_nitrates 158 = .ok (.lload 4, 2) := by decide +kernel
theorem dX8_nitrates_160 : decode cX8_nitrates 160 = .ok (.ladd, 1) := by decide +kernel
theorem dX8_nitrates_161 : decode cX8_nitrates 161 = .ok (.putfield 166, 3) := by decide +kernel
theorem dX8_nitrates_164 : decode cX8_nitrates 164 = .ok (.iinc 2 1, 3) := by decide +kernel
theorem dX8_nitrates_167 : decode cX8_nitrates 167 = .ok (.goto (-92), 3) := by decide +kernel
theorem dX8_nitrates_170 : decode cX8_nitrates 170 = .ok (.return_, 1) := by decide +kernel
theorem dX8_goes_0 : decode cX8_goes 0 = .ok (.aload_n 0, 1) := by decide +kernel
theorem dX8_goes_1 : decode cX8_goes 1 = .ok (.aload_n 1, 1) := by decide +kernel
theorem dX8_goes_2 : decode cX8_goes 2 = .ok (.getfield 169, 3) := by decide +kernel
theorem dX8_goes_5 : decode cX8_goes 5 = .ok (.invokevirtual 174, 3) := by decide +kernel
theorem dX8_goes_8 : decode cX8_goes 8 = .ok (.aload_n 0, 1) := by decide +kernel
theorem dX8_goes_9 : decode cX8_goes 9 = .ok (.iload_n 2, 1) := by decide +kernel
theorem dX8_goes_10 : decode cX8_goes 10 = .ok (.invokevirtual 178, 3) := by decide +kernel
theorem dX8_goes_13 : decode cX8_goes 13 = .ok (.istore_n 3, 1) := by decide +kernel
theorem dX8_goes_14 : decode cX8_goes 14 = .ok (.iconst 3, 1) := by decide +kernel
theorem dX8_goes_15 : decode cX8_goes 15 = .ok (.newarray .long, 2) := by decide +kernel
theorem dX8_goes_17 : decode cX8_goes 17 = .ok (.astore 4, 2) := by decide +kernel
theorem dX8_goes_19 : decode cX8_goes 19 = .ok (.aload_n 0, 1) := by decide +kernel
theorem dX8_goes_20 : decode cX8_goes 20 = .ok (.aload 4, 2) := by decide +kernel
theorem dX8_goes_22 : decode cX8_goes 22 = .ok (.invokevirtual 182, 3) := by decide +kernel
theorem dX8_goes_25 : decode cX8_goes 25 = .ok (.istore 5, 2) := by decide +kernel
theorem dX8_goes_27 : decode cX8_goes 27 = .ok (.aload_n 0, 1) := by decide +kernel
theorem dX8_goes_28 : decode cX8_goes 28 = .ok (.getfield 18, 3) := by decide +kernel
theorem dX8_goes_31 : decode cX8_goes 31 = .ok (.invokevirtual 39, 3) := by decide +kernel
theorem dX8_goes_34 : decode cX8_goes 34 = .ok (.astore 6, 2) := by decide +kernel
theorem dX8_goes_36 : decode cX8_goes 36 = .ok (.aload 6, 2) := by decide +kernel
theorem dX8_goes_38 : decode cX8_goes 38 = .ok (.invokeinterface 43 1, 5) := by decide +kernel
theorem dX8_goes_43 : decode cX8_goes 43 = .ok (.ifCond .eq 24, 3) := by decide +kernel
theorem dX8_goes_46 : decode cX8_goes 46 = .ok (.aload 6, 2) := by decide +kernel
theorem dX8_goes_48 : decode cX8_goes 48 = .ok (.invokeinterface 49 1, 5) := by decide +kernel
theorem dX8_goes_53 : decode cX8_goes 53 = .ok (.checkcast 63, 3) := by decide +kernel
theorem dX8_goes_56 : decode cX8_goes 56 = .ok (.astore 7, 2) := by decide +kernel
theorem dX8_goes_58 : decode cX8_goes 58 = .ok (.aload_n 0, 1) := by decide +kernel
theorem dX8_goes_59 : decode cX8_goes 59 = .ok (.aload 7, 2) := by decide +kernel
theorem dX8_goes_61 : decode cX8_goes 61 = .ok (.invokevirtual 186, 3) := by decide +kernel
theorem dX8_goes_64 : decode cX8_goes 64 = .ok (.goto (-28), 3) := by decide +kernel
theorem dX8_goes_67 : decode cX8_goes 67 = .ok (.aload_n 0, 1) := by decide +kernel
theorem dX8_goes_68 : decode cX8_goes 68 = .ok (.aload_n 1, 1) := by decide +kernel
theorem dX8_goes_69 : decode cX8_goes 69 = .ok (.getfield 190, 3) := by decide +kernel
theorem dX8_goes_72 : decode cX8_goes 72 = .ok (.invokevirtual 191, 3) := by decide +kernel
theorem dX8_goes_75 : decode cX8_goes 75 = .ok (.aload_n 0, 1) := by decide +kernel
theorem dX8_goes_76 : decode cX8_goes 76 = .ok (.aload_n 1, 1) := by decide +kernel
theorem dX8_goes_77 : decode cX8_goes 77 = .ok (.getfield 169, 3) := by decide +kernel
theorem dX8_goes_80 : decode cX8_goes 80 = .ok (.invokevirtual 194, 3) := by decide +kernel
theorem dX8_goes_83 : decode cX8_goes 83 = .ok (.aload 4, 2) := by decide +kernel
theorem dX8_goes_85 : decode cX8_goes 85 = .ok (.iconst 0, 1) := by decide +kernel
theorem dX8_goes_86 : decode cX8_goes 86 = .ok (.laload, 1) := by decide +kernel
theorem dX8_goes_87 : decode cX8_goes 87 = .ok (.lconst 0, 1) := by decide +kernel
theorem dX8_goes_88 : decode cX8_goes 88 = .ok (.lcmp, 1) := by decide +kernel
theorem dX8_goes_89 : decode cX8_goes 89 = .ok (.ifCond .le 38, 3) := by decide +kernel
theorem dX8_goes_92 : decode cX8_goes 92 = .ok (.aload 4, 2) := by decide +kernel
theorem dX8_goes_94 : decode cX8_goes 94 = .ok (.iconst 0, 1) := by decide +kernel
theorem dX8_goes_95 : decode cX8_goes 95 = .ok (.laload, 1) := by decide +kernel
theorem dX8_goes_96 : decode cX8_goes 96 = .ok (.ldc2_w 162, 3) := by decide +kernel
theorem dX8_goes_99 : decode cX8_goes 99 = .ok (.lmul, 1) := by decide +kernel
theorem dX8_goes_100 : decode cX8_goes 100 = .ok (.iload 5, 2) := by decide +kernel
theorem dX8_goes_102 : decode cX8_goes 102 = .ok (.i2l, 1) := by decide +kernel
theorem dX8_goes_103 : decode cX8_goes 103 = .ok (.ldiv, 1) := by decide +kernel
theorem dX8_goes_104 : decode cX8_goes 104 = .ok (.aload_n 1, 1) := by decide +kernel
theorem dX8_goes_105 : decode cX8_goes 105 = .ok (.getfield 197, 3) := by decide +kernel
theorem dX8_goes_108 : decode cX8_goes 108 = .ok (.i2l, 1) := by decide +kernel
theorem dX8_goes_109 : decode cX8_goes 109 = .ok (.lcmp, 1) := by decide +kernel
theorem dX8_goes_110 : decode cX8_goes 110 = .ok (.ifCond .le 17, 3) := by decide +kernel
theorem dX8_goes_113 : decode cX8_goes 113 = .ok (.aload_n 0, 1) := by decide +kernel
theorem dX8_goes_114 : decode cX8_goes 114 = .ok (.dup, 1) := by decide +kernel
theorem dX8_goes_115 : decode cX8_goes 115 = .ok (.getfield 200, 3) := by decide +kernel
theorem dX8_goes_118 : decode cX8_goes 118 = .ok (.aload_n 1, 1) := by decide +kernel
theorem dX8_goes_119 : decode cX8_goes 119 = .ok (.getfield 203, 3) := by decide +kernel
theorem dX8_goes_122 : decode cX8_goes 122 = .ok (.i2l, 1) := by decide +kernel
theorem dX8_goes_123 : decode cX8_goes 123 = .ok (.ladd, 1) := by decide +kernel
theorem dX8_goes_124 : decode cX8_goes 124 = .ok (.putfield 200, 3) := by decide +kernel
theorem dX8_goes_127 : decode cX8_goes 127 = .ok (.aload_n 0, 1) := by decide +kernel
theorem dX8_goes_128 : decode cX8_goes 128 = .ok (.dup, 1) := by decide +kernel
theorem dX8_goes_129 : decode cX8_goes 129 = .ok (.getfield 206, 3) := by decide +kernel
theorem dX8_goes_132 : decode cX8_goes 132 = .ok (.iconst 1, 1) := by decide +kernel
theorem dX8_goes_133 : decode cX8_goes 133 = .ok (.iadd, 1) := by decide +kernel
theorem dX8_goes_134 : decode cX8_goes 134 = .ok (.putfield 206, 3) := by decide +kernel
theorem dX8_goes_137 : decode cX8_goes 137 = .ok (.iload_n 3, 1) := by decide +kernel
theorem dX8_goes_138 : decode cX8_goes 138 = .ok (.ireturn, 1) := by decide +kernel
theorem dX8_waters_0 : decode cX8_waters 0 = .ok (.aload_n 0, 1) := by decide +kernel
theorem dX8_waters_1 : decode cX8_waters 1 = .ok (.getfield 12, 3) := by decide +kernel
theorem dX8_waters_4 : decode cX8_waters 4 = .ok (.invokevirtual 129, 3) := by decide +kernel
theorem dX8_waters_7 : decode cX8_waters 7 = .ok (.ifCond .ne 31, 3) := by decide +kernel
theorem dX8_waters_10 : decode cX8_waters 10 = .ok (.aload_n 0, 1) := by decide +kernel
theorem dX8_waters_11 : decode cX8_waters 11 = .ok (.getfield 12, 3) := by decide +kernel
theorem dX8_waters_14 : decode cX8_waters 14 = .ok (.iconst 0, 1) := by decide +kernel
theorem dX8_waters_15 : decode cX8_waters 15 = .ok (.invokevirtual 89, 3) := by decide +kernel
theorem dX8_waters_18 : decode cX8_waters 18 = .ok (.checkcast 53, 3) := by decide +kernel
theorem dX8_waters_21 : decode cX8_waters 21 = .ok (.getfield 114, 3) := by decide +kernel
theorem dX8_waters_24 : decode cX8_waters 24 = .ok (.aload_n 0, 1) := by decide +kernel
theorem dX8_waters_25 : decode cX8_waters 25 = .ok (.getfield 209, 3) := by decide +kernel
theorem dX8_waters_28 : decode cX8_waters 28 = .ok (.if_icmp .ge 10, 3) := by decide +kernel
theorem dX8_waters_31 : decode cX8_waters 31 = .ok (.aload_n 0, 1) := by decide +kernel
theorem dX8_waters_32 : decode cX8_waters 32 = .ok (.getfield 212, 3) := by decide +kernel
theorem dX8_waters_35 : decode cX8_waters 35 = .ok (.goto 4, 3) := by decide +kernel
theorem dX8_waters_38 : decode cX8_waters 38 = .ok (.iconst 0, 1) := by decide +kernel
theorem dX8_waters_39 : decode cX8_waters 39 = .ok (.ireturn, 1) := by decide +kernel
theorem dX9_init_0 : decode cX9_init 0 = .ok (.aload_n 0, 1) := by decide +kernel
theorem dX9_init_1 : decode cX9_init 1 = .ok (.invokespecial 3, 3) := by decide +kernel
theorem dX9_init_4 : decode cX9_init 4 = .ok (.aload_n 0, 1) := by decide +kernel
theorem dX9_init_5 : decode cX9_init 5 = .ok (.iconst 3, 1) := by decide +kernel
theorem dX9_init_6 : decode cX9_init 6 = .ok (.newarray .long, 2) := by decide +kernel
theorem dX9_init_8 : decode cX9_init 8 = .ok (.putfield 9, 3) := by decide +kernel
theorem dX9_init_11 : decode cX9_init 11 = .ok (.aload_n 0, 1) := by decide +kernel
theorem dX9_init_12 : decode cX9_init 12 = .ok (.iload_n 1, 1) := by decide +kernel
theorem dX9_init_13 : decode cX9_init 13 = .ok (.putfield 15, 3) := by decide +kernel
theorem dX9_init_16 : decode cX9_init 16 = .ok (.aload_n 0, 1) := by decide +kernel
theorem dX9_init_17 : decode cX9_init 17 = .ok (.iload_n 2, 1) := by decide +kernel
theorem dX9_init_18 : decode cX9_init 18 = .ok (.putfield 19, 3) := by decide +kernel
theorem dX9_init_21 : decode cX9_init 21 = .ok (.aload_n 0, 1) := by decide +kernel
theorem dX9_init_22 : decode cX9_init 22 = .ok (.iload_n 2, 1) := by decide +kernel
theorem dX9_init_23 : decode cX9_init 23 = .ok (.iload_n 1, 1) := by decide +kernel
theorem dX9_init_24 : decode cX9_init 24 = .ok (.bipush 115, 2) := by decide +kernel
theorem dX9_init_26 : decode cX9_init 26 = .ok (.if_icmp .ne 8, 3) := by decide +kernel
theorem dX9_init_29 : decode cX9_init 29 = .ok (.bipush 35, 2) := by decide +kernel
theorem dX9_init_31 : decode cX9_init 31 = .ok (.goto 16, 3) := by decide +kernel
theorem dX9_init_34 : decode cX9_init 34 = .ok (.iload_n 1, 1) := by decide +kernel
theorem dX9_init_35 : decode cX9_init 35 = .ok (.bipush 108, 2) := by decide +kernel
theorem dX9_init_37 : decode cX9_init 37 = .ok (.if_icmp .ne 8, 3) := by decide +kernel
theorem dX9_init_40 : decode cX9_init 40 = .ok (.bipush 45, 2) := by decide +kernel
theorem dX9_init_42 : decode cX9_init 42 = .ok (.goto 5, 3) := by decide +kernel
theorem dX9_init_45 : decode cX9_init 45 = .ok (.bipush 50, 2) := by decide +kernel
theorem dX9_init_47 : decode cX9_init 47 = .ok (.imul, 1) := by decide +kernel
theorem dX9_init_48 : decode cX9_init 48 = .ok (.bipush 10, 2) := by decide +kernel
theorem dX9_init_50 : decode cX9_init 50 = .ok (.idiv, 1) := by decide +kernel
theorem dX9_init_51 : decode cX9_init 51 = .ok (.putfield 23, 3) := by decide +kernel
theorem dX9_init_54 : decode cX9_init 54 = .ok (.aload_n 0, 1) := by decide +kernel
theorem dX9_init_55 : decode cX9_init 55 = .ok (.iload_n 2, 1) := by decide +kernel
theorem dX9_init_56 : decode cX9_init 56 = .ok (.iload_n 1, 1) := by decide +kernel
theorem dX9_init_57 : decode cX9_init 57 = .ok (.bipush 115, 2) := by decide +kernel
theorem dX9_init_59 : decode cX9_init 59 = .ok (.if_icmp .ne 8, 3) := by decide +kernel
theorem dX9_init_62 : decode cX9_init 62 = .ok (.bipush 10, 2) := by decide +kernel
theorem dX9_init_64 : decode cX9_init 64 = .ok (.goto 16, 3) := by decide +kernel
theorem dX9_init_67 : decode cX9_init 67 = .ok (.iload_n 1, 1) := by decide +kernel
theorem dX9_init_68 : decode cX9_init 68 = .ok (.bipush 108, 2) := by decide +kernel
theorem dX9_init_70 : decode cX9_init 70 = .ok (.if_icmp .ne 8, 3) := by decide +kernel
theorem dX9_init_73 : decode cX9_init 73 = .ok (.bipush 25, 2) := by decide +kernel
theorem dX9_init_75 : decode cX9_init 75 = .ok (.goto 5, 3) := by decide +kernel
theorem dX9_init_78 : decode cX9_init 78 = .ok (.bipush 38, 2) := by decide +kernel
theorem dX9_init_80 : decode cX9_init 80 = .ok (.imul, 1) := by decide +kernel
theorem dX9_init_81 : decode cX9_init 81 = .ok (.bipush 10, 2) := by decide +kernel
theorem dX9_init_83 : decode cX9_init 83 = .ok (.idiv, 1) := by decide +kernel
theorem dX9_init_84 : decode cX9_init 84 = .ok (.putfield 26, 3) := by decide +kernel
theorem dX9_init_87 : decode cX9_init 87 = .ok (.aload_n 0, 1) := by decide +kernel
theorem dX9_init_88 : decode cX9_init 88 = .ok (.iload_n 2, 1) := by decide +kernel
theorem dX9_init_89 : decode cX9_init 89 = .ok (.iload_n 1, 1) := by decide +kernel
theorem dX9_init_90 : decode cX9_init 90 = .ok (.bipush 115, 2) := by decide +kernel
theorem dX9_init_92 : decode cX9_init 92 = .ok (.if_icmp .ne 7, 3) := by decide +kernel
theorem dX9_init_95 : decode cX9_init 95 = .ok (.iconst 4, 1) := by decide +kernel
theorem dX9_init_96 : decode cX9_init 96 = .ok (.goto 16, 3) := by decide +kernel
theorem dX9_init_99 : decode cX9_init 99 = .ok (.iload_n 1, 1) := by decide +kernel
theorem dX9_init_100 : decode cX9_init 100 = .ok (.bipush 108, 2) := by decide +kernel
theorem dX9_init_102 : decode cX9_init 102 = .ok (.if_icmp .ne 8, 3) := by decide +kernel
theorem dX9_init_105 : decode cX9_init 105 = .ok (.bipush 10, 2) := by decide +kernel
theorem dX9_init_107 : decode cX9_init 107 = .ok (.goto 5, 3) := by decide +kernel
theorem dX9_init_110 : decode cX9_init 110 = .ok (.bipush 22, 2) := by decide +kernel
theorem dX9_init_112 : decode cX9_init 112 = .ok (.imul, 1) := by decide +kernel
theorem dX9_init_113 : decode cX9_init 113 = .ok (.bipush 10, 2) := by decide +kernel
theorem dX9_init_115 : decode cX9_init 115 = .ok (.idiv, 1) := by decide +kernel
theorem dX9_init_116 : decode cX9_init 116 = .ok (.putfield 29, 3) := by decide +kernel
theorem dX9_init_119 : decode cX9_init 119 = .ok (.aload_n 0, 1) := by decide +kernel
theorem dX9_init_120 : decode cX9_init 120 = .ok (.aload_n 0, 1) := by decide +kernel
theorem dX9_init_121 : decode cX9_init 121 = .ok (.getfield 26, 3) := by decide +kernel
theorem dX9_init_124 : decode cX9_init 124 = .ok (.putfield 32, 3) := by decide +kernel
theorem dX9_init_127 : decode cX9_init 127 = .ok (.return_, 1) := by decide +kernel
theorem dX9_copy_0 : decode cX9_copy 0 = .ok (.new 10, 3) := by decide +kernel
theorem dX9_copy_3 : decode cX9_copy 3 = .ok (.dup, 1) := by decide +kernel
theorem dX9_copy_4 : decode cX9_copy 4 = .ok (.aload_n 0, 1) := by decide +kernel
theorem dX9_copy_5 : decode cX9_copy 5 = .ok (.getfield 15, 3) := by decide +kernel
theorem dX9_copy_8 : decode cX9_copy 8 = .ok (.aload_n 0, 1) := by decide +kernel
theorem dX9_copy_9 : decode cX9_copy 9 = .ok (.getfield 19, 3) := by decide +kernel
theorem dX9_copy_12 : decode cX9_copy 12 = .ok (.invokespecial 35, 3) := by decide +kernel
theorem dX9_copy_15 : decode cX9_copy 15 = .ok (.astore_n 1, 1) := by decide +kernel
theorem dX9_copy_16 : decode cX9_copy 16 = .ok (.aload_n 1, 1) := by decide +kernel
theorem dX9_copy_17 : decode cX9_copy 17 = .ok (.aload_n 0, 1) := by decide +kernel
theorem dX9_copy_18 : decode cX9_copy 18 = .ok (.getfield 32, 3) := by decide +kernel
theorem dX9_copy_21 : decode cX9_copy 21 = .ok (.putfield 32, 3) := by decide +kernel
theorem dX9_copy_24 : decode cX9_copy 24 = .ok (.aload_n 1, 1) := by decide +kernel
theorem dX9_copy_25 : decode cX9_copy 25 = .ok (.aload_n 0, 1) := by decide +kernel
theorem dX9_copy_26 : decode cX9_copy 26 = .ok (.getfield 38, 3) := by decide +kernel
theorem dX9_copy_29 : decode cX9_copy 29 = .ok (.putfield 38, 3) := by decide +kernel
theorem dX9_copy_32 : decode cX9_copy 32 = .ok (.aload_n 1, 1) := by decide +kernel
theorem dX9_copy_33 : decode cX9_copy 33 = .ok (.aload_n 0, 1) := by decide +kernel
theorem dX9_copy_34 : decode cX9_copy 34 = .ok (.getfield 41, 3) := by decide +kernel
theorem dX9_copy_37 : decode cX9_copy 37 = .ok (.putfield 41, 3) := by decide +kernel
theorem dX9_copy_40 : decode cX9_copy 40 = .ok (.iconst 0, 1) := by decide +kernel
theorem dX9_copy_41 : decode cX9_copy 41 = .ok (.istore_n 2, 1) := by decide +kernel
theorem dX9_copy_42 : decode cX9_copy 42 = .ok (.iload_n 2, 1) := by decide +kernel
theorem dX9_copy_43 : decode cX9_copy 43 = .ok (.iconst 3, 1) := by decide +kernel
theorem dX9_copy_44 : decode cX9_copy 44 = .ok (.if_icmp .ge 21, 3) := by decide +kernel
theorem dX9_copy_47 : decode cX9_copy 47 = .ok (.aload_n 1, 1) := by decide +kernel
theorem dX9_copy_48 : decode cX9_copy 48 = .ok (.getfield 9, 3) := by decide +kernel
theorem dX9_copy_51 : decode cX9_copy 51 = .ok (.iload_n 2, 1) := by decide +kernel
theorem dX9_copy_52 : decode cX9_copy 52 = .ok (.aload_n 0, 1) := by decide +kernel
theorem dX9_copy_53 : decode cX9_copy 53 = .ok (.getfield 9, 3) := by decide +kernel
theorem dX9_copy_56 : decode cX9_copy 56 = .ok (.iload_n 2, 1) := by decide +kernel
theorem dX9_copy_57 : decode cX9_copy 57 = .ok (.laload, 1) := by decide +kernel
theorem dX9_copy_58 : decode cX9_copy 58 = .ok (.lastore, 1) := by decide +kernel
theorem dX9_copy_59 : decode cX9_copy 59 = .ok (.iinc 2 1, 3) := by decide +kernel
theorem dX9_copy_62 : decode cX9_copy 62 = .ok (.goto (-20), 3) := by decide +kernel
theorem dX9_copy_65 : decode cX9_copy 65 = .ok (.aload_n 1, 1) := by decide +kernel
theorem dX9_copy_66 : decode cX9_copy 66 = .ok (.areturn, 1) := by decide +kernel
theorem dX9_takes_0 : decode cX9_takes 0 = .ok (.aload_n 0, 1) := by decide +kernel
theorem dX9_takes_1 : decode cX9_takes 1 = .ok (.getfield 15, 3) := by decide +kernel
theorem dX9_takes_4 : decode cX9_takes 4 = .ok (.bipush 115, 2) := by decide +kernel
theorem dX9_takes_6 : decode cX9_takes 6 = .ok (.if_icmp .ne 9, 3) := by decide +kernel
theorem dX9_takes_9 : decode cX9_takes 9 = .ok (.sipush 200, 3) := by decide +kernel
theorem dX9_takes_12 : decode cX9_takes 12 = .ok (.goto 18, 3) := by decide +kernel
theorem dX9_takes_15 : decode cX9_takes 15 = .ok (.aload_n 0, 1) := by decide +kernel
theorem dX9_takes_16 : decode cX9_takes 16 = .ok (.getfield 15, 3) := by decide +kernel
theorem dX9_takes_19 : decode cX9_takes 19 = .ok (.bipush 108, 2) := by decide +kernel
theorem dX9_takes_21 : decode cX9_takes 21 = .ok (.if_icmp .ne 8, 3) := by decide +kernel
theorem dX9_takes_24 : decode cX9_takes 24 = .ok (.bipush 50, 2) := by decide +kernel
theorem dX9_takes_26 : decode cX9_takes 26 = .ok (.goto 4, 3) := by decide +kernel
theorem dX9_takes_29 : decode cX9_takes 29 = .ok (.iconst 5, 1) := by decide +kernel
theorem dX9_takes_30 : decode cX9_takes 30 = .ok (.ireturn, 1) := by decide +kernel
theorem dX9_drains_0 : decode cX9_drains 0 = .ok (.aload_n 0, 1) := by decide +kernel
theorem dX9_drains_1 : decode cX9_drains 1 = .ok (.getfield 15, 3) := by decide +kernel
theorem dX9_drains_4 : decode cX9_drains 4 = .ok (.bipush 115, 2) := by decide +kernel
theorem dX9_drains_6 : decode cX9_drains 6 = .ok (.if_icmp .ne 8, 3) := by decide +kernel
theorem dX9_drains_9 : decode cX9_drains 9 = .ok (.bipush 50, 2) := by decide +kernel
theorem dX9_drains_11 : decode cX9_drains 11 = .ok (.goto 19, 3) := by decide +kernel
theorem dX9_drains_14 : decode cX9_drains 14 = .ok (.aload_n 0, 1) := by decide +kernel
theorem dX9_drains_15 : decode cX9_drains 15 = .ok (.getfield 15, 3) := by decide +kernel
theorem dX9_drains_18 : decode cX9_drains 18 = .ok (.bipush 108, 2) := by decide +kernel
theorem dX9_drains_20 : decode cX9_drains 20 = .ok (.if_icmp .ne 8, 3) := by decide +kernel
theorem dX9_drains_23 : decode cX9_drains 23 = .ok (.bipush 25, 2) := by decide +kernel
theorem dX9_drains_25 : decode cX9_drains 25 = .ok (.goto 5, 3) := by decide +kernel
theorem dX9_drains_28 : decode cX9_drains 28 = .ok (.bipush 10, 2) := by decide +kernel
theorem dX9_drains_30 : decode cX9_drains 30 = .ok (.ireturn, 1) := by decide +kernel
theorem dX9_room_0 : decode cX9_room 0 = .ok (.aload_n 0, 1) := by decide +kernel
theorem dX9_room_1 : decode cX9_room 1 = .ok (.getfield 41, 3) := by decide +kernel
theorem dX9_room_4 : decode cX9_room 4 = .ok (.ifCond .eq 7, 3) := by decide +kernel
theorem dX9_room_7 : decode cX9_room 7 = .ok (.iconst 0, 1) := by decide +kernel
theorem dX9_room_8 : decode cX9_room 8 = .ok (.goto 12, 3) := by decide +kernel
theorem dX9_room_11 : decode cX9_room 11 = .ok (.aload_n 0, 1) := by decide +kernel
theorem dX9_room_12 : decode cX9_room 12 = .ok (.getfield 23, 3) := by decide +kernel
theorem dX9_room_15 : decode cX9_room 15 = .ok (.aload_n 0, 1) := by decide +kernel
theorem dX9_room_16 : decode cX9_room 16 = .ok (.getfield 32, 3) := by decide +kernel
theorem dX9_room_19 : decode cX9_room 19 = .ok (.isub, 1) := by decide +kernel
theorem dX9_room_20 : decode cX9_room 20 = .ok (.ireturn, 1) := by decide +kernel
theorem dX9_above_0 : decode cX9_above 0 = .ok (.aload_n 0, 1) := by decide +kernel
theorem dX9_above_1 : decode cX9_above 1 = .ok (.getfield 41, 3) := by decide +kernel
theorem dX9_above_4 : decode cX9_above 4 = .ok (.ifCond .ne 14, 3) := by decide +kernel
theorem dX9_above_7 : decode cX9_above 7 = .ok (.aload_n 0, 1) := by decide +kernel
theorem dX9_above_8 : decode cX9_above 8 = .ok (.getfield 32, 3) := by decide +kernel
theorem dX9_above_11 : decode cX9_above 11 = .ok (.aload_n 0, 1) := by decide +kernel
theorem dX9_above_12 : decode cX9_above 12 = .ok (.getfield 29, 3) := by decide +kernel
theorem dX9_above_15 : decode cX9_above 15 = .ok (.if_icmp .gt 7, 3) := by decide +kernel
theorem dX9_above_18 : decode cX9_above 18 = .ok (.iconst 0, 1) := by decide +kernel
theorem dX9_above_19 : decode cX9_above 19 = .ok (.goto 12, 3) := by decide +kernel
theorem dX9_above_22 : decode cX9_above 22 = .ok (.aload_n 0, 1) := by decide +kernel
theorem dX9_above_23 : decode cX9_above 23 = .ok (.getfield 32, 3) := by decide +kernel
theorem dX9_above_26 : decode cX9_above 26 = .ok (.aload_n 0, 1) := by decide +kernel
theorem dX9_above_27 : decode cX9_above 27 = .ok (.getfield 29, 3) := by decide +kernel
theorem dX9_above_30 : decode cX9_above 30 = .ok (.isub, 1) := by decide +kernel
theorem dX9_above_31 : decode cX9_above 31 = .ok (.ireturn, 1) := by decide +kernel
theorem dX10_init_0 : decode cX10_init 0 = .ok (.aload_n 0, 1) := by decide +kernel
theorem dX10_init_1 : decode cX10_init 1 = .ok (.invokespecial 1, 3) := by decide +kernel
theorem dX10_init_4 : decode cX10_init 4 = .ok (.aload_n 0, 1) := by decide +kernel
theorem dX10_init_5 : decode cX10_init 5 = .ok (.iload_n 1, 1) := by decide +kernel
theorem dX10_init_6 : decode cX10_init 6 = .ok (.putfield 7, 3) := by decide +kernel
theorem dX10_init_9 : decode cX10_init 9 = .ok (.aload_n 0, 1) := by decide +kernel
theorem dX10_init_10 : decode cX10_init 10 = .ok (.iload_n 2, 1) := by decide +kernel
theorem dX10_init_11 : decode cX10_init 11 = .ok (.putfield 13, 3) := by decide +kernel
theorem dX10_init_14 : decode cX10_init 14 = .ok (.return_, 1) := by decide +kernel
theorem dX11_init_0 : decode cX11_init 0 = .ok (.aload_n 0, 1) := by decide +kernel
theorem dX11_init_1 : decode cX11_init 1 = .ok (.invokespecial 1, 3) := by decide +kernel
theorem dX11_init_4 : decode cX11_init 4 = .ok (.aload_n 0, 1) := by decide +kernel
theorem dX11_init_5 : decode cX11_init 5 = .ok (.bipush 10, 2) := by decide +kernel
theorem dX11_init_7 : decode cX11_init 7 = .ok (.putfield 7, 3) := by decide +kernel
theorem dX11_init_10 : decode cX11_init 10 = .ok (.aload_n 0, 1) := by decide +kernel
theorem dX11_init_11 : decode cX11_init 11 = .ok (.sipush 9999, 3) := by decide +kernel
theorem dX11_init_14 : decode cX11_init 14 = .ok (.putfield 13, 3) := by decide +kernel
theorem dX11_init_17 : decode cX11_init 17 = .ok (.return_, 1) := by decide +kernel
theorem dX12_in_0 : decode cX12_in 0 = .ok (.lload_n 0, 1) := by decide +kernel
theorem dX12_in_1 : decode cX12_in 1 = .ok (.lload_n 2, 1) := by decide +kernel
theorem dX12_in_2 : decode cX12_in 2 = .ok (.lcmp, 1) := by decide +kernel
theorem dX12_in_3 : decode cX12_in 3 = .ok (.ifCond .lt 14, 3) := by decide +kernel
theorem dX12_in_6 : decode cX12_in 6 = .ok (.lload_n 0, 1) := by decide +kernel
theorem dX12_in_7 : decode cX12_in 7 = .ok (.lload 4, 2) := by decide +kernel
theorem dX12_in_9 : decode cX12_in 9 = .ok (.lcmp, 1) := by decide +kernel
theorem dX12_in_10 : decode cX12_in 10 = .ok (.ifCond .gt 7, 3) := by decide +kernel
theorem dX12_in_13 : decode cX12_in 13 = .ok (.iconst 1, 1) := by decide +kernel
theorem dX12_in_14 : decode cX12_in 14 = .ok (.goto 4, 3) := by decide +kernel
theorem dX12_in_17 : decode cX12_in 17 = .ok (.iconst 0, 1) := by decide +kernel
theorem dX12_in_18 : decode cX12_in 18 = .ok (.ireturn, 1) := by decide +kernel
theorem dX12_kindOf_0 : decode cX12_kindOf 0 = .ok (.ldc 1, 2) := by decide +kernel
theorem dX12_kindOf_2 : decode cX12_kindOf 2 = .ok (.iload_n 0, 1) := by decide +kernel
theorem dX12_kindOf_3 : decode cX12_kindOf 3 = .ok (.invokevirtual 3, 3) := by decide +kernel
theorem dX12_kindOf_6 : decode cX12_kindOf 6 = .ok (.ireturn, 1) := by decide +kernel
theorem dX12_init_0 : decode cX12_init 0 = .ok (.aload_n 0, 1) := by decide +kernel
theorem dX12_init_1 : decode cX12_init 1 = .ok (.invokespecial 9, 3) := by decide +kernel
theorem dX12_init_4 : decode cX12_init 4 = .ok (.aload_n 0, 1) := by decide +kernel
theorem dX12_init_5 : decode cX12_init 5 = .ok (.new 15, 3) := by decide +kernel
theorem dX12_init_8 : decode cX12_init 8 = .ok (.dup, 1) := by decide +kernel
theorem dX12_init_9 : decode cX12_init 9 = .ok (.invokespecial 17, 3) := by decide +kernel
theorem dX12_init_12 : decode cX12_init 12 = .ok (.putfield 18, 3) := by decide +kernel
theorem dX12_init_15 : decode cX12_init 15 = .ok (.aload_n 0, 1) := by decide +kernel
theorem dX12_init_16 : decode cX12_init 16 = .ok (.new 24, 3) := by decide +kernel
theorem dX12_init_19 : decode cX12_init 19 = .ok (.dup, 1) := by decide +kernel
theorem dX12_init_20 : decode cX12_init 20 = .ok (.invokespecial 26, 3) := by decide +kernel
theorem dX12_init_23 : decode cX12_init 23 = .ok (.putfield 27, 3) := by decide +kernel
theorem dX12_init_26 : decode cX12_init 26 = .ok (.aload_n 0, 1) := by decide +kernel
theorem dX12_init_27 : decode cX12_init 27 = .ok (.iconst 0, 1) := by decide +kernel
theorem dX12_init_28 : decode cX12_init 28 = .ok (.putfield 31, 3) := by decide +kernel
theorem dX12_init_31 : decode cX12_init 31 = .ok (.return_, 1) := by decide +kernel
theorem dX12_thrown_0 : decode cX12_thrown 0 = .ok (.aload_n 0, 1) := by decide +kernel
theorem dX12_thrown_1 : decode cX12_thrown 1 = .ok (.getfield 31, 3) := by decide +kernel
theorem dX12_thrown_4 : decode cX12_thrown 4 = .ok (.ireturn, 1) := by decide +kernel
theorem dX12_isColumn_0 : decode cX12_isColumn 0 = .ok (.iload_n 1, 1) := by decide +kernel
theorem dX12_isColumn_1 : decode cX12_isColumn 1 = .ok (.i2l, 1) := by decide +kernel
theorem dX12_isColumn_2 : decode cX12_isColumn 2 = .ok (.lconst 0, 1) := by decide +kernel
theorem dX12_isColumn_3 : decode cX12_isColumn 3 = .ok (.aload_n 0, 1) := by decide +kernel
theorem dX12_isColumn_4 : decode cX12_isColumn 4 = .ok (.getfield 18, 3) := by decide +kernel
theorem dX12_isColumn_7 : decode cX12_isColumn 7 = .ok (.invokevirtual 35, 3) := by decide +kernel
theorem dX12_isColumn_10 : decode cX12_isColumn 10 = .ok (.iconst 1, 1) := by decide +kernel
theorem dX12_isColumn_11 : decode cX12_isColumn 11 = .ok (.isub, 1) := by decide +kernel
theorem dX12_isColumn_12 : decode cX12_isColumn 12 = .ok (.i2l, 1) := by decide +kernel
theorem dX12_isColumn_13 : decode cX12_isColumn 13 = .ok (.invokestatic 39, 3) := by decide +kernel
theorem dX12_isColumn_16 : decode cX12_isColumn 16 = .ok (.ireturn, 1) := by decide +kernel
theorem dX12_noColumn_0 : decode cX12_noColumn 0 = .ok (.aload_n 0, 1) := by decide +kernel
theorem dX12_noColumn_1 : decode cX12_noColumn 1 = .ok (.aload_n 0, 1) := by decide +kernel
theorem dX12_noColumn_2 : decode cX12_noColumn 2 = .ok (.iload_n 1, 1) := by decide +kernel
theorem dX12_noColumn_3 : decode cX12_noColumn 3 = .ok (.invokevirtual 43, 3) := by decide +kernel
theorem dX12_noColumn_6 : decode cX12_noColumn 6 = .ok (.ifCond .eq 7, 3) := by decide +kernel
theorem dX12_noColumn_9 : decode cX12_noColumn 9 = .ok (.iconst 0, 1) := by decide +kernel
theorem dX12_noColumn_10 : decode cX12_noColumn 10 = .ok (.goto 4, 3) := by decide +kernel
theorem dX12_noColumn_13 : decode cX12_noColumn 13 = .ok (.iconst 1, 1) := by decide +kernel
theorem dX12_noColumn_14 : decode cX12_noColumn 14 = .ok (.putfield 31, 3) := by decide +kernel
theorem dX12_noColumn_17 : decode cX12_noColumn 17 = .ok (.aload_n 0, 1) := by decide +kernel
theorem dX12_noColumn_18 : decode cX12_noColumn 18 = .ok (.getfield 31, 3) := by decide +kernel
theorem dX12_noColumn_21 : decode cX12_noColumn 21 = .ok (.ifCond .le 7, 3) := by decide +kernel
theorem dX12_noColumn_24 : decode cX12_noColumn 24 = .ok (.iconst 1, 1) := by decide +kernel
theorem dX12_noColumn_25 : decode cX12_noColumn 25 = .ok (.goto 4, 3) := by decide +kernel
theorem dX12_noColumn_28 : decode cX12_noColumn 28 = .ok (.iconst 0, 1) := by decide +kernel
theorem dX12_noColumn_29 : decode cX12_noColumn 29 = .ok (.ireturn, 1) := by decide +kernel
theorem dX12_noLayer_0 : decode cX12_noLayer 0 = .ok (.aload_n 0, 1) := by decide +kernel
theorem dX12_noLayer_1 : decode cX12_noLayer 1 = .ok (.aload_n 0, 1) := by decide +kernel
theorem dX12_noLayer_2 : decode cX12_noLayer 2 = .ok (.iload_n 1, 1) := by decide +kernel
theorem dX12_noLayer_3 : decode cX12_noLayer 3 = .ok (.invokevirtual 43, 3) := by decide +kernel
theorem dX12_noLayer_6 : decode cX12_noLayer 6 = .ok (.ifCond .eq 36, 3) := by decide +kernel
theorem dX12_noLayer_9 : decode cX12_noLayer 9 = .ok (.iload_n 2, 1) := by decide +kernel
theorem dX12_noLayer_10 : decode cX12_noLayer 10 = .ok (.i2l, 1) := by decide +kernel
theorem dX12_noLayer_11 : decode cX12_noLayer 11 = .ok (.lconst 0, 1) := by decide +kernel
theorem dX12_noLayer_12 : decode cX12_noLayer 12 = .ok (.aload_n 0, 1) := by decide +kernel
theorem dX12_noLayer_13 : decode cX12_noLayer 13 = .ok (.getfield 18, 3) := by decide +kernel
theorem dX12_noLayer_16 : decode cX12_noLayer 16 = .ok (.iload_n 1, 1) := by decide +kernel
theorem dX12_noLayer_17 : decode cX12_noLayer 17 = .ok (.invokevirtual 47, 3) := by decide +kernel
theorem dX12_noLayer_20 : decode cX12_noLayer 20 = .ok (.checkcast 51, 3) := by decide +kernel
theorem dX12_noLayer_23 : decode cX12_noLayer 23 = .ok (.getfield 53, 3) := by decide +kernel
theorem dX12_noLayer_26 : decode cX12_noLayer 26 = .ok (.invokevirtual 35, 3) := by decide +kernel
theorem dX12_noLayer_29 : decode cX12_noLayer 29 = .ok (.iconst 1, 1) := by decide +kernel
theorem dX12_noLayer_30 : decode cX12_noLayer 30 = .ok (.isub, 1) := by decide +kernel
theorem dX12_noLayer_31 : decode cX12_noLayer 31 = .ok (.i2l, 1) := by decide +kernel
theorem dX12_noLayer_32 : decode cX12_noLayer 32 = .ok (.invokestatic 39, 3) := by decide +kernel
theorem dX12_noLayer_35 : decode cX12_noLayer 35 = .ok (.ifCond .eq 7, 3) := by decide +kernel
theorem dX12_noLayer_38 : decode cX12_noLayer 38 = .ok (.iconst 0, 1) := by decide +kernel
theorem dX12_noLayer_39 : decode cX12_noLayer 39 = .ok (.goto 4, 3) := by decide +kernel
theorem dX12_noLayer_42 : decode cX12_noLayer 42 = .ok (.iconst 1, 1) := by decide +kernel
theorem dX12_noLayer_43 : decode cX12_noLayer 43 = .ok (.putfield 31, 3) := by decide +kernel
theorem dX12_noLayer_46 : decode cX12_noLayer 46 = .ok (.aload_n 0, 1) := by decide +kernel
theorem dX12_noLayer_47 : decode cX12_noLayer 47 = .ok (.getfield 31, 3) := by decide +kernel
theorem dX12_noLayer_50 : decode cX12_noLayer 50 = .ok (.ifCond .le 7, 3) := by decide +kernel
theorem dX12_noLayer_53 : decode cX12_noLayer 53 = .ok (.iconst 1, 1) := by decide +kernel
theorem dX12_noLayer_54 : decode cX12_noLayer 54 = .ok (.goto 4, 3) := by decide +kernel
theorem dX12_noLayer_57 : decode cX12_noLayer 57 = .ok (.iconst 0, 1) := by decide +kernel
theorem dX12_noLayer_58 : decode cX12_noLayer 58 = .ok (.ireturn, 1) := by decide +kernel
theorem dX12_layerOf_0 : decode cX12_layerOf 0 = .ok (.aload_n 0, 1) := by decide +kernel
theorem dX12_layerOf_1 : decode cX12_layerOf 1 = .ok (.getfield 18, 3) := by decide +kernel
theorem dX12_layerOf_4 : decode cX12_layerOf 4 = .ok (.iload_n 1, 1) := by decide +kernel
theorem dX12_layerOf_5 : decode cX12_layerOf 5 = .ok (.invokevirtual 47, 3) := by decide +kernel
theorem dX12_layerOf_8 : decode cX12_layerOf 8 = .ok (.checkcast 51, 3) := by decide +kernel
theorem dX12_layerOf_11 : decode cX12_layerOf 11 = .ok (.getfield 53, 3) := by decide +kernel
theorem dX12_layerOf_14 : decode cX12_layerOf 14 = .ok (.iload_n 2, 1) := by decide +kernel
theorem dX12_layerOf_15 : decode cX12_layerOf 15 = .ok (.invokevirtual 47, 3) := by decide +kernel
theorem dX12_layerOf_18 : decode cX12_layerOf 18 = .ok (.checkcast 56, 3) := by decide +kernel
theorem dX12_layerOf_21 : decode cX12_layerOf 21 = .ok (.areturn, 1) := by decide +kernel
theorem dX12_column_0 : decode cX12_column 0 = .ok (.aload_n 0, 1) := by decide +kernel
theorem dX12_column_1 : decode cX12_column 1 = .ok (.ldc 58, 2) := by decide +kernel
theorem dX12_column_3 : decode cX12_column 3 = .ok (.iload_n 1, 1) := by decide +kernel
theorem dX12_column_4 : decode cX12_column 4 = .ok (.invokevirtual 3, 3) := by decide +kernel
theorem dX12_column_7 : decode cX12_column 7 = .ok (.ifCond .ge 7, 3) := by decide +kernel
theorem dX12_column_10 : decode cX12_column 10 = .ok (.iconst 1, 1) := by decide +kernel
theorem dX12_column_11 : decode cX12_column 11 = .ok (.goto 20, 3) := by decide +kernel
theorem dX12_column_14 : decode cX12_column 14 = .ok (.aload_n 0, 1) := by decide +kernel
theorem dX12_column_15 : decode cX12_column 15 = .ok (.getfield 18, 3) := by decide +kernel
theorem dX12_column_18 : decode cX12_column 18 = .ok (.invokevirtual 35, 3) := by decide +kernel
theorem dX12_column_21 : decode cX12_column 21 = .ok (.bipush 6, 2) := by decide +kernel
theorem dX12_column_23 : decode cX12_column 23 = .ok (.if_icmp .ne 7, 3) := by decide +kernel
theorem dX12_column_26 : decode cX12_column 26 = .ok (.iconst 2, 1) := by decide +kernel
theorem dX12_column_27 : decode cX12_column 27 = .ok (.goto 4, 3) := by decide +kernel
theorem dX12_column_30 : decode cX12_column 30 = .ok (.iconst 0, 1) := by decide +kernel
theorem dX12_column_31 : decode cX12_column 31 = .ok (.putfield 31, 3) := by decide +kernel
theorem dX12_column_34 : decode cX12_column 34 = .ok (.aload_n 0, 1) := by decide +kernel
theorem dX12_column_35 : decode cX12_column 35 = .ok (.getfield 31, 3) := by decide +kernel
theorem dX12_column_38 : decode cX12_column 38 = .ok (.ifCond .le 5, 3) := by decide +kernel
theorem dX12_column_41 : decode cX12_column 41 = .ok (.iconst 0, 1) := by decide +kernel
theorem dX12_column_42 : decode cX12_column 42 = .ok (.ireturn, 1) := by decide +kernel
theorem dX12_column_43 : decode cX12_column 43 = .ok (.aload_n 0, 1) := by decide +kernel
theorem dX12_column_44 : decode cX12_column 44 = .ok (.getfield 18, 3) := by decide +kernel
theorem dX12_column_47 : decode cX12_column 47 = .ok (.new 51, 3) := by decide +kernel
theorem dX12_column_50 : decode cX12_column 50 = .ok (.dup, 1) := by decide +kernel
theorem dX12_column_51 : decode cX12_column 51 = .ok (.iload_n 1, 1) := by decide +kernel
theorem dX12_column_52 : decode cX12_column 52 = .ok (.invokespecial 60, 3) := by decide +kernel
theorem dX12_column_55 : decode cX12_column 55 = .ok (.invokevirtual 63, 3) := by decide +kernel
theorem dX12_column_58 : decode cX12_column 58 = .ok (.pop, 1) := by decide +kernel
theorem dX12_column_59 : decode cX12_column 59 = .ok (.aload_n 0, 1) := by decide +kernel
theorem dX12_column_60 : decode cX12_column 60 = .ok (.getfield 18, 3) := by decide +kernel
theorem dX12_column_63 : decode cX12_column 63 = .ok (.invokevirtual 35, 3) := by decide +kernel
theorem dX12_column_66 : decode cX12_column 66 = .ok (.iconst 1, 1) := by decide +kernel
theorem dX12_column_67 : decode cX12_column 67 = .ok (.isub, 1) := by decide +kernel
theorem dX12_column_68 : decode cX12_column 68 = .ok (.ireturn, 1) := by decide +kernel
theorem dX12_layer_0 : decode cX12_layer 0 = .ok (.aload_n 0, 1) := by decide +kernel
theorem dX12_layer_1 : decode cX12_layer 1 = .ok (.iload_n 1, 1) := by decide +kernel
theorem dX12_layer_2 : decode cX12_layer 2 = .ok (.invokevirtual 67, 3) := by decide +kernel
theorem dX12_layer_5 : decode cX12_layer 5 = .ok (.ifCond .eq 5, 3) := by decide +kernel
theorem dX12_layer_8 : decode cX12_layer 8 = .ok (.iconst 0, 1) := by decide +kernel
theorem dX12_layer_9 : decode cX12_layer 9 = .ok (.ireturn, 1) := by decide +kernel
theorem dX12_layer_10 : decode cX12_layer 10 = .ok (.aload_n 0, 1) := by decide +kernel
theorem dX12_layer_11 : decode cX12_layer 11 = .ok (.getfield 18, 3) := by decide +kernel
theorem dX12_layer_14 : decode cX12_layer 14 = .ok (.iload_n 1, 1) := by decide +kernel
theorem dX12_layer_15 : decode cX12_layer 15 = .ok (.invokevirtual 47, 3) := by decide +kernel
theorem dX12_layer_18 : decode cX12_layer 18 = .ok (.checkcast 51, 3) := by decide +kernel
theorem dX12_layer_21 : decode cX12_layer 21 = .ok (.astore 4, 2) := by decide +kernel
theorem dX12_layer_23 : decode cX12_layer 23 = .ok (.ldc 70, 2) := by decide +kernel
theorem dX12_layer_25 : decode cX12_layer 25 = .ok (.iload_n 2, 1) := by decide +kernel
theorem dX12_layer_26 : decode cX12_layer 26 = .ok (.invokevirtual 3, 3) := by decide +kernel
theorem dX12_layer_29 : decode cX12_layer 29 = .ok (.ifCond .lt 21, 3) := by decide +kernel
theorem dX12_layer_32 : decode cX12_layer 32 = .ok (.iload_n 3, 1) := by decide +kernel
theorem dX12_layer_33 : decode cX12_layer 33 = .ok (.i2l, 1) := by decide +kernel
theorem dX12_layer_34 : decode cX12_layer 34 = .ok (.ldc2_w 72, 3) := by decide +kernel
theorem dX12_layer_37 : decode cX12_layer 37 = .ok (.ldc2_w 74, 3) := by decide +kernel
theorem dX12_layer_40 : decode cX12_layer 40 = .ok (.invokestatic 39, 3) := by decide +kernel
theorem dX12_layer_43 : decode cX12_layer 43 = .ok (.ifCond .eq 7, 3) := by decide +kernel
theorem dX12_layer_46 : decode cX12_layer 46 = .ok (.iconst 1, 1) := by decide +kernel
theorem dX12_layer_47 : decode cX12_layer 47 = .ok (.goto 4, 3) := by decide +kernel
theorem dX12_layer_50 : decode cX12_layer 50 = .ok (.iconst 0, 1) := by decide +kernel
theorem dX12_layer_51 : decode cX12_layer 51 = .ok (.istore 5, 2) := by decide +kernel
theorem dX12_layer_53 : decode cX12_layer 53 = .ok (.aload_n 0, 1) := by decide +kernel
theorem dX12_layer_54 : decode cX12_layer 54 = .ok (.iload 5, 2) := by decide +kernel
theorem dX12_layer_56 : decode cX12_layer 56 = .ok (.ifCond .ne 7, 3) := by decide +kernel
theorem dX12_layer_59 : decode cX12_layer 59 = .ok (.iconst 2, 1) := by decide +kernel
theorem dX12_layer_60 : decode cX12_layer 60 = .ok (.goto 21, 3) := by decide +kernel
theorem dX12_layer_63 : decode cX12_layer 63 = .ok (.aload 4, 2) := by decide +kernel
theorem dX12_layer_65 : decode cX12_layer 65 = .ok (.getfield 53, 3) := by decide +kernel
theorem dX12_layer_68 : decode cX12_layer 68 = .ok (.invokevirtual 35, 3) := by decide +kernel
theorem dX12_layer_71 : decode cX12_layer 71 = .ok (.bipush 8, 2) := by decide +kernel
theorem dX12_layer_73 : decode cX12_layer 73 = .ok (.if_icmp .ne 7, 3) := by decide +kernel
theorem dX12_layer_76 : decode cX12_layer 76 = .ok (.iconst 3, 1) := by decide +kernel
theorem dX12_layer_77 : decode cX12_layer 77 = .ok (.goto 4, 3) := by decide +kernel
theorem dX12_layer_80 : decode cX12_layer 80 = .ok (.iconst 0, 1) := by decide +kernel
theorem dX12_layer_81 : decode cX12_layer 81 = .ok (.putfield 31, 3) := by decide +kernel
theorem dX12_layer_84 : decode cX12_layer 84 = .ok (.aload_n 0, 1) := by decide +kernel
theorem dX12_layer_85 : decode cX12_layer 85 = .ok (.getfield 31, 3) := by decide +kernel
theorem dX12_layer_88 : decode cX12_layer 88 = .ok (.ifCond .le 5, 3) := by decide +kernel
theorem dX12_layer_91 : decode cX12_layer 91 = .ok (.iconst 0, 1) := by decide +kernel
theorem dX12_layer_92 : decode cX12_layer 92 = .ok (.ireturn, 1) := by decide +kernel
theorem dX12_layer_93 : decode cX12_layer 93 = .ok (.aload 4, 2) := by decide +kernel
theorem dX12_layer_95 : decode cX12_layer 95 = .ok (.getfield 53, 3) := by decide +kernel
theorem dX12_layer_98 : decode cX12_layer 98 = .ok (.new 56, 3) := by decide +kernel
theorem dX12_layer_101 : decode cX12_layer 101 = .ok (.dup, 1) := by decide +kernel
theorem dX12_layer_102 : decode cX12_layer 102 = .ok (.iload_n 2, 1) := by decide +kernel
theorem dX12_layer_103 : decode cX12_layer 103 = .ok (.iload_n 3, 1) := by decide +kernel
theorem dX12_layer_104 : decode cX12_layer 104 = .ok (.invokespecial 76, 3) := by decide +kernel
theorem dX12_layer_107 : decode cX12_layer 107 = .ok (.invokevirtual 63, 3) := by decide +kernel
theorem dX12_layer_110 : decode cX12_layer 110 = .ok (.pop, 1) := by decide +kernel
theorem dX12_layer_111 : decode cX12_layer 111 = .ok (.aload 4, 2) := by decide +kernel
theorem dX12_layer_113 : decode cX12_layer 113 = .ok (.getfield 53, 3) := by decide +kernel
theorem dX12_layer_116 : decode cX12_layer 116 = .ok (.invokevirtual 35, 3) := by decide +kernel
theorem dX12_layer_119 : decode cX12_layer 119 = .ok (.ireturn, 1) := by decide +kernel
theorem dX12_wet_0 : decode cX12_wet 0 = .ok (.aload_n 0, 1) := by decide +kernel
theorem dX12_wet_1 : decode cX12_wet 1 = .ok (.iload_n 1, 1) := by decide +kernel
theorem dX12_wet_2 : decode cX12_wet 2 = .ok (.iload_n 2, 1) := by decide +kernel
theorem dX12_wet_3 : decode cX12_wet 3 = .ok (.invokevirtual 79, 3) := by decide +kernel
theorem dX12_wet_6 : decode cX12_wet 6 = .ok (.ifCond .eq 5, 3) := by decide +kernel
theorem dX12_wet_9 : decode cX12_wet 9 = .ok (.iconst 0, 1) := by decide +kernel
theorem dX12_wet_10 : decode cX12_wet 10 = .ok (.ireturn, 1) := by decide +kernel
theorem dX12_wet_11 : decode cX12_wet 11 = .ok (.aload_n 0, 1) := by decide +kernel
theorem dX12_wet_12 : decode cX12_wet 12 = .ok (.iload_n 1, 1) := by decide +kernel
theorem dX12_wet_13 : decode cX12_wet 13 = .ok (.iload_n 2, 1) := by decide +kernel
theorem dX12_wet_14 : decode cX12_wet 14 = .ok (.invokevirtual 83, 3) := by decide +kernel
theorem dX12_wet_17 : decode cX12_wet 17 = .ok (.astore 4, 2) := by decide +kernel
theorem dX12_wet_19 : decode cX12_wet 19 = .ok (.aload_n 0, 1) := by decide +kernel
theorem dX12_wet_20 : decode cX12_wet 20 = .ok (.iload_n 3, 1) := by decide +kernel
theorem dX12_wet_21 : decode cX12_wet 21 = .ok (.i2l, 1) := by decide +kernel
theorem dX12_wet_22 : decode cX12_wet 22 = .ok (.lconst 0, 1) := by decide +kernel
theorem dX12_wet_23 : decode cX12_wet 23 = .ok (.aload 4, 2) := by decide +kernel
theorem dX12_wet_25 : decode cX12_wet 25 = .ok (.getfield 87, 3) := by decide +kernel
theorem dX12_wet_28 : decode cX12_wet 28 = .ok (.i2l, 1) := by decide +kernel
theorem dX12_wet_29 : decode cX12_wet 29 = .ok (.invokestatic 39, 3) := by decide +kernel
theorem dX12_wet_32 : decode cX12_wet 32 = .ok (.ifCond .eq 7, 3) := by decide +kernel
theorem dX12_wet_35 : decode cX12_wet 35 = .ok (.iconst 0, 1) := by decide +kernel
theorem dX12_wet_36 : decode cX12_wet 36 = .ok (.goto 4, 3) := by decide +kernel
theorem dX12_wet_39 : decode cX12_wet 39 = .ok (.iconst 2, 1) := by decide +kernel
theorem dX12_wet_40 : decode cX12_wet 40 = .ok (.putfield 31, 3) := by decide +kernel
theorem dX12_wet_43 : decode cX12_wet 43 = .ok (.aload_n 0, 1) := by decide +kernel
theorem dX12_wet_44 : decode cX12_wet 44 = .ok (.getfield 31, 3) := by decide +kernel
theorem dX12_wet_47 : decode cX12_wet 47 = .ok (.ifCond .le 5, 3) := by decide +kernel
theorem dX12_wet_50 : decode cX12_wet 50 = .ok (.iconst 0, 1) := by decide +kernel
theorem dX12_wet_51 : decode cX12_wet 51 = .ok (.ireturn, 1) := by decide +kernel
theorem dX12_wet_52 : decode cX12_wet 52 = .ok (.aload 4, 2) := by decide +kernel
theorem dX12_wet_54 : decode cX12_wet 54 = .ok (.getfield 90, 3) := by decide +kernel
theorem dX12_wet_57 : decode cX12_wet 57 = .ok (.istore 5, 2) := by decide +kernel
theorem dX12_wet_59 : decode cX12_wet 59 = .ok (.aload 4, 2) := by decide +kernel
theorem dX12_wet_61 : decode cX12_wet 61 = .ok (.iload_n 3, 1) := by decide +kernel
theorem dX12_wet_62 : decode cX12_wet 62 = .ok (.putfield 90, 3) := by decide +kernel
theorem dX12_wet_65 : decode cX12_wet 65 = .ok (.iload 5, 2) := by decide +kernel
theorem dX12_wet_67 : decode cX12_wet 67 = .ok (.ireturn, 1) := by decide +kernel
theorem dX12_water_0 : decode cX12_water 0 = .ok (.aload_n 0, 1) := by decide +kernel
theorem dX12_water_1 : decode cX12_water 1 = .ok (.iload_n 1, 1) := by decide +kernel
theorem dX12_water_2 : decode cX12_water 2 = .ok (.iload_n 2, 1) := by decide +kernel
theorem dX12_water_3 : decode cX12_water 3 = .ok (.invokevirtual 79, 3) := by decide +kernel
theorem dX12_water_6 : decode cX12_water 6 = .ok (.ifCond .eq 7, 3) := by decide +kernel
theorem dX12_water_9 : decode cX12_water 9 = .ok (.iconst 0, 1) := by decide +kernel
theorem dX12_water_10 : decode cX12_water 10 = .ok (.goto 12, 3) := by decide +kernel
theorem dX12_water_13 : decode cX12_water 13 = .ok (.aload_n 0, 1) := by decide +kernel
theorem dX12_water_14 : decode cX12_water 14 = .ok (.iload_n 1, 1) := by decide +kernel
theorem dX12_water_15 : decode cX12_water 15 = .ok (.iload_n 2, 1) := by decide +kernel
theorem dX12_water_16 : decode cX12_water 16 = .ok (.invokevirtual 83, 3) := by decide +kernel
theorem dX12_water_19 : decode cX12_water 19 = .ok (.getfield 90, 3) := by decide +kernel
theorem dX12_water_22 : decode cX12_water 22 = .ok (.ireturn, 1) := by decide +kernel
theorem dX12_capacity_0 : decode cX12_capacity 0 = .ok (.aload_n 0, 1) := by decide +kernel
theorem dX12_capacity_1 : decode cX12_capacity 1 = .ok (.iload_n 1, 1) := by decide +kernel
theorem dX12_capacity_2 : decode cX12_capacity 2 = .ok (.iload_n 2, 1) := by decide +kernel
theorem dX12_capacity_3 : decode cX12_capacity 3 = .ok (.invokevirtual 79, 3) := by decide +kernel
theorem dX12_capacity_6 : decode cX12_capacity 6 = .ok (.ifCond .eq 7, 3) := by decide +kernel
theorem dX12_capacity_9 : decode cX12_capacity 9 = .ok (.iconst 0, 1) := by decide +kernel
theorem dX12_capacity_10 : decode cX12_capacity 10 = .ok (.goto 12, 3) := by decide +kernel
theorem dX12_capacity_13 : decode cX12_capacity 13 = .ok (.aload_n 0, 1) := by decide +kernel
theorem dX12_capacity_14 : decode cX12_capacity 14 = .ok (.iload_n 1, 1) := by decide +kernel
theorem dX12_capacity_15 : decode cX12_capacity 15 = .ok (.iload_n 2, 1) := by decide +kernel
theorem dX12_capacity_16 : decode cX12_capacity 16 = .ok (.invokevirtual 83, 3) := by decide +kernel
theorem dX12_capacity_19 : decode cX12_capacity 19 = .ok (.getfield 87, 3) := by decide +kernel
theorem dX12_capacity_22 : decode cX12_capacity 22 = .ok (.ireturn, 1) := by decide +kernel
theorem dX12_link_0 : decode cX12_link 0 = .ok (.aload_n 0, 1) := by decide +kernel
theorem dX12_link_1 : decode cX12_link 1 = .ok (.aload_n 0, 1) := by decide +kernel
theorem dX12_link_2 : decode cX12_link 2 = .ok (.iload_n 1, 1) := by decide +kernel
theorem dX12_link_3 : decode cX12_link 3 = .ok (.invokevirtual 43, 3) := by decide +kernel
theorem dX12_link_6 : decode cX12_link 6 = .ok (.ifCond .eq 16, 3) := by decide +kernel
theorem dX12_link_9 : decode cX12_link 9 = .ok (.iload_n 2, 1) := by decide +kernel
theorem dX12_link_10 : decode cX12_link 10 = .ok (.iconst (-1), 1) := by decide +kernel
theorem dX12_link_11 : decode cX12_link 11 = .ok (.if_icmp .eq 15, 3) := by decide +kernel
theorem dX12_link_14 : decode cX12_link 14 = .ok (.aload_n 0, 1) := by decide +kernel
theorem dX12_link_15 : decode cX12_link 15 = .ok (.iload_n 2, 1) := by decide +kernel
theorem dX12_link_16 : decode cX12_link 16 = .ok (.invokevirtual 43, 3) := by decide +kernel
theorem dX12_link_19 : decode cX12_link 19 = .ok (.ifCond .ne 7, 3) := by decide +kernel
theorem dX12_link_22 : decode cX12_link 22 = .ok (.iconst 1, 1) := by decide +kernel
theorem dX12_link_23 : decode cX12_link 23 = .ok (.goto 13, 3) := by decide +kernel
theorem dX12_link_26 : decode cX12_link 26 = .ok (.iload_n 1, 1) := by decide +kernel
theorem dX12_link_27 : decode cX12_link 27 = .ok (.iload_n 2, 1) := by decide +kernel
theorem dX12_link_28 : decode cX12_link 28 = .ok (.if_icmp .ne 7, 3) := by decide +kernel
theorem dX12_link_31 : decode cX12_link 31 = .ok (.iconst 2, 1) := by decide +kernel
theorem dX12_link_32 : decode cX12_link 32 = .ok (.goto 4, 3) := by decide +kernel
theorem dX12_link_35 : decode cX12_link 35 = .ok (.iconst 0, 1) := by decide +kernel
theorem dX12_link_36 : decode cX12_link 36 = .ok (.putfield 31, 3) := by decide +kernel
theorem dX12_link_39 : decode cX12_link 39 = .ok (.aload_n 0, 1) := by decide +kernel
theorem dX12_link_40 : decode cX12_link 40 = .ok (.getfield 31, 3) := by decide +kernel
theorem dX12_link_43 : decode cX12_link 43 = .ok (.ifCond .le 5, 3) := by decide +kernel
theorem dX12_link_46 : decode cX12_link 46 = .ok (.iconst 0, 1) := by decide +kernel
theorem dX12_link_47 : decode cX12_link 47 = .ok (.ireturn, 1) := by decide +kernel
theorem dX12_link_48 : decode cX12_link 48 = .ok (.aload_n 0, 1) := by decide +kernel
theorem dX12_link_49 : decode cX12_link 49 = .ok (.getfield 18, 3) := by decide +kernel
theorem dX12_link_52 : decode cX12_link 52 = .ok (.iload_n 1, 1) := by decide +kernel
theorem dX12_link_53 : decode cX12_link 53 = .ok (.invokevirtual 47, 3) := by decide +kernel
theorem dX12_link_56 : decode cX12_link 56 = .ok (.checkcast 51, 3) := by decide +kernel
theorem dX12_link_59 : decode cX12_link 59 = .ok (.getfield 93, 3) := by decide +kernel
theorem dX12_link_62 : decode cX12_link 62 = .ok (.istore_n 3, 1) := by decide +kernel
theorem dX12_link_63 : decode cX12_link 63 = .ok (.aload_n 0, 1) := by decide +kernel
theorem dX12_link_64 : decode cX12_link 64 = .ok (.getfield 18, 3) := by decide +kernel
theorem dX12_link_67 : decode cX12_link 67 = .ok (.iload_n 1, 1) := by decide +kernel
theorem dX12_link_68 : decode cX12_link 68 = .ok (.invokevirtual 47, 3) := by decide +kernel
theorem dX12_link_71 : decode cX12_link 71 = .ok (.checkcast 51, 3) := by decide +kernel
theorem dX12_link_74 : decode cX12_link 74 = .ok (.iload_n 2, 1) := by decide +kernel
theorem dX12_link_75 : decode cX12_link 75 = .ok (.putfield 93, 3) := by decide +kernel
theorem dX12_link_78 : decode cX12_link 78 = .ok (.iload_n 3, 1) := by decide +kernel
theorem dX12_link_79 : decode cX12_link 79 = .ok (.ireturn, 1) := by decide +kernel
theorem dX12_scale_0 : decode cX12_scale 0 = .ok (.aload_n 0, 1) := by decide +kernel
theorem dX12_scale_1 : decode cX12_scale 1 = .ok (.iload_n 1, 1) := by decide +kernel
theorem dX12_scale_2 : decode cX12_scale 2 = .ok (.invokevirtual 67, 3) := by decide +kernel
theorem dX12_scale_5 : decode cX12_scale 5 = .ok (.ifCond .eq 5, 3) := by decide +kernel
theorem dX12_scale_8 : decode cX12_scale 8 = .ok (.iconst 0, 1) := by decide +kernel
theorem dX12_scale_9 : decode cX12_scale 9 = .ok (.ireturn, 1) := by decide +kernel
theorem dX12_scale_10 : decode cX12_scale 10 = .ok (.aload_n 0, 1) := by decide +kernel
theorem dX12_scale_11 : decode cX12_scale 11 = .ok (.iload_n 2, 1) := by decide +kernel
theorem dX12_scale_12 : decode cX12_scale 12 = .ok (.i2l, 1) := by decide +kernel
theorem dX12_scale_13 : decode cX12_scale 13 = .ok (.ldc2_w 96, 3) := by decide +kernel
theorem dX12_scale_16 : decode cX12_scale 16 = .ok (.ldc2_w 98, 3) := by decide +kernel
theorem dX12_scale_19 : decode cX12_scale 19 = .ok (.invokestatic 39, 3) := by decide +kernel
theorem dX12_scale_22 : decode cX12_scale 22 = .ok (.ifCond .eq 7, 3) := by decide +kernel
theorem dX12_scale_25 : decode cX12_scale 25 = .ok (.iconst 0, 1) := by decide +kernel
theorem dX12_scale_26 : decode cX12_scale 26 = .ok (.goto 4, 3) := by decide +kernel
theorem dX12_scale_29 : decode cX12_scale 29 = .ok (.iconst 2, 1) := by decide +kernel
theorem dX12_scale_30 : decode cX12_scale 30 = .ok (.putfield 31, 3) := by decide +kernel
theorem dX12_scale_33 : decode cX12_scale 33 = .ok (.aload_n 0, 1) := by decide +kernel
theorem dX12_scale_34 : decode cX12_scale 34 = .ok (.getfield 31, 3) := by decide +kernel
theorem dX12_scale_37 : decode cX12_scale 37 = .ok (.ifCond .le 5, 3) := by decide +kernel
theorem dX12_scale_40 : decode cX12_scale 40 = .ok (.iconst 0, 1) := by decide +kernel
theorem dX12_scale_41 : decode cX12_scale 41 = .ok (.ireturn, 1) := by decide +kernel
theorem dX12_scale_42 : decode cX12_scale 42 = .ok (.aload_n 0, 1) := by decide +kernel
theorem dX12_scale_43 : decode cX12_scale 43 = .ok (.getfield 18, 3) := by decide +kernel
theorem dX12_scale_46 : decode cX12_scale 46 = .ok (.iload_n 1, 1) := by decide +kernel
theorem dX12_scale_47 : decode cX12_scale 47 = .ok (.invokevirtual 47, 3) := by decide +kernel
theorem dX12_scale_50 : decode cX12_scale 50 = .ok (.checkcast 51, 3) := by decide +kernel
theorem dX12_scale_53 : decode cX12_scale 53 = .ok (.getfield 100, 3) := by decide +kernel
theorem dX12_scale_56 : decode cX12_scale 56 = .ok (.istore_n 3, 1) := by decide +kernel
theorem dX12_scale_57 : decode cX12_scale 57 = .ok (.aload_n 0, 1) := by decide +kernel
theorem dX12_scale_58 : decode cX12_scale 58 = .ok (.getfield 18, 3) := by decide +kernel
theorem dX12_scale_61 : decode cX12_scale 61 = .ok (.iload_n 1, 1) := by decide +kernel
theorem dX12_scale_62 : decode cX12_scale 62 = .ok (.invokevirtual 47, 3) := by decide +kernel
theorem dX12_scale_65 : decode cX12_scale 65 = .ok (.checkcast 51, 3) := by decide +kernel
theorem dX12_scale_68 : decode cX12_scale 68 = .ok (.iload_n 2, 1) := by decide +kernel
theorem dX12_scale_69 : decode cX12_scale 69 = .ok (.putfield 100, 3) := by decide +kernel
theorem dX12_scale_72 : decode cX12_scale 72 = .ok (.iload_n 3, 1) := by decide +kernel
theorem dX12_scale_73 : decode cX12_scale 73 = .ok (.ireturn, 1) := by decide +kernel
theorem dX12_plant_0 : decode cX12_plant 0 = .ok (.aload_n 0, 1) := by decide +kernel
theorem dX12_plant_1 : decode cX12_plant 1 = .ok (.iload_n 1, 1) := by decide +kernel
theorem dX12_plant_2 : decode cX12_plant 2 = .ok (.invokevirtual 67, 3) := by decide +kernel
theorem dX12_plant_5 : decode cX12_plant 5 = .ok (.ifCond .eq 5, 3) := by decide +kernel
theorem dX12_plant_8 : decode cX12_plant 8 = .ok (.iconst 0, 1) := by decide +kernel
theorem dX12_plant_9 : decode cX12_plant 9 = .ok (.ireturn, 1) := by decide +kernel
theorem dX12_plant_10 : decode cX12_plant 10 = .ok (.aload_n 0, 1) := by decide +kernel
theorem dX12_plant_11 : decode cX12_plant 11 = .ok (.getfield 18, 3) := by decide +kernel
theorem dX12_plant_14 : decode cX12_plant 14 = .ok (.iload_n 1, 1) := by decide +kernel
theorem dX12_plant_15 : decode cX12_plant 15 = .ok (.invokevirtual 47, 3) := by decide +kernel
theorem dX12_plant_18 : decode cX12_plant 18 = .ok (.checkcast 51, 3) := by decide +kernel
theorem dX12_plant_21 : decode cX12_plant 21 = .ok (.getfield 103, 3) := by decide +kernel
theorem dX12_plant_24 : decode cX12_plant 24 = .ok (.astore 4, 2) := by decide +kernel
theorem dX12_plant_26 : decode cX12_plant 26 = .ok (.aload_n 0, 1) := by decide +kernel
theorem dX12_plant_27 : decode cX12_plant 27 = .ok (.iload_n 2, 1) := by decide +kernel
theorem dX12_plant_28 : decode cX12_plant 28 = .ok (.i2l, 1) := by decide +kernel
theorem dX12_plant_29 : decode cX12_plant 29 = .ok (.lconst 1, 1) := by decide +kernel
theorem dX12_plant_30 : decode cX12_plant 30 = .ok (.ldc2_w 106, 3) := by decide +kernel
theorem dX12_plant_33 : decode cX12_plant 33 = .ok (.invokestatic 39, 3) := by decide +kernel
theorem dX12_plant_36 : decode cX12_plant 36 = .ok (.ifCond .eq 15, 3) := by decide +kernel
theorem dX12_plant_39 : decode cX12_plant 39 = .ok (.iload_n 3, 1) := by decide +kernel
theorem dX12_plant_40 : decode cX12_plant 40 = .ok (.i2l, 1) := by decide +kernel
theorem dX12_plant_41 : decode cX12_plant 41 = .ok (.lconst 0, 1) := by decide +kernel
theorem dX12_plant_42 : decode cX12_plant 42 = .ok (.ldc2_w 72, 3) := by decide +kernel
theorem dX12_plant_45 : decode cX12_plant 45 = .ok (.invokestatic 39, 3) := by decide +kernel
theorem dX12_plant_48 : decode cX12_plant 48 = .ok (.ifCond .ne 7, 3) := by decide +kernel
theorem dX12_plant_51 : decode cX12_plant 51 = .ok (.iconst 2, 1) := by decide +kernel
theorem dX12_plant_52 : decode cX12_plant 52 = .ok (.goto 17, 3) := by decide +kernel
theorem dX12_plant_55 : decode cX12_plant 55 = .ok (.aload 4, 2) := by decide +kernel
theorem dX12_plant_57 : decode cX12_plant 57 = .ok (.invokevirtual 35, 3) := by decide +kernel
theorem dX12_plant_60 : decode cX12_plant 60 = .ok (.iconst 2, 1) := by decide +kernel
theorem dX12_plant_61 : decode cX12_plant 61 = .ok (.if_icmp .ne 7, 3) := by decide +kernel
theorem dX12_plant_64 : decode cX12_plant 64 = .ok (.iconst 3, 1) := by decide +kernel
theorem dX12_plant_65 : decode cX12_plant 65 = .ok (.goto 4, 3) := by decide +kernel
theorem dX12_plant_68 : decode cX12_plant 68 = .ok (.iconst 0, 1) := by decide +kernel
theorem dX12_plant_69 : decode cX12_plant 69 = .ok (.putfield 31, 3) := by decide +kernel
theorem dX12_plant_72 : decode cX12_plant 72 = .ok (.aload_n 0, 1) := by decide +kernel
theorem dX12_plant_73 : decode cX12_plant 73 = .ok (.getfield 31, 3) := by decide +kernel
theorem dX12_plant_76 : decode cX12_plant 76 = .ok (.ifCond .le 5, 3) := by decide +kernel
theorem dX12_plant_79 : decode cX12_plant 79 = .ok (.iconst 0, 1) := by decide +kernel
theorem dX12_plant_80 : decode cX12_plant 80 = .ok (.ireturn, 1) := by decide +kernel
theorem dX12_plant_81 : decode cX12_plant 81 = .ok (.aload 4, 2) := by decide +kernel
theorem dX12_plant_83 : decode cX12_plant 83 = .ok (.new 108, 3) := by decide +kernel
theorem dX12_plant_86 : decode cX12_plant 86 = .ok (.dup, 1) := by decide +kernel
theorem dX12_plant_87 : decode cX12_plant 87 = .ok (.iload_n 2, 1) := by decide +kernel
theorem dX12_plant_88 : decode cX12_plant 88 = .ok (.iload_n 3, 1) := by decide +kernel
theorem dX12_plant_89 : decode cX12_plant 89 = .ok (.invokespecial 110, 3) := by decide +kernel
theorem dX12_plant_92 : decode cX12_plant 92 = .ok (.invokevirtual 63, 3) := by decide +kernel
theorem dX12_plant_95 : decode cX12_plant 95 = .ok (.pop, 1) := by decide +kernel
theorem dX12_plant_96 : decode cX12_plant 96 = .ok (.aload 4, 2) := by decide +kernel
theorem dX12_plant_98 : decode cX12_plant 98 = .ok (.invokevirtual 35, 3) := by decide +kernel
theorem dX12_plant_101 : decode cX12_plant 101 = .ok (.ireturn, 1) := by decide +kernel
theorem dX12_harvest_0 : decode cX12_harvest 0 = .ok (.aload_n 0, 1) := by decide +kernel
theorem dX12_harvest_1 : decode cX12_harvest 1 = .ok (.iload_n 1, 1) := by decide +kernel
theorem dX12_harvest_2 : decode cX12_harvest 2 = .ok (.invokevirtual 67, 3) := by decide +kernel
theorem dX12_harvest_5 : decode cX12_harvest 5 = .ok (.ifCond .eq 5, 3) := by decide +kernel
theorem dX12_harvest_8 : decode cX12_harvest 8 = .ok (.iconst 0, 1) := by decide +kernel
theorem dX12_harvest_9 : decode cX12_harvest 9 = .ok (.ireturn, 1) := by decide +kernel
theorem dX12_harvest_10 : decode cX12_harvest 10 = .ok (.aload_n 0, 1) := by decide +kernel
theorem dX12_harvest_11 : decode cX12_harvest 11 = .ok (.getfield 18, 3) := by decide +kernel
theorem dX12_harvest_14 : decode cX12_harvest 14 = .ok (.iload_n 1, 1) := by decide +kernel
theorem dX12_harvest_15 : decode cX12_harvest 15 = .ok (.invokevirtual 47, 3) := by decide +kernel
theorem dX12_harvest_18 : decode cX12_harvest 18 = .ok (.checkcast 51, 3) := by decide +kernel
theorem dX12_harvest_21 : decode cX12_harvest 21 = .ok (.getfield 103, 3) := by decide +kernel
theorem dX12_harvest_24 : decode cX12_harvest 24 = .ok (.invokevirtual 35, 3) := by decide +kernel
theorem dX12_harvest_27 : decode cX12_harvest 27 = .ok (.istore_n 2, 1) := by decide +kernel
theorem dX12_harvest_28 : decode cX12_harvest 28 = .ok (.aload_n 0, 1) := by decide +kernel
theorem dX12_harvest_29 : decode cX12_harvest 29 = .ok (.getfield 18, 3) := by decide +kernel
theorem dX12_harvest_32 : decode cX12_harvest 32 = .ok (.iload_n 1, 1) := by decide +kernel
theorem dX12_harvest_33 : decode cX12_harvest 33 = .ok (.invokevirtual 47, 3) := by decide +kernel
theorem dX12_harvest_36 : decode cX12_harvest 36 = .ok (.checkcast 51, 3) := by decide +kernel
theorem dX12_harvest_39 : decode cX12_harvest 39 = .ok (.getfield 103, 3) := by decide +kernel
theorem dX12_harvest_42 : decode cX12_harvest 42 = .ok (.invokevirtual 113, 3) := by decide +kernel
theorem dX12_harvest_45 : decode cX12_harvest 45 = .ok (.iload_n 2, 1) := by decide +kernel
theorem dX12_harvest_46 : decode cX12_harvest 46 = .ok (.ireturn, 1) := by decide +kernel
theorem dX12_stress_0 : decode cX12_stress 0 = .ok (.aload_n 0, 1) := by decide +kernel
theorem dX12_stress_1 : decode cX12_stress 1 = .ok (.iload_n 1, 1) := by decide +kernel
theorem dX12_stress_2 : decode cX12_stress 2 = .ok (.invokevirtual 67, 3) := by decide +kernel
theorem dX12_stress_5 : decode cX12_stress 5 = .ok (.ifCond .eq 5, 3) := by decide +kernel
theorem dX12_stress_8 : decode cX12_stress 8 = .ok (.iconst 0, 1) := by decide +kernel
theorem dX12_stress_9 : decode cX12_stress 9 = .ok (.ireturn, 1) := by decide +kernel
theorem dX12_stress_10 : decode cX12_stress 10 = .ok (.aload_n 0, 1) := by decide +kernel
theorem dX12_stress_11 : decode cX12_stress 11 = .ok (.iload_n 2, 1) := by decide +kernel
theorem dX12_stress_12 : decode cX12_stress 12 = .ok (.i2l, 1) := by decide +kernel
theorem dX12_stress_13 : decode cX12_stress 13 = .ok (.lconst 0, 1) := by decide +kernel
theorem dX12_stress_14 : decode cX12_stress 14 = .ok (.aload_n 0, 1) := by decide +kernel
theorem dX12_stress_15 : decode cX12_stress 15 = .ok (.getfield 18, 3) := by decide +kernel
theorem dX12_stress_18 : decode cX12_stress 18 = .ok (.iload_n 1, 1) := by decide +kernel
theorem dX12_stress_19 : decode cX12_stress 19 = .ok (.invokevirtual 47, 3) := by decide +kernel
theorem dX12_stress_22 : decode cX12_stress 22 = .ok (.checkcast 51, 3) := by decide +kernel
theorem dX12_stress_25 : decode cX12_stress 25 = .ok (.getfield 103, 3) := by decide +kernel
theorem dX12_stress_28 : decode cX12_stress 28 = .ok (.invokevirtual 35, 3) := by decide +kernel
theorem dX12_stress_31 : decode cX12_stress 31 = .ok (.iconst 1, 1) := by decide +kernel
theorem dX12_stress_32 : decode cX12_stress 32 = .ok (.isub, 1) := by decide +kernel
theorem dX12_stress_33 : decode cX12_stress 33 = .ok (.i2l, 1) := by decide +kernel
theorem dX12_stress_34 : decode cX12_stress 34 = .ok (.invokestatic 39, 3) := by decide +kernel
theorem dX12_stress_37 : decode cX12_stress 37 = .ok (.ifCond .eq 7, 3) := by decide +kernel
theorem dX12_stress_40 : decode cX12_stress 40 = .ok (.iconst 0, 1) := by decide +kernel
theorem dX12_stress_41 : decode cX12_stress 41 = .ok (.goto 4, 3) := by decide +kernel
theorem dX12_stress_44 : decode cX12_stress 44 = .ok (.iconst 2, 1) := by decide +kernel
theorem dX12_stress_45 : decode cX12_stress 45 = .ok (.putfield 31, 3) := by decide +kernel
theorem dX12_stress_48 : decode cX12_stress 48 = .ok (.aload_n 0, 1) := by decide +kernel
theorem dX12_stress_49 : decode cX12_stress 49 = .ok (.getfield 31, 3) := by decide +kernel
theorem dX12_stress_52 : decode cX12_stress 52 = .ok (.ifCond .le 7, 3) := by decide +kernel
theorem dX12_stress_55 : decode cX12_stress 55 = .ok (.iconst 0, 1) := by decide +kernel
theorem dX12_stress_56 : decode cX12_stress 56 = .ok (.goto 27, 3) := by decide +kernel
theorem dX12_stress_59 : decode cX12_stress 59 = .ok (.aload_n 0, 1) := by decide +kernel
theorem dX12_stress_60 : decode cX12_stress 60 = .ok (.getfield 18, 3) := by decide +kernel
theorem dX12_stress_63 : decode cX12_stress 63 = .ok (.iload_n 1, 1) := by decide +kernel
theorem dX12_stress_64 : decode cX12_stress 64 = .ok (.invokevirtual 47, 3) := by decide +kernel
theorem dX12_stress_67 : decode cX12_stress 67 = .ok (.checkcast 51, 3) := by decide +kernel
theorem dX12_stress_70 : decode cX12_stress 70 = .ok (.getfield 103, 3) := by decide +kernel
theorem dX12_stress_73 : decode cX12_stress 73 = .ok (.iload_n 2, 1) := by decide +kernel
theorem dX12_stress_74 : decode cX12_stress 74 = .ok (.invokevirtual 47, 3) := by decide +kernel
theorem dX12_stress_77 : decode cX12_stress 77 = .ok (.checkcast 108, 3) := by decide +kernel
theorem dX12_stress_80 : decode cX12_stress 80 = .ok (.getfield 116, 3) := by decide +kernel
theorem dX12_stress_83 : decode cX12_stress 83 = .ok (.ireturn, 1) := by decide +kernel
theorem dX12_mulch_0 : decode cX12_mulch 0 = .ok (.aload_n 0, 1) := by decide +kernel
theorem dX12_mulch_1 : decode cX12_mulch 1 = .ok (.iload_n 1, 1) := by decide +kernel
theorem dX12_mulch_2 : decode cX12_mulch 2 = .ok (.invokevirtual 67, 3) := by decide +kernel
theorem dX12_mulch_5 : decode cX12_mulch 5 = .ok (.ifCond .eq 5, 3) := by decide +kernel
theorem dX12_mulch_8 : decode cX12_mulch 8 = .ok (.iconst 0, 1) := by decide +kernel
theorem dX12_mulch_9 : decode cX12_mulch 9 = .ok (.ireturn, 1) := by decide +kernel
theorem dX12_mulch_10 : decode cX12_mulch 10 = .ok (.aload_n 0, 1) := by decide +kernel
theorem dX12_mulch_11 : decode cX12_mulch 11 = .ok (.getfield 18, 3) := by decide +kernel
theorem dX12_mulch_14 : decode cX12_mulch 14 = .ok (.iload_n 1, 1) := by decide +kernel
theorem dX12_mulch_15 : decode cX12_mulch 15 = .ok (.invokevirtual 47, 3) := by decide +kernel
theorem dX12_mulch_18 : decode cX12_mulch 18 = .ok (.checkcast 51, 3) := by decide +kernel
theorem dX12_mulch_21 : decode cX12_mulch 21 = .ok (.getfield 119, 3) := by decide +kernel
theorem dX12_mulch_24 : decode cX12_mulch 24 = .ok (.istore_n 3, 1) := by decide +kernel
theorem dX12_mulch_25 : decode cX12_mulch 25 = .ok (.aload_n 0, 1) := by decide +kernel
theorem dX12_mulch_26 : decode cX12_mulch 26 = .ok (.getfield 18, 3) := by decide +kernel
theorem dX12_mulch_29 : decode cX12_mulch 29 = .ok (.iload_n 1, 1) := by decide +kernel
theorem dX12_mulch_30 : decode cX12_mulch 30 = .ok (.invokevirtual 47, 3) := by decide +kernel
theorem dX12_mulch_33 : decode cX12_mulch 33 = .ok (.checkcast 51, 3) := by decide +kernel
theorem dX12_mulch_36 : decode cX12_mulch 36 = .ok (.iload_n 2, 1) := by decide +kernel
theorem dX12_mulch_37 : decode cX12_mulch 37 = .ok (.putfield 119, 3) := by decide +kernel
theorem dX12_mulch_40 : decode cX12_mulch 40 = .ok (.iload_n 3, 1) := by decide +kernel
theorem dX12_mulch_41 : decode cX12_mulch 41 = .ok (.ireturn, 1) := by decide +kernel
theorem dX12_rule_0 : decode cX12_rule 0 = .ok (.aload_n 0, 1) := by decide +kernel
theorem dX12_rule_1 : decode cX12_rule 1 = .ok (.iload_n 1, 1) := by decide +kernel
theorem dX12_rule_2 : decode cX12_rule 2 = .ok (.invokevirtual 67, 3) := by decide +kernel
theorem dX12_rule_5 : decode cX12_rule 5 = .ok (.ifCond .eq 5, 3) := by decide +kernel
theorem dX12_rule_8 : decode cX12_rule 8 = .ok (.iconst 0, 1) := by decide +kernel
theorem dX12_rule_9 : decode cX12_rule 9 = .ok (.ireturn, 1) := by decide +kernel
theorem dX12_rule_10 : decode cX12_rule 10 = .ok (.aload_n 0, 1) := by decide +kernel
theorem dX12_rule_11 : decode cX12_rule 11 = .ok (.iload_n 2, 1) := by decide +kernel
theorem dX12_rule_12 : decode cX12_rule 12 = .ok (.i2l, 1) := by decide +kernel
theorem dX12_rule_13 : decode cX12_rule 13 = .ok (.lconst 0, 1) := by decide +kernel
theorem dX12_rule_14 : decode cX12_rule 14 = .ok (.ldc2_w 123, 3) := by decide +kernel
theorem dX12_rule_17 : decode cX12_rule 17 = .ok (.invokestatic 39, 3) := by decide +kernel
theorem dX12_rule_20 : decode cX12_rule 20 = .ok (.ifCond .eq 19, 3) := by decide +kernel
theorem dX12_rule_23 : decode cX12_rule 23 = .ok (.iload_n 3, 1) := by decide +kernel
theorem dX12_rule_24 : decode cX12_rule 24 = .ok (.i2l, 1) := by decide +kernel
theorem dX12_rule_25 : decode cX12_rule 25 = .ok (.lconst 0, 1) := by decide +kernel
theorem dX12_rule_26 : decode cX12_rule 26 = .ok (.ldc2_w 125, 3) := by decide +kernel
theorem dX12_rule_29 : decode cX12_rule 29 = .ok (.invokestatic 39, 3) := by decide +kernel
theorem dX12_rule_32 : decode cX12_rule 32 = .ok (.ifCond .eq 7, 3) := by decide +kernel
theorem dX12_rule_35 : decode cX12_rule 35 = .ok (.iconst 0, 1) := by decide +kernel
theorem dX12_rule_36 : decode cX12_rule 36 = .ok (.goto 4, 3) := by decide +kernel
theorem dX12_rule_39 : decode cX12_rule 39 = .ok (.iconst 2, 1) := by decide +kernel
theorem dX12_rule_40 : decode cX12_rule 40 = .ok (.putfield 31, 3) := by decide +kernel
theorem dX12_rule_43 : decode cX12_rule 43 = .ok (.aload_n 0, 1) := by decide +kernel
theorem dX12_rule_44 : decode cX12_rule 44 = .ok (.getfield 31, 3) := by decide +kernel
theorem dX12_rule_47 : decode cX12_rule 47 = .ok (.ifCond .le 5, 3) := by decide +kernel
theorem dX12_rule_50 : decode cX12_rule 50 = .ok (.iconst 0, 1) := by decide +kernel
theorem dX12_rule_51 : decode cX12_rule 51 = .ok (.ireturn, 1) := by decide +kernel
theorem dX12_rule_52 : decode cX12_rule 52 = .ok (.aload_n 0, 1) := by decide +kernel
theorem dX12_rule_53 : decode cX12_rule 53 = .ok (.getfield 18, 3) := by decide +kernel
theorem dX12_rule_56 : decode cX12_rule 56 = .ok (.iload_n 1, 1) := by decide +kernel
theorem dX12_rule_57 : decode cX12_rule 57 = .ok (.invokevirtual 47, 3) := by decide +kernel
theorem dX12_rule_60 : decode cX12_rule 60 = .ok (.checkcast 51, 3) := by decide +kernel
theorem dX12_rule_63 : decode cX12_rule 63 = .ok (.getfield 127, 3) := by decide +kernel
theorem dX12_rule_66 : decode cX12_rule 66 = .ok (.istore 4, 2) := by decide +kernel
theorem dX12_rule_68 : decode cX12_rule 68 = .ok (.aload_n 0, 1) := by decide +kernel
theorem dX12_rule_69 : decode cX12_rule 69 = .ok (.getfield 18, 3) := by decide +kernel
theorem dX12_rule_72 : decode cX12_rule 72 = .ok (.iload_n 1, 1) := by decide +kernel
theorem dX12_rule_73 : decode cX12_rule 73 = .ok (.invokevirtual 47, 3) := by decide +kernel
theorem dX12_rule_76 : decode cX12_rule 76 = .ok (.checkcast 51, 3) := by decide +kernel
theorem dX12_rule_79 : decode cX12_rule 79 = .ok (.iload_n 2, 1) := by decide +kernel
theorem dX12_rule_80 : decode cX12_rule 80 = .ok (.putfield 127, 3) := by decide +kernel
theorem dX12_rule_83 : decode cX12_rule 83 = .ok (.aload_n 0, 1) := by decide +kernel
theorem dX12_rule_84 : decode cX12_rule 84 = .ok (.getfield 18, 3) := by decide +kernel
theorem dX12_rule_87 : decode cX12_rule 87 = .ok (.iload_n 1, 1) := by decide +kernel
theorem dX12_rule_88 : decode cX12_rule 88 = .ok (.invokevirtual 47, 3) := by decide +kernel
theorem dX12_rule_91 : decode cX12_rule 91 = .ok (.checkcast 51, 3) := by decide +kernel
theorem dX12_rule_94 : decode cX12_rule 94 = .ok (.iload_n 3, 1) := by decide +kernel
theorem dX12_rule_95 : decode cX12_rule 95 = .ok (.putfield 130, 3) := by decide +kernel
theorem dX12_rule_98 : decode cX12_rule 98 = .ok (.iload 4, 2) := by decide +kernel
theorem dX12_rule_100 : decode cX12_rule 100 = .ok (.ireturn, 1) := by decide +kernel
theorem dX12_spread_0 : decode cX12_spread 0 = .ok (.aload_n 0, 1) := by decide +kernel
theorem dX12_spread_1 : decode cX12_spread 1 = .ok (.iload_n 1, 1) := by decide +kernel
theorem dX12_spread_2 : decode cX12_spread 2 = .ok (.invokevirtual 67, 3) := by decide +kernel
theorem dX12_spread_5 : decode cX12_spread 5 = .ok (.ifCond .eq 5, 3) := by decide +kernel
theorem dX12_spread_8 : decode cX12_spread 8 = .ok (.lconst 0, 1) := by decide +kernel
theorem dX12_spread_9 : decode cX12_spread 9 = .ok (.lreturn, 1) := by decide +kernel
theorem dX12_spread_10 : decode cX12_spread 10 = .ok (.aload_n 0, 1) := by decide +kernel
theorem dX12_spread_11 : decode cX12_spread 11 = .ok (.getfield 18, 3) := by decide +kernel
theorem dX12_spread_14 : decode cX12_spread 14 = .ok (.iload_n 1, 1) := by decide +kernel
theorem dX12_spread_15 : decode cX12_spread 15 = .ok (.invokevirtual 47, 3) := by decide +kernel
theorem dX12_spread_18 : decode cX12_spread 18 = .ok (.checkcast 51, 3) := by decide +kernel
theorem dX12_spread_21 : decode cX12_spread 21 = .ok (.astore 4, 2) := by decide +kernel
theorem dX12_spread_23 : decode cX12_spread 23 = .ok (.aload_n 0, 1) := by decide +kernel
theorem dX12_spread_24 : decode cX12_spread 24 = .ok (.iload_n 2, 1) := by decide +kernel
theorem dX12_spread_25 : decode cX12_spread 25 = .ok (.invokestatic 133, 3) := by decide +kernel
theorem dX12_spread_28 : decode cX12_spread 28 = .ok (.ifCond .lt 15, 3) := by decide +kernel
theorem dX12_spread_31 : decode cX12_spread 31 = .ok (.iload_n 3, 1) := by decide +kernel
theorem dX12_spread_32 : decode cX12_spread 32 = .ok (.i2l, 1) := by decide +kernel
theorem dX12_spread_33 : decode cX12_spread 33 = .ok (.lconst 1, 1) := by decide +kernel
theorem dX12_spread_34 : decode cX12_spread 34 = .ok (.ldc2_w 137, 3) := by decide +kernel
theorem dX12_spread_37 : decode cX12_spread 37 = .ok (.invokestatic 39, 3) := by decide +kernel
theorem dX12_spread_40 : decode cX12_spread 40 = .ok (.ifCond .ne 7, 3) := by decide +kernel
theorem dX12_spread_43 : decode cX12_spread 43 = .ok (.iconst 2, 1) := by decide +kernel
theorem dX12_spread_44 : decode cX12_spread 44 = .ok (.goto 19, 3) := by decide +kernel
theorem dX12_spread_47 : decode cX12_spread 47 = .ok (.aload 4, 2) := by decide +kernel
theorem dX12_spread_49 : decode cX12_spread 49 = .ok (.getfield 53, 3) := by decide +kernel
theorem dX12_spread_52 : decode cX12_spread 52 = .ok (.invokevirtual 139, 3) := by decide +kernel
theorem dX12_spread_55 : decode cX12_spread 55 = .ok (.ifCond .eq 7, 3) := by decide +kernel
theorem dX12_spread_58 : decode cX12_spread 58 = .ok (.iconst 3, 1) := by decide +kernel
theorem dX12_spread_59 : decode cX12_spread 59 = .ok (.goto 4, 3) := by decide +kernel
theorem dX12_spread_62 : decode cX12_spread 62 = .ok (.iconst 0, 1) := by decide +kernel
theorem dX12_spread_63 : decode cX12_spread 63 = .ok (.putfield 31, 3) := by decide +kernel
theorem dX12_spread_66 : decode cX12_spread 66 = .ok (.aload_n 0, 1) := by decide +kernel
theorem dX12_spread_67 : decode cX12_spread 67 = .ok (.getfield 31, 3) := by decide +kernel
theorem dX12_spread_70 : decode cX12_spread 70 = .ok (.ifCond .le 5, 3) := by decide +kernel
theorem dX12_spread_73 : decode cX12_spread 73 = .ok (.lconst 0, 1) := by decide +kernel
theorem dX12_spread_74 : decode cX12_spread 74 = .ok (.lreturn, 1) := by decide +kernel
theorem dX12_spread_75 : decode cX12_spread 75 = .ok (.aload 4, 2) := by decide +kernel
theorem dX12_spread_77 : decode cX12_spread 77 = .ok (.getfield 53, 3) := by decide +kernel
theorem dX12_spread_80 : decode cX12_spread 80 = .ok (.iconst 0, 1) := by decide +kernel
theorem dX12_spread_81 : decode cX12_spread 81 = .ok (.invokevirtual 47, 3) := by decide +kernel
theorem dX12_spread_84 : decode cX12_spread 84 = .ok (.checkcast 56, 3) := by decide +kernel
theorem dX12_spread_87 : decode cX12_spread 87 = .ok (.getfield 143, 3) := by decide +kernel
theorem dX12_spread_90 : decode cX12_spread 90 = .ok (.iload_n 2, 1) := by decide +kernel
theorem dX12_spread_91 : decode cX12_spread 91 = .ok (.invokestatic 133, 3) := by decide +kernel
theorem dX12_spread_94 : decode cX12_spread 94 = .ok (.dup2, 1) := by decide +kernel
theorem dX12_spread_95 : decode cX12_spread 95 = .ok (.laload, 1) := by decide +kernel
theorem dX12_spread_96 : decode cX12_spread 96 = .ok (.iload_n 3, 1) := by decide +kernel
theorem dX12_spread_97 : decode cX12_spread 97 = .ok (.i2l, 1) := by decide +kernel
theorem dX12_spread_98 : decode cX12_spread 98 = .ok (.ladd, 1) := by decide +kernel
theorem dX12_spread_99 : decode cX12_spread 99 = .ok (.lastore, 1) := by decide +kernel
theorem dX12_spread_100 : decode cX12_spread 100 = .ok (.aload 4, 2) := by decide +kernel
theorem dX12_spread_102 : decode cX12_spread 102 = .ok (.getfield 53, 3) := by decide +kernel
theorem dX12_spread_105 : decode cX12_spread 105 = .ok (.iconst 0, 1) := by decide +kernel
theorem dX12_spread_106 : decode cX12_spread 106 = .ok (.invokevirtual 47, 3) := by decide +kernel
theorem dX12_spread_109 : decode cX12_spread 109 = .ok (.checkcast 56, 3) := by decide +kernel
theorem dX12_spread_112 : decode cX12_spread 112 = .ok (.getfield 143, 3) := by decide +kernel
theorem dX12_spread_115 : decode cX12_spread 115 = .ok (.iload_n 2, 1) := by decide +kernel
theorem dX12_spread_116 : decode cX12_spread 116 = .ok (.invokestatic 133, 3) := by decide +kernel
theorem dX12_spread_119 : decode cX12_spread 119 = .ok (.laload, 1) := by decide +kernel
theorem dX12_spread_120 : decode cX12_spread 120 = .ok (.lreturn, 1) := by decide +kernel
theorem dX12_manure_0 : decode cX12_manure 0 = .ok (.aload_n 0, 1) := by decide +kernel
theorem dX12_manure_1 : decode cX12_manure 1 = .ok (.iload_n 1, 1) := by decide +kernel
theorem dX12_manure_2 : decode cX12_manure 2 = .ok (.invokevirtual 67, 3) := by decide +kernel
theorem dX12_manure_5 : decode cX12_manure 5 = .ok (.ifCond .eq 5, 3) := by decide +kernel
theorem dX12_manure_8 : decode cX12_manure 8 = .ok (.lconst 0, 1) := by decide +kernel
theorem dX12_manure_9 : decode cX12_manure 9 = .ok (.lreturn, 1) := by decide +kernel
theorem dX12_manure_10 : decode cX12_manure 10 = .ok (.aload_n 0, 1) := by decide +kernel
theorem dX12_manure_11 : decode cX12_manure 11 = .ok (.iload_n 2, 1) := by decide +kernel
theorem dX12_manure_12 : decode cX12_manure 12 = .ok (.i2l, 1) := by decide +kernel
theorem dX12_manure_13 : decode cX12_manure 13 = .ok (.lconst 1, 1) := by decide +kernel
theorem dX12_manure_14 : decode cX12_manure 14 = .ok (.ldc2_w 137, 3) := by decide +kernel
theorem dX12_manure_17 : decode cX12_manure 17 = .ok (.invokestatic 39, 3) := by decide +kernel
theorem dX12_manure_20 : decode cX12_manure 20 = .ok (.ifCond .eq 7, 3) := by decide +kernel
theorem dX12_manure_23 : decode cX12_manure 23 = .ok (.iconst 0, 1) := by decide +kernel
theorem dX12_manure_24 : decode cX12_manure 24 = .ok (.goto 4, 3) := by decide +kernel
theorem dX12_manure_27 : decode cX12_manure 27 = .ok (.iconst 2, 1) := by decide +kernel
theorem dX12_manure_28 : decode cX12_manure 28 = .ok (.putfield 31, 3) := by decide +kernel
theorem dX12_manure_31 : decode cX12_manure 31 = .ok (.aload_n 0, 1) := by decide +kernel
theorem dX12_manure_32 : decode cX12_manure 32 = .ok (.getfield 31, 3) := by decide +kernel
theorem dX12_manure_35 : decode cX12_manure 35 = .ok (.ifCond .le 5, 3) := by decide +kernel
theorem dX12_manure_38 : decode cX12_manure 38 = .ok (.lconst 0, 1) := by decide +kernel
theorem dX12_manure_39 : decode cX12_manure 39 = .ok (.lreturn, 1) := by decide +kernel
theorem dX12_manure_40 : decode cX12_manure 40 = .ok (.aload_n 0, 1) := by decide +kernel
theorem dX12_manure_41 : decode cX12_manure 41 = .ok (.getfield 18, 3) := by decide +kernel
theorem dX12_manure_44 : decode cX12_manure 44 = .ok (.iload_n 1, 1) := by decide +kernel
theorem dX12_manure_45 : decode cX12_manure 45 = .ok (.invokevirtual 47, 3) := by decide +kernel
theorem dX12_manure_48 : decode cX12_manure 48 = .ok (.checkcast 51, 3) := by decide +kernel
theorem dX12_manure_51 : decode cX12_manure 51 = .ok (.dup, 1) := by decide +kernel
theorem dX12_manure_52 : decode cX12_manure 52 = .ok (.getfield 147, 3) := by decide +kernel
theorem dX12_manure_55 : decode cX12_manure 55 = .ok (.iload_n 2, 1) := by decide +kernel
theorem dX12_manure_56 : decode cX12_manure 56 = .ok (.i2l, 1) := by decide +kernel
theorem dX12_manure_57 : decode cX12_manure 57 = .ok (.ladd, 1) := by decide +kernel
theorem dX12_manure_58 : decode cX12_manure 58 = .ok (.putfield 147, 3) := by decide +kernel
theorem dX12_manure_61 : decode cX12_manure 61 = .ok (.aload_n 0, 1) := by decide +kernel
theorem dX12_manure_62 : decode cX12_manure 62 = .ok (.getfield 18, 3) := by decide +kernel
theorem dX12_manure_65 : decode cX12_manure 65 = .ok (.iload_n 1, 1) := by decide +kernel
theorem dX12_manure_66 : decode cX12_manure 66 = .ok (.invokevirtual 47, 3) := by decide +kernel
theorem dX12_manure_69 : decode cX12_manure 69 = .ok (.checkcast 51, 3) := by decide +kernel
theorem dX12_manure_72 : decode cX12_manure 72 = .ok (.getfield 147, 3) := by decide +kernel
theorem dX12_manure_75 : decode cX12_manure 75 = .ok (.lreturn, 1) := by decide +kernel
theorem dX12_solute_0 : decode cX12_solute 0 = .ok (.aload_n 0, 1) := by decide +kernel
theorem dX12_solute_1 : decode cX12_solute 1 = .ok (.iload_n 1, 1) := by decide +kernel
theorem dX12_solute_2 : decode cX12_solute 2 = .ok (.iload_n 2, 1) := by decide +kernel
theorem dX12_solute_3 : decode cX12_solute 3 = .ok (.invokevirtual 79, 3) := by decide +kernel
theorem dX12_solute_6 : decode cX12_solute 6 = .ok (.ifCond .eq 5, 3) := by decide +kernel
theorem dX12_solute_9 : decode cX12_solute 9 = .ok (.lconst 0, 1) := by decide +kernel
theorem dX12_solute_10 : decode cX12_solute 10 = .ok (.lreturn, 1) := by decide +kernel
theorem dX12_solute_11 : decode cX12_solute 11 = .ok (.aload_n 0, 1) := by decide +kernel
theorem dX12_solute_12 : decode cX12_solute 12 = .ok (.iload_n 3, 1) := by decide +kernel
theorem dX12_solute_13 : decode cX12_solute 13 = .ok (.invokestatic 133, 3) := by decide +kernel
theorem dX12_solute_16 : decode cX12_solute 16 = .ok (.ifCond .ge 7, 3) := by decide +kernel
theorem dX12_solute_19 : decode cX12_solute 19 = .ok (.iconst 2, 1) := by decide +kernel
theorem dX12_solute_20 : decode cX12_solute 20 = .ok (.goto 4, 3) := by decide +kernel
theorem dX12_solute_23 : decode cX12_solute 23 = .ok (.iconst 0, 1) := by decide +kernel
theorem dX12_solute_24 : decode cX12_solute 24 = .ok (.putfield 31, 3) := by decide +kernel
theorem dX12_solute_27 : decode cX12_solute 27 = .ok (.aload_n 0, 1) := by decide +kernel
theorem dX12_solute_28 : decode cX12_solute 28 = .ok (.getfield 31, 3) := by decide +kernel
theorem dX12_solute_31 : decode cX12_solute 31 = .ok (.ifCond .le 7, 3) := by decide +kernel
theorem dX12_solute_34 : decode cX12_solute 34 = .ok (.lconst 0, 1) := by decide +kernel
theorem dX12_solute_35 : decode cX12_solute 35 = .ok (.goto 17, 3) := by decide +kernel
theorem dX12_solute_38 : decode cX12_solute 38 = .ok (.aload_n 0, 1) := by decide +kernel
theorem dX12_solute_39 : decode cX12_solute 39 = .ok (.iload_n 1, 1) := by decide +kernel
theorem dX12_solute_40 : decode cX12_solute 40 = .ok (.iload_n 2, 1) := by decide +kernel
theorem dX12_solute_41 : decode cX12_solute 41 = .ok (.invokevirtual 83, 3) := by decide +kernel
theorem dX12_solute_44 : decode cX12_solute 44 = .ok (.getfield 143, 3) := by decide +kernel
theorem dX12_solute_47 : decode cX12_solute 47 = .ok (.iload_n 3, 1) := by decide +kernel
theorem dX12_solute_48 : decode cX12_solute 48 = .ok (.invokestatic 133, 3) := by decide +kernel
theorem dX12_solute_51 : decode cX12_solute 51 = .ok (.laload, 1) := by decide +kernel
theorem dX12_solute_52 : decode cX12_solute 52 = .ok (.lreturn, 1) := by decide +kernel
theorem dX12_out_0 : decode cX12_out 0 = .ok (.aload_n 0, 1) := by decide +kernel
theorem dX12_out_1 : decode cX12_out 1 = .ok (.iload_n 1, 1) := by decide +kernel
theorem dX12_out_2 : decode cX12_out 2 = .ok (.invokevirtual 67, 3) := by decide +kernel
theorem dX12_out_5 : decode cX12_out 5 = .ok (.ifCond .eq 5, 3) := by decide +kernel
theorem dX12_out_8 : decode cX12_out 8 = .ok (.lconst 0, 1) := by decide +kernel
theorem dX12_out_9 : decode cX12_out 9 = .ok (.lreturn, 1) := by decide +kernel
theorem dX12_out_10 : decode cX12_out 10 = .ok (.aload_n 0, 1) := by decide +kernel
theorem dX12_out_11 : decode cX12_out 11 = .ok (.iload_n 2, 1) := by decide +kernel
theorem dX12_out_12 : decode cX12_out 12 = .ok (.invokestatic 133, 3) := by decide +kernel
theorem dX12_out_15 : decode cX12_out 15 = .ok (.ifCond .ge 7, 3) := by decide +kernel
theorem dX12_out_18 : decode cX12_out 18 = .ok (.iconst 2, 1) := by decide +kernel
theorem dX12_out_19 : decode cX12_out 19 = .ok (.goto 4, 3) := by decide +kernel
theorem dX12_out_22 : decode cX12_out 22 = .ok (.iconst 0, 1) := by decide +kernel
theorem dX12_out_23 : decode cX12_out 23 = .ok (.putfield 31, 3) := by decide +kernel
theorem dX12_out_26 : decode cX12_out 26 = .ok (.aload_n 0, 1) := by decide +kernel
theorem dX12_out_27 : decode cX12_out 27 = .ok (.getfield 31, 3) := by decide +kernel
theorem dX12_out_30 : decode cX12_out 30 = .ok (.ifCond .le 7, 3) := by decide +kernel
theorem dX12_out_33 : decode cX12_out 33 = .ok (.lconst 0, 1) := by decide +kernel
theorem dX12_out_34 : decode cX12_out 34 = .ok (.goto 22, 3) := by decide +kernel
theorem dX12_out_37 : decode cX12_out 37 = .ok (.aload_n 0, 1) := by decide +kernel
theorem dX12_out_38 : decode cX12_out 38 = .ok (.getfield 18, 3) := by decide +kernel
theorem dX12_out_41 : decode cX12_out 41 = .ok (.iload_n 1, 1) := by decide +kernel
theorem dX12_out_42 : decode cX12_out 42 = .ok (.invokevirtual 47, 3) := by decide +kernel
theorem dX12_out_45 : decode cX12_out 45 = .ok (.checkcast 51, 3) := by decide +kernel
theorem dX12_out_48 : decode cX12_out 48 = .ok (.getfield 151, 3) := by decide +kernel
theorem dX12_out_51 : decode cX12_out 51 = .ok (.iload_n 2, 1) := by decide +kernel
theorem dX12_out_52 : decode cX12_out 52 = .ok (.invokestatic 133, 3) := by decide +kernel
theorem dX12_out_55 : decode cX12_out 55 = .ok (.laload, 1) := by decide +kernel
theorem dX12_out_56 : decode cX12_out 56 = .ok (.lreturn, 1) := by decide +kernel
theorem dX12_eaten_0 : decode cX12_eaten 0 = .ok (.aload_n 0, 1) := by decide +kernel
theorem dX12_eaten_1 : decode cX12_eaten 1 = .ok (.iload_n 1, 1) := by decide +kernel
theorem dX12_eaten_2 : decode cX12_eaten 2 = .ok (.invokevirtual 67, 3) := by decide +kernel
theorem dX12_eaten_5 : decode cX12_eaten 5 = .ok (.ifCond .eq 7, 3) := by decide +kernel
theorem dX12_eaten_8 : decode cX12_eaten 8 = .ok (.lconst 0, 1) := by decide +kernel
theorem dX12_eaten_9 : decode cX12_eaten 9 = .ok (.goto 17, 3) := by decide +kernel
theorem dX12_eaten_12 : decode cX12_eaten 12 = .ok (.aload_n 0, 1) := by decide +kernel
theorem dX12_eaten_13 : decode cX12_eaten 13 = .ok (.getfield 18, 3) := by decide +kernel
theorem dX12_eaten_16 : decode cX12_eaten 16 = .ok (.iload_n 1, 1) := by decide +kernel
theorem dX12_eaten_17 : decode cX12_eaten 17 = .ok (.invokevirtual 47, 3) := by decide +kernel
theorem dX12_eaten_20 : decode cX12_eaten 20 = .ok (.checkcast 51, 3) := by decide +kernel
theorem dX12_eaten_23 : decode cX12_eaten 23 = .ok (.getfield 154, 3) := by decide +kernel
theorem dX12_eaten_26 : decode cX12_eaten 26 = .ok (.lreturn, 1) := by decide +kernel
theorem dX12_weather_0 : decode cX12_weather 0 = .ok (.aload_n 0, 1) := by decide +kernel
theorem dX12_weather_1 : decode cX12_weather 1 = .ok (.iload_n 1, 1) := by decide +kernel
theorem dX12_weather_2 : decode cX12_weather 2 = .ok (.i2l, 1) := by decide +kernel
theorem dX12_weather_3 : decode cX12_weather 3 = .ok (.ldc2_w 157, 3) := by decide +kernel
theorem dX12_weather_6 : decode cX12_weather 6 = .ok (.ldc2_w 159, 3) := by decide +kernel
theorem dX12_weather_9 : decode cX12_weather 9 = .ok (.invokestatic 39, 3) := by decide +kernel
theorem dX12_weather_12 : decode cX12_weather 12 = .ok (.ifCond .eq 31, 3) := by decide +kernel
theorem dX12_weather_15 : decode cX12_weather 15 = .ok (.iload_n 2, 1) := by decide +kernel
theorem dX12_weather_16 : decode cX12_weather 16 = .ok (.i2l, 1) := by decide +kernel
theorem dX12_weather_17 : decode cX12_weather 17 = .ok (.lconst 0, 1) := by decide +kernel
theorem dX12_weather_18 : decode cX12_weather 18 = .ok (.ldc2_w 161, 3) := by decide +kernel
theorem dX12_weather_21 : decode cX12_weather 21 = .ok (.invokestatic 39, 3) := by decide +kernel
theorem dX12_weather_24 : decode cX12_weather 24 = .ok (.ifCond .eq 19, 3) := by decide +kernel
theorem dX12_weather_27 : decode cX12_weather 27 = .ok (.iload_n 3, 1) := by decide +kernel
theorem dX12_weather_28 : decode cX12_weather 28 = .ok (.i2l, 1) := by decide +kernel
theorem dX12_weather_29 : decode cX12_weather 29 = .ok (.lconst 0, 1) := by decide +kernel
theorem dX12_weather_30 : decode cX12_weather 30 = .ok (.ldc2_w 163, 3) := by decide +kernel
theorem dX12_weather_33 : decode cX12_weather 33 = .ok (.invokestatic 39, 3) := by decide +kernel
theorem dX12_weather_36 : decode cX12_weather 36 = .ok (.ifCond .eq 7, 3) := by decide +kernel
theorem dX12_weather_39 : decode cX12_weather 39 = .ok (.iconst 0, 1) := by decide +kernel
theorem dX12_weather_40 : decode cX12_weather 40 = .ok (.goto 4, 3) := by decide +kernel
theorem dX12_weather_43 : decode cX12_weather 43 = .ok (.iconst 1, 1) := by decide +kernel
theorem dX12_weather_44 : decode cX12_weather 44 = .ok (.putfield 31, 3) := by decide +kernel
theorem dX12_weather_47 : decode cX12_weather 47 = .ok (.aload_n 0, 1) := by decide +kernel
theorem dX12_weather_48 : decode cX12_weather 48 = .ok (.getfield 31, 3) := by decide +kernel
theorem dX12_weather_51 : decode cX12_weather 51 = .ok (.ifCond .le 5, 3) := by decide +kernel
theorem dX12_weather_54 : decode cX12_weather 54 = .ok (.iconst 0, 1) := by decide +kernel
theorem dX12_weather_55 : decode cX12_weather 55 = .ok (.ireturn, 1) := by decide +kernel
theorem dX12_weather_56 : decode cX12_weather 56 = .ok (.aload_n 0, 1) := by decide +kernel
theorem dX12_weather_57 : decode cX12_weather 57 = .ok (.getfield 27, 3) := by decide +kernel
theorem dX12_weather_60 : decode cX12_weather 60 = .ok (.getfield 165, 3) := by decide +kernel
theorem dX12_weather_63 : decode cX12_weather 63 = .ok (.istore 4, 2) := by decide +kernel
theorem dX12_weather_65 : decode cX12_weather 65 = .ok (.aload_n 0, 1) := by decide +kernel
theorem dX12_weather_66 : decode cX12_weather 66 = .ok (.getfield 27, 3) := by decide +kernel
theorem dX12_weather_69 : decode cX12_weather 69 = .ok (.iload_n 1, 1) := by decide +kernel
theorem dX12_weather_70 : decode cX12_weather 70 = .ok (.putfield 165, 3) := by decide +kernel
theorem dX12_weather_73 : decode cX12_weather 73 = .ok (.aload_n 0, 1) := by decide +kernel
theorem dX12_weather_74 : decode cX12_weather 74 = .ok (.getfield 27, 3) := by decide +kernel
theorem dX12_weather_77 : decode cX12_weather 77 = .ok (.iload_n 2, 1) := by decide +kernel
theorem dX12_weather_78 : decode cX12_weather 78 = .ok (.putfield 168, 3) := by decide +kernel
theorem dX12_weather_81 : decode cX12_weather 81 = .ok (.aload_n 0, 1) := by decide +kernel
theorem dX12_weather_82 : decode cX12_weather 82 = .ok (.getfield 27, 3) := by decide +kernel
theorem dX12_weather_85 : decode cX12_weather 85 = .ok (.iload_n 3, 1) := by decide +kernel
theorem dX12_weather_86 : decode cX12_weather 86 = .ok (.putfield 171, 3) := by decide +kernel
theorem dX12_weather_89 : decode cX12_weather 89 = .ok (.iload 4, 2) := by decide +kernel
theorem dX12_weather_91 : decode cX12_weather 91 = .ok (.ireturn, 1) := by decide +kernel
theorem dX12_law_0 : decode cX12_law 0 = .ok (.aload_n 0, 1) := by decide +kernel
theorem dX12_law_1 : decode cX12_law 1 = .ok (.iload_n 1, 1) := by decide +kernel
theorem dX12_law_2 : decode cX12_law 2 = .ok (.i2l, 1) := by decide +kernel
theorem dX12_law_3 : decode cX12_law 3 = .ok (.lconst 0, 1) := by decide +kernel
theorem dX12_law_4 : decode cX12_law 4 = .ok (.ldc2_w 123, 3) := by decide +kernel
theorem dX12_law_7 : decode cX12_law 7 = .ok (.invokestatic 39, 3) := by decide +kernel
theorem dX12_law_10 : decode cX12_law 10 = .ok (.ifCond .eq 19, 3) := by decide +kernel
theorem dX12_law_13 : decode cX12_law 13 = .ok (.iload_n 2, 1) := by decide +kernel
theorem dX12_law_14 : decode cX12_law 14 = .ok (.i2l, 1) := by decide +kernel
theorem dX12_law_15 : decode cX12_law 15 = .ok (.lconst 0, 1) := by decide +kernel
theorem dX12_law_16 : decode cX12_law 16 = .ok (.ldc2_w 161, 3) := by decide +kernel
theorem dX12_law_19 : decode cX12_law 19 = .ok (.invokestatic 39, 3) := by decide +kernel
theorem dX12_law_22 : decode cX12_law 22 = .ok (.ifCond .eq 7, 3) := by decide +kernel
theorem dX12_law_25 : decode cX12_law 25 = .ok (.iconst 0, 1) := by decide +kernel
theorem dX12_law_26 : decode cX12_law 26 = .ok (.goto 4, 3) := by decide +kernel
theorem dX12_law_29 : decode cX12_law 29 = .ok (.iconst 1, 1) := by decide +kernel
theorem dX12_law_30 : decode cX12_law 30 = .ok (.putfield 31, 3) := by decide +kernel
theorem dX12_law_33 : decode cX12_law 33 = .ok (.aload_n 0, 1) := by decide +kernel
theorem dX12_law_34 : decode cX12_law 34 = .ok (.getfield 31, 3) := by decide +kernel
theorem dX12_law_37 : decode cX12_law 37 = .ok (.ifCond .le 5, 3) := by decide +kernel
theorem dX12_law_40 : decode cX12_law 40 = .ok (.iconst 0, 1) := by decide +kernel
theorem dX12_law_41 : decode cX12_law 41 = .ok (.ireturn, 1) := by decide +kernel
theorem dX12_law_42 : decode cX12_law 42 = .ok (.aload_n 0, 1) := by decide +kernel
theorem dX12_law_43 : decode cX12_law 43 = .ok (.getfield 27, 3) := by decide +kernel
theorem dX12_law_46 : decode cX12_law 46 = .ok (.getfield 174, 3) := by decide +kernel
theorem dX12_law_49 : decode cX12_law 49 = .ok (.istore_n 3, 1) := by decide +kernel
theorem dX12_law_50 : decode cX12_law 50 = .ok (.aload_n 0, 1) := by decide +kernel
theorem dX12_law_51 : decode cX12_law 51 = .ok (.getfield 27, 3) := by decide +kernel
theorem dX12_law_54 : decode cX12_law 54 = .ok (.iload_n 1, 1) := by decide +kernel
theorem dX12_law_55 : decode cX12_law 55 = .ok (.putfield 174, 3) := by decide +kernel
theorem dX12_law_58 : decode cX12_law 58 = .ok (.aload_n 0, 1) := by decide +kernel
theorem dX12_law_59 : decode cX12_law 59 = .ok (.getfield 27, 3) := by decide +kernel
theorem dX12_law_62 : decode cX12_law 62 = .ok (.iload_n 2, 1) := by decide +kernel
theorem dX12_law_63 : decode cX12_law 63 = .ok (.putfield 177, 3) := by decide +kernel
theorem dX12_law_66 : decode cX12_law 66 = .ok (.iload_n 3, 1) := by decide +kernel
theorem dX12_law_67 : decode cX12_law 67 = .ok (.ireturn, 1) := by decide +kernel
theorem dX12_hours_0 : decode cX12_hours 0 = .ok (.aload_n 0, 1) := by decide +kernel
theorem dX12_hours_1 : decode cX12_hours 1 = .ok (.iload_n 1, 1) := by decide +kernel
theorem dX12_hours_2 : decode cX12_hours 2 = .ok (.i2l, 1) := by decide +kernel
theorem dX12_hours_3 : decode cX12_hours 3 = .ok (.lconst 1, 1) := by decide +kernel
theorem dX12_hours_4 : decode cX12_hours 4 = .ok (.ldc2_w 180, 3) := by decide +kernel
theorem dX12_hours_7 : decode cX12_hours 7 = .ok (.invokestatic 39, 3) := by decide +kernel
theorem dX12_hours_10 : decode cX12_hours 10 = .ok (.ifCond .eq 7, 3) := by decide +kernel
theorem dX12_hours_13 : decode cX12_hours 13 = .ok (.iconst 0, 1) := by decide +kernel
theorem dX12_hours_14 : decode cX12_hours 14 = .ok (.goto 4, 3) := by decide +kernel
theorem dX12_hours_17 : decode cX12_hours 17 = .ok (.iconst 1, 1) := by decide +kernel
theorem dX12_hours_18 : decode cX12_hours 18 = .ok (.putfield 31, 3) := by decide +kernel
theorem dX12_hours_21 : decode cX12_hours 21 = .ok (.iconst 0, 1) := by decide +kernel
theorem dX12_hours_22 : decode cX12_hours 22 = .ok (.istore_n 2, 1) := by decide +kernel
theorem dX12_hours_23 : decode cX12_hours 23 = .ok (.iload_n 2, 1) := by decide +kernel
theorem dX12_hours_24 : decode cX12_hours 24 = .ok (.iload_n 1, 1) := by decide +kernel
theorem dX12_hours_25 : decode cX12_hours 25 = .ok (.if_icmp .ge 131, 3) := by decide +kernel
theorem dX12_hours_28 : decode cX12_hours 28 = .ok (.aload_n 0, 1) := by decide +kernel
theorem dX12_hours_29 : decode cX12_hours 29 = .ok (.getfield 31, 3) := by decide +kernel
theorem dX12_hours_32 : decode cX12_hours 32 = .ok (.ifCond .ne 124, 3) := by decide +kernel
theorem dX12_hours_35 : decode cX12_hours 35 = .ok (.aload_n 0, 1) := by decide +kernel
theorem dX12_hours_36 : decode cX12_hours 36 = .ok (.getfield 18, 3) := by decide +kernel
theorem dX12_hours_39 : decode cX12_hours 39 = .ok (.invokevirtual 182, 3) := by decide +kernel
theorem dX12_hours_42 : decode cX12_hours 42 = .ok (.astore_n 3, 1) := by decide +kernel
theorem dX12_hours_43 : decode cX12_hours 43 = .ok (.aload_n 3, 1) := by decide +kernel
theorem dX12_hours_44 : decode cX12_hours 44 = .ok (.invokeinterface 186 1, 5) := by decide +kernel
theorem dX12_hours_49 : decode cX12_hours 49 = .ok (.ifCond .eq 91, 3) := by decide +kernel
theorem dX12_hours_52 : decode cX12_hours 52 = .ok (.aload_n 3, 1) := by decide +kernel
theorem dX12_hours_53 : decode cX12_hours 53 = .ok (.invokeinterface 191 1, 5) := by decide +kernel
theorem dX12_hours_58 : decode cX12_hours 58 = .ok (.checkcast 51, 3) := by decide +kernel
theorem dX12_hours_61 : decode cX12_hours 61 = .ok (.astore 4, 2) := by decide +kernel
theorem dX12_hours_63 : decode cX12_hours 63 = .ok (.aload_n 0, 1) := by decide +kernel
theorem dX12_hours_64 : decode cX12_hours 64 = .ok (.getfield 27, 3) := by decide +kernel
theorem dX12_hours_67 : decode cX12_hours 67 = .ok (.getfield 168, 3) := by decide +kernel
theorem dX12_hours_70 : decode cX12_hours 70 = .ok (.aload 4, 2) := by decide +kernel
theorem dX12_hours_72 : decode cX12_hours 72 = .ok (.getfield 195, 3) := by decide +kernel
theorem dX12_hours_75 : decode cX12_hours 75 = .ok (.iadd, 1) := by decide +kernel
theorem dX12_hours_76 : decode cX12_hours 76 = .ok (.aload 4, 2) := by decide +kernel
theorem dX12_hours_78 : decode cX12_hours 78 = .ok (.invokevirtual 198, 3) := by decide +kernel
theorem dX12_hours_81 : decode cX12_hours 81 = .ok (.iadd, 1) := by decide +kernel
theorem dX12_hours_82 : decode cX12_hours 82 = .ok (.istore 5, 2) := by decide +kernel
theorem dX12_hours_84 : decode cX12_hours 84 = .ok (.aload 4, 2) := by decide +kernel
theorem dX12_hours_86 : decode cX12_hours 86 = .ok (.iconst 0, 1) := by decide +kernel
theorem dX12_hours_87 : decode cX12_hours 87 = .ok (.putfield 195, 3) := by decide +kernel
theorem dX12_hours_90 : decode cX12_hours 90 = .ok (.aload 4, 2) := by decide +kernel
theorem dX12_hours_92 : decode cX12_hours 92 = .ok (.aload_n 0, 1) := by decide +kernel
theorem dX12_hours_93 : decode cX12_hours 93 = .ok (.getfield 27, 3) := by decide +kernel
theorem dX12_hours_96 : decode cX12_hours 96 = .ok (.iload 5, 2) := by decide +kernel
theorem dX12_hours_98 : decode cX12_hours 98 = .ok (.invokevirtual 201, 3) := by decide +kernel
theorem dX12_hours_101 : decode cX12_hours 101 = .ok (.istore 6, 2) := by decide +kernel
theorem dX12_hours_103 : decode cX12_hours 103 = .ok (.aload 4, 2) := by decide +kernel
theorem dX12_hours_105 : decode cX12_hours 105 = .ok (.getfield 93, 3) := by decide +kernel
theorem dX12_hours_108 : decode cX12_hours 108 = .ok (.iconst (-1), 1) := by decide +kernel
theorem dX12_hours_109 : decode cX12_hours 109 = .ok (.if_icmp .eq 28, 3) := by decide +kernel
theorem dX12_hours_112 : decode cX12_hours 112 = .ok (.aload_n 0, 1) := by decide +kernel
theorem dX12_hours_113 : decode cX12_hours 113 = .ok (.getfield 18, 3) := by decide +kernel
theorem dX12_hours_116 : decode cX12_hours 116 = .ok (.aload 4, 2) := by decide +kernel
theorem dX12_hours_118 : decode cX12_hours 118 = .ok (.getfield 93, 3) := by decide +kernel
theorem dX12_hours_121 : decode cX12_hours 121 = .ok (.invokevirtual 47, 3) := by decide +kernel
theorem dX12_hours_124 : decode cX12_hours 124 = .ok (.checkcast 51, 3) := by decide +kernel
theorem dX12_hours_127 : decode cX12_hours 127 = .ok (.dup, 1) := by decide +kernel
theorem dX12_hours_128 : decode cX12_hours 128 = .ok (.getfield 195, 3) := by decide +kernel
theorem dX12_hours_131 : decode cX12_hours 131 = .ok (.iload 6, 2) := by decide +kernel
theorem dX12_hours_133 : decode cX12_hours 133 = .ok (.iadd, 1) := by decide +kernel
theorem dX12_hours_134 : decode cX12_hours 134 = .ok (.putfield 195, 3) := by decide +kernel
theorem dX12_hours_137 : decode cX12_hours 137 = .ok (.goto (-94), 3) := by decide +kernel
theorem dX12_hours_140 : decode cX12_hours 140 = .ok (.aload_n 0, 1) := by decide +kernel
theorem dX12_hours_141 : decode cX12_hours 141 = .ok (.dup, 1) := by decide +kernel
theorem dX12_hours_142 : decode cX12_hours 142 = .ok (.getfield 205, 3) := by decide +kernel
theorem dX12_hours_145 : decode cX12_hours 145 = .ok (.iconst 1, 1) := by decide +kernel
theorem dX12_hours_146 : decode cX12_hours 146 = .ok (.iadd, 1) := by decide +kernel
theorem dX12_hours_147 : decode cX12_hours 147 = .ok (.putfield 205, 3) := by decide +kernel
theorem dX12_hours_150 : decode cX12_hours 150 = .ok (.iinc 2 1, 3) := by decide +kernel
theorem dX12_hours_153 : decode cX12_hours 153 = .ok (.goto (-130), 3) := by decide +kernel
theorem dX12_hours_156 : decode cX12_hours 156 = .ok (.aload_n 0, 1) := by decide +kernel
theorem dX12_hours_157 : decode cX12_hours 157 = .ok (.getfield 31, 3) := by decide +kernel
theorem dX12_hours_160 : decode cX12_hours 160 = .ok (.ifCond .le 7, 3) := by decide +kernel
theorem dX12_hours_163 : decode cX12_hours 163 = .ok (.iconst 0, 1) := by decide +kernel
theorem dX12_hours_164 : decode cX12_hours 164 = .ok (.goto 7, 3) := by decide +kernel
theorem dX12_hours_167 : decode cX12_hours 167 = .ok (.aload_n 0, 1) := by decide +kernel
theorem dX12_hours_168 : decode cX12_hours 168 = .ok (.getfield 205, 3) := by decide +kernel
theorem dX12_hours_171 : decode cX12_hours 171 = .ok (.ireturn, 1) := by decide +kernel
theorem dX12_standing_0 : decode cX12_standing 0 = .ok (.aload_n 0, 1) := by decide +kernel
theorem dX12_standing_1 : decode cX12_standing 1 = .ok (.iload_n 1, 1) := by decide +kernel
theorem dX12_standing_2 : decode cX12_standing 2 = .ok (.invokevirtual 67, 3) := by decide +kernel
theorem dX12_standing_5 : decode cX12_standing 5 = .ok (.ifCond .eq 7, 3) := by decide +kernel
theorem dX12_standing_8 : decode cX12_standing 8 = .ok (.iconst 0, 1) := by decide +kernel
theorem dX12_standing_9 : decode cX12_standing 9 = .ok (.goto 17, 3) := by decide +kernel
theorem dX12_standing_12 : decode cX12_standing 12 = .ok (.aload_n 0, 1) := by decide +kernel
theorem dX12_standing_13 : decode cX12_standing 13 = .ok (.getfield 18, 3) := by decide +kernel
theorem dX12_standing_16 : decode cX12_standing 16 = .ok (.iload_n 1, 1) := by decide +kernel
theorem dX12_standing_17 : decode cX12_standing 17 = .ok (.invokevirtual 47, 3) := by decide +kernel
theorem dX12_standing_20 : decode cX12_standing 20 = .ok (.checkcast 51, 3) := by decide +kernel
theorem dX12_standing_23 : decode cX12_standing 23 = .ok (.getfield 208, 3) := by decide +kernel
theorem dX12_standing_26 : decode cX12_standing 26 = .ok (.ireturn, 1) := by decide +kernel
theorem dX12_recharge_0 : decode cX12_recharge 0 = .ok (.aload_n 0, 1) := by decide +kernel
theorem dX12_recharge_1 : decode cX12_recharge 1 = .ok (.iload_n 1, 1) := by decide +kernel
theorem dX12_recharge_2 : decode cX12_recharge 2 = .ok (.invokevirtual 67, 3) := by decide +kernel
theorem dX12_recharge_5 : decode cX12_recharge 5 = .ok (.ifCond .eq 7, 3) := by decide +kernel
theorem dX12_recharge_8 : decode cX12_recharge 8 = .ok (.lconst 0, 1) := by decide +kernel
theorem dX12_recharge_9 : decode cX12_recharge 9 = .ok (.goto 17, 3) := by decide +kernel
theorem dX12_recharge_12 : decode cX12_recharge 12 = .ok (.aload_n 0, 1) := by decide +kernel
theorem dX12_recharge_13 : decode cX12_recharge 13 = .ok (.getfield 18, 3) := by decide +kernel
theorem dX12_recharge_16 : decode cX12_recharge 16 = .ok (.iload_n 1, 1) := by decide +kernel
theorem dX12_recharge_17 : decode cX12_recharge 17 = .ok (.invokevirtual 47, 3) := by decide +kernel
theorem dX12_recharge_20 : decode cX12_recharge 20 = .ok (.checkcast 51, 3) := by decide +kernel
theorem dX12_recharge_23 : decode cX12_recharge 23 = .ok (.getfield 211, 3) := by decide +kernel
theorem dX12_recharge_26 : decode cX12_recharge 26 = .ok (.lreturn, 1) := by decide +kernel
theorem dX12_runoff_0 : decode cX12_runoff 0 = .ok (.aload_n 0, 1) := by decide +kernel
theorem dX12_runoff_1 : decode cX12_runoff 1 = .ok (.iload_n 1, 1) := by decide +kernel
theorem dX12_runoff_2 : decode cX12_runoff 2 = .ok (.invokevirtual 67, 3) := by decide +kernel
theorem dX12_runoff_5 : decode cX12_runoff 5 = .ok (.ifCond .eq 7, 3) := by decide +kernel
theorem dX12_runoff_8 : decode cX12_runoff 8 = .ok (.lconst 0, 1) := by decide +kernel
theorem dX12_runoff_9 : decode cX12_runoff 9 = .ok (.goto 17, 3) := by decide +kernel
theorem dX12_runoff_12 : decode cX12_runoff 12 = .ok (.aload_n 0, 1) := by decide +kernel
theorem dX12_runoff_13 : decode cX12_runoff 13 = .ok (.getfield 18, 3) := by decide +kernel
theorem dX12_runoff_16 : decode cX12_runoff 16 = .ok (.iload_n 1, 1) := by decide +kernel
theorem dX12_runoff_17 : decode cX12_runoff 17 = .ok (.invokevirtual 47, 3) := by decide +kernel
theorem dX12_runoff_20 : decode cX12_runoff 20 = .ok (.checkcast 51, 3) := by decide +kernel
theorem dX12_runoff_23 : decode cX12_runoff 23 = .ok (.getfield 214, 3) := by decide +kernel
theorem dX12_runoff_26 : decode cX12_runoff 26 = .ok (.lreturn, 1) := by decide +kernel
theorem dX12_vapour_0 : decode cX12_vapour 0 = .ok (.aload_n 0, 1) := by decide +kernel
theorem dX12_vapour_1 : decode cX12_vapour 1 = .ok (.iload_n 1, 1) := by decide +kernel
theorem dX12_vapour_2 : decode cX12_vapour 2 = .ok (.invokevirtual 67, 3) := by decide +kernel
theorem dX12_vapour_5 : decode cX12_vapour 5 = .ok (.ifCond .eq 7, 3) := by decide +kernel
theorem dX12_vapour_8 : decode cX12_vapour 8 = .ok (.lconst 0, 1) := by decide +kernel
theorem dX12_vapour_9 : decode cX12_vapour 9 = .ok (.goto 17, 3) := by decide +kernel
theorem dX12_vapour_12 : decode cX12_vapour 12 = .ok (.aload_n 0, 1) := by decide +kernel
theorem dX12_vapour_13 : decode cX12_vapour 13 = .ok (.getfield 18, 3) := by decide +kernel
theorem dX12_vapour_16 : decode cX12_vapour 16 = .ok (.iload_n 1, 1) := by decide +kernel
theorem dX12_vapour_17 : decode cX12_vapour 17 = .ok (.invokevirtual 47, 3) := by decide +kernel
theorem dX12_vapour_20 : decode cX12_vapour 20 = .ok (.checkcast 51, 3) := by decide +kernel
theorem dX12_vapour_23 : decode cX12_vapour 23 = .ok (.getfield 217, 3) := by decide +kernel
theorem dX12_vapour_26 : decode cX12_vapour 26 = .ok (.lreturn, 1) := by decide +kernel
theorem dX12_isFrozen_0 : decode cX12_isFrozen 0 = .ok (.aload_n 0, 1) := by decide +kernel
theorem dX12_isFrozen_1 : decode cX12_isFrozen 1 = .ok (.iload_n 1, 1) := by decide +kernel
theorem dX12_isFrozen_2 : decode cX12_isFrozen 2 = .ok (.iload_n 2, 1) := by decide +kernel
theorem dX12_isFrozen_3 : decode cX12_isFrozen 3 = .ok (.invokevirtual 79, 3) := by decide +kernel
theorem dX12_isFrozen_6 : decode cX12_isFrozen 6 = .ok (.ifCond .ne 19, 3) := by decide +kernel
theorem dX12_isFrozen_9 : decode cX12_isFrozen 9 = .ok (.aload_n 0, 1) := by decide +kernel
theorem dX12_isFrozen_10 : decode cX12_isFrozen 10 = .ok (.iload_n 1, 1) := by decide +kernel
theorem dX12_isFrozen_11 : decode cX12_isFrozen 11 = .ok (.iload_n 2, 1) := by decide +kernel
theorem dX12_isFrozen_12 : decode cX12_isFrozen 12 = .ok (.invokevirtual 83, 3) := by decide +kernel
theorem dX12_isFrozen_15 : decode cX12_isFrozen 15 = .ok (.getfield 220, 3) := by decide +kernel
theorem dX12_isFrozen_18 : decode cX12_isFrozen 18 = .ok (.ifCond .eq 7, 3) := by decide +kernel
theorem dX12_isFrozen_21 : decode cX12_isFrozen 21 = .ok (.iconst 1, 1) := by decide +kernel
theorem dX12_isFrozen_22 : decode cX12_isFrozen 22 = .ok (.goto 4, 3) := by decide +kernel
theorem dX12_isFrozen_25 : decode cX12_isFrozen 25 = .ok (.iconst 0, 1) := by decide +kernel
theorem dX12_isFrozen_26 : decode cX12_isFrozen 26 = .ok (.ireturn, 1) := by decide +kernel
theorem dX12_frost_0 : decode cX12_frost 0 = .ok (.aload_n 0, 1) := by decide +kernel
theorem dX12_frost_1 : decode cX12_frost 1 = .ok (.iload_n 1, 1) := by decide +kernel
theorem dX12_frost_2 : decode cX12_frost 2 = .ok (.iload_n 2, 1) := by decide +kernel
theorem dX12_frost_3 : decode cX12_frost 3 = .ok (.invokevirtual 79, 3) := by decide +kernel
theorem dX12_frost_6 : decode cX12_frost 6 = .ok (.ifCond .eq 7, 3) := by decide +kernel
theorem dX12_frost_9 : decode cX12_frost 9 = .ok (.iconst 0, 1) := by decide +kernel
theorem dX12_frost_10 : decode cX12_frost 10 = .ok (.goto 12, 3) := by decide +kernel
theorem dX12_frost_13 : decode cX12_frost 13 = .ok (.aload_n 0, 1) := by decide +kernel
theorem dX12_frost_14 : decode cX12_frost 14 = .ok (.iload_n 1, 1) := by decide +kernel
theorem dX12_frost_15 : decode cX12_frost 15 = .ok (.iload_n 2, 1) := by decide +kernel
theorem dX12_frost_16 : decode cX12_frost 16 = .ok (.invokevirtual 83, 3) := by decide +kernel
theorem dX12_frost_19 : decode cX12_frost 19 = .ok (.getfield 223, 3) := by decide +kernel
theorem dX12_frost_22 : decode cX12_frost 22 = .ok (.ireturn, 1) := by decide +kernel
theorem dX12_heave_0 : decode cX12_heave 0 = .ok (.aload_n 0, 1) := by decide +kernel
theorem dX12_heave_1 : decode cX12_heave 1 = .ok (.iload_n 1, 1) := by decide +kernel
theorem dX12_heave_2 : decode cX12_heave 2 = .ok (.invokevirtual 67, 3) := by decide +kernel
theorem dX12_heave_5 : decode cX12_heave 5 = .ok (.ifCond .eq 5, 3) := by decide +kernel
theorem dX12_heave_8 : decode cX12_heave 8 = .ok (.iconst 0, 1) := by decide +kernel
theorem dX12_heave_9 : decode cX12_heave 9 = .ok (.ireturn, 1) := by decide +kernel
theorem dX12_heave_10 : decode cX12_heave 10 = .ok (.iconst 0, 1) := by decide +kernel
theorem dX12_heave_11 : decode cX12_heave 11 = .ok (.istore_n 2, 1) := by decide +kernel
theorem dX12_heave_12 : decode cX12_heave 12 = .ok (.aload_n 0, 1) := by decide +kernel
theorem dX12_heave_13 : decode cX12_heave 13 = .ok (.getfield 18, 3) := by decide +kernel
theorem dX12_heave_16 : decode cX12_heave 16 = .ok (.iload_n 1, 1) := by decide +kernel
theorem dX12_heave_17 : decode cX12_heave 17 = .ok (.invokevirtual 47, 3) := by decide +kernel
theorem dX12_heave_20 : decode cX12_heave 20 = .ok (.checkcast 51, 3) := by decide +kernel
theorem dX12_heave_23 : decode cX12_heave 23 = .ok (.getfield 53, 3) := by decide +kernel
theorem dX12_heave_26 : decode cX12_heave 26 = .ok (.invokevirtual 182, 3) := by decide +kernel
theorem dX12_heave_29 : decode cX12_heave 29 = .ok (.astore_n 3, 1) := by decide +kernel
theorem dX12_heave_30 : decode cX12_heave 30 = .ok (.aload_n 3, 1) := by decide +kernel
theorem dX12_heave_31 : decode cX12_heave 31 = .ok (.invokeinterface 186 1, 5) := by decide +kernel
theorem dX12_heave_36 : decode cX12_heave 36 = .ok (.ifCond .eq 37, 3) := by decide +kernel
theorem dX12_heave_39 : decode cX12_heave 39 = .ok (.aload_n 3, 1) := by decide +kernel
theorem dX12_heave_40 : decode cX12_heave 40 = .ok (.invokeinterface 191 1, 5) := by decide +kernel
theorem dX12_heave_45 : decode cX12_heave 45 = .ok (.checkcast 56, 3) := by decide +kernel
theorem dX12_heave_48 : decode cX12_heave 48 = .ok (.astore 4, 2) := by decide +kernel
theorem dX12_heave_50 : decode cX12_heave 50 = .ok (.iload_n 2, 1) := by decide +kernel
theorem dX12_heave_51 : decode cX12_heave 51 = .ok (.aload 4, 2) := by decide +kernel
theorem dX12_heave_53 : decode cX12_heave 53 = .ok (.getfield 220, 3) := by decide +kernel
theorem dX12_heave_56 : decode cX12_heave 56 = .ok (.ifCond .eq 11, 3) := by decide +kernel
theorem dX12_heave_59 : decode cX12_heave 59 = .ok (.aload 4, 2) := by decide +kernel
theorem dX12_heave_61 : decode cX12_heave 61 = .ok (.getfield 90, 3) := by decide +kernel
theorem dX12_heave_64 : decode cX12_heave 64 = .ok (.goto 4, 3) := by decide +kernel
theorem dX12_heave_67 : decode cX12_heave 67 = .ok (.iconst 0, 1) := by decide +kernel
theorem dX12_heave_68 : decode cX12_heave 68 = .ok (.iadd, 1) := by decide +kernel
theorem dX12_heave_69 : decode cX12_heave 69 = .ok (.istore_n 2, 1) := by decide +kernel
theorem dX12_heave_70 : decode cX12_heave 70 = .ok (.goto (-40), 3) := by decide +kernel
theorem dX12_heave_73 : decode cX12_heave 73 = .ok (.iload_n 2, 1) := by decide +kernel
theorem dX12_heave_74 : decode cX12_heave 74 = .ok (.bipush 10, 2) := by decide +kernel
theorem dX12_heave_76 : decode cX12_heave 76 = .ok (.idiv, 1) := by decide +kernel
theorem dX12_heave_77 : decode cX12_heave 77 = .ok (.ireturn, 1) := by decide +kernel
theorem dX12_crack_0 : decode cX12_crack 0 = .ok (.aload_n 0, 1) := by decide +kernel
theorem dX12_crack_1 : decode cX12_crack 1 = .ok (.iload_n 1, 1) := by decide +kernel
theorem dX12_crack_2 : decode cX12_crack 2 = .ok (.invokevirtual 67, 3) := by decide +kernel
theorem dX12_crack_5 : decode cX12_crack 5 = .ok (.ifCond .eq 7, 3) := by decide +kernel
theorem dX12_crack_8 : decode cX12_crack 8 = .ok (.iconst 0, 1) := by decide +kernel
theorem dX12_crack_9 : decode cX12_crack 9 = .ok (.goto 17, 3) := by decide +kernel
theorem dX12_crack_12 : decode cX12_crack 12 = .ok (.aload_n 0, 1) := by decide +kernel
theorem dX12_crack_13 : decode cX12_crack 13 = .ok (.getfield 18, 3) := by decide +kernel
theorem dX12_crack_16 : decode cX12_crack 16 = .ok (.iload_n 1, 1) := by decide +kernel
theorem dX12_crack_17 : decode cX12_crack 17 = .ok (.invokevirtual 47, 3) := by decide +kernel
theorem dX12_crack_20 : decode cX12_crack 20 = .ok (.checkcast 51, 3) := by decide +kernel
theorem dX12_crack_23 : decode cX12_crack 23 = .ok (.invokevirtual 226, 3) := by decide +kernel
theorem dX12_crack_26 : decode cX12_crack 26 = .ok (.ireturn, 1) := by decide +kernel
theorem dX12_tension_0 : decode cX12_tension 0 = .ok (.aload_n 0, 1) := by decide +kernel
theorem dX12_tension_1 : decode cX12_tension 1 = .ok (.iload_n 1, 1) := by decide +kernel
theorem dX12_tension_2 : decode cX12_tension 2 = .ok (.iload_n 2, 1) := by decide +kernel
theorem dX12_tension_3 : decode cX12_tension 3 = .ok (.invokevirtual 79, 3) := by decide +kernel
theorem dX12_tension_6 : decode cX12_tension 6 = .ok (.ifCond .eq 5, 3) := by decide +kernel
theorem dX12_tension_9 : decode cX12_tension 9 = .ok (.iconst 0, 1) := by decide +kernel
theorem dX12_tension_10 : decode cX12_tension 10 = .ok (.ireturn, 1) := by decide +kernel
theorem dX12_tension_11 : decode cX12_tension 11 = .ok (.aload_n 0, 1) := by decide +kernel
theorem dX12_tension_12 : decode cX12_tension 12 = .ok (.iload_n 1, 1) := by decide +kernel
theorem dX12_tension_13 : decode cX12_tension 13 = .ok (.iload_n 2, 1) := by decide +kernel
theorem dX12_tension_14 : decode cX12_tension 14 = .ok (.invokevirtual 83, 3) := by decide +kernel
theorem dX12_tension_17 : decode cX12_tension 17 = .ok (.astore_n 3, 1) := by decide +kernel
theorem dX12_tension_18 : decode cX12_tension 18 = .ok (.aload_n 3, 1) := by decide +kernel
theorem dX12_tension_19 : decode cX12_tension 19 = .ok (.getfield 87, 3) := by decide +kernel
theorem dX12_tension_22 : decode cX12_tension 22 = .ok (.aload_n 3, 1) := by decide +kernel
theorem dX12_tension_23 : decode cX12_tension 23 = .ok (.getfield 90, 3) := by decide +kernel
theorem dX12_tension_26 : decode cX12_tension 26 = .ok (.isub, 1) := by decide +kernel
theorem dX12_tension_27 : decode cX12_tension 27 = .ok (.sipush 900, 3) := by decide +kernel
theorem dX12_tension_30 : decode cX12_tension 30 = .ok (.imul, 1) := by decide +kernel
theorem dX12_tension_31 : decode cX12_tension 31 = .ok (.aload_n 3, 1) := by decide +kernel
theorem dX12_tension_32 : decode cX12_tension 32 = .ok (.getfield 87, 3) := by decide +kernel
theorem dX12_tension_35 : decode cX12_tension 35 = .ok (.aload_n 3, 1) := by decide +kernel
theorem dX12_tension_36 : decode cX12_tension 36 = .ok (.getfield 229, 3) := by decide +kernel
theorem dX12_tension_39 : decode cX12_tension 39 = .ok (.isub, 1) := by decide +kernel
theorem dX12_tension_40 : decode cX12_tension 40 = .ok (.idiv, 1) := by decide +kernel
theorem dX12_tension_41 : decode cX12_tension 41 = .ok (.istore 4, 2) := by decide +kernel
theorem dX12_tension_43 : decode cX12_tension 43 = .ok (.aload_n 0, 1) := by decide +kernel
theorem dX12_tension_44 : decode cX12_tension 44 = .ok (.iload 4, 2) := by decide +kernel
theorem dX12_tension_46 : decode cX12_tension 46 = .ok (.sipush 800, 3) := by decide +kernel
theorem dX12_tension_49 : decode cX12_tension 49 = .ok (.if_icmp .gt 10, 3) := by decide +kernel
theorem dX12_tension_52 : decode cX12_tension 52 = .ok (.aload_n 3, 1) := by decide +kernel
theorem dX12_tension_53 : decode cX12_tension 53 = .ok (.getfield 220, 3) := by decide +kernel
theorem dX12_tension_56 : decode cX12_tension 56 = .ok (.ifCond .eq 7, 3) := by decide +kernel
theorem dX12_tension_59 : decode cX12_tension 59 = .ok (.iconst 2, 1) := by decide +kernel
theorem dX12_tension_60 : decode cX12_tension 60 = .ok (.goto 4, 3) := by decide +kernel
theorem dX12_tension_63 : decode cX12_tension 63 = .ok (.iconst 0, 1) := by decide +kernel
theorem dX12_tension_64 : decode cX12_tension 64 = .ok (.putfield 31, 3) := by decide +kernel
theorem dX12_tension_67 : decode cX12_tension 67 = .ok (.aload_n 0, 1) := by decide +kernel
theorem dX12_tension_68 : decode cX12_tension 68 = .ok (.getfield 31, 3) := by decide +kernel
theorem dX12_tension_71 : decode cX12_tension 71 = .ok (.ifCond .le 7, 3) := by decide +kernel
theorem dX12_tension_74 : decode cX12_tension 74 = .ok (.iconst 0, 1) := by decide +kernel
theorem dX12_tension_75 : decode cX12_tension 75 = .ok (.goto 5, 3) := by decide +kernel
theorem dX12_tension_78 : decode cX12_tension 78 = .ok (.iload 4, 2) := by decide +kernel
theorem dX12_tension_80 : decode cX12_tension 80 = .ok (.ireturn, 1) := by decide +kernel
theorem dX12_reflection_0 : decode cX12_reflection 0 = .ok (.aload_n 0, 1) := by decide +kernel
theorem dX12_reflection_1 : decode cX12_reflection 1 = .ok (.iload_n 1, 1) := by decide +kernel
theorem dX12_reflection_2 : decode cX12_reflection 2 = .ok (.iload_n 2, 1) := by decide +kernel
theorem dX12_reflection_3 : decode cX12_reflection 3 = .ok (.invokevirtual 79, 3) := by decide +kernel
theorem dX12_reflection_6 : decode cX12_reflection 6 = .ok (.ifCond .eq 5, 3) := by decide +kernel
theorem dX12_reflection_9 : decode cX12_reflection 9 = .ok (.iconst 0, 1) := by decide +kernel
theorem dX12_reflection_10 : decode cX12_reflection 10 = .ok (.ireturn, 1) := by decide +kernel
theorem dX12_reflection_11 : decode cX12_reflection 11 = .ok (.aload_n 0, 1) := by decide +kernel
theorem dX12_reflection_12 : decode cX12_reflection 12 = .ok (.iload_n 1, 1) := by decide +kernel
theorem dX12_reflection_13 : decode cX12_reflection 13 = .ok (.iload_n 2, 1) := by decide +kernel
theorem dX12_reflection_14 : decode cX12_reflection 14 = .ok (.invokevirtual 83, 3) := by decide +kernel
theorem dX12_reflection_17 : decode cX12_reflection 17 = .ok (.astore_n 3, 1) := by decide +kernel
theorem dX12_reflection_18 : decode cX12_reflection 18 = .ok (.aload_n 3, 1) := by decide +kernel
theorem dX12_reflection_19 : decode cX12_reflection 19 = .ok (.getfield 90, 3) := by decide +kernel
theorem dX12_reflection_22 : decode cX12_reflection 22 = .ok (.bipush 100, 2) := by decide +kernel
theorem dX12_reflection_24 : decode cX12_reflection 24 = .ok (.imul, 1) := by decide +kernel
theorem dX12_reflection_25 : decode cX12_reflection 25 = .ok (.aload_n 3, 1) := by decide +kernel
theorem dX12_reflection_26 : decode cX12_reflection 26 = .ok (.getfield 232, 3) := by decide +kernel
theorem dX12_reflection_29 : decode cX12_reflection 29 = .ok (.idiv, 1) := by decide +kernel
theorem dX12_reflection_30 : decode cX12_reflection 30 = .ok (.aload_n 0, 1) := by decide +kernel
theorem dX12_reflection_31 : decode cX12_reflection 31 = .ok (.getfield 18, 3) := by decide +kernel
theorem dX12_reflection_34 : decode cX12_reflection 34 = .ok (.iload_n 1, 1) := by decide +kernel
theorem dX12_reflection_35 : decode cX12_reflection 35 = .ok (.invokevirtual 47, 3) := by decide +kernel
theorem dX12_reflection_38 : decode cX12_reflection 38 = .ok (.checkcast 51, 3) := by decide +kernel
theorem dX12_reflection_41 : decode cX12_reflection 41 = .ok (.getfield 235, 3) := by decide +kernel
theorem dX12_reflection_44 : decode cX12_reflection 44 = .ok (.bipush 24, 2) := by decide +kernel
theorem dX12_reflection_46 : decode cX12_reflection 46 = .ok (.idiv, 1) := by decide +kernel
theorem dX12_reflection_47 : decode cX12_reflection 47 = .ok (.iadd, 1) := by decide +kernel
theorem dX12_reflection_48 : decode cX12_reflection 48 = .ok (.istore 4, 2) := by decide +kernel
theorem dX12_reflection_50 : decode cX12_reflection 50 = .ok (.aload_n 0, 1) := by decide +kernel
theorem dX12_reflection_51 : decode cX12_reflection 51 = .ok (.iload 4, 2) := by decide +kernel
theorem dX12_reflection_53 : decode cX12_reflection 53 = .ok (.sipush 500, 3) := by decide +kernel
theorem dX12_reflection_56 : decode cX12_reflection 56 = .ok (.if_icmp .le 7, 3) := by decide +kernel
theorem dX12_reflection_59 : decode cX12_reflection 59 = .ok (.iconst 2, 1) := by decide +kernel
theorem dX12_reflection_60 : decode cX12_reflection 60 = .ok (.goto 4, 3) := by decide +kernel
theorem dX12_reflection_63 : decode cX12_reflection 63 = .ok (.iconst 0, 1) := by decide +kernel
theorem dX12_reflection_64 : decode cX12_reflection 64 = .ok (.putfield 31, 3) := by decide +kernel
theorem dX12_reflection_67 : decode cX12_reflection 67 = .ok (.aload_n 0, 1) := by decide +kernel
theorem dX12_reflection_68 : decode cX12_reflection 68 = .ok (.getfield 31, 3) := by decide +kernel
theorem dX12_reflection_71 : decode cX12_reflection 71 = .ok (.ifCond .le 7, 3) := by decide +kernel
theorem dX12_reflection_74 : decode cX12_reflection 74 = .ok (.iconst 0, 1) := by decide +kernel
theorem dX12_reflection_75 : decode cX12_reflection 75 = .ok (.goto 5, 3) := by decide +kernel
theorem dX12_reflection_78 : decode cX12_reflection 78 = .ok (.iload 4, 2) := by decide +kernel
theorem dX12_reflection_80 : decode cX12_reflection 80 = .ok (.ireturn, 1) := by decide +kernel
theorem dX12_setRight_0 : decode cX12_setRight 0 = .ok (.aload_n 0, 1) := by decide +kernel
theorem dX12_setRight_1 : decode cX12_setRight 1 = .ok (.iload_n 1, 1) := by decide +kernel
theorem dX12_setRight_2 : decode cX12_setRight 2 = .ok (.invokevirtual 67, 3) := by decide +kernel
theorem dX12_setRight_5 : decode cX12_setRight 5 = .ok (.ifCond .eq 5, 3) := by decide +kernel
theorem dX12_setRight_8 : decode cX12_setRight 8 = .ok (.iconst 0, 1) := by decide +kernel
theorem dX12_setRight_9 : decode cX12_setRight 9 = .ok (.ireturn, 1) := by decide +kernel
theorem dX12_setRight_10 : decode cX12_setRight 10 = .ok (.aload_n 0, 1) := by decide +kernel
theorem dX12_setRight_11 : decode cX12_setRight 11 = .ok (.getfield 18, 3) := by decide +kernel
theorem dX12_setRight_14 : decode cX12_setRight 14 = .ok (.iload_n 1, 1) := by decide +kernel
theorem dX12_setRight_15 : decode cX12_setRight 15 = .ok (.invokevirtual 47, 3) := by decide +kernel
theorem dX12_setRight_18 : decode cX12_setRight 18 = .ok (.checkcast 51, 3) := by decide +kernel
theorem dX12_setRight_21 : decode cX12_setRight 21 = .ok (.getfield 235, 3) := by decide +kernel
theorem dX12_setRight_24 : decode cX12_setRight 24 = .ok (.bipush 24, 2) := by decide +kernel
theorem dX12_setRight_26 : decode cX12_setRight 26 = .ok (.idiv, 1) := by decide +kernel
theorem dX12_setRight_27 : decode cX12_setRight 27 = .ok (.istore_n 2, 1) := by decide +kernel
theorem dX12_setRight_28 : decode cX12_setRight 28 = .ok (.aload_n 0, 1) := by decide +kernel
theorem dX12_setRight_29 : decode cX12_setRight 29 = .ok (.getfield 18, 3) := by decide +kernel
theorem dX12_setRight_32 : decode cX12_setRight 32 = .ok (.iload_n 1, 1) := by decide +kernel
theorem dX12_setRight_33 : decode cX12_setRight 33 = .ok (.invokevirtual 47, 3) := by decide +kernel
theorem dX12_setRight_36 : decode cX12_setRight 36 = .ok (.checkcast 51, 3) := by decide +kernel
theorem dX12_setRight_39 : decode cX12_setRight 39 = .ok (.iconst 0, 1) := by decide +kernel
theorem dX12_setRight_40 : decode cX12_setRight 40 = .ok (.putfield 235, 3) := by decide +kernel
theorem dX12_setRight_43 : decode cX12_setRight 43 = .ok (.iload_n 2, 1) := by decide +kernel
theorem dX12_setRight_44 : decode cX12_setRight 44 = .ok (.ireturn, 1) := by decide +kernel
theorem dX12_weigh_0 : decode cX12_weigh 0 = .ok (.aload_n 0, 1) := by decide +kernel
theorem dX12_weigh_1 : decode cX12_weigh 1 = .ok (.iload_n 1, 1) := by decide +kernel
theorem dX12_weigh_2 : decode cX12_weigh 2 = .ok (.invokevirtual 67, 3) := by decide +kernel
theorem dX12_weigh_5 : decode cX12_weigh 5 = .ok (.ifCond .eq 5, 3) := by decide +kernel
theorem dX12_weigh_8 : decode cX12_weigh 8 = .ok (.iconst 0, 1) := by decide +kernel
theorem dX12_weigh_9 : decode cX12_weigh 9 = .ok (.ireturn, 1) := by decide +kernel
theorem dX12_weigh_10 : decode cX12_weigh 10 = .ok (.aload_n 0, 1) := by decide +kernel
theorem dX12_weigh_11 : decode cX12_weigh 11 = .ok (.getfield 18, 3) := by decide +kernel
theorem dX12_weigh_14 : decode cX12_weigh 14 = .ok (.iload_n 1, 1) := by decide +kernel
theorem dX12_weigh_15 : decode cX12_weigh 15 = .ok (.invokevirtual 47, 3) := by decide +kernel
theorem dX12_weigh_18 : decode cX12_weigh 18 = .ok (.checkcast 51, 3) := by decide +kernel
theorem dX12_weigh_21 : decode cX12_weigh 21 = .ok (.getfield 208, 3) := by decide +kernel
theorem dX12_weigh_24 : decode cX12_weigh 24 = .ok (.istore_n 2, 1) := by decide +kernel
theorem dX12_weigh_25 : decode cX12_weigh 25 = .ok (.aload_n 0, 1) := by decide +kernel
theorem dX12_weigh_26 : decode cX12_weigh 26 = .ok (.getfield 18, 3) := by decide +kernel
theorem dX12_weigh_29 : decode cX12_weigh 29 = .ok (.iload_n 1, 1) := by decide +kernel
theorem dX12_weigh_30 : decode cX12_weigh 30 = .ok (.invokevirtual 47, 3) := by decide +kernel
theorem dX12_weigh_33 : decode cX12_weigh 33 = .ok (.checkcast 51, 3) := by decide +kernel
theorem dX12_weigh_36 : decode cX12_weigh 36 = .ok (.getfield 53, 3) := by decide +kernel
theorem dX12_weigh_39 : decode cX12_weigh 39 = .ok (.invokevirtual 182, 3) := by decide +kernel
theorem dX12_weigh_42 : decode cX12_weigh 42 = .ok (.astore_n 3, 1) := by decide +kernel
theorem dX12_weigh_43 : decode cX12_weigh 43 = .ok (.aload_n 3, 1) := by decide +kernel
theorem dX12_weigh_44 : decode cX12_weigh 44 = .ok (.invokeinterface 186 1, 5) := by decide +kernel
theorem dX12_weigh_49 : decode cX12_weigh 49 = .ok (.ifCond .eq 25, 3) := by decide +kernel
theorem dX12_weigh_52 : decode cX12_weigh 52 = .ok (.aload_n 3, 1) := by decide +kernel
theorem dX12_weigh_53 : decode cX12_weigh 53 = .ok (.invokeinterface 191 1, 5) := by decide +kernel
theorem dX12_weigh_58 : decode cX12_weigh 58 = .ok (.checkcast 56, 3) := by decide +kernel
theorem dX12_weigh_61 : decode cX12_weigh 61 = .ok (.astore 4, 2) := by decide +kernel
theorem dX12_weigh_63 : decode cX12_weigh 63 = .ok (.iload_n 2, 1) := by decide +kernel
theorem dX12_weigh_64 : decode cX12_weigh 64 = .ok (.aload 4, 2) := by decide +kernel
theorem dX12_weigh_66 : decode cX12_weigh 66 = .ok (.getfield 90, 3) := by decide +kernel
theorem dX12_weigh_69 : decode cX12_weigh 69 = .ok (.iadd, 1) := by decide +kernel
theorem dX12_weigh_70 : decode cX12_weigh 70 = .ok (.istore_n 2, 1) := by decide +kernel
theorem dX12_weigh_71 : decode cX12_weigh 71 = .ok (.goto (-28), 3) := by decide +kernel
theorem dX12_weigh_74 : decode cX12_weigh 74 = .ok (.iload_n 2, 1) := by decide +kernel
theorem dX12_weigh_75 : decode cX12_weigh 75 = .ok (.iconst 5, 1) := by decide +kernel
theorem dX12_weigh_76 : decode cX12_weigh 76 = .ok (.idiv, 1) := by decide +kernel
theorem dX12_weigh_77 : decode cX12_weigh 77 = .ok (.iconst 5, 1) := by decide +kernel
theorem dX12_weigh_78 : decode cX12_weigh 78 = .ok (.imul, 1) := by decide +kernel
theorem dX12_weigh_79 : decode cX12_weigh 79 = .ok (.ireturn, 1) := by decide +kernel
theorem dX12_fines_0 : decode cX12_fines 0 = .ok (.aload_n 0, 1) := by decide +kernel
theorem dX12_fines_1 : decode cX12_fines 1 = .ok (.iload_n 1, 1) := by decide +kernel
theorem dX12_fines_2 : decode cX12_fines 2 = .ok (.invokevirtual 67, 3) := by decide +kernel
theorem dX12_fines_5 : decode cX12_fines 5 = .ok (.ifCond .eq 7, 3) := by decide +kernel
theorem dX12_fines_8 : decode cX12_fines 8 = .ok (.lconst 0, 1) := by decide +kernel
theorem dX12_fines_9 : decode cX12_fines 9 = .ok (.goto 17, 3) := by decide +kernel
theorem dX12_fines_12 : decode cX12_fines 12 = .ok (.aload_n 0, 1) := by decide +kernel
theorem dX12_fines_13 : decode cX12_fines 13 = .ok (.getfield 18, 3) := by decide +kernel
theorem dX12_fines_16 : decode cX12_fines 16 = .ok (.iload_n 1, 1) := by decide +kernel
theorem dX12_fines_17 : decode cX12_fines 17 = .ok (.invokevirtual 47, 3) := by decide +kernel
theorem dX12_fines_20 : decode cX12_fines 20 = .ok (.checkcast 51, 3) := by decide +kernel
theorem dX12_fines_23 : decode cX12_fines 23 = .ok (.getfield 238, 3) := by decide +kernel
theorem dX12_fines_26 : decode cX12_fines 26 = .ok (.lreturn, 1) := by decide +kernel
theorem dX12_forecastOf_0 : decode cX12_forecastOf 0 = .ok (.aload_n 0, 1) := by decide +kernel
theorem dX12_forecastOf_1 : decode cX12_forecastOf 1 = .ok (.getfield 18, 3) := by decide +kernel
theorem dX12_forecastOf_4 : decode cX12_forecastOf 4 = .ok (.iload_n 1, 1) := by decide +kernel
theorem dX12_forecastOf_5 : decode cX12_forecastOf 5 = .ok (.invokevirtual 47, 3) := by decide +kernel
theorem dX12_forecastOf_8 : decode cX12_forecastOf 8 = .ok (.checkcast 51, 3) := by decide +kernel
theorem dX12_forecastOf_11 : decode cX12_forecastOf 11 = .ok (.invokevirtual 241, 3) := by decide +kernel
theorem dX12_forecastOf_14 : decode cX12_forecastOf 14 = .ok (.astore 4, 2) := by decide +kernel
theorem dX12_forecastOf_16 : decode cX12_forecastOf 16 = .ok (.aload 4, 2) := by decide +kernel
theorem dX12_forecastOf_18 : decode cX12_forecastOf 18 = .ok (.iload_n 3, 1) := by decide +kernel
theorem dX12_forecastOf_19 : decode cX12_forecastOf 19 = .ok (.putfield 100, 3) := by decide +kernel
theorem dX12_forecastOf_22 : decode cX12_forecastOf 22 = .ok (.iconst 0, 1) := by decide +kernel
theorem dX12_forecastOf_23 : decode cX12_forecastOf 23 = .ok (.istore 5, 2) := by decide +kernel
theorem dX12_forecastOf_25 : decode cX12_forecastOf 25 = .ok (.iload 5, 2) := by decide +kernel
theorem dX12_forecastOf_27 : decode cX12_forecastOf 27 = .ok (.iload_n 2, 1) := by decide +kernel
theorem dX12_forecastOf_28 : decode cX12_forecastOf 28 = .ok (.if_icmp .ge 21, 3) := by decide +kernel
theorem dX12_forecastOf_31 : decode cX12_forecastOf 31 = .ok (.aload 4, 2) := by decide +kernel
theorem dX12_forecastOf_33 : decode cX12_forecastOf 33 = .ok (.aload_n 0, 1) := by decide +kernel
theorem dX12_forecastOf_34 : decode cX12_forecastOf 34 = .ok (.getfield 27, 3) := by decide +kernel
theorem dX12_forecastOf_37 : decode cX12_forecastOf 37 = .ok (.iconst 0, 1) := by decide +kernel
theorem dX12_forecastOf_38 : decode cX12_forecastOf 38 = .ok (.invokevirtual 201, 3) := by decide +kernel
theorem dX12_forecastOf_41 : decode cX12_forecastOf 41 = .ok (.istore 6, 2) := by decide +kernel
theorem dX12_forecastOf_43 : decode cX12_forecastOf 43 = .ok (.iinc 5 1, 3) := by decide +kernel
theorem dX12_forecastOf_46 : decode cX12_forecastOf 46 = .ok (.goto (-21), 3) := by decide +kernel
theorem dX12_forecastOf_49 : decode cX12_forecastOf 49 = .ok (.aload 4, 2) := by decide +kernel
theorem dX12_forecastOf_51 : decode cX12_forecastOf 51 = .ok (.getfield 211, 3) := by decide +kernel
theorem dX12_forecastOf_54 : decode cX12_forecastOf 54 = .ok (.lreturn, 1) := by decide +kernel
theorem dX12_forecast_0 : decode cX12_forecast 0 = .ok (.aload_n 0, 1) := by decide +kernel
theorem dX12_forecast_1 : decode cX12_forecast 1 = .ok (.iload_n 1, 1) := by decide +kernel
theorem dX12_forecast_2 : decode cX12_forecast 2 = .ok (.invokevirtual 67, 3) := by decide +kernel
theorem dX12_forecast_5 : decode cX12_forecast 5 = .ok (.ifCond .eq 5, 3) := by decide +kernel
theorem dX12_forecast_8 : decode cX12_forecast 8 = .ok (.lconst 0, 1) := by decide +kernel
theorem dX12_forecast_9 : decode cX12_forecast 9 = .ok (.lreturn, 1) := by decide +kernel
theorem dX12_forecast_10 : decode cX12_forecast 10 = .ok (.aload_n 0, 1) := by decide +kernel
theorem dX12_forecast_11 : decode cX12_forecast 11 = .ok (.iload_n 2, 1) := by decide +kernel
theorem dX12_forecast_12 : decode cX12_forecast 12 = .ok (.i2l, 1) := by decide +kernel
theorem dX12_forecast_13 : decode cX12_forecast 13 = .ok (.lconst 1, 1) := by decide +kernel
theorem dX12_forecast_14 : decode cX12_forecast 14 = .ok (.ldc2_w 180, 3) := by decide +kernel
theorem dX12_forecast_17 : decode cX12_forecast 17 = .ok (.invokestatic 39, 3) := by decide +kernel
theorem dX12_forecast_20 : decode cX12_forecast 20 = .ok (.ifCond .eq 21, 3) := by decide +kernel
theorem dX12_forecast_23 : decode cX12_forecast 23 = .ok (.iload_n 3, 1) := by decide +kernel
theorem dX12_forecast_24 : decode cX12_forecast 24 = .ok (.i2l, 1) := by decide +kernel
theorem dX12_forecast_25 : decode cX12_forecast 25 = .ok (.ldc2_w 96, 3) := by decide +kernel
theorem dX12_forecast_28 : decode cX12_forecast 28 = .ok (.ldc2_w 98, 3) := by decide +kernel
theorem dX12_forecast_31 : decode cX12_forecast 31 = .ok (.invokestatic 39, 3) := by decide +kernel
theorem dX12_forecast_34 : decode cX12_forecast 34 = .ok (.ifCond .eq 7, 3) := by decide +kernel
theorem dX12_forecast_37 : decode cX12_forecast 37 = .ok (.iconst 0, 1) := by decide +kernel
theorem dX12_forecast_38 : decode cX12_forecast 38 = .ok (.goto 4, 3) := by decide +kernel
theorem dX12_forecast_41 : decode cX12_forecast 41 = .ok (.iconst 2, 1) := by decide +kernel
theorem dX12_forecast_42 : decode cX12_forecast 42 = .ok (.putfield 31, 3) := by decide +kernel
theorem dX12_forecast_45 : decode cX12_forecast 45 = .ok (.aload_n 0, 1) := by decide +kernel
theorem dX12_forecast_46 : decode cX12_forecast 46 = .ok (.getfield 31, 3) := by decide +kernel
theorem dX12_forecast_49 : decode cX12_forecast 49 = .ok (.ifCond .le 7, 3) := by decide +kernel
theorem dX12_forecast_52 : decode cX12_forecast 52 = .ok (.lconst 0, 1) := by decide +kernel
theorem dX12_forecast_53 : decode cX12_forecast 53 = .ok (.goto 10, 3) := by decide +kernel
theorem dX12_forecast_56 : decode cX12_forecast 56 = .ok (.aload_n 0, 1) := by decide +kernel
theorem dX12_forecast_57 : decode cX12_forecast 57 = .ok (.iload_n 1, 1) := by decide +kernel
theorem dX12_forecast_58 : decode cX12_forecast 58 = .ok (.iload_n 2, 1) := by decide +kernel
theorem dX12_forecast_59 : decode cX12_forecast 59 = .ok (.iload_n 3, 1) := by decide +kernel
theorem dX12_forecast_60 : decode cX12_forecast 60 = .ok (.invokevirtual 245, 3) := by decide +kernel
theorem dX12_forecast_63 : decode cX12_forecast 63 = .ok (.lreturn, 1) := by decide +kernel
theorem dX12_fitting_0 : decode cX12_fitting 0 = .ok (.new 15, 3) := by decide +kernel
theorem dX12_fitting_3 : decode cX12_fitting 3 = .ok (.dup, 1) := by decide +kernel
theorem dX12_fitting_4 : decode cX12_fitting 4 = .ok (.invokespecial 17, 3) := by decide +kernel
theorem dX12_fitting_7 : decode cX12_fitting 7 = .ok (.astore 4, 2) := by decide +kernel
theorem dX12_fitting_9 : decode cX12_fitting 9 = .ok (.ldc2_w 251, 3) := by decide +kernel
theorem dX12_fitting_12 : decode cX12_fitting 12 = .ok (.lstore 5, 2) := by decide +kernel
theorem dX12_fitting_14 : decode cX12_fitting 14 = .ok (.bipush 10, 2) := by decide +kernel
theorem dX12_fitting_16 : decode cX12_fitting 16 = .ok (.istore 7, 2) := by decide +kernel
theorem dX12_fitting_18 : decode cX12_fitting 18 = .ok (.iload 7, 2) := by decide +kernel
theorem dX12_fitting_20 : decode cX12_fitting 20 = .ok (.sipush 400, 3) := by decide +kernel
theorem dX12_fitting_23 : decode cX12_fitting 23 = .ok (.if_icmp .gt 61, 3) := by decide +kernel
theorem dX12_fitting_26 : decode cX12_fitting 26 = .ok (.aload_n 0, 1) := by decide +kernel
theorem dX12_fitting_27 : decode cX12_fitting 27 = .ok (.iload_n 1, 1) := by decide +kernel
theorem dX12_fitting_28 : decode cX12_fitting 28 = .ok (.iload_n 2, 1) := by decide +kernel
theorem dX12_fitting_29 : decode cX12_fitting 29 = .ok (.iload 7, 2) := by decide +kernel
theorem dX12_fitting_31 : decode cX12_fitting 31 = .ok (.invokevirtual 245, 3) := by decide +kernel
theorem dX12_fitting_34 : decode cX12_fitting 34 = .ok (.iload_n 3, 1) := by decide +kernel
theorem dX12_fitting_35 : decode cX12_fitting 35 = .ok (.i2l, 1) := by decide +kernel
theorem dX12_fitting_36 : decode cX12_fitting 36 = .ok (.lsub, 1) := by decide +kernel
theorem dX12_fitting_37 : decode cX12_fitting 37 = .ok (.invokestatic 253, 3) := by decide +kernel
theorem dX12_fitting_40 : decode cX12_fitting 40 = .ok (.lstore 8, 2) := by decide +kernel
theorem dX12_fitting_42 : decode cX12_fitting 42 = .ok (.lload 8, 2) := by decide +kernel
theorem dX12_fitting_44 : decode cX12_fitting 44 = .ok (.lload 5, 2) := by decide +kernel
theorem dX12_fitting_46 : decode cX12_fitting 46 = .ok (.lcmp, 1) := by decide +kernel
theorem dX12_fitting_47 : decode cX12_fitting 47 = .ok (.ifCond .ge 12, 3) := by decide +kernel
theorem dX12_fitting_50 : decode cX12_fitting 50 = .ok (.aload 4, 2) := by decide +kernel
theorem dX12_fitting_52 : decode cX12_fitting 52 = .ok (.invokevirtual 113, 3) := by decide +kernel
theorem dX12_fitting_55 : decode cX12_fitting 55 = .ok (.lload 8, 2) := by decide +kernel
theorem dX12_fitting_57 : decode cX12_fitting 57 = .ok (.lstore 5, 2) := by decide +kernel
theorem dX12_fitting_59 : decode cX12_fitting 59 = .ok (.lload 8, 2) := by decide +kernel
theorem dX12_fitting_61 : decode cX12_fitting 61 = .ok (.lload 5, 2) := by decide +kernel
theorem dX12_fitting_63 : decode cX12_fitting 63 = .ok (.lcmp, 1) := by decide +kernel
theorem dX12_fitting_64 : decode cX12_fitting 64 = .ok (.ifCond .ne 14, 3) := by decide +kernel
theorem dX12_fitting_67 : decode cX12_fitting 67 = .ok (.aload 4, 2) := by decide +kernel
theorem dX12_fitting_69 : decode cX12_fitting 69 = .ok (.iload 7, 2) := by decide +kernel
theorem dX12_fitting_71 : decode cX12_fitting 71 = .ok (.invokestatic 259, 3) := by decide +kernel
theorem dX12_fitting_74 : decode cX12_fitting 74 = .ok (.invokevirtual 63, 3) := by decide +kernel
theorem dX12_fitting_77 : decode cX12_fitting 77 = .ok (.pop, 1) := by decide +kernel
theorem dX12_fitting_78 : decode cX12_fitting 78 = .ok (.iinc 7 10, 3) := by decide +kernel
theorem dX12_fitting_81 : decode cX12_fitting 81 = .ok (.goto (-63), 3) := by decide +kernel
theorem dX12_fitting_84 : decode cX12_fitting 84 = .ok (.aload 4, 2) := by decide +kernel
theorem dX12_fitting_86 : decode cX12_fitting 86 = .ok (.areturn, 1) := by decide +kernel
theorem dX12_noFit_0 : decode cX12_noFit 0 = .ok (.aload_n 0, 1) := by decide +kernel
theorem dX12_noFit_1 : decode cX12_noFit 1 = .ok (.iload_n 1, 1) := by decide +kernel
theorem dX12_noFit_2 : decode cX12_noFit 2 = .ok (.invokevirtual 67, 3) := by decide +kernel
theorem dX12_noFit_5 : decode cX12_noFit 5 = .ok (.ifCond .ne 36, 3) := by decide +kernel
theorem dX12_noFit_8 : decode cX12_noFit 8 = .ok (.aload_n 0, 1) := by decide +kernel
theorem dX12_noFit_9 : decode cX12_noFit 9 = .ok (.iload_n 2, 1) := by decide +kernel
theorem dX12_noFit_10 : decode cX12_noFit 10 = .ok (.i2l, 1) := by decide +kernel
theorem dX12_noFit_11 : decode cX12_noFit 11 = .ok (.lconst 1, 1) := by decide +kernel
theorem dX12_noFit_12 : decode cX12_noFit 12 = .ok (.ldc2_w 180, 3) := by decide +kernel
theorem dX12_noFit_15 : decode cX12_noFit 15 = .ok (.invokestatic 39, 3) := by decide +kernel
theorem dX12_noFit_18 : decode cX12_noFit 18 = .ok (.ifCond .eq 19, 3) := by decide +kernel
theorem dX12_noFit_21 : decode cX12_noFit 21 = .ok (.iload_n 3, 1) := by decide +kernel
theorem dX12_noFit_22 : decode cX12_noFit 22 = .ok (.i2l, 1) := by decide +kernel
theorem dX12_noFit_23 : decode cX12_noFit 23 = .ok (.lconst 0, 1) := by decide +kernel
theorem dX12_noFit_24 : decode cX12_noFit 24 = .ok (.ldc2_w 265, 3) := by decide +kernel
theorem dX12_noFit_27 : decode cX12_noFit 27 = .ok (.invokestatic 39, 3) := by decide +kernel
theorem dX12_noFit_30 : decode cX12_noFit 30 = .ok (.ifCond .eq 7, 3) := by decide +kernel
theorem dX12_noFit_33 : decode cX12_noFit 33 = .ok (.iconst 0, 1) := by decide +kernel
theorem dX12_noFit_34 : decode cX12_noFit 34 = .ok (.goto 4, 3) := by decide +kernel
theorem dX12_noFit_37 : decode cX12_noFit 37 = .ok (.iconst 2, 1) := by decide +kernel
theorem dX12_noFit_38 : decode cX12_noFit 38 = .ok (.putfield 31, 3) := by decide +kernel
theorem dX12_noFit_41 : decode cX12_noFit 41 = .ok (.aload_n 0, 1) := by decide +kernel
theorem dX12_noFit_42 : decode cX12_noFit 42 = .ok (.getfield 31, 3) := by decide +kernel
theorem dX12_noFit_45 : decode cX12_noFit 45 = .ok (.ifCond .le 7, 3) := by decide +kernel
theorem dX12_noFit_48 : decode cX12_noFit 48 = .ok (.iconst 1, 1) := by decide +kernel
theorem dX12_noFit_49 : decode cX12_noFit 49 = .ok (.goto 4, 3) := by decide +kernel
theorem dX12_noFit_52 : decode cX12_noFit 52 = .ok (.iconst 0, 1) := by decide +kernel
theorem dX12_noFit_53 : decode cX12_noFit 53 = .ok (.ireturn, 1) := by decide +kernel
theorem dX12_fits_0 : decode cX12_fits 0 = .ok (.aload_n 0, 1) := by decide +kernel
theorem dX12_fits_1 : decode cX12_fits 1 = .ok (.iload_n 1, 1) := by decide +kernel
theorem dX12_fits_2 : decode cX12_fits 2 = .ok (.iload_n 2, 1) := by decide +kernel
theorem dX12_fits_3 : decode cX12_fits 3 = .ok (.iload_n 3, 1) := by decide +kernel
theorem dX12_fits_4 : decode cX12_fits 4 = .ok (.invokevirtual 267, 3) := by decide +kernel
theorem dX12_fits_7 : decode cX12_fits 7 = .ok (.ifCond .eq 7, 3) := by decide +kernel
theorem dX12_fits_10 : decode cX12_fits 10 = .ok (.iconst 0, 1) := by decide +kernel
theorem dX12_fits_11 : decode cX12_fits 11 = .ok (.goto 13, 3) := by decide +kernel
theorem dX12_fits_14 : decode cX12_fits 14 = .ok (.aload_n 0, 1) := by decide +kernel
theorem dX12_fits_15 : decode cX12_fits 15 = .ok (.iload_n 1, 1) := by decide +kernel
theorem dX12_fits_16 : decode cX12_fits 16 = .ok (.iload_n 2, 1) := by decide +kernel
theorem dX12_fits_17 : decode cX12_fits 17 = .ok (.iload_n 3, 1) := by decide +kernel
theorem dX12_fits_18 : decode cX12_fits 18 = .ok (.invokevirtual 271, 3) := by decide +kernel
theorem dX12_fits_21 : decode cX12_fits 21 = .ok (.invokevirtual 35, 3) := by decide +kernel
theorem dX12_fits_24 : decode cX12_fits 24 = .ok (.ireturn, 1) := by decide +kernel
theorem dX12_fit_0 : decode cX12_fit 0 = .ok (.aload_n 0, 1) := by decide +kernel
theorem dX12_fit_1 : decode cX12_fit 1 = .ok (.iload_n 1, 1) := by decide +kernel
theorem dX12_fit_2 : decode cX12_fit 2 = .ok (.iload_n 2, 1) := by decide +kernel
theorem dX12_fit_3 : decode cX12_fit 3 = .ok (.iload_n 3, 1) := by decide +kernel
theorem dX12_fit_4 : decode cX12_fit 4 = .ok (.invokevirtual 267, 3) := by decide +kernel
theorem dX12_fit_7 : decode cX12_fit 7 = .ok (.ifCond .eq 5, 3) := by decide +kernel
theorem dX12_fit_10 : decode cX12_fit 10 = .ok (.iconst 0, 1) := by decide +kernel
theorem dX12_fit_11 : decode cX12_fit 11 = .ok (.ireturn, 1) := by decide +kernel
theorem dX12_fit_12 : decode cX12_fit 12 = .ok (.aload_n 0, 1) := by decide +kernel
theorem dX12_fit_13 : decode cX12_fit 13 = .ok (.iload_n 1, 1) := by decide +kernel
theorem dX12_fit_14 : decode cX12_fit 14 = .ok (.iload_n 2, 1) := by decide +kernel
theorem dX12_fit_15 : decode cX12_fit 15 = .ok (.iload_n 3, 1) := by decide +kernel
theorem dX12_fit_16 : decode cX12_fit 16 = .ok (.invokevirtual 271, 3) := by decide +kernel
theorem dX12_fit_19 : decode cX12_fit 19 = .ok (.astore 5, 2) := by decide +kernel
theorem dX12_fit_21 : decode cX12_fit 21 = .ok (.aload_n 0, 1) := by decide +kernel
theorem dX12_fit_22 : decode cX12_fit 22 = .ok (.iload 4, 2) := by decide +kernel
theorem dX12_fit_24 : decode cX12_fit 24 = .ok (.i2l, 1) := by decide +kernel
theorem dX12_fit_25 : decode cX12_fit 25 = .ok (.lconst 0, 1) := by decide +kernel
theorem dX12_fit_26 : decode cX12_fit 26 = .ok (.aload 5, 2) := by decide +kernel
theorem dX12_fit_28 : decode cX12_fit 28 = .ok (.invokevirtual 35, 3) := by decide +kernel
