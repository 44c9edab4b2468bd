theorem dL_frozenShare_0 : decode cL_frozenShare 0 = .ok (.aload_n 1, 1) := by decide +kernel
theorem dL_frozenShare_1 : decode cL_frozenShare 1 = .ok (.iconst 0, 1) := by decide +kernel
theorem dL_frozenShare_2 : decode cL_frozenShare 2 = .ok (.aload_n 0, 1) := by decide +kernel
theorem dL_frozenShare_3 : decode cL_frozenShare 3 = .ok (.invokevirtual 141, 3) := by decide +kernel
theorem dL_frozenShare_11 : decode cL_frozenShare 11 = .ok (.astore_n 2, 1) := by decide +kernel
theorem dL_frozenShare_12 : decode cL_frozenShare 12 = .ok (.iconst 1, 1) := by decide +kernel
theorem dL_frozenShare_13 : decode cL_frozenShare 13 = .ok (.ireturn, 1) := by decide +kernel
theorem dL_law_0 : decode cL_law 0 = .ok (.aload_n 3, 1) := by decide +kernel
theorem dL_law_1 : decode cL_law 1 = .ok (.iconst 0, 1) := by decide +kernel
theorem dL_law_2 : decode cL_law 2 = .ok (.aload_n 0, 1) := by decide +kernel
theorem dL_law_3 : decode cL_law 3 = .ok (.iload_n 1, 1) := by decide +kernel
theorem dL_law_4 : decode cL_law 4 = .ok (.iload_n 2, 1) := by decide +kernel
theorem dL_law_5 : decode cL_law 5 = .ok (.invokevirtual 84, 3) := by decide +kernel
theorem dL_law_8 : decode cL_law 8 = .ok (.i2l, 1) := by decide +kernel
theorem dL_law_9 : decode cL_law 9 = .ok (.lastore, 1) := by decide +kernel
theorem dL_law_10 : decode cL_law 10 = .ok (.goto 7, 3) := by decide +kernel
theorem dL_law_13 : decode cL_law 13 = .ok (.astore 4, 2) := by decide +kernel
theorem dL_law_15 : decode cL_law 15 = .ok (.iconst 1, 1) := by decide +kernel
theorem dL_law_16 : decode cL_law 16 = .ok (.ireturn, 1) := by decide +kernel
theorem dL_law_17 : decode cL_law 17 = .ok (.iconst 0, 1) := by decide +kernel
theorem dL_law_18 : decode cL_law 18 = .ok (.ireturn, 1) := by decide +kernel
theorem dL_meanWater_0 : decode cL_meanWater 0 = .ok (.aload_n 1, 1) := by decide +kernel
theorem dL_meanWater_1 : decode cL_meanWater 1 = .ok (.iconst 0, 1) := by decide +kernel
theorem dL_meanWater_2 : decode cL_meanWater 2 = .ok (.aload_n 0, 1) := by decide +kernel
theorem dL_meanWater_3 : decode cL_meanWater 3 = .ok (.invokevirtual 147, 3) := by decide +kernel
theorem dL_meanWater_10 : decode cL_meanWater 10 = .ok (.astore_n 2, 1) := by decide +kernel
theorem dL_meanWater_11 : decode cL_meanWater 11 = .ok (.iconst 1, 1) := by decide +kernel
theorem dL_meanWater_12 : decode cL_meanWater 12 = .ok (.ireturn, 1) := by decide +kernel
theorem dL_weather_0 : decode cL_weather 0 = .ok (.aload 4, 2) := by decide +kernel
theorem dL_weather_2 : decode cL_weather 2 = .ok (.iconst 0, 1) := by decide +kernel
theorem dL_weather_3 : decode cL_weather 3 = .ok (.aload_n 0, 1) := by decide +kernel
theorem dL_weather_4 : decode cL_weather 4 = .ok (.iload_n 1, 1) := by decide +kernel
theorem dL_weather_5 : decode cL_weather 5 = .ok (.iload_n 2, 1) := by decide +kernel
theorem dL_weather_6 : decode cL_weather 6 = .ok (.iload_n 3, 1) := by decide +kernel
theorem dL_weather_7 : decode cL_weather 7 = .ok (.invokevirtual 81, 3) := by decide +kernel
theorem dL_weather_10 : decode cL_weather 10 = .ok (.i2l, 1) := by decide +kernel
theorem dL_weather_11 : decode cL_weather 11 = .ok (.lastore, 1) := by decide +kernel
theorem dL_weather_12 : decode cL_weather 12 = .ok (.goto 7, 3) := by decide +kernel
theorem dL_weather_15 : decode cL_weather 15 = .ok (.astore 5, 2) := by decide +kernel
theorem dL_weather_17 : decode cL_weather 17 = .ok (.iconst 1, 1) := by decide +kernel
theorem dL_weather_18 : decode cL_weather 18 = .ok (.ireturn, 1) := by decide +kernel
theorem dL_weather_19 : decode cL_weather 19 = .ok (.iconst 0, 1) := by decide +kernel
theorem dL_weather_20 : decode cL_weather 20 = .ok (.ireturn, 1) := by decide +kernel
theorem dX12_isTrue_0 : decode cX12_isTrue 0 = .ok (.aload_n 0, 1) := by decide +kernel
theorem dX12_isTrue_1 : decode cX12_isTrue 1 = .ok (.iconst 0, 1) := by decide +kernel
theorem dX12_isTrue_2 : decode cX12_isTrue 2 = .ok (.putfield 31, 3) := by decide +kernel
theorem dX12_isTrue_5 : decode cX12_isTrue 5 = .ok (.iconst 1, 1) := by decide +kernel
theorem dX12_isTrue_6 : decode cX12_isTrue 6 = .ok (.ireturn, 1) := by decide +kernel
theorem dX12_law_0 : decode cX12_law 0 = .ok (.aload_n 0, 1) := by decide +kernel
theorem dX12_law_1 : decode cX12_law 1 = .ok (.iload_n 1, 1) := by decide +kernel
theorem dX12_law_2 : decode cX12_law 2 = .ok (.i2l, 1) := by decide +kernel
theorem dX12_law_3 : decode cX12_law 3 = .ok (.lconst 0, 1) := by decide +kernel
theorem dX12_law_4 : decode cX12_law 4 = .ok (.ldc2_w 123, 3) := by decide +kernel
theorem dX12_law_7 : decode cX12_law 7 = .ok (.invokestatic 39, 3) := by decide +kernel
theorem dX12_law_10 : decode cX12_law 10 = .ok (.ifCond .eq 19, 3) := by decide +kernel
theorem dX12_law_13 : decode cX12_law 13 = .ok (.iload_n 2, 1) := by decide +kernel
theorem dX12_law_14 : decode cX12_law 14 = .ok (.i2l, 1) := by decide +kernel
theorem dX12_law_15 : decode cX12_law 15 = .ok (.lconst 0, 1) := by decide +kernel
theorem dX12_law_16 : decode cX12_law 16 = .ok (.ldc2_w 161, 3) := by decide +kernel
theorem dX12_law_19 : decode cX12_law 19 = .ok (.invokestatic 39, 3) := by decide +kernel
theorem dX12_law_22 : decode cX12_law 22 = .ok (.ifCond .eq 7, 3) := by decide +kernel
theorem dX12_law_25 : decode cX12_law 25 = .ok (.iconst 0, 1) := by decide +kernel
theorem dX12_law_26 : decode cX12_law 26 = .ok (.goto 4, 3) := by decide +kernel
theorem dX12_law_29 : decode cX12_law 29 = .ok (.iconst 1, 1) := by decide +kernel
theorem dX12_law_30 : decode cX12_law 30 = .ok (.putfield 31, 3) := by decide +kernel
theorem dX12_law_33 : decode cX12_law 33 = .ok (.aload_n 0, 1) := by decide +kernel
theorem dX12_law_34 : decode cX12_law 34 = .ok (.getfield 31, 3) := by decide +kernel
theorem dX12_law_37 : decode cX12_law 37 = .ok (.ifCond .le 5, 3) := by decide +kernel
theorem dX12_law_40 : decode cX12_law 40 = .ok (.iconst 0, 1) := by decide +kernel
theorem dX12_law_41 : decode cX12_law 41 = .ok (.ireturn, 1) := by decide +kernel
theorem dX12_law_42 : decode cX12_law 42 = .ok (.aload_n 0, 1) := by decide +kernel
theorem dX12_law_43 : decode cX12_law 43 = .ok (.getfield 27, 3) := by decide +kernel
theorem dX12_law_46 : decode cX12_law 46 = .ok (.getfield 174, 3) := by decide +kernel
theorem dX12_law_49 : decode cX12_law 49 = .ok (.istore_n 3, 1) := by decide +kernel
theorem dX12_law_50 : decode cX12_law 50 = .ok (.aload_n 0, 1) := by decide +kernel
theorem dX12_law_51 : decode cX12_law 51 = .ok (.getfield 27, 3) := by decide +kernel
theorem dX12_law_54 : decode cX12_law 54 = .ok (.iload_n 1, 1) := by decide +kernel
theorem dX12_law_55 : decode cX12_law 55 = .ok (.putfield 174, 3) := by decide +kernel
theorem dX12_law_58 : decode cX12_law 58 = .ok (.aload_n 0, 1) := by decide +kernel
theorem dX12_law_59 : decode cX12_law 59 = .ok (.getfield 27, 3) := by decide +kernel
theorem dX12_law_62 : decode cX12_law 62 = .ok (.iload_n 2, 1) := by decide +kernel
theorem dX12_law_63 : decode cX12_law 63 = .ok (.putfield 177, 3) := by decide +kernel
theorem dX12_law_66 : decode cX12_law 66 = .ok (.iload_n 3, 1) := by decide +kernel
theorem dX12_law_67 : decode cX12_law 67 = .ok (.ireturn, 1) := by decide +kernel
theorem dX12_link_0 : decode cX12_link 0 = .ok (.aload_n 0, 1) := by decide +kernel
theorem dX12_link_1 : decode cX12_link 1 = .ok (.aload_n 0, 1) := by decide +kernel
theorem dX12_link_2 : decode cX12_link 2 = .ok (.iload_n 1, 1) := by decide +kernel
theorem dX12_link_3 : decode cX12_link 3 = .ok (.invokevirtual 43, 3) := by decide +kernel
theorem dX12_link_6 : decode cX12_link 6 = .ok (.ifCond .eq 16, 3) := by decide +kernel
theorem dX12_link_22 : decode cX12_link 22 = .ok (.iconst 1, 1) := by decide +kernel
theorem dX12_link_23 : decode cX12_link 23 = .ok (.goto 13, 3) := by decide +kernel
theorem dX12_link_36 : decode cX12_link 36 = .ok (.putfield 31, 3) := by decide +kernel
theorem dX12_link_39 : decode cX12_link 39 = .ok (.aload_n 0, 1) := by decide +kernel
theorem dX12_link_40 : decode cX12_link 40 = .ok (.getfield 31, 3) := by decide +kernel
theorem dX12_link_43 : decode cX12_link 43 = .ok (.ifCond .le 5, 3) := by decide +kernel
theorem dX12_link_46 : decode cX12_link 46 = .ok (.iconst 0, 1) := by decide +kernel
theorem dX12_link_47 : decode cX12_link 47 = .ok (.ireturn, 1) := by decide +kernel
theorem dX12_missing_0 : decode cX12_missing 0 = .ok (.aload_n 0, 1) := by decide +kernel
theorem dX12_missing_1 : decode cX12_missing 1 = .ok (.iconst 0, 1) := by decide +kernel
theorem dX12_missing_2 : decode cX12_missing 2 = .ok (.putfield 31, 3) := by decide +kernel
theorem dX12_missing_5 : decode cX12_missing 5 = .ok (.lconst 0, 1) := by decide +kernel
theorem dX12_missing_6 : decode cX12_missing 6 = .ok (.lreturn, 1) := by decide +kernel
theorem dX12_weather_0 : decode cX12_weather 0 = .ok (.aload_n 0, 1) := by decide +kernel
theorem dX12_weather_1 : decode cX12_weather 1 = .ok (.iload_n 1, 1) := by decide +kernel
theorem dX12_weather_2 : decode cX12_weather 2 = .ok (.i2l, 1) := by decide +kernel
theorem dX12_weather_3 : decode cX12_weather 3 = .ok (.ldc2_w 157, 3) := by decide +kernel
theorem dX12_weather_6 : decode cX12_weather 6 = .ok (.ldc2_w 159, 3) := by decide +kernel
theorem dX12_weather_9 : decode cX12_weather 9 = .ok (.invokestatic 39, 3) := by decide +kernel
theorem dX12_weather_12 : decode cX12_weather 12 = .ok (.ifCond .eq 31, 3) := by decide +kernel
theorem dX12_weather_15 : decode cX12_weather 15 = .ok (.iload_n 2, 1) := by decide +kernel
theorem dX12_weather_16 : decode cX12_weather 16 = .ok (.i2l, 1) := by decide +kernel
theorem dX12_weather_17 : decode cX12_weather 17 = .ok (.lconst 0, 1) := by decide +kernel
theorem dX12_weather_18 : decode cX12_weather 18 = .ok (.ldc2_w 161, 3) := by decide +kernel
theorem dX12_weather_21 : decode cX12_weather 21 = .ok (.invokestatic 39, 3) := by decide +kernel
theorem dX12_weather_24 : decode cX12_weather 24 = .ok (.ifCond .eq 19, 3) := by decide +kernel
theorem dX12_weather_27 : decode cX12_weather 27 = .ok (.iload_n 3, 1) := by decide +kernel
theorem dX12_weather_28 : decode cX12_weather 28 = .ok (.i2l, 1) := by decide +kernel
theorem dX12_weather_29 : decode cX12_weather 29 = .ok (.lconst 0, 1) := by decide +kernel
theorem dX12_weather_30 : decode cX12_weather 30 = .ok (.ldc2_w 163, 3) := by decide +kernel
theorem dX12_weather_33 : decode cX12_weather 33 = .ok (.invokestatic 39, 3) := by decide +kernel
theorem dX12_weather_36 : decode cX12_weather 36 = .ok (.ifCond .eq 7, 3) := by decide +kernel
theorem dX12_weather_39 : decode cX12_weather 39 = .ok (.iconst 0, 1) := by decide +kernel
theorem dX12_weather_40 : decode cX12_weather 40 = .ok (.goto 4, 3) := by decide +kernel
theorem dX12_weather_43 : decode cX12_weather 43 = .ok (.iconst 1, 1) := by decide +kernel
theorem dX12_weather_44 : decode cX12_weather 44 = .ok (.putfield 31, 3) := by decide +kernel
theorem dX12_weather_47 : decode cX12_weather 47 = .ok (.aload_n 0, 1) := by decide +kernel
theorem dX12_weather_48 : decode cX12_weather 48 = .ok (.getfield 31, 3) := by decide +kernel
theorem dX12_weather_51 : decode cX12_weather 51 = .ok (.ifCond .le 5, 3) := by decide +kernel
theorem dX12_weather_54 : decode cX12_weather 54 = .ok (.iconst 0, 1) := by decide +kernel
theorem dX12_weather_55 : decode cX12_weather 55 = .ok (.ireturn, 1) := by decide +kernel
theorem dX12_weather_56 : decode cX12_weather 56 = .ok (.aload_n 0, 1) := by decide +kernel
theorem dX12_weather_57 : decode cX12_weather 57 = .ok (.getfield 27, 3) := by decide +kernel
theorem dX12_weather_60 : decode cX12_weather 60 = .ok (.getfield 165, 3) := by decide +kernel
theorem dX12_weather_63 : decode cX12_weather 63 = .ok (.istore 4, 2) := by decide +kernel
theorem dX12_weather_65 : decode cX12_weather 65 = .ok (.aload_n 0, 1) := by decide +kernel
theorem dX12_weather_66 : decode cX12_weather 66 = .ok (.getfield 27, 3) := by decide +kernel
theorem dX12_weather_69 : decode cX12_weather 69 = .ok (.iload_n 1, 1) := by decide +kernel
theorem dX12_weather_70 : decode cX12_weather 70 = .ok (.putfield 165, 3) := by decide +kernel
theorem dX12_weather_73 : decode cX12_weather 73 = .ok (.aload_n 0, 1) := by decide +kernel
theorem dX12_weather_74 : decode cX12_weather 74 = .ok (.getfield 27, 3) := by decide +kernel
theorem dX12_weather_77 : decode cX12_weather 77 = .ok (.iload_n 2, 1) := by decide +kernel
theorem dX12_weather_78 : decode cX12_weather 78 = .ok (.putfield 168, 3) := by decide +kernel
theorem dX12_weather_81 : decode cX12_weather 81 = .ok (.aload_n 0, 1) := by decide +kernel
theorem dX12_weather_82 : decode cX12_weather 82 = .ok (.getfield 27, 3) := by decide +kernel
theorem dX12_weather_85 : decode cX12_weather 85 = .ok (.iload_n 3, 1) := by decide +kernel
theorem dX12_weather_86 : decode cX12_weather 86 = .ok (.putfield 171, 3) := by decide +kernel
theorem dX12_weather_89 : decode cX12_weather 89 = .ok (.iload 4, 2) := by decide +kernel
theorem dX12_weather_91 : decode cX12_weather 91 = .ok (.ireturn, 1) := by decide +kernel
theorem dX7_checkRange_0 : decode cX7_checkRange 0 = .ok (.iload_n 0, 1) := by decide +kernel
theorem dX7_checkRange_1 : decode cX7_checkRange 1 = .ok (.iload_n 1, 1) := by decide +kernel
theorem dX7_checkRange_2 : decode cX7_checkRange 2 = .ok (.if_icmp .lt 8, 3) := by decide +kernel
theorem dX7_checkRange_5 : decode cX7_checkRange 5 = .ok (.iload_n 0, 1) := by decide +kernel
theorem dX7_checkRange_6 : decode cX7_checkRange 6 = .ok (.iload_n 2, 1) := by decide +kernel
theorem dX7_checkRange_7 : decode cX7_checkRange 7 = .ok (.if_icmp .le 14, 3) := by decide +kernel
theorem dX7_checkRange_10 : decode cX7_checkRange 10 = .ok (.new 40, 3) := by decide +kernel
theorem dX7_checkRange_13 : decode cX7_checkRange 13 = .ok (.dup, 1) := by decide +kernel
theorem dX7_checkRange_14 : decode cX7_checkRange 14 = .ok (.ldc_w 309, 3) := by decide +kernel
theorem dX7_checkRange_17 : decode cX7_checkRange 17 = .ok (.invokespecial 44, 3) := by decide +kernel
theorem dX7_checkRange_20 : decode cX7_checkRange 20 = .ok (.athrow, 1) := by decide +kernel
theorem dX7_checkRange_21 : decode cX7_checkRange 21 = .ok (.return_, 1) := by decide +kernel
theorem dX7_checksum_0 : decode cX7_checksum 0 = .ok (.ldc2_w 287, 3) := by decide +kernel
theorem dX7_checksum_3 : decode cX7_checksum 3 = .ok (.lstore_n 1, 1) := by decide +kernel
theorem dX7_checksum_4 : decode cX7_checksum 4 = .ok (.iconst 0, 1) := by decide +kernel
theorem dX7_checksum_5 : decode cX7_checksum 5 = .ok (.istore_n 3, 1) := by decide +kernel
theorem dX7_checksum_6 : decode cX7_checksum 6 = .ok (.iload_n 3, 1) := by decide +kernel
theorem dX7_checksum_7 : decode cX7_checksum 7 = .ok (.aload_n 0, 1) := by decide +kernel
theorem dX7_checksum_8 : decode cX7_checksum 8 = .ok (.getfield 10, 3) := by decide +kernel
theorem dX7_checksum_11 : decode cX7_checksum 11 = .ok (.invokevirtual 47, 3) := by decide +kernel
theorem dX7_checksum_14 : decode cX7_checksum 14 = .ok (.if_icmp .ge 129, 3) := by decide +kernel
theorem dX7_checksum_143 : decode cX7_checksum 143 = .ok (.lload_n 1, 1) := by decide +kernel
theorem dX7_checksum_144 : decode cX7_checksum 144 = .ok (.lreturn, 1) := by decide +kernel
theorem dX7_frozenShare_0 : decode cX7_frozenShare 0 = .ok (.aload_n 0, 1) := by decide +kernel
theorem dX7_frozenShare_1 : decode cX7_frozenShare 1 = .ok (.invokevirtual 276, 3) := by decide +kernel
theorem dX7_frozenShare_4 : decode cX7_frozenShare 4 = .ok (.istore_n 1, 1) := by decide +kernel
theorem dX7_frozenShare_5 : decode cX7_frozenShare 5 = .ok (.iload_n 1, 1) := by decide +kernel
theorem dX7_frozenShare_6 : decode cX7_frozenShare 6 = .ok (.ifCond .ne 14, 3) := by decide +kernel
theorem dX7_frozenShare_9 : decode cX7_frozenShare 9 = .ok (.new 279, 3) := by decide +kernel
theorem dX7_frozenShare_12 : decode cX7_frozenShare 12 = .ok (.dup, 1) := by decide +kernel
theorem dX7_frozenShare_13 : decode cX7_frozenShare 13 = .ok (.ldc_w 281, 3) := by decide +kernel
theorem dX7_frozenShare_16 : decode cX7_frozenShare 16 = .ok (.invokespecial 283, 3) := by decide +kernel
theorem dX7_frozenShare_19 : decode cX7_frozenShare 19 = .ok (.athrow, 1) := by decide +kernel
theorem dX7_isTrue_0 : decode cX7_isTrue 0 = .ok (.aload_n 0, 1) := by decide +kernel
theorem dX7_isTrue_1 : decode cX7_isTrue 1 = .ok (.invokevirtual 291, 3) := by decide +kernel
theorem dX7_isTrue_4 : decode cX7_isTrue 4 = .ok (.lconst 0, 1) := by decide +kernel
theorem dX7_isTrue_5 : decode cX7_isTrue 5 = .ok (.lcmp, 1) := by decide +kernel
theorem dX7_isTrue_6 : decode cX7_isTrue 6 = .ok (.ifCond .eq 5, 3) := by decide +kernel
theorem dX7_isTrue_11 : decode cX7_isTrue 11 = .ok (.iconst 0, 1) := by decide +kernel
theorem dX7_isTrue_12 : decode cX7_isTrue 12 = .ok (.istore_n 1, 1) := by decide +kernel
theorem dX7_isTrue_13 : decode cX7_isTrue 13 = .ok (.iload_n 1, 1) := by decide +kernel
theorem dX7_isTrue_14 : decode cX7_isTrue 14 = .ok (.aload_n 0, 1) := by decide +kernel
theorem dX7_isTrue_15 : decode cX7_isTrue 15 = .ok (.getfield 10, 3) := by decide +kernel
theorem dX7_isTrue_18 : decode cX7_isTrue 18 = .ok (.invokevirtual 47, 3) := by decide +kernel
theorem dX7_isTrue_21 : decode cX7_isTrue 21 = .ok (.if_icmp .ge 45, 3) := by decide +kernel
theorem dX7_isTrue_66 : decode cX7_isTrue 66 = .ok (.iconst 1, 1) := by decide +kernel
theorem dX7_isTrue_67 : decode cX7_isTrue 67 = .ok (.ireturn, 1) := by decide +kernel
theorem dX7_law_0 : decode cX7_law 0 = .ok (.iload_n 1, 1) := by decide +kernel
theorem dX7_law_1 : decode cX7_law 1 = .ok (.iconst 0, 1) := by decide +kernel
theorem dX7_law_2 : decode cX7_law 2 = .ok (.sipush 9999, 3) := by decide +kernel
theorem dX7_law_5 : decode cX7_law 5 = .ok (.invokestatic 73, 3) := by decide +kernel
theorem dX7_law_8 : decode cX7_law 8 = .ok (.iload_n 2, 1) := by decide +kernel
theorem dX7_law_9 : decode cX7_law 9 = .ok (.iconst 0, 1) := by decide +kernel
theorem dX7_law_10 : decode cX7_law 10 = .ok (.sipush 999, 3) := by decide +kernel
theorem dX7_law_13 : decode cX7_law 13 = .ok (.invokestatic 73, 3) := by decide +kernel
theorem dX7_law_16 : decode cX7_law 16 = .ok (.aload_n 0, 1) := by decide +kernel
theorem dX7_law_17 : decode cX7_law 17 = .ok (.getfield 30, 3) := by decide +kernel
theorem dX7_law_20 : decode cX7_law 20 = .ok (.istore_n 3, 1) := by decide +kernel
theorem dX7_law_21 : decode cX7_law 21 = .ok (.aload_n 0, 1) := by decide +kernel
theorem dX7_law_22 : decode cX7_law 22 = .ok (.iload_n 1, 1) := by decide +kernel
theorem dX7_law_23 : decode cX7_law 23 = .ok (.putfield 30, 3) := by decide +kernel
theorem dX7_law_26 : decode cX7_law 26 = .ok (.aload_n 0, 1) := by decide +kernel
theorem dX7_law_27 : decode cX7_law 27 = .ok (.iload_n 2, 1) := by decide +kernel
theorem dX7_law_28 : decode cX7_law 28 = .ok (.putfield 34, 3) := by decide +kernel
theorem dX7_law_31 : decode cX7_law 31 = .ok (.iload_n 3, 1) := by decide +kernel
theorem dX7_law_32 : decode cX7_law 32 = .ok (.ireturn, 1) := by decide +kernel
theorem dX7_layersInAll_0 : decode cX7_layersInAll 0 = .ok (.iconst 0, 1) := by decide +kernel
theorem dX7_layersInAll_1 : decode cX7_layersInAll 1 = .ok (.istore_n 1, 1) := by decide +kernel
theorem dX7_layersInAll_2 : decode cX7_layersInAll 2 = .ok (.iconst 0, 1) := by decide +kernel
theorem dX7_layersInAll_3 : decode cX7_layersInAll 3 = .ok (.istore_n 2, 1) := by decide +kernel
theorem dX7_layersInAll_4 : decode cX7_layersInAll 4 = .ok (.iload_n 2, 1) := by decide +kernel
theorem dX7_layersInAll_5 : decode cX7_layersInAll 5 = .ok (.aload_n 0, 1) := by decide +kernel
theorem dX7_layersInAll_6 : decode cX7_layersInAll 6 = .ok (.getfield 10, 3) := by decide +kernel
theorem dX7_layersInAll_9 : decode cX7_layersInAll 9 = .ok (.invokevirtual 47, 3) := by decide +kernel
theorem dX7_layersInAll_12 : decode cX7_layersInAll 12 = .ok (.if_icmp .ge 29, 3) := by decide +kernel
theorem dX7_layersInAll_41 : decode cX7_layersInAll 41 = .ok (.iload_n 1, 1) := by decide +kernel
theorem dX7_layersInAll_42 : decode cX7_layersInAll 42 = .ok (.ireturn, 1) := by decide +kernel
theorem dX7_meanWater_0 : decode cX7_meanWater 0 = .ok (.aload_n 0, 1) := by decide +kernel
theorem dX7_meanWater_1 : decode cX7_meanWater 1 = .ok (.invokevirtual 276, 3) := by decide +kernel
theorem dX7_meanWater_4 : decode cX7_meanWater 4 = .ok (.istore_n 1, 1) := by decide +kernel
theorem dX7_meanWater_5 : decode cX7_meanWater 5 = .ok (.iload_n 1, 1) := by decide +kernel
theorem dX7_meanWater_6 : decode cX7_meanWater 6 = .ok (.ifCond .ne 14, 3) := by decide +kernel
theorem dX7_meanWater_9 : decode cX7_meanWater 9 = .ok (.new 279, 3) := by decide +kernel
theorem dX7_meanWater_12 : decode cX7_meanWater 12 = .ok (.dup, 1) := by decide +kernel
theorem dX7_meanWater_13 : decode cX7_meanWater 13 = .ok (.ldc_w 281, 3) := by decide +kernel
theorem dX7_meanWater_16 : decode cX7_meanWater 16 = .ok (.invokespecial 283, 3) := by decide +kernel
theorem dX7_meanWater_19 : decode cX7_meanWater 19 = .ok (.athrow, 1) := by decide +kernel
theorem dX7_missing_0 : decode cX7_missing 0 = .ok (.lconst 0, 1) := by decide +kernel
theorem dX7_missing_1 : decode cX7_missing 1 = .ok (.lstore_n 1, 1) := by decide +kernel
theorem dX7_missing_2 : decode cX7_missing 2 = .ok (.iconst 0, 1) := by decide +kernel
theorem dX7_missing_3 : decode cX7_missing 3 = .ok (.istore_n 3, 1) := by decide +kernel
theorem dX7_missing_4 : decode cX7_missing 4 = .ok (.iload_n 3, 1) := by decide +kernel
theorem dX7_missing_5 : decode cX7_missing 5 = .ok (.aload_n 0, 1) := by decide +kernel
theorem dX7_missing_6 : decode cX7_missing 6 = .ok (.getfield 10, 3) := by decide +kernel
theorem dX7_missing_9 : decode cX7_missing 9 = .ok (.invokevirtual 47, 3) := by decide +kernel
theorem dX7_missing_12 : decode cX7_missing 12 = .ok (.if_icmp .ge 26, 3) := by decide +kernel
theorem dX7_missing_38 : decode cX7_missing 38 = .ok (.lload_n 1, 1) := by decide +kernel
theorem dX7_missing_39 : decode cX7_missing 39 = .ok (.lreturn, 1) := by decide +kernel
theorem dX7_weather_0 : decode cX7_weather 0 = .ok (.iload_n 1, 1) := by decide +kernel
theorem dX7_weather_1 : decode cX7_weather 1 = .ok (.bipush (-30), 2) := by decide +kernel
theorem dX7_weather_3 : decode cX7_weather 3 = .ok (.bipush 45, 2) := by decide +kernel
theorem dX7_weather_5 : decode cX7_weather 5 = .ok (.invokestatic 73, 3) := by decide +kernel
theorem dX7_weather_8 : decode cX7_weather 8 = .ok (.iload_n 2, 1) := by decide +kernel
theorem dX7_weather_9 : decode cX7_weather 9 = .ok (.iconst 0, 1) := by decide +kernel
theorem dX7_weather_10 : decode cX7_weather 10 = .ok (.sipush 999, 3) := by decide +kernel
theorem dX7_weather_13 : decode cX7_weather 13 = .ok (.invokestatic 73, 3) := by decide +kernel
theorem dX7_weather_16 : decode cX7_weather 16 = .ok (.iload_n 3, 1) := by decide +kernel
theorem dX7_weather_17 : decode cX7_weather 17 = .ok (.iconst 0, 1) := by decide +kernel
theorem dX7_weather_18 : decode cX7_weather 18 = .ok (.bipush 99, 2) := by decide +kernel
theorem dX7_weather_20 : decode cX7_weather 20 = .ok (.invokestatic 73, 3) := by decide +kernel
theorem dX7_weather_23 : decode cX7_weather 23 = .ok (.aload_n 0, 1) := by decide +kernel
theorem dX7_weather_24 : decode cX7_weather 24 = .ok (.getfield 22, 3) := by decide +kernel
theorem dX7_weather_27 : decode cX7_weather 27 = .ok (.getfield 198, 3) := by decide +kernel
theorem dX7_weather_30 : decode cX7_weather 30 = .ok (.istore 4, 2) := by decide +kernel
theorem dX7_weather_32 : decode cX7_weather 32 = .ok (.aload_n 0, 1) := by decide +kernel
theorem dX7_weather_33 : decode cX7_weather 33 = .ok (.getfield 22, 3) := by decide +kernel
theorem dX7_weather_36 : decode cX7_weather 36 = .ok (.iload_n 1, 1) := by decide +kernel
theorem dX7_weather_37 : decode cX7_weather 37 = .ok (.putfield 198, 3) := by decide +kernel
theorem dX7_weather_40 : decode cX7_weather 40 = .ok (.aload_n 0, 1) := by decide +kernel
theorem dX7_weather_41 : decode cX7_weather 41 = .ok (.getfield 22, 3) := by decide +kernel
theorem dX7_weather_44 : decode cX7_weather 44 = .ok (.iload_n 2, 1) := by decide +kernel
theorem dX7_weather_45 : decode cX7_weather 45 = .ok (.putfield 201, 3) := by decide +kernel
theorem dX7_weather_48 : decode cX7_weather 48 = .ok (.aload_n 0, 1) := by decide +kernel
theorem dX7_weather_49 : decode cX7_weather 49 = .ok (.getfield 22, 3) := by decide +kernel
theorem dX7_weather_52 : decode cX7_weather 52 = .ok (.iload_n 3, 1) := by decide +kernel
theorem dX7_weather_53 : decode cX7_weather 53 = .ok (.putfield 204, 3) := by decide +kernel
theorem dX7_weather_56 : decode cX7_weather 56 = .ok (.iload 4, 2) := by decide +kernel
theorem dX7_weather_58 : decode cX7_weather 58 = .ok (.ireturn, 1) := by decide +kernel
theorem q11 : Cond.initialized "java/lang/IllegalArgumentException" ∈ lw_all := al_in (i := 11) (by decide +kernel) (by decide +kernel)
theorem q41 : Cond.initialized "java/lang/ArithmeticException" ∈ lw_all := al_in (i := 41) (by decide +kernel) (by decide +kernel)
theorem q122 : Cond.instanceMethod yX7_missing ∈ lw_all := al_in (i := 122) (by decide +kernel) (by decide +kernel)
theorem q123 : Cond.selects RX7 yX7_missing yX7_missing ∈ lw_all := al_in (i := 123) (by decide +kernel) (by decide +kernel)
theorem q124 : Cond.code yX7_missing cX7_missing 4 (some .long) ∈ lw_all := al_in (i := 124) (by decide +kernel) (by decide +kernel)
theorem q159 : Cond.constantLong RX7 287 (7) ∈ lw_all := al_in (i := 159) (by decide +kernel) (by decide +kernel)
theorem q170 : Cond.methodLink RX7 291 yX7_missing ∈ lw_all := al_in (i := 170) (by decide +kernel) (by decide +kernel)
theorem q410 : Cond.classLink RL 13 "java/lang/IllegalArgumentException" ∈ lw_all := al_in (i := 410) (by decide +kernel) (by decide +kernel)
theorem q416 : Cond.classLink RX7 40 "java/lang/IllegalArgumentException" ∈ lw_all := al_in (i := 416) (by decide +kernel) (by decide +kernel)
theorem q677 : Cond.methodLink RX7 73 yX7_checkRange ∈ lw_all := al_in (i := 677) (by decide +kernel) (by decide +kernel)
theorem q678 : Cond.static yX7_checkRange ∈ lw_all := al_in (i := 678) (by decide +kernel) (by decide +kernel)
theorem q679 : Cond.code yX7_checkRange cX7_checkRange 3 none ∈ lw_all := al_in (i := 679) (by decide +kernel) (by decide +kernel)
theorem q910 : Cond.methodLink RL 81 yX7_weather ∈ lw_all := al_in (i := 910) (by decide +kernel) (by decide +kernel)
theorem q911 : Cond.instanceMethod yX7_weather ∈ lw_all := al_in (i := 911) (by decide +kernel) (by decide +kernel)
theorem q912 : Cond.selects RX7 yX7_weather yX7_weather ∈ lw_all := al_in (i := 912) (by decide +kernel) (by decide +kernel)
theorem q913 : Cond.code yX7_weather cX7_weather 5 (some .int) ∈ lw_all := al_in (i := 913) (by decide +kernel) (by decide +kernel)
theorem q917 : Cond.methodLink RL 84 yX7_law ∈ lw_all := al_in (i := 917) (by decide +kernel) (by decide +kernel)
theorem q918 : Cond.instanceMethod yX7_law ∈ lw_all := al_in (i := 918) (by decide +kernel) (by decide +kernel)
theorem q919 : Cond.selects RX7 yX7_law yX7_law ∈ lw_all := al_in (i := 919) (by decide +kernel) (by decide +kernel)
theorem q920 : Cond.code yX7_law cX7_law 4 (some .int) ∈ lw_all := al_in (i := 920) (by decide +kernel) (by decide +kernel)
theorem q1089 : Cond.classLink RL 145 "java/lang/ArithmeticException" ∈ lw_all := al_in (i := 1089) (by decide +kernel) (by decide +kernel)
theorem q1103 : Cond.methodLink RL 141 yX7_frozenShare ∈ lw_all := al_in (i := 1103) (by decide +kernel) (by decide +kernel)
theorem q1104 : Cond.instanceMethod yX7_frozenShare ∈ lw_all := al_in (i := 1104) (by decide +kernel) (by decide +kernel)
theorem q1105 : Cond.selects RX7 yX7_frozenShare yX7_frozenShare ∈ lw_all := al_in (i := 1105) (by decide +kernel) (by decide +kernel)
theorem q1106 : Cond.code yX7_frozenShare cX7_frozenShare 4 (some .float) ∈ lw_all := al_in (i := 1106) (by decide +kernel) (by decide +kernel)
theorem q1107 : Cond.methodLink RX7 276 yX7_layersInAll ∈ lw_all := al_in (i := 1107) (by decide +kernel) (by decide +kernel)
theorem q1109 : Cond.instanceMethod yX7_layersInAll ∈ lw_all := al_in (i := 1109) (by decide +kernel) (by decide +kernel)
theorem q1110 : Cond.code yX7_layersInAll cX7_layersInAll 3 (some .int) ∈ lw_all := al_in (i := 1110) (by decide +kernel) (by decide +kernel)
theorem q1111 : Cond.classLink RX7 279 "java/lang/ArithmeticException" ∈ lw_all := al_in (i := 1111) (by decide +kernel) (by decide +kernel)
theorem q1121 : Cond.methodLink RL 147 yX7_meanWater ∈ lw_all := al_in (i := 1121) (by decide +kernel) (by decide +kernel)
theorem q1122 : Cond.instanceMethod yX7_meanWater ∈ lw_all := al_in (i := 1122) (by decide +kernel) (by decide +kernel)
theorem q1123 : Cond.selects RX7 yX7_meanWater yX7_meanWater ∈ lw_all := al_in (i := 1123) (by decide +kernel) (by decide +kernel)
theorem q1124 : Cond.code yX7_meanWater cX7_meanWater 5 (some .double) ∈ lw_all := al_in (i := 1124) (by decide +kernel) (by decide +kernel)
theorem q1486 : Cond.constantLong RX12 123 (9999) ∈ lw_all := al_in (i := 1486) (by decide +kernel) (by decide +kernel)
theorem q1518 : Cond.constantLong RX12 157 (-30) ∈ lw_all := al_in (i := 1518) (by decide +kernel) (by decide +kernel)
theorem q1519 : Cond.constantLong RX12 159 (45) ∈ lw_all := al_in (i := 1519) (by decide +kernel) (by decide +kernel)
theorem q1520 : Cond.constantLong RX12 161 (999) ∈ lw_all := al_in (i := 1520) (by decide +kernel) (by decide +kernel)
theorem q1521 : Cond.constantLong RX12 163 (99) ∈ lw_all := al_in (i := 1521) (by decide +kernel) (by decide +kernel)
theorem qs28 : Cond.selects RX7 yX7_layersInAll yX7_layersInAll ∈ lw_all := al_sel (i := 28) (by decide +kernel) (by decide +kernel)
theorem t86 : Cond.fieldLinkNest RX7 198 "LysimeterField$Weather" "temperature" "I" "LysimeterField" ∈ lw_st := al_stin (i := 86) (by decide +kernel) (by decide +kernel)
theorem t88 : Cond.fieldLinkNest RX7 201 "LysimeterField$Weather" "rain" "I" "LysimeterField" ∈ lw_st := al_stin (i := 88) (by decide +kernel) (by decide +kernel)
theorem t90 : Cond.fieldLinkNest RX7 204 "LysimeterField$Weather" "thirst" "I" "LysimeterField" ∈ lw_st := al_stin (i := 90) (by decide +kernel) (by decide +kernel)
theorem t418 : Cond.castable "java/lang/IllegalArgumentException" "java/lang/IllegalArgumentException" ∈ lw_st := al_stin (i := 418) (by decide +kernel) (by decide +kernel)
theorem t680 : Cond.stringRef RX7 309 "a number is out of range" ∈ lw_st := al_stin (i := 680) (by decide +kernel) (by decide +kernel)
theorem t1101 : Cond.castable "java/lang/ArithmeticException" "java/lang/ArithmeticException" ∈ lw_st := al_stin (i := 1101) (by decide +kernel) (by decide +kernel)
theorem t1112 : Cond.stringRef RX7 281 "no layers" ∈ lw_st := al_stin (i := 1112) (by decide +kernel) (by decide +kernel)
theorem t1141 : Cond.fieldLinkNest RX12 165 "LysimeterFieldModel$Sky" "temperature" "I" "LysimeterFieldModel" ∈ lw_st := al_stin (i := 1141) (by decide +kernel) (by decide +kernel)
theorem t1142 : Cond.fieldLinkNest RX12 168 "LysimeterFieldModel$Sky" "rain" "I" "LysimeterFieldModel" ∈ lw_st := al_stin (i := 1142) (by decide +kernel) (by decide +kernel)
theorem t1144 : Cond.fieldLinkNest RX12 171 "LysimeterFieldModel$Sky" "thirst" "I" "LysimeterFieldModel" ∈ lw_st := al_stin (i := 1144) (by decide +kernel) (by decide +kernel)
theorem t1147 : Cond.fieldLinkNest RX12 174 "LysimeterFieldModel$Sky" "limit" "I" "LysimeterFieldModel" ∈ lw_st := al_stin (i := 1147) (by decide +kernel) (by decide +kernel)
theorem t1149 : Cond.fieldLinkNest RX12 177 "LysimeterFieldModel$Sky" "fine" "I" "LysimeterFieldModel" ∈ lw_st := al_stin (i := 1149) (by decide +kernel) (by decide +kernel)
theorem xa_X7_283 : al_both (vx_atS RX7 283 "java/lang/ArithmeticException" xnR) = true := by decide +kernel
theorem xa_X7_283_g : ∀ w ∈ Cond.classLink RX7 279 "java/lang/ArithmeticException" :: Cond.initialized "java/lang/ArithmeticException" :: vx_atS RX7 283 "java/lang/ArithmeticException" xnR, vx_ot w = true := by decide +kernel
theorem xa_X7_44 : al_both (vx_atS RX7 44 "java/lang/IllegalArgumentException" xnR) = true := by decide +kernel
theorem xa_X7_44_g : ∀ w ∈ Cond.classLink RX7 40 "java/lang/IllegalArgumentException" :: Cond.initialized "java/lang/IllegalArgumentException" :: vx_atS RX7 44 "java/lang/IllegalArgumentException" xnR, vx_ot w = true := by decide +kernel
set_option maxHeartbeats 4000000 in
set_option maxRecDepth 100000 in
/-- checkRange: returns in the range, else IllegalArgumentException -/
theorem k_LF_checkRange (l : Launch) (hst : l.stackTraces = false) (D : va_G) (p0 p1 p2 : Int32) (sz : Nat) : vx_Met l yX7_checkRange (wsA yX7_checkRange cX7_checkRange 3 none) ({ frames := 6, cells := 1, slots := 6, locals := 82 }) (va_Pc [.int p0, .int p1, .int p2] (EV D [] [] sz)) (va_Qv (fun (_ : Unit) => good p0 p1 p2) (fun _ _ => True) NoA) (XG "java/lang/IllegalArgumentException" (¬ good p0 p1 p2) NoA) 1 6 NoA := by
  refine vx_ofW (cc := cX7_checkRange) (maxL := 3) (ret := none) (ws' := lw_all) (by decide) rfl ?_
  intro p e s m args below meth c s₁ B hml hnt hv
  obtain ⟨rfl, hsz, hP, hK, hD0, hG, hZ0⟩ := hv
  have hx := B.exec
  have hb := B.bytes
  have hr := B.returns
  have hts0 := atoms_spec (ws := wsA yX7_checkRange cX7_checkRange 3 none) B.pre
  have hts : ∀ w ∈ lw_all, w.before _ s = true := fun w h => hts0 w (List.mem_cons_of_mem _ h)
  have hown : s.vm.findClass RX7 = some m.cls := findClass_of_methodNamed B.named
  have hlocks := B.notSynchronized
  subst hsz
  have hD : va_D (fun _ => True) [] := hD0
  have hZ : ZZ NoA s s.heap := hZ0
  have hS : va_S NoA s.heap s.heap [] := va_S.rf
  have hP : va_P D vwCl [] s.heap := hP
  have hl := lv_entry ([.int p0, .int p1, .int p2]) (n := 3) (Nat.le_of_ble_eq_true rfl)
  rw [lg_entry_eq]
  generalize (lg_sl ([.int p0, .int p1, .int p2]) ++ List.replicate (3 - (lg_sl ([.int p0, .int p1, .int p2])).length) Slot.unset).toArray = ls at hl ⊢
  have hl : lv_has ls 3 [(0, .int p0), (1, .int p1), (2, .int p2)] := hl
  refine lv_iload_n hx hb dX7_checkRange_0 rfl (lv_at hl 0 rfl) ?_
  refine lv_iload_n hx hb dX7_checkRange_1 rfl (lv_at hl 1 rfl) ?_
  refine lv_icmp_lt (tgt := 10) hx hb dX7_checkRange_2 (by decide) (fun c_1 => ?_) (fun c_1 => ?_)
  · obtain ⟨sa, hstr⟩ := hG.str t680 hown
    exact vx_throwSW (own := RX7) (cls := "java/lang/IllegalArgumentException") (text := "a number is out of range") (names := xnR) (ik := 40) (is := 309) (ic := 44) (sa := sa) hx hb hst hown (by decide +kernel) (by decide +kernel) (hts _ q416) (hts _ q11) hstr (al_use xa_X7_44 hts hG) xa_X7_44_g hZ.1 hZ.2 hS (by rw [hml]; exact hl.1) dX7_checkRange_10 dX7_checkRange_13 dX7_checkRange_14 dX7_checkRange_17 dX7_checkRange_20 (fun x hx => (hnt x hx).elim) (Nat.le_of_ble_eq_true rfl) (Nat.le_of_ble_eq_true rfl) (Nat.le_of_ble_eq_true rfl) (Nat.le_of_ble_eq_true rfl) hlocks (fun t _ hz hk => ⟨(), (fun z => z.1 c_1), rfl, F_of hS hz hk⟩) (fun z hz => hS.2.2 z hz) (Nat.le_of_ble_eq_true rfl) (Nat.le_of_ble_eq_true rfl)
  · refine lv_iload_n hx hb dX7_checkRange_5 rfl (lv_at hl 0 rfl) ?_
    refine lv_iload_n hx hb dX7_checkRange_6 rfl (lv_at hl 2 rfl) ?_
    refine lv_icmp_le (tgt := 21) hx hb dX7_checkRange_7 (by decide) (fun c_2 => ?_) (fun c_2 => ?_)
    · refine W.widen (k := 1) (n := 6) (Nat.le_of_ble_eq_true rfl) (Nat.le_of_ble_eq_true rfl) ?_
      refine vx_ret ?_
      exact W.vret hx hb hr (fun t ht hW => ⟨⟨(), rfl, ⟨c_1, c_2⟩, trivial⟩, hS.F ht⟩) hS.2.2 dX7_checkRange_21
    · obtain ⟨sa, hstr⟩ := hG.str t680 hown
      exact vx_throwSW (own := RX7) (cls := "java/lang/IllegalArgumentException") (text := "a number is out of range") (names := xnR) (ik := 40) (is := 309) (ic := 44) (sa := sa) hx hb hst hown (by decide +kernel) (by decide +kernel) (hts _ q416) (hts _ q11) hstr (al_use xa_X7_44 hts hG) xa_X7_44_g hZ.1 hZ.2 hS (by rw [hml]; exact hl.1) dX7_checkRange_10 dX7_checkRange_13 dX7_checkRange_14 dX7_checkRange_17 dX7_checkRange_20 (fun x hx => (hnt x hx).elim) (Nat.le_of_ble_eq_true rfl) (Nat.le_of_ble_eq_true rfl) (Nat.le_of_ble_eq_true rfl) (Nat.le_of_ble_eq_true rfl) hlocks (fun t _ hz hk => ⟨(), (fun z => c_2 z.2), rfl, F_of hS hz hk⟩) (fun z hz => hS.2.2 z hz) (Nat.le_of_ble_eq_true rfl) (Nat.le_of_ble_eq_true rfl)
set_option maxHeartbeats 4000000 in
set_option maxRecDepth 100000 in
/-- weather: in its ranges, or IllegalArgumentException -/
theorem k_LF_weather (l : Launch) (hst : l.stackTraces = false) (D : va_G) (h : Nat) (f0 f1 f3 f4 f5 f6 : Value) (nw : Nat) (t0 r0 s0 : Int32) (p0 : Int32) (p1 : Int32) (p2 : Int32) (sz : Nat) : vx_Met l yX7_weather (wsA yX7_weather cX7_weather 5 (some .int)) ({ frames := 7, cells := 3, slots := 18, locals := 104 }) (va_Pc [.ref h, .int p0, .int p1, .int p2] (EV D [] [(h, .inr (11, [f0, f1, .ref nw, f3, f4, f5, f6])), (nw, .inr (10, [.int t0, .int r0, .int s0]))] sz)) (va_Qi (fun (r : Int32) (_ : Unit) => r = t0 ∧ (good p0 (-30) 45 ∧ good p1 0 999 ∧ good p2 0 99)) (fun _ t => va_P D vwCl [(h, .inr (11, [f0, f1, .ref nw, f3, f4, f5, f6])), (nw, .inr (10, [.int p0, .int p1, .int p2]))] t.heap ∧ va_D (va_A [(h, .inr (11, [f0, f1, .ref nw, f3, f4, f5, f6])), (nw, .inr (10, [.int t0, .int r0, .int s0]))] sz) [(h, .inr (11, [f0, f1, .ref nw, f3, f4, f5, f6])), (nw, .inr (10, [.int p0, .int p1, .int p2]))]) (va_A [(h, .inr (11, [f0, f1, .ref nw, f3, f4, f5, f6])), (nw, .inr (10, [.int t0, .int r0, .int s0]))] sz)) (XG "java/lang/IllegalArgumentException" (¬ (good p0 (-30) 45 ∧ good p1 0 999 ∧ good p2 0 99)) (va_A [(h, .inr (11, [f0, f1, .ref nw, f3, f4, f5, f6])), (nw, .inr (10, [.int t0, .int r0, .int s0]))] sz)) 3 18 (va_A [(h, .inr (11, [f0, f1, .ref nw, f3, f4, f5, f6])), (nw, .inr (10, [.int t0, .int r0, .int s0]))] sz) := by
  refine vx_ofW (cc := cX7_weather) (maxL := 5) (ret := (some .int)) (ws' := lw_all) (by decide) rfl ?_
  intro p e s m args below meth c s₁ B hml hnt hv
  obtain ⟨rfl, hsz, hP, hK, hD0, hG, hZ0⟩ := hv
  have hx := B.exec
  have hb := B.bytes
  have hr := B.returns
  have hts0 := atoms_spec (ws := wsA yX7_weather cX7_weather 5 (some .int)) B.pre
  have hts : ∀ w ∈ lw_all, w.before _ s = true := fun w h => hts0 w (List.mem_cons_of_mem _ h)
  have hown : s.vm.findClass RX7 = some m.cls := findClass_of_methodNamed B.named
  have hlocks := B.notSynchronized
  subst hsz
  have hZ := ZZ.wide hP hZ0
  have hD := hD0.self (sz := s.heap.size)
  generalize hAe : va_A [(h, .inr (11, [f0, f1, .ref nw, f3, f4, f5, f6])), (nw, .inr (10, [.int t0, .int r0, .int s0]))] s.heap.size = A at hD hZ ⊢
  have hA : ∀ q : Nat, s.heap.size ≤ q → A q := fun q h => by rw [← hAe]; exact Or.inr h
  have hS : va_S A s.heap s.heap [] := va_S.rf
  have hP : va_P D vwCl [(h, .inr (11, [f0, f1, .ref nw, f3, f4, f5, f6])), (nw, .inr (10, [.int t0, .int r0, .int s0]))] s.heap := hP
  have hl := lv_entry ([.ref h, .int p0, .int p1, .int p2]) (n := 5) (Nat.le_of_ble_eq_true rfl)
  rw [lg_entry_eq]
  generalize (lg_sl ([.ref h, .int p0, .int p1, .int p2]) ++ List.replicate (5 - (lg_sl ([.ref h, .int p0, .int p1, .int p2])).length) Slot.unset).toArray = ls at hl ⊢
  have hl : lv_has ls 5 [(0, .ref h), (1, .int p0), (2, .int p1), (3, .int p2)] := hl
  refine lv_iload_n hx hb dX7_weather_0 rfl (lv_at hl 1 rfl) ?_
  refine lv_bipush (v := (-30)) hx hb dX7_weather_1 (by decide) ?_
  refine lv_bipush (v := 45) hx hb dX7_weather_3 (by decide) ?_
  have hPc := hP.sub (ws' := []) [] rfl
  have hDc := hD.sub (ws' := []) [] (by decide) rfl
  have hKc := hK.sub (tys' := []) [] rfl
  refine vx_callv (vx_runS (As := [.int p0, .int (-30), .int 45]) (rest := []) ⟨hx, hb, hml, hown, hts⟩ (k_LF_checkRange l hst D p0 (-30) 45 s.heap.size) (va_cwS 3 hts (gS q677 q678 q1 (gA q679)) rfl rfl rfl (by decide +kernel) ⟨Nat.le_of_ble_eq_true rfl, Nat.le_of_ble_eq_true rfl⟩) ⟨EV.fb, fun U hU hW => ⟨rfl, EV.at hPc hKc hDc hG (hZ.no hS) U hU hW⟩⟩ rfl rfl hl.1 rfl (lv_room (Nat.le_of_ble_eq_true rfl)) dX7_weather_5 ⟨Nat.le_of_ble_eq_true rfl, Nat.le_of_ble_eq_true rfl⟩) hS (fun q _ h => h.elim) (fun q h => h.elim) (fun q _ h => h.elim) (fun E ce q9 u t H1 locs1 ht hvm hpx_3 hBX hz1 hk1 hS hcell hcv hcl => ?_) (fun u t H1 locs ht hvm hw_2 hB hz1 hk1 hS => ?_)
  · have hP := P_kept hP hk1
    exact vx_out (fun x hx => (hnt x hx).elim) hlocks hcell hcv hcl (fun t ht _ => ⟨(), (fun z => hpx_3 z.1), hBX, hS.F ht⟩) (fun z hz => hS.2.2 z hz) (Nat.le_of_ble_eq_true rfl) (Nat.le_of_ble_eq_true rfl)
  · have hP := P_kept hP hk1
    generalize H1 = H at hP hS ⊢
    have hP : va_P D vwCl [(h, .inr (11, [f0, f1, .ref nw, f3, f4, f5, f6])), (nw, .inr (10, [.int t0, .int r0, .int s0]))] H := hP
    refine lv_iload_n hx hb dX7_weather_8 rfl (lv_at hl 2 rfl) ?_
    refine lv_iconst (v := 0) hx hb dX7_weather_9 (by decide) ?_
    refine lv_sipush (v := 999) hx hb dX7_weather_10 (by decide) ?_
    have hPc := hP.sub (ws' := []) [] rfl
    have hDc := hD.sub (ws' := []) [] (by decide) rfl
    have hKc := hK.sub (tys' := []) [] rfl
    refine vx_callv (vx_runS (As := [.int p1, .int 0, .int 999]) (rest := []) ⟨hx, hb, hml, hown, hts⟩ (k_LF_checkRange l hst D p1 0 999 H.size) (va_cwS 3 hts (gS q677 q678 q1 (gA q679)) rfl rfl rfl (by decide +kernel) ⟨Nat.le_of_ble_eq_true rfl, Nat.le_of_ble_eq_true rfl⟩) ⟨EV.fb, fun U hU hW => ⟨rfl, EV.at hPc hKc hDc hG (hZ.no hS) U hU hW⟩⟩ rfl rfl hl.1 rfl (lv_room (Nat.le_of_ble_eq_true rfl)) dX7_weather_13 ⟨Nat.le_of_ble_eq_true rfl, Nat.le_of_ble_eq_true rfl⟩) hS (fun q _ h => h.elim) (fun q h => h.elim) (fun q _ h => h.elim) (fun E ce q9 u t H1 locs1 ht hvm hpx_6 hBX hz1 hk1 hS hcell hcv hcl => ?_) (fun u t H1 locs ht hvm hw_5 hB hz1 hk1 hS => ?_)
    · have hP := P_kept hP hk1
      exact vx_out (fun x hx => (hnt x hx).elim) hlocks hcell hcv hcl (fun t ht _ => ⟨(), (fun z => hpx_6 z.2.1), hBX, hS.F ht⟩) (fun z hz => hS.2.2 z hz) (Nat.le_of_ble_eq_true rfl) (Nat.le_of_ble_eq_true rfl)
    · have hP := P_kept hP hk1
      generalize H1 = H at hP hS ⊢
      have hP : va_P D vwCl [(h, .inr (11, [f0, f1, .ref nw, f3, f4, f5, f6])), (nw, .inr (10, [.int t0, .int r0, .int s0]))] H := hP
      refine lv_iload_n hx hb dX7_weather_16 rfl (lv_at hl 3 rfl) ?_
      refine lv_iconst (v := 0) hx hb dX7_weather_17 (by decide) ?_
      refine lv_bipush (v := 99) hx hb dX7_weather_18 (by decide) ?_
      have hPc := hP.sub (ws' := []) [] rfl
      have hDc := hD.sub (ws' := []) [] (by decide) rfl
      have hKc := hK.sub (tys' := []) [] rfl
      refine vx_callv (vx_runS (As := [.int p2, .int 0, .int 99]) (rest := []) ⟨hx, hb, hml, hown, hts⟩ (k_LF_checkRange l hst D p2 0 99 H.size) (va_cwS 3 hts (gS q677 q678 q1 (gA q679)) rfl rfl rfl (by decide +kernel) ⟨Nat.le_of_ble_eq_true rfl, Nat.le_of_ble_eq_true rfl⟩) ⟨EV.fb, fun U hU hW => ⟨rfl, EV.at hPc hKc hDc hG (hZ.no hS) U hU hW⟩⟩ rfl rfl hl.1 rfl (lv_room (Nat.le_of_ble_eq_true rfl)) dX7_weather_20 ⟨Nat.le_of_ble_eq_true rfl, Nat.le_of_ble_eq_true rfl⟩) hS (fun q _ h => h.elim) (fun q h => h.elim) (fun q _ h => h.elim) (fun E ce q9 u t H1 locs1 ht hvm hpx_9 hBX hz1 hk1 hS hcell hcv hcl => ?_) (fun u t H1 locs ht hvm hw_8 hB hz1 hk1 hS => ?_)
      · have hP := P_kept hP hk1
        exact vx_out (fun x hx => (hnt x hx).elim) hlocks hcell hcv hcl (fun t ht _ => ⟨(), (fun z => hpx_9 z.2.2), hBX, hS.F ht⟩) (fun z hz => hS.2.2 z hz) (Nat.le_of_ble_eq_true rfl) (Nat.le_of_ble_eq_true rfl)
      · have hP := P_kept hP hk1
        generalize H1 = H at hP hS ⊢
        have hP : va_P D vwCl [(h, .inr (11, [f0, f1, .ref nw, f3, f4, f5, f6])), (nw, .inr (10, [.int t0, .int r0, .int s0]))] H := hP
        refine lv_aload_n hx hb dX7_weather_23 rfl (lv_at hl 0 rfl) ?_
        refine va_get (D := D) (ci := 11) (v := .ref nw) (C := RX7) (T := TX7) (N := 7) hx hb hts iwX7 hown hK hP 0 rfl rfl 2 (by decide) (hts _ q100) (fun _ h9 => h9) rfl dX7_weather_24 ?_
        refine va_getN (D := D) (ci := 10) (v := .int t0) (C := RX6) (T := TX6) (N := 3) hx hb hts iwX6 hown hK hP 1 rfl rfl 0 (by decide) (hG.use t86) (fun _ h9 => h9) rfl dX7_weather_27 ?_
        refine lv_istore (lv' := [(4, .int t0), (0, .ref h), (1, .int p0), (2, .int p1), (3, .int p2)]) hx hb dX7_weather_30 hl (by decide) rfl (fun ls hl => ?_)
        refine lv_aload_n hx hb dX7_weather_32 rfl (lv_at hl 1 rfl) ?_
        refine va_get (D := D) (ci := 11) (v := .ref nw) (C := RX7) (T := TX7) (N := 7) hx hb hts iwX7 hown hK hP 0 rfl rfl 2 (by decide) (hts _ q100) (fun _ h9 => h9) rfl dX7_weather_33 ?_
        refine lv_iload_n hx hb dX7_weather_36 rfl (lv_at hl 2 rfl) ?_
        refine va_putN (D := D) (ci := 10) (v := .int p0) (ty := .int) (C := RX6) (T := TX6) (N := 3) hx hb hts iwX6 tyX6 tyX6_ok nmX6 hown hK hP hD hS 1 rfl rfl 0 (by decide) (hG.use t86) (fun _ h9 => h9) rfl (by decide +kernel) rfl rfl (Nat.le_of_ble_eq_true rfl) dX7_weather_37 (fun H locs hP hD hS => ?_)
        have hP : va_P D vwCl [(h, .inr (11, [f0, f1, .ref nw, f3, f4, f5, f6])), (nw, .inr (10, [.int p0, .int r0, .int s0]))] H := hP
        have hD : va_D A [(h, .inr (11, [f0, f1, .ref nw, f3, f4, f5, f6])), (nw, .inr (10, [.int p0, .int r0, .int s0]))] := hD
        refine lv_aload_n hx hb dX7_weather_40 rfl (lv_at hl 1 rfl) ?_
        refine va_get (D := D) (ci := 11) (v := .ref nw) (C := RX7) (T := TX7) (N := 7) hx hb hts iwX7 hown hK hP 0 rfl rfl 2 (by decide) (hts _ q100) (fun _ h9 => h9) rfl dX7_weather_41 ?_
        refine lv_iload_n hx hb dX7_weather_44 rfl (lv_at hl 3 rfl) ?_
        refine va_putN (D := D) (ci := 10) (v := .int p1) (ty := .int) (C := RX6) (T := TX6) (N := 3) hx hb hts iwX6 tyX6 tyX6_ok nmX6 hown hK hP hD hS 1 rfl rfl 1 (by decide) (hG.use t88) (fun _ h9 => h9) rfl (by decide +kernel) rfl rfl (Nat.le_of_ble_eq_true rfl) dX7_weather_45 (fun H locs hP hD hS => ?_)
        have hP : va_P D vwCl [(h, .inr (11, [f0, f1, .ref nw, f3, f4, f5, f6])), (nw, .inr (10, [.int p0, .int p1, .int s0]))] H := hP
        have hD : va_D A [(h, .inr (11, [f0, f1, .ref nw, f3, f4, f5, f6])), (nw, .inr (10, [.int p0, .int p1, .int s0]))] := hD
        refine lv_aload_n hx hb dX7_weather_48 rfl (lv_at hl 1 rfl) ?_
        refine va_get (D := D) (ci := 11) (v := .ref nw) (C := RX7) (T := TX7) (N := 7) hx hb hts iwX7 hown hK hP 0 rfl rfl 2 (by decide) (hts _ q100) (fun _ h9 => h9) rfl dX7_weather_49 ?_
        refine lv_iload_n hx hb dX7_weather_52 rfl (lv_at hl 4 rfl) ?_
        refine va_putN (D := D) (ci := 10) (v := .int p2) (ty := .int) (C := RX6) (T := TX6) (N := 3) hx hb hts iwX6 tyX6 tyX6_ok nmX6 hown hK hP hD hS 1 rfl rfl 2 (by decide) (hG.use t90) (fun _ h9 => h9) rfl (by decide +kernel) rfl rfl (Nat.le_of_ble_eq_true rfl) dX7_weather_53 (fun H locs hP hD hS => ?_)
        have hP : va_P D vwCl [(h, .inr (11, [f0, f1, .ref nw, f3, f4, f5, f6])), (nw, .inr (10, [.int p0, .int p1, .int p2]))] H := hP
        have hD : va_D A [(h, .inr (11, [f0, f1, .ref nw, f3, f4, f5, f6])), (nw, .inr (10, [.int p0, .int p1, .int p2]))] := hD
        refine lv_iload hx hb dX7_weather_56 (lv_at hl 0 rfl) ?_
        have hP9 := hP.sub (ws' := [(h, .inr (11, [f0, f1, .ref nw, f3, f4, f5, f6])), (nw, .inr (10, [.int p0, .int p1, .int p2]))]) [0, 1] rfl
        have hD9 := hD.sub (ws' := [(h, .inr (11, [f0, f1, .ref nw, f3, f4, f5, f6])), (nw, .inr (10, [.int p0, .int p1, .int p2]))]) [0, 1] (by decide) rfl
        refine W.widen (k := 3) (n := 18) (Nat.le_of_ble_eq_true rfl) (Nat.le_of_ble_eq_true rfl) ?_
        refine vx_ret ?_
        exact W.iret (v := t0) hx hb hr (fun t ht hW => ⟨⟨t0, (), rfl, ⟨rfl, ⟨hw_2, hw_5, hw_8⟩⟩, by rw [ht]; exact hP9, hD9⟩, hS.F ht⟩) hS.2.2 dX7_weather_58
set_option maxHeartbeats 4000000 in
set_option maxRecDepth 100000 in
/-- the helper weather -/
theorem k_LL_weather (l : Launch) (hst : l.stackTraces = false) (D : va_G) (h : Nat) (f0 f1 f3 f4 f5 f6 : Value) (nw : Nat) (t0 r0 s0 : Int32) (p0 : Int32) (p1 : Int32) (p2 : Int32) (o : Nat) (cA : ClassId) (f : Nat → Int64) (sz : Nat) : Met l yL_weather (wsH yL_weather cL_weather 6 (some .int) [(0, 12, 15, 13)]) ({ frames := 8, cells := 3, slots := 18, locals := 128 }) (va_Pc [.ref h, .int p0, .int p1, .int p2, .ref o] (EV D [(cA, .long)] [(h, .inr (11, [f0, f1, .ref nw, f3, f4, f5, f6])), (nw, .inr (10, [.int t0, .int r0, .int s0])), (o, .inl (cA, 1, .inr (.inl f)))] sz)) (va_Qi (fun (r : Int32) (u : Nat → Int64) => QH (good p0 (-30) 45 ∧ good p1 0 999 ∧ good p2 0 99) (Int32.toInt64 t0) r u) (fun u t => va_P D vwCl [(o, .inl (cA, 1, .inr (.inl u)))] t.heap ∧ va_D (va_A [(h, .inr (11, [f0, f1, .ref nw, f3, f4, f5, f6])), (nw, .inr (10, [.int t0, .int r0, .int s0])), (o, .inl (cA, 1, .inr (.inl f)))] sz) [(o, .inl (cA, 1, .inr (.inl u)))]) (va_A [(h, .inr (11, [f0, f1, .ref nw, f3, f4, f5, f6])), (nw, .inr (10, [.int t0, .int r0, .int s0])), (o, .inl (cA, 1, .inr (.inl f)))] sz)) 3 18 (va_A [(h, .inr (11, [f0, f1, .ref nw, f3, f4, f5, f6])), (nw, .inr (10, [.int t0, .int r0, .int s0])), (o, .inl (cA, 1, .inr (.inl f)))] sz) := by
  refine va_MetW (cc := cL_weather) (maxL := 6) (ret := (some .int)) (hh := [(0, 12, 15, 13)]) (ws' := lw_all) (by decide) rfl ?_
  intro p e s m args below meth c s₁ B hml hv
  obtain ⟨rfl, hsz, hP, hK, hD0, hG, hZ0⟩ := hv
  have hx := B.exec
  have hb := B.bytes
  have hr := B.returns
  have hts0 := atoms_spec (ws := wsH yL_weather cL_weather 6 (some .int) [(0, 12, 15, 13)]) B.pre
  have hts : ∀ w ∈ lw_all, w.before _ s = true := fun w h => hts0 w (List.mem_cons_of_mem _ h)
  have hown : s.vm.findClass RL = some m.cls := findClass_of_methodNamed B.named
  have hlocks := B.notSynchronized
  have htab : c.exceptionTable.toList = tableOf [(0, 12, 15, 13)] := vx_table (x := objectInit) B (hts0 _ List.mem_cons_self)
  subst hsz
  have hZ := ZZ.wide hP hZ0
  have hD := hD0.self (sz := s.heap.size)
  generalize hAe : va_A [(h, .inr (11, [f0, f1, .ref nw, f3, f4, f5, f6])), (nw, .inr (10, [.int t0, .int r0, .int s0])), (o, .inl (cA, 1, .inr (.inl f)))] s.heap.size = A at hD hZ ⊢
  have hA : ∀ q : Nat, s.heap.size ≤ q → A q := fun q h => by rw [← hAe]; exact Or.inr h
  have hS : va_S A s.heap s.heap [] := va_S.rf
  have hP : va_P D vwCl [(h, .inr (11, [f0, f1, .ref nw, f3, f4, f5, f6])), (nw, .inr (10, [.int t0, .int r0, .int s0])), (o, .inl (cA, 1, .inr (.inl f)))] s.heap := hP
  have hl := lv_entry ([.ref h, .int p0, .int p1, .int p2, .ref o]) (n := 6) (Nat.le_of_ble_eq_true rfl)
  rw [lg_entry_eq]
  generalize (lg_sl ([.ref h, .int p0, .int p1, .int p2, .ref o]) ++ List.replicate (6 - (lg_sl ([.ref h, .int p0, .int p1, .int p2, .ref o])).length) Slot.unset).toArray = ls at hl ⊢
  have hl : lv_has ls 6 [(0, .ref h), (1, .int p0), (2, .int p1), (3, .int p2), (4, .ref o)] := hl
  refine lv_aload hx hb dL_weather_0 (lv_at hl 4 rfl) ?_
  refine lv_iconst (v := 0) hx hb dL_weather_2 (by decide) ?_
  refine lv_aload_n hx hb dL_weather_3 rfl (lv_at hl 0 rfl) ?_
  refine lv_iload_n hx hb dL_weather_4 rfl (lv_at hl 1 rfl) ?_
  refine lv_iload_n hx hb dL_weather_5 rfl (lv_at hl 2 rfl) ?_
  refine lv_iload_n hx hb dL_weather_6 rfl (lv_at hl 3 rfl) ?_
  have hPc := hP.sub (ws' := [(h, .inr (11, [f0, f1, .ref nw, f3, f4, f5, f6])), (nw, .inr (10, [.int t0, .int r0, .int s0]))]) [0, 1] rfl
  have hDc := hD.sub (ws' := [(h, .inr (11, [f0, f1, .ref nw, f3, f4, f5, f6])), (nw, .inr (10, [.int t0, .int r0, .int s0]))]) [0, 1] (by decide) rfl
  have hKc := hK.sub (tys' := []) [] rfl
  have hFc := va_free (wc := [(h, .inr (11, [f0, f1, .ref nw, f3, f4, f5, f6])), (nw, .inr (10, [.int t0, .int r0, .int s0]))]) hD hS hA [0, 1] rfl
  refine vx_calli (vx_runV (As := [.int p0, .int p1, .int p2]) (rest := [.int 0, .ref o]) ⟨hx, hb, hml, hown, hts⟩ (k_LF_weather l hst D h f0 f1 f3 f4 f5 f6 nw t0 r0 s0 p0 p1 p2  s.heap.size) (cwV 3 hts (gV q910 q911 q912 q1 (gA q913)) rfl rfl rfl (by decide +kernel) ⟨Nat.le_of_ble_eq_true rfl, Nat.le_of_ble_eq_true rfl⟩) ⟨EV.fb, va_recv hKc hPc (ci := 11) (q0 := 0) rfl rfl, fun U hU hW => ⟨rfl, EV.at hPc hKc hDc hG (hZ.no hS) U hU hW⟩⟩ rfl rfl hl.1 rfl (lv_room (Nat.le_of_ble_eq_true rfl)) dL_weather_7 ⟨Nat.le_of_ble_eq_true rfl, Nat.le_of_ble_eq_true rfl⟩) hS (fun q _ h => hFc q h) hFc (fun q _ h => hFc q h) (fun E ce q9 u t H1 locs1 ht hvm hpx_3 hBX hz1 hk1 hS hcell hcv hcl => ?_) (fun r_1 u t H1 locs ht hvm hw_2 hB hz1 hk1 hS => ?_)
  · obtain ⟨hP, hD⟩ := va_join (wr := [(o, .inl (cA, 1, .inr (.inl f)))]) (w1 := []) hP hD [0, 1] [2] rfl rfl (by decide) (by decide) hk1 hFc P_nil D_nil
    subst hBX
    refine vx_catch (own := RL) (name := "java/lang/IllegalArgumentException") (E := "java/lang/IllegalArgumentException") hown [] ⟨0, 12, 15, 13⟩ [] (by rw [htab]; rfl) (fun z hz => absurd hz List.not_mem_nil) rfl (by decide) (hts _ q410) (hG.use t418) hcell hcv hcl ?_
    generalize H1 = H at hP hS ⊢
    have hP : va_P D vwCl [(o, .inl (cA, 1, .inr (.inl f)))] H := hP
    refine lv_astore (lv' := [(5, .ref q9), (0, .ref h), (1, .int p0), (2, .int p1), (3, .int p2), (4, .ref o)]) hx hb dL_weather_15 hl (by decide) rfl (fun ls hl => ?_)
    refine lv_iconst (v := 1) hx hb dL_weather_17 (by decide) ?_
    have hP9 := hP.sub (ws' := [(o, .inl (cA, 1, .inr (.inl f)))]) [0] rfl
    have hD9 := hD.sub (ws' := [(o, .inl (cA, 1, .inr (.inl f)))]) [0] (by decide) rfl
    refine W.widen (k := 3) (n := 18) (Nat.le_of_ble_eq_true rfl) (Nat.le_of_ble_eq_true rfl) ?_
    exact W.iret (v := 1) hx hb hr (fun t ht hW => ⟨⟨1, f, rfl, Or.inr ⟨rfl, hpx_3⟩, by rw [ht]; exact hP9, hD9⟩, hS.F ht⟩) hS.2.2 dL_weather_18
  · obtain ⟨hP1, hD1⟩ := hB
    rw [ht] at hP1
    obtain ⟨hP, hD⟩ := va_join (wr := [(o, .inl (cA, 1, .inr (.inl f)))]) (w1 := [(h, .inr (11, [f0, f1, .ref nw, f3, f4, f5, f6])), (nw, .inr (10, [.int p0, .int p1, .int p2]))]) hP hD [0, 1] [2] rfl rfl (by decide) (by decide) hk1 hFc hP1 hD1
    generalize H1 = H at hP hS ⊢
    have hP : va_P D vwCl [(o, .inl (cA, 1, .inr (.inl f))), (h, .inr (11, [f0, f1, .ref nw, f3, f4, f5, f6])), (nw, .inr (10, [.int p0, .int p1, .int p2]))] H := hP
    have hD : va_D A [(o, .inl (cA, 1, .inr (.inl f))), (h, .inr (11, [f0, f1, .ref nw, f3, f4, f5, f6])), (nw, .inr (10, [.int p0, .int p1, .int p2]))] := hD
    obtain ⟨er, hg⟩ := hw_2
    rw [er]
    refine lv_i2l hx hb dL_weather_10 rfl ?_
    refine va_last hx hb hK hP hD hS 0 0 rfl rfl (x := (Int32.toInt64 t0)) (by unfold vp_in; decide) dL_weather_11 (fun H locs hP hD hS => ?_)
    have hP : va_P D vwCl [(o, .inl (cA, 1, .inr (.inl (vp_updL f 0 (Int32.toInt64 t0))))), (h, .inr (11, [f0, f1, .ref nw, f3, f4, f5, f6])), (nw, .inr (10, [.int p0, .int p1, .int p2]))] H := hP
    have hD : va_D A [(o, .inl (cA, 1, .inr (.inl (vp_updL f 0 (Int32.toInt64 t0))))), (h, .inr (11, [f0, f1, .ref nw, f3, f4, f5, f6])), (nw, .inr (10, [.int p0, .int p1, .int p2]))] := hD
    refine lv_goto (tgt := 19) hx hb dL_weather_12 (by decide) ?_
    refine lv_iconst (v := 0) hx hb dL_weather_19 (by decide) ?_
    have hP9 := hP.sub (ws' := [(o, .inl (cA, 1, .inr (.inl (vp_updL f 0 (Int32.toInt64 t0)))))]) [0] rfl
    have hD9 := hD.sub (ws' := [(o, .inl (cA, 1, .inr (.inl (vp_updL f 0 (Int32.toInt64 t0)))))]) [0] (by decide) rfl
    refine W.widen (k := 3) (n := 18) (Nat.le_of_ble_eq_true rfl) (Nat.le_of_ble_eq_true rfl) ?_
    exact W.iret (v := 0) hx hb hr (fun t ht hW => ⟨⟨0, (vp_updL f 0 (Int32.toInt64 t0)), rfl, Or.inl ⟨rfl, hg, rfl⟩, by rw [ht]; exact hP9, hD9⟩, hS.F ht⟩) hS.2.2 dL_weather_20
set_option maxHeartbeats 4000000 in
set_option maxRecDepth 100000 in
/-- law: in its ranges, or IllegalArgumentException -/
theorem k_LF_law (l : Launch) (hst : l.stackTraces = false) (D : va_G) (h : Nat) (f0 f1 f2 f3 f6 : Value) (l0 n0 : Int32) (p0 : Int32) (p1 : Int32) (sz : Nat) : vx_Met l yX7_law (wsA yX7_law cX7_law 4 (some .int)) ({ frames := 7, cells := 2, slots := 12, locals := 104 }) (va_Pc [.ref h, .int p0, .int p1] (EV D [] [(h, .inr (11, [f0, f1, f2, f3, .int l0, .int n0, f6]))] sz)) (va_Qi (fun (r : Int32) (_ : Unit) => r = l0 ∧ (good p0 0 9999 ∧ good p1 0 999)) (fun _ t => va_P D vwCl [(h, .inr (11, [f0, f1, f2, f3, .int p0, .int p1, f6]))] t.heap ∧ va_D (va_A [(h, .inr (11, [f0, f1, f2, f3, .int l0, .int n0, f6]))] sz) [(h, .inr (11, [f0, f1, f2, f3, .int p0, .int p1, f6]))]) (va_A [(h, .inr (11, [f0, f1, f2, f3, .int l0, .int n0, f6]))] sz)) (XG "java/lang/IllegalArgumentException" (¬ (good p0 0 9999 ∧ good p1 0 999)) (va_A [(h, .inr (11, [f0, f1, f2, f3, .int l0, .int n0, f6]))] sz)) 2 12 (va_A [(h, .inr (11, [f0, f1, f2, f3, .int l0, .int n0, f6]))] sz) := by
  refine vx_ofW (cc := cX7_law) (maxL := 4) (ret := (some .int)) (ws' := lw_all) (by decide) rfl ?_
  intro p e s m args below meth c s₁ B hml hnt hv
  obtain ⟨rfl, hsz, hP, hK, hD0, hG, hZ0⟩ := hv
  have hx := B.exec
  have hb := B.bytes
  have hr := B.returns
  have hts0 := atoms_spec (ws := wsA yX7_law cX7_law 4 (some .int)) B.pre
  have hts : ∀ w ∈ lw_all, w.before _ s = true := fun w h => hts0 w (List.mem_cons_of_mem _ h)
  have hown : s.vm.findClass RX7 = some m.cls := findClass_of_methodNamed B.named
  have hlocks := B.notSynchronized
  subst hsz
  have hZ := ZZ.wide hP hZ0
  have hD := hD0.self (sz := s.heap.size)
  generalize hAe : va_A [(h, .inr (11, [f0, f1, f2, f3, .int l0, .int n0, f6]))] s.heap.size = A at hD hZ ⊢
  have hA : ∀ q : Nat, s.heap.size ≤ q → A q := fun q h => by rw [← hAe]; exact Or.inr h
  have hS : va_S A s.heap s.heap [] := va_S.rf
  have hP : va_P D vwCl [(h, .inr (11, [f0, f1, f2, f3, .int l0, .int n0, f6]))] s.heap := hP
  have hl := lv_entry ([.ref h, .int p0, .int p1]) (n := 4) (Nat.le_of_ble_eq_true rfl)
  rw [lg_entry_eq]
  generalize (lg_sl ([.ref h, .int p0, .int p1]) ++ List.replicate (4 - (lg_sl ([.ref h, .int p0, .int p1])).length) Slot.unset).toArray = ls at hl ⊢
  have hl : lv_has ls 4 [(0, .ref h), (1, .int p0), (2, .int p1)] := hl
  refine lv_iload_n hx hb dX7_law_0 rfl (lv_at hl 1 rfl) ?_
  refine lv_iconst (v := 0) hx hb dX7_law_1 (by decide) ?_
  refine lv_sipush (v := 9999) hx hb dX7_law_2 (by decide) ?_
  have hPc := hP.sub (ws' := []) [] rfl
  have hDc := hD.sub (ws' := []) [] (by decide) rfl
  have hKc := hK.sub (tys' := []) [] rfl
  refine vx_callv (vx_runS (As := [.int p0, .int 0, .int 9999]) (rest := []) ⟨hx, hb, hml, hown, hts⟩ (k_LF_checkRange l hst D p0 0 9999 s.heap.size) (va_cwS 3 hts (gS q677 q678 q1 (gA q679)) rfl rfl rfl (by decide +kernel) ⟨Nat.le_of_ble_eq_true rfl, Nat.le_of_ble_eq_true rfl⟩) ⟨EV.fb, fun U hU hW => ⟨rfl, EV.at hPc hKc hDc hG (hZ.no hS) U hU hW⟩⟩ rfl rfl hl.1 rfl (lv_room (Nat.le_of_ble_eq_true rfl)) dX7_law_5 ⟨Nat.le_of_ble_eq_true rfl, Nat.le_of_ble_eq_true rfl⟩) hS (fun q _ h => h.elim) (fun q h => h.elim) (fun q _ h => h.elim) (fun E ce q9 u t H1 locs1 ht hvm hpx_3 hBX hz1 hk1 hS hcell hcv hcl => ?_) (fun u t H1 locs ht hvm hw_2 hB hz1 hk1 hS => ?_)
  · have hP := P_kept hP hk1
    exact vx_out (fun x hx => (hnt x hx).elim) hlocks hcell hcv hcl (fun t ht _ => ⟨(), (fun z => hpx_3 z.1), hBX, hS.F ht⟩) (fun z hz => hS.2.2 z hz) (Nat.le_of_ble_eq_true rfl) (Nat.le_of_ble_eq_true rfl)
  · have hP := P_kept hP hk1
    generalize H1 = H at hP hS ⊢
    have hP : va_P D vwCl [(h, .inr (11, [f0, f1, f2, f3, .int l0, .int n0, f6]))] H := hP
    refine lv_iload_n hx hb dX7_law_8 rfl (lv_at hl 2 rfl) ?_
    refine lv_iconst (v := 0) hx hb dX7_law_9 (by decide) ?_
    refine lv_sipush (v := 999) hx hb dX7_law_10 (by decide) ?_
    have hPc := hP.sub (ws' := []) [] rfl
    have hDc := hD.sub (ws' := []) [] (by decide) rfl
    have hKc := hK.sub (tys' := []) [] rfl
    refine vx_callv (vx_runS (As := [.int p1, .int 0, .int 999]) (rest := []) ⟨hx, hb, hml, hown, hts⟩ (k_LF_checkRange l hst D p1 0 999 H.size) (va_cwS 3 hts (gS q677 q678 q1 (gA q679)) rfl rfl rfl (by decide +kernel) ⟨Nat.le_of_ble_eq_true rfl, Nat.le_of_ble_eq_true rfl⟩) ⟨EV.fb, fun U hU hW => ⟨rfl, EV.at hPc hKc hDc hG (hZ.no hS) U hU hW⟩⟩ rfl rfl hl.1 rfl (lv_room (Nat.le_of_ble_eq_true rfl)) dX7_law_13 ⟨Nat.le_of_ble_eq_true rfl, Nat.le_of_ble_eq_true rfl⟩) hS (fun q _ h => h.elim) (fun q h => h.elim) (fun q _ h => h.elim) (fun E ce q9 u t H1 locs1 ht hvm hpx_6 hBX hz1 hk1 hS hcell hcv hcl => ?_) (fun u t H1 locs ht hvm hw_5 hB hz1 hk1 hS => ?_)
    · have hP := P_kept hP hk1
      exact vx_out (fun x hx => (hnt x hx).elim) hlocks hcell hcv hcl (fun t ht _ => ⟨(), (fun z => hpx_6 z.2), hBX, hS.F ht⟩) (fun z hz => hS.2.2 z hz) (Nat.le_of_ble_eq_true rfl) (Nat.le_of_ble_eq_true rfl)
    · have hP := P_kept hP hk1
      generalize H1 = H at hP hS ⊢
      have hP : va_P D vwCl [(h, .inr (11, [f0, f1, f2, f3, .int l0, .int n0, f6]))] H := hP
      refine lv_aload_n hx hb dX7_law_16 rfl (lv_at hl 0 rfl) ?_
      refine va_get (D := D) (ci := 11) (v := .int l0) (C := RX7) (T := TX7) (N := 7) hx hb hts iwX7 hown hK hP 0 rfl rfl 4 (by decide) (hts _ q102) (fun _ h9 => h9) rfl dX7_law_17 ?_
      refine lv_istore_n (lv' := [(3, .int l0), (0, .ref h), (1, .int p0), (2, .int p1)]) hx hb dX7_law_20 rfl hl (by decide) rfl (fun ls hl => ?_)
      refine lv_aload_n hx hb dX7_law_21 rfl (lv_at hl 1 rfl) ?_
      refine lv_iload_n hx hb dX7_law_22 rfl (lv_at hl 2 rfl) ?_
      refine va_put (D := D) (ci := 11) (v := .int p0) (ty := .int) (C := RX7) (T := TX7) (N := 7) hx hb hts iwX7 tyX7 tyX7_ok nmX7 hown hK hP hD hS 0 rfl rfl 4 (by decide) (hts _ q102) (fun _ h9 => h9) rfl (by decide +kernel) rfl rfl (Nat.le_of_ble_eq_true rfl) dX7_law_23 (fun H locs hP hD hS => ?_)
      have hP : va_P D vwCl [(h, .inr (11, [f0, f1, f2, f3, .int p0, .int n0, f6]))] H := hP
      have hD : va_D A [(h, .inr (11, [f0, f1, f2, f3, .int p0, .int n0, f6]))] := hD
      refine lv_aload_n hx hb dX7_law_26 rfl (lv_at hl 1 rfl) ?_
      refine lv_iload_n hx hb dX7_law_27 rfl (lv_at hl 3 rfl) ?_
      refine va_put (D := D) (ci := 11) (v := .int p1) (ty := .int) (C := RX7) (T := TX7) (N := 7) hx hb hts iwX7 tyX7 tyX7_ok nmX7 hown hK hP hD hS 0 rfl rfl 5 (by decide) (hts _ q103) (fun _ h9 => h9) rfl (by decide +kernel) rfl rfl (Nat.le_of_ble_eq_true rfl) dX7_law_28 (fun H locs hP hD hS => ?_)
      have hP : va_P D vwCl [(h, .inr (11, [f0, f1, f2, f3, .int p0, .int p1, f6]))] H := hP
      have hD : va_D A [(h, .inr (11, [f0, f1, f2, f3, .int p0, .int p1, f6]))] := hD
      refine lv_iload_n hx hb dX7_law_31 rfl (lv_at hl 0 rfl) ?_
      have hP9 := hP.sub (ws' := [(h, .inr (11, [f0, f1, f2, f3, .int p0, .int p1, f6]))]) [0] rfl
      have hD9 := hD.sub (ws' := [(h, .inr (11, [f0, f1, f2, f3, .int p0, .int p1, f6]))]) [0] (by decide) rfl
      refine W.widen (k := 2) (n := 12) (Nat.le_of_ble_eq_true rfl) (Nat.le_of_ble_eq_true rfl) ?_
      refine vx_ret ?_
      exact W.iret (v := l0) hx hb hr (fun t ht hW => ⟨⟨l0, (), rfl, ⟨rfl, ⟨hw_2, hw_5⟩⟩, by rw [ht]; exact hP9, hD9⟩, hS.F ht⟩) hS.2.2 dX7_law_32
set_option maxHeartbeats 4000000 in
set_option maxRecDepth 100000 in
/-- the helper law -/
theorem k_LL_law (l : Launch) (hst : l.stackTraces = false) (D : va_G) (h : Nat) (f0 f1 f2 f3 f6 : Value) (l0 n0 : Int32) (p0 : Int32) (p1 : Int32) (o : Nat) (cA : ClassId) (f : Nat → Int64) (sz : Nat) : Met l yL_law (wsH yL_law cL_law 5 (some .int) [(0, 10, 13, 13)]) ({ frames := 8, cells := 2, slots := 12, locals := 127 }) (va_Pc [.ref h, .int p0, .int p1, .ref o] (EV D [(cA, .long)] [(h, .inr (11, [f0, f1, f2, f3, .int l0, .int n0, f6])), (o, .inl (cA, 1, .inr (.inl f)))] sz)) (va_Qi (fun (r : Int32) (u : Nat → Int64) => QH (good p0 0 9999 ∧ good p1 0 999) (Int32.toInt64 l0) r u) (fun u t => va_P D vwCl [(o, .inl (cA, 1, .inr (.inl u)))] t.heap ∧ va_D (va_A [(h, .inr (11, [f0, f1, f2, f3, .int l0, .int n0, f6])), (o, .inl (cA, 1, .inr (.inl f)))] sz) [(o, .inl (cA, 1, .inr (.inl u)))]) (va_A [(h, .inr (11, [f0, f1, f2, f3, .int l0, .int n0, f6])), (o, .inl (cA, 1, .inr (.inl f)))] sz)) 2 12 (va_A [(h, .inr (11, [f0, f1, f2, f3, .int l0, .int n0, f6])), (o, .inl (cA, 1, .inr (.inl f)))] sz) := by
  refine va_MetW (cc := cL_law) (maxL := 5) (ret := (some .int)) (hh := [(0, 10, 13, 13)]) (ws' := lw_all) (by decide) rfl ?_
  intro p e s m args below meth c s₁ B hml hv
  obtain ⟨rfl, hsz, hP, hK, hD0, hG, hZ0⟩ := hv
  have hx := B.exec
  have hb := B.bytes
  have hr := B.returns
  have hts0 := atoms_spec (ws := wsH yL_law cL_law 5 (some .int) [(0, 10, 13, 13)]) B.pre
  have hts : ∀ w ∈ lw_all, w.before _ s = true := fun w h => hts0 w (List.mem_cons_of_mem _ h)
  have hown : s.vm.findClass RL = some m.cls := findClass_of_methodNamed B.named
  have hlocks := B.notSynchronized
  have htab : c.exceptionTable.toList = tableOf [(0, 10, 13, 13)] := vx_table (x := objectInit) B (hts0 _ List.mem_cons_self)
  subst hsz
  have hZ := ZZ.wide hP hZ0
  have hD := hD0.self (sz := s.heap.size)
  generalize hAe : va_A [(h, .inr (11, [f0, f1, f2, f3, .int l0, .int n0, f6])), (o, .inl (cA, 1, .inr (.inl f)))] s.heap.size = A at hD hZ ⊢
  have hA : ∀ q : Nat, s.heap.size ≤ q → A q := fun q h => by rw [← hAe]; exact Or.inr h
  have hS : va_S A s.heap s.heap [] := va_S.rf
  have hP : va_P D vwCl [(h, .inr (11, [f0, f1, f2, f3, .int l0, .int n0, f6])), (o, .inl (cA, 1, .inr (.inl f)))] s.heap := hP
  have hl := lv_entry ([.ref h, .int p0, .int p1, .ref o]) (n := 5) (Nat.le_of_ble_eq_true rfl)
  rw [lg_entry_eq]
  generalize (lg_sl ([.ref h, .int p0, .int p1, .ref o]) ++ List.replicate (5 - (lg_sl ([.ref h, .int p0, .int p1, .ref o])).length) Slot.unset).toArray = ls at hl ⊢
  have hl : lv_has ls 5 [(0, .ref h), (1, .int p0), (2, .int p1), (3, .ref o)] := hl
  refine lv_aload_n hx hb dL_law_0 rfl (lv_at hl 3 rfl) ?_
  refine lv_iconst (v := 0) hx hb dL_law_1 (by decide) ?_
  refine lv_aload_n hx hb dL_law_2 rfl (lv_at hl 0 rfl) ?_
  refine lv_iload_n hx hb dL_law_3 rfl (lv_at hl 1 rfl) ?_
  refine lv_iload_n hx hb dL_law_4 rfl (lv_at hl 2 rfl) ?_
  have hPc := hP.sub (ws' := [(h, .inr (11, [f0, f1, f2, f3, .int l0, .int n0, f6]))]) [0] rfl
  have hDc := hD.sub (ws' := [(h, .inr (11, [f0, f1, f2, f3, .int l0, .int n0, f6]))]) [0] (by decide) rfl
  have hKc := hK.sub (tys' := []) [] rfl
  have hFc := va_free (wc := [(h, .inr (11, [f0, f1, f2, f3, .int l0, .int n0, f6]))]) hD hS hA [0] rfl
  refine vx_calli (vx_runV (As := [.int p0, .int p1]) (rest := [.int 0, .ref o]) ⟨hx, hb, hml, hown, hts⟩ (k_LF_law l hst D h f0 f1 f2 f3 f6 l0 n0 p0 p1 s.heap.size) (cwV 2 hts (gV q917 q918 q919 q1 (gA q920)) rfl rfl rfl (by decide +kernel) ⟨Nat.le_of_ble_eq_true rfl, Nat.le_of_ble_eq_true rfl⟩) ⟨EV.fb, va_recv hKc hPc (ci := 11) (q0 := 0) rfl rfl, fun U hU hW => ⟨rfl, EV.at hPc hKc hDc hG (hZ.no hS) U hU hW⟩⟩ rfl rfl hl.1 rfl (lv_room (Nat.le_of_ble_eq_true rfl)) dL_law_5 ⟨Nat.le_of_ble_eq_true rfl, Nat.le_of_ble_eq_true rfl⟩) hS (fun q _ h => hFc q h) hFc (fun q _ h => hFc q h) (fun E ce q9 u t H1 locs1 ht hvm hpx_3 hBX hz1 hk1 hS hcell hcv hcl => ?_) (fun r_1 u t H1 locs ht hvm hw_2 hB hz1 hk1 hS => ?_)
  · obtain ⟨hP, hD⟩ := va_join (wr := [(o, .inl (cA, 1, .inr (.inl f)))]) (w1 := []) hP hD [0] [1] rfl rfl (by decide) (by decide) hk1 hFc P_nil D_nil
    subst hBX
    refine vx_catch (own := RL) (name := "java/lang/IllegalArgumentException") (E := "java/lang/IllegalArgumentException") hown [] ⟨0, 10, 13, 13⟩ [] (by rw [htab]; rfl) (fun z hz => absurd hz List.not_mem_nil) rfl (by decide) (hts _ q410) (hG.use t418) hcell hcv hcl ?_
    generalize H1 = H at hP hS ⊢
    have hP : va_P D vwCl [(o, .inl (cA, 1, .inr (.inl f)))] H := hP
    refine lv_astore (lv' := [(4, .ref q9), (0, .ref h), (1, .int p0), (2, .int p1), (3, .ref o)]) hx hb dL_law_13 hl (by decide) rfl (fun ls hl => ?_)
    refine lv_iconst (v := 1) hx hb dL_law_15 (by decide) ?_
    have hP9 := hP.sub (ws' := [(o, .inl (cA, 1, .inr (.inl f)))]) [0] rfl
    have hD9 := hD.sub (ws' := [(o, .inl (cA, 1, .inr (.inl f)))]) [0] (by decide) rfl
    refine W.widen (k := 2) (n := 12) (Nat.le_of_ble_eq_true rfl) (Nat.le_of_ble_eq_true rfl) ?_
    exact W.iret (v := 1) hx hb hr (fun t ht hW => ⟨⟨1, f, rfl, Or.inr ⟨rfl, hpx_3⟩, by rw [ht]; exact hP9, hD9⟩, hS.F ht⟩) hS.2.2 dL_law_16
  · obtain ⟨hP1, hD1⟩ := hB
    rw [ht] at hP1
    obtain ⟨hP, hD⟩ := va_join (wr := [(o, .inl (cA, 1, .inr (.inl f)))]) (w1 := [(h, .inr (11, [f0, f1, f2, f3, .int p0, .int p1, f6]))]) hP hD [0] [1] rfl rfl (by decide) (by decide) hk1 hFc hP1 hD1
    generalize H1 = H at hP hS ⊢
    have hP : va_P D vwCl [(o, .inl (cA, 1, .inr (.inl f))), (h, .inr (11, [f0, f1, f2, f3, .int p0, .int p1, f6]))] H := hP
    have hD : va_D A [(o, .inl (cA, 1, .inr (.inl f))), (h, .inr (11, [f0, f1, f2, f3, .int p0, .int p1, f6]))] := hD
    obtain ⟨er, hg⟩ := hw_2
    rw [er]
    refine lv_i2l hx hb dL_law_8 rfl ?_
    refine va_last hx hb hK hP hD hS 0 0 rfl rfl (x := (Int32.toInt64 l0)) (by unfold vp_in; decide) dL_law_9 (fun H locs hP hD hS => ?_)
    have hP : va_P D vwCl [(o, .inl (cA, 1, .inr (.inl (vp_updL f 0 (Int32.toInt64 l0))))), (h, .inr (11, [f0, f1, f2, f3, .int p0, .int p1, f6]))] H := hP
    have hD : va_D A [(o, .inl (cA, 1, .inr (.inl (vp_updL f 0 (Int32.toInt64 l0))))), (h, .inr (11, [f0, f1, f2, f3, .int p0, .int p1, f6]))] := hD
    refine lv_goto (tgt := 17) hx hb dL_law_10 (by decide) ?_
    refine lv_iconst (v := 0) hx hb dL_law_17 (by decide) ?_
    have hP9 := hP.sub (ws' := [(o, .inl (cA, 1, .inr (.inl (vp_updL f 0 (Int32.toInt64 l0)))))]) [0] rfl
    have hD9 := hD.sub (ws' := [(o, .inl (cA, 1, .inr (.inl (vp_updL f 0 (Int32.toInt64 l0)))))]) [0] (by decide) rfl
    refine W.widen (k := 2) (n := 12) (Nat.le_of_ble_eq_true rfl) (Nat.le_of_ble_eq_true rfl) ?_
    exact W.iret (v := 0) hx hb hr (fun t ht hW => ⟨⟨0, (vp_updL f 0 (Int32.toInt64 l0)), rfl, Or.inl ⟨rfl, hg, rfl⟩, by rw [ht]; exact hP9, hD9⟩, hS.F ht⟩) hS.2.2 dL_law_18
set_option maxHeartbeats 4000000 in
set_option maxRecDepth 100000 in
/-- missing on the fresh object -/
theorem k_LF_missing (l : Launch) (D : va_G) (h : Nat) (cs : Nat) (f1 f2 f3 f4 f5 f6 : Value) (md : Int32) (ed : Value) (sz : Nat) : Met l yX7_missing (wsA yX7_missing cX7_missing 4 (some .long)) ({ frames := 1, cells := 0, slots := 0, locals := 20 }) (va_Pc [.ref h] (EV D [] [(h, .inr (11, [.ref cs, f1, f2, f3, f4, f5, f6])), (cs, .inr (4, [.int md, ed, .int 0]))] sz)) (va_Ql (fun (r : Int64) (_ : Unit) => r = 0) (fun _ _ => True) NoA) 0 0 NoA := by
  refine Met.ofW (cc := cX7_missing) (maxL := 4) (ret := (some .long)) (by decide) rfl ?_
  intro p e s m args below meth c s₁ B hml hv
  obtain ⟨rfl, hsz, hP, hK, hD0, hG, hZ0⟩ := hv
  have hx := B.exec
  have hb := B.bytes
  have hr := B.returns
  have hts0 := atoms_spec (ws := wsA yX7_missing cX7_missing 4 (some .long)) B.pre
  have hts : ∀ w ∈ lw_all, w.before _ s = true := fun w h => hts0 w (List.mem_cons_of_mem _ h)
  have hown : s.vm.findClass RX7 = some m.cls := findClass_of_methodNamed B.named
  have hlocks := B.notSynchronized
  subst hsz
  have hD : va_D (fun _ => True) [(h, .inr (11, [.ref cs, f1, f2, f3, f4, f5, f6])), (cs, .inr (4, [.int md, ed, .int 0]))] := hD0
  have hZ : ZZ NoA s s.heap := hZ0
  have hS : va_S NoA s.heap s.heap [] := va_S.rf
  have hP : va_P D vwCl [(h, .inr (11, [.ref cs, f1, f2, f3, f4, f5, f6])), (cs, .inr (4, [.int md, ed, .int 0]))] s.heap := hP
  have hl := lv_entry ([.ref h]) (n := 4) (Nat.le_of_ble_eq_true rfl)
  rw [lg_entry_eq]
  generalize (lg_sl ([.ref h]) ++ List.replicate (4 - (lg_sl ([.ref h])).length) Slot.unset).toArray = ls at hl ⊢
  have hl : lv_has ls 4 [(0, .ref h)] := hl
  refine lv_lconst (v := 0) hx hb dX7_missing_0 (by decide) ?_
  refine lv_lstore_n (lv' := [(1, .long 0), (0, .ref h)]) hx hb dX7_missing_1 rfl hl (by decide) rfl (fun ls hl => ?_)
  refine lv_iconst (v := 0) hx hb dX7_missing_2 (by decide) ?_
  refine lv_istore_n (lv' := [(3, .int 0), (1, .long 0), (0, .ref h)]) hx hb dX7_missing_3 rfl hl (by decide) rfl (fun ls hl => ?_)
  refine lv_iload_n hx hb dX7_missing_4 rfl (lv_at hl 0 rfl) ?_
  refine lv_aload_n hx hb dX7_missing_5 rfl (lv_at hl 2 rfl) ?_
  refine va_get (D := D) (ci := 11) (v := .ref cs) (C := RX7) (T := TX7) (N := 7) hx hb hts iwX7 hown hK hP 0 rfl rfl 0 (by decide) (hts _ q98) (fun _ h9 => h9) rfl dX7_missing_6 ?_
  have hPc := hP.sub (ws' := [(cs, .inr (4, [.int md, ed, .int 0]))]) [1] rfl
  have hDc := hD.sub (ws' := [(cs, .inr (4, [.int md, ed, .int 0]))]) [1] (by decide) rfl
  have hKc := hK.sub (tys' := []) [] rfl
  refine va_calli (va_runV (As := []) (rest := [.int 0]) ⟨hx, hb, hml, hown, hts⟩ (k_AL_size l D cs md (ed) 0 s.heap.size) (cwV 0 hts (gV q125 q126 q127 q4 (gA q128)) rfl rfl rfl (by decide +kernel) ⟨Nat.le_of_ble_eq_true rfl, Nat.le_of_ble_eq_true rfl⟩) ⟨EV.fb, va_recv hKc hPc (ci := 4) (q0 := 0) rfl rfl, fun U hU hW => ⟨rfl, EV.at hPc hKc hDc hG (hZ.no hS) U hU hW⟩⟩ rfl rfl hl.1 rfl (lv_room (Nat.le_of_ble_eq_true rfl)) dX7_missing_9 ⟨Nat.le_of_ble_eq_true rfl, Nat.le_of_ble_eq_true rfl⟩) hS (fun q _ h => h.elim) (fun q h => h.elim) (fun r_1 u t H1 locs ht hvm hw hB hz1 hk1 hS => ?_)
  have hP := P_kept hP hk1
  generalize H1 = H at hP hS ⊢
  have hP : va_P D vwCl [(h, .inr (11, [.ref cs, f1, f2, f3, f4, f5, f6])), (cs, .inr (4, [.int md, ed, .int 0]))] H := hP
  subst hw
  refine lv_icmp_ge (tgt := 38) hx hb dX7_missing_12 (by decide) (fun c_2 => ?_) (fun c_2 => ?_)
  · refine lv_lload_n hx hb dX7_missing_38 rfl (lv_at hl 1 rfl) ?_
    exact W.lret (v := 0) hx hb hr (fun t ht hW => ⟨⟨0, (), rfl, rfl, trivial⟩, hS.F ht⟩) hS.2.2 dX7_missing_39
  · exact absurd (by decide) c_2
set_option maxHeartbeats 4000000 in
set_option maxRecDepth 100000 in
/-- checksum on the fresh object -/
theorem k_LF_checksum (l : Launch) (D : va_G) (h : Nat) (cs : Nat) (f1 f2 f3 f4 f5 f6 : Value) (md : Int32) (ed : Value) (sz : Nat) : Met l yX7_checksum (wsA yX7_checksum cX7_checksum 7 (some .long)) ({ frames := 1, cells := 0, slots := 0, locals := 20 }) (va_Pc [.ref h] (EV D [] [(h, .inr (11, [.ref cs, f1, f2, f3, f4, f5, f6])), (cs, .inr (4, [.int md, ed, .int 0]))] sz)) (va_Ql (fun (r : Int64) (_ : Unit) => r = 7) (fun _ _ => True) NoA) 0 0 NoA := by
  refine Met.ofW (cc := cX7_checksum) (maxL := 7) (ret := (some .long)) (by decide) rfl ?_
  intro p e s m args below meth c s₁ B hml hv
  obtain ⟨rfl, hsz, hP, hK, hD0, hG, hZ0⟩ := hv
  have hx := B.exec
  have hb := B.bytes
  have hr := B.returns
  have hts0 := atoms_spec (ws := wsA yX7_checksum cX7_checksum 7 (some .long)) B.pre
  have hts : ∀ w ∈ lw_all, w.before _ s = true := fun w h => hts0 w (List.mem_cons_of_mem _ h)
  have hown : s.vm.findClass RX7 = some m.cls := findClass_of_methodNamed B.named
  have hlocks := B.notSynchronized
  subst hsz
  have hD : va_D (fun _ => True) [(h, .inr (11, [.ref cs, f1, f2, f3, f4, f5, f6])), (cs, .inr (4, [.int md, ed, .int 0]))] := hD0
  have hZ : ZZ NoA s s.heap := hZ0
  have hS : va_S NoA s.heap s.heap [] := va_S.rf
  have hP : va_P D vwCl [(h, .inr (11, [.ref cs, f1, f2, f3, f4, f5, f6])), (cs, .inr (4, [.int md, ed, .int 0]))] s.heap := hP
  have hl := lv_entry ([.ref h]) (n := 7) (Nat.le_of_ble_eq_true rfl)
  rw [lg_entry_eq]
  generalize (lg_sl ([.ref h]) ++ List.replicate (7 - (lg_sl ([.ref h])).length) Slot.unset).toArray = ls at hl ⊢
  have hl : lv_has ls 7 [(0, .ref h)] := hl
  refine lv_ldc2 (v := 7) hx hb hown (hts _ q159) dX7_checksum_0 ?_
  refine lv_lstore_n (lv' := [(1, .long 7), (0, .ref h)]) hx hb dX7_checksum_3 rfl hl (by decide) rfl (fun ls hl => ?_)
  refine lv_iconst (v := 0) hx hb dX7_checksum_4 (by decide) ?_
  refine lv_istore_n (lv' := [(3, .int 0), (1, .long 7), (0, .ref h)]) hx hb dX7_checksum_5 rfl hl (by decide) rfl (fun ls hl => ?_)
  refine lv_iload_n hx hb dX7_checksum_6 rfl (lv_at hl 0 rfl) ?_
  refine lv_aload_n hx hb dX7_checksum_7 rfl (lv_at hl 2 rfl) ?_
  refine va_get (D := D) (ci := 11) (v := .ref cs) (C := RX7) (T := TX7) (N := 7) hx hb hts iwX7 hown hK hP 0 rfl rfl 0 (by decide) (hts _ q98) (fun _ h9 => h9) rfl dX7_checksum_8 ?_
  have hPc := hP.sub (ws' := [(cs, .inr (4, [.int md, ed, .int 0]))]) [1] rfl
  have hDc := hD.sub (ws' := [(cs, .inr (4, [.int md, ed, .int 0]))]) [1] (by decide) rfl
  have hKc := hK.sub (tys' := []) [] rfl
  refine va_calli (va_runV (As := []) (rest := [.int 0]) ⟨hx, hb, hml, hown, hts⟩ (k_AL_size l D cs md (ed) 0 s.heap.size) (cwV 0 hts (gV q125 q126 q127 q4 (gA q128)) rfl rfl rfl (by decide +kernel) ⟨Nat.le_of_ble_eq_true rfl, Nat.le_of_ble_eq_true rfl⟩) ⟨EV.fb, va_recv hKc hPc (ci := 4) (q0 := 0) rfl rfl, fun U hU hW => ⟨rfl, EV.at hPc hKc hDc hG (hZ.no hS) U hU hW⟩⟩ rfl rfl hl.1 rfl (lv_room (Nat.le_of_ble_eq_true rfl)) dX7_checksum_11 ⟨Nat.le_of_ble_eq_true rfl, Nat.le_of_ble_eq_true rfl⟩) hS (fun q _ h => h.elim) (fun q h => h.elim) (fun r_1 u t H1 locs ht hvm hw hB hz1 hk1 hS => ?_)
  have hP := P_kept hP hk1
  generalize H1 = H at hP hS ⊢
  have hP : va_P D vwCl [(h, .inr (11, [.ref cs, f1, f2, f3, f4, f5, f6])), (cs, .inr (4, [.int md, ed, .int 0]))] H := hP
  subst hw
  refine lv_icmp_ge (tgt := 143) hx hb dX7_checksum_14 (by decide) (fun c_2 => ?_) (fun c_2 => ?_)
  · refine lv_lload_n hx hb dX7_checksum_143 rfl (lv_at hl 1 rfl) ?_
    exact W.lret (v := 7) hx hb hr (fun t ht hW => ⟨⟨7, (), rfl, rfl, trivial⟩, hS.F ht⟩) hS.2.2 dX7_checksum_144
  · exact absurd (by decide) c_2
set_option maxHeartbeats 4000000 in
set_option maxRecDepth 100000 in
/-- isTrue on the fresh object -/
theorem k_LF_isTrue (l : Launch) (D : va_G) (h : Nat) (cs : Nat) (f1 f2 f3 f4 f5 f6 : Value) (md : Int32) (ed : Value) (sz : Nat) : Met l yX7_isTrue (wsA yX7_isTrue cX7_isTrue 3 (some .boolean)) ({ frames := 2, cells := 0, slots := 0, locals := 43 }) (va_Pc [.ref h] (EV D [] [(h, .inr (11, [.ref cs, f1, f2, f3, f4, f5, f6])), (cs, .inr (4, [.int md, ed, .int 0]))] sz)) (va_Qi (fun (r : Int32) (_ : Unit) => r = 1) (fun _ _ => True) NoA) 0 0 NoA := by
  refine Met.ofW (cc := cX7_isTrue) (maxL := 3) (ret := (some .boolean)) (by decide) rfl ?_
  intro p e s m args below meth c s₁ B hml hv
  obtain ⟨rfl, hsz, hP, hK, hD0, hG, hZ0⟩ := hv
  have hx := B.exec
  have hb := B.bytes
  have hr := B.returns
  have hts0 := atoms_spec (ws := wsA yX7_isTrue cX7_isTrue 3 (some .boolean)) B.pre
  have hts : ∀ w ∈ lw_all, w.before _ s = true := fun w h => hts0 w (List.mem_cons_of_mem _ h)
  have hown : s.vm.findClass RX7 = some m.cls := findClass_of_methodNamed B.named
  have hlocks := B.notSynchronized
  subst hsz
  have hD : va_D (fun _ => True) [(h, .inr (11, [.ref cs, f1, f2, f3, f4, f5, f6])), (cs, .inr (4, [.int md, ed, .int 0]))] := hD0
  have hZ : ZZ NoA s s.heap := hZ0
  have hS : va_S NoA s.heap s.heap [] := va_S.rf
  have hP : va_P D vwCl [(h, .inr (11, [.ref cs, f1, f2, f3, f4, f5, f6])), (cs, .inr (4, [.int md, ed, .int 0]))] s.heap := hP
  have hl := lv_entry ([.ref h]) (n := 3) (Nat.le_of_ble_eq_true rfl)
  rw [lg_entry_eq]
  generalize (lg_sl ([.ref h]) ++ List.replicate (3 - (lg_sl ([.ref h])).length) Slot.unset).toArray = ls at hl ⊢
  have hl : lv_has ls 3 [(0, .ref h)] := hl
  refine lv_aload_n hx hb dX7_isTrue_0 rfl (lv_at hl 0 rfl) ?_
  have hPc := hP.sub (ws' := [(h, .inr (11, [.ref cs, f1, f2, f3, f4, f5, f6])), (cs, .inr (4, [.int md, ed, .int 0]))]) [0, 1] rfl
  have hDc := hD.sub (ws' := [(h, .inr (11, [.ref cs, f1, f2, f3, f4, f5, f6])), (cs, .inr (4, [.int md, ed, .int 0]))]) [0, 1] (by decide) rfl
  have hKc := hK.sub (tys' := []) [] rfl
  refine va_calll (va_runV (As := []) (rest := []) ⟨hx, hb, hml, hown, hts⟩ (k_LF_missing l D h cs f1 f2 f3 f4 f5 f6 md (ed)  s.heap.size) (cwV 0 hts (gV q170 q122 q123 q1 (gA q124)) rfl rfl rfl (by decide +kernel) ⟨Nat.le_of_ble_eq_true rfl, Nat.le_of_ble_eq_true rfl⟩) ⟨EV.fb, va_recv hKc hPc (ci := 11) (q0 := 0) rfl rfl, fun U hU hW => ⟨rfl, EV.at hPc hKc hDc hG (hZ.no hS) U hU hW⟩⟩ rfl rfl hl.1 rfl (lv_room (Nat.le_of_ble_eq_true rfl)) dX7_isTrue_1 ⟨Nat.le_of_ble_eq_true rfl, Nat.le_of_ble_eq_true rfl⟩) hS (fun q _ h => h.elim) (fun q h => h.elim) (fun r_1 u t H1 locs ht hvm hw hB hz1 hk1 hS => ?_)
  have hP := P_kept hP hk1
  generalize H1 = H at hP hS ⊢
  have hP : va_P D vwCl [(h, .inr (11, [.ref cs, f1, f2, f3, f4, f5, f6])), (cs, .inr (4, [.int md, ed, .int 0]))] H := hP
  subst hw
  refine lv_lconst (v := 0) hx hb dX7_isTrue_4 (by decide) ?_
  refine W.lcmp hx hb dX7_isTrue_5 ?_
  refine lv_if_eq (tgt := 11) hx hb dX7_isTrue_6 (by decide) (fun c_2 => ?_) (fun c_2 => ?_)
  · refine lv_iconst (v := 0) hx hb dX7_isTrue_11 (by decide) ?_
    refine lv_istore_n (lv' := [(1, .int 0), (0, .ref h)]) hx hb dX7_isTrue_12 rfl hl (by decide) rfl (fun ls hl => ?_)
    refine lv_iload_n hx hb dX7_isTrue_13 rfl (lv_at hl 0 rfl) ?_
    refine lv_aload_n hx hb dX7_isTrue_14 rfl (lv_at hl 1 rfl) ?_
    refine va_get (D := D) (ci := 11) (v := .ref cs) (C := RX7) (T := TX7) (N := 7) hx hb hts iwX7 hown hK hP 0 rfl rfl 0 (by decide) (hts _ q98) (fun _ h9 => h9) rfl dX7_isTrue_15 ?_
    have hPc := hP.sub (ws' := [(cs, .inr (4, [.int md, ed, .int 0]))]) [1] rfl
    have hDc := hD.sub (ws' := [(cs, .inr (4, [.int md, ed, .int 0]))]) [1] (by decide) rfl
    have hKc := hK.sub (tys' := []) [] rfl
    refine va_calli (va_runV (As := []) (rest := [.int 0]) ⟨hx, hb, hml, hown, hts⟩ (k_AL_size l D cs md (ed) 0 H.size) (cwV 0 hts (gV q125 q126 q127 q4 (gA q128)) rfl rfl rfl (by decide +kernel) ⟨Nat.le_of_ble_eq_true rfl, Nat.le_of_ble_eq_true rfl⟩) ⟨EV.fb, va_recv hKc hPc (ci := 4) (q0 := 0) rfl rfl, fun U hU hW => ⟨rfl, EV.at hPc hKc hDc hG (hZ.no hS) U hU hW⟩⟩ rfl rfl hl.1 rfl (lv_room (Nat.le_of_ble_eq_true rfl)) dX7_isTrue_18 ⟨Nat.le_of_ble_eq_true rfl, Nat.le_of_ble_eq_true rfl⟩) hS (fun q _ h => h.elim) (fun q h => h.elim) (fun r_3 u t H1 locs ht hvm hw hB hz1 hk1 hS => ?_)
    have hP := P_kept hP hk1
    generalize H1 = H at hP hS ⊢
    have hP : va_P D vwCl [(h, .inr (11, [.ref cs, f1, f2, f3, f4, f5, f6])), (cs, .inr (4, [.int md, ed, .int 0]))] H := hP
    subst hw
    refine lv_icmp_ge (tgt := 66) hx hb dX7_isTrue_21 (by decide) (fun c_4 => ?_) (fun c_4 => ?_)
    · refine lv_iconst (v := 1) hx hb dX7_isTrue_66 (by decide) ?_
      exact W.zret (v := 1) hx hb hr rfl (fun t ht hW => ⟨⟨1, (), rfl, rfl, trivial⟩, hS.F ht⟩) hS.2.2 dX7_isTrue_67
    · exact absurd (by decide) c_4
  · exact absurd (by decide) c_2
set_option maxHeartbeats 4000000 in
set_option maxRecDepth 100000 in
/-- layersInAll on the fresh object -/
theorem k_LF_layersInAll (l : Launch) (D : va_G) (h : Nat) (cs : Nat) (f1 f2 f3 f4 f5 f6 : Value) (md : Int32) (ed : Value) (sz : Nat) : Met l yX7_layersInAll (wsA yX7_layersInAll cX7_layersInAll 3 (some .int)) ({ frames := 1, cells := 0, slots := 0, locals := 20 }) (va_Pc [.ref h] (EV D [] [(h, .inr (11, [.ref cs, f1, f2, f3, f4, f5, f6])), (cs, .inr (4, [.int md, ed, .int 0]))] sz)) (va_Qi (fun (r : Int32) (_ : Unit) => r = 0) (fun _ _ => True) NoA) 0 0 NoA := by
  refine Met.ofW (cc := cX7_layersInAll) (maxL := 3) (ret := (some .int)) (by decide) rfl ?_
  intro p e s m args below meth c s₁ B hml hv
  obtain ⟨rfl, hsz, hP, hK, hD0, hG, hZ0⟩ := hv
  have hx := B.exec
  have hb := B.bytes
  have hr := B.returns
  have hts0 := atoms_spec (ws := wsA yX7_layersInAll cX7_layersInAll 3 (some .int)) B.pre
  have hts : ∀ w ∈ lw_all, w.before _ s = true := fun w h => hts0 w (List.mem_cons_of_mem _ h)
  have hown : s.vm.findClass RX7 = some m.cls := findClass_of_methodNamed B.named
  have hlocks := B.notSynchronized
  subst hsz
  have hD : va_D (fun _ => True) [(h, .inr (11, [.ref cs, f1, f2, f3, f4, f5, f6])), (cs, .inr (4, [.int md, ed, .int 0]))] := hD0
  have hZ : ZZ NoA s s.heap := hZ0
  have hS : va_S NoA s.heap s.heap [] := va_S.rf
  have hP : va_P D vwCl [(h, .inr (11, [.ref cs, f1, f2, f3, f4, f5, f6])), (cs, .inr (4, [.int md, ed, .int 0]))] s.heap := hP
  have hl := lv_entry ([.ref h]) (n := 3) (Nat.le_of_ble_eq_true rfl)
  rw [lg_entry_eq]
  generalize (lg_sl ([.ref h]) ++ List.replicate (3 - (lg_sl ([.ref h])).length) Slot.unset).toArray = ls at hl ⊢
  have hl : lv_has ls 3 [(0, .ref h)] := hl
  refine lv_iconst (v := 0) hx hb dX7_layersInAll_0 (by decide) ?_
  refine lv_istore_n (lv' := [(1, .int 0), (0, .ref h)]) hx hb dX7_layersInAll_1 rfl hl (by decide) rfl (fun ls hl => ?_)
  refine lv_iconst (v := 0) hx hb dX7_layersInAll_2 (by decide) ?_
  refine lv_istore_n (lv' := [(2, .int 0), (1, .int 0), (0, .ref h)]) hx hb dX7_layersInAll_3 rfl hl (by decide) rfl (fun ls hl => ?_)
  refine lv_iload_n hx hb dX7_layersInAll_4 rfl (lv_at hl 0 rfl) ?_
  refine lv_aload_n hx hb dX7_layersInAll_5 rfl (lv_at hl 2 rfl) ?_
  refine va_get (D := D) (ci := 11) (v := .ref cs) (C := RX7) (T := TX7) (N := 7) hx hb hts iwX7 hown hK hP 0 rfl rfl 0 (by decide) (hts _ q98) (fun _ h9 => h9) rfl dX7_layersInAll_6 ?_
  have hPc := hP.sub (ws' := [(cs, .inr (4, [.int md, ed, .int 0]))]) [1] rfl
  have hDc := hD.sub (ws' := [(cs, .inr (4, [.int md, ed, .int 0]))]) [1] (by decide) rfl
  have hKc := hK.sub (tys' := []) [] rfl
  refine va_calli (va_runV (As := []) (rest := [.int 0]) ⟨hx, hb, hml, hown, hts⟩ (k_AL_size l D cs md (ed) 0 s.heap.size) (cwV 0 hts (gV q125 q126 q127 q4 (gA q128)) rfl rfl rfl (by decide +kernel) ⟨Nat.le_of_ble_eq_true rfl, Nat.le_of_ble_eq_true rfl⟩) ⟨EV.fb, va_recv hKc hPc (ci := 4) (q0 := 0) rfl rfl, fun U hU hW => ⟨rfl, EV.at hPc hKc hDc hG (hZ.no hS) U hU hW⟩⟩ rfl rfl hl.1 rfl (lv_room (Nat.le_of_ble_eq_true rfl)) dX7_layersInAll_9 ⟨Nat.le_of_ble_eq_true rfl, Nat.le_of_ble_eq_true rfl⟩) hS (fun q _ h => h.elim) (fun q h => h.elim) (fun r_1 u t H1 locs ht hvm hw hB hz1 hk1 hS => ?_)
  have hP := P_kept hP hk1
  generalize H1 = H at hP hS ⊢
  have hP : va_P D vwCl [(h, .inr (11, [.ref cs, f1, f2, f3, f4, f5, f6])), (cs, .inr (4, [.int md, ed, .int 0]))] H := hP
  subst hw
  refine lv_icmp_ge (tgt := 41) hx hb dX7_layersInAll_12 (by decide) (fun c_2 => ?_) (fun c_2 => ?_)
  · refine lv_iload_n hx hb dX7_layersInAll_41 rfl (lv_at hl 1 rfl) ?_
    exact W.iret (v := 0) hx hb hr (fun t ht hW => ⟨⟨0, (), rfl, rfl, trivial⟩, hS.F ht⟩) hS.2.2 dX7_layersInAll_42
  · exact absurd (by decide) c_2
set_option maxHeartbeats 4000000 in
set_option maxRecDepth 100000 in
/-- frozenShare on the fresh object: always ArithmeticException -/
theorem k_LF_frozenShare (l : Launch) (hst : l.stackTraces = false) (D : va_G) (h : Nat) (cs : Nat) (f1 f2 f3 f4 f5 f6 : Value) (md : Int32) (ed : Value) (sz : Nat) : vx_Met l yX7_frozenShare (wsA yX7_frozenShare cX7_frozenShare 4 (some .float)) ({ frames := 6, cells := 1, slots := 6, locals := 82 }) (va_Pc [.ref h] (EV D [] [(h, .inr (11, [.ref cs, f1, f2, f3, f4, f5, f6])), (cs, .inr (4, [.int md, ed, .int 0]))] sz)) QX (XX "java/lang/ArithmeticException") 1 6 NoA := by
  refine vx_ofW (cc := cX7_frozenShare) (maxL := 4) (ret := (some .float)) (ws' := lw_all) (by decide) rfl ?_
  intro p e s m args below meth c s₁ B hml hnt hv
  obtain ⟨rfl, hsz, hP, hK, hD0, hG, hZ0⟩ := hv
  have hx := B.exec
  have hb := B.bytes
  have hr := B.returns
  have hts0 := atoms_spec (ws := wsA yX7_frozenShare cX7_frozenShare 4 (some .float)) B.pre
  have hts : ∀ w ∈ lw_all, w.before _ s = true := fun w h => hts0 w (List.mem_cons_of_mem _ h)
  have hown : s.vm.findClass RX7 = some m.cls := findClass_of_methodNamed B.named
  have hlocks := B.notSynchronized
  subst hsz
  have hD : va_D (fun _ => True) [(h, .inr (11, [.ref cs, f1, f2, f3, f4, f5, f6])), (cs, .inr (4, [.int md, ed, .int 0]))] := hD0
  have hZ : ZZ NoA s s.heap := hZ0
  have hS : va_S NoA s.heap s.heap [] := va_S.rf
  have hP : va_P D vwCl [(h, .inr (11, [.ref cs, f1, f2, f3, f4, f5, f6])), (cs, .inr (4, [.int md, ed, .int 0]))] s.heap := hP
  have hl := lv_entry ([.ref h]) (n := 4) (Nat.le_of_ble_eq_true rfl)
  rw [lg_entry_eq]
  generalize (lg_sl ([.ref h]) ++ List.replicate (4 - (lg_sl ([.ref h])).length) Slot.unset).toArray = ls at hl ⊢
  have hl : lv_has ls 4 [(0, .ref h)] := hl
  refine lv_aload_n hx hb dX7_frozenShare_0 rfl (lv_at hl 0 rfl) ?_
  have hPc := hP.sub (ws' := [(h, .inr (11, [.ref cs, f1, f2, f3, f4, f5, f6])), (cs, .inr (4, [.int md, ed, .int 0]))]) [0, 1] rfl
  have hDc := hD.sub (ws' := [(h, .inr (11, [.ref cs, f1, f2, f3, f4, f5, f6])), (cs, .inr (4, [.int md, ed, .int 0]))]) [0, 1] (by decide) rfl
  have hKc := hK.sub (tys' := []) [] rfl
  refine va_calli (va_runV (As := []) (rest := []) ⟨hx, hb, hml, hown, hts⟩ (k_LF_layersInAll l D h cs f1 f2 f3 f4 f5 f6 md (ed)  s.heap.size) (cwV 0 hts (gV q1107 q1109 qs28 q1 (gA q1110)) rfl rfl rfl (by decide +kernel) ⟨Nat.le_of_ble_eq_true rfl, Nat.le_of_ble_eq_true rfl⟩) ⟨EV.fb, va_recv hKc hPc (ci := 11) (q0 := 0) rfl rfl, fun U hU hW => ⟨rfl, EV.at hPc hKc hDc hG (hZ.no hS) U hU hW⟩⟩ rfl rfl hl.1 rfl (lv_room (Nat.le_of_ble_eq_true rfl)) dX7_frozenShare_1 ⟨Nat.le_of_ble_eq_true rfl, Nat.le_of_ble_eq_true rfl⟩) hS (fun q _ h => h.elim) (fun q h => h.elim) (fun r_1 u t H1 locs ht hvm hw hB hz1 hk1 hS => ?_)
  have hP := P_kept hP hk1
  generalize H1 = H at hP hS ⊢
  have hP : va_P D vwCl [(h, .inr (11, [.ref cs, f1, f2, f3, f4, f5, f6])), (cs, .inr (4, [.int md, ed, .int 0]))] H := hP
  subst hw
  refine lv_istore_n (lv' := [(1, .int 0), (0, .ref h)]) hx hb dX7_frozenShare_4 rfl hl (by decide) rfl (fun ls hl => ?_)
  refine lv_iload_n hx hb dX7_frozenShare_5 rfl (lv_at hl 0 rfl) ?_
  refine lv_if_ne (tgt := 20) hx hb dX7_frozenShare_6 (by decide) (fun c_2 => ?_) (fun c_2 => ?_)
  · exact absurd rfl c_2
  · obtain ⟨sa, hstr⟩ := hG.str t1112 hown
    exact vx_throwSW (own := RX7) (cls := "java/lang/ArithmeticException") (text := "no layers") (names := xnR) (ik := 279) (is := 281) (ic := 283) (sa := sa) hx hb hst hown (by decide +kernel) (by decide +kernel) (hts _ q1111) (hts _ q41) hstr (al_use xa_X7_283 hts hG) xa_X7_283_g hZ.1 hZ.2 hS (by rw [hml]; exact hl.1) dX7_frozenShare_9 dX7_frozenShare_12 dX7_frozenShare_13 dX7_frozenShare_16 dX7_frozenShare_19 (fun x hx => (hnt x hx).elim) (Nat.le_of_ble_eq_true rfl) (Nat.le_of_ble_eq_true rfl) (Nat.le_of_ble_eq_true rfl) (Nat.le_of_ble_eq_true rfl) hlocks (fun t _ hz hk => ⟨(), trivial, rfl, F_of hS hz hk⟩) (fun z hz => hS.2.2 z hz) (Nat.le_of_ble_eq_true rfl) (Nat.le_of_ble_eq_true rfl)
set_option maxHeartbeats 4000000 in
set_option maxRecDepth 100000 in
/-- meanWater on the fresh object: always ArithmeticException -/
theorem k_LF_meanWater (l : Launch) (hst : l.stackTraces = false) (D : va_G) (h : Nat) (cs : Nat) (f1 f2 f3 f4 f5 f6 : Value) (md : Int32) (ed : Value) (sz : Nat) : vx_Met l yX7_meanWater (wsA yX7_meanWater cX7_meanWater 5 (some .double)) ({ frames := 6, cells := 1, slots := 6, locals := 82 }) (va_Pc [.ref h] (EV D [] [(h, .inr (11, [.ref cs, f1, f2, f3, f4, f5, f6])), (cs, .inr (4, [.int md, ed, .int 0]))] sz)) QX (XX "java/lang/ArithmeticException") 1 6 NoA := by
  refine vx_ofW (cc := cX7_meanWater) (maxL := 5) (ret := (some .double)) (ws' := lw_all) (by decide) rfl ?_
  intro p e s m args below meth c s₁ B hml hnt hv
  obtain ⟨rfl, hsz, hP, hK, hD0, hG, hZ0⟩ := hv
  have hx := B.exec
  have hb := B.bytes
  have hr := B.returns
  have hts0 := atoms_spec (ws := wsA yX7_meanWater cX7_meanWater 5 (some .double)) B.pre
  have hts : ∀ w ∈ lw_all, w.before _ s = true := fun w h => hts0 w (List.mem_cons_of_mem _ h)
  have hown : s.vm.findClass RX7 = some m.cls := findClass_of_methodNamed B.named
  have hlocks := B.notSynchronized
  subst hsz
  have hD : va_D (fun _ => True) [(h, .inr (11, [.ref cs, f1, f2, f3, f4, f5, f6])), (cs, .inr (4, [.int md, ed, .int 0]))] := hD0
  have hZ : ZZ NoA s s.heap := hZ0
  have hS : va_S NoA s.heap s.heap [] := va_S.rf
  have hP : va_P D vwCl [(h, .inr (11, [.ref cs, f1, f2, f3, f4, f5, f6])), (cs, .inr (4, [.int md, ed, .int 0]))] s.heap := hP
  have hl := lv_entry ([.ref h]) (n := 5) (Nat.le_of_ble_eq_true rfl)
  rw [lg_entry_eq]
  generalize (lg_sl ([.ref h]) ++ List.replicate (5 - (lg_sl ([.ref h])).length) Slot.unset).toArray = ls at hl ⊢
  have hl : lv_has ls 5 [(0, .ref h)] := hl
  refine lv_aload_n hx hb dX7_meanWater_0 rfl (lv_at hl 0 rfl) ?_
  have hPc := hP.sub (ws' := [(h, .inr (11, [.ref cs, f1, f2, f3, f4, f5, f6])), (cs, .inr (4, [.int md, ed, .int 0]))]) [0, 1] rfl
  have hDc := hD.sub (ws' := [(h, .inr (11, [.ref cs, f1, f2, f3, f4, f5, f6])), (cs, .inr (4, [.int md, ed, .int 0]))]) [0, 1] (by decide) rfl
  have hKc := hK.sub (tys' := []) [] rfl
  refine va_calli (va_runV (As := []) (rest := []) ⟨hx, hb, hml, hown, hts⟩ (k_LF_layersInAll l D h cs f1 f2 f3 f4 f5 f6 md (ed)  s.heap.size) (cwV 0 hts (gV q1107 q1109 qs28 q1 (gA q1110)) rfl rfl rfl (by decide +kernel) ⟨Nat.le_of_ble_eq_true rfl, Nat.le_of_ble_eq_true rfl⟩) ⟨EV.fb, va_recv hKc hPc (ci := 11) (q0 := 0) rfl rfl, fun U hU hW => ⟨rfl, EV.at hPc hKc hDc hG (hZ.no hS) U hU hW⟩⟩ rfl rfl hl.1 rfl (lv_room (Nat.le_of_ble_eq_true rfl)) dX7_meanWater_1 ⟨Nat.le_of_ble_eq_true rfl, Nat.le_of_ble_eq_true rfl⟩) hS (fun q _ h => h.elim) (fun q h => h.elim) (fun r_1 u t H1 locs ht hvm hw hB hz1 hk1 hS => ?_)
  have hP := P_kept hP hk1
  generalize H1 = H at hP hS ⊢
  have hP : va_P D vwCl [(h, .inr (11, [.ref cs, f1, f2, f3, f4, f5, f6])), (cs, .inr (4, [.int md, ed, .int 0]))] H := hP
  subst hw
  refine lv_istore_n (lv' := [(1, .int 0), (0, .ref h)]) hx hb dX7_meanWater_4 rfl hl (by decide) rfl (fun ls hl => ?_)
  refine lv_iload_n hx hb dX7_meanWater_5 rfl (lv_at hl 0 rfl) ?_
  refine lv_if_ne (tgt := 20) hx hb dX7_meanWater_6 (by decide) (fun c_2 => ?_) (fun c_2 => ?_)
  · exact absurd rfl c_2
  · obtain ⟨sa, hstr⟩ := hG.str t1112 hown
    exact vx_throwSW (own := RX7) (cls := "java/lang/ArithmeticException") (text := "no layers") (names := xnR) (ik := 279) (is := 281) (ic := 283) (sa := sa) hx hb hst hown (by decide +kernel) (by decide +kernel) (hts _ q1111) (hts _ q41) hstr (al_use xa_X7_283 hts hG) xa_X7_283_g hZ.1 hZ.2 hS (by rw [hml]; exact hl.1) dX7_meanWater_9 dX7_meanWater_12 dX7_meanWater_13 dX7_meanWater_16 dX7_meanWater_19 (fun x hx => (hnt x hx).elim) (Nat.le_of_ble_eq_true rfl) (Nat.le_of_ble_eq_true rfl) (Nat.le_of_ble_eq_true rfl) (Nat.le_of_ble_eq_true rfl) hlocks (fun t _ hz hk => ⟨(), trivial, rfl, F_of hS hz hk⟩) (fun z hz => hS.2.2 z hz) (Nat.le_of_ble_eq_true rfl) (Nat.le_of_ble_eq_true rfl)
set_option maxHeartbeats 4000000 in
set_option maxRecDepth 100000 in
/-- the helper frozenShare on the fresh object: 1 -/
theorem k_LL_frozenShare (l : Launch) (hst : l.stackTraces = false) (D : va_G) (h : Nat) (cs : Nat) (f1 f2 f3 f4 f5 f6 : Value) (md : Int32) (ed : Value) (o : Nat) (sz : Nat) : Met l yL_frozenShare (wsH yL_frozenShare cL_frozenShare 3 (some .int) [(0, 8, 11, 145)]) ({ frames := 7, cells := 1, slots := 6, locals := 105 }) (va_Pc [.ref h, .ref o] (EV D [] [(h, .inr (11, [.ref cs, f1, f2, f3, f4, f5, f6])), (cs, .inr (4, [.int md, ed, .int 0]))] sz)) (va_Qi (fun (r : Int32) (_ : Unit) => r = 1) (fun _ _ => True) NoA) 1 6 NoA := by
  refine va_MetW (cc := cL_frozenShare) (maxL := 3) (ret := (some .int)) (hh := [(0, 8, 11, 145)]) (ws' := lw_all) (by decide) rfl ?_
  intro p e s m args below meth c s₁ B hml hv
  obtain ⟨rfl, hsz, hP, hK, hD0, hG, hZ0⟩ := hv
  have hx := B.exec
  have hb := B.bytes
  have hr := B.returns
  have hts0 := atoms_spec (ws := wsH yL_frozenShare cL_frozenShare 3 (some .int) [(0, 8, 11, 145)]) B.pre
  have hts : ∀ w ∈ lw_all, w.before _ s = true := fun w h => hts0 w (List.mem_cons_of_mem _ h)
  have hown : s.vm.findClass RL = some m.cls := findClass_of_methodNamed B.named
  have hlocks := B.notSynchronized
  have htab : c.exceptionTable.toList = tableOf [(0, 8, 11, 145)] := vx_table (x := objectInit) B (hts0 _ List.mem_cons_self)
  subst hsz
  have hD : va_D (fun _ => True) [(h, .inr (11, [.ref cs, f1, f2, f3, f4, f5, f6])), (cs, .inr (4, [.int md, ed, .int 0]))] := hD0
  have hZ : ZZ NoA s s.heap := hZ0
  have hS : va_S NoA s.heap s.heap [] := va_S.rf
  have hP : va_P D vwCl [(h, .inr (11, [.ref cs, f1, f2, f3, f4, f5, f6])), (cs, .inr (4, [.int md, ed, .int 0]))] s.heap := hP
  have hl := lv_entry ([.ref h, .ref o]) (n := 3) (Nat.le_of_ble_eq_true rfl)
  rw [lg_entry_eq]
  generalize (lg_sl ([.ref h, .ref o]) ++ List.replicate (3 - (lg_sl ([.ref h, .ref o])).length) Slot.unset).toArray = ls at hl ⊢
  have hl : lv_has ls 3 [(0, .ref h), (1, .ref o)] := hl
  refine lv_aload_n hx hb dL_frozenShare_0 rfl (lv_at hl 1 rfl) ?_
  refine lv_iconst (v := 0) hx hb dL_frozenShare_1 (by decide) ?_
  refine lv_aload_n hx hb dL_frozenShare_2 rfl (lv_at hl 0 rfl) ?_
  have hPc := hP.sub (ws' := [(h, .inr (11, [.ref cs, f1, f2, f3, f4, f5, f6])), (cs, .inr (4, [.int md, ed, .int 0]))]) [0, 1] rfl
  have hDc := hD.sub (ws' := [(h, .inr (11, [.ref cs, f1, f2, f3, f4, f5, f6])), (cs, .inr (4, [.int md, ed, .int 0]))]) [0, 1] (by decide) rfl
  have hKc := hK.sub (tys' := []) [] rfl
  refine vx_calli (vx_runV (As := []) (rest := [.int 0, .ref o]) ⟨hx, hb, hml, hown, hts⟩ (k_LF_frozenShare l hst D h cs f1 f2 f3 f4 f5 f6 md (ed)  s.heap.size) (cwV 0 hts (gV q1103 q1104 q1105 q1 (gA q1106)) rfl rfl rfl (by decide +kernel) ⟨Nat.le_of_ble_eq_true rfl, Nat.le_of_ble_eq_true rfl⟩) ⟨EV.fb, va_recv hKc hPc (ci := 11) (q0 := 0) rfl rfl, fun U hU hW => ⟨rfl, EV.at hPc hKc hDc hG (hZ.no hS) U hU hW⟩⟩ rfl rfl hl.1 rfl (lv_room (Nat.le_of_ble_eq_true rfl)) dL_frozenShare_3 ⟨Nat.le_of_ble_eq_true rfl, Nat.le_of_ble_eq_true rfl⟩) hS (fun q _ h => h.elim) (fun q h => h.elim) (fun q _ h => h.elim) (fun E ce q9 u t H1 locs1 ht hvm hpx hBX hz1 hk1 hS hcell hcv hcl => ?_) (fun r u t H1 locs1 ht hvm hw hB hz1 hk1 hS => hw.elim)
  have hP := P_kept hP hk1
  subst hBX
  refine vx_catch (own := RL) (name := "java/lang/ArithmeticException") (E := "java/lang/ArithmeticException") hown [] ⟨0, 8, 11, 145⟩ [] (by rw [htab]; rfl) (fun z hz => absurd hz List.not_mem_nil) rfl (by decide) (hts _ q1089) (hG.use t1101) hcell hcv hcl ?_
  generalize H1 = H at hP hS ⊢
  have hP : va_P D vwCl [(h, .inr (11, [.ref cs, f1, f2, f3, f4, f5, f6])), (cs, .inr (4, [.int md, ed, .int 0]))] H := hP
  refine lv_astore_n (lv' := [(2, .ref q9), (0, .ref h), (1, .ref o)]) hx hb dL_frozenShare_11 rfl hl (by decide) rfl (fun ls hl => ?_)
  refine lv_iconst (v := 1) hx hb dL_frozenShare_12 (by decide) ?_
  refine W.widen (k := 1) (n := 6) (Nat.le_of_ble_eq_true rfl) (Nat.le_of_ble_eq_true rfl) ?_
  exact W.iret (v := 1) hx hb hr (fun t ht hW => ⟨⟨1, (), rfl, rfl, trivial⟩, hS.F ht⟩) hS.2.2 dL_frozenShare_13
set_option maxHeartbeats 4000000 in
set_option maxRecDepth 100000 in
/-- the helper meanWater on the fresh object: 1 -/
theorem k_LL_meanWater (l : Launch) (hst : l.stackTraces = false) (D : va_G) (h : Nat) (cs : Nat) (f1 f2 f3 f4 f5 f6 : Value) (md : Int32) (ed : Value) (o : Nat) (sz : Nat) : Met l yL_meanWater (wsH yL_meanWater cL_meanWater 3 (some .int) [(0, 7, 10, 145)]) ({ frames := 7, cells := 1, slots := 6, locals := 106 }) (va_Pc [.ref h, .ref o] (EV D [] [(h, .inr (11, [.ref cs, f1, f2, f3, f4, f5, f6])), (cs, .inr (4, [.int md, ed, .int 0]))] sz)) (va_Qi (fun (r : Int32) (_ : Unit) => r = 1) (fun _ _ => True) NoA) 1 6 NoA := by
  refine va_MetW (cc := cL_meanWater) (maxL := 3) (ret := (some .int)) (hh := [(0, 7, 10, 145)]) (ws' := lw_all) (by decide) rfl ?_
  intro p e s m args below meth c s₁ B hml hv
  obtain ⟨rfl, hsz, hP, hK, hD0, hG, hZ0⟩ := hv
  have hx := B.exec
  have hb := B.bytes
  have hr := B.returns
  have hts0 := atoms_spec (ws := wsH yL_meanWater cL_meanWater 3 (some .int) [(0, 7, 10, 145)]) B.pre
  have hts : ∀ w ∈ lw_all, w.before _ s = true := fun w h => hts0 w (List.mem_cons_of_mem _ h)
  have hown : s.vm.findClass RL = some m.cls := findClass_of_methodNamed B.named
  have hlocks := B.notSynchronized
  have htab : c.exceptionTable.toList = tableOf [(0, 7, 10, 145)] := vx_table (x := objectInit) B (hts0 _ List.mem_cons_self)
  subst hsz
  have hD : va_D (fun _ => True) [(h, .inr (11, [.ref cs, f1, f2, f3, f4, f5, f6])), (cs, .inr (4, [.int md, ed, .int 0]))] := hD0
  have hZ : ZZ NoA s s.heap := hZ0
  have hS : va_S NoA s.heap s.heap [] := va_S.rf
  have hP : va_P D vwCl [(h, .inr (11, [.ref cs, f1, f2, f3, f4, f5, f6])), (cs, .inr (4, [.int md, ed, .int 0]))] s.heap := hP
  have hl := lv_entry ([.ref h, .ref o]) (n := 3) (Nat.le_of_ble_eq_true rfl)
  rw [lg_entry_eq]
  generalize (lg_sl ([.ref h, .ref o]) ++ List.replicate (3 - (lg_sl ([.ref h, .ref o])).length) Slot.unset).toArray = ls at hl ⊢
  have hl : lv_has ls 3 [(0, .ref h), (1, .ref o)] := hl
  refine lv_aload_n hx hb dL_meanWater_0 rfl (lv_at hl 1 rfl) ?_
  refine lv_iconst (v := 0) hx hb dL_meanWater_1 (by decide) ?_
  refine lv_aload_n hx hb dL_meanWater_2 rfl (lv_at hl 0 rfl) ?_
  have hPc := hP.sub (ws' := [(h, .inr (11, [.ref cs, f1, f2, f3, f4, f5, f6])), (cs, .inr (4, [.int md, ed, .int 0]))]) [0, 1] rfl
  have hDc := hD.sub (ws' := [(h, .inr (11, [.ref cs, f1, f2, f3, f4, f5, f6])), (cs, .inr (4, [.int md, ed, .int 0]))]) [0, 1] (by decide) rfl
  have hKc := hK.sub (tys' := []) [] rfl
  refine vx_calli (vx_runV (As := []) (rest := [.int 0, .ref o]) ⟨hx, hb, hml, hown, hts⟩ (k_LF_meanWater l hst D h cs f1 f2 f3 f4 f5 f6 md (ed)  s.heap.size) (cwV 0 hts (gV q1121 q1122 q1123 q1 (gA q1124)) rfl rfl rfl (by decide +kernel) ⟨Nat.le_of_ble_eq_true rfl, Nat.le_of_ble_eq_true rfl⟩) ⟨EV.fb, va_recv hKc hPc (ci := 11) (q0 := 0) rfl rfl, fun U hU hW => ⟨rfl, EV.at hPc hKc hDc hG (hZ.no hS) U hU hW⟩⟩ rfl rfl hl.1 rfl (lv_room (Nat.le_of_ble_eq_true rfl)) dL_meanWater_3 ⟨Nat.le_of_ble_eq_true rfl, Nat.le_of_ble_eq_true rfl⟩) hS (fun q _ h => h.elim) (fun q h => h.elim) (fun q _ h => h.elim) (fun E ce q9 u t H1 locs1 ht hvm hpx hBX hz1 hk1 hS hcell hcv hcl => ?_) (fun r u t H1 locs1 ht hvm hw hB hz1 hk1 hS => hw.elim)
  have hP := P_kept hP hk1
  subst hBX
  refine vx_catch (own := RL) (name := "java/lang/ArithmeticException") (E := "java/lang/ArithmeticException") hown [] ⟨0, 7, 10, 145⟩ [] (by rw [htab]; rfl) (fun z hz => absurd hz List.not_mem_nil) rfl (by decide) (hts _ q1089) (hG.use t1101) hcell hcv hcl ?_
  generalize H1 = H at hP hS ⊢
  have hP : va_P D vwCl [(h, .inr (11, [.ref cs, f1, f2, f3, f4, f5, f6])), (cs, .inr (4, [.int md, ed, .int 0]))] H := hP
  refine lv_astore_n (lv' := [(2, .ref q9), (0, .ref h), (1, .ref o)]) hx hb dL_meanWater_10 rfl hl (by decide) rfl (fun ls hl => ?_)
  refine lv_iconst (v := 1) hx hb dL_meanWater_11 (by decide) ?_
  refine W.widen (k := 1) (n := 6) (Nat.le_of_ble_eq_true rfl) (Nat.le_of_ble_eq_true rfl) ?_
  exact W.iret (v := 1) hx hb hr (fun t ht hW => ⟨⟨1, (), rfl, rfl, trivial⟩, hS.F ht⟩) hS.2.2 dL_meanWater_12
set_option maxHeartbeats 4000000 in
set_option maxRecDepth 100000 in
/-- weather of the reference -/
theorem k_LM_weather (l : Launch) (D : va_G) (h : Nat) (th : Int32) (g1 g3 : Value) (sk : Nat) (t0 r0 s0 l0 n0 : Int32) (p0 : Int32) (p1 : Int32) (p2 : Int32) (sz : Nat) : Met l yX12_weather (wsA yX12_weather cX12_weather 5 (some .int)) ({ frames := 1, cells := 0, slots := 0, locals := 25 }) (va_Pc [.ref h, .int p0, .int p1, .int p2] (EV D [] [(h, .inr (16, [.int th, g1, .ref sk, g3])), (sk, .inr (15, [.int t0, .int r0, .int s0, .int l0, .int n0]))] sz)) (va_Qi (fun (r u : Int32) => QM (good p0 (-30) 45 ∧ good p1 0 999 ∧ good p2 0 99) (t0) r u) (fun u t => va_P D vwCl [(h, .inr (16, [.int u, g1, .ref sk, g3]))] t.heap ∧ va_D (va_A [(h, .inr (16, [.int th, g1, .ref sk, g3])), (sk, .inr (15, [.int t0, .int r0, .int s0, .int l0, .int n0]))] sz) [(h, .inr (16, [.int u, g1, .ref sk, g3]))]) (va_A [(h, .inr (16, [.int th, g1, .ref sk, g3])), (sk, .inr (15, [.int t0, .int r0, .int s0, .int l0, .int n0]))] sz)) 0 0 (va_A [(h, .inr (16, [.int th, g1, .ref sk, g3])), (sk, .inr (15, [.int t0, .int r0, .int s0, .int l0, .int n0]))] sz) := by
  refine Met.ofW (cc := cX12_weather) (maxL := 5) (ret := (some .int)) (by decide) rfl ?_
  intro p e s m args below meth c s₁ B hml hv
  obtain ⟨rfl, hsz, hP, hK, hD0, hG, hZ0⟩ := hv
  have hx := B.exec
  have hb := B.bytes
  have hr := B.returns
  have hts0 := atoms_spec (ws := wsA yX12_weather cX12_weather 5 (some .int)) B.pre
  have hts : ∀ w ∈ lw_all, w.before _ s = true := fun w h => hts0 w (List.mem_cons_of_mem _ h)
  have hown : s.vm.findClass RX12 = some m.cls := findClass_of_methodNamed B.named
  have hlocks := B.notSynchronized
  subst hsz
  have hZ := ZZ.wide hP hZ0
  have hD := hD0.self (sz := s.heap.size)
  generalize hAe : va_A [(h, .inr (16, [.int th, g1, .ref sk, g3])), (sk, .inr (15, [.int t0, .int r0, .int s0, .int l0, .int n0]))] s.heap.size = A at hD hZ ⊢
  have hA : ∀ q : Nat, s.heap.size ≤ q → A q := fun q h => by rw [← hAe]; exact Or.inr h
  have hS : va_S A s.heap s.heap [] := va_S.rf
  have hP : va_P D vwCl [(h, .inr (16, [.int th, g1, .ref sk, g3])), (sk, .inr (15, [.int t0, .int r0, .int s0, .int l0, .int n0]))] s.heap := hP
  have hl := lv_entry ([.ref h, .int p0, .int p1, .int p2]) (n := 5) (Nat.le_of_ble_eq_true rfl)
  rw [lg_entry_eq]
  generalize (lg_sl ([.ref h, .int p0, .int p1, .int p2]) ++ List.replicate (5 - (lg_sl ([.ref h, .int p0, .int p1, .int p2])).length) Slot.unset).toArray = ls at hl ⊢
  have hl : lv_has ls 5 [(0, .ref h), (1, .int p0), (2, .int p1), (3, .int p2)] := hl
  refine lv_aload_n hx hb dX12_weather_0 rfl (lv_at hl 0 rfl) ?_
  refine lv_iload_n hx hb dX12_weather_1 rfl (lv_at hl 1 rfl) ?_
  refine lv_i2l hx hb dX12_weather_2 rfl ?_
  refine lv_ldc2 (v := (-30)) hx hb hown (hts _ q1518) dX12_weather_3 ?_
  refine lv_ldc2 (v := 45) hx hb hown (hts _ q1519) dX12_weather_6 ?_
  have hPc := hP.sub (ws' := []) [] rfl
  have hDc := hD.sub (ws' := []) [] (by decide) rfl
  have hKc := hK.sub (tys' := []) [] rfl
  refine va_calli (va_runS (As := [.long (Int32.toInt64 p0), .long (-30), .long 45]) (rest := [.ref h]) ⟨hx, hb, hml, hown, hts⟩ (k_LM_in l D (Int32.toInt64 p0) (-30) 45 s.heap.size) (va_cwS 3 hts (gS q1358 q1359 q6 (gA q1360)) rfl rfl rfl (by decide +kernel) ⟨Nat.le_of_ble_eq_true rfl, Nat.le_of_ble_eq_true rfl⟩) ⟨EV.fb, fun U hU hW => ⟨rfl, EV.at hPc hKc hDc hG (hZ.no hS) U hU hW⟩⟩ rfl rfl hl.1 rfl (lv_room (Nat.le_of_ble_eq_true rfl)) dX12_weather_9 ⟨Nat.le_of_ble_eq_true rfl, Nat.le_of_ble_eq_true rfl⟩) hS (fun q _ h => h.elim) (fun q h => h.elim) (fun r_1 u t H1 locs ht hvm hw hB hz1 hk1 hS => ?_)
  have hP := P_kept hP hk1
  generalize H1 = H at hP hS ⊢
  have hP : va_P D vwCl [(h, .inr (16, [.int th, g1, .ref sk, g3])), (sk, .inr (15, [.int t0, .int r0, .int s0, .int l0, .int n0]))] H := hP
  subst hw
  refine lv_if_eq (tgt := 43) hx hb dX12_weather_12 (by decide) (fun c_2 => ?_) (fun c_2 => ?_)
  · refine lv_iconst (v := 1) hx hb dX12_weather_43 (by decide) ?_
    refine va_put (D := D) (ci := 16) (v := .int 1) (ty := .int) (C := RX12) (T := TX12) (N := 4) hx hb hts iwX12 tyX12 tyX12_ok nmX12 hown hK hP hD hS 0 rfl rfl 0 (by decide) (hts _ q1161) (fun _ h9 => h9) rfl (by decide +kernel) rfl rfl (Nat.le_of_ble_eq_true rfl) dX12_weather_44 (fun H locs hP hD hS => ?_)
    have hP : va_P D vwCl [(h, .inr (16, [.int 1, g1, .ref sk, g3])), (sk, .inr (15, [.int t0, .int r0, .int s0, .int l0, .int n0]))] H := hP
    have hD : va_D A [(h, .inr (16, [.int 1, g1, .ref sk, g3])), (sk, .inr (15, [.int t0, .int r0, .int s0, .int l0, .int n0]))] := hD
    refine lv_aload_n hx hb dX12_weather_47 rfl (lv_at hl 0 rfl) ?_
    refine va_get (D := D) (ci := 16) (v := .int 1) (C := RX12) (T := TX12) (N := 4) hx hb hts iwX12 hown hK hP 0 rfl rfl 0 (by decide) (hts _ q1161) (fun _ h9 => h9) rfl dX12_weather_48 ?_
    refine lv_if_le (tgt := 56) hx hb dX12_weather_51 (by decide) (fun c_3 => ?_) (fun c_3 => ?_)
    · exact absurd c_3 (by decide)
    · refine lv_iconst (v := 0) hx hb dX12_weather_54 (by decide) ?_
      have hP9 := hP.sub (ws' := [(h, .inr (16, [.int 1, g1, .ref sk, g3]))]) [0] rfl
      have hD9 := hD.sub (ws' := [(h, .inr (16, [.int 1, g1, .ref sk, g3]))]) [0] (by decide) rfl
      refine W.widen (k := 0) (n := 0) (Nat.le_of_ble_eq_true rfl) (Nat.le_of_ble_eq_true rfl) ?_
      exact W.iret (v := 0) hx hb hr (fun t ht hW => ⟨⟨0, 1, rfl, Or.inr ⟨rfl, fun z => xin_bad (by decide) (by decide) c_2 z.1⟩, by rw [ht]; exact hP9, hD9⟩, hS.F ht⟩) hS.2.2 dX12_weather_55
  · refine lv_iload_n hx hb dX12_weather_15 rfl (lv_at hl 2 rfl) ?_
    refine lv_i2l hx hb dX12_weather_16 rfl ?_
    refine lv_lconst (v := 0) hx hb dX12_weather_17 (by decide) ?_
    refine lv_ldc2 (v := 999) hx hb hown (hts _ q1520) dX12_weather_18 ?_
    have hPc := hP.sub (ws' := []) [] rfl
    have hDc := hD.sub (ws' := []) [] (by decide) rfl
    have hKc := hK.sub (tys' := []) [] rfl
    refine va_calli (va_runS (As := [.long (Int32.toInt64 p1), .long 0, .long 999]) (rest := [.ref h]) ⟨hx, hb, hml, hown, hts⟩ (k_LM_in l D (Int32.toInt64 p1) 0 999 H.size) (va_cwS 3 hts (gS q1358 q1359 q6 (gA q1360)) rfl rfl rfl (by decide +kernel) ⟨Nat.le_of_ble_eq_true rfl, Nat.le_of_ble_eq_true rfl⟩) ⟨EV.fb, fun U hU hW => ⟨rfl, EV.at hPc hKc hDc hG (hZ.no hS) U hU hW⟩⟩ rfl rfl hl.1 rfl (lv_room (Nat.le_of_ble_eq_true rfl)) dX12_weather_21 ⟨Nat.le_of_ble_eq_true rfl, Nat.le_of_ble_eq_true rfl⟩) hS (fun q _ h => h.elim) (fun q h => h.elim) (fun r_4 u t H1 locs ht hvm hw hB hz1 hk1 hS => ?_)
    have hP := P_kept hP hk1
    generalize H1 = H at hP hS ⊢
    have hP : va_P D vwCl [(h, .inr (16, [.int th, g1, .ref sk, g3])), (sk, .inr (15, [.int t0, .int r0, .int s0, .int l0, .int n0]))] H := hP
    subst hw
    refine lv_if_eq (tgt := 43) hx hb dX12_weather_24 (by decide) (fun c_5 => ?_) (fun c_5 => ?_)
    · refine lv_iconst (v := 1) hx hb dX12_weather_43 (by decide) ?_
      refine va_put (D := D) (ci := 16) (v := .int 1) (ty := .int) (C := RX12) (T := TX12) (N := 4) hx hb hts iwX12 tyX12 tyX12_ok nmX12 hown hK hP hD hS 0 rfl rfl 0 (by decide) (hts _ q1161) (fun _ h9 => h9) rfl (by decide +kernel) rfl rfl (Nat.le_of_ble_eq_true rfl) dX12_weather_44 (fun H locs hP hD hS => ?_)
      have hP : va_P D vwCl [(h, .inr (16, [.int 1, g1, .ref sk, g3])), (sk, .inr (15, [.int t0, .int r0, .int s0, .int l0, .int n0]))] H := hP
      have hD : va_D A [(h, .inr (16, [.int 1, g1, .ref sk, g3])), (sk, .inr (15, [.int t0, .int r0, .int s0, .int l0, .int n0]))] := hD
      refine lv_aload_n hx hb dX12_weather_47 rfl (lv_at hl 0 rfl) ?_
      refine va_get (D := D) (ci := 16) (v := .int 1) (C := RX12) (T := TX12) (N := 4) hx hb hts iwX12 hown hK hP 0 rfl rfl 0 (by decide) (hts _ q1161) (fun _ h9 => h9) rfl dX12_weather_48 ?_
      refine lv_if_le (tgt := 56) hx hb dX12_weather_51 (by decide) (fun c_6 => ?_) (fun c_6 => ?_)
      · exact absurd c_6 (by decide)
      · refine lv_iconst (v := 0) hx hb dX12_weather_54 (by decide) ?_
        have hP9 := hP.sub (ws' := [(h, .inr (16, [.int 1, g1, .ref sk, g3]))]) [0] rfl
        have hD9 := hD.sub (ws' := [(h, .inr (16, [.int 1, g1, .ref sk, g3]))]) [0] (by decide) rfl
        refine W.widen (k := 0) (n := 0) (Nat.le_of_ble_eq_true rfl) (Nat.le_of_ble_eq_true rfl) ?_
        exact W.iret (v := 0) hx hb hr (fun t ht hW => ⟨⟨0, 1, rfl, Or.inr ⟨rfl, fun z => xin_bad (by decide) (by decide) c_5 z.2.1⟩, by rw [ht]; exact hP9, hD9⟩, hS.F ht⟩) hS.2.2 dX12_weather_55
    · refine lv_iload_n hx hb dX12_weather_27 rfl (lv_at hl 3 rfl) ?_
      refine lv_i2l hx hb dX12_weather_28 rfl ?_
      refine lv_lconst (v := 0) hx hb dX12_weather_29 (by decide) ?_
      refine lv_ldc2 (v := 99) hx hb hown (hts _ q1521) dX12_weather_30 ?_
      have hPc := hP.sub (ws' := []) [] rfl
      have hDc := hD.sub (ws' := []) [] (by decide) rfl
      have hKc := hK.sub (tys' := []) [] rfl
      refine va_calli (va_runS (As := [.long (Int32.toInt64 p2), .long 0, .long 99]) (rest := [.ref h]) ⟨hx, hb, hml, hown, hts⟩ (k_LM_in l D (Int32.toInt64 p2) 0 99 H.size) (va_cwS 3 hts (gS q1358 q1359 q6 (gA q1360)) rfl rfl rfl (by decide +kernel) ⟨Nat.le_of_ble_eq_true rfl, Nat.le_of_ble_eq_true rfl⟩) ⟨EV.fb, fun U hU hW => ⟨rfl, EV.at hPc hKc hDc hG (hZ.no hS) U hU hW⟩⟩ rfl rfl hl.1 rfl (lv_room (Nat.le_of_ble_eq_true rfl)) dX12_weather_33 ⟨Nat.le_of_ble_eq_true rfl, Nat.le_of_ble_eq_true rfl⟩) hS (fun q _ h => h.elim) (fun q h => h.elim) (fun r_7 u t H1 locs ht hvm hw hB hz1 hk1 hS => ?_)
      have hP := P_kept hP hk1
      generalize H1 = H at hP hS ⊢
      have hP : va_P D vwCl [(h, .inr (16, [.int th, g1, .ref sk, g3])), (sk, .inr (15, [.int t0, .int r0, .int s0, .int l0, .int n0]))] H := hP
      subst hw
      refine lv_if_eq (tgt := 43) hx hb dX12_weather_36 (by decide) (fun c_8 => ?_) (fun c_8 => ?_)
      · refine lv_iconst (v := 1) hx hb dX12_weather_43 (by decide) ?_
        refine va_put (D := D) (ci := 16) (v := .int 1) (ty := .int) (C := RX12) (T := TX12) (N := 4) hx hb hts iwX12 tyX12 tyX12_ok nmX12 hown hK hP hD hS 0 rfl rfl 0 (by decide) (hts _ q1161) (fun _ h9 => h9) rfl (by decide +kernel) rfl rfl (Nat.le_of_ble_eq_true rfl) dX12_weather_44 (fun H locs hP hD hS => ?_)
        have hP : va_P D vwCl [(h, .inr (16, [.int 1, g1, .ref sk, g3])), (sk, .inr (15, [.int t0, .int r0, .int s0, .int l0, .int n0]))] H := hP
        have hD : va_D A [(h, .inr (16, [.int 1, g1, .ref sk, g3])), (sk, .inr (15, [.int t0, .int r0, .int s0, .int l0, .int n0]))] := hD
        refine lv_aload_n hx hb dX12_weather_47 rfl (lv_at hl 0 rfl) ?_
        refine va_get (D := D) (ci := 16) (v := .int 1) (C := RX12) (T := TX12) (N := 4) hx hb hts iwX12 hown hK hP 0 rfl rfl 0 (by decide) (hts _ q1161) (fun _ h9 => h9) rfl dX12_weather_48 ?_
        refine lv_if_le (tgt := 56) hx hb dX12_weather_51 (by decide) (fun c_9 => ?_) (fun c_9 => ?_)
        · exact absurd c_9 (by decide)
        · refine lv_iconst (v := 0) hx hb dX12_weather_54 (by decide) ?_
          have hP9 := hP.sub (ws' := [(h, .inr (16, [.int 1, g1, .ref sk, g3]))]) [0] rfl
          have hD9 := hD.sub (ws' := [(h, .inr (16, [.int 1, g1, .ref sk, g3]))]) [0] (by decide) rfl
          refine W.widen (k := 0) (n := 0) (Nat.le_of_ble_eq_true rfl) (Nat.le_of_ble_eq_true rfl) ?_
          exact W.iret (v := 0) hx hb hr (fun t ht hW => ⟨⟨0, 1, rfl, Or.inr ⟨rfl, fun z => xin_bad (by decide) (by decide) c_8 z.2.2⟩, by rw [ht]; exact hP9, hD9⟩, hS.F ht⟩) hS.2.2 dX12_weather_55
      · refine lv_iconst (v := 0) hx hb dX12_weather_39 (by decide) ?_
        refine lv_goto (tgt := 44) hx hb dX12_weather_40 (by decide) ?_
        refine va_put (D := D) (ci := 16) (v := .int 0) (ty := .int) (C := RX12) (T := TX12) (N := 4) hx hb hts iwX12 tyX12 tyX12_ok nmX12 hown hK hP hD hS 0 rfl rfl 0 (by decide) (hts _ q1161) (fun _ h9 => h9) rfl (by decide +kernel) rfl rfl (Nat.le_of_ble_eq_true rfl) dX12_weather_44 (fun H locs hP hD hS => ?_)
        have hP : va_P D vwCl [(h, .inr (16, [.int 0, g1, .ref sk, g3])), (sk, .inr (15, [.int t0, .int r0, .int s0, .int l0, .int n0]))] H := hP
        have hD : va_D A [(h, .inr (16, [.int 0, g1, .ref sk, g3])), (sk, .inr (15, [.int t0, .int r0, .int s0, .int l0, .int n0]))] := hD
        refine lv_aload_n hx hb dX12_weather_47 rfl (lv_at hl 0 rfl) ?_
        refine va_get (D := D) (ci := 16) (v := .int 0) (C := RX12) (T := TX12) (N := 4) hx hb hts iwX12 hown hK hP 0 rfl rfl 0 (by decide) (hts _ q1161) (fun _ h9 => h9) rfl dX12_weather_48 ?_
        refine lv_if_le (tgt := 56) hx hb dX12_weather_51 (by decide) (fun c_10 => ?_) (fun c_10 => ?_)
        · refine lv_aload_n hx hb dX12_weather_56 rfl (lv_at hl 0 rfl) ?_
          refine va_get (D := D) (ci := 16) (v := .ref sk) (C := RX12) (T := TX12) (N := 4) hx hb hts iwX12 hown hK hP 0 rfl rfl 2 (by decide) (hts _ q1163) (fun _ h9 => h9) rfl dX12_weather_57 ?_
          refine va_getN (D := D) (ci := 15) (v := .int t0) (C := RX11) (T := TX11) (N := 5) hx hb hts iwX11 hown hK hP 1 rfl rfl 0 (by decide) (hG.use t1141) (fun _ h9 => h9) rfl dX12_weather_60 ?_
          refine lv_istore (lv' := [(4, .int t0), (0, .ref h), (1, .int p0), (2, .int p1), (3, .int p2)]) hx hb dX12_weather_63 hl (by decide) rfl (fun ls hl => ?_)
          refine lv_aload_n hx hb dX12_weather_65 rfl (lv_at hl 1 rfl) ?_
          refine va_get (D := D) (ci := 16) (v := .ref sk) (C := RX12) (T := TX12) (N := 4) hx hb hts iwX12 hown hK hP 0 rfl rfl 2 (by decide) (hts _ q1163) (fun _ h9 => h9) rfl dX12_weather_66 ?_
          refine lv_iload_n hx hb dX12_weather_69 rfl (lv_at hl 2 rfl) ?_
          refine va_putN (D := D) (ci := 15) (v := .int p0) (ty := .int) (C := RX11) (T := TX11) (N := 5) hx hb hts iwX11 tyX11 tyX11_ok nmX11 hown hK hP hD hS 1 rfl rfl 0 (by decide) (hG.use t1141) (fun _ h9 => h9) rfl (by decide +kernel) rfl rfl (Nat.le_of_ble_eq_true rfl) dX12_weather_70 (fun H locs hP hD hS => ?_)
          have hP : va_P D vwCl [(h, .inr (16, [.int 0, g1, .ref sk, g3])), (sk, .inr (15, [.int p0, .int r0, .int s0, .int l0, .int n0]))] H := hP
          have hD : va_D A [(h, .inr (16, [.int 0, g1, .ref sk, g3])), (sk, .inr (15, [.int p0, .int r0, .int s0, .int l0, .int n0]))] := hD
          refine lv_aload_n hx hb dX12_weather_73 rfl (lv_at hl 1 rfl) ?_
          refine va_get (D := D) (ci := 16) (v := .ref sk) (C := RX12) (T := TX12) (N := 4) hx hb hts iwX12 hown hK hP 0 rfl rfl 2 (by decide) (hts _ q1163) (fun _ h9 => h9) rfl dX12_weather_74 ?_
          refine lv_iload_n hx hb dX12_weather_77 rfl (lv_at hl 3 rfl) ?_
          refine va_putN (D := D) (ci := 15) (v := .int p1) (ty := .int) (C := RX11) (T := TX11) (N := 5) hx hb hts iwX11 tyX11 tyX11_ok nmX11 hown hK hP hD hS 1 rfl rfl 1 (by decide) (hG.use t1142) (fun _ h9 => h9) rfl (by decide +kernel) rfl rfl (Nat.le_of_ble_eq_true rfl) dX12_weather_78 (fun H locs hP hD hS => ?_)
          have hP : va_P D vwCl [(h, .inr (16, [.int 0, g1, .ref sk, g3])), (sk, .inr (15, [.int p0, .int p1, .int s0, .int l0, .int n0]))] H := hP
          have hD : va_D A [(h, .inr (16, [.int 0, g1, .ref sk, g3])), (sk, .inr (15, [.int p0, .int p1, .int s0, .int l0, .int n0]))] := hD
          refine lv_aload_n hx hb dX12_weather_81 rfl (lv_at hl 1 rfl) ?_
          refine va_get (D := D) (ci := 16) (v := .ref sk) (C := RX12) (T := TX12) (N := 4) hx hb hts iwX12 hown hK hP 0 rfl rfl 2 (by decide) (hts _ q1163) (fun _ h9 => h9) rfl dX12_weather_82 ?_
          refine lv_iload_n hx hb dX12_weather_85 rfl (lv_at hl 4 rfl) ?_
          refine va_putN (D := D) (ci := 15) (v := .int p2) (ty := .int) (C := RX11) (T := TX11) (N := 5) hx hb hts iwX11 tyX11 tyX11_ok nmX11 hown hK hP hD hS 1 rfl rfl 2 (by decide) (hG.use t1144) (fun _ h9 => h9) rfl (by decide +kernel) rfl rfl (Nat.le_of_ble_eq_true rfl) dX12_weather_86 (fun H locs hP hD hS => ?_)
          have hP : va_P D vwCl [(h, .inr (16, [.int 0, g1, .ref sk, g3])), (sk, .inr (15, [.int p0, .int p1, .int p2, .int l0, .int n0]))] H := hP
          have hD : va_D A [(h, .inr (16, [.int 0, g1, .ref sk, g3])), (sk, .inr (15, [.int p0, .int p1, .int p2, .int l0, .int n0]))] := hD
          refine lv_iload hx hb dX12_weather_89 (lv_at hl 0 rfl) ?_
          have hP9 := hP.sub (ws' := [(h, .inr (16, [.int 0, g1, .ref sk, g3]))]) [0] rfl
          have hD9 := hD.sub (ws' := [(h, .inr (16, [.int 0, g1, .ref sk, g3]))]) [0] (by decide) rfl
          refine W.widen (k := 0) (n := 0) (Nat.le_of_ble_eq_true rfl) (Nat.le_of_ble_eq_true rfl) ?_
          exact W.iret (v := t0) hx hb hr (fun t ht hW => ⟨⟨t0, 0, rfl, Or.inl ⟨rfl, ⟨xin_good (by decide) (by decide) c_2, xin_good (by decide) (by decide) c_5, xin_good (by decide) (by decide) c_8⟩, rfl⟩, by rw [ht]; exact hP9, hD9⟩, hS.F ht⟩) hS.2.2 dX12_weather_91
        · exact absurd (by decide) c_10
set_option maxHeartbeats 4000000 in
set_option maxRecDepth 100000 in
/-- law of the reference -/
theorem k_LM_law (l : Launch) (D : va_G) (h : Nat) (th : Int32) (g1 g3 : Value) (sk : Nat) (t0 r0 s0 l0 n0 : Int32) (p0 : Int32) (p1 : Int32) (sz : Nat) : Met l yX12_law (wsA yX12_law cX12_law 4 (some .int)) ({ frames := 1, cells := 0, slots := 0, locals := 25 }) (va_Pc [.ref h, .int p0, .int p1] (EV D [] [(h, .inr (16, [.int th, g1, .ref sk, g3])), (sk, .inr (15, [.int t0, .int r0, .int s0, .int l0, .int n0]))] sz)) (va_Qi (fun (r u : Int32) => QM (good p0 0 9999 ∧ good p1 0 999) (l0) r u) (fun u t => va_P D vwCl [(h, .inr (16, [.int u, g1, .ref sk, g3]))] t.heap ∧ va_D (va_A [(h, .inr (16, [.int th, g1, .ref sk, g3])), (sk, .inr (15, [.int t0, .int r0, .int s0, .int l0, .int n0]))] sz) [(h, .inr (16, [.int u, g1, .ref sk, g3]))]) (va_A [(h, .inr (16, [.int th, g1, .ref sk, g3])), (sk, .inr (15, [.int t0, .int r0, .int s0, .int l0, .int n0]))] sz)) 0 0 (va_A [(h, .inr (16, [.int th, g1, .ref sk, g3])), (sk, .inr (15, [.int t0, .int r0, .int s0, .int l0, .int n0]))] sz) := by
  refine Met.ofW (cc := cX12_law) (maxL := 4) (ret := (some .int)) (by decide) rfl ?_
  intro p e s m args below meth c s₁ B hml hv
  obtain ⟨rfl, hsz, hP, hK, hD0, hG, hZ0⟩ := hv
  have hx := B.exec
  have hb := B.bytes
  have hr := B.returns
  have hts0 := atoms_spec (ws := wsA yX12_law cX12_law 4 (some .int)) B.pre
  have hts : ∀ w ∈ lw_all, w.before _ s = true := fun w h => hts0 w (List.mem_cons_of_mem _ h)
  have hown : s.vm.findClass RX12 = some m.cls := findClass_of_methodNamed B.named
  have hlocks := B.notSynchronized
  subst hsz
  have hZ := ZZ.wide hP hZ0
  have hD := hD0.self (sz := s.heap.size)
  generalize hAe : va_A [(h, .inr (16, [.int th, g1, .ref sk, g3])), (sk, .inr (15, [.int t0, .int r0, .int s0, .int l0, .int n0]))] s.heap.size = A at hD hZ ⊢
  have hA : ∀ q : Nat, s.heap.size ≤ q → A q := fun q h => by rw [← hAe]; exact Or.inr h
  have hS : va_S A s.heap s.heap [] := va_S.rf
  have hP : va_P D vwCl [(h, .inr (16, [.int th, g1, .ref sk, g3])), (sk, .inr (15, [.int t0, .int r0, .int s0, .int l0, .int n0]))] s.heap := hP
  have hl := lv_entry ([.ref h, .int p0, .int p1]) (n := 4) (Nat.le_of_ble_eq_true rfl)
  rw [lg_entry_eq]
  generalize (lg_sl ([.ref h, .int p0, .int p1]) ++ List.replicate (4 - (lg_sl ([.ref h, .int p0, .int p1])).length) Slot.unset).toArray = ls at hl ⊢
  have hl : lv_has ls 4 [(0, .ref h), (1, .int p0), (2, .int p1)] := hl
  refine lv_aload_n hx hb dX12_law_0 rfl (lv_at hl 0 rfl) ?_
  refine lv_iload_n hx hb dX12_law_1 rfl (lv_at hl 1 rfl) ?_
  refine lv_i2l hx hb dX12_law_2 rfl ?_
  refine lv_lconst (v := 0) hx hb dX12_law_3 (by decide) ?_
  refine lv_ldc2 (v := 9999) hx hb hown (hts _ q1486) dX12_law_4 ?_
  have hPc := hP.sub (ws' := []) [] rfl
  have hDc := hD.sub (ws' := []) [] (by decide) rfl
  have hKc := hK.sub (tys' := []) [] rfl
  refine va_calli (va_runS (As := [.long (Int32.toInt64 p0), .long 0, .long 9999]) (rest := [.ref h]) ⟨hx, hb, hml, hown, hts⟩ (k_LM_in l D (Int32.toInt64 p0) 0 9999 s.heap.size) (va_cwS 3 hts (gS q1358 q1359 q6 (gA q1360)) rfl rfl rfl (by decide +kernel) ⟨Nat.le_of_ble_eq_true rfl, Nat.le_of_ble_eq_true rfl⟩) ⟨EV.fb, fun U hU hW => ⟨rfl, EV.at hPc hKc hDc hG (hZ.no hS) U hU hW⟩⟩ rfl rfl hl.1 rfl (lv_room (Nat.le_of_ble_eq_true rfl)) dX12_law_7 ⟨Nat.le_of_ble_eq_true rfl, Nat.le_of_ble_eq_true rfl⟩) hS (fun q _ h => h.elim) (fun q h => h.elim) (fun r_1 u t H1 locs ht hvm hw hB hz1 hk1 hS => ?_)
  have hP := P_kept hP hk1
  generalize H1 = H at hP hS ⊢
  have hP : va_P D vwCl [(h, .inr (16, [.int th, g1, .ref sk, g3])), (sk, .inr (15, [.int t0, .int r0, .int s0, .int l0, .int n0]))] H := hP
  subst hw
  refine lv_if_eq (tgt := 29) hx hb dX12_law_10 (by decide) (fun c_2 => ?_) (fun c_2 => ?_)
  · refine lv_iconst (v := 1) hx hb dX12_law_29 (by decide) ?_
    refine va_put (D := D) (ci := 16) (v := .int 1) (ty := .int) (C := RX12) (T := TX12) (N := 4) hx hb hts iwX12 tyX12 tyX12_ok nmX12 hown hK hP hD hS 0 rfl rfl 0 (by decide) (hts _ q1161) (fun _ h9 => h9) rfl (by decide +kernel) rfl rfl (Nat.le_of_ble_eq_true rfl) dX12_law_30 (fun H locs hP hD hS => ?_)
    have hP : va_P D vwCl [(h, .inr (16, [.int 1, g1, .ref sk, g3])), (sk, .inr (15, [.int t0, .int r0, .int s0, .int l0, .int n0]))] H := hP
    have hD : va_D A [(h, .inr (16, [.int 1, g1, .ref sk, g3])), (sk, .inr (15, [.int t0, .int r0, .int s0, .int l0, .int n0]))] := hD
    refine lv_aload_n hx hb dX12_law_33 rfl (lv_at hl 0 rfl) ?_
    refine va_get (D := D) (ci := 16) (v := .int 1) (C := RX12) (T := TX12) (N := 4) hx hb hts iwX12 hown hK hP 0 rfl rfl 0 (by decide) (hts _ q1161) (fun _ h9 => h9) rfl dX12_law_34 ?_
    refine lv_if_le (tgt := 42) hx hb dX12_law_37 (by decide) (fun c_3 => ?_) (fun c_3 => ?_)
    · exact absurd c_3 (by decide)
    · refine lv_iconst (v := 0) hx hb dX12_law_40 (by decide) ?_
      have hP9 := hP.sub (ws' := [(h, .inr (16, [.int 1, g1, .ref sk, g3]))]) [0] rfl
      have hD9 := hD.sub (ws' := [(h, .inr (16, [.int 1, g1, .ref sk, g3]))]) [0] (by decide) rfl
      refine W.widen (k := 0) (n := 0) (Nat.le_of_ble_eq_true rfl) (Nat.le_of_ble_eq_true rfl) ?_
      exact W.iret (v := 0) hx hb hr (fun t ht hW => ⟨⟨0, 1, rfl, Or.inr ⟨rfl, fun z => xin_bad (by decide) (by decide) c_2 z.1⟩, by rw [ht]; exact hP9, hD9⟩, hS.F ht⟩) hS.2.2 dX12_law_41
  · refine lv_iload_n hx hb dX12_law_13 rfl (lv_at hl 2 rfl) ?_
    refine lv_i2l hx hb dX12_law_14 rfl ?_
    refine lv_lconst (v := 0) hx hb dX12_law_15 (by decide) ?_
    refine lv_ldc2 (v := 999) hx hb hown (hts _ q1520) dX12_law_16 ?_
    have hPc := hP.sub (ws' := []) [] rfl
    have hDc := hD.sub (ws' := []) [] (by decide) rfl
    have hKc := hK.sub (tys' := []) [] rfl
    refine va_calli (va_runS (As := [.long (Int32.toInt64 p1), .long 0, .long 999]) (rest := [.ref h]) ⟨hx, hb, hml, hown, hts⟩ (k_LM_in l D (Int32.toInt64 p1) 0 999 H.size) (va_cwS 3 hts (gS q1358 q1359 q6 (gA q1360)) rfl rfl rfl (by decide +kernel) ⟨Nat.le_of_ble_eq_true rfl, Nat.le_of_ble_eq_true rfl⟩) ⟨EV.fb, fun U hU hW => ⟨rfl, EV.at hPc hKc hDc hG (hZ.no hS) U hU hW⟩⟩ rfl rfl hl.1 rfl (lv_room (Nat.le_of_ble_eq_true rfl)) dX12_law_19 ⟨Nat.le_of_ble_eq_true rfl, Nat.le_of_ble_eq_true rfl⟩) hS (fun q _ h => h.elim) (fun q h => h.elim) (fun r_4 u t H1 locs ht hvm hw hB hz1 hk1 hS => ?_)
    have hP := P_kept hP hk1
    generalize H1 = H at hP hS ⊢
    have hP : va_P D vwCl [(h, .inr (16, [.int th, g1, .ref sk, g3])), (sk, .inr (15, [.int t0, .int r0, .int s0, .int l0, .int n0]))] H := hP
    subst hw
    refine lv_if_eq (tgt := 29) hx hb dX12_law_22 (by decide) (fun c_5 => ?_) (fun c_5 => ?_)
    · refine lv_iconst (v := 1) hx hb dX12_law_29 (by decide) ?_
      refine va_put (D := D) (ci := 16) (v := .int 1) (ty := .int) (C := RX12) (T := TX12) (N := 4) hx hb hts iwX12 tyX12 tyX12_ok nmX12 hown hK hP hD hS 0 rfl rfl 0 (by decide) (hts _ q1161) (fun _ h9 => h9) rfl (by decide +kernel) rfl rfl (Nat.le_of_ble_eq_true rfl) dX12_law_30 (fun H locs hP hD hS => ?_)
      have hP : va_P D vwCl [(h, .inr (16, [.int 1, g1, .ref sk, g3])), (sk, .inr (15, [.int t0, .int r0, .int s0, .int l0, .int n0]))] H := hP
      have hD : va_D A [(h, .inr (16, [.int 1, g1, .ref sk, g3])), (sk, .inr (15, [.int t0, .int r0, .int s0, .int l0, .int n0]))] := hD
      refine lv_aload_n hx hb dX12_law_33 rfl (lv_at hl 0 rfl) ?_
      refine va_get (D := D) (ci := 16) (v := .int 1) (C := RX12) (T := TX12) (N := 4) hx hb hts iwX12 hown hK hP 0 rfl rfl 0 (by decide) (hts _ q1161) (fun _ h9 => h9) rfl dX12_law_34 ?_
      refine lv_if_le (tgt := 42) hx hb dX12_law_37 (by decide) (fun c_6 => ?_) (fun c_6 => ?_)
      · exact absurd c_6 (by decide)
      · refine lv_iconst (v := 0) hx hb dX12_law_40 (by decide) ?_
        have hP9 := hP.sub (ws' := [(h, .inr (16, [.int 1, g1, .ref sk, g3]))]) [0] rfl
        have hD9 := hD.sub (ws' := [(h, .inr (16, [.int 1, g1, .ref sk, g3]))]) [0] (by decide) rfl
        refine W.widen (k := 0) (n := 0) (Nat.le_of_ble_eq_true rfl) (Nat.le_of_ble_eq_true rfl) ?_
        exact W.iret (v := 0) hx hb hr (fun t ht hW => ⟨⟨0, 1, rfl, Or.inr ⟨rfl, fun z => xin_bad (by decide) (by decide) c_5 z.2⟩, by rw [ht]; exact hP9, hD9⟩, hS.F ht⟩) hS.2.2 dX12_law_41
    · refine lv_iconst (v := 0) hx hb dX12_law_25 (by decide) ?_
      refine lv_goto (tgt := 30) hx hb dX12_law_26 (by decide) ?_
      refine va_put (D := D) (ci := 16) (v := .int 0) (ty := .int) (C := RX12) (T := TX12) (N := 4) hx hb hts iwX12 tyX12 tyX12_ok nmX12 hown hK hP hD hS 0 rfl rfl 0 (by decide) (hts _ q1161) (fun _ h9 => h9) rfl (by decide +kernel) rfl rfl (Nat.le_of_ble_eq_true rfl) dX12_law_30 (fun H locs hP hD hS => ?_)
      have hP : va_P D vwCl [(h, .inr (16, [.int 0, g1, .ref sk, g3])), (sk, .inr (15, [.int t0, .int r0, .int s0, .int l0, .int n0]))] H := hP
      have hD : va_D A [(h, .inr (16, [.int 0, g1, .ref sk, g3])), (sk, .inr (15, [.int t0, .int r0, .int s0, .int l0, .int n0]))] := hD
      refine lv_aload_n hx hb dX12_law_33 rfl (lv_at hl 0 rfl) ?_
      refine va_get (D := D) (ci := 16) (v := .int 0) (C := RX12) (T := TX12) (N := 4) hx hb hts iwX12 hown hK hP 0 rfl rfl 0 (by decide) (hts _ q1161) (fun _ h9 => h9) rfl dX12_law_34 ?_
      refine lv_if_le (tgt := 42) hx hb dX12_law_37 (by decide) (fun c_7 => ?_) (fun c_7 => ?_)
      · refine lv_aload_n hx hb dX12_law_42 rfl (lv_at hl 0 rfl) ?_
        refine va_get (D := D) (ci := 16) (v := .ref sk) (C := RX12) (T := TX12) (N := 4) hx hb hts iwX12 hown hK hP 0 rfl rfl 2 (by decide) (hts _ q1163) (fun _ h9 => h9) rfl dX12_law_43 ?_
        refine va_getN (D := D) (ci := 15) (v := .int l0) (C := RX11) (T := TX11) (N := 5) hx hb hts iwX11 hown hK hP 1 rfl rfl 3 (by decide) (hG.use t1147) (fun _ h9 => h9) rfl dX12_law_46 ?_
        refine lv_istore_n (lv' := [(3, .int l0), (0, .ref h), (1, .int p0), (2, .int p1)]) hx hb dX12_law_49 rfl hl (by decide) rfl (fun ls hl => ?_)
        refine lv_aload_n hx hb dX12_law_50 rfl (lv_at hl 1 rfl) ?_
        refine va_get (D := D) (ci := 16) (v := .ref sk) (C := RX12) (T := TX12) (N := 4) hx hb hts iwX12 hown hK hP 0 rfl rfl 2 (by decide) (hts _ q1163) (fun _ h9 => h9) rfl dX12_law_51 ?_
        refine lv_iload_n hx hb dX12_law_54 rfl (lv_at hl 2 rfl) ?_
        refine va_putN (D := D) (ci := 15) (v := .int p0) (ty := .int) (C := RX11) (T := TX11) (N := 5) hx hb hts iwX11 tyX11 tyX11_ok nmX11 hown hK hP hD hS 1 rfl rfl 3 (by decide) (hG.use t1147) (fun _ h9 => h9) rfl (by decide +kernel) rfl rfl (Nat.le_of_ble_eq_true rfl) dX12_law_55 (fun H locs hP hD hS => ?_)
        have hP : va_P D vwCl [(h, .inr (16, [.int 0, g1, .ref sk, g3])), (sk, .inr (15, [.int t0, .int r0, .int s0, .int p0, .int n0]))] H := hP
        have hD : va_D A [(h, .inr (16, [.int 0, g1, .ref sk, g3])), (sk, .inr (15, [.int t0, .int r0, .int s0, .int p0, .int n0]))] := hD
        refine lv_aload_n hx hb dX12_law_58 rfl (lv_at hl 1 rfl) ?_
        refine va_get (D := D) (ci := 16) (v := .ref sk) (C := RX12) (T := TX12) (N := 4) hx hb hts iwX12 hown hK hP 0 rfl rfl 2 (by decide) (hts _ q1163) (fun _ h9 => h9) rfl dX12_law_59 ?_
        refine lv_iload_n hx hb dX12_law_62 rfl (lv_at hl 3 rfl) ?_
        refine va_putN (D := D) (ci := 15) (v := .int p1) (ty := .int) (C := RX11) (T := TX11) (N := 5) hx hb hts iwX11 tyX11 tyX11_ok nmX11 hown hK hP hD hS 1 rfl rfl 4 (by decide) (hG.use t1149) (fun _ h9 => h9) rfl (by decide +kernel) rfl rfl (Nat.le_of_ble_eq_true rfl) dX12_law_63 (fun H locs hP hD hS => ?_)
        have hP : va_P D vwCl [(h, .inr (16, [.int 0, g1, .ref sk, g3])), (sk, .inr (15, [.int t0, .int r0, .int s0, .int p0, .int p1]))] H := hP
        have hD : va_D A [(h, .inr (16, [.int 0, g1, .ref sk, g3])), (sk, .inr (15, [.int t0, .int r0, .int s0, .int p0, .int p1]))] := hD
        refine lv_iload_n hx hb dX12_law_66 rfl (lv_at hl 0 rfl) ?_
        have hP9 := hP.sub (ws' := [(h, .inr (16, [.int 0, g1, .ref sk, g3]))]) [0] rfl
        have hD9 := hD.sub (ws' := [(h, .inr (16, [.int 0, g1, .ref sk, g3]))]) [0] (by decide) rfl
        refine W.widen (k := 0) (n := 0) (Nat.le_of_ble_eq_true rfl) (Nat.le_of_ble_eq_true rfl) ?_
        exact W.iret (v := l0) hx hb hr (fun t ht hW => ⟨⟨l0, 0, rfl, Or.inl ⟨rfl, ⟨xin_good (by decide) (by decide) c_2, xin_good (by decide) (by decide) c_5⟩, rfl⟩, by rw [ht]; exact hP9, hD9⟩, hS.F ht⟩) hS.2.2 dX12_law_67
      · exact absurd (by decide) c_7
set_option maxHeartbeats 4000000 in
set_option maxRecDepth 100000 in
/-- missing of the reference -/
theorem k_LM_missing (l : Launch) (D : va_G) (h : Nat) (th : Int32) (g1 g2 g3 : Value) (sz : Nat) : Met l yX12_missing (wsA yX12_missing cX12_missing 1 (some .long)) ({ frames := 0, cells := 0, slots := 0, locals := 0 }) (va_Pc [.ref h] (EV D [] [(h, .inr (16, [.int th, g1, g2, g3]))] sz)) (va_Ql (fun (r : Int64) (_ : Unit) => r = 0) (fun _ t => va_P D vwCl [(h, .inr (16, [.int 0, g1, g2, g3]))] t.heap ∧ va_D (va_A [(h, .inr (16, [.int th, g1, g2, g3]))] sz) [(h, .inr (16, [.int 0, g1, g2, g3]))]) (va_A [(h, .inr (16, [.int th, g1, g2, g3]))] sz)) 0 0 (va_A [(h, .inr (16, [.int th, g1, g2, g3]))] sz) := by
  refine Met.ofW (cc := cX12_missing) (maxL := 1) (ret := (some .long)) (by decide) rfl ?_
  intro p e s m args below meth c s₁ B hml hv
  obtain ⟨rfl, hsz, hP, hK, hD0, hG, hZ0⟩ := hv
  have hx := B.exec
  have hb := B.bytes
  have hr := B.returns
  have hts0 := atoms_spec (ws := wsA yX12_missing cX12_missing 1 (some .long)) B.pre
  have hts : ∀ w ∈ lw_all, w.before _ s = true := fun w h => hts0 w (List.mem_cons_of_mem _ h)
  have hown : s.vm.findClass RX12 = some m.cls := findClass_of_methodNamed B.named
  have hlocks := B.notSynchronized
  subst hsz
  have hZ := ZZ.wide hP hZ0
  have hD := hD0.self (sz := s.heap.size)
  generalize hAe : va_A [(h, .inr (16, [.int th, g1, g2, g3]))] s.heap.size = A at hD hZ ⊢
  have hA : ∀ q : Nat, s.heap.size ≤ q → A q := fun q h => by rw [← hAe]; exact Or.inr h
  have hS : va_S A s.heap s.heap [] := va_S.rf
  have hP : va_P D vwCl [(h, .inr (16, [.int th, g1, g2, g3]))] s.heap := hP
  have hl := lv_entry ([.ref h]) (n := 1) (Nat.le_of_ble_eq_true rfl)
  rw [lg_entry_eq]
  generalize (lg_sl ([.ref h]) ++ List.replicate (1 - (lg_sl ([.ref h])).length) Slot.unset).toArray = ls at hl ⊢
  have hl : lv_has ls 1 [(0, .ref h)] := hl
  refine lv_aload_n hx hb dX12_missing_0 rfl (lv_at hl 0 rfl) ?_
  refine lv_iconst (v := 0) hx hb dX12_missing_1 (by decide) ?_
  refine va_put (D := D) (ci := 16) (v := .int 0) (ty := .int) (C := RX12) (T := TX12) (N := 4) hx hb hts iwX12 tyX12 tyX12_ok nmX12 hown hK hP hD hS 0 rfl rfl 0 (by decide) (hts _ q1161) (fun _ h9 => h9) rfl (by decide +kernel) rfl rfl (Nat.le_of_ble_eq_true rfl) dX12_missing_2 (fun H locs hP hD hS => ?_)
  have hP : va_P D vwCl [(h, .inr (16, [.int 0, g1, g2, g3]))] H := hP
  have hD : va_D A [(h, .inr (16, [.int 0, g1, g2, g3]))] := hD
  refine lv_lconst (v := 0) hx hb dX12_missing_5 (by decide) ?_
  have hP9 := hP.sub (ws' := [(h, .inr (16, [.int 0, g1, g2, g3]))]) [0] rfl
  have hD9 := hD.sub (ws' := [(h, .inr (16, [.int 0, g1, g2, g3]))]) [0] (by decide) rfl
  refine W.widen (k := 0) (n := 0) (Nat.le_of_ble_eq_true rfl) (Nat.le_of_ble_eq_true rfl) ?_
  exact W.lret (v := 0) hx hb hr (fun t ht hW => ⟨⟨0, (), rfl, rfl, by rw [ht]; exact hP9, hD9⟩, hS.F ht⟩) hS.2.2 dX12_missing_6
set_option maxHeartbeats 4000000 in
set_option maxRecDepth 100000 in
/-- isTrue of the reference -/
theorem k_LM_isTrue (l : Launch) (D : va_G) (h : Nat) (th : Int32) (g1 g2 g3 : Value) (sz : Nat) : Met l yX12_isTrue (wsA yX12_isTrue cX12_isTrue 1 (some .boolean)) ({ frames := 0, cells := 0, slots := 0, locals := 0 }) (va_Pc [.ref h] (EV D [] [(h, .inr (16, [.int th, g1, g2, g3]))] sz)) (va_Qi (fun (r : Int32) (_ : Unit) => r = 1) (fun _ t => va_P D vwCl [(h, .inr (16, [.int 0, g1, g2, g3]))] t.heap ∧ va_D (va_A [(h, .inr (16, [.int th, g1, g2, g3]))] sz) [(h, .inr (16, [.int 0, g1, g2, g3]))]) (va_A [(h, .inr (16, [.int th, g1, g2, g3]))] sz)) 0 0 (va_A [(h, .inr (16, [.int th, g1, g2, g3]))] sz) := by
  refine Met.ofW (cc := cX12_isTrue) (maxL := 1) (ret := (some .boolean)) (by decide) rfl ?_
  intro p e s m args below meth c s₁ B hml hv
  obtain ⟨rfl, hsz, hP, hK, hD0, hG, hZ0⟩ := hv
  have hx := B.exec
  have hb := B.bytes
  have hr := B.returns
  have hts0 := atoms_spec (ws := wsA yX12_isTrue cX12_isTrue 1 (some .boolean)) B.pre
  have hts : ∀ w ∈ lw_all, w.before _ s = true := fun w h => hts0 w (List.mem_cons_of_mem _ h)
  have hown : s.vm.findClass RX12 = some m.cls := findClass_of_methodNamed B.named
  have hlocks := B.notSynchronized
  subst hsz
  have hZ := ZZ.wide hP hZ0
  have hD := hD0.self (sz := s.heap.size)
  generalize hAe : va_A [(h, .inr (16, [.int th, g1, g2, g3]))] s.heap.size = A at hD hZ ⊢
  have hA : ∀ q : Nat, s.heap.size ≤ q → A q := fun q h => by rw [← hAe]; exact Or.inr h
  have hS : va_S A s.heap s.heap [] := va_S.rf
  have hP : va_P D vwCl [(h, .inr (16, [.int th, g1, g2, g3]))] s.heap := hP
  have hl := lv_entry ([.ref h]) (n := 1) (Nat.le_of_ble_eq_true rfl)
  rw [lg_entry_eq]
  generalize (lg_sl ([.ref h]) ++ List.replicate (1 - (lg_sl ([.ref h])).length) Slot.unset).toArray = ls at hl ⊢
  have hl : lv_has ls 1 [(0, .ref h)] := hl
  refine lv_aload_n hx hb dX12_isTrue_0 rfl (lv_at hl 0 rfl) ?_
  refine lv_iconst (v := 0) hx hb dX12_isTrue_1 (by decide) ?_
  refine va_put (D := D) (ci := 16) (v := .int 0) (ty := .int) (C := RX12) (T := TX12) (N := 4) hx hb hts iwX12 tyX12 tyX12_ok nmX12 hown hK hP hD hS 0 rfl rfl 0 (by decide) (hts _ q1161) (fun _ h9 => h9) rfl (by decide +kernel) rfl rfl (Nat.le_of_ble_eq_true rfl) dX12_isTrue_2 (fun H locs hP hD hS => ?_)
  have hP : va_P D vwCl [(h, .inr (16, [.int 0, g1, g2, g3]))] H := hP
  have hD : va_D A [(h, .inr (16, [.int 0, g1, g2, g3]))] := hD
  refine lv_iconst (v := 1) hx hb dX12_isTrue_5 (by decide) ?_
  have hP9 := hP.sub (ws' := [(h, .inr (16, [.int 0, g1, g2, g3]))]) [0] rfl
  have hD9 := hD.sub (ws' := [(h, .inr (16, [.int 0, g1, g2, g3]))]) [0] (by decide) rfl
  refine W.widen (k := 0) (n := 0) (Nat.le_of_ble_eq_true rfl) (Nat.le_of_ble_eq_true rfl) ?_
  exact W.zret (v := 1) hx hb hr rfl (fun t ht hW => ⟨⟨1, (), rfl, rfl, by rw [ht]; exact hP9, hD9⟩, hS.F ht⟩) hS.2.2 dX12_isTrue_6
set_option maxHeartbeats 4000000 in
set_option maxRecDepth 100000 in
/-- link on the fresh reference: refused -/
theorem k_LM_link (l : Launch) (D : va_G) (h : Nat) (th : Int32) (cs : Nat) (sk vh : Value) (md : Int32) (ed : Value) (p0 : Int32) (p1 : Int32) (sz : Nat) : Met l yX12_link (wsA yX12_link cX12_link 4 (some .int)) ({ frames := 2, cells := 0, slots := 0, locals := 46 }) (va_Pc [.ref h, .int p0, .int p1] (EV D [] [(h, .inr (16, [.int th, .ref cs, sk, vh])), (cs, .inr (4, [.int md, ed, .int 0]))] sz)) (va_Qi (fun (_ : Int32) (_ : Unit) => True) (fun _ t => va_P D vwCl [(h, .inr (16, [.int 1, .ref cs, sk, vh])), (cs, .inr (4, [.int md, ed, .int 0]))] t.heap ∧ va_D (va_A [(h, .inr (16, [.int th, .ref cs, sk, vh])), (cs, .inr (4, [.int md, ed, .int 0]))] sz) [(h, .inr (16, [.int 1, .ref cs, sk, vh])), (cs, .inr (4, [.int md, ed, .int 0]))]) (va_A [(h, .inr (16, [.int th, .ref cs, sk, vh])), (cs, .inr (4, [.int md, ed, .int 0]))] sz)) 0 0 (va_A [(h, .inr (16, [.int th, .ref cs, sk, vh])), (cs, .inr (4, [.int md, ed, .int 0]))] sz) := by
  refine Met.ofW (cc := cX12_link) (maxL := 4) (ret := (some .int)) (by decide) rfl ?_
  intro p e s m args below meth c s₁ B hml hv
  obtain ⟨rfl, hsz, hP, hK, hD0, hG, hZ0⟩ := hv
  have hx := B.exec
  have hb := B.bytes
  have hr := B.returns
  have hts0 := atoms_spec (ws := wsA yX12_link cX12_link 4 (some .int)) B.pre
  have hts : ∀ w ∈ lw_all, w.before _ s = true := fun w h => hts0 w (List.mem_cons_of_mem _ h)
  have hown : s.vm.findClass RX12 = some m.cls := findClass_of_methodNamed B.named
  have hlocks := B.notSynchronized
  subst hsz
  have hZ := ZZ.wide hP hZ0
  have hD := hD0.self (sz := s.heap.size)
  generalize hAe : va_A [(h, .inr (16, [.int th, .ref cs, sk, vh])), (cs, .inr (4, [.int md, ed, .int 0]))] s.heap.size = A at hD hZ ⊢
  have hA : ∀ q : Nat, s.heap.size ≤ q → A q := fun q h => by rw [← hAe]; exact Or.inr h
  have hS : va_S A s.heap s.heap [] := va_S.rf
  have hP : va_P D vwCl [(h, .inr (16, [.int th, .ref cs, sk, vh])), (cs, .inr (4, [.int md, ed, .int 0]))] s.heap := hP
  have hl := lv_entry ([.ref h, .int p0, .int p1]) (n := 4) (Nat.le_of_ble_eq_true rfl)
  rw [lg_entry_eq]
  generalize (lg_sl ([.ref h, .int p0, .int p1]) ++ List.replicate (4 - (lg_sl ([.ref h, .int p0, .int p1])).length) Slot.unset).toArray = ls at hl ⊢
  have hl : lv_has ls 4 [(0, .ref h), (1, .int p0), (2, .int p1)] := hl
  refine lv_aload_n hx hb dX12_link_0 rfl (lv_at hl 0 rfl) ?_
  refine lv_aload_n hx hb dX12_link_1 rfl (lv_at hl 0 rfl) ?_
  refine lv_iload_n hx hb dX12_link_2 rfl (lv_at hl 1 rfl) ?_
  have hPc := hP.sub (ws' := [(h, .inr (16, [.int th, .ref cs, sk, vh])), (cs, .inr (4, [.int md, ed, .int 0]))]) [0, 1] rfl
  have hDc := hD.sub (ws' := [(h, .inr (16, [.int th, .ref cs, sk, vh])), (cs, .inr (4, [.int md, ed, .int 0]))]) [0, 1] (by decide) rfl
  have hKc := hK.sub (tys' := []) [] rfl
  refine va_calli (va_runV (As := [.int p0]) (rest := [.ref h]) ⟨hx, hb, hml, hown, hts⟩ (k_LM_isColumn l D h th cs sk vh md (ed) p0 s.heap.size) (cwV 1 hts (gV q1354 q1356 qs30 q6 (gA q1357)) rfl rfl rfl (by decide +kernel) ⟨Nat.le_of_ble_eq_true rfl, Nat.le_of_ble_eq_true rfl⟩) ⟨EV.fb, va_recv hKc hPc (ci := 16) (q0 := 0) rfl rfl, fun U hU hW => ⟨rfl, EV.at hPc hKc hDc hG (hZ.no hS) U hU hW⟩⟩ rfl rfl hl.1 rfl (lv_room (Nat.le_of_ble_eq_true rfl)) dX12_link_3 ⟨Nat.le_of_ble_eq_true rfl, Nat.le_of_ble_eq_true rfl⟩) hS (fun q _ h => h.elim) (fun q h => h.elim) (fun r_1 u t H1 locs ht hvm hw hB hz1 hk1 hS => ?_)
  have hP := P_kept hP hk1
  generalize H1 = H at hP hS ⊢
  have hP : va_P D vwCl [(h, .inr (16, [.int th, .ref cs, sk, vh])), (cs, .inr (4, [.int md, ed, .int 0]))] H := hP
  subst hw
  refine lv_if_eq (tgt := 22) hx hb dX12_link_6 (by decide) (fun c_2 => ?_) (fun c_2 => ?_)
  · refine lv_iconst (v := 1) hx hb dX12_link_22 (by decide) ?_
    refine lv_goto (tgt := 36) hx hb dX12_link_23 (by decide) ?_
    refine va_put (D := D) (ci := 16) (v := .int 1) (ty := .int) (C := RX12) (T := TX12) (N := 4) hx hb hts iwX12 tyX12 tyX12_ok nmX12 hown hK hP hD hS 0 rfl rfl 0 (by decide) (hts _ q1161) (fun _ h9 => h9) rfl (by decide +kernel) rfl rfl (Nat.le_of_ble_eq_true rfl) dX12_link_36 (fun H locs hP hD hS => ?_)
    have hP : va_P D vwCl [(h, .inr (16, [.int 1, .ref cs, sk, vh])), (cs, .inr (4, [.int md, ed, .int 0]))] H := hP
    have hD : va_D A [(h, .inr (16, [.int 1, .ref cs, sk, vh])), (cs, .inr (4, [.int md, ed, .int 0]))] := hD
    refine lv_aload_n hx hb dX12_link_39 rfl (lv_at hl 0 rfl) ?_
    refine va_get (D := D) (ci := 16) (v := .int 1) (C := RX12) (T := TX12) (N := 4) hx hb hts iwX12 hown hK hP 0 rfl rfl 0 (by decide) (hts _ q1161) (fun _ h9 => h9) rfl dX12_link_40 ?_
    refine lv_if_le (tgt := 48) hx hb dX12_link_43 (by decide) (fun c_3 => ?_) (fun c_3 => ?_)
    · exact absurd c_3 (by decide)
    · refine lv_iconst (v := 0) hx hb dX12_link_46 (by decide) ?_
      have hP9 := hP.sub (ws' := [(h, .inr (16, [.int 1, .ref cs, sk, vh])), (cs, .inr (4, [.int md, ed, .int 0]))]) [0, 1] rfl
      have hD9 := hD.sub (ws' := [(h, .inr (16, [.int 1, .ref cs, sk, vh])), (cs, .inr (4, [.int md, ed, .int 0]))]) [0, 1] (by decide) rfl
      refine W.widen (k := 0) (n := 0) (Nat.le_of_ble_eq_true rfl) (Nat.le_of_ble_eq_true rfl) ?_
      exact W.iret (v := 0) hx hb hr (fun t ht hW => ⟨⟨0, (), rfl, trivial, by rw [ht]; exact hP9, hD9⟩, hS.F ht⟩) hS.2.2 dX12_link_47
  · exact absurd (by decide) c_2
