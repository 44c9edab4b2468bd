theorem dX12_fit_31 : decode cX12_fit 31 = .ok (.iconst 1, 1) := by decide +kernel
theorem dX12_fit_32 : decode cX12_fit 32 = .ok (.isub, 1) := by decide +kernel
theorem dX12_fit_33 : decode cX12_fit 33 = .ok (.i2l, 1) := by decide +kernel
theorem dX12_fit_34 : decode cX12_fit 34 = .ok (.invokestatic 39, 3) := by decide +kernel
theorem dX12_fit_37 : decode cX12_fit 37 = .ok (.ifCond .eq 7, 3) := by decide +kernel
theorem dX12_fit_40 : decode cX12_fit 40 = .ok (.iconst 0, 1) := by decide +kernel
theorem dX12_fit_41 : decode cX12_fit 41 = .ok (.goto 4, 3) := by decide +kernel
theorem dX12_fit_44 : decode cX12_fit 44 = .ok (.iconst 3, 1) := by decide +kernel
theorem dX12_fit_45 : decode cX12_fit 45 = .ok (.putfield 31, 3) := by decide +kernel
theorem dX12_fit_48 : decode cX12_fit 48 = .ok (.aload_n 0, 1) := by decide +kernel
theorem dX12_fit_49 : decode cX12_fit 49 = .ok (.getfield 31, 3) := by decide +kernel
theorem dX12_fit_52 : decode cX12_fit 52 = .ok (.ifCond .le 7, 3) := by decide +kernel
theorem dX12_fit_55 : decode cX12_fit 55 = .ok (.iconst 0, 1) := by decide +kernel
theorem dX12_fit_56 : decode cX12_fit 56 = .ok (.goto 16, 3) := by decide +kernel
theorem dX12_fit_59 : decode cX12_fit 59 = .ok (.aload 5, 2) := by decide +kernel
theorem dX12_fit_61 : decode cX12_fit 61 = .ok (.iload 4, 2) := by decide +kernel
theorem dX12_fit_63 : decode cX12_fit 63 = .ok (.invokevirtual 47, 3) := by decide +kernel
theorem dX12_fit_66 : decode cX12_fit 66 = .ok (.checkcast 260, 3) := by decide +kernel
theorem dX12_fit_69 : decode cX12_fit 69 = .ok (.invokevirtual 275, 3) := by decide +kernel
theorem dX12_fit_72 : decode cX12_fit 72 = .ok (.ireturn, 1) := by decide +kernel
theorem dX12_missing_0 : decode cX12_missing 0 = .ok (.aload_n 0, 1) := by decide +kernel
theorem dX12_missing_1 : decode cX12_missing 1 = .ok (.iconst 0, 1) := by decide +kernel
theorem dX12_missing_2 : decode cX12_missing 2 = .ok (.putfield 31, 3) := by decide +kernel
theorem dX12_missing_5 : decode cX12_missing 5 = .ok (.lconst 0, 1) := by decide +kernel
theorem dX12_missing_6 : decode cX12_missing 6 = .ok (.lreturn, 1) := by decide +kernel
theorem dX12_frozenShare_0 : decode cX12_frozenShare 0 = .ok (.iconst 0, 1) := by decide +kernel
theorem dX12_frozenShare_1 : decode cX12_frozenShare 1 = .ok (.istore_n 1, 1) := by decide +kernel
theorem dX12_frozenShare_2 : decode cX12_frozenShare 2 = .ok (.iconst 0, 1) := by decide +kernel
theorem dX12_frozenShare_3 : decode cX12_frozenShare 3 = .ok (.istore_n 2, 1) := by decide +kernel
theorem dX12_frozenShare_4 : decode cX12_frozenShare 4 = .ok (.aload_n 0, 1) := by decide +kernel
theorem dX12_frozenShare_5 : decode cX12_frozenShare 5 = .ok (.getfield 18, 3) := by decide +kernel
theorem dX12_frozenShare_8 : decode cX12_frozenShare 8 = .ok (.invokevirtual 182, 3) := by decide +kernel
theorem dX12_frozenShare_11 : decode cX12_frozenShare 11 = .ok (.astore_n 3, 1) := by decide +kernel
theorem dX12_frozenShare_12 : decode cX12_frozenShare 12 = .ok (.aload_n 3, 1) := by decide +kernel
theorem dX12_frozenShare_13 : decode cX12_frozenShare 13 = .ok (.invokeinterface 186 1, 5) := by decide +kernel
theorem dX12_frozenShare_18 : decode cX12_frozenShare 18 = .ok (.ifCond .eq 71, 3) := by decide +kernel
theorem dX12_frozenShare_21 : decode cX12_frozenShare 21 = .ok (.aload_n 3, 1) := by decide +kernel
theorem dX12_frozenShare_22 : decode cX12_frozenShare 22 = .ok (.invokeinterface 191 1, 5) := by decide +kernel
theorem dX12_frozenShare_27 : decode cX12_frozenShare 27 = .ok (.checkcast 51, 3) := by decide +kernel
theorem dX12_frozenShare_30 : decode cX12_frozenShare 30 = .ok (.astore 4, 2) := by decide +kernel
theorem dX12_frozenShare_32 : decode cX12_frozenShare 32 = .ok (.aload 4, 2) := by decide +kernel
theorem dX12_frozenShare_34 : decode cX12_frozenShare 34 = .ok (.getfield 53, 3) := by decide +kernel
theorem dX12_frozenShare_37 : decode cX12_frozenShare 37 = .ok (.invokevirtual 182, 3) := by decide +kernel
theorem dX12_frozenShare_40 : decode cX12_frozenShare 40 = .ok (.astore 5, 2) := by decide +kernel
theorem dX12_frozenShare_42 : decode cX12_frozenShare 42 = .ok (.aload 5, 2) := by decide +kernel
theorem dX12_frozenShare_44 : decode cX12_frozenShare 44 = .ok (.invokeinterface 186 1, 5) := by decide +kernel
theorem dX12_frozenShare_49 : decode cX12_frozenShare 49 = .ok (.ifCond .eq 37, 3) := by decide +kernel
theorem dX12_frozenShare_52 : decode cX12_frozenShare 52 = .ok (.aload 5, 2) := by decide +kernel
theorem dX12_frozenShare_54 : decode cX12_frozenShare 54 = .ok (.invokeinterface 191 1, 5) := by decide +kernel
theorem dX12_frozenShare_59 : decode cX12_frozenShare 59 = .ok (.checkcast 56, 3) := by decide +kernel
theorem dX12_frozenShare_62 : decode cX12_frozenShare 62 = .ok (.astore 6, 2) := by decide +kernel
theorem dX12_frozenShare_64 : decode cX12_frozenShare 64 = .ok (.iinc 1 1, 3) := by decide +kernel
theorem dX12_frozenShare_67 : decode cX12_frozenShare 67 = .ok (.iload_n 2, 1) := by decide +kernel
theorem dX12_frozenShare_68 : decode cX12_frozenShare 68 = .ok (.aload 6, 2) := by decide +kernel
theorem dX12_frozenShare_70 : decode cX12_frozenShare 70 = .ok (.getfield 220, 3) := by decide +kernel
theorem dX12_frozenShare_73 : decode cX12_frozenShare 73 = .ok (.ifCond .eq 7, 3) := by decide +kernel
theorem dX12_frozenShare_76 : decode cX12_frozenShare 76 = .ok (.iconst 1, 1) := by decide +kernel
theorem dX12_frozenShare_77 : decode cX12_frozenShare 77 = .ok (.goto 4, 3) := by decide +kernel
theorem dX12_frozenShare_80 : decode cX12_frozenShare 80 = .ok (.iconst 0, 1) := by decide +kernel
theorem dX12_frozenShare_81 : decode cX12_frozenShare 81 = .ok (.iadd, 1) := by decide +kernel
theorem dX12_frozenShare_82 : decode cX12_frozenShare 82 = .ok (.istore_n 2, 1) := by decide +kernel
theorem dX12_frozenShare_83 : decode cX12_frozenShare 83 = .ok (.goto (-41), 3) := by decide +kernel
theorem dX12_frozenShare_86 : decode cX12_frozenShare 86 = .ok (.goto (-74), 3) := by decide +kernel
theorem dX12_frozenShare_89 : decode cX12_frozenShare 89 = .ok (.aload_n 0, 1) := by decide +kernel
theorem dX12_frozenShare_90 : decode cX12_frozenShare 90 = .ok (.iload_n 1, 1) := by decide +kernel
theorem dX12_frozenShare_91 : decode cX12_frozenShare 91 = .ok (.ifCond .ne 7, 3) := by decide +kernel
theorem dX12_frozenShare_94 : decode cX12_frozenShare 94 = .ok (.iconst 1, 1) := by decide +kernel
theorem dX12_frozenShare_95 : decode cX12_frozenShare 95 = .ok (.goto 4, 3) := by decide +kernel
theorem dX12_frozenShare_98 : decode cX12_frozenShare 98 = .ok (.iconst 0, 1) := by decide +kernel
theorem dX12_frozenShare_99 : decode cX12_frozenShare 99 = .ok (.putfield 31, 3) := by decide +kernel
theorem dX12_frozenShare_102 : decode cX12_frozenShare 102 = .ok (.aload_n 0, 1) := by decide +kernel
theorem dX12_frozenShare_103 : decode cX12_frozenShare 103 = .ok (.getfield 31, 3) := by decide +kernel
theorem dX12_frozenShare_106 : decode cX12_frozenShare 106 = .ok (.ifCond .le 7, 3) := by decide +kernel
theorem dX12_frozenShare_109 : decode cX12_frozenShare 109 = .ok (.fconst 0, 1) := by decide +kernel
theorem dX12_frozenShare_110 : decode cX12_frozenShare 110 = .ok (.goto 8, 3) := by decide +kernel
theorem dX12_frozenShare_113 : decode cX12_frozenShare 113 = .ok (.iload_n 2, 1) := by decide +kernel
theorem dX12_frozenShare_114 : decode cX12_frozenShare 114 = .ok (.i2f, 1) := by decide +kernel
theorem dX12_frozenShare_115 : decode cX12_frozenShare 115 = .ok (.iload_n 1, 1) := by decide +kernel
theorem dX12_frozenShare_116 : decode cX12_frozenShare 116 = .ok (.i2f, 1) := by decide +kernel
theorem dX12_frozenShare_117 : decode cX12_frozenShare 117 = .ok (.fdiv, 1) := by decide +kernel
theorem dX12_frozenShare_118 : decode cX12_frozenShare 118 = .ok (.freturn, 1) := by decide +kernel
theorem dX12_meanWater_0 : decode cX12_meanWater 0 = .ok (.iconst 0, 1) := by decide +kernel
theorem dX12_meanWater_1 : decode cX12_meanWater 1 = .ok (.istore_n 1, 1) := by decide +kernel
theorem dX12_meanWater_2 : decode cX12_meanWater 2 = .ok (.iconst 0, 1) := by decide +kernel
theorem dX12_meanWater_3 : decode cX12_meanWater 3 = .ok (.istore_n 2, 1) := by decide +kernel
theorem dX12_meanWater_4 : decode cX12_meanWater 4 = .ok (.aload_n 0, 1) := by decide +kernel
theorem dX12_meanWater_5 : decode cX12_meanWater 5 = .ok (.getfield 18, 3) := by decide +kernel
theorem dX12_meanWater_8 : decode cX12_meanWater 8 = .ok (.invokevirtual 182, 3) := by decide +kernel
theorem dX12_meanWater_11 : decode cX12_meanWater 11 = .ok (.astore_n 3, 1) := by decide +kernel
theorem dX12_meanWater_12 : decode cX12_meanWater 12 = .ok (.aload_n 3, 1) := by decide +kernel
theorem dX12_meanWater_13 : decode cX12_meanWater 13 = .ok (.invokeinterface 186 1, 5) := by decide +kernel
theorem dX12_meanWater_18 : decode cX12_meanWater 18 = .ok (.ifCond .eq 63, 3) := by decide +kernel
theorem dX12_meanWater_21 : decode cX12_meanWater 21 = .ok (.aload_n 3, 1) := by decide +kernel
theorem dX12_meanWater_22 : decode cX12_meanWater 22 = .ok (.invokeinterface 191 1, 5) := by decide +kernel
theorem dX12_meanWater_27 : decode cX12_meanWater 27 = .ok (.checkcast 51, 3) := by decide +kernel
theorem dX12_meanWater_30 : decode cX12_meanWater 30 = .ok (.astore 4, 2) := by decide +kernel
theorem dX12_meanWater_32 : decode cX12_meanWater 32 = .ok (.aload 4, 2) := by decide +kernel
theorem dX12_meanWater_34 : decode cX12_meanWater 34 = .ok (.getfield 53, 3) := by decide +kernel
theorem dX12_meanWater_37 : decode cX12_meanWater 37 = .ok (.invokevirtual 182, 3) := by decide +kernel
theorem dX12_meanWater_40 : decode cX12_meanWater 40 = .ok (.astore 5, 2) := by decide +kernel
theorem dX12_meanWater_42 : decode cX12_meanWater 42 = .ok (.aload 5, 2) := by decide +kernel
theorem dX12_meanWater_44 : decode cX12_meanWater 44 = .ok (.invokeinterface 186 1, 5) := by decide +kernel
theorem dX12_meanWater_49 : decode cX12_meanWater 49 = .ok (.ifCond .eq 29, 3) := by decide +kernel
theorem dX12_meanWater_52 : decode cX12_meanWater 52 = .ok (.aload 5, 2) := by decide +kernel
theorem dX12_meanWater_54 : decode cX12_meanWater 54 = .ok (.invokeinterface 191 1, 5) := by decide +kernel
theorem dX12_meanWater_59 : decode cX12_meanWater 59 = .ok (.checkcast 56, 3) := by decide +kernel
theorem dX12_meanWater_62 : decode cX12_meanWater 62 = .ok (.astore 6, 2) := by decide +kernel
theorem dX12_meanWater_64 : decode cX12_meanWater 64 = .ok (.iinc 1 1, 3) := by decide +kernel
theorem dX12_meanWater_67 : decode cX12_meanWater 67 = .ok (.iload_n 2, 1) := by decide +kernel
theorem dX12_meanWater_68 : decode cX12_meanWater 68 = .ok (.aload 6, 2) := by decide +kernel
theorem dX12_meanWater_70 : decode cX12_meanWater 70 = .ok (.getfield 90, 3) := by decide +kernel
theorem dX12_meanWater_73 : decode cX12_meanWater 73 = .ok (.iadd, 1) := by decide +kernel
theorem dX12_meanWater_74 : decode cX12_meanWater 74 = .ok (.istore_n 2, 1) := by decide +kernel
theorem dX12_meanWater_75 : decode cX12_meanWater 75 = .ok (.goto (-33), 3) := by decide +kernel
theorem dX12_meanWater_78 : decode cX12_meanWater 78 = .ok (.goto (-66), 3) := by decide +kernel
theorem dX12_meanWater_81 : decode cX12_meanWater 81 = .ok (.aload_n 0, 1) := by decide +kernel
theorem dX12_meanWater_82 : decode cX12_meanWater 82 = .ok (.iload_n 1, 1) := by decide +kernel
theorem dX12_meanWater_83 : decode cX12_meanWater 83 = .ok (.ifCond .ne 7, 3) := by decide +kernel
theorem dX12_meanWater_86 : decode cX12_meanWater 86 = .ok (.iconst 1, 1) := by decide +kernel
theorem dX12_meanWater_87 : decode cX12_meanWater 87 = .ok (.goto 4, 3) := by decide +kernel
theorem dX12_meanWater_90 : decode cX12_meanWater 90 = .ok (.iconst 0, 1) := by decide +kernel
theorem dX12_meanWater_91 : decode cX12_meanWater 91 = .ok (.putfield 31, 3) := by decide +kernel
theorem dX12_meanWater_94 : decode cX12_meanWater 94 = .ok (.aload_n 0, 1) := by decide +kernel
theorem dX12_meanWater_95 : decode cX12_meanWater 95 = .ok (.getfield 31, 3) := by decide +kernel
theorem dX12_meanWater_98 : decode cX12_meanWater 98 = .ok (.ifCond .le 7, 3) := by decide +kernel
theorem dX12_meanWater_101 : decode cX12_meanWater 101 = .ok (.dconst 0, 1) := by decide +kernel
theorem dX12_meanWater_102 : decode cX12_meanWater 102 = .ok (.goto 8, 3) := by decide +kernel
theorem dX12_meanWater_105 : decode cX12_meanWater 105 = .ok (.iload_n 2, 1) := by decide +kernel
theorem dX12_meanWater_106 : decode cX12_meanWater 106 = .ok (.i2d, 1) := by decide +kernel
theorem dX12_meanWater_107 : decode cX12_meanWater 107 = .ok (.iload_n 1, 1) := by decide +kernel
theorem dX12_meanWater_108 : decode cX12_meanWater 108 = .ok (.i2d, 1) := by decide +kernel
theorem dX12_meanWater_109 : decode cX12_meanWater 109 = .ok (.ddiv, 1) := by decide +kernel
theorem dX12_meanWater_110 : decode cX12_meanWater 110 = .ok (.dreturn, 1) := by decide +kernel
theorem dX12_checksum_0 : decode cX12_checksum 0 = .ok (.aload_n 0, 1) := by decide +kernel
theorem dX12_checksum_1 : decode cX12_checksum 1 = .ok (.iconst 0, 1) := by decide +kernel
theorem dX12_checksum_2 : decode cX12_checksum 2 = .ok (.putfield 31, 3) := by decide +kernel
theorem dX12_checksum_5 : decode cX12_checksum 5 = .ok (.ldc2_w 278, 3) := by decide +kernel
theorem dX12_checksum_8 : decode cX12_checksum 8 = .ok (.lstore_n 1, 1) := by decide +kernel
theorem dX12_checksum_9 : decode cX12_checksum 9 = .ok (.aload_n 0, 1) := by decide +kernel
theorem dX12_checksum_10 : decode cX12_checksum 10 = .ok (.getfield 18, 3) := by decide +kernel
theorem dX12_checksum_13 : decode cX12_checksum 13 = .ok (.invokevirtual 182, 3) := by decide +kernel
theorem dX12_checksum_16 : decode cX12_checksum 16 = .ok (.astore_n 3, 1) := by decide +kernel
theorem dX12_checksum_17 : decode cX12_checksum 17 = .ok (.aload_n 3, 1) := by decide +kernel
theorem dX12_checksum_18 : decode cX12_checksum 18 = .ok (.invokeinterface 186 1, 5) := by decide +kernel
theorem dX12_checksum_23 : decode cX12_checksum 23 = .ok (.ifCond .eq 117, 3) := by decide +kernel
theorem dX12_checksum_26 : decode cX12_checksum 26 = .ok (.aload_n 3, 1) := by decide +kernel
theorem dX12_checksum_27 : decode cX12_checksum 27 = .ok (.invokeinterface 191 1, 5) := by decide +kernel
theorem dX12_checksum_32 : decode cX12_checksum 32 = .ok (.checkcast 51, 3) := by decide +kernel
theorem dX12_checksum_35 : decode cX12_checksum 35 = .ok (.astore 4, 2) := by decide +kernel
theorem dX12_checksum_37 : decode cX12_checksum 37 = .ok (.ldc2_w 280, 3) := by decide +kernel
theorem dX12_checksum_40 : decode cX12_checksum 40 = .ok (.lload_n 1, 1) := by decide +kernel
theorem dX12_checksum_41 : decode cX12_checksum 41 = .ok (.lmul, 1) := by decide +kernel
theorem dX12_checksum_42 : decode cX12_checksum 42 = .ok (.aload 4, 2) := by decide +kernel
theorem dX12_checksum_44 : decode cX12_checksum 44 = .ok (.getfield 208, 3) := by decide +kernel
theorem dX12_checksum_47 : decode cX12_checksum 47 = .ok (.i2l, 1) := by decide +kernel
theorem dX12_checksum_48 : decode cX12_checksum 48 = .ok (.ladd, 1) := by decide +kernel
theorem dX12_checksum_49 : decode cX12_checksum 49 = .ok (.lstore_n 1, 1) := by decide +kernel
theorem dX12_checksum_50 : decode cX12_checksum 50 = .ok (.ldc2_w 280, 3) := by decide +kernel
theorem dX12_checksum_53 : decode cX12_checksum 53 = .ok (.lload_n 1, 1) := by decide +kernel
theorem dX12_checksum_54 : decode cX12_checksum 54 = .ok (.lmul, 1) := by decide +kernel
theorem dX12_checksum_55 : decode cX12_checksum 55 = .ok (.aload 4, 2) := by decide +kernel
theorem dX12_checksum_57 : decode cX12_checksum 57 = .ok (.getfield 211, 3) := by decide +kernel
theorem dX12_checksum_60 : decode cX12_checksum 60 = .ok (.ladd, 1) := by decide +kernel
theorem dX12_checksum_61 : decode cX12_checksum 61 = .ok (.lstore_n 1, 1) := by decide +kernel
theorem dX12_checksum_62 : decode cX12_checksum 62 = .ok (.aload 4, 2) := by decide +kernel
theorem dX12_checksum_64 : decode cX12_checksum 64 = .ok (.getfield 53, 3) := by decide +kernel
theorem dX12_checksum_67 : decode cX12_checksum 67 = .ok (.invokevirtual 182, 3) := by decide +kernel
theorem dX12_checksum_70 : decode cX12_checksum 70 = .ok (.astore 5, 2) := by decide +kernel
theorem dX12_checksum_72 : decode cX12_checksum 72 = .ok (.aload 5, 2) := by decide +kernel
theorem dX12_checksum_74 : decode cX12_checksum 74 = .ok (.invokeinterface 186 1, 5) := by decide +kernel
theorem dX12_checksum_79 : decode cX12_checksum 79 = .ok (.ifCond .eq 58, 3) := by decide +kernel
theorem dX12_checksum_82 : decode cX12_checksum 82 = .ok (.aload 5, 2) := by decide +kernel
theorem dX12_checksum_84 : decode cX12_checksum 84 = .ok (.invokeinterface 191 1, 5) := by decide +kernel
theorem dX12_checksum_89 : decode cX12_checksum 89 = .ok (.checkcast 56, 3) := by decide +kernel
theorem dX12_checksum_92 : decode cX12_checksum 92 = .ok (.astore 6, 2) := by decide +kernel
theorem dX12_checksum_94 : decode cX12_checksum 94 = .ok (.ldc2_w 280, 3) := by decide +kernel
theorem dX12_checksum_97 : decode cX12_checksum 97 = .ok (.lload_n 1, 1) := by decide +kernel
theorem dX12_checksum_98 : decode cX12_checksum 98 = .ok (.lmul, 1) := by decide +kernel
theorem dX12_checksum_99 : decode cX12_checksum 99 = .ok (.aload 6, 2) := by decide +kernel
theorem dX12_checksum_101 : decode cX12_checksum 101 = .ok (.getfield 90, 3) := by decide +kernel
theorem dX12_checksum_104 : decode cX12_checksum 104 = .ok (.i2l, 1) := by decide +kernel
theorem dX12_checksum_105 : decode cX12_checksum 105 = .ok (.ladd, 1) := by decide +kernel
theorem dX12_checksum_106 : decode cX12_checksum 106 = .ok (.lstore_n 1, 1) := by decide +kernel
theorem dX12_checksum_107 : decode cX12_checksum 107 = .ok (.ldc2_w 280, 3) := by decide +kernel
theorem dX12_checksum_110 : decode cX12_checksum 110 = .ok (.lload_n 1, 1) := by decide +kernel
theorem dX12_checksum_111 : decode cX12_checksum 111 = .ok (.lmul, 1) := by decide +kernel
theorem dX12_checksum_112 : decode cX12_checksum 112 = .ok (.aload 6, 2) := by decide +kernel
theorem dX12_checksum_114 : decode cX12_checksum 114 = .ok (.getfield 143, 3) := by decide +kernel
theorem dX12_checksum_117 : decode cX12_checksum 117 = .ok (.iconst 0, 1) := by decide +kernel
theorem dX12_checksum_118 : decode cX12_checksum 118 = .ok (.laload, 1) := by decide +kernel
theorem dX12_checksum_119 : decode cX12_checksum 119 = .ok (.ladd, 1) := by decide +kernel
theorem dX12_checksum_120 : decode cX12_checksum 120 = .ok (.lstore_n 1, 1) := by decide +kernel
theorem dX12_checksum_121 : decode cX12_checksum 121 = .ok (.ldc2_w 280, 3) := by decide +kernel
theorem dX12_checksum_124 : decode cX12_checksum 124 = .ok (.lload_n 1, 1) := by decide +kernel
theorem dX12_checksum_125 : decode cX12_checksum 125 = .ok (.lmul, 1) := by decide +kernel
theorem dX12_checksum_126 : decode cX12_checksum 126 = .ok (.aload 6, 2) := by decide +kernel
theorem dX12_checksum_128 : decode cX12_checksum 128 = .ok (.getfield 223, 3) := by decide +kernel
theorem dX12_checksum_131 : decode cX12_checksum 131 = .ok (.i2l, 1) := by decide +kernel
theorem dX12_checksum_132 : decode cX12_checksum 132 = .ok (.ladd, 1) := by decide +kernel
theorem dX12_checksum_133 : decode cX12_checksum 133 = .ok (.lstore_n 1, 1) := by decide +kernel
theorem dX12_checksum_134 : decode cX12_checksum 134 = .ok (.goto (-62), 3) := by decide +kernel
theorem dX12_checksum_137 : decode cX12_checksum 137 = .ok (.goto (-120), 3) := by decide +kernel
theorem dX12_checksum_140 : decode cX12_checksum 140 = .ok (.lload_n 1, 1) := by decide +kernel
theorem dX12_checksum_141 : decode cX12_checksum 141 = .ok (.lreturn, 1) := by decide +kernel
theorem dX12_isTrue_0 : decode cX12_isTrue 0 = .ok (.aload_n 0, 1) := by decide +kernel
theorem dX12_isTrue_1 : decode cX12_isTrue 1 = .ok (.iconst 0, 1) := by decide +kernel
theorem dX12_isTrue_2 : decode cX12_isTrue 2 = .ok (.putfield 31, 3) := by decide +kernel
theorem dX12_isTrue_5 : decode cX12_isTrue 5 = .ok (.iconst 1, 1) := by decide +kernel
theorem dX12_isTrue_6 : decode cX12_isTrue 6 = .ok (.ireturn, 1) := by decide +kernel
theorem dJx00060_init_a7421_0 : decode cJx00060_init_a7421 0 = .ok (.aload_n 0, 1) := by decide +kernel
theorem dJx00060_init_a7421_1 : decode cJx00060_init_a7421 1 = .ok (.aload_n 1, 1) := by decide +kernel
theorem dJx00060_init_a7421_2 : decode cJx00060_init_a7421 2 = .ok (.invokespecial 7, 3) := by decide +kernel
theorem dJx00060_init_a7421_5 : decode cJx00060_init_a7421 5 = .ok (.return_, 1) := by decide +kernel
theorem dJ11_isValidCodePoint_9a6ad_0 : decode cJ11_isValidCodePoint_9a6ad 0 = .ok (.iload_n 0, 1) := by decide +kernel
theorem dJ11_isValidCodePoint_9a6ad_1 : decode cJ11_isValidCodePoint_9a6ad 1 = .ok (.bipush 16, 2) := by decide +kernel
theorem dJ11_isValidCodePoint_9a6ad_3 : decode cJ11_isValidCodePoint_9a6ad 3 = .ok (.iushr, 1) := by decide +kernel
theorem dJ11_isValidCodePoint_9a6ad_4 : decode cJ11_isValidCodePoint_9a6ad 4 = .ok (.istore_n 1, 1) := by decide +kernel
theorem dJ11_isValidCodePoint_9a6ad_5 : decode cJ11_isValidCodePoint_9a6ad 5 = .ok (.iload_n 1, 1) := by decide +kernel
theorem dJ11_isValidCodePoint_9a6ad_6 : decode cJ11_isValidCodePoint_9a6ad 6 = .ok (.bipush 17, 2) := by decide +kernel
theorem dJ11_isValidCodePoint_9a6ad_8 : decode cJ11_isValidCodePoint_9a6ad 8 = .ok (.if_icmp .ge 7, 3) := by decide +kernel
theorem dJ11_isValidCodePoint_9a6ad_11 : decode cJ11_isValidCodePoint_9a6ad 11 = .ok (.iconst 1, 1) := by decide +kernel
theorem dJ11_isValidCodePoint_9a6ad_12 : decode cJ11_isValidCodePoint_9a6ad 12 = .ok (.goto 4, 3) := by decide +kernel
theorem dJ11_isValidCodePoint_9a6ad_15 : decode cJ11_isValidCodePoint_9a6ad 15 = .ok (.iconst 0, 1) := by decide +kernel
theorem dJ11_isValidCodePoint_9a6ad_16 : decode cJ11_isValidCodePoint_9a6ad 16 = .ok (.ireturn, 1) := by decide +kernel
theorem dJ11_highSurrogate_5068e_0 : decode cJ11_highSurrogate_5068e 0 = .ok (.iload_n 0, 1) := by decide +kernel
theorem dJ11_highSurrogate_5068e_1 : decode cJ11_highSurrogate_5068e 1 = .ok (.bipush 10, 2) := by decide +kernel
theorem dJ11_highSurrogate_5068e_3 : decode cJ11_highSurrogate_5068e 3 = .ok (.iushr, 1) := by decide +kernel
theorem dJ11_highSurrogate_5068e_4 : decode cJ11_highSurrogate_5068e 4 = .ok (.ldc 110, 2) := by decide +kernel
theorem dJ11_highSurrogate_5068e_6 : decode cJ11_highSurrogate_5068e 6 = .ok (.iadd, 1) := by decide +kernel
theorem dJ11_highSurrogate_5068e_7 : decode cJ11_highSurrogate_5068e 7 = .ok (.i2c, 1) := by decide +kernel
theorem dJ11_highSurrogate_5068e_8 : decode cJ11_highSurrogate_5068e 8 = .ok (.ireturn, 1) := by decide +kernel
theorem dJ11_lowSurrogate_5068e_0 : decode cJ11_lowSurrogate_5068e 0 = .ok (.iload_n 0, 1) := by decide +kernel
theorem dJ11_lowSurrogate_5068e_1 : decode cJ11_lowSurrogate_5068e 1 = .ok (.sipush 1023, 3) := by decide +kernel
theorem dJ11_lowSurrogate_5068e_4 : decode cJ11_lowSurrogate_5068e 4 = .ok (.iand, 1) := by decide +kernel
theorem dJ11_lowSurrogate_5068e_5 : decode cJ11_lowSurrogate_5068e 5 = .ok (.ldc 76, 2) := by decide +kernel
theorem dJ11_lowSurrogate_5068e_7 : decode cJ11_lowSurrogate_5068e 7 = .ok (.iadd, 1) := by decide +kernel
theorem dJ11_lowSurrogate_5068e_8 : decode cJ11_lowSurrogate_5068e 8 = .ok (.i2c, 1) := by decide +kernel
theorem dJ11_lowSurrogate_5068e_9 : decode cJ11_lowSurrogate_5068e 9 = .ok (.ireturn, 1) := by decide +kernel
theorem dJ6_valueOf_2dffe_0 : decode cJ6_valueOf_2dffe 0 = .ok (.iload_n 0, 1) := by decide +kernel
theorem dJ6_valueOf_2dffe_1 : decode cJ6_valueOf_2dffe 1 = .ok (.bipush (-128), 2) := by decide +kernel
theorem dJ6_valueOf_2dffe_3 : decode cJ6_valueOf_2dffe 3 = .ok (.if_icmp .lt 20, 3) := by decide +kernel
theorem dJ6_valueOf_2dffe_6 : decode cJ6_valueOf_2dffe 6 = .ok (.iload_n 0, 1) := by decide +kernel
theorem dJ6_valueOf_2dffe_7 : decode cJ6_valueOf_2dffe 7 = .ok (.getstatic 191, 3) := by decide +kernel
theorem dJ6_valueOf_2dffe_10 : decode cJ6_valueOf_2dffe 10 = .ok (.if_icmp .gt 13, 3) := by decide +kernel
theorem dJ6_valueOf_2dffe_13 : decode cJ6_valueOf_2dffe 13 = .ok (.getstatic 195, 3) := by decide +kernel
theorem dJ6_valueOf_2dffe_16 : decode cJ6_valueOf_2dffe 16 = .ok (.iload_n 0, 1) := by decide +kernel
theorem dJ6_valueOf_2dffe_17 : decode cJ6_valueOf_2dffe 17 = .ok (.sipush 128, 3) := by decide +kernel
theorem dJ6_valueOf_2dffe_20 : decode cJ6_valueOf_2dffe 20 = .ok (.iadd, 1) := by decide +kernel
theorem dJ6_valueOf_2dffe_21 : decode cJ6_valueOf_2dffe 21 = .ok (.aaload, 1) := by decide +kernel
theorem dJ6_valueOf_2dffe_22 : decode cJ6_valueOf_2dffe 22 = .ok (.areturn, 1) := by decide +kernel
theorem dJ6_valueOf_2dffe_23 : decode cJ6_valueOf_2dffe 23 = .ok (.new 1, 3) := by decide +kernel
theorem dJ6_valueOf_2dffe_26 : decode cJ6_valueOf_2dffe 26 = .ok (.dup, 1) := by decide +kernel
theorem dJ6_valueOf_2dffe_27 : decode cJ6_valueOf_2dffe 27 = .ok (.iload_n 0, 1) := by decide +kernel
theorem dJ6_valueOf_2dffe_28 : decode cJ6_valueOf_2dffe 28 = .ok (.invokespecial 199, 3) := by decide +kernel
theorem dJ6_valueOf_2dffe_31 : decode cJ6_valueOf_2dffe 31 = .ok (.areturn, 1) := by decide +kernel
theorem dJ6_init_d00df_0 : decode cJ6_init_d00df 0 = .ok (.aload_n 0, 1) := by decide +kernel
theorem dJ6_init_d00df_1 : decode cJ6_init_d00df 1 = .ok (.invokespecial 202, 3) := by decide +kernel
theorem dJ6_init_d00df_4 : decode cJ6_init_d00df 4 = .ok (.aload_n 0, 1) := by decide +kernel
theorem dJ6_init_d00df_5 : decode cJ6_init_d00df 5 = .ok (.iload_n 1, 1) := by decide +kernel
theorem dJ6_init_d00df_6 : decode cJ6_init_d00df 6 = .ok (.putfield 205, 3) := by decide +kernel
theorem dJ6_init_d00df_9 : decode cJ6_init_d00df 9 = .ok (.return_, 1) := by decide +kernel
theorem dJ6_intValue_8abf5_0 : decode cJ6_intValue_8abf5 0 = .ok (.aload_n 0, 1) := by decide +kernel
theorem dJ6_intValue_8abf5_1 : decode cJ6_intValue_8abf5 1 = .ok (.getfield 205, 3) := by decide +kernel
theorem dJ6_intValue_8abf5_4 : decode cJ6_intValue_8abf5 4 = .ok (.ireturn, 1) := by decide +kernel
theorem dJ9_abs_067f4_0 : decode cJ9_abs_067f4 0 = .ok (.lload_n 0, 1) := by decide +kernel
theorem dJ9_abs_067f4_1 : decode cJ9_abs_067f4 1 = .ok (.lconst 0, 1) := by decide +kernel
theorem dJ9_abs_067f4_2 : decode cJ9_abs_067f4 2 = .ok (.lcmp, 1) := by decide +kernel
theorem dJ9_abs_067f4_3 : decode cJ9_abs_067f4 3 = .ok (.ifCond .ge 8, 3) := by decide +kernel
theorem dJ9_abs_067f4_6 : decode cJ9_abs_067f4 6 = .ok (.lload_n 0, 1) := by decide +kernel
theorem dJ9_abs_067f4_7 : decode cJ9_abs_067f4 7 = .ok (.lneg, 1) := by decide +kernel
theorem dJ9_abs_067f4_8 : decode cJ9_abs_067f4 8 = .ok (.goto 4, 3) := by decide +kernel
theorem dJ9_abs_067f4_11 : decode cJ9_abs_067f4 11 = .ok (.lload_n 0, 1) := by decide +kernel
theorem dJ9_abs_067f4_12 : decode cJ9_abs_067f4 12 = .ok (.lreturn, 1) := by decide +kernel
theorem dJ9_max_7cf53_0 : decode cJ9_max_7cf53 0 = .ok (.iload_n 0, 1) := by decide +kernel
theorem dJ9_max_7cf53_1 : decode cJ9_max_7cf53 1 = .ok (.iload_n 1, 1) := by decide +kernel
theorem dJ9_max_7cf53_2 : decode cJ9_max_7cf53 2 = .ok (.if_icmp .lt 7, 3) := by decide +kernel
theorem dJ9_max_7cf53_5 : decode cJ9_max_7cf53 5 = .ok (.iload_n 0, 1) := by decide +kernel
theorem dJ9_max_7cf53_6 : decode cJ9_max_7cf53 6 = .ok (.goto 4, 3) := by decide +kernel
theorem dJ9_max_7cf53_9 : decode cJ9_max_7cf53 9 = .ok (.iload_n 1, 1) := by decide +kernel
theorem dJ9_max_7cf53_10 : decode cJ9_max_7cf53 10 = .ok (.ireturn, 1) := by decide +kernel
theorem dJ9_min_7cf53_0 : decode cJ9_min_7cf53 0 = .ok (.iload_n 0, 1) := by decide +kernel
theorem dJ9_min_7cf53_1 : decode cJ9_min_7cf53 1 = .ok (.iload_n 1, 1) := by decide +kernel
theorem dJ9_min_7cf53_2 : decode cJ9_min_7cf53 2 = .ok (.if_icmp .gt 7, 3) := by decide +kernel
theorem dJ9_min_7cf53_5 : decode cJ9_min_7cf53 5 = .ok (.iload_n 0, 1) := by decide +kernel
theorem dJ9_min_7cf53_6 : decode cJ9_min_7cf53 6 = .ok (.goto 4, 3) := by decide +kernel
theorem dJ9_min_7cf53_9 : decode cJ9_min_7cf53 9 = .ok (.iload_n 1, 1) := by decide +kernel
theorem dJ9_min_7cf53_10 : decode cJ9_min_7cf53 10 = .ok (.ireturn, 1) := by decide +kernel
theorem dJ9_min_f86c9_0 : decode cJ9_min_f86c9 0 = .ok (.lload_n 0, 1) := by decide +kernel
theorem dJ9_min_f86c9_1 : decode cJ9_min_f86c9 1 = .ok (.lload_n 2, 1) := by decide +kernel
theorem dJ9_min_f86c9_2 : decode cJ9_min_f86c9 2 = .ok (.lcmp, 1) := by decide +kernel
theorem dJ9_min_f86c9_3 : decode cJ9_min_f86c9 3 = .ok (.ifCond .gt 7, 3) := by decide +kernel
theorem dJ9_min_f86c9_6 : decode cJ9_min_f86c9 6 = .ok (.lload_n 0, 1) := by decide +kernel
theorem dJ9_min_f86c9_7 : decode cJ9_min_f86c9 7 = .ok (.goto 4, 3) := by decide +kernel
theorem dJ9_min_f86c9_10 : decode cJ9_min_f86c9 10 = .ok (.lload_n 2, 1) := by decide +kernel
theorem dJ9_min_f86c9_11 : decode cJ9_min_f86c9 11 = .ok (.lreturn, 1) := by decide +kernel
theorem dJxd2413_init_da8c8_0 : decode cJxd2413_init_da8c8 0 = .ok (.aload_n 0, 1) := by decide +kernel
theorem dJxd2413_init_da8c8_1 : decode cJxd2413_init_da8c8 1 = .ok (.invokespecial 1, 3) := by decide +kernel
theorem dJxd2413_init_da8c8_4 : decode cJxd2413_init_da8c8 4 = .ok (.return_, 1) := by decide +kernel
theorem dJ0_length_8abf5_0 : decode cJ0_length_8abf5 0 = .ok (.aload_n 0, 1) := by decide +kernel
theorem dJ0_length_8abf5_1 : decode cJ0_length_8abf5 1 = .ok (.getfield 9, 3) := by decide +kernel
theorem dJ0_length_8abf5_4 : decode cJ0_length_8abf5 4 = .ok (.arraylength, 1) := by decide +kernel
theorem dJ0_length_8abf5_5 : decode cJ0_length_8abf5 5 = .ok (.aload_n 0, 1) := by decide +kernel
theorem dJ0_length_8abf5_6 : decode cJ0_length_8abf5 6 = .ok (.invokevirtual 335, 3) := by decide +kernel
theorem dJ0_length_8abf5_9 : decode cJ0_length_8abf5 9 = .ok (.ishr, 1) := by decide +kernel
theorem dJ0_length_8abf5_10 : decode cJ0_length_8abf5 10 = .ok (.ireturn, 1) := by decide +kernel
theorem dJ0_indexOf_0f7a4_0 : decode cJ0_indexOf_0f7a4 0 = .ok (.aload_n 0, 1) := by decide +kernel
theorem dJ0_indexOf_0f7a4_1 : decode cJ0_indexOf_0f7a4 1 = .ok (.iload_n 1, 1) := by decide +kernel
theorem dJ0_indexOf_0f7a4_2 : decode cJ0_indexOf_0f7a4 2 = .ok (.iconst 0, 1) := by decide +kernel
theorem dJ0_indexOf_0f7a4_3 : decode cJ0_indexOf_0f7a4 3 = .ok (.invokevirtual 633, 3) := by decide +kernel
theorem dJ0_indexOf_0f7a4_6 : decode cJ0_indexOf_0f7a4 6 = .ok (.ireturn, 1) := by decide +kernel
theorem dJ0_indexOf_7cf53_0 : decode cJ0_indexOf_7cf53 0 = .ok (.aload_n 0, 1) := by decide +kernel
theorem dJ0_indexOf_7cf53_1 : decode cJ0_indexOf_7cf53 1 = .ok (.invokevirtual 492, 3) := by decide +kernel
theorem dJ0_indexOf_7cf53_4 : decode cJ0_indexOf_7cf53 4 = .ok (.ifCond .eq 19, 3) := by decide +kernel
theorem dJ0_indexOf_7cf53_7 : decode cJ0_indexOf_7cf53 7 = .ok (.aload_n 0, 1) := by decide +kernel
theorem dJ0_indexOf_7cf53_8 : decode cJ0_indexOf_7cf53 8 = .ok (.getfield 9, 3) := by decide +kernel
theorem dJ0_indexOf_7cf53_11 : decode cJ0_indexOf_7cf53 11 = .ok (.iload_n 1, 1) := by decide +kernel
theorem dJ0_indexOf_7cf53_12 : decode cJ0_indexOf_7cf53 12 = .ok (.iload_n 2, 1) := by decide +kernel
theorem dJ0_indexOf_7cf53_13 : decode cJ0_indexOf_7cf53 13 = .ok (.aload_n 0, 1) := by decide +kernel
theorem dJ0_indexOf_7cf53_14 : decode cJ0_indexOf_7cf53 14 = .ok (.invokevirtual 505, 3) := by decide +kernel
theorem dJ0_indexOf_7cf53_17 : decode cJ0_indexOf_7cf53 17 = .ok (.invokestatic 637, 3) := by decide +kernel
theorem dJ0_indexOf_7cf53_20 : decode cJ0_indexOf_7cf53 20 = .ok (.goto 16, 3) := by decide +kernel
theorem dJ0_indexOf_7cf53_23 : decode cJ0_indexOf_7cf53 23 = .ok (.aload_n 0, 1) := by decide +kernel
theorem dJ0_indexOf_7cf53_24 : decode cJ0_indexOf_7cf53 24 = .ok (.getfield 9, 3) := by decide +kernel
theorem dJ0_indexOf_7cf53_27 : decode cJ0_indexOf_7cf53 27 = .ok (.iload_n 1, 1) := by decide +kernel
theorem dJ0_indexOf_7cf53_28 : decode cJ0_indexOf_7cf53 28 = .ok (.iload_n 2, 1) := by decide +kernel
theorem dJ0_indexOf_7cf53_29 : decode cJ0_indexOf_7cf53 29 = .ok (.aload_n 0, 1) := by decide +kernel
theorem dJ0_indexOf_7cf53_30 : decode cJ0_indexOf_7cf53 30 = .ok (.invokevirtual 505, 3) := by decide +kernel
theorem dJ0_indexOf_7cf53_33 : decode cJ0_indexOf_7cf53 33 = .ok (.invokestatic 640, 3) := by decide +kernel
theorem dJ0_indexOf_7cf53_36 : decode cJ0_indexOf_7cf53 36 = .ok (.ireturn, 1) := by decide +kernel
theorem dJ0_coder_7d493_0 : decode cJ0_coder_7d493 0 = .ok (.getstatic 38, 3) := by decide +kernel
theorem dJ0_coder_7d493_3 : decode cJ0_coder_7d493 3 = .ok (.ifCond .eq 10, 3) := by decide +kernel
theorem dJ0_coder_7d493_6 : decode cJ0_coder_7d493 6 = .ok (.aload_n 0, 1) := by decide +kernel
theorem dJ0_coder_7d493_7 : decode cJ0_coder_7d493 7 = .ok (.getfield 15, 3) := by decide +kernel
theorem dJ0_coder_7d493_10 : decode cJ0_coder_7d493 10 = .ok (.goto 4, 3) := by decide +kernel
theorem dJ0_coder_7d493_13 : decode cJ0_coder_7d493 13 = .ok (.iconst 1, 1) := by decide +kernel
theorem dJ0_coder_7d493_14 : decode cJ0_coder_7d493 14 = .ok (.ireturn, 1) := by decide +kernel
theorem dJ0_isLatin1_aae02_0 : decode cJ0_isLatin1_aae02 0 = .ok (.getstatic 38, 3) := by decide +kernel
theorem dJ0_isLatin1_aae02_3 : decode cJ0_isLatin1_aae02 3 = .ok (.ifCond .eq 14, 3) := by decide +kernel
theorem dJ0_isLatin1_aae02_6 : decode cJ0_isLatin1_aae02 6 = .ok (.aload_n 0, 1) := by decide +kernel
theorem dJ0_isLatin1_aae02_7 : decode cJ0_isLatin1_aae02 7 = .ok (.getfield 15, 3) := by decide +kernel
theorem dJ0_isLatin1_aae02_10 : decode cJ0_isLatin1_aae02 10 = .ok (.ifCond .ne 7, 3) := by decide +kernel
theorem dJ0_isLatin1_aae02_13 : decode cJ0_isLatin1_aae02 13 = .ok (.iconst 1, 1) := by decide +kernel
theorem dJ0_isLatin1_aae02_14 : decode cJ0_isLatin1_aae02 14 = .ok (.goto 4, 3) := by decide +kernel
theorem dJ0_isLatin1_aae02_17 : decode cJ0_isLatin1_aae02 17 = .ok (.iconst 0, 1) := by decide +kernel
theorem dJ0_isLatin1_aae02_18 : decode cJ0_isLatin1_aae02 18 = .ok (.ireturn, 1) := by decide +kernel
theorem dJ0_checkBoundsBeginEnd_23922_0 : decode cJ0_checkBoundsBeginEnd_23922 0 = .ok (.iload_n 0, 1) := by decide +kernel
theorem dJ0_checkBoundsBeginEnd_23922_1 : decode cJ0_checkBoundsBeginEnd_23922 1 = .ok (.iload_n 1, 1) := by decide +kernel
theorem dJ0_checkBoundsBeginEnd_23922_2 : decode cJ0_checkBoundsBeginEnd_23922 2 = .ok (.iload_n 2, 1) := by decide +kernel
theorem dJ0_checkBoundsBeginEnd_23922_3 : decode cJ0_checkBoundsBeginEnd_23922 3 = .ok (.getstatic 1053, 3) := by decide +kernel
theorem dJ0_checkBoundsBeginEnd_23922_6 : decode cJ0_checkBoundsBeginEnd_23922 6 = .ok (.invokestatic 1062, 3) := by decide +kernel
theorem dJ0_checkBoundsBeginEnd_23922_9 : decode cJ0_checkBoundsBeginEnd_23922 9 = .ok (.pop, 1) := by decide +kernel
theorem dJ0_checkBoundsBeginEnd_23922_10 : decode cJ0_checkBoundsBeginEnd_23922 10 = .ok (.return_, 1) := by decide +kernel
theorem dJ1_canEncode_9a6ad_0 : decode cJ1_canEncode_9a6ad 0 = .ok (.iload_n 0, 1) := by decide +kernel
theorem dJ1_canEncode_9a6ad_1 : decode cJ1_canEncode_9a6ad 1 = .ok (.ifCond .lt 14, 3) := by decide +kernel
theorem dJ1_canEncode_9a6ad_4 : decode cJ1_canEncode_9a6ad 4 = .ok (.iload_n 0, 1) := by decide +kernel
theorem dJ1_canEncode_9a6ad_5 : decode cJ1_canEncode_9a6ad 5 = .ok (.sipush 255, 3) := by decide +kernel
theorem dJ1_canEncode_9a6ad_8 : decode cJ1_canEncode_9a6ad 8 = .ok (.if_icmp .gt 7, 3) := by decide +kernel
theorem dJ1_canEncode_9a6ad_11 : decode cJ1_canEncode_9a6ad 11 = .ok (.iconst 1, 1) := by decide +kernel
theorem dJ1_canEncode_9a6ad_12 : decode cJ1_canEncode_9a6ad 12 = .ok (.goto 4, 3) := by decide +kernel
theorem dJ1_canEncode_9a6ad_15 : decode cJ1_canEncode_9a6ad 15 = .ok (.iconst 0, 1) := by decide +kernel
theorem dJ1_canEncode_9a6ad_16 : decode cJ1_canEncode_9a6ad 16 = .ok (.ireturn, 1) := by decide +kernel
theorem dJ1_indexOf_4cfef_0 : decode cJ1_indexOf_4cfef 0 = .ok (.iload_n 1, 1) := by decide +kernel
theorem dJ1_indexOf_4cfef_1 : decode cJ1_indexOf_4cfef 1 = .ok (.invokestatic 88, 3) := by decide +kernel
theorem dJ1_indexOf_4cfef_4 : decode cJ1_indexOf_4cfef 4 = .ok (.ifCond .ne 5, 3) := by decide +kernel
theorem dJ1_indexOf_4cfef_7 : decode cJ1_indexOf_4cfef 7 = .ok (.iconst (-1), 1) := by decide +kernel
theorem dJ1_indexOf_4cfef_8 : decode cJ1_indexOf_4cfef 8 = .ok (.ireturn, 1) := by decide +kernel
theorem dJ1_indexOf_4cfef_9 : decode cJ1_indexOf_4cfef 9 = .ok (.iload_n 2, 1) := by decide +kernel
theorem dJ1_indexOf_4cfef_10 : decode cJ1_indexOf_4cfef 10 = .ok (.iconst 0, 1) := by decide +kernel
theorem dJ1_indexOf_4cfef_11 : decode cJ1_indexOf_4cfef 11 = .ok (.invokestatic 92, 3) := by decide +kernel
theorem dJ1_indexOf_4cfef_14 : decode cJ1_indexOf_4cfef 14 = .ok (.istore_n 2, 1) := by decide +kernel
theorem dJ1_indexOf_4cfef_15 : decode cJ1_indexOf_4cfef 15 = .ok (.iload_n 3, 1) := by decide +kernel
theorem dJ1_indexOf_4cfef_16 : decode cJ1_indexOf_4cfef 16 = .ok (.aload_n 0, 1) := by decide +kernel
theorem dJ1_indexOf_4cfef_17 : decode cJ1_indexOf_4cfef 17 = .ok (.arraylength, 1) := by decide +kernel
theorem dJ1_indexOf_4cfef_18 : decode cJ1_indexOf_4cfef 18 = .ok (.invokestatic 38, 3) := by decide +kernel
theorem dJ1_indexOf_4cfef_21 : decode cJ1_indexOf_4cfef 21 = .ok (.istore_n 3, 1) := by decide +kernel
theorem dJ1_indexOf_4cfef_22 : decode cJ1_indexOf_4cfef 22 = .ok (.iload_n 2, 1) := by decide +kernel
theorem dJ1_indexOf_4cfef_23 : decode cJ1_indexOf_4cfef 23 = .ok (.iload_n 3, 1) := by decide +kernel
theorem dJ1_indexOf_4cfef_24 : decode cJ1_indexOf_4cfef 24 = .ok (.if_icmp .lt 5, 3) := by decide +kernel
theorem dJ1_indexOf_4cfef_27 : decode cJ1_indexOf_4cfef 27 = .ok (.iconst (-1), 1) := by decide +kernel
theorem dJ1_indexOf_4cfef_28 : decode cJ1_indexOf_4cfef 28 = .ok (.ireturn, 1) := by decide +kernel
theorem dJ1_indexOf_4cfef_29 : decode cJ1_indexOf_4cfef 29 = .ok (.aload_n 0, 1) := by decide +kernel
theorem dJ1_indexOf_4cfef_30 : decode cJ1_indexOf_4cfef 30 = .ok (.iload_n 1, 1) := by decide +kernel
theorem dJ1_indexOf_4cfef_31 : decode cJ1_indexOf_4cfef 31 = .ok (.iload_n 2, 1) := by decide +kernel
theorem dJ1_indexOf_4cfef_32 : decode cJ1_indexOf_4cfef 32 = .ok (.iload_n 3, 1) := by decide +kernel
theorem dJ1_indexOf_4cfef_33 : decode cJ1_indexOf_4cfef 33 = .ok (.invokestatic 95, 3) := by decide +kernel
theorem dJ1_indexOf_4cfef_36 : decode cJ1_indexOf_4cfef 36 = .ok (.ireturn, 1) := by decide +kernel
theorem dJ1_indexOfChar_4cfef_0 : decode cJ1_indexOfChar_4cfef 0 = .ok (.iload_n 1, 1) := by decide +kernel
theorem dJ1_indexOfChar_4cfef_1 : decode cJ1_indexOfChar_4cfef 1 = .ok (.i2b, 1) := by decide +kernel
theorem dJ1_indexOfChar_4cfef_2 : decode cJ1_indexOfChar_4cfef 2 = .ok (.istore 4, 2) := by decide +kernel
theorem dJ1_indexOfChar_4cfef_4 : decode cJ1_indexOfChar_4cfef 4 = .ok (.iload_n 2, 1) := by decide +kernel
theorem dJ1_indexOfChar_4cfef_5 : decode cJ1_indexOfChar_4cfef 5 = .ok (.istore 5, 2) := by decide +kernel
theorem dJ1_indexOfChar_4cfef_7 : decode cJ1_indexOfChar_4cfef 7 = .ok (.iload 5, 2) := by decide +kernel
theorem dJ1_indexOfChar_4cfef_9 : decode cJ1_indexOfChar_4cfef 9 = .ok (.iload_n 3, 1) := by decide +kernel
theorem dJ1_indexOfChar_4cfef_10 : decode cJ1_indexOfChar_4cfef 10 = .ok (.if_icmp .ge 21, 3) := by decide +kernel
theorem dJ1_indexOfChar_4cfef_13 : decode cJ1_indexOfChar_4cfef 13 = .ok (.aload_n 0, 1) := by decide +kernel
theorem dJ1_indexOfChar_4cfef_14 : decode cJ1_indexOfChar_4cfef 14 = .ok (.iload 5, 2) := by decide +kernel
theorem dJ1_indexOfChar_4cfef_16 : decode cJ1_indexOfChar_4cfef 16 = .ok (.baload, 1) := by decide +kernel
theorem dJ1_indexOfChar_4cfef_17 : decode cJ1_indexOfChar_4cfef 17 = .ok (.iload 4, 2) := by decide +kernel
theorem dJ1_indexOfChar_4cfef_19 : decode cJ1_indexOfChar_4cfef 19 = .ok (.if_icmp .ne 6, 3) := by decide +kernel
theorem dJ1_indexOfChar_4cfef_22 : decode cJ1_indexOfChar_4cfef 22 = .ok (.iload 5, 2) := by decide +kernel
theorem dJ1_indexOfChar_4cfef_24 : decode cJ1_indexOfChar_4cfef 24 = .ok (.ireturn, 1) := by decide +kernel
theorem dJ1_indexOfChar_4cfef_25 : decode cJ1_indexOfChar_4cfef 25 = .ok (.iinc 5 1, 3) := by decide +kernel
theorem dJ1_indexOfChar_4cfef_28 : decode cJ1_indexOfChar_4cfef 28 = .ok (.goto (-21), 3) := by decide +kernel
theorem dJ1_indexOfChar_4cfef_31 : decode cJ1_indexOfChar_4cfef 31 = .ok (.iconst (-1), 1) := by decide +kernel
theorem dJ1_indexOfChar_4cfef_32 : decode cJ1_indexOfChar_4cfef 32 = .ok (.ireturn, 1) := by decide +kernel
theorem dJ2_getChar_3b067_0 : decode cJ2_getChar_3b067 0 = .ok (.getstatic 44, 3) := by decide +kernel
theorem dJ2_getChar_3b067_3 : decode cJ2_getChar_3b067 3 = .ok (.ifCond .ne 25, 3) := by decide +kernel
theorem dJ2_getChar_3b067_6 : decode cJ2_getChar_3b067 6 = .ok (.iload_n 1, 1) := by decide +kernel
theorem dJ2_getChar_3b067_7 : decode cJ2_getChar_3b067 7 = .ok (.ifCond .lt 11, 3) := by decide +kernel
theorem dJ2_getChar_3b067_10 : decode cJ2_getChar_3b067 10 = .ok (.iload_n 1, 1) := by decide +kernel
theorem dJ2_getChar_3b067_11 : decode cJ2_getChar_3b067 11 = .ok (.aload_n 0, 1) := by decide +kernel
theorem dJ2_getChar_3b067_12 : decode cJ2_getChar_3b067 12 = .ok (.invokestatic 48, 3) := by decide +kernel
theorem dJ2_getChar_3b067_15 : decode cJ2_getChar_3b067 15 = .ok (.if_icmp .lt 13, 3) := by decide +kernel
theorem dJ2_getChar_3b067_18 : decode cJ2_getChar_3b067 18 = .ok (.new 52, 3) := by decide +kernel
theorem dJ2_getChar_3b067_21 : decode cJ2_getChar_3b067 21 = .ok (.dup, 1) := by decide +kernel
theorem dJ2_getChar_3b067_22 : decode cJ2_getChar_3b067 22 = .ok (.ldc 54, 2) := by decide +kernel
theorem dJ2_getChar_3b067_24 : decode cJ2_getChar_3b067 24 = .ok (.invokespecial 56, 3) := by decide +kernel
theorem dJ2_getChar_3b067_27 : decode cJ2_getChar_3b067 27 = .ok (.athrow, 1) := by decide +kernel
theorem dJ2_getChar_3b067_28 : decode cJ2_getChar_3b067 28 = .ok (.iload_n 1, 1) := by decide +kernel
theorem dJ2_getChar_3b067_29 : decode cJ2_getChar_3b067 29 = .ok (.iconst 1, 1) := by decide +kernel
theorem dJ2_getChar_3b067_30 : decode cJ2_getChar_3b067 30 = .ok (.ishl, 1) := by decide +kernel
theorem dJ2_getChar_3b067_31 : decode cJ2_getChar_3b067 31 = .ok (.istore_n 1, 1) := by decide +kernel
theorem dJ2_getChar_3b067_32 : decode cJ2_getChar_3b067 32 = .ok (.aload_n 0, 1) := by decide +kernel
theorem dJ2_getChar_3b067_33 : decode cJ2_getChar_3b067 33 = .ok (.iload_n 1, 1) := by decide +kernel
theorem dJ2_getChar_3b067_34 : decode cJ2_getChar_3b067 34 = .ok (.iinc 1 1, 3) := by decide +kernel
theorem dJ2_getChar_3b067_37 : decode cJ2_getChar_3b067 37 = .ok (.baload, 1) := by decide +kernel
theorem dJ2_getChar_3b067_38 : decode cJ2_getChar_3b067 38 = .ok (.sipush 255, 3) := by decide +kernel
theorem dJ2_getChar_3b067_41 : decode cJ2_getChar_3b067 41 = .ok (.iand, 1) := by decide +kernel
theorem dJ2_getChar_3b067_42 : decode cJ2_getChar_3b067 42 = .ok (.getstatic 59, 3) := by decide +kernel
theorem dJ2_getChar_3b067_45 : decode cJ2_getChar_3b067 45 = .ok (.ishl, 1) := by decide +kernel
theorem dJ2_getChar_3b067_46 : decode cJ2_getChar_3b067 46 = .ok (.aload_n 0, 1) := by decide +kernel
theorem dJ2_getChar_3b067_47 : decode cJ2_getChar_3b067 47 = .ok (.iload_n 1, 1) := by decide +kernel
theorem dJ2_getChar_3b067_48 : decode cJ2_getChar_3b067 48 = .ok (.baload, 1) := by decide +kernel
theorem dJ2_getChar_3b067_49 : decode cJ2_getChar_3b067 49 = .ok (.sipush 255, 3) := by decide +kernel
theorem dJ2_getChar_3b067_52 : decode cJ2_getChar_3b067 52 = .ok (.iand, 1) := by decide +kernel
theorem dJ2_getChar_3b067_53 : decode cJ2_getChar_3b067 53 = .ok (.getstatic 63, 3) := by decide +kernel
theorem dJ2_getChar_3b067_56 : decode cJ2_getChar_3b067 56 = .ok (.ishl, 1) := by decide +kernel
theorem dJ2_getChar_3b067_57 : decode cJ2_getChar_3b067 57 = .ok (.ior, 1) := by decide +kernel
theorem dJ2_getChar_3b067_58 : decode cJ2_getChar_3b067 58 = .ok (.i2c, 1) := by decide +kernel
theorem dJ2_getChar_3b067_59 : decode cJ2_getChar_3b067 59 = .ok (.ireturn, 1) := by decide +kernel
theorem dJ2_length_9d52b_0 : decode cJ2_length_9d52b 0 = .ok (.aload_n 0, 1) := by decide +kernel
theorem dJ2_length_9d52b_1 : decode cJ2_length_9d52b 1 = .ok (.arraylength, 1) := by decide +kernel
theorem dJ2_length_9d52b_2 : decode cJ2_length_9d52b 2 = .ok (.iconst 1, 1) := by decide +kernel
theorem dJ2_length_9d52b_3 : decode cJ2_length_9d52b 3 = .ok (.ishr, 1) := by decide +kernel
theorem dJ2_length_9d52b_4 : decode cJ2_length_9d52b 4 = .ok (.ireturn, 1) := by decide +kernel
theorem dJ2_indexOf_4cfef_0 : decode cJ2_indexOf_4cfef 0 = .ok (.iload_n 2, 1) := by decide +kernel
theorem dJ2_indexOf_4cfef_1 : decode cJ2_indexOf_4cfef 1 = .ok (.iconst 0, 1) := by decide +kernel
theorem dJ2_indexOf_4cfef_2 : decode cJ2_indexOf_4cfef 2 = .ok (.invokestatic 224, 3) := by decide +kernel
theorem dJ2_indexOf_4cfef_5 : decode cJ2_indexOf_4cfef 5 = .ok (.istore_n 2, 1) := by decide +kernel
theorem dJ2_indexOf_4cfef_6 : decode cJ2_indexOf_4cfef 6 = .ok (.iload_n 3, 1) := by decide +kernel
theorem dJ2_indexOf_4cfef_7 : decode cJ2_indexOf_4cfef 7 = .ok (.aload_n 0, 1) := by decide +kernel
theorem dJ2_indexOf_4cfef_8 : decode cJ2_indexOf_4cfef 8 = .ok (.arraylength, 1) := by decide +kernel
theorem dJ2_indexOf_4cfef_9 : decode cJ2_indexOf_4cfef 9 = .ok (.iconst 1, 1) := by decide +kernel
theorem dJ2_indexOf_4cfef_10 : decode cJ2_indexOf_4cfef 10 = .ok (.ishr, 1) := by decide +kernel
theorem dJ2_indexOf_4cfef_11 : decode cJ2_indexOf_4cfef 11 = .ok (.invokestatic 183, 3) := by decide +kernel
theorem dJ2_indexOf_4cfef_14 : decode cJ2_indexOf_4cfef 14 = .ok (.istore_n 3, 1) := by decide +kernel
theorem dJ2_indexOf_4cfef_15 : decode cJ2_indexOf_4cfef 15 = .ok (.iload_n 2, 1) := by decide +kernel
theorem dJ2_indexOf_4cfef_16 : decode cJ2_indexOf_4cfef 16 = .ok (.iload_n 3, 1) := by decide +kernel
theorem dJ2_indexOf_4cfef_17 : decode cJ2_indexOf_4cfef 17 = .ok (.if_icmp .lt 5, 3) := by decide +kernel
theorem dJ2_indexOf_4cfef_20 : decode cJ2_indexOf_4cfef 20 = .ok (.iconst (-1), 1) := by decide +kernel
theorem dJ2_indexOf_4cfef_21 : decode cJ2_indexOf_4cfef 21 = .ok (.ireturn, 1) := by decide +kernel
theorem dJ2_indexOf_4cfef_22 : decode cJ2_indexOf_4cfef 22 = .ok (.iload_n 1, 1) := by decide +kernel
theorem dJ2_indexOf_4cfef_23 : decode cJ2_indexOf_4cfef 23 = .ok (.ldc 227, 2) := by decide +kernel
theorem dJ2_indexOf_4cfef_25 : decode cJ2_indexOf_4cfef 25 = .ok (.if_icmp .ge 11, 3) := by decide +kernel
theorem dJ2_indexOf_4cfef_28 : decode cJ2_indexOf_4cfef 28 = .ok (.aload_n 0, 1) := by decide +kernel
theorem dJ2_indexOf_4cfef_29 : decode cJ2_indexOf_4cfef 29 = .ok (.iload_n 1, 1) := by decide +kernel
theorem dJ2_indexOf_4cfef_30 : decode cJ2_indexOf_4cfef 30 = .ok (.iload_n 2, 1) := by decide +kernel
theorem dJ2_indexOf_4cfef_31 : decode cJ2_indexOf_4cfef 31 = .ok (.iload_n 3, 1) := by decide +kernel
theorem dJ2_indexOf_4cfef_32 : decode cJ2_indexOf_4cfef 32 = .ok (.invokestatic 228, 3) := by decide +kernel
theorem dJ2_indexOf_4cfef_35 : decode cJ2_indexOf_4cfef 35 = .ok (.ireturn, 1) := by decide +kernel
theorem dJ2_indexOf_4cfef_36 : decode cJ2_indexOf_4cfef 36 = .ok (.aload_n 0, 1) := by decide +kernel
theorem dJ2_indexOf_4cfef_37 : decode cJ2_indexOf_4cfef 37 = .ok (.iload_n 1, 1) := by decide +kernel
theorem dJ2_indexOf_4cfef_38 : decode cJ2_indexOf_4cfef 38 = .ok (.iload_n 2, 1) := by decide +kernel
theorem dJ2_indexOf_4cfef_39 : decode cJ2_indexOf_4cfef 39 = .ok (.iload_n 3, 1) := by decide +kernel
theorem dJ2_indexOf_4cfef_40 : decode cJ2_indexOf_4cfef 40 = .ok (.invokestatic 232, 3) := by decide +kernel
theorem dJ2_indexOf_4cfef_43 : decode cJ2_indexOf_4cfef 43 = .ok (.ireturn, 1) := by decide +kernel
theorem dJ2_indexOfChar_4cfef_0 : decode cJ2_indexOfChar_4cfef 0 = .ok (.iload_n 2, 1) := by decide +kernel
theorem dJ2_indexOfChar_4cfef_1 : decode cJ2_indexOfChar_4cfef 1 = .ok (.iload_n 3, 1) := by decide +kernel
theorem dJ2_indexOfChar_4cfef_2 : decode cJ2_indexOfChar_4cfef 2 = .ok (.aload_n 0, 1) := by decide +kernel
theorem dJ2_indexOfChar_4cfef_3 : decode cJ2_indexOfChar_4cfef 3 = .ok (.invokestatic 96, 3) := by decide +kernel
theorem dJ2_indexOfChar_4cfef_6 : decode cJ2_indexOfChar_4cfef 6 = .ok (.aload_n 0, 1) := by decide +kernel
theorem dJ2_indexOfChar_4cfef_7 : decode cJ2_indexOfChar_4cfef 7 = .ok (.iload_n 1, 1) := by decide +kernel
theorem dJ2_indexOfChar_4cfef_8 : decode cJ2_indexOfChar_4cfef 8 = .ok (.iload_n 2, 1) := by decide +kernel
theorem dJ2_indexOfChar_4cfef_9 : decode cJ2_indexOfChar_4cfef 9 = .ok (.iload_n 3, 1) := by decide +kernel
theorem dJ2_indexOfChar_4cfef_10 : decode cJ2_indexOfChar_4cfef 10 = .ok (.invokestatic 244, 3) := by decide +kernel
theorem dJ2_indexOfChar_4cfef_13 : decode cJ2_indexOfChar_4cfef 13 = .ok (.ireturn, 1) := by decide +kernel
theorem dJ2_indexOfCharUnsafe_4cfef_0 : decode cJ2_indexOfCharUnsafe_4cfef 0 = .ok (.iload_n 2, 1) := by decide +kernel
theorem dJ2_indexOfCharUnsafe_4cfef_1 : decode cJ2_indexOfCharUnsafe_4cfef 1 = .ok (.istore 4, 2) := by decide +kernel
theorem dJ2_indexOfCharUnsafe_4cfef_3 : decode cJ2_indexOfCharUnsafe_4cfef 3 = .ok (.iload 4, 2) := by decide +kernel
theorem dJ2_indexOfCharUnsafe_4cfef_5 : decode cJ2_indexOfCharUnsafe_4cfef 5 = .ok (.iload_n 3, 1) := by decide +kernel
theorem dJ2_indexOfCharUnsafe_4cfef_6 : decode cJ2_indexOfCharUnsafe_4cfef 6 = .ok (.if_icmp .ge 22, 3) := by decide +kernel
theorem dJ2_indexOfCharUnsafe_4cfef_9 : decode cJ2_indexOfCharUnsafe_4cfef 9 = .ok (.aload_n 0, 1) := by decide +kernel
theorem dJ2_indexOfCharUnsafe_4cfef_10 : decode cJ2_indexOfCharUnsafe_4cfef 10 = .ok (.iload 4, 2) := by decide +kernel
theorem dJ2_indexOfCharUnsafe_4cfef_12 : decode cJ2_indexOfCharUnsafe_4cfef 12 = .ok (.invokestatic 71, 3) := by decide +kernel
theorem dJ2_indexOfCharUnsafe_4cfef_15 : decode cJ2_indexOfCharUnsafe_4cfef 15 = .ok (.iload_n 1, 1) := by decide +kernel
theorem dJ2_indexOfCharUnsafe_4cfef_16 : decode cJ2_indexOfCharUnsafe_4cfef 16 = .ok (.if_icmp .ne 6, 3) := by decide +kernel
theorem dJ2_indexOfCharUnsafe_4cfef_19 : decode cJ2_indexOfCharUnsafe_4cfef 19 = .ok (.iload 4, 2) := by decide +kernel
theorem dJ2_indexOfCharUnsafe_4cfef_21 : decode cJ2_indexOfCharUnsafe_4cfef 21 = .ok (.ireturn, 1) := by decide +kernel
theorem dJ2_indexOfCharUnsafe_4cfef_22 : decode cJ2_indexOfCharUnsafe_4cfef 22 = .ok (.iinc 4 1, 3) := by decide +kernel
theorem dJ2_indexOfCharUnsafe_4cfef_25 : decode cJ2_indexOfCharUnsafe_4cfef 25 = .ok (.goto (-22), 3) := by decide +kernel
theorem dJ2_indexOfCharUnsafe_4cfef_28 : decode cJ2_indexOfCharUnsafe_4cfef 28 = .ok (.iconst (-1), 1) := by decide +kernel
theorem dJ2_indexOfCharUnsafe_4cfef_29 : decode cJ2_indexOfCharUnsafe_4cfef 29 = .ok (.ireturn, 1) := by decide +kernel
theorem dJ2_indexOfSupplementary_4cfef_0 : decode cJ2_indexOfSupplementary_4cfef 0 = .ok (.iload_n 1, 1) := by decide +kernel
theorem dJ2_indexOfSupplementary_4cfef_1 : decode cJ2_indexOfSupplementary_4cfef 1 = .ok (.invokestatic 164, 3) := by decide +kernel
theorem dJ2_indexOfSupplementary_4cfef_4 : decode cJ2_indexOfSupplementary_4cfef 4 = .ok (.ifCond .eq 65, 3) := by decide +kernel
theorem dJ2_indexOfSupplementary_4cfef_7 : decode cJ2_indexOfSupplementary_4cfef 7 = .ok (.iload_n 1, 1) := by decide +kernel
theorem dJ2_indexOfSupplementary_4cfef_8 : decode cJ2_indexOfSupplementary_4cfef 8 = .ok (.invokestatic 157, 3) := by decide +kernel
theorem dJ2_indexOfSupplementary_4cfef_11 : decode cJ2_indexOfSupplementary_4cfef 11 = .ok (.istore 4, 2) := by decide +kernel
theorem dJ2_indexOfSupplementary_4cfef_13 : decode cJ2_indexOfSupplementary_4cfef 13 = .ok (.iload_n 1, 1) := by decide +kernel
theorem dJ2_indexOfSupplementary_4cfef_14 : decode cJ2_indexOfSupplementary_4cfef 14 = .ok (.invokestatic 161, 3) := by decide +kernel
theorem dJ2_indexOfSupplementary_4cfef_17 : decode cJ2_indexOfSupplementary_4cfef 17 = .ok (.istore 5, 2) := by decide +kernel
theorem dJ2_indexOfSupplementary_4cfef_19 : decode cJ2_indexOfSupplementary_4cfef 19 = .ok (.iload_n 2, 1) := by decide +kernel
theorem dJ2_indexOfSupplementary_4cfef_20 : decode cJ2_indexOfSupplementary_4cfef 20 = .ok (.iload_n 3, 1) := by decide +kernel
theorem dJ2_indexOfSupplementary_4cfef_21 : decode cJ2_indexOfSupplementary_4cfef 21 = .ok (.aload_n 0, 1) := by decide +kernel
theorem dJ2_indexOfSupplementary_4cfef_22 : decode cJ2_indexOfSupplementary_4cfef 22 = .ok (.invokestatic 96, 3) := by decide +kernel
theorem dJ2_indexOfSupplementary_4cfef_25 : decode cJ2_indexOfSupplementary_4cfef 25 = .ok (.iload_n 2, 1) := by decide +kernel
theorem dJ2_indexOfSupplementary_4cfef_26 : decode cJ2_indexOfSupplementary_4cfef 26 = .ok (.istore 6, 2) := by decide +kernel
theorem dJ2_indexOfSupplementary_4cfef_28 : decode cJ2_indexOfSupplementary_4cfef 28 = .ok (.iload 6, 2) := by decide +kernel
theorem dJ2_indexOfSupplementary_4cfef_30 : decode cJ2_indexOfSupplementary_4cfef 30 = .ok (.iload_n 3, 1) := by decide +kernel
theorem dJ2_indexOfSupplementary_4cfef_31 : decode cJ2_indexOfSupplementary_4cfef 31 = .ok (.iconst 1, 1) := by decide +kernel
theorem dJ2_indexOfSupplementary_4cfef_32 : decode cJ2_indexOfSupplementary_4cfef 32 = .ok (.isub, 1) := by decide +kernel
theorem dJ2_indexOfSupplementary_4cfef_33 : decode cJ2_indexOfSupplementary_4cfef 33 = .ok (.if_icmp .ge 36, 3) := by decide +kernel
theorem dJ2_indexOfSupplementary_4cfef_36 : decode cJ2_indexOfSupplementary_4cfef 36 = .ok (.aload_n 0, 1) := by decide +kernel
theorem dJ2_indexOfSupplementary_4cfef_37 : decode cJ2_indexOfSupplementary_4cfef 37 = .ok (.iload 6, 2) := by decide +kernel
theorem dJ2_indexOfSupplementary_4cfef_39 : decode cJ2_indexOfSupplementary_4cfef 39 = .ok (.invokestatic 71, 3) := by decide +kernel
theorem dJ2_indexOfSupplementary_4cfef_42 : decode cJ2_indexOfSupplementary_4cfef 42 = .ok (.iload 4, 2) := by decide +kernel
theorem dJ2_indexOfSupplementary_4cfef_44 : decode cJ2_indexOfSupplementary_4cfef 44 = .ok (.if_icmp .ne 19, 3) := by decide +kernel
theorem dJ2_indexOfSupplementary_4cfef_47 : decode cJ2_indexOfSupplementary_4cfef 47 = .ok (.aload_n 0, 1) := by decide +kernel
theorem dJ2_indexOfSupplementary_4cfef_48 : decode cJ2_indexOfSupplementary_4cfef 48 = .ok (.iload 6, 2) := by decide +kernel
theorem dJ2_indexOfSupplementary_4cfef_50 : decode cJ2_indexOfSupplementary_4cfef 50 = .ok (.iconst 1, 1) := by decide +kernel
theorem dJ2_indexOfSupplementary_4cfef_51 : decode cJ2_indexOfSupplementary_4cfef 51 = .ok (.iadd, 1) := by decide +kernel
theorem dJ2_indexOfSupplementary_4cfef_52 : decode cJ2_indexOfSupplementary_4cfef 52 = .ok (.invokestatic 71, 3) := by decide +kernel
theorem dJ2_indexOfSupplementary_4cfef_55 : decode cJ2_indexOfSupplementary_4cfef 55 = .ok (.iload 5, 2) := by decide +kernel
theorem dJ2_indexOfSupplementary_4cfef_57 : decode cJ2_indexOfSupplementary_4cfef 57 = .ok (.if_icmp .ne 6, 3) := by decide +kernel
theorem dJ2_indexOfSupplementary_4cfef_60 : decode cJ2_indexOfSupplementary_4cfef 60 = .ok (.iload 6, 2) := by decide +kernel
theorem dJ2_indexOfSupplementary_4cfef_62 : decode cJ2_indexOfSupplementary_4cfef 62 = .ok (.ireturn, 1) := by decide +kernel
theorem dJ2_indexOfSupplementary_4cfef_63 : decode cJ2_indexOfSupplementary_4cfef 63 = .ok (.iinc 6 1, 3) := by decide +kernel
theorem dJ2_indexOfSupplementary_4cfef_66 : decode cJ2_indexOfSupplementary_4cfef 66 = .ok (.goto (-38), 3) := by decide +kernel
theorem dJ2_indexOfSupplementary_4cfef_69 : decode cJ2_indexOfSupplementary_4cfef 69 = .ok (.iconst (-1), 1) := by decide +kernel
theorem dJ2_indexOfSupplementary_4cfef_70 : decode cJ2_indexOfSupplementary_4cfef 70 = .ok (.ireturn, 1) := by decide +kernel
theorem dJ2_checkBoundsBeginEnd_d044e_0 : decode cJ2_checkBoundsBeginEnd_d044e 0 = .ok (.iload_n 0, 1) := by decide +kernel
theorem dJ2_checkBoundsBeginEnd_d044e_1 : decode cJ2_checkBoundsBeginEnd_d044e 1 = .ok (.iload_n 1, 1) := by decide +kernel
theorem dJ2_checkBoundsBeginEnd_d044e_2 : decode cJ2_checkBoundsBeginEnd_d044e 2 = .ok (.aload_n 2, 1) := by decide +kernel
theorem dJ2_checkBoundsBeginEnd_d044e_3 : decode cJ2_checkBoundsBeginEnd_d044e 3 = .ok (.invokestatic 48, 3) := by decide +kernel
theorem dJ2_checkBoundsBeginEnd_d044e_6 : decode cJ2_checkBoundsBeginEnd_d044e 6 = .ok (.invokestatic 241, 3) := by decide +kernel
theorem dJ2_checkBoundsBeginEnd_d044e_9 : decode cJ2_checkBoundsBeginEnd_d044e 9 = .ok (.return_, 1) := by decide +kernel
theorem dJxa1e45_init_da8c8_0 : decode cJxa1e45_init_da8c8 0 = .ok (.aload_n 0, 1) := by decide +kernel
theorem dJxa1e45_init_da8c8_1 : decode cJxa1e45_init_da8c8 1 = .ok (.invokespecial 1, 3) := by decide +kernel
theorem dJxa1e45_init_da8c8_4 : decode cJxa1e45_init_da8c8 4 = .ok (.return_, 1) := by decide +kernel
theorem dJxc12de_init_da8c8_0 : decode cJxc12de_init_da8c8 0 = .ok (.aload_n 0, 1) := by decide +kernel
theorem dJxc12de_init_da8c8_1 : decode cJxc12de_init_da8c8 1 = .ok (.invokespecial 1, 3) := by decide +kernel
theorem dJxc12de_init_da8c8_4 : decode cJxc12de_init_da8c8 4 = .ok (.aload_n 0, 1) := by decide +kernel
theorem dJxc12de_init_da8c8_5 : decode cJxc12de_init_da8c8 5 = .ok (.iconst 0, 1) := by decide +kernel
theorem dJxc12de_init_da8c8_6 : decode cJxc12de_init_da8c8 6 = .ok (.putfield 7, 3) := by decide +kernel
theorem dJxc12de_init_da8c8_9 : decode cJxc12de_init_da8c8 9 = .ok (.return_, 1) := by decide +kernel
theorem dJx35411_init_45d68_0 : decode cJx35411_init_45d68 0 = .ok (.aload_n 0, 1) := by decide +kernel
theorem dJx35411_init_45d68_1 : decode cJx35411_init_45d68 1 = .ok (.aload_n 1, 1) := by decide +kernel
theorem dJx35411_init_45d68_2 : decode cJx35411_init_45d68 2 = .ok (.putfield 1, 3) := by decide +kernel
theorem dJx35411_init_45d68_5 : decode cJx35411_init_45d68 5 = .ok (.aload_n 0, 1) := by decide +kernel
theorem dJx35411_init_45d68_6 : decode cJx35411_init_45d68 6 = .ok (.invokespecial 7, 3) := by decide +kernel
theorem dJx35411_init_45d68_9 : decode cJx35411_init_45d68 9 = .ok (.aload_n 0, 1) := by decide +kernel
theorem dJx35411_init_45d68_10 : decode cJx35411_init_45d68 10 = .ok (.iconst (-1), 1) := by decide +kernel
theorem dJx35411_init_45d68_11 : decode cJx35411_init_45d68 11 = .ok (.putfield 13, 3) := by decide +kernel
theorem dJx35411_init_45d68_14 : decode cJx35411_init_45d68 14 = .ok (.aload_n 0, 1) := by decide +kernel
theorem dJx35411_init_45d68_15 : decode cJx35411_init_45d68 15 = .ok (.aload_n 0, 1) := by decide +kernel
theorem dJx35411_init_45d68_16 : decode cJx35411_init_45d68 16 = .ok (.getfield 1, 3) := by decide +kernel
theorem dJx35411_init_45d68_19 : decode cJx35411_init_45d68 19 = .ok (.getfield 17, 3) := by decide +kernel
theorem dJx35411_init_45d68_22 : decode cJx35411_init_45d68 22 = .ok (.putfield 22, 3) := by decide +kernel
theorem dJx35411_init_45d68_25 : decode cJx35411_init_45d68 25 = .ok (.return_, 1) := by decide +kernel
theorem dJx35411_hasNext_aae02_0 : decode cJx35411_hasNext_aae02 0 = .ok (.aload_n 0, 1) := by decide +kernel
theorem dJx35411_hasNext_aae02_1 : decode cJx35411_hasNext_aae02 1 = .ok (.getfield 25, 3) := by decide +kernel
theorem dJx35411_hasNext_aae02_4 : decode cJx35411_hasNext_aae02 4 = .ok (.aload_n 0, 1) := by decide +kernel
theorem dJx35411_hasNext_aae02_5 : decode cJx35411_hasNext_aae02 5 = .ok (.getfield 1, 3) := by decide +kernel
theorem dJx35411_hasNext_aae02_8 : decode cJx35411_hasNext_aae02 8 = .ok (.getfield 28, 3) := by decide +kernel
theorem dJx35411_hasNext_aae02_11 : decode cJx35411_hasNext_aae02 11 = .ok (.if_icmp .eq 7, 3) := by decide +kernel
theorem dJx35411_hasNext_aae02_14 : decode cJx35411_hasNext_aae02 14 = .ok (.iconst 1, 1) := by decide +kernel
theorem dJx35411_hasNext_aae02_15 : decode cJx35411_hasNext_aae02 15 = .ok (.goto 4, 3) := by decide +kernel
theorem dJx35411_hasNext_aae02_18 : decode cJx35411_hasNext_aae02 18 = .ok (.iconst 0, 1) := by decide +kernel
theorem dJx35411_hasNext_aae02_19 : decode cJx35411_hasNext_aae02 19 = .ok (.ireturn, 1) := by decide +kernel
theorem dJx35411_next_0502b_0 : decode cJx35411_next_0502b 0 = .ok (.aload_n 0, 1) := by decide +kernel
theorem dJx35411_next_0502b_1 : decode cJx35411_next_0502b 1 = .ok (.invokevirtual 31, 3) := by decide +kernel
theorem dJx35411_next_0502b_4 : decode cJx35411_next_0502b 4 = .ok (.aload_n 0, 1) := by decide +kernel
theorem dJx35411_next_0502b_5 : decode cJx35411_next_0502b 5 = .ok (.getfield 25, 3) := by decide +kernel
theorem dJx35411_next_0502b_8 : decode cJx35411_next_0502b 8 = .ok (.istore_n 1, 1) := by decide +kernel
theorem dJx35411_next_0502b_9 : decode cJx35411_next_0502b 9 = .ok (.iload_n 1, 1) := by decide +kernel
theorem dJx35411_next_0502b_10 : decode cJx35411_next_0502b 10 = .ok (.aload_n 0, 1) := by decide +kernel
theorem dJx35411_next_0502b_11 : decode cJx35411_next_0502b 11 = .ok (.getfield 1, 3) := by decide +kernel
theorem dJx35411_next_0502b_14 : decode cJx35411_next_0502b 14 = .ok (.getfield 28, 3) := by decide +kernel
theorem dJx35411_next_0502b_17 : decode cJx35411_next_0502b 17 = .ok (.if_icmp .lt 11, 3) := by decide +kernel
theorem dJx35411_next_0502b_20 : decode cJx35411_next_0502b 20 = .ok (.new 34, 3) := by decide +kernel
theorem dJx35411_next_0502b_23 : decode cJx35411_next_0502b 23 = .ok (.dup, 1) := by decide +kernel
theorem dJx35411_next_0502b_24 : decode cJx35411_next_0502b 24 = .ok (.invokespecial 36, 3) := by decide +kernel
theorem dJx35411_next_0502b_27 : decode cJx35411_next_0502b 27 = .ok (.athrow, 1) := by decide +kernel
theorem dJx35411_next_0502b_28 : decode cJx35411_next_0502b 28 = .ok (.aload_n 0, 1) := by decide +kernel
theorem dJx35411_next_0502b_29 : decode cJx35411_next_0502b 29 = .ok (.getfield 1, 3) := by decide +kernel
theorem dJx35411_next_0502b_32 : decode cJx35411_next_0502b 32 = .ok (.getfield 37, 3) := by decide +kernel
theorem dJx35411_next_0502b_35 : decode cJx35411_next_0502b 35 = .ok (.astore_n 2, 1) := by decide +kernel
theorem dJx35411_next_0502b_36 : decode cJx35411_next_0502b 36 = .ok (.iload_n 1, 1) := by decide +kernel
theorem dJx35411_next_0502b_37 : decode cJx35411_next_0502b 37 = .ok (.aload_n 2, 1) := by decide +kernel
theorem dJx35411_next_0502b_38 : decode cJx35411_next_0502b 38 = .ok (.arraylength, 1) := by decide +kernel
theorem dJx35411_next_0502b_39 : decode cJx35411_next_0502b 39 = .ok (.if_icmp .lt 11, 3) := by decide +kernel
theorem dJx35411_next_0502b_42 : decode cJx35411_next_0502b 42 = .ok (.new 41, 3) := by decide +kernel
theorem dJx35411_next_0502b_45 : decode cJx35411_next_0502b 45 = .ok (.dup, 1) := by decide +kernel
theorem dJx35411_next_0502b_46 : decode cJx35411_next_0502b 46 = .ok (.invokespecial 43, 3) := by decide +kernel
theorem dJx35411_next_0502b_49 : decode cJx35411_next_0502b 49 = .ok (.athrow, 1) := by decide +kernel
theorem dJx35411_next_0502b_50 : decode cJx35411_next_0502b 50 = .ok (.aload_n 0, 1) := by decide +kernel
theorem dJx35411_next_0502b_51 : decode cJx35411_next_0502b 51 = .ok (.iload_n 1, 1) := by decide +kernel
theorem dJx35411_next_0502b_52 : decode cJx35411_next_0502b 52 = .ok (.iconst 1, 1) := by decide +kernel
theorem dJx35411_next_0502b_53 : decode cJx35411_next_0502b 53 = .ok (.iadd, 1) := by decide +kernel
theorem dJx35411_next_0502b_54 : decode cJx35411_next_0502b 54 = .ok (.putfield 25, 3) := by decide +kernel
theorem dJx35411_next_0502b_57 : decode cJx35411_next_0502b 57 = .ok (.aload_n 2, 1) := by decide +kernel
theorem dJx35411_next_0502b_58 : decode cJx35411_next_0502b 58 = .ok (.aload_n 0, 1) := by decide +kernel
theorem dJx35411_next_0502b_59 : decode cJx35411_next_0502b 59 = .ok (.iload_n 1, 1) := by decide +kernel
theorem dJx35411_next_0502b_60 : decode cJx35411_next_0502b 60 = .ok (.dup_x1, 1) := by decide +kernel
theorem dJx35411_next_0502b_61 : decode cJx35411_next_0502b 61 = .ok (.putfield 13, 3) := by decide +kernel
theorem dJx35411_next_0502b_64 : decode cJx35411_next_0502b 64 = .ok (.aaload, 1) := by decide +kernel
theorem dJx35411_next_0502b_65 : decode cJx35411_next_0502b 65 = .ok (.areturn, 1) := by decide +kernel
theorem dJx35411_checkForComodification_da8c8_0 : decode cJx35411_checkForComodification_da8c8 0 = .ok (.aload_n 0, 1) := by decide +kernel
theorem dJx35411_checkForComodification_da8c8_1 : decode cJx35411_checkForComodification_da8c8 1 = .ok (.getfield 1, 3) := by decide +kernel
theorem dJx35411_checkForComodification_da8c8_4 : decode cJx35411_checkForComodification_da8c8 4 = .ok (.getfield 17, 3) := by decide +kernel
theorem dJx35411_checkForComodification_da8c8_7 : decode cJx35411_checkForComodification_da8c8 7 = .ok (.aload_n 0, 1) := by decide +kernel
theorem dJx35411_checkForComodification_da8c8_8 : decode cJx35411_checkForComodification_da8c8 8 = .ok (.getfield 22, 3) := by decide +kernel
theorem dJx35411_checkForComodification_da8c8_11 : decode cJx35411_checkForComodification_da8c8 11 = .ok (.if_icmp .eq 11, 3) := by decide +kernel
theorem dJx35411_checkForComodification_da8c8_14 : decode cJx35411_checkForComodification_da8c8 14 = .ok (.new 41, 3) := by decide +kernel
theorem dJx35411_checkForComodification_da8c8_17 : decode cJx35411_checkForComodification_da8c8 17 = .ok (.dup, 1) := by decide +kernel
theorem dJx35411_checkForComodification_da8c8_18 : decode cJx35411_checkForComodification_da8c8 18 = .ok (.invokespecial 43, 3) := by decide +kernel
theorem dJx35411_checkForComodification_da8c8_21 : decode cJx35411_checkForComodification_da8c8 21 = .ok (.athrow, 1) := by decide +kernel
theorem dJx35411_checkForComodification_da8c8_22 : decode cJx35411_checkForComodification_da8c8 22 = .ok (.return_, 1) := by decide +kernel
theorem dJx4a65c_init_da8c8_0 : decode cJx4a65c_init_da8c8 0 = .ok (.aload_n 0, 1) := by decide +kernel
theorem dJx4a65c_init_da8c8_1 : decode cJx4a65c_init_da8c8 1 = .ok (.invokespecial 1, 3) := by decide +kernel
theorem dJx4a65c_init_da8c8_4 : decode cJx4a65c_init_da8c8 4 = .ok (.aload_n 0, 1) := by decide +kernel
theorem dJx4a65c_init_da8c8_5 : decode cJx4a65c_init_da8c8 5 = .ok (.getstatic 39, 3) := by decide +kernel
theorem dJx4a65c_init_da8c8_8 : decode cJx4a65c_init_da8c8 8 = .ok (.putfield 9, 3) := by decide +kernel
theorem dJx4a65c_init_da8c8_11 : decode cJx4a65c_init_da8c8 11 = .ok (.return_, 1) := by decide +kernel
theorem dJx4a65c_grow_92f84_0 : decode cJx4a65c_grow_92f84 0 = .ok (.aload_n 0, 1) := by decide +kernel
theorem dJx4a65c_grow_92f84_1 : decode cJx4a65c_grow_92f84 1 = .ok (.getfield 9, 3) := by decide +kernel
theorem dJx4a65c_grow_92f84_4 : decode cJx4a65c_grow_92f84 4 = .ok (.arraylength, 1) := by decide +kernel
theorem dJx4a65c_grow_92f84_5 : decode cJx4a65c_grow_92f84 5 = .ok (.istore_n 2, 1) := by decide +kernel
theorem dJx4a65c_grow_92f84_6 : decode cJx4a65c_grow_92f84 6 = .ok (.iload_n 2, 1) := by decide +kernel
theorem dJx4a65c_grow_92f84_7 : decode cJx4a65c_grow_92f84 7 = .ok (.ifCond .gt 13, 3) := by decide +kernel
theorem dJx4a65c_grow_92f84_10 : decode cJx4a65c_grow_92f84 10 = .ok (.aload_n 0, 1) := by decide +kernel
theorem dJx4a65c_grow_92f84_11 : decode cJx4a65c_grow_92f84 11 = .ok (.getfield 9, 3) := by decide +kernel
theorem dJx4a65c_grow_92f84_14 : decode cJx4a65c_grow_92f84 14 = .ok (.getstatic 39, 3) := by decide +kernel
theorem dJx4a65c_grow_92f84_17 : decode cJx4a65c_grow_92f84 17 = .ok (.if_acmp .eq 28, 3) := by decide +kernel
theorem dJx4a65c_grow_92f84_20 : decode cJx4a65c_grow_92f84 20 = .ok (.iload_n 2, 1) := by decide +kernel
theorem dJx4a65c_grow_92f84_21 : decode cJx4a65c_grow_92f84 21 = .ok (.iload_n 1, 1) := by decide +kernel
theorem dJx4a65c_grow_92f84_22 : decode cJx4a65c_grow_92f84 22 = .ok (.iload_n 2, 1) := by decide +kernel
theorem dJx4a65c_grow_92f84_23 : decode cJx4a65c_grow_92f84 23 = .ok (.isub, 1) := by decide +kernel
theorem dJx4a65c_grow_92f84_24 : decode cJx4a65c_grow_92f84 24 = .ok (.iload_n 2, 1) := by decide +kernel
theorem dJx4a65c_grow_92f84_25 : decode cJx4a65c_grow_92f84 25 = .ok (.iconst 1, 1) := by decide +kernel
theorem dJx4a65c_grow_92f84_26 : decode cJx4a65c_grow_92f84 26 = .ok (.ishr, 1) := by decide +kernel
theorem dJx4a65c_grow_92f84_27 : decode cJx4a65c_grow_92f84 27 = .ok (.invokestatic 73, 3) := by decide +kernel
theorem dJx4a65c_grow_92f84_30 : decode cJx4a65c_grow_92f84 30 = .ok (.istore_n 3, 1) := by decide +kernel
theorem dJx4a65c_grow_92f84_31 : decode cJx4a65c_grow_92f84 31 = .ok (.aload_n 0, 1) := by decide +kernel
theorem dJx4a65c_grow_92f84_32 : decode cJx4a65c_grow_92f84 32 = .ok (.aload_n 0, 1) := by decide +kernel
theorem dJx4a65c_grow_92f84_33 : decode cJx4a65c_grow_92f84 33 = .ok (.getfield 9, 3) := by decide +kernel
theorem dJx4a65c_grow_92f84_36 : decode cJx4a65c_grow_92f84 36 = .ok (.iload_n 3, 1) := by decide +kernel
theorem dJx4a65c_grow_92f84_37 : decode cJx4a65c_grow_92f84 37 = .ok (.invokestatic 66, 3) := by decide +kernel
theorem dJx4a65c_grow_92f84_40 : decode cJx4a65c_grow_92f84 40 = .ok (.dup_x1, 1) := by decide +kernel
theorem dJx4a65c_grow_92f84_41 : decode cJx4a65c_grow_92f84 41 = .ok (.putfield 9, 3) := by decide +kernel
theorem dJx4a65c_grow_92f84_44 : decode cJx4a65c_grow_92f84 44 = .ok (.areturn, 1) := by decide +kernel
theorem dJx4a65c_grow_92f84_45 : decode cJx4a65c_grow_92f84 45 = .ok (.aload_n 0, 1) := by decide +kernel
theorem dJx4a65c_grow_92f84_46 : decode cJx4a65c_grow_92f84 46 = .ok (.bipush 10, 2) := by decide +kernel
theorem dJx4a65c_grow_92f84_48 : decode cJx4a65c_grow_92f84 48 = .ok (.iload_n 1, 1) := by decide +kernel
theorem dJx4a65c_grow_92f84_49 : decode cJx4a65c_grow_92f84 49 = .ok (.invokestatic 79, 3) := by decide +kernel
theorem dJx4a65c_grow_92f84_52 : decode cJx4a65c_grow_92f84 52 = .ok (.anewarray 7, 3) := by decide +kernel
theorem dJx4a65c_grow_92f84_55 : decode cJx4a65c_grow_92f84 55 = .ok (.dup_x1, 1) := by decide +kernel
theorem dJx4a65c_grow_92f84_56 : decode cJx4a65c_grow_92f84 56 = .ok (.putfield 9, 3) := by decide +kernel
theorem dJx4a65c_grow_92f84_59 : decode cJx4a65c_grow_92f84 59 = .ok (.areturn, 1) := by decide +kernel
theorem dJx4a65c_grow_d5877_0 : decode cJx4a65c_grow_d5877 0 = .ok (.aload_n 0, 1) := by decide +kernel
theorem dJx4a65c_grow_d5877_1 : decode cJx4a65c_grow_d5877 1 = .ok (.aload_n 0, 1) := by decide +kernel
theorem dJx4a65c_grow_d5877_2 : decode cJx4a65c_grow_d5877 2 = .ok (.getfield 48, 3) := by decide +kernel
theorem dJx4a65c_grow_d5877_5 : decode cJx4a65c_grow_d5877 5 = .ok (.iconst 1, 1) := by decide +kernel
theorem dJx4a65c_grow_d5877_6 : decode cJx4a65c_grow_d5877 6 = .ok (.iadd, 1) := by decide +kernel
theorem dJx4a65c_grow_d5877_7 : decode cJx4a65c_grow_d5877 7 = .ok (.invokevirtual 69, 3) := by decide +kernel
theorem dJx4a65c_grow_d5877_10 : decode cJx4a65c_grow_d5877 10 = .ok (.areturn, 1) := by decide +kernel
theorem dJx4a65c_size_8abf5_0 : decode cJx4a65c_size_8abf5 0 = .ok (.aload_n 0, 1) := by decide +kernel
theorem dJx4a65c_size_8abf5_1 : decode cJx4a65c_size_8abf5 1 = .ok (.getfield 48, 3) := by decide +kernel
theorem dJx4a65c_size_8abf5_4 : decode cJx4a65c_size_8abf5 4 = .ok (.ireturn, 1) := by decide +kernel
theorem dJx4a65c_isEmpty_aae02_0 : decode cJx4a65c_isEmpty_aae02 0 = .ok (.aload_n 0, 1) := by decide +kernel
theorem dJx4a65c_isEmpty_aae02_1 : decode cJx4a65c_isEmpty_aae02 1 = .ok (.getfield 48, 3) := by decide +kernel
theorem dJx4a65c_isEmpty_aae02_4 : decode cJx4a65c_isEmpty_aae02 4 = .ok (.ifCond .ne 7, 3) := by decide +kernel
theorem dJx4a65c_isEmpty_aae02_7 : decode cJx4a65c_isEmpty_aae02 7 = .ok (.iconst 1, 1) := by decide +kernel
theorem dJx4a65c_isEmpty_aae02_8 : decode cJx4a65c_isEmpty_aae02 8 = .ok (.goto 4, 3) := by decide +kernel
theorem dJx4a65c_isEmpty_aae02_11 : decode cJx4a65c_isEmpty_aae02 11 = .ok (.iconst 0, 1) := by decide +kernel
theorem dJx4a65c_isEmpty_aae02_12 : decode cJx4a65c_isEmpty_aae02 12 = .ok (.ireturn, 1) := by decide +kernel
theorem dJx4a65c_elementData_915e3_0 : decode cJx4a65c_elementData_915e3 0 = .ok (.aload_n 0, 1) := by decide +kernel
theorem dJx4a65c_elementData_915e3_1 : decode cJx4a65c_elementData_915e3 1 = .ok (.getfield 9, 3) := by decide +kernel
theorem dJx4a65c_elementData_915e3_4 : decode cJx4a65c_elementData_915e3 4 = .ok (.iload_n 1, 1) := by decide +kernel
theorem dJx4a65c_elementData_915e3_5 : decode cJx4a65c_elementData_915e3 5 = .ok (.aaload, 1) := by decide +kernel
theorem dJx4a65c_elementData_915e3_6 : decode cJx4a65c_elementData_915e3 6 = .ok (.areturn, 1) := by decide +kernel
theorem dJx4a65c_get_915e3_0 : decode cJx4a65c_get_915e3 0 = .ok (.iload_n 1, 1) := by decide +kernel
theorem dJx4a65c_get_915e3_1 : decode cJx4a65c_get_915e3 1 = .ok (.aload_n 0, 1) := by decide +kernel
theorem dJx4a65c_get_915e3_2 : decode cJx4a65c_get_915e3 2 = .ok (.getfield 48, 3) := by decide +kernel
theorem dJx4a65c_get_915e3_5 : decode cJx4a65c_get_915e3 5 = .ok (.invokestatic 118, 3) := by decide +kernel
theorem dJx4a65c_get_915e3_8 : decode cJx4a65c_get_915e3 8 = .ok (.pop, 1) := by decide +kernel
theorem dJx4a65c_get_915e3_9 : decode cJx4a65c_get_915e3 9 = .ok (.aload_n 0, 1) := by decide +kernel
theorem dJx4a65c_get_915e3_10 : decode cJx4a65c_get_915e3 10 = .ok (.iload_n 1, 1) := by decide +kernel
theorem dJx4a65c_get_915e3_11 : decode cJx4a65c_get_915e3 11 = .ok (.invokevirtual 123, 3) := by decide +kernel
theorem dJx4a65c_get_915e3_14 : decode cJx4a65c_get_915e3 14 = .ok (.areturn, 1) := by decide +kernel
theorem dJx4a65c_add_72be8_0 : decode cJx4a65c_add_72be8 0 = .ok (.iload_n 3, 1) := by decide +kernel
theorem dJx4a65c_add_72be8_1 : decode cJx4a65c_add_72be8 1 = .ok (.aload_n 2, 1) := by decide +kernel
theorem dJx4a65c_add_72be8_2 : decode cJx4a65c_add_72be8 2 = .ok (.arraylength, 1) := by decide +kernel
theorem dJx4a65c_add_72be8_3 : decode cJx4a65c_add_72be8 3 = .ok (.if_icmp .ne 8, 3) := by decide +kernel
theorem dJx4a65c_add_72be8_6 : decode cJx4a65c_add_72be8 6 = .ok (.aload_n 0, 1) := by decide +kernel
theorem dJx4a65c_add_72be8_7 : decode cJx4a65c_add_72be8 7 = .ok (.invokevirtual 129, 3) := by decide +kernel
theorem dJx4a65c_add_72be8_10 : decode cJx4a65c_add_72be8 10 = .ok (.astore_n 2, 1) := by decide +kernel
theorem dJx4a65c_add_72be8_11 : decode cJx4a65c_add_72be8 11 = .ok (.aload_n 2, 1) := by decide +kernel
theorem dJx4a65c_add_72be8_12 : decode cJx4a65c_add_72be8 12 = .ok (.iload_n 3, 1) := by decide +kernel
theorem dJx4a65c_add_72be8_13 : decode cJx4a65c_add_72be8 13 = .ok (.aload_n 1, 1) := by decide +kernel
theorem dJx4a65c_add_72be8_14 : decode cJx4a65c_add_72be8 14 = .ok (.aastore, 1) := by decide +kernel
theorem dJx4a65c_add_72be8_15 : decode cJx4a65c_add_72be8 15 = .ok (.aload_n 0, 1) := by decide +kernel
theorem dJx4a65c_add_72be8_16 : decode cJx4a65c_add_72be8 16 = .ok (.iload_n 3, 1) := by decide +kernel
theorem dJx4a65c_add_72be8_17 : decode cJx4a65c_add_72be8 17 = .ok (.iconst 1, 1) := by decide +kernel
theorem dJx4a65c_add_72be8_18 : decode cJx4a65c_add_72be8 18 = .ok (.iadd, 1) := by decide +kernel
theorem dJx4a65c_add_72be8_19 : decode cJx4a65c_add_72be8 19 = .ok (.putfield 48, 3) := by decide +kernel
theorem dJx4a65c_add_72be8_22 : decode cJx4a65c_add_72be8 22 = .ok (.return_, 1) := by decide +kernel
theorem dJx4a65c_add_9ea2d_0 : decode cJx4a65c_add_9ea2d 0 = .ok (.aload_n 0, 1) := by decide +kernel
theorem dJx4a65c_add_9ea2d_1 : decode cJx4a65c_add_9ea2d 1 = .ok (.dup, 1) := by decide +kernel
theorem dJx4a65c_add_9ea2d_2 : decode cJx4a65c_add_9ea2d 2 = .ok (.getfield 63, 3) := by decide +kernel
theorem dJx4a65c_add_9ea2d_5 : decode cJx4a65c_add_9ea2d 5 = .ok (.iconst 1, 1) := by decide +kernel
theorem dJx4a65c_add_9ea2d_6 : decode cJx4a65c_add_9ea2d 6 = .ok (.iadd, 1) := by decide +kernel
theorem dJx4a65c_add_9ea2d_7 : decode cJx4a65c_add_9ea2d 7 = .ok (.putfield 63, 3) := by decide +kernel
theorem dJx4a65c_add_9ea2d_10 : decode cJx4a65c_add_9ea2d 10 = .ok (.aload_n 0, 1) := by decide +kernel
theorem dJx4a65c_add_9ea2d_11 : decode cJx4a65c_add_9ea2d 11 = .ok (.aload_n 1, 1) := by decide +kernel
theorem dJx4a65c_add_9ea2d_12 : decode cJx4a65c_add_9ea2d 12 = .ok (.aload_n 0, 1) := by decide +kernel
theorem dJx4a65c_add_9ea2d_13 : decode cJx4a65c_add_9ea2d 13 = .ok (.getfield 9, 3) := by decide +kernel
theorem dJx4a65c_add_9ea2d_16 : decode cJx4a65c_add_9ea2d 16 = .ok (.aload_n 0, 1) := by decide +kernel
theorem dJx4a65c_add_9ea2d_17 : decode cJx4a65c_add_9ea2d 17 = .ok (.getfield 48, 3) := by decide +kernel
theorem dJx4a65c_add_9ea2d_20 : decode cJx4a65c_add_9ea2d 20 = .ok (.invokevirtual 131, 3) := by decide +kernel
theorem dJx4a65c_add_9ea2d_23 : decode cJx4a65c_add_9ea2d 23 = .ok (.iconst 1, 1) := by decide +kernel
theorem dJx4a65c_add_9ea2d_24 : decode cJx4a65c_add_9ea2d 24 = .ok (.ireturn, 1) := by decide +kernel
theorem dJx4a65c_clear_da8c8_0 : decode cJx4a65c_clear_da8c8 0 = .ok (.aload_n 0, 1) := by decide +kernel
theorem dJx4a65c_clear_da8c8_1 : decode cJx4a65c_clear_da8c8 1 = .ok (.dup, 1) := by decide +kernel
theorem dJx4a65c_clear_da8c8_2 : decode cJx4a65c_clear_da8c8 2 = .ok (.getfield 63, 3) := by decide +kernel
theorem dJx4a65c_clear_da8c8_5 : decode cJx4a65c_clear_da8c8 5 = .ok (.iconst 1, 1) := by decide +kernel
theorem dJx4a65c_clear_da8c8_6 : decode cJx4a65c_clear_da8c8 6 = .ok (.iadd, 1) := by decide +kernel
theorem dJx4a65c_clear_da8c8_7 : decode cJx4a65c_clear_da8c8 7 = .ok (.putfield 63, 3) := by decide +kernel
theorem dJx4a65c_clear_da8c8_10 : decode cJx4a65c_clear_da8c8 10 = .ok (.aload_n 0, 1) := by decide +kernel
theorem dJx4a65c_clear_da8c8_11 : decode cJx4a65c_clear_da8c8 11 = .ok (.getfield 9, 3) := by decide +kernel
theorem dJx4a65c_clear_da8c8_14 : decode cJx4a65c_clear_da8c8 14 = .ok (.astore_n 1, 1) := by decide +kernel
theorem dJx4a65c_clear_da8c8_15 : decode cJx4a65c_clear_da8c8 15 = .ok (.aload_n 0, 1) := by decide +kernel
theorem dJx4a65c_clear_da8c8_16 : decode cJx4a65c_clear_da8c8 16 = .ok (.getfield 48, 3) := by decide +kernel
theorem dJx4a65c_clear_da8c8_19 : decode cJx4a65c_clear_da8c8 19 = .ok (.istore_n 2, 1) := by decide +kernel
theorem dJx4a65c_clear_da8c8_20 : decode cJx4a65c_clear_da8c8 20 = .ok (.aload_n 0, 1) := by decide +kernel
theorem dJx4a65c_clear_da8c8_21 : decode cJx4a65c_clear_da8c8 21 = .ok (.iconst 0, 1) := by decide +kernel
theorem dJx4a65c_clear_da8c8_22 : decode cJx4a65c_clear_da8c8 22 = .ok (.dup_x1, 1) := by decide +kernel
theorem dJx4a65c_clear_da8c8_23 : decode cJx4a65c_clear_da8c8 23 = .ok (.putfield 48, 3) := by decide +kernel
theorem dJx4a65c_clear_da8c8_26 : decode cJx4a65c_clear_da8c8 26 = .ok (.istore_n 3, 1) := by decide +kernel
theorem dJx4a65c_clear_da8c8_27 : decode cJx4a65c_clear_da8c8 27 = .ok (.iload_n 3, 1) := by decide +kernel
theorem dJx4a65c_clear_da8c8_28 : decode cJx4a65c_clear_da8c8 28 = .ok (.iload_n 2, 1) := by decide +kernel
theorem dJx4a65c_clear_da8c8_29 : decode cJx4a65c_clear_da8c8 29 = .ok (.if_icmp .ge 13, 3) := by decide +kernel
theorem dJx4a65c_clear_da8c8_32 : decode cJx4a65c_clear_da8c8 32 = .ok (.aload_n 1, 1) := by decide +kernel
theorem dJx4a65c_clear_da8c8_33 : decode cJx4a65c_clear_da8c8 33 = .ok (.iload_n 3, 1) := by decide +kernel
theorem dJx4a65c_clear_da8c8_34 : decode cJx4a65c_clear_da8c8 34 = .ok (.aconst_null, 1) := by decide +kernel
theorem dJx4a65c_clear_da8c8_35 : decode cJx4a65c_clear_da8c8 35 = .ok (.aastore, 1) := by decide +kernel
theorem dJx4a65c_clear_da8c8_36 : decode cJx4a65c_clear_da8c8 36 = .ok (.iinc 3 1, 3) := by decide +kernel
theorem dJx4a65c_clear_da8c8_39 : decode cJx4a65c_clear_da8c8 39 = .ok (.goto (-12), 3) := by decide +kernel
theorem dJx4a65c_clear_da8c8_42 : decode cJx4a65c_clear_da8c8 42 = .ok (.return_, 1) := by decide +kernel
theorem dJx4a65c_iterator_32c93_0 : decode cJx4a65c_iterator_32c93 0 = .ok (.new 267, 3) := by decide +kernel
theorem dJx4a65c_iterator_32c93_3 : decode cJx4a65c_iterator_32c93 3 = .ok (.dup, 1) := by decide +kernel
theorem dJx4a65c_iterator_32c93_4 : decode cJx4a65c_iterator_32c93 4 = .ok (.aload_n 0, 1) := by decide +kernel
theorem dJx4a65c_iterator_32c93_5 : decode cJx4a65c_iterator_32c93 5 = .ok (.invokespecial 269, 3) := by decide +kernel
theorem dJx4a65c_iterator_32c93_8 : decode cJx4a65c_iterator_32c93 8 = .ok (.areturn, 1) := by decide +kernel
theorem dJ7_copyOf_1904c_0 : decode cJ7_copyOf_1904c 0 = .ok (.aload_n 0, 1) := by decide +kernel
theorem dJ7_copyOf_1904c_1 : decode cJ7_copyOf_1904c 1 = .ok (.iload_n 1, 1) := by decide +kernel
theorem dJ7_copyOf_1904c_2 : decode cJ7_copyOf_1904c 2 = .ok (.aload_n 0, 1) := by decide +kernel
theorem dJ7_copyOf_1904c_3 : decode cJ7_copyOf_1904c 3 = .ok (.invokevirtual 86, 3) := by decide +kernel
theorem dJ7_copyOf_1904c_6 : decode cJ7_copyOf_1904c 6 = .ok (.invokestatic 300, 3) := by decide +kernel
theorem dJ7_copyOf_1904c_9 : decode cJ7_copyOf_1904c 9 = .ok (.areturn, 1) := by decide +kernel
theorem dJ7_copyOf_6403c_0 : decode cJ7_copyOf_6403c 0 = .ok (.aload_n 2, 1) := by decide +kernel
theorem dJ7_copyOf_6403c_1 : decode cJ7_copyOf_6403c 1 = .ok (.ldc 110, 2) := by decide +kernel
theorem dJ7_copyOf_6403c_3 : decode cJ7_copyOf_6403c 3 = .ok (.if_acmp .ne 10, 3) := by decide +kernel
theorem dJ7_copyOf_6403c_6 : decode cJ7_copyOf_6403c 6 = .ok (.iload_n 1, 1) := by decide +kernel
theorem dJ7_copyOf_6403c_7 : decode cJ7_copyOf_6403c 7 = .ok (.anewarray 2, 3) := by decide +kernel
theorem dJ7_copyOf_6403c_10 : decode cJ7_copyOf_6403c 10 = .ok (.goto 14, 3) := by decide +kernel
theorem dJ7_copyOf_6403c_13 : decode cJ7_copyOf_6403c 13 = .ok (.aload_n 2, 1) := by decide +kernel
theorem dJ7_copyOf_6403c_14 : decode cJ7_copyOf_6403c 14 = .ok (.invokevirtual 90, 3) := by decide +kernel
theorem dJ7_copyOf_6403c_17 : decode cJ7_copyOf_6403c 17 = .ok (.iload_n 1, 1) := by decide +kernel
theorem dJ7_copyOf_6403c_18 : decode cJ7_copyOf_6403c 18 = .ok (.invokestatic 95, 3) := by decide +kernel
theorem dJ7_copyOf_6403c_21 : decode cJ7_copyOf_6403c 21 = .ok (.checkcast 110, 3) := by decide +kernel
theorem dJ7_copyOf_6403c_24 : decode cJ7_copyOf_6403c 24 = .ok (.astore_n 3, 1) := by decide +kernel
theorem dJ7_copyOf_6403c_25 : decode cJ7_copyOf_6403c 25 = .ok (.aload_n 0, 1) := by decide +kernel
theorem dJ7_copyOf_6403c_26 : decode cJ7_copyOf_6403c 26 = .ok (.iconst 0, 1) := by decide +kernel
theorem dJ7_copyOf_6403c_27 : decode cJ7_copyOf_6403c 27 = .ok (.aload_n 3, 1) := by decide +kernel
theorem dJ7_copyOf_6403c_28 : decode cJ7_copyOf_6403c 28 = .ok (.iconst 0, 1) := by decide +kernel
theorem dJ7_copyOf_6403c_29 : decode cJ7_copyOf_6403c 29 = .ok (.aload_n 0, 1) := by decide +kernel
theorem dJ7_copyOf_6403c_30 : decode cJ7_copyOf_6403c 30 = .ok (.arraylength, 1) := by decide +kernel
theorem dJ7_copyOf_6403c_31 : decode cJ7_copyOf_6403c 31 = .ok (.iload_n 1, 1) := by decide +kernel
theorem dJ7_copyOf_6403c_32 : decode cJ7_copyOf_6403c 32 = .ok (.invokestatic 304, 3) := by decide +kernel
theorem dJ7_copyOf_6403c_35 : decode cJ7_copyOf_6403c 35 = .ok (.invokestatic 150, 3) := by decide +kernel
theorem dJ7_copyOf_6403c_38 : decode cJ7_copyOf_6403c 38 = .ok (.aload_n 3, 1) := by decide +kernel
theorem dJ7_copyOf_6403c_39 : decode cJ7_copyOf_6403c 39 = .ok (.areturn, 1) := by decide +kernel
theorem dJ15_checkIndex_7cf53_0 : decode cJ15_checkIndex_7cf53 0 = .ok (.iload_n 0, 1) := by decide +kernel
theorem dJ15_checkIndex_7cf53_1 : decode cJ15_checkIndex_7cf53 1 = .ok (.iload_n 1, 1) := by decide +kernel
theorem dJ15_checkIndex_7cf53_2 : decode cJ15_checkIndex_7cf53 2 = .ok (.aconst_null, 1) := by decide +kernel
theorem dJ15_checkIndex_7cf53_3 : decode cJ15_checkIndex_7cf53 3 = .ok (.invokestatic 105, 3) := by decide +kernel
theorem dJ15_checkIndex_7cf53_6 : decode cJ15_checkIndex_7cf53 6 = .ok (.ireturn, 1) := by decide +kernel
theorem dJ8_newLength_cabcc_0 : decode cJ8_newLength_cabcc 0 = .ok (.iload_n 0, 1) := by decide +kernel
theorem dJ8_newLength_cabcc_1 : decode cJ8_newLength_cabcc 1 = .ok (.iload_n 1, 1) := by decide +kernel
theorem dJ8_newLength_cabcc_2 : decode cJ8_newLength_cabcc 2 = .ok (.iload_n 2, 1) := by decide +kernel
theorem dJ8_newLength_cabcc_3 : decode cJ8_newLength_cabcc 3 = .ok (.invokestatic 194, 3) := by decide +kernel
theorem dJ8_newLength_cabcc_6 : decode cJ8_newLength_cabcc 6 = .ok (.iadd, 1) := by decide +kernel
theorem dJ8_newLength_cabcc_7 : decode cJ8_newLength_cabcc 7 = .ok (.istore_n 3, 1) := by decide +kernel
theorem dJ8_newLength_cabcc_8 : decode cJ8_newLength_cabcc 8 = .ok (.iconst 0, 1) := by decide +kernel
theorem dJ8_newLength_cabcc_9 : decode cJ8_newLength_cabcc 9 = .ok (.iload_n 3, 1) := by decide +kernel
theorem dJ8_newLength_cabcc_10 : decode cJ8_newLength_cabcc 10 = .ok (.if_icmp .ge 11, 3) := by decide +kernel
theorem dJ8_newLength_cabcc_13 : decode cJ8_newLength_cabcc 13 = .ok (.iload_n 3, 1) := by decide +kernel
theorem dJ8_newLength_cabcc_14 : decode cJ8_newLength_cabcc 14 = .ok (.ldc 200, 2) := by decide +kernel
theorem dJ8_newLength_cabcc_16 : decode cJ8_newLength_cabcc 16 = .ok (.if_icmp .gt 5, 3) := by decide +kernel
theorem dJ8_newLength_cabcc_19 : decode cJ8_newLength_cabcc 19 = .ok (.iload_n 3, 1) := by decide +kernel
theorem dJ8_newLength_cabcc_20 : decode cJ8_newLength_cabcc 20 = .ok (.ireturn, 1) := by decide +kernel
theorem dJ8_newLength_cabcc_21 : decode cJ8_newLength_cabcc 21 = .ok (.iload_n 0, 1) := by decide +kernel
theorem dJ8_newLength_cabcc_22 : decode cJ8_newLength_cabcc 22 = .ok (.iload_n 1, 1) := by decide +kernel
theorem dJ8_newLength_cabcc_23 : decode cJ8_newLength_cabcc 23 = .ok (.invokestatic 201, 3) := by decide +kernel
theorem dJ8_newLength_cabcc_26 : decode cJ8_newLength_cabcc 26 = .ok (.ireturn, 1) := by decide +kernel
theorem dJ8_hugeLength_7cf53_0 : decode cJ8_hugeLength_7cf53 0 = .ok (.iload_n 0, 1) := by decide +kernel
theorem dJ8_hugeLength_7cf53_1 : decode cJ8_hugeLength_7cf53 1 = .ok (.iload_n 1, 1) := by decide +kernel
theorem dJ8_hugeLength_7cf53_2 : decode cJ8_hugeLength_7cf53 2 = .ok (.iadd, 1) := by decide +kernel
theorem dJ8_hugeLength_7cf53_3 : decode cJ8_hugeLength_7cf53 3 = .ok (.istore_n 2, 1) := by decide +kernel
theorem dJ8_hugeLength_7cf53_4 : decode cJ8_hugeLength_7cf53 4 = .ok (.iload_n 2, 1) := by decide +kernel
theorem dJ8_hugeLength_7cf53_5 : decode cJ8_hugeLength_7cf53 5 = .ok (.ifCond .ge 44, 3) := by decide +kernel
theorem dJ8_hugeLength_7cf53_8 : decode cJ8_hugeLength_7cf53 8 = .ok (.new 204, 3) := by decide +kernel
theorem dJ8_hugeLength_7cf53_11 : decode cJ8_hugeLength_7cf53 11 = .ok (.dup, 1) := by decide +kernel
theorem dJ8_hugeLength_7cf53_12 : decode cJ8_hugeLength_7cf53 12 = .ok (.new 89, 3) := by decide +kernel
theorem dJ8_hugeLength_7cf53_15 : decode cJ8_hugeLength_7cf53 15 = .ok (.dup, 1) := by decide +kernel
theorem dJ8_hugeLength_7cf53_16 : decode cJ8_hugeLength_7cf53 16 = .ok (.invokespecial 91, 3) := by decide +kernel
theorem dJ8_hugeLength_7cf53_19 : decode cJ8_hugeLength_7cf53 19 = .ok (.ldc 206, 2) := by decide +kernel
theorem dJ8_hugeLength_7cf53_21 : decode cJ8_hugeLength_7cf53 21 = .ok (.invokevirtual 94, 3) := by decide +kernel
theorem dJ8_hugeLength_7cf53_24 : decode cJ8_hugeLength_7cf53 24 = .ok (.iload_n 0, 1) := by decide +kernel
theorem dJ8_hugeLength_7cf53_25 : decode cJ8_hugeLength_7cf53 25 = .ok (.invokevirtual 98, 3) := by decide +kernel
theorem dJ8_hugeLength_7cf53_28 : decode cJ8_hugeLength_7cf53 28 = .ok (.ldc 208, 2) := by decide +kernel
theorem dJ8_hugeLength_7cf53_30 : decode cJ8_hugeLength_7cf53 30 = .ok (.invokevirtual 94, 3) := by decide +kernel
theorem dJ8_hugeLength_7cf53_33 : decode cJ8_hugeLength_7cf53 33 = .ok (.iload_n 1, 1) := by decide +kernel
theorem dJ8_hugeLength_7cf53_34 : decode cJ8_hugeLength_7cf53 34 = .ok (.invokevirtual 98, 3) := by decide +kernel
theorem dJ8_hugeLength_7cf53_37 : decode cJ8_hugeLength_7cf53 37 = .ok (.ldc 210, 2) := by decide +kernel
theorem dJ8_hugeLength_7cf53_39 : decode cJ8_hugeLength_7cf53 39 = .ok (.invokevirtual 94, 3) := by decide +kernel
theorem dJ8_hugeLength_7cf53_42 : decode cJ8_hugeLength_7cf53 42 = .ok (.invokevirtual 101, 3) := by decide +kernel
theorem dJ8_hugeLength_7cf53_45 : decode cJ8_hugeLength_7cf53 45 = .ok (.invokespecial 212, 3) := by decide +kernel
theorem dJ8_hugeLength_7cf53_48 : decode cJ8_hugeLength_7cf53 48 = .ok (.athrow, 1) := by decide +kernel
theorem dJ8_hugeLength_7cf53_49 : decode cJ8_hugeLength_7cf53 49 = .ok (.iload_n 2, 1) := by decide +kernel
theorem dJ8_hugeLength_7cf53_50 : decode cJ8_hugeLength_7cf53 50 = .ok (.ldc 200, 2) := by decide +kernel
theorem dJ8_hugeLength_7cf53_52 : decode cJ8_hugeLength_7cf53 52 = .ok (.if_icmp .gt 6, 3) := by decide +kernel
theorem dJ8_hugeLength_7cf53_55 : decode cJ8_hugeLength_7cf53 55 = .ok (.ldc 200, 2) := by decide +kernel
theorem dJ8_hugeLength_7cf53_57 : decode cJ8_hugeLength_7cf53 57 = .ok (.ireturn, 1) := by decide +kernel
theorem dJ8_hugeLength_7cf53_58 : decode cJ8_hugeLength_7cf53 58 = .ok (.iload_n 2, 1) := by decide +kernel
theorem dJ8_hugeLength_7cf53_59 : decode cJ8_hugeLength_7cf53 59 = .ok (.ireturn, 1) := by decide +kernel
theorem dJ3_checkIndex_8e157_0 : decode cJ3_checkIndex_8e157 0 = .ok (.iload_n 0, 1) := by decide +kernel
theorem dJ3_checkIndex_8e157_1 : decode cJ3_checkIndex_8e157 1 = .ok (.ifCond .lt 8, 3) := by decide +kernel
theorem dJ3_checkIndex_8e157_4 : decode cJ3_checkIndex_8e157 4 = .ok (.iload_n 0, 1) := by decide +kernel
theorem dJ3_checkIndex_8e157_5 : decode cJ3_checkIndex_8e157 5 = .ok (.iload_n 1, 1) := by decide +kernel
theorem dJ3_checkIndex_8e157_6 : decode cJ3_checkIndex_8e157 6 = .ok (.if_icmp .lt 10, 3) := by decide +kernel
theorem dJ3_checkIndex_8e157_9 : decode cJ3_checkIndex_8e157 9 = .ok (.aload_n 2, 1) := by decide +kernel
theorem dJ3_checkIndex_8e157_10 : decode cJ3_checkIndex_8e157 10 = .ok (.iload_n 0, 1) := by decide +kernel
theorem dJ3_checkIndex_8e157_11 : decode cJ3_checkIndex_8e157 11 = .ok (.iload_n 1, 1) := by decide +kernel
theorem dJ3_checkIndex_8e157_12 : decode cJ3_checkIndex_8e157 12 = .ok (.invokestatic 95, 3) := by decide +kernel
theorem dJ3_checkIndex_8e157_15 : decode cJ3_checkIndex_8e157 15 = .ok (.athrow, 1) := by decide +kernel
theorem dJ3_checkIndex_8e157_16 : decode cJ3_checkIndex_8e157 16 = .ok (.iload_n 0, 1) := by decide +kernel
theorem dJ3_checkIndex_8e157_17 : decode cJ3_checkIndex_8e157 17 = .ok (.ireturn, 1) := by decide +kernel
theorem dJ3_checkFromToIndex_8c36e_0 : decode cJ3_checkFromToIndex_8c36e 0 = .ok (.iload_n 0, 1) := by decide +kernel
theorem dJ3_checkFromToIndex_8c36e_1 : decode cJ3_checkFromToIndex_8c36e 1 = .ok (.ifCond .lt 13, 3) := by decide +kernel
theorem dJ3_checkFromToIndex_8c36e_4 : decode cJ3_checkFromToIndex_8c36e 4 = .ok (.iload_n 0, 1) := by decide +kernel
theorem dJ3_checkFromToIndex_8c36e_5 : decode cJ3_checkFromToIndex_8c36e 5 = .ok (.iload_n 1, 1) := by decide +kernel
theorem dJ3_checkFromToIndex_8c36e_6 : decode cJ3_checkFromToIndex_8c36e 6 = .ok (.if_icmp .gt 8, 3) := by decide +kernel
theorem dJ3_checkFromToIndex_8c36e_9 : decode cJ3_checkFromToIndex_8c36e 9 = .ok (.iload_n 1, 1) := by decide +kernel
theorem dJ3_checkFromToIndex_8c36e_10 : decode cJ3_checkFromToIndex_8c36e 10 = .ok (.iload_n 2, 1) := by decide +kernel
theorem dJ3_checkFromToIndex_8c36e_11 : decode cJ3_checkFromToIndex_8c36e 11 = .ok (.if_icmp .le 11, 3) := by decide +kernel
theorem dJ3_checkFromToIndex_8c36e_14 : decode cJ3_checkFromToIndex_8c36e 14 = .ok (.aload_n 3, 1) := by decide +kernel
theorem dJ3_checkFromToIndex_8c36e_15 : decode cJ3_checkFromToIndex_8c36e 15 = .ok (.iload_n 0, 1) := by decide +kernel
theorem dJ3_checkFromToIndex_8c36e_16 : decode cJ3_checkFromToIndex_8c36e 16 = .ok (.iload_n 1, 1) := by decide +kernel
theorem dJ3_checkFromToIndex_8c36e_17 : decode cJ3_checkFromToIndex_8c36e 17 = .ok (.iload_n 2, 1) := by decide +kernel
theorem dJ3_checkFromToIndex_8c36e_18 : decode cJ3_checkFromToIndex_8c36e 18 = .ok (.invokestatic 99, 3) := by decide +kernel
theorem dJ3_checkFromToIndex_8c36e_21 : decode cJ3_checkFromToIndex_8c36e 21 = .ok (.athrow, 1) := by decide +kernel
theorem dJ3_checkFromToIndex_8c36e_22 : decode cJ3_checkFromToIndex_8c36e 22 = .ok (.iload_n 0, 1) := by decide +kernel
theorem dJ3_checkFromToIndex_8c36e_23 : decode cJ3_checkFromToIndex_8c36e 23 = .ok (.ireturn, 1) := by decide +kernel
theorem dL_column_0 : decode cL_column 0 = .ok (.aload_n 2, 1) := by decide +kernel
theorem dL_column_1 : decode cL_column 1 = .ok (.iconst 0, 1) := by decide +kernel
theorem dL_column_2 : decode cL_column 2 = .ok (.aload_n 0, 1) := by decide +kernel
theorem dL_column_3 : decode cL_column 3 = .ok (.iload_n 1, 1) := by decide +kernel
theorem dL_column_4 : decode cL_column 4 = .ok (.invokevirtual 7, 3) := by decide +kernel
theorem dL_column_7 : decode cL_column 7 = .ok (.i2l, 1) := by decide +kernel
theorem dL_column_8 : decode cL_column 8 = .ok (.lastore, 1) := by decide +kernel
theorem dL_column_9 : decode cL_column 9 = .ok (.goto 9, 3) := by decide +kernel
theorem dL_column_12 : decode cL_column 12 = .ok (.astore_n 3, 1) := by decide +kernel
theorem dL_column_13 : decode cL_column 13 = .ok (.iconst 1, 1) := by decide +kernel
theorem dL_column_14 : decode cL_column 14 = .ok (.ireturn, 1) := by decide +kernel
theorem dL_column_15 : decode cL_column 15 = .ok (.astore_n 3, 1) := by decide +kernel
theorem dL_column_16 : decode cL_column 16 = .ok (.iconst 2, 1) := by decide +kernel
theorem dL_column_17 : decode cL_column 17 = .ok (.ireturn, 1) := by decide +kernel
theorem dL_column_18 : decode cL_column 18 = .ok (.iconst 0, 1) := by decide +kernel
theorem dL_column_19 : decode cL_column 19 = .ok (.ireturn, 1) := by decide +kernel
theorem dL_layer_0 : decode cL_layer 0 = .ok (.aload 4, 2) := by decide +kernel
theorem dL_layer_2 : decode cL_layer 2 = .ok (.iconst 0, 1) := by decide +kernel
theorem dL_layer_3 : decode cL_layer 3 = .ok (.aload_n 0, 1) := by decide +kernel
theorem dL_layer_4 : decode cL_layer 4 = .ok (.iload_n 1, 1) := by decide +kernel
theorem dL_layer_5 : decode cL_layer 5 = .ok (.iload_n 2, 1) := by decide +kernel
theorem dL_layer_6 : decode cL_layer 6 = .ok (.iload_n 3, 1) := by decide +kernel
theorem dL_layer_7 : decode cL_layer 7 = .ok (.invokevirtual 17, 3) := by decide +kernel
theorem dL_layer_10 : decode cL_layer 10 = .ok (.i2l, 1) := by decide +kernel
theorem dL_layer_11 : decode cL_layer 11 = .ok (.lastore, 1) := by decide +kernel
theorem dL_layer_12 : decode cL_layer 12 = .ok (.goto 15, 3) := by decide +kernel
theorem dL_layer_15 : decode cL_layer 15 = .ok (.astore 5, 2) := by decide +kernel
theorem dL_layer_17 : decode cL_layer 17 = .ok (.iconst 1, 1) := by decide +kernel
theorem dL_layer_18 : decode cL_layer 18 = .ok (.ireturn, 1) := by decide +kernel
theorem dL_layer_19 : decode cL_layer 19 = .ok (.astore 5, 2) := by decide +kernel
theorem dL_layer_21 : decode cL_layer 21 = .ok (.iconst 2, 1) := by decide +kernel
theorem dL_layer_22 : decode cL_layer 22 = .ok (.ireturn, 1) := by decide +kernel
theorem dL_layer_23 : decode cL_layer 23 = .ok (.astore 5, 2) := by decide +kernel
theorem dL_layer_25 : decode cL_layer 25 = .ok (.iconst 3, 1) := by decide +kernel
theorem dL_layer_26 : decode cL_layer 26 = .ok (.ireturn, 1) := by decide +kernel
theorem dL_layer_27 : decode cL_layer 27 = .ok (.iconst 0, 1) := by decide +kernel
theorem dL_layer_28 : decode cL_layer 28 = .ok (.ireturn, 1) := by decide +kernel
theorem dL_wet_0 : decode cL_wet 0 = .ok (.aload 4, 2) := by decide +kernel
theorem dL_wet_2 : decode cL_wet 2 = .ok (.iconst 0, 1) := by decide +kernel
theorem dL_wet_3 : decode cL_wet 3 = .ok (.aload_n 0, 1) := by decide +kernel
theorem dL_wet_4 : decode cL_wet 4 = .ok (.iload_n 1, 1) := by decide +kernel
theorem dL_wet_5 : decode cL_wet 5 = .ok (.iload_n 2, 1) := by decide +kernel
theorem dL_wet_6 : decode cL_wet 6 = .ok (.iload_n 3, 1) := by decide +kernel
theorem dL_wet_7 : decode cL_wet 7 = .ok (.invokevirtual 23, 3) := by decide +kernel
theorem dL_wet_10 : decode cL_wet 10 = .ok (.i2l, 1) := by decide +kernel
theorem dL_wet_11 : decode cL_wet 11 = .ok (.lastore, 1) := by decide +kernel
theorem dL_wet_12 : decode cL_wet 12 = .ok (.goto 11, 3) := by decide +kernel
theorem dL_wet_15 : decode cL_wet 15 = .ok (.astore 5, 2) := by decide +kernel
theorem dL_wet_17 : decode cL_wet 17 = .ok (.iconst 1, 1) := by decide +kernel
theorem dL_wet_18 : decode cL_wet 18 = .ok (.ireturn, 1) := by decide +kernel
theorem dL_wet_19 : decode cL_wet 19 = .ok (.astore 5, 2) := by decide +kernel
theorem dL_wet_21 : decode cL_wet 21 = .ok (.iconst 2, 1) := by decide +kernel
theorem dL_wet_22 : decode cL_wet 22 = .ok (.ireturn, 1) := by decide +kernel
theorem dL_wet_23 : decode cL_wet 23 = .ok (.iconst 0, 1) := by decide +kernel
theorem dL_wet_24 : decode cL_wet 24 = .ok (.ireturn, 1) := by decide +kernel
theorem dL_water_0 : decode cL_water 0 = .ok (.aload_n 3, 1) := by decide +kernel
theorem dL_water_1 : decode cL_water 1 = .ok (.iconst 0, 1) := by decide +kernel
theorem dL_water_2 : decode cL_water 2 = .ok (.aload_n 0, 1) := by decide +kernel
theorem dL_water_3 : decode cL_water 3 = .ok (.iload_n 1, 1) := by decide +kernel
theorem dL_water_4 : decode cL_water 4 = .ok (.iload_n 2, 1) := by decide +kernel
theorem dL_water_5 : decode cL_water 5 = .ok (.invokevirtual 27, 3) := by decide +kernel
theorem dL_water_8 : decode cL_water 8 = .ok (.i2l, 1) := by decide +kernel
theorem dL_water_9 : decode cL_water 9 = .ok (.lastore, 1) := by decide +kernel
theorem dL_water_10 : decode cL_water 10 = .ok (.goto 7, 3) := by decide +kernel
theorem dL_water_13 : decode cL_water 13 = .ok (.astore 4, 2) := by decide +kernel
theorem dL_water_15 : decode cL_water 15 = .ok (.iconst 1, 1) := by decide +kernel
theorem dL_water_16 : decode cL_water 16 = .ok (.ireturn, 1) := by decide +kernel
theorem dL_water_17 : decode cL_water 17 = .ok (.iconst 0, 1) := by decide +kernel
theorem dL_water_18 : decode cL_water 18 = .ok (.ireturn, 1) := by decide +kernel
theorem dL_capacity_0 : decode cL_capacity 0 = .ok (.aload_n 3, 1) := by decide +kernel
theorem dL_capacity_1 : decode cL_capacity 1 = .ok (.iconst 0, 1) := by decide +kernel
theorem dL_capacity_2 : decode cL_capacity 2 = .ok (.aload_n 0, 1) := by decide +kernel
theorem dL_capacity_3 : decode cL_capacity 3 = .ok (.iload_n 1, 1) := by decide +kernel
theorem dL_capacity_4 : decode cL_capacity 4 = .ok (.iload_n 2, 1) := by decide +kernel
theorem dL_capacity_5 : decode cL_capacity 5 = .ok (.invokevirtual 31, 3) := by decide +kernel
theorem dL_capacity_8 : decode cL_capacity 8 = .ok (.i2l, 1) := by decide +kernel
theorem dL_capacity_9 : decode cL_capacity 9 = .ok (.lastore, 1) := by decide +kernel
theorem dL_capacity_10 : decode cL_capacity 10 = .ok (.goto 7, 3) := by decide +kernel
theorem dL_capacity_13 : decode cL_capacity 13 = .ok (.astore 4, 2) := by decide +kernel
theorem dL_capacity_15 : decode cL_capacity 15 = .ok (.iconst 1, 1) := by decide +kernel
theorem dL_capacity_16 : decode cL_capacity 16 = .ok (.ireturn, 1) := by decide +kernel
theorem dL_capacity_17 : decode cL_capacity 17 = .ok (.iconst 0, 1) := by decide +kernel
theorem dL_capacity_18 : decode cL_capacity 18 = .ok (.ireturn, 1) := by decide +kernel
theorem dL_link_0 : decode cL_link 0 = .ok (.aload_n 3, 1) := by decide +kernel
theorem dL_link_1 : decode cL_link 1 = .ok (.iconst 0, 1) := by decide +kernel
theorem dL_link_2 : decode cL_link 2 = .ok (.aload_n 0, 1) := by decide +kernel
theorem dL_link_3 : decode cL_link 3 = .ok (.iload_n 1, 1) := by decide +kernel
theorem dL_link_4 : decode cL_link 4 = .ok (.iload_n 2, 1) := by decide +kernel
theorem dL_link_5 : decode cL_link 5 = .ok (.invokevirtual 34, 3) := by decide +kernel
theorem dL_link_8 : decode cL_link 8 = .ok (.i2l, 1) := by decide +kernel
theorem dL_link_9 : decode cL_link 9 = .ok (.lastore, 1) := by decide +kernel
theorem dL_link_10 : decode cL_link 10 = .ok (.goto 11, 3) := by decide +kernel
theorem dL_link_13 : decode cL_link 13 = .ok (.astore 4, 2) := by decide +kernel
theorem dL_link_15 : decode cL_link 15 = .ok (.iconst 1, 1) := by decide +kernel
theorem dL_link_16 : decode cL_link 16 = .ok (.ireturn, 1) := by decide +kernel
theorem dL_link_17 : decode cL_link 17 = .ok (.astore 4, 2) := by decide +kernel
theorem dL_link_19 : decode cL_link 19 = .ok (.iconst 2, 1) := by decide +kernel
theorem dL_link_20 : decode cL_link 20 = .ok (.ireturn, 1) := by decide +kernel
theorem dL_link_21 : decode cL_link 21 = .ok (.iconst 0, 1) := by decide +kernel
theorem dL_link_22 : decode cL_link 22 = .ok (.ireturn, 1) := by decide +kernel
theorem dL_scale_0 : decode cL_scale 0 = .ok (.aload_n 3, 1) := by decide +kernel
theorem dL_scale_1 : decode cL_scale 1 = .ok (.iconst 0, 1) := by decide +kernel
theorem dL_scale_2 : decode cL_scale 2 = .ok (.aload_n 0, 1) := by decide +kernel
theorem dL_scale_3 : decode cL_scale 3 = .ok (.iload_n 1, 1) := by decide +kernel
theorem dL_scale_4 : decode cL_scale 4 = .ok (.iload_n 2, 1) := by decide +kernel
theorem dL_scale_5 : decode cL_scale 5 = .ok (.invokevirtual 37, 3) := by decide +kernel
theorem dL_scale_8 : decode cL_scale 8 = .ok (.i2l, 1) := by decide +kernel
theorem dL_scale_9 : decode cL_scale 9 = .ok (.lastore, 1) := by decide +kernel
theorem dL_scale_10 : decode cL_scale 10 = .ok (.goto 11, 3) := by decide +kernel
theorem dL_scale_13 : decode cL_scale 13 = .ok (.astore 4, 2) := by decide +kernel
theorem dL_scale_15 : decode cL_scale 15 = .ok (.iconst 1, 1) := by decide +kernel
theorem dL_scale_16 : decode cL_scale 16 = .ok (.ireturn, 1) := by decide +kernel
theorem dL_scale_17 : decode cL_scale 17 = .ok (.astore 4, 2) := by decide +kernel
theorem dL_scale_19 : decode cL_scale 19 = .ok (.iconst 2, 1) := by decide +kernel
theorem dL_scale_20 : decode cL_scale 20 = .ok (.ireturn, 1) := by decide +kernel
theorem dL_scale_21 : decode cL_scale 21 = .ok (.iconst 0, 1) := by decide +kernel
theorem dL_scale_22 : decode cL_scale 22 = .ok (.ireturn, 1) := by decide +kernel
theorem dL_plant_0 : decode cL_plant 0 = .ok (.aload 4, 2) := by decide +kernel
theorem dL_plant_2 : decode cL_plant 2 = .ok (.iconst 0, 1) := by decide +kernel
theorem dL_plant_3 : decode cL_plant 3 = .ok (.aload_n 0, 1) := by decide +kernel
theorem dL_plant_4 : decode cL_plant 4 = .ok (.iload_n 1, 1) := by decide +kernel
theorem dL_plant_5 : decode cL_plant 5 = .ok (.iload_n 2, 1) := by decide +kernel
theorem dL_plant_6 : decode cL_plant 6 = .ok (.iload_n 3, 1) := by decide +kernel
theorem dL_plant_7 : decode cL_plant 7 = .ok (.invokevirtual 40, 3) := by decide +kernel
theorem dL_plant_10 : decode cL_plant 10 = .ok (.i2l, 1) := by decide +kernel
theorem dL_plant_11 : decode cL_plant 11 = .ok (.lastore, 1) := by decide +kernel
theorem dL_plant_12 : decode cL_plant 12 = .ok (.goto 15, 3) := by decide +kernel
theorem dL_plant_15 : decode cL_plant 15 = .ok (.astore 5, 2) := by decide +kernel
theorem dL_plant_17 : decode cL_plant 17 = .ok (.iconst 1, 1) := by decide +kernel
theorem dL_plant_18 : decode cL_plant 18 = .ok (.ireturn, 1) := by decide +kernel
theorem dL_plant_19 : decode cL_plant 19 = .ok (.astore 5, 2) := by decide +kernel
theorem dL_plant_21 : decode cL_plant 21 = .ok (.iconst 2, 1) := by decide +kernel
theorem dL_plant_22 : decode cL_plant 22 = .ok (.ireturn, 1) := by decide +kernel
theorem dL_plant_23 : decode cL_plant 23 = .ok (.astore 5, 2) := by decide +kernel
theorem dL_plant_25 : decode cL_plant 25 = .ok (.iconst 3, 1) := by decide +kernel
theorem dL_plant_26 : decode cL_plant 26 = .ok (.ireturn, 1) := by decide +kernel
theorem dL_plant_27 : decode cL_plant 27 = .ok (.iconst 0, 1) := by decide +kernel
theorem dL_plant_28 : decode cL_plant 28 = .ok (.ireturn, 1) := by decide +kernel
theorem dL_harvest_0 : decode cL_harvest 0 = .ok (.aload_n 2, 1) := by decide +kernel
theorem dL_harvest_1 : decode cL_harvest 1 = .ok (.iconst 0, 1) := by decide +kernel
theorem dL_harvest_2 : decode cL_harvest 2 = .ok (.aload_n 0, 1) := by decide +kernel
theorem dL_harvest_3 : decode cL_harvest 3 = .ok (.iload_n 1, 1) := by decide +kernel
theorem dL_harvest_4 : decode cL_harvest 4 = .ok (.invokevirtual 43, 3) := by decide +kernel
theorem dL_harvest_7 : decode cL_harvest 7 = .ok (.i2l, 1) := by decide +kernel
theorem dL_harvest_8 : decode cL_harvest 8 = .ok (.lastore, 1) := by decide +kernel
theorem dL_harvest_9 : decode cL_harvest 9 = .ok (.goto 6, 3) := by decide +kernel
theorem dL_harvest_12 : decode cL_harvest 12 = .ok (.astore_n 3, 1) := by decide +kernel
theorem dL_harvest_13 : decode cL_harvest 13 = .ok (.iconst 1, 1) := by decide +kernel
theorem dL_harvest_14 : decode cL_harvest 14 = .ok (.ireturn, 1) := by decide +kernel
theorem dL_harvest_15 : decode cL_harvest 15 = .ok (.iconst 0, 1) := by decide +kernel
theorem dL_harvest_16 : decode cL_harvest 16 = .ok (.ireturn, 1) := by decide +kernel
theorem dL_stress_0 : decode cL_stress 0 = .ok (.aload_n 3, 1) := by decide +kernel
theorem dL_stress_1 : decode cL_stress 1 = .ok (.iconst 0, 1) := by decide +kernel
theorem dL_stress_2 : decode cL_stress 2 = .ok (.aload_n 0, 1) := by decide +kernel
theorem dL_stress_3 : decode cL_stress 3 = .ok (.iload_n 1, 1) := by decide +kernel
theorem dL_stress_4 : decode cL_stress 4 = .ok (.iload_n 2, 1) := by decide +kernel
theorem dL_stress_5 : decode cL_stress 5 = .ok (.invokevirtual 47, 3) := by decide +kernel
theorem dL_stress_8 : decode cL_stress 8 = .ok (.i2l, 1) := by decide +kernel
theorem dL_stress_9 : decode cL_stress 9 = .ok (.lastore, 1) := by decide +kernel
theorem dL_stress_10 : decode cL_stress 10 = .ok (.goto 11, 3) := by decide +kernel
theorem dL_stress_13 : decode cL_stress 13 = .ok (.astore 4, 2) := by decide +kernel
theorem dL_stress_15 : decode cL_stress 15 = .ok (.iconst 1, 1) := by decide +kernel
theorem dL_stress_16 : decode cL_stress 16 = .ok (.ireturn, 1) := by decide +kernel
theorem dL_stress_17 : decode cL_stress 17 = .ok (.astore 4, 2) := by decide +kernel
theorem dL_stress_19 : decode cL_stress 19 = .ok (.iconst 2, 1) := by decide +kernel
theorem dL_stress_20 : decode cL_stress 20 = .ok (.ireturn, 1) := by decide +kernel
theorem dL_stress_21 : decode cL_stress 21 = .ok (.iconst 0, 1) := by decide +kernel
theorem dL_stress_22 : decode cL_stress 22 = .ok (.ireturn, 1) := by decide +kernel
theorem dL_mulch_0 : decode cL_mulch 0 = .ok (.aload_n 3, 1) := by decide +kernel
theorem dL_mulch_1 : decode cL_mulch 1 = .ok (.iconst 0, 1) := by decide +kernel
theorem dL_mulch_2 : decode cL_mulch 2 = .ok (.aload_n 0, 1) := by decide +kernel
theorem dL_mulch_3 : decode cL_mulch 3 = .ok (.iload_n 1, 1) := by decide +kernel
theorem dL_mulch_4 : decode cL_mulch 4 = .ok (.iload_n 2, 1) := by decide +kernel
theorem dL_mulch_5 : decode cL_mulch 5 = .ok (.invokevirtual 52, 3) := by decide +kernel
theorem dL_mulch_8 : decode cL_mulch 8 = .ok (.ifCond .eq 7, 3) := by decide +kernel
theorem dL_mulch_11 : decode cL_mulch 11 = .ok (.lconst 1, 1) := by decide +kernel
theorem dL_mulch_12 : decode cL_mulch 12 = .ok (.goto 4, 3) := by decide +kernel
theorem dL_mulch_15 : decode cL_mulch 15 = .ok (.lconst 0, 1) := by decide +kernel
theorem dL_mulch_16 : decode cL_mulch 16 = .ok (.lastore, 1) := by decide +kernel
theorem dL_mulch_17 : decode cL_mulch 17 = .ok (.goto 7, 3) := by decide +kernel
theorem dL_mulch_20 : decode cL_mulch 20 = .ok (.astore 4, 2) := by decide +kernel
theorem dL_mulch_22 : decode cL_mulch 22 = .ok (.iconst 1, 1) := by decide +kernel
theorem dL_mulch_23 : decode cL_mulch 23 = .ok (.ireturn, 1) := by decide +kernel
theorem dL_mulch_24 : decode cL_mulch 24 = .ok (.iconst 0, 1) := by decide +kernel
theorem dL_mulch_25 : decode cL_mulch 25 = .ok (.ireturn, 1) := by decide +kernel
theorem dL_rule_0 : decode cL_rule 0 = .ok (.aload 4, 2) := by decide +kernel
theorem dL_rule_2 : decode cL_rule 2 = .ok (.iconst 0, 1) := by decide +kernel
theorem dL_rule_3 : decode cL_rule 3 = .ok (.aload_n 0, 1) := by decide +kernel
theorem dL_rule_4 : decode cL_rule 4 = .ok (.iload_n 1, 1) := by decide +kernel
theorem dL_rule_5 : decode cL_rule 5 = .ok (.iload_n 2, 1) := by decide +kernel
theorem dL_rule_6 : decode cL_rule 6 = .ok (.iload_n 3, 1) := by decide +kernel
theorem dL_rule_7 : decode cL_rule 7 = .ok (.invokevirtual 56, 3) := by decide +kernel
theorem dL_rule_10 : decode cL_rule 10 = .ok (.i2l, 1) := by decide +kernel
theorem dL_rule_11 : decode cL_rule 11 = .ok (.lastore, 1) := by decide +kernel
theorem dL_rule_12 : decode cL_rule 12 = .ok (.goto 11, 3) := by decide +kernel
theorem dL_rule_15 : decode cL_rule 15 = .ok (.astore 5, 2) := by decide +kernel
theorem dL_rule_17 : decode cL_rule 17 = .ok (.iconst 1, 1) := by decide +kernel
theorem dL_rule_18 : decode cL_rule 18 = .ok (.ireturn, 1) := by decide +kernel
theorem dL_rule_19 : decode cL_rule 19 = .ok (.astore 5, 2) := by decide +kernel
theorem dL_rule_21 : decode cL_rule 21 = .ok (.iconst 2, 1) := by decide +kernel
theorem dL_rule_22 : decode cL_rule 22 = .ok (.ireturn, 1) := by decide +kernel
theorem dL_rule_23 : decode cL_rule 23 = .ok (.iconst 0, 1) := by decide +kernel
theorem dL_rule_24 : decode cL_rule 24 = .ok (.ireturn, 1) := by decide +kernel
theorem dL_spread_0 : decode cL_spread 0 = .ok (.aload 4, 2) := by decide +kernel
theorem dL_spread_2 : decode cL_spread 2 = .ok (.iconst 0, 1) := by decide +kernel
theorem dL_spread_3 : decode cL_spread 3 = .ok (.aload_n 0, 1) := by decide +kernel
theorem dL_spread_4 : decode cL_spread 4 = .ok (.iload_n 1, 1) := by decide +kernel
theorem dL_spread_5 : decode cL_spread 5 = .ok (.iload_n 2, 1) := by decide +kernel
theorem dL_spread_6 : decode cL_spread 6 = .ok (.iload_n 3, 1) := by decide +kernel
theorem dL_spread_7 : decode cL_spread 7 = .ok (.invokevirtual 59, 3) := by decide +kernel
theorem dL_spread_10 : decode cL_spread 10 = .ok (.lastore, 1) := by decide +kernel
theorem dL_spread_11 : decode cL_spread 11 = .ok (.goto 15, 3) := by decide +kernel
theorem dL_spread_14 : decode cL_spread 14 = .ok (.astore 5, 2) := by decide +kernel
theorem dL_spread_16 : decode cL_spread 16 = .ok (.iconst 1, 1) := by decide +kernel
theorem dL_spread_17 : decode cL_spread 17 = .ok (.ireturn, 1) := by decide +kernel
theorem dL_spread_18 : decode cL_spread 18 = .ok (.astore 5, 2) := by decide +kernel
theorem dL_spread_20 : decode cL_spread 20 = .ok (.iconst 2, 1) := by decide +kernel
theorem dL_spread_21 : decode cL_spread 21 = .ok (.ireturn, 1) := by decide +kernel
theorem dL_spread_22 : decode cL_spread 22 = .ok (.astore 5, 2) := by decide +kernel
theorem dL_spread_24 : decode cL_spread 24 = .ok (.iconst 3, 1) := by decide +kernel
theorem dL_spread_25 : decode cL_spread 25 = .ok (.ireturn, 1) := by decide +kernel
theorem dL_spread_26 : decode cL_spread 26 = .ok (.iconst 0, 1) := by decide +kernel
theorem dL_spread_27 : decode cL_spread 27 = .ok (.ireturn, 1) := by decide +kernel
theorem dL_manure_0 : decode cL_manure 0 = .ok (.aload_n 3, 1) := by decide +kernel
theorem dL_manure_1 : decode cL_manure 1 = .ok (.iconst 0, 1) := by decide +kernel
theorem dL_manure_2 : decode cL_manure 2 = .ok (.aload_n 0, 1) := by decide +kernel
theorem dL_manure_3 : decode cL_manure 3 = .ok (.iload_n 1, 1) := by decide +kernel
theorem dL_manure_4 : decode cL_manure 4 = .ok (.iload_n 2, 1) := by decide +kernel
theorem dL_manure_5 : decode cL_manure 5 = .ok (.invokevirtual 65, 3) := by decide +kernel
theorem dL_manure_8 : decode cL_manure 8 = .ok (.lastore, 1) := by decide +kernel
theorem dL_manure_9 : decode cL_manure 9 = .ok (.goto 11, 3) := by decide +kernel
theorem dL_manure_12 : decode cL_manure 12 = .ok (.astore 4, 2) := by decide +kernel
theorem dL_manure_14 : decode cL_manure 14 = .ok (.iconst 1, 1) := by decide +kernel
theorem dL_manure_15 : decode cL_manure 15 = .ok (.ireturn, 1) := by decide +kernel
theorem dL_manure_16 : decode cL_manure 16 = .ok (.astore 4, 2) := by decide +kernel
theorem dL_manure_18 : decode cL_manure 18 = .ok (.iconst 2, 1) := by decide +kernel
theorem dL_manure_19 : decode cL_manure 19 = .ok (.ireturn, 1) := by decide +kernel
theorem dL_manure_20 : decode cL_manure 20 = .ok (.iconst 0, 1) := by decide +kernel
theorem dL_manure_21 : decode cL_manure 21 = .ok (.ireturn, 1) := by decide +kernel
theorem dL_solute_0 : decode cL_solute 0 = .ok (.aload 4, 2) := by decide +kernel
theorem dL_solute_2 : decode cL_solute 2 = .ok (.iconst 0, 1) := by decide +kernel
theorem dL_solute_3 : decode cL_solute 3 = .ok (.aload_n 0, 1) := by decide +kernel
theorem dL_solute_4 : decode cL_solute 4 = .ok (.iload_n 1, 1) := by decide +kernel
theorem dL_solute_5 : decode cL_solute 5 = .ok (.iload_n 2, 1) := by decide +kernel
theorem dL_solute_6 : decode cL_solute 6 = .ok (.iload_n 3, 1) := by decide +kernel
theorem dL_solute_7 : decode cL_solute 7 = .ok (.invokevirtual 69, 3) := by decide +kernel
theorem dL_solute_10 : decode cL_solute 10 = .ok (.lastore, 1) := by decide +kernel
theorem dL_solute_11 : decode cL_solute 11 = .ok (.goto 11, 3) := by decide +kernel
theorem dL_solute_14 : decode cL_solute 14 = .ok (.astore 5, 2) := by decide +kernel
theorem dL_solute_16 : decode cL_solute 16 = .ok (.iconst 1, 1) := by decide +kernel
theorem dL_solute_17 : decode cL_solute 17 = .ok (.ireturn, 1) := by decide +kernel
theorem dL_solute_18 : decode cL_solute 18 = .ok (.astore 5, 2) := by decide +kernel
theorem dL_solute_20 : decode cL_solute 20 = .ok (.iconst 2, 1) := by decide +kernel
theorem dL_solute_21 : decode cL_solute 21 = .ok (.ireturn, 1) := by decide +kernel
theorem dL_solute_22 : decode cL_solute 22 = .ok (.iconst 0, 1) := by decide +kernel
theorem dL_solute_23 : decode cL_solute 23 = .ok (.ireturn, 1) := by decide +kernel
theorem dL_out_0 : decode cL_out 0 = .ok (.aload_n 3, 1) := by decide +kernel
theorem dL_out_1 : decode cL_out 1 = .ok (.iconst 0, 1) := by decide +kernel
theorem dL_out_2 : decode cL_out 2 = .ok (.aload_n 0, 1) := by decide +kernel
theorem dL_out_3 : decode cL_out 3 = .ok (.iload_n 1, 1) := by decide +kernel
theorem dL_out_4 : decode cL_out 4 = .ok (.iload_n 2, 1) := by decide +kernel
theorem dL_out_5 : decode cL_out 5 = .ok (.invokevirtual 73, 3) := by decide +kernel
theorem dL_out_8 : decode cL_out 8 = .ok (.lastore, 1) := by decide +kernel
theorem dL_out_9 : decode cL_out 9 = .ok (.goto 11, 3) := by decide +kernel
theorem dL_out_12 : decode cL_out 12 = .ok (.astore 4, 2) := by decide +kernel
theorem dL_out_14 : decode cL_out 14 = .ok (.iconst 1, 1) := by decide +kernel
theorem dL_out_15 : decode cL_out 15 = .ok (.ireturn, 1) := by decide +kernel
theorem dL_out_16 : decode cL_out 16 = .ok (.astore 4, 2) := by decide +kernel
theorem dL_out_18 : decode cL_out 18 = .ok (.iconst 2, 1) := by decide +kernel
theorem dL_out_19 : decode cL_out 19 = .ok (.ireturn, 1) := by decide +kernel
theorem dL_out_20 : decode cL_out 20 = .ok (.iconst 0, 1) := by decide +kernel
theorem dL_out_21 : decode cL_out 21 = .ok (.ireturn, 1) := by decide +kernel
theorem dL_eaten_0 : decode cL_eaten 0 = .ok (.aload_n 2, 1) := by decide +kernel
theorem dL_eaten_1 : decode cL_eaten 1 = .ok (.iconst 0, 1) := by decide +kernel
theorem dL_eaten_2 : decode cL_eaten 2 = .ok (.aload_n 0, 1) := by decide +kernel
theorem dL_eaten_3 : decode cL_eaten 3 = .ok (.iload_n 1, 1) := by decide +kernel
theorem dL_eaten_4 : decode cL_eaten 4 = .ok (.invokevirtual 77, 3) := by decide +kernel
theorem dL_eaten_7 : decode cL_eaten 7 = .ok (.lastore, 1) := by decide +kernel
theorem dL_eaten_8 : decode cL_eaten 8 = .ok (.goto 6, 3) := by decide +kernel
theorem dL_eaten_11 : decode cL_eaten 11 = .ok (.astore_n 3, 1) := by decide +kernel
theorem dL_eaten_12 : decode cL_eaten 12 = .ok (.iconst 1, 1) := by decide +kernel
theorem dL_eaten_13 : decode cL_eaten 13 = .ok (.ireturn, 1) := by decide +kernel
theorem dL_eaten_14 : decode cL_eaten 14 = .ok (.iconst 0, 1) := by decide +kernel
theorem dL_eaten_15 : decode cL_eaten 15 = .ok (.ireturn, 1) := by decide +kernel
theorem dL_weather_0 : decode cL_weather 0 = .ok (.aload 4, 2) := by decide +kernel
theorem dL_weather_2 : decode cL_weather 2 = .ok (.iconst 0, 1) := by decide +kernel
theorem dL_weather_3 : decode cL_weather 3 = .ok (.aload_n 0, 1) := by decide +kernel
theorem dL_weather_4 : decode cL_weather 4 = .ok (.iload_n 1, 1) := by decide +kernel
theorem dL_weather_5 : decode cL_weather 5 = .ok (.iload_n 2, 1) := by decide +kernel
theorem dL_weather_6 : decode cL_weather 6 = .ok (.iload_n 3, 1) := by decide +kernel
theorem dL_weather_7 : decode cL_weather 7 = .ok (.invokevirtual 81, 3) := by decide +kernel
theorem dL_weather_10 : decode cL_weather 10 = .ok (.i2l, 1) := by decide +kernel
theorem dL_weather_11 : decode cL_weather 11 = .ok (.lastore, 1) := by decide +kernel
theorem dL_weather_12 : decode cL_weather 12 = .ok (.goto 7, 3) := by decide +kernel
theorem dL_weather_15 : decode cL_weather 15 = .ok (.astore 5, 2) := by decide +kernel
theorem dL_weather_17 : decode cL_weather 17 = .ok (.iconst 1, 1) := by decide +kernel
theorem dL_weather_18 : decode cL_weather 18 = .ok (.ireturn, 1) := by decide +kernel
theorem dL_weather_19 : decode cL_weather 19 = .ok (.iconst 0, 1) := by decide +kernel
theorem dL_weather_20 : decode cL_weather 20 = .ok (.ireturn, 1) := by decide +kernel
theorem dL_law_0 : decode cL_law 0 = .ok (.aload_n 3, 1) := by decide +kernel
theorem dL_law_1 : decode cL_law 1 = .ok (.iconst 0, 1) := by decide +kernel
theorem dL_law_2 : decode cL_law 2 = .ok (.aload_n 0, 1) := by decide +kernel
theorem dL_law_3 : decode cL_law 3 = .ok (.iload_n 1, 1) := by decide +kernel
theorem dL_law_4 : decode cL_law 4 = .ok (.iload_n 2, 1) := by decide +kernel
theorem dL_law_5 : decode cL_law 5 = .ok (.invokevirtual 84, 3) := by decide +kernel
theorem dL_law_8 : decode cL_law 8 = .ok (.i2l, 1) := by decide +kernel
theorem dL_law_9 : decode cL_law 9 = .ok (.lastore, 1) := by decide +kernel
theorem dL_law_10 : decode cL_law 10 = .ok (.goto 7, 3) := by decide +kernel
theorem dL_law_13 : decode cL_law 13 = .ok (.astore 4, 2) := by decide +kernel
theorem dL_law_15 : decode cL_law 15 = .ok (.iconst 1, 1) := by decide +kernel
theorem dL_law_16 : decode cL_law 16 = .ok (.ireturn, 1) := by decide +kernel
theorem dL_law_17 : decode cL_law 17 = .ok (.iconst 0, 1) := by decide +kernel
theorem dL_law_18 : decode cL_law 18 = .ok (.ireturn, 1) := by decide +kernel
theorem dL_hours_0 : decode cL_hours 0 = .ok (.aload_n 2, 1) := by decide +kernel
theorem dL_hours_1 : decode cL_hours 1 = .ok (.iconst 0, 1) := by decide +kernel
theorem dL_hours_2 : decode cL_hours 2 = .ok (.aload_n 0, 1) := by decide +kernel
theorem dL_hours_3 : decode cL_hours 3 = .ok (.iload_n 1, 1) := by decide +kernel
theorem dL_hours_4 : decode cL_hours 4 = .ok (.invokevirtual 87, 3) := by decide +kernel
theorem dL_hours_7 : decode cL_hours 7 = .ok (.i2l, 1) := by decide +kernel
theorem dL_hours_8 : decode cL_hours 8 = .ok (.lastore, 1) := by decide +kernel
theorem dL_hours_9 : decode cL_hours 9 = .ok (.goto 6, 3) := by decide +kernel
theorem dL_hours_12 : decode cL_hours 12 = .ok (.astore_n 3, 1) := by decide +kernel
theorem dL_hours_13 : decode cL_hours 13 = .ok (.iconst 1, 1) := by decide +kernel
theorem dL_hours_14 : decode cL_hours 14 = .ok (.ireturn, 1) := by decide +kernel
theorem dL_hours_15 : decode cL_hours 15 = .ok (.iconst 0, 1) := by decide +kernel
theorem dL_hours_16 : decode cL_hours 16 = .ok (.ireturn, 1) := by decide +kernel
theorem dL_standing_0 : decode cL_standing 0 = .ok (.aload_n 2, 1) := by decide +kernel
theorem dL_standing_1 : decode cL_standing 1 = .ok (.iconst 0, 1) := by decide +kernel
theorem dL_standing_2 : decode cL_standing 2 = .ok (.aload_n 0, 1) := by decide +kernel
theorem dL_standing_3 : decode cL_standing 3 = .ok (.iload_n 1, 1) := by decide +kernel
theorem dL_standing_4 : decode cL_standing 4 = .ok (.invokevirtual 90, 3) := by decide +kernel
theorem dL_standing_7 : decode cL_standing 7 = .ok (.i2l, 1) := by decide +kernel
theorem dL_standing_8 : decode cL_standing 8 = .ok (.lastore, 1) := by decide +kernel
theorem dL_standing_9 : decode cL_standing 9 = .ok (.goto 6, 3) := by decide +kernel
theorem dL_standing_12 : decode cL_standing 12 = .ok (.astore_n 3, 1) := by decide +kernel
theorem dL_standing_13 : decode cL_standing 13 = .ok (.iconst 1, 1) := by decide +kernel
theorem dL_standing_14 : decode cL_standing 14 = .ok (.ireturn, 1) := by decide +kernel
theorem dL_standing_15 : decode cL_standing 15 = .ok (.iconst 0, 1) := by decide +kernel
theorem dL_standing_16 : decode cL_standing 16 = .ok (.ireturn, 1) := by decide +kernel
theorem dL_recharge_0 : decode cL_recharge 0 = .ok (.aload_n 2, 1) := by decide +kernel
theorem dL_recharge_1 : decode cL_recharge 1 = .ok (.iconst 0, 1) := by decide +kernel
theorem dL_recharge_2 : decode cL_recharge 2 = .ok (.aload_n 0, 1) := by decide +kernel
theorem dL_recharge_3 : decode cL_recharge 3 = .ok (.iload_n 1, 1) := by decide +kernel
theorem dL_recharge_4 : decode cL_recharge 4 = .ok (.invokevirtual 93, 3) := by decide +kernel
theorem dL_recharge_7 : decode cL_recharge 7 = .ok (.lastore, 1) := by decide +kernel
theorem dL_recharge_8 : decode cL_recharge 8 = .ok (.goto 6, 3) := by decide +kernel
theorem dL_recharge_11 : decode cL_recharge 11 = .ok (.astore_n 3, 1) := by decide +kernel
theorem dL_recharge_12 : decode cL_recharge 12 = .ok (.iconst 1, 1) := by decide +kernel
theorem dL_recharge_13 : decode cL_recharge 13 = .ok (.ireturn, 1) := by decide +kernel
theorem dL_recharge_14 : decode cL_recharge 14 = .ok (.iconst 0, 1) := by decide +kernel
theorem dL_recharge_15 : decode cL_recharge 15 = .ok (.ireturn, 1) := by decide +kernel
theorem dL_runoff_0 : decode cL_runoff 0 = .ok (.aload_n 2, 1) := by decide +kernel
theorem dL_runoff_1 : decode cL_runoff 1 = .ok (.iconst 0, 1) := by decide +kernel
theorem dL_runoff_2 : decode cL_runoff 2 = .ok (.aload_n 0, 1) := by decide +kernel
theorem dL_runoff_3 : decode cL_runoff 3 = .ok (.iload_n 1, 1) := by decide +kernel
theorem dL_runoff_4 : decode cL_runoff 4 = .ok (.invokevirtual 96, 3) := by decide +kernel
theorem dL_runoff_7 : decode cL_runoff 7 = .ok (.lastore, 1) := by decide +kernel
theorem dL_runoff_8 : decode cL_runoff 8 = .ok (.goto 6, 3) := by decide +kernel
theorem dL_runoff_11 : decode cL_runoff 11 = .ok (.astore_n 3, 1) := by decide +kernel
theorem dL_runoff_12 : decode cL_runoff 12 = .ok (.iconst 1, 1) := by decide +kernel
theorem dL_runoff_13 : decode cL_runoff 13 = .ok (.ireturn, 1) := by decide +kernel
theorem dL_runoff_14 : decode cL_runoff 14 = .ok (.iconst 0, 1) := by decide +kernel
theorem dL_runoff_15 : decode cL_runoff 15 = .ok (.ireturn, 1) := by decide +kernel
theorem dL_vapour_0 : decode cL_vapour 0 = .ok (.aload_n 2, 1) := by decide +kernel
theorem dL_vapour_1 : decode cL_vapour 1 = .ok (.iconst 0, 1) := by decide +kernel
theorem dL_vapour_2 : decode cL_vapour 2 = .ok (.aload_n 0, 1) := by decide +kernel
theorem dL_vapour_3 : decode cL_vapour 3 = .ok (.iload_n 1, 1) := by decide +kernel
theorem dL_vapour_4 : decode cL_vapour 4 = .ok (.invokevirtual 99, 3) := by decide +kernel
theorem dL_vapour_7 : decode cL_vapour 7 = .ok (.lastore, 1) := by decide +kernel
theorem dL_vapour_8 : decode cL_vapour 8 = .ok (.goto 6, 3) := by decide +kernel
theorem dL_vapour_11 : decode cL_vapour 11 = .ok (.astore_n 3, 1) := by decide +kernel
theorem dL_vapour_12 : decode cL_vapour 12 = .ok (.iconst 1, 1) := by decide +kernel
theorem dL_vapour_13 : decode cL_vapour 13 = .ok (.ireturn, 1) := by decide +kernel
theorem dL_vapour_14 : decode cL_vapour 14 = .ok (.iconst 0, 1) := by decide +kernel
theorem dL_vapour_15 : decode cL_vapour 15 = .ok (.ireturn, 1) := by decide +kernel
theorem dL_isFrozen_0 : decode cL_isFrozen 0 = .ok (.aload_n 3, 1) := by decide +kernel
theorem dL_isFrozen_1 : decode cL_isFrozen 1 = .ok (.iconst 0, 1) := by decide +kernel
theorem dL_isFrozen_2 : decode cL_isFrozen 2 = .ok (.aload_n 0, 1) := by decide +kernel
theorem dL_isFrozen_3 : decode cL_isFrozen 3 = .ok (.iload_n 1, 1) := by decide +kernel
theorem dL_isFrozen_4 : decode cL_isFrozen 4 = .ok (.iload_n 2, 1) := by decide +kernel
theorem dL_isFrozen_5 : decode cL_isFrozen 5 = .ok (.invokevirtual 102, 3) := by decide +kernel
theorem dL_isFrozen_8 : decode cL_isFrozen 8 = .ok (.ifCond .eq 7, 3) := by decide +kernel
theorem dL_isFrozen_11 : decode cL_isFrozen 11 = .ok (.lconst 1, 1) := by decide +kernel
theorem dL_isFrozen_12 : decode cL_isFrozen 12 = .ok (.goto 4, 3) := by decide +kernel
theorem dL_isFrozen_15 : decode cL_isFrozen 15 = .ok (.lconst 0, 1) := by decide +kernel
theorem dL_isFrozen_16 : decode cL_isFrozen 16 = .ok (.lastore, 1) := by decide +kernel
theorem dL_isFrozen_17 : decode cL_isFrozen 17 = .ok (.goto 7, 3) := by decide +kernel
theorem dL_isFrozen_20 : decode cL_isFrozen 20 = .ok (.astore 4, 2) := by decide +kernel
theorem dL_isFrozen_22 : decode cL_isFrozen 22 = .ok (.iconst 1, 1) := by decide +kernel
theorem dL_isFrozen_23 : decode cL_isFrozen 23 = .ok (.ireturn, 1) := by decide +kernel
theorem dL_isFrozen_24 : decode cL_isFrozen 24 = .ok (.iconst 0, 1) := by decide +kernel
theorem dL_isFrozen_25 : decode cL_isFrozen 25 = .ok (.ireturn, 1) := by decide +kernel
theorem dL_frost_0 : decode cL_frost 0 = .ok (.aload_n 3, 1) := by decide +kernel
theorem dL_frost_1 : decode cL_frost 1 = .ok (.iconst 0, 1) := by decide +kernel
theorem dL_frost_2 : decode cL_frost 2 = .ok (.aload_n 0, 1) := by decide +kernel
theorem dL_frost_3 : decode cL_frost 3 = .ok (.iload_n 1, 1) := by decide +kernel
theorem dL_frost_4 : decode cL_frost 4 = .ok (.iload_n 2, 1) := by decide +kernel
theorem dL_frost_5 : decode cL_frost 5 = .ok (.invokevirtual 106, 3) := by decide +kernel
theorem dL_frost_8 : decode cL_frost 8 = .ok (.i2l, 1) := by decide +kernel
theorem dL_frost_9 : decode cL_frost 9 = .ok (.lastore, 1) := by decide +kernel
theorem dL_frost_10 : decode cL_frost 10 = .ok (.goto 7, 3) := by decide +kernel
theorem dL_frost_13 : decode cL_frost 13 = .ok (.astore 4, 2) := by decide +kernel
theorem dL_frost_15 : decode cL_frost 15 = .ok (.iconst 1, 1) := by decide +kernel
theorem dL_frost_16 : decode cL_frost 16 = .ok (.ireturn, 1) := by decide +kernel
theorem dL_frost_17 : decode cL_frost 17 = .ok (.iconst 0, 1) := by decide +kernel
theorem dL_frost_18 : decode cL_frost 18 = .ok (.ireturn, 1) := by decide +kernel
theorem dL_heave_0 : decode cL_heave 0 = .ok (.aload_n 2, 1) := by decide +kernel
theorem dL_heave_1 : decode cL_heave 1 = .ok (.iconst 0, 1) := by decide +kernel
theorem dL_heave_2 : decode cL_heave 2 = .ok (.aload_n 0, 1) := by decide +kernel
theorem dL_heave_3 : decode cL_heave 3 = .ok (.iload_n 1, 1) := by decide +kernel
theorem dL_heave_4 : decode cL_heave 4 = .ok (.invokevirtual 109, 3) := by decide +kernel
theorem dL_heave_7 : decode cL_heave 7 = .ok (.i2l, 1) := by decide +kernel
theorem dL_heave_8 : decode cL_heave 8 = .ok (.lastore, 1) := by decide +kernel
theorem dL_heave_9 : decode cL_heave 9 = .ok (.goto 6, 3) := by decide +kernel
theorem dL_heave_12 : decode cL_heave 12 = .ok (.astore_n 3, 1) := by decide +kernel
theorem dL_heave_13 : decode cL_heave 13 = .ok (.iconst 1, 1) := by decide +kernel
theorem dL_heave_14 : decode cL_heave 14 = .ok (.ireturn, 1) := by decide +kernel
theorem dL_heave_15 : decode cL_heave 15 = .ok (.iconst 0, 1) := by decide +kernel
theorem dL_heave_16 : decode cL_heave 16 = .ok (.ireturn, 1) := by decide +kernel
theorem dL_crack_0 : decode cL_crack 0 = .ok (.aload_n 2, 1) := by decide +kernel
theorem dL_crack_1 : decode cL_crack 1 = .ok (.iconst 0, 1) := by decide +kernel
theorem dL_crack_2 : decode cL_crack 2 = .ok (.aload_n 0, 1) := by decide +kernel
theorem dL_crack_3 : decode cL_crack 3 = .ok (.iload_n 1, 1) := by decide +kernel
theorem dL_crack_4 : decode cL_crack 4 = .ok (.invokevirtual 112, 3) := by decide +kernel
theorem dL_crack_7 : decode cL_crack 7 = .ok (.i2l, 1) := by decide +kernel
theorem dL_crack_8 : decode cL_crack 8 = .ok (.lastore, 1) := by decide +kernel
theorem dL_crack_9 : decode cL_crack 9 = .ok (.goto 6, 3) := by decide +kernel
theorem dL_crack_12 : decode cL_crack 12 = .ok (.astore_n 3, 1) := by decide +kernel
theorem dL_crack_13 : decode cL_crack 13 = .ok (.iconst 1, 1) := by decide +kernel
theorem dL_crack_14 : decode cL_crack 14 = .ok (.ireturn, 1) := by decide +kernel
theorem dL_crack_15 : decode cL_crack 15 = .ok (.iconst 0, 1) := by decide +kernel
theorem dL_crack_16 : decode cL_crack 16 = .ok (.ireturn, 1) := by decide +kernel
theorem dL_tension_0 : decode cL_tension 0 = .ok (.aload_n 3, 1) := by decide +kernel
theorem dL_tension_1 : decode cL_tension 1 = .ok (.iconst 0, 1) := by decide +kernel
theorem dL_tension_2 : decode cL_tension 2 = .ok (.aload_n 0, 1) := by decide +kernel
theorem dL_tension_3 : decode cL_tension 3 = .ok (.iload_n 1, 1) := by decide +kernel
theorem dL_tension_4 : decode cL_tension 4 = .ok (.iload_n 2, 1) := by decide +kernel
theorem dL_tension_5 : decode cL_tension 5 = .ok (.invokevirtual 115, 3) := by decide +kernel
theorem dL_tension_8 : decode cL_tension 8 = .ok (.i2l, 1) := by decide +kernel
theorem dL_tension_9 : decode cL_tension 9 = .ok (.lastore, 1) := by decide +kernel
theorem dL_tension_10 : decode cL_tension 10 = .ok (.goto 11, 3) := by decide +kernel
theorem dL_tension_13 : decode cL_tension 13 = .ok (.astore 4, 2) := by decide +kernel
theorem dL_tension_15 : decode cL_tension 15 = .ok (.iconst 1, 1) := by decide +kernel
theorem dL_tension_16 : decode cL_tension 16 = .ok (.ireturn, 1) := by decide +kernel
theorem dL_tension_17 : decode cL_tension 17 = .ok (.astore 4, 2) := by decide +kernel
theorem dL_tension_19 : decode cL_tension 19 = .ok (.iconst 2, 1) := by decide +kernel
theorem dL_tension_20 : decode cL_tension 20 = .ok (.ireturn, 1) := by decide +kernel
theorem dL_tension_21 : decode cL_tension 21 = .ok (.iconst 0, 1) := by decide +kernel
theorem dL_tension_22 : decode cL_tension 22 = .ok (.ireturn, 1) := by decide +kernel
theorem dL_reflection_0 : decode cL_reflection 0 = .ok (.aload_n 3, 1) := by decide +kernel
theorem dL_reflection_1 : decode cL_reflection 1 = .ok (.iconst 0, 1) := by decide +kernel
theorem dL_reflection_2 : decode cL_reflection 2 = .ok (.aload_n 0, 1) := by decide +kernel
theorem dL_reflection_3 : decode cL_reflection 3 = .ok (.iload_n 1, 1) := by decide +kernel
theorem dL_reflection_4 : decode cL_reflection 4 = .ok (.iload_n 2, 1) := by decide +kernel
theorem dL_reflection_5 : decode cL_reflection 5 = .ok (.invokevirtual 118, 3) := by decide +kernel
theorem dL_reflection_8 : decode cL_reflection 8 = .ok (.i2l, 1) := by decide +kernel
theorem dL_reflection_9 : decode cL_reflection 9 = .ok (.lastore, 1) := by decide +kernel
theorem dL_reflection_10 : decode cL_reflection 10 = .ok (.goto 11, 3) := by decide +kernel
theorem dL_reflection_13 : decode cL_reflection 13 = .ok (.astore 4, 2) := by decide +kernel
theorem dL_reflection_15 : decode cL_reflection 15 = .ok (.iconst 1, 1) := by decide +kernel
theorem dL_reflection_16 : decode cL_reflection 16 = .ok (.ireturn, 1) := by decide +kernel
theorem dL_reflection_17 : decode cL_reflection 17 = .ok (.astore 4, 2) := by decide +kernel
theorem dL_reflection_19 : decode cL_reflection 19 = .ok (.iconst 2, 1) := by decide +kernel
theorem dL_reflection_20 : decode cL_reflection 20 = .ok (.ireturn, 1) := by decide +kernel
theorem dL_reflection_21 : decode cL_reflection 21 = .ok (.iconst 0, 1) := by decide +kernel
theorem dL_reflection_22 : decode cL_reflection 22 = .ok (.ireturn, 1) := by decide +kernel
theorem dL_setRight_0 : decode cL_setRight 0 = .ok (.aload_n 2, 1) := by decide +kernel
theorem dL_setRight_1 : decode cL_setRight 1 = .ok (.iconst 0, 1) := by decide +kernel
theorem dL_setRight_2 : decode cL_setRight 2 = .ok (.aload_n 0, 1) := by decide +kernel
theorem dL_setRight_3 : decode cL_setRight 3 = .ok (.iload_n 1, 1) := by decide +kernel
theorem dL_setRight_4 : decode cL_setRight 4 = .ok (.invokevirtual 121, 3) := by decide +kernel
theorem dL_setRight_7 : decode cL_setRight 7 = .ok (.i2l, 1) := by decide +kernel
theorem dL_setRight_8 : decode cL_setRight 8 = .ok (.lastore, 1) := by decide +kernel
theorem dL_setRight_9 : decode cL_setRight 9 = .ok (.goto 6, 3) := by decide +kernel
theorem dL_setRight_12 : decode cL_setRight 12 = .ok (.astore_n 3, 1) := by decide +kernel
theorem dL_setRight_13 : decode cL_setRight 13 = .ok (.iconst 1, 1) := by decide +kernel
theorem dL_setRight_14 : decode cL_setRight 14 = .ok (.ireturn, 1) := by decide +kernel
theorem dL_setRight_15 : decode cL_setRight 15 = .ok (.iconst 0, 1) := by decide +kernel
theorem dL_setRight_16 : decode cL_setRight 16 = .ok (.ireturn, 1) := by decide +kernel
theorem dL_weigh_0 : decode cL_weigh 0 = .ok (.aload_n 2, 1) := by decide +kernel
theorem dL_weigh_1 : decode cL_weigh 1 = .ok (.iconst 0, 1) := by decide +kernel
theorem dL_weigh_2 : decode cL_weigh 2 = .ok (.aload_n 0, 1) := by decide +kernel
theorem dL_weigh_3 : decode cL_weigh 3 = .ok (.iload_n 1, 1) := by decide +kernel
theorem dL_weigh_4 : decode cL_weigh 4 = .ok (.invokevirtual 124, 3) := by decide +kernel
theorem dL_weigh_7 : decode cL_weigh 7 = .ok (.i2l, 1) := by decide +kernel
theorem dL_weigh_8 : decode cL_weigh 8 = .ok (.lastore, 1) := by decide +kernel
theorem dL_weigh_9 : decode cL_weigh 9 = .ok (.goto 6, 3) := by decide +kernel
theorem dL_weigh_12 : decode cL_weigh 12 = .ok (.astore_n 3, 1) := by decide +kernel
theorem dL_weigh_13 : decode cL_weigh 13 = .ok (.iconst 1, 1) := by decide +kernel
theorem dL_weigh_14 : decode cL_weigh 14 = .ok (.ireturn, 1) := by decide +kernel
theorem dL_weigh_15 : decode cL_weigh 15 = .ok (.iconst 0, 1) := by decide +kernel
theorem dL_weigh_16 : decode cL_weigh 16 = .ok (.ireturn, 1) := by decide +kernel
theorem dL_fines_0 : decode cL_fines 0 = .ok (.aload_n 2, 1) := by decide +kernel
theorem dL_fines_1 : decode cL_fines 1 = .ok (.iconst 0, 1) := by decide +kernel
theorem dL_fines_2 : decode cL_fines 2 = .ok (.aload_n 0, 1) := by decide +kernel
theorem dL_fines_3 : decode cL_fines 3 = .ok (.iload_n 1, 1) := by decide +kernel
theorem dL_fines_4 : decode cL_fines 4 = .ok (.invokevirtual 127, 3) := by decide +kernel
theorem dL_fines_7 : decode cL_fines 7 = .ok (.lastore, 1) := by decide +kernel
theorem dL_fines_8 : decode cL_fines 8 = .ok (.goto 6, 3) := by decide +kernel
theorem dL_fines_11 : decode cL_fines 11 = .ok (.astore_n 3, 1) := by decide +kernel
theorem dL_fines_12 : decode cL_fines 12 = .ok (.iconst 1, 1) := by decide +kernel
theorem dL_fines_13 : decode cL_fines 13 = .ok (.ireturn, 1) := by decide +kernel
theorem dL_fines_14 : decode cL_fines 14 = .ok (.iconst 0, 1) := by decide +kernel
theorem dL_fines_15 : decode cL_fines 15 = .ok (.ireturn, 1) := by decide +kernel
theorem dL_forecast_0 : decode cL_forecast 0 = .ok (.aload 4, 2) := by decide +kernel
theorem dL_forecast_2 : decode cL_forecast 2 = .ok (.iconst 0, 1) := by decide +kernel
theorem dL_forecast_3 : decode cL_forecast 3 = .ok (.aload_n 0, 1) := by decide +kernel
theorem dL_forecast_4 : decode cL_forecast 4 = .ok (.iload_n 1, 1) := by decide +kernel
theorem dL_forecast_5 : decode cL_forecast 5 = .ok (.iload_n 2, 1) := by decide +kernel
theorem dL_forecast_6 : decode cL_forecast 6 = .ok (.iload_n 3, 1) := by decide +kernel
theorem dL_forecast_7 : decode cL_forecast 7 = .ok (.invokevirtual 130, 3) := by decide +kernel
theorem dL_forecast_10 : decode cL_forecast 10 = .ok (.lastore, 1) := by decide +kernel
theorem dL_forecast_11 : decode cL_forecast 11 = .ok (.goto 11, 3) := by decide +kernel
theorem dL_forecast_14 : decode cL_forecast 14 = .ok (.astore 5, 2) := by decide +kernel
theorem dL_forecast_16 : decode cL_forecast 16 = .ok (.iconst 1, 1) := by decide +kernel
theorem dL_forecast_17 : decode cL_forecast 17 = .ok (.ireturn, 1) := by decide +kernel
theorem dL_forecast_18 : decode cL_forecast 18 = .ok (.astore 5, 2) := by decide +kernel
theorem dL_forecast_20 : decode cL_forecast 20 = .ok (.iconst 2, 1) := by decide +kernel
theorem dL_forecast_21 : decode cL_forecast 21 = .ok (.ireturn, 1) := by decide +kernel
theorem dL_forecast_22 : decode cL_forecast 22 = .ok (.iconst 0, 1) := by decide +kernel
theorem dL_forecast_23 : decode cL_forecast 23 = .ok (.ireturn, 1) := by decide +kernel
theorem dL_fits_0 : decode cL_fits 0 = .ok (.aload 4, 2) := by decide +kernel
theorem dL_fits_2 : decode cL_fits 2 = .ok (.iconst 0, 1) := by decide +kernel
theorem dL_fits_3 : decode cL_fits 3 = .ok (.aload_n 0, 1) := by decide +kernel
theorem dL_fits_4 : decode cL_fits 4 = .ok (.iload_n 1, 1) := by decide +kernel
theorem dL_fits_5 : decode cL_fits 5 = .ok (.iload_n 2, 1) := by decide +kernel
theorem dL_fits_6 : decode cL_fits 6 = .ok (.iload_n 3, 1) := by decide +kernel
theorem dL_fits_7 : decode cL_fits 7 = .ok (.invokevirtual 134, 3) := by decide +kernel
theorem dL_fits_10 : decode cL_fits 10 = .ok (.i2l, 1) := by decide +kernel
theorem dL_fits_11 : decode cL_fits 11 = .ok (.lastore, 1) := by decide +kernel
theorem dL_fits_12 : decode cL_fits 12 = .ok (.goto 11, 3) := by decide +kernel
theorem dL_fits_15 : decode cL_fits 15 = .ok (.astore 5, 2) := by decide +kernel
theorem dL_fits_17 : decode cL_fits 17 = .ok (.iconst 1, 1) := by decide +kernel
theorem dL_fits_18 : decode cL_fits 18 = .ok (.ireturn, 1) := by decide +kernel
theorem dL_fits_19 : decode cL_fits 19 = .ok (.astore 5, 2) := by decide +kernel
theorem dL_fits_21 : decode cL_fits 21 = .ok (.iconst 2, 1) := by decide +kernel
theorem dL_fits_22 : decode cL_fits 22 = .ok (.ireturn, 1) := by decide +kernel
theorem dL_fits_23 : decode cL_fits 23 = .ok (.iconst 0, 1) := by decide +kernel
theorem dL_fits_24 : decode cL_fits 24 = .ok (.ireturn, 1) := by decide +kernel
theorem dL_fit_0 : decode cL_fit 0 = .ok (.aload 5, 2) := by decide +kernel
theorem dL_fit_2 : decode cL_fit 2 = .ok (.iconst 0, 1) := by decide +kernel
theorem dL_fit_3 : decode cL_fit 3 = .ok (.aload_n 0, 1) := by decide +kernel
theorem dL_fit_4 : decode cL_fit 4 = .ok (.iload_n 1, 1) := by decide +kernel
theorem dL_fit_5 : decode cL_fit 5 = .ok (.iload_n 2, 1) := by decide +kernel
theorem dL_fit_6 : decode cL_fit 6 = .ok (.iload_n 3, 1) := by decide +kernel
theorem dL_fit_7 : decode cL_fit 7 = .ok (.iload 4, 2) := by decide +kernel
theorem dL_fit_9 : decode cL_fit 9 = .ok (.invokevirtual 137, 3) := by decide +kernel
theorem dL_fit_12 : decode cL_fit 12 = .ok (.i2l, 1) := by decide +kernel
theorem dL_fit_13 : decode cL_fit 13 = .ok (.lastore, 1) := by decide +kernel
theorem dL_fit_14 : decode cL_fit 14 = .ok (.goto 15, 3) := by decide +kernel
theorem dL_fit_17 : decode cL_fit 17 = .ok (.astore 6, 2) := by decide +kernel
theorem dL_fit_19 : decode cL_fit 19 = .ok (.iconst 1, 1) := by decide +kernel
theorem dL_fit_20 : decode cL_fit 20 = .ok (.ireturn, 1) := by decide +kernel
theorem dL_fit_21 : decode cL_fit 21 = .ok (.astore 6, 2) := by decide +kernel
theorem dL_fit_23 : decode cL_fit 23 = .ok (.iconst 2, 1) := by decide +kernel
theorem dL_fit_24 : decode cL_fit 24 = .ok (.ireturn, 1) := by decide +kernel
theorem dL_fit_25 : decode cL_fit 25 = .ok (.astore 6, 2) := by decide +kernel
theorem dL_fit_27 : decode cL_fit 27 = .ok (.iconst 3, 1) := by decide +kernel
theorem dL_fit_28 : decode cL_fit 28 = .ok (.ireturn, 1) := by decide +kernel
theorem dL_fit_29 : decode cL_fit 29 = .ok (.iconst 0, 1) := by decide +kernel
theorem dL_fit_30 : decode cL_fit 30 = .ok (.ireturn, 1) := by decide +kernel
theorem dL_frozenShare_0 : decode cL_frozenShare 0 = .ok (.aload_n 1, 1) := by decide +kernel
theorem dL_frozenShare_1 : decode cL_frozenShare 1 = .ok (.iconst 0, 1) := by decide +kernel
theorem dL_frozenShare_2 : decode cL_frozenShare 2 = .ok (.aload_n 0, 1) := by decide +kernel
theorem dL_frozenShare_3 : decode cL_frozenShare 3 = .ok (.invokevirtual 141, 3) := by decide +kernel
theorem dL_frozenShare_6 : decode cL_frozenShare 6 = .ok (.f2d, 1) := by decide +kernel
theorem dL_frozenShare_7 : decode cL_frozenShare 7 = .ok (.dastore, 1) := by decide +kernel
theorem dL_frozenShare_8 : decode cL_frozenShare 8 = .ok (.goto 6, 3) := by decide +kernel
theorem dL_frozenShare_11 : decode cL_frozenShare 11 = .ok (.astore_n 2, 1) := by decide +kernel
theorem dL_frozenShare_12 : decode cL_frozenShare 12 = .ok (.iconst 1, 1) := by decide +kernel
theorem dL_frozenShare_13 : decode cL_frozenShare 13 = .ok (.ireturn, 1) := by decide +kernel
theorem dL_frozenShare_14 : decode cL_frozenShare 14 = .ok (.iconst 0, 1) := by decide +kernel
theorem dL_frozenShare_15 : decode cL_frozenShare 15 = .ok (.ireturn, 1) := by decide +kernel
theorem dL_meanWater_0 : decode cL_meanWater 0 = .ok (.aload_n 1, 1) := by decide +kernel
theorem dL_meanWater_1 : decode cL_meanWater 1 = .ok (.iconst 0, 1) := by decide +kernel
theorem dL_meanWater_2 : decode cL_meanWater 2 = .ok (.aload_n 0, 1) := by decide +kernel
theorem dL_meanWater_3 : decode cL_meanWater 3 = .ok (.invokevirtual 147, 3) := by decide +kernel
theorem dL_meanWater_6 : decode cL_meanWater 6 = .ok (.dastore, 1) := by decide +kernel
theorem dL_meanWater_7 : decode cL_meanWater 7 = .ok (.goto 6, 3) := by decide +kernel
theorem dL_meanWater_10 : decode cL_meanWater 10 = .ok (.astore_n 2, 1) := by decide +kernel
theorem dL_meanWater_11 : decode cL_meanWater 11 = .ok (.iconst 1, 1) := by decide +kernel
theorem dL_meanWater_12 : decode cL_meanWater 12 = .ok (.ireturn, 1) := by decide +kernel
theorem dL_meanWater_13 : decode cL_meanWater 13 = .ok (.iconst 0, 1) := by decide +kernel
theorem dL_meanWater_14 : decode cL_meanWater 14 = .ok (.ireturn, 1) := by decide +kernel
