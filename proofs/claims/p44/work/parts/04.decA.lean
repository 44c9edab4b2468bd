theorem dX0_init_0 : decode cX0_init 0 = .ok (.aload_n 0, 1) := by decide +kernel
theorem dX0_init_1 : decode cX0_init 1 = .ok (.invokespecial 1, 3) := by decide +kernel
theorem dX0_init_4 : decode cX0_init 4 = .ok (.aload_n 0, 1) := by decide +kernel
theorem dX0_init_5 : decode cX0_init 5 = .ok (.new 7, 3) := by decide +kernel
theorem dX0_init_8 : decode cX0_init 8 = .ok (.dup, 1) := by decide +kernel
theorem dX0_init_9 : decode cX0_init 9 = .ok (.invokespecial 9, 3) := by decide +kernel
theorem dX0_init_12 : decode cX0_init 12 = .ok (.putfield 10, 3) := by decide +kernel
theorem dX0_init_15 : decode cX0_init 15 = .ok (.aload_n 0, 1) := by decide +kernel
theorem dX0_init_16 : decode cX0_init 16 = .ok (.new 7, 3) := by decide +kernel
theorem dX0_init_19 : decode cX0_init 19 = .ok (.dup, 1) := by decide +kernel
theorem dX0_init_20 : decode cX0_init 20 = .ok (.invokespecial 9, 3) := by decide +kernel
theorem dX0_init_23 : decode cX0_init 23 = .ok (.putfield 16, 3) := by decide +kernel
theorem dX0_init_26 : decode cX0_init 26 = .ok (.aload_n 0, 1) := by decide +kernel
theorem dX0_init_27 : decode cX0_init 27 = .ok (.lconst 0, 1) := by decide +kernel
theorem dX0_init_28 : decode cX0_init 28 = .ok (.putfield 19, 3) := by decide +kernel
theorem dX0_init_31 : decode cX0_init 31 = .ok (.aload_n 0, 1) := by decide +kernel
theorem dX0_init_32 : decode cX0_init 32 = .ok (.lconst 0, 1) := by decide +kernel
theorem dX0_init_33 : decode cX0_init 33 = .ok (.putfield 23, 3) := by decide +kernel
theorem dX0_init_36 : decode cX0_init 36 = .ok (.aload_n 0, 1) := by decide +kernel
theorem dX0_init_37 : decode cX0_init 37 = .ok (.lconst 0, 1) := by decide +kernel
theorem dX0_init_38 : decode cX0_init 38 = .ok (.putfield 26, 3) := by decide +kernel
theorem dX0_init_41 : decode cX0_init 41 = .ok (.aload_n 0, 1) := by decide +kernel
theorem dX0_init_42 : decode cX0_init 42 = .ok (.lconst 0, 1) := by decide +kernel
theorem dX0_init_43 : decode cX0_init 43 = .ok (.putfield 29, 3) := by decide +kernel
theorem dX0_init_46 : decode cX0_init 46 = .ok (.aload_n 0, 1) := by decide +kernel
theorem dX0_init_47 : decode cX0_init 47 = .ok (.lconst 0, 1) := by decide +kernel
theorem dX0_init_48 : decode cX0_init 48 = .ok (.putfield 32, 3) := by decide +kernel
theorem dX0_init_51 : decode cX0_init 51 = .ok (.aload_n 0, 1) := by decide +kernel
theorem dX0_init_52 : decode cX0_init 52 = .ok (.lconst 0, 1) := by decide +kernel
theorem dX0_init_53 : decode cX0_init 53 = .ok (.putfield 35, 3) := by decide +kernel
theorem dX0_init_56 : decode cX0_init 56 = .ok (.aload_n 0, 1) := by decide +kernel
theorem dX0_init_57 : decode cX0_init 57 = .ok (.lconst 0, 1) := by decide +kernel
theorem dX0_init_58 : decode cX0_init 58 = .ok (.putfield 38, 3) := by decide +kernel
theorem dX0_init_61 : decode cX0_init 61 = .ok (.aload_n 0, 1) := by decide +kernel
theorem dX0_init_62 : decode cX0_init 62 = .ok (.lconst 0, 1) := by decide +kernel
theorem dX0_init_63 : decode cX0_init 63 = .ok (.putfield 41, 3) := by decide +kernel
theorem dX0_init_66 : decode cX0_init 66 = .ok (.aload_n 0, 1) := by decide +kernel
theorem dX0_init_67 : decode cX0_init 67 = .ok (.lconst 0, 1) := by decide +kernel
theorem dX0_init_68 : decode cX0_init 68 = .ok (.putfield 44, 3) := by decide +kernel
theorem dX0_init_71 : decode cX0_init 71 = .ok (.return_, 1) := by decide +kernel
theorem dX1_init_0 : decode cX1_init 0 = .ok (.aload_n 0, 1) := by decide +kernel
theorem dX1_init_1 : decode cX1_init 1 = .ok (.invokespecial 3, 3) := by decide +kernel
theorem dX1_init_4 : decode cX1_init 4 = .ok (.aload_n 0, 1) := by decide +kernel
theorem dX1_init_5 : decode cX1_init 5 = .ok (.new 9, 3) := by decide +kernel
theorem dX1_init_8 : decode cX1_init 8 = .ok (.dup, 1) := by decide +kernel
theorem dX1_init_9 : decode cX1_init 9 = .ok (.invokespecial 11, 3) := by decide +kernel
theorem dX1_init_12 : decode cX1_init 12 = .ok (.putfield 12, 3) := by decide +kernel
theorem dX1_init_15 : decode cX1_init 15 = .ok (.aload_n 0, 1) := by decide +kernel
theorem dX1_init_16 : decode cX1_init 16 = .ok (.new 9, 3) := by decide +kernel
theorem dX1_init_19 : decode cX1_init 19 = .ok (.dup, 1) := by decide +kernel
theorem dX1_init_20 : decode cX1_init 20 = .ok (.invokespecial 11, 3) := by decide +kernel
theorem dX1_init_23 : decode cX1_init 23 = .ok (.putfield 18, 3) := by decide +kernel
theorem dX1_init_26 : decode cX1_init 26 = .ok (.aload_n 0, 1) := by decide +kernel
theorem dX1_init_27 : decode cX1_init 27 = .ok (.new 21, 3) := by decide +kernel
theorem dX1_init_30 : decode cX1_init 30 = .ok (.dup, 1) := by decide +kernel
theorem dX1_init_31 : decode cX1_init 31 = .ok (.invokespecial 23, 3) := by decide +kernel
theorem dX1_init_34 : decode cX1_init 34 = .ok (.putfield 24, 3) := by decide +kernel
theorem dX1_init_37 : decode cX1_init 37 = .ok (.aload_n 0, 1) := by decide +kernel
theorem dX1_init_38 : decode cX1_init 38 = .ok (.iconst (-1), 1) := by decide +kernel
theorem dX1_init_39 : decode cX1_init 39 = .ok (.putfield 28, 3) := by decide +kernel
theorem dX1_init_42 : decode cX1_init 42 = .ok (.aload_n 0, 1) := by decide +kernel
theorem dX1_init_43 : decode cX1_init 43 = .ok (.bipush 100, 2) := by decide +kernel
theorem dX1_init_45 : decode cX1_init 45 = .ok (.putfield 32, 3) := by decide +kernel
theorem dX1_init_48 : decode cX1_init 48 = .ok (.aload_n 0, 1) := by decide +kernel
theorem dX1_init_49 : decode cX1_init 49 = .ok (.iconst 0, 1) := by decide +kernel
theorem dX1_init_50 : decode cX1_init 50 = .ok (.putfield 35, 3) := by decide +kernel
theorem dX1_init_53 : decode cX1_init 53 = .ok (.aload_n 0, 1) := by decide +kernel
theorem dX1_init_54 : decode cX1_init 54 = .ok (.iconst 0, 1) := by decide +kernel
theorem dX1_init_55 : decode cX1_init 55 = .ok (.putfield 39, 3) := by decide +kernel
theorem dX1_init_58 : decode cX1_init 58 = .ok (.aload_n 0, 1) := by decide +kernel
theorem dX1_init_59 : decode cX1_init 59 = .ok (.iconst 0, 1) := by decide +kernel
theorem dX1_init_60 : decode cX1_init 60 = .ok (.putfield 42, 3) := by decide +kernel
theorem dX1_init_63 : decode cX1_init 63 = .ok (.aload_n 0, 1) := by decide +kernel
theorem dX1_init_64 : decode cX1_init 64 = .ok (.iconst 0, 1) := by decide +kernel
theorem dX1_init_65 : decode cX1_init 65 = .ok (.putfield 45, 3) := by decide +kernel
theorem dX1_init_68 : decode cX1_init 68 = .ok (.aload_n 0, 1) := by decide +kernel
theorem dX1_init_69 : decode cX1_init 69 = .ok (.lconst 0, 1) := by decide +kernel
theorem dX1_init_70 : decode cX1_init 70 = .ok (.putfield 48, 3) := by decide +kernel
theorem dX1_init_73 : decode cX1_init 73 = .ok (.aload_n 0, 1) := by decide +kernel
theorem dX1_init_74 : decode cX1_init 74 = .ok (.lconst 0, 1) := by decide +kernel
theorem dX1_init_75 : decode cX1_init 75 = .ok (.putfield 52, 3) := by decide +kernel
theorem dX1_init_78 : decode cX1_init 78 = .ok (.aload_n 0, 1) := by decide +kernel
theorem dX1_init_79 : decode cX1_init 79 = .ok (.iload_n 1, 1) := by decide +kernel
theorem dX1_init_80 : decode cX1_init 80 = .ok (.putfield 55, 3) := by decide +kernel
theorem dX1_init_83 : decode cX1_init 83 = .ok (.aload_n 0, 1) := by decide +kernel
theorem dX1_init_84 : decode cX1_init 84 = .ok (.iload_n 2, 1) := by decide +kernel
theorem dX1_init_85 : decode cX1_init 85 = .ok (.putfield 59, 3) := by decide +kernel
theorem dX1_init_88 : decode cX1_init 88 = .ok (.return_, 1) := by decide +kernel
theorem dX1_becomeLike_0 : decode cX1_becomeLike 0 = .ok (.aload_n 0, 1) := by decide +kernel
theorem dX1_becomeLike_1 : decode cX1_becomeLike 1 = .ok (.aload_n 1, 1) := by decide +kernel
theorem dX1_becomeLike_2 : decode cX1_becomeLike 2 = .ok (.getfield 45, 3) := by decide +kernel
theorem dX1_becomeLike_5 : decode cX1_becomeLike 5 = .ok (.putfield 45, 3) := by decide +kernel
theorem dX1_becomeLike_8 : decode cX1_becomeLike 8 = .ok (.aload_n 0, 1) := by decide +kernel
theorem dX1_becomeLike_9 : decode cX1_becomeLike 9 = .ok (.aload_n 1, 1) := by decide +kernel
theorem dX1_becomeLike_10 : decode cX1_becomeLike 10 = .ok (.getfield 35, 3) := by decide +kernel
theorem dX1_becomeLike_13 : decode cX1_becomeLike 13 = .ok (.putfield 35, 3) := by decide +kernel
theorem dX1_becomeLike_16 : decode cX1_becomeLike 16 = .ok (.iconst 0, 1) := by decide +kernel
theorem dX1_becomeLike_17 : decode cX1_becomeLike 17 = .ok (.istore_n 2, 1) := by decide +kernel
theorem dX1_becomeLike_18 : decode cX1_becomeLike 18 = .ok (.iload_n 2, 1) := by decide +kernel
theorem dX1_becomeLike_19 : decode cX1_becomeLike 19 = .ok (.aload_n 0, 1) := by decide +kernel
theorem dX1_becomeLike_20 : decode cX1_becomeLike 20 = .ok (.getfield 12, 3) := by decide +kernel
theorem dX1_becomeLike_23 : decode cX1_becomeLike 23 = .ok (.invokevirtual 62, 3) := by decide +kernel
theorem dX1_becomeLike_26 : decode cX1_becomeLike 26 = .ok (.if_icmp .ge 45, 3) := by decide +kernel
theorem dX1_becomeLike_29 : decode cX1_becomeLike 29 = .ok (.iload_n 2, 1) := by decide +kernel
theorem dX1_becomeLike_30 : decode cX1_becomeLike 30 = .ok (.aload_n 1, 1) := by decide +kernel
theorem dX1_becomeLike_31 : decode cX1_becomeLike 31 = .ok (.getfield 12, 3) := by decide +kernel
theorem dX1_becomeLike_34 : decode cX1_becomeLike 34 = .ok (.invokevirtual 62, 3) := by decide +kernel
theorem dX1_becomeLike_37 : decode cX1_becomeLike 37 = .ok (.if_icmp .ge 34, 3) := by decide +kernel
theorem dX1_becomeLike_40 : decode cX1_becomeLike 40 = .ok (.aload_n 0, 1) := by decide +kernel
theorem dX1_becomeLike_41 : decode cX1_becomeLike 41 = .ok (.getfield 12, 3) := by decide +kernel
theorem dX1_becomeLike_44 : decode cX1_becomeLike 44 = .ok (.iload_n 2, 1) := by decide +kernel
theorem dX1_becomeLike_45 : decode cX1_becomeLike 45 = .ok (.invokevirtual 66, 3) := by decide +kernel
theorem dX1_becomeLike_48 : decode cX1_becomeLike 48 = .ok (.checkcast 70, 3) := by decide +kernel
theorem dX1_becomeLike_51 : decode cX1_becomeLike 51 = .ok (.aload_n 1, 1) := by decide +kernel
theorem dX1_becomeLike_52 : decode cX1_becomeLike 52 = .ok (.getfield 12, 3) := by decide +kernel
theorem dX1_becomeLike_55 : decode cX1_becomeLike 55 = .ok (.iload_n 2, 1) := by decide +kernel
theorem dX1_becomeLike_56 : decode cX1_becomeLike 56 = .ok (.invokevirtual 66, 3) := by decide +kernel
theorem dX1_becomeLike_59 : decode cX1_becomeLike 59 = .ok (.checkcast 70, 3) := by decide +kernel
theorem dX1_becomeLike_62 : decode cX1_becomeLike 62 = .ok (.invokevirtual 72, 3) := by decide +kernel
theorem dX1_becomeLike_65 : decode cX1_becomeLike 65 = .ok (.iinc 2 1, 3) := by decide +kernel
theorem dX1_becomeLike_68 : decode cX1_becomeLike 68 = .ok (.goto (-50), 3) := by decide +kernel
theorem dX1_becomeLike_71 : decode cX1_becomeLike 71 = .ok (.return_, 1) := by decide +kernel
theorem dX1_goThroughAnHour_0 : decode cX1_goThroughAnHour 0 = .ok (.aload_n 0, 1) := by decide +kernel
theorem dX1_goThroughAnHour_1 : decode cX1_goThroughAnHour 1 = .ok (.iload_n 1, 1) := by decide +kernel
theorem dX1_goThroughAnHour_2 : decode cX1_goThroughAnHour 2 = .ok (.invokevirtual 76, 3) := by decide +kernel
theorem dX1_goThroughAnHour_5 : decode cX1_goThroughAnHour 5 = .ok (.aload_n 0, 1) := by decide +kernel
theorem dX1_goThroughAnHour_6 : decode cX1_goThroughAnHour 6 = .ok (.iload_n 2, 1) := by decide +kernel
theorem dX1_goThroughAnHour_7 : decode cX1_goThroughAnHour 7 = .ok (.invokevirtual 80, 3) := by decide +kernel
theorem dX1_goThroughAnHour_10 : decode cX1_goThroughAnHour 10 = .ok (.lstore 4, 2) := by decide +kernel
theorem dX1_goThroughAnHour_12 : decode cX1_goThroughAnHour 12 = .ok (.aload_n 0, 1) := by decide +kernel
theorem dX1_goThroughAnHour_13 : decode cX1_goThroughAnHour 13 = .ok (.invokevirtual 84, 3) := by decide +kernel
theorem dX1_goThroughAnHour_16 : decode cX1_goThroughAnHour 16 = .ok (.iconst 0, 1) := by decide +kernel
theorem dX1_goThroughAnHour_17 : decode cX1_goThroughAnHour 17 = .ok (.istore 6, 2) := by decide +kernel
theorem dX1_goThroughAnHour_19 : decode cX1_goThroughAnHour 19 = .ok (.iload 6, 2) := by decide +kernel
theorem dX1_goThroughAnHour_21 : decode cX1_goThroughAnHour 21 = .ok (.aload_n 0, 1) := by decide +kernel
theorem dX1_goThroughAnHour_22 : decode cX1_goThroughAnHour 22 = .ok (.getfield 18, 3) := by decide +kernel
theorem dX1_goThroughAnHour_25 : decode cX1_goThroughAnHour 25 = .ok (.invokevirtual 62, 3) := by decide +kernel
theorem dX1_goThroughAnHour_28 : decode cX1_goThroughAnHour 28 = .ok (.if_icmp .ge 25, 3) := by decide +kernel
theorem dX1_goThroughAnHour_31 : decode cX1_goThroughAnHour 31 = .ok (.aload_n 0, 1) := by decide +kernel
theorem dX1_goThroughAnHour_32 : decode cX1_goThroughAnHour 32 = .ok (.aload_n 0, 1) := by decide +kernel
theorem dX1_goThroughAnHour_33 : decode cX1_goThroughAnHour 33 = .ok (.getfield 18, 3) := by decide +kernel
theorem dX1_goThroughAnHour_36 : decode cX1_goThroughAnHour 36 = .ok (.iload 6, 2) := by decide +kernel
theorem dX1_goThroughAnHour_38 : decode cX1_goThroughAnHour 38 = .ok (.invokevirtual 66, 3) := by decide +kernel
theorem dX1_goThroughAnHour_41 : decode cX1_goThroughAnHour 41 = .ok (.checkcast 87, 3) := by decide +kernel
theorem dX1_goThroughAnHour_44 : decode cX1_goThroughAnHour 44 = .ok (.invokevirtual 89, 3) := by decide +kernel
theorem dX1_goThroughAnHour_47 : decode cX1_goThroughAnHour 47 = .ok (.iinc 6 1, 3) := by decide +kernel
theorem dX1_goThroughAnHour_50 : decode cX1_goThroughAnHour 50 = .ok (.goto (-31), 3) := by decide +kernel
theorem dX1_goThroughAnHour_53 : decode cX1_goThroughAnHour 53 = .ok (.aload_n 0, 1) := by decide +kernel
theorem dX1_goThroughAnHour_54 : decode cX1_goThroughAnHour 54 = .ok (.aload_n 0, 1) := by decide +kernel
theorem dX1_goThroughAnHour_55 : decode cX1_goThroughAnHour 55 = .ok (.getfield 35, 3) := by decide +kernel
theorem dX1_goThroughAnHour_58 : decode cX1_goThroughAnHour 58 = .ok (.ifCond .eq 9, 3) := by decide +kernel
theorem dX1_goThroughAnHour_61 : decode cX1_goThroughAnHour 61 = .ok (.iload_n 3, 1) := by decide +kernel
theorem dX1_goThroughAnHour_62 : decode cX1_goThroughAnHour 62 = .ok (.iconst 2, 1) := by decide +kernel
theorem dX1_goThroughAnHour_63 : decode cX1_goThroughAnHour 63 = .ok (.idiv, 1) := by decide +kernel
theorem dX1_goThroughAnHour_64 : decode cX1_goThroughAnHour 64 = .ok (.goto 4, 3) := by decide +kernel
theorem dX1_goThroughAnHour_67 : decode cX1_goThroughAnHour 67 = .ok (.iload_n 3, 1) := by decide +kernel
theorem dX1_goThroughAnHour_68 : decode cX1_goThroughAnHour 68 = .ok (.invokevirtual 93, 3) := by decide +kernel
theorem dX1_goThroughAnHour_71 : decode cX1_goThroughAnHour 71 = .ok (.aload_n 0, 1) := by decide +kernel
theorem dX1_goThroughAnHour_72 : decode cX1_goThroughAnHour 72 = .ok (.iload_n 1, 1) := by decide +kernel
theorem dX1_goThroughAnHour_73 : decode cX1_goThroughAnHour 73 = .ok (.invokevirtual 96, 3) := by decide +kernel
theorem dX1_goThroughAnHour_76 : decode cX1_goThroughAnHour 76 = .ok (.aload_n 0, 1) := by decide +kernel
theorem dX1_goThroughAnHour_77 : decode cX1_goThroughAnHour 77 = .ok (.iload_n 1, 1) := by decide +kernel
theorem dX1_goThroughAnHour_78 : decode cX1_goThroughAnHour 78 = .ok (.invokevirtual 99, 3) := by decide +kernel
theorem dX1_goThroughAnHour_81 : decode cX1_goThroughAnHour 81 = .ok (.lload 4, 2) := by decide +kernel
theorem dX1_goThroughAnHour_83 : decode cX1_goThroughAnHour 83 = .ok (.lreturn, 1) := by decide +kernel
theorem dX1_topOrNull_0 : decode cX1_topOrNull 0 = .ok (.aload_n 0, 1) := by decide +kernel
theorem dX1_topOrNull_1 : decode cX1_topOrNull 1 = .ok (.getfield 12, 3) := by decide +kernel
theorem dX1_topOrNull_4 : decode cX1_topOrNull 4 = .ok (.invokevirtual 102, 3) := by decide +kernel
theorem dX1_topOrNull_7 : decode cX1_topOrNull 7 = .ok (.ifCond .eq 7, 3) := by decide +kernel
theorem dX1_topOrNull_10 : decode cX1_topOrNull 10 = .ok (.aconst_null, 1) := by decide +kernel
theorem dX1_topOrNull_11 : decode cX1_topOrNull 11 = .ok (.goto 14, 3) := by decide +kernel
theorem dX1_topOrNull_14 : decode cX1_topOrNull 14 = .ok (.aload_n 0, 1) := by decide +kernel
theorem dX1_topOrNull_15 : decode cX1_topOrNull 15 = .ok (.getfield 12, 3) := by decide +kernel
theorem dX1_topOrNull_18 : decode cX1_topOrNull 18 = .ok (.iconst 0, 1) := by decide +kernel
theorem dX1_topOrNull_19 : decode cX1_topOrNull 19 = .ok (.invokevirtual 66, 3) := by decide +kernel
theorem dX1_topOrNull_22 : decode cX1_topOrNull 22 = .ok (.checkcast 70, 3) := by decide +kernel
theorem dX1_topOrNull_25 : decode cX1_topOrNull 25 = .ok (.areturn, 1) := by decide +kernel
theorem dX1_letFrostMove_0 : decode cX1_letFrostMove 0 = .ok (.iload_n 1, 1) := by decide +kernel
theorem dX1_letFrostMove_1 : decode cX1_letFrostMove 1 = .ok (.ifCond .ge 22, 3) := by decide +kernel
theorem dX1_letFrostMove_4 : decode cX1_letFrostMove 4 = .ok (.aload_n 0, 1) := by decide +kernel
theorem dX1_letFrostMove_5 : decode cX1_letFrostMove 5 = .ok (.iconst 0, 1) := by decide +kernel
theorem dX1_letFrostMove_6 : decode cX1_letFrostMove 6 = .ok (.invokevirtual 106, 3) := by decide +kernel
theorem dX1_letFrostMove_9 : decode cX1_letFrostMove 9 = .ok (.astore_n 2, 1) := by decide +kernel
theorem dX1_letFrostMove_10 : decode cX1_letFrostMove 10 = .ok (.aload_n 2, 1) := by decide +kernel
theorem dX1_letFrostMove_11 : decode cX1_letFrostMove 11 = .ok (.ifnull 9, 3) := by decide +kernel
theorem dX1_letFrostMove_14 : decode cX1_letFrostMove 14 = .ok (.aload_n 2, 1) := by decide +kernel
theorem dX1_letFrostMove_15 : decode cX1_letFrostMove 15 = .ok (.iload_n 1, 1) := by decide +kernel
theorem dX1_letFrostMove_16 : decode cX1_letFrostMove 16 = .ok (.ineg, 1) := by decide +kernel
theorem dX1_letFrostMove_17 : decode cX1_letFrostMove 17 = .ok (.invokevirtual 110, 3) := by decide +kernel
theorem dX1_letFrostMove_20 : decode cX1_letFrostMove 20 = .ok (.goto 22, 3) := by decide +kernel
theorem dX1_letFrostMove_23 : decode cX1_letFrostMove 23 = .ok (.iload_n 1, 1) := by decide +kernel
theorem dX1_letFrostMove_24 : decode cX1_letFrostMove 24 = .ok (.ifCond .le 18, 3) := by decide +kernel
theorem dX1_letFrostMove_27 : decode cX1_letFrostMove 27 = .ok (.aload_n 0, 1) := by decide +kernel
theorem dX1_letFrostMove_28 : decode cX1_letFrostMove 28 = .ok (.iconst 1, 1) := by decide +kernel
theorem dX1_letFrostMove_29 : decode cX1_letFrostMove 29 = .ok (.invokevirtual 106, 3) := by decide +kernel
theorem dX1_letFrostMove_32 : decode cX1_letFrostMove 32 = .ok (.astore_n 2, 1) := by decide +kernel
theorem dX1_letFrostMove_33 : decode cX1_letFrostMove 33 = .ok (.aload_n 2, 1) := by decide +kernel
theorem dX1_letFrostMove_34 : decode cX1_letFrostMove 34 = .ok (.ifnull 8, 3) := by decide +kernel
theorem dX1_letFrostMove_37 : decode cX1_letFrostMove 37 = .ok (.aload_n 2, 1) := by decide +kernel
theorem dX1_letFrostMove_38 : decode cX1_letFrostMove 38 = .ok (.iload_n 1, 1) := by decide +kernel
theorem dX1_letFrostMove_39 : decode cX1_letFrostMove 39 = .ok (.invokevirtual 113, 3) := by decide +kernel
theorem dX1_letFrostMove_42 : decode cX1_letFrostMove 42 = .ok (.return_, 1) := by decide +kernel
theorem dX1_uppermost_0 : decode cX1_uppermost 0 = .ok (.iconst 0, 1) := by decide +kernel
theorem dX1_uppermost_1 : decode cX1_uppermost 1 = .ok (.istore_n 2, 1) := by decide +kernel
theorem dX1_uppermost_2 : decode cX1_uppermost 2 = .ok (.iload_n 2, 1) := by decide +kernel
theorem dX1_uppermost_3 : decode cX1_uppermost 3 = .ok (.aload_n 0, 1) := by decide +kernel
theorem dX1_uppermost_4 : decode cX1_uppermost 4 = .ok (.getfield 12, 3) := by decide +kernel
theorem dX1_uppermost_7 : decode cX1_uppermost 7 = .ok (.invokevirtual 62, 3) := by decide +kernel
theorem dX1_uppermost_10 : decode cX1_uppermost 10 = .ok (.if_icmp .ge 31, 3) := by decide +kernel
theorem dX1_uppermost_13 : decode cX1_uppermost 13 = .ok (.aload_n 0, 1) := by decide +kernel
theorem dX1_uppermost_14 : decode cX1_uppermost 14 = .ok (.getfield 12, 3) := by decide +kernel
theorem dX1_uppermost_17 : decode cX1_uppermost 17 = .ok (.iload_n 2, 1) := by decide +kernel
theorem dX1_uppermost_18 : decode cX1_uppermost 18 = .ok (.invokevirtual 66, 3) := by decide +kernel
theorem dX1_uppermost_21 : decode cX1_uppermost 21 = .ok (.checkcast 70, 3) := by decide +kernel
theorem dX1_uppermost_24 : decode cX1_uppermost 24 = .ok (.astore_n 3, 1) := by decide +kernel
theorem dX1_uppermost_25 : decode cX1_uppermost 25 = .ok (.aload_n 3, 1) := by decide +kernel
theorem dX1_uppermost_26 : decode cX1_uppermost 26 = .ok (.getfield 116, 3) := by decide +kernel
theorem dX1_uppermost_29 : decode cX1_uppermost 29 = .ok (.iload_n 1, 1) := by decide +kernel
theorem dX1_uppermost_30 : decode cX1_uppermost 30 = .ok (.if_icmp .ne 5, 3) := by decide +kernel
theorem dX1_uppermost_33 : decode cX1_uppermost 33 = .ok (.aload_n 3, 1) := by decide +kernel
theorem dX1_uppermost_34 : decode cX1_uppermost 34 = .ok (.areturn, 1) := by decide +kernel
theorem dX1_uppermost_35 : decode cX1_uppermost 35 = .ok (.iinc 2 1, 3) := by decide +kernel
theorem dX1_uppermost_38 : decode cX1_uppermost 38 = .ok (.goto (-36), 3) := by decide +kernel
theorem dX1_uppermost_41 : decode cX1_uppermost 41 = .ok (.aconst_null, 1) := by decide +kernel
theorem dX1_uppermost_42 : decode cX1_uppermost 42 = .ok (.areturn, 1) := by decide +kernel
theorem dX1_letWaterCome_0 : decode cX1_letWaterCome 0 = .ok (.aload_n 0, 1) := by decide +kernel
theorem dX1_letWaterCome_1 : decode cX1_letWaterCome 1 = .ok (.invokevirtual 119, 3) := by decide +kernel
theorem dX1_letWaterCome_4 : decode cX1_letWaterCome 4 = .ok (.astore_n 2, 1) := by decide +kernel
theorem dX1_letWaterCome_5 : decode cX1_letWaterCome 5 = .ok (.aload_n 0, 1) := by decide +kernel
theorem dX1_letWaterCome_6 : decode cX1_letWaterCome 6 = .ok (.getfield 45, 3) := by decide +kernel
theorem dX1_letWaterCome_9 : decode cX1_letWaterCome 9 = .ok (.i2l, 1) := by decide +kernel
theorem dX1_letWaterCome_10 : decode cX1_letWaterCome 10 = .ok (.aload_n 0, 1) := by decide +kernel
theorem dX1_letWaterCome_11 : decode cX1_letWaterCome 11 = .ok (.iload_n 1, 1) := by decide +kernel
theorem dX1_letWaterCome_12 : decode cX1_letWaterCome 12 = .ok (.invokevirtual 123, 3) := by decide +kernel
theorem dX1_letWaterCome_15 : decode cX1_letWaterCome 15 = .ok (.ladd, 1) := by decide +kernel
theorem dX1_letWaterCome_16 : decode cX1_letWaterCome 16 = .ok (.lstore_n 3, 1) := by decide +kernel
theorem dX1_letWaterCome_17 : decode cX1_letWaterCome 17 = .ok (.aload_n 2, 1) := by decide +kernel
theorem dX1_letWaterCome_18 : decode cX1_letWaterCome 18 = .ok (.ifnull 31, 3) := by decide +kernel
theorem dX1_letWaterCome_21 : decode cX1_letWaterCome 21 = .ok (.lload_n 3, 1) := by decide +kernel
theorem dX1_letWaterCome_22 : decode cX1_letWaterCome 22 = .ok (.aload_n 0, 1) := by decide +kernel
theorem dX1_letWaterCome_23 : decode cX1_letWaterCome 23 = .ok (.aload_n 2, 1) := by decide +kernel
theorem dX1_letWaterCome_24 : decode cX1_letWaterCome 24 = .ok (.invokevirtual 126, 3) := by decide +kernel
theorem dX1_letWaterCome_27 : decode cX1_letWaterCome 27 = .ok (.i2l, 1) := by decide +kernel
theorem dX1_letWaterCome_28 : decode cX1_letWaterCome 28 = .ok (.ladd, 1) := by decide +kernel
theorem dX1_letWaterCome_29 : decode cX1_letWaterCome 29 = .ok (.lstore_n 3, 1) := by decide +kernel
theorem dX1_letWaterCome_30 : decode cX1_letWaterCome 30 = .ok (.lload_n 3, 1) := by decide +kernel
theorem dX1_letWaterCome_31 : decode cX1_letWaterCome 31 = .ok (.aload_n 0, 1) := by decide +kernel
theorem dX1_letWaterCome_32 : decode cX1_letWaterCome 32 = .ok (.aload_n 2, 1) := by decide +kernel
theorem dX1_letWaterCome_33 : decode cX1_letWaterCome 33 = .ok (.lload_n 3, 1) := by decide +kernel
theorem dX1_letWaterCome_34 : decode cX1_letWaterCome 34 = .ok (.invokevirtual 130, 3) := by decide +kernel
theorem dX1_letWaterCome_37 : decode cX1_letWaterCome 37 = .ok (.i2l, 1) := by decide +kernel
theorem dX1_letWaterCome_38 : decode cX1_letWaterCome 38 = .ok (.lsub, 1) := by decide +kernel
theorem dX1_letWaterCome_39 : decode cX1_letWaterCome 39 = .ok (.lstore_n 3, 1) := by decide +kernel
theorem dX1_letWaterCome_40 : decode cX1_letWaterCome 40 = .ok (.lload_n 3, 1) := by decide +kernel
theorem dX1_letWaterCome_41 : decode cX1_letWaterCome 41 = .ok (.aload_n 2, 1) := by decide +kernel
theorem dX1_letWaterCome_42 : decode cX1_letWaterCome 42 = .ok (.lload_n 3, 1) := by decide +kernel
theorem dX1_letWaterCome_43 : decode cX1_letWaterCome 43 = .ok (.invokestatic 134, 3) := by decide +kernel
theorem dX1_letWaterCome_46 : decode cX1_letWaterCome 46 = .ok (.i2l, 1) := by decide +kernel
theorem dX1_letWaterCome_47 : decode cX1_letWaterCome 47 = .ok (.lsub, 1) := by decide +kernel
theorem dX1_letWaterCome_48 : decode cX1_letWaterCome 48 = .ok (.lstore_n 3, 1) := by decide +kernel
theorem dX1_letWaterCome_49 : decode cX1_letWaterCome 49 = .ok (.aload_n 0, 1) := by decide +kernel
theorem dX1_letWaterCome_50 : decode cX1_letWaterCome 50 = .ok (.lload_n 3, 1) := by decide +kernel
theorem dX1_letWaterCome_51 : decode cX1_letWaterCome 51 = .ok (.ldc2_w 137, 3) := by decide +kernel
theorem dX1_letWaterCome_54 : decode cX1_letWaterCome 54 = .ok (.invokestatic 139, 3) := by decide +kernel
theorem dX1_letWaterCome_57 : decode cX1_letWaterCome 57 = .ok (.l2i, 1) := by decide +kernel
theorem dX1_letWaterCome_58 : decode cX1_letWaterCome 58 = .ok (.putfield 45, 3) := by decide +kernel
theorem dX1_letWaterCome_61 : decode cX1_letWaterCome 61 = .ok (.lload_n 3, 1) := by decide +kernel
theorem dX1_letWaterCome_62 : decode cX1_letWaterCome 62 = .ok (.aload_n 0, 1) := by decide +kernel
theorem dX1_letWaterCome_63 : decode cX1_letWaterCome 63 = .ok (.getfield 45, 3) := by decide +kernel
theorem dX1_letWaterCome_66 : decode cX1_letWaterCome 66 = .ok (.i2l, 1) := by decide +kernel
theorem dX1_letWaterCome_67 : decode cX1_letWaterCome 67 = .ok (.lsub, 1) := by decide +kernel
theorem dX1_letWaterCome_68 : decode cX1_letWaterCome 68 = .ok (.lreturn, 1) := by decide +kernel
theorem dX1_takeArrivals_0 : decode cX1_takeArrivals 0 = .ok (.iload_n 1, 1) := by decide +kernel
theorem dX1_takeArrivals_1 : decode cX1_takeArrivals 1 = .ok (.i2l, 1) := by decide +kernel
theorem dX1_takeArrivals_2 : decode cX1_takeArrivals 2 = .ok (.aload_n 0, 1) := by decide +kernel
theorem dX1_takeArrivals_3 : decode cX1_takeArrivals 3 = .ok (.getfield 48, 3) := by decide +kernel
theorem dX1_takeArrivals_6 : decode cX1_takeArrivals 6 = .ok (.ladd, 1) := by decide +kernel
theorem dX1_takeArrivals_7 : decode cX1_takeArrivals 7 = .ok (.lstore_n 2, 1) := by decide +kernel
theorem dX1_takeArrivals_8 : decode cX1_takeArrivals 8 = .ok (.aload_n 0, 1) := by decide +kernel
theorem dX1_takeArrivals_9 : decode cX1_takeArrivals 9 = .ok (.getfield 24, 3) := by decide +kernel
theorem dX1_takeArrivals_12 : decode cX1_takeArrivals 12 = .ok (.dup, 1) := by decide +kernel
theorem dX1_takeArrivals_13 : decode cX1_takeArrivals 13 = .ok (.getfield 145, 3) := by decide +kernel
theorem dX1_takeArrivals_16 : decode cX1_takeArrivals 16 = .ok (.iload_n 1, 1) := by decide +kernel
theorem dX1_takeArrivals_17 : decode cX1_takeArrivals 17 = .ok (.i2l, 1) := by decide +kernel
theorem dX1_takeArrivals_18 : decode cX1_takeArrivals 18 = .ok (.ladd, 1) := by decide +kernel
theorem dX1_takeArrivals_19 : decode cX1_takeArrivals 19 = .ok (.putfield 145, 3) := by decide +kernel
theorem dX1_takeArrivals_22 : decode cX1_takeArrivals 22 = .ok (.aload_n 0, 1) := by decide +kernel
theorem dX1_takeArrivals_23 : decode cX1_takeArrivals 23 = .ok (.lconst 0, 1) := by decide +kernel
theorem dX1_takeArrivals_24 : decode cX1_takeArrivals 24 = .ok (.putfield 48, 3) := by decide +kernel
theorem dX1_takeArrivals_27 : decode cX1_takeArrivals 27 = .ok (.lload_n 2, 1) := by decide +kernel
theorem dX1_takeArrivals_28 : decode cX1_takeArrivals 28 = .ok (.lreturn, 1) := by decide +kernel
theorem dX1_takeWatering_0 : decode cX1_takeWatering 0 = .ok (.aload_n 1, 1) := by decide +kernel
theorem dX1_takeWatering_1 : decode cX1_takeWatering 1 = .ok (.getfield 148, 3) := by decide +kernel
theorem dX1_takeWatering_4 : decode cX1_takeWatering 4 = .ok (.aload_n 0, 1) := by decide +kernel
theorem dX1_takeWatering_5 : decode cX1_takeWatering 5 = .ok (.getfield 39, 3) := by decide +kernel
theorem dX1_takeWatering_8 : decode cX1_takeWatering 8 = .ok (.if_icmp .lt 5, 3) := by decide +kernel
theorem dX1_takeWatering_11 : decode cX1_takeWatering 11 = .ok (.iconst 0, 1) := by decide +kernel
theorem dX1_takeWatering_12 : decode cX1_takeWatering 12 = .ok (.ireturn, 1) := by decide +kernel
theorem dX1_takeWatering_13 : decode cX1_takeWatering 13 = .ok (.aload_n 0, 1) := by decide +kernel
theorem dX1_takeWatering_14 : decode cX1_takeWatering 14 = .ok (.getfield 24, 3) := by decide +kernel
theorem dX1_takeWatering_17 : decode cX1_takeWatering 17 = .ok (.dup, 1) := by decide +kernel
theorem dX1_takeWatering_18 : decode cX1_takeWatering 18 = .ok (.getfield 151, 3) := by decide +kernel
theorem dX1_takeWatering_21 : decode cX1_takeWatering 21 = .ok (.aload_n 0, 1) := by decide +kernel
theorem dX1_takeWatering_22 : decode cX1_takeWatering 22 = .ok (.getfield 42, 3) := by decide +kernel
theorem dX1_takeWatering_25 : decode cX1_takeWatering 25 = .ok (.i2l, 1) := by decide +kernel
theorem dX1_takeWatering_26 : decode cX1_takeWatering 26 = .ok (.ladd, 1) := by decide +kernel
theorem dX1_takeWatering_27 : decode cX1_takeWatering 27 = .ok (.putfield 151, 3) := by decide +kernel
theorem dX1_takeWatering_30 : decode cX1_takeWatering 30 = .ok (.aload_n 0, 1) := by decide +kernel
theorem dX1_takeWatering_31 : decode cX1_takeWatering 31 = .ok (.getfield 42, 3) := by decide +kernel
theorem dX1_takeWatering_34 : decode cX1_takeWatering 34 = .ok (.ireturn, 1) := by decide +kernel
theorem dX1_fillCrack_0 : decode cX1_fillCrack 0 = .ok (.aload_n 0, 1) := by decide +kernel
theorem dX1_fillCrack_1 : decode cX1_fillCrack 1 = .ok (.aload_n 1, 1) := by decide +kernel
theorem dX1_fillCrack_2 : decode cX1_fillCrack 2 = .ok (.invokevirtual 154, 3) := by decide +kernel
theorem dX1_fillCrack_5 : decode cX1_fillCrack 5 = .ok (.astore 4, 2) := by decide +kernel
theorem dX1_fillCrack_7 : decode cX1_fillCrack 7 = .ok (.aload 4, 2) := by decide +kernel
theorem dX1_fillCrack_9 : decode cX1_fillCrack 9 = .ok (.ifnonnull 5, 3) := by decide +kernel
theorem dX1_fillCrack_12 : decode cX1_fillCrack 12 = .ok (.iconst 0, 1) := by decide +kernel
theorem dX1_fillCrack_13 : decode cX1_fillCrack 13 = .ok (.ireturn, 1) := by decide +kernel
theorem dX1_fillCrack_14 : decode cX1_fillCrack 14 = .ok (.lload_n 2, 1) := by decide +kernel
theorem dX1_fillCrack_15 : decode cX1_fillCrack 15 = .ok (.aload_n 1, 1) := by decide +kernel
theorem dX1_fillCrack_16 : decode cX1_fillCrack 16 = .ok (.aload 4, 2) := by decide +kernel
theorem dX1_fillCrack_18 : decode cX1_fillCrack 18 = .ok (.invokestatic 158, 3) := by decide +kernel
theorem dX1_fillCrack_21 : decode cX1_fillCrack 21 = .ok (.i2l, 1) := by decide +kernel
theorem dX1_fillCrack_22 : decode cX1_fillCrack 22 = .ok (.invokestatic 139, 3) := by decide +kernel
theorem dX1_fillCrack_25 : decode cX1_fillCrack 25 = .ok (.l2i, 1) := by decide +kernel
theorem dX1_fillCrack_26 : decode cX1_fillCrack 26 = .ok (.istore 5, 2) := by decide +kernel
theorem dX1_fillCrack_28 : decode cX1_fillCrack 28 = .ok (.aload 4, 2) := by decide +kernel
theorem dX1_fillCrack_30 : decode cX1_fillCrack 30 = .ok (.dup, 1) := by decide +kernel
theorem dX1_fillCrack_31 : decode cX1_fillCrack 31 = .ok (.getfield 148, 3) := by decide +kernel
theorem dX1_fillCrack_34 : decode cX1_fillCrack 34 = .ok (.iload 5, 2) := by decide +kernel
theorem dX1_fillCrack_36 : decode cX1_fillCrack 36 = .ok (.iadd, 1) := by decide +kernel
theorem dX1_fillCrack_37 : decode cX1_fillCrack 37 = .ok (.putfield 148, 3) := by decide +kernel
theorem dX1_fillCrack_40 : decode cX1_fillCrack 40 = .ok (.iload 5, 2) := by decide +kernel
theorem dX1_fillCrack_42 : decode cX1_fillCrack 42 = .ok (.ireturn, 1) := by decide +kernel
theorem dX1_soakIn_0 : decode cX1_soakIn 0 = .ok (.lload_n 1, 1) := by decide +kernel
theorem dX1_soakIn_1 : decode cX1_soakIn 1 = .ok (.aload_n 0, 1) := by decide +kernel
theorem dX1_soakIn_2 : decode cX1_soakIn 2 = .ok (.getfield 162, 3) := by decide +kernel
theorem dX1_soakIn_5 : decode cX1_soakIn 5 = .ok (.getfield 166, 3) := by decide +kernel
theorem dX1_soakIn_8 : decode cX1_soakIn 8 = .ok (.aload_n 0, 1) := by decide +kernel
theorem dX1_soakIn_9 : decode cX1_soakIn 9 = .ok (.invokevirtual 171, 3) := by decide +kernel
theorem dX1_soakIn_12 : decode cX1_soakIn 12 = .ok (.invokestatic 174, 3) := by decide +kernel
theorem dX1_soakIn_15 : decode cX1_soakIn 15 = .ok (.i2l, 1) := by decide +kernel
theorem dX1_soakIn_16 : decode cX1_soakIn 16 = .ok (.invokestatic 139, 3) := by decide +kernel
theorem dX1_soakIn_19 : decode cX1_soakIn 19 = .ok (.l2i, 1) := by decide +kernel
theorem dX1_soakIn_20 : decode cX1_soakIn 20 = .ok (.istore_n 3, 1) := by decide +kernel
theorem dX1_soakIn_21 : decode cX1_soakIn 21 = .ok (.aload_n 0, 1) := by decide +kernel
theorem dX1_soakIn_22 : decode cX1_soakIn 22 = .ok (.dup, 1) := by decide +kernel
theorem dX1_soakIn_23 : decode cX1_soakIn 23 = .ok (.getfield 148, 3) := by decide +kernel
theorem dX1_soakIn_26 : decode cX1_soakIn 26 = .ok (.iload_n 3, 1) := by decide +kernel
theorem dX1_soakIn_27 : decode cX1_soakIn 27 = .ok (.iadd, 1) := by decide +kernel
theorem dX1_soakIn_28 : decode cX1_soakIn 28 = .ok (.putfield 148, 3) := by decide +kernel
theorem dX1_soakIn_31 : decode cX1_soakIn 31 = .ok (.iload_n 3, 1) := by decide +kernel
theorem dX1_soakIn_32 : decode cX1_soakIn 32 = .ok (.ireturn, 1) := by decide +kernel
theorem dX1_crackEnd_0 : decode cX1_crackEnd 0 = .ok (.aload_n 1, 1) := by decide +kernel
theorem dX1_crackEnd_1 : decode cX1_crackEnd 1 = .ok (.getfield 162, 3) := by decide +kernel
theorem dX1_crackEnd_4 : decode cX1_crackEnd 4 = .ok (.getstatic 177, 3) := by decide +kernel
theorem dX1_crackEnd_7 : decode cX1_crackEnd 7 = .ok (.if_acmp .ne 27, 3) := by decide +kernel
theorem dX1_crackEnd_10 : decode cX1_crackEnd 10 = .ok (.aload_n 1, 1) := by decide +kernel
theorem dX1_crackEnd_11 : decode cX1_crackEnd 11 = .ok (.getfield 116, 3) := by decide +kernel
theorem dX1_crackEnd_14 : decode cX1_crackEnd 14 = .ok (.ifCond .ne 20, 3) := by decide +kernel
theorem dX1_crackEnd_17 : decode cX1_crackEnd 17 = .ok (.aload_n 1, 1) := by decide +kernel
theorem dX1_crackEnd_18 : decode cX1_crackEnd 18 = .ok (.getfield 148, 3) := by decide +kernel
theorem dX1_crackEnd_21 : decode cX1_crackEnd 21 = .ok (.aload_n 1, 1) := by decide +kernel
theorem dX1_crackEnd_22 : decode cX1_crackEnd 22 = .ok (.getfield 180, 3) := by decide +kernel
theorem dX1_crackEnd_25 : decode cX1_crackEnd 25 = .ok (.bipush 8, 2) := by decide +kernel
theorem dX1_crackEnd_27 : decode cX1_crackEnd 27 = .ok (.imul, 1) := by decide +kernel
theorem dX1_crackEnd_28 : decode cX1_crackEnd 28 = .ok (.bipush 10, 2) := by decide +kernel
theorem dX1_crackEnd_30 : decode cX1_crackEnd 30 = .ok (.idiv, 1) := by decide +kernel
theorem dX1_crackEnd_31 : decode cX1_crackEnd 31 = .ok (.if_icmp .lt 5, 3) := by decide +kernel
theorem dX1_crackEnd_34 : decode cX1_crackEnd 34 = .ok (.aconst_null, 1) := by decide +kernel
theorem dX1_crackEnd_35 : decode cX1_crackEnd 35 = .ok (.areturn, 1) := by decide +kernel
theorem dX1_crackEnd_36 : decode cX1_crackEnd 36 = .ok (.aload_n 1, 1) := by decide +kernel
theorem dX1_crackEnd_37 : decode cX1_crackEnd 37 = .ok (.astore_n 2, 1) := by decide +kernel
theorem dX1_crackEnd_38 : decode cX1_crackEnd 38 = .ok (.iconst 1, 1) := by decide +kernel
theorem dX1_crackEnd_39 : decode cX1_crackEnd 39 = .ok (.istore_n 3, 1) := by decide +kernel
theorem dX1_crackEnd_40 : decode cX1_crackEnd 40 = .ok (.iload_n 3, 1) := by decide +kernel
theorem dX1_crackEnd_41 : decode cX1_crackEnd 41 = .ok (.aload_n 0, 1) := by decide +kernel
theorem dX1_crackEnd_42 : decode cX1_crackEnd 42 = .ok (.getfield 12, 3) := by decide +kernel
theorem dX1_crackEnd_45 : decode cX1_crackEnd 45 = .ok (.invokevirtual 62, 3) := by decide +kernel
theorem dX1_crackEnd_48 : decode cX1_crackEnd 48 = .ok (.if_icmp .ge 41, 3) := by decide +kernel
theorem dX1_crackEnd_51 : decode cX1_crackEnd 51 = .ok (.aload_n 0, 1) := by decide +kernel
theorem dX1_crackEnd_52 : decode cX1_crackEnd 52 = .ok (.getfield 12, 3) := by decide +kernel
theorem dX1_crackEnd_55 : decode cX1_crackEnd 55 = .ok (.iload_n 3, 1) := by decide +kernel
theorem dX1_crackEnd_56 : decode cX1_crackEnd 56 = .ok (.invokevirtual 66, 3) := by decide +kernel
theorem dX1_crackEnd_59 : decode cX1_crackEnd 59 = .ok (.checkcast 70, 3) := by decide +kernel
theorem dX1_crackEnd_62 : decode cX1_crackEnd 62 = .ok (.getfield 162, 3) := by decide +kernel
theorem dX1_crackEnd_65 : decode cX1_crackEnd 65 = .ok (.getstatic 177, 3) := by decide +kernel
theorem dX1_crackEnd_68 : decode cX1_crackEnd 68 = .ok (.if_acmp .ne 21, 3) := by decide +kernel
theorem dX1_crackEnd_71 : decode cX1_crackEnd 71 = .ok (.aload_n 0, 1) := by decide +kernel
theorem dX1_crackEnd_72 : decode cX1_crackEnd 72 = .ok (.getfield 12, 3) := by decide +kernel
theorem dX1_crackEnd_75 : decode cX1_crackEnd 75 = .ok (.iload_n 3, 1) := by decide +kernel
theorem dX1_crackEnd_76 : decode cX1_crackEnd 76 = .ok (.invokevirtual 66, 3) := by decide +kernel
theorem dX1_crackEnd_79 : decode cX1_crackEnd 79 = .ok (.checkcast 70, 3) := by decide +kernel
theorem dX1_crackEnd_82 : decode cX1_crackEnd 82 = .ok (.astore_n 2, 1) := by decide +kernel
theorem dX1_crackEnd_83 : decode cX1_crackEnd 83 = .ok (.iinc 3 1, 3) := by decide +kernel
theorem dX1_crackEnd_86 : decode cX1_crackEnd 86 = .ok (.goto (-46), 3) := by decide +kernel
theorem dX1_crackEnd_89 : decode cX1_crackEnd 89 = .ok (.aload_n 2, 1) := by decide +kernel
theorem dX1_crackEnd_90 : decode cX1_crackEnd 90 = .ok (.areturn, 1) := by decide +kernel
theorem dX1_crackBetween_0 : decode cX1_crackBetween 0 = .ok (.aload_n 0, 1) := by decide +kernel
theorem dX1_crackBetween_1 : decode cX1_crackBetween 1 = .ok (.getfield 180, 3) := by decide +kernel
theorem dX1_crackBetween_4 : decode cX1_crackBetween 4 = .ok (.aload_n 0, 1) := by decide +kernel
theorem dX1_crackBetween_5 : decode cX1_crackBetween 5 = .ok (.getfield 148, 3) := by decide +kernel
theorem dX1_crackBetween_8 : decode cX1_crackBetween 8 = .ok (.isub, 1) := by decide +kernel
theorem dX1_crackBetween_9 : decode cX1_crackBetween 9 = .ok (.iconst 4, 1) := by decide +kernel
theorem dX1_crackBetween_10 : decode cX1_crackBetween 10 = .ok (.idiv, 1) := by decide +kernel
theorem dX1_crackBetween_11 : decode cX1_crackBetween 11 = .ok (.aload_n 1, 1) := by decide +kernel
theorem dX1_crackBetween_12 : decode cX1_crackBetween 12 = .ok (.invokevirtual 171, 3) := by decide +kernel
theorem dX1_crackBetween_15 : decode cX1_crackBetween 15 = .ok (.invokestatic 174, 3) := by decide +kernel
theorem dX1_crackBetween_18 : decode cX1_crackBetween 18 = .ok (.ireturn, 1) := by decide +kernel
theorem dX1_crackCanTake_0 : decode cX1_crackCanTake 0 = .ok (.aload_n 0, 1) := by decide +kernel
theorem dX1_crackCanTake_1 : decode cX1_crackCanTake 1 = .ok (.invokevirtual 119, 3) := by decide +kernel
theorem dX1_crackCanTake_4 : decode cX1_crackCanTake 4 = .ok (.astore_n 1, 1) := by decide +kernel
theorem dX1_crackCanTake_5 : decode cX1_crackCanTake 5 = .ok (.aload_n 1, 1) := by decide +kernel
theorem dX1_crackCanTake_6 : decode cX1_crackCanTake 6 = .ok (.ifnonnull 7, 3) := by decide +kernel
theorem dX1_crackCanTake_9 : decode cX1_crackCanTake 9 = .ok (.aconst_null, 1) := by decide +kernel
theorem dX1_crackCanTake_10 : decode cX1_crackCanTake 10 = .ok (.goto 8, 3) := by decide +kernel
theorem dX1_crackCanTake_13 : decode cX1_crackCanTake 13 = .ok (.aload_n 0, 1) := by decide +kernel
theorem dX1_crackCanTake_14 : decode cX1_crackCanTake 14 = .ok (.aload_n 1, 1) := by decide +kernel
theorem dX1_crackCanTake_15 : decode cX1_crackCanTake 15 = .ok (.invokevirtual 154, 3) := by decide +kernel
theorem dX1_crackCanTake_18 : decode cX1_crackCanTake 18 = .ok (.astore_n 2, 1) := by decide +kernel
theorem dX1_crackCanTake_19 : decode cX1_crackCanTake 19 = .ok (.aload_n 2, 1) := by decide +kernel
theorem dX1_crackCanTake_20 : decode cX1_crackCanTake 20 = .ok (.ifnonnull 7, 3) := by decide +kernel
theorem dX1_crackCanTake_23 : decode cX1_crackCanTake 23 = .ok (.iconst 0, 1) := by decide +kernel
theorem dX1_crackCanTake_24 : decode cX1_crackCanTake 24 = .ok (.goto 8, 3) := by decide +kernel
theorem dX1_crackCanTake_27 : decode cX1_crackCanTake 27 = .ok (.aload_n 1, 1) := by decide +kernel
theorem dX1_crackCanTake_28 : decode cX1_crackCanTake 28 = .ok (.aload_n 2, 1) := by decide +kernel
theorem dX1_crackCanTake_29 : decode cX1_crackCanTake 29 = .ok (.invokestatic 158, 3) := by decide +kernel
theorem dX1_crackCanTake_32 : decode cX1_crackCanTake 32 = .ok (.ireturn, 1) := by decide +kernel
theorem dX1_letWaterSink_0 : decode cX1_letWaterSink 0 = .ok (.aload_n 0, 1) := by decide +kernel
theorem dX1_letWaterSink_1 : decode cX1_letWaterSink 1 = .ok (.getfield 12, 3) := by decide +kernel
theorem dX1_letWaterSink_4 : decode cX1_letWaterSink 4 = .ok (.invokevirtual 62, 3) := by decide +kernel
theorem dX1_letWaterSink_7 : decode cX1_letWaterSink 7 = .ok (.iconst 1, 1) := by decide +kernel
theorem dX1_letWaterSink_8 : decode cX1_letWaterSink 8 = .ok (.isub, 1) := by decide +kernel
theorem dX1_letWaterSink_9 : decode cX1_letWaterSink 9 = .ok (.istore_n 1, 1) := by decide +kernel
theorem dX1_letWaterSink_10 : decode cX1_letWaterSink 10 = .ok (.iload_n 1, 1) := by decide +kernel
theorem dX1_letWaterSink_11 : decode cX1_letWaterSink 11 = .ok (.ifCond .lt 146, 3) := by decide +kernel
theorem dX1_letWaterSink_14 : decode cX1_letWaterSink 14 = .ok (.aload_n 0, 1) := by decide +kernel
theorem dX1_letWaterSink_15 : decode cX1_letWaterSink 15 = .ok (.getfield 12, 3) := by decide +kernel
theorem dX1_letWaterSink_18 : decode cX1_letWaterSink 18 = .ok (.iload_n 1, 1) := by decide +kernel
theorem dX1_letWaterSink_19 : decode cX1_letWaterSink 19 = .ok (.invokevirtual 66, 3) := by decide +kernel
theorem dX1_letWaterSink_22 : decode cX1_letWaterSink 22 = .ok (.checkcast 70, 3) := by decide +kernel
theorem dX1_letWaterSink_25 : decode cX1_letWaterSink 25 = .ok (.astore_n 2, 1) := by decide +kernel
theorem dX1_letWaterSink_26 : decode cX1_letWaterSink 26 = .ok (.aload_n 2, 1) := by decide +kernel
theorem dX1_letWaterSink_27 : decode cX1_letWaterSink 27 = .ok (.aload_n 0, 1) := by decide +kernel
theorem dX1_letWaterSink_28 : decode cX1_letWaterSink 28 = .ok (.getfield 32, 3) := by decide +kernel
theorem dX1_letWaterSink_31 : decode cX1_letWaterSink 31 = .ok (.invokevirtual 183, 3) := by decide +kernel
theorem dX1_letWaterSink_34 : decode cX1_letWaterSink 34 = .ok (.istore_n 3, 1) := by decide +kernel
theorem dX1_letWaterSink_35 : decode cX1_letWaterSink 35 = .ok (.iload_n 1, 1) := by decide +kernel
theorem dX1_letWaterSink_36 : decode cX1_letWaterSink 36 = .ok (.iconst 1, 1) := by decide +kernel
theorem dX1_letWaterSink_37 : decode cX1_letWaterSink 37 = .ok (.iadd, 1) := by decide +kernel
theorem dX1_letWaterSink_38 : decode cX1_letWaterSink 38 = .ok (.aload_n 0, 1) := by decide +kernel
theorem dX1_letWaterSink_39 : decode cX1_letWaterSink 39 = .ok (.getfield 12, 3) := by decide +kernel
theorem dX1_letWaterSink_42 : decode cX1_letWaterSink 42 = .ok (.invokevirtual 62, 3) := by decide +kernel
theorem dX1_letWaterSink_45 : decode cX1_letWaterSink 45 = .ok (.if_icmp .ge 55, 3) := by decide +kernel
theorem dX1_letWaterSink_48 : decode cX1_letWaterSink 48 = .ok (.aload_n 0, 1) := by decide +kernel
theorem dX1_letWaterSink_49 : decode cX1_letWaterSink 49 = .ok (.getfield 12, 3) := by decide +kernel
theorem dX1_letWaterSink_52 : decode cX1_letWaterSink 52 = .ok (.iload_n 1, 1) := by decide +kernel
theorem dX1_letWaterSink_53 : decode cX1_letWaterSink 53 = .ok (.iconst 1, 1) := by decide +kernel
theorem dX1_letWaterSink_54 : decode cX1_letWaterSink 54 = .ok (.iadd, 1) := by decide +kernel
theorem dX1_letWaterSink_55 : decode cX1_letWaterSink 55 = .ok (.invokevirtual 66, 3) := by decide +kernel
theorem dX1_letWaterSink_58 : decode cX1_letWaterSink 58 = .ok (.checkcast 70, 3) := by decide +kernel
theorem dX1_letWaterSink_61 : decode cX1_letWaterSink 61 = .ok (.astore 4, 2) := by decide +kernel
theorem dX1_letWaterSink_63 : decode cX1_letWaterSink 63 = .ok (.iload_n 3, 1) := by decide +kernel
theorem dX1_letWaterSink_64 : decode cX1_letWaterSink 64 = .ok (.aload 4, 2) := by decide +kernel
theorem dX1_letWaterSink_66 : decode cX1_letWaterSink 66 = .ok (.invokevirtual 171, 3) := by decide +kernel
theorem dX1_letWaterSink_69 : decode cX1_letWaterSink 69 = .ok (.invokestatic 174, 3) := by decide +kernel
theorem dX1_letWaterSink_72 : decode cX1_letWaterSink 72 = .ok (.istore 5, 2) := by decide +kernel
theorem dX1_letWaterSink_74 : decode cX1_letWaterSink 74 = .ok (.aload_n 2, 1) := by decide +kernel
theorem dX1_letWaterSink_75 : decode cX1_letWaterSink 75 = .ok (.iload 5, 2) := by decide +kernel
theorem dX1_letWaterSink_77 : decode cX1_letWaterSink 77 = .ok (.aload 4, 2) := by decide +kernel
theorem dX1_letWaterSink_79 : decode cX1_letWaterSink 79 = .ok (.getfield 187, 3) := by decide +kernel
theorem dX1_letWaterSink_82 : decode cX1_letWaterSink 82 = .ok (.invokevirtual 191, 3) := by decide +kernel
theorem dX1_letWaterSink_85 : decode cX1_letWaterSink 85 = .ok (.aload 4, 2) := by decide +kernel
theorem dX1_letWaterSink_87 : decode cX1_letWaterSink 87 = .ok (.dup, 1) := by decide +kernel
theorem dX1_letWaterSink_88 : decode cX1_letWaterSink 88 = .ok (.getfield 148, 3) := by decide +kernel
theorem dX1_letWaterSink_91 : decode cX1_letWaterSink 91 = .ok (.iload 5, 2) := by decide +kernel
theorem dX1_letWaterSink_93 : decode cX1_letWaterSink 93 = .ok (.iadd, 1) := by decide +kernel
theorem dX1_letWaterSink_94 : decode cX1_letWaterSink 94 = .ok (.putfield 148, 3) := by decide +kernel
theorem dX1_letWaterSink_97 : decode cX1_letWaterSink 97 = .ok (.goto 54, 3) := by decide +kernel
theorem dX1_letWaterSink_100 : decode cX1_letWaterSink 100 = .ok (.aload_n 0, 1) := by decide +kernel
theorem dX1_letWaterSink_101 : decode cX1_letWaterSink 101 = .ok (.getfield 55, 3) := by decide +kernel
theorem dX1_letWaterSink_104 : decode cX1_letWaterSink 104 = .ok (.bipush 102, 2) := by decide +kernel
theorem dX1_letWaterSink_106 : decode cX1_letWaterSink 106 = .ok (.if_icmp .eq 19, 3) := by decide +kernel
theorem dX1_letWaterSink_109 : decode cX1_letWaterSink 109 = .ok (.aload_n 0, 1) := by decide +kernel
theorem dX1_letWaterSink_110 : decode cX1_letWaterSink 110 = .ok (.getfield 55, 3) := by decide +kernel
theorem dX1_letWaterSink_113 : decode cX1_letWaterSink 113 = .ok (.bipush 115, 2) := by decide +kernel
theorem dX1_letWaterSink_115 : decode cX1_letWaterSink 115 = .ok (.if_icmp .ne 36, 3) := by decide +kernel
theorem dX1_letWaterSink_118 : decode cX1_letWaterSink 118 = .ok (.aload_n 2, 1) := by decide +kernel
theorem dX1_letWaterSink_119 : decode cX1_letWaterSink 119 = .ok (.invokevirtual 195, 3) := by decide +kernel
theorem dX1_letWaterSink_122 : decode cX1_letWaterSink 122 = .ok (.ifCond .ne 29, 3) := by decide +kernel
theorem dX1_letWaterSink_125 : decode cX1_letWaterSink 125 = .ok (.aload_n 2, 1) := by decide +kernel
theorem dX1_letWaterSink_126 : decode cX1_letWaterSink 126 = .ok (.iload_n 3, 1) := by decide +kernel
theorem dX1_letWaterSink_127 : decode cX1_letWaterSink 127 = .ok (.aload_n 0, 1) := by decide +kernel
theorem dX1_letWaterSink_128 : decode cX1_letWaterSink 128 = .ok (.getfield 24, 3) := by decide +kernel
theorem dX1_letWaterSink_131 : decode cX1_letWaterSink 131 = .ok (.getfield 198, 3) := by decide +kernel
theorem dX1_letWaterSink_134 : decode cX1_letWaterSink 134 = .ok (.invokevirtual 191, 3) := by decide +kernel
theorem dX1_letWaterSink_137 : decode cX1_letWaterSink 137 = .ok (.aload_n 0, 1) := by decide +kernel
theorem dX1_letWaterSink_138 : decode cX1_letWaterSink 138 = .ok (.getfield 24, 3) := by decide +kernel
theorem dX1_letWaterSink_141 : decode cX1_letWaterSink 141 = .ok (.dup, 1) := by decide +kernel
theorem dX1_letWaterSink_142 : decode cX1_letWaterSink 142 = .ok (.getfield 201, 3) := by decide +kernel
theorem dX1_letWaterSink_145 : decode cX1_letWaterSink 145 = .ok (.iload_n 3, 1) := by decide +kernel
theorem dX1_letWaterSink_146 : decode cX1_letWaterSink 146 = .ok (.i2l, 1) := by decide +kernel
theorem dX1_letWaterSink_147 : decode cX1_letWaterSink 147 = .ok (.ladd, 1) := by decide +kernel
theorem dX1_letWaterSink_148 : decode cX1_letWaterSink 148 = .ok (.putfield 201, 3) := by decide +kernel
theorem dX1_letWaterSink_151 : decode cX1_letWaterSink 151 = .ok (.iinc 1 (-1), 3) := by decide +kernel
theorem dX1_letWaterSink_154 : decode cX1_letWaterSink 154 = .ok (.goto (-144), 3) := by decide +kernel
theorem dX1_letWaterSink_157 : decode cX1_letWaterSink 157 = .ok (.return_, 1) := by decide +kernel
theorem dX1_letDrink_0 : decode cX1_letDrink 0 = .ok (.iconst 0, 1) := by decide +kernel
theorem dX1_letDrink_1 : decode cX1_letDrink 1 = .ok (.istore_n 2, 1) := by decide +kernel
theorem dX1_letDrink_2 : decode cX1_letDrink 2 = .ok (.iconst 0, 1) := by decide +kernel
theorem dX1_letDrink_3 : decode cX1_letDrink 3 = .ok (.istore_n 3, 1) := by decide +kernel
theorem dX1_letDrink_4 : decode cX1_letDrink 4 = .ok (.iload_n 3, 1) := by decide +kernel
theorem dX1_letDrink_5 : decode cX1_letDrink 5 = .ok (.aload_n 0, 1) := by decide +kernel
theorem dX1_letDrink_6 : decode cX1_letDrink 6 = .ok (.getfield 12, 3) := by decide +kernel
theorem dX1_letDrink_9 : decode cX1_letDrink 9 = .ok (.invokevirtual 62, 3) := by decide +kernel
theorem dX1_letDrink_12 : decode cX1_letDrink 12 = .ok (.if_icmp .ge 34, 3) := by decide +kernel
theorem dX1_letDrink_15 : decode cX1_letDrink 15 = .ok (.iload_n 3, 1) := by decide +kernel
theorem dX1_letDrink_16 : decode cX1_letDrink 16 = .ok (.aload_n 1, 1) := by decide +kernel
theorem dX1_letDrink_17 : decode cX1_letDrink 17 = .ok (.getfield 204, 3) := by decide +kernel
theorem dX1_letDrink_20 : decode cX1_letDrink 20 = .ok (.if_icmp .ge 26, 3) := by decide +kernel
theorem dX1_letDrink_23 : decode cX1_letDrink 23 = .ok (.iload_n 2, 1) := by decide +kernel
theorem dX1_letDrink_24 : decode cX1_letDrink 24 = .ok (.aload_n 0, 1) := by decide +kernel
theorem dX1_letDrink_25 : decode cX1_letDrink 25 = .ok (.getfield 12, 3) := by decide +kernel
theorem dX1_letDrink_28 : decode cX1_letDrink 28 = .ok (.iload_n 3, 1) := by decide +kernel
theorem dX1_letDrink_29 : decode cX1_letDrink 29 = .ok (.invokevirtual 66, 3) := by decide +kernel
theorem dX1_letDrink_32 : decode cX1_letDrink 32 = .ok (.checkcast 70, 3) := by decide +kernel
theorem dX1_letDrink_35 : decode cX1_letDrink 35 = .ok (.invokevirtual 207, 3) := by decide +kernel
theorem dX1_letDrink_38 : decode cX1_letDrink 38 = .ok (.iadd, 1) := by decide +kernel
theorem dX1_letDrink_39 : decode cX1_letDrink 39 = .ok (.istore_n 2, 1) := by decide +kernel
theorem dX1_letDrink_40 : decode cX1_letDrink 40 = .ok (.iinc 3 1, 3) := by decide +kernel
theorem dX1_letDrink_43 : decode cX1_letDrink 43 = .ok (.goto (-39), 3) := by decide +kernel
theorem dX1_letDrink_46 : decode cX1_letDrink 46 = .ok (.aload_n 1, 1) := by decide +kernel
theorem dX1_letDrink_47 : decode cX1_letDrink 47 = .ok (.getfield 210, 3) := by decide +kernel
theorem dX1_letDrink_50 : decode cX1_letDrink 50 = .ok (.iload_n 2, 1) := by decide +kernel
theorem dX1_letDrink_51 : decode cX1_letDrink 51 = .ok (.invokestatic 174, 3) := by decide +kernel
theorem dX1_letDrink_54 : decode cX1_letDrink 54 = .ok (.istore_n 3, 1) := by decide +kernel
theorem dX1_letDrink_55 : decode cX1_letDrink 55 = .ok (.iload_n 3, 1) := by decide +kernel
theorem dX1_letDrink_56 : decode cX1_letDrink 56 = .ok (.istore 4, 2) := by decide +kernel
theorem dX1_letDrink_58 : decode cX1_letDrink 58 = .ok (.iconst 0, 1) := by decide +kernel
theorem dX1_letDrink_59 : decode cX1_letDrink 59 = .ok (.istore 5, 2) := by decide +kernel
theorem dX1_letDrink_61 : decode cX1_letDrink 61 = .ok (.iload_n 2, 1) := by decide +kernel
theorem dX1_letDrink_62 : decode cX1_letDrink 62 = .ok (.ifCond .le 74, 3) := by decide +kernel
theorem dX1_letDrink_65 : decode cX1_letDrink 65 = .ok (.iload 5, 2) := by decide +kernel
theorem dX1_letDrink_67 : decode cX1_letDrink 67 = .ok (.aload_n 0, 1) := by decide +kernel
theorem dX1_letDrink_68 : decode cX1_letDrink 68 = .ok (.getfield 12, 3) := by decide +kernel
theorem dX1_letDrink_71 : decode cX1_letDrink 71 = .ok (.invokevirtual 62, 3) := by decide +kernel
theorem dX1_letDrink_74 : decode cX1_letDrink 74 = .ok (.if_icmp .ge 62, 3) := by decide +kernel
theorem dX1_letDrink_77 : decode cX1_letDrink 77 = .ok (.iload 5, 2) := by decide +kernel
theorem dX1_letDrink_79 : decode cX1_letDrink 79 = .ok (.aload_n 1, 1) := by decide +kernel
theorem dX1_letDrink_80 : decode cX1_letDrink 80 = .ok (.getfield 204, 3) := by decide +kernel
theorem dX1_letDrink_83 : decode cX1_letDrink 83 = .ok (.if_icmp .ge 53, 3) := by decide +kernel
theorem dX1_letDrink_86 : decode cX1_letDrink 86 = .ok (.aload_n 0, 1) := by decide +kernel
theorem dX1_letDrink_87 : decode cX1_letDrink 87 = .ok (.getfield 12, 3) := by decide +kernel
theorem dX1_letDrink_90 : decode cX1_letDrink 90 = .ok (.iload 5, 2) := by decide +kernel
theorem dX1_letDrink_92 : decode cX1_letDrink 92 = .ok (.invokevirtual 66, 3) := by decide +kernel
theorem dX1_letDrink_95 : decode cX1_letDrink 95 = .ok (.checkcast 70, 3) := by decide +kernel
theorem dX1_letDrink_98 : decode cX1_letDrink 98 = .ok (.astore 6, 2) := by decide +kernel
theorem dX1_letDrink_100 : decode cX1_letDrink 100 = .ok (.iload_n 3, 1) := by decide +kernel
theorem dX1_letDrink_101 : decode cX1_letDrink 101 = .ok (.aload 6, 2) := by decide +kernel
theorem dX1_letDrink_103 : decode cX1_letDrink 103 = .ok (.invokevirtual 207, 3) := by decide +kernel
theorem dX1_letDrink_106 : decode cX1_letDrink 106 = .ok (.imul, 1) := by decide +kernel
theorem dX1_letDrink_107 : decode cX1_letDrink 107 = .ok (.iload_n 2, 1) := by decide +kernel
theorem dX1_letDrink_108 : decode cX1_letDrink 108 = .ok (.idiv, 1) := by decide +kernel
theorem dX1_letDrink_109 : decode cX1_letDrink 109 = .ok (.istore 7, 2) := by decide +kernel
theorem dX1_letDrink_111 : decode cX1_letDrink 111 = .ok (.aload 6, 2) := by decide +kernel
theorem dX1_letDrink_113 : decode cX1_letDrink 113 = .ok (.dup, 1) := by decide +kernel
theorem dX1_letDrink_114 : decode cX1_letDrink 114 = .ok (.getfield 148, 3) := by decide +kernel
theorem dX1_letDrink_117 : decode cX1_letDrink 117 = .ok (.iload 7, 2) := by decide +kernel
theorem dX1_letDrink_119 : decode cX1_letDrink 119 = .ok (.isub, 1) := by decide +kernel
theorem dX1_letDrink_120 : decode cX1_letDrink 120 = .ok (.putfield 148, 3) := by decide +kernel
theorem dX1_letDrink_123 : decode cX1_letDrink 123 = .ok (.iload 4, 2) := by decide +kernel
theorem dX1_letDrink_125 : decode cX1_letDrink 125 = .ok (.iload 7, 2) := by decide +kernel
theorem dX1_letDrink_127 : decode cX1_letDrink 127 = .ok (.isub, 1) := by decide +kernel
theorem dX1_letDrink_128 : decode cX1_letDrink 128 = .ok (.istore 4, 2) := by decide +kernel
theorem dX1_letDrink_130 : decode cX1_letDrink 130 = .ok (.iinc 5 1, 3) := by decide +kernel
theorem dX1_letDrink_133 : decode cX1_letDrink 133 = .ok (.goto (-72), 3) := by decide +kernel
theorem dX1_letDrink_136 : decode cX1_letDrink 136 = .ok (.iload 4, 2) := by decide +kernel
theorem dX1_letDrink_138 : decode cX1_letDrink 138 = .ok (.ifCond .le 35, 3) := by decide +kernel
theorem dX1_letDrink_141 : decode cX1_letDrink 141 = .ok (.aload_n 0, 1) := by decide +kernel
theorem dX1_letDrink_142 : decode cX1_letDrink 142 = .ok (.aload_n 1, 1) := by decide +kernel
theorem dX1_letDrink_143 : decode cX1_letDrink 143 = .ok (.getfield 204, 3) := by decide +kernel
theorem dX1_letDrink_146 : decode cX1_letDrink 146 = .ok (.invokevirtual 213, 3) := by decide +kernel
theorem dX1_letDrink_149 : decode cX1_letDrink 149 = .ok (.astore 5, 2) := by decide +kernel
theorem dX1_letDrink_151 : decode cX1_letDrink 151 = .ok (.aload 5, 2) := by decide +kernel
theorem dX1_letDrink_153 : decode cX1_letDrink 153 = .ok (.ifnull 14, 3) := by decide +kernel
theorem dX1_letDrink_156 : decode cX1_letDrink 156 = .ok (.aload 5, 2) := by decide +kernel
theorem dX1_letDrink_158 : decode cX1_letDrink 158 = .ok (.dup, 1) := by decide +kernel
theorem dX1_letDrink_159 : decode cX1_letDrink 159 = .ok (.getfield 148, 3) := by decide +kernel
theorem dX1_letDrink_162 : decode cX1_letDrink 162 = .ok (.iconst 1, 1) := by decide +kernel
theorem dX1_letDrink_163 : decode cX1_letDrink 163 = .ok (.isub, 1) := by decide +kernel
theorem dX1_letDrink_164 : decode cX1_letDrink 164 = .ok (.putfield 148, 3) := by decide +kernel
theorem dX1_letDrink_167 : decode cX1_letDrink 167 = .ok (.iinc 4 (-1), 3) := by decide +kernel
theorem dX1_letDrink_170 : decode cX1_letDrink 170 = .ok (.goto (-34), 3) := by decide +kernel
theorem dX1_letDrink_173 : decode cX1_letDrink 173 = .ok (.aload_n 1, 1) := by decide +kernel
theorem dX1_letDrink_174 : decode cX1_letDrink 174 = .ok (.dup, 1) := by decide +kernel
theorem dX1_letDrink_175 : decode cX1_letDrink 175 = .ok (.getfield 217, 3) := by decide +kernel
theorem dX1_letDrink_178 : decode cX1_letDrink 178 = .ok (.aload_n 1, 1) := by decide +kernel
theorem dX1_letDrink_179 : decode cX1_letDrink 179 = .ok (.getfield 210, 3) := by decide +kernel
theorem dX1_letDrink_182 : decode cX1_letDrink 182 = .ok (.iload_n 3, 1) := by decide +kernel
theorem dX1_letDrink_183 : decode cX1_letDrink 183 = .ok (.isub, 1) := by decide +kernel
theorem dX1_letDrink_184 : decode cX1_letDrink 184 = .ok (.i2l, 1) := by decide +kernel
theorem dX1_letDrink_185 : decode cX1_letDrink 185 = .ok (.ladd, 1) := by decide +kernel
theorem dX1_letDrink_186 : decode cX1_letDrink 186 = .ok (.putfield 217, 3) := by decide +kernel
theorem dX1_letDrink_189 : decode cX1_letDrink 189 = .ok (.aload_n 0, 1) := by decide +kernel
theorem dX1_letDrink_190 : decode cX1_letDrink 190 = .ok (.getfield 24, 3) := by decide +kernel
theorem dX1_letDrink_193 : decode cX1_letDrink 193 = .ok (.dup, 1) := by decide +kernel
theorem dX1_letDrink_194 : decode cX1_letDrink 194 = .ok (.getfield 220, 3) := by decide +kernel
theorem dX1_letDrink_197 : decode cX1_letDrink 197 = .ok (.iload_n 3, 1) := by decide +kernel
theorem dX1_letDrink_198 : decode cX1_letDrink 198 = .ok (.i2l, 1) := by decide +kernel
theorem dX1_letDrink_199 : decode cX1_letDrink 199 = .ok (.ladd, 1) := by decide +kernel
theorem dX1_letDrink_200 : decode cX1_letDrink 200 = .ok (.putfield 220, 3) := by decide +kernel
theorem dX1_letDrink_203 : decode cX1_letDrink 203 = .ok (.return_, 1) := by decide +kernel
theorem dX1_wettest_0 : decode cX1_wettest 0 = .ok (.aconst_null, 1) := by decide +kernel
theorem dX1_wettest_1 : decode cX1_wettest 1 = .ok (.astore_n 2, 1) := by decide +kernel
theorem dX1_wettest_2 : decode cX1_wettest 2 = .ok (.iconst 0, 1) := by decide +kernel
theorem dX1_wettest_3 : decode cX1_wettest 3 = .ok (.istore_n 3, 1) := by decide +kernel
theorem dX1_wettest_4 : decode cX1_wettest 4 = .ok (.iload_n 3, 1) := by decide +kernel
theorem dX1_wettest_5 : decode cX1_wettest 5 = .ok (.aload_n 0, 1) := by decide +kernel
theorem dX1_wettest_6 : decode cX1_wettest 6 = .ok (.getfield 12, 3) := by decide +kernel
theorem dX1_wettest_9 : decode cX1_wettest 9 = .ok (.invokevirtual 62, 3) := by decide +kernel
theorem dX1_wettest_12 : decode cX1_wettest 12 = .ok (.if_icmp .ge 54, 3) := by decide +kernel
theorem dX1_wettest_15 : decode cX1_wettest 15 = .ok (.iload_n 3, 1) := by decide +kernel
theorem dX1_wettest_16 : decode cX1_wettest 16 = .ok (.iload_n 1, 1) := by decide +kernel
theorem dX1_wettest_17 : decode cX1_wettest 17 = .ok (.if_icmp .ge 49, 3) := by decide +kernel
theorem dX1_wettest_20 : decode cX1_wettest 20 = .ok (.aload_n 0, 1) := by decide +kernel
theorem dX1_wettest_21 : decode cX1_wettest 21 = .ok (.getfield 12, 3) := by decide +kernel
theorem dX1_wettest_24 : decode cX1_wettest 24 = .ok (.iload_n 3, 1) := by decide +kernel
theorem dX1_wettest_25 : decode cX1_wettest 25 = .ok (.invokevirtual 66, 3) := by decide +kernel
theorem dX1_wettest_28 : decode cX1_wettest 28 = .ok (.checkcast 70, 3) := by decide +kernel
theorem dX1_wettest_31 : decode cX1_wettest 31 = .ok (.astore 4, 2) := by decide +kernel
theorem dX1_wettest_33 : decode cX1_wettest 33 = .ok (.aload 4, 2) := by decide +kernel
theorem dX1_wettest_35 : decode cX1_wettest 35 = .ok (.invokevirtual 207, 3) := by decide +kernel
theorem dX1_wettest_38 : decode cX1_wettest 38 = .ok (.ifCond .le 22, 3) := by decide +kernel
theorem dX1_wettest_41 : decode cX1_wettest 41 = .ok (.aload_n 2, 1) := by decide +kernel
theorem dX1_wettest_42 : decode cX1_wettest 42 = .ok (.ifnull 15, 3) := by decide +kernel
theorem dX1_wettest_45 : decode cX1_wettest 45 = .ok (.aload 4, 2) := by decide +kernel
theorem dX1_wettest_47 : decode cX1_wettest 47 = .ok (.invokevirtual 207, 3) := by decide +kernel
theorem dX1_wettest_50 : decode cX1_wettest 50 = .ok (.aload_n 2, 1) := by decide +kernel
theorem dX1_wettest_51 : decode cX1_wettest 51 = .ok (.invokevirtual 207, 3) := by decide +kernel
theorem dX1_wettest_54 : decode cX1_wettest 54 = .ok (.if_icmp .le 6, 3) := by decide +kernel
theorem dX1_wettest_57 : decode cX1_wettest 57 = .ok (.aload 4, 2) := by decide +kernel
theorem dX1_wettest_59 : decode cX1_wettest 59 = .ok (.astore_n 2, 1) := by decide +kernel
theorem dX1_wettest_60 : decode cX1_wettest 60 = .ok (.iinc 3 1, 3) := by decide +kernel
theorem dX1_wettest_63 : decode cX1_wettest 63 = .ok (.goto (-59), 3) := by decide +kernel
theorem dX1_wettest_66 : decode cX1_wettest 66 = .ok (.aload_n 2, 1) := by decide +kernel
theorem dX1_wettest_67 : decode cX1_wettest 67 = .ok (.areturn, 1) := by decide +kernel
theorem dX1_letWaterDry_0 : decode cX1_letWaterDry 0 = .ok (.iload_n 1, 1) := by decide +kernel
theorem dX1_letWaterDry_1 : decode cX1_letWaterDry 1 = .ok (.aload_n 0, 1) := by decide +kernel
theorem dX1_letWaterDry_2 : decode cX1_letWaterDry 2 = .ok (.getfield 45, 3) := by decide +kernel
theorem dX1_letWaterDry_5 : decode cX1_letWaterDry 5 = .ok (.invokestatic 174, 3) := by decide +kernel
theorem dX1_letWaterDry_8 : decode cX1_letWaterDry 8 = .ok (.istore_n 2, 1) := by decide +kernel
theorem dX1_letWaterDry_9 : decode cX1_letWaterDry 9 = .ok (.aload_n 0, 1) := by decide +kernel
theorem dX1_letWaterDry_10 : decode cX1_letWaterDry 10 = .ok (.dup, 1) := by decide +kernel
theorem dX1_letWaterDry_11 : decode cX1_letWaterDry 11 = .ok (.getfield 45, 3) := by decide +kernel
theorem dX1_letWaterDry_14 : decode cX1_letWaterDry 14 = .ok (.iload_n 2, 1) := by decide +kernel
theorem dX1_letWaterDry_15 : decode cX1_letWaterDry 15 = .ok (.isub, 1) := by decide +kernel
theorem dX1_letWaterDry_16 : decode cX1_letWaterDry 16 = .ok (.putfield 45, 3) := by decide +kernel
theorem dX1_letWaterDry_19 : decode cX1_letWaterDry 19 = .ok (.aload_n 0, 1) := by decide +kernel
theorem dX1_letWaterDry_20 : decode cX1_letWaterDry 20 = .ok (.getfield 24, 3) := by decide +kernel
theorem dX1_letWaterDry_23 : decode cX1_letWaterDry 23 = .ok (.dup, 1) := by decide +kernel
theorem dX1_letWaterDry_24 : decode cX1_letWaterDry 24 = .ok (.getfield 220, 3) := by decide +kernel
theorem dX1_letWaterDry_27 : decode cX1_letWaterDry 27 = .ok (.iload_n 2, 1) := by decide +kernel
theorem dX1_letWaterDry_28 : decode cX1_letWaterDry 28 = .ok (.i2l, 1) := by decide +kernel
theorem dX1_letWaterDry_29 : decode cX1_letWaterDry 29 = .ok (.ladd, 1) := by decide +kernel
theorem dX1_letWaterDry_30 : decode cX1_letWaterDry 30 = .ok (.putfield 220, 3) := by decide +kernel
theorem dX1_letWaterDry_33 : decode cX1_letWaterDry 33 = .ok (.aload_n 0, 1) := by decide +kernel
theorem dX1_letWaterDry_34 : decode cX1_letWaterDry 34 = .ok (.invokevirtual 119, 3) := by decide +kernel
theorem dX1_letWaterDry_37 : decode cX1_letWaterDry 37 = .ok (.astore_n 3, 1) := by decide +kernel
theorem dX1_letWaterDry_38 : decode cX1_letWaterDry 38 = .ok (.aload_n 3, 1) := by decide +kernel
theorem dX1_letWaterDry_39 : decode cX1_letWaterDry 39 = .ok (.ifnull 41, 3) := by decide +kernel
theorem dX1_letWaterDry_42 : decode cX1_letWaterDry 42 = .ok (.iload_n 1, 1) := by decide +kernel
theorem dX1_letWaterDry_43 : decode cX1_letWaterDry 43 = .ok (.iload_n 2, 1) := by decide +kernel
theorem dX1_letWaterDry_44 : decode cX1_letWaterDry 44 = .ok (.isub, 1) := by decide +kernel
theorem dX1_letWaterDry_45 : decode cX1_letWaterDry 45 = .ok (.aload_n 3, 1) := by decide +kernel
theorem dX1_letWaterDry_46 : decode cX1_letWaterDry 46 = .ok (.invokevirtual 223, 3) := by decide +kernel
theorem dX1_letWaterDry_49 : decode cX1_letWaterDry 49 = .ok (.invokestatic 174, 3) := by decide +kernel
theorem dX1_letWaterDry_52 : decode cX1_letWaterDry 52 = .ok (.istore 4, 2) := by decide +kernel
theorem dX1_letWaterDry_54 : decode cX1_letWaterDry 54 = .ok (.aload_n 3, 1) := by decide +kernel
theorem dX1_letWaterDry_55 : decode cX1_letWaterDry 55 = .ok (.dup, 1) := by decide +kernel
theorem dX1_letWaterDry_56 : decode cX1_letWaterDry 56 = .ok (.getfield 148, 3) := by decide +kernel
theorem dX1_letWaterDry_59 : decode cX1_letWaterDry 59 = .ok (.iload 4, 2) := by decide +kernel
theorem dX1_letWaterDry_61 : decode cX1_letWaterDry 61 = .ok (.isub, 1) := by decide +kernel
theorem dX1_letWaterDry_62 : decode cX1_letWaterDry 62 = .ok (.putfield 148, 3) := by decide +kernel
theorem dX1_letWaterDry_65 : decode cX1_letWaterDry 65 = .ok (.aload_n 0, 1) := by decide +kernel
theorem dX1_letWaterDry_66 : decode cX1_letWaterDry 66 = .ok (.getfield 24, 3) := by decide +kernel
theorem dX1_letWaterDry_69 : decode cX1_letWaterDry 69 = .ok (.dup, 1) := by decide +kernel
theorem dX1_letWaterDry_70 : decode cX1_letWaterDry 70 = .ok (.getfield 220, 3) := by decide +kernel
theorem dX1_letWaterDry_73 : decode cX1_letWaterDry 73 = .ok (.iload 4, 2) := by decide +kernel
theorem dX1_letWaterDry_75 : decode cX1_letWaterDry 75 = .ok (.i2l, 1) := by decide +kernel
theorem dX1_letWaterDry_76 : decode cX1_letWaterDry 76 = .ok (.ladd, 1) := by decide +kernel
theorem dX1_letWaterDry_77 : decode cX1_letWaterDry 77 = .ok (.putfield 220, 3) := by decide +kernel
theorem dX1_letWaterDry_80 : decode cX1_letWaterDry 80 = .ok (.return_, 1) := by decide +kernel
theorem dX1_makeNitrate_0 : decode cX1_makeNitrate 0 = .ok (.aload_n 0, 1) := by decide +kernel
theorem dX1_makeNitrate_1 : decode cX1_makeNitrate 1 = .ok (.invokevirtual 119, 3) := by decide +kernel
theorem dX1_makeNitrate_4 : decode cX1_makeNitrate 4 = .ok (.astore_n 2, 1) := by decide +kernel
theorem dX1_makeNitrate_5 : decode cX1_makeNitrate 5 = .ok (.aload_n 2, 1) := by decide +kernel
theorem dX1_makeNitrate_6 : decode cX1_makeNitrate 6 = .ok (.ifnull 14, 3) := by decide +kernel
theorem dX1_makeNitrate_9 : decode cX1_makeNitrate 9 = .ok (.aload_n 2, 1) := by decide +kernel
theorem dX1_makeNitrate_10 : decode cX1_makeNitrate 10 = .ok (.getfield 116, 3) := by decide +kernel
theorem dX1_makeNitrate_13 : decode cX1_makeNitrate 13 = .ok (.ifCond .ne 7, 3) := by decide +kernel
theorem dX1_makeNitrate_16 : decode cX1_makeNitrate 16 = .ok (.iload_n 1, 1) := by decide +kernel
theorem dX1_makeNitrate_17 : decode cX1_makeNitrate 17 = .ok (.ifCond .gt 4, 3) := by decide +kernel
theorem dX1_makeNitrate_20 : decode cX1_makeNitrate 20 = .ok (.return_, 1) := by decide +kernel
theorem dX1_makeNitrate_21 : decode cX1_makeNitrate 21 = .ok (.aload_n 0, 1) := by decide +kernel
theorem dX1_makeNitrate_22 : decode cX1_makeNitrate 22 = .ok (.getfield 52, 3) := by decide +kernel
theorem dX1_makeNitrate_25 : decode cX1_makeNitrate 25 = .ok (.iload_n 1, 1) := by decide +kernel
theorem dX1_makeNitrate_26 : decode cX1_makeNitrate 26 = .ok (.i2l, 1) := by decide +kernel
theorem dX1_makeNitrate_27 : decode cX1_makeNitrate 27 = .ok (.lmul, 1) := by decide +kernel
theorem dX1_makeNitrate_28 : decode cX1_makeNitrate 28 = .ok (.ldc2_w 226, 3) := by decide +kernel
theorem dX1_makeNitrate_31 : decode cX1_makeNitrate 31 = .ok (.ldiv, 1) := by decide +kernel
theorem dX1_makeNitrate_32 : decode cX1_makeNitrate 32 = .ok (.lstore_n 3, 1) := by decide +kernel
theorem dX1_makeNitrate_33 : decode cX1_makeNitrate 33 = .ok (.aload_n 0, 1) := by decide +kernel
theorem dX1_makeNitrate_34 : decode cX1_makeNitrate 34 = .ok (.dup, 1) := by decide +kernel
theorem dX1_makeNitrate_35 : decode cX1_makeNitrate 35 = .ok (.getfield 52, 3) := by decide +kernel
theorem dX1_makeNitrate_38 : decode cX1_makeNitrate 38 = .ok (.lload_n 3, 1) := by decide +kernel
theorem dX1_makeNitrate_39 : decode cX1_makeNitrate 39 = .ok (.lsub, 1) := by decide +kernel
theorem dX1_makeNitrate_40 : decode cX1_makeNitrate 40 = .ok (.putfield 52, 3) := by decide +kernel
theorem dX1_makeNitrate_43 : decode cX1_makeNitrate 43 = .ok (.aload_n 2, 1) := by decide +kernel
theorem dX1_makeNitrate_44 : decode cX1_makeNitrate 44 = .ok (.getfield 187, 3) := by decide +kernel
theorem dX1_makeNitrate_47 : decode cX1_makeNitrate 47 = .ok (.iconst 0, 1) := by decide +kernel
theorem dX1_makeNitrate_48 : decode cX1_makeNitrate 48 = .ok (.lload_n 3, 1) := by decide +kernel
theorem dX1_makeNitrate_49 : decode cX1_makeNitrate 49 = .ok (.invokevirtual 228, 3) := by decide +kernel
theorem dX1_makeNitrate_52 : decode cX1_makeNitrate 52 = .ok (.aload_n 0, 1) := by decide +kernel
theorem dX1_makeNitrate_53 : decode cX1_makeNitrate 53 = .ok (.getfield 24, 3) := by decide +kernel
theorem dX1_makeNitrate_56 : decode cX1_makeNitrate 56 = .ok (.getfield 234, 3) := by decide +kernel
theorem dX1_makeNitrate_59 : decode cX1_makeNitrate 59 = .ok (.iconst 0, 1) := by decide +kernel
theorem dX1_makeNitrate_60 : decode cX1_makeNitrate 60 = .ok (.lload_n 3, 1) := by decide +kernel
theorem dX1_makeNitrate_61 : decode cX1_makeNitrate 61 = .ok (.invokevirtual 228, 3) := by decide +kernel
theorem dX1_makeNitrate_64 : decode cX1_makeNitrate 64 = .ok (.return_, 1) := by decide +kernel
theorem dX1_eatNitrate_0 : decode cX1_eatNitrate 0 = .ok (.iload_n 1, 1) := by decide +kernel
theorem dX1_eatNitrate_1 : decode cX1_eatNitrate 1 = .ok (.iconst 5, 1) := by decide +kernel
theorem dX1_eatNitrate_2 : decode cX1_eatNitrate 2 = .ok (.if_icmp .gt 4, 3) := by decide +kernel
theorem dX1_eatNitrate_5 : decode cX1_eatNitrate 5 = .ok (.return_, 1) := by decide +kernel
theorem dX1_eatNitrate_6 : decode cX1_eatNitrate 6 = .ok (.iconst 0, 1) := by decide +kernel
theorem dX1_eatNitrate_7 : decode cX1_eatNitrate 7 = .ok (.istore_n 2, 1) := by decide +kernel
theorem dX1_eatNitrate_8 : decode cX1_eatNitrate 8 = .ok (.iload_n 2, 1) := by decide +kernel
theorem dX1_eatNitrate_9 : decode cX1_eatNitrate 9 = .ok (.aload_n 0, 1) := by decide +kernel
theorem dX1_eatNitrate_10 : decode cX1_eatNitrate 10 = .ok (.getfield 12, 3) := by decide +kernel
theorem dX1_eatNitrate_13 : decode cX1_eatNitrate 13 = .ok (.invokevirtual 62, 3) := by decide +kernel
theorem dX1_eatNitrate_16 : decode cX1_eatNitrate 16 = .ok (.if_icmp .ge 87, 3) := by decide +kernel
theorem dX1_eatNitrate_19 : decode cX1_eatNitrate 19 = .ok (.aload_n 0, 1) := by decide +kernel
theorem dX1_eatNitrate_20 : decode cX1_eatNitrate 20 = .ok (.getfield 12, 3) := by decide +kernel
theorem dX1_eatNitrate_23 : decode cX1_eatNitrate 23 = .ok (.iload_n 2, 1) := by decide +kernel
theorem dX1_eatNitrate_24 : decode cX1_eatNitrate 24 = .ok (.invokevirtual 66, 3) := by decide +kernel
theorem dX1_eatNitrate_27 : decode cX1_eatNitrate 27 = .ok (.checkcast 70, 3) := by decide +kernel
theorem dX1_eatNitrate_30 : decode cX1_eatNitrate 30 = .ok (.astore_n 3, 1) := by decide +kernel
theorem dX1_eatNitrate_31 : decode cX1_eatNitrate 31 = .ok (.aload_n 3, 1) := by decide +kernel
theorem dX1_eatNitrate_32 : decode cX1_eatNitrate 32 = .ok (.getfield 116, 3) := by decide +kernel
theorem dX1_eatNitrate_35 : decode cX1_eatNitrate 35 = .ok (.ifCond .ne 62, 3) := by decide +kernel
theorem dX1_eatNitrate_38 : decode cX1_eatNitrate 38 = .ok (.aload_n 3, 1) := by decide +kernel
theorem dX1_eatNitrate_39 : decode cX1_eatNitrate 39 = .ok (.getfield 148, 3) := by decide +kernel
theorem dX1_eatNitrate_42 : decode cX1_eatNitrate 42 = .ok (.aload_n 3, 1) := by decide +kernel
theorem dX1_eatNitrate_43 : decode cX1_eatNitrate 43 = .ok (.getfield 237, 3) := by decide +kernel
theorem dX1_eatNitrate_46 : decode cX1_eatNitrate 46 = .ok (.bipush 9, 2) := by decide +kernel
theorem dX1_eatNitrate_48 : decode cX1_eatNitrate 48 = .ok (.imul, 1) := by decide +kernel
theorem dX1_eatNitrate_49 : decode cX1_eatNitrate 49 = .ok (.bipush 10, 2) := by decide +kernel
theorem dX1_eatNitrate_51 : decode cX1_eatNitrate 51 = .ok (.idiv, 1) := by decide +kernel
theorem dX1_eatNitrate_52 : decode cX1_eatNitrate 52 = .ok (.if_icmp .lt 45, 3) := by decide +kernel
theorem dX1_eatNitrate_55 : decode cX1_eatNitrate 55 = .ok (.aload_n 3, 1) := by decide +kernel
theorem dX1_eatNitrate_56 : decode cX1_eatNitrate 56 = .ok (.getfield 187, 3) := by decide +kernel
theorem dX1_eatNitrate_59 : decode cX1_eatNitrate 59 = .ok (.iconst 0, 1) := by decide +kernel
theorem dX1_eatNitrate_60 : decode cX1_eatNitrate 60 = .ok (.invokevirtual 240, 3) := by decide +kernel
theorem dX1_eatNitrate_63 : decode cX1_eatNitrate 63 = .ok (.iload_n 1, 1) := by decide +kernel
theorem dX1_eatNitrate_64 : decode cX1_eatNitrate 64 = .ok (.i2l, 1) := by decide +kernel
theorem dX1_eatNitrate_65 : decode cX1_eatNitrate 65 = .ok (.lmul, 1) := by decide +kernel
theorem dX1_eatNitrate_66 : decode cX1_eatNitrate 66 = .ok (.ldc2_w 243, 3) := by decide +kernel
theorem dX1_eatNitrate_69 : decode cX1_eatNitrate 69 = .ok (.ldiv, 1) := by decide +kernel
theorem dX1_eatNitrate_70 : decode cX1_eatNitrate 70 = .ok (.lstore 4, 2) := by decide +kernel
theorem dX1_eatNitrate_72 : decode cX1_eatNitrate 72 = .ok (.aload_n 3, 1) := by decide +kernel
theorem dX1_eatNitrate_73 : decode cX1_eatNitrate 73 = .ok (.getfield 187, 3) := by decide +kernel
theorem dX1_eatNitrate_76 : decode cX1_eatNitrate 76 = .ok (.iconst 0, 1) := by decide +kernel
theorem dX1_eatNitrate_77 : decode cX1_eatNitrate 77 = .ok (.lload 4, 2) := by decide +kernel
theorem dX1_eatNitrate_79 : decode cX1_eatNitrate 79 = .ok (.lneg, 1) := by decide +kernel
theorem dX1_eatNitrate_80 : decode cX1_eatNitrate 80 = .ok (.invokevirtual 228, 3) := by decide +kernel
theorem dX1_eatNitrate_83 : decode cX1_eatNitrate 83 = .ok (.aload_n 0, 1) := by decide +kernel
theorem dX1_eatNitrate_84 : decode cX1_eatNitrate 84 = .ok (.getfield 24, 3) := by decide +kernel
theorem dX1_eatNitrate_87 : decode cX1_eatNitrate 87 = .ok (.dup, 1) := by decide +kernel
theorem dX1_eatNitrate_88 : decode cX1_eatNitrate 88 = .ok (.getfield 245, 3) := by decide +kernel
theorem dX1_eatNitrate_91 : decode cX1_eatNitrate 91 = .ok (.lload 4, 2) := by decide +kernel
theorem dX1_eatNitrate_93 : decode cX1_eatNitrate 93 = .ok (.ladd, 1) := by decide +kernel
theorem dX1_eatNitrate_94 : decode cX1_eatNitrate 94 = .ok (.putfield 245, 3) := by decide +kernel
theorem dX1_eatNitrate_97 : decode cX1_eatNitrate 97 = .ok (.iinc 2 1, 3) := by decide +kernel
theorem dX1_eatNitrate_100 : decode cX1_eatNitrate 100 = .ok (.goto (-92), 3) := by decide +kernel
theorem dX1_eatNitrate_103 : decode cX1_eatNitrate 103 = .ok (.return_, 1) := by decide +kernel
theorem dX1_waterOfLayers_0 : decode cX1_waterOfLayers 0 = .ok (.iconst 0, 1) := by decide +kernel
theorem dX1_waterOfLayers_1 : decode cX1_waterOfLayers 1 = .ok (.istore_n 1, 1) := by decide +kernel
theorem dX1_waterOfLayers_2 : decode cX1_waterOfLayers 2 = .ok (.iconst 0, 1) := by decide +kernel
theorem dX1_waterOfLayers_3 : decode cX1_waterOfLayers 3 = .ok (.istore_n 2, 1) := by decide +kernel
theorem dX1_waterOfLayers_4 : decode cX1_waterOfLayers 4 = .ok (.iload_n 2, 1) := by decide +kernel
theorem dX1_waterOfLayers_5 : decode cX1_waterOfLayers 5 = .ok (.aload_n 0, 1) := by decide +kernel
theorem dX1_waterOfLayers_6 : decode cX1_waterOfLayers 6 = .ok (.getfield 12, 3) := by decide +kernel
theorem dX1_waterOfLayers_9 : decode cX1_waterOfLayers 9 = .ok (.invokevirtual 62, 3) := by decide +kernel
theorem dX1_waterOfLayers_12 : decode cX1_waterOfLayers 12 = .ok (.if_icmp .ge 26, 3) := by decide +kernel
theorem dX1_waterOfLayers_15 : decode cX1_waterOfLayers 15 = .ok (.iload_n 1, 1) := by decide +kernel
theorem dX1_waterOfLayers_16 : decode cX1_waterOfLayers 16 = .ok (.aload_n 0, 1) := by decide +kernel
theorem dX1_waterOfLayers_17 : decode cX1_waterOfLayers 17 = .ok (.getfield 12, 3) := by decide +kernel
theorem dX1_waterOfLayers_20 : decode cX1_waterOfLayers 20 = .ok (.iload_n 2, 1) := by decide +kernel
theorem dX1_waterOfLayers_21 : decode cX1_waterOfLayers 21 = .ok (.invokevirtual 66, 3) := by decide +kernel
theorem dX1_waterOfLayers_24 : decode cX1_waterOfLayers 24 = .ok (.checkcast 70, 3) := by decide +kernel
theorem dX1_waterOfLayers_27 : decode cX1_waterOfLayers 27 = .ok (.getfield 148, 3) := by decide +kernel
theorem dX1_waterOfLayers_30 : decode cX1_waterOfLayers 30 = .ok (.iadd, 1) := by decide +kernel
theorem dX1_waterOfLayers_31 : decode cX1_waterOfLayers 31 = .ok (.istore_n 1, 1) := by decide +kernel
theorem dX1_waterOfLayers_32 : decode cX1_waterOfLayers 32 = .ok (.iinc 2 1, 3) := by decide +kernel
theorem dX1_waterOfLayers_35 : decode cX1_waterOfLayers 35 = .ok (.goto (-31), 3) := by decide +kernel
theorem dX1_waterOfLayers_38 : decode cX1_waterOfLayers 38 = .ok (.iload_n 1, 1) := by decide +kernel
theorem dX1_waterOfLayers_39 : decode cX1_waterOfLayers 39 = .ok (.ireturn, 1) := by decide +kernel
theorem dX1_frozenWater_0 : decode cX1_frozenWater 0 = .ok (.iconst 0, 1) := by decide +kernel
theorem dX1_frozenWater_1 : decode cX1_frozenWater 1 = .ok (.istore_n 1, 1) := by decide +kernel
theorem dX1_frozenWater_2 : decode cX1_frozenWater 2 = .ok (.iconst 0, 1) := by decide +kernel
theorem dX1_frozenWater_3 : decode cX1_frozenWater 3 = .ok (.istore_n 2, 1) := by decide +kernel
theorem dX1_frozenWater_4 : decode cX1_frozenWater 4 = .ok (.iload_n 2, 1) := by decide +kernel
theorem dX1_frozenWater_5 : decode cX1_frozenWater 5 = .ok (.aload_n 0, 1) := by decide +kernel
theorem dX1_frozenWater_6 : decode cX1_frozenWater 6 = .ok (.getfield 12, 3) := by decide +kernel
theorem dX1_frozenWater_9 : decode cX1_frozenWater 9 = .ok (.invokevirtual 62, 3) := by decide +kernel
theorem dX1_frozenWater_12 : decode cX1_frozenWater 12 = .ok (.if_icmp .ge 39, 3) := by decide +kernel
theorem dX1_frozenWater_15 : decode cX1_frozenWater 15 = .ok (.aload_n 0, 1) := by decide +kernel
theorem dX1_frozenWater_16 : decode cX1_frozenWater 16 = .ok (.getfield 12, 3) := by decide +kernel
theorem dX1_frozenWater_19 : decode cX1_frozenWater 19 = .ok (.iload_n 2, 1) := by decide +kernel
theorem dX1_frozenWater_20 : decode cX1_frozenWater 20 = .ok (.invokevirtual 66, 3) := by decide +kernel
theorem dX1_frozenWater_23 : decode cX1_frozenWater 23 = .ok (.checkcast 70, 3) := by decide +kernel
theorem dX1_frozenWater_26 : decode cX1_frozenWater 26 = .ok (.astore_n 3, 1) := by decide +kernel
theorem dX1_frozenWater_27 : decode cX1_frozenWater 27 = .ok (.iload_n 1, 1) := by decide +kernel
theorem dX1_frozenWater_28 : decode cX1_frozenWater 28 = .ok (.aload_n 3, 1) := by decide +kernel
theorem dX1_frozenWater_29 : decode cX1_frozenWater 29 = .ok (.getfield 116, 3) := by decide +kernel
theorem dX1_frozenWater_32 : decode cX1_frozenWater 32 = .ok (.ifCond .eq 10, 3) := by decide +kernel
theorem dX1_frozenWater_35 : decode cX1_frozenWater 35 = .ok (.aload_n 3, 1) := by decide +kernel
theorem dX1_frozenWater_36 : decode cX1_frozenWater 36 = .ok (.getfield 148, 3) := by decide +kernel
theorem dX1_frozenWater_39 : decode cX1_frozenWater 39 = .ok (.goto 4, 3) := by decide +kernel
theorem dX1_frozenWater_42 : decode cX1_frozenWater 42 = .ok (.iconst 0, 1) := by decide +kernel
theorem dX1_frozenWater_43 : decode cX1_frozenWater 43 = .ok (.iadd, 1) := by decide +kernel
theorem dX1_frozenWater_44 : decode cX1_frozenWater 44 = .ok (.istore_n 1, 1) := by decide +kernel
theorem dX1_frozenWater_45 : decode cX1_frozenWater 45 = .ok (.iinc 2 1, 3) := by decide +kernel
theorem dX1_frozenWater_48 : decode cX1_frozenWater 48 = .ok (.goto (-44), 3) := by decide +kernel
theorem dX1_frozenWater_51 : decode cX1_frozenWater 51 = .ok (.iload_n 1, 1) := by decide +kernel
theorem dX1_frozenWater_52 : decode cX1_frozenWater 52 = .ok (.ireturn, 1) := by decide +kernel
theorem dX1_frozenLayers_0 : decode cX1_frozenLayers 0 = .ok (.iconst 0, 1) := by decide +kernel
theorem dX1_frozenLayers_1 : decode cX1_frozenLayers 1 = .ok (.istore_n 1, 1) := by decide +kernel
theorem dX1_frozenLayers_2 : decode cX1_frozenLayers 2 = .ok (.iconst 0, 1) := by decide +kernel
theorem dX1_frozenLayers_3 : decode cX1_frozenLayers 3 = .ok (.istore_n 2, 1) := by decide +kernel
theorem dX1_frozenLayers_4 : decode cX1_frozenLayers 4 = .ok (.iload_n 2, 1) := by decide +kernel
theorem dX1_frozenLayers_5 : decode cX1_frozenLayers 5 = .ok (.aload_n 0, 1) := by decide +kernel
theorem dX1_frozenLayers_6 : decode cX1_frozenLayers 6 = .ok (.getfield 12, 3) := by decide +kernel
theorem dX1_frozenLayers_9 : decode cX1_frozenLayers 9 = .ok (.invokevirtual 62, 3) := by decide +kernel
theorem dX1_frozenLayers_12 : decode cX1_frozenLayers 12 = .ok (.if_icmp .ge 34, 3) := by decide +kernel
theorem dX1_frozenLayers_15 : decode cX1_frozenLayers 15 = .ok (.iload_n 1, 1) := by decide +kernel
theorem dX1_frozenLayers_16 : decode cX1_frozenLayers 16 = .ok (.aload_n 0, 1) := by decide +kernel
theorem dX1_frozenLayers_17 : decode cX1_frozenLayers 17 = .ok (.getfield 12, 3) := by decide +kernel
theorem dX1_frozenLayers_20 : decode cX1_frozenLayers 20 = .ok (.iload_n 2, 1) := by decide +kernel
theorem dX1_frozenLayers_21 : decode cX1_frozenLayers 21 = .ok (.invokevirtual 66, 3) := by decide +kernel
theorem dX1_frozenLayers_24 : decode cX1_frozenLayers 24 = .ok (.checkcast 70, 3) := by decide +kernel
theorem dX1_frozenLayers_27 : decode cX1_frozenLayers 27 = .ok (.getfield 116, 3) := by decide +kernel
theorem dX1_frozenLayers_30 : decode cX1_frozenLayers 30 = .ok (.ifCond .eq 7, 3) := by decide +kernel
theorem dX1_frozenLayers_33 : decode cX1_frozenLayers 33 = .ok (.iconst 1, 1) := by decide +kernel
theorem dX1_frozenLayers_34 : decode cX1_frozenLayers 34 = .ok (.goto 4, 3) := by decide +kernel
theorem dX1_frozenLayers_37 : decode cX1_frozenLayers 37 = .ok (.iconst 0, 1) := by decide +kernel
theorem dX1_frozenLayers_38 : decode cX1_frozenLayers 38 = .ok (.iadd, 1) := by decide +kernel
theorem dX1_frozenLayers_39 : decode cX1_frozenLayers 39 = .ok (.istore_n 1, 1) := by decide +kernel
theorem dX1_frozenLayers_40 : decode cX1_frozenLayers 40 = .ok (.iinc 2 1, 3) := by decide +kernel
theorem dX1_frozenLayers_43 : decode cX1_frozenLayers 43 = .ok (.goto (-39), 3) := by decide +kernel
theorem dX1_frozenLayers_46 : decode cX1_frozenLayers 46 = .ok (.iload_n 1, 1) := by decide +kernel
theorem dX1_frozenLayers_47 : decode cX1_frozenLayers 47 = .ok (.ireturn, 1) := by decide +kernel
theorem dX1_missingWater_0 : decode cX1_missingWater 0 = .ok (.aload_n 0, 1) := by decide +kernel
theorem dX1_missingWater_1 : decode cX1_missingWater 1 = .ok (.getfield 24, 3) := by decide +kernel
theorem dX1_missingWater_4 : decode cX1_missingWater 4 = .ok (.astore_n 1, 1) := by decide +kernel
theorem dX1_missingWater_5 : decode cX1_missingWater 5 = .ok (.aload_n 1, 1) := by decide +kernel
theorem dX1_missingWater_6 : decode cX1_missingWater 6 = .ok (.getfield 248, 3) := by decide +kernel
theorem dX1_missingWater_9 : decode cX1_missingWater 9 = .ok (.aload_n 1, 1) := by decide +kernel
theorem dX1_missingWater_10 : decode cX1_missingWater 10 = .ok (.getfield 145, 3) := by decide +kernel
theorem dX1_missingWater_13 : decode cX1_missingWater 13 = .ok (.ladd, 1) := by decide +kernel
theorem dX1_missingWater_14 : decode cX1_missingWater 14 = .ok (.aload_n 1, 1) := by decide +kernel
theorem dX1_missingWater_15 : decode cX1_missingWater 15 = .ok (.getfield 151, 3) := by decide +kernel
theorem dX1_missingWater_18 : decode cX1_missingWater 18 = .ok (.ladd, 1) := by decide +kernel
theorem dX1_missingWater_19 : decode cX1_missingWater 19 = .ok (.lstore_n 2, 1) := by decide +kernel
theorem dX1_missingWater_20 : decode cX1_missingWater 20 = .ok (.aload_n 0, 1) := by decide +kernel
theorem dX1_missingWater_21 : decode cX1_missingWater 21 = .ok (.invokevirtual 251, 3) := by decide +kernel
theorem dX1_missingWater_24 : decode cX1_missingWater 24 = .ok (.aload_n 0, 1) := by decide +kernel
theorem dX1_missingWater_25 : decode cX1_missingWater 25 = .ok (.getfield 45, 3) := by decide +kernel
theorem dX1_missingWater_28 : decode cX1_missingWater 28 = .ok (.iadd, 1) := by decide +kernel
theorem dX1_missingWater_29 : decode cX1_missingWater 29 = .ok (.i2l, 1) := by decide +kernel
theorem dX1_missingWater_30 : decode cX1_missingWater 30 = .ok (.aload_n 0, 1) := by decide +kernel
theorem dX1_missingWater_31 : decode cX1_missingWater 31 = .ok (.getfield 48, 3) := by decide +kernel
theorem dX1_missingWater_34 : decode cX1_missingWater 34 = .ok (.ladd, 1) := by decide +kernel
theorem dX1_missingWater_35 : decode cX1_missingWater 35 = .ok (.lstore 4, 2) := by decide +kernel
theorem dX1_missingWater_37 : decode cX1_missingWater 37 = .ok (.aload_n 1, 1) := by decide +kernel
theorem dX1_missingWater_38 : decode cX1_missingWater 38 = .ok (.getfield 201, 3) := by decide +kernel
theorem dX1_missingWater_41 : decode cX1_missingWater 41 = .ok (.aload_n 1, 1) := by decide +kernel
theorem dX1_missingWater_42 : decode cX1_missingWater 42 = .ok (.getfield 254, 3) := by decide +kernel
theorem dX1_missingWater_45 : decode cX1_missingWater 45 = .ok (.ladd, 1) := by decide +kernel
theorem dX1_missingWater_46 : decode cX1_missingWater 46 = .ok (.aload_n 1, 1) := by decide +kernel
theorem dX1_missingWater_47 : decode cX1_missingWater 47 = .ok (.getfield 220, 3) := by decide +kernel
theorem dX1_missingWater_50 : decode cX1_missingWater 50 = .ok (.ladd, 1) := by decide +kernel
theorem dX1_missingWater_51 : decode cX1_missingWater 51 = .ok (.lstore 6, 2) := by decide +kernel
theorem dX1_missingWater_53 : decode cX1_missingWater 53 = .ok (.lload_n 2, 1) := by decide +kernel
theorem dX1_missingWater_54 : decode cX1_missingWater 54 = .ok (.lload 4, 2) := by decide +kernel
theorem dX1_missingWater_56 : decode cX1_missingWater 56 = .ok (.lsub, 1) := by decide +kernel
theorem dX1_missingWater_57 : decode cX1_missingWater 57 = .ok (.lload 6, 2) := by decide +kernel
theorem dX1_missingWater_59 : decode cX1_missingWater 59 = .ok (.lsub, 1) := by decide +kernel
theorem dX1_missingWater_60 : decode cX1_missingWater 60 = .ok (.lreturn, 1) := by decide +kernel
theorem dX1_layersHold_0 : decode cX1_layersHold 0 = .ok (.iconst 0, 1) := by decide +kernel
theorem dX1_layersHold_1 : decode cX1_layersHold 1 = .ok (.istore_n 1, 1) := by decide +kernel
theorem dX1_layersHold_2 : decode cX1_layersHold 2 = .ok (.iload_n 1, 1) := by decide +kernel
theorem dX1_layersHold_3 : decode cX1_layersHold 3 = .ok (.aload_n 0, 1) := by decide +kernel
theorem dX1_layersHold_4 : decode cX1_layersHold 4 = .ok (.getfield 12, 3) := by decide +kernel
theorem dX1_layersHold_7 : decode cX1_layersHold 7 = .ok (.invokevirtual 62, 3) := by decide +kernel
theorem dX1_layersHold_10 : decode cX1_layersHold 10 = .ok (.if_icmp .ge 37, 3) := by decide +kernel
theorem dX1_layersHold_13 : decode cX1_layersHold 13 = .ok (.aload_n 0, 1) := by decide +kernel
theorem dX1_layersHold_14 : decode cX1_layersHold 14 = .ok (.getfield 12, 3) := by decide +kernel
theorem dX1_layersHold_17 : decode cX1_layersHold 17 = .ok (.iload_n 1, 1) := by decide +kernel
theorem dX1_layersHold_18 : decode cX1_layersHold 18 = .ok (.invokevirtual 66, 3) := by decide +kernel
theorem dX1_layersHold_21 : decode cX1_layersHold 21 = .ok (.checkcast 70, 3) := by decide +kernel
theorem dX1_layersHold_24 : decode cX1_layersHold 24 = .ok (.astore_n 2, 1) := by decide +kernel
theorem dX1_layersHold_25 : decode cX1_layersHold 25 = .ok (.aload_n 2, 1) := by decide +kernel
theorem dX1_layersHold_26 : decode cX1_layersHold 26 = .ok (.getfield 148, 3) := by decide +kernel
theorem dX1_layersHold_29 : decode cX1_layersHold 29 = .ok (.ifCond .lt 10, 3) := by decide +kernel
theorem dX1_layersHold_32 : decode cX1_layersHold 32 = .ok (.aload_n 2, 1) := by decide +kernel
theorem dX1_layersHold_33 : decode cX1_layersHold 33 = .ok (.invokevirtual 195, 3) := by decide +kernel
theorem dX1_layersHold_36 : decode cX1_layersHold 36 = .ok (.ifCond .ge 5, 3) := by decide +kernel
theorem dX1_layersHold_39 : decode cX1_layersHold 39 = .ok (.iconst 0, 1) := by decide +kernel
theorem dX1_layersHold_40 : decode cX1_layersHold 40 = .ok (.ireturn, 1) := by decide +kernel
theorem dX1_layersHold_41 : decode cX1_layersHold 41 = .ok (.iinc 1 1, 3) := by decide +kernel
theorem dX1_layersHold_44 : decode cX1_layersHold 44 = .ok (.goto (-42), 3) := by decide +kernel
theorem dX1_layersHold_47 : decode cX1_layersHold 47 = .ok (.iconst 1, 1) := by decide +kernel
theorem dX1_layersHold_48 : decode cX1_layersHold 48 = .ok (.ireturn, 1) := by decide +kernel
theorem dX1_solutesHold_0 : decode cX1_solutesHold 0 = .ok (.iconst 0, 1) := by decide +kernel
theorem dX1_solutesHold_1 : decode cX1_solutesHold 1 = .ok (.istore_n 1, 1) := by decide +kernel
theorem dX1_solutesHold_2 : decode cX1_solutesHold 2 = .ok (.iload_n 1, 1) := by decide +kernel
theorem dX1_solutesHold_3 : decode cX1_solutesHold 3 = .ok (.iconst 3, 1) := by decide +kernel
theorem dX1_solutesHold_4 : decode cX1_solutesHold 4 = .ok (.if_icmp .ge 98, 3) := by decide +kernel
theorem dX1_solutesHold_7 : decode cX1_solutesHold 7 = .ok (.aload_n 0, 1) := by decide +kernel
theorem dX1_solutesHold_8 : decode cX1_solutesHold 8 = .ok (.getfield 24, 3) := by decide +kernel
theorem dX1_solutesHold_11 : decode cX1_solutesHold 11 = .ok (.getfield 198, 3) := by decide +kernel
theorem dX1_solutesHold_14 : decode cX1_solutesHold 14 = .ok (.iload_n 1, 1) := by decide +kernel
theorem dX1_solutesHold_15 : decode cX1_solutesHold 15 = .ok (.invokevirtual 240, 3) := by decide +kernel
theorem dX1_solutesHold_18 : decode cX1_solutesHold 18 = .ok (.iload_n 1, 1) := by decide +kernel
theorem dX1_solutesHold_19 : decode cX1_solutesHold 19 = .ok (.ifCond .ne 13, 3) := by decide +kernel
theorem dX1_solutesHold_22 : decode cX1_solutesHold 22 = .ok (.aload_n 0, 1) := by decide +kernel
theorem dX1_solutesHold_23 : decode cX1_solutesHold 23 = .ok (.getfield 24, 3) := by decide +kernel
theorem dX1_solutesHold_26 : decode cX1_solutesHold 26 = .ok (.getfield 245, 3) := by decide +kernel
theorem dX1_solutesHold_29 : decode cX1_solutesHold 29 = .ok (.goto 4, 3) := by decide +kernel
theorem dX1_solutesHold_32 : decode cX1_solutesHold 32 = .ok (.lconst 0, 1) := by decide +kernel
theorem dX1_solutesHold_33 : decode cX1_solutesHold 33 = .ok (.ladd, 1) := by decide +kernel
theorem dX1_solutesHold_34 : decode cX1_solutesHold 34 = .ok (.lstore_n 2, 1) := by decide +kernel
theorem dX1_solutesHold_35 : decode cX1_solutesHold 35 = .ok (.iconst 0, 1) := by decide +kernel
theorem dX1_solutesHold_36 : decode cX1_solutesHold 36 = .ok (.istore 4, 2) := by decide +kernel
theorem dX1_solutesHold_38 : decode cX1_solutesHold 38 = .ok (.iload 4, 2) := by decide +kernel
theorem dX1_solutesHold_40 : decode cX1_solutesHold 40 = .ok (.aload_n 0, 1) := by decide +kernel
theorem dX1_solutesHold_41 : decode cX1_solutesHold 41 = .ok (.getfield 12, 3) := by decide +kernel
theorem dX1_solutesHold_44 : decode cX1_solutesHold 44 = .ok (.invokevirtual 62, 3) := by decide +kernel
theorem dX1_solutesHold_47 : decode cX1_solutesHold 47 = .ok (.if_icmp .ge 31, 3) := by decide +kernel
theorem dX1_solutesHold_50 : decode cX1_solutesHold 50 = .ok (.lload_n 2, 1) := by decide +kernel
theorem dX1_solutesHold_51 : decode cX1_solutesHold 51 = .ok (.aload_n 0, 1) := by decide +kernel
theorem dX1_solutesHold_52 : decode cX1_solutesHold 52 = .ok (.getfield 12, 3) := by decide +kernel
theorem dX1_solutesHold_55 : decode cX1_solutesHold 55 = .ok (.iload 4, 2) := by decide +kernel
theorem dX1_solutesHold_57 : decode cX1_solutesHold 57 = .ok (.invokevirtual 66, 3) := by decide +kernel
theorem dX1_solutesHold_60 : decode cX1_solutesHold 60 = .ok (.checkcast 70, 3) := by decide +kernel
theorem dX1_solutesHold_63 : decode cX1_solutesHold 63 = .ok (.getfield 187, 3) := by decide +kernel
theorem dX1_solutesHold_66 : decode cX1_solutesHold 66 = .ok (.iload_n 1, 1) := by decide +kernel
theorem dX1_solutesHold_67 : decode cX1_solutesHold 67 = .ok (.invokevirtual 240, 3) := by decide +kernel
theorem dX1_solutesHold_70 : decode cX1_solutesHold 70 = .ok (.ladd, 1) := by decide +kernel
theorem dX1_solutesHold_71 : decode cX1_solutesHold 71 = .ok (.lstore_n 2, 1) := by decide +kernel
theorem dX1_solutesHold_72 : decode cX1_solutesHold 72 = .ok (.iinc 4 1, 3) := by decide +kernel
theorem dX1_solutesHold_75 : decode cX1_solutesHold 75 = .ok (.goto (-37), 3) := by decide +kernel
theorem dX1_solutesHold_78 : decode cX1_solutesHold 78 = .ok (.lload_n 2, 1) := by decide +kernel
theorem dX1_solutesHold_79 : decode cX1_solutesHold 79 = .ok (.aload_n 0, 1) := by decide +kernel
theorem dX1_solutesHold_80 : decode cX1_solutesHold 80 = .ok (.getfield 24, 3) := by decide +kernel
theorem dX1_solutesHold_83 : decode cX1_solutesHold 83 = .ok (.getfield 234, 3) := by decide +kernel
theorem dX1_solutesHold_86 : decode cX1_solutesHold 86 = .ok (.iload_n 1, 1) := by decide +kernel
theorem dX1_solutesHold_87 : decode cX1_solutesHold 87 = .ok (.invokevirtual 240, 3) := by decide +kernel
theorem dX1_solutesHold_90 : decode cX1_solutesHold 90 = .ok (.lcmp, 1) := by decide +kernel
theorem dX1_solutesHold_91 : decode cX1_solutesHold 91 = .ok (.ifCond .eq 5, 3) := by decide +kernel
theorem dX1_solutesHold_94 : decode cX1_solutesHold 94 = .ok (.iconst 0, 1) := by decide +kernel
theorem dX1_solutesHold_95 : decode cX1_solutesHold 95 = .ok (.ireturn, 1) := by decide +kernel
theorem dX1_solutesHold_96 : decode cX1_solutesHold 96 = .ok (.iinc 1 1, 3) := by decide +kernel
theorem dX1_solutesHold_99 : decode cX1_solutesHold 99 = .ok (.goto (-97), 3) := by decide +kernel
theorem dX1_solutesHold_102 : decode cX1_solutesHold 102 = .ok (.iconst 1, 1) := by decide +kernel
theorem dX1_solutesHold_103 : decode cX1_solutesHold 103 = .ok (.ireturn, 1) := by decide +kernel
theorem dX2_init_0 : decode cX2_init 0 = .ok (.aload_n 0, 1) := by decide +kernel
theorem dX2_init_1 : decode cX2_init 1 = .ok (.invokespecial 1, 3) := by decide +kernel
theorem dX2_init_4 : decode cX2_init 4 = .ok (.aload_n 0, 1) := by decide +kernel
theorem dX2_init_5 : decode cX2_init 5 = .ok (.new 7, 3) := by decide +kernel
theorem dX2_init_8 : decode cX2_init 8 = .ok (.dup, 1) := by decide +kernel
theorem dX2_init_9 : decode cX2_init 9 = .ok (.invokespecial 9, 3) := by decide +kernel
theorem dX2_init_12 : decode cX2_init 12 = .ok (.putfield 10, 3) := by decide +kernel
theorem dX2_init_15 : decode cX2_init 15 = .ok (.aload_n 0, 1) := by decide +kernel
theorem dX2_init_16 : decode cX2_init 16 = .ok (.iconst 0, 1) := by decide +kernel
theorem dX2_init_17 : decode cX2_init 17 = .ok (.putfield 16, 3) := by decide +kernel
theorem dX2_init_20 : decode cX2_init 20 = .ok (.aload_n 0, 1) := by decide +kernel
theorem dX2_init_21 : decode cX2_init 21 = .ok (.iconst 0, 1) := by decide +kernel
theorem dX2_init_22 : decode cX2_init 22 = .ok (.putfield 20, 3) := by decide +kernel
theorem dX2_init_25 : decode cX2_init 25 = .ok (.aload_n 0, 1) := by decide +kernel
theorem dX2_init_26 : decode cX2_init 26 = .ok (.aload_n 1, 1) := by decide +kernel
theorem dX2_init_27 : decode cX2_init 27 = .ok (.putfield 24, 3) := by decide +kernel
theorem dX2_init_30 : decode cX2_init 30 = .ok (.aload_n 0, 1) := by decide +kernel
theorem dX2_init_31 : decode cX2_init 31 = .ok (.iload_n 2, 1) := by decide +kernel
theorem dX2_init_32 : decode cX2_init 32 = .ok (.putfield 28, 3) := by decide +kernel
theorem dX2_init_35 : decode cX2_init 35 = .ok (.aload_n 0, 1) := by decide +kernel
theorem dX2_init_36 : decode cX2_init 36 = .ok (.iload_n 2, 1) := by decide +kernel
theorem dX2_init_37 : decode cX2_init 37 = .ok (.aload_n 1, 1) := by decide +kernel
theorem dX2_init_38 : decode cX2_init 38 = .ok (.getfield 31, 3) := by decide +kernel
theorem dX2_init_41 : decode cX2_init 41 = .ok (.imul, 1) := by decide +kernel
theorem dX2_init_42 : decode cX2_init 42 = .ok (.bipush 10, 2) := by decide +kernel
theorem dX2_init_44 : decode cX2_init 44 = .ok (.idiv, 1) := by decide +kernel
theorem dX2_init_45 : decode cX2_init 45 = .ok (.putfield 36, 3) := by decide +kernel
theorem dX2_init_48 : decode cX2_init 48 = .ok (.aload_n 0, 1) := by decide +kernel
theorem dX2_init_49 : decode cX2_init 49 = .ok (.iload_n 2, 1) := by decide +kernel
theorem dX2_init_50 : decode cX2_init 50 = .ok (.aload_n 1, 1) := by decide +kernel
theorem dX2_init_51 : decode cX2_init 51 = .ok (.getfield 37, 3) := by decide +kernel
theorem dX2_init_54 : decode cX2_init 54 = .ok (.imul, 1) := by decide +kernel
theorem dX2_init_55 : decode cX2_init 55 = .ok (.bipush 10, 2) := by decide +kernel
theorem dX2_init_57 : decode cX2_init 57 = .ok (.idiv, 1) := by decide +kernel
theorem dX2_init_58 : decode cX2_init 58 = .ok (.putfield 40, 3) := by decide +kernel
theorem dX2_init_61 : decode cX2_init 61 = .ok (.aload_n 0, 1) := by decide +kernel
theorem dX2_init_62 : decode cX2_init 62 = .ok (.iload_n 2, 1) := by decide +kernel
theorem dX2_init_63 : decode cX2_init 63 = .ok (.aload_n 1, 1) := by decide +kernel
theorem dX2_init_64 : decode cX2_init 64 = .ok (.getfield 41, 3) := by decide +kernel
theorem dX2_init_67 : decode cX2_init 67 = .ok (.imul, 1) := by decide +kernel
theorem dX2_init_68 : decode cX2_init 68 = .ok (.bipush 10, 2) := by decide +kernel
theorem dX2_init_70 : decode cX2_init 70 = .ok (.idiv, 1) := by decide +kernel
theorem dX2_init_71 : decode cX2_init 71 = .ok (.putfield 44, 3) := by decide +kernel
theorem dX2_init_74 : decode cX2_init 74 = .ok (.aload_n 0, 1) := by decide +kernel
theorem dX2_init_75 : decode cX2_init 75 = .ok (.aload_n 0, 1) := by decide +kernel
theorem dX2_init_76 : decode cX2_init 76 = .ok (.getfield 40, 3) := by decide +kernel
theorem dX2_init_79 : decode cX2_init 79 = .ok (.putfield 45, 3) := by decide +kernel
theorem dX2_init_82 : decode cX2_init 82 = .ok (.return_, 1) := by decide +kernel
theorem dX2_room_0 : decode cX2_room 0 = .ok (.aload_n 0, 1) := by decide +kernel
theorem dX2_room_1 : decode cX2_room 1 = .ok (.getfield 36, 3) := by decide +kernel
theorem dX2_room_4 : decode cX2_room 4 = .ok (.aload_n 0, 1) := by decide +kernel
theorem dX2_room_5 : decode cX2_room 5 = .ok (.getfield 45, 3) := by decide +kernel
theorem dX2_room_8 : decode cX2_room 8 = .ok (.isub, 1) := by decide +kernel
theorem dX2_room_9 : decode cX2_room 9 = .ok (.ireturn, 1) := by decide +kernel
theorem dX2_canReceive_0 : decode cX2_canReceive 0 = .ok (.aload_n 0, 1) := by decide +kernel
theorem dX2_canReceive_1 : decode cX2_canReceive 1 = .ok (.getfield 20, 3) := by decide +kernel
theorem dX2_canReceive_4 : decode cX2_canReceive 4 = .ok (.ifCond .eq 7, 3) := by decide +kernel
theorem dX2_canReceive_7 : decode cX2_canReceive 7 = .ok (.iconst 0, 1) := by decide +kernel
theorem dX2_canReceive_8 : decode cX2_canReceive 8 = .ok (.goto 12, 3) := by decide +kernel
theorem dX2_canReceive_11 : decode cX2_canReceive 11 = .ok (.aload_n 0, 1) := by decide +kernel
theorem dX2_canReceive_12 : decode cX2_canReceive 12 = .ok (.getfield 36, 3) := by decide +kernel
theorem dX2_canReceive_15 : decode cX2_canReceive 15 = .ok (.aload_n 0, 1) := by decide +kernel
theorem dX2_canReceive_16 : decode cX2_canReceive 16 = .ok (.getfield 45, 3) := by decide +kernel
theorem dX2_canReceive_19 : decode cX2_canReceive 19 = .ok (.isub, 1) := by decide +kernel
theorem dX2_canReceive_20 : decode cX2_canReceive 20 = .ok (.ireturn, 1) := by decide +kernel
theorem dX2_canFeedRoots_0 : decode cX2_canFeedRoots 0 = .ok (.aload_n 0, 1) := by decide +kernel
theorem dX2_canFeedRoots_1 : decode cX2_canFeedRoots 1 = .ok (.getfield 20, 3) := by decide +kernel
theorem dX2_canFeedRoots_4 : decode cX2_canFeedRoots 4 = .ok (.ifCond .eq 7, 3) := by decide +kernel
theorem dX2_canFeedRoots_7 : decode cX2_canFeedRoots 7 = .ok (.iconst 0, 1) := by decide +kernel
theorem dX2_canFeedRoots_8 : decode cX2_canFeedRoots 8 = .ok (.goto 16, 3) := by decide +kernel
theorem dX2_canFeedRoots_11 : decode cX2_canFeedRoots 11 = .ok (.iconst 0, 1) := by decide +kernel
theorem dX2_canFeedRoots_12 : decode cX2_canFeedRoots 12 = .ok (.aload_n 0, 1) := by decide +kernel
theorem dX2_canFeedRoots_13 : decode cX2_canFeedRoots 13 = .ok (.getfield 45, 3) := by decide +kernel
theorem dX2_canFeedRoots_16 : decode cX2_canFeedRoots 16 = .ok (.aload_n 0, 1) := by decide +kernel
theorem dX2_canFeedRoots_17 : decode cX2_canFeedRoots 17 = .ok (.getfield 44, 3) := by decide +kernel
theorem dX2_canFeedRoots_20 : decode cX2_canFeedRoots 20 = .ok (.isub, 1) := by decide +kernel
theorem dX2_canFeedRoots_21 : decode cX2_canFeedRoots 21 = .ok (.invokestatic 48, 3) := by decide +kernel
theorem dX2_canFeedRoots_24 : decode cX2_canFeedRoots 24 = .ok (.ireturn, 1) := by decide +kernel
theorem dX2_canGiveToAir_0 : decode cX2_canGiveToAir 0 = .ok (.aload_n 0, 1) := by decide +kernel
theorem dX2_canGiveToAir_1 : decode cX2_canGiveToAir 1 = .ok (.getfield 20, 3) := by decide +kernel
theorem dX2_canGiveToAir_4 : decode cX2_canGiveToAir 4 = .ok (.ifCond .eq 7, 3) := by decide +kernel
theorem dX2_canGiveToAir_7 : decode cX2_canGiveToAir 7 = .ok (.iconst 0, 1) := by decide +kernel
theorem dX2_canGiveToAir_8 : decode cX2_canGiveToAir 8 = .ok (.goto 18, 3) := by decide +kernel
theorem dX2_canGiveToAir_11 : decode cX2_canGiveToAir 11 = .ok (.iconst 0, 1) := by decide +kernel
theorem dX2_canGiveToAir_12 : decode cX2_canGiveToAir 12 = .ok (.aload_n 0, 1) := by decide +kernel
theorem dX2_canGiveToAir_13 : decode cX2_canGiveToAir 13 = .ok (.getfield 45, 3) := by decide +kernel
theorem dX2_canGiveToAir_16 : decode cX2_canGiveToAir 16 = .ok (.aload_n 0, 1) := by decide +kernel
theorem dX2_canGiveToAir_17 : decode cX2_canGiveToAir 17 = .ok (.getfield 44, 3) := by decide +kernel
theorem dX2_canGiveToAir_20 : decode cX2_canGiveToAir 20 = .ok (.iconst 2, 1) := by decide +kernel
theorem dX2_canGiveToAir_21 : decode cX2_canGiveToAir 21 = .ok (.idiv, 1) := by decide +kernel
theorem dX2_canGiveToAir_22 : decode cX2_canGiveToAir 22 = .ok (.isub, 1) := by decide +kernel
theorem dX2_canGiveToAir_23 : decode cX2_canGiveToAir 23 = .ok (.invokestatic 48, 3) := by decide +kernel
theorem dX2_canGiveToAir_26 : decode cX2_canGiveToAir 26 = .ok (.ireturn, 1) := by decide +kernel
theorem dX2_canSink_0 : decode cX2_canSink 0 = .ok (.aload_n 0, 1) := by decide +kernel
theorem dX2_canSink_1 : decode cX2_canSink 1 = .ok (.getfield 20, 3) := by decide +kernel
theorem dX2_canSink_4 : decode cX2_canSink 4 = .ok (.ifCond .ne 14, 3) := by decide +kernel
theorem dX2_canSink_7 : decode cX2_canSink 7 = .ok (.aload_n 0, 1) := by decide +kernel
theorem dX2_canSink_8 : decode cX2_canSink 8 = .ok (.getfield 45, 3) := by decide +kernel
theorem dX2_canSink_11 : decode cX2_canSink 11 = .ok (.aload_n 0, 1) := by decide +kernel
theorem dX2_canSink_12 : decode cX2_canSink 12 = .ok (.getfield 40, 3) := by decide +kernel
theorem dX2_canSink_15 : decode cX2_canSink 15 = .ok (.if_icmp .gt 5, 3) := by decide +kernel
theorem dX2_canSink_18 : decode cX2_canSink 18 = .ok (.iconst 0, 1) := by decide +kernel
theorem dX2_canSink_19 : decode cX2_canSink 19 = .ok (.ireturn, 1) := by decide +kernel
theorem dX2_canSink_20 : decode cX2_canSink 20 = .ok (.aload_n 0, 1) := by decide +kernel
theorem dX2_canSink_21 : decode cX2_canSink 21 = .ok (.getfield 45, 3) := by decide +kernel
theorem dX2_canSink_24 : decode cX2_canSink 24 = .ok (.aload_n 0, 1) := by decide +kernel
theorem dX2_canSink_25 : decode cX2_canSink 25 = .ok (.getfield 40, 3) := by decide +kernel
theorem dX2_canSink_28 : decode cX2_canSink 28 = .ok (.isub, 1) := by decide +kernel
theorem dX2_canSink_29 : decode cX2_canSink 29 = .ok (.istore_n 2, 1) := by decide +kernel
theorem dX2_canSink_30 : decode cX2_canSink 30 = .ok (.iload_n 2, 1) := by decide +kernel
theorem dX2_canSink_31 : decode cX2_canSink 31 = .ok (.iload_n 2, 1) := by decide +kernel
theorem dX2_canSink_32 : decode cX2_canSink 32 = .ok (.aload_n 0, 1) := by decide +kernel
theorem dX2_canSink_33 : decode cX2_canSink 33 = .ok (.getfield 24, 3) := by decide +kernel
theorem dX2_canSink_36 : decode cX2_canSink 36 = .ok (.getfield 54, 3) := by decide +kernel
theorem dX2_canSink_39 : decode cX2_canSink 39 = .ok (.imul, 1) := by decide +kernel
theorem dX2_canSink_40 : decode cX2_canSink 40 = .ok (.iload_n 1, 1) := by decide +kernel
theorem dX2_canSink_41 : decode cX2_canSink 41 = .ok (.imul, 1) := by decide +kernel
theorem dX2_canSink_42 : decode cX2_canSink 42 = .ok (.sipush 10000, 3) := by decide +kernel
theorem dX2_canSink_45 : decode cX2_canSink 45 = .ok (.idiv, 1) := by decide +kernel
theorem dX2_canSink_46 : decode cX2_canSink 46 = .ok (.invokestatic 57, 3) := by decide +kernel
theorem dX2_canSink_49 : decode cX2_canSink 49 = .ok (.ireturn, 1) := by decide +kernel
theorem dX2_hundredthsOfWater_0 : decode cX2_hundredthsOfWater 0 = .ok (.aload_n 0, 1) := by decide +kernel
theorem dX2_hundredthsOfWater_1 : decode cX2_hundredthsOfWater 1 = .ok (.getfield 28, 3) := by decide +kernel
theorem dX2_hundredthsOfWater_4 : decode cX2_hundredthsOfWater 4 = .ok (.ifCond .le 18, 3) := by decide +kernel
theorem dX2_hundredthsOfWater_7 : decode cX2_hundredthsOfWater 7 = .ok (.aload_n 0, 1) := by decide +kernel
theorem dX2_hundredthsOfWater_8 : decode cX2_hundredthsOfWater 8 = .ok (.getfield 45, 3) := by decide +kernel
theorem dX2_hundredthsOfWater_11 : decode cX2_hundredthsOfWater 11 = .ok (.bipush 100, 2) := by decide +kernel
theorem dX2_hundredthsOfWater_13 : decode cX2_hundredthsOfWater 13 = .ok (.imul, 1) := by decide +kernel
theorem dX2_hundredthsOfWater_14 : decode cX2_hundredthsOfWater 14 = .ok (.aload_n 0, 1) := by decide +kernel
theorem dX2_hundredthsOfWater_15 : decode cX2_hundredthsOfWater 15 = .ok (.getfield 28, 3) := by decide +kernel
theorem dX2_hundredthsOfWater_18 : decode cX2_hundredthsOfWater 18 = .ok (.idiv, 1) := by decide +kernel
theorem dX2_hundredthsOfWater_19 : decode cX2_hundredthsOfWater 19 = .ok (.goto 4, 3) := by decide +kernel
theorem dX2_hundredthsOfWater_22 : decode cX2_hundredthsOfWater 22 = .ok (.iconst 0, 1) := by decide +kernel
theorem dX2_hundredthsOfWater_23 : decode cX2_hundredthsOfWater 23 = .ok (.ireturn, 1) := by decide +kernel
theorem dX2_freeze_0 : decode cX2_freeze 0 = .ok (.aload_n 0, 1) := by decide +kernel
theorem dX2_freeze_1 : decode cX2_freeze 1 = .ok (.dup, 1) := by decide +kernel
theorem dX2_freeze_2 : decode cX2_freeze 2 = .ok (.getfield 16, 3) := by decide +kernel
theorem dX2_freeze_5 : decode cX2_freeze 5 = .ok (.iload_n 1, 1) := by decide +kernel
theorem dX2_freeze_6 : decode cX2_freeze 6 = .ok (.iadd, 1) := by decide +kernel
theorem dX2_freeze_7 : decode cX2_freeze 7 = .ok (.putfield 16, 3) := by decide +kernel
theorem dX2_freeze_10 : decode cX2_freeze 10 = .ok (.aload_n 0, 1) := by decide +kernel
theorem dX2_freeze_11 : decode cX2_freeze 11 = .ok (.aload_n 0, 1) := by decide +kernel
theorem dX2_freeze_12 : decode cX2_freeze 12 = .ok (.getfield 16, 3) := by decide +kernel
theorem dX2_freeze_15 : decode cX2_freeze 15 = .ok (.aload_n 0, 1) := by decide +kernel
theorem dX2_freeze_16 : decode cX2_freeze 16 = .ok (.getfield 28, 3) := by decide +kernel
theorem dX2_freeze_19 : decode cX2_freeze 19 = .ok (.bipush 10, 2) := by decide +kernel
theorem dX2_freeze_21 : decode cX2_freeze 21 = .ok (.idiv, 1) := by decide +kernel
theorem dX2_freeze_22 : decode cX2_freeze 22 = .ok (.if_icmp .lt 7, 3) := by decide +kernel
theorem dX2_freeze_25 : decode cX2_freeze 25 = .ok (.iconst 1, 1) := by decide +kernel
theorem dX2_freeze_26 : decode cX2_freeze 26 = .ok (.goto 4, 3) := by decide +kernel
theorem dX2_freeze_29 : decode cX2_freeze 29 = .ok (.iconst 0, 1) := by decide +kernel
theorem dX2_freeze_30 : decode cX2_freeze 30 = .ok (.putfield 20, 3) := by decide +kernel
theorem dX2_freeze_33 : decode cX2_freeze 33 = .ok (.return_, 1) := by decide +kernel
theorem dX2_thaw_0 : decode cX2_thaw 0 = .ok (.aload_n 0, 1) := by decide +kernel
theorem dX2_thaw_1 : decode cX2_thaw 1 = .ok (.iconst 0, 1) := by decide +kernel
theorem dX2_thaw_2 : decode cX2_thaw 2 = .ok (.aload_n 0, 1) := by decide +kernel
theorem dX2_thaw_3 : decode cX2_thaw 3 = .ok (.getfield 16, 3) := by decide +kernel
theorem dX2_thaw_6 : decode cX2_thaw 6 = .ok (.iload_n 1, 1) := by decide +kernel
theorem dX2_thaw_7 : decode cX2_thaw 7 = .ok (.isub, 1) := by decide +kernel
theorem dX2_thaw_8 : decode cX2_thaw 8 = .ok (.invokestatic 48, 3) := by decide +kernel
theorem dX2_thaw_11 : decode cX2_thaw 11 = .ok (.putfield 16, 3) := by decide +kernel
theorem dX2_thaw_14 : decode cX2_thaw 14 = .ok (.aload_n 0, 1) := by decide +kernel
theorem dX2_thaw_15 : decode cX2_thaw 15 = .ok (.aload_n 0, 1) := by decide +kernel
theorem dX2_thaw_16 : decode cX2_thaw 16 = .ok (.getfield 16, 3) := by decide +kernel
theorem dX2_thaw_19 : decode cX2_thaw 19 = .ok (.ifCond .le 7, 3) := by decide +kernel
theorem dX2_thaw_22 : decode cX2_thaw 22 = .ok (.iconst 1, 1) := by decide +kernel
theorem dX2_thaw_23 : decode cX2_thaw 23 = .ok (.goto 4, 3) := by decide +kernel
theorem dX2_thaw_26 : decode cX2_thaw 26 = .ok (.iconst 0, 1) := by decide +kernel
theorem dX2_thaw_27 : decode cX2_thaw 27 = .ok (.putfield 20, 3) := by decide +kernel
theorem dX2_thaw_30 : decode cX2_thaw 30 = .ok (.return_, 1) := by decide +kernel
theorem dX2_sendWater_0 : decode cX2_sendWater 0 = .ok (.aload_n 0, 1) := by decide +kernel
theorem dX2_sendWater_1 : decode cX2_sendWater 1 = .ok (.getfield 10, 3) := by decide +kernel
theorem dX2_sendWater_4 : decode cX2_sendWater 4 = .ok (.iload_n 1, 1) := by decide +kernel
theorem dX2_sendWater_5 : decode cX2_sendWater 5 = .ok (.aload_n 0, 1) := by decide +kernel
theorem dX2_sendWater_6 : decode cX2_sendWater 6 = .ok (.getfield 45, 3) := by decide +kernel
theorem dX2_sendWater_9 : decode cX2_sendWater 9 = .ok (.aload_n 2, 1) := by decide +kernel
theorem dX2_sendWater_10 : decode cX2_sendWater 10 = .ok (.invokevirtual 60, 3) := by decide +kernel
theorem dX2_sendWater_13 : decode cX2_sendWater 13 = .ok (.aload_n 0, 1) := by decide +kernel
theorem dX2_sendWater_14 : decode cX2_sendWater 14 = .ok (.dup, 1) := by decide +kernel
theorem dX2_sendWater_15 : decode cX2_sendWater 15 = .ok (.getfield 45, 3) := by decide +kernel
theorem dX2_sendWater_18 : decode cX2_sendWater 18 = .ok (.iload_n 1, 1) := by decide +kernel
theorem dX2_sendWater_19 : decode cX2_sendWater 19 = .ok (.isub, 1) := by decide +kernel
theorem dX2_sendWater_20 : decode cX2_sendWater 20 = .ok (.putfield 45, 3) := by decide +kernel
theorem dX2_sendWater_23 : decode cX2_sendWater 23 = .ok (.return_, 1) := by decide +kernel
theorem dX2_becomeLike_0 : decode cX2_becomeLike 0 = .ok (.aload_n 0, 1) := by decide +kernel
theorem dX2_becomeLike_1 : decode cX2_becomeLike 1 = .ok (.aload_n 1, 1) := by decide +kernel
theorem dX2_becomeLike_2 : decode cX2_becomeLike 2 = .ok (.getfield 45, 3) := by decide +kernel
theorem dX2_becomeLike_5 : decode cX2_becomeLike 5 = .ok (.putfield 45, 3) := by decide +kernel
theorem dX2_becomeLike_8 : decode cX2_becomeLike 8 = .ok (.aload_n 0, 1) := by decide +kernel
theorem dX2_becomeLike_9 : decode cX2_becomeLike 9 = .ok (.aload_n 1, 1) := by decide +kernel
theorem dX2_becomeLike_10 : decode cX2_becomeLike 10 = .ok (.getfield 16, 3) := by decide +kernel
theorem dX2_becomeLike_13 : decode cX2_becomeLike 13 = .ok (.putfield 16, 3) := by decide +kernel
theorem dX2_becomeLike_16 : decode cX2_becomeLike 16 = .ok (.aload_n 0, 1) := by decide +kernel
theorem dX2_becomeLike_17 : decode cX2_becomeLike 17 = .ok (.aload_n 1, 1) := by decide +kernel
theorem dX2_becomeLike_18 : decode cX2_becomeLike 18 = .ok (.getfield 20, 3) := by decide +kernel
theorem dX2_becomeLike_21 : decode cX2_becomeLike 21 = .ok (.putfield 20, 3) := by decide +kernel
theorem dX2_becomeLike_24 : decode cX2_becomeLike 24 = .ok (.return_, 1) := by decide +kernel
theorem dX3_init_0 : decode cX3_init 0 = .ok (.aload_n 0, 1) := by decide +kernel
theorem dX3_init_1 : decode cX3_init 1 = .ok (.invokespecial 1, 3) := by decide +kernel
theorem dX3_init_4 : decode cX3_init 4 = .ok (.aload_n 0, 1) := by decide +kernel
theorem dX3_init_5 : decode cX3_init 5 = .ok (.lconst 0, 1) := by decide +kernel
theorem dX3_init_6 : decode cX3_init 6 = .ok (.putfield 7, 3) := by decide +kernel
theorem dX3_init_9 : decode cX3_init 9 = .ok (.aload_n 0, 1) := by decide +kernel
theorem dX3_init_10 : decode cX3_init 10 = .ok (.iload_n 1, 1) := by decide +kernel
theorem dX3_init_11 : decode cX3_init 11 = .ok (.putfield 13, 3) := by decide +kernel
theorem dX3_init_14 : decode cX3_init 14 = .ok (.aload_n 0, 1) := by decide +kernel
theorem dX3_init_15 : decode cX3_init 15 = .ok (.iload_n 2, 1) := by decide +kernel
theorem dX3_init_16 : decode cX3_init 16 = .ok (.putfield 17, 3) := by decide +kernel
theorem dX3_init_19 : decode cX3_init 19 = .ok (.return_, 1) := by decide +kernel
theorem dX5_init_0 : decode cX5_init 0 = .ok (.aload_n 0, 1) := by decide +kernel
theorem dX5_init_1 : decode cX5_init 1 = .ok (.invokespecial 3, 3) := by decide +kernel
theorem dX5_init_4 : decode cX5_init 4 = .ok (.aload_n 0, 1) := by decide +kernel
theorem dX5_init_5 : decode cX5_init 5 = .ok (.iconst 3, 1) := by decide +kernel
theorem dX5_init_6 : decode cX5_init 6 = .ok (.newarray .long, 2) := by decide +kernel
theorem dX5_init_8 : decode cX5_init 8 = .ok (.putfield 9, 3) := by decide +kernel
theorem dX5_init_11 : decode cX5_init 11 = .ok (.return_, 1) := by decide +kernel
theorem dX5_amountOf_0 : decode cX5_amountOf 0 = .ok (.iload_n 1, 1) := by decide +kernel
theorem dX5_amountOf_1 : decode cX5_amountOf 1 = .ok (.ifCond .lt 21, 3) := by decide +kernel
theorem dX5_amountOf_4 : decode cX5_amountOf 4 = .ok (.iload_n 1, 1) := by decide +kernel
theorem dX5_amountOf_5 : decode cX5_amountOf 5 = .ok (.aload_n 0, 1) := by decide +kernel
theorem dX5_amountOf_6 : decode cX5_amountOf 6 = .ok (.getfield 9, 3) := by decide +kernel
theorem dX5_amountOf_9 : decode cX5_amountOf 9 = .ok (.arraylength, 1) := by decide +kernel
theorem dX5_amountOf_10 : decode cX5_amountOf 10 = .ok (.if_icmp .ge 12, 3) := by decide +kernel
theorem dX5_amountOf_13 : decode cX5_amountOf 13 = .ok (.aload_n 0, 1) := by decide +kernel
theorem dX5_amountOf_14 : decode cX5_amountOf 14 = .ok (.getfield 9, 3) := by decide +kernel
theorem dX5_amountOf_17 : decode cX5_amountOf 17 = .ok (.iload_n 1, 1) := by decide +kernel
theorem dX5_amountOf_18 : decode cX5_amountOf 18 = .ok (.laload, 1) := by decide +kernel
theorem dX5_amountOf_19 : decode cX5_amountOf 19 = .ok (.goto 4, 3) := by decide +kernel
theorem dX5_amountOf_22 : decode cX5_amountOf 22 = .ok (.lconst 0, 1) := by decide +kernel
theorem dX5_amountOf_23 : decode cX5_amountOf 23 = .ok (.lreturn, 1) := by decide +kernel
theorem dX5_change_0 : decode cX5_change 0 = .ok (.iload_n 1, 1) := by decide +kernel
theorem dX5_change_1 : decode cX5_change 1 = .ok (.ifCond .lt 22, 3) := by decide +kernel
theorem dX5_change_4 : decode cX5_change 4 = .ok (.iload_n 1, 1) := by decide +kernel
theorem dX5_change_5 : decode cX5_change 5 = .ok (.aload_n 0, 1) := by decide +kernel
theorem dX5_change_6 : decode cX5_change 6 = .ok (.getfield 9, 3) := by decide +kernel
theorem dX5_change_9 : decode cX5_change 9 = .ok (.arraylength, 1) := by decide +kernel
theorem dX5_change_10 : decode cX5_change 10 = .ok (.if_icmp .ge 13, 3) := by decide +kernel
theorem dX5_change_13 : decode cX5_change 13 = .ok (.aload_n 0, 1) := by decide +kernel
theorem dX5_change_14 : decode cX5_change 14 = .ok (.getfield 9, 3) := by decide +kernel
theorem dX5_change_17 : decode cX5_change 17 = .ok (.iload_n 1, 1) := by decide +kernel
theorem dX5_change_18 : decode cX5_change 18 = .ok (.dup2, 1) := by decide +kernel
theorem dX5_change_19 : decode cX5_change 19 = .ok (.laload, 1) := by decide +kernel
theorem dX5_change_20 : decode cX5_change 20 = .ok (.lload_n 2, 1) := by decide +kernel
theorem dX5_change_21 : decode cX5_change 21 = .ok (.ladd, 1) := by decide +kernel
theorem dX5_change_22 : decode cX5_change 22 = .ok (.lastore, 1) := by decide +kernel
theorem dX5_change_23 : decode cX5_change 23 = .ok (.return_, 1) := by decide +kernel
theorem dX5_giveShare_0 : decode cX5_giveShare 0 = .ok (.iload_n 1, 1) := by decide +kernel
theorem dX5_giveShare_1 : decode cX5_giveShare 1 = .ok (.ifCond .le 7, 3) := by decide +kernel
theorem dX5_giveShare_4 : decode cX5_giveShare 4 = .ok (.iload_n 2, 1) := by decide +kernel
theorem dX5_giveShare_5 : decode cX5_giveShare 5 = .ok (.ifCond .gt 4, 3) := by decide +kernel
theorem dX5_giveShare_8 : decode cX5_giveShare 8 = .ok (.return_, 1) := by decide +kernel
theorem dX5_giveShare_9 : decode cX5_giveShare 9 = .ok (.iconst 0, 1) := by decide +kernel
theorem dX5_giveShare_10 : decode cX5_giveShare 10 = .ok (.istore 4, 2) := by decide +kernel
theorem dX5_giveShare_12 : decode cX5_giveShare 12 = .ok (.iload 4, 2) := by decide +kernel
theorem dX5_giveShare_14 : decode cX5_giveShare 14 = .ok (.aload_n 0, 1) := by decide +kernel
theorem dX5_giveShare_15 : decode cX5_giveShare 15 = .ok (.getfield 9, 3) := by decide +kernel
theorem dX5_giveShare_18 : decode cX5_giveShare 18 = .ok (.arraylength, 1) := by decide +kernel
theorem dX5_giveShare_19 : decode cX5_giveShare 19 = .ok (.if_icmp .ge 58, 3) := by decide +kernel
theorem dX5_giveShare_22 : decode cX5_giveShare 22 = .ok (.iload 4, 2) := by decide +kernel
theorem dX5_giveShare_24 : decode cX5_giveShare 24 = .ok (.aload_n 3, 1) := by decide +kernel
theorem dX5_giveShare_25 : decode cX5_giveShare 25 = .ok (.getfield 9, 3) := by decide +kernel
theorem dX5_giveShare_28 : decode cX5_giveShare 28 = .ok (.arraylength, 1) := by decide +kernel
theorem dX5_giveShare_29 : decode cX5_giveShare 29 = .ok (.if_icmp .ge 48, 3) := by decide +kernel
theorem dX5_giveShare_32 : decode cX5_giveShare 32 = .ok (.aload_n 0, 1) := by decide +kernel
theorem dX5_giveShare_33 : decode cX5_giveShare 33 = .ok (.getfield 9, 3) := by decide +kernel
theorem dX5_giveShare_36 : decode cX5_giveShare 36 = .ok (.iload 4, 2) := by decide +kernel
theorem dX5_giveShare_38 : decode cX5_giveShare 38 = .ok (.laload, 1) := by decide +kernel
theorem dX5_giveShare_39 : decode cX5_giveShare 39 = .ok (.iload_n 1, 1) := by decide +kernel
theorem dX5_giveShare_40 : decode cX5_giveShare 40 = .ok (.i2l, 1) := by decide +kernel
theorem dX5_giveShare_41 : decode cX5_giveShare 41 = .ok (.lmul, 1) := by decide +kernel
theorem dX5_giveShare_42 : decode cX5_giveShare 42 = .ok (.iload_n 2, 1) := by decide +kernel
theorem dX5_giveShare_43 : decode cX5_giveShare 43 = .ok (.i2l, 1) := by decide +kernel
theorem dX5_giveShare_44 : decode cX5_giveShare 44 = .ok (.ldiv, 1) := by decide +kernel
theorem dX5_giveShare_45 : decode cX5_giveShare 45 = .ok (.lstore 5, 2) := by decide +kernel
theorem dX5_giveShare_47 : decode cX5_giveShare 47 = .ok (.aload_n 0, 1) := by decide +kernel
theorem dX5_giveShare_48 : decode cX5_giveShare 48 = .ok (.getfield 9, 3) := by decide +kernel
theorem dX5_giveShare_51 : decode cX5_giveShare 51 = .ok (.iload 4, 2) := by decide +kernel
theorem dX5_giveShare_53 : decode cX5_giveShare 53 = .ok (.dup2, 1) := by decide +kernel
theorem dX5_giveShare_54 : decode cX5_giveShare 54 = .ok (.laload, 1) := by decide +kernel
theorem dX5_giveShare_55 : decode cX5_giveShare 55 = .ok (.lload 5, 2) := by decide +kernel
theorem dX5_giveShare_57 : decode cX5_giveShare 57 = .ok (.lsub, 1) := by decide +kernel
theorem dX5_giveShare_58 : decode cX5_giveShare 58 = .ok (.lastore, 1) := by decide +kernel
theorem dX5_giveShare_59 : decode cX5_giveShare 59 = .ok (.aload_n 3, 1) := by decide +kernel
theorem dX5_giveShare_60 : decode cX5_giveShare 60 = .ok (.getfield 9, 3) := by decide +kernel
theorem dX5_giveShare_63 : decode cX5_giveShare 63 = .ok (.iload 4, 2) := by decide +kernel
theorem dX5_giveShare_65 : decode cX5_giveShare 65 = .ok (.dup2, 1) := by decide +kernel
theorem dX5_giveShare_66 : decode cX5_giveShare 66 = .ok (.laload, 1) := by decide +kernel
theorem dX5_giveShare_67 : decode cX5_giveShare 67 = .ok (.lload 5, 2) := by decide +kernel
theorem dX5_giveShare_69 : decode cX5_giveShare 69 = .ok (.ladd, 1) := by decide +kernel
theorem dX5_giveShare_70 : decode cX5_giveShare 70 = .ok (.lastore, 1) := by decide +kernel
theorem dX5_giveShare_71 : decode cX5_giveShare 71 = .ok (.iinc 4 1, 3) := by decide +kernel
theorem dX5_giveShare_74 : decode cX5_giveShare 74 = .ok (.goto (-62), 3) := by decide +kernel
theorem dX5_giveShare_77 : decode cX5_giveShare 77 = .ok (.return_, 1) := by decide +kernel
theorem dX6_init_0 : decode cX6_init 0 = .ok (.aload_n 0, 1) := by decide +kernel
theorem dX6_init_1 : decode cX6_init 1 = .ok (.invokespecial 1, 3) := by decide +kernel
theorem dX6_init_4 : decode cX6_init 4 = .ok (.aload_n 0, 1) := by decide +kernel
theorem dX6_init_5 : decode cX6_init 5 = .ok (.bipush 10, 2) := by decide +kernel
theorem dX6_init_7 : decode cX6_init 7 = .ok (.putfield 7, 3) := by decide +kernel
theorem dX6_init_10 : decode cX6_init 10 = .ok (.aload_n 0, 1) := by decide +kernel
theorem dX6_init_11 : decode cX6_init 11 = .ok (.iconst 0, 1) := by decide +kernel
theorem dX6_init_12 : decode cX6_init 12 = .ok (.putfield 13, 3) := by decide +kernel
theorem dX6_init_15 : decode cX6_init 15 = .ok (.aload_n 0, 1) := by decide +kernel
theorem dX6_init_16 : decode cX6_init 16 = .ok (.iconst 0, 1) := by decide +kernel
theorem dX6_init_17 : decode cX6_init 17 = .ok (.putfield 16, 3) := by decide +kernel
theorem dX6_init_20 : decode cX6_init 20 = .ok (.return_, 1) := by decide +kernel
theorem dX7_init_0 : decode cX7_init 0 = .ok (.aload_n 0, 1) := by decide +kernel
theorem dX7_init_1 : decode cX7_init 1 = .ok (.invokespecial 1, 3) := by decide +kernel
theorem dX7_init_4 : decode cX7_init 4 = .ok (.aload_n 0, 1) := by decide +kernel
theorem dX7_init_5 : decode cX7_init 5 = .ok (.new 7, 3) := by decide +kernel
theorem dX7_init_8 : decode cX7_init 8 = .ok (.dup, 1) := by decide +kernel
theorem dX7_init_9 : decode cX7_init 9 = .ok (.invokespecial 9, 3) := by decide +kernel
theorem dX7_init_12 : decode cX7_init 12 = .ok (.putfield 10, 3) := by decide +kernel
theorem dX7_init_15 : decode cX7_init 15 = .ok (.aload_n 0, 1) := by decide +kernel
theorem dX7_init_16 : decode cX7_init 16 = .ok (.new 7, 3) := by decide +kernel
theorem dX7_init_19 : decode cX7_init 19 = .ok (.dup, 1) := by decide +kernel
theorem dX7_init_20 : decode cX7_init 20 = .ok (.invokespecial 9, 3) := by decide +kernel
theorem dX7_init_23 : decode cX7_init 23 = .ok (.putfield 16, 3) := by decide +kernel
theorem dX7_init_26 : decode cX7_init 26 = .ok (.aload_n 0, 1) := by decide +kernel
theorem dX7_init_27 : decode cX7_init 27 = .ok (.new 19, 3) := by decide +kernel
theorem dX7_init_30 : decode cX7_init 30 = .ok (.dup, 1) := by decide +kernel
theorem dX7_init_31 : decode cX7_init 31 = .ok (.invokespecial 21, 3) := by decide +kernel
theorem dX7_init_34 : decode cX7_init 34 = .ok (.putfield 22, 3) := by decide +kernel
theorem dX7_init_37 : decode cX7_init 37 = .ok (.aload_n 0, 1) := by decide +kernel
theorem dX7_init_38 : decode cX7_init 38 = .ok (.bipush 40, 2) := by decide +kernel
theorem dX7_init_40 : decode cX7_init 40 = .ok (.newarray .long, 2) := by decide +kernel
theorem dX7_init_42 : decode cX7_init 42 = .ok (.putfield 26, 3) := by decide +kernel
theorem dX7_init_45 : decode cX7_init 45 = .ok (.aload_n 0, 1) := by decide +kernel
theorem dX7_init_46 : decode cX7_init 46 = .ok (.sipush 9999, 3) := by decide +kernel
theorem dX7_init_49 : decode cX7_init 49 = .ok (.putfield 30, 3) := by decide +kernel
theorem dX7_init_52 : decode cX7_init 52 = .ok (.aload_n 0, 1) := by decide +kernel
theorem dX7_init_53 : decode cX7_init 53 = .ok (.iconst 0, 1) := by decide +kernel
theorem dX7_init_54 : decode cX7_init 54 = .ok (.putfield 34, 3) := by decide +kernel
theorem dX7_init_57 : decode cX7_init 57 = .ok (.aload_n 0, 1) := by decide +kernel
theorem dX7_init_58 : decode cX7_init 58 = .ok (.iconst 0, 1) := by decide +kernel
theorem dX7_init_59 : decode cX7_init 59 = .ok (.putfield 37, 3) := by decide +kernel
theorem dX7_init_62 : decode cX7_init 62 = .ok (.return_, 1) := by decide +kernel
theorem dX7_column_0 : decode cX7_column 0 = .ok (.iload_n 1, 1) := by decide +kernel
theorem dX7_column_1 : decode cX7_column 1 = .ok (.bipush 102, 2) := by decide +kernel
theorem dX7_column_3 : decode cX7_column 3 = .ok (.if_icmp .eq 25, 3) := by decide +kernel
theorem dX7_column_6 : decode cX7_column 6 = .ok (.iload_n 1, 1) := by decide +kernel
theorem dX7_column_7 : decode cX7_column 7 = .ok (.bipush 115, 2) := by decide +kernel
theorem dX7_column_9 : decode cX7_column 9 = .ok (.if_icmp .eq 19, 3) := by decide +kernel
theorem dX7_column_12 : decode cX7_column 12 = .ok (.iload_n 1, 1) := by decide +kernel
theorem dX7_column_13 : decode cX7_column 13 = .ok (.bipush 110, 2) := by decide +kernel
theorem dX7_column_15 : decode cX7_column 15 = .ok (.if_icmp .eq 13, 3) := by decide +kernel
theorem dX7_column_18 : decode cX7_column 18 = .ok (.new 40, 3) := by decide +kernel
theorem dX7_column_21 : decode cX7_column 21 = .ok (.dup, 1) := by decide +kernel
theorem dX7_column_22 : decode cX7_column 22 = .ok (.ldc 42, 2) := by decide +kernel
theorem dX7_column_24 : decode cX7_column 24 = .ok (.invokespecial 44, 3) := by decide +kernel
theorem dX7_column_27 : decode cX7_column 27 = .ok (.athrow, 1) := by decide +kernel
theorem dX7_column_28 : decode cX7_column 28 = .ok (.aload_n 0, 1) := by decide +kernel
theorem dX7_column_29 : decode cX7_column 29 = .ok (.getfield 10, 3) := by decide +kernel
theorem dX7_column_32 : decode cX7_column 32 = .ok (.invokevirtual 47, 3) := by decide +kernel
theorem dX7_column_35 : decode cX7_column 35 = .ok (.bipush 6, 2) := by decide +kernel
theorem dX7_column_37 : decode cX7_column 37 = .ok (.if_icmp .lt 13, 3) := by decide +kernel
theorem dX7_column_40 : decode cX7_column 40 = .ok (.new 51, 3) := by decide +kernel
theorem dX7_column_43 : decode cX7_column 43 = .ok (.dup, 1) := by decide +kernel
theorem dX7_column_44 : decode cX7_column 44 = .ok (.ldc 53, 2) := by decide +kernel
theorem dX7_column_46 : decode cX7_column 46 = .ok (.invokespecial 55, 3) := by decide +kernel
theorem dX7_column_49 : decode cX7_column 49 = .ok (.athrow, 1) := by decide +kernel
theorem dX7_column_50 : decode cX7_column 50 = .ok (.aload_n 0, 1) := by decide +kernel
theorem dX7_column_51 : decode cX7_column 51 = .ok (.getfield 10, 3) := by decide +kernel
theorem dX7_column_54 : decode cX7_column 54 = .ok (.new 56, 3) := by decide +kernel
theorem dX7_column_57 : decode cX7_column 57 = .ok (.dup, 1) := by decide +kernel
theorem dX7_column_58 : decode cX7_column 58 = .ok (.iload_n 1, 1) := by decide +kernel
theorem dX7_column_59 : decode cX7_column 59 = .ok (.aload_n 0, 1) := by decide +kernel
theorem dX7_column_60 : decode cX7_column 60 = .ok (.getfield 37, 3) := by decide +kernel
theorem dX7_column_63 : decode cX7_column 63 = .ok (.invokespecial 58, 3) := by decide +kernel
theorem dX7_column_66 : decode cX7_column 66 = .ok (.invokevirtual 61, 3) := by decide +kernel
theorem dX7_column_69 : decode cX7_column 69 = .ok (.pop, 1) := by decide +kernel
theorem dX7_column_70 : decode cX7_column 70 = .ok (.aload_n 0, 1) := by decide +kernel
theorem dX7_column_71 : decode cX7_column 71 = .ok (.getfield 16, 3) := by decide +kernel
theorem dX7_column_74 : decode cX7_column 74 = .ok (.new 56, 3) := by decide +kernel
theorem dX7_column_77 : decode cX7_column 77 = .ok (.dup, 1) := by decide +kernel
theorem dX7_column_78 : decode cX7_column 78 = .ok (.iload_n 1, 1) := by decide +kernel
theorem dX7_column_79 : decode cX7_column 79 = .ok (.aload_n 0, 1) := by decide +kernel
theorem dX7_column_80 : decode cX7_column 80 = .ok (.getfield 37, 3) := by decide +kernel
theorem dX7_column_83 : decode cX7_column 83 = .ok (.invokespecial 58, 3) := by decide +kernel
theorem dX7_column_86 : decode cX7_column 86 = .ok (.invokevirtual 61, 3) := by decide +kernel
theorem dX7_column_89 : decode cX7_column 89 = .ok (.pop, 1) := by decide +kernel
theorem dX7_column_90 : decode cX7_column 90 = .ok (.aload_n 0, 1) := by decide +kernel
theorem dX7_column_91 : decode cX7_column 91 = .ok (.getfield 10, 3) := by decide +kernel
theorem dX7_column_94 : decode cX7_column 94 = .ok (.invokevirtual 47, 3) := by decide +kernel
theorem dX7_column_97 : decode cX7_column 97 = .ok (.iconst 1, 1) := by decide +kernel
theorem dX7_column_98 : decode cX7_column 98 = .ok (.isub, 1) := by decide +kernel
theorem dX7_column_99 : decode cX7_column 99 = .ok (.ireturn, 1) := by decide +kernel
theorem dX7_layer_0 : decode cX7_layer 0 = .ok (.aload_n 0, 1) := by decide +kernel
theorem dX7_layer_1 : decode cX7_layer 1 = .ok (.iload_n 1, 1) := by decide +kernel
theorem dX7_layer_2 : decode cX7_layer 2 = .ok (.invokevirtual 65, 3) := by decide +kernel
theorem dX7_layer_5 : decode cX7_layer 5 = .ok (.astore 4, 2) := by decide +kernel
theorem dX7_layer_7 : decode cX7_layer 7 = .ok (.iload_n 2, 1) := by decide +kernel
theorem dX7_layer_8 : decode cX7_layer 8 = .ok (.invokestatic 69, 3) := by decide +kernel
theorem dX7_layer_11 : decode cX7_layer 11 = .ok (.astore 5, 2) := by decide +kernel
theorem dX7_layer_13 : decode cX7_layer 13 = .ok (.iload_n 3, 1) := by decide +kernel
theorem dX7_layer_14 : decode cX7_layer 14 = .ok (.bipush 50, 2) := by decide +kernel
theorem dX7_layer_16 : decode cX7_layer 16 = .ok (.sipush 500, 3) := by decide +kernel
theorem dX7_layer_19 : decode cX7_layer 19 = .ok (.invokestatic 73, 3) := by decide +kernel
theorem dX7_layer_22 : decode cX7_layer 22 = .ok (.aload 4, 2) := by decide +kernel
theorem dX7_layer_24 : decode cX7_layer 24 = .ok (.getfield 77, 3) := by decide +kernel
theorem dX7_layer_27 : decode cX7_layer 27 = .ok (.invokevirtual 47, 3) := by decide +kernel
theorem dX7_layer_30 : decode cX7_layer 30 = .ok (.bipush 8, 2) := by decide +kernel
theorem dX7_layer_32 : decode cX7_layer 32 = .ok (.if_icmp .lt 13, 3) := by decide +kernel
theorem dX7_layer_35 : decode cX7_layer 35 = .ok (.new 51, 3) := by decide +kernel
theorem dX7_layer_38 : decode cX7_layer 38 = .ok (.dup, 1) := by decide +kernel
theorem dX7_layer_39 : decode cX7_layer 39 = .ok (.ldc 80, 2) := by decide +kernel
theorem dX7_layer_41 : decode cX7_layer 41 = .ok (.invokespecial 55, 3) := by decide +kernel
theorem dX7_layer_44 : decode cX7_layer 44 = .ok (.athrow, 1) := by decide +kernel
theorem dX7_layer_45 : decode cX7_layer 45 = .ok (.new 82, 3) := by decide +kernel
theorem dX7_layer_48 : decode cX7_layer 48 = .ok (.dup, 1) := by decide +kernel
theorem dX7_layer_49 : decode cX7_layer 49 = .ok (.aload 5, 2) := by decide +kernel
theorem dX7_layer_51 : decode cX7_layer 51 = .ok (.iload_n 3, 1) := by decide +kernel
theorem dX7_layer_52 : decode cX7_layer 52 = .ok (.invokespecial 84, 3) := by decide +kernel
theorem dX7_layer_55 : decode cX7_layer 55 = .ok (.astore 6, 2) := by decide +kernel
theorem dX7_layer_57 : decode cX7_layer 57 = .ok (.aload 4, 2) := by decide +kernel
theorem dX7_layer_59 : decode cX7_layer 59 = .ok (.getfield 77, 3) := by decide +kernel
theorem dX7_layer_62 : decode cX7_layer 62 = .ok (.aload 6, 2) := by decide +kernel
theorem dX7_layer_64 : decode cX7_layer 64 = .ok (.invokevirtual 61, 3) := by decide +kernel
theorem dX7_layer_67 : decode cX7_layer 67 = .ok (.pop, 1) := by decide +kernel
theorem dX7_layer_68 : decode cX7_layer 68 = .ok (.aload 4, 2) := by decide +kernel
theorem dX7_layer_70 : decode cX7_layer 70 = .ok (.getfield 87, 3) := by decide +kernel
theorem dX7_layer_73 : decode cX7_layer 73 = .ok (.dup, 1) := by decide +kernel
theorem dX7_layer_74 : decode cX7_layer 74 = .ok (.getfield 91, 3) := by decide +kernel
theorem dX7_layer_77 : decode cX7_layer 77 = .ok (.aload 6, 2) := by decide +kernel
theorem dX7_layer_79 : decode cX7_layer 79 = .ok (.getfield 97, 3) := by decide +kernel
theorem dX7_layer_82 : decode cX7_layer 82 = .ok (.i2l, 1) := by decide +kernel
theorem dX7_layer_83 : decode cX7_layer 83 = .ok (.ladd, 1) := by decide +kernel
theorem dX7_layer_84 : decode cX7_layer 84 = .ok (.putfield 91, 3) := by decide +kernel
theorem dX7_layer_87 : decode cX7_layer 87 = .ok (.aload_n 0, 1) := by decide +kernel
theorem dX7_layer_88 : decode cX7_layer 88 = .ok (.iload_n 1, 1) := by decide +kernel
theorem dX7_layer_89 : decode cX7_layer 89 = .ok (.invokevirtual 100, 3) := by decide +kernel
theorem dX7_layer_92 : decode cX7_layer 92 = .ok (.getfield 77, 3) := by decide +kernel
theorem dX7_layer_95 : decode cX7_layer 95 = .ok (.new 82, 3) := by decide +kernel
theorem dX7_layer_98 : decode cX7_layer 98 = .ok (.dup, 1) := by decide +kernel
theorem dX7_layer_99 : decode cX7_layer 99 = .ok (.aload 5, 2) := by decide +kernel
theorem dX7_layer_101 : decode cX7_layer 101 = .ok (.iload_n 3, 1) := by decide +kernel
theorem dX7_layer_102 : decode cX7_layer 102 = .ok (.invokespecial 84, 3) := by decide +kernel
theorem dX7_layer_105 : decode cX7_layer 105 = .ok (.invokevirtual 61, 3) := by decide +kernel
theorem dX7_layer_108 : decode cX7_layer 108 = .ok (.pop, 1) := by decide +kernel
theorem dX7_layer_109 : decode cX7_layer 109 = .ok (.aload 4, 2) := by decide +kernel
theorem dX7_layer_111 : decode cX7_layer 111 = .ok (.getfield 77, 3) := by decide +kernel
theorem dX7_layer_114 : decode cX7_layer 114 = .ok (.invokevirtual 47, 3) := by decide +kernel
theorem dX7_layer_117 : decode cX7_layer 117 = .ok (.ireturn, 1) := by decide +kernel
theorem dX7_wet_0 : decode cX7_wet 0 = .ok (.aload_n 0, 1) := by decide +kernel
theorem dX7_wet_1 : decode cX7_wet 1 = .ok (.iload_n 1, 1) := by decide +kernel
theorem dX7_wet_2 : decode cX7_wet 2 = .ok (.iload_n 2, 1) := by decide +kernel
theorem dX7_wet_3 : decode cX7_wet 3 = .ok (.invokevirtual 103, 3) := by decide +kernel
theorem dX7_wet_6 : decode cX7_wet 6 = .ok (.astore 4, 2) := by decide +kernel
theorem dX7_wet_8 : decode cX7_wet 8 = .ok (.iload_n 3, 1) := by decide +kernel
theorem dX7_wet_9 : decode cX7_wet 9 = .ok (.iconst 0, 1) := by decide +kernel
theorem dX7_wet_10 : decode cX7_wet 10 = .ok (.aload 4, 2) := by decide +kernel
theorem dX7_wet_12 : decode cX7_wet 12 = .ok (.getfield 107, 3) := by decide +kernel
theorem dX7_wet_15 : decode cX7_wet 15 = .ok (.invokestatic 73, 3) := by decide +kernel
theorem dX7_wet_18 : decode cX7_wet 18 = .ok (.aload 4, 2) := by decide +kernel
theorem dX7_wet_20 : decode cX7_wet 20 = .ok (.getfield 97, 3) := by decide +kernel
theorem dX7_wet_23 : decode cX7_wet 23 = .ok (.istore 5, 2) := by decide +kernel
theorem dX7_wet_25 : decode cX7_wet 25 = .ok (.aload 4, 2) := by decide +kernel
theorem dX7_wet_27 : decode cX7_wet 27 = .ok (.iload_n 3, 1) := by decide +kernel
theorem dX7_wet_28 : decode cX7_wet 28 = .ok (.putfield 97, 3) := by decide +kernel
theorem dX7_wet_31 : decode cX7_wet 31 = .ok (.aload_n 0, 1) := by decide +kernel
theorem dX7_wet_32 : decode cX7_wet 32 = .ok (.iload_n 1, 1) := by decide +kernel
theorem dX7_wet_33 : decode cX7_wet 33 = .ok (.invokevirtual 65, 3) := by decide +kernel
theorem dX7_wet_36 : decode cX7_wet 36 = .ok (.getfield 87, 3) := by decide +kernel
theorem dX7_wet_39 : decode cX7_wet 39 = .ok (.dup, 1) := by decide +kernel
theorem dX7_wet_40 : decode cX7_wet 40 = .ok (.getfield 91, 3) := by decide +kernel
theorem dX7_wet_43 : decode cX7_wet 43 = .ok (.iload_n 3, 1) := by decide +kernel
theorem dX7_wet_44 : decode cX7_wet 44 = .ok (.iload 5, 2) := by decide +kernel
theorem dX7_wet_46 : decode cX7_wet 46 = .ok (.isub, 1) := by decide +kernel
theorem dX7_wet_47 : decode cX7_wet 47 = .ok (.i2l, 1) := by decide +kernel
theorem dX7_wet_48 : decode cX7_wet 48 = .ok (.ladd, 1) := by decide +kernel
theorem dX7_wet_49 : decode cX7_wet 49 = .ok (.putfield 91, 3) := by decide +kernel
theorem dX7_wet_52 : decode cX7_wet 52 = .ok (.iload 5, 2) := by decide +kernel
theorem dX7_wet_54 : decode cX7_wet 54 = .ok (.ireturn, 1) := by decide +kernel
theorem dX7_water_0 : decode cX7_water 0 = .ok (.aload_n 0, 1) := by decide +kernel
theorem dX7_water_1 : decode cX7_water 1 = .ok (.iload_n 1, 1) := by decide +kernel
theorem dX7_water_2 : decode cX7_water 2 = .ok (.iload_n 2, 1) := by decide +kernel
theorem dX7_water_3 : decode cX7_water 3 = .ok (.invokevirtual 103, 3) := by decide +kernel
theorem dX7_water_6 : decode cX7_water 6 = .ok (.getfield 97, 3) := by decide +kernel
theorem dX7_water_9 : decode cX7_water 9 = .ok (.ireturn, 1) := by decide +kernel
theorem dX7_capacity_0 : decode cX7_capacity 0 = .ok (.aload_n 0, 1) := by decide +kernel
theorem dX7_capacity_1 : decode cX7_capacity 1 = .ok (.iload_n 1, 1) := by decide +kernel
theorem dX7_capacity_2 : decode cX7_capacity 2 = .ok (.iload_n 2, 1) := by decide +kernel
theorem dX7_capacity_3 : decode cX7_capacity 3 = .ok (.invokevirtual 103, 3) := by decide +kernel
theorem dX7_capacity_6 : decode cX7_capacity 6 = .ok (.getfield 107, 3) := by decide +kernel
theorem dX7_capacity_9 : decode cX7_capacity 9 = .ok (.ireturn, 1) := by decide +kernel
theorem dX7_link_0 : decode cX7_link 0 = .ok (.aload_n 0, 1) := by decide +kernel
theorem dX7_link_1 : decode cX7_link 1 = .ok (.iload_n 1, 1) := by decide +kernel
theorem dX7_link_2 : decode cX7_link 2 = .ok (.invokevirtual 65, 3) := by decide +kernel
theorem dX7_link_5 : decode cX7_link 5 = .ok (.astore_n 3, 1) := by decide +kernel
theorem dX7_link_6 : decode cX7_link 6 = .ok (.iload_n 2, 1) := by decide +kernel
theorem dX7_link_7 : decode cX7_link 7 = .ok (.iconst (-1), 1) := by decide +kernel
theorem dX7_link_8 : decode cX7_link 8 = .ok (.if_icmp .lt 14, 3) := by decide +kernel
theorem dX7_link_11 : decode cX7_link 11 = .ok (.iload_n 2, 1) := by decide +kernel
theorem dX7_link_12 : decode cX7_link 12 = .ok (.aload_n 0, 1) := by decide +kernel
theorem dX7_link_13 : decode cX7_link 13 = .ok (.getfield 10, 3) := by decide +kernel
theorem dX7_link_16 : decode cX7_link 16 = .ok (.invokevirtual 47, 3) := by decide +kernel
theorem dX7_link_19 : decode cX7_link 19 = .ok (.if_icmp .lt 13, 3) := by decide +kernel
theorem dX7_link_22 : decode cX7_link 22 = .ok (.new 110, 3) := by decide +kernel
theorem dX7_link_25 : decode cX7_link 25 = .ok (.dup, 1) := by decide +kernel
theorem dX7_link_26 : decode cX7_link 26 = .ok (.ldc 112, 2) := by decide +kernel
theorem dX7_link_28 : decode cX7_link 28 = .ok (.invokespecial 114, 3) := by decide +kernel
theorem dX7_link_31 : decode cX7_link 31 = .ok (.athrow, 1) := by decide +kernel
theorem dX7_link_32 : decode cX7_link 32 = .ok (.iload_n 2, 1) := by decide +kernel
theorem dX7_link_33 : decode cX7_link 33 = .ok (.iload_n 1, 1) := by decide +kernel
theorem dX7_link_34 : decode cX7_link 34 = .ok (.if_icmp .ne 13, 3) := by decide +kernel
theorem dX7_link_37 : decode cX7_link 37 = .ok (.new 40, 3) := by decide +kernel
theorem dX7_link_40 : decode cX7_link 40 = .ok (.dup, 1) := by decide +kernel
theorem dX7_link_41 : decode cX7_link 41 = .ok (.ldc 115, 2) := by decide +kernel
theorem dX7_link_43 : decode cX7_link 43 = .ok (.invokespecial 44, 3) := by decide +kernel
theorem dX7_link_46 : decode cX7_link 46 = .ok (.athrow, 1) := by decide +kernel
theorem dX7_link_47 : decode cX7_link 47 = .ok (.aload_n 3, 1) := by decide +kernel
theorem dX7_link_48 : decode cX7_link 48 = .ok (.getfield 117, 3) := by decide +kernel
theorem dX7_link_51 : decode cX7_link 51 = .ok (.istore 4, 2) := by decide +kernel
theorem dX7_link_53 : decode cX7_link 53 = .ok (.aload_n 3, 1) := by decide +kernel
theorem dX7_link_54 : decode cX7_link 54 = .ok (.iload_n 2, 1) := by decide +kernel
theorem dX7_link_55 : decode cX7_link 55 = .ok (.putfield 117, 3) := by decide +kernel
theorem dX7_link_58 : decode cX7_link 58 = .ok (.iload 4, 2) := by decide +kernel
theorem dX7_link_60 : decode cX7_link 60 = .ok (.ireturn, 1) := by decide +kernel
theorem dX7_scale_0 : decode cX7_scale 0 = .ok (.aload_n 0, 1) := by decide +kernel
theorem dX7_scale_1 : decode cX7_scale 1 = .ok (.iload_n 1, 1) := by decide +kernel
theorem dX7_scale_2 : decode cX7_scale 2 = .ok (.invokevirtual 65, 3) := by decide +kernel
theorem dX7_scale_5 : decode cX7_scale 5 = .ok (.astore_n 3, 1) := by decide +kernel
theorem dX7_scale_6 : decode cX7_scale 6 = .ok (.iload_n 2, 1) := by decide +kernel
theorem dX7_scale_7 : decode cX7_scale 7 = .ok (.bipush 10, 2) := by decide +kernel
theorem dX7_scale_9 : decode cX7_scale 9 = .ok (.sipush 400, 3) := by decide +kernel
theorem dX7_scale_12 : decode cX7_scale 12 = .ok (.invokestatic 73, 3) := by decide +kernel
theorem dX7_scale_15 : decode cX7_scale 15 = .ok (.aload_n 3, 1) := by decide +kernel
theorem dX7_scale_16 : decode cX7_scale 16 = .ok (.getfield 120, 3) := by decide +kernel
theorem dX7_scale_19 : decode cX7_scale 19 = .ok (.istore 4, 2) := by decide +kernel
theorem dX7_scale_21 : decode cX7_scale 21 = .ok (.aload_n 3, 1) := by decide +kernel
theorem dX7_scale_22 : decode cX7_scale 22 = .ok (.iload_n 2, 1) := by decide +kernel
theorem dX7_scale_23 : decode cX7_scale 23 = .ok (.putfield 120, 3) := by decide +kernel
theorem dX7_scale_26 : decode cX7_scale 26 = .ok (.iload 4, 2) := by decide +kernel
theorem dX7_scale_28 : decode cX7_scale 28 = .ok (.ireturn, 1) := by decide +kernel
theorem dX7_plant_0 : decode cX7_plant 0 = .ok (.aload_n 0, 1) := by decide +kernel
theorem dX7_plant_1 : decode cX7_plant 1 = .ok (.iload_n 1, 1) := by decide +kernel
theorem dX7_plant_2 : decode cX7_plant 2 = .ok (.invokevirtual 65, 3) := by decide +kernel
theorem dX7_plant_5 : decode cX7_plant 5 = .ok (.astore 4, 2) := by decide +kernel
theorem dX7_plant_7 : decode cX7_plant 7 = .ok (.iload_n 2, 1) := by decide +kernel
theorem dX7_plant_8 : decode cX7_plant 8 = .ok (.iconst 1, 1) := by decide +kernel
theorem dX7_plant_9 : decode cX7_plant 9 = .ok (.bipush 8, 2) := by decide +kernel
theorem dX7_plant_11 : decode cX7_plant 11 = .ok (.invokestatic 73, 3) := by decide +kernel
theorem dX7_plant_14 : decode cX7_plant 14 = .ok (.iload_n 3, 1) := by decide +kernel
theorem dX7_plant_15 : decode cX7_plant 15 = .ok (.iconst 0, 1) := by decide +kernel
theorem dX7_plant_16 : decode cX7_plant 16 = .ok (.bipush 50, 2) := by decide +kernel
theorem dX7_plant_18 : decode cX7_plant 18 = .ok (.invokestatic 73, 3) := by decide +kernel
theorem dX7_plant_21 : decode cX7_plant 21 = .ok (.aload 4, 2) := by decide +kernel
theorem dX7_plant_23 : decode cX7_plant 23 = .ok (.getfield 123, 3) := by decide +kernel
theorem dX7_plant_26 : decode cX7_plant 26 = .ok (.invokevirtual 47, 3) := by decide +kernel
theorem dX7_plant_29 : decode cX7_plant 29 = .ok (.iconst 2, 1) := by decide +kernel
theorem dX7_plant_30 : decode cX7_plant 30 = .ok (.if_icmp .lt 13, 3) := by decide +kernel
theorem dX7_plant_33 : decode cX7_plant 33 = .ok (.new 51, 3) := by decide +kernel
theorem dX7_plant_36 : decode cX7_plant 36 = .ok (.dup, 1) := by decide +kernel
theorem dX7_plant_37 : decode cX7_plant 37 = .ok (.ldc 126, 2) := by decide +kernel
theorem dX7_plant_39 : decode cX7_plant 39 = .ok (.invokespecial 55, 3) := by decide +kernel
theorem dX7_plant_42 : decode cX7_plant 42 = .ok (.athrow, 1) := by decide +kernel
theorem dX7_plant_43 : decode cX7_plant 43 = .ok (.aload 4, 2) := by decide +kernel
theorem dX7_plant_45 : decode cX7_plant 45 = .ok (.getfield 123, 3) := by decide +kernel
theorem dX7_plant_48 : decode cX7_plant 48 = .ok (.new 128, 3) := by decide +kernel
theorem dX7_plant_51 : decode cX7_plant 51 = .ok (.dup, 1) := by decide +kernel
theorem dX7_plant_52 : decode cX7_plant 52 = .ok (.iload_n 2, 1) := by decide +kernel
theorem dX7_plant_53 : decode cX7_plant 53 = .ok (.iload_n 3, 1) := by decide +kernel
theorem dX7_plant_54 : decode cX7_plant 54 = .ok (.invokespecial 130, 3) := by decide +kernel
theorem dX7_plant_57 : decode cX7_plant 57 = .ok (.invokevirtual 61, 3) := by decide +kernel
theorem dX7_plant_60 : decode cX7_plant 60 = .ok (.pop, 1) := by decide +kernel
theorem dX7_plant_61 : decode cX7_plant 61 = .ok (.aload_n 0, 1) := by decide +kernel
theorem dX7_plant_62 : decode cX7_plant 62 = .ok (.iload_n 1, 1) := by decide +kernel
theorem dX7_plant_63 : decode cX7_plant 63 = .ok (.invokevirtual 100, 3) := by decide +kernel
theorem dX7_plant_66 : decode cX7_plant 66 = .ok (.getfield 123, 3) := by decide +kernel
theorem dX7_plant_69 : decode cX7_plant 69 = .ok (.new 128, 3) := by decide +kernel
theorem dX7_plant_72 : decode cX7_plant 72 = .ok (.dup, 1) := by decide +kernel
theorem dX7_plant_73 : decode cX7_plant 73 = .ok (.iload_n 2, 1) := by decide +kernel
theorem dX7_plant_74 : decode cX7_plant 74 = .ok (.iload_n 3, 1) := by decide +kernel
theorem dX7_plant_75 : decode cX7_plant 75 = .ok (.invokespecial 130, 3) := by decide +kernel
theorem dX7_plant_78 : decode cX7_plant 78 = .ok (.invokevirtual 61, 3) := by decide +kernel
theorem dX7_plant_81 : decode cX7_plant 81 = .ok (.pop, 1) := by decide +kernel
theorem dX7_plant_82 : decode cX7_plant 82 = .ok (.aload 4, 2) := by decide +kernel
theorem dX7_plant_84 : decode cX7_plant 84 = .ok (.getfield 123, 3) := by decide +kernel
theorem dX7_plant_87 : decode cX7_plant 87 = .ok (.invokevirtual 47, 3) := by decide +kernel
theorem dX7_plant_90 : decode cX7_plant 90 = .ok (.ireturn, 1) := by decide +kernel
theorem dX7_harvest_0 : decode cX7_harvest 0 = .ok (.aload_n 0, 1) := by decide +kernel
theorem dX7_harvest_1 : decode cX7_harvest 1 = .ok (.iload_n 1, 1) := by decide +kernel
theorem dX7_harvest_2 : decode cX7_harvest 2 = .ok (.invokevirtual 65, 3) := by decide +kernel
theorem dX7_harvest_5 : decode cX7_harvest 5 = .ok (.astore_n 2, 1) := by decide +kernel
theorem dX7_harvest_6 : decode cX7_harvest 6 = .ok (.aload_n 2, 1) := by decide +kernel
theorem dX7_harvest_7 : decode cX7_harvest 7 = .ok (.getfield 123, 3) := by decide +kernel
theorem dX7_harvest_10 : decode cX7_harvest 10 = .ok (.invokevirtual 47, 3) := by decide +kernel
theorem dX7_harvest_13 : decode cX7_harvest 13 = .ok (.istore_n 3, 1) := by decide +kernel
theorem dX7_harvest_14 : decode cX7_harvest 14 = .ok (.aload_n 2, 1) := by decide +kernel
theorem dX7_harvest_15 : decode cX7_harvest 15 = .ok (.getfield 123, 3) := by decide +kernel
theorem dX7_harvest_18 : decode cX7_harvest 18 = .ok (.invokevirtual 133, 3) := by decide +kernel
theorem dX7_harvest_21 : decode cX7_harvest 21 = .ok (.aload_n 0, 1) := by decide +kernel
theorem dX7_harvest_22 : decode cX7_harvest 22 = .ok (.iload_n 1, 1) := by decide +kernel
theorem dX7_harvest_23 : decode cX7_harvest 23 = .ok (.invokevirtual 100, 3) := by decide +kernel
theorem dX7_harvest_26 : decode cX7_harvest 26 = .ok (.getfield 123, 3) := by decide +kernel
theorem dX7_harvest_29 : decode cX7_harvest 29 = .ok (.invokevirtual 133, 3) := by decide +kernel
theorem dX7_harvest_32 : decode cX7_harvest 32 = .ok (.iload_n 3, 1) := by decide +kernel
theorem dX7_harvest_33 : decode cX7_harvest 33 = .ok (.ireturn, 1) := by decide +kernel
theorem dX7_stress_0 : decode cX7_stress 0 = .ok (.aload_n 0, 1) := by decide +kernel
theorem dX7_stress_1 : decode cX7_stress 1 = .ok (.iload_n 1, 1) := by decide +kernel
theorem dX7_stress_2 : decode cX7_stress 2 = .ok (.invokevirtual 65, 3) := by decide +kernel
theorem dX7_stress_5 : decode cX7_stress 5 = .ok (.astore_n 3, 1) := by decide +kernel
theorem dX7_stress_6 : decode cX7_stress 6 = .ok (.iload_n 2, 1) := by decide +kernel
theorem dX7_stress_7 : decode cX7_stress 7 = .ok (.ifCond .lt 14, 3) := by decide +kernel
theorem dX7_stress_10 : decode cX7_stress 10 = .ok (.iload_n 2, 1) := by decide +kernel
theorem dX7_stress_11 : decode cX7_stress 11 = .ok (.aload_n 3, 1) := by decide +kernel
theorem dX7_stress_12 : decode cX7_stress 12 = .ok (.getfield 123, 3) := by decide +kernel
theorem dX7_stress_15 : decode cX7_stress 15 = .ok (.invokevirtual 47, 3) := by decide +kernel
theorem dX7_stress_18 : decode cX7_stress 18 = .ok (.if_icmp .lt 13, 3) := by decide +kernel
theorem dX7_stress_21 : decode cX7_stress 21 = .ok (.new 136, 3) := by decide +kernel
theorem dX7_stress_24 : decode cX7_stress 24 = .ok (.dup, 1) := by decide +kernel
theorem dX7_stress_25 : decode cX7_stress 25 = .ok (.ldc 138, 2) := by decide +kernel
theorem dX7_stress_27 : decode cX7_stress 27 = .ok (.invokespecial 140, 3) := by decide +kernel
theorem dX7_stress_30 : decode cX7_stress 30 = .ok (.athrow, 1) := by decide +kernel
theorem dX7_stress_31 : decode cX7_stress 31 = .ok (.aload_n 3, 1) := by decide +kernel
theorem dX7_stress_32 : decode cX7_stress 32 = .ok (.getfield 123, 3) := by decide +kernel
theorem dX7_stress_35 : decode cX7_stress 35 = .ok (.iload_n 2, 1) := by decide +kernel
theorem dX7_stress_36 : decode cX7_stress 36 = .ok (.invokevirtual 141, 3) := by decide +kernel
theorem dX7_stress_39 : decode cX7_stress 39 = .ok (.checkcast 128, 3) := by decide +kernel
theorem dX7_stress_42 : decode cX7_stress 42 = .ok (.getfield 145, 3) := by decide +kernel
theorem dX7_stress_45 : decode cX7_stress 45 = .ok (.l2i, 1) := by decide +kernel
theorem dX7_stress_46 : decode cX7_stress 46 = .ok (.ireturn, 1) := by decide +kernel
theorem dX7_mulch_0 : decode cX7_mulch 0 = .ok (.aload_n 0, 1) := by decide +kernel
theorem dX7_mulch_1 : decode cX7_mulch 1 = .ok (.iload_n 1, 1) := by decide +kernel
theorem dX7_mulch_2 : decode cX7_mulch 2 = .ok (.invokevirtual 65, 3) := by decide +kernel
theorem dX7_mulch_5 : decode cX7_mulch 5 = .ok (.astore_n 3, 1) := by decide +kernel
theorem dX7_mulch_6 : decode cX7_mulch 6 = .ok (.aload_n 3, 1) := by decide +kernel
theorem dX7_mulch_7 : decode cX7_mulch 7 = .ok (.getfield 148, 3) := by decide +kernel
theorem dX7_mulch_10 : decode cX7_mulch 10 = .ok (.istore 4, 2) := by decide +kernel
theorem dX7_mulch_12 : decode cX7_mulch 12 = .ok (.aload_n 3, 1) := by decide +kernel
theorem dX7_mulch_13 : decode cX7_mulch 13 = .ok (.iload_n 2, 1) := by decide +kernel
theorem dX7_mulch_14 : decode cX7_mulch 14 = .ok (.putfield 148, 3) := by decide +kernel
theorem dX7_mulch_17 : decode cX7_mulch 17 = .ok (.iload 4, 2) := by decide +kernel
theorem dX7_mulch_19 : decode cX7_mulch 19 = .ok (.ireturn, 1) := by decide +kernel
theorem dX7_rule_0 : decode cX7_rule 0 = .ok (.aload_n 0, 1) := by decide +kernel
theorem dX7_rule_1 : decode cX7_rule 1 = .ok (.iload_n 1, 1) := by decide +kernel
theorem dX7_rule_2 : decode cX7_rule 2 = .ok (.invokevirtual 65, 3) := by decide +kernel
theorem dX7_rule_5 : decode cX7_rule 5 = .ok (.astore 4, 2) := by decide +kernel
theorem dX7_rule_7 : decode cX7_rule 7 = .ok (.iload_n 2, 1) := by decide +kernel
theorem dX7_rule_8 : decode cX7_rule 8 = .ok (.iconst 0, 1) := by decide +kernel
theorem dX7_rule_9 : decode cX7_rule 9 = .ok (.sipush 9999, 3) := by decide +kernel
theorem dX7_rule_12 : decode cX7_rule 12 = .ok (.invokestatic 73, 3) := by decide +kernel
theorem dX7_rule_15 : decode cX7_rule 15 = .ok (.iload_n 3, 1) := by decide +kernel
theorem dX7_rule_16 : decode cX7_rule 16 = .ok (.iconst 0, 1) := by decide +kernel
theorem dX7_rule_17 : decode cX7_rule 17 = .ok (.sipush 200, 3) := by decide +kernel
theorem dX7_rule_20 : decode cX7_rule 20 = .ok (.invokestatic 73, 3) := by decide +kernel
theorem dX7_rule_23 : decode cX7_rule 23 = .ok (.aload 4, 2) := by decide +kernel
theorem dX7_rule_25 : decode cX7_rule 25 = .ok (.getfield 152, 3) := by decide +kernel
theorem dX7_rule_28 : decode cX7_rule 28 = .ok (.istore 5, 2) := by decide +kernel
theorem dX7_rule_30 : decode cX7_rule 30 = .ok (.aload 4, 2) := by decide +kernel
theorem dX7_rule_32 : decode cX7_rule 32 = .ok (.iload_n 2, 1) := by decide +kernel
theorem dX7_rule_33 : decode cX7_rule 33 = .ok (.putfield 152, 3) := by decide +kernel
theorem dX7_rule_36 : decode cX7_rule 36 = .ok (.aload 4, 2) := by decide +kernel
theorem dX7_rule_38 : decode cX7_rule 38 = .ok (.iload_n 3, 1) := by decide +kernel
theorem dX7_rule_39 : decode cX7_rule 39 = .ok (.putfield 155, 3) := by decide +kernel
theorem dX7_rule_42 : decode cX7_rule 42 = .ok (.iload 5, 2) := by decide +kernel
theorem dX7_rule_44 : decode cX7_rule 44 = .ok (.ireturn, 1) := by decide +kernel
theorem dX7_spread_0 : decode cX7_spread 0 = .ok (.aload_n 0, 1) := by decide +kernel
theorem dX7_spread_1 : decode cX7_spread 1 = .ok (.iload_n 1, 1) := by decide +kernel
theorem dX7_spread_2 : decode cX7_spread 2 = .ok (.invokevirtual 65, 3) := by decide +kernel
theorem dX7_spread_5 : decode cX7_spread 5 = .ok (.astore 4, 2) := by decide +kernel
theorem dX7_spread_7 : decode cX7_spread 7 = .ok (.iload_n 2, 1) := by decide +kernel
theorem dX7_spread_8 : decode cX7_spread 8 = .ok (.invokestatic 158, 3) := by decide +kernel
theorem dX7_spread_11 : decode cX7_spread 11 = .ok (.istore 5, 2) := by decide +kernel
theorem dX7_spread_13 : decode cX7_spread 13 = .ok (.iload_n 3, 1) := by decide +kernel
theorem dX7_spread_14 : decode cX7_spread 14 = .ok (.iconst 1, 1) := by decide +kernel
theorem dX7_spread_15 : decode cX7_spread 15 = .ok (.ldc 162, 2) := by decide +kernel
theorem dX7_spread_17 : decode cX7_spread 17 = .ok (.invokestatic 73, 3) := by decide +kernel
theorem dX7_spread_20 : decode cX7_spread 20 = .ok (.aload 4, 2) := by decide +kernel
theorem dX7_spread_22 : decode cX7_spread 22 = .ok (.invokevirtual 163, 3) := by decide +kernel
theorem dX7_spread_25 : decode cX7_spread 25 = .ok (.astore 6, 2) := by decide +kernel
theorem dX7_spread_27 : decode cX7_spread 27 = .ok (.aload 6, 2) := by decide +kernel
theorem dX7_spread_29 : decode cX7_spread 29 = .ok (.ifnonnull 13, 3) := by decide +kernel
theorem dX7_spread_32 : decode cX7_spread 32 = .ok (.new 167, 3) := by decide +kernel
theorem dX7_spread_35 : decode cX7_spread 35 = .ok (.dup, 1) := by decide +kernel
theorem dX7_spread_36 : decode cX7_spread 36 = .ok (.ldc 169, 2) := by decide +kernel
theorem dX7_spread_38 : decode cX7_spread 38 = .ok (.invokespecial 171, 3) := by decide +kernel
theorem dX7_spread_41 : decode cX7_spread 41 = .ok (.athrow, 1) := by decide +kernel
theorem dX7_spread_42 : decode cX7_spread 42 = .ok (.aload 6, 2) := by decide +kernel
theorem dX7_spread_44 : decode cX7_spread 44 = .ok (.getfield 172, 3) := by decide +kernel
theorem dX7_spread_47 : decode cX7_spread 47 = .ok (.iload 5, 2) := by decide +kernel
theorem dX7_spread_49 : decode cX7_spread 49 = .ok (.iload_n 3, 1) := by decide +kernel
theorem dX7_spread_50 : decode cX7_spread 50 = .ok (.i2l, 1) := by decide +kernel
theorem dX7_spread_51 : decode cX7_spread 51 = .ok (.invokevirtual 176, 3) := by decide +kernel
theorem dX7_spread_54 : decode cX7_spread 54 = .ok (.aload 4, 2) := by decide +kernel
theorem dX7_spread_56 : decode cX7_spread 56 = .ok (.getfield 87, 3) := by decide +kernel
theorem dX7_spread_59 : decode cX7_spread 59 = .ok (.getfield 182, 3) := by decide +kernel
theorem dX7_spread_62 : decode cX7_spread 62 = .ok (.iload 5, 2) := by decide +kernel
theorem dX7_spread_64 : decode cX7_spread 64 = .ok (.iload_n 3, 1) := by decide +kernel
theorem dX7_spread_65 : decode cX7_spread 65 = .ok (.i2l, 1) := by decide +kernel
theorem dX7_spread_66 : decode cX7_spread 66 = .ok (.invokevirtual 176, 3) := by decide +kernel
theorem dX7_spread_69 : decode cX7_spread 69 = .ok (.aload 6, 2) := by decide +kernel
theorem dX7_spread_71 : decode cX7_spread 71 = .ok (.getfield 172, 3) := by decide +kernel
theorem dX7_spread_74 : decode cX7_spread 74 = .ok (.iload 5, 2) := by decide +kernel
theorem dX7_spread_76 : decode cX7_spread 76 = .ok (.invokevirtual 185, 3) := by decide +kernel
theorem dX7_spread_79 : decode cX7_spread 79 = .ok (.lreturn, 1) := by decide +kernel
theorem dX7_manure_0 : decode cX7_manure 0 = .ok (.aload_n 0, 1) := by decide +kernel
theorem dX7_manure_1 : decode cX7_manure 1 = .ok (.iload_n 1, 1) := by decide +kernel
theorem dX7_manure_2 : decode cX7_manure 2 = .ok (.invokevirtual 65, 3) := by decide +kernel
theorem dX7_manure_5 : decode cX7_manure 5 = .ok (.astore_n 3, 1) := by decide +kernel
theorem dX7_manure_6 : decode cX7_manure 6 = .ok (.iload_n 2, 1) := by decide +kernel
theorem dX7_manure_7 : decode cX7_manure 7 = .ok (.iconst 1, 1) := by decide +kernel
theorem dX7_manure_8 : decode cX7_manure 8 = .ok (.ldc 162, 2) := by decide +kernel
theorem dX7_manure_10 : decode cX7_manure 10 = .ok (.invokestatic 73, 3) := by decide +kernel
theorem dX7_manure_13 : decode cX7_manure 13 = .ok (.aload_n 3, 1) := by decide +kernel
theorem dX7_manure_14 : decode cX7_manure 14 = .ok (.dup, 1) := by decide +kernel
theorem dX7_manure_15 : decode cX7_manure 15 = .ok (.getfield 189, 3) := by decide +kernel
theorem dX7_manure_18 : decode cX7_manure 18 = .ok (.iload_n 2, 1) := by decide +kernel
theorem dX7_manure_19 : decode cX7_manure 19 = .ok (.i2l, 1) := by decide +kernel
theorem dX7_manure_20 : decode cX7_manure 20 = .ok (.ladd, 1) := by decide +kernel
theorem dX7_manure_21 : decode cX7_manure 21 = .ok (.putfield 189, 3) := by decide +kernel
theorem dX7_manure_24 : decode cX7_manure 24 = .ok (.aload_n 3, 1) := by decide +kernel
theorem dX7_manure_25 : decode cX7_manure 25 = .ok (.getfield 189, 3) := by decide +kernel
theorem dX7_manure_28 : decode cX7_manure 28 = .ok (.lreturn, 1) := by decide +kernel
theorem dX7_solute_0 : decode cX7_solute 0 = .ok (.aload_n 0, 1) := by decide +kernel
theorem dX7_solute_1 : decode cX7_solute 1 = .ok (.iload_n 1, 1) := by decide +kernel
theorem dX7_solute_2 : decode cX7_solute 2 = .ok (.iload_n 2, 1) := by decide +kernel
theorem dX7_solute_3 : decode cX7_solute 3 = .ok (.invokevirtual 103, 3) := by decide +kernel
theorem dX7_solute_6 : decode cX7_solute 6 = .ok (.astore 4, 2) := by decide +kernel
theorem dX7_solute_8 : decode cX7_solute 8 = .ok (.aload 4, 2) := by decide +kernel
theorem dX7_solute_10 : decode cX7_solute 10 = .ok (.getfield 172, 3) := by decide +kernel
theorem dX7_solute_13 : decode cX7_solute 13 = .ok (.iload_n 3, 1) := by decide +kernel
theorem dX7_solute_14 : decode cX7_solute 14 = .ok (.invokestatic 158, 3) := by decide +kernel
theorem dX7_solute_17 : decode cX7_solute 17 = .ok (.invokevirtual 185, 3) := by decide +kernel
theorem dX7_solute_20 : decode cX7_solute 20 = .ok (.lreturn, 1) := by decide +kernel
theorem dX7_out_0 : decode cX7_out 0 = .ok (.aload_n 0, 1) := by decide +kernel
theorem dX7_out_1 : decode cX7_out 1 = .ok (.iload_n 1, 1) := by decide +kernel
theorem dX7_out_2 : decode cX7_out 2 = .ok (.invokevirtual 65, 3) := by decide +kernel
theorem dX7_out_5 : decode cX7_out 5 = .ok (.astore_n 3, 1) := by decide +kernel
theorem dX7_out_6 : decode cX7_out 6 = .ok (.aload_n 3, 1) := by decide +kernel
theorem dX7_out_7 : decode cX7_out 7 = .ok (.getfield 87, 3) := by decide +kernel
theorem dX7_out_10 : decode cX7_out 10 = .ok (.getfield 192, 3) := by decide +kernel
theorem dX7_out_13 : decode cX7_out 13 = .ok (.iload_n 2, 1) := by decide +kernel
theorem dX7_out_14 : decode cX7_out 14 = .ok (.invokestatic 158, 3) := by decide +kernel
theorem dX7_out_17 : decode cX7_out 17 = .ok (.invokevirtual 185, 3) := by decide +kernel
theorem dX7_out_20 : decode cX7_out 20 = .ok (.lreturn, 1) := by decide +kernel
theorem dX7_eaten_0 : decode cX7_eaten 0 = .ok (.aload_n 0, 1) := by decide +kernel
theorem dX7_eaten_1 : decode cX7_eaten 1 = .ok (.iload_n 1, 1) := by decide +kernel
theorem dX7_eaten_2 : decode cX7_eaten 2 = .ok (.invokevirtual 65, 3) := by decide +kernel
theorem dX7_eaten_5 : decode cX7_eaten 5 = .ok (.getfield 87, 3) := by decide +kernel
theorem dX7_eaten_8 : decode cX7_eaten 8 = .ok (.getfield 195, 3) := by decide +kernel
theorem dX7_eaten_11 : decode cX7_eaten 11 = .ok (.lreturn, 1) := by decide +kernel
theorem dX7_weather_0 : decode cX7_weather 0 = .ok (.iload_n 1, 1) := by decide +kernel
theorem dX7_weather_1 : decode cX7_weather 1 = .ok (.bipush (-30), 2) := by decide +kernel
theorem dX7_weather_3 : decode cX7_weather 3 = .ok (.bipush 45, 2) := by decide +kernel
theorem dX7_weather_5 : decode cX7_weather 5 = .ok (.invokestatic 73, 3) := by decide +kernel
theorem dX7_weather_8 : decode cX7_weather 8 = .ok (.iload_n 2, 1) := by decide +kernel
theorem dX7_weather_9 : decode cX7_weather 9 = .ok (.iconst 0, 1) := by decide +kernel
theorem dX7_weather_10 : decode cX7_weather 10 = .ok (.sipush 999, 3) := by decide +kernel
theorem dX7_weather_13 : decode cX7_weather 13 = .ok (.invokestatic 73, 3) := by decide +kernel
theorem dX7_weather_16 : decode cX7_weather 16 = .ok (.iload_n 3, 1) := by decide +kernel
theorem dX7_weather_17 : decode cX7_weather 17 = .ok (.iconst 0, 1) := by decide +kernel
theorem dX7_weather_18 : decode cX7_weather 18 = .ok (.bipush 99, 2) := by decide +kernel
theorem dX7_weather_20 : decode cX7_weather 20 = .ok (.invokestatic 73, 3) := by decide +kernel
theorem dX7_weather_23 : decode cX7_weather 23 = .ok (.aload_n 0, 1) := by decide +kernel
theorem dX7_weather_24 : decode cX7_weather 24 = .ok (.getfield 22, 3) := by decide +kernel
theorem dX7_weather_27 : decode cX7_weather 27 = .ok (.getfield 198, 3) := by decide +kernel
theorem dX7_weather_30 : decode cX7_weather 30 = .ok (.istore 4, 2) := by decide +kernel
theorem dX7_weather_32 : decode cX7_weather 32 = .ok (.aload_n 0, 1) := by decide +kernel
theorem dX7_weather_33 : decode cX7_weather 33 = .ok (.getfield 22, 3) := by decide +kernel
theorem dX7_weather_36 : decode cX7_weather 36 = .ok (.iload_n 1, 1) := by decide +kernel
theorem dX7_weather_37 : decode cX7_weather 37 = .ok (.putfield 198, 3) := by decide +kernel
theorem dX7_weather_40 : decode cX7_weather 40 = .ok (.aload_n 0, 1) := by decide +kernel
theorem dX7_weather_41 : decode cX7_weather 41 = .ok (.getfield 22, 3) := by decide +kernel
theorem dX7_weather_44 : decode cX7_weather 44 = .ok (.iload_n 2, 1) := by decide +kernel
theorem dX7_weather_45 : decode cX7_weather 45 = .ok (.putfield 201, 3) := by decide +kernel
theorem dX7_weather_48 : decode cX7_weather 48 = .ok (.aload_n 0, 1) := by decide +kernel
theorem dX7_weather_49 : decode cX7_weather 49 = .ok (.getfield 22, 3) := by decide +kernel
theorem dX7_weather_52 : decode cX7_weather 52 = .ok (.iload_n 3, 1) := by decide +kernel
theorem dX7_weather_53 : decode cX7_weather 53 = .ok (.putfield 204, 3) := by decide +kernel
theorem dX7_weather_56 : decode cX7_weather 56 = .ok (.iload 4, 2) := by decide +kernel
theorem dX7_weather_58 : decode cX7_weather 58 = .ok (.ireturn, 1) := by decide +kernel
theorem dX7_law_0 : decode cX7_law 0 = .ok (.iload_n 1, 1) := by decide +kernel
theorem dX7_law_1 : decode cX7_law 1 = .ok (.iconst 0, 1) := by decide +kernel
theorem dX7_law_2 : decode cX7_law 2 = .ok (.sipush 9999, 3) := by decide +kernel
theorem dX7_law_5 : decode cX7_law 5 = .ok (.invokestatic 73, 3) := by decide +kernel
theorem dX7_law_8 : decode cX7_law 8 = .ok (.iload_n 2, 1) := by decide +kernel
theorem dX7_law_9 : decode cX7_law 9 = .ok (.iconst 0, 1) := by decide +kernel
theorem dX7_law_10 : decode cX7_law 10 = .ok (.sipush 999, 3) := by decide +kernel
theorem dX7_law_13 : decode cX7_law 13 = .ok (.invokestatic 73, 3) := by decide +kernel
theorem dX7_law_16 : decode cX7_law 16 = .ok (.aload_n 0, 1) := by decide +kernel
theorem dX7_law_17 : decode cX7_law 17 = .ok (.getfield 30, 3) := by decide +kernel
theorem dX7_law_20 : decode cX7_law 20 = .ok (.istore_n 3, 1) := by decide +kernel
theorem dX7_law_21 : decode cX7_law 21 = .ok (.aload_n 0, 1) := by decide +kernel
theorem dX7_law_22 : decode cX7_law 22 = .ok (.iload_n 1, 1) := by decide +kernel
theorem dX7_law_23 : decode cX7_law 23 = .ok (.putfield 30, 3) := by decide +kernel
theorem dX7_law_26 : decode cX7_law 26 = .ok (.aload_n 0, 1) := by decide +kernel
theorem dX7_law_27 : decode cX7_law 27 = .ok (.iload_n 2, 1) := by decide +kernel
theorem dX7_law_28 : decode cX7_law 28 = .ok (.putfield 34, 3) := by decide +kernel
theorem dX7_law_31 : decode cX7_law 31 = .ok (.iload_n 3, 1) := by decide +kernel
theorem dX7_law_32 : decode cX7_law 32 = .ok (.ireturn, 1) := by decide +kernel
theorem dX7_hours_0 : decode cX7_hours 0 = .ok (.iload_n 1, 1) := by decide +kernel
theorem dX7_hours_1 : decode cX7_hours 1 = .ok (.iconst 1, 1) := by decide +kernel
theorem dX7_hours_2 : decode cX7_hours 2 = .ok (.bipush 48, 2) := by decide +kernel
theorem dX7_hours_4 : decode cX7_hours 4 = .ok (.invokestatic 73, 3) := by decide +kernel
theorem dX7_hours_7 : decode cX7_hours 7 = .ok (.iconst 0, 1) := by decide +kernel
theorem dX7_hours_8 : decode cX7_hours 8 = .ok (.istore_n 2, 1) := by decide +kernel
theorem dX7_hours_9 : decode cX7_hours 9 = .ok (.iload_n 2, 1) := by decide +kernel
theorem dX7_hours_10 : decode cX7_hours 10 = .ok (.iload_n 1, 1) := by decide +kernel
theorem dX7_hours_11 : decode cX7_hours 11 = .ok (.if_icmp .ge 53, 3) := by decide +kernel
theorem dX7_hours_14 : decode cX7_hours 14 = .ok (.iconst 0, 1) := by decide +kernel
theorem dX7_hours_15 : decode cX7_hours 15 = .ok (.istore_n 3, 1) := by decide +kernel
theorem dX7_hours_16 : decode cX7_hours 16 = .ok (.iload_n 3, 1) := by decide +kernel
theorem dX7_hours_17 : decode cX7_hours 17 = .ok (.aload_n 0, 1) := by decide +kernel
theorem dX7_hours_18 : decode cX7_hours 18 = .ok (.getfield 10, 3) := by decide +kernel
theorem dX7_hours_21 : decode cX7_hours 21 = .ok (.invokevirtual 47, 3) := by decide +kernel
theorem dX7_hours_24 : decode cX7_hours 24 = .ok (.if_icmp .ge 24, 3) := by decide +kernel
theorem dX7_hours_27 : decode cX7_hours 27 = .ok (.aload_n 0, 1) := by decide +kernel
theorem dX7_hours_28 : decode cX7_hours 28 = .ok (.aload_n 0, 1) := by decide +kernel
theorem dX7_hours_29 : decode cX7_hours 29 = .ok (.getfield 10, 3) := by decide +kernel
theorem dX7_hours_32 : decode cX7_hours 32 = .ok (.iload_n 3, 1) := by decide +kernel
theorem dX7_hours_33 : decode cX7_hours 33 = .ok (.invokevirtual 141, 3) := by decide +kernel
theorem dX7_hours_36 : decode cX7_hours 36 = .ok (.checkcast 56, 3) := by decide +kernel
theorem dX7_hours_39 : decode cX7_hours 39 = .ok (.invokevirtual 207, 3) := by decide +kernel
theorem dX7_hours_42 : decode cX7_hours 42 = .ok (.iinc 3 1, 3) := by decide +kernel
theorem dX7_hours_45 : decode cX7_hours 45 = .ok (.goto (-29), 3) := by decide +kernel
theorem dX7_hours_48 : decode cX7_hours 48 = .ok (.aload_n 0, 1) := by decide +kernel
theorem dX7_hours_49 : decode cX7_hours 49 = .ok (.dup, 1) := by decide +kernel
theorem dX7_hours_50 : decode cX7_hours 50 = .ok (.getfield 37, 3) := by decide +kernel
theorem dX7_hours_53 : decode cX7_hours 53 = .ok (.iconst 1, 1) := by decide +kernel
theorem dX7_hours_54 : decode cX7_hours 54 = .ok (.iadd, 1) := by decide +kernel
theorem dX7_hours_55 : decode cX7_hours 55 = .ok (.putfield 37, 3) := by decide +kernel
theorem dX7_hours_58 : decode cX7_hours 58 = .ok (.iinc 2 1, 3) := by decide +kernel
theorem dX7_hours_61 : decode cX7_hours 61 = .ok (.goto (-52), 3) := by decide +kernel
theorem dX7_hours_64 : decode cX7_hours 64 = .ok (.aload_n 0, 1) := by decide +kernel
theorem dX7_hours_65 : decode cX7_hours 65 = .ok (.getfield 37, 3) := by decide +kernel
theorem dX7_hours_68 : decode cX7_hours 68 = .ok (.ireturn, 1) := by decide +kernel
theorem dX7_standing_0 : decode cX7_standing 0 = .ok (.aload_n 0, 1) := by decide +kernel
theorem dX7_standing_1 : decode cX7_standing 1 = .ok (.iload_n 1, 1) := by decide +kernel
theorem dX7_standing_2 : decode cX7_standing 2 = .ok (.invokevirtual 65, 3) := by decide +kernel
theorem dX7_standing_5 : decode cX7_standing 5 = .ok (.getfield 211, 3) := by decide +kernel
theorem dX7_standing_8 : decode cX7_standing 8 = .ok (.ireturn, 1) := by decide +kernel
theorem dX7_recharge_0 : decode cX7_recharge 0 = .ok (.aload_n 0, 1) := by decide +kernel
theorem dX7_recharge_1 : decode cX7_recharge 1 = .ok (.iload_n 1, 1) := by decide +kernel
theorem dX7_recharge_2 : decode cX7_recharge 2 = .ok (.invokevirtual 65, 3) := by decide +kernel
theorem dX7_recharge_5 : decode cX7_recharge 5 = .ok (.getfield 87, 3) := by decide +kernel
theorem dX7_recharge_8 : decode cX7_recharge 8 = .ok (.getfield 214, 3) := by decide +kernel
theorem dX7_recharge_11 : decode cX7_recharge 11 = .ok (.lreturn, 1) := by decide +kernel
theorem dX7_runoff_0 : decode cX7_runoff 0 = .ok (.aload_n 0, 1) := by decide +kernel
theorem dX7_runoff_1 : decode cX7_runoff 1 = .ok (.iload_n 1, 1) := by decide +kernel
theorem dX7_runoff_2 : decode cX7_runoff 2 = .ok (.invokevirtual 65, 3) := by decide +kernel
theorem dX7_runoff_5 : decode cX7_runoff 5 = .ok (.getfield 87, 3) := by decide +kernel
theorem dX7_runoff_8 : decode cX7_runoff 8 = .ok (.getfield 217, 3) := by decide +kernel
theorem dX7_runoff_11 : decode cX7_runoff 11 = .ok (.lreturn, 1) := by decide +kernel
theorem dX7_vapour_0 : decode cX7_vapour 0 = .ok (.aload_n 0, 1) := by decide +kernel
theorem dX7_vapour_1 : decode cX7_vapour 1 = .ok (.iload_n 1, 1) := by decide +kernel
theorem dX7_vapour_2 : decode cX7_vapour 2 = .ok (.invokevirtual 65, 3) := by decide +kernel
theorem dX7_vapour_5 : decode cX7_vapour 5 = .ok (.getfield 87, 3) := by decide +kernel
theorem dX7_vapour_8 : decode cX7_vapour 8 = .ok (.getfield 220, 3) := by decide +kernel
theorem dX7_vapour_11 : decode cX7_vapour 11 = .ok (.lreturn, 1) := by decide +kernel
theorem dX7_isFrozen_0 : decode cX7_isFrozen 0 = .ok (.aload_n 0, 1) := by decide +kernel
theorem dX7_isFrozen_1 : decode cX7_isFrozen 1 = .ok (.iload_n 1, 1) := by decide +kernel
theorem dX7_isFrozen_2 : decode cX7_isFrozen 2 = .ok (.iload_n 2, 1) := by decide +kernel
theorem dX7_isFrozen_3 : decode cX7_isFrozen 3 = .ok (.invokevirtual 103, 3) := by decide +kernel
theorem dX7_isFrozen_6 : decode cX7_isFrozen 6 = .ok (.getfield 223, 3) := by decide +kernel
theorem dX7_isFrozen_9 : decode cX7_isFrozen 9 = .ok (.ireturn, 1) := by decide +kernel
theorem dX7_frost_0 : decode cX7_frost 0 = .ok (.aload_n 0, 1) := by decide +kernel
theorem dX7_frost_1 : decode cX7_frost 1 = .ok (.iload_n 1, 1) := by decide +kernel
theorem dX7_frost_2 : decode cX7_frost 2 = .ok (.iload_n 2, 1) := by decide +kernel
theorem dX7_frost_3 : decode cX7_frost 3 = .ok (.invokevirtual 103, 3) := by decide +kernel
theorem dX7_frost_6 : decode cX7_frost 6 = .ok (.getfield 226, 3) := by decide +kernel
theorem dX7_frost_9 : decode cX7_frost 9 = .ok (.ireturn, 1) := by decide +kernel
theorem dX7_heave_0 : decode cX7_heave 0 = .ok (.aload_n 0, 1) := by decide +kernel
theorem dX7_heave_1 : decode cX7_heave 1 = .ok (.iload_n 1, 1) := by decide +kernel
theorem dX7_heave_2 : decode cX7_heave 2 = .ok (.invokevirtual 65, 3) := by decide +kernel
theorem dX7_heave_5 : decode cX7_heave 5 = .ok (.invokevirtual 229, 3) := by decide +kernel
theorem dX7_heave_8 : decode cX7_heave 8 = .ok (.bipush 10, 2) := by decide +kernel
theorem dX7_heave_10 : decode cX7_heave 10 = .ok (.idiv, 1) := by decide +kernel
theorem dX7_heave_11 : decode cX7_heave 11 = .ok (.ireturn, 1) := by decide +kernel
theorem dX7_crack_0 : decode cX7_crack 0 = .ok (.aload_n 0, 1) := by decide +kernel
theorem dX7_crack_1 : decode cX7_crack 1 = .ok (.iload_n 1, 1) := by decide +kernel
theorem dX7_crack_2 : decode cX7_crack 2 = .ok (.invokevirtual 65, 3) := by decide +kernel
theorem dX7_crack_5 : decode cX7_crack 5 = .ok (.invokevirtual 232, 3) := by decide +kernel
theorem dX7_crack_8 : decode cX7_crack 8 = .ok (.ireturn, 1) := by decide +kernel
theorem dX7_tension_0 : decode cX7_tension 0 = .ok (.aload_n 0, 1) := by decide +kernel
theorem dX7_tension_1 : decode cX7_tension 1 = .ok (.iload_n 1, 1) := by decide +kernel
theorem dX7_tension_2 : decode cX7_tension 2 = .ok (.iload_n 2, 1) := by decide +kernel
theorem dX7_tension_3 : decode cX7_tension 3 = .ok (.invokevirtual 103, 3) := by decide +kernel
theorem dX7_tension_6 : decode cX7_tension 6 = .ok (.astore_n 3, 1) := by decide +kernel
theorem dX7_tension_7 : decode cX7_tension 7 = .ok (.aload_n 3, 1) := by decide +kernel
theorem dX7_tension_8 : decode cX7_tension 8 = .ok (.getfield 107, 3) := by decide +kernel
theorem dX7_tension_11 : decode cX7_tension 11 = .ok (.aload_n 3, 1) := by decide +kernel
theorem dX7_tension_12 : decode cX7_tension 12 = .ok (.getfield 235, 3) := by decide +kernel
theorem dX7_tension_15 : decode cX7_tension 15 = .ok (.isub, 1) := by decide +kernel
theorem dX7_tension_16 : decode cX7_tension 16 = .ok (.istore 4, 2) := by decide +kernel
theorem dX7_tension_18 : decode cX7_tension 18 = .ok (.aload_n 3, 1) := by decide +kernel
theorem dX7_tension_19 : decode cX7_tension 19 = .ok (.getfield 223, 3) := by decide +kernel
theorem dX7_tension_22 : decode cX7_tension 22 = .ok (.ifCond .ne 25, 3) := by decide +kernel
theorem dX7_tension_25 : decode cX7_tension 25 = .ok (.iload 4, 2) := by decide +kernel
theorem dX7_tension_27 : decode cX7_tension 27 = .ok (.ifCond .le 20, 3) := by decide +kernel
theorem dX7_tension_30 : decode cX7_tension 30 = .ok (.aload_n 3, 1) := by decide +kernel
theorem dX7_tension_31 : decode cX7_tension 31 = .ok (.invokevirtual 238, 3) := by decide +kernel
theorem dX7_tension_34 : decode cX7_tension 34 = .ok (.sipush 900, 3) := by decide +kernel
theorem dX7_tension_37 : decode cX7_tension 37 = .ok (.imul, 1) := by decide +kernel
theorem dX7_tension_38 : decode cX7_tension 38 = .ok (.iload 4, 2) := by decide +kernel
theorem dX7_tension_40 : decode cX7_tension 40 = .ok (.idiv, 1) := by decide +kernel
theorem dX7_tension_41 : decode cX7_tension 41 = .ok (.sipush 800, 3) := by decide +kernel
theorem dX7_tension_44 : decode cX7_tension 44 = .ok (.if_icmp .le 13, 3) := by decide +kernel
theorem dX7_tension_47 : decode cX7_tension 47 = .ok (.new 136, 3) := by decide +kernel
theorem dX7_tension_50 : decode cX7_tension 50 = .ok (.dup, 1) := by decide +kernel
theorem dX7_tension_51 : decode cX7_tension 51 = .ok (.ldc 241, 2) := by decide +kernel
theorem dX7_tension_53 : decode cX7_tension 53 = .ok (.invokespecial 140, 3) := by decide +kernel
theorem dX7_tension_56 : decode cX7_tension 56 = .ok (.athrow, 1) := by decide +kernel
theorem dX7_tension_57 : decode cX7_tension 57 = .ok (.aload_n 3, 1) := by decide +kernel
theorem dX7_tension_58 : decode cX7_tension 58 = .ok (.invokevirtual 238, 3) := by decide +kernel
theorem dX7_tension_61 : decode cX7_tension 61 = .ok (.sipush 900, 3) := by decide +kernel
theorem dX7_tension_64 : decode cX7_tension 64 = .ok (.imul, 1) := by decide +kernel
theorem dX7_tension_65 : decode cX7_tension 65 = .ok (.iload 4, 2) := by decide +kernel
theorem dX7_tension_67 : decode cX7_tension 67 = .ok (.idiv, 1) := by decide +kernel
theorem dX7_tension_68 : decode cX7_tension 68 = .ok (.ireturn, 1) := by decide +kernel
theorem dX7_reflection_0 : decode cX7_reflection 0 = .ok (.aload_n 0, 1) := by decide +kernel
theorem dX7_reflection_1 : decode cX7_reflection 1 = .ok (.iload_n 1, 1) := by decide +kernel
theorem dX7_reflection_2 : decode cX7_reflection 2 = .ok (.iload_n 2, 1) := by decide +kernel
theorem dX7_reflection_3 : decode cX7_reflection 3 = .ok (.invokevirtual 103, 3) := by decide +kernel
theorem dX7_reflection_6 : decode cX7_reflection 6 = .ok (.astore_n 3, 1) := by decide +kernel
theorem dX7_reflection_7 : decode cX7_reflection 7 = .ok (.aload_n 3, 1) := by decide +kernel
theorem dX7_reflection_8 : decode cX7_reflection 8 = .ok (.invokevirtual 243, 3) := by decide +kernel
theorem dX7_reflection_11 : decode cX7_reflection 11 = .ok (.aload_n 0, 1) := by decide +kernel
theorem dX7_reflection_12 : decode cX7_reflection 12 = .ok (.aload_n 0, 1) := by decide +kernel
theorem dX7_reflection_13 : decode cX7_reflection 13 = .ok (.iload_n 1, 1) := by decide +kernel
theorem dX7_reflection_14 : decode cX7_reflection 14 = .ok (.invokevirtual 65, 3) := by decide +kernel
theorem dX7_reflection_17 : decode cX7_reflection 17 = .ok (.invokevirtual 246, 3) := by decide +kernel
theorem dX7_reflection_20 : decode cX7_reflection 20 = .ok (.iadd, 1) := by decide +kernel
theorem dX7_reflection_21 : decode cX7_reflection 21 = .ok (.istore 4, 2) := by decide +kernel
theorem dX7_reflection_23 : decode cX7_reflection 23 = .ok (.iload 4, 2) := by decide +kernel
theorem dX7_reflection_25 : decode cX7_reflection 25 = .ok (.sipush 500, 3) := by decide +kernel
theorem dX7_reflection_28 : decode cX7_reflection 28 = .ok (.if_icmp .le 13, 3) := by decide +kernel
theorem dX7_reflection_31 : decode cX7_reflection 31 = .ok (.new 136, 3) := by decide +kernel
theorem dX7_reflection_34 : decode cX7_reflection 34 = .ok (.dup, 1) := by decide +kernel
theorem dX7_reflection_35 : decode cX7_reflection 35 = .ok (.ldc 241, 2) := by decide +kernel
theorem dX7_reflection_37 : decode cX7_reflection 37 = .ok (.invokespecial 140, 3) := by decide +kernel
theorem dX7_reflection_40 : decode cX7_reflection 40 = .ok (.athrow, 1) := by decide +kernel
theorem dX7_reflection_41 : decode cX7_reflection 41 = .ok (.iload 4, 2) := by decide +kernel
theorem dX7_reflection_43 : decode cX7_reflection 43 = .ok (.ireturn, 1) := by decide +kernel
theorem dX7_setRight_0 : decode cX7_setRight 0 = .ok (.aload_n 0, 1) := by decide +kernel
theorem dX7_setRight_1 : decode cX7_setRight 1 = .ok (.iload_n 1, 1) := by decide +kernel
theorem dX7_setRight_2 : decode cX7_setRight 2 = .ok (.invokevirtual 65, 3) := by decide +kernel
theorem dX7_setRight_5 : decode cX7_setRight 5 = .ok (.astore_n 2, 1) := by decide +kernel
theorem dX7_setRight_6 : decode cX7_setRight 6 = .ok (.aload_n 0, 1) := by decide +kernel
theorem dX7_setRight_7 : decode cX7_setRight 7 = .ok (.aload_n 2, 1) := by decide +kernel
theorem dX7_setRight_8 : decode cX7_setRight 8 = .ok (.invokevirtual 246, 3) := by decide +kernel
theorem dX7_setRight_11 : decode cX7_setRight 11 = .ok (.istore_n 3, 1) := by decide +kernel
theorem dX7_setRight_12 : decode cX7_setRight 12 = .ok (.aload_n 2, 1) := by decide +kernel
theorem dX7_setRight_13 : decode cX7_setRight 13 = .ok (.aload_n 0, 1) := by decide +kernel
theorem dX7_setRight_14 : decode cX7_setRight 14 = .ok (.getfield 37, 3) := by decide +kernel
theorem dX7_setRight_17 : decode cX7_setRight 17 = .ok (.putfield 250, 3) := by decide +kernel
theorem dX7_setRight_20 : decode cX7_setRight 20 = .ok (.iload_n 3, 1) := by decide +kernel
theorem dX7_setRight_21 : decode cX7_setRight 21 = .ok (.ireturn, 1) := by decide +kernel
theorem dX7_weigh_0 : decode cX7_weigh 0 = .ok (.aload_n 0, 1) := by decide +kernel
theorem dX7_weigh_1 : decode cX7_weigh 1 = .ok (.iload_n 1, 1) := by decide +kernel
theorem dX7_weigh_2 : decode cX7_weigh 2 = .ok (.invokevirtual 65, 3) := by decide +kernel
theorem dX7_weigh_5 : decode cX7_weigh 5 = .ok (.astore_n 2, 1) := by decide +kernel
theorem dX7_weigh_6 : decode cX7_weigh 6 = .ok (.aload_n 2, 1) := by decide +kernel
theorem dX7_weigh_7 : decode cX7_weigh 7 = .ok (.invokevirtual 253, 3) := by decide +kernel
theorem dX7_weigh_10 : decode cX7_weigh 10 = .ok (.aload_n 2, 1) := by decide +kernel
theorem dX7_weigh_11 : decode cX7_weigh 11 = .ok (.getfield 211, 3) := by decide +kernel
theorem dX7_weigh_14 : decode cX7_weigh 14 = .ok (.iadd, 1) := by decide +kernel
theorem dX7_weigh_15 : decode cX7_weigh 15 = .ok (.istore_n 3, 1) := by decide +kernel
theorem dX7_weigh_16 : decode cX7_weigh 16 = .ok (.iload_n 3, 1) := by decide +kernel
theorem dX7_weigh_17 : decode cX7_weigh 17 = .ok (.iload_n 3, 1) := by decide +kernel
theorem dX7_weigh_18 : decode cX7_weigh 18 = .ok (.iconst 5, 1) := by decide +kernel
theorem dX7_weigh_19 : decode cX7_weigh 19 = .ok (.irem, 1) := by decide +kernel
theorem dX7_weigh_20 : decode cX7_weigh 20 = .ok (.isub, 1) := by decide +kernel
theorem dX7_weigh_21 : decode cX7_weigh 21 = .ok (.ireturn, 1) := by decide +kernel
theorem dX7_fines_0 : decode cX7_fines 0 = .ok (.aload_n 0, 1) := by decide +kernel
theorem dX7_fines_1 : decode cX7_fines 1 = .ok (.iload_n 1, 1) := by decide +kernel
theorem dX7_fines_2 : decode cX7_fines 2 = .ok (.invokevirtual 65, 3) := by decide +kernel
theorem dX7_fines_5 : decode cX7_fines 5 = .ok (.getfield 87, 3) := by decide +kernel
theorem dX7_fines_8 : decode cX7_fines 8 = .ok (.getfield 256, 3) := by decide +kernel
theorem dX7_fines_11 : decode cX7_fines 11 = .ok (.lreturn, 1) := by decide +kernel
theorem dX7_forecast_0 : decode cX7_forecast 0 = .ok (.aload_n 0, 1) := by decide +kernel
theorem dX7_forecast_1 : decode cX7_forecast 1 = .ok (.iload_n 1, 1) := by decide +kernel
theorem dX7_forecast_2 : decode cX7_forecast 2 = .ok (.invokevirtual 65, 3) := by decide +kernel
theorem dX7_forecast_5 : decode cX7_forecast 5 = .ok (.pop, 1) := by decide +kernel
theorem dX7_forecast_6 : decode cX7_forecast 6 = .ok (.iload_n 2, 1) := by decide +kernel
theorem dX7_forecast_7 : decode cX7_forecast 7 = .ok (.iconst 1, 1) := by decide +kernel
theorem dX7_forecast_8 : decode cX7_forecast 8 = .ok (.bipush 48, 2) := by decide +kernel
theorem dX7_forecast_10 : decode cX7_forecast 10 = .ok (.invokestatic 73, 3) := by decide +kernel
theorem dX7_forecast_13 : decode cX7_forecast 13 = .ok (.iload_n 3, 1) := by decide +kernel
theorem dX7_forecast_14 : decode cX7_forecast 14 = .ok (.bipush 10, 2) := by decide +kernel
theorem dX7_forecast_16 : decode cX7_forecast 16 = .ok (.sipush 400, 3) := by decide +kernel
theorem dX7_forecast_19 : decode cX7_forecast 19 = .ok (.invokestatic 73, 3) := by decide +kernel
theorem dX7_forecast_22 : decode cX7_forecast 22 = .ok (.aload_n 0, 1) := by decide +kernel
theorem dX7_forecast_23 : decode cX7_forecast 23 = .ok (.iload_n 1, 1) := by decide +kernel
theorem dX7_forecast_24 : decode cX7_forecast 24 = .ok (.iload_n 2, 1) := by decide +kernel
theorem dX7_forecast_25 : decode cX7_forecast 25 = .ok (.iload_n 3, 1) := by decide +kernel
theorem dX7_forecast_26 : decode cX7_forecast 26 = .ok (.invokevirtual 259, 3) := by decide +kernel
theorem dX7_forecast_29 : decode cX7_forecast 29 = .ok (.lreturn, 1) := by decide +kernel
theorem dX7_fits_0 : decode cX7_fits 0 = .ok (.aload_n 0, 1) := by decide +kernel
theorem dX7_fits_1 : decode cX7_fits 1 = .ok (.iload_n 1, 1) := by decide +kernel
theorem dX7_fits_2 : decode cX7_fits 2 = .ok (.iload_n 2, 1) := by decide +kernel
theorem dX7_fits_3 : decode cX7_fits 3 = .ok (.iload_n 3, 1) := by decide +kernel
theorem dX7_fits_4 : decode cX7_fits 4 = .ok (.invokevirtual 263, 3) := by decide +kernel
theorem dX7_fits_7 : decode cX7_fits 7 = .ok (.lstore 4, 2) := by decide +kernel
theorem dX7_fits_9 : decode cX7_fits 9 = .ok (.iconst 0, 1) := by decide +kernel
theorem dX7_fits_10 : decode cX7_fits 10 = .ok (.istore 6, 2) := by decide +kernel
theorem dX7_fits_12 : decode cX7_fits 12 = .ok (.iconst 0, 1) := by decide +kernel
theorem dX7_fits_13 : decode cX7_fits 13 = .ok (.istore 7, 2) := by decide +kernel
theorem dX7_fits_15 : decode cX7_fits 15 = .ok (.iload 7, 2) := by decide +kernel
theorem dX7_fits_17 : decode cX7_fits 17 = .ok (.aload_n 0, 1) := by decide +kernel
theorem dX7_fits_18 : decode cX7_fits 18 = .ok (.getfield 26, 3) := by decide +kernel
theorem dX7_fits_21 : decode cX7_fits 21 = .ok (.arraylength, 1) := by decide +kernel
theorem dX7_fits_22 : decode cX7_fits 22 = .ok (.if_icmp .ge 25, 3) := by decide +kernel
theorem dX7_fits_25 : decode cX7_fits 25 = .ok (.aload_n 0, 1) := by decide +kernel
theorem dX7_fits_26 : decode cX7_fits 26 = .ok (.getfield 26, 3) := by decide +kernel
theorem dX7_fits_29 : decode cX7_fits 29 = .ok (.iload 7, 2) := by decide +kernel
theorem dX7_fits_31 : decode cX7_fits 31 = .ok (.laload, 1) := by decide +kernel
theorem dX7_fits_32 : decode cX7_fits 32 = .ok (.lload 4, 2) := by decide +kernel
theorem dX7_fits_34 : decode cX7_fits 34 = .ok (.lcmp, 1) := by decide +kernel
theorem dX7_fits_35 : decode cX7_fits 35 = .ok (.ifCond .ne 6, 3) := by decide +kernel
theorem dX7_fits_38 : decode cX7_fits 38 = .ok (.iinc 6 1, 3) := by decide +kernel
theorem dX7_fits_41 : decode cX7_fits 41 = .ok (.iinc 7 1, 3) := by decide +kernel
theorem dX7_fits_44 : decode cX7_fits 44 = .ok (.goto (-29), 3) := by decide +kernel
theorem dX7_fits_47 : decode cX7_fits 47 = .ok (.iload 6, 2) := by decide +kernel
theorem dX7_fits_49 : decode cX7_fits 49 = .ok (.ireturn, 1) := by decide +kernel
theorem dX7_fit_0 : decode cX7_fit 0 = .ok (.aload_n 0, 1) := by decide +kernel
theorem dX7_fit_1 : decode cX7_fit 1 = .ok (.iload_n 1, 1) := by decide +kernel
theorem dX7_fit_2 : decode cX7_fit 2 = .ok (.iload_n 2, 1) := by decide +kernel
theorem dX7_fit_3 : decode cX7_fit 3 = .ok (.iload_n 3, 1) := by decide +kernel
theorem dX7_fit_4 : decode cX7_fit 4 = .ok (.invokevirtual 263, 3) := by decide +kernel
theorem dX7_fit_7 : decode cX7_fit 7 = .ok (.lstore 5, 2) := by decide +kernel
theorem dX7_fit_9 : decode cX7_fit 9 = .ok (.iconst 0, 1) := by decide +kernel
theorem dX7_fit_10 : decode cX7_fit 10 = .ok (.istore 7, 2) := by decide +kernel
theorem dX7_fit_12 : decode cX7_fit 12 = .ok (.iconst 0, 1) := by decide +kernel
theorem dX7_fit_13 : decode cX7_fit 13 = .ok (.istore 8, 2) := by decide +kernel
theorem dX7_fit_15 : decode cX7_fit 15 = .ok (.iload 8, 2) := by decide +kernel
theorem dX7_fit_17 : decode cX7_fit 17 = .ok (.aload_n 0, 1) := by decide +kernel
theorem dX7_fit_18 : decode cX7_fit 18 = .ok (.getfield 26, 3) := by decide +kernel
theorem dX7_fit_21 : decode cX7_fit 21 = .ok (.arraylength, 1) := by decide +kernel
theorem dX7_fit_22 : decode cX7_fit 22 = .ok (.if_icmp .ge 38, 3) := by decide +kernel
theorem dX7_fit_25 : decode cX7_fit 25 = .ok (.aload_n 0, 1) := by decide +kernel
theorem dX7_fit_26 : decode cX7_fit 26 = .ok (.getfield 26, 3) := by decide +kernel
theorem dX7_fit_29 : decode cX7_fit 29 = .ok (.iload 8, 2) := by decide +kernel
theorem dX7_fit_31 : decode cX7_fit 31 = .ok (.laload, 1) := by decide +kernel
theorem dX7_fit_32 : decode cX7_fit 32 = .ok (.lload 5, 2) := by decide +kernel
theorem dX7_fit_34 : decode cX7_fit 34 = .ok (.lcmp, 1) := by decide +kernel
theorem dX7_fit_35 : decode cX7_fit 35 = .ok (.ifCond .ne 19, 3) := by decide +kernel
theorem dX7_fit_38 : decode cX7_fit 38 = .ok (.iload 7, 2) := by decide +kernel
theorem dX7_fit_40 : decode cX7_fit 40 = .ok (.iload 4, 2) := by decide +kernel
theorem dX7_fit_42 : decode cX7_fit 42 = .ok (.if_icmp .ne 9, 3) := by decide +kernel
theorem dX7_fit_45 : decode cX7_fit 45 = .ok (.iload 8, 2) := by decide +kernel
theorem dX7_fit_47 : decode cX7_fit 47 = .ok (.invokestatic 266, 3) := by decide +kernel
theorem dX7_fit_50 : decode cX7_fit 50 = .ok (.ireturn, 1) := by decide +kernel
theorem dX7_fit_51 : decode cX7_fit 51 = .ok (.iinc 7 1, 3) := by decide +kernel
theorem dX7_fit_54 : decode cX7_fit 54 = .ok (.iinc 8 1, 3) := by decide +kernel
theorem dX7_fit_57 : decode cX7_fit 57 = .ok (.goto (-42), 3) := by decide +kernel
theorem dX7_fit_60 : decode cX7_fit 60 = .ok (.new 136, 3) := by decide +kernel
theorem dX7_fit_63 : decode cX7_fit 63 = .ok (.dup, 1) := by decide +kernel
theorem dX7_fit_64 : decode cX7_fit 64 = .ok (.ldc_w 270, 3) := by decide +kernel
theorem dX7_fit_67 : decode cX7_fit 67 = .ok (.invokespecial 140, 3) := by decide +kernel
theorem dX7_fit_70 : decode cX7_fit 70 = .ok (.athrow, 1) := by decide +kernel
theorem dX7_missing_0 : decode cX7_missing 0 = .ok (.lconst 0, 1) := by decide +kernel
theorem dX7_missing_1 : decode cX7_missing 1 = .ok (.lstore_n 1, 1) := by decide +kernel
theorem dX7_missing_2 : decode cX7_missing 2 = .ok (.iconst 0, 1) := by decide +kernel
theorem dX7_missing_3 : decode cX7_missing 3 = .ok (.istore_n 3, 1) := by decide +kernel
theorem dX7_missing_4 : decode cX7_missing 4 = .ok (.iload_n 3, 1) := by decide +kernel
theorem dX7_missing_5 : decode cX7_missing 5 = .ok (.aload_n 0, 1) := by decide +kernel
theorem dX7_missing_6 : decode cX7_missing 6 = .ok (.getfield 10, 3) := by decide +kernel
theorem dX7_missing_9 : decode cX7_missing 9 = .ok (.invokevirtual 47, 3) := by decide +kernel
theorem dX7_missing_12 : decode cX7_missing 12 = .ok (.if_icmp .ge 26, 3) := by decide +kernel
theorem dX7_missing_15 : decode cX7_missing 15 = .ok (.lload_n 1, 1) := by decide +kernel
theorem dX7_missing_16 : decode cX7_missing 16 = .ok (.aload_n 0, 1) := by decide +kernel
theorem dX7_missing_17 : decode cX7_missing 17 = .ok (.getfield 10, 3) := by decide +kernel
theorem dX7_missing_20 : decode cX7_missing 20 = .ok (.iload_n 3, 1) := by decide +kernel
theorem dX7_missing_21 : decode cX7_missing 21 = .ok (.invokevirtual 141, 3) := by decide +kernel
theorem dX7_missing_24 : decode cX7_missing 24 = .ok (.checkcast 56, 3) := by decide +kernel
theorem dX7_missing_27 : decode cX7_missing 27 = .ok (.invokevirtual 272, 3) := by decide +kernel
theorem dX7_missing_30 : decode cX7_missing 30 = .ok (.ladd, 1) := by decide +kernel
theorem dX7_missing_31 : decode cX7_missing 31 = .ok (.lstore_n 1, 1) := by decide +kernel
theorem dX7_missing_32 : decode cX7_missing 32 = .ok (.iinc 3 1, 3) := by decide +kernel
theorem dX7_missing_35 : decode cX7_missing 35 = .ok (.goto (-31), 3) := by decide +kernel
theorem dX7_missing_38 : decode cX7_missing 38 = .ok (.lload_n 1, 1) := by decide +kernel
theorem dX7_missing_39 : decode cX7_missing 39 = .ok (.lreturn, 1) := by decide +kernel
theorem dX7_frozenShare_0 : decode cX7_frozenShare 0 = .ok (.aload_n 0, 1) := by decide +kernel
theorem dX7_frozenShare_1 : decode cX7_frozenShare 1 = .ok (.invokevirtual 276, 3) := by decide +kernel
theorem dX7_frozenShare_4 : decode cX7_frozenShare 4 = .ok (.istore_n 1, 1) := by decide +kernel
theorem dX7_frozenShare_5 : decode cX7_frozenShare 5 = .ok (.iload_n 1, 1) := by decide +kernel
theorem dX7_frozenShare_6 : decode cX7_frozenShare 6 = .ok (.ifCond .ne 14, 3) := by decide +kernel
theorem dX7_frozenShare_9 : decode cX7_frozenShare 9 = .ok (.new 279, 3) := by decide +kernel
theorem dX7_frozenShare_12 : decode cX7_frozenShare 12 = .ok (.dup, 1) := by decide +kernel
theorem dX7_frozenShare_13 : decode cX7_frozenShare 13 = .ok (.ldc_w 281, 3) := by decide +kernel
theorem dX7_frozenShare_16 : decode cX7_frozenShare 16 = .ok (.invokespecial 283, 3) := by decide +kernel
theorem dX7_frozenShare_19 : decode cX7_frozenShare 19 = .ok (.athrow, 1) := by decide +kernel
theorem dX7_frozenShare_20 : decode cX7_frozenShare 20 = .ok (.iconst 0, 1) := by decide +kernel
theorem dX7_frozenShare_21 : decode cX7_frozenShare 21 = .ok (.istore_n 2, 1) := by decide +kernel
theorem dX7_frozenShare_22 : decode cX7_frozenShare 22 = .ok (.iconst 0, 1) := by decide +kernel
theorem dX7_frozenShare_23 : decode cX7_frozenShare 23 = .ok (.istore_n 3, 1) := by decide +kernel
theorem dX7_frozenShare_24 : decode cX7_frozenShare 24 = .ok (.iload_n 3, 1) := by decide +kernel
theorem dX7_frozenShare_25 : decode cX7_frozenShare 25 = .ok (.aload_n 0, 1) := by decide +kernel
theorem dX7_frozenShare_26 : decode cX7_frozenShare 26 = .ok (.getfield 10, 3) := by decide +kernel
theorem dX7_frozenShare_29 : decode cX7_frozenShare 29 = .ok (.invokevirtual 47, 3) := by decide +kernel
theorem dX7_frozenShare_32 : decode cX7_frozenShare 32 = .ok (.if_icmp .ge 26, 3) := by decide +kernel
theorem dX7_frozenShare_35 : decode cX7_frozenShare 35 = .ok (.iload_n 2, 1) := by decide +kernel
theorem dX7_frozenShare_36 : decode cX7_frozenShare 36 = .ok (.aload_n 0, 1) := by decide +kernel
theorem dX7_frozenShare_37 : decode cX7_frozenShare 37 = .ok (.getfield 10, 3) := by decide +kernel
theorem dX7_frozenShare_40 : decode cX7_frozenShare 40 = .ok (.iload_n 3, 1) := by decide +kernel
theorem dX7_frozenShare_41 : decode cX7_frozenShare 41 = .ok (.invokevirtual 141, 3) := by decide +kernel
theorem dX7_frozenShare_44 : decode cX7_frozenShare 44 = .ok (.checkcast 56, 3) := by decide +kernel
theorem dX7_frozenShare_47 : decode cX7_frozenShare 47 = .ok (.invokevirtual 284, 3) := by decide +kernel
theorem dX7_frozenShare_50 : decode cX7_frozenShare 50 = .ok (.iadd, 1) := by decide +kernel
theorem dX7_frozenShare_51 : decode cX7_frozenShare 51 = .ok (.istore_n 2, 1) := by decide +kernel
theorem dX7_frozenShare_52 : decode cX7_frozenShare 52 = .ok (.iinc 3 1, 3) := by decide +kernel
theorem dX7_frozenShare_55 : decode cX7_frozenShare 55 = .ok (.goto (-31), 3) := by decide +kernel
theorem dX7_frozenShare_58 : decode cX7_frozenShare 58 = .ok (.iload_n 2, 1) := by decide +kernel
theorem dX7_frozenShare_59 : decode cX7_frozenShare 59 = .ok (.i2f, 1) := by decide +kernel
theorem dX7_frozenShare_60 : decode cX7_frozenShare 60 = .ok (.iload_n 1, 1) := by decide +kernel
theorem dX7_frozenShare_61 : decode cX7_frozenShare 61 = .ok (.i2f, 1) := by decide +kernel
theorem dX7_frozenShare_62 : decode cX7_frozenShare 62 = .ok (.fdiv, 1) := by decide +kernel
theorem dX7_frozenShare_63 : decode cX7_frozenShare 63 = .ok (.freturn, 1) := by decide +kernel
theorem dX7_meanWater_0 : decode cX7_meanWater 0 = .ok (.aload_n 0, 1) := by decide +kernel
theorem dX7_meanWater_1 : decode cX7_meanWater 1 = .ok (.invokevirtual 276, 3) := by decide +kernel
theorem dX7_meanWater_4 : decode cX7_meanWater 4 = .ok (.istore_n 1, 1) := by decide +kernel
theorem dX7_meanWater_5 : decode cX7_meanWater 5 = .ok (.iload_n 1, 1) := by decide +kernel
theorem dX7_meanWater_6 : decode cX7_meanWater 6 = .ok (.ifCond .ne 14, 3) := by decide +kernel
theorem dX7_meanWater_9 : decode cX7_meanWater 9 = .ok (.new 279, 3) := by decide +kernel
theorem dX7_meanWater_12 : decode cX7_meanWater 12 = .ok (.dup, 1) := by decide +kernel
theorem dX7_meanWater_13 : decode cX7_meanWater 13 = .ok (.ldc_w 281, 3) := by decide +kernel
theorem dX7_meanWater_16 : decode cX7_meanWater 16 = .ok (.invokespecial 283, 3) := by decide +kernel
theorem dX7_meanWater_19 : decode cX7_meanWater 19 = .ok (.athrow, 1) := by decide +kernel
theorem dX7_meanWater_20 : decode cX7_meanWater 20 = .ok (.lconst 0, 1) := by decide +kernel
theorem dX7_meanWater_21 : decode cX7_meanWater 21 = .ok (.lstore_n 2, 1) := by decide +kernel
theorem dX7_meanWater_22 : decode cX7_meanWater 22 = .ok (.iconst 0, 1) := by decide +kernel
theorem dX7_meanWater_23 : decode cX7_meanWater 23 = .ok (.istore 4, 2) := by decide +kernel
theorem dX7_meanWater_25 : decode cX7_meanWater 25 = .ok (.iload 4, 2) := by decide +kernel
theorem dX7_meanWater_27 : decode cX7_meanWater 27 = .ok (.aload_n 0, 1) := by decide +kernel
theorem dX7_meanWater_28 : decode cX7_meanWater 28 = .ok (.getfield 10, 3) := by decide +kernel
theorem dX7_meanWater_31 : decode cX7_meanWater 31 = .ok (.invokevirtual 47, 3) := by decide +kernel
theorem dX7_meanWater_34 : decode cX7_meanWater 34 = .ok (.if_icmp .ge 28, 3) := by decide +kernel
theorem dX7_meanWater_37 : decode cX7_meanWater 37 = .ok (.lload_n 2, 1) := by decide +kernel
theorem dX7_meanWater_38 : decode cX7_meanWater 38 = .ok (.aload_n 0, 1) := by decide +kernel
theorem dX7_meanWater_39 : decode cX7_meanWater 39 = .ok (.getfield 10, 3) := by decide +kernel
theorem dX7_meanWater_42 : decode cX7_meanWater 42 = .ok (.iload 4, 2) := by decide +kernel
theorem dX7_meanWater_44 : decode cX7_meanWater 44 = .ok (.invokevirtual 141, 3) := by decide +kernel
theorem dX7_meanWater_47 : decode cX7_meanWater 47 = .ok (.checkcast 56, 3) := by decide +kernel
theorem dX7_meanWater_50 : decode cX7_meanWater 50 = .ok (.invokevirtual 253, 3) := by decide +kernel
theorem dX7_meanWater_53 : decode cX7_meanWater 53 = .ok (.i2l, 1) := by decide +kernel
theorem dX7_meanWater_54 : decode cX7_meanWater 54 = .ok (.ladd, 1) := by decide +kernel
theorem dX7_meanWater_55 : decode cX7_meanWater 55 = .ok (.lstore_n 2, 1) := by decide +kernel
theorem dX7_meanWater_56 : decode cX7_meanWater 56 = .ok (.iinc 4 1, 3) := by decide +kernel
theorem dX7_meanWater_59 : decode cX7_meanWater 59 = .ok (.goto (-34), 3) := by decide +kernel
theorem dX7_meanWater_62 : decode cX7_meanWater 62 = .ok (.lload_n 2, 1) := by decide +kernel
theorem dX7_meanWater_63 : decode cX7_meanWater 63 = .ok (.l2d, 1) := by decide +kernel
theorem dX7_meanWater_64 : decode cX7_meanWater 64 = .ok (.iload_n 1, 1) := by decide +kernel
theorem dX7_meanWater_65 : decode cX7_meanWater 65 = .ok (.i2d, 1) := by decide +kernel
theorem dX7_meanWater_66 : decode cX7_meanWater 66 = .ok (.ddiv, 1) := by decide +kernel
theorem dX7_meanWater_67 : decode cX7_meanWater 67 = .ok (.dreturn, 1) := by decide +kernel
theorem dX7_checksum_0 : decode cX7_checksum 0 = .ok (.ldc2_w 287, 3) := by decide +kernel
theorem dX7_checksum_3 : decode cX7_checksum 3 = .ok (.lstore_n 1, 1) := by decide +kernel
theorem dX7_checksum_4 : decode cX7_checksum 4 = .ok (.iconst 0, 1) := by decide +kernel
theorem dX7_checksum_5 : decode cX7_checksum 5 = .ok (.istore_n 3, 1) := by decide +kernel
theorem dX7_checksum_6 : decode cX7_checksum 6 = .ok (.iload_n 3, 1) := by decide +kernel
theorem dX7_checksum_7 : decode cX7_checksum 7 = .ok (.aload_n 0, 1) := by decide +kernel
theorem dX7_checksum_8 : decode cX7_checksum 8 = .ok (.getfield 10, 3) := by decide +kernel
theorem dX7_checksum_11 : decode cX7_checksum 11 = .ok (.invokevirtual 47, 3) := by decide +kernel
theorem dX7_checksum_14 : decode cX7_checksum 14 = .ok (.if_icmp .ge 129, 3) := by decide +kernel
theorem dX7_checksum_17 : decode cX7_checksum 17 = .ok (.aload_n 0, 1) := by decide +kernel
theorem dX7_checksum_18 : decode cX7_checksum 18 = .ok (.getfield 10, 3) := by decide +kernel
theorem dX7_checksum_21 : decode cX7_checksum 21 = .ok (.iload_n 3, 1) := by decide +kernel
theorem dX7_checksum_22 : decode cX7_checksum 22 = .ok (.invokevirtual 141, 3) := by decide +kernel
theorem dX7_checksum_25 : decode cX7_checksum 25 = .ok (.checkcast 56, 3) := by decide +kernel
theorem dX7_checksum_28 : decode cX7_checksum 28 = .ok (.astore 4, 2) := by decide +kernel
theorem dX7_checksum_30 : decode cX7_checksum 30 = .ok (.ldc2_w 289, 3) := by decide +kernel
theorem dX7_checksum_33 : decode cX7_checksum 33 = .ok (.lload_n 1, 1) := by decide +kernel
theorem dX7_checksum_34 : decode cX7_checksum 34 = .ok (.lmul, 1) := by decide +kernel
theorem dX7_checksum_35 : decode cX7_checksum 35 = .ok (.aload 4, 2) := by decide +kernel
theorem dX7_checksum_37 : decode cX7_checksum 37 = .ok (.getfield 211, 3) := by decide +kernel
theorem dX7_checksum_40 : decode cX7_checksum 40 = .ok (.i2l, 1) := by decide +kernel
theorem dX7_checksum_41 : decode cX7_checksum 41 = .ok (.ladd, 1) := by decide +kernel
theorem dX7_checksum_42 : decode cX7_checksum 42 = .ok (.lstore_n 1, 1) := by decide +kernel
theorem dX7_checksum_43 : decode cX7_checksum 43 = .ok (.ldc2_w 289, 3) := by decide +kernel
theorem dX7_checksum_46 : decode cX7_checksum 46 = .ok (.lload_n 1, 1) := by decide +kernel
theorem dX7_checksum_47 : decode cX7_checksum 47 = .ok (.lmul, 1) := by decide +kernel
theorem dX7_checksum_48 : decode cX7_checksum 48 = .ok (.aload 4, 2) := by decide +kernel
theorem dX7_checksum_50 : decode cX7_checksum 50 = .ok (.getfield 87, 3) := by decide +kernel
theorem dX7_checksum_53 : decode cX7_checksum 53 = .ok (.getfield 214, 3) := by decide +kernel
theorem dX7_checksum_56 : decode cX7_checksum 56 = .ok (.ladd, 1) := by decide +kernel
theorem dX7_checksum_57 : decode cX7_checksum 57 = .ok (.lstore_n 1, 1) := by decide +kernel
theorem dX7_checksum_58 : decode cX7_checksum 58 = .ok (.iconst 0, 1) := by decide +kernel
theorem dX7_checksum_59 : decode cX7_checksum 59 = .ok (.istore 5, 2) := by decide +kernel
theorem dX7_checksum_61 : decode cX7_checksum 61 = .ok (.iload 5, 2) := by decide +kernel
theorem dX7_checksum_63 : decode cX7_checksum 63 = .ok (.aload 4, 2) := by decide +kernel
theorem dX7_checksum_65 : decode cX7_checksum 65 = .ok (.getfield 77, 3) := by decide +kernel
theorem dX7_checksum_68 : decode cX7_checksum 68 = .ok (.invokevirtual 47, 3) := by decide +kernel
theorem dX7_checksum_71 : decode cX7_checksum 71 = .ok (.if_icmp .ge 66, 3) := by decide +kernel
theorem dX7_checksum_74 : decode cX7_checksum 74 = .ok (.aload 4, 2) := by decide +kernel
theorem dX7_checksum_76 : decode cX7_checksum 76 = .ok (.getfield 77, 3) := by decide +kernel
theorem dX7_checksum_79 : decode cX7_checksum 79 = .ok (.iload 5, 2) := by decide +kernel
theorem dX7_checksum_81 : decode cX7_checksum 81 = .ok (.invokevirtual 141, 3) := by decide +kernel
theorem dX7_checksum_84 : decode cX7_checksum 84 = .ok (.checkcast 82, 3) := by decide +kernel
theorem dX7_checksum_87 : decode cX7_checksum 87 = .ok (.astore 6, 2) := by decide +kernel
theorem dX7_checksum_89 : decode cX7_checksum 89 = .ok (.ldc2_w 289, 3) := by decide +kernel
theorem dX7_checksum_92 : decode cX7_checksum 92 = .ok (.lload_n 1, 1) := by decide +kernel
theorem dX7_checksum_93 : decode cX7_checksum 93 = .ok (.lmul, 1) := by decide +kernel
theorem dX7_checksum_94 : decode cX7_checksum 94 = .ok (.aload 6, 2) := by decide +kernel
theorem dX7_checksum_96 : decode cX7_checksum 96 = .ok (.getfield 97, 3) := by decide +kernel
theorem dX7_checksum_99 : decode cX7_checksum 99 = .ok (.i2l, 1) := by decide +kernel
theorem dX7_checksum_100 : decode cX7_checksum 100 = .ok (.ladd, 1) := by decide +kernel
theorem dX7_checksum_101 : decode cX7_checksum 101 = .ok (.lstore_n 1, 1) := by decide +kernel
theorem dX7_checksum_102 : decode cX7_checksum 102 = .ok (.ldc2_w 289, 3) := by decide +kernel
theorem dX7_checksum_105 : decode cX7_checksum 105 = .ok (.lload_n 1, 1) := by decide +kernel
theorem dX7_checksum_106 : decode cX7_checksum 106 = .ok (.lmul, 1) := by decide +kernel
theorem dX7_checksum_107 : decode cX7_checksum 107 = .ok (.aload 6, 2) := by decide +kernel
theorem dX7_checksum_109 : decode cX7_checksum 109 = .ok (.getfield 172, 3) := by decide +kernel
theorem dX7_checksum_112 : decode cX7_checksum 112 = .ok (.iconst 0, 1) := by decide +kernel
theorem dX7_checksum_113 : decode cX7_checksum 113 = .ok (.invokevirtual 185, 3) := by decide +kernel
theorem dX7_checksum_116 : decode cX7_checksum 116 = .ok (.ladd, 1) := by decide +kernel
theorem dX7_checksum_117 : decode cX7_checksum 117 = .ok (.lstore_n 1, 1) := by decide +kernel
theorem dX7_checksum_118 : decode cX7_checksum 118 = .ok (.ldc2_w 289, 3) := by decide +kernel
theorem dX7_checksum_121 : decode cX7_checksum 121 = .ok (.lload_n 1, 1) := by decide +kernel
theorem dX7_checksum_122 : decode cX7_checksum 122 = .ok (.lmul, 1) := by decide +kernel
theorem dX7_checksum_123 : decode cX7_checksum 123 = .ok (.aload 6, 2) := by decide +kernel
theorem dX7_checksum_125 : decode cX7_checksum 125 = .ok (.getfield 226, 3) := by decide +kernel
theorem dX7_checksum_128 : decode cX7_checksum 128 = .ok (.i2l, 1) := by decide +kernel
theorem dX7_checksum_129 : decode cX7_checksum 129 = .ok (.ladd, 1) := by decide +kernel
theorem dX7_checksum_130 : decode cX7_checksum 130 = .ok (.lstore_n 1, 1) := by decide +kernel
theorem dX7_checksum_131 : decode cX7_checksum 131 = .ok (.iinc 5 1, 3) := by decide +kernel
theorem dX7_checksum_134 : decode cX7_checksum 134 = .ok (.goto (-73), 3) := by decide +kernel
theorem dX7_checksum_137 : decode cX7_checksum 137 = .ok (.iinc 3 1, 3) := by decide +kernel
theorem dX7_checksum_140 : decode cX7_checksum 140 = .ok (.goto (-134), 3) := by decide +kernel
theorem dX7_checksum_143 : decode cX7_checksum 143 = .ok (.lload_n 1, 1) := by decide +kernel
theorem dX7_checksum_144 : decode cX7_checksum 144 = .ok (.lreturn, 1) := by decide +kernel
theorem dX7_isTrue_0 : decode cX7_isTrue 0 = .ok (.aload_n 0, 1) := by decide +kernel
theorem dX7_isTrue_1 : decode cX7_isTrue 1 = .ok (.invokevirtual 291, 3) := by decide +kernel
theorem dX7_isTrue_4 : decode cX7_isTrue 4 = .ok (.lconst 0, 1) := by decide +kernel
theorem dX7_isTrue_5 : decode cX7_isTrue 5 = .ok (.lcmp, 1) := by decide +kernel
theorem dX7_isTrue_6 : decode cX7_isTrue 6 = .ok (.ifCond .eq 5, 3) := by decide +kernel
theorem dX7_isTrue_9 : decode cX7_isTrue 9 = .ok (.iconst 0, 1) := by decide +kernel
theorem dX7_isTrue_10 : decode cX7_isTrue 10 = .ok (.ireturn, 1) := by decide +kernel
theorem dX7_isTrue_11 : decode cX7_isTrue 11 = .ok (.iconst 0, 1) := by decide +kernel
theorem dX7_isTrue_12 : decode cX7_isTrue 12 = .ok (.istore_n 1, 1) := by decide +kernel
theorem dX7_isTrue_13 : decode cX7_isTrue 13 = .ok (.iload_n 1, 1) := by decide +kernel
theorem dX7_isTrue_14 : decode cX7_isTrue 14 = .ok (.aload_n 0, 1) := by decide +kernel
theorem dX7_isTrue_15 : decode cX7_isTrue 15 = .ok (.getfield 10, 3) := by decide +kernel
theorem dX7_isTrue_18 : decode cX7_isTrue 18 = .ok (.invokevirtual 47, 3) := by decide +kernel
theorem dX7_isTrue_21 : decode cX7_isTrue 21 = .ok (.if_icmp .ge 45, 3) := by decide +kernel
theorem dX7_isTrue_24 : decode cX7_isTrue 24 = .ok (.aload_n 0, 1) := by decide +kernel
theorem dX7_isTrue_25 : decode cX7_isTrue 25 = .ok (.getfield 10, 3) := by decide +kernel
theorem dX7_isTrue_28 : decode cX7_isTrue 28 = .ok (.iload_n 1, 1) := by decide +kernel
theorem dX7_isTrue_29 : decode cX7_isTrue 29 = .ok (.invokevirtual 141, 3) := by decide +kernel
theorem dX7_isTrue_32 : decode cX7_isTrue 32 = .ok (.checkcast 56, 3) := by decide +kernel
theorem dX7_isTrue_35 : decode cX7_isTrue 35 = .ok (.astore_n 2, 1) := by decide +kernel
theorem dX7_isTrue_36 : decode cX7_isTrue 36 = .ok (.aload_n 2, 1) := by decide +kernel
theorem dX7_isTrue_37 : decode cX7_isTrue 37 = .ok (.invokevirtual 294, 3) := by decide +kernel
theorem dX7_isTrue_40 : decode cX7_isTrue 40 = .ok (.ifCond .eq 18, 3) := by decide +kernel
theorem dX7_isTrue_43 : decode cX7_isTrue 43 = .ok (.aload_n 2, 1) := by decide +kernel
theorem dX7_isTrue_44 : decode cX7_isTrue 44 = .ok (.invokevirtual 298, 3) := by decide +kernel
theorem dX7_isTrue_47 : decode cX7_isTrue 47 = .ok (.ifCond .eq 11, 3) := by decide +kernel
theorem dX7_isTrue_50 : decode cX7_isTrue 50 = .ok (.aload_n 0, 1) := by decide +kernel
theorem dX7_isTrue_51 : decode cX7_isTrue 51 = .ok (.iload_n 1, 1) := by decide +kernel
theorem dX7_isTrue_52 : decode cX7_isTrue 52 = .ok (.invokevirtual 301, 3) := by decide +kernel
theorem dX7_isTrue_55 : decode cX7_isTrue 55 = .ok (.ifCond .ne 5, 3) := by decide +kernel
theorem dX7_isTrue_58 : decode cX7_isTrue 58 = .ok (.iconst 0, 1) := by decide +kernel
theorem dX7_isTrue_59 : decode cX7_isTrue 59 = .ok (.ireturn, 1) := by decide +kernel
theorem dX7_isTrue_60 : decode cX7_isTrue 60 = .ok (.iinc 1 1, 3) := by decide +kernel
theorem dX7_isTrue_63 : decode cX7_isTrue 63 = .ok (.goto (-50), 3) := by decide +kernel
theorem dX7_isTrue_66 : decode cX7_isTrue 66 = .ok (.iconst 1, 1) := by decide +kernel
theorem dX7_isTrue_67 : decode cX7_isTrue 67 = .ok (.ireturn, 1) := by decide +kernel
theorem dX7_columnAt_0 : decode cX7_columnAt 0 = .ok (.iload_n 1, 1) := by decide +kernel
theorem dX7_columnAt_1 : decode cX7_columnAt 1 = .ok (.ifCond .lt 14, 3) := by decide +kernel
theorem dX7_columnAt_4 : decode cX7_columnAt 4 = .ok (.iload_n 1, 1) := by decide +kernel
theorem dX7_columnAt_5 : decode cX7_columnAt 5 = .ok (.aload_n 0, 1) := by decide +kernel
theorem dX7_columnAt_6 : decode cX7_columnAt 6 = .ok (.getfield 10, 3) := by decide +kernel
theorem dX7_columnAt_9 : decode cX7_columnAt 9 = .ok (.invokevirtual 47, 3) := by decide +kernel
theorem dX7_columnAt_12 : decode cX7_columnAt 12 = .ok (.if_icmp .lt 14, 3) := by decide +kernel
theorem dX7_columnAt_15 : decode cX7_columnAt 15 = .ok (.new 110, 3) := by decide +kernel
theorem dX7_columnAt_18 : decode cX7_columnAt 18 = .ok (.dup, 1) := by decide +kernel
theorem dX7_columnAt_19 : decode cX7_columnAt 19 = .ok (.ldc_w 305, 3) := by decide +kernel
theorem dX7_columnAt_22 : decode cX7_columnAt 22 = .ok (.invokespecial 114, 3) := by decide +kernel
theorem dX7_columnAt_25 : decode cX7_columnAt 25 = .ok (.athrow, 1) := by decide +kernel
theorem dX7_columnAt_26 : decode cX7_columnAt 26 = .ok (.aload_n 0, 1) := by decide +kernel
theorem dX7_columnAt_27 : decode cX7_columnAt 27 = .ok (.getfield 10, 3) := by decide +kernel
theorem dX7_columnAt_30 : decode cX7_columnAt 30 = .ok (.iload_n 1, 1) := by decide +kernel
theorem dX7_columnAt_31 : decode cX7_columnAt 31 = .ok (.invokevirtual 141, 3) := by decide +kernel
theorem dX7_columnAt_34 : decode cX7_columnAt 34 = .ok (.checkcast 56, 3) := by decide +kernel
theorem dX7_columnAt_37 : decode cX7_columnAt 37 = .ok (.areturn, 1) := by decide +kernel
theorem dX7_thoughtAt_0 : decode cX7_thoughtAt 0 = .ok (.iload_n 1, 1) := by decide +kernel
theorem dX7_thoughtAt_1 : decode cX7_thoughtAt 1 = .ok (.ifCond .lt 14, 3) := by decide +kernel
theorem dX7_thoughtAt_4 : decode cX7_thoughtAt 4 = .ok (.iload_n 1, 1) := by decide +kernel
theorem dX7_thoughtAt_5 : decode cX7_thoughtAt 5 = .ok (.aload_n 0, 1) := by decide +kernel
theorem dX7_thoughtAt_6 : decode cX7_thoughtAt 6 = .ok (.getfield 16, 3) := by decide +kernel
theorem dX7_thoughtAt_9 : decode cX7_thoughtAt 9 = .ok (.invokevirtual 47, 3) := by decide +kernel
theorem dX7_thoughtAt_12 : decode cX7_thoughtAt 12 = .ok (.if_icmp .lt 14, 3) := by decide +kernel
theorem dX7_thoughtAt_15 : decode cX7_thoughtAt 15 = .ok (.new 110, 3) := by decide +kernel
theorem dX7_thoughtAt_18 : decode cX7_thoughtAt 18 = .ok (.dup, 1) := by decide +kernel
theorem dX7_thoughtAt_19 : decode cX7_thoughtAt 19 = .ok (.ldc_w 305, 3) := by decide +kernel
theorem dX7_thoughtAt_22 : decode cX7_thoughtAt 22 = .ok (.invokespecial 114, 3) := by decide +kernel
theorem dX7_thoughtAt_25 : decode cX7_thoughtAt 25 = .ok (.athrow, 1) := by decide +kernel
theorem dX7_thoughtAt_26 : decode cX7_thoughtAt 26 = .ok (.aload_n 0, 1) := by decide +kernel
theorem dX7_thoughtAt_27 : decode cX7_thoughtAt 27 = .ok (.getfield 16, 3) := by decide +kernel
theorem dX7_thoughtAt_30 : decode cX7_thoughtAt 30 = .ok (.iload_n 1, 1) := by decide +kernel
theorem dX7_thoughtAt_31 : decode cX7_thoughtAt 31 = .ok (.invokevirtual 141, 3) := by decide +kernel
theorem dX7_thoughtAt_34 : decode cX7_thoughtAt 34 = .ok (.checkcast 56, 3) := by decide +kernel
theorem dX7_thoughtAt_37 : decode cX7_thoughtAt 37 = .ok (.areturn, 1) := by decide +kernel
theorem dX7_layerAt_0 : decode cX7_layerAt 0 = .ok (.aload_n 0, 1) := by decide +kernel
theorem dX7_layerAt_1 : decode cX7_layerAt 1 = .ok (.iload_n 1, 1) := by decide +kernel
theorem dX7_layerAt_2 : decode cX7_layerAt 2 = .ok (.invokevirtual 65, 3) := by decide +kernel
theorem dX7_layerAt_5 : decode cX7_layerAt 5 = .ok (.astore_n 3, 1) := by decide +kernel
theorem dX7_layerAt_6 : decode cX7_layerAt 6 = .ok (.iload_n 2, 1) := by decide +kernel
theorem dX7_layerAt_7 : decode cX7_layerAt 7 = .ok (.ifCond .lt 14, 3) := by decide +kernel
theorem dX7_layerAt_10 : decode cX7_layerAt 10 = .ok (.iload_n 2, 1) := by decide +kernel
theorem dX7_layerAt_11 : decode cX7_layerAt 11 = .ok (.aload_n 3, 1) := by decide +kernel
theorem dX7_layerAt_12 : decode cX7_layerAt 12 = .ok (.getfield 77, 3) := by decide +kernel
theorem dX7_layerAt_15 : decode cX7_layerAt 15 = .ok (.invokevirtual 47, 3) := by decide +kernel
theorem dX7_layerAt_18 : decode cX7_layerAt 18 = .ok (.if_icmp .lt 14, 3) := by decide +kernel
theorem dX7_layerAt_21 : decode cX7_layerAt 21 = .ok (.new 110, 3) := by decide +kernel
theorem dX7_layerAt_24 : decode cX7_layerAt 24 = .ok (.dup, 1) := by decide +kernel
theorem dX7_layerAt_25 : decode cX7_layerAt 25 = .ok (.ldc_w 307, 3) := by decide +kernel
theorem dX7_layerAt_28 : decode cX7_layerAt 28 = .ok (.invokespecial 114, 3) := by decide +kernel
theorem dX7_layerAt_31 : decode cX7_layerAt 31 = .ok (.athrow, 1) := by decide +kernel
theorem dX7_layerAt_32 : decode cX7_layerAt 32 = .ok (.aload_n 3, 1) := by decide +kernel
theorem dX7_layerAt_33 : decode cX7_layerAt 33 = .ok (.getfield 77, 3) := by decide +kernel
theorem dX7_layerAt_36 : decode cX7_layerAt 36 = .ok (.iload_n 2, 1) := by decide +kernel
theorem dX7_layerAt_37 : decode cX7_layerAt 37 = .ok (.invokevirtual 141, 3) := by decide +kernel
theorem dX7_layerAt_40 : decode cX7_layerAt 40 = .ok (.checkcast 82, 3) := by decide +kernel
theorem dX7_layerAt_43 : decode cX7_layerAt 43 = .ok (.areturn, 1) := by decide +kernel
theorem dX7_checkRange_0 : decode cX7_checkRange 0 = .ok (.iload_n 0, 1) := by decide +kernel
theorem dX7_checkRange_1 : decode cX7_checkRange 1 = .ok (.iload_n 1, 1) := by decide +kernel
theorem dX7_checkRange_2 : decode cX7_checkRange 2 = .ok (.if_icmp .lt 8, 3) := by decide +kernel
theorem dX7_checkRange_5 : decode cX7_checkRange 5 = .ok (.iload_n 0, 1) := by decide +kernel
theorem dX7_checkRange_6 : decode cX7_checkRange 6 = .ok (.iload_n 2, 1) := by decide +kernel
theorem dX7_checkRange_7 : decode cX7_checkRange 7 = .ok (.if_icmp .le 14, 3) := by decide +kernel
theorem dX7_checkRange_10 : decode cX7_checkRange 10 = .ok (.new 40, 3) := by decide +kernel
theorem dX7_checkRange_13 : decode cX7_checkRange 13 = .ok (.dup, 1) := by decide +kernel
theorem dX7_checkRange_14 : decode cX7_checkRange 14 = .ok (.ldc_w 309, 3) := by decide +kernel
theorem dX7_checkRange_17 : decode cX7_checkRange 17 = .ok (.invokespecial 44, 3) := by decide +kernel
theorem dX7_checkRange_20 : decode cX7_checkRange 20 = .ok (.athrow, 1) := by decide +kernel
theorem dX7_checkRange_21 : decode cX7_checkRange 21 = .ok (.return_, 1) := by decide +kernel
theorem dX7_soilOf_0 : decode cX7_soilOf 0 = .ok (.iload_n 0, 1) := by decide +kernel
theorem dX7_soilOf_1 : decode cX7_soilOf 1 = .ok (.bipush 115, 2) := by decide +kernel
theorem dX7_soilOf_3 : decode cX7_soilOf 3 = .ok (.if_icmp .ne 7, 3) := by decide +kernel
theorem dX7_soilOf_6 : decode cX7_soilOf 6 = .ok (.getstatic 311, 3) := by decide +kernel
theorem dX7_soilOf_9 : decode cX7_soilOf 9 = .ok (.areturn, 1) := by decide +kernel
theorem dX7_soilOf_10 : decode cX7_soilOf 10 = .ok (.iload_n 0, 1) := by decide +kernel
theorem dX7_soilOf_11 : decode cX7_soilOf 11 = .ok (.bipush 108, 2) := by decide +kernel
theorem dX7_soilOf_13 : decode cX7_soilOf 13 = .ok (.if_icmp .ne 7, 3) := by decide +kernel
theorem dX7_soilOf_16 : decode cX7_soilOf 16 = .ok (.getstatic 317, 3) := by decide +kernel
theorem dX7_soilOf_19 : decode cX7_soilOf 19 = .ok (.areturn, 1) := by decide +kernel
theorem dX7_soilOf_20 : decode cX7_soilOf 20 = .ok (.iload_n 0, 1) := by decide +kernel
theorem dX7_soilOf_21 : decode cX7_soilOf 21 = .ok (.bipush 99, 2) := by decide +kernel
theorem dX7_soilOf_23 : decode cX7_soilOf 23 = .ok (.if_icmp .ne 7, 3) := by decide +kernel
theorem dX7_soilOf_26 : decode cX7_soilOf 26 = .ok (.getstatic 320, 3) := by decide +kernel
theorem dX7_soilOf_29 : decode cX7_soilOf 29 = .ok (.areturn, 1) := by decide +kernel
theorem dX7_soilOf_30 : decode cX7_soilOf 30 = .ok (.new 40, 3) := by decide +kernel
theorem dX7_soilOf_33 : decode cX7_soilOf 33 = .ok (.dup, 1) := by decide +kernel
theorem dX7_soilOf_34 : decode cX7_soilOf 34 = .ok (.ldc_w 323, 3) := by decide +kernel
theorem dX7_soilOf_37 : decode cX7_soilOf 37 = .ok (.invokespecial 44, 3) := by decide +kernel
theorem dX7_soilOf_40 : decode cX7_soilOf 40 = .ok (.athrow, 1) := by decide +kernel
theorem dX7_kindOf_0 : decode cX7_kindOf 0 = .ok (.iload_n 0, 1) := by decide +kernel
theorem dX7_kindOf_1 : decode cX7_kindOf 1 = .ok (.bipush 110, 2) := by decide +kernel
theorem dX7_kindOf_3 : decode cX7_kindOf 3 = .ok (.if_icmp .ne 5, 3) := by decide +kernel
theorem dX7_kindOf_6 : decode cX7_kindOf 6 = .ok (.iconst 0, 1) := by decide +kernel
theorem dX7_kindOf_7 : decode cX7_kindOf 7 = .ok (.ireturn, 1) := by decide +kernel
theorem dX7_kindOf_8 : decode cX7_kindOf 8 = .ok (.iload_n 0, 1) := by decide +kernel
theorem dX7_kindOf_9 : decode cX7_kindOf 9 = .ok (.bipush 115, 2) := by decide +kernel
theorem dX7_kindOf_11 : decode cX7_kindOf 11 = .ok (.if_icmp .ne 5, 3) := by decide +kernel
theorem dX7_kindOf_14 : decode cX7_kindOf 14 = .ok (.iconst 1, 1) := by decide +kernel
theorem dX7_kindOf_15 : decode cX7_kindOf 15 = .ok (.ireturn, 1) := by decide +kernel
theorem dX7_kindOf_16 : decode cX7_kindOf 16 = .ok (.iload_n 0, 1) := by decide +kernel
theorem dX7_kindOf_17 : decode cX7_kindOf 17 = .ok (.bipush 116, 2) := by decide +kernel
theorem dX7_kindOf_19 : decode cX7_kindOf 19 = .ok (.if_icmp .ne 5, 3) := by decide +kernel
theorem dX7_kindOf_22 : decode cX7_kindOf 22 = .ok (.iconst 2, 1) := by decide +kernel
theorem dX7_kindOf_23 : decode cX7_kindOf 23 = .ok (.ireturn, 1) := by decide +kernel
theorem dX7_kindOf_24 : decode cX7_kindOf 24 = .ok (.new 40, 3) := by decide +kernel
theorem dX7_kindOf_27 : decode cX7_kindOf 27 = .ok (.dup, 1) := by decide +kernel
theorem dX7_kindOf_28 : decode cX7_kindOf 28 = .ok (.ldc_w 325, 3) := by decide +kernel
theorem dX7_kindOf_31 : decode cX7_kindOf 31 = .ok (.invokespecial 44, 3) := by decide +kernel
theorem dX7_kindOf_34 : decode cX7_kindOf 34 = .ok (.athrow, 1) := by decide +kernel
theorem dX7_letAnHourGoBy_0 : decode cX7_letAnHourGoBy 0 = .ok (.aload_n 1, 1) := by decide +kernel
theorem dX7_letAnHourGoBy_1 : decode cX7_letAnHourGoBy 1 = .ok (.getfield 87, 3) := by decide +kernel
theorem dX7_letAnHourGoBy_4 : decode cX7_letAnHourGoBy 4 = .ok (.getfield 214, 3) := by decide +kernel
theorem dX7_letAnHourGoBy_7 : decode cX7_letAnHourGoBy 7 = .ok (.lstore_n 2, 1) := by decide +kernel
theorem dX7_letAnHourGoBy_8 : decode cX7_letAnHourGoBy 8 = .ok (.aload_n 1, 1) := by decide +kernel
theorem dX7_letAnHourGoBy_9 : decode cX7_letAnHourGoBy 9 = .ok (.getfield 87, 3) := by decide +kernel
theorem dX7_letAnHourGoBy_12 : decode cX7_letAnHourGoBy 12 = .ok (.getfield 192, 3) := by decide +kernel
theorem dX7_letAnHourGoBy_15 : decode cX7_letAnHourGoBy 15 = .ok (.iconst 0, 1) := by decide +kernel
theorem dX7_letAnHourGoBy_16 : decode cX7_letAnHourGoBy 16 = .ok (.invokevirtual 185, 3) := by decide +kernel
theorem dX7_letAnHourGoBy_19 : decode cX7_letAnHourGoBy 19 = .ok (.lstore 4, 2) := by decide +kernel
theorem dX7_letAnHourGoBy_21 : decode cX7_letAnHourGoBy 21 = .ok (.aload_n 0, 1) := by decide +kernel
theorem dX7_letAnHourGoBy_22 : decode cX7_letAnHourGoBy 22 = .ok (.aload_n 1, 1) := by decide +kernel
theorem dX7_letAnHourGoBy_23 : decode cX7_letAnHourGoBy 23 = .ok (.aload_n 1, 1) := by decide +kernel
theorem dX7_letAnHourGoBy_24 : decode cX7_letAnHourGoBy 24 = .ok (.aload_n 0, 1) := by decide +kernel
theorem dX7_letAnHourGoBy_25 : decode cX7_letAnHourGoBy 25 = .ok (.getfield 22, 3) := by decide +kernel
theorem dX7_letAnHourGoBy_28 : decode cX7_letAnHourGoBy 28 = .ok (.getfield 198, 3) := by decide +kernel
theorem dX7_letAnHourGoBy_31 : decode cX7_letAnHourGoBy 31 = .ok (.aload_n 0, 1) := by decide +kernel
theorem dX7_letAnHourGoBy_32 : decode cX7_letAnHourGoBy 32 = .ok (.getfield 22, 3) := by decide +kernel
theorem dX7_letAnHourGoBy_35 : decode cX7_letAnHourGoBy 35 = .ok (.getfield 201, 3) := by decide +kernel
theorem dX7_letAnHourGoBy_38 : decode cX7_letAnHourGoBy 38 = .ok (.aload_n 0, 1) := by decide +kernel
theorem dX7_letAnHourGoBy_39 : decode cX7_letAnHourGoBy 39 = .ok (.getfield 22, 3) := by decide +kernel
theorem dX7_letAnHourGoBy_42 : decode cX7_letAnHourGoBy 42 = .ok (.getfield 204, 3) := by decide +kernel
theorem dX7_letAnHourGoBy_45 : decode cX7_letAnHourGoBy 45 = .ok (.invokevirtual 327, 3) := by decide +kernel
theorem dX7_letAnHourGoBy_48 : decode cX7_letAnHourGoBy 48 = .ok (.invokevirtual 330, 3) := by decide +kernel
theorem dX7_letAnHourGoBy_51 : decode cX7_letAnHourGoBy 51 = .ok (.aload_n 0, 1) := by decide +kernel
theorem dX7_letAnHourGoBy_52 : decode cX7_letAnHourGoBy 52 = .ok (.aload_n 1, 1) := by decide +kernel
theorem dX7_letAnHourGoBy_53 : decode cX7_letAnHourGoBy 53 = .ok (.aload_n 1, 1) := by decide +kernel
theorem dX7_letAnHourGoBy_54 : decode cX7_letAnHourGoBy 54 = .ok (.getfield 87, 3) := by decide +kernel
theorem dX7_letAnHourGoBy_57 : decode cX7_letAnHourGoBy 57 = .ok (.getfield 192, 3) := by decide +kernel
theorem dX7_letAnHourGoBy_60 : decode cX7_letAnHourGoBy 60 = .ok (.iconst 0, 1) := by decide +kernel
theorem dX7_letAnHourGoBy_61 : decode cX7_letAnHourGoBy 61 = .ok (.invokevirtual 185, 3) := by decide +kernel
theorem dX7_letAnHourGoBy_64 : decode cX7_letAnHourGoBy 64 = .ok (.lload 4, 2) := by decide +kernel
theorem dX7_letAnHourGoBy_66 : decode cX7_letAnHourGoBy 66 = .ok (.lsub, 1) := by decide +kernel
theorem dX7_letAnHourGoBy_67 : decode cX7_letAnHourGoBy 67 = .ok (.aload_n 1, 1) := by decide +kernel
theorem dX7_letAnHourGoBy_68 : decode cX7_letAnHourGoBy 68 = .ok (.getfield 87, 3) := by decide +kernel
theorem dX7_letAnHourGoBy_71 : decode cX7_letAnHourGoBy 71 = .ok (.getfield 214, 3) := by decide +kernel
theorem dX7_letAnHourGoBy_74 : decode cX7_letAnHourGoBy 74 = .ok (.lload_n 2, 1) := by decide +kernel
theorem dX7_letAnHourGoBy_75 : decode cX7_letAnHourGoBy 75 = .ok (.lsub, 1) := by decide +kernel
theorem dX7_letAnHourGoBy_76 : decode cX7_letAnHourGoBy 76 = .ok (.invokevirtual 334, 3) := by decide +kernel
theorem dX7_letAnHourGoBy_79 : decode cX7_letAnHourGoBy 79 = .ok (.return_, 1) := by decide +kernel
theorem dX7_runOn_0 : decode cX7_runOn 0 = .ok (.aload_n 1, 1) := by decide +kernel
theorem dX7_runOn_1 : decode cX7_runOn 1 = .ok (.getfield 87, 3) := by decide +kernel
theorem dX7_runOn_4 : decode cX7_runOn 4 = .ok (.dup, 1) := by decide +kernel
theorem dX7_runOn_5 : decode cX7_runOn 5 = .ok (.getfield 217, 3) := by decide +kernel
theorem dX7_runOn_8 : decode cX7_runOn 8 = .ok (.lload_n 2, 1) := by decide +kernel
theorem dX7_runOn_9 : decode cX7_runOn 9 = .ok (.ladd, 1) := by decide +kernel
theorem dX7_runOn_10 : decode cX7_runOn 10 = .ok (.putfield 217, 3) := by decide +kernel
theorem dX7_runOn_13 : decode cX7_runOn 13 = .ok (.aload_n 1, 1) := by decide +kernel
theorem dX7_runOn_14 : decode cX7_runOn 14 = .ok (.getfield 117, 3) := by decide +kernel
theorem dX7_runOn_17 : decode cX7_runOn 17 = .ok (.ifCond .lt 43, 3) := by decide +kernel
theorem dX7_runOn_20 : decode cX7_runOn 20 = .ok (.aload_n 1, 1) := by decide +kernel
theorem dX7_runOn_21 : decode cX7_runOn 21 = .ok (.getfield 117, 3) := by decide +kernel
theorem dX7_runOn_24 : decode cX7_runOn 24 = .ok (.aload_n 0, 1) := by decide +kernel
theorem dX7_runOn_25 : decode cX7_runOn 25 = .ok (.getfield 10, 3) := by decide +kernel
theorem dX7_runOn_28 : decode cX7_runOn 28 = .ok (.invokevirtual 47, 3) := by decide +kernel
theorem dX7_runOn_31 : decode cX7_runOn 31 = .ok (.if_icmp .ge 29, 3) := by decide +kernel
theorem dX7_runOn_34 : decode cX7_runOn 34 = .ok (.aload_n 0, 1) := by decide +kernel
theorem dX7_runOn_35 : decode cX7_runOn 35 = .ok (.getfield 10, 3) := by decide +kernel
theorem dX7_runOn_38 : decode cX7_runOn 38 = .ok (.aload_n 1, 1) := by decide +kernel
theorem dX7_runOn_39 : decode cX7_runOn 39 = .ok (.getfield 117, 3) := by decide +kernel
theorem dX7_runOn_42 : decode cX7_runOn 42 = .ok (.invokevirtual 141, 3) := by decide +kernel
theorem dX7_runOn_45 : decode cX7_runOn 45 = .ok (.checkcast 56, 3) := by decide +kernel
theorem dX7_runOn_48 : decode cX7_runOn 48 = .ok (.dup, 1) := by decide +kernel
theorem dX7_runOn_49 : decode cX7_runOn 49 = .ok (.getfield 338, 3) := by decide +kernel
theorem dX7_runOn_52 : decode cX7_runOn 52 = .ok (.lload_n 2, 1) := by decide +kernel
theorem dX7_runOn_53 : decode cX7_runOn 53 = .ok (.ladd, 1) := by decide +kernel
theorem dX7_runOn_54 : decode cX7_runOn 54 = .ok (.putfield 338, 3) := by decide +kernel
theorem dX7_runOn_57 : decode cX7_runOn 57 = .ok (.goto 16, 3) := by decide +kernel
theorem dX7_runOn_60 : decode cX7_runOn 60 = .ok (.aload_n 1, 1) := by decide +kernel
theorem dX7_runOn_61 : decode cX7_runOn 61 = .ok (.getfield 87, 3) := by decide +kernel
theorem dX7_runOn_64 : decode cX7_runOn 64 = .ok (.dup, 1) := by decide +kernel
theorem dX7_runOn_65 : decode cX7_runOn 65 = .ok (.getfield 341, 3) := by decide +kernel
theorem dX7_runOn_68 : decode cX7_runOn 68 = .ok (.lload_n 2, 1) := by decide +kernel
theorem dX7_runOn_69 : decode cX7_runOn 69 = .ok (.ladd, 1) := by decide +kernel
theorem dX7_runOn_70 : decode cX7_runOn 70 = .ok (.putfield 341, 3) := by decide +kernel
theorem dX7_runOn_73 : decode cX7_runOn 73 = .ok (.return_, 1) := by decide +kernel
theorem dX7_judge_0 : decode cX7_judge 0 = .ok (.lload_n 2, 1) := by decide +kernel
theorem dX7_judge_1 : decode cX7_judge 1 = .ok (.lconst 0, 1) := by decide +kernel
theorem dX7_judge_2 : decode cX7_judge 2 = .ok (.lcmp, 1) := by decide +kernel
theorem dX7_judge_3 : decode cX7_judge 3 = .ok (.ifCond .le 44, 3) := by decide +kernel
theorem dX7_judge_6 : decode cX7_judge 6 = .ok (.lload 4, 2) := by decide +kernel
theorem dX7_judge_8 : decode cX7_judge 8 = .ok (.lconst 0, 1) := by decide +kernel
theorem dX7_judge_9 : decode cX7_judge 9 = .ok (.lcmp, 1) := by decide +kernel
theorem dX7_judge_10 : decode cX7_judge 10 = .ok (.ifCond .le 37, 3) := by decide +kernel
theorem dX7_judge_13 : decode cX7_judge 13 = .ok (.lload_n 2, 1) := by decide +kernel
theorem dX7_judge_14 : decode cX7_judge 14 = .ok (.ldc2_w 344, 3) := by decide +kernel
theorem dX7_judge_17 : decode cX7_judge 17 = .ok (.lmul, 1) := by decide +kernel
theorem dX7_judge_18 : decode cX7_judge 18 = .ok (.lload 4, 2) := by decide +kernel
theorem dX7_judge_20 : decode cX7_judge 20 = .ok (.ldiv, 1) := by decide +kernel
theorem dX7_judge_21 : decode cX7_judge 21 = .ok (.aload_n 0, 1) := by decide +kernel
theorem dX7_judge_22 : decode cX7_judge 22 = .ok (.getfield 30, 3) := by decide +kernel
theorem dX7_judge_25 : decode cX7_judge 25 = .ok (.i2l, 1) := by decide +kernel
theorem dX7_judge_26 : decode cX7_judge 26 = .ok (.lcmp, 1) := by decide +kernel
theorem dX7_judge_27 : decode cX7_judge 27 = .ok (.ifCond .le 20, 3) := by decide +kernel
theorem dX7_judge_30 : decode cX7_judge 30 = .ok (.aload_n 1, 1) := by decide +kernel
theorem dX7_judge_31 : decode cX7_judge 31 = .ok (.getfield 87, 3) := by decide +kernel
theorem dX7_judge_34 : decode cX7_judge 34 = .ok (.dup, 1) := by decide +kernel
theorem dX7_judge_35 : decode cX7_judge 35 = .ok (.getfield 256, 3) := by decide +kernel
theorem dX7_judge_38 : decode cX7_judge 38 = .ok (.aload_n 0, 1) := by decide +kernel
theorem dX7_judge_39 : decode cX7_judge 39 = .ok (.getfield 34, 3) := by decide +kernel
theorem dX7_judge_42 : decode cX7_judge 42 = .ok (.i2l, 1) := by decide +kernel
theorem dX7_judge_43 : decode cX7_judge 43 = .ok (.ladd, 1) := by decide +kernel
theorem dX7_judge_44 : decode cX7_judge 44 = .ok (.putfield 256, 3) := by decide +kernel
theorem dX7_judge_47 : decode cX7_judge 47 = .ok (.return_, 1) := by decide +kernel
theorem dX7_driftOf_0 : decode cX7_driftOf 0 = .ok (.aload_n 0, 1) := by decide +kernel
theorem dX7_driftOf_1 : decode cX7_driftOf 1 = .ok (.getfield 37, 3) := by decide +kernel
theorem dX7_driftOf_4 : decode cX7_driftOf 4 = .ok (.aload_n 1, 1) := by decide +kernel
theorem dX7_driftOf_5 : decode cX7_driftOf 5 = .ok (.getfield 250, 3) := by decide +kernel
theorem dX7_driftOf_8 : decode cX7_driftOf 8 = .ok (.isub, 1) := by decide +kernel
theorem dX7_driftOf_9 : decode cX7_driftOf 9 = .ok (.bipush 24, 2) := by decide +kernel
theorem dX7_driftOf_11 : decode cX7_driftOf 11 = .ok (.idiv, 1) := by decide +kernel
theorem dX7_driftOf_12 : decode cX7_driftOf 12 = .ok (.ireturn, 1) := by decide +kernel
theorem dX7_thinkOf_0 : decode cX7_thinkOf 0 = .ok (.aload_n 0, 1) := by decide +kernel
theorem dX7_thinkOf_1 : decode cX7_thinkOf 1 = .ok (.iload_n 1, 1) := by decide +kernel
theorem dX7_thinkOf_2 : decode cX7_thinkOf 2 = .ok (.invokevirtual 100, 3) := by decide +kernel
theorem dX7_thinkOf_5 : decode cX7_thinkOf 5 = .ok (.astore_n 3, 1) := by decide +kernel
theorem dX7_thinkOf_6 : decode cX7_thinkOf 6 = .ok (.aload_n 3, 1) := by decide +kernel
theorem dX7_thinkOf_7 : decode cX7_thinkOf 7 = .ok (.aload_n 0, 1) := by decide +kernel
theorem dX7_thinkOf_8 : decode cX7_thinkOf 8 = .ok (.iload_n 1, 1) := by decide +kernel
theorem dX7_thinkOf_9 : decode cX7_thinkOf 9 = .ok (.invokevirtual 65, 3) := by decide +kernel
theorem dX7_thinkOf_12 : decode cX7_thinkOf 12 = .ok (.invokevirtual 346, 3) := by decide +kernel
theorem dX7_thinkOf_15 : decode cX7_thinkOf 15 = .ok (.aload_n 3, 1) := by decide +kernel
theorem dX7_thinkOf_16 : decode cX7_thinkOf 16 = .ok (.iload_n 2, 1) := by decide +kernel
theorem dX7_thinkOf_17 : decode cX7_thinkOf 17 = .ok (.putfield 120, 3) := by decide +kernel
theorem dX7_thinkOf_20 : decode cX7_thinkOf 20 = .ok (.aload_n 3, 1) := by decide +kernel
theorem dX7_thinkOf_21 : decode cX7_thinkOf 21 = .ok (.areturn, 1) := by decide +kernel
theorem dX7_foresee_0 : decode cX7_foresee 0 = .ok (.aload_n 0, 1) := by decide +kernel
theorem dX7_foresee_1 : decode cX7_foresee 1 = .ok (.iload_n 1, 1) := by decide +kernel
theorem dX7_foresee_2 : decode cX7_foresee 2 = .ok (.iload_n 3, 1) := by decide +kernel
theorem dX7_foresee_3 : decode cX7_foresee 3 = .ok (.invokevirtual 349, 3) := by decide +kernel
theorem dX7_foresee_6 : decode cX7_foresee 6 = .ok (.astore 4, 2) := by decide +kernel
theorem dX7_foresee_8 : decode cX7_foresee 8 = .ok (.aload 4, 2) := by decide +kernel
theorem dX7_foresee_10 : decode cX7_foresee 10 = .ok (.getfield 87, 3) := by decide +kernel
theorem dX7_foresee_13 : decode cX7_foresee 13 = .ok (.getfield 214, 3) := by decide +kernel
theorem dX7_foresee_16 : decode cX7_foresee 16 = .ok (.lstore 5, 2) := by decide +kernel
theorem dX7_foresee_18 : decode cX7_foresee 18 = .ok (.iconst 0, 1) := by decide +kernel
theorem dX7_foresee_19 : decode cX7_foresee 19 = .ok (.istore 7, 2) := by decide +kernel
theorem dX7_foresee_21 : decode cX7_foresee 21 = .ok (.iload 7, 2) := by decide +kernel
theorem dX7_foresee_23 : decode cX7_foresee 23 = .ok (.iload_n 2, 1) := by decide +kernel
theorem dX7_foresee_24 : decode cX7_foresee 24 = .ok (.if_icmp .ge 30, 3) := by decide +kernel
theorem dX7_foresee_27 : decode cX7_foresee 27 = .ok (.aload 4, 2) := by decide +kernel
theorem dX7_foresee_29 : decode cX7_foresee 29 = .ok (.aload_n 0, 1) := by decide +kernel
theorem dX7_foresee_30 : decode cX7_foresee 30 = .ok (.getfield 22, 3) := by decide +kernel
theorem dX7_foresee_33 : decode cX7_foresee 33 = .ok (.getfield 198, 3) := by decide +kernel
theorem dX7_foresee_36 : decode cX7_foresee 36 = .ok (.iconst 0, 1) := by decide +kernel
theorem dX7_foresee_37 : decode cX7_foresee 37 = .ok (.aload_n 0, 1) := by decide +kernel
theorem dX7_foresee_38 : decode cX7_foresee 38 = .ok (.getfield 22, 3) := by decide +kernel
theorem dX7_foresee_41 : decode cX7_foresee 41 = .ok (.getfield 204, 3) := by decide +kernel
theorem dX7_foresee_44 : decode cX7_foresee 44 = .ok (.invokevirtual 327, 3) := by decide +kernel
theorem dX7_foresee_47 : decode cX7_foresee 47 = .ok (.pop2, 1) := by decide +kernel
theorem dX7_foresee_48 : decode cX7_foresee 48 = .ok (.iinc 7 1, 3) := by decide +kernel
theorem dX7_foresee_51 : decode cX7_foresee 51 = .ok (.goto (-30), 3) := by decide +kernel
theorem dX7_foresee_54 : decode cX7_foresee 54 = .ok (.aload 4, 2) := by decide +kernel
theorem dX7_foresee_56 : decode cX7_foresee 56 = .ok (.getfield 87, 3) := by decide +kernel
theorem dX7_foresee_59 : decode cX7_foresee 59 = .ok (.getfield 214, 3) := by decide +kernel
theorem dX7_foresee_62 : decode cX7_foresee 62 = .ok (.lload 5, 2) := by decide +kernel
theorem dX7_foresee_64 : decode cX7_foresee 64 = .ok (.lsub, 1) := by decide +kernel
theorem dX7_foresee_65 : decode cX7_foresee 65 = .ok (.lreturn, 1) := by decide +kernel
theorem dX7_compareForecasts_0 : decode cX7_compareForecasts 0 = .ok (.aload_n 0, 1) := by decide +kernel
theorem dX7_compareForecasts_1 : decode cX7_compareForecasts 1 = .ok (.iload_n 1, 1) := by decide +kernel
theorem dX7_compareForecasts_2 : decode cX7_compareForecasts 2 = .ok (.invokevirtual 65, 3) := by decide +kernel
theorem dX7_compareForecasts_5 : decode cX7_compareForecasts 5 = .ok (.pop, 1) := by decide +kernel
theorem dX7_compareForecasts_6 : decode cX7_compareForecasts 6 = .ok (.iload_n 2, 1) := by decide +kernel
theorem dX7_compareForecasts_7 : decode cX7_compareForecasts 7 = .ok (.iconst 1, 1) := by decide +kernel
theorem dX7_compareForecasts_8 : decode cX7_compareForecasts 8 = .ok (.bipush 48, 2) := by decide +kernel
theorem dX7_compareForecasts_10 : decode cX7_compareForecasts 10 = .ok (.invokestatic 73, 3) := by decide +kernel
theorem dX7_compareForecasts_13 : decode cX7_compareForecasts 13 = .ok (.iload_n 3, 1) := by decide +kernel
theorem dX7_compareForecasts_14 : decode cX7_compareForecasts 14 = .ok (.iconst 0, 1) := by decide +kernel
theorem dX7_compareForecasts_15 : decode cX7_compareForecasts 15 = .ok (.ldc_w 353, 3) := by decide +kernel
theorem dX7_compareForecasts_18 : decode cX7_compareForecasts 18 = .ok (.invokestatic 73, 3) := by decide +kernel
theorem dX7_compareForecasts_21 : decode cX7_compareForecasts 21 = .ok (.ldc2_w 356, 3) := by decide +kernel
theorem dX7_compareForecasts_24 : decode cX7_compareForecasts 24 = .ok (.lstore 4, 2) := by decide +kernel
theorem dX7_compareForecasts_26 : decode cX7_compareForecasts 26 = .ok (.iconst 0, 1) := by decide +kernel
theorem dX7_compareForecasts_27 : decode cX7_compareForecasts 27 = .ok (.istore 6, 2) := by decide +kernel
theorem dX7_compareForecasts_29 : decode cX7_compareForecasts 29 = .ok (.iload 6, 2) := by decide +kernel
theorem dX7_compareForecasts_31 : decode cX7_compareForecasts 31 = .ok (.aload_n 0, 1) := by decide +kernel
theorem dX7_compareForecasts_32 : decode cX7_compareForecasts 32 = .ok (.getfield 26, 3) := by decide +kernel
theorem dX7_compareForecasts_35 : decode cX7_compareForecasts 35 = .ok (.arraylength, 1) := by decide +kernel
theorem dX7_compareForecasts_36 : decode cX7_compareForecasts 36 = .ok (.if_icmp .ge 47, 3) := by decide +kernel
theorem dX7_compareForecasts_39 : decode cX7_compareForecasts 39 = .ok (.aload_n 0, 1) := by decide +kernel
theorem dX7_compareForecasts_40 : decode cX7_compareForecasts 40 = .ok (.getfield 26, 3) := by decide +kernel
theorem dX7_compareForecasts_43 : decode cX7_compareForecasts 43 = .ok (.iload 6, 2) := by decide +kernel
theorem dX7_compareForecasts_45 : decode cX7_compareForecasts 45 = .ok (.aload_n 0, 1) := by decide +kernel
theorem dX7_compareForecasts_46 : decode cX7_compareForecasts 46 = .ok (.iload_n 1, 1) := by decide +kernel
theorem dX7_compareForecasts_47 : decode cX7_compareForecasts 47 = .ok (.iload_n 2, 1) := by decide +kernel
theorem dX7_compareForecasts_48 : decode cX7_compareForecasts 48 = .ok (.iload 6, 2) := by decide +kernel
theorem dX7_compareForecasts_50 : decode cX7_compareForecasts 50 = .ok (.invokestatic 266, 3) := by decide +kernel
theorem dX7_compareForecasts_53 : decode cX7_compareForecasts 53 = .ok (.invokevirtual 259, 3) := by decide +kernel
theorem dX7_compareForecasts_56 : decode cX7_compareForecasts 56 = .ok (.iload_n 3, 1) := by decide +kernel
theorem dX7_compareForecasts_57 : decode cX7_compareForecasts 57 = .ok (.i2l, 1) := by decide +kernel
theorem dX7_compareForecasts_58 : decode cX7_compareForecasts 58 = .ok (.lsub, 1) := by decide +kernel
theorem dX7_compareForecasts_59 : decode cX7_compareForecasts 59 = .ok (.invokestatic 358, 3) := by decide +kernel
theorem dX7_compareForecasts_62 : decode cX7_compareForecasts 62 = .ok (.lastore, 1) := by decide +kernel
theorem dX7_compareForecasts_63 : decode cX7_compareForecasts 63 = .ok (.lload 4, 2) := by decide +kernel
theorem dX7_compareForecasts_65 : decode cX7_compareForecasts 65 = .ok (.aload_n 0, 1) := by decide +kernel
theorem dX7_compareForecasts_66 : decode cX7_compareForecasts 66 = .ok (.getfield 26, 3) := by decide +kernel
theorem dX7_compareForecasts_69 : decode cX7_compareForecasts 69 = .ok (.iload 6, 2) := by decide +kernel
theorem dX7_compareForecasts_71 : decode cX7_compareForecasts 71 = .ok (.laload, 1) := by decide +kernel
theorem dX7_compareForecasts_72 : decode cX7_compareForecasts 72 = .ok (.invokestatic 364, 3) := by decide +kernel
theorem dX7_compareForecasts_75 : decode cX7_compareForecasts 75 = .ok (.lstore 4, 2) := by decide +kernel
theorem dX7_compareForecasts_77 : decode cX7_compareForecasts 77 = .ok (.iinc 6 1, 3) := by decide +kernel
theorem dX7_compareForecasts_80 : decode cX7_compareForecasts 80 = .ok (.goto (-51), 3) := by decide +kernel
theorem dX7_compareForecasts_83 : decode cX7_compareForecasts 83 = .ok (.lload 4, 2) := by decide +kernel
theorem dX7_compareForecasts_85 : decode cX7_compareForecasts 85 = .ok (.lreturn, 1) := by decide +kernel
theorem dX7_fittedScale_0 : decode cX7_fittedScale 0 = .ok (.bipush 10, 2) := by decide +kernel
theorem dX7_fittedScale_2 : decode cX7_fittedScale 2 = .ok (.iload_n 0, 1) := by decide +kernel
theorem dX7_fittedScale_3 : decode cX7_fittedScale 3 = .ok (.bipush 10, 2) := by decide +kernel
theorem dX7_fittedScale_5 : decode cX7_fittedScale 5 = .ok (.imul, 1) := by decide +kernel
theorem dX7_fittedScale_6 : decode cX7_fittedScale 6 = .ok (.iadd, 1) := by decide +kernel
theorem dX7_fittedScale_7 : decode cX7_fittedScale 7 = .ok (.ireturn, 1) := by decide +kernel
theorem dX7_layersInAll_0 : decode cX7_layersInAll 0 = .ok (.iconst 0, 1) := by decide +kernel
theorem dX7_layersInAll_1 : decode cX7_layersInAll 1 = .ok (.istore_n 1, 1) := by decide +kernel
theorem dX7_layersInAll_2 : decode cX7_layersInAll 2 = .ok (.iconst 0, 1) := by decide +kernel
theorem dX7_layersInAll_3 : decode cX7_layersInAll 3 = .ok (.istore_n 2, 1) := by decide +kernel
theorem dX7_layersInAll_4 : decode cX7_layersInAll 4 = .ok (.iload_n 2, 1) := by decide +kernel
theorem dX7_layersInAll_5 : decode cX7_layersInAll 5 = .ok (.aload_n 0, 1) := by decide +kernel
theorem dX7_layersInAll_6 : decode cX7_layersInAll 6 = .ok (.getfield 10, 3) := by decide +kernel
theorem dX7_layersInAll_9 : decode cX7_layersInAll 9 = .ok (.invokevirtual 47, 3) := by decide +kernel
theorem dX7_layersInAll_12 : decode cX7_layersInAll 12 = .ok (.if_icmp .ge 29, 3) := by decide +kernel
theorem dX7_layersInAll_15 : decode cX7_layersInAll 15 = .ok (.iload_n 1, 1) := by decide +kernel
theorem dX7_layersInAll_16 : decode cX7_layersInAll 16 = .ok (.aload_n 0, 1) := by decide +kernel
theorem dX7_layersInAll_17 : decode cX7_layersInAll 17 = .ok (.getfield 10, 3) := by decide +kernel
theorem dX7_layersInAll_20 : decode cX7_layersInAll 20 = .ok (.iload_n 2, 1) := by decide +kernel
theorem dX7_layersInAll_21 : decode cX7_layersInAll 21 = .ok (.invokevirtual 141, 3) := by decide +kernel
theorem dX7_layersInAll_24 : decode cX7_layersInAll 24 = .ok (.checkcast 56, 3) := by decide +kernel
theorem dX7_layersInAll_27 : decode cX7_layersInAll 27 = .ok (.getfield 77, 3) := by decide +kernel
theorem dX7_layersInAll_30 : decode cX7_layersInAll 30 = .ok (.invokevirtual 47, 3) := by decide +kernel
theorem dX7_layersInAll_33 : decode cX7_layersInAll 33 = .ok (.iadd, 1) := by decide +kernel
theorem dX7_layersInAll_34 : decode cX7_layersInAll 34 = .ok (.istore_n 1, 1) := by decide +kernel
theorem dX7_layersInAll_35 : decode cX7_layersInAll 35 = .ok (.iinc 2 1, 3) := by decide +kernel
theorem dX7_layersInAll_38 : decode cX7_layersInAll 38 = .ok (.goto (-34), 3) := by decide +kernel
theorem dX7_layersInAll_41 : decode cX7_layersInAll 41 = .ok (.iload_n 1, 1) := by decide +kernel
theorem dX7_layersInAll_42 : decode cX7_layersInAll 42 = .ok (.ireturn, 1) := by decide +kernel
theorem dX7_forecastHolds_0 : decode cX7_forecastHolds 0 = .ok (.aload_n 0, 1) := by decide +kernel
theorem dX7_forecastHolds_1 : decode cX7_forecastHolds 1 = .ok (.iload_n 1, 1) := by decide +kernel
theorem dX7_forecastHolds_2 : decode cX7_forecastHolds 2 = .ok (.invokevirtual 65, 3) := by decide +kernel
theorem dX7_forecastHolds_5 : decode cX7_forecastHolds 5 = .ok (.getfield 120, 3) := by decide +kernel
theorem dX7_forecastHolds_8 : decode cX7_forecastHolds 8 = .ok (.istore_n 2, 1) := by decide +kernel
theorem dX7_forecastHolds_9 : decode cX7_forecastHolds 9 = .ok (.aload_n 0, 1) := by decide +kernel
theorem dX7_forecastHolds_10 : decode cX7_forecastHolds 10 = .ok (.iload_n 1, 1) := by decide +kernel
theorem dX7_forecastHolds_11 : decode cX7_forecastHolds 11 = .ok (.bipush 48, 2) := by decide +kernel
theorem dX7_forecastHolds_13 : decode cX7_forecastHolds 13 = .ok (.iload_n 2, 1) := by decide +kernel
theorem dX7_forecastHolds_14 : decode cX7_forecastHolds 14 = .ok (.invokevirtual 259, 3) := by decide +kernel
theorem dX7_forecastHolds_17 : decode cX7_forecastHolds 17 = .ok (.lstore_n 3, 1) := by decide +kernel
theorem dX7_forecastHolds_18 : decode cX7_forecastHolds 18 = .ok (.aload_n 0, 1) := by decide +kernel
theorem dX7_forecastHolds_19 : decode cX7_forecastHolds 19 = .ok (.iload_n 1, 1) := by decide +kernel
theorem dX7_forecastHolds_20 : decode cX7_forecastHolds 20 = .ok (.iload_n 2, 1) := by decide +kernel
theorem dX7_forecastHolds_21 : decode cX7_forecastHolds 21 = .ok (.invokevirtual 349, 3) := by decide +kernel
theorem dX7_forecastHolds_24 : decode cX7_forecastHolds 24 = .ok (.astore 5, 2) := by decide +kernel
theorem dX7_forecastHolds_26 : decode cX7_forecastHolds 26 = .ok (.lconst 0, 1) := by decide +kernel
theorem dX7_forecastHolds_27 : decode cX7_forecastHolds 27 = .ok (.lstore 6, 2) := by decide +kernel
theorem dX7_forecastHolds_29 : decode cX7_forecastHolds 29 = .ok (.iconst 0, 1) := by decide +kernel
theorem dX7_forecastHolds_30 : decode cX7_forecastHolds 30 = .ok (.istore 8, 2) := by decide +kernel
theorem dX7_forecastHolds_32 : decode cX7_forecastHolds 32 = .ok (.iload 8, 2) := by decide +kernel
theorem dX7_forecastHolds_34 : decode cX7_forecastHolds 34 = .ok (.bipush 48, 2) := by decide +kernel
theorem dX7_forecastHolds_36 : decode cX7_forecastHolds 36 = .ok (.if_icmp .ge 56, 3) := by decide +kernel
theorem dX7_forecastHolds_39 : decode cX7_forecastHolds 39 = .ok (.aload 5, 2) := by decide +kernel
theorem dX7_forecastHolds_41 : decode cX7_forecastHolds 41 = .ok (.getfield 87, 3) := by decide +kernel
theorem dX7_forecastHolds_44 : decode cX7_forecastHolds 44 = .ok (.getfield 214, 3) := by decide +kernel
theorem dX7_forecastHolds_47 : decode cX7_forecastHolds 47 = .ok (.lstore 9, 2) := by decide +kernel
theorem dX7_forecastHolds_49 : decode cX7_forecastHolds 49 = .ok (.aload 5, 2) := by decide +kernel
theorem dX7_forecastHolds_51 : decode cX7_forecastHolds 51 = .ok (.aload_n 0, 1) := by decide +kernel
theorem dX7_forecastHolds_52 : decode cX7_forecastHolds 52 = .ok (.getfield 22, 3) := by decide +kernel
theorem dX7_forecastHolds_55 : decode cX7_forecastHolds 55 = .ok (.getfield 198, 3) := by decide +kernel
theorem dX7_forecastHolds_58 : decode cX7_forecastHolds 58 = .ok (.iconst 0, 1) := by decide +kernel
theorem dX7_forecastHolds_59 : decode cX7_forecastHolds 59 = .ok (.aload_n 0, 1) := by decide +kernel
theorem dX7_forecastHolds_60 : decode cX7_forecastHolds 60 = .ok (.getfield 22, 3) := by decide +kernel
theorem dX7_forecastHolds_63 : decode cX7_forecastHolds 63 = .ok (.getfield 204, 3) := by decide +kernel
theorem dX7_forecastHolds_66 : decode cX7_forecastHolds 66 = .ok (.invokevirtual 327, 3) := by decide +kernel
theorem dX7_forecastHolds_69 : decode cX7_forecastHolds 69 = .ok (.pop2, 1) := by decide +kernel
theorem dX7_forecastHolds_70 : decode cX7_forecastHolds 70 = .ok (.lload 6, 2) := by decide +kernel
theorem dX7_forecastHolds_72 : decode cX7_forecastHolds 72 = .ok (.aload 5, 2) := by decide +kernel
theorem dX7_forecastHolds_74 : decode cX7_forecastHolds 74 = .ok (.getfield 87, 3) := by decide +kernel
theorem dX7_forecastHolds_77 : decode cX7_forecastHolds 77 = .ok (.getfield 214, 3) := by decide +kernel
theorem dX7_forecastHolds_80 : decode cX7_forecastHolds 80 = .ok (.lload 9, 2) := by decide +kernel
theorem dX7_forecastHolds_82 : decode cX7_forecastHolds 82 = .ok (.lsub, 1) := by decide +kernel
theorem dX7_forecastHolds_83 : decode cX7_forecastHolds 83 = .ok (.ladd, 1) := by decide +kernel
theorem dX7_forecastHolds_84 : decode cX7_forecastHolds 84 = .ok (.lstore 6, 2) := by decide +kernel
theorem dX7_forecastHolds_86 : decode cX7_forecastHolds 86 = .ok (.iinc 8 1, 3) := by decide +kernel
theorem dX7_forecastHolds_89 : decode cX7_forecastHolds 89 = .ok (.goto (-57), 3) := by decide +kernel
theorem dX7_forecastHolds_92 : decode cX7_forecastHolds 92 = .ok (.lload_n 3, 1) := by decide +kernel
theorem dX7_forecastHolds_93 : decode cX7_forecastHolds 93 = .ok (.lload 6, 2) := by decide +kernel
theorem dX7_forecastHolds_95 : decode cX7_forecastHolds 95 = .ok (.lcmp, 1) := by decide +kernel
theorem dX7_forecastHolds_96 : decode cX7_forecastHolds 96 = .ok (.ifCond .ne 7, 3) := by decide +kernel
theorem dX7_forecastHolds_99 : decode cX7_forecastHolds 99 = .ok (.iconst 1, 1) := by decide +kernel
theorem dX7_forecastHolds_100 : decode cX7_forecastHolds 100 = .ok (.goto 4, 3) := by decide +kernel
theorem dX7_forecastHolds_103 : decode cX7_forecastHolds 103 = .ok (.iconst 0, 1) := by decide +kernel
theorem dX7_forecastHolds_104 : decode cX7_forecastHolds 104 = .ok (.ireturn, 1) := by decide +kernel
theorem dJx00060_init_a7421_0 : decode cJx00060_init_a7421 0 = .ok (.aload_n 0, 1) := by decide +kernel
theorem dJx00060_init_a7421_1 : decode cJx00060_init_a7421 1 = .ok (.aload_n 1, 1) := by decide +kernel
theorem dJx00060_init_a7421_2 : decode cJx00060_init_a7421 2 = .ok (.invokespecial 7, 3) := by decide +kernel
theorem dJx00060_init_a7421_5 : decode cJx00060_init_a7421 5 = .ok (.return_, 1) := by decide +kernel
theorem dJ9_abs_067f4_0 : decode cJ9_abs_067f4 0 = .ok (.lload_n 0, 1) := by decide +kernel
theorem dJ9_abs_067f4_1 : decode cJ9_abs_067f4 1 = .ok (.lconst 0, 1) := by decide +kernel
theorem dJ9_abs_067f4_2 : decode cJ9_abs_067f4 2 = .ok (.lcmp, 1) := by decide +kernel
theorem dJ9_abs_067f4_3 : decode cJ9_abs_067f4 3 = .ok (.ifCond .ge 8, 3) := by decide +kernel
theorem dJ9_abs_067f4_6 : decode cJ9_abs_067f4 6 = .ok (.lload_n 0, 1) := by decide +kernel
theorem dJ9_abs_067f4_7 : decode cJ9_abs_067f4 7 = .ok (.lneg, 1) := by decide +kernel
theorem dJ9_abs_067f4_8 : decode cJ9_abs_067f4 8 = .ok (.goto 4, 3) := by decide +kernel
theorem dJ9_abs_067f4_11 : decode cJ9_abs_067f4 11 = .ok (.lload_n 0, 1) := by decide +kernel
theorem dJ9_abs_067f4_12 : decode cJ9_abs_067f4 12 = .ok (.lreturn, 1) := by decide +kernel
theorem dJ9_max_7cf53_0 : decode cJ9_max_7cf53 0 = .ok (.iload_n 0, 1) := by decide +kernel
theorem dJ9_max_7cf53_1 : decode cJ9_max_7cf53 1 = .ok (.iload_n 1, 1) := by decide +kernel
theorem dJ9_max_7cf53_2 : decode cJ9_max_7cf53 2 = .ok (.if_icmp .lt 7, 3) := by decide +kernel
theorem dJ9_max_7cf53_5 : decode cJ9_max_7cf53 5 = .ok (.iload_n 0, 1) := by decide +kernel
theorem dJ9_max_7cf53_6 : decode cJ9_max_7cf53 6 = .ok (.goto 4, 3) := by decide +kernel
theorem dJ9_max_7cf53_9 : decode cJ9_max_7cf53 9 = .ok (.iload_n 1, 1) := by decide +kernel
theorem dJ9_max_7cf53_10 : decode cJ9_max_7cf53 10 = .ok (.ireturn, 1) := by decide +kernel
theorem dJ9_min_7cf53_0 : decode cJ9_min_7cf53 0 = .ok (.iload_n 0, 1) := by decide +kernel
theorem dJ9_min_7cf53_1 : decode cJ9_min_7cf53 1 = .ok (.iload_n 1, 1) := by decide +kernel
theorem dJ9_min_7cf53_2 : decode cJ9_min_7cf53 2 = .ok (.if_icmp .gt 7, 3) := by decide +kernel
theorem dJ9_min_7cf53_5 : decode cJ9_min_7cf53 5 = .ok (.iload_n 0, 1) := by decide +kernel
theorem dJ9_min_7cf53_6 : decode cJ9_min_7cf53 6 = .ok (.goto 4, 3) := by decide +kernel
theorem dJ9_min_7cf53_9 : decode cJ9_min_7cf53 9 = .ok (.iload_n 1, 1) := by decide +kernel
theorem dJ9_min_7cf53_10 : decode cJ9_min_7cf53 10 = .ok (.ireturn, 1) := by decide +kernel
theorem dJ9_min_f86c9_0 : decode cJ9_min_f86c9 0 = .ok (.lload_n 0, 1) := by decide +kernel
theorem dJ9_min_f86c9_1 : decode cJ9_min_f86c9 1 = .ok (.lload_n 2, 1) := by decide +kernel
theorem dJ9_min_f86c9_2 : decode cJ9_min_f86c9 2 = .ok (.lcmp, 1) := by decide +kernel
theorem dJ9_min_f86c9_3 : decode cJ9_min_f86c9 3 = .ok (.ifCond .gt 7, 3) := by decide +kernel
theorem dJ9_min_f86c9_6 : decode cJ9_min_f86c9 6 = .ok (.lload_n 0, 1) := by decide +kernel
theorem dJ9_min_f86c9_7 : decode cJ9_min_f86c9 7 = .ok (.goto 4, 3) := by decide +kernel
theorem dJ9_min_f86c9_10 : decode cJ9_min_f86c9 10 = .ok (.lload_n 2, 1) := by decide +kernel
theorem dJ9_min_f86c9_11 : decode cJ9_min_f86c9 11 = .ok (.lreturn, 1) := by decide +kernel
theorem dJxa1e45_init_da8c8_0 : decode cJxa1e45_init_da8c8 0 = .ok (.aload_n 0, 1) := by decide +kernel
theorem dJxa1e45_init_da8c8_1 : decode cJxa1e45_init_da8c8 1 = .ok (.invokespecial 1, 3) := by decide +kernel
theorem dJxa1e45_init_da8c8_4 : decode cJxa1e45_init_da8c8 4 = .ok (.return_, 1) := by decide +kernel
theorem dJxc12de_init_da8c8_0 : decode cJxc12de_init_da8c8 0 = .ok (.aload_n 0, 1) := by decide +kernel
theorem dJxc12de_init_da8c8_1 : decode cJxc12de_init_da8c8 1 = .ok (.invokespecial 1, 3) := by decide +kernel
theorem dJxc12de_init_da8c8_4 : decode cJxc12de_init_da8c8 4 = .ok (.aload_n 0, 1) := by decide +kernel
theorem dJxc12de_init_da8c8_5 : decode cJxc12de_init_da8c8 5 = .ok (.iconst 0, 1) := by decide +kernel
theorem dJxc12de_init_da8c8_6 : decode cJxc12de_init_da8c8 6 = .ok (.putfield 7, 3) := by decide +kernel
theorem dJxc12de_init_da8c8_9 : decode cJxc12de_init_da8c8 9 = .ok (.return_, 1) := by decide +kernel
theorem dJx4a65c_init_da8c8_0 : decode cJx4a65c_init_da8c8 0 = .ok (.aload_n 0, 1) := by decide +kernel
theorem dJx4a65c_init_da8c8_1 : decode cJx4a65c_init_da8c8 1 = .ok (.invokespecial 1, 3) := by decide +kernel
theorem dJx4a65c_init_da8c8_4 : decode cJx4a65c_init_da8c8 4 = .ok (.aload_n 0, 1) := by decide +kernel
theorem dJx4a65c_init_da8c8_5 : decode cJx4a65c_init_da8c8 5 = .ok (.getstatic 39, 3) := by decide +kernel
theorem dJx4a65c_init_da8c8_8 : decode cJx4a65c_init_da8c8 8 = .ok (.putfield 9, 3) := by decide +kernel
theorem dJx4a65c_init_da8c8_11 : decode cJx4a65c_init_da8c8 11 = .ok (.return_, 1) := by decide +kernel
theorem dJx4a65c_grow_92f84_0 : decode cJx4a65c_grow_92f84 0 = .ok (.aload_n 0, 1) := by decide +kernel
theorem dJx4a65c_grow_92f84_1 : decode cJx4a65c_grow_92f84 1 = .ok (.getfield 9, 3) := by decide +kernel
theorem dJx4a65c_grow_92f84_4 : decode cJx4a65c_grow_92f84 4 = .ok (.arraylength, 1) := by decide +kernel
theorem dJx4a65c_grow_92f84_5 : decode cJx4a65c_grow_92f84 5 = .ok (.istore_n 2, 1) := by decide +kernel
theorem dJx4a65c_grow_92f84_6 : decode cJx4a65c_grow_92f84 6 = .ok (.iload_n 2, 1) := by decide +kernel
theorem dJx4a65c_grow_92f84_7 : decode cJx4a65c_grow_92f84 7 = .ok (.ifCond .gt 13, 3) := by decide +kernel
theorem dJx4a65c_grow_92f84_10 : decode cJx4a65c_grow_92f84 10 = .ok (.aload_n 0, 1) := by decide +kernel
theorem dJx4a65c_grow_92f84_11 : decode cJx4a65c_grow_92f84 11 = .ok (.getfield 9, 3) := by decide +kernel
theorem dJx4a65c_grow_92f84_14 : decode cJx4a65c_grow_92f84 14 = .ok (.getstatic 39, 3) := by decide +kernel
theorem dJx4a65c_grow_92f84_17 : decode cJx4a65c_grow_92f84 17 = .ok (.if_acmp .eq 28, 3) := by decide +kernel
theorem dJx4a65c_grow_92f84_20 : decode cJx4a65c_grow_92f84 20 = .ok (.iload_n 2, 1) := by decide +kernel
theorem dJx4a65c_grow_92f84_21 : decode cJx4a65c_grow_92f84 21 = .ok (.iload_n 1, 1) := by decide +kernel
theorem dJx4a65c_grow_92f84_22 : decode cJx4a65c_grow_92f84 22 = .ok (.iload_n 2, 1) := by decide +kernel
theorem dJx4a65c_grow_92f84_23 : decode cJx4a65c_grow_92f84 23 = .ok (.isub, 1) := by decide +kernel
theorem dJx4a65c_grow_92f84_24 : decode cJx4a65c_grow_92f84 24 = .ok (.iload_n 2, 1) := by decide +kernel
theorem dJx4a65c_grow_92f84_25 : decode cJx4a65c_grow_92f84 25 = .ok (.iconst 1, 1) := by decide +kernel
theorem dJx4a65c_grow_92f84_26 : decode cJx4a65c_grow_92f84 26 = .ok (.ishr, 1) := by decide +kernel
theorem dJx4a65c_grow_92f84_27 : decode cJx4a65c_grow_92f84 27 = .ok (.invokestatic 73, 3) := by decide +kernel
theorem dJx4a65c_grow_92f84_30 : decode cJx4a65c_grow_92f84 30 = .ok (.istore_n 3, 1) := by decide +kernel
theorem dJx4a65c_grow_92f84_31 : decode cJx4a65c_grow_92f84 31 = .ok (.aload_n 0, 1) := by decide +kernel
theorem dJx4a65c_grow_92f84_32 : decode cJx4a65c_grow_92f84 32 = .ok (.aload_n 0, 1) := by decide +kernel
theorem dJx4a65c_grow_92f84_33 : decode cJx4a65c_grow_92f84 33 = .ok (.getfield 9, 3) := by decide +kernel
theorem dJx4a65c_grow_92f84_36 : decode cJx4a65c_grow_92f84 36 = .ok (.iload_n 3, 1) := by decide +kernel
theorem dJx4a65c_grow_92f84_37 : decode cJx4a65c_grow_92f84 37 = .ok (.invokestatic 66, 3) := by decide +kernel
theorem dJx4a65c_grow_92f84_40 : decode cJx4a65c_grow_92f84 40 = .ok (.dup_x1, 1) := by decide +kernel
theorem dJx4a65c_grow_92f84_41 : decode cJx4a65c_grow_92f84 41 = .ok (.putfield 9, 3) := by decide +kernel
theorem dJx4a65c_grow_92f84_44 : decode cJx4a65c_grow_92f84 44 = .ok (.areturn, 1) := by decide +kernel
theorem dJx4a65c_grow_92f84_45 : decode cJx4a65c_grow_92f84 45 = .ok (.aload_n 0, 1) := by decide +kernel
theorem dJx4a65c_grow_92f84_46 : decode cJx4a65c_grow_92f84 46 = .ok (.bipush 10, 2) := by decide +kernel
theorem dJx4a65c_grow_92f84_48 : decode cJx4a65c_grow_92f84 48 = .ok (.iload_n 1, 1) := by decide +kernel
theorem dJx4a65c_grow_92f84_49 : decode cJx4a65c_grow_92f84 49 = .ok (.invokestatic 79, 3) := by decide +kernel
theorem dJx4a65c_grow_92f84_52 : decode cJx4a65c_grow_92f84 52 = .ok (.anewarray 7, 3) := by decide +kernel
theorem dJx4a65c_grow_92f84_55 : decode cJx4a65c_grow_92f84 55 = .ok (.dup_x1, 1) := by decide +kernel
theorem dJx4a65c_grow_92f84_56 : decode cJx4a65c_grow_92f84 56 = .ok (.putfield 9, 3) := by decide +kernel
theorem dJx4a65c_grow_92f84_59 : decode cJx4a65c_grow_92f84 59 = .ok (.areturn, 1) := by decide +kernel
theorem dJx4a65c_grow_d5877_0 : decode cJx4a65c_grow_d5877 0 = .ok (.aload_n 0, 1) := by decide +kernel
theorem dJx4a65c_grow_d5877_1 : decode cJx4a65c_grow_d5877 1 = .ok (.aload_n 0, 1) := by decide +kernel
theorem dJx4a65c_grow_d5877_2 : decode cJx4a65c_grow_d5877 2 = .ok (.getfield 48, 3) := by decide +kernel
theorem dJx4a65c_grow_d5877_5 : decode cJx4a65c_grow_d5877 5 = .ok (.iconst 1, 1) := by decide +kernel
theorem dJx4a65c_grow_d5877_6 : decode cJx4a65c_grow_d5877 6 = .ok (.iadd, 1) := by decide +kernel
theorem dJx4a65c_grow_d5877_7 : decode cJx4a65c_grow_d5877 7 = .ok (.invokevirtual 69, 3) := by decide +kernel
theorem dJx4a65c_grow_d5877_10 : decode cJx4a65c_grow_d5877 10 = .ok (.areturn, 1) := by decide +kernel
theorem dJx4a65c_size_8abf5_0 : decode cJx4a65c_size_8abf5 0 = .ok (.aload_n 0, 1) := by decide +kernel
theorem dJx4a65c_size_8abf5_1 : decode cJx4a65c_size_8abf5 1 = .ok (.getfield 48, 3) := by decide +kernel
theorem dJx4a65c_size_8abf5_4 : decode cJx4a65c_size_8abf5 4 = .ok (.ireturn, 1) := by decide +kernel
theorem dJx4a65c_isEmpty_aae02_0 : decode cJx4a65c_isEmpty_aae02 0 = .ok (.aload_n 0, 1) := by decide +kernel
theorem dJx4a65c_isEmpty_aae02_1 : decode cJx4a65c_isEmpty_aae02 1 = .ok (.getfield 48, 3) := by decide +kernel
theorem dJx4a65c_isEmpty_aae02_4 : decode cJx4a65c_isEmpty_aae02 4 = .ok (.ifCond .ne 7, 3) := by decide +kernel
theorem dJx4a65c_isEmpty_aae02_7 : decode cJx4a65c_isEmpty_aae02 7 = .ok (.iconst 1, 1) := by decide +kernel
theorem dJx4a65c_isEmpty_aae02_8 : decode cJx4a65c_isEmpty_aae02 8 = .ok (.goto 4, 3) := by decide +kernel
theorem dJx4a65c_isEmpty_aae02_11 : decode cJx4a65c_isEmpty_aae02 11 = .ok (.iconst 0, 1) := by decide +kernel
theorem dJx4a65c_isEmpty_aae02_12 : decode cJx4a65c_isEmpty_aae02 12 = .ok (.ireturn, 1) := by decide +kernel
theorem dJx4a65c_elementData_915e3_0 : decode cJx4a65c_elementData_915e3 0 = .ok (.aload_n 0, 1) := by decide +kernel
theorem dJx4a65c_elementData_915e3_1 : decode cJx4a65c_elementData_915e3 1 = .ok (.getfield 9, 3) := by decide +kernel
theorem dJx4a65c_elementData_915e3_4 : decode cJx4a65c_elementData_915e3 4 = .ok (.iload_n 1, 1) := by decide +kernel
theorem dJx4a65c_elementData_915e3_5 : decode cJx4a65c_elementData_915e3 5 = .ok (.aaload, 1) := by decide +kernel
theorem dJx4a65c_elementData_915e3_6 : decode cJx4a65c_elementData_915e3 6 = .ok (.areturn, 1) := by decide +kernel
theorem dJx4a65c_get_915e3_0 : decode cJx4a65c_get_915e3 0 = .ok (.iload_n 1, 1) := by decide +kernel
theorem dJx4a65c_get_915e3_1 : decode cJx4a65c_get_915e3 1 = .ok (.aload_n 0, 1) := by decide +kernel
theorem dJx4a65c_get_915e3_2 : decode cJx4a65c_get_915e3 2 = .ok (.getfield 48, 3) := by decide +kernel
theorem dJx4a65c_get_915e3_5 : decode cJx4a65c_get_915e3 5 = .ok (.invokestatic 118, 3) := by decide +kernel
theorem dJx4a65c_get_915e3_8 : decode cJx4a65c_get_915e3 8 = .ok (.pop, 1) := by decide +kernel
theorem dJx4a65c_get_915e3_9 : decode cJx4a65c_get_915e3 9 = .ok (.aload_n 0, 1) := by decide +kernel
theorem dJx4a65c_get_915e3_10 : decode cJx4a65c_get_915e3 10 = .ok (.iload_n 1, 1) := by decide +kernel
theorem dJx4a65c_get_915e3_11 : decode cJx4a65c_get_915e3 11 = .ok (.invokevirtual 123, 3) := by decide +kernel
theorem dJx4a65c_get_915e3_14 : decode cJx4a65c_get_915e3 14 = .ok (.areturn, 1) := by decide +kernel
theorem dJx4a65c_add_72be8_0 : decode cJx4a65c_add_72be8 0 = .ok (.iload_n 3, 1) := by decide +kernel
theorem dJx4a65c_add_72be8_1 : decode cJx4a65c_add_72be8 1 = .ok (.aload_n 2, 1) := by decide +kernel
theorem dJx4a65c_add_72be8_2 : decode cJx4a65c_add_72be8 2 = .ok (.arraylength, 1) := by decide +kernel
theorem dJx4a65c_add_72be8_3 : decode cJx4a65c_add_72be8 3 = .ok (.if_icmp .ne 8, 3) := by decide +kernel
theorem dJx4a65c_add_72be8_6 : decode cJx4a65c_add_72be8 6 = .ok (.aload_n 0, 1) := by decide +kernel
theorem dJx4a65c_add_72be8_7 : decode cJx4a65c_add_72be8 7 = .ok (.invokevirtual 129, 3) := by decide +kernel
theorem dJx4a65c_add_72be8_10 : decode cJx4a65c_add_72be8 10 = .ok (.astore_n 2, 1) := by decide +kernel
theorem dJx4a65c_add_72be8_11 : decode cJx4a65c_add_72be8 11 = .ok (.aload_n 2, 1) := by decide +kernel
theorem dJx4a65c_add_72be8_12 : decode cJx4a65c_add_72be8 12 = .ok (.iload_n 3, 1) := by decide +kernel
theorem dJx4a65c_add_72be8_13 : decode cJx4a65c_add_72be8 13 = .ok (.aload_n 1, 1) := by decide +kernel
theorem dJx4a65c_add_72be8_14 : decode cJx4a65c_add_72be8 14 = .ok (.aastore, 1) := by decide +kernel
theorem dJx4a65c_add_72be8_15 : decode cJx4a65c_add_72be8 15 = .ok (.aload_n 0, 1) := by decide +kernel
theorem dJx4a65c_add_72be8_16 : decode cJx4a65c_add_72be8 16 = .ok (.iload_n 3, 1) := by decide +kernel
theorem dJx4a65c_add_72be8_17 : decode cJx4a65c_add_72be8 17 = .ok (.iconst 1, 1) := by decide +kernel
theorem dJx4a65c_add_72be8_18 : decode cJx4a65c_add_72be8 18 = .ok (.iadd, 1) := by decide +kernel
theorem dJx4a65c_add_72be8_19 : decode cJx4a65c_add_72be8 19 = .ok (.putfield 48, 3) := by decide +kernel
theorem dJx4a65c_add_72be8_22 : decode cJx4a65c_add_72be8 22 = .ok (.return_, 1) := by decide +kernel
theorem dJx4a65c_add_9ea2d_0 : decode cJx4a65c_add_9ea2d 0 = .ok (.aload_n 0, 1) := by decide +kernel
theorem dJx4a65c_add_9ea2d_1 : decode cJx4a65c_add_9ea2d 1 = .ok (.dup, 1) := by decide +kernel
theorem dJx4a65c_add_9ea2d_2 : decode cJx4a65c_add_9ea2d 2 = .ok (.getfield 63, 3) := by decide +kernel
theorem dJx4a65c_add_9ea2d_5 : decode cJx4a65c_add_9ea2d 5 = .ok (.iconst 1, 1) := by decide +kernel
theorem dJx4a65c_add_9ea2d_6 : decode cJx4a65c_add_9ea2d 6 = .ok (.iadd, 1) := by decide +kernel
theorem dJx4a65c_add_9ea2d_7 : decode cJx4a65c_add_9ea2d 7 = .ok (.putfield 63, 3) := by decide +kernel
theorem dJx4a65c_add_9ea2d_10 : decode cJx4a65c_add_9ea2d 10 = .ok (.aload_n 0, 1) := by decide +kernel
theorem dJx4a65c_add_9ea2d_11 : decode cJx4a65c_add_9ea2d 11 = .ok (.aload_n 1, 1) := by decide +kernel
theorem dJx4a65c_add_9ea2d_12 : decode cJx4a65c_add_9ea2d 12 = .ok (.aload_n 0, 1) := by decide +kernel
theorem dJx4a65c_add_9ea2d_13 : decode cJx4a65c_add_9ea2d 13 = .ok (.getfield 9, 3) := by decide +kernel
theorem dJx4a65c_add_9ea2d_16 : decode cJx4a65c_add_9ea2d 16 = .ok (.aload_n 0, 1) := by decide +kernel
theorem dJx4a65c_add_9ea2d_17 : decode cJx4a65c_add_9ea2d 17 = .ok (.getfield 48, 3) := by decide +kernel
theorem dJx4a65c_add_9ea2d_20 : decode cJx4a65c_add_9ea2d 20 = .ok (.invokevirtual 131, 3) := by decide +kernel
theorem dJx4a65c_add_9ea2d_23 : decode cJx4a65c_add_9ea2d 23 = .ok (.iconst 1, 1) := by decide +kernel
theorem dJx4a65c_add_9ea2d_24 : decode cJx4a65c_add_9ea2d 24 = .ok (.ireturn, 1) := by decide +kernel
theorem dJx4a65c_clear_da8c8_0 : decode cJx4a65c_clear_da8c8 0 = .ok (.aload_n 0, 1) := by decide +kernel
theorem dJx4a65c_clear_da8c8_1 : decode cJx4a65c_clear_da8c8 1 = .ok (.dup, 1) := by decide +kernel
theorem dJx4a65c_clear_da8c8_2 : decode cJx4a65c_clear_da8c8 2 = .ok (.getfield 63, 3) := by decide +kernel
theorem dJx4a65c_clear_da8c8_5 : decode cJx4a65c_clear_da8c8 5 = .ok (.iconst 1, 1) := by decide +kernel
theorem dJx4a65c_clear_da8c8_6 : decode cJx4a65c_clear_da8c8 6 = .ok (.iadd, 1) := by decide +kernel
theorem dJx4a65c_clear_da8c8_7 : decode cJx4a65c_clear_da8c8 7 = .ok (.putfield 63, 3) := by decide +kernel
theorem dJx4a65c_clear_da8c8_10 : decode cJx4a65c_clear_da8c8 10 = .ok (.aload_n 0, 1) := by decide +kernel
theorem dJx4a65c_clear_da8c8_11 : decode cJx4a65c_clear_da8c8 11 = .ok (.getfield 9, 3) := by decide +kernel
theorem dJx4a65c_clear_da8c8_14 : decode cJx4a65c_clear_da8c8 14 = .ok (.astore_n 1, 1) := by decide +kernel
theorem dJx4a65c_clear_da8c8_15 : decode cJx4a65c_clear_da8c8 15 = .ok (.aload_n 0, 1) := by decide +kernel
theorem dJx4a65c_clear_da8c8_16 : decode cJx4a65c_clear_da8c8 16 = .ok (.getfield 48, 3) := by decide +kernel
theorem dJx4a65c_clear_da8c8_19 : decode cJx4a65c_clear_da8c8 19 = .ok (.istore_n 2, 1) := by decide +kernel
theorem dJx4a65c_clear_da8c8_20 : decode cJx4a65c_clear_da8c8 20 = .ok (.aload_n 0, 1) := by decide +kernel
theorem dJx4a65c_clear_da8c8_21 : decode cJx4a65c_clear_da8c8 21 = .ok (.iconst 0, 1) := by decide +kernel
theorem dJx4a65c_clear_da8c8_22 : decode cJx4a65c_clear_da8c8 22 = .ok (.dup_x1, 1) := by decide +kernel
theorem dJx4a65c_clear_da8c8_23 : decode cJx4a65c_clear_da8c8 23 = .ok (.putfield 48, 3) := by decide +kernel
theorem dJx4a65c_clear_da8c8_26 : decode cJx4a65c_clear_da8c8 26 = .ok (.istore_n 3, 1) := by decide +kernel
theorem dJx4a65c_clear_da8c8_27 : decode cJx4a65c_clear_da8c8 27 = .ok (.iload_n 3, 1) := by decide +kernel
theorem dJx4a65c_clear_da8c8_28 : decode cJx4a65c_clear_da8c8 28 = .ok (.iload_n 2, 1) := by decide +kernel
theorem dJx4a65c_clear_da8c8_29 : decode cJx4a65c_clear_da8c8 29 = .ok (.if_icmp .ge 13, 3) := by decide +kernel
theorem dJx4a65c_clear_da8c8_32 : decode cJx4a65c_clear_da8c8 32 = .ok (.aload_n 1, 1) := by decide +kernel
theorem dJx4a65c_clear_da8c8_33 : decode cJx4a65c_clear_da8c8 33 = .ok (.iload_n 3, 1) := by decide +kernel
theorem dJx4a65c_clear_da8c8_34 : decode cJx4a65c_clear_da8c8 34 = .ok (.aconst_null, 1) := by decide +kernel
theorem dJx4a65c_clear_da8c8_35 : decode cJx4a65c_clear_da8c8 35 = .ok (.aastore, 1) := by decide +kernel
theorem dJx4a65c_clear_da8c8_36 : decode cJx4a65c_clear_da8c8 36 = .ok (.iinc 3 1, 3) := by decide +kernel
theorem dJx4a65c_clear_da8c8_39 : decode cJx4a65c_clear_da8c8 39 = .ok (.goto (-12), 3) := by decide +kernel
theorem dJx4a65c_clear_da8c8_42 : decode cJx4a65c_clear_da8c8 42 = .ok (.return_, 1) := by decide +kernel
theorem dJ7_copyOf_1904c_0 : decode cJ7_copyOf_1904c 0 = .ok (.aload_n 0, 1) := by decide +kernel
theorem dJ7_copyOf_1904c_1 : decode cJ7_copyOf_1904c 1 = .ok (.iload_n 1, 1) := by decide +kernel
theorem dJ7_copyOf_1904c_2 : decode cJ7_copyOf_1904c 2 = .ok (.aload_n 0, 1) := by decide +kernel
theorem dJ7_copyOf_1904c_3 : decode cJ7_copyOf_1904c 3 = .ok (.invokevirtual 86, 3) := by decide +kernel
theorem dJ7_copyOf_1904c_6 : decode cJ7_copyOf_1904c 6 = .ok (.invokestatic 300, 3) := by decide +kernel
theorem dJ7_copyOf_1904c_9 : decode cJ7_copyOf_1904c 9 = .ok (.areturn, 1) := by decide +kernel
theorem dJ7_copyOf_6403c_0 : decode cJ7_copyOf_6403c 0 = .ok (.aload_n 2, 1) := by decide +kernel
theorem dJ7_copyOf_6403c_1 : decode cJ7_copyOf_6403c 1 = .ok (.ldc 110, 2) := by decide +kernel
theorem dJ7_copyOf_6403c_3 : decode cJ7_copyOf_6403c 3 = .ok (.if_acmp .ne 10, 3) := by decide +kernel
theorem dJ7_copyOf_6403c_6 : decode cJ7_copyOf_6403c 6 = .ok (.iload_n 1, 1) := by decide +kernel
theorem dJ7_copyOf_6403c_7 : decode cJ7_copyOf_6403c 7 = .ok (.anewarray 2, 3) := by decide +kernel
theorem dJ7_copyOf_6403c_10 : decode cJ7_copyOf_6403c 10 = .ok (.goto 14, 3) := by decide +kernel
theorem dJ7_copyOf_6403c_13 : decode cJ7_copyOf_6403c 13 = .ok (.aload_n 2, 1) := by decide +kernel
theorem dJ7_copyOf_6403c_14 : decode cJ7_copyOf_6403c 14 = .ok (.invokevirtual 90, 3) := by decide +kernel
theorem dJ7_copyOf_6403c_17 : decode cJ7_copyOf_6403c 17 = .ok (.iload_n 1, 1) := by decide +kernel
theorem dJ7_copyOf_6403c_18 : decode cJ7_copyOf_6403c 18 = .ok (.invokestatic 95, 3) := by decide +kernel
theorem dJ7_copyOf_6403c_21 : decode cJ7_copyOf_6403c 21 = .ok (.checkcast 110, 3) := by decide +kernel
theorem dJ7_copyOf_6403c_24 : decode cJ7_copyOf_6403c 24 = .ok (.astore_n 3, 1) := by decide +kernel
theorem dJ7_copyOf_6403c_25 : decode cJ7_copyOf_6403c 25 = .ok (.aload_n 0, 1) := by decide +kernel
theorem dJ7_copyOf_6403c_26 : decode cJ7_copyOf_6403c 26 = .ok (.iconst 0, 1) := by decide +kernel
theorem dJ7_copyOf_6403c_27 : decode cJ7_copyOf_6403c 27 = .ok (.aload_n 3, 1) := by decide +kernel
theorem dJ7_copyOf_6403c_28 : decode cJ7_copyOf_6403c 28 = .ok (.iconst 0, 1) := by decide +kernel
theorem dJ7_copyOf_6403c_29 : decode cJ7_copyOf_6403c 29 = .ok (.aload_n 0, 1) := by decide +kernel
theorem dJ7_copyOf_6403c_30 : decode cJ7_copyOf_6403c 30 = .ok (.arraylength, 1) := by decide +kernel
theorem dJ7_copyOf_6403c_31 : decode cJ7_copyOf_6403c 31 = .ok (.iload_n 1, 1) := by decide +kernel
theorem dJ7_copyOf_6403c_32 : decode cJ7_copyOf_6403c 32 = .ok (.invokestatic 304, 3) := by decide +kernel
theorem dJ7_copyOf_6403c_35 : decode cJ7_copyOf_6403c 35 = .ok (.invokestatic 150, 3) := by decide +kernel
theorem dJ7_copyOf_6403c_38 : decode cJ7_copyOf_6403c 38 = .ok (.aload_n 3, 1) := by decide +kernel
theorem dJ7_copyOf_6403c_39 : decode cJ7_copyOf_6403c 39 = .ok (.areturn, 1) := by decide +kernel
theorem dJ15_checkIndex_7cf53_0 : decode cJ15_checkIndex_7cf53 0 = .ok (.iload_n 0, 1) := by decide +kernel
theorem dJ15_checkIndex_7cf53_1 : decode cJ15_checkIndex_7cf53 1 = .ok (.iload_n 1, 1) := by decide +kernel
theorem dJ15_checkIndex_7cf53_2 : decode cJ15_checkIndex_7cf53 2 = .ok (.aconst_null, 1) := by decide +kernel
theorem dJ15_checkIndex_7cf53_3 : decode cJ15_checkIndex_7cf53 3 = .ok (.invokestatic 105, 3) := by decide +kernel
theorem dJ15_checkIndex_7cf53_6 : decode cJ15_checkIndex_7cf53 6 = .ok (.ireturn, 1) := by decide +kernel
theorem dJ8_newLength_cabcc_0 : decode cJ8_newLength_cabcc 0 = .ok (.iload_n 0, 1) := by decide +kernel
theorem dJ8_newLength_cabcc_1 : decode cJ8_newLength_cabcc 1 = .ok (.iload_n 1, 1) := by decide +kernel
theorem dJ8_newLength_cabcc_2 : decode cJ8_newLength_cabcc 2 = .ok (.iload_n 2, 1) := by decide +kernel
theorem dJ8_newLength_cabcc_3 : decode cJ8_newLength_cabcc 3 = .ok (.invokestatic 194, 3) := by decide +kernel
theorem dJ8_newLength_cabcc_6 : decode cJ8_newLength_cabcc 6 = .ok (.iadd, 1) := by decide +kernel
theorem dJ8_newLength_cabcc_7 : decode cJ8_newLength_cabcc 7 = .ok (.istore_n 3, 1) := by decide +kernel
theorem dJ8_newLength_cabcc_8 : decode cJ8_newLength_cabcc 8 = .ok (.iconst 0, 1) := by decide +kernel
theorem dJ8_newLength_cabcc_9 : decode cJ8_newLength_cabcc 9 = .ok (.iload_n 3, 1) := by decide +kernel
theorem dJ8_newLength_cabcc_10 : decode cJ8_newLength_cabcc 10 = .ok (.if_icmp .ge 11, 3) := by decide +kernel
theorem dJ8_newLength_cabcc_13 : decode cJ8_newLength_cabcc 13 = .ok (.iload_n 3, 1) := by decide +kernel
theorem dJ8_newLength_cabcc_14 : decode cJ8_newLength_cabcc 14 = .ok (.ldc 200, 2) := by decide +kernel
theorem dJ8_newLength_cabcc_16 : decode cJ8_newLength_cabcc 16 = .ok (.if_icmp .gt 5, 3) := by decide +kernel
theorem dJ8_newLength_cabcc_19 : decode cJ8_newLength_cabcc 19 = .ok (.iload_n 3, 1) := by decide +kernel
theorem dJ8_newLength_cabcc_20 : decode cJ8_newLength_cabcc 20 = .ok (.ireturn, 1) := by decide +kernel
theorem dJ8_newLength_cabcc_21 : decode cJ8_newLength_cabcc 21 = .ok (.iload_n 0, 1) := by decide +kernel
theorem dJ8_newLength_cabcc_22 : decode cJ8_newLength_cabcc 22 = .ok (.iload_n 1, 1) := by decide +kernel
theorem dJ8_newLength_cabcc_23 : decode cJ8_newLength_cabcc 23 = .ok (.invokestatic 201, 3) := by decide +kernel
theorem dJ8_newLength_cabcc_26 : decode cJ8_newLength_cabcc 26 = .ok (.ireturn, 1) := by decide +kernel
theorem dJ8_hugeLength_7cf53_0 : decode cJ8_hugeLength_7cf53 0 = .ok (.iload_n 0, 1) := by decide +kernel
theorem dJ8_hugeLength_7cf53_1 : decode cJ8_hugeLength_7cf53 1 = .ok (.iload_n 1, 1) := by decide +kernel
theorem dJ8_hugeLength_7cf53_2 : decode cJ8_hugeLength_7cf53 2 = .ok (.iadd, 1) := by decide +kernel
theorem dJ8_hugeLength_7cf53_3 : decode cJ8_hugeLength_7cf53 3 = .ok (.istore_n 2, 1) := by decide +kernel
theorem dJ8_hugeLength_7cf53_4 : decode cJ8_hugeLength_7cf53 4 = .ok (.iload_n 2, 1) := by decide +kernel
theorem dJ8_hugeLength_7cf53_5 : decode cJ8_hugeLength_7cf53 5 = .ok (.ifCond .ge 44, 3) := by decide +kernel
theorem dJ8_hugeLength_7cf53_8 : decode cJ8_hugeLength_7cf53 8 = .ok (.new 204, 3) := by decide +kernel
theorem dJ8_hugeLength_7cf53_11 : decode cJ8_hugeLength_7cf53 11 = .ok (.dup, 1) := by decide +kernel
theorem dJ8_hugeLength_7cf53_12 : decode cJ8_hugeLength_7cf53 12 = .ok (.new 89, 3) := by decide +kernel
theorem dJ8_hugeLength_7cf53_15 : decode cJ8_hugeLength_7cf53 15 = .ok (.dup, 1) := by decide +kernel
theorem dJ8_hugeLength_7cf53_16 : decode cJ8_hugeLength_7cf53 16 = .ok (.invokespecial 91, 3) := by decide +kernel
theorem dJ8_hugeLength_7cf53_19 : decode cJ8_hugeLength_7cf53 19 = .ok (.ldc 206, 2) := by decide +kernel
theorem dJ8_hugeLength_7cf53_21 : decode cJ8_hugeLength_7cf53 21 = .ok (.invokevirtual 94, 3) := by decide +kernel
theorem dJ8_hugeLength_7cf53_24 : decode cJ8_hugeLength_7cf53 24 = .ok (.iload_n 0, 1) := by decide +kernel
theorem dJ8_hugeLength_7cf53_25 : decode cJ8_hugeLength_7cf53 25 = .ok (.invokevirtual 98, 3) := by decide +kernel
theorem dJ8_hugeLength_7cf53_28 : decode cJ8_hugeLength_7cf53 28 = .ok (.ldc 208, 2) := by decide +kernel
theorem dJ8_hugeLength_7cf53_30 : decode cJ8_hugeLength_7cf53 30 = .ok (.invokevirtual 94, 3) := by decide +kernel
theorem dJ8_hugeLength_7cf53_33 : decode cJ8_hugeLength_7cf53 33 = .ok (.iload_n 1, 1) := by decide +kernel
theorem dJ8_hugeLength_7cf53_34 : decode cJ8_hugeLength_7cf53 34 = .ok (.invokevirtual 98, 3) := by decide +kernel
theorem dJ8_hugeLength_7cf53_37 : decode cJ8_hugeLength_7cf53 37 = .ok (.ldc 210, 2) := by decide +kernel
theorem dJ8_hugeLength_7cf53_39 : decode cJ8_hugeLength_7cf53 39 = .ok (.invokevirtual 94, 3) := by decide +kernel
theorem dJ8_hugeLength_7cf53_42 : decode cJ8_hugeLength_7cf53 42 = .ok (.invokevirtual 101, 3) := by decide +kernel
theorem dJ8_hugeLength_7cf53_45 : decode cJ8_hugeLength_7cf53 45 = .ok (.invokespecial 212, 3) := by decide +kernel
theorem dJ8_hugeLength_7cf53_48 : decode cJ8_hugeLength_7cf53 48 = .ok (.athrow, 1) := by decide +kernel
theorem dJ8_hugeLength_7cf53_49 : decode cJ8_hugeLength_7cf53 49 = .ok (.iload_n 2, 1) := by decide +kernel
theorem dJ8_hugeLength_7cf53_50 : decode cJ8_hugeLength_7cf53 50 = .ok (.ldc 200, 2) := by decide +kernel
theorem dJ8_hugeLength_7cf53_52 : decode cJ8_hugeLength_7cf53 52 = .ok (.if_icmp .gt 6, 3) := by decide +kernel
theorem dJ8_hugeLength_7cf53_55 : decode cJ8_hugeLength_7cf53 55 = .ok (.ldc 200, 2) := by decide +kernel
theorem dJ8_hugeLength_7cf53_57 : decode cJ8_hugeLength_7cf53 57 = .ok (.ireturn, 1) := by decide +kernel
theorem dJ8_hugeLength_7cf53_58 : decode cJ8_hugeLength_7cf53 58 = .ok (.iload_n 2, 1) := by decide +kernel
theorem dJ8_hugeLength_7cf53_59 : decode cJ8_hugeLength_7cf53 59 = .ok (.ireturn, 1) := by decide +kernel
theorem dJ3_checkIndex_8e157_0 : decode cJ3_checkIndex_8e157 0 = .ok (.iload_n 0, 1) := by decide +kernel
theorem dJ3_checkIndex_8e157_1 : decode cJ3_checkIndex_8e157 1 = .ok (.ifCond .lt 8, 3) := by decide +kernel
theorem dJ3_checkIndex_8e157_4 : decode cJ3_checkIndex_8e157 4 = .ok (.iload_n 0, 1) := by decide +kernel
theorem dJ3_checkIndex_8e157_5 : decode cJ3_checkIndex_8e157 5 = .ok (.iload_n 1, 1) := by decide +kernel
theorem dJ3_checkIndex_8e157_6 : decode cJ3_checkIndex_8e157 6 = .ok (.if_icmp .lt 10, 3) := by decide +kernel
theorem dJ3_checkIndex_8e157_9 : decode cJ3_checkIndex_8e157 9 = .ok (.aload_n 2, 1) := by decide +kernel
theorem dJ3_checkIndex_8e157_10 : decode cJ3_checkIndex_8e157 10 = .ok (.iload_n 0, 1) := by decide +kernel
theorem dJ3_checkIndex_8e157_11 : decode cJ3_checkIndex_8e157 11 = .ok (.iload_n 1, 1) := by decide +kernel
theorem dJ3_checkIndex_8e157_12 : decode cJ3_checkIndex_8e157 12 = .ok (.invokestatic 95, 3) := by decide +kernel
theorem dJ3_checkIndex_8e157_15 : decode cJ3_checkIndex_8e157 15 = .ok (.athrow, 1) := by decide +kernel
theorem dJ3_checkIndex_8e157_16 : decode cJ3_checkIndex_8e157 16 = .ok (.iload_n 0, 1) := by decide +kernel
theorem dJ3_checkIndex_8e157_17 : decode cJ3_checkIndex_8e157 17 = .ok (.ireturn, 1) := by decide +kernel
