theorem dJx4a65c_add_72be8_0 : decode cJx4a65c_add_72be8 0 = .ok (.iload_n 3, 1) := by decide +kernel
theorem dJx4a65c_add_72be8_1 : decode cJx4a65c_add_72be8 1 = .ok (.aload_n 2, 1) := by decide +kernel
theorem dJx4a65c_add_72be8_2 : decode cJx4a65c_add_72be8 2 = .ok (.arraylength, 1) := by decide +kernel
theorem dJx4a65c_add_72be8_3 : decode cJx4a65c_add_72be8 3 = .ok (.if_icmp .ne 8, 3) := by decide +kernel
theorem dJx4a65c_add_72be8_6 : decode cJx4a65c_add_72be8 6 = .ok (.aload_n 0, 1) := by decide +kernel
theorem dJx4a65c_add_72be8_7 : decode cJx4a65c_add_72be8 7 = .ok (.invokevirtual 129, 3) := by decide +kernel
theorem dJx4a65c_add_72be8_10 : decode cJx4a65c_add_72be8 10 = .ok (.astore_n 2, 1) := by decide +kernel
theorem dJx4a65c_add_72be8_11 : decode cJx4a65c_add_72be8 11 = .ok (.aload_n 2, 1) := by decide +kernel
theorem dJx4a65c_add_72be8_12 : decode cJx4a65c_add_72be8 12 = .ok (.iload_n 3, 1) := by decide +kernel
theorem dJx4a65c_add_72be8_13 : decode cJx4a65c_add_72be8 13 = .ok (.aload_n 1, 1) := by decide +kernel
theorem dJx4a65c_add_72be8_14 : decode cJx4a65c_add_72be8 14 = .ok (.aastore, 1) := by decide +kernel
theorem dJx4a65c_add_72be8_15 : decode cJx4a65c_add_72be8 15 = .ok (.aload_n 0, 1) := by decide +kernel
theorem dJx4a65c_add_72be8_16 : decode cJx4a65c_add_72be8 16 = .ok (.iload_n 3, 1) := by decide +kernel
theorem dJx4a65c_add_72be8_17 : decode cJx4a65c_add_72be8 17 = .ok (.iconst 1, 1) := by decide +kernel
theorem dJx4a65c_add_72be8_18 : decode cJx4a65c_add_72be8 18 = .ok (.iadd, 1) := by decide +kernel
theorem dJx4a65c_add_72be8_19 : decode cJx4a65c_add_72be8 19 = .ok (.putfield 48, 3) := by decide +kernel
theorem dJx4a65c_add_72be8_22 : decode cJx4a65c_add_72be8 22 = .ok (.return_, 1) := by decide +kernel
theorem dJx4a65c_add_9ea2d_0 : decode cJx4a65c_add_9ea2d 0 = .ok (.aload_n 0, 1) := by decide +kernel
theorem dJx4a65c_add_9ea2d_1 : decode cJx4a65c_add_9ea2d 1 = .ok (.dup, 1) := by decide +kernel
theorem dJx4a65c_add_9ea2d_2 : decode cJx4a65c_add_9ea2d 2 = .ok (.getfield 63, 3) := by decide +kernel
theorem dJx4a65c_add_9ea2d_5 : decode cJx4a65c_add_9ea2d 5 = .ok (.iconst 1, 1) := by decide +kernel
theorem dJx4a65c_add_9ea2d_6 : decode cJx4a65c_add_9ea2d 6 = .ok (.iadd, 1) := by decide +kernel
theorem dJx4a65c_add_9ea2d_7 : decode cJx4a65c_add_9ea2d 7 = .ok (.putfield 63, 3) := by decide +kernel
theorem dJx4a65c_add_9ea2d_10 : decode cJx4a65c_add_9ea2d 10 = .ok (.aload_n 0, 1) := by decide +kernel
theorem dJx4a65c_add_9ea2d_11 : decode cJx4a65c_add_9ea2d 11 = .ok (.aload_n 1, 1) := by decide +kernel
theorem dJx4a65c_add_9ea2d_12 : decode cJx4a65c_add_9ea2d 12 = .ok (.aload_n 0, 1) := by decide +kernel
theorem dJx4a65c_add_9ea2d_13 : decode cJx4a65c_add_9ea2d 13 = .ok (.getfield 9, 3) := by decide +kernel
theorem dJx4a65c_add_9ea2d_16 : decode cJx4a65c_add_9ea2d 16 = .ok (.aload_n 0, 1) := by decide +kernel
theorem dJx4a65c_add_9ea2d_17 : decode cJx4a65c_add_9ea2d 17 = .ok (.getfield 48, 3) := by decide +kernel
theorem dJx4a65c_add_9ea2d_20 : decode cJx4a65c_add_9ea2d 20 = .ok (.invokevirtual 131, 3) := by decide +kernel
theorem dJx4a65c_add_9ea2d_23 : decode cJx4a65c_add_9ea2d 23 = .ok (.iconst 1, 1) := by decide +kernel
theorem dJx4a65c_add_9ea2d_24 : decode cJx4a65c_add_9ea2d 24 = .ok (.ireturn, 1) := by decide +kernel
theorem dJx4a65c_grow_92f84_0 : decode cJx4a65c_grow_92f84 0 = .ok (.aload_n 0, 1) := by decide +kernel
theorem dJx4a65c_grow_92f84_1 : decode cJx4a65c_grow_92f84 1 = .ok (.getfield 9, 3) := by decide +kernel
theorem dJx4a65c_grow_92f84_4 : decode cJx4a65c_grow_92f84 4 = .ok (.arraylength, 1) := by decide +kernel
theorem dJx4a65c_grow_92f84_5 : decode cJx4a65c_grow_92f84 5 = .ok (.istore_n 2, 1) := by decide +kernel
theorem dJx4a65c_grow_92f84_6 : decode cJx4a65c_grow_92f84 6 = .ok (.iload_n 2, 1) := by decide +kernel
theorem dJx4a65c_grow_92f84_7 : decode cJx4a65c_grow_92f84 7 = .ok (.ifCond .gt 13, 3) := by decide +kernel
theorem dJx4a65c_grow_92f84_10 : decode cJx4a65c_grow_92f84 10 = .ok (.aload_n 0, 1) := by decide +kernel
theorem dJx4a65c_grow_92f84_11 : decode cJx4a65c_grow_92f84 11 = .ok (.getfield 9, 3) := by decide +kernel
theorem dJx4a65c_grow_92f84_14 : decode cJx4a65c_grow_92f84 14 = .ok (.getstatic 39, 3) := by decide +kernel
theorem dJx4a65c_grow_92f84_17 : decode cJx4a65c_grow_92f84 17 = .ok (.if_acmp .eq 28, 3) := by decide +kernel
theorem dJx4a65c_grow_92f84_45 : decode cJx4a65c_grow_92f84 45 = .ok (.aload_n 0, 1) := by decide +kernel
theorem dJx4a65c_grow_92f84_46 : decode cJx4a65c_grow_92f84 46 = .ok (.bipush 10, 2) := by decide +kernel
theorem dJx4a65c_grow_92f84_48 : decode cJx4a65c_grow_92f84 48 = .ok (.iload_n 1, 1) := by decide +kernel
theorem dJx4a65c_grow_92f84_49 : decode cJx4a65c_grow_92f84 49 = .ok (.invokestatic 79, 3) := by decide +kernel
theorem dJx4a65c_grow_92f84_52 : decode cJx4a65c_grow_92f84 52 = .ok (.anewarray 7, 3) := by decide +kernel
theorem dJx4a65c_grow_92f84_55 : decode cJx4a65c_grow_92f84 55 = .ok (.dup_x1, 1) := by decide +kernel
theorem dJx4a65c_grow_92f84_56 : decode cJx4a65c_grow_92f84 56 = .ok (.putfield 9, 3) := by decide +kernel
theorem dJx4a65c_grow_92f84_59 : decode cJx4a65c_grow_92f84 59 = .ok (.areturn, 1) := by decide +kernel
theorem dJx4a65c_grow_d5877_0 : decode cJx4a65c_grow_d5877 0 = .ok (.aload_n 0, 1) := by decide +kernel
theorem dJx4a65c_grow_d5877_1 : decode cJx4a65c_grow_d5877 1 = .ok (.aload_n 0, 1) := by decide +kernel
theorem dJx4a65c_grow_d5877_2 : decode cJx4a65c_grow_d5877 2 = .ok (.getfield 48, 3) := by decide +kernel
theorem dJx4a65c_grow_d5877_5 : decode cJx4a65c_grow_d5877 5 = .ok (.iconst 1, 1) := by decide +kernel
theorem dJx4a65c_grow_d5877_6 : decode cJx4a65c_grow_d5877 6 = .ok (.iadd, 1) := by decide +kernel
theorem dJx4a65c_grow_d5877_7 : decode cJx4a65c_grow_d5877 7 = .ok (.invokevirtual 69, 3) := by decide +kernel
theorem dJx4a65c_grow_d5877_10 : decode cJx4a65c_grow_d5877 10 = .ok (.areturn, 1) := by decide +kernel
theorem dX0_init_0 : decode cX0_init 0 = .ok (.aload_n 0, 1) := by decide +kernel
theorem dX0_init_1 : decode cX0_init 1 = .ok (.invokespecial 1, 3) := by decide +kernel
theorem dX0_init_4 : decode cX0_init 4 = .ok (.aload_n 0, 1) := by decide +kernel
theorem dX0_init_5 : decode cX0_init 5 = .ok (.new 7, 3) := by decide +kernel
theorem dX0_init_8 : decode cX0_init 8 = .ok (.dup, 1) := by decide +kernel
theorem dX0_init_9 : decode cX0_init 9 = .ok (.invokespecial 9, 3) := by decide +kernel
theorem dX0_init_12 : decode cX0_init 12 = .ok (.putfield 10, 3) := by decide +kernel
theorem dX0_init_15 : decode cX0_init 15 = .ok (.aload_n 0, 1) := by decide +kernel
theorem dX0_init_16 : decode cX0_init 16 = .ok (.new 7, 3) := by decide +kernel
theorem dX0_init_19 : decode cX0_init 19 = .ok (.dup, 1) := by decide +kernel
theorem dX0_init_20 : decode cX0_init 20 = .ok (.invokespecial 9, 3) := by decide +kernel
theorem dX0_init_23 : decode cX0_init 23 = .ok (.putfield 16, 3) := by decide +kernel
theorem dX0_init_26 : decode cX0_init 26 = .ok (.aload_n 0, 1) := by decide +kernel
theorem dX0_init_27 : decode cX0_init 27 = .ok (.lconst 0, 1) := by decide +kernel
theorem dX0_init_28 : decode cX0_init 28 = .ok (.putfield 19, 3) := by decide +kernel
theorem dX0_init_31 : decode cX0_init 31 = .ok (.aload_n 0, 1) := by decide +kernel
theorem dX0_init_32 : decode cX0_init 32 = .ok (.lconst 0, 1) := by decide +kernel
theorem dX0_init_33 : decode cX0_init 33 = .ok (.putfield 23, 3) := by decide +kernel
theorem dX0_init_36 : decode cX0_init 36 = .ok (.aload_n 0, 1) := by decide +kernel
theorem dX0_init_37 : decode cX0_init 37 = .ok (.lconst 0, 1) := by decide +kernel
theorem dX0_init_38 : decode cX0_init 38 = .ok (.putfield 26, 3) := by decide +kernel
theorem dX0_init_41 : decode cX0_init 41 = .ok (.aload_n 0, 1) := by decide +kernel
theorem dX0_init_42 : decode cX0_init 42 = .ok (.lconst 0, 1) := by decide +kernel
theorem dX0_init_43 : decode cX0_init 43 = .ok (.putfield 29, 3) := by decide +kernel
theorem dX0_init_46 : decode cX0_init 46 = .ok (.aload_n 0, 1) := by decide +kernel
theorem dX0_init_47 : decode cX0_init 47 = .ok (.lconst 0, 1) := by decide +kernel
theorem dX0_init_48 : decode cX0_init 48 = .ok (.putfield 32, 3) := by decide +kernel
theorem dX0_init_51 : decode cX0_init 51 = .ok (.aload_n 0, 1) := by decide +kernel
theorem dX0_init_52 : decode cX0_init 52 = .ok (.lconst 0, 1) := by decide +kernel
theorem dX0_init_53 : decode cX0_init 53 = .ok (.putfield 35, 3) := by decide +kernel
theorem dX0_init_56 : decode cX0_init 56 = .ok (.aload_n 0, 1) := by decide +kernel
theorem dX0_init_57 : decode cX0_init 57 = .ok (.lconst 0, 1) := by decide +kernel
theorem dX0_init_58 : decode cX0_init 58 = .ok (.putfield 38, 3) := by decide +kernel
theorem dX0_init_61 : decode cX0_init 61 = .ok (.aload_n 0, 1) := by decide +kernel
theorem dX0_init_62 : decode cX0_init 62 = .ok (.lconst 0, 1) := by decide +kernel
theorem dX0_init_63 : decode cX0_init 63 = .ok (.putfield 41, 3) := by decide +kernel
theorem dX0_init_66 : decode cX0_init 66 = .ok (.aload_n 0, 1) := by decide +kernel
theorem dX0_init_67 : decode cX0_init 67 = .ok (.lconst 0, 1) := by decide +kernel
theorem dX0_init_68 : decode cX0_init 68 = .ok (.putfield 44, 3) := by decide +kernel
theorem dX0_init_71 : decode cX0_init 71 = .ok (.return_, 1) := by decide +kernel
theorem dX1_init_0 : decode cX1_init 0 = .ok (.aload_n 0, 1) := by decide +kernel
theorem dX1_init_1 : decode cX1_init 1 = .ok (.invokespecial 3, 3) := by decide +kernel
theorem dX1_init_4 : decode cX1_init 4 = .ok (.aload_n 0, 1) := by decide +kernel
theorem dX1_init_5 : decode cX1_init 5 = .ok (.new 9, 3) := by decide +kernel
theorem dX1_init_8 : decode cX1_init 8 = .ok (.dup, 1) := by decide +kernel
theorem dX1_init_9 : decode cX1_init 9 = .ok (.invokespecial 11, 3) := by decide +kernel
theorem dX1_init_12 : decode cX1_init 12 = .ok (.putfield 12, 3) := by decide +kernel
theorem dX1_init_15 : decode cX1_init 15 = .ok (.aload_n 0, 1) := by decide +kernel
theorem dX1_init_16 : decode cX1_init 16 = .ok (.new 9, 3) := by decide +kernel
theorem dX1_init_19 : decode cX1_init 19 = .ok (.dup, 1) := by decide +kernel
theorem dX1_init_20 : decode cX1_init 20 = .ok (.invokespecial 11, 3) := by decide +kernel
theorem dX1_init_23 : decode cX1_init 23 = .ok (.putfield 18, 3) := by decide +kernel
theorem dX1_init_26 : decode cX1_init 26 = .ok (.aload_n 0, 1) := by decide +kernel
theorem dX1_init_27 : decode cX1_init 27 = .ok (.new 21, 3) := by decide +kernel
theorem dX1_init_30 : decode cX1_init 30 = .ok (.dup, 1) := by decide +kernel
theorem dX1_init_31 : decode cX1_init 31 = .ok (.invokespecial 23, 3) := by decide +kernel
theorem dX1_init_34 : decode cX1_init 34 = .ok (.putfield 24, 3) := by decide +kernel
theorem dX1_init_37 : decode cX1_init 37 = .ok (.aload_n 0, 1) := by decide +kernel
theorem dX1_init_38 : decode cX1_init 38 = .ok (.iconst (-1), 1) := by decide +kernel
theorem dX1_init_39 : decode cX1_init 39 = .ok (.putfield 28, 3) := by decide +kernel
theorem dX1_init_42 : decode cX1_init 42 = .ok (.aload_n 0, 1) := by decide +kernel
theorem dX1_init_43 : decode cX1_init 43 = .ok (.bipush 100, 2) := by decide +kernel
theorem dX1_init_45 : decode cX1_init 45 = .ok (.putfield 32, 3) := by decide +kernel
theorem dX1_init_48 : decode cX1_init 48 = .ok (.aload_n 0, 1) := by decide +kernel
theorem dX1_init_49 : decode cX1_init 49 = .ok (.iconst 0, 1) := by decide +kernel
theorem dX1_init_50 : decode cX1_init 50 = .ok (.putfield 35, 3) := by decide +kernel
theorem dX1_init_53 : decode cX1_init 53 = .ok (.aload_n 0, 1) := by decide +kernel
theorem dX1_init_54 : decode cX1_init 54 = .ok (.iconst 0, 1) := by decide +kernel
theorem dX1_init_55 : decode cX1_init 55 = .ok (.putfield 39, 3) := by decide +kernel
theorem dX1_init_58 : decode cX1_init 58 = .ok (.aload_n 0, 1) := by decide +kernel
theorem dX1_init_59 : decode cX1_init 59 = .ok (.iconst 0, 1) := by decide +kernel
theorem dX1_init_60 : decode cX1_init 60 = .ok (.putfield 42, 3) := by decide +kernel
theorem dX1_init_63 : decode cX1_init 63 = .ok (.aload_n 0, 1) := by decide +kernel
theorem dX1_init_64 : decode cX1_init 64 = .ok (.iconst 0, 1) := by decide +kernel
theorem dX1_init_65 : decode cX1_init 65 = .ok (.putfield 45, 3) := by decide +kernel
theorem dX1_init_68 : decode cX1_init 68 = .ok (.aload_n 0, 1) := by decide +kernel
theorem dX1_init_69 : decode cX1_init 69 = .ok (.lconst 0, 1) := by decide +kernel
theorem dX1_init_70 : decode cX1_init 70 = .ok (.putfield 48, 3) := by decide +kernel
theorem dX1_init_73 : decode cX1_init 73 = .ok (.aload_n 0, 1) := by decide +kernel
theorem dX1_init_74 : decode cX1_init 74 = .ok (.lconst 0, 1) := by decide +kernel
theorem dX1_init_75 : decode cX1_init 75 = .ok (.putfield 52, 3) := by decide +kernel
theorem dX1_init_78 : decode cX1_init 78 = .ok (.aload_n 0, 1) := by decide +kernel
theorem dX1_init_79 : decode cX1_init 79 = .ok (.iload_n 1, 1) := by decide +kernel
theorem dX1_init_80 : decode cX1_init 80 = .ok (.putfield 55, 3) := by decide +kernel
theorem dX1_init_83 : decode cX1_init 83 = .ok (.aload_n 0, 1) := by decide +kernel
theorem dX1_init_84 : decode cX1_init 84 = .ok (.iload_n 2, 1) := by decide +kernel
theorem dX1_init_85 : decode cX1_init 85 = .ok (.putfield 59, 3) := by decide +kernel
theorem dX1_init_88 : decode cX1_init 88 = .ok (.return_, 1) := by decide +kernel
theorem dX5_init_0 : decode cX5_init 0 = .ok (.aload_n 0, 1) := by decide +kernel
theorem dX5_init_1 : decode cX5_init 1 = .ok (.invokespecial 3, 3) := by decide +kernel
theorem dX5_init_4 : decode cX5_init 4 = .ok (.aload_n 0, 1) := by decide +kernel
theorem dX5_init_5 : decode cX5_init 5 = .ok (.iconst 3, 1) := by decide +kernel
theorem dX5_init_6 : decode cX5_init 6 = .ok (.newarray .long, 2) := by decide +kernel
theorem dX5_init_8 : decode cX5_init 8 = .ok (.putfield 9, 3) := by decide +kernel
theorem dX5_init_11 : decode cX5_init 11 = .ok (.return_, 1) := by decide +kernel
theorem dX8_init_0 : decode cX8_init 0 = .ok (.aload_n 0, 1) := by decide +kernel
theorem dX8_init_1 : decode cX8_init 1 = .ok (.invokespecial 3, 3) := by decide +kernel
theorem dX8_init_4 : decode cX8_init 4 = .ok (.aload_n 0, 1) := by decide +kernel
theorem dX8_init_5 : decode cX8_init 5 = .ok (.new 9, 3) := by decide +kernel
theorem dX8_init_8 : decode cX8_init 8 = .ok (.dup, 1) := by decide +kernel
theorem dX8_init_9 : decode cX8_init 9 = .ok (.invokespecial 11, 3) := by decide +kernel
theorem dX8_init_12 : decode cX8_init 12 = .ok (.putfield 12, 3) := by decide +kernel
theorem dX8_init_15 : decode cX8_init 15 = .ok (.aload_n 0, 1) := by decide +kernel
theorem dX8_init_16 : decode cX8_init 16 = .ok (.new 9, 3) := by decide +kernel
theorem dX8_init_19 : decode cX8_init 19 = .ok (.dup, 1) := by decide +kernel
theorem dX8_init_20 : decode cX8_init 20 = .ok (.invokespecial 11, 3) := by decide +kernel
theorem dX8_init_23 : decode cX8_init 23 = .ok (.putfield 18, 3) := by decide +kernel
theorem dX8_init_26 : decode cX8_init 26 = .ok (.aload_n 0, 1) := by decide +kernel
theorem dX8_init_27 : decode cX8_init 27 = .ok (.iconst (-1), 1) := by decide +kernel
theorem dX8_init_28 : decode cX8_init 28 = .ok (.putfield 21, 3) := by decide +kernel
theorem dX8_init_31 : decode cX8_init 31 = .ok (.aload_n 0, 1) := by decide +kernel
theorem dX8_init_32 : decode cX8_init 32 = .ok (.bipush 100, 2) := by decide +kernel
theorem dX8_init_34 : decode cX8_init 34 = .ok (.putfield 25, 3) := by decide +kernel
theorem dX8_init_37 : decode cX8_init 37 = .ok (.aload_n 0, 1) := by decide +kernel
theorem dX8_init_38 : decode cX8_init 38 = .ok (.iconst 3, 1) := by decide +kernel
theorem dX8_init_39 : decode cX8_init 39 = .ok (.newarray .long, 2) := by decide +kernel
theorem dX8_init_41 : decode cX8_init 41 = .ok (.putfield 28, 3) := by decide +kernel
theorem dX8_init_44 : decode cX8_init 44 = .ok (.aload_n 0, 1) := by decide +kernel
theorem dX8_init_45 : decode cX8_init 45 = .ok (.iload_n 1, 1) := by decide +kernel
theorem dX8_init_46 : decode cX8_init 46 = .ok (.putfield 32, 3) := by decide +kernel
theorem dX8_init_49 : decode cX8_init 49 = .ok (.return_, 1) := by decide +kernel
theorem iwX5 : ∀ w ∈ wsX50, w ∈ lw_all := al_all (by decide +kernel)
theorem iwX0 : ∀ w ∈ wsX00, w ∈ lw_all := al_all (by decide +kernel)
theorem iwX1 : ∀ w ∈ wsX10, w ∈ lw_all := al_all (by decide +kernel)
theorem iwX8 : ∀ w ∈ wsX80, w ∈ lw_all := al_all (by decide +kernel)
theorem q14 : Cond.initialized RX0 ∈ lw_all := al_in (i := 14) (by decide +kernel) (by decide +kernel)
theorem q15 : Cond.initialized RX5 ∈ lw_all := al_in (i := 15) (by decide +kernel) (by decide +kernel)
theorem q71 : Cond.fieldLink RJx4a65c 63 "java/util/ArrayList" "modCount" "I" ∈ lw_all := al_in (i := 71) (by decide +kernel) (by decide +kernel)
theorem q451 : Cond.methodLink RX1 3 ⟨"java/lang/Object", "<init>", "()V"⟩ ∈ lw_all := al_in (i := 451) (by decide +kernel) (by decide +kernel)
theorem q452 : Cond.classLink RX1 9 RJx4a65c ∈ lw_all := al_in (i := 452) (by decide +kernel) (by decide +kernel)
theorem q453 : Cond.methodLink RX1 11 yJx4a65c_init_da8c8 ∈ lw_all := al_in (i := 453) (by decide +kernel) (by decide +kernel)
theorem q454 : Cond.classLink RX1 21 RX0 ∈ lw_all := al_in (i := 454) (by decide +kernel) (by decide +kernel)
theorem q455 : Cond.instantiable RX0 11 ∈ lw_all := al_in (i := 455) (by decide +kernel) (by decide +kernel)
theorem q457 : Cond.instanceMethod yX0_init ∈ lw_all := al_in (i := 457) (by decide +kernel) (by decide +kernel)
theorem q458 : Cond.code yX0_init cX0_init 1 none ∈ lw_all := al_in (i := 458) (by decide +kernel) (by decide +kernel)
theorem q459 : Cond.methodLink RX0 1 ⟨"java/lang/Object", "<init>", "()V"⟩ ∈ lw_all := al_in (i := 459) (by decide +kernel) (by decide +kernel)
theorem q460 : Cond.classLink RX0 7 RX5 ∈ lw_all := al_in (i := 460) (by decide +kernel) (by decide +kernel)
theorem q461 : Cond.instantiable RX5 1 ∈ lw_all := al_in (i := 461) (by decide +kernel) (by decide +kernel)
theorem q463 : Cond.instanceMethod yX5_init ∈ lw_all := al_in (i := 463) (by decide +kernel) (by decide +kernel)
theorem q464 : Cond.code yX5_init cX5_init 1 none ∈ lw_all := al_in (i := 464) (by decide +kernel) (by decide +kernel)
theorem q465 : Cond.methodLink RX5 3 ⟨"java/lang/Object", "<init>", "()V"⟩ ∈ lw_all := al_in (i := 465) (by decide +kernel) (by decide +kernel)
theorem q466 : Cond.fieldLink RX5 9 "LysimeterField$Solutes" "amounts" "[J" ∈ lw_all := al_in (i := 466) (by decide +kernel) (by decide +kernel)
theorem q470 : Cond.fieldLink RX0 10 "LysimeterField$Account" "given" "LLysimeterField$Solutes;" ∈ lw_all := al_in (i := 470) (by decide +kernel) (by decide +kernel)
theorem q473 : Cond.fieldLink RX0 16 "LysimeterField$Account" "out" "LLysimeterField$Solutes;" ∈ lw_all := al_in (i := 473) (by decide +kernel) (by decide +kernel)
theorem q476 : Cond.fieldLink RX0 19 "LysimeterField$Account" "told" "J" ∈ lw_all := al_in (i := 476) (by decide +kernel) (by decide +kernel)
theorem q479 : Cond.fieldLink RX0 23 "LysimeterField$Account" "rained" "J" ∈ lw_all := al_in (i := 479) (by decide +kernel) (by decide +kernel)
theorem q481 : Cond.fieldLink RX0 26 "LysimeterField$Account" "watered" "J" ∈ lw_all := al_in (i := 481) (by decide +kernel) (by decide +kernel)
theorem q483 : Cond.fieldLink RX0 29 "LysimeterField$Account" "recharge" "J" ∈ lw_all := al_in (i := 483) (by decide +kernel) (by decide +kernel)
theorem q486 : Cond.fieldLink RX0 32 "LysimeterField$Account" "runoff" "J" ∈ lw_all := al_in (i := 486) (by decide +kernel) (by decide +kernel)
theorem q488 : Cond.fieldLink RX0 35 "LysimeterField$Account" "lost" "J" ∈ lw_all := al_in (i := 488) (by decide +kernel) (by decide +kernel)
theorem q491 : Cond.fieldLink RX0 38 "LysimeterField$Account" "vapour" "J" ∈ lw_all := al_in (i := 491) (by decide +kernel) (by decide +kernel)
theorem q494 : Cond.fieldLink RX0 41 "LysimeterField$Account" "eaten" "J" ∈ lw_all := al_in (i := 494) (by decide +kernel) (by decide +kernel)
theorem q497 : Cond.fieldLink RX0 44 "LysimeterField$Account" "fines" "J" ∈ lw_all := al_in (i := 497) (by decide +kernel) (by decide +kernel)
theorem q522 : Cond.fieldLink RX1 55 "LysimeterField$Column" "bottom" "C" ∈ lw_all := al_in (i := 522) (by decide +kernel) (by decide +kernel)
theorem q523 : Cond.fieldLink RX1 12 "LysimeterField$Column" "layers" "Ljava/util/ArrayList;" ∈ lw_all := al_in (i := 523) (by decide +kernel) (by decide +kernel)
theorem q525 : Cond.fieldLink RX1 18 "LysimeterField$Column" "plants" "Ljava/util/ArrayList;" ∈ lw_all := al_in (i := 525) (by decide +kernel) (by decide +kernel)
theorem q527 : Cond.fieldLink RX1 24 "LysimeterField$Column" "account" "LLysimeterField$Account;" ∈ lw_all := al_in (i := 527) (by decide +kernel) (by decide +kernel)
theorem q529 : Cond.fieldLink RX1 28 "LysimeterField$Column" "link" "I" ∈ lw_all := al_in (i := 529) (by decide +kernel) (by decide +kernel)
theorem q531 : Cond.fieldLink RX1 32 "LysimeterField$Column" "scale" "I" ∈ lw_all := al_in (i := 531) (by decide +kernel) (by decide +kernel)
theorem q533 : Cond.fieldLink RX1 35 "LysimeterField$Column" "mulched" "Z" ∈ lw_all := al_in (i := 533) (by decide +kernel) (by decide +kernel)
theorem q535 : Cond.fieldLink RX1 39 "LysimeterField$Column" "threshold" "I" ∈ lw_all := al_in (i := 535) (by decide +kernel) (by decide +kernel)
theorem q537 : Cond.fieldLink RX1 42 "LysimeterField$Column" "watering" "I" ∈ lw_all := al_in (i := 537) (by decide +kernel) (by decide +kernel)
theorem q539 : Cond.fieldLink RX1 45 "LysimeterField$Column" "standing" "I" ∈ lw_all := al_in (i := 539) (by decide +kernel) (by decide +kernel)
theorem q541 : Cond.fieldLink RX1 59 "LysimeterField$Column" "rightSince" "I" ∈ lw_all := al_in (i := 541) (by decide +kernel) (by decide +kernel)
theorem q543 : Cond.fieldLink RX1 48 "LysimeterField$Column" "running" "J" ∈ lw_all := al_in (i := 543) (by decide +kernel) (by decide +kernel)
theorem q545 : Cond.fieldLink RX1 52 "LysimeterField$Column" "manure" "J" ∈ lw_all := al_in (i := 545) (by decide +kernel) (by decide +kernel)
theorem q578 : Cond.methodLink RJx4a65c 131 yJx4a65c_add_72be8 ∈ lw_all := al_in (i := 578) (by decide +kernel) (by decide +kernel)
theorem q580 : Cond.instanceMethod yJx4a65c_add_72be8 ∈ lw_all := al_in (i := 580) (by decide +kernel) (by decide +kernel)
theorem q581 : Cond.code yJx4a65c_add_72be8 cJx4a65c_add_72be8 4 none ∈ lw_all := al_in (i := 581) (by decide +kernel) (by decide +kernel)
theorem q582 : Cond.methodLink RJx4a65c 129 yJx4a65c_grow_d5877 ∈ lw_all := al_in (i := 582) (by decide +kernel) (by decide +kernel)
theorem q584 : Cond.instanceMethod yJx4a65c_grow_d5877 ∈ lw_all := al_in (i := 584) (by decide +kernel) (by decide +kernel)
theorem q585 : Cond.code yJx4a65c_grow_d5877 cJx4a65c_grow_d5877 1 (some (.array (.object "java/lang/Object"))) ∈ lw_all := al_in (i := 585) (by decide +kernel) (by decide +kernel)
theorem q586 : Cond.methodLink RJx4a65c 69 yJx4a65c_grow_92f84 ∈ lw_all := al_in (i := 586) (by decide +kernel) (by decide +kernel)
theorem q588 : Cond.instanceMethod yJx4a65c_grow_92f84 ∈ lw_all := al_in (i := 588) (by decide +kernel) (by decide +kernel)
theorem q589 : Cond.code yJx4a65c_grow_92f84 cJx4a65c_grow_92f84 4 (some (.array (.object "java/lang/Object"))) ∈ lw_all := al_in (i := 589) (by decide +kernel) (by decide +kernel)
theorem q638 : Cond.methodLink RJx4a65c 79 yJ9_max_7cf53 ∈ lw_all := al_in (i := 638) (by decide +kernel) (by decide +kernel)
theorem q639 : Cond.classLink RJx4a65c 7 "java/lang/Object" ∈ lw_all := al_in (i := 639) (by decide +kernel) (by decide +kernel)
theorem q1271 : Cond.methodLink RX8 3 ⟨"java/lang/Object", "<init>", "()V"⟩ ∈ lw_all := al_in (i := 1271) (by decide +kernel) (by decide +kernel)
theorem q1272 : Cond.classLink RX8 9 RJx4a65c ∈ lw_all := al_in (i := 1272) (by decide +kernel) (by decide +kernel)
theorem q1273 : Cond.methodLink RX8 11 yJx4a65c_init_da8c8 ∈ lw_all := al_in (i := 1273) (by decide +kernel) (by decide +kernel)
theorem q1274 : Cond.fieldLink RX8 32 "LysimeterFieldModel$Column" "bottom" "C" ∈ lw_all := al_in (i := 1274) (by decide +kernel) (by decide +kernel)
theorem q1275 : Cond.fieldLink RX8 12 "LysimeterFieldModel$Column" "layers" "Ljava/util/ArrayList;" ∈ lw_all := al_in (i := 1275) (by decide +kernel) (by decide +kernel)
theorem q1277 : Cond.fieldLink RX8 18 "LysimeterFieldModel$Column" "plants" "Ljava/util/ArrayList;" ∈ lw_all := al_in (i := 1277) (by decide +kernel) (by decide +kernel)
theorem q1279 : Cond.fieldLink RX8 21 "LysimeterFieldModel$Column" "link" "I" ∈ lw_all := al_in (i := 1279) (by decide +kernel) (by decide +kernel)
theorem q1281 : Cond.fieldLink RX8 25 "LysimeterFieldModel$Column" "scale" "I" ∈ lw_all := al_in (i := 1281) (by decide +kernel) (by decide +kernel)
theorem q1306 : Cond.fieldLink RX8 28 "LysimeterFieldModel$Column" "outs" "[J" ∈ lw_all := al_in (i := 1306) (by decide +kernel) (by decide +kernel)
theorem qs19 : Cond.selects RJx4a65c yJx4a65c_add_72be8 yJx4a65c_add_72be8 ∈ lw_all := al_sel (i := 19) (by decide +kernel) (by decide +kernel)
theorem qs20 : Cond.selects RJx4a65c yJx4a65c_grow_d5877 yJx4a65c_grow_d5877 ∈ lw_all := al_sel (i := 20) (by decide +kernel) (by decide +kernel)
theorem qs21 : Cond.selects RJx4a65c yJx4a65c_grow_92f84 yJx4a65c_grow_92f84 ∈ lw_all := al_sel (i := 21) (by decide +kernel) (by decide +kernel)
theorem t456 : Cond.methodLinkNest RX1 23 yX0_init RX7 ∈ lw_st := al_stin (i := 456) (by decide +kernel) (by decide +kernel)
theorem t462 : Cond.methodLinkNest RX0 9 yX5_init RX7 ∈ lw_st := al_stin (i := 462) (by decide +kernel) (by decide +kernel)
theorem t1810 : Cond.castable "LysimeterField$Column" "java/lang/Object" ∈ lw_st := al_stin (i := 1810) (by decide +kernel) (by decide +kernel)
theorem t1813 : Cond.castable "LysimeterFieldModel$Column" "java/lang/Object" ∈ lw_st := al_stin (i := 1813) (by decide +kernel) (by decide +kernel)
set_option maxHeartbeats 4000000 in
set_option maxRecDepth 100000 in
/-- Solutes() -/
theorem k_LS_init (l : Launch) (D : va_G) (h : Nat) (sz : Nat) : Met l yX5_init (wsA yX5_init cX5_init 1 none) ({ frames := 1, cells := 1, slots := 3, locals := 12 }) (va_Pc [.ref h] (EV D [] [(h, .inr (9, [.null]))] sz)) (va_Qv (fun (_ : List Value) => True) (fun u t => va_P D vwCl [(h, .inr (9, u))] t.heap ∧ va_D (va_A [(h, .inr (9, [.null]))] sz) [(h, .inr (9, u))]) (va_A [(h, .inr (9, [.null]))] sz)) 1 3 (va_A [(h, .inr (9, [.null]))] sz) := by
  refine Met.ofW (cc := cX5_init) (maxL := 1) (ret := none) (by decide) rfl ?_
  intro p e s m args below meth c s₁ B hml hv
  obtain ⟨rfl, hsz, hP, hK, hD0, hG, hZ0⟩ := hv
  have hx := B.exec
  have hb := B.bytes
  have hr := B.returns
  have hts0 := atoms_spec (ws := wsA yX5_init cX5_init 1 none) B.pre
  have hts : ∀ w ∈ lw_all, w.before _ s = true := fun w h => hts0 w (List.mem_cons_of_mem _ h)
  have hown : s.vm.findClass RX5 = some m.cls := findClass_of_methodNamed B.named
  have hlocks := B.notSynchronized
  have hin : meth.name = "<init>" := (name_of_methodNamed B.named B.method).1
  subst hsz
  have hZ := ZZ.wide hP hZ0
  have hD := hD0.self (sz := s.heap.size)
  generalize hAe : va_A [(h, .inr (9, [.null]))] s.heap.size = A at hD hZ ⊢
  have hA : ∀ q : Nat, s.heap.size ≤ q → A q := fun q h => by rw [← hAe]; exact Or.inr h
  have hS : va_S A s.heap s.heap [] := va_S.rf
  have hP : va_P D vwCl [(h, .inr (9, [.null]))] s.heap := hP
  have hl := lv_entry ([.ref h]) (n := 1) (Nat.le_of_ble_eq_true rfl)
  rw [lg_entry_eq]
  generalize (lg_sl ([.ref h]) ++ List.replicate (1 - (lg_sl ([.ref h])).length) Slot.unset).toArray = ls at hl ⊢
  have hl : lv_has ls 1 [(0, .ref h)] := hl
  refine lv_aload_n hx hb dX5_init_0 rfl (lv_at hl 0 rfl) ?_
  refine W.objInit hx hb hown (hts _ q465) (hts _ q48) (hts _ q49) rfl (by rw [hml]; exact hl.1) rfl dX5_init_1 (Nat.le_of_ble_eq_true rfl) (Nat.le_of_ble_eq_true rfl) ?_
  refine W.eq (g2 := F0 m 4 ls []) rfl ?_
  refine lv_aload_n hx hb dX5_init_4 rfl (lv_at hl 0 rfl) ?_
  refine lv_iconst (v := 3) hx hb dX5_init_5 (by decide) ?_
  refine va_newa (atype := .long) (a0 := (3, .inr (.inl (fun _ => 0)))) (N' := 3) (ty := .long) hx hb (hts _ q120) rfl hK hP hD hS hA (fun cA => rfl) (by decide) (by decide) (Nat.le_of_ble_eq_true rfl) (Nat.le_of_ble_eq_true rfl) (Nat.le_of_ble_eq_true rfl) dX5_init_6 (fun o_1 cA_2 H hK hP hD hS => ?_)
  have hP : va_P D vwCl [(h, .inr (9, [.null])), (o_1, .inl (cA_2, 3, .inr (.inl (fun _ => 0))))] H := hP
  have hD : va_D A [(h, .inr (9, [.null])), (o_1, .inl (cA_2, 3, .inr (.inl (fun _ => 0))))] := hD
  have hK : va_K D vwCl [(cA_2, .long)] s := hK
  refine va_putF (D := D) (ci := 9) (v := .ref o_1) (ty := (.array .long)) (C := RX5) (T := TX5) (N := 1) hx hb hts iwX5 tyX5 tyX5_ok nmX5 hown hK hP hD hS 0 rfl rfl 0 (by decide) (hts _ q466) (fun _ h9 => h9) rfl hin rfl (by decide +kernel) rfl rfl (Nat.le_of_ble_eq_true rfl) dX5_init_8 (fun H locs hP hD hS => ?_)
  have hP : va_P D vwCl [(h, .inr (9, [.ref o_1])), (o_1, .inl (cA_2, 3, .inr (.inl (fun _ => 0))))] H := hP
  have hD : va_D A [(h, .inr (9, [.ref o_1])), (o_1, .inl (cA_2, 3, .inr (.inl (fun _ => 0))))] := hD
  have hP9 := hP.sub (ws' := [(h, .inr (9, [.ref o_1]))]) [0] rfl
  have hD9 := hD.sub (ws' := [(h, .inr (9, [.ref o_1]))]) [0] (by decide) rfl
  refine W.widen (k := 1) (n := 3) (Nat.le_of_ble_eq_true rfl) (Nat.le_of_ble_eq_true rfl) ?_
  exact W.vret hx hb hr (fun t ht hW => ⟨⟨[.ref o_1], rfl, trivial, by rw [ht]; exact hP9, hD9⟩, hS.F ht⟩) hS.2.2 dX5_init_11
set_option maxHeartbeats 4000000 in
set_option maxRecDepth 100000 in
/-- Account() -/
theorem k_LA_init (l : Launch) (D : va_G) (h : Nat) (sz : Nat) : Met l yX0_init (wsA yX0_init cX0_init 1 none) ({ frames := 2, cells := 4, slots := 8, locals := 32 }) (va_Pc [.ref h] (EV D [] [(h, .inr (5, [.null, .null, .long 0, .long 0, .long 0, .long 0, .long 0, .long 0, .long 0, .long 0, .long 0]))] sz)) (va_Qv (fun (_ : List Value) => True) (fun u t => va_P D vwCl [(h, .inr (5, u))] t.heap ∧ va_D (va_A [(h, .inr (5, [.null, .null, .long 0, .long 0, .long 0, .long 0, .long 0, .long 0, .long 0, .long 0, .long 0]))] sz) [(h, .inr (5, u))]) (va_A [(h, .inr (5, [.null, .null, .long 0, .long 0, .long 0, .long 0, .long 0, .long 0, .long 0, .long 0, .long 0]))] sz)) 4 8 (va_A [(h, .inr (5, [.null, .null, .long 0, .long 0, .long 0, .long 0, .long 0, .long 0, .long 0, .long 0, .long 0]))] sz) := by
  refine Met.ofW (cc := cX0_init) (maxL := 1) (ret := none) (by decide) rfl ?_
  intro p e s m args below meth c s₁ B hml hv
  obtain ⟨rfl, hsz, hP, hK, hD0, hG, hZ0⟩ := hv
  have hx := B.exec
  have hb := B.bytes
  have hr := B.returns
  have hts0 := atoms_spec (ws := wsA yX0_init cX0_init 1 none) B.pre
  have hts : ∀ w ∈ lw_all, w.before _ s = true := fun w h => hts0 w (List.mem_cons_of_mem _ h)
  have hown : s.vm.findClass RX0 = some m.cls := findClass_of_methodNamed B.named
  have hlocks := B.notSynchronized
  have hin : meth.name = "<init>" := (name_of_methodNamed B.named B.method).1
  subst hsz
  have hZ := ZZ.wide hP hZ0
  have hD := hD0.self (sz := s.heap.size)
  generalize hAe : va_A [(h, .inr (5, [.null, .null, .long 0, .long 0, .long 0, .long 0, .long 0, .long 0, .long 0, .long 0, .long 0]))] s.heap.size = A at hD hZ ⊢
  have hA : ∀ q : Nat, s.heap.size ≤ q → A q := fun q h => by rw [← hAe]; exact Or.inr h
  have hS : va_S A s.heap s.heap [] := va_S.rf
  have hP : va_P D vwCl [(h, .inr (5, [.null, .null, .long 0, .long 0, .long 0, .long 0, .long 0, .long 0, .long 0, .long 0, .long 0]))] s.heap := hP
  have hl := lv_entry ([.ref h]) (n := 1) (Nat.le_of_ble_eq_true rfl)
  rw [lg_entry_eq]
  generalize (lg_sl ([.ref h]) ++ List.replicate (1 - (lg_sl ([.ref h])).length) Slot.unset).toArray = ls at hl ⊢
  have hl : lv_has ls 1 [(0, .ref h)] := hl
  refine lv_aload_n hx hb dX0_init_0 rfl (lv_at hl 0 rfl) ?_
  refine W.objInit hx hb hown (hts _ q459) (hts _ q48) (hts _ q49) rfl (by rw [hml]; exact hl.1) rfl dX0_init_1 (Nat.le_of_ble_eq_true rfl) (Nat.le_of_ble_eq_true rfl) ?_
  refine W.eq (g2 := F0 m 4 ls []) rfl ?_
  refine lv_aload_n hx hb dX0_init_4 rfl (lv_at hl 0 rfl) ?_
  refine va_new (ci := 9) (fs := [.null]) (C := RX5) (T := TX5) (N := 1) hx hb hts iwX5 tyX5 tyX5_ok hown (hts _ q460) (hts _ q461) (hts _ q15) hK hP hD hS hA rfl (fun j hj => by rcases (show j = 0 by omega) with rfl <;> rfl) (Nat.le_of_ble_eq_true rfl) (Nat.le_of_ble_eq_true rfl) dX0_init_5 (fun o_1 H hP hD hS => ?_)
  have hP : va_P D vwCl [(h, .inr (5, [.null, .null, .long 0, .long 0, .long 0, .long 0, .long 0, .long 0, .long 0, .long 0, .long 0])), (o_1, .inr (9, [.null]))] H := hP
  have hD : va_D A [(h, .inr (5, [.null, .null, .long 0, .long 0, .long 0, .long 0, .long 0, .long 0, .long 0, .long 0, .long 0])), (o_1, .inr (9, [.null]))] := hD
  refine lv_dup hx hb dX0_init_8 rfl ?_
  have hPc := hP.sub (ws' := [(o_1, .inr (9, [.null]))]) [1] rfl
  have hDc := hD.sub (ws' := [(o_1, .inr (9, [.null]))]) [1] (by decide) rfl
  have hKc := hK.sub (tys' := []) [] rfl
  have hFc := va_free (wc := [(o_1, .inr (9, [.null]))]) hD hS hA [1] rfl
  refine va_callv (va_runIN (As := []) (rest := [.ref o_1, .ref h]) ⟨hx, hb, hml, hown, hts⟩ (k_LS_init l D o_1 H.size) ⟨va_cnB 0 hts (gA q464) rfl rfl rfl (hG.nw t462) (hts _ q15) (by decide +kernel) ⟨Nat.le_of_ble_eq_true rfl, Nat.le_of_ble_eq_true rfl⟩, rfl, (hts _ q463)⟩ ⟨EV.fb, fun U hU hW => ⟨rfl, EV.at hPc hKc hDc hG (hZ.no hS) U hU hW⟩⟩ rfl rfl hl.1 rfl (lv_room (Nat.le_of_ble_eq_true rfl)) dX0_init_9 ⟨Nat.le_of_ble_eq_true rfl, Nat.le_of_ble_eq_true rfl⟩) hS (fun q _ h => hFc q h) hFc (fun u t H1 locs ht hvm hw hB hz1 hk1 hS => ?_)
  obtain ⟨u_3, e_u_3⟩ : ∃ z, z = u := ⟨_, rfl⟩
  subst e_u_3
  obtain ⟨hP1, hD1⟩ := hB
  rw [ht] at hP1
  obtain ⟨hP, hD⟩ := va_join (wr := [(h, .inr (5, [.null, .null, .long 0, .long 0, .long 0, .long 0, .long 0, .long 0, .long 0, .long 0, .long 0]))]) (w1 := [(o_1, .inr (9, u_3))]) hP hD [1] [0] rfl rfl (by decide) (by decide) hk1 hFc hP1 hD1
  generalize H1 = H at hP hS ⊢
  have hP : va_P D vwCl [(h, .inr (5, [.null, .null, .long 0, .long 0, .long 0, .long 0, .long 0, .long 0, .long 0, .long 0, .long 0])), (o_1, .inr (9, u_3))] H := hP
  have hD : va_D A [(h, .inr (5, [.null, .null, .long 0, .long 0, .long 0, .long 0, .long 0, .long 0, .long 0, .long 0, .long 0])), (o_1, .inr (9, u_3))] := hD
  refine va_putF (D := D) (ci := 5) (v := .ref o_1) (ty := (.object "LysimeterField$Solutes")) (C := RX0) (T := TX0) (N := 11) hx hb hts iwX0 tyX0 tyX0_ok nmX0 hown hK hP hD hS 0 rfl rfl 0 (by decide) (hts _ q470) (fun _ h9 => h9) rfl hin rfl (by decide +kernel) rfl rfl (Nat.le_of_ble_eq_true rfl) dX0_init_12 (fun H locs hP hD hS => ?_)
  have hP : va_P D vwCl [(h, .inr (5, [.ref o_1, .null, .long 0, .long 0, .long 0, .long 0, .long 0, .long 0, .long 0, .long 0, .long 0])), (o_1, .inr (9, u_3))] H := hP
  have hD : va_D A [(h, .inr (5, [.ref o_1, .null, .long 0, .long 0, .long 0, .long 0, .long 0, .long 0, .long 0, .long 0, .long 0])), (o_1, .inr (9, u_3))] := hD
  refine lv_aload_n hx hb dX0_init_15 rfl (lv_at hl 0 rfl) ?_
  refine va_new (ci := 9) (fs := [.null]) (C := RX5) (T := TX5) (N := 1) hx hb hts iwX5 tyX5 tyX5_ok hown (hts _ q460) (hts _ q461) (hts _ q15) hK hP hD hS hA rfl (fun j hj => by rcases (show j = 0 by omega) with rfl <;> rfl) (Nat.le_of_ble_eq_true rfl) (Nat.le_of_ble_eq_true rfl) dX0_init_16 (fun o_4 H hP hD hS => ?_)
  have hP : va_P D vwCl [(h, .inr (5, [.ref o_1, .null, .long 0, .long 0, .long 0, .long 0, .long 0, .long 0, .long 0, .long 0, .long 0])), (o_1, .inr (9, u_3)), (o_4, .inr (9, [.null]))] H := hP
  have hD : va_D A [(h, .inr (5, [.ref o_1, .null, .long 0, .long 0, .long 0, .long 0, .long 0, .long 0, .long 0, .long 0, .long 0])), (o_1, .inr (9, u_3)), (o_4, .inr (9, [.null]))] := hD
  refine lv_dup hx hb dX0_init_19 rfl ?_
  have hPc := hP.sub (ws' := [(o_4, .inr (9, [.null]))]) [2] rfl
  have hDc := hD.sub (ws' := [(o_4, .inr (9, [.null]))]) [2] (by decide) rfl
  have hKc := hK.sub (tys' := []) [] rfl
  have hFc := va_free (wc := [(o_4, .inr (9, [.null]))]) hD hS hA [2] rfl
  refine va_callv (va_runIN (As := []) (rest := [.ref o_4, .ref h]) ⟨hx, hb, hml, hown, hts⟩ (k_LS_init l D o_4 H.size) ⟨va_cnB 0 hts (gA q464) rfl rfl rfl (hG.nw t462) (hts _ q15) (by decide +kernel) ⟨Nat.le_of_ble_eq_true rfl, Nat.le_of_ble_eq_true rfl⟩, rfl, (hts _ q463)⟩ ⟨EV.fb, fun U hU hW => ⟨rfl, EV.at hPc hKc hDc hG (hZ.no hS) U hU hW⟩⟩ rfl rfl hl.1 rfl (lv_room (Nat.le_of_ble_eq_true rfl)) dX0_init_20 ⟨Nat.le_of_ble_eq_true rfl, Nat.le_of_ble_eq_true rfl⟩) hS (fun q _ h => hFc q h) hFc (fun u t H1 locs ht hvm hw hB hz1 hk1 hS => ?_)
  obtain ⟨u_6, e_u_6⟩ : ∃ z, z = u := ⟨_, rfl⟩
  subst e_u_6
  obtain ⟨hP1, hD1⟩ := hB
  rw [ht] at hP1
  obtain ⟨hP, hD⟩ := va_join (wr := [(h, .inr (5, [.ref o_1, .null, .long 0, .long 0, .long 0, .long 0, .long 0, .long 0, .long 0, .long 0, .long 0])), (o_1, .inr (9, u_3))]) (w1 := [(o_4, .inr (9, u_6))]) hP hD [2] [0, 1] rfl rfl (by decide) (by decide) hk1 hFc hP1 hD1
  generalize H1 = H at hP hS ⊢
  have hP : va_P D vwCl [(h, .inr (5, [.ref o_1, .null, .long 0, .long 0, .long 0, .long 0, .long 0, .long 0, .long 0, .long 0, .long 0])), (o_1, .inr (9, u_3)), (o_4, .inr (9, u_6))] H := hP
  have hD : va_D A [(h, .inr (5, [.ref o_1, .null, .long 0, .long 0, .long 0, .long 0, .long 0, .long 0, .long 0, .long 0, .long 0])), (o_1, .inr (9, u_3)), (o_4, .inr (9, u_6))] := hD
  refine va_putF (D := D) (ci := 5) (v := .ref o_4) (ty := (.object "LysimeterField$Solutes")) (C := RX0) (T := TX0) (N := 11) hx hb hts iwX0 tyX0 tyX0_ok nmX0 hown hK hP hD hS 0 rfl rfl 1 (by decide) (hts _ q473) (fun _ h9 => h9) rfl hin rfl (by decide +kernel) rfl rfl (Nat.le_of_ble_eq_true rfl) dX0_init_23 (fun H locs hP hD hS => ?_)
  have hP : va_P D vwCl [(h, .inr (5, [.ref o_1, .ref o_4, .long 0, .long 0, .long 0, .long 0, .long 0, .long 0, .long 0, .long 0, .long 0])), (o_1, .inr (9, u_3)), (o_4, .inr (9, u_6))] H := hP
  have hD : va_D A [(h, .inr (5, [.ref o_1, .ref o_4, .long 0, .long 0, .long 0, .long 0, .long 0, .long 0, .long 0, .long 0, .long 0])), (o_1, .inr (9, u_3)), (o_4, .inr (9, u_6))] := hD
  refine lv_aload_n hx hb dX0_init_26 rfl (lv_at hl 0 rfl) ?_
  refine lv_lconst (v := 0) hx hb dX0_init_27 (by decide) ?_
  refine va_put (D := D) (ci := 5) (v := .long 0) (ty := .long) (C := RX0) (T := TX0) (N := 11) hx hb hts iwX0 tyX0 tyX0_ok nmX0 hown hK hP hD hS 0 rfl rfl 2 (by decide) (hts _ q476) (fun _ h9 => h9) rfl (by decide +kernel) rfl rfl (Nat.le_of_ble_eq_true rfl) dX0_init_28 (fun H locs hP hD hS => ?_)
  have hP : va_P D vwCl [(h, .inr (5, [.ref o_1, .ref o_4, .long 0, .long 0, .long 0, .long 0, .long 0, .long 0, .long 0, .long 0, .long 0])), (o_1, .inr (9, u_3)), (o_4, .inr (9, u_6))] H := hP
  have hD : va_D A [(h, .inr (5, [.ref o_1, .ref o_4, .long 0, .long 0, .long 0, .long 0, .long 0, .long 0, .long 0, .long 0, .long 0])), (o_1, .inr (9, u_3)), (o_4, .inr (9, u_6))] := hD
  refine lv_aload_n hx hb dX0_init_31 rfl (lv_at hl 0 rfl) ?_
  refine lv_lconst (v := 0) hx hb dX0_init_32 (by decide) ?_
  refine va_put (D := D) (ci := 5) (v := .long 0) (ty := .long) (C := RX0) (T := TX0) (N := 11) hx hb hts iwX0 tyX0 tyX0_ok nmX0 hown hK hP hD hS 0 rfl rfl 3 (by decide) (hts _ q479) (fun _ h9 => h9) rfl (by decide +kernel) rfl rfl (Nat.le_of_ble_eq_true rfl) dX0_init_33 (fun H locs hP hD hS => ?_)
  have hP : va_P D vwCl [(h, .inr (5, [.ref o_1, .ref o_4, .long 0, .long 0, .long 0, .long 0, .long 0, .long 0, .long 0, .long 0, .long 0])), (o_1, .inr (9, u_3)), (o_4, .inr (9, u_6))] H := hP
  have hD : va_D A [(h, .inr (5, [.ref o_1, .ref o_4, .long 0, .long 0, .long 0, .long 0, .long 0, .long 0, .long 0, .long 0, .long 0])), (o_1, .inr (9, u_3)), (o_4, .inr (9, u_6))] := hD
  refine lv_aload_n hx hb dX0_init_36 rfl (lv_at hl 0 rfl) ?_
  refine lv_lconst (v := 0) hx hb dX0_init_37 (by decide) ?_
  refine va_put (D := D) (ci := 5) (v := .long 0) (ty := .long) (C := RX0) (T := TX0) (N := 11) hx hb hts iwX0 tyX0 tyX0_ok nmX0 hown hK hP hD hS 0 rfl rfl 4 (by decide) (hts _ q481) (fun _ h9 => h9) rfl (by decide +kernel) rfl rfl (Nat.le_of_ble_eq_true rfl) dX0_init_38 (fun H locs hP hD hS => ?_)
  have hP : va_P D vwCl [(h, .inr (5, [.ref o_1, .ref o_4, .long 0, .long 0, .long 0, .long 0, .long 0, .long 0, .long 0, .long 0, .long 0])), (o_1, .inr (9, u_3)), (o_4, .inr (9, u_6))] H := hP
  have hD : va_D A [(h, .inr (5, [.ref o_1, .ref o_4, .long 0, .long 0, .long 0, .long 0, .long 0, .long 0, .long 0, .long 0, .long 0])), (o_1, .inr (9, u_3)), (o_4, .inr (9, u_6))] := hD
  refine lv_aload_n hx hb dX0_init_41 rfl (lv_at hl 0 rfl) ?_
  refine lv_lconst (v := 0) hx hb dX0_init_42 (by decide) ?_
  refine va_put (D := D) (ci := 5) (v := .long 0) (ty := .long) (C := RX0) (T := TX0) (N := 11) hx hb hts iwX0 tyX0 tyX0_ok nmX0 hown hK hP hD hS 0 rfl rfl 5 (by decide) (hts _ q483) (fun _ h9 => h9) rfl (by decide +kernel) rfl rfl (Nat.le_of_ble_eq_true rfl) dX0_init_43 (fun H locs hP hD hS => ?_)
  have hP : va_P D vwCl [(h, .inr (5, [.ref o_1, .ref o_4, .long 0, .long 0, .long 0, .long 0, .long 0, .long 0, .long 0, .long 0, .long 0])), (o_1, .inr (9, u_3)), (o_4, .inr (9, u_6))] H := hP
  have hD : va_D A [(h, .inr (5, [.ref o_1, .ref o_4, .long 0, .long 0, .long 0, .long 0, .long 0, .long 0, .long 0, .long 0, .long 0])), (o_1, .inr (9, u_3)), (o_4, .inr (9, u_6))] := hD
  refine lv_aload_n hx hb dX0_init_46 rfl (lv_at hl 0 rfl) ?_
  refine lv_lconst (v := 0) hx hb dX0_init_47 (by decide) ?_
  refine va_put (D := D) (ci := 5) (v := .long 0) (ty := .long) (C := RX0) (T := TX0) (N := 11) hx hb hts iwX0 tyX0 tyX0_ok nmX0 hown hK hP hD hS 0 rfl rfl 6 (by decide) (hts _ q486) (fun _ h9 => h9) rfl (by decide +kernel) rfl rfl (Nat.le_of_ble_eq_true rfl) dX0_init_48 (fun H locs hP hD hS => ?_)
  have hP : va_P D vwCl [(h, .inr (5, [.ref o_1, .ref o_4, .long 0, .long 0, .long 0, .long 0, .long 0, .long 0, .long 0, .long 0, .long 0])), (o_1, .inr (9, u_3)), (o_4, .inr (9, u_6))] H := hP
  have hD : va_D A [(h, .inr (5, [.ref o_1, .ref o_4, .long 0, .long 0, .long 0, .long 0, .long 0, .long 0, .long 0, .long 0, .long 0])), (o_1, .inr (9, u_3)), (o_4, .inr (9, u_6))] := hD
  refine lv_aload_n hx hb dX0_init_51 rfl (lv_at hl 0 rfl) ?_
  refine lv_lconst (v := 0) hx hb dX0_init_52 (by decide) ?_
  refine va_put (D := D) (ci := 5) (v := .long 0) (ty := .long) (C := RX0) (T := TX0) (N := 11) hx hb hts iwX0 tyX0 tyX0_ok nmX0 hown hK hP hD hS 0 rfl rfl 7 (by decide) (hts _ q488) (fun _ h9 => h9) rfl (by decide +kernel) rfl rfl (Nat.le_of_ble_eq_true rfl) dX0_init_53 (fun H locs hP hD hS => ?_)
  have hP : va_P D vwCl [(h, .inr (5, [.ref o_1, .ref o_4, .long 0, .long 0, .long 0, .long 0, .long 0, .long 0, .long 0, .long 0, .long 0])), (o_1, .inr (9, u_3)), (o_4, .inr (9, u_6))] H := hP
  have hD : va_D A [(h, .inr (5, [.ref o_1, .ref o_4, .long 0, .long 0, .long 0, .long 0, .long 0, .long 0, .long 0, .long 0, .long 0])), (o_1, .inr (9, u_3)), (o_4, .inr (9, u_6))] := hD
  refine lv_aload_n hx hb dX0_init_56 rfl (lv_at hl 0 rfl) ?_
  refine lv_lconst (v := 0) hx hb dX0_init_57 (by decide) ?_
  refine va_put (D := D) (ci := 5) (v := .long 0) (ty := .long) (C := RX0) (T := TX0) (N := 11) hx hb hts iwX0 tyX0 tyX0_ok nmX0 hown hK hP hD hS 0 rfl rfl 8 (by decide) (hts _ q491) (fun _ h9 => h9) rfl (by decide +kernel) rfl rfl (Nat.le_of_ble_eq_true rfl) dX0_init_58 (fun H locs hP hD hS => ?_)
  have hP : va_P D vwCl [(h, .inr (5, [.ref o_1, .ref o_4, .long 0, .long 0, .long 0, .long 0, .long 0, .long 0, .long 0, .long 0, .long 0])), (o_1, .inr (9, u_3)), (o_4, .inr (9, u_6))] H := hP
  have hD : va_D A [(h, .inr (5, [.ref o_1, .ref o_4, .long 0, .long 0, .long 0, .long 0, .long 0, .long 0, .long 0, .long 0, .long 0])), (o_1, .inr (9, u_3)), (o_4, .inr (9, u_6))] := hD
  refine lv_aload_n hx hb dX0_init_61 rfl (lv_at hl 0 rfl) ?_
  refine lv_lconst (v := 0) hx hb dX0_init_62 (by decide) ?_
  refine va_put (D := D) (ci := 5) (v := .long 0) (ty := .long) (C := RX0) (T := TX0) (N := 11) hx hb hts iwX0 tyX0 tyX0_ok nmX0 hown hK hP hD hS 0 rfl rfl 9 (by decide) (hts _ q494) (fun _ h9 => h9) rfl (by decide +kernel) rfl rfl (Nat.le_of_ble_eq_true rfl) dX0_init_63 (fun H locs hP hD hS => ?_)
  have hP : va_P D vwCl [(h, .inr (5, [.ref o_1, .ref o_4, .long 0, .long 0, .long 0, .long 0, .long 0, .long 0, .long 0, .long 0, .long 0])), (o_1, .inr (9, u_3)), (o_4, .inr (9, u_6))] H := hP
  have hD : va_D A [(h, .inr (5, [.ref o_1, .ref o_4, .long 0, .long 0, .long 0, .long 0, .long 0, .long 0, .long 0, .long 0, .long 0])), (o_1, .inr (9, u_3)), (o_4, .inr (9, u_6))] := hD
  refine lv_aload_n hx hb dX0_init_66 rfl (lv_at hl 0 rfl) ?_
  refine lv_lconst (v := 0) hx hb dX0_init_67 (by decide) ?_
  refine va_put (D := D) (ci := 5) (v := .long 0) (ty := .long) (C := RX0) (T := TX0) (N := 11) hx hb hts iwX0 tyX0 tyX0_ok nmX0 hown hK hP hD hS 0 rfl rfl 10 (by decide) (hts _ q497) (fun _ h9 => h9) rfl (by decide +kernel) rfl rfl (Nat.le_of_ble_eq_true rfl) dX0_init_68 (fun H locs hP hD hS => ?_)
  have hP : va_P D vwCl [(h, .inr (5, [.ref o_1, .ref o_4, .long 0, .long 0, .long 0, .long 0, .long 0, .long 0, .long 0, .long 0, .long 0])), (o_1, .inr (9, u_3)), (o_4, .inr (9, u_6))] H := hP
  have hD : va_D A [(h, .inr (5, [.ref o_1, .ref o_4, .long 0, .long 0, .long 0, .long 0, .long 0, .long 0, .long 0, .long 0, .long 0])), (o_1, .inr (9, u_3)), (o_4, .inr (9, u_6))] := hD
  have hP9 := hP.sub (ws' := [(h, .inr (5, [.ref o_1, .ref o_4, .long 0, .long 0, .long 0, .long 0, .long 0, .long 0, .long 0, .long 0, .long 0]))]) [0] rfl
  have hD9 := hD.sub (ws' := [(h, .inr (5, [.ref o_1, .ref o_4, .long 0, .long 0, .long 0, .long 0, .long 0, .long 0, .long 0, .long 0, .long 0]))]) [0] (by decide) rfl
  refine W.widen (k := 4) (n := 8) (Nat.le_of_ble_eq_true rfl) (Nat.le_of_ble_eq_true rfl) ?_
  exact W.vret hx hb hr (fun t ht hW => ⟨⟨[.ref o_1, .ref o_4, .long 0, .long 0, .long 0, .long 0, .long 0, .long 0, .long 0, .long 0, .long 0], rfl, trivial, by rw [ht]; exact hP9, hD9⟩, hS.F ht⟩) hS.2.2 dX0_init_71
set_option maxHeartbeats 4000000 in
set_option maxRecDepth 100000 in
/-- LysimeterField$Column made -/
theorem k_LC_init (l : Launch) (D : va_G) (e0 : Nat) (h : Nat) (p0 p1 : Int32) (sz : Nat) (hn : narrow .char (.int p0) = .int p0) (hf : fits .char (.int p0) = true) : Met l yX1_init (wsA yX1_init cX1_init 3 none) ({ frames := 4, cells := 7, slots := 25, locals := 72 }) (va_Pc [.ref h, .int p0, .int p1] (EW e0 D [] [(h, .inr (6, [.int 0, .null, .null, .null, .int 0, .int 0, .int 0, .int 0, .int 0, .int 0, .int 0, .long 0, .long 0]))] sz)) (va_Qv (fun (_ : List Value) => True) (fun u t => va_P D vwCl [(h, .inr (6, u))] t.heap ∧ va_D (va_A [(h, .inr (6, [.int 0, .null, .null, .null, .int 0, .int 0, .int 0, .int 0, .int 0, .int 0, .int 0, .long 0, .long 0]))] sz) [(h, .inr (6, u))]) (va_A [(h, .inr (6, [.int 0, .null, .null, .null, .int 0, .int 0, .int 0, .int 0, .int 0, .int 0, .int 0, .long 0, .long 0]))] sz)) 7 25 (va_A [(h, .inr (6, [.int 0, .null, .null, .null, .int 0, .int 0, .int 0, .int 0, .int 0, .int 0, .int 0, .long 0, .long 0]))] sz) := by
  refine Met.ofW (cc := cX1_init) (maxL := 3) (ret := none) (by decide) rfl ?_
  intro p e s m args below meth c s₁ B hml hv
  obtain ⟨rfl, ⟨hsz, hP, hK, hD0, hG, hZ0⟩, hZd0⟩ := hv
  have hx := B.exec
  have hb := B.bytes
  have hr := B.returns
  have hts0 := atoms_spec (ws := wsA yX1_init cX1_init 3 none) B.pre
  have hts : ∀ w ∈ lw_all, w.before _ s = true := fun w h => hts0 w (List.mem_cons_of_mem _ h)
  have hown : s.vm.findClass RX1 = some m.cls := findClass_of_methodNamed B.named
  have hlocks := B.notSynchronized
  have hin : meth.name = "<init>" := (name_of_methodNamed B.named B.method).1
  subst hsz
  have hZ := ZZ.wide hP hZ0
  have hZd := ZD.wide hP hZd0
  have hD := hD0.self (sz := s.heap.size)
  generalize hAe : va_A [(h, .inr (6, [.int 0, .null, .null, .null, .int 0, .int 0, .int 0, .int 0, .int 0, .int 0, .int 0, .long 0, .long 0]))] s.heap.size = A at hD hZ hZd ⊢
  have hA : ∀ q : Nat, s.heap.size ≤ q → A q := fun q h => by rw [← hAe]; exact Or.inr h
  have hS : va_S A s.heap s.heap [] := va_S.rf
  have hP : va_P D vwCl [(h, .inr (6, [.int 0, .null, .null, .null, .int 0, .int 0, .int 0, .int 0, .int 0, .int 0, .int 0, .long 0, .long 0]))] s.heap := hP
  have hl := lv_entry ([.ref h, .int p0, .int p1]) (n := 3) (Nat.le_of_ble_eq_true rfl)
  rw [lg_entry_eq]
  generalize (lg_sl ([.ref h, .int p0, .int p1]) ++ List.replicate (3 - (lg_sl ([.ref h, .int p0, .int p1])).length) Slot.unset).toArray = ls at hl ⊢
  have hl : lv_has ls 3 [(0, .ref h), (1, .int p0), (2, .int p1)] := hl
  refine lv_aload_n hx hb dX1_init_0 rfl (lv_at hl 0 rfl) ?_
  refine W.objInit hx hb hown (hts _ q451) (hts _ q48) (hts _ q49) rfl (by rw [hml]; exact hl.1) rfl dX1_init_1 (Nat.le_of_ble_eq_true rfl) (Nat.le_of_ble_eq_true rfl) ?_
  refine W.eq (g2 := F0 m 4 ls []) rfl ?_
  refine lv_aload_n hx hb dX1_init_4 rfl (lv_at hl 0 rfl) ?_
  refine va_new (ci := 4) (fs := [.int 0, .null, .int 0]) (C := RJx4a65c) (T := TJx4a65c) (N := 3) hx hb hts iwJx4a65c tyJx4a65c tyJx4a65c_ok hown (hts _ q452) (hts _ q51) (hts _ q4) hK hP hD hS hA rfl (fun j hj => by rcases (show j = 0 ∨ j = 1 ∨ j = 2 by omega) with rfl | rfl | rfl <;> rfl) (Nat.le_of_ble_eq_true rfl) (Nat.le_of_ble_eq_true rfl) dX1_init_5 (fun o_1 H hP hD hS => ?_)
  have hP : va_P D vwCl [(h, .inr (6, [.int 0, .null, .null, .null, .int 0, .int 0, .int 0, .int 0, .int 0, .int 0, .int 0, .long 0, .long 0])), (o_1, .inr (4, [.int 0, .null, .int 0]))] H := hP
  have hD : va_D A [(h, .inr (6, [.int 0, .null, .null, .null, .int 0, .int 0, .int 0, .int 0, .int 0, .int 0, .int 0, .long 0, .long 0])), (o_1, .inr (4, [.int 0, .null, .int 0]))] := hD
  refine lv_dup hx hb dX1_init_8 rfl ?_
  have hPc := hP.sub (ws' := [(o_1, .inr (4, [.int 0, .null, .int 0]))]) [1] rfl
  have hDc := hD.sub (ws' := [(o_1, .inr (4, [.int 0, .null, .int 0]))]) [1] (by decide) rfl
  have hKc := hK.sub (tys' := []) [] rfl
  have hFc := va_free (wc := [(o_1, .inr (4, [.int 0, .null, .int 0]))]) hD hS hA [1] rfl
  refine va_callv (va_runI (As := []) (rest := [.ref o_1, .ref h]) ⟨hx, hb, hml, hown, hts⟩ (k_AL_init l D e0 o_1 0 (.null) 0 H.size) (cwI 0 hts (gA q54) rfl rfl rfl (hts _ q4) (hts _ q453) (hts _ q53) rfl (by decide +kernel) ⟨Nat.le_of_ble_eq_true rfl, Nat.le_of_ble_eq_true rfl⟩) ⟨EW.fb, fun U hU hW => ⟨rfl, EW.at hPc hKc hDc hG (hZ.no hS) (ZD.no hZd hS) U hU hW⟩⟩ rfl rfl hl.1 rfl (lv_room (Nat.le_of_ble_eq_true rfl)) dX1_init_9 ⟨Nat.le_of_ble_eq_true rfl, Nat.le_of_ble_eq_true rfl⟩) hS (fun q _ h => hFc q h) hFc (fun u t H1 locs ht hvm hw hB hz1 hk1 hS => ?_)
  obtain ⟨hP1, hD1⟩ := hB
  rw [ht] at hP1
  obtain ⟨hP, hD⟩ := va_join (wr := [(h, .inr (6, [.int 0, .null, .null, .null, .int 0, .int 0, .int 0, .int 0, .int 0, .int 0, .int 0, .long 0, .long 0]))]) (w1 := [(o_1, .inr (4, [.int 0, .ref e0, .int 0]))]) hP hD [1] [0] rfl rfl (by decide) (by decide) hk1 hFc hP1 hD1
  generalize H1 = H at hP hS ⊢
  have hP : va_P D vwCl [(h, .inr (6, [.int 0, .null, .null, .null, .int 0, .int 0, .int 0, .int 0, .int 0, .int 0, .int 0, .long 0, .long 0])), (o_1, .inr (4, [.int 0, .ref e0, .int 0]))] H := hP
  have hD : va_D A [(h, .inr (6, [.int 0, .null, .null, .null, .int 0, .int 0, .int 0, .int 0, .int 0, .int 0, .int 0, .long 0, .long 0])), (o_1, .inr (4, [.int 0, .ref e0, .int 0]))] := hD
  refine va_putF (D := D) (ci := 6) (v := .ref o_1) (ty := (.object "java/util/ArrayList")) (C := RX1) (T := TX1) (N := 13) hx hb hts iwX1 tyX1 tyX1_ok nmX1 hown hK hP hD hS 0 rfl rfl 1 (by decide) (hts _ q523) (fun _ h9 => h9) rfl hin rfl (by decide +kernel) rfl rfl (Nat.le_of_ble_eq_true rfl) dX1_init_12 (fun H locs hP hD hS => ?_)
  have hP : va_P D vwCl [(h, .inr (6, [.int 0, .ref o_1, .null, .null, .int 0, .int 0, .int 0, .int 0, .int 0, .int 0, .int 0, .long 0, .long 0])), (o_1, .inr (4, [.int 0, .ref e0, .int 0]))] H := hP
  have hD : va_D A [(h, .inr (6, [.int 0, .ref o_1, .null, .null, .int 0, .int 0, .int 0, .int 0, .int 0, .int 0, .int 0, .long 0, .long 0])), (o_1, .inr (4, [.int 0, .ref e0, .int 0]))] := hD
  refine lv_aload_n hx hb dX1_init_15 rfl (lv_at hl 0 rfl) ?_
  refine va_new (ci := 4) (fs := [.int 0, .null, .int 0]) (C := RJx4a65c) (T := TJx4a65c) (N := 3) hx hb hts iwJx4a65c tyJx4a65c tyJx4a65c_ok hown (hts _ q452) (hts _ q51) (hts _ q4) hK hP hD hS hA rfl (fun j hj => by rcases (show j = 0 ∨ j = 1 ∨ j = 2 by omega) with rfl | rfl | rfl <;> rfl) (Nat.le_of_ble_eq_true rfl) (Nat.le_of_ble_eq_true rfl) dX1_init_16 (fun o_3 H hP hD hS => ?_)
  have hP : va_P D vwCl [(h, .inr (6, [.int 0, .ref o_1, .null, .null, .int 0, .int 0, .int 0, .int 0, .int 0, .int 0, .int 0, .long 0, .long 0])), (o_1, .inr (4, [.int 0, .ref e0, .int 0])), (o_3, .inr (4, [.int 0, .null, .int 0]))] H := hP
  have hD : va_D A [(h, .inr (6, [.int 0, .ref o_1, .null, .null, .int 0, .int 0, .int 0, .int 0, .int 0, .int 0, .int 0, .long 0, .long 0])), (o_1, .inr (4, [.int 0, .ref e0, .int 0])), (o_3, .inr (4, [.int 0, .null, .int 0]))] := hD
  refine lv_dup hx hb dX1_init_19 rfl ?_
  have hPc := hP.sub (ws' := [(o_3, .inr (4, [.int 0, .null, .int 0]))]) [2] rfl
  have hDc := hD.sub (ws' := [(o_3, .inr (4, [.int 0, .null, .int 0]))]) [2] (by decide) rfl
  have hKc := hK.sub (tys' := []) [] rfl
  have hFc := va_free (wc := [(o_3, .inr (4, [.int 0, .null, .int 0]))]) hD hS hA [2] rfl
  refine va_callv (va_runI (As := []) (rest := [.ref o_3, .ref h]) ⟨hx, hb, hml, hown, hts⟩ (k_AL_init l D e0 o_3 0 (.null) 0 H.size) (cwI 0 hts (gA q54) rfl rfl rfl (hts _ q4) (hts _ q453) (hts _ q53) rfl (by decide +kernel) ⟨Nat.le_of_ble_eq_true rfl, Nat.le_of_ble_eq_true rfl⟩) ⟨EW.fb, fun U hU hW => ⟨rfl, EW.at hPc hKc hDc hG (hZ.no hS) (ZD.no hZd hS) U hU hW⟩⟩ rfl rfl hl.1 rfl (lv_room (Nat.le_of_ble_eq_true rfl)) dX1_init_20 ⟨Nat.le_of_ble_eq_true rfl, Nat.le_of_ble_eq_true rfl⟩) hS (fun q _ h => hFc q h) hFc (fun u t H1 locs ht hvm hw hB hz1 hk1 hS => ?_)
  obtain ⟨hP1, hD1⟩ := hB
  rw [ht] at hP1
  obtain ⟨hP, hD⟩ := va_join (wr := [(h, .inr (6, [.int 0, .ref o_1, .null, .null, .int 0, .int 0, .int 0, .int 0, .int 0, .int 0, .int 0, .long 0, .long 0])), (o_1, .inr (4, [.int 0, .ref e0, .int 0]))]) (w1 := [(o_3, .inr (4, [.int 0, .ref e0, .int 0]))]) hP hD [2] [0, 1] rfl rfl (by decide) (by decide) hk1 hFc hP1 hD1
  generalize H1 = H at hP hS ⊢
  have hP : va_P D vwCl [(h, .inr (6, [.int 0, .ref o_1, .null, .null, .int 0, .int 0, .int 0, .int 0, .int 0, .int 0, .int 0, .long 0, .long 0])), (o_1, .inr (4, [.int 0, .ref e0, .int 0])), (o_3, .inr (4, [.int 0, .ref e0, .int 0]))] H := hP
  have hD : va_D A [(h, .inr (6, [.int 0, .ref o_1, .null, .null, .int 0, .int 0, .int 0, .int 0, .int 0, .int 0, .int 0, .long 0, .long 0])), (o_1, .inr (4, [.int 0, .ref e0, .int 0])), (o_3, .inr (4, [.int 0, .ref e0, .int 0]))] := hD
  refine va_putF (D := D) (ci := 6) (v := .ref o_3) (ty := (.object "java/util/ArrayList")) (C := RX1) (T := TX1) (N := 13) hx hb hts iwX1 tyX1 tyX1_ok nmX1 hown hK hP hD hS 0 rfl rfl 2 (by decide) (hts _ q525) (fun _ h9 => h9) rfl hin rfl (by decide +kernel) rfl rfl (Nat.le_of_ble_eq_true rfl) dX1_init_23 (fun H locs hP hD hS => ?_)
  have hP : va_P D vwCl [(h, .inr (6, [.int 0, .ref o_1, .ref o_3, .null, .int 0, .int 0, .int 0, .int 0, .int 0, .int 0, .int 0, .long 0, .long 0])), (o_1, .inr (4, [.int 0, .ref e0, .int 0])), (o_3, .inr (4, [.int 0, .ref e0, .int 0]))] H := hP
  have hD : va_D A [(h, .inr (6, [.int 0, .ref o_1, .ref o_3, .null, .int 0, .int 0, .int 0, .int 0, .int 0, .int 0, .int 0, .long 0, .long 0])), (o_1, .inr (4, [.int 0, .ref e0, .int 0])), (o_3, .inr (4, [.int 0, .ref e0, .int 0]))] := hD
  refine lv_aload_n hx hb dX1_init_26 rfl (lv_at hl 0 rfl) ?_
  refine va_new (ci := 5) (fs := [.null, .null, .long 0, .long 0, .long 0, .long 0, .long 0, .long 0, .long 0, .long 0, .long 0]) (C := RX0) (T := TX0) (N := 11) hx hb hts iwX0 tyX0 tyX0_ok hown (hts _ q454) (hts _ q455) (hts _ q14) hK hP hD hS hA rfl (fun j hj => by rcases (show j = 0 ∨ j = 1 ∨ j = 2 ∨ j = 3 ∨ j = 4 ∨ j = 5 ∨ j = 6 ∨ j = 7 ∨ j = 8 ∨ j = 9 ∨ j = 10 by omega) with rfl | rfl | rfl | rfl | rfl | rfl | rfl | rfl | rfl | rfl | rfl <;> rfl) (Nat.le_of_ble_eq_true rfl) (Nat.le_of_ble_eq_true rfl) dX1_init_27 (fun o_5 H hP hD hS => ?_)
  have hP : va_P D vwCl [(h, .inr (6, [.int 0, .ref o_1, .ref o_3, .null, .int 0, .int 0, .int 0, .int 0, .int 0, .int 0, .int 0, .long 0, .long 0])), (o_1, .inr (4, [.int 0, .ref e0, .int 0])), (o_3, .inr (4, [.int 0, .ref e0, .int 0])), (o_5, .inr (5, [.null, .null, .long 0, .long 0, .long 0, .long 0, .long 0, .long 0, .long 0, .long 0, .long 0]))] H := hP
  have hD : va_D A [(h, .inr (6, [.int 0, .ref o_1, .ref o_3, .null, .int 0, .int 0, .int 0, .int 0, .int 0, .int 0, .int 0, .long 0, .long 0])), (o_1, .inr (4, [.int 0, .ref e0, .int 0])), (o_3, .inr (4, [.int 0, .ref e0, .int 0])), (o_5, .inr (5, [.null, .null, .long 0, .long 0, .long 0, .long 0, .long 0, .long 0, .long 0, .long 0, .long 0]))] := hD
  refine lv_dup hx hb dX1_init_30 rfl ?_
  have hPc := hP.sub (ws' := [(o_5, .inr (5, [.null, .null, .long 0, .long 0, .long 0, .long 0, .long 0, .long 0, .long 0, .long 0, .long 0]))]) [3] rfl
  have hDc := hD.sub (ws' := [(o_5, .inr (5, [.null, .null, .long 0, .long 0, .long 0, .long 0, .long 0, .long 0, .long 0, .long 0, .long 0]))]) [3] (by decide) rfl
  have hKc := hK.sub (tys' := []) [] rfl
  have hFc := va_free (wc := [(o_5, .inr (5, [.null, .null, .long 0, .long 0, .long 0, .long 0, .long 0, .long 0, .long 0, .long 0, .long 0]))]) hD hS hA [3] rfl
  refine va_callv (va_runIN (As := []) (rest := [.ref o_5, .ref h]) ⟨hx, hb, hml, hown, hts⟩ (k_LA_init l D o_5 H.size) ⟨va_cnB 0 hts (gA q458) rfl rfl rfl (hG.nw t456) (hts _ q14) (by decide +kernel) ⟨Nat.le_of_ble_eq_true rfl, Nat.le_of_ble_eq_true rfl⟩, rfl, (hts _ q457)⟩ ⟨EV.fb, fun U hU hW => ⟨rfl, EV.at hPc hKc hDc hG (hZ.no hS) U hU hW⟩⟩ rfl rfl hl.1 rfl (lv_room (Nat.le_of_ble_eq_true rfl)) dX1_init_31 ⟨Nat.le_of_ble_eq_true rfl, Nat.le_of_ble_eq_true rfl⟩) hS (fun q _ h => hFc q h) hFc (fun u t H1 locs ht hvm hw hB hz1 hk1 hS => ?_)
  obtain ⟨u_7, e_u_7⟩ : ∃ z, z = u := ⟨_, rfl⟩
  subst e_u_7
  obtain ⟨hP1, hD1⟩ := hB
  rw [ht] at hP1
  obtain ⟨hP, hD⟩ := va_join (wr := [(h, .inr (6, [.int 0, .ref o_1, .ref o_3, .null, .int 0, .int 0, .int 0, .int 0, .int 0, .int 0, .int 0, .long 0, .long 0])), (o_1, .inr (4, [.int 0, .ref e0, .int 0])), (o_3, .inr (4, [.int 0, .ref e0, .int 0]))]) (w1 := [(o_5, .inr (5, u_7))]) hP hD [3] [0, 1, 2] rfl rfl (by decide) (by decide) hk1 hFc hP1 hD1
  generalize H1 = H at hP hS ⊢
  have hP : va_P D vwCl [(h, .inr (6, [.int 0, .ref o_1, .ref o_3, .null, .int 0, .int 0, .int 0, .int 0, .int 0, .int 0, .int 0, .long 0, .long 0])), (o_1, .inr (4, [.int 0, .ref e0, .int 0])), (o_3, .inr (4, [.int 0, .ref e0, .int 0])), (o_5, .inr (5, u_7))] H := hP
  have hD : va_D A [(h, .inr (6, [.int 0, .ref o_1, .ref o_3, .null, .int 0, .int 0, .int 0, .int 0, .int 0, .int 0, .int 0, .long 0, .long 0])), (o_1, .inr (4, [.int 0, .ref e0, .int 0])), (o_3, .inr (4, [.int 0, .ref e0, .int 0])), (o_5, .inr (5, u_7))] := hD
  refine va_putF (D := D) (ci := 6) (v := .ref o_5) (ty := (.object "LysimeterField$Account")) (C := RX1) (T := TX1) (N := 13) hx hb hts iwX1 tyX1 tyX1_ok nmX1 hown hK hP hD hS 0 rfl rfl 3 (by decide) (hts _ q527) (fun _ h9 => h9) rfl hin rfl (by decide +kernel) rfl rfl (Nat.le_of_ble_eq_true rfl) dX1_init_34 (fun H locs hP hD hS => ?_)
  have hP : va_P D vwCl [(h, .inr (6, [.int 0, .ref o_1, .ref o_3, .ref o_5, .int 0, .int 0, .int 0, .int 0, .int 0, .int 0, .int 0, .long 0, .long 0])), (o_1, .inr (4, [.int 0, .ref e0, .int 0])), (o_3, .inr (4, [.int 0, .ref e0, .int 0])), (o_5, .inr (5, u_7))] H := hP
  have hD : va_D A [(h, .inr (6, [.int 0, .ref o_1, .ref o_3, .ref o_5, .int 0, .int 0, .int 0, .int 0, .int 0, .int 0, .int 0, .long 0, .long 0])), (o_1, .inr (4, [.int 0, .ref e0, .int 0])), (o_3, .inr (4, [.int 0, .ref e0, .int 0])), (o_5, .inr (5, u_7))] := hD
  refine lv_aload_n hx hb dX1_init_37 rfl (lv_at hl 0 rfl) ?_
  refine lv_iconst (v := (-1)) hx hb dX1_init_38 (by decide) ?_
  refine va_put (D := D) (ci := 6) (v := .int (-1)) (ty := .int) (C := RX1) (T := TX1) (N := 13) hx hb hts iwX1 tyX1 tyX1_ok nmX1 hown hK hP hD hS 0 rfl rfl 4 (by decide) (hts _ q529) (fun _ h9 => h9) rfl (by decide +kernel) rfl rfl (Nat.le_of_ble_eq_true rfl) dX1_init_39 (fun H locs hP hD hS => ?_)
  have hP : va_P D vwCl [(h, .inr (6, [.int 0, .ref o_1, .ref o_3, .ref o_5, .int (-1), .int 0, .int 0, .int 0, .int 0, .int 0, .int 0, .long 0, .long 0])), (o_1, .inr (4, [.int 0, .ref e0, .int 0])), (o_3, .inr (4, [.int 0, .ref e0, .int 0])), (o_5, .inr (5, u_7))] H := hP
  have hD : va_D A [(h, .inr (6, [.int 0, .ref o_1, .ref o_3, .ref o_5, .int (-1), .int 0, .int 0, .int 0, .int 0, .int 0, .int 0, .long 0, .long 0])), (o_1, .inr (4, [.int 0, .ref e0, .int 0])), (o_3, .inr (4, [.int 0, .ref e0, .int 0])), (o_5, .inr (5, u_7))] := hD
  refine lv_aload_n hx hb dX1_init_42 rfl (lv_at hl 0 rfl) ?_
  refine lv_bipush (v := 100) hx hb dX1_init_43 (by decide) ?_
  refine va_put (D := D) (ci := 6) (v := .int 100) (ty := .int) (C := RX1) (T := TX1) (N := 13) hx hb hts iwX1 tyX1 tyX1_ok nmX1 hown hK hP hD hS 0 rfl rfl 5 (by decide) (hts _ q531) (fun _ h9 => h9) rfl (by decide +kernel) rfl rfl (Nat.le_of_ble_eq_true rfl) dX1_init_45 (fun H locs hP hD hS => ?_)
  have hP : va_P D vwCl [(h, .inr (6, [.int 0, .ref o_1, .ref o_3, .ref o_5, .int (-1), .int 100, .int 0, .int 0, .int 0, .int 0, .int 0, .long 0, .long 0])), (o_1, .inr (4, [.int 0, .ref e0, .int 0])), (o_3, .inr (4, [.int 0, .ref e0, .int 0])), (o_5, .inr (5, u_7))] H := hP
  have hD : va_D A [(h, .inr (6, [.int 0, .ref o_1, .ref o_3, .ref o_5, .int (-1), .int 100, .int 0, .int 0, .int 0, .int 0, .int 0, .long 0, .long 0])), (o_1, .inr (4, [.int 0, .ref e0, .int 0])), (o_3, .inr (4, [.int 0, .ref e0, .int 0])), (o_5, .inr (5, u_7))] := hD
  refine lv_aload_n hx hb dX1_init_48 rfl (lv_at hl 0 rfl) ?_
  refine lv_iconst (v := 0) hx hb dX1_init_49 (by decide) ?_
  refine va_put (D := D) (ci := 6) (v := .int 0) (ty := .boolean) (C := RX1) (T := TX1) (N := 13) hx hb hts iwX1 tyX1 tyX1_ok nmX1 hown hK hP hD hS 0 rfl rfl 6 (by decide) (hts _ q533) (fun _ h9 => h9) rfl (by decide +kernel) rfl rfl (Nat.le_of_ble_eq_true rfl) dX1_init_50 (fun H locs hP hD hS => ?_)
  have hP : va_P D vwCl [(h, .inr (6, [.int 0, .ref o_1, .ref o_3, .ref o_5, .int (-1), .int 100, .int 0, .int 0, .int 0, .int 0, .int 0, .long 0, .long 0])), (o_1, .inr (4, [.int 0, .ref e0, .int 0])), (o_3, .inr (4, [.int 0, .ref e0, .int 0])), (o_5, .inr (5, u_7))] H := hP
  have hD : va_D A [(h, .inr (6, [.int 0, .ref o_1, .ref o_3, .ref o_5, .int (-1), .int 100, .int 0, .int 0, .int 0, .int 0, .int 0, .long 0, .long 0])), (o_1, .inr (4, [.int 0, .ref e0, .int 0])), (o_3, .inr (4, [.int 0, .ref e0, .int 0])), (o_5, .inr (5, u_7))] := hD
  refine lv_aload_n hx hb dX1_init_53 rfl (lv_at hl 0 rfl) ?_
  refine lv_iconst (v := 0) hx hb dX1_init_54 (by decide) ?_
  refine va_put (D := D) (ci := 6) (v := .int 0) (ty := .int) (C := RX1) (T := TX1) (N := 13) hx hb hts iwX1 tyX1 tyX1_ok nmX1 hown hK hP hD hS 0 rfl rfl 7 (by decide) (hts _ q535) (fun _ h9 => h9) rfl (by decide +kernel) rfl rfl (Nat.le_of_ble_eq_true rfl) dX1_init_55 (fun H locs hP hD hS => ?_)
  have hP : va_P D vwCl [(h, .inr (6, [.int 0, .ref o_1, .ref o_3, .ref o_5, .int (-1), .int 100, .int 0, .int 0, .int 0, .int 0, .int 0, .long 0, .long 0])), (o_1, .inr (4, [.int 0, .ref e0, .int 0])), (o_3, .inr (4, [.int 0, .ref e0, .int 0])), (o_5, .inr (5, u_7))] H := hP
  have hD : va_D A [(h, .inr (6, [.int 0, .ref o_1, .ref o_3, .ref o_5, .int (-1), .int 100, .int 0, .int 0, .int 0, .int 0, .int 0, .long 0, .long 0])), (o_1, .inr (4, [.int 0, .ref e0, .int 0])), (o_3, .inr (4, [.int 0, .ref e0, .int 0])), (o_5, .inr (5, u_7))] := hD
  refine lv_aload_n hx hb dX1_init_58 rfl (lv_at hl 0 rfl) ?_
  refine lv_iconst (v := 0) hx hb dX1_init_59 (by decide) ?_
  refine va_put (D := D) (ci := 6) (v := .int 0) (ty := .int) (C := RX1) (T := TX1) (N := 13) hx hb hts iwX1 tyX1 tyX1_ok nmX1 hown hK hP hD hS 0 rfl rfl 8 (by decide) (hts _ q537) (fun _ h9 => h9) rfl (by decide +kernel) rfl rfl (Nat.le_of_ble_eq_true rfl) dX1_init_60 (fun H locs hP hD hS => ?_)
  have hP : va_P D vwCl [(h, .inr (6, [.int 0, .ref o_1, .ref o_3, .ref o_5, .int (-1), .int 100, .int 0, .int 0, .int 0, .int 0, .int 0, .long 0, .long 0])), (o_1, .inr (4, [.int 0, .ref e0, .int 0])), (o_3, .inr (4, [.int 0, .ref e0, .int 0])), (o_5, .inr (5, u_7))] H := hP
  have hD : va_D A [(h, .inr (6, [.int 0, .ref o_1, .ref o_3, .ref o_5, .int (-1), .int 100, .int 0, .int 0, .int 0, .int 0, .int 0, .long 0, .long 0])), (o_1, .inr (4, [.int 0, .ref e0, .int 0])), (o_3, .inr (4, [.int 0, .ref e0, .int 0])), (o_5, .inr (5, u_7))] := hD
  refine lv_aload_n hx hb dX1_init_63 rfl (lv_at hl 0 rfl) ?_
  refine lv_iconst (v := 0) hx hb dX1_init_64 (by decide) ?_
  refine va_put (D := D) (ci := 6) (v := .int 0) (ty := .int) (C := RX1) (T := TX1) (N := 13) hx hb hts iwX1 tyX1 tyX1_ok nmX1 hown hK hP hD hS 0 rfl rfl 9 (by decide) (hts _ q539) (fun _ h9 => h9) rfl (by decide +kernel) rfl rfl (Nat.le_of_ble_eq_true rfl) dX1_init_65 (fun H locs hP hD hS => ?_)
  have hP : va_P D vwCl [(h, .inr (6, [.int 0, .ref o_1, .ref o_3, .ref o_5, .int (-1), .int 100, .int 0, .int 0, .int 0, .int 0, .int 0, .long 0, .long 0])), (o_1, .inr (4, [.int 0, .ref e0, .int 0])), (o_3, .inr (4, [.int 0, .ref e0, .int 0])), (o_5, .inr (5, u_7))] H := hP
  have hD : va_D A [(h, .inr (6, [.int 0, .ref o_1, .ref o_3, .ref o_5, .int (-1), .int 100, .int 0, .int 0, .int 0, .int 0, .int 0, .long 0, .long 0])), (o_1, .inr (4, [.int 0, .ref e0, .int 0])), (o_3, .inr (4, [.int 0, .ref e0, .int 0])), (o_5, .inr (5, u_7))] := hD
  refine lv_aload_n hx hb dX1_init_68 rfl (lv_at hl 0 rfl) ?_
  refine lv_lconst (v := 0) hx hb dX1_init_69 (by decide) ?_
  refine va_put (D := D) (ci := 6) (v := .long 0) (ty := .long) (C := RX1) (T := TX1) (N := 13) hx hb hts iwX1 tyX1 tyX1_ok nmX1 hown hK hP hD hS 0 rfl rfl 11 (by decide) (hts _ q543) (fun _ h9 => h9) rfl (by decide +kernel) rfl rfl (Nat.le_of_ble_eq_true rfl) dX1_init_70 (fun H locs hP hD hS => ?_)
  have hP : va_P D vwCl [(h, .inr (6, [.int 0, .ref o_1, .ref o_3, .ref o_5, .int (-1), .int 100, .int 0, .int 0, .int 0, .int 0, .int 0, .long 0, .long 0])), (o_1, .inr (4, [.int 0, .ref e0, .int 0])), (o_3, .inr (4, [.int 0, .ref e0, .int 0])), (o_5, .inr (5, u_7))] H := hP
  have hD : va_D A [(h, .inr (6, [.int 0, .ref o_1, .ref o_3, .ref o_5, .int (-1), .int 100, .int 0, .int 0, .int 0, .int 0, .int 0, .long 0, .long 0])), (o_1, .inr (4, [.int 0, .ref e0, .int 0])), (o_3, .inr (4, [.int 0, .ref e0, .int 0])), (o_5, .inr (5, u_7))] := hD
  refine lv_aload_n hx hb dX1_init_73 rfl (lv_at hl 0 rfl) ?_
  refine lv_lconst (v := 0) hx hb dX1_init_74 (by decide) ?_
  refine va_put (D := D) (ci := 6) (v := .long 0) (ty := .long) (C := RX1) (T := TX1) (N := 13) hx hb hts iwX1 tyX1 tyX1_ok nmX1 hown hK hP hD hS 0 rfl rfl 12 (by decide) (hts _ q545) (fun _ h9 => h9) rfl (by decide +kernel) rfl rfl (Nat.le_of_ble_eq_true rfl) dX1_init_75 (fun H locs hP hD hS => ?_)
  have hP : va_P D vwCl [(h, .inr (6, [.int 0, .ref o_1, .ref o_3, .ref o_5, .int (-1), .int 100, .int 0, .int 0, .int 0, .int 0, .int 0, .long 0, .long 0])), (o_1, .inr (4, [.int 0, .ref e0, .int 0])), (o_3, .inr (4, [.int 0, .ref e0, .int 0])), (o_5, .inr (5, u_7))] H := hP
  have hD : va_D A [(h, .inr (6, [.int 0, .ref o_1, .ref o_3, .ref o_5, .int (-1), .int 100, .int 0, .int 0, .int 0, .int 0, .int 0, .long 0, .long 0])), (o_1, .inr (4, [.int 0, .ref e0, .int 0])), (o_3, .inr (4, [.int 0, .ref e0, .int 0])), (o_5, .inr (5, u_7))] := hD
  refine lv_aload_n hx hb dX1_init_78 rfl (lv_at hl 0 rfl) ?_
  refine lv_iload_n hx hb dX1_init_79 rfl (lv_at hl 1 rfl) ?_
  refine va_putF (D := D) (ci := 6) (v := .int p0) (ty := .char) (C := RX1) (T := TX1) (N := 13) hx hb hts iwX1 tyX1 tyX1_ok nmX1 hown hK hP hD hS 0 rfl rfl 0 (by decide) (hts _ q522) (fun _ h9 => h9) rfl hin rfl (by decide +kernel) hn hf (Nat.le_of_ble_eq_true rfl) dX1_init_80 (fun H locs hP hD hS => ?_)
  have hP : va_P D vwCl [(h, .inr (6, [.int p0, .ref o_1, .ref o_3, .ref o_5, .int (-1), .int 100, .int 0, .int 0, .int 0, .int 0, .int 0, .long 0, .long 0])), (o_1, .inr (4, [.int 0, .ref e0, .int 0])), (o_3, .inr (4, [.int 0, .ref e0, .int 0])), (o_5, .inr (5, u_7))] H := hP
  have hD : va_D A [(h, .inr (6, [.int p0, .ref o_1, .ref o_3, .ref o_5, .int (-1), .int 100, .int 0, .int 0, .int 0, .int 0, .int 0, .long 0, .long 0])), (o_1, .inr (4, [.int 0, .ref e0, .int 0])), (o_3, .inr (4, [.int 0, .ref e0, .int 0])), (o_5, .inr (5, u_7))] := hD
  refine lv_aload_n hx hb dX1_init_83 rfl (lv_at hl 0 rfl) ?_
  refine lv_iload_n hx hb dX1_init_84 rfl (lv_at hl 2 rfl) ?_
  refine va_put (D := D) (ci := 6) (v := .int p1) (ty := .int) (C := RX1) (T := TX1) (N := 13) hx hb hts iwX1 tyX1 tyX1_ok nmX1 hown hK hP hD hS 0 rfl rfl 10 (by decide) (hts _ q541) (fun _ h9 => h9) rfl (by decide +kernel) rfl rfl (Nat.le_of_ble_eq_true rfl) dX1_init_85 (fun H locs hP hD hS => ?_)
  have hP : va_P D vwCl [(h, .inr (6, [.int p0, .ref o_1, .ref o_3, .ref o_5, .int (-1), .int 100, .int 0, .int 0, .int 0, .int 0, .int p1, .long 0, .long 0])), (o_1, .inr (4, [.int 0, .ref e0, .int 0])), (o_3, .inr (4, [.int 0, .ref e0, .int 0])), (o_5, .inr (5, u_7))] H := hP
  have hD : va_D A [(h, .inr (6, [.int p0, .ref o_1, .ref o_3, .ref o_5, .int (-1), .int 100, .int 0, .int 0, .int 0, .int 0, .int p1, .long 0, .long 0])), (o_1, .inr (4, [.int 0, .ref e0, .int 0])), (o_3, .inr (4, [.int 0, .ref e0, .int 0])), (o_5, .inr (5, u_7))] := hD
  have hP9 := hP.sub (ws' := [(h, .inr (6, [.int p0, .ref o_1, .ref o_3, .ref o_5, .int (-1), .int 100, .int 0, .int 0, .int 0, .int 0, .int p1, .long 0, .long 0]))]) [0] rfl
  have hD9 := hD.sub (ws' := [(h, .inr (6, [.int p0, .ref o_1, .ref o_3, .ref o_5, .int (-1), .int 100, .int 0, .int 0, .int 0, .int 0, .int p1, .long 0, .long 0]))]) [0] (by decide) rfl
  refine W.widen (k := 7) (n := 25) (Nat.le_of_ble_eq_true rfl) (Nat.le_of_ble_eq_true rfl) ?_
  exact W.vret hx hb hr (fun t ht hW => ⟨⟨[.int p0, .ref o_1, .ref o_3, .ref o_5, .int (-1), .int 100, .int 0, .int 0, .int 0, .int 0, .int p1, .long 0, .long 0], rfl, trivial, by rw [ht]; exact hP9, hD9⟩, hS.F ht⟩) hS.2.2 dX1_init_88
set_option maxHeartbeats 4000000 in
set_option maxRecDepth 100000 in
/-- LysimeterFieldModel$Column made -/
theorem k_MC_init (l : Launch) (D : va_G) (e0 : Nat) (h : Nat) (p0 : Int32) (sz : Nat) (hn : narrow .char (.int p0) = .int p0) (hf : fits .char (.int p0) = true) : Met l yX8_init (wsA yX8_init cX8_init 2 none) ({ frames := 4, cells := 3, slots := 9, locals := 72 }) (va_Pc [.ref h, .int p0] (EW e0 D [] [(h, .inr (12, [.int 0, .null, .null, .int 0, .int 0, .int 0, .int 0, .int 0, .int 0, .int 0, .long 0, .int 0, .long 0, .long 0, .long 0, .long 0, .long 0, .null]))] sz)) (va_Qv (fun (_ : List Value) => True) (fun u t => va_P D vwCl [(h, .inr (12, u))] t.heap ∧ va_D (va_A [(h, .inr (12, [.int 0, .null, .null, .int 0, .int 0, .int 0, .int 0, .int 0, .int 0, .int 0, .long 0, .int 0, .long 0, .long 0, .long 0, .long 0, .long 0, .null]))] sz) [(h, .inr (12, u))]) (va_A [(h, .inr (12, [.int 0, .null, .null, .int 0, .int 0, .int 0, .int 0, .int 0, .int 0, .int 0, .long 0, .int 0, .long 0, .long 0, .long 0, .long 0, .long 0, .null]))] sz)) 3 9 (va_A [(h, .inr (12, [.int 0, .null, .null, .int 0, .int 0, .int 0, .int 0, .int 0, .int 0, .int 0, .long 0, .int 0, .long 0, .long 0, .long 0, .long 0, .long 0, .null]))] sz) := by
  refine Met.ofW (cc := cX8_init) (maxL := 2) (ret := none) (by decide) rfl ?_
  intro p e s m args below meth c s₁ B hml hv
  obtain ⟨rfl, ⟨hsz, hP, hK, hD0, hG, hZ0⟩, hZd0⟩ := hv
  have hx := B.exec
  have hb := B.bytes
  have hr := B.returns
  have hts0 := atoms_spec (ws := wsA yX8_init cX8_init 2 none) B.pre
  have hts : ∀ w ∈ lw_all, w.before _ s = true := fun w h => hts0 w (List.mem_cons_of_mem _ h)
  have hown : s.vm.findClass RX8 = some m.cls := findClass_of_methodNamed B.named
  have hlocks := B.notSynchronized
  have hin : meth.name = "<init>" := (name_of_methodNamed B.named B.method).1
  subst hsz
  have hZ := ZZ.wide hP hZ0
  have hZd := ZD.wide hP hZd0
  have hD := hD0.self (sz := s.heap.size)
  generalize hAe : va_A [(h, .inr (12, [.int 0, .null, .null, .int 0, .int 0, .int 0, .int 0, .int 0, .int 0, .int 0, .long 0, .int 0, .long 0, .long 0, .long 0, .long 0, .long 0, .null]))] s.heap.size = A at hD hZ hZd ⊢
  have hA : ∀ q : Nat, s.heap.size ≤ q → A q := fun q h => by rw [← hAe]; exact Or.inr h
  have hS : va_S A s.heap s.heap [] := va_S.rf
  have hP : va_P D vwCl [(h, .inr (12, [.int 0, .null, .null, .int 0, .int 0, .int 0, .int 0, .int 0, .int 0, .int 0, .long 0, .int 0, .long 0, .long 0, .long 0, .long 0, .long 0, .null]))] s.heap := hP
  have hl := lv_entry ([.ref h, .int p0]) (n := 2) (Nat.le_of_ble_eq_true rfl)
  rw [lg_entry_eq]
  generalize (lg_sl ([.ref h, .int p0]) ++ List.replicate (2 - (lg_sl ([.ref h, .int p0])).length) Slot.unset).toArray = ls at hl ⊢
  have hl : lv_has ls 2 [(0, .ref h), (1, .int p0)] := hl
  refine lv_aload_n hx hb dX8_init_0 rfl (lv_at hl 0 rfl) ?_
  refine W.objInit hx hb hown (hts _ q1271) (hts _ q48) (hts _ q49) rfl (by rw [hml]; exact hl.1) rfl dX8_init_1 (Nat.le_of_ble_eq_true rfl) (Nat.le_of_ble_eq_true rfl) ?_
  refine W.eq (g2 := F0 m 4 ls []) rfl ?_
  refine lv_aload_n hx hb dX8_init_4 rfl (lv_at hl 0 rfl) ?_
  refine va_new (ci := 4) (fs := [.int 0, .null, .int 0]) (C := RJx4a65c) (T := TJx4a65c) (N := 3) hx hb hts iwJx4a65c tyJx4a65c tyJx4a65c_ok hown (hts _ q1272) (hts _ q51) (hts _ q4) hK hP hD hS hA rfl (fun j hj => by rcases (show j = 0 ∨ j = 1 ∨ j = 2 by omega) with rfl | rfl | rfl <;> rfl) (Nat.le_of_ble_eq_true rfl) (Nat.le_of_ble_eq_true rfl) dX8_init_5 (fun o_1 H hP hD hS => ?_)
  have hP : va_P D vwCl [(h, .inr (12, [.int 0, .null, .null, .int 0, .int 0, .int 0, .int 0, .int 0, .int 0, .int 0, .long 0, .int 0, .long 0, .long 0, .long 0, .long 0, .long 0, .null])), (o_1, .inr (4, [.int 0, .null, .int 0]))] H := hP
  have hD : va_D A [(h, .inr (12, [.int 0, .null, .null, .int 0, .int 0, .int 0, .int 0, .int 0, .int 0, .int 0, .long 0, .int 0, .long 0, .long 0, .long 0, .long 0, .long 0, .null])), (o_1, .inr (4, [.int 0, .null, .int 0]))] := hD
  refine lv_dup hx hb dX8_init_8 rfl ?_
  have hPc := hP.sub (ws' := [(o_1, .inr (4, [.int 0, .null, .int 0]))]) [1] rfl
  have hDc := hD.sub (ws' := [(o_1, .inr (4, [.int 0, .null, .int 0]))]) [1] (by decide) rfl
  have hKc := hK.sub (tys' := []) [] rfl
  have hFc := va_free (wc := [(o_1, .inr (4, [.int 0, .null, .int 0]))]) hD hS hA [1] rfl
  refine va_callv (va_runI (As := []) (rest := [.ref o_1, .ref h]) ⟨hx, hb, hml, hown, hts⟩ (k_AL_init l D e0 o_1 0 (.null) 0 H.size) (cwI 0 hts (gA q54) rfl rfl rfl (hts _ q4) (hts _ q1273) (hts _ q53) rfl (by decide +kernel) ⟨Nat.le_of_ble_eq_true rfl, Nat.le_of_ble_eq_true rfl⟩) ⟨EW.fb, fun U hU hW => ⟨rfl, EW.at hPc hKc hDc hG (hZ.no hS) (ZD.no hZd hS) U hU hW⟩⟩ rfl rfl hl.1 rfl (lv_room (Nat.le_of_ble_eq_true rfl)) dX8_init_9 ⟨Nat.le_of_ble_eq_true rfl, Nat.le_of_ble_eq_true rfl⟩) hS (fun q _ h => hFc q h) hFc (fun u t H1 locs ht hvm hw hB hz1 hk1 hS => ?_)
  obtain ⟨hP1, hD1⟩ := hB
  rw [ht] at hP1
  obtain ⟨hP, hD⟩ := va_join (wr := [(h, .inr (12, [.int 0, .null, .null, .int 0, .int 0, .int 0, .int 0, .int 0, .int 0, .int 0, .long 0, .int 0, .long 0, .long 0, .long 0, .long 0, .long 0, .null]))]) (w1 := [(o_1, .inr (4, [.int 0, .ref e0, .int 0]))]) hP hD [1] [0] rfl rfl (by decide) (by decide) hk1 hFc hP1 hD1
  generalize H1 = H at hP hS ⊢
  have hP : va_P D vwCl [(h, .inr (12, [.int 0, .null, .null, .int 0, .int 0, .int 0, .int 0, .int 0, .int 0, .int 0, .long 0, .int 0, .long 0, .long 0, .long 0, .long 0, .long 0, .null])), (o_1, .inr (4, [.int 0, .ref e0, .int 0]))] H := hP
  have hD : va_D A [(h, .inr (12, [.int 0, .null, .null, .int 0, .int 0, .int 0, .int 0, .int 0, .int 0, .int 0, .long 0, .int 0, .long 0, .long 0, .long 0, .long 0, .long 0, .null])), (o_1, .inr (4, [.int 0, .ref e0, .int 0]))] := hD
  refine va_putF (D := D) (ci := 12) (v := .ref o_1) (ty := (.object "java/util/ArrayList")) (C := RX8) (T := TX8) (N := 18) hx hb hts iwX8 tyX8 tyX8_ok nmX8 hown hK hP hD hS 0 rfl rfl 1 (by decide) (hts _ q1275) (fun _ h9 => h9) rfl hin rfl (by decide +kernel) rfl rfl (Nat.le_of_ble_eq_true rfl) dX8_init_12 (fun H locs hP hD hS => ?_)
  have hP : va_P D vwCl [(h, .inr (12, [.int 0, .ref o_1, .null, .int 0, .int 0, .int 0, .int 0, .int 0, .int 0, .int 0, .long 0, .int 0, .long 0, .long 0, .long 0, .long 0, .long 0, .null])), (o_1, .inr (4, [.int 0, .ref e0, .int 0]))] H := hP
  have hD : va_D A [(h, .inr (12, [.int 0, .ref o_1, .null, .int 0, .int 0, .int 0, .int 0, .int 0, .int 0, .int 0, .long 0, .int 0, .long 0, .long 0, .long 0, .long 0, .long 0, .null])), (o_1, .inr (4, [.int 0, .ref e0, .int 0]))] := hD
  refine lv_aload_n hx hb dX8_init_15 rfl (lv_at hl 0 rfl) ?_
  refine va_new (ci := 4) (fs := [.int 0, .null, .int 0]) (C := RJx4a65c) (T := TJx4a65c) (N := 3) hx hb hts iwJx4a65c tyJx4a65c tyJx4a65c_ok hown (hts _ q1272) (hts _ q51) (hts _ q4) hK hP hD hS hA rfl (fun j hj => by rcases (show j = 0 ∨ j = 1 ∨ j = 2 by omega) with rfl | rfl | rfl <;> rfl) (Nat.le_of_ble_eq_true rfl) (Nat.le_of_ble_eq_true rfl) dX8_init_16 (fun o_3 H hP hD hS => ?_)
  have hP : va_P D vwCl [(h, .inr (12, [.int 0, .ref o_1, .null, .int 0, .int 0, .int 0, .int 0, .int 0, .int 0, .int 0, .long 0, .int 0, .long 0, .long 0, .long 0, .long 0, .long 0, .null])), (o_1, .inr (4, [.int 0, .ref e0, .int 0])), (o_3, .inr (4, [.int 0, .null, .int 0]))] H := hP
  have hD : va_D A [(h, .inr (12, [.int 0, .ref o_1, .null, .int 0, .int 0, .int 0, .int 0, .int 0, .int 0, .int 0, .long 0, .int 0, .long 0, .long 0, .long 0, .long 0, .long 0, .null])), (o_1, .inr (4, [.int 0, .ref e0, .int 0])), (o_3, .inr (4, [.int 0, .null, .int 0]))] := hD
  refine lv_dup hx hb dX8_init_19 rfl ?_
  have hPc := hP.sub (ws' := [(o_3, .inr (4, [.int 0, .null, .int 0]))]) [2] rfl
  have hDc := hD.sub (ws' := [(o_3, .inr (4, [.int 0, .null, .int 0]))]) [2] (by decide) rfl
  have hKc := hK.sub (tys' := []) [] rfl
  have hFc := va_free (wc := [(o_3, .inr (4, [.int 0, .null, .int 0]))]) hD hS hA [2] rfl
  refine va_callv (va_runI (As := []) (rest := [.ref o_3, .ref h]) ⟨hx, hb, hml, hown, hts⟩ (k_AL_init l D e0 o_3 0 (.null) 0 H.size) (cwI 0 hts (gA q54) rfl rfl rfl (hts _ q4) (hts _ q1273) (hts _ q53) rfl (by decide +kernel) ⟨Nat.le_of_ble_eq_true rfl, Nat.le_of_ble_eq_true rfl⟩) ⟨EW.fb, fun U hU hW => ⟨rfl, EW.at hPc hKc hDc hG (hZ.no hS) (ZD.no hZd hS) U hU hW⟩⟩ rfl rfl hl.1 rfl (lv_room (Nat.le_of_ble_eq_true rfl)) dX8_init_20 ⟨Nat.le_of_ble_eq_true rfl, Nat.le_of_ble_eq_true rfl⟩) hS (fun q _ h => hFc q h) hFc (fun u t H1 locs ht hvm hw hB hz1 hk1 hS => ?_)
  obtain ⟨hP1, hD1⟩ := hB
  rw [ht] at hP1
  obtain ⟨hP, hD⟩ := va_join (wr := [(h, .inr (12, [.int 0, .ref o_1, .null, .int 0, .int 0, .int 0, .int 0, .int 0, .int 0, .int 0, .long 0, .int 0, .long 0, .long 0, .long 0, .long 0, .long 0, .null])), (o_1, .inr (4, [.int 0, .ref e0, .int 0]))]) (w1 := [(o_3, .inr (4, [.int 0, .ref e0, .int 0]))]) hP hD [2] [0, 1] rfl rfl (by decide) (by decide) hk1 hFc hP1 hD1
  generalize H1 = H at hP hS ⊢
  have hP : va_P D vwCl [(h, .inr (12, [.int 0, .ref o_1, .null, .int 0, .int 0, .int 0, .int 0, .int 0, .int 0, .int 0, .long 0, .int 0, .long 0, .long 0, .long 0, .long 0, .long 0, .null])), (o_1, .inr (4, [.int 0, .ref e0, .int 0])), (o_3, .inr (4, [.int 0, .ref e0, .int 0]))] H := hP
  have hD : va_D A [(h, .inr (12, [.int 0, .ref o_1, .null, .int 0, .int 0, .int 0, .int 0, .int 0, .int 0, .int 0, .long 0, .int 0, .long 0, .long 0, .long 0, .long 0, .long 0, .null])), (o_1, .inr (4, [.int 0, .ref e0, .int 0])), (o_3, .inr (4, [.int 0, .ref e0, .int 0]))] := hD
  refine va_putF (D := D) (ci := 12) (v := .ref o_3) (ty := (.object "java/util/ArrayList")) (C := RX8) (T := TX8) (N := 18) hx hb hts iwX8 tyX8 tyX8_ok nmX8 hown hK hP hD hS 0 rfl rfl 2 (by decide) (hts _ q1277) (fun _ h9 => h9) rfl hin rfl (by decide +kernel) rfl rfl (Nat.le_of_ble_eq_true rfl) dX8_init_23 (fun H locs hP hD hS => ?_)
  have hP : va_P D vwCl [(h, .inr (12, [.int 0, .ref o_1, .ref o_3, .int 0, .int 0, .int 0, .int 0, .int 0, .int 0, .int 0, .long 0, .int 0, .long 0, .long 0, .long 0, .long 0, .long 0, .null])), (o_1, .inr (4, [.int 0, .ref e0, .int 0])), (o_3, .inr (4, [.int 0, .ref e0, .int 0]))] H := hP
  have hD : va_D A [(h, .inr (12, [.int 0, .ref o_1, .ref o_3, .int 0, .int 0, .int 0, .int 0, .int 0, .int 0, .int 0, .long 0, .int 0, .long 0, .long 0, .long 0, .long 0, .long 0, .null])), (o_1, .inr (4, [.int 0, .ref e0, .int 0])), (o_3, .inr (4, [.int 0, .ref e0, .int 0]))] := hD
  refine lv_aload_n hx hb dX8_init_26 rfl (lv_at hl 0 rfl) ?_
  refine lv_iconst (v := (-1)) hx hb dX8_init_27 (by decide) ?_
  refine va_put (D := D) (ci := 12) (v := .int (-1)) (ty := .int) (C := RX8) (T := TX8) (N := 18) hx hb hts iwX8 tyX8 tyX8_ok nmX8 hown hK hP hD hS 0 rfl rfl 3 (by decide) (hts _ q1279) (fun _ h9 => h9) rfl (by decide +kernel) rfl rfl (Nat.le_of_ble_eq_true rfl) dX8_init_28 (fun H locs hP hD hS => ?_)
  have hP : va_P D vwCl [(h, .inr (12, [.int 0, .ref o_1, .ref o_3, .int (-1), .int 0, .int 0, .int 0, .int 0, .int 0, .int 0, .long 0, .int 0, .long 0, .long 0, .long 0, .long 0, .long 0, .null])), (o_1, .inr (4, [.int 0, .ref e0, .int 0])), (o_3, .inr (4, [.int 0, .ref e0, .int 0]))] H := hP
  have hD : va_D A [(h, .inr (12, [.int 0, .ref o_1, .ref o_3, .int (-1), .int 0, .int 0, .int 0, .int 0, .int 0, .int 0, .long 0, .int 0, .long 0, .long 0, .long 0, .long 0, .long 0, .null])), (o_1, .inr (4, [.int 0, .ref e0, .int 0])), (o_3, .inr (4, [.int 0, .ref e0, .int 0]))] := hD
  refine lv_aload_n hx hb dX8_init_31 rfl (lv_at hl 0 rfl) ?_
  refine lv_bipush (v := 100) hx hb dX8_init_32 (by decide) ?_
  refine va_put (D := D) (ci := 12) (v := .int 100) (ty := .int) (C := RX8) (T := TX8) (N := 18) hx hb hts iwX8 tyX8 tyX8_ok nmX8 hown hK hP hD hS 0 rfl rfl 4 (by decide) (hts _ q1281) (fun _ h9 => h9) rfl (by decide +kernel) rfl rfl (Nat.le_of_ble_eq_true rfl) dX8_init_34 (fun H locs hP hD hS => ?_)
  have hP : va_P D vwCl [(h, .inr (12, [.int 0, .ref o_1, .ref o_3, .int (-1), .int 100, .int 0, .int 0, .int 0, .int 0, .int 0, .long 0, .int 0, .long 0, .long 0, .long 0, .long 0, .long 0, .null])), (o_1, .inr (4, [.int 0, .ref e0, .int 0])), (o_3, .inr (4, [.int 0, .ref e0, .int 0]))] H := hP
  have hD : va_D A [(h, .inr (12, [.int 0, .ref o_1, .ref o_3, .int (-1), .int 100, .int 0, .int 0, .int 0, .int 0, .int 0, .long 0, .int 0, .long 0, .long 0, .long 0, .long 0, .long 0, .null])), (o_1, .inr (4, [.int 0, .ref e0, .int 0])), (o_3, .inr (4, [.int 0, .ref e0, .int 0]))] := hD
  refine lv_aload_n hx hb dX8_init_37 rfl (lv_at hl 0 rfl) ?_
  refine lv_iconst (v := 3) hx hb dX8_init_38 (by decide) ?_
  refine va_newa (atype := .long) (a0 := (3, .inr (.inl (fun _ => 0)))) (N' := 3) (ty := .long) hx hb (hts _ q120) rfl hK hP hD hS hA (fun cA => rfl) (by decide) (by decide) (Nat.le_of_ble_eq_true rfl) (Nat.le_of_ble_eq_true rfl) (Nat.le_of_ble_eq_true rfl) dX8_init_39 (fun o_5 cA_6 H hK hP hD hS => ?_)
  have hP : va_P D vwCl [(h, .inr (12, [.int 0, .ref o_1, .ref o_3, .int (-1), .int 100, .int 0, .int 0, .int 0, .int 0, .int 0, .long 0, .int 0, .long 0, .long 0, .long 0, .long 0, .long 0, .null])), (o_1, .inr (4, [.int 0, .ref e0, .int 0])), (o_3, .inr (4, [.int 0, .ref e0, .int 0])), (o_5, .inl (cA_6, 3, .inr (.inl (fun _ => 0))))] H := hP
  have hD : va_D A [(h, .inr (12, [.int 0, .ref o_1, .ref o_3, .int (-1), .int 100, .int 0, .int 0, .int 0, .int 0, .int 0, .long 0, .int 0, .long 0, .long 0, .long 0, .long 0, .long 0, .null])), (o_1, .inr (4, [.int 0, .ref e0, .int 0])), (o_3, .inr (4, [.int 0, .ref e0, .int 0])), (o_5, .inl (cA_6, 3, .inr (.inl (fun _ => 0))))] := hD
  have hK : va_K D vwCl [(cA_6, .long)] s := hK
  refine va_putF (D := D) (ci := 12) (v := .ref o_5) (ty := (.array .long)) (C := RX8) (T := TX8) (N := 18) hx hb hts iwX8 tyX8 tyX8_ok nmX8 hown hK hP hD hS 0 rfl rfl 17 (by decide) (hts _ q1306) (fun _ h9 => h9) rfl hin rfl (by decide +kernel) rfl rfl (Nat.le_of_ble_eq_true rfl) dX8_init_41 (fun H locs hP hD hS => ?_)
  have hP : va_P D vwCl [(h, .inr (12, [.int 0, .ref o_1, .ref o_3, .int (-1), .int 100, .int 0, .int 0, .int 0, .int 0, .int 0, .long 0, .int 0, .long 0, .long 0, .long 0, .long 0, .long 0, .ref o_5])), (o_1, .inr (4, [.int 0, .ref e0, .int 0])), (o_3, .inr (4, [.int 0, .ref e0, .int 0])), (o_5, .inl (cA_6, 3, .inr (.inl (fun _ => 0))))] H := hP
  have hD : va_D A [(h, .inr (12, [.int 0, .ref o_1, .ref o_3, .int (-1), .int 100, .int 0, .int 0, .int 0, .int 0, .int 0, .long 0, .int 0, .long 0, .long 0, .long 0, .long 0, .long 0, .ref o_5])), (o_1, .inr (4, [.int 0, .ref e0, .int 0])), (o_3, .inr (4, [.int 0, .ref e0, .int 0])), (o_5, .inl (cA_6, 3, .inr (.inl (fun _ => 0))))] := hD
  refine lv_aload_n hx hb dX8_init_44 rfl (lv_at hl 0 rfl) ?_
  refine lv_iload_n hx hb dX8_init_45 rfl (lv_at hl 1 rfl) ?_
  refine va_putF (D := D) (ci := 12) (v := .int p0) (ty := .char) (C := RX8) (T := TX8) (N := 18) hx hb hts iwX8 tyX8 tyX8_ok nmX8 hown hK hP hD hS 0 rfl rfl 0 (by decide) (hts _ q1274) (fun _ h9 => h9) rfl hin rfl (by decide +kernel) hn hf (Nat.le_of_ble_eq_true rfl) dX8_init_46 (fun H locs hP hD hS => ?_)
  have hP : va_P D vwCl [(h, .inr (12, [.int p0, .ref o_1, .ref o_3, .int (-1), .int 100, .int 0, .int 0, .int 0, .int 0, .int 0, .long 0, .int 0, .long 0, .long 0, .long 0, .long 0, .long 0, .ref o_5])), (o_1, .inr (4, [.int 0, .ref e0, .int 0])), (o_3, .inr (4, [.int 0, .ref e0, .int 0])), (o_5, .inl (cA_6, 3, .inr (.inl (fun _ => 0))))] H := hP
  have hD : va_D A [(h, .inr (12, [.int p0, .ref o_1, .ref o_3, .int (-1), .int 100, .int 0, .int 0, .int 0, .int 0, .int 0, .long 0, .int 0, .long 0, .long 0, .long 0, .long 0, .long 0, .ref o_5])), (o_1, .inr (4, [.int 0, .ref e0, .int 0])), (o_3, .inr (4, [.int 0, .ref e0, .int 0])), (o_5, .inl (cA_6, 3, .inr (.inl (fun _ => 0))))] := hD
  have hP9 := hP.sub (ws' := [(h, .inr (12, [.int p0, .ref o_1, .ref o_3, .int (-1), .int 100, .int 0, .int 0, .int 0, .int 0, .int 0, .long 0, .int 0, .long 0, .long 0, .long 0, .long 0, .long 0, .ref o_5]))]) [0] rfl
  have hD9 := hD.sub (ws' := [(h, .inr (12, [.int p0, .ref o_1, .ref o_3, .int (-1), .int 100, .int 0, .int 0, .int 0, .int 0, .int 0, .long 0, .int 0, .long 0, .long 0, .long 0, .long 0, .long 0, .ref o_5]))]) [0] (by decide) rfl
  refine W.widen (k := 3) (n := 9) (Nat.le_of_ble_eq_true rfl) (Nat.le_of_ble_eq_true rfl) ?_
  exact W.vret hx hb hr (fun t ht hW => ⟨⟨[.int p0, .ref o_1, .ref o_3, .int (-1), .int 100, .int 0, .int 0, .int 0, .int 0, .int 0, .long 0, .int 0, .long 0, .long 0, .long 0, .long 0, .long 0, .ref o_5], rfl, trivial, by rw [ht]; exact hP9, hD9⟩, hS.F ht⟩) hS.2.2 dX8_init_49
set_option maxHeartbeats 4000000 in
set_option maxRecDepth 100000 in
/-- grow(1) of an empty list: ten places -/
theorem k_AL_growI (l : Launch) (D : va_G) (e0 : Nat) (h : Nat) (md : Int32) (sz : Nat) : Met l yJx4a65c_grow_92f84 (wsA yJx4a65c_grow_92f84 cJx4a65c_grow_92f84 4 (some (.array (.object "java/lang/Object")))) ({ frames := 1, cells := 1, slots := 10, locals := 14 }) (va_Pc [.ref h, .int 1] (EY e0 D [] [(h, .inr (4, [.int md, .ref e0, .int 0]))] sz)) (va_Qr (fun (_ : ClassId) => True) (fun u ra t => va_P D vwCl [(h, .inr (4, [.int md, .ref ra, .int 0])), (ra, .inl (u, 10, (.inr (.inr (.inr (.inr (fun _ => none)))))))] t.heap ∧ va_D (va_A [(h, .inr (4, [.int md, .ref e0, .int 0]))] sz) [(h, .inr (4, [.int md, .ref ra, .int 0])), (ra, .inl (u, 10, (.inr (.inr (.inr (.inr (fun _ => none)))))))] ∧ va_K D vwCl [(u, .object "java/lang/Object")] t) (va_A [(h, .inr (4, [.int md, .ref e0, .int 0]))] sz)) 1 10 (va_A [(h, .inr (4, [.int md, .ref e0, .int 0]))] sz) := by
  refine Met.ofW (cc := cJx4a65c_grow_92f84) (maxL := 4) (ret := (some (.array (.object "java/lang/Object")))) (by decide) rfl ?_
  intro p e s m args below meth c s₁ B hml hv
  obtain ⟨rfl, ⟨⟨hsz, hP, hK, hD0, hG, hZ0⟩, hZd0⟩, hZt, hAO⟩ := hv
  have hx := B.exec
  have hb := B.bytes
  have hr := B.returns
  have hts0 := atoms_spec (ws := wsA yJx4a65c_grow_92f84 cJx4a65c_grow_92f84 4 (some (.array (.object "java/lang/Object")))) B.pre
  have hts : ∀ w ∈ lw_all, w.before _ s = true := fun w h => hts0 w (List.mem_cons_of_mem _ h)
  have hown : s.vm.findClass RJx4a65c = some m.cls := findClass_of_methodNamed B.named
  have hlocks := B.notSynchronized
  subst hsz
  have hZ := ZZ.wide hP hZ0
  have hZd := ZD.wide hP hZd0
  have hD := hD0.self (sz := s.heap.size)
  generalize hAe : va_A [(h, .inr (4, [.int md, .ref e0, .int 0]))] s.heap.size = A at hD hZ hZd hZt ⊢
  have hA : ∀ q : Nat, s.heap.size ≤ q → A q := fun q h => by rw [← hAe]; exact Or.inr h
  have hS : va_S A s.heap s.heap [] := va_S.rf
  have hP : va_P D vwCl [(h, .inr (4, [.int md, .ref e0, .int 0]))] s.heap := hP
  have hl := lv_entry ([.ref h, .int 1]) (n := 4) (Nat.le_of_ble_eq_true rfl)
  rw [lg_entry_eq]
  generalize (lg_sl ([.ref h, .int 1]) ++ List.replicate (4 - (lg_sl ([.ref h, .int 1])).length) Slot.unset).toArray = ls at hl ⊢
  have hl : lv_has ls 4 [(0, .ref h), (1, .int 1)] := hl
  refine lv_aload_n hx hb dJx4a65c_grow_92f84_0 rfl (lv_at hl 0 rfl) ?_
  refine va_get (D := D) (ci := 4) (v := .ref e0) (C := RJx4a65c) (T := TJx4a65c) (N := 3) hx hb hts iwJx4a65c hown hK hP 0 rfl rfl 1 (by decide) (hts _ q64) (fun _ h9 => h9) rfl dJx4a65c_grow_92f84_1 ?_
  refine va_tlen (v := 0) hx hb hZt hS (by decide) dJx4a65c_grow_92f84_4 ?_
  refine lv_istore_n (lv' := [(2, .int 0), (0, .ref h), (1, .int 1)]) hx hb dJx4a65c_grow_92f84_5 rfl hl (by decide) rfl (fun ls hl => ?_)
  refine lv_iload_n hx hb dJx4a65c_grow_92f84_6 rfl (lv_at hl 0 rfl) ?_
  refine lv_if_gt (tgt := 20) hx hb dJx4a65c_grow_92f84_7 (by decide) (fun c_1 => ?_) (fun c_1 => ?_)
  · exact absurd c_1 (by decide)
  · refine lv_aload_n hx hb dJx4a65c_grow_92f84_10 rfl (lv_at hl 1 rfl) ?_
    refine va_get (D := D) (ci := 4) (v := .ref e0) (C := RJx4a65c) (T := TJx4a65c) (N := 3) hx hb hts iwJx4a65c hown hK hP 0 rfl rfl 1 (by decide) (hts _ q64) (fun _ h9 => h9) rfl dJx4a65c_grow_92f84_11 ?_
    refine va_gets (v := .ref e0) hx hb hZd hS hown (hts _ q62) (fun _ h9 => h9) dJx4a65c_grow_92f84_14 ?_
    refine lv_acmp_eq (rx := some e0) (ry := some e0) (tgt := 45) hx hb dJx4a65c_grow_92f84_17 (by decide) (fun c_2 => ?_) (fun c_2 => ?_)
    · refine lv_aload_n hx hb dJx4a65c_grow_92f84_45 rfl (lv_at hl 1 rfl) ?_
      refine lv_bipush (v := 10) hx hb dJx4a65c_grow_92f84_46 (by decide) ?_
      refine lv_iload_n hx hb dJx4a65c_grow_92f84_48 rfl (lv_at hl 2 rfl) ?_
      refine va_mmax hx hb (by rw [hml]; exact hl.1.symm) hown (hts _ q638) (hts _ q306) (hts _ q17) (hts _ q307) (Nat.le_of_ble_eq_true rfl) (Nat.le_of_ble_eq_true rfl) (Nat.le_of_ble_eq_true rfl) (Nat.le_of_ble_eq_true rfl) dJx4a65c_grow_92f84_49 ?_
      rw [show (if (10 : Int32) < 1 then (1 : Int32) else 10) = 10 by decide]
      refine va_newq (C := "java/lang/Object") (N' := 10) hx hb hown (hts _ q639) hAO hK hP hD hS hA (by decide) (by decide) (Nat.le_of_ble_eq_true rfl) (Nat.le_of_ble_eq_true rfl) (Nat.le_of_ble_eq_true rfl) dJx4a65c_grow_92f84_52 (fun o_3 cA_4 H hK hP hD hS => ?_)
      have hP : va_P D vwCl [(h, .inr (4, [.int md, .ref e0, .int 0])), (o_3, .inl (cA_4, 10, (.inr (.inr (.inr (.inr (fun _ => none)))))))] H := hP
      have hD : va_D A [(h, .inr (4, [.int md, .ref e0, .int 0])), (o_3, .inl (cA_4, 10, (.inr (.inr (.inr (.inr (fun _ => none)))))))] := hD
      have hK : va_K D vwCl [(cA_4, .object "java/lang/Object")] s := hK
      refine lv_dup_x1 hx hb dJx4a65c_grow_92f84_55 rfl rfl ?_
      refine va_put (D := D) (ci := 4) (v := .ref o_3) (ty := (.array (.object "java/lang/Object"))) (C := RJx4a65c) (T := TJx4a65c) (N := 3) hx hb hts iwJx4a65c tyJx4a65c tyJx4a65c_ok nmJx4a65c hown hK hP hD hS 0 rfl rfl 1 (by decide) (hts _ q64) (fun _ h9 => h9) rfl (by decide +kernel) rfl rfl (Nat.le_of_ble_eq_true rfl) dJx4a65c_grow_92f84_56 (fun H locs hP hD hS => ?_)
      have hP : va_P D vwCl [(h, .inr (4, [.int md, .ref o_3, .int 0])), (o_3, .inl (cA_4, 10, (.inr (.inr (.inr (.inr (fun _ => none)))))))] H := hP
      have hD : va_D A [(h, .inr (4, [.int md, .ref o_3, .int 0])), (o_3, .inl (cA_4, 10, (.inr (.inr (.inr (.inr (fun _ => none)))))))] := hD
      have hP9 := hP.sub (ws' := [(h, .inr (4, [.int md, .ref o_3, .int 0])), (o_3, .inl (cA_4, 10, (.inr (.inr (.inr (.inr (fun _ => none)))))))]) [0, 1] rfl
      have hD9 := hD.sub (ws' := [(h, .inr (4, [.int md, .ref o_3, .int 0])), (o_3, .inl (cA_4, 10, (.inr (.inr (.inr (.inr (fun _ => none)))))))]) [0, 1] (by decide) rfl
      have hK9 := hK.sub (tys' := [(cA_4, .object "java/lang/Object")]) [0] rfl
      refine W.widen (k := 1) (n := 10) (Nat.le_of_ble_eq_true rfl) (Nat.le_of_ble_eq_true rfl) ?_
      exact W.aret (v := .ref o_3) hx hb hr (Or.inr ⟨_, rfl⟩) (Or.inr ⟨_, rfl⟩) (fun t ht hW => ⟨⟨cA_4, o_3, rfl, trivial, by rw [ht]; exact hP9, hD9, va_K.moved hW.alike hK9⟩, hS.F ht⟩) hS.2.2 dJx4a65c_grow_92f84_59
    · exact absurd rfl c_2
set_option maxHeartbeats 4000000 in
set_option maxRecDepth 100000 in
/-- grow() of an empty list -/
theorem k_AL_grow (l : Launch) (D : va_G) (e0 : Nat) (h : Nat) (md : Int32) (sz : Nat) : Met l yJx4a65c_grow_d5877 (wsA yJx4a65c_grow_d5877 cJx4a65c_grow_d5877 1 (some (.array (.object "java/lang/Object")))) ({ frames := 2, cells := 1, slots := 10, locals := 37 }) (va_Pc [.ref h] (EY e0 D [] [(h, .inr (4, [.int md, .ref e0, .int 0]))] sz)) (va_Qr (fun (_ : ClassId) => True) (fun u ra t => va_P D vwCl [(h, .inr (4, [.int md, .ref ra, .int 0])), (ra, .inl (u, 10, (.inr (.inr (.inr (.inr (fun _ => none)))))))] t.heap ∧ va_D (va_A [(h, .inr (4, [.int md, .ref e0, .int 0]))] sz) [(h, .inr (4, [.int md, .ref ra, .int 0])), (ra, .inl (u, 10, (.inr (.inr (.inr (.inr (fun _ => none)))))))] ∧ va_K D vwCl [(u, .object "java/lang/Object")] t) (va_A [(h, .inr (4, [.int md, .ref e0, .int 0]))] sz)) 1 10 (va_A [(h, .inr (4, [.int md, .ref e0, .int 0]))] sz) := by
  refine Met.ofW (cc := cJx4a65c_grow_d5877) (maxL := 1) (ret := (some (.array (.object "java/lang/Object")))) (by decide) rfl ?_
  intro p e s m args below meth c s₁ B hml hv
  obtain ⟨rfl, ⟨⟨hsz, hP, hK, hD0, hG, hZ0⟩, hZd0⟩, hZt, hAO⟩ := hv
  have hx := B.exec
  have hb := B.bytes
  have hr := B.returns
  have hts0 := atoms_spec (ws := wsA yJx4a65c_grow_d5877 cJx4a65c_grow_d5877 1 (some (.array (.object "java/lang/Object")))) B.pre
  have hts : ∀ w ∈ lw_all, w.before _ s = true := fun w h => hts0 w (List.mem_cons_of_mem _ h)
  have hown : s.vm.findClass RJx4a65c = some m.cls := findClass_of_methodNamed B.named
  have hlocks := B.notSynchronized
  subst hsz
  have hZ := ZZ.wide hP hZ0
  have hZd := ZD.wide hP hZd0
  have hD := hD0.self (sz := s.heap.size)
  generalize hAe : va_A [(h, .inr (4, [.int md, .ref e0, .int 0]))] s.heap.size = A at hD hZ hZd hZt ⊢
  have hA : ∀ q : Nat, s.heap.size ≤ q → A q := fun q h => by rw [← hAe]; exact Or.inr h
  have hS : va_S A s.heap s.heap [] := va_S.rf
  have hP : va_P D vwCl [(h, .inr (4, [.int md, .ref e0, .int 0]))] s.heap := hP
  have hl := lv_entry ([.ref h]) (n := 1) (Nat.le_of_ble_eq_true rfl)
  rw [lg_entry_eq]
  generalize (lg_sl ([.ref h]) ++ List.replicate (1 - (lg_sl ([.ref h])).length) Slot.unset).toArray = ls at hl ⊢
  have hl : lv_has ls 1 [(0, .ref h)] := hl
  refine lv_aload_n hx hb dJx4a65c_grow_d5877_0 rfl (lv_at hl 0 rfl) ?_
  refine lv_aload_n hx hb dJx4a65c_grow_d5877_1 rfl (lv_at hl 0 rfl) ?_
  refine va_get (D := D) (ci := 4) (v := .int 0) (C := RJx4a65c) (T := TJx4a65c) (N := 3) hx hb hts iwJx4a65c hown hK hP 0 rfl rfl 2 (by decide) (hts _ q67) (fun _ h9 => h9) rfl dJx4a65c_grow_d5877_2 ?_
  refine lv_iconst (v := 1) hx hb dJx4a65c_grow_d5877_5 (by decide) ?_
  refine lv_iadd hx hb dJx4a65c_grow_d5877_6 ?_
  rw [show (0 + 1 : Int32) = 1 by decide]
  have hPc := hP.sub (ws' := [(h, .inr (4, [.int md, .ref e0, .int 0]))]) [0] rfl
  have hDc := hD.sub (ws' := [(h, .inr (4, [.int md, .ref e0, .int 0]))]) [0] (by decide) rfl
  have hKc := hK.sub (tys' := []) [] rfl
  have hFc := va_free (wc := [(h, .inr (4, [.int md, .ref e0, .int 0]))]) hD hS hA [0] rfl
  refine va_callr (va_runV (As := [.int 1]) (rest := []) ⟨hx, hb, hml, hown, hts⟩ (k_AL_growI l D e0 h md s.heap.size) (cwV 1 hts (gV q586 q588 qs21 q4 (gA q589)) rfl rfl rfl (by decide +kernel) ⟨Nat.le_of_ble_eq_true rfl, Nat.le_of_ble_eq_true rfl⟩) ⟨EY.fb, va_recv hKc hPc (ci := 4) (q0 := 0) rfl rfl, fun U hU hW => ⟨rfl, EY.at hPc hKc hDc hG (hZ.no hS) (ZD.no hZd hS) hZt hAO hS hFc U hU hW⟩⟩ rfl rfl hl.1 rfl (lv_room (Nat.le_of_ble_eq_true rfl)) dJx4a65c_grow_d5877_7 ⟨Nat.le_of_ble_eq_true rfl, Nat.le_of_ble_eq_true rfl⟩) hS (fun q _ h => hFc q h) hFc (fun cA_2 ra_1 t H1 locs ht hvm hw hB hz1 hk1 hS => ?_)
  obtain ⟨hP1, hD1, hK1⟩ := hB
  rw [ht] at hP1
  have hK1 := va_K.moved hvm.symm hK1
  obtain ⟨hP, hD⟩ := va_join (wr := []) (w1 := [(h, .inr (4, [.int md, .ref ra_1, .int 0])), (ra_1, .inl (cA_2, 10, (.inr (.inr (.inr (.inr (fun _ => none)))))))]) hP hD [0] [] rfl rfl (by decide) (by decide) hk1 hFc hP1 hD1
  have hK := (hK.sub (tys' := []) [] rfl).app hK1
  have hK : va_K D vwCl [(cA_2, .object "java/lang/Object")] s := hK
  generalize H1 = H at hP hS ⊢
  have hP : va_P D vwCl [(h, .inr (4, [.int md, .ref ra_1, .int 0])), (ra_1, .inl (cA_2, 10, (.inr (.inr (.inr (.inr (fun _ => none)))))))] H := hP
  have hD : va_D A [(h, .inr (4, [.int md, .ref ra_1, .int 0])), (ra_1, .inl (cA_2, 10, (.inr (.inr (.inr (.inr (fun _ => none)))))))] := hD
  have hP9 := hP.sub (ws' := [(h, .inr (4, [.int md, .ref ra_1, .int 0])), (ra_1, .inl (cA_2, 10, (.inr (.inr (.inr (.inr (fun _ => none)))))))]) [0, 1] rfl
  have hD9 := hD.sub (ws' := [(h, .inr (4, [.int md, .ref ra_1, .int 0])), (ra_1, .inl (cA_2, 10, (.inr (.inr (.inr (.inr (fun _ => none)))))))]) [0, 1] (by decide) rfl
  have hK9 := hK.sub (tys' := [(cA_2, .object "java/lang/Object")]) [0] rfl
  refine W.widen (k := 1) (n := 10) (Nat.le_of_ble_eq_true rfl) (Nat.le_of_ble_eq_true rfl) ?_
  exact W.aret (v := .ref ra_1) hx hb hr (Or.inr ⟨_, rfl⟩) (Or.inr ⟨_, rfl⟩) (fun t ht hW => ⟨⟨cA_2, ra_1, rfl, trivial, by rw [ht]; exact hP9, hD9, va_K.moved hW.alike hK9⟩, hS.F ht⟩) hS.2.2 dJx4a65c_grow_d5877_10
set_option maxHeartbeats 4000000 in
set_option maxRecDepth 100000 in
/-- add(v, empty row, 0) -/
theorem k_AL_add3_LC (l : Launch) (D : va_G) (e0 : Nat) (h v : Nat) (vs : List Value) (md : Int32) (sz : Nat) : Met l yJx4a65c_add_72be8 (wsA yJx4a65c_add_72be8 cJx4a65c_add_72be8 4 none) ({ frames := 3, cells := 1, slots := 10, locals := 57 }) (va_Pc [.ref h, .ref v, .ref e0, .int 0] (EY e0 D [] [(h, .inr (4, [.int md, .ref e0, .int 0])), (v, .inr (6, vs))] sz)) (va_Qv (fun (_ : Int32 × Nat) => True) (fun u t => va_P D vwCl [(h, .inr (4, [.int u.1, .ref u.2, .int 1]))] t.heap ∧ va_D (va_A [(h, .inr (4, [.int md, .ref e0, .int 0])), (v, .inr (6, vs))] sz) [(h, .inr (4, [.int u.1, .ref u.2, .int 1]))]) (va_A [(h, .inr (4, [.int md, .ref e0, .int 0])), (v, .inr (6, vs))] sz)) 1 10 (va_A [(h, .inr (4, [.int md, .ref e0, .int 0])), (v, .inr (6, vs))] sz) := by
  refine Met.ofW (cc := cJx4a65c_add_72be8) (maxL := 4) (ret := none) (by decide) rfl ?_
  intro p e s m args below meth c s₁ B hml hv
  obtain ⟨rfl, ⟨⟨hsz, hP, hK, hD0, hG, hZ0⟩, hZd0⟩, hZt, hAO⟩ := hv
  have hx := B.exec
  have hb := B.bytes
  have hr := B.returns
  have hts0 := atoms_spec (ws := wsA yJx4a65c_add_72be8 cJx4a65c_add_72be8 4 none) B.pre
  have hts : ∀ w ∈ lw_all, w.before _ s = true := fun w h => hts0 w (List.mem_cons_of_mem _ h)
  have hown : s.vm.findClass RJx4a65c = some m.cls := findClass_of_methodNamed B.named
  have hlocks := B.notSynchronized
  subst hsz
  have hZ := ZZ.wide hP hZ0
  have hZd := ZD.wide hP hZd0
  have hD := hD0.self (sz := s.heap.size)
  generalize hAe : va_A [(h, .inr (4, [.int md, .ref e0, .int 0])), (v, .inr (6, vs))] s.heap.size = A at hD hZ hZd hZt ⊢
  have hA : ∀ q : Nat, s.heap.size ≤ q → A q := fun q h => by rw [← hAe]; exact Or.inr h
  have hS : va_S A s.heap s.heap [] := va_S.rf
  have hP : va_P D vwCl [(h, .inr (4, [.int md, .ref e0, .int 0])), (v, .inr (6, vs))] s.heap := hP
  have hl := lv_entry ([.ref h, .ref v, .ref e0, .int 0]) (n := 4) (Nat.le_of_ble_eq_true rfl)
  rw [lg_entry_eq]
  generalize (lg_sl ([.ref h, .ref v, .ref e0, .int 0]) ++ List.replicate (4 - (lg_sl ([.ref h, .ref v, .ref e0, .int 0])).length) Slot.unset).toArray = ls at hl ⊢
  have hl : lv_has ls 4 [(0, .ref h), (1, .ref v), (2, .ref e0), (3, .int 0)] := hl
  refine lv_iload_n hx hb dJx4a65c_add_72be8_0 rfl (lv_at hl 3 rfl) ?_
  refine lv_aload_n hx hb dJx4a65c_add_72be8_1 rfl (lv_at hl 2 rfl) ?_
  refine va_tlen (v := 0) hx hb hZt hS (by decide) dJx4a65c_add_72be8_2 ?_
  refine lv_icmp_ne (tgt := 11) hx hb dJx4a65c_add_72be8_3 (by decide) (fun c_1 => ?_) (fun c_1 => ?_)
  · exact absurd rfl c_1
  · refine lv_aload_n hx hb dJx4a65c_add_72be8_6 rfl (lv_at hl 0 rfl) ?_
    have hPc := hP.sub (ws' := [(h, .inr (4, [.int md, .ref e0, .int 0]))]) [0] rfl
    have hDc := hD.sub (ws' := [(h, .inr (4, [.int md, .ref e0, .int 0]))]) [0] (by decide) rfl
    have hKc := hK.sub (tys' := []) [] rfl
    have hFc := va_free (wc := [(h, .inr (4, [.int md, .ref e0, .int 0]))]) hD hS hA [0] rfl
    refine va_callr (va_runV (As := []) (rest := []) ⟨hx, hb, hml, hown, hts⟩ (k_AL_grow l D e0 h md s.heap.size) (cwV 0 hts (gV q582 q584 qs20 q4 (gA q585)) rfl rfl rfl (by decide +kernel) ⟨Nat.le_of_ble_eq_true rfl, Nat.le_of_ble_eq_true rfl⟩) ⟨EY.fb, va_recv hKc hPc (ci := 4) (q0 := 0) rfl rfl, fun U hU hW => ⟨rfl, EY.at hPc hKc hDc hG (hZ.no hS) (ZD.no hZd hS) hZt hAO hS hFc U hU hW⟩⟩ rfl rfl hl.1 rfl (lv_room (Nat.le_of_ble_eq_true rfl)) dJx4a65c_add_72be8_7 ⟨Nat.le_of_ble_eq_true rfl, Nat.le_of_ble_eq_true rfl⟩) hS (fun q _ h => hFc q h) hFc (fun cA_3 ra_2 t H1 locs ht hvm hw hB hz1 hk1 hS => ?_)
    obtain ⟨hP1, hD1, hK1⟩ := hB
    rw [ht] at hP1
    have hK1 := va_K.moved hvm.symm hK1
    obtain ⟨hP, hD⟩ := va_join (wr := [(v, .inr (6, vs))]) (w1 := [(h, .inr (4, [.int md, .ref ra_2, .int 0])), (ra_2, .inl (cA_3, 10, (.inr (.inr (.inr (.inr (fun _ => none)))))))]) hP hD [0] [1] rfl rfl (by decide) (by decide) hk1 hFc hP1 hD1
    have hK := (hK.sub (tys' := []) [] rfl).app hK1
    have hK : va_K D vwCl [(cA_3, .object "java/lang/Object")] s := hK
    generalize H1 = H at hP hS ⊢
    have hP : va_P D vwCl [(v, .inr (6, vs)), (h, .inr (4, [.int md, .ref ra_2, .int 0])), (ra_2, .inl (cA_3, 10, (.inr (.inr (.inr (.inr (fun _ => none)))))))] H := hP
    have hD : va_D A [(v, .inr (6, vs)), (h, .inr (4, [.int md, .ref ra_2, .int 0])), (ra_2, .inl (cA_3, 10, (.inr (.inr (.inr (.inr (fun _ => none)))))))] := hD
    refine lv_astore_n (lv' := [(2, .ref ra_2), (0, .ref h), (1, .ref v), (3, .int 0)]) hx hb dJx4a65c_add_72be8_10 rfl hl (by decide) rfl (fun ls hl => ?_)
    refine lv_aload_n hx hb dJx4a65c_add_72be8_11 rfl (lv_at hl 0 rfl) ?_
    refine lv_iload_n hx hb dJx4a65c_add_72be8_12 rfl (lv_at hl 3 rfl) ?_
    refine lv_aload_n hx hb dJx4a65c_add_72be8_13 rfl (lv_at hl 2 rfl) ?_
    refine va_astqO hx hb hK hP hD hS 2 0 0 6 (E := "java/lang/Object") rfl rfl (hG.nw t1810) rfl rfl (by unfold vp_in; decide) dJx4a65c_add_72be8_14 (fun H locs hP hD hS => ?_)
    have hP : va_P D vwCl [(v, .inr (6, vs)), (h, .inr (4, [.int md, .ref ra_2, .int 0])), (ra_2, .inl (cA_3, 10, .inr (.inr (.inr (.inr (va_up (fun _ => none) 0 (some v)))))))] H := hP
    have hD : va_D A [(v, .inr (6, vs)), (h, .inr (4, [.int md, .ref ra_2, .int 0])), (ra_2, .inl (cA_3, 10, .inr (.inr (.inr (.inr (va_up (fun _ => none) 0 (some v)))))))] := hD
    refine lv_aload_n hx hb dJx4a65c_add_72be8_15 rfl (lv_at hl 1 rfl) ?_
    refine lv_iload_n hx hb dJx4a65c_add_72be8_16 rfl (lv_at hl 3 rfl) ?_
    refine lv_iconst (v := 1) hx hb dJx4a65c_add_72be8_17 (by decide) ?_
    refine lv_iadd hx hb dJx4a65c_add_72be8_18 ?_
    rw [show (0 + 1 : Int32) = 1 by decide]
    refine va_put (D := D) (ci := 4) (v := .int 1) (ty := .int) (C := RJx4a65c) (T := TJx4a65c) (N := 3) hx hb hts iwJx4a65c tyJx4a65c tyJx4a65c_ok nmJx4a65c hown hK hP hD hS 1 rfl rfl 2 (by decide) (hts _ q67) (fun _ h9 => h9) rfl (by decide +kernel) rfl rfl (Nat.le_of_ble_eq_true rfl) dJx4a65c_add_72be8_19 (fun H locs hP hD hS => ?_)
    have hP : va_P D vwCl [(v, .inr (6, vs)), (h, .inr (4, [.int md, .ref ra_2, .int 1])), (ra_2, .inl (cA_3, 10, .inr (.inr (.inr (.inr (va_up (fun _ => none) 0 (some v)))))))] H := hP
    have hD : va_D A [(v, .inr (6, vs)), (h, .inr (4, [.int md, .ref ra_2, .int 1])), (ra_2, .inl (cA_3, 10, .inr (.inr (.inr (.inr (va_up (fun _ => none) 0 (some v)))))))] := hD
    have hP9 := hP.sub (ws' := [(h, .inr (4, [.int md, .ref ra_2, .int 1]))]) [1] rfl
    have hD9 := hD.sub (ws' := [(h, .inr (4, [.int md, .ref ra_2, .int 1]))]) [1] (by decide) rfl
    refine W.widen (k := 1) (n := 10) (Nat.le_of_ble_eq_true rfl) (Nat.le_of_ble_eq_true rfl) ?_
    exact W.vret hx hb hr (fun t ht hW => ⟨⟨(md, ra_2), rfl, trivial, by rw [ht]; exact hP9, hD9⟩, hS.F ht⟩) hS.2.2 dJx4a65c_add_72be8_22
set_option maxHeartbeats 4000000 in
set_option maxRecDepth 100000 in
/-- add(v) to an empty list -/
theorem k_AL_add_LC (l : Launch) (D : va_G) (e0 : Nat) (h v : Nat) (vs : List Value) (md : Int32) (sz : Nat) : Met l yJx4a65c_add_9ea2d (wsA yJx4a65c_add_9ea2d cJx4a65c_add_9ea2d 2 (some .boolean)) ({ frames := 4, cells := 1, slots := 10, locals := 80 }) (va_Pc [.ref h, .ref v] (EY e0 D [] [(h, .inr (4, [.int md, .ref e0, .int 0])), (v, .inr (6, vs))] sz)) (va_Qi (fun (r : Int32) (_ : Int32 × Nat) => r = 1) (fun u t => va_P D vwCl [(h, .inr (4, [.int u.1, .ref u.2, .int 1]))] t.heap ∧ va_D (va_A [(h, .inr (4, [.int md, .ref e0, .int 0])), (v, .inr (6, vs))] sz) [(h, .inr (4, [.int u.1, .ref u.2, .int 1]))]) (va_A [(h, .inr (4, [.int md, .ref e0, .int 0])), (v, .inr (6, vs))] sz)) 1 10 (va_A [(h, .inr (4, [.int md, .ref e0, .int 0])), (v, .inr (6, vs))] sz) := by
  refine Met.ofW (cc := cJx4a65c_add_9ea2d) (maxL := 2) (ret := (some .boolean)) (by decide) rfl ?_
  intro p e s m args below meth c s₁ B hml hv
  obtain ⟨rfl, ⟨⟨hsz, hP, hK, hD0, hG, hZ0⟩, hZd0⟩, hZt, hAO⟩ := hv
  have hx := B.exec
  have hb := B.bytes
  have hr := B.returns
  have hts0 := atoms_spec (ws := wsA yJx4a65c_add_9ea2d cJx4a65c_add_9ea2d 2 (some .boolean)) B.pre
  have hts : ∀ w ∈ lw_all, w.before _ s = true := fun w h => hts0 w (List.mem_cons_of_mem _ h)
  have hown : s.vm.findClass RJx4a65c = some m.cls := findClass_of_methodNamed B.named
  have hlocks := B.notSynchronized
  subst hsz
  have hZ := ZZ.wide hP hZ0
  have hZd := ZD.wide hP hZd0
  have hD := hD0.self (sz := s.heap.size)
  generalize hAe : va_A [(h, .inr (4, [.int md, .ref e0, .int 0])), (v, .inr (6, vs))] s.heap.size = A at hD hZ hZd hZt ⊢
  have hA : ∀ q : Nat, s.heap.size ≤ q → A q := fun q h => by rw [← hAe]; exact Or.inr h
  have hS : va_S A s.heap s.heap [] := va_S.rf
  have hP : va_P D vwCl [(h, .inr (4, [.int md, .ref e0, .int 0])), (v, .inr (6, vs))] s.heap := hP
  have hl := lv_entry ([.ref h, .ref v]) (n := 2) (Nat.le_of_ble_eq_true rfl)
  rw [lg_entry_eq]
  generalize (lg_sl ([.ref h, .ref v]) ++ List.replicate (2 - (lg_sl ([.ref h, .ref v])).length) Slot.unset).toArray = ls at hl ⊢
  have hl : lv_has ls 2 [(0, .ref h), (1, .ref v)] := hl
  refine lv_aload_n hx hb dJx4a65c_add_9ea2d_0 rfl (lv_at hl 0 rfl) ?_
  refine lv_dup hx hb dJx4a65c_add_9ea2d_1 rfl ?_
  refine va_get (D := D) (ci := 4) (v := .int md) (C := RJx4a65c) (T := TJx4a65c) (N := 3) hx hb hts iwJx4a65c hown hK hP 0 rfl rfl 0 (by decide) (hts _ q71) (u_same (hts _ q70)) rfl dJx4a65c_add_9ea2d_2 ?_
  refine lv_iconst (v := 1) hx hb dJx4a65c_add_9ea2d_5 (by decide) ?_
  refine lv_iadd hx hb dJx4a65c_add_9ea2d_6 ?_
  refine va_put (D := D) (ci := 4) (v := .int (md + 1)) (ty := .int) (C := RJx4a65c) (T := TJx4a65c) (N := 3) hx hb hts iwJx4a65c tyJx4a65c tyJx4a65c_ok nmJx4a65c hown hK hP hD hS 0 rfl rfl 0 (by decide) (hts _ q71) (u_same (hts _ q70)) rfl (by decide +kernel) rfl rfl (Nat.le_of_ble_eq_true rfl) dJx4a65c_add_9ea2d_7 (fun H locs hP hD hS => ?_)
  have hP : va_P D vwCl [(h, .inr (4, [.int (md + 1), .ref e0, .int 0])), (v, .inr (6, vs))] H := hP
  have hD : va_D A [(h, .inr (4, [.int (md + 1), .ref e0, .int 0])), (v, .inr (6, vs))] := hD
  refine lv_aload_n hx hb dJx4a65c_add_9ea2d_10 rfl (lv_at hl 0 rfl) ?_
  refine lv_aload_n hx hb dJx4a65c_add_9ea2d_11 rfl (lv_at hl 1 rfl) ?_
  refine lv_aload_n hx hb dJx4a65c_add_9ea2d_12 rfl (lv_at hl 0 rfl) ?_
  refine va_get (D := D) (ci := 4) (v := .ref e0) (C := RJx4a65c) (T := TJx4a65c) (N := 3) hx hb hts iwJx4a65c hown hK hP 0 rfl rfl 1 (by decide) (hts _ q64) (fun _ h9 => h9) rfl dJx4a65c_add_9ea2d_13 ?_
  refine lv_aload_n hx hb dJx4a65c_add_9ea2d_16 rfl (lv_at hl 0 rfl) ?_
  refine va_get (D := D) (ci := 4) (v := .int 0) (C := RJx4a65c) (T := TJx4a65c) (N := 3) hx hb hts iwJx4a65c hown hK hP 0 rfl rfl 2 (by decide) (hts _ q67) (fun _ h9 => h9) rfl dJx4a65c_add_9ea2d_17 ?_
  have hPc := hP.sub (ws' := [(h, .inr (4, [.int (md + 1), .ref e0, .int 0])), (v, .inr (6, vs))]) [0, 1] rfl
  have hDc := hD.sub (ws' := [(h, .inr (4, [.int (md + 1), .ref e0, .int 0])), (v, .inr (6, vs))]) [0, 1] (by decide) rfl
  have hKc := hK.sub (tys' := []) [] rfl
  have hFc := va_free (wc := [(h, .inr (4, [.int (md + 1), .ref e0, .int 0])), (v, .inr (6, vs))]) hD hS hA [0, 1] rfl
  refine va_callv (va_runV (As := [.ref v, .ref e0, .int 0]) (rest := []) ⟨hx, hb, hml, hown, hts⟩ (k_AL_add3_LC l D e0 h v vs (md + 1) H.size) (cwV 3 hts (gV q578 q580 qs19 q4 (gA q581)) rfl rfl rfl (by decide +kernel) ⟨Nat.le_of_ble_eq_true rfl, Nat.le_of_ble_eq_true rfl⟩) ⟨EY.fb, va_recv hKc hPc (ci := 4) (q0 := 0) rfl rfl, fun U hU hW => ⟨rfl, EY.at hPc hKc hDc hG (hZ.no hS) (ZD.no hZd hS) hZt hAO hS hFc U hU hW⟩⟩ rfl rfl hl.1 rfl (lv_room (Nat.le_of_ble_eq_true rfl)) dJx4a65c_add_9ea2d_20 ⟨Nat.le_of_ble_eq_true rfl, Nat.le_of_ble_eq_true rfl⟩) hS (fun q _ h => hFc q h) hFc (fun u t H1 locs ht hvm hw hB hz1 hk1 hS => ?_)
  obtain ⟨u_2a, u_2b⟩ := u
  obtain ⟨hP1, hD1⟩ := hB
  rw [ht] at hP1
  obtain ⟨hP, hD⟩ := va_join (wr := []) (w1 := [(h, .inr (4, [.int u_2a, .ref u_2b, .int 1]))]) hP hD [0, 1] [] rfl rfl (by decide) (by decide) hk1 hFc hP1 hD1
  generalize H1 = H at hP hS ⊢
  have hP : va_P D vwCl [(h, .inr (4, [.int u_2a, .ref u_2b, .int 1]))] H := hP
  have hD : va_D A [(h, .inr (4, [.int u_2a, .ref u_2b, .int 1]))] := hD
  refine lv_iconst (v := 1) hx hb dJx4a65c_add_9ea2d_23 (by decide) ?_
  have hP9 := hP.sub (ws' := [(h, .inr (4, [.int u_2a, .ref u_2b, .int 1]))]) [0] rfl
  have hD9 := hD.sub (ws' := [(h, .inr (4, [.int u_2a, .ref u_2b, .int 1]))]) [0] (by decide) rfl
  refine W.widen (k := 1) (n := 10) (Nat.le_of_ble_eq_true rfl) (Nat.le_of_ble_eq_true rfl) ?_
  exact W.zret (v := 1) hx hb hr rfl (fun t ht hW => ⟨⟨1, (u_2a, u_2b), rfl, rfl, by rw [ht]; exact hP9, hD9⟩, hS.F ht⟩) hS.2.2 dJx4a65c_add_9ea2d_24
set_option maxHeartbeats 4000000 in
set_option maxRecDepth 100000 in
/-- add(v, empty row, 0) -/
theorem k_AL_add3_MC (l : Launch) (D : va_G) (e0 : Nat) (h v : Nat) (vs : List Value) (md : Int32) (sz : Nat) : Met l yJx4a65c_add_72be8 (wsA yJx4a65c_add_72be8 cJx4a65c_add_72be8 4 none) ({ frames := 3, cells := 1, slots := 10, locals := 57 }) (va_Pc [.ref h, .ref v, .ref e0, .int 0] (EY e0 D [] [(h, .inr (4, [.int md, .ref e0, .int 0])), (v, .inr (12, vs))] sz)) (va_Qv (fun (_ : Int32 × Nat) => True) (fun u t => va_P D vwCl [(h, .inr (4, [.int u.1, .ref u.2, .int 1]))] t.heap ∧ va_D (va_A [(h, .inr (4, [.int md, .ref e0, .int 0])), (v, .inr (12, vs))] sz) [(h, .inr (4, [.int u.1, .ref u.2, .int 1]))]) (va_A [(h, .inr (4, [.int md, .ref e0, .int 0])), (v, .inr (12, vs))] sz)) 1 10 (va_A [(h, .inr (4, [.int md, .ref e0, .int 0])), (v, .inr (12, vs))] sz) := by
  refine Met.ofW (cc := cJx4a65c_add_72be8) (maxL := 4) (ret := none) (by decide) rfl ?_
  intro p e s m args below meth c s₁ B hml hv
  obtain ⟨rfl, ⟨⟨hsz, hP, hK, hD0, hG, hZ0⟩, hZd0⟩, hZt, hAO⟩ := hv
  have hx := B.exec
  have hb := B.bytes
  have hr := B.returns
  have hts0 := atoms_spec (ws := wsA yJx4a65c_add_72be8 cJx4a65c_add_72be8 4 none) B.pre
  have hts : ∀ w ∈ lw_all, w.before _ s = true := fun w h => hts0 w (List.mem_cons_of_mem _ h)
  have hown : s.vm.findClass RJx4a65c = some m.cls := findClass_of_methodNamed B.named
  have hlocks := B.notSynchronized
  subst hsz
  have hZ := ZZ.wide hP hZ0
  have hZd := ZD.wide hP hZd0
  have hD := hD0.self (sz := s.heap.size)
  generalize hAe : va_A [(h, .inr (4, [.int md, .ref e0, .int 0])), (v, .inr (12, vs))] s.heap.size = A at hD hZ hZd hZt ⊢
  have hA : ∀ q : Nat, s.heap.size ≤ q → A q := fun q h => by rw [← hAe]; exact Or.inr h
  have hS : va_S A s.heap s.heap [] := va_S.rf
  have hP : va_P D vwCl [(h, .inr (4, [.int md, .ref e0, .int 0])), (v, .inr (12, vs))] s.heap := hP
  have hl := lv_entry ([.ref h, .ref v, .ref e0, .int 0]) (n := 4) (Nat.le_of_ble_eq_true rfl)
  rw [lg_entry_eq]
  generalize (lg_sl ([.ref h, .ref v, .ref e0, .int 0]) ++ List.replicate (4 - (lg_sl ([.ref h, .ref v, .ref e0, .int 0])).length) Slot.unset).toArray = ls at hl ⊢
  have hl : lv_has ls 4 [(0, .ref h), (1, .ref v), (2, .ref e0), (3, .int 0)] := hl
  refine lv_iload_n hx hb dJx4a65c_add_72be8_0 rfl (lv_at hl 3 rfl) ?_
  refine lv_aload_n hx hb dJx4a65c_add_72be8_1 rfl (lv_at hl 2 rfl) ?_
  refine va_tlen (v := 0) hx hb hZt hS (by decide) dJx4a65c_add_72be8_2 ?_
  refine lv_icmp_ne (tgt := 11) hx hb dJx4a65c_add_72be8_3 (by decide) (fun c_1 => ?_) (fun c_1 => ?_)
  · exact absurd rfl c_1
  · refine lv_aload_n hx hb dJx4a65c_add_72be8_6 rfl (lv_at hl 0 rfl) ?_
    have hPc := hP.sub (ws' := [(h, .inr (4, [.int md, .ref e0, .int 0]))]) [0] rfl
    have hDc := hD.sub (ws' := [(h, .inr (4, [.int md, .ref e0, .int 0]))]) [0] (by decide) rfl
    have hKc := hK.sub (tys' := []) [] rfl
    have hFc := va_free (wc := [(h, .inr (4, [.int md, .ref e0, .int 0]))]) hD hS hA [0] rfl
    refine va_callr (va_runV (As := []) (rest := []) ⟨hx, hb, hml, hown, hts⟩ (k_AL_grow l D e0 h md s.heap.size) (cwV 0 hts (gV q582 q584 qs20 q4 (gA q585)) rfl rfl rfl (by decide +kernel) ⟨Nat.le_of_ble_eq_true rfl, Nat.le_of_ble_eq_true rfl⟩) ⟨EY.fb, va_recv hKc hPc (ci := 4) (q0 := 0) rfl rfl, fun U hU hW => ⟨rfl, EY.at hPc hKc hDc hG (hZ.no hS) (ZD.no hZd hS) hZt hAO hS hFc U hU hW⟩⟩ rfl rfl hl.1 rfl (lv_room (Nat.le_of_ble_eq_true rfl)) dJx4a65c_add_72be8_7 ⟨Nat.le_of_ble_eq_true rfl, Nat.le_of_ble_eq_true rfl⟩) hS (fun q _ h => hFc q h) hFc (fun cA_3 ra_2 t H1 locs ht hvm hw hB hz1 hk1 hS => ?_)
    obtain ⟨hP1, hD1, hK1⟩ := hB
    rw [ht] at hP1
    have hK1 := va_K.moved hvm.symm hK1
    obtain ⟨hP, hD⟩ := va_join (wr := [(v, .inr (12, vs))]) (w1 := [(h, .inr (4, [.int md, .ref ra_2, .int 0])), (ra_2, .inl (cA_3, 10, (.inr (.inr (.inr (.inr (fun _ => none)))))))]) hP hD [0] [1] rfl rfl (by decide) (by decide) hk1 hFc hP1 hD1
    have hK := (hK.sub (tys' := []) [] rfl).app hK1
    have hK : va_K D vwCl [(cA_3, .object "java/lang/Object")] s := hK
    generalize H1 = H at hP hS ⊢
    have hP : va_P D vwCl [(v, .inr (12, vs)), (h, .inr (4, [.int md, .ref ra_2, .int 0])), (ra_2, .inl (cA_3, 10, (.inr (.inr (.inr (.inr (fun _ => none)))))))] H := hP
    have hD : va_D A [(v, .inr (12, vs)), (h, .inr (4, [.int md, .ref ra_2, .int 0])), (ra_2, .inl (cA_3, 10, (.inr (.inr (.inr (.inr (fun _ => none)))))))] := hD
    refine lv_astore_n (lv' := [(2, .ref ra_2), (0, .ref h), (1, .ref v), (3, .int 0)]) hx hb dJx4a65c_add_72be8_10 rfl hl (by decide) rfl (fun ls hl => ?_)
    refine lv_aload_n hx hb dJx4a65c_add_72be8_11 rfl (lv_at hl 0 rfl) ?_
    refine lv_iload_n hx hb dJx4a65c_add_72be8_12 rfl (lv_at hl 3 rfl) ?_
    refine lv_aload_n hx hb dJx4a65c_add_72be8_13 rfl (lv_at hl 2 rfl) ?_
    refine va_astqO hx hb hK hP hD hS 2 0 0 12 (E := "java/lang/Object") rfl rfl (hG.nw t1813) rfl rfl (by unfold vp_in; decide) dJx4a65c_add_72be8_14 (fun H locs hP hD hS => ?_)
    have hP : va_P D vwCl [(v, .inr (12, vs)), (h, .inr (4, [.int md, .ref ra_2, .int 0])), (ra_2, .inl (cA_3, 10, .inr (.inr (.inr (.inr (va_up (fun _ => none) 0 (some v)))))))] H := hP
    have hD : va_D A [(v, .inr (12, vs)), (h, .inr (4, [.int md, .ref ra_2, .int 0])), (ra_2, .inl (cA_3, 10, .inr (.inr (.inr (.inr (va_up (fun _ => none) 0 (some v)))))))] := hD
    refine lv_aload_n hx hb dJx4a65c_add_72be8_15 rfl (lv_at hl 1 rfl) ?_
    refine lv_iload_n hx hb dJx4a65c_add_72be8_16 rfl (lv_at hl 3 rfl) ?_
    refine lv_iconst (v := 1) hx hb dJx4a65c_add_72be8_17 (by decide) ?_
    refine lv_iadd hx hb dJx4a65c_add_72be8_18 ?_
    rw [show (0 + 1 : Int32) = 1 by decide]
    refine va_put (D := D) (ci := 4) (v := .int 1) (ty := .int) (C := RJx4a65c) (T := TJx4a65c) (N := 3) hx hb hts iwJx4a65c tyJx4a65c tyJx4a65c_ok nmJx4a65c hown hK hP hD hS 1 rfl rfl 2 (by decide) (hts _ q67) (fun _ h9 => h9) rfl (by decide +kernel) rfl rfl (Nat.le_of_ble_eq_true rfl) dJx4a65c_add_72be8_19 (fun H locs hP hD hS => ?_)
    have hP : va_P D vwCl [(v, .inr (12, vs)), (h, .inr (4, [.int md, .ref ra_2, .int 1])), (ra_2, .inl (cA_3, 10, .inr (.inr (.inr (.inr (va_up (fun _ => none) 0 (some v)))))))] H := hP
    have hD : va_D A [(v, .inr (12, vs)), (h, .inr (4, [.int md, .ref ra_2, .int 1])), (ra_2, .inl (cA_3, 10, .inr (.inr (.inr (.inr (va_up (fun _ => none) 0 (some v)))))))] := hD
    have hP9 := hP.sub (ws' := [(h, .inr (4, [.int md, .ref ra_2, .int 1]))]) [1] rfl
    have hD9 := hD.sub (ws' := [(h, .inr (4, [.int md, .ref ra_2, .int 1]))]) [1] (by decide) rfl
    refine W.widen (k := 1) (n := 10) (Nat.le_of_ble_eq_true rfl) (Nat.le_of_ble_eq_true rfl) ?_
    exact W.vret hx hb hr (fun t ht hW => ⟨⟨(md, ra_2), rfl, trivial, by rw [ht]; exact hP9, hD9⟩, hS.F ht⟩) hS.2.2 dJx4a65c_add_72be8_22
set_option maxHeartbeats 4000000 in
set_option maxRecDepth 100000 in
/-- add(v) to an empty list -/
theorem k_AL_add_MC (l : Launch) (D : va_G) (e0 : Nat) (h v : Nat) (vs : List Value) (md : Int32) (sz : Nat) : Met l yJx4a65c_add_9ea2d (wsA yJx4a65c_add_9ea2d cJx4a65c_add_9ea2d 2 (some .boolean)) ({ frames := 4, cells := 1, slots := 10, locals := 80 }) (va_Pc [.ref h, .ref v] (EY e0 D [] [(h, .inr (4, [.int md, .ref e0, .int 0])), (v, .inr (12, vs))] sz)) (va_Qi (fun (r : Int32) (_ : Int32 × Nat) => r = 1) (fun u t => va_P D vwCl [(h, .inr (4, [.int u.1, .ref u.2, .int 1]))] t.heap ∧ va_D (va_A [(h, .inr (4, [.int md, .ref e0, .int 0])), (v, .inr (12, vs))] sz) [(h, .inr (4, [.int u.1, .ref u.2, .int 1]))]) (va_A [(h, .inr (4, [.int md, .ref e0, .int 0])), (v, .inr (12, vs))] sz)) 1 10 (va_A [(h, .inr (4, [.int md, .ref e0, .int 0])), (v, .inr (12, vs))] sz) := by
  refine Met.ofW (cc := cJx4a65c_add_9ea2d) (maxL := 2) (ret := (some .boolean)) (by decide) rfl ?_
  intro p e s m args below meth c s₁ B hml hv
  obtain ⟨rfl, ⟨⟨hsz, hP, hK, hD0, hG, hZ0⟩, hZd0⟩, hZt, hAO⟩ := hv
  have hx := B.exec
  have hb := B.bytes
  have hr := B.returns
  have hts0 := atoms_spec (ws := wsA yJx4a65c_add_9ea2d cJx4a65c_add_9ea2d 2 (some .boolean)) B.pre
  have hts : ∀ w ∈ lw_all, w.before _ s = true := fun w h => hts0 w (List.mem_cons_of_mem _ h)
  have hown : s.vm.findClass RJx4a65c = some m.cls := findClass_of_methodNamed B.named
  have hlocks := B.notSynchronized
  subst hsz
  have hZ := ZZ.wide hP hZ0
  have hZd := ZD.wide hP hZd0
  have hD := hD0.self (sz := s.heap.size)
  generalize hAe : va_A [(h, .inr (4, [.int md, .ref e0, .int 0])), (v, .inr (12, vs))] s.heap.size = A at hD hZ hZd hZt ⊢
  have hA : ∀ q : Nat, s.heap.size ≤ q → A q := fun q h => by rw [← hAe]; exact Or.inr h
  have hS : va_S A s.heap s.heap [] := va_S.rf
  have hP : va_P D vwCl [(h, .inr (4, [.int md, .ref e0, .int 0])), (v, .inr (12, vs))] s.heap := hP
  have hl := lv_entry ([.ref h, .ref v]) (n := 2) (Nat.le_of_ble_eq_true rfl)
  rw [lg_entry_eq]
  generalize (lg_sl ([.ref h, .ref v]) ++ List.replicate (2 - (lg_sl ([.ref h, .ref v])).length) Slot.unset).toArray = ls at hl ⊢
  have hl : lv_has ls 2 [(0, .ref h), (1, .ref v)] := hl
  refine lv_aload_n hx hb dJx4a65c_add_9ea2d_0 rfl (lv_at hl 0 rfl) ?_
  refine lv_dup hx hb dJx4a65c_add_9ea2d_1 rfl ?_
  refine va_get (D := D) (ci := 4) (v := .int md) (C := RJx4a65c) (T := TJx4a65c) (N := 3) hx hb hts iwJx4a65c hown hK hP 0 rfl rfl 0 (by decide) (hts _ q71) (u_same (hts _ q70)) rfl dJx4a65c_add_9ea2d_2 ?_
  refine lv_iconst (v := 1) hx hb dJx4a65c_add_9ea2d_5 (by decide) ?_
  refine lv_iadd hx hb dJx4a65c_add_9ea2d_6 ?_
  refine va_put (D := D) (ci := 4) (v := .int (md + 1)) (ty := .int) (C := RJx4a65c) (T := TJx4a65c) (N := 3) hx hb hts iwJx4a65c tyJx4a65c tyJx4a65c_ok nmJx4a65c hown hK hP hD hS 0 rfl rfl 0 (by decide) (hts _ q71) (u_same (hts _ q70)) rfl (by decide +kernel) rfl rfl (Nat.le_of_ble_eq_true rfl) dJx4a65c_add_9ea2d_7 (fun H locs hP hD hS => ?_)
  have hP : va_P D vwCl [(h, .inr (4, [.int (md + 1), .ref e0, .int 0])), (v, .inr (12, vs))] H := hP
  have hD : va_D A [(h, .inr (4, [.int (md + 1), .ref e0, .int 0])), (v, .inr (12, vs))] := hD
  refine lv_aload_n hx hb dJx4a65c_add_9ea2d_10 rfl (lv_at hl 0 rfl) ?_
  refine lv_aload_n hx hb dJx4a65c_add_9ea2d_11 rfl (lv_at hl 1 rfl) ?_
  refine lv_aload_n hx hb dJx4a65c_add_9ea2d_12 rfl (lv_at hl 0 rfl) ?_
  refine va_get (D := D) (ci := 4) (v := .ref e0) (C := RJx4a65c) (T := TJx4a65c) (N := 3) hx hb hts iwJx4a65c hown hK hP 0 rfl rfl 1 (by decide) (hts _ q64) (fun _ h9 => h9) rfl dJx4a65c_add_9ea2d_13 ?_
  refine lv_aload_n hx hb dJx4a65c_add_9ea2d_16 rfl (lv_at hl 0 rfl) ?_
  refine va_get (D := D) (ci := 4) (v := .int 0) (C := RJx4a65c) (T := TJx4a65c) (N := 3) hx hb hts iwJx4a65c hown hK hP 0 rfl rfl 2 (by decide) (hts _ q67) (fun _ h9 => h9) rfl dJx4a65c_add_9ea2d_17 ?_
  have hPc := hP.sub (ws' := [(h, .inr (4, [.int (md + 1), .ref e0, .int 0])), (v, .inr (12, vs))]) [0, 1] rfl
  have hDc := hD.sub (ws' := [(h, .inr (4, [.int (md + 1), .ref e0, .int 0])), (v, .inr (12, vs))]) [0, 1] (by decide) rfl
  have hKc := hK.sub (tys' := []) [] rfl
  have hFc := va_free (wc := [(h, .inr (4, [.int (md + 1), .ref e0, .int 0])), (v, .inr (12, vs))]) hD hS hA [0, 1] rfl
  refine va_callv (va_runV (As := [.ref v, .ref e0, .int 0]) (rest := []) ⟨hx, hb, hml, hown, hts⟩ (k_AL_add3_MC l D e0 h v vs (md + 1) H.size) (cwV 3 hts (gV q578 q580 qs19 q4 (gA q581)) rfl rfl rfl (by decide +kernel) ⟨Nat.le_of_ble_eq_true rfl, Nat.le_of_ble_eq_true rfl⟩) ⟨EY.fb, va_recv hKc hPc (ci := 4) (q0 := 0) rfl rfl, fun U hU hW => ⟨rfl, EY.at hPc hKc hDc hG (hZ.no hS) (ZD.no hZd hS) hZt hAO hS hFc U hU hW⟩⟩ rfl rfl hl.1 rfl (lv_room (Nat.le_of_ble_eq_true rfl)) dJx4a65c_add_9ea2d_20 ⟨Nat.le_of_ble_eq_true rfl, Nat.le_of_ble_eq_true rfl⟩) hS (fun q _ h => hFc q h) hFc (fun u t H1 locs ht hvm hw hB hz1 hk1 hS => ?_)
  obtain ⟨u_2a, u_2b⟩ := u
  obtain ⟨hP1, hD1⟩ := hB
  rw [ht] at hP1
  obtain ⟨hP, hD⟩ := va_join (wr := []) (w1 := [(h, .inr (4, [.int u_2a, .ref u_2b, .int 1]))]) hP hD [0, 1] [] rfl rfl (by decide) (by decide) hk1 hFc hP1 hD1
  generalize H1 = H at hP hS ⊢
  have hP : va_P D vwCl [(h, .inr (4, [.int u_2a, .ref u_2b, .int 1]))] H := hP
  have hD : va_D A [(h, .inr (4, [.int u_2a, .ref u_2b, .int 1]))] := hD
  refine lv_iconst (v := 1) hx hb dJx4a65c_add_9ea2d_23 (by decide) ?_
  have hP9 := hP.sub (ws' := [(h, .inr (4, [.int u_2a, .ref u_2b, .int 1]))]) [0] rfl
  have hD9 := hD.sub (ws' := [(h, .inr (4, [.int u_2a, .ref u_2b, .int 1]))]) [0] (by decide) rfl
  refine W.widen (k := 1) (n := 10) (Nat.le_of_ble_eq_true rfl) (Nat.le_of_ble_eq_true rfl) ?_
  exact W.zret (v := 1) hx hb hr rfl (fun t ht hW => ⟨⟨1, (u_2a, u_2b), rfl, rfl, by rw [ht]; exact hP9, hD9⟩, hS.F ht⟩) hS.2.2 dJx4a65c_add_9ea2d_24
