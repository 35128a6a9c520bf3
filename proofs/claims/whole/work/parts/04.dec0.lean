theorem dX2_init_0 : decode cX2_init 0 = .ok (.aload_n 0, 1) := by decide +kernel
theorem dX2_init_1 : decode cX2_init 1 = .ok (.invokespecial 3, 3) := by decide +kernel
theorem dX2_init_4 : decode cX2_init 4 = .ok (.aload_n 0, 1) := by decide +kernel
theorem dX2_init_5 : decode cX2_init 5 = .ok (.iconst 0, 1) := by decide +kernel
theorem dX2_init_6 : decode cX2_init 6 = .ok (.putfield 9, 3) := by decide +kernel
theorem dX2_init_9 : decode cX2_init 9 = .ok (.aload_n 0, 1) := by decide +kernel
theorem dX2_init_10 : decode cX2_init 10 = .ok (.iload_n 1, 1) := by decide +kernel
theorem dX2_init_11 : decode cX2_init 11 = .ok (.iconst 1, 1) := by decide +kernel
theorem dX2_init_12 : decode cX2_init 12 = .ok (.invokestatic 15, 3) := by decide +kernel
theorem dX2_init_15 : decode cX2_init 15 = .ok (.putfield 21, 3) := by decide +kernel
theorem dX2_init_18 : decode cX2_init 18 = .ok (.aload_n 0, 1) := by decide +kernel
theorem dX2_init_19 : decode cX2_init 19 = .ok (.aload_n 0, 1) := by decide +kernel
theorem dX2_init_20 : decode cX2_init 20 = .ok (.getfield 21, 3) := by decide +kernel
theorem dX2_init_23 : decode cX2_init 23 = .ok (.iconst 4, 1) := by decide +kernel
theorem dX2_init_24 : decode cX2_init 24 = .ok (.imul, 1) := by decide +kernel
theorem dX2_init_25 : decode cX2_init 25 = .ok (.newarray .int, 2) := by decide +kernel
theorem dX2_init_27 : decode cX2_init 27 = .ok (.putfield 24, 3) := by decide +kernel
theorem dX2_init_30 : decode cX2_init 30 = .ok (.return_, 1) := by decide +kernel
theorem dJ7_fill_53178_0 : decode cJ7_fill_53178 0 = .ok (.iconst 0, 1) := by decide +kernel
theorem dJ7_fill_53178_1 : decode cJ7_fill_53178 1 = .ok (.istore_n 2, 1) := by decide +kernel
theorem dJ7_fill_53178_2 : decode cJ7_fill_53178 2 = .ok (.aload_n 0, 1) := by decide +kernel
theorem dJ7_fill_53178_3 : decode cJ7_fill_53178 3 = .ok (.arraylength, 1) := by decide +kernel
theorem dJ7_fill_53178_4 : decode cJ7_fill_53178 4 = .ok (.istore_n 3, 1) := by decide +kernel
theorem dJ7_fill_53178_5 : decode cJ7_fill_53178 5 = .ok (.iload_n 2, 1) := by decide +kernel
theorem dJ7_fill_53178_6 : decode cJ7_fill_53178 6 = .ok (.iload_n 3, 1) := by decide +kernel
theorem dJ7_fill_53178_7 : decode cJ7_fill_53178 7 = .ok (.if_icmp .ge 13, 3) := by decide +kernel
theorem dJ7_fill_53178_10 : decode cJ7_fill_53178 10 = .ok (.aload_n 0, 1) := by decide +kernel
theorem dJ7_fill_53178_11 : decode cJ7_fill_53178 11 = .ok (.iload_n 2, 1) := by decide +kernel
theorem dJ7_fill_53178_12 : decode cJ7_fill_53178 12 = .ok (.iload_n 1, 1) := by decide +kernel
theorem dJ7_fill_53178_13 : decode cJ7_fill_53178 13 = .ok (.iastore, 1) := by decide +kernel
theorem dJ7_fill_53178_14 : decode cJ7_fill_53178 14 = .ok (.iinc 2 1, 3) := by decide +kernel
theorem dJ7_fill_53178_17 : decode cJ7_fill_53178 17 = .ok (.goto (-12), 3) := by decide +kernel
theorem dJ7_fill_53178_20 : decode cJ7_fill_53178 20 = .ok (.return_, 1) := by decide +kernel
theorem dX4_init_0 : decode cX4_init 0 = .ok (.aload_n 0, 1) := by decide +kernel
theorem dX4_init_1 : decode cX4_init 1 = .ok (.invokespecial 3, 3) := by decide +kernel
theorem dX4_init_4 : decode cX4_init 4 = .ok (.aload_n 0, 1) := by decide +kernel
theorem dX4_init_5 : decode cX4_init 5 = .ok (.bipush 8, 2) := by decide +kernel
theorem dX4_init_7 : decode cX4_init 7 = .ok (.newarray .int, 2) := by decide +kernel
theorem dX4_init_9 : decode cX4_init 9 = .ok (.putfield 9, 3) := by decide +kernel
theorem dX4_init_12 : decode cX4_init 12 = .ok (.aload_n 0, 1) := by decide +kernel
theorem dX4_init_13 : decode cX4_init 13 = .ok (.bipush 8, 2) := by decide +kernel
theorem dX4_init_15 : decode cX4_init 15 = .ok (.newarray .int, 2) := by decide +kernel
theorem dX4_init_17 : decode cX4_init 17 = .ok (.putfield 15, 3) := by decide +kernel
theorem dX4_init_20 : decode cX4_init 20 = .ok (.aload_n 0, 1) := by decide +kernel
theorem dX4_init_21 : decode cX4_init 21 = .ok (.bipush 32, 2) := by decide +kernel
theorem dX4_init_23 : decode cX4_init 23 = .ok (.newarray .int, 2) := by decide +kernel
theorem dX4_init_25 : decode cX4_init 25 = .ok (.putfield 18, 3) := by decide +kernel
theorem dX4_init_28 : decode cX4_init 28 = .ok (.aload_n 0, 1) := by decide +kernel
theorem dX4_init_29 : decode cX4_init 29 = .ok (.bipush 32, 2) := by decide +kernel
theorem dX4_init_31 : decode cX4_init 31 = .ok (.newarray .int, 2) := by decide +kernel
theorem dX4_init_33 : decode cX4_init 33 = .ok (.putfield 21, 3) := by decide +kernel
theorem dX4_init_36 : decode cX4_init 36 = .ok (.aload_n 0, 1) := by decide +kernel
theorem dX4_init_37 : decode cX4_init 37 = .ok (.iconst 3, 1) := by decide +kernel
theorem dX4_init_38 : decode cX4_init 38 = .ok (.newarray .int, 2) := by decide +kernel
theorem dX4_init_40 : decode cX4_init 40 = .ok (.dup, 1) := by decide +kernel
theorem dX4_init_41 : decode cX4_init 41 = .ok (.iconst 0, 1) := by decide +kernel
theorem dX4_init_42 : decode cX4_init 42 = .ok (.bipush 25, 2) := by decide +kernel
theorem dX4_init_44 : decode cX4_init 44 = .ok (.iastore, 1) := by decide +kernel
theorem dX4_init_45 : decode cX4_init 45 = .ok (.dup, 1) := by decide +kernel
theorem dX4_init_46 : decode cX4_init 46 = .ok (.iconst 1, 1) := by decide +kernel
theorem dX4_init_47 : decode cX4_init 47 = .ok (.iconst 3, 1) := by decide +kernel
theorem dX4_init_48 : decode cX4_init 48 = .ok (.iastore, 1) := by decide +kernel
theorem dX4_init_49 : decode cX4_init 49 = .ok (.dup, 1) := by decide +kernel
theorem dX4_init_50 : decode cX4_init 50 = .ok (.iconst 2, 1) := by decide +kernel
theorem dX4_init_51 : decode cX4_init 51 = .ok (.iconst 5, 1) := by decide +kernel
theorem dX4_init_52 : decode cX4_init 52 = .ok (.iastore, 1) := by decide +kernel
theorem dX4_init_53 : decode cX4_init 53 = .ok (.putfield 24, 3) := by decide +kernel
theorem dX4_init_56 : decode cX4_init 56 = .ok (.aload_n 0, 1) := by decide +kernel
theorem dX4_init_57 : decode cX4_init 57 = .ok (.bipush 7, 2) := by decide +kernel
theorem dX4_init_59 : decode cX4_init 59 = .ok (.newarray .int, 2) := by decide +kernel
theorem dX4_init_61 : decode cX4_init 61 = .ok (.putfield 27, 3) := by decide +kernel
theorem dX4_init_64 : decode cX4_init 64 = .ok (.aload_n 0, 1) := by decide +kernel
theorem dX4_init_65 : decode cX4_init 65 = .ok (.new 30, 3) := by decide +kernel
theorem dX4_init_68 : decode cX4_init 68 = .ok (.dup, 1) := by decide +kernel
theorem dX4_init_69 : decode cX4_init 69 = .ok (.bipush 8, 2) := by decide +kernel
theorem dX4_init_71 : decode cX4_init 71 = .ok (.invokespecial 32, 3) := by decide +kernel
theorem dX4_init_74 : decode cX4_init 74 = .ok (.putfield 35, 3) := by decide +kernel
theorem dX4_init_77 : decode cX4_init 77 = .ok (.aload_n 0, 1) := by decide +kernel
theorem dX4_init_78 : decode cX4_init 78 = .ok (.new 30, 3) := by decide +kernel
theorem dX4_init_81 : decode cX4_init 81 = .ok (.dup, 1) := by decide +kernel
theorem dX4_init_82 : decode cX4_init 82 = .ok (.bipush 30, 2) := by decide +kernel
theorem dX4_init_84 : decode cX4_init 84 = .ok (.invokespecial 32, 3) := by decide +kernel
theorem dX4_init_87 : decode cX4_init 87 = .ok (.putfield 39, 3) := by decide +kernel
theorem dX4_init_90 : decode cX4_init 90 = .ok (.aload_n 0, 1) := by decide +kernel
theorem dX4_init_91 : decode cX4_init 91 = .ok (.getfield 18, 3) := by decide +kernel
theorem dX4_init_94 : decode cX4_init 94 = .ok (.iconst (-1), 1) := by decide +kernel
theorem dX4_init_95 : decode cX4_init 95 = .ok (.invokestatic 42, 3) := by decide +kernel
theorem dX4_init_98 : decode cX4_init 98 = .ok (.aload_n 0, 1) := by decide +kernel
theorem dX4_init_99 : decode cX4_init 99 = .ok (.getfield 21, 3) := by decide +kernel
theorem dX4_init_102 : decode cX4_init 102 = .ok (.iconst (-1), 1) := by decide +kernel
theorem dX4_init_103 : decode cX4_init 103 = .ok (.invokestatic 42, 3) := by decide +kernel
theorem dX4_init_106 : decode cX4_init 106 = .ok (.return_, 1) := by decide +kernel
theorem dX0_init_0 : decode cX0_init 0 = .ok (.aload_n 0, 1) := by decide +kernel
theorem dX0_init_1 : decode cX0_init 1 = .ok (.invokespecial 3, 3) := by decide +kernel
theorem dX0_init_4 : decode cX0_init 4 = .ok (.aload_n 0, 1) := by decide +kernel
theorem dX0_init_5 : decode cX0_init 5 = .ok (.bipush 6, 2) := by decide +kernel
theorem dX0_init_7 : decode cX0_init 7 = .ok (.anewarray 9, 3) := by decide +kernel
theorem dX0_init_10 : decode cX0_init 10 = .ok (.putfield 11, 3) := by decide +kernel
theorem dX0_init_13 : decode cX0_init 13 = .ok (.aload_n 0, 1) := by decide +kernel
theorem dX0_init_14 : decode cX0_init 14 = .ok (.iconst 0, 1) := by decide +kernel
theorem dX0_init_15 : decode cX0_init 15 = .ok (.putfield 17, 3) := by decide +kernel
theorem dX0_init_18 : decode cX0_init 18 = .ok (.aload_n 0, 1) := by decide +kernel
theorem dX0_init_19 : decode cX0_init 19 = .ok (.iconst 0, 1) := by decide +kernel
theorem dX0_init_20 : decode cX0_init 20 = .ok (.putfield 21, 3) := by decide +kernel
theorem dX0_init_23 : decode cX0_init 23 = .ok (.iconst 0, 1) := by decide +kernel
theorem dX0_init_24 : decode cX0_init 24 = .ok (.istore_n 1, 1) := by decide +kernel
theorem dX0_init_25 : decode cX0_init 25 = .ok (.iload_n 1, 1) := by decide +kernel
theorem dX0_init_26 : decode cX0_init 26 = .ok (.bipush 6, 2) := by decide +kernel
theorem dX0_init_28 : decode cX0_init 28 = .ok (.if_icmp .ge 22, 3) := by decide +kernel
theorem dX0_init_31 : decode cX0_init 31 = .ok (.aload_n 0, 1) := by decide +kernel
theorem dX0_init_32 : decode cX0_init 32 = .ok (.getfield 11, 3) := by decide +kernel
theorem dX0_init_35 : decode cX0_init 35 = .ok (.iload_n 1, 1) := by decide +kernel
theorem dX0_init_36 : decode cX0_init 36 = .ok (.new 9, 3) := by decide +kernel
theorem dX0_init_39 : decode cX0_init 39 = .ok (.dup, 1) := by decide +kernel
theorem dX0_init_40 : decode cX0_init 40 = .ok (.invokespecial 24, 3) := by decide +kernel
theorem dX0_init_43 : decode cX0_init 43 = .ok (.aastore, 1) := by decide +kernel
theorem dX0_init_44 : decode cX0_init 44 = .ok (.iinc 1 1, 3) := by decide +kernel
theorem dX0_init_47 : decode cX0_init 47 = .ok (.goto (-22), 3) := by decide +kernel
theorem dX0_init_50 : decode cX0_init 50 = .ok (.return_, 1) := by decide +kernel
theorem dX0_at_0 : decode cX0_at 0 = .ok (.iload_n 1, 1) := by decide +kernel
theorem dX0_at_1 : decode cX0_at 1 = .ok (.ifCond .lt 18, 3) := by decide +kernel
theorem dX0_at_4 : decode cX0_at 4 = .ok (.iload_n 1, 1) := by decide +kernel
theorem dX0_at_5 : decode cX0_at 5 = .ok (.bipush 6, 2) := by decide +kernel
theorem dX0_at_7 : decode cX0_at 7 = .ok (.if_icmp .ge 12, 3) := by decide +kernel
theorem dX0_at_10 : decode cX0_at 10 = .ok (.aload_n 0, 1) := by decide +kernel
theorem dX0_at_11 : decode cX0_at 11 = .ok (.getfield 11, 3) := by decide +kernel
theorem dX0_at_14 : decode cX0_at 14 = .ok (.iload_n 1, 1) := by decide +kernel
theorem dX0_at_15 : decode cX0_at 15 = .ok (.aaload, 1) := by decide +kernel
theorem dX0_at_16 : decode cX0_at 16 = .ok (.goto 4, 3) := by decide +kernel
theorem dX0_at_19 : decode cX0_at 19 = .ok (.aconst_null, 1) := by decide +kernel
theorem dX0_at_20 : decode cX0_at 20 = .ok (.areturn, 1) := by decide +kernel
theorem dX2_copyFrom_0 : decode cX2_copyFrom 0 = .ok (.aload_n 0, 1) := by decide +kernel
theorem dX2_copyFrom_1 : decode cX2_copyFrom 1 = .ok (.aload_n 1, 1) := by decide +kernel
theorem dX2_copyFrom_2 : decode cX2_copyFrom 2 = .ok (.getfield 9, 3) := by decide +kernel
theorem dX2_copyFrom_5 : decode cX2_copyFrom 5 = .ok (.aload_n 0, 1) := by decide +kernel
theorem dX2_copyFrom_6 : decode cX2_copyFrom 6 = .ok (.getfield 21, 3) := by decide +kernel
theorem dX2_copyFrom_9 : decode cX2_copyFrom 9 = .ok (.invokestatic 28, 3) := by decide +kernel
theorem dX2_copyFrom_12 : decode cX2_copyFrom 12 = .ok (.putfield 9, 3) := by decide +kernel
theorem dX2_copyFrom_15 : decode cX2_copyFrom 15 = .ok (.aload_n 1, 1) := by decide +kernel
theorem dX2_copyFrom_16 : decode cX2_copyFrom 16 = .ok (.getfield 24, 3) := by decide +kernel
theorem dX2_copyFrom_19 : decode cX2_copyFrom 19 = .ok (.iconst 0, 1) := by decide +kernel
theorem dX2_copyFrom_20 : decode cX2_copyFrom 20 = .ok (.aload_n 0, 1) := by decide +kernel
theorem dX2_copyFrom_21 : decode cX2_copyFrom 21 = .ok (.getfield 24, 3) := by decide +kernel
theorem dX2_copyFrom_24 : decode cX2_copyFrom 24 = .ok (.iconst 0, 1) := by decide +kernel
theorem dX2_copyFrom_25 : decode cX2_copyFrom 25 = .ok (.aload_n 0, 1) := by decide +kernel
theorem dX2_copyFrom_26 : decode cX2_copyFrom 26 = .ok (.getfield 9, 3) := by decide +kernel
theorem dX2_copyFrom_29 : decode cX2_copyFrom 29 = .ok (.iconst 4, 1) := by decide +kernel
theorem dX2_copyFrom_30 : decode cX2_copyFrom 30 = .ok (.imul, 1) := by decide +kernel
theorem dX2_copyFrom_31 : decode cX2_copyFrom 31 = .ok (.invokestatic 31, 3) := by decide +kernel
theorem dX2_copyFrom_34 : decode cX2_copyFrom 34 = .ok (.return_, 1) := by decide +kernel
theorem dX4_copyFrom_0 : decode cX4_copyFrom 0 = .ok (.aload_n 1, 1) := by decide +kernel
theorem dX4_copyFrom_1 : decode cX4_copyFrom 1 = .ok (.getfield 9, 3) := by decide +kernel
theorem dX4_copyFrom_4 : decode cX4_copyFrom 4 = .ok (.iconst 0, 1) := by decide +kernel
theorem dX4_copyFrom_5 : decode cX4_copyFrom 5 = .ok (.aload_n 0, 1) := by decide +kernel
theorem dX4_copyFrom_6 : decode cX4_copyFrom 6 = .ok (.getfield 9, 3) := by decide +kernel
theorem dX4_copyFrom_9 : decode cX4_copyFrom 9 = .ok (.iconst 0, 1) := by decide +kernel
theorem dX4_copyFrom_10 : decode cX4_copyFrom 10 = .ok (.bipush 8, 2) := by decide +kernel
theorem dX4_copyFrom_12 : decode cX4_copyFrom 12 = .ok (.invokestatic 48, 3) := by decide +kernel
theorem dX4_copyFrom_15 : decode cX4_copyFrom 15 = .ok (.aload_n 1, 1) := by decide +kernel
theorem dX4_copyFrom_16 : decode cX4_copyFrom 16 = .ok (.getfield 15, 3) := by decide +kernel
theorem dX4_copyFrom_19 : decode cX4_copyFrom 19 = .ok (.iconst 0, 1) := by decide +kernel
theorem dX4_copyFrom_20 : decode cX4_copyFrom 20 = .ok (.aload_n 0, 1) := by decide +kernel
theorem dX4_copyFrom_21 : decode cX4_copyFrom 21 = .ok (.getfield 15, 3) := by decide +kernel
theorem dX4_copyFrom_24 : decode cX4_copyFrom 24 = .ok (.iconst 0, 1) := by decide +kernel
theorem dX4_copyFrom_25 : decode cX4_copyFrom 25 = .ok (.bipush 8, 2) := by decide +kernel
theorem dX4_copyFrom_27 : decode cX4_copyFrom 27 = .ok (.invokestatic 48, 3) := by decide +kernel
theorem dX4_copyFrom_30 : decode cX4_copyFrom 30 = .ok (.aload_n 1, 1) := by decide +kernel
theorem dX4_copyFrom_31 : decode cX4_copyFrom 31 = .ok (.getfield 18, 3) := by decide +kernel
theorem dX4_copyFrom_34 : decode cX4_copyFrom 34 = .ok (.iconst 0, 1) := by decide +kernel
theorem dX4_copyFrom_35 : decode cX4_copyFrom 35 = .ok (.aload_n 0, 1) := by decide +kernel
theorem dX4_copyFrom_36 : decode cX4_copyFrom 36 = .ok (.getfield 18, 3) := by decide +kernel
theorem dX4_copyFrom_39 : decode cX4_copyFrom 39 = .ok (.iconst 0, 1) := by decide +kernel
theorem dX4_copyFrom_40 : decode cX4_copyFrom 40 = .ok (.bipush 32, 2) := by decide +kernel
theorem dX4_copyFrom_42 : decode cX4_copyFrom 42 = .ok (.invokestatic 48, 3) := by decide +kernel
theorem dX4_copyFrom_45 : decode cX4_copyFrom 45 = .ok (.aload_n 1, 1) := by decide +kernel
theorem dX4_copyFrom_46 : decode cX4_copyFrom 46 = .ok (.getfield 21, 3) := by decide +kernel
theorem dX4_copyFrom_49 : decode cX4_copyFrom 49 = .ok (.iconst 0, 1) := by decide +kernel
theorem dX4_copyFrom_50 : decode cX4_copyFrom 50 = .ok (.aload_n 0, 1) := by decide +kernel
theorem dX4_copyFrom_51 : decode cX4_copyFrom 51 = .ok (.getfield 21, 3) := by decide +kernel
theorem dX4_copyFrom_54 : decode cX4_copyFrom 54 = .ok (.iconst 0, 1) := by decide +kernel
theorem dX4_copyFrom_55 : decode cX4_copyFrom 55 = .ok (.bipush 32, 2) := by decide +kernel
theorem dX4_copyFrom_57 : decode cX4_copyFrom 57 = .ok (.invokestatic 48, 3) := by decide +kernel
theorem dX4_copyFrom_60 : decode cX4_copyFrom 60 = .ok (.aload_n 1, 1) := by decide +kernel
theorem dX4_copyFrom_61 : decode cX4_copyFrom 61 = .ok (.getfield 24, 3) := by decide +kernel
theorem dX4_copyFrom_64 : decode cX4_copyFrom 64 = .ok (.iconst 0, 1) := by decide +kernel
theorem dX4_copyFrom_65 : decode cX4_copyFrom 65 = .ok (.aload_n 0, 1) := by decide +kernel
theorem dX4_copyFrom_66 : decode cX4_copyFrom 66 = .ok (.getfield 24, 3) := by decide +kernel
theorem dX4_copyFrom_69 : decode cX4_copyFrom 69 = .ok (.iconst 0, 1) := by decide +kernel
theorem dX4_copyFrom_70 : decode cX4_copyFrom 70 = .ok (.iconst 3, 1) := by decide +kernel
theorem dX4_copyFrom_71 : decode cX4_copyFrom 71 = .ok (.invokestatic 48, 3) := by decide +kernel
theorem dX4_copyFrom_74 : decode cX4_copyFrom 74 = .ok (.aload_n 1, 1) := by decide +kernel
theorem dX4_copyFrom_75 : decode cX4_copyFrom 75 = .ok (.getfield 27, 3) := by decide +kernel
theorem dX4_copyFrom_78 : decode cX4_copyFrom 78 = .ok (.iconst 0, 1) := by decide +kernel
theorem dX4_copyFrom_79 : decode cX4_copyFrom 79 = .ok (.aload_n 0, 1) := by decide +kernel
theorem dX4_copyFrom_80 : decode cX4_copyFrom 80 = .ok (.getfield 27, 3) := by decide +kernel
theorem dX4_copyFrom_83 : decode cX4_copyFrom 83 = .ok (.iconst 0, 1) := by decide +kernel
theorem dX4_copyFrom_84 : decode cX4_copyFrom 84 = .ok (.bipush 7, 2) := by decide +kernel
theorem dX4_copyFrom_86 : decode cX4_copyFrom 86 = .ok (.invokestatic 48, 3) := by decide +kernel
theorem dX4_copyFrom_89 : decode cX4_copyFrom 89 = .ok (.aload_n 0, 1) := by decide +kernel
theorem dX4_copyFrom_90 : decode cX4_copyFrom 90 = .ok (.getfield 35, 3) := by decide +kernel
theorem dX4_copyFrom_93 : decode cX4_copyFrom 93 = .ok (.aload_n 1, 1) := by decide +kernel
theorem dX4_copyFrom_94 : decode cX4_copyFrom 94 = .ok (.getfield 35, 3) := by decide +kernel
theorem dX4_copyFrom_97 : decode cX4_copyFrom 97 = .ok (.invokevirtual 54, 3) := by decide +kernel
theorem dX4_copyFrom_100 : decode cX4_copyFrom 100 = .ok (.aload_n 0, 1) := by decide +kernel
theorem dX4_copyFrom_101 : decode cX4_copyFrom 101 = .ok (.getfield 39, 3) := by decide +kernel
theorem dX4_copyFrom_104 : decode cX4_copyFrom 104 = .ok (.aload_n 1, 1) := by decide +kernel
theorem dX4_copyFrom_105 : decode cX4_copyFrom 105 = .ok (.getfield 39, 3) := by decide +kernel
theorem dX4_copyFrom_108 : decode cX4_copyFrom 108 = .ok (.invokevirtual 54, 3) := by decide +kernel
theorem dX4_copyFrom_111 : decode cX4_copyFrom 111 = .ok (.return_, 1) := by decide +kernel
theorem dX0_keep_0 : decode cX0_keep 0 = .ok (.aload_n 0, 1) := by decide +kernel
theorem dX0_keep_1 : decode cX0_keep 1 = .ok (.aload_n 0, 1) := by decide +kernel
theorem dX0_keep_2 : decode cX0_keep 2 = .ok (.getfield 17, 3) := by decide +kernel
theorem dX0_keep_5 : decode cX0_keep 5 = .ok (.invokevirtual 25, 3) := by decide +kernel
theorem dX0_keep_8 : decode cX0_keep 8 = .ok (.astore_n 2, 1) := by decide +kernel
theorem dX0_keep_9 : decode cX0_keep 9 = .ok (.aload_n 2, 1) := by decide +kernel
theorem dX0_keep_10 : decode cX0_keep 10 = .ok (.ifnull 57, 3) := by decide +kernel
theorem dX0_keep_13 : decode cX0_keep 13 = .ok (.aload_n 2, 1) := by decide +kernel
theorem dX0_keep_14 : decode cX0_keep 14 = .ok (.aload_n 1, 1) := by decide +kernel
theorem dX0_keep_15 : decode cX0_keep 15 = .ok (.invokevirtual 29, 3) := by decide +kernel
theorem dX0_keep_18 : decode cX0_keep 18 = .ok (.aload_n 0, 1) := by decide +kernel
theorem dX0_keep_19 : decode cX0_keep 19 = .ok (.aload_n 0, 1) := by decide +kernel
theorem dX0_keep_20 : decode cX0_keep 20 = .ok (.getfield 17, 3) := by decide +kernel
theorem dX0_keep_23 : decode cX0_keep 23 = .ok (.iconst 1, 1) := by decide +kernel
theorem dX0_keep_24 : decode cX0_keep 24 = .ok (.iadd, 1) := by decide +kernel
theorem dX0_keep_25 : decode cX0_keep 25 = .ok (.bipush 6, 2) := by decide +kernel
theorem dX0_keep_27 : decode cX0_keep 27 = .ok (.if_icmp .ge 12, 3) := by decide +kernel
theorem dX0_keep_30 : decode cX0_keep 30 = .ok (.aload_n 0, 1) := by decide +kernel
theorem dX0_keep_31 : decode cX0_keep 31 = .ok (.getfield 17, 3) := by decide +kernel
theorem dX0_keep_34 : decode cX0_keep 34 = .ok (.iconst 1, 1) := by decide +kernel
theorem dX0_keep_35 : decode cX0_keep 35 = .ok (.iadd, 1) := by decide +kernel
theorem dX0_keep_36 : decode cX0_keep 36 = .ok (.goto 4, 3) := by decide +kernel
theorem dX0_keep_39 : decode cX0_keep 39 = .ok (.iconst 0, 1) := by decide +kernel
theorem dX0_keep_40 : decode cX0_keep 40 = .ok (.putfield 17, 3) := by decide +kernel
theorem dX0_keep_43 : decode cX0_keep 43 = .ok (.aload_n 0, 1) := by decide +kernel
theorem dX0_keep_44 : decode cX0_keep 44 = .ok (.aload_n 0, 1) := by decide +kernel
theorem dX0_keep_45 : decode cX0_keep 45 = .ok (.getfield 21, 3) := by decide +kernel
theorem dX0_keep_48 : decode cX0_keep 48 = .ok (.bipush 6, 2) := by decide +kernel
theorem dX0_keep_50 : decode cX0_keep 50 = .ok (.if_icmp .ge 12, 3) := by decide +kernel
theorem dX0_keep_53 : decode cX0_keep 53 = .ok (.aload_n 0, 1) := by decide +kernel
theorem dX0_keep_54 : decode cX0_keep 54 = .ok (.getfield 21, 3) := by decide +kernel
theorem dX0_keep_57 : decode cX0_keep 57 = .ok (.iconst 1, 1) := by decide +kernel
theorem dX0_keep_58 : decode cX0_keep 58 = .ok (.iadd, 1) := by decide +kernel
theorem dX0_keep_59 : decode cX0_keep 59 = .ok (.goto 5, 3) := by decide +kernel
theorem dX0_keep_62 : decode cX0_keep 62 = .ok (.bipush 6, 2) := by decide +kernel
theorem dX0_keep_64 : decode cX0_keep 64 = .ok (.putfield 21, 3) := by decide +kernel
theorem dX0_keep_67 : decode cX0_keep 67 = .ok (.return_, 1) := by decide +kernel
theorem dX0_takeBack_0 : decode cX0_takeBack 0 = .ok (.aload_n 0, 1) := by decide +kernel
theorem dX0_takeBack_1 : decode cX0_takeBack 1 = .ok (.getfield 17, 3) := by decide +kernel
theorem dX0_takeBack_4 : decode cX0_takeBack 4 = .ok (.ifCond .le 12, 3) := by decide +kernel
theorem dX0_takeBack_7 : decode cX0_takeBack 7 = .ok (.aload_n 0, 1) := by decide +kernel
theorem dX0_takeBack_8 : decode cX0_takeBack 8 = .ok (.getfield 17, 3) := by decide +kernel
theorem dX0_takeBack_11 : decode cX0_takeBack 11 = .ok (.iconst 1, 1) := by decide +kernel
theorem dX0_takeBack_12 : decode cX0_takeBack 12 = .ok (.isub, 1) := by decide +kernel
theorem dX0_takeBack_13 : decode cX0_takeBack 13 = .ok (.goto 4, 3) := by decide +kernel
theorem dX0_takeBack_16 : decode cX0_takeBack 16 = .ok (.iconst 5, 1) := by decide +kernel
theorem dX0_takeBack_17 : decode cX0_takeBack 17 = .ok (.istore_n 2, 1) := by decide +kernel
theorem dX0_takeBack_18 : decode cX0_takeBack 18 = .ok (.aload_n 0, 1) := by decide +kernel
theorem dX0_takeBack_19 : decode cX0_takeBack 19 = .ok (.iload_n 2, 1) := by decide +kernel
theorem dX0_takeBack_20 : decode cX0_takeBack 20 = .ok (.invokevirtual 25, 3) := by decide +kernel
theorem dX0_takeBack_23 : decode cX0_takeBack 23 = .ok (.astore_n 3, 1) := by decide +kernel
theorem dX0_takeBack_24 : decode cX0_takeBack 24 = .ok (.aload_n 0, 1) := by decide +kernel
theorem dX0_takeBack_25 : decode cX0_takeBack 25 = .ok (.getfield 21, 3) := by decide +kernel
theorem dX0_takeBack_28 : decode cX0_takeBack 28 = .ok (.ifCond .le 27, 3) := by decide +kernel
theorem dX0_takeBack_31 : decode cX0_takeBack 31 = .ok (.aload_n 3, 1) := by decide +kernel
theorem dX0_takeBack_32 : decode cX0_takeBack 32 = .ok (.ifnull 23, 3) := by decide +kernel
theorem dX0_takeBack_35 : decode cX0_takeBack 35 = .ok (.aload_n 1, 1) := by decide +kernel
theorem dX0_takeBack_36 : decode cX0_takeBack 36 = .ok (.aload_n 3, 1) := by decide +kernel
theorem dX0_takeBack_37 : decode cX0_takeBack 37 = .ok (.invokevirtual 29, 3) := by decide +kernel
theorem dX0_takeBack_40 : decode cX0_takeBack 40 = .ok (.aload_n 0, 1) := by decide +kernel
theorem dX0_takeBack_41 : decode cX0_takeBack 41 = .ok (.iload_n 2, 1) := by decide +kernel
theorem dX0_takeBack_42 : decode cX0_takeBack 42 = .ok (.putfield 17, 3) := by decide +kernel
theorem dX0_takeBack_45 : decode cX0_takeBack 45 = .ok (.aload_n 0, 1) := by decide +kernel
theorem dX0_takeBack_46 : decode cX0_takeBack 46 = .ok (.dup, 1) := by decide +kernel
theorem dX0_takeBack_47 : decode cX0_takeBack 47 = .ok (.getfield 21, 3) := by decide +kernel
theorem dX0_takeBack_50 : decode cX0_takeBack 50 = .ok (.iconst 1, 1) := by decide +kernel
theorem dX0_takeBack_51 : decode cX0_takeBack 51 = .ok (.isub, 1) := by decide +kernel
theorem dX0_takeBack_52 : decode cX0_takeBack 52 = .ok (.putfield 21, 3) := by decide +kernel
theorem dX0_takeBack_55 : decode cX0_takeBack 55 = .ok (.return_, 1) := by decide +kernel
theorem dX0_clear_0 : decode cX0_clear 0 = .ok (.aload_n 0, 1) := by decide +kernel
theorem dX0_clear_1 : decode cX0_clear 1 = .ok (.iconst 0, 1) := by decide +kernel
theorem dX0_clear_2 : decode cX0_clear 2 = .ok (.putfield 21, 3) := by decide +kernel
theorem dX0_clear_5 : decode cX0_clear 5 = .ok (.return_, 1) := by decide +kernel
theorem dX1_init_0 : decode cX1_init 0 = .ok (.aload_n 0, 1) := by decide +kernel
theorem dX1_init_1 : decode cX1_init 1 = .ok (.invokespecial 3, 3) := by decide +kernel
theorem dX1_init_4 : decode cX1_init 4 = .ok (.aload_n 0, 1) := by decide +kernel
theorem dX1_init_5 : decode cX1_init 5 = .ok (.sipush 160, 3) := by decide +kernel
theorem dX1_init_8 : decode cX1_init 8 = .ok (.newarray .int, 2) := by decide +kernel
theorem dX1_init_10 : decode cX1_init 10 = .ok (.putfield 9, 3) := by decide +kernel
theorem dX1_init_13 : decode cX1_init 13 = .ok (.aload_n 0, 1) := by decide +kernel
theorem dX1_init_14 : decode cX1_init 14 = .ok (.bipush 8, 2) := by decide +kernel
theorem dX1_init_16 : decode cX1_init 16 = .ok (.newarray .int, 2) := by decide +kernel
theorem dX1_init_18 : decode cX1_init 18 = .ok (.putfield 15, 3) := by decide +kernel
theorem dX1_init_21 : decode cX1_init 21 = .ok (.aload_n 0, 1) := by decide +kernel
theorem dX1_init_22 : decode cX1_init 22 = .ok (.bipush 8, 2) := by decide +kernel
theorem dX1_init_24 : decode cX1_init 24 = .ok (.newarray .int, 2) := by decide +kernel
theorem dX1_init_26 : decode cX1_init 26 = .ok (.putfield 18, 3) := by decide +kernel
theorem dX1_init_29 : decode cX1_init 29 = .ok (.aload_n 0, 1) := by decide +kernel
theorem dX1_init_30 : decode cX1_init 30 = .ok (.bipush 8, 2) := by decide +kernel
theorem dX1_init_32 : decode cX1_init 32 = .ok (.newarray .int, 2) := by decide +kernel
theorem dX1_init_34 : decode cX1_init 34 = .ok (.putfield 21, 3) := by decide +kernel
theorem dX1_init_37 : decode cX1_init 37 = .ok (.aload_n 0, 1) := by decide +kernel
theorem dX1_init_38 : decode cX1_init 38 = .ok (.bipush 32, 2) := by decide +kernel
theorem dX1_init_40 : decode cX1_init 40 = .ok (.newarray .int, 2) := by decide +kernel
theorem dX1_init_42 : decode cX1_init 42 = .ok (.putfield 24, 3) := by decide +kernel
theorem dX1_init_45 : decode cX1_init 45 = .ok (.aload_n 0, 1) := by decide +kernel
theorem dX1_init_46 : decode cX1_init 46 = .ok (.bipush 32, 2) := by decide +kernel
theorem dX1_init_48 : decode cX1_init 48 = .ok (.newarray .int, 2) := by decide +kernel
theorem dX1_init_50 : decode cX1_init 50 = .ok (.putfield 27, 3) := by decide +kernel
theorem dX1_init_53 : decode cX1_init 53 = .ok (.aload_n 0, 1) := by decide +kernel
theorem dX1_init_54 : decode cX1_init 54 = .ok (.iconst 0, 1) := by decide +kernel
theorem dX1_init_55 : decode cX1_init 55 = .ok (.putfield 30, 3) := by decide +kernel
theorem dX1_init_58 : decode cX1_init 58 = .ok (.aload_n 0, 1) := by decide +kernel
theorem dX1_init_59 : decode cX1_init 59 = .ok (.iconst 0, 1) := by decide +kernel
theorem dX1_init_60 : decode cX1_init 60 = .ok (.putfield 34, 3) := by decide +kernel
theorem dX1_init_63 : decode cX1_init 63 = .ok (.aload_n 0, 1) := by decide +kernel
theorem dX1_init_64 : decode cX1_init 64 = .ok (.aload_n 1, 1) := by decide +kernel
theorem dX1_init_65 : decode cX1_init 65 = .ok (.putfield 37, 3) := by decide +kernel
theorem dX1_init_68 : decode cX1_init 68 = .ok (.return_, 1) := by decide +kernel
theorem dX6_nodeOfPoint_0 : decode cX6_nodeOfPoint 0 = .ok (.iload_n 0, 1) := by decide +kernel
theorem dX6_nodeOfPoint_1 : decode cX6_nodeOfPoint 1 = .ok (.iconst 5, 1) := by decide +kernel
theorem dX6_nodeOfPoint_2 : decode cX6_nodeOfPoint 2 = .ok (.ishr, 1) := by decide +kernel
theorem dX6_nodeOfPoint_3 : decode cX6_nodeOfPoint 3 = .ok (.bipush 7, 2) := by decide +kernel
theorem dX6_nodeOfPoint_5 : decode cX6_nodeOfPoint 5 = .ok (.iand, 1) := by decide +kernel
theorem dX6_nodeOfPoint_6 : decode cX6_nodeOfPoint 6 = .ok (.ireturn, 1) := by decide +kernel
theorem dX6_isNode_0 : decode cX6_isNode 0 = .ok (.iload_n 0, 1) := by decide +kernel
theorem dX6_isNode_1 : decode cX6_isNode 1 = .ok (.ifCond .lt 13, 3) := by decide +kernel
theorem dX6_isNode_4 : decode cX6_isNode 4 = .ok (.iload_n 0, 1) := by decide +kernel
theorem dX6_isNode_5 : decode cX6_isNode 5 = .ok (.bipush 8, 2) := by decide +kernel
theorem dX6_isNode_7 : decode cX6_isNode 7 = .ok (.if_icmp .ge 7, 3) := by decide +kernel
theorem dX6_isNode_10 : decode cX6_isNode 10 = .ok (.iconst 1, 1) := by decide +kernel
theorem dX6_isNode_11 : decode cX6_isNode 11 = .ok (.goto 4, 3) := by decide +kernel
theorem dX6_isNode_14 : decode cX6_isNode 14 = .ok (.iconst 0, 1) := by decide +kernel
theorem dX6_isNode_15 : decode cX6_isNode 15 = .ok (.ireturn, 1) := by decide +kernel
theorem dX4_stateOf_0 : decode cX4_stateOf 0 = .ok (.iload_n 1, 1) := by decide +kernel
theorem dX4_stateOf_1 : decode cX4_stateOf 1 = .ok (.invokestatic 58, 3) := by decide +kernel
theorem dX4_stateOf_4 : decode cX4_stateOf 4 = .ok (.ifCond .eq 12, 3) := by decide +kernel
theorem dX4_stateOf_7 : decode cX4_stateOf 7 = .ok (.aload_n 0, 1) := by decide +kernel
theorem dX4_stateOf_8 : decode cX4_stateOf 8 = .ok (.getfield 9, 3) := by decide +kernel
theorem dX4_stateOf_11 : decode cX4_stateOf 11 = .ok (.iload_n 1, 1) := by decide +kernel
theorem dX4_stateOf_12 : decode cX4_stateOf 12 = .ok (.iaload, 1) := by decide +kernel
theorem dX4_stateOf_13 : decode cX4_stateOf 13 = .ok (.goto 4, 3) := by decide +kernel
theorem dX4_stateOf_16 : decode cX4_stateOf 16 = .ok (.iconst 0, 1) := by decide +kernel
theorem dX4_stateOf_17 : decode cX4_stateOf 17 = .ok (.ireturn, 1) := by decide +kernel
theorem dX6_numberOfPoint_0 : decode cX6_numberOfPoint 0 = .ok (.iload_n 0, 1) := by decide +kernel
theorem dX6_numberOfPoint_1 : decode cX6_numberOfPoint 1 = .ok (.bipush 31, 2) := by decide +kernel
theorem dX6_numberOfPoint_3 : decode cX6_numberOfPoint 3 = .ok (.iand, 1) := by decide +kernel
theorem dX6_numberOfPoint_4 : decode cX6_numberOfPoint 4 = .ok (.ireturn, 1) := by decide +kernel
theorem dX4_weightOf_0 : decode cX4_weightOf 0 = .ok (.iload_n 1, 1) := by decide +kernel
theorem dX4_weightOf_1 : decode cX4_weightOf 1 = .ok (.invokestatic 58, 3) := by decide +kernel
theorem dX4_weightOf_4 : decode cX4_weightOf 4 = .ok (.ifCond .eq 12, 3) := by decide +kernel
theorem dX4_weightOf_7 : decode cX4_weightOf 7 = .ok (.aload_n 0, 1) := by decide +kernel
theorem dX4_weightOf_8 : decode cX4_weightOf 8 = .ok (.getfield 15, 3) := by decide +kernel
theorem dX4_weightOf_11 : decode cX4_weightOf 11 = .ok (.iload_n 1, 1) := by decide +kernel
theorem dX4_weightOf_12 : decode cX4_weightOf 12 = .ok (.iaload, 1) := by decide +kernel
theorem dX4_weightOf_13 : decode cX4_weightOf 13 = .ok (.goto 4, 3) := by decide +kernel
theorem dX4_weightOf_16 : decode cX4_weightOf 16 = .ok (.iconst 0, 1) := by decide +kernel
theorem dX4_weightOf_17 : decode cX4_weightOf 17 = .ok (.ireturn, 1) := by decide +kernel
theorem dX1_layRing_0 : decode cX1_layRing 0 = .ok (.aload_n 0, 1) := by decide +kernel
theorem dX1_layRing_1 : decode cX1_layRing 1 = .ok (.iconst 0, 1) := by decide +kernel
theorem dX1_layRing_2 : decode cX1_layRing 2 = .ok (.putfield 34, 3) := by decide +kernel
theorem dX1_layRing_5 : decode cX1_layRing 5 = .ok (.iconst 0, 1) := by decide +kernel
theorem dX1_layRing_6 : decode cX1_layRing 6 = .ok (.istore_n 2, 1) := by decide +kernel
theorem dX1_layRing_7 : decode cX1_layRing 7 = .ok (.iload_n 2, 1) := by decide +kernel
theorem dX1_layRing_8 : decode cX1_layRing 8 = .ok (.sipush 160, 3) := by decide +kernel
theorem dX1_layRing_11 : decode cX1_layRing 11 = .ok (.if_icmp .ge 86, 3) := by decide +kernel
theorem dX1_layRing_14 : decode cX1_layRing 14 = .ok (.iload_n 2, 1) := by decide +kernel
theorem dX1_layRing_15 : decode cX1_layRing 15 = .ok (.aload_n 0, 1) := by decide +kernel
theorem dX1_layRing_16 : decode cX1_layRing 16 = .ok (.getfield 37, 3) := by decide +kernel
theorem dX1_layRing_19 : decode cX1_layRing 19 = .ok (.arraylength, 1) := by decide +kernel
theorem dX1_layRing_20 : decode cX1_layRing 20 = .ok (.if_icmp .ge 77, 3) := by decide +kernel
theorem dX1_layRing_23 : decode cX1_layRing 23 = .ok (.aload_n 0, 1) := by decide +kernel
theorem dX1_layRing_24 : decode cX1_layRing 24 = .ok (.getfield 37, 3) := by decide +kernel
theorem dX1_layRing_27 : decode cX1_layRing 27 = .ok (.iload_n 2, 1) := by decide +kernel
theorem dX1_layRing_28 : decode cX1_layRing 28 = .ok (.iaload, 1) := by decide +kernel
theorem dX1_layRing_29 : decode cX1_layRing 29 = .ok (.istore_n 3, 1) := by decide +kernel
theorem dX1_layRing_30 : decode cX1_layRing 30 = .ok (.iload_n 3, 1) := by decide +kernel
theorem dX1_layRing_31 : decode cX1_layRing 31 = .ok (.invokestatic 82, 3) := by decide +kernel
theorem dX1_layRing_34 : decode cX1_layRing 34 = .ok (.istore 4, 2) := by decide +kernel
theorem dX1_layRing_36 : decode cX1_layRing 36 = .ok (.aload_n 0, 1) := by decide +kernel
theorem dX1_layRing_37 : decode cX1_layRing 37 = .ok (.getfield 34, 3) := by decide +kernel
theorem dX1_layRing_40 : decode cX1_layRing 40 = .ok (.sipush 160, 3) := by decide +kernel
theorem dX1_layRing_43 : decode cX1_layRing 43 = .ok (.if_icmp .ge 48, 3) := by decide +kernel
theorem dX1_layRing_46 : decode cX1_layRing 46 = .ok (.aload_n 1, 1) := by decide +kernel
theorem dX1_layRing_47 : decode cX1_layRing 47 = .ok (.iload 4, 2) := by decide +kernel
theorem dX1_layRing_49 : decode cX1_layRing 49 = .ok (.invokevirtual 96, 3) := by decide +kernel
theorem dX1_layRing_52 : decode cX1_layRing 52 = .ok (.iconst 1, 1) := by decide +kernel
theorem dX1_layRing_53 : decode cX1_layRing 53 = .ok (.if_icmp .ne 38, 3) := by decide +kernel
theorem dX1_layRing_56 : decode cX1_layRing 56 = .ok (.iload_n 3, 1) := by decide +kernel
theorem dX1_layRing_57 : decode cX1_layRing 57 = .ok (.invokestatic 99, 3) := by decide +kernel
theorem dX1_layRing_60 : decode cX1_layRing 60 = .ok (.iconst 4, 1) := by decide +kernel
theorem dX1_layRing_61 : decode cX1_layRing 61 = .ok (.aload_n 1, 1) := by decide +kernel
theorem dX1_layRing_62 : decode cX1_layRing 62 = .ok (.iload 4, 2) := by decide +kernel
theorem dX1_layRing_64 : decode cX1_layRing 64 = .ok (.invokevirtual 89, 3) := by decide +kernel
theorem dX1_layRing_67 : decode cX1_layRing 67 = .ok (.imul, 1) := by decide +kernel
theorem dX1_layRing_68 : decode cX1_layRing 68 = .ok (.if_icmp .ge 23, 3) := by decide +kernel
theorem dX1_layRing_71 : decode cX1_layRing 71 = .ok (.aload_n 0, 1) := by decide +kernel
theorem dX1_layRing_72 : decode cX1_layRing 72 = .ok (.getfield 9, 3) := by decide +kernel
theorem dX1_layRing_75 : decode cX1_layRing 75 = .ok (.aload_n 0, 1) := by decide +kernel
theorem dX1_layRing_76 : decode cX1_layRing 76 = .ok (.getfield 34, 3) := by decide +kernel
theorem dX1_layRing_79 : decode cX1_layRing 79 = .ok (.iload_n 3, 1) := by decide +kernel
theorem dX1_layRing_80 : decode cX1_layRing 80 = .ok (.iastore, 1) := by decide +kernel
theorem dX1_layRing_81 : decode cX1_layRing 81 = .ok (.aload_n 0, 1) := by decide +kernel
theorem dX1_layRing_82 : decode cX1_layRing 82 = .ok (.dup, 1) := by decide +kernel
theorem dX1_layRing_83 : decode cX1_layRing 83 = .ok (.getfield 34, 3) := by decide +kernel
theorem dX1_layRing_86 : decode cX1_layRing 86 = .ok (.iconst 1, 1) := by decide +kernel
theorem dX1_layRing_87 : decode cX1_layRing 87 = .ok (.iadd, 1) := by decide +kernel
theorem dX1_layRing_88 : decode cX1_layRing 88 = .ok (.putfield 34, 3) := by decide +kernel
theorem dX1_layRing_91 : decode cX1_layRing 91 = .ok (.iinc 2 1, 3) := by decide +kernel
theorem dX1_layRing_94 : decode cX1_layRing 94 = .ok (.goto (-87), 3) := by decide +kernel
theorem dX1_layRing_97 : decode cX1_layRing 97 = .ok (.return_, 1) := by decide +kernel
theorem dX6_capacityFor_0 : decode cX6_capacityFor 0 = .ok (.bipush 100, 2) := by decide +kernel
theorem dX6_capacityFor_2 : decode cX6_capacityFor 2 = .ok (.iload_n 2, 1) := by decide +kernel
theorem dX6_capacityFor_3 : decode cX6_capacityFor 3 = .ok (.imul, 1) := by decide +kernel
theorem dX6_capacityFor_4 : decode cX6_capacityFor 4 = .ok (.istore_n 3, 1) := by decide +kernel
theorem dX6_capacityFor_5 : decode cX6_capacityFor 5 = .ok (.iload_n 3, 1) := by decide +kernel
theorem dX6_capacityFor_6 : decode cX6_capacityFor 6 = .ok (.ifCond .gt 5, 3) := by decide +kernel
theorem dX6_capacityFor_9 : decode cX6_capacityFor 9 = .ok (.iconst 0, 1) := by decide +kernel
theorem dX6_capacityFor_10 : decode cX6_capacityFor 10 = .ok (.ireturn, 1) := by decide +kernel
theorem dX6_capacityFor_11 : decode cX6_capacityFor 11 = .ok (.iconst 1, 1) := by decide +kernel
theorem dX6_capacityFor_12 : decode cX6_capacityFor 12 = .ok (.bipush 32, 2) := by decide +kernel
theorem dX6_capacityFor_14 : decode cX6_capacityFor 14 = .ok (.iload_n 0, 1) := by decide +kernel
theorem dX6_capacityFor_15 : decode cX6_capacityFor 15 = .ok (.imul, 1) := by decide +kernel
theorem dX6_capacityFor_16 : decode cX6_capacityFor 16 = .ok (.bipush 100, 2) := by decide +kernel
theorem dX6_capacityFor_18 : decode cX6_capacityFor 18 = .ok (.iload_n 1, 1) := by decide +kernel
theorem dX6_capacityFor_19 : decode cX6_capacityFor 19 = .ok (.iadd, 1) := by decide +kernel
theorem dX6_capacityFor_20 : decode cX6_capacityFor 20 = .ok (.imul, 1) := by decide +kernel
theorem dX6_capacityFor_21 : decode cX6_capacityFor 21 = .ok (.iload_n 3, 1) := by decide +kernel
theorem dX6_capacityFor_22 : decode cX6_capacityFor 22 = .ok (.idiv, 1) := by decide +kernel
theorem dX6_capacityFor_23 : decode cX6_capacityFor 23 = .ok (.iadd, 1) := by decide +kernel
theorem dX6_capacityFor_24 : decode cX6_capacityFor 24 = .ok (.ireturn, 1) := by decide +kernel
theorem dX1_setCapacities_0 : decode cX1_setCapacities 0 = .ok (.aload_n 0, 1) := by decide +kernel
theorem dX1_setCapacities_1 : decode cX1_setCapacities 1 = .ok (.aload_n 0, 1) := by decide +kernel
theorem dX1_setCapacities_2 : decode cX1_setCapacities 2 = .ok (.getfield 34, 3) := by decide +kernel
theorem dX1_setCapacities_5 : decode cX1_setCapacities 5 = .ok (.iconst 4, 1) := by decide +kernel
theorem dX1_setCapacities_6 : decode cX1_setCapacities 6 = .ok (.idiv, 1) := by decide +kernel
theorem dX1_setCapacities_7 : decode cX1_setCapacities 7 = .ok (.putfield 30, 3) := by decide +kernel
theorem dX1_setCapacities_10 : decode cX1_setCapacities 10 = .ok (.iconst 0, 1) := by decide +kernel
theorem dX1_setCapacities_11 : decode cX1_setCapacities 11 = .ok (.istore_n 2, 1) := by decide +kernel
theorem dX1_setCapacities_12 : decode cX1_setCapacities 12 = .ok (.iload_n 2, 1) := by decide +kernel
theorem dX1_setCapacities_13 : decode cX1_setCapacities 13 = .ok (.bipush 8, 2) := by decide +kernel
theorem dX1_setCapacities_15 : decode cX1_setCapacities 15 = .ok (.if_icmp .ge 46, 3) := by decide +kernel
theorem dX1_setCapacities_18 : decode cX1_setCapacities 18 = .ok (.aload_n 0, 1) := by decide +kernel
theorem dX1_setCapacities_19 : decode cX1_setCapacities 19 = .ok (.getfield 15, 3) := by decide +kernel
theorem dX1_setCapacities_22 : decode cX1_setCapacities 22 = .ok (.iload_n 2, 1) := by decide +kernel
theorem dX1_setCapacities_23 : decode cX1_setCapacities 23 = .ok (.aload_n 1, 1) := by decide +kernel
theorem dX1_setCapacities_24 : decode cX1_setCapacities 24 = .ok (.iload_n 2, 1) := by decide +kernel
theorem dX1_setCapacities_25 : decode cX1_setCapacities 25 = .ok (.invokevirtual 96, 3) := by decide +kernel
theorem dX1_setCapacities_28 : decode cX1_setCapacities 28 = .ok (.iconst 1, 1) := by decide +kernel
theorem dX1_setCapacities_29 : decode cX1_setCapacities 29 = .ok (.if_icmp .ne 24, 3) := by decide +kernel
theorem dX1_setCapacities_32 : decode cX1_setCapacities 32 = .ok (.aload_n 1, 1) := by decide +kernel
theorem dX1_setCapacities_33 : decode cX1_setCapacities 33 = .ok (.iload_n 2, 1) := by decide +kernel
theorem dX1_setCapacities_34 : decode cX1_setCapacities 34 = .ok (.invokevirtual 89, 3) := by decide +kernel
theorem dX1_setCapacities_37 : decode cX1_setCapacities 37 = .ok (.aload_n 1, 1) := by decide +kernel
theorem dX1_setCapacities_38 : decode cX1_setCapacities 38 = .ok (.getfield 102, 3) := by decide +kernel
theorem dX1_setCapacities_41 : decode cX1_setCapacities 41 = .ok (.iconst 0, 1) := by decide +kernel
theorem dX1_setCapacities_42 : decode cX1_setCapacities 42 = .ok (.iaload, 1) := by decide +kernel
theorem dX1_setCapacities_43 : decode cX1_setCapacities 43 = .ok (.aload_n 0, 1) := by decide +kernel
theorem dX1_setCapacities_44 : decode cX1_setCapacities 44 = .ok (.getfield 30, 3) := by decide +kernel
theorem dX1_setCapacities_47 : decode cX1_setCapacities 47 = .ok (.invokestatic 92, 3) := by decide +kernel
theorem dX1_setCapacities_50 : decode cX1_setCapacities 50 = .ok (.goto 4, 3) := by decide +kernel
theorem dX1_setCapacities_53 : decode cX1_setCapacities 53 = .ok (.iconst 0, 1) := by decide +kernel
theorem dX1_setCapacities_54 : decode cX1_setCapacities 54 = .ok (.iastore, 1) := by decide +kernel
theorem dX1_setCapacities_55 : decode cX1_setCapacities 55 = .ok (.iinc 2 1, 3) := by decide +kernel
theorem dX1_setCapacities_58 : decode cX1_setCapacities 58 = .ok (.goto (-46), 3) := by decide +kernel
theorem dX1_setCapacities_61 : decode cX1_setCapacities 61 = .ok (.return_, 1) := by decide +kernel
theorem dX6_placeOf_0 : decode cX6_placeOf 0 = .ok (.iload_n 0, 1) := by decide +kernel
theorem dX6_placeOf_1 : decode cX6_placeOf 1 = .ok (.ldc_w 360, 3) := by decide +kernel
theorem dX6_placeOf_4 : decode cX6_placeOf 4 = .ok (.imul, 1) := by decide +kernel
theorem dX6_placeOf_5 : decode cX6_placeOf 5 = .ok (.istore_n 1, 1) := by decide +kernel
theorem dX6_placeOf_6 : decode cX6_placeOf 6 = .ok (.iload_n 1, 1) := by decide +kernel
theorem dX6_placeOf_7 : decode cX6_placeOf 7 = .ok (.iload_n 1, 1) := by decide +kernel
theorem dX6_placeOf_8 : decode cX6_placeOf 8 = .ok (.bipush 15, 2) := by decide +kernel
theorem dX6_placeOf_10 : decode cX6_placeOf 10 = .ok (.iushr, 1) := by decide +kernel
theorem dX6_placeOf_11 : decode cX6_placeOf 11 = .ok (.ixor, 1) := by decide +kernel
theorem dX6_placeOf_12 : decode cX6_placeOf 12 = .ok (.istore_n 1, 1) := by decide +kernel
theorem dX6_placeOf_13 : decode cX6_placeOf 13 = .ok (.iload_n 1, 1) := by decide +kernel
theorem dX6_placeOf_14 : decode cX6_placeOf 14 = .ok (.ldc_w 361, 3) := by decide +kernel
theorem dX6_placeOf_17 : decode cX6_placeOf 17 = .ok (.imul, 1) := by decide +kernel
theorem dX6_placeOf_18 : decode cX6_placeOf 18 = .ok (.istore_n 1, 1) := by decide +kernel
theorem dX6_placeOf_19 : decode cX6_placeOf 19 = .ok (.iload_n 1, 1) := by decide +kernel
theorem dX6_placeOf_20 : decode cX6_placeOf 20 = .ok (.iload_n 1, 1) := by decide +kernel
theorem dX6_placeOf_21 : decode cX6_placeOf 21 = .ok (.bipush 13, 2) := by decide +kernel
theorem dX6_placeOf_23 : decode cX6_placeOf 23 = .ok (.iushr, 1) := by decide +kernel
theorem dX6_placeOf_24 : decode cX6_placeOf 24 = .ok (.ixor, 1) := by decide +kernel
theorem dX6_placeOf_25 : decode cX6_placeOf 25 = .ok (.istore_n 1, 1) := by decide +kernel
theorem dX6_placeOf_26 : decode cX6_placeOf 26 = .ok (.iload_n 1, 1) := by decide +kernel
theorem dX6_placeOf_27 : decode cX6_placeOf 27 = .ok (.sipush 1023, 3) := by decide +kernel
theorem dX6_placeOf_30 : decode cX6_placeOf 30 = .ok (.iand, 1) := by decide +kernel
theorem dX6_placeOf_31 : decode cX6_placeOf 31 = .ok (.ireturn, 1) := by decide +kernel
theorem dX6_placeOfShard_0 : decode cX6_placeOfShard 0 = .ok (.sipush 1000, 3) := by decide +kernel
theorem dX6_placeOfShard_3 : decode cX6_placeOfShard 3 = .ok (.iload_n 0, 1) := by decide +kernel
theorem dX6_placeOfShard_4 : decode cX6_placeOfShard 4 = .ok (.iadd, 1) := by decide +kernel
theorem dX6_placeOfShard_5 : decode cX6_placeOfShard 5 = .ok (.invokestatic 224, 3) := by decide +kernel
theorem dX6_placeOfShard_8 : decode cX6_placeOfShard 8 = .ok (.ireturn, 1) := by decide +kernel
theorem dX1_pointCode_0 : decode cX1_pointCode 0 = .ok (.iload_n 1, 1) := by decide +kernel
theorem dX1_pointCode_1 : decode cX1_pointCode 1 = .ok (.ifCond .lt 20, 3) := by decide +kernel
theorem dX1_pointCode_4 : decode cX1_pointCode 4 = .ok (.iload_n 1, 1) := by decide +kernel
theorem dX1_pointCode_5 : decode cX1_pointCode 5 = .ok (.aload_n 0, 1) := by decide +kernel
theorem dX1_pointCode_6 : decode cX1_pointCode 6 = .ok (.getfield 34, 3) := by decide +kernel
theorem dX1_pointCode_9 : decode cX1_pointCode 9 = .ok (.if_icmp .ge 12, 3) := by decide +kernel
theorem dX1_pointCode_12 : decode cX1_pointCode 12 = .ok (.aload_n 0, 1) := by decide +kernel
theorem dX1_pointCode_13 : decode cX1_pointCode 13 = .ok (.getfield 9, 3) := by decide +kernel
theorem dX1_pointCode_16 : decode cX1_pointCode 16 = .ok (.iload_n 1, 1) := by decide +kernel
theorem dX1_pointCode_17 : decode cX1_pointCode 17 = .ok (.iaload, 1) := by decide +kernel
theorem dX1_pointCode_18 : decode cX1_pointCode 18 = .ok (.goto 4, 3) := by decide +kernel
theorem dX1_pointCode_21 : decode cX1_pointCode 21 = .ok (.iconst 0, 1) := by decide +kernel
theorem dX1_pointCode_22 : decode cX1_pointCode 22 = .ok (.ireturn, 1) := by decide +kernel
theorem dX6_placeOfPoint_0 : decode cX6_placeOfPoint 0 = .ok (.iload_n 0, 1) := by decide +kernel
theorem dX6_placeOfPoint_1 : decode cX6_placeOfPoint 1 = .ok (.bipush 8, 2) := by decide +kernel
theorem dX6_placeOfPoint_3 : decode cX6_placeOfPoint 3 = .ok (.ishr, 1) := by decide +kernel
theorem dX6_placeOfPoint_4 : decode cX6_placeOfPoint 4 = .ok (.ireturn, 1) := by decide +kernel
theorem dX1_pointAfter_0 : decode cX1_pointAfter 0 = .ok (.iconst 0, 1) := by decide +kernel
theorem dX1_pointAfter_1 : decode cX1_pointAfter 1 = .ok (.istore_n 2, 1) := by decide +kernel
theorem dX1_pointAfter_2 : decode cX1_pointAfter 2 = .ok (.sipush 128, 3) := by decide +kernel
theorem dX1_pointAfter_5 : decode cX1_pointAfter 5 = .ok (.istore_n 3, 1) := by decide +kernel
theorem dX1_pointAfter_6 : decode cX1_pointAfter 6 = .ok (.iload_n 3, 1) := by decide +kernel
theorem dX1_pointAfter_7 : decode cX1_pointAfter 7 = .ok (.ifCond .le 42, 3) := by decide +kernel
theorem dX1_pointAfter_10 : decode cX1_pointAfter 10 = .ok (.iload_n 2, 1) := by decide +kernel
theorem dX1_pointAfter_11 : decode cX1_pointAfter 11 = .ok (.iload_n 3, 1) := by decide +kernel
theorem dX1_pointAfter_12 : decode cX1_pointAfter 12 = .ok (.iadd, 1) := by decide +kernel
theorem dX1_pointAfter_13 : decode cX1_pointAfter 13 = .ok (.istore 4, 2) := by decide +kernel
theorem dX1_pointAfter_15 : decode cX1_pointAfter 15 = .ok (.iload 4, 2) := by decide +kernel
theorem dX1_pointAfter_17 : decode cX1_pointAfter 17 = .ok (.aload_n 0, 1) := by decide +kernel
theorem dX1_pointAfter_18 : decode cX1_pointAfter 18 = .ok (.getfield 34, 3) := by decide +kernel
theorem dX1_pointAfter_21 : decode cX1_pointAfter 21 = .ok (.if_icmp .gt 21, 3) := by decide +kernel
theorem dX1_pointAfter_24 : decode cX1_pointAfter 24 = .ok (.aload_n 0, 1) := by decide +kernel
theorem dX1_pointAfter_25 : decode cX1_pointAfter 25 = .ok (.iload 4, 2) := by decide +kernel
theorem dX1_pointAfter_27 : decode cX1_pointAfter 27 = .ok (.iconst 1, 1) := by decide +kernel
theorem dX1_pointAfter_28 : decode cX1_pointAfter 28 = .ok (.isub, 1) := by decide +kernel
theorem dX1_pointAfter_29 : decode cX1_pointAfter 29 = .ok (.invokevirtual 64, 3) := by decide +kernel
theorem dX1_pointAfter_32 : decode cX1_pointAfter 32 = .ok (.invokestatic 68, 3) := by decide +kernel
theorem dX1_pointAfter_35 : decode cX1_pointAfter 35 = .ok (.iload_n 1, 1) := by decide +kernel
theorem dX1_pointAfter_36 : decode cX1_pointAfter 36 = .ok (.if_icmp .ge 6, 3) := by decide +kernel
theorem dX1_pointAfter_39 : decode cX1_pointAfter 39 = .ok (.iload 4, 2) := by decide +kernel
theorem dX1_pointAfter_41 : decode cX1_pointAfter 41 = .ok (.istore_n 2, 1) := by decide +kernel
theorem dX1_pointAfter_42 : decode cX1_pointAfter 42 = .ok (.iload_n 3, 1) := by decide +kernel
theorem dX1_pointAfter_43 : decode cX1_pointAfter 43 = .ok (.iconst 2, 1) := by decide +kernel
theorem dX1_pointAfter_44 : decode cX1_pointAfter 44 = .ok (.idiv, 1) := by decide +kernel
theorem dX1_pointAfter_45 : decode cX1_pointAfter 45 = .ok (.istore_n 3, 1) := by decide +kernel
theorem dX1_pointAfter_46 : decode cX1_pointAfter 46 = .ok (.goto (-40), 3) := by decide +kernel
theorem dX1_pointAfter_49 : decode cX1_pointAfter 49 = .ok (.iload_n 2, 1) := by decide +kernel
theorem dX1_pointAfter_50 : decode cX1_pointAfter 50 = .ok (.aload_n 0, 1) := by decide +kernel
theorem dX1_pointAfter_51 : decode cX1_pointAfter 51 = .ok (.getfield 34, 3) := by decide +kernel
theorem dX1_pointAfter_54 : decode cX1_pointAfter 54 = .ok (.if_icmp .ge 7, 3) := by decide +kernel
theorem dX1_pointAfter_57 : decode cX1_pointAfter 57 = .ok (.iload_n 2, 1) := by decide +kernel
theorem dX1_pointAfter_58 : decode cX1_pointAfter 58 = .ok (.goto 4, 3) := by decide +kernel
theorem dX1_pointAfter_61 : decode cX1_pointAfter 61 = .ok (.iconst 0, 1) := by decide +kernel
theorem dX1_pointAfter_62 : decode cX1_pointAfter 62 = .ok (.ireturn, 1) := by decide +kernel
theorem dX1_setTarget_0 : decode cX1_setTarget 0 = .ok (.iconst (-1), 1) := by decide +kernel
theorem dX1_setTarget_1 : decode cX1_setTarget 1 = .ok (.istore_n 2, 1) := by decide +kernel
theorem dX1_setTarget_2 : decode cX1_setTarget 2 = .ok (.iconst 0, 1) := by decide +kernel
theorem dX1_setTarget_3 : decode cX1_setTarget 3 = .ok (.istore_n 3, 1) := by decide +kernel
theorem dX1_setTarget_4 : decode cX1_setTarget 4 = .ok (.aload_n 0, 1) := by decide +kernel
theorem dX1_setTarget_5 : decode cX1_setTarget 5 = .ok (.iload_n 1, 1) := by decide +kernel
theorem dX1_setTarget_6 : decode cX1_setTarget 6 = .ok (.invokestatic 76, 3) := by decide +kernel
theorem dX1_setTarget_9 : decode cX1_setTarget 9 = .ok (.invokevirtual 79, 3) := by decide +kernel
theorem dX1_setTarget_12 : decode cX1_setTarget 12 = .ok (.istore 4, 2) := by decide +kernel
theorem dX1_setTarget_14 : decode cX1_setTarget 14 = .ok (.iconst 0, 1) := by decide +kernel
theorem dX1_setTarget_15 : decode cX1_setTarget 15 = .ok (.istore 5, 2) := by decide +kernel
theorem dX1_setTarget_17 : decode cX1_setTarget 17 = .ok (.iload 5, 2) := by decide +kernel
theorem dX1_setTarget_19 : decode cX1_setTarget 19 = .ok (.aload_n 0, 1) := by decide +kernel
theorem dX1_setTarget_20 : decode cX1_setTarget 20 = .ok (.getfield 34, 3) := by decide +kernel
theorem dX1_setTarget_23 : decode cX1_setTarget 23 = .ok (.if_icmp .ge 87, 3) := by decide +kernel
theorem dX1_setTarget_26 : decode cX1_setTarget 26 = .ok (.iload_n 2, 1) := by decide +kernel
theorem dX1_setTarget_27 : decode cX1_setTarget 27 = .ok (.iconst (-1), 1) := by decide +kernel
theorem dX1_setTarget_28 : decode cX1_setTarget 28 = .ok (.if_icmp .ne 82, 3) := by decide +kernel
theorem dX1_setTarget_31 : decode cX1_setTarget 31 = .ok (.aload_n 0, 1) := by decide +kernel
theorem dX1_setTarget_32 : decode cX1_setTarget 32 = .ok (.iload 4, 2) := by decide +kernel
theorem dX1_setTarget_34 : decode cX1_setTarget 34 = .ok (.invokevirtual 64, 3) := by decide +kernel
theorem dX1_setTarget_37 : decode cX1_setTarget 37 = .ok (.invokestatic 82, 3) := by decide +kernel
theorem dX1_setTarget_40 : decode cX1_setTarget 40 = .ok (.istore 6, 2) := by decide +kernel
theorem dX1_setTarget_42 : decode cX1_setTarget 42 = .ok (.aload_n 0, 1) := by decide +kernel
theorem dX1_setTarget_43 : decode cX1_setTarget 43 = .ok (.getfield 18, 3) := by decide +kernel
theorem dX1_setTarget_46 : decode cX1_setTarget 46 = .ok (.iload 6, 2) := by decide +kernel
theorem dX1_setTarget_48 : decode cX1_setTarget 48 = .ok (.iaload, 1) := by decide +kernel
theorem dX1_setTarget_49 : decode cX1_setTarget 49 = .ok (.aload_n 0, 1) := by decide +kernel
theorem dX1_setTarget_50 : decode cX1_setTarget 50 = .ok (.getfield 15, 3) := by decide +kernel
theorem dX1_setTarget_53 : decode cX1_setTarget 53 = .ok (.iload 6, 2) := by decide +kernel
theorem dX1_setTarget_55 : decode cX1_setTarget 55 = .ok (.iaload, 1) := by decide +kernel
theorem dX1_setTarget_56 : decode cX1_setTarget 56 = .ok (.if_icmp .ge 20, 3) := by decide +kernel
theorem dX1_setTarget_59 : decode cX1_setTarget 59 = .ok (.iload 6, 2) := by decide +kernel
theorem dX1_setTarget_61 : decode cX1_setTarget 61 = .ok (.istore_n 2, 1) := by decide +kernel
theorem dX1_setTarget_62 : decode cX1_setTarget 62 = .ok (.aload_n 0, 1) := by decide +kernel
theorem dX1_setTarget_63 : decode cX1_setTarget 63 = .ok (.getfield 18, 3) := by decide +kernel
theorem dX1_setTarget_66 : decode cX1_setTarget 66 = .ok (.iload 6, 2) := by decide +kernel
theorem dX1_setTarget_68 : decode cX1_setTarget 68 = .ok (.dup2, 1) := by decide +kernel
theorem dX1_setTarget_69 : decode cX1_setTarget 69 = .ok (.iaload, 1) := by decide +kernel
theorem dX1_setTarget_70 : decode cX1_setTarget 70 = .ok (.iconst 1, 1) := by decide +kernel
theorem dX1_setTarget_71 : decode cX1_setTarget 71 = .ok (.iadd, 1) := by decide +kernel
theorem dX1_setTarget_72 : decode cX1_setTarget 72 = .ok (.iastore, 1) := by decide +kernel
theorem dX1_setTarget_73 : decode cX1_setTarget 73 = .ok (.goto 10, 3) := by decide +kernel
theorem dX1_setTarget_76 : decode cX1_setTarget 76 = .ok (.iload_n 3, 1) := by decide +kernel
theorem dX1_setTarget_77 : decode cX1_setTarget 77 = .ok (.iconst 1, 1) := by decide +kernel
theorem dX1_setTarget_78 : decode cX1_setTarget 78 = .ok (.iload 6, 2) := by decide +kernel
theorem dX1_setTarget_80 : decode cX1_setTarget 80 = .ok (.ishl, 1) := by decide +kernel
theorem dX1_setTarget_81 : decode cX1_setTarget 81 = .ok (.ior, 1) := by decide +kernel
theorem dX1_setTarget_82 : decode cX1_setTarget 82 = .ok (.istore_n 3, 1) := by decide +kernel
theorem dX1_setTarget_83 : decode cX1_setTarget 83 = .ok (.iload 4, 2) := by decide +kernel
theorem dX1_setTarget_85 : decode cX1_setTarget 85 = .ok (.iconst 1, 1) := by decide +kernel
theorem dX1_setTarget_86 : decode cX1_setTarget 86 = .ok (.iadd, 1) := by decide +kernel
theorem dX1_setTarget_87 : decode cX1_setTarget 87 = .ok (.aload_n 0, 1) := by decide +kernel
theorem dX1_setTarget_88 : decode cX1_setTarget 88 = .ok (.getfield 34, 3) := by decide +kernel
theorem dX1_setTarget_91 : decode cX1_setTarget 91 = .ok (.if_icmp .ge 10, 3) := by decide +kernel
theorem dX1_setTarget_94 : decode cX1_setTarget 94 = .ok (.iload 4, 2) := by decide +kernel
theorem dX1_setTarget_96 : decode cX1_setTarget 96 = .ok (.iconst 1, 1) := by decide +kernel
theorem dX1_setTarget_97 : decode cX1_setTarget 97 = .ok (.iadd, 1) := by decide +kernel
theorem dX1_setTarget_98 : decode cX1_setTarget 98 = .ok (.goto 4, 3) := by decide +kernel
theorem dX1_setTarget_101 : decode cX1_setTarget 101 = .ok (.iconst 0, 1) := by decide +kernel
theorem dX1_setTarget_102 : decode cX1_setTarget 102 = .ok (.istore 4, 2) := by decide +kernel
theorem dX1_setTarget_104 : decode cX1_setTarget 104 = .ok (.iinc 5 1, 3) := by decide +kernel
theorem dX1_setTarget_107 : decode cX1_setTarget 107 = .ok (.goto (-90), 3) := by decide +kernel
theorem dX1_setTarget_110 : decode cX1_setTarget 110 = .ok (.aload_n 0, 1) := by decide +kernel
theorem dX1_setTarget_111 : decode cX1_setTarget 111 = .ok (.getfield 24, 3) := by decide +kernel
theorem dX1_setTarget_114 : decode cX1_setTarget 114 = .ok (.iload_n 1, 1) := by decide +kernel
theorem dX1_setTarget_115 : decode cX1_setTarget 115 = .ok (.iload_n 2, 1) := by decide +kernel
theorem dX1_setTarget_116 : decode cX1_setTarget 116 = .ok (.iastore, 1) := by decide +kernel
theorem dX1_setTarget_117 : decode cX1_setTarget 117 = .ok (.aload_n 0, 1) := by decide +kernel
theorem dX1_setTarget_118 : decode cX1_setTarget 118 = .ok (.getfield 27, 3) := by decide +kernel
theorem dX1_setTarget_121 : decode cX1_setTarget 121 = .ok (.iload_n 1, 1) := by decide +kernel
theorem dX1_setTarget_122 : decode cX1_setTarget 122 = .ok (.iload_n 3, 1) := by decide +kernel
theorem dX1_setTarget_123 : decode cX1_setTarget 123 = .ok (.iastore, 1) := by decide +kernel
theorem dX1_setTarget_124 : decode cX1_setTarget 124 = .ok (.return_, 1) := by decide +kernel
theorem dX1_derive_0 : decode cX1_derive 0 = .ok (.aload_n 0, 1) := by decide +kernel
theorem dX1_derive_1 : decode cX1_derive 1 = .ok (.aload_n 1, 1) := by decide +kernel
theorem dX1_derive_2 : decode cX1_derive 2 = .ok (.invokevirtual 40, 3) := by decide +kernel
theorem dX1_derive_5 : decode cX1_derive 5 = .ok (.aload_n 0, 1) := by decide +kernel
theorem dX1_derive_6 : decode cX1_derive 6 = .ok (.aload_n 1, 1) := by decide +kernel
theorem dX1_derive_7 : decode cX1_derive 7 = .ok (.invokevirtual 44, 3) := by decide +kernel
theorem dX1_derive_10 : decode cX1_derive 10 = .ok (.aload_n 0, 1) := by decide +kernel
theorem dX1_derive_11 : decode cX1_derive 11 = .ok (.getfield 18, 3) := by decide +kernel
theorem dX1_derive_14 : decode cX1_derive 14 = .ok (.iconst 0, 1) := by decide +kernel
theorem dX1_derive_15 : decode cX1_derive 15 = .ok (.invokestatic 47, 3) := by decide +kernel
theorem dX1_derive_18 : decode cX1_derive 18 = .ok (.iconst 0, 1) := by decide +kernel
theorem dX1_derive_19 : decode cX1_derive 19 = .ok (.istore_n 2, 1) := by decide +kernel
theorem dX1_derive_20 : decode cX1_derive 20 = .ok (.iload_n 2, 1) := by decide +kernel
theorem dX1_derive_21 : decode cX1_derive 21 = .ok (.bipush 32, 2) := by decide +kernel
theorem dX1_derive_23 : decode cX1_derive 23 = .ok (.if_icmp .ge 14, 3) := by decide +kernel
theorem dX1_derive_26 : decode cX1_derive 26 = .ok (.aload_n 0, 1) := by decide +kernel
theorem dX1_derive_27 : decode cX1_derive 27 = .ok (.iload_n 2, 1) := by decide +kernel
theorem dX1_derive_28 : decode cX1_derive 28 = .ok (.invokevirtual 53, 3) := by decide +kernel
theorem dX1_derive_31 : decode cX1_derive 31 = .ok (.iinc 2 1, 3) := by decide +kernel
theorem dX1_derive_34 : decode cX1_derive 34 = .ok (.goto (-14), 3) := by decide +kernel
theorem dX1_derive_37 : decode cX1_derive 37 = .ok (.return_, 1) := by decide +kernel
theorem dX1_capacityOf_0 : decode cX1_capacityOf 0 = .ok (.iload_n 1, 1) := by decide +kernel
theorem dX1_capacityOf_1 : decode cX1_capacityOf 1 = .ok (.invokestatic 57, 3) := by decide +kernel
theorem dX1_capacityOf_4 : decode cX1_capacityOf 4 = .ok (.ifCond .eq 12, 3) := by decide +kernel
theorem dX1_capacityOf_7 : decode cX1_capacityOf 7 = .ok (.aload_n 0, 1) := by decide +kernel
theorem dX1_capacityOf_8 : decode cX1_capacityOf 8 = .ok (.getfield 15, 3) := by decide +kernel
theorem dX1_capacityOf_11 : decode cX1_capacityOf 11 = .ok (.iload_n 1, 1) := by decide +kernel
theorem dX1_capacityOf_12 : decode cX1_capacityOf 12 = .ok (.iaload, 1) := by decide +kernel
theorem dX1_capacityOf_13 : decode cX1_capacityOf 13 = .ok (.goto 4, 3) := by decide +kernel
theorem dX1_capacityOf_16 : decode cX1_capacityOf 16 = .ok (.iconst 0, 1) := by decide +kernel
theorem dX1_capacityOf_17 : decode cX1_capacityOf 17 = .ok (.ireturn, 1) := by decide +kernel
theorem dX1_loadOf_0 : decode cX1_loadOf 0 = .ok (.iload_n 1, 1) := by decide +kernel
theorem dX1_loadOf_1 : decode cX1_loadOf 1 = .ok (.invokestatic 57, 3) := by decide +kernel
theorem dX1_loadOf_4 : decode cX1_loadOf 4 = .ok (.ifCond .eq 12, 3) := by decide +kernel
theorem dX1_loadOf_7 : decode cX1_loadOf 7 = .ok (.aload_n 0, 1) := by decide +kernel
theorem dX1_loadOf_8 : decode cX1_loadOf 8 = .ok (.getfield 18, 3) := by decide +kernel
theorem dX1_loadOf_11 : decode cX1_loadOf 11 = .ok (.iload_n 1, 1) := by decide +kernel
theorem dX1_loadOf_12 : decode cX1_loadOf 12 = .ok (.iaload, 1) := by decide +kernel
theorem dX1_loadOf_13 : decode cX1_loadOf 13 = .ok (.goto 4, 3) := by decide +kernel
theorem dX1_loadOf_16 : decode cX1_loadOf 16 = .ok (.iconst 0, 1) := by decide +kernel
theorem dX1_loadOf_17 : decode cX1_loadOf 17 = .ok (.ireturn, 1) := by decide +kernel
theorem dX6_isShard_0 : decode cX6_isShard 0 = .ok (.iload_n 0, 1) := by decide +kernel
theorem dX6_isShard_1 : decode cX6_isShard 1 = .ok (.ifCond .lt 13, 3) := by decide +kernel
theorem dX6_isShard_4 : decode cX6_isShard 4 = .ok (.iload_n 0, 1) := by decide +kernel
theorem dX6_isShard_5 : decode cX6_isShard 5 = .ok (.bipush 32, 2) := by decide +kernel
theorem dX6_isShard_7 : decode cX6_isShard 7 = .ok (.if_icmp .ge 7, 3) := by decide +kernel
theorem dX6_isShard_10 : decode cX6_isShard 10 = .ok (.iconst 1, 1) := by decide +kernel
theorem dX6_isShard_11 : decode cX6_isShard 11 = .ok (.goto 4, 3) := by decide +kernel
theorem dX6_isShard_14 : decode cX6_isShard 14 = .ok (.iconst 0, 1) := by decide +kernel
theorem dX6_isShard_15 : decode cX6_isShard 15 = .ok (.ireturn, 1) := by decide +kernel
theorem dX1_targetOf_0 : decode cX1_targetOf 0 = .ok (.iload_n 1, 1) := by decide +kernel
theorem dX1_targetOf_1 : decode cX1_targetOf 1 = .ok (.invokestatic 61, 3) := by decide +kernel
theorem dX1_targetOf_4 : decode cX1_targetOf 4 = .ok (.ifCond .eq 12, 3) := by decide +kernel
theorem dX1_targetOf_7 : decode cX1_targetOf 7 = .ok (.aload_n 0, 1) := by decide +kernel
theorem dX1_targetOf_8 : decode cX1_targetOf 8 = .ok (.getfield 24, 3) := by decide +kernel
theorem dX1_targetOf_11 : decode cX1_targetOf 11 = .ok (.iload_n 1, 1) := by decide +kernel
theorem dX1_targetOf_12 : decode cX1_targetOf 12 = .ok (.iaload, 1) := by decide +kernel
theorem dX1_targetOf_13 : decode cX1_targetOf 13 = .ok (.goto 4, 3) := by decide +kernel
theorem dX1_targetOf_16 : decode cX1_targetOf 16 = .ok (.iconst (-1), 1) := by decide +kernel
theorem dX1_targetOf_17 : decode cX1_targetOf 17 = .ok (.ireturn, 1) := by decide +kernel
theorem dX1_skippedFor_0 : decode cX1_skippedFor 0 = .ok (.iload_n 1, 1) := by decide +kernel
theorem dX1_skippedFor_1 : decode cX1_skippedFor 1 = .ok (.invokestatic 61, 3) := by decide +kernel
theorem dX1_skippedFor_4 : decode cX1_skippedFor 4 = .ok (.ifCond .eq 12, 3) := by decide +kernel
theorem dX1_skippedFor_7 : decode cX1_skippedFor 7 = .ok (.aload_n 0, 1) := by decide +kernel
theorem dX1_skippedFor_8 : decode cX1_skippedFor 8 = .ok (.getfield 27, 3) := by decide +kernel
theorem dX1_skippedFor_11 : decode cX1_skippedFor 11 = .ok (.iload_n 1, 1) := by decide +kernel
theorem dX1_skippedFor_12 : decode cX1_skippedFor 12 = .ok (.iaload, 1) := by decide +kernel
theorem dX1_skippedFor_13 : decode cX1_skippedFor 13 = .ok (.goto 4, 3) := by decide +kernel
theorem dX1_skippedFor_16 : decode cX1_skippedFor 16 = .ok (.iconst 0, 1) := by decide +kernel
theorem dX1_skippedFor_17 : decode cX1_skippedFor 17 = .ok (.ireturn, 1) := by decide +kernel
theorem dX4_ownerOf_0 : decode cX4_ownerOf 0 = .ok (.iload_n 1, 1) := by decide +kernel
theorem dX4_ownerOf_1 : decode cX4_ownerOf 1 = .ok (.invokestatic 91, 3) := by decide +kernel
theorem dX4_ownerOf_4 : decode cX4_ownerOf 4 = .ok (.ifCond .eq 12, 3) := by decide +kernel
theorem dX4_ownerOf_7 : decode cX4_ownerOf 7 = .ok (.aload_n 0, 1) := by decide +kernel
theorem dX4_ownerOf_8 : decode cX4_ownerOf 8 = .ok (.getfield 18, 3) := by decide +kernel
theorem dX4_ownerOf_11 : decode cX4_ownerOf 11 = .ok (.iload_n 1, 1) := by decide +kernel
theorem dX4_ownerOf_12 : decode cX4_ownerOf 12 = .ok (.iaload, 1) := by decide +kernel
theorem dX4_ownerOf_13 : decode cX4_ownerOf 13 = .ok (.goto 4, 3) := by decide +kernel
theorem dX4_ownerOf_16 : decode cX4_ownerOf 16 = .ok (.iconst (-1), 1) := by decide +kernel
theorem dX4_ownerOf_17 : decode cX4_ownerOf 17 = .ok (.ireturn, 1) := by decide +kernel
theorem dX1_misplacedShards_0 : decode cX1_misplacedShards 0 = .ok (.iconst 0, 1) := by decide +kernel
theorem dX1_misplacedShards_1 : decode cX1_misplacedShards 1 = .ok (.istore_n 2, 1) := by decide +kernel
theorem dX1_misplacedShards_2 : decode cX1_misplacedShards 2 = .ok (.iconst 0, 1) := by decide +kernel
theorem dX1_misplacedShards_3 : decode cX1_misplacedShards 3 = .ok (.istore_n 3, 1) := by decide +kernel
theorem dX1_misplacedShards_4 : decode cX1_misplacedShards 4 = .ok (.iload_n 3, 1) := by decide +kernel
theorem dX1_misplacedShards_5 : decode cX1_misplacedShards 5 = .ok (.bipush 32, 2) := by decide +kernel
theorem dX1_misplacedShards_7 : decode cX1_misplacedShards 7 = .ok (.if_icmp .ge 36, 3) := by decide +kernel
theorem dX1_misplacedShards_10 : decode cX1_misplacedShards 10 = .ok (.aload_n 1, 1) := by decide +kernel
theorem dX1_misplacedShards_11 : decode cX1_misplacedShards 11 = .ok (.iload_n 3, 1) := by decide +kernel
theorem dX1_misplacedShards_12 : decode cX1_misplacedShards 12 = .ok (.invokevirtual 71, 3) := by decide +kernel
theorem dX1_misplacedShards_15 : decode cX1_misplacedShards 15 = .ok (.istore 4, 2) := by decide +kernel
theorem dX1_misplacedShards_17 : decode cX1_misplacedShards 17 = .ok (.iload 4, 2) := by decide +kernel
theorem dX1_misplacedShards_19 : decode cX1_misplacedShards 19 = .ok (.iconst (-1), 1) := by decide +kernel
theorem dX1_misplacedShards_20 : decode cX1_misplacedShards 20 = .ok (.if_icmp .eq 14, 3) := by decide +kernel
theorem dX1_misplacedShards_23 : decode cX1_misplacedShards 23 = .ok (.iload 4, 2) := by decide +kernel
theorem dX1_misplacedShards_25 : decode cX1_misplacedShards 25 = .ok (.aload_n 0, 1) := by decide +kernel
theorem dX1_misplacedShards_26 : decode cX1_misplacedShards 26 = .ok (.getfield 24, 3) := by decide +kernel
theorem dX1_misplacedShards_29 : decode cX1_misplacedShards 29 = .ok (.iload_n 3, 1) := by decide +kernel
theorem dX1_misplacedShards_30 : decode cX1_misplacedShards 30 = .ok (.iaload, 1) := by decide +kernel
theorem dX1_misplacedShards_31 : decode cX1_misplacedShards 31 = .ok (.if_icmp .eq 6, 3) := by decide +kernel
theorem dX1_misplacedShards_34 : decode cX1_misplacedShards 34 = .ok (.iinc 2 1, 3) := by decide +kernel
theorem dX1_misplacedShards_37 : decode cX1_misplacedShards 37 = .ok (.iinc 3 1, 3) := by decide +kernel
theorem dX1_misplacedShards_40 : decode cX1_misplacedShards 40 = .ok (.goto (-36), 3) := by decide +kernel
theorem dX1_misplacedShards_43 : decode cX1_misplacedShards 43 = .ok (.iload_n 2, 1) := by decide +kernel
theorem dX1_misplacedShards_44 : decode cX1_misplacedShards 44 = .ok (.ireturn, 1) := by decide +kernel
theorem dX1_differingTargets_0 : decode cX1_differingTargets 0 = .ok (.iconst 0, 1) := by decide +kernel
theorem dX1_differingTargets_1 : decode cX1_differingTargets 1 = .ok (.istore_n 2, 1) := by decide +kernel
theorem dX1_differingTargets_2 : decode cX1_differingTargets 2 = .ok (.iconst 0, 1) := by decide +kernel
theorem dX1_differingTargets_3 : decode cX1_differingTargets 3 = .ok (.istore_n 3, 1) := by decide +kernel
theorem dX1_differingTargets_4 : decode cX1_differingTargets 4 = .ok (.iload_n 3, 1) := by decide +kernel
theorem dX1_differingTargets_5 : decode cX1_differingTargets 5 = .ok (.bipush 32, 2) := by decide +kernel
theorem dX1_differingTargets_7 : decode cX1_differingTargets 7 = .ok (.if_icmp .ge 27, 3) := by decide +kernel
theorem dX1_differingTargets_10 : decode cX1_differingTargets 10 = .ok (.aload_n 0, 1) := by decide +kernel
theorem dX1_differingTargets_11 : decode cX1_differingTargets 11 = .ok (.getfield 24, 3) := by decide +kernel
theorem dX1_differingTargets_14 : decode cX1_differingTargets 14 = .ok (.iload_n 3, 1) := by decide +kernel
theorem dX1_differingTargets_15 : decode cX1_differingTargets 15 = .ok (.iaload, 1) := by decide +kernel
theorem dX1_differingTargets_16 : decode cX1_differingTargets 16 = .ok (.aload_n 1, 1) := by decide +kernel
theorem dX1_differingTargets_17 : decode cX1_differingTargets 17 = .ok (.getfield 24, 3) := by decide +kernel
theorem dX1_differingTargets_20 : decode cX1_differingTargets 20 = .ok (.iload_n 3, 1) := by decide +kernel
theorem dX1_differingTargets_21 : decode cX1_differingTargets 21 = .ok (.iaload, 1) := by decide +kernel
theorem dX1_differingTargets_22 : decode cX1_differingTargets 22 = .ok (.if_icmp .eq 6, 3) := by decide +kernel
theorem dX1_differingTargets_25 : decode cX1_differingTargets 25 = .ok (.iinc 2 1, 3) := by decide +kernel
theorem dX1_differingTargets_28 : decode cX1_differingTargets 28 = .ok (.iinc 3 1, 3) := by decide +kernel
theorem dX1_differingTargets_31 : decode cX1_differingTargets 31 = .ok (.goto (-27), 3) := by decide +kernel
theorem dX1_differingTargets_34 : decode cX1_differingTargets 34 = .ok (.iload_n 2, 1) := by decide +kernel
theorem dX1_differingTargets_35 : decode cX1_differingTargets 35 = .ok (.ireturn, 1) := by decide +kernel
theorem dX1_wantedFits_0 : decode cX1_wantedFits 0 = .ok (.iconst 0, 1) := by decide +kernel
theorem dX1_wantedFits_1 : decode cX1_wantedFits 1 = .ok (.istore_n 3, 1) := by decide +kernel
theorem dX1_wantedFits_2 : decode cX1_wantedFits 2 = .ok (.iload_n 3, 1) := by decide +kernel
theorem dX1_wantedFits_3 : decode cX1_wantedFits 3 = .ok (.bipush 8, 2) := by decide +kernel
theorem dX1_wantedFits_5 : decode cX1_wantedFits 5 = .ok (.if_icmp .ge 33, 3) := by decide +kernel
theorem dX1_wantedFits_8 : decode cX1_wantedFits 8 = .ok (.aload_n 0, 1) := by decide +kernel
theorem dX1_wantedFits_9 : decode cX1_wantedFits 9 = .ok (.getfield 21, 3) := by decide +kernel
theorem dX1_wantedFits_12 : decode cX1_wantedFits 12 = .ok (.iload_n 3, 1) := by decide +kernel
theorem dX1_wantedFits_13 : decode cX1_wantedFits 13 = .ok (.iaload, 1) := by decide +kernel
theorem dX1_wantedFits_14 : decode cX1_wantedFits 14 = .ok (.aload_n 1, 1) := by decide +kernel
theorem dX1_wantedFits_15 : decode cX1_wantedFits 15 = .ok (.iload_n 3, 1) := by decide +kernel
theorem dX1_wantedFits_16 : decode cX1_wantedFits 16 = .ok (.invokevirtual 89, 3) := by decide +kernel
theorem dX1_wantedFits_19 : decode cX1_wantedFits 19 = .ok (.iload_n 2, 1) := by decide +kernel
theorem dX1_wantedFits_20 : decode cX1_wantedFits 20 = .ok (.aload_n 0, 1) := by decide +kernel
theorem dX1_wantedFits_21 : decode cX1_wantedFits 21 = .ok (.getfield 30, 3) := by decide +kernel
theorem dX1_wantedFits_24 : decode cX1_wantedFits 24 = .ok (.invokestatic 92, 3) := by decide +kernel
theorem dX1_wantedFits_27 : decode cX1_wantedFits 27 = .ok (.if_icmp .le 5, 3) := by decide +kernel
theorem dX1_wantedFits_30 : decode cX1_wantedFits 30 = .ok (.iconst 0, 1) := by decide +kernel
theorem dX1_wantedFits_31 : decode cX1_wantedFits 31 = .ok (.ireturn, 1) := by decide +kernel
theorem dX1_wantedFits_32 : decode cX1_wantedFits 32 = .ok (.iinc 3 1, 3) := by decide +kernel
theorem dX1_wantedFits_35 : decode cX1_wantedFits 35 = .ok (.goto (-33), 3) := by decide +kernel
theorem dX1_wantedFits_38 : decode cX1_wantedFits 38 = .ok (.iconst 1, 1) := by decide +kernel
theorem dX1_wantedFits_39 : decode cX1_wantedFits 39 = .ok (.ireturn, 1) := by decide +kernel
theorem dX1_leastSlackWithoutSkips_0 : decode cX1_leastSlackWithoutSkips 0 = .ok (.aload_n 0, 1) := by decide +kernel
theorem dX1_leastSlackWithoutSkips_1 : decode cX1_leastSlackWithoutSkips 1 = .ok (.getfield 21, 3) := by decide +kernel
theorem dX1_leastSlackWithoutSkips_4 : decode cX1_leastSlackWithoutSkips 4 = .ok (.iconst 0, 1) := by decide +kernel
theorem dX1_leastSlackWithoutSkips_5 : decode cX1_leastSlackWithoutSkips 5 = .ok (.invokestatic 47, 3) := by decide +kernel
theorem dX1_leastSlackWithoutSkips_8 : decode cX1_leastSlackWithoutSkips 8 = .ok (.iconst 0, 1) := by decide +kernel
theorem dX1_leastSlackWithoutSkips_9 : decode cX1_leastSlackWithoutSkips 9 = .ok (.istore_n 2, 1) := by decide +kernel
theorem dX1_leastSlackWithoutSkips_10 : decode cX1_leastSlackWithoutSkips 10 = .ok (.iload_n 2, 1) := by decide +kernel
theorem dX1_leastSlackWithoutSkips_11 : decode cX1_leastSlackWithoutSkips 11 = .ok (.bipush 32, 2) := by decide +kernel
theorem dX1_leastSlackWithoutSkips_13 : decode cX1_leastSlackWithoutSkips 13 = .ok (.if_icmp .ge 33, 3) := by decide +kernel
theorem dX1_leastSlackWithoutSkips_16 : decode cX1_leastSlackWithoutSkips 16 = .ok (.aload_n 0, 1) := by decide +kernel
theorem dX1_leastSlackWithoutSkips_17 : decode cX1_leastSlackWithoutSkips 17 = .ok (.getfield 21, 3) := by decide +kernel
theorem dX1_leastSlackWithoutSkips_20 : decode cX1_leastSlackWithoutSkips 20 = .ok (.aload_n 0, 1) := by decide +kernel
theorem dX1_leastSlackWithoutSkips_21 : decode cX1_leastSlackWithoutSkips 21 = .ok (.aload_n 0, 1) := by decide +kernel
theorem dX1_leastSlackWithoutSkips_22 : decode cX1_leastSlackWithoutSkips 22 = .ok (.iload_n 2, 1) := by decide +kernel
theorem dX1_leastSlackWithoutSkips_23 : decode cX1_leastSlackWithoutSkips 23 = .ok (.invokestatic 76, 3) := by decide +kernel
theorem dX1_leastSlackWithoutSkips_26 : decode cX1_leastSlackWithoutSkips 26 = .ok (.invokevirtual 79, 3) := by decide +kernel
theorem dX1_leastSlackWithoutSkips_29 : decode cX1_leastSlackWithoutSkips 29 = .ok (.invokevirtual 64, 3) := by decide +kernel
theorem dX1_leastSlackWithoutSkips_32 : decode cX1_leastSlackWithoutSkips 32 = .ok (.invokestatic 82, 3) := by decide +kernel
theorem dX1_leastSlackWithoutSkips_35 : decode cX1_leastSlackWithoutSkips 35 = .ok (.dup2, 1) := by decide +kernel
theorem dX1_leastSlackWithoutSkips_36 : decode cX1_leastSlackWithoutSkips 36 = .ok (.iaload, 1) := by decide +kernel
theorem dX1_leastSlackWithoutSkips_37 : decode cX1_leastSlackWithoutSkips 37 = .ok (.iconst 1, 1) := by decide +kernel
theorem dX1_leastSlackWithoutSkips_38 : decode cX1_leastSlackWithoutSkips 38 = .ok (.iadd, 1) := by decide +kernel
theorem dX1_leastSlackWithoutSkips_39 : decode cX1_leastSlackWithoutSkips 39 = .ok (.iastore, 1) := by decide +kernel
theorem dX1_leastSlackWithoutSkips_40 : decode cX1_leastSlackWithoutSkips 40 = .ok (.iinc 2 1, 3) := by decide +kernel
theorem dX1_leastSlackWithoutSkips_43 : decode cX1_leastSlackWithoutSkips 43 = .ok (.goto (-33), 3) := by decide +kernel
theorem dX1_leastSlackWithoutSkips_46 : decode cX1_leastSlackWithoutSkips 46 = .ok (.iconst 0, 1) := by decide +kernel
theorem dX1_leastSlackWithoutSkips_47 : decode cX1_leastSlackWithoutSkips 47 = .ok (.istore_n 2, 1) := by decide +kernel
theorem dX1_leastSlackWithoutSkips_48 : decode cX1_leastSlackWithoutSkips 48 = .ok (.iload_n 2, 1) := by decide +kernel
theorem dX1_leastSlackWithoutSkips_49 : decode cX1_leastSlackWithoutSkips 49 = .ok (.bipush 100, 2) := by decide +kernel
theorem dX1_leastSlackWithoutSkips_51 : decode cX1_leastSlackWithoutSkips 51 = .ok (.if_icmp .gt 20, 3) := by decide +kernel
theorem dX1_leastSlackWithoutSkips_54 : decode cX1_leastSlackWithoutSkips 54 = .ok (.aload_n 0, 1) := by decide +kernel
theorem dX1_leastSlackWithoutSkips_55 : decode cX1_leastSlackWithoutSkips 55 = .ok (.aload_n 1, 1) := by decide +kernel
theorem dX1_leastSlackWithoutSkips_56 : decode cX1_leastSlackWithoutSkips 56 = .ok (.iload_n 2, 1) := by decide +kernel
theorem dX1_leastSlackWithoutSkips_57 : decode cX1_leastSlackWithoutSkips 57 = .ok (.invokevirtual 85, 3) := by decide +kernel
theorem dX1_leastSlackWithoutSkips_60 : decode cX1_leastSlackWithoutSkips 60 = .ok (.ifCond .eq 5, 3) := by decide +kernel
theorem dX1_leastSlackWithoutSkips_63 : decode cX1_leastSlackWithoutSkips 63 = .ok (.iload_n 2, 1) := by decide +kernel
theorem dX1_leastSlackWithoutSkips_64 : decode cX1_leastSlackWithoutSkips 64 = .ok (.ireturn, 1) := by decide +kernel
theorem dX1_leastSlackWithoutSkips_65 : decode cX1_leastSlackWithoutSkips 65 = .ok (.iinc 2 1, 3) := by decide +kernel
theorem dX1_leastSlackWithoutSkips_68 : decode cX1_leastSlackWithoutSkips 68 = .ok (.goto (-20), 3) := by decide +kernel
theorem dX1_leastSlackWithoutSkips_71 : decode cX1_leastSlackWithoutSkips 71 = .ok (.iconst (-1), 1) := by decide +kernel
theorem dX1_leastSlackWithoutSkips_72 : decode cX1_leastSlackWithoutSkips 72 = .ok (.ireturn, 1) := by decide +kernel
theorem dX2_has_0 : decode cX2_has 0 = .ok (.iload_n 1, 1) := by decide +kernel
theorem dX2_has_1 : decode cX2_has 1 = .ok (.ifCond .lt 15, 3) := by decide +kernel
theorem dX2_has_4 : decode cX2_has 4 = .ok (.iload_n 1, 1) := by decide +kernel
theorem dX2_has_5 : decode cX2_has 5 = .ok (.aload_n 0, 1) := by decide +kernel
theorem dX2_has_6 : decode cX2_has 6 = .ok (.getfield 9, 3) := by decide +kernel
theorem dX2_has_9 : decode cX2_has 9 = .ok (.if_icmp .ge 7, 3) := by decide +kernel
theorem dX2_has_12 : decode cX2_has 12 = .ok (.iconst 1, 1) := by decide +kernel
theorem dX2_has_13 : decode cX2_has 13 = .ok (.goto 4, 3) := by decide +kernel
theorem dX2_has_16 : decode cX2_has 16 = .ok (.iconst 0, 1) := by decide +kernel
theorem dX2_has_17 : decode cX2_has 17 = .ok (.ireturn, 1) := by decide +kernel
theorem dX2_part_0 : decode cX2_part 0 = .ok (.iload_n 1, 1) := by decide +kernel
theorem dX2_part_1 : decode cX2_part 1 = .ok (.ifCond .lt 20, 3) := by decide +kernel
theorem dX2_part_4 : decode cX2_part 4 = .ok (.iload_n 1, 1) := by decide +kernel
theorem dX2_part_5 : decode cX2_part 5 = .ok (.aload_n 0, 1) := by decide +kernel
theorem dX2_part_6 : decode cX2_part 6 = .ok (.getfield 9, 3) := by decide +kernel
theorem dX2_part_9 : decode cX2_part 9 = .ok (.if_icmp .ge 12, 3) := by decide +kernel
theorem dX2_part_12 : decode cX2_part 12 = .ok (.iload_n 2, 1) := by decide +kernel
theorem dX2_part_13 : decode cX2_part 13 = .ok (.ifCond .lt 8, 3) := by decide +kernel
theorem dX2_part_16 : decode cX2_part 16 = .ok (.iload_n 2, 1) := by decide +kernel
theorem dX2_part_17 : decode cX2_part 17 = .ok (.iconst 4, 1) := by decide +kernel
theorem dX2_part_18 : decode cX2_part 18 = .ok (.if_icmp .lt 5, 3) := by decide +kernel
theorem dX2_part_21 : decode cX2_part 21 = .ok (.iconst (-1), 1) := by decide +kernel
theorem dX2_part_22 : decode cX2_part 22 = .ok (.ireturn, 1) := by decide +kernel
theorem dX2_part_23 : decode cX2_part 23 = .ok (.aload_n 0, 1) := by decide +kernel
theorem dX2_part_24 : decode cX2_part 24 = .ok (.getfield 24, 3) := by decide +kernel
theorem dX2_part_27 : decode cX2_part 27 = .ok (.iload_n 1, 1) := by decide +kernel
theorem dX2_part_28 : decode cX2_part 28 = .ok (.iconst 4, 1) := by decide +kernel
theorem dX2_part_29 : decode cX2_part 29 = .ok (.imul, 1) := by decide +kernel
theorem dX2_part_30 : decode cX2_part 30 = .ok (.iload_n 2, 1) := by decide +kernel
theorem dX2_part_31 : decode cX2_part 31 = .ok (.iadd, 1) := by decide +kernel
theorem dX2_part_32 : decode cX2_part 32 = .ok (.iaload, 1) := by decide +kernel
theorem dX2_part_33 : decode cX2_part 33 = .ok (.ireturn, 1) := by decide +kernel
theorem dX2_putPart_0 : decode cX2_putPart 0 = .ok (.iload_n 1, 1) := by decide +kernel
theorem dX2_putPart_1 : decode cX2_putPart 1 = .ok (.ifCond .lt 31, 3) := by decide +kernel
theorem dX2_putPart_4 : decode cX2_putPart 4 = .ok (.iload_n 1, 1) := by decide +kernel
theorem dX2_putPart_5 : decode cX2_putPart 5 = .ok (.aload_n 0, 1) := by decide +kernel
theorem dX2_putPart_6 : decode cX2_putPart 6 = .ok (.getfield 9, 3) := by decide +kernel
theorem dX2_putPart_9 : decode cX2_putPart 9 = .ok (.if_icmp .ge 23, 3) := by decide +kernel
theorem dX2_putPart_12 : decode cX2_putPart 12 = .ok (.iload_n 2, 1) := by decide +kernel
theorem dX2_putPart_13 : decode cX2_putPart 13 = .ok (.ifCond .lt 19, 3) := by decide +kernel
theorem dX2_putPart_16 : decode cX2_putPart 16 = .ok (.iload_n 2, 1) := by decide +kernel
theorem dX2_putPart_17 : decode cX2_putPart 17 = .ok (.iconst 4, 1) := by decide +kernel
theorem dX2_putPart_18 : decode cX2_putPart 18 = .ok (.if_icmp .ge 14, 3) := by decide +kernel
theorem dX2_putPart_21 : decode cX2_putPart 21 = .ok (.aload_n 0, 1) := by decide +kernel
theorem dX2_putPart_22 : decode cX2_putPart 22 = .ok (.getfield 24, 3) := by decide +kernel
theorem dX2_putPart_25 : decode cX2_putPart 25 = .ok (.iload_n 1, 1) := by decide +kernel
theorem dX2_putPart_26 : decode cX2_putPart 26 = .ok (.iconst 4, 1) := by decide +kernel
theorem dX2_putPart_27 : decode cX2_putPart 27 = .ok (.imul, 1) := by decide +kernel
theorem dX2_putPart_28 : decode cX2_putPart 28 = .ok (.iload_n 2, 1) := by decide +kernel
theorem dX2_putPart_29 : decode cX2_putPart 29 = .ok (.iadd, 1) := by decide +kernel
theorem dX2_putPart_30 : decode cX2_putPart 30 = .ok (.iload_n 3, 1) := by decide +kernel
theorem dX2_putPart_31 : decode cX2_putPart 31 = .ok (.iastore, 1) := by decide +kernel
theorem dX2_putPart_32 : decode cX2_putPart 32 = .ok (.return_, 1) := by decide +kernel
theorem dX2_append_0 : decode cX2_append 0 = .ok (.aload_n 0, 1) := by decide +kernel
theorem dX2_append_1 : decode cX2_append 1 = .ok (.getfield 9, 3) := by decide +kernel
theorem dX2_append_4 : decode cX2_append 4 = .ok (.aload_n 0, 1) := by decide +kernel
theorem dX2_append_5 : decode cX2_append 5 = .ok (.getfield 21, 3) := by decide +kernel
theorem dX2_append_8 : decode cX2_append 8 = .ok (.if_icmp .lt 34, 3) := by decide +kernel
theorem dX2_append_11 : decode cX2_append 11 = .ok (.aload_n 0, 1) := by decide +kernel
theorem dX2_append_12 : decode cX2_append 12 = .ok (.getfield 24, 3) := by decide +kernel
theorem dX2_append_15 : decode cX2_append 15 = .ok (.iconst 4, 1) := by decide +kernel
theorem dX2_append_16 : decode cX2_append 16 = .ok (.aload_n 0, 1) := by decide +kernel
theorem dX2_append_17 : decode cX2_append 17 = .ok (.getfield 24, 3) := by decide +kernel
theorem dX2_append_20 : decode cX2_append 20 = .ok (.iconst 0, 1) := by decide +kernel
theorem dX2_append_21 : decode cX2_append 21 = .ok (.aload_n 0, 1) := by decide +kernel
theorem dX2_append_22 : decode cX2_append 22 = .ok (.getfield 21, 3) := by decide +kernel
theorem dX2_append_25 : decode cX2_append 25 = .ok (.iconst 1, 1) := by decide +kernel
theorem dX2_append_26 : decode cX2_append 26 = .ok (.isub, 1) := by decide +kernel
theorem dX2_append_27 : decode cX2_append 27 = .ok (.iconst 4, 1) := by decide +kernel
theorem dX2_append_28 : decode cX2_append 28 = .ok (.imul, 1) := by decide +kernel
theorem dX2_append_29 : decode cX2_append 29 = .ok (.invokestatic 31, 3) := by decide +kernel
theorem dX2_append_32 : decode cX2_append 32 = .ok (.aload_n 0, 1) := by decide +kernel
theorem dX2_append_33 : decode cX2_append 33 = .ok (.aload_n 0, 1) := by decide +kernel
theorem dX2_append_34 : decode cX2_append 34 = .ok (.getfield 21, 3) := by decide +kernel
theorem dX2_append_37 : decode cX2_append 37 = .ok (.iconst 1, 1) := by decide +kernel
theorem dX2_append_38 : decode cX2_append 38 = .ok (.isub, 1) := by decide +kernel
theorem dX2_append_39 : decode cX2_append 39 = .ok (.putfield 9, 3) := by decide +kernel
theorem dX2_append_42 : decode cX2_append 42 = .ok (.aload_n 0, 1) := by decide +kernel
theorem dX2_append_43 : decode cX2_append 43 = .ok (.getfield 9, 3) := by decide +kernel
theorem dX2_append_46 : decode cX2_append 46 = .ok (.iconst 4, 1) := by decide +kernel
theorem dX2_append_47 : decode cX2_append 47 = .ok (.imul, 1) := by decide +kernel
theorem dX2_append_48 : decode cX2_append 48 = .ok (.istore 5, 2) := by decide +kernel
theorem dX2_append_50 : decode cX2_append 50 = .ok (.aload_n 0, 1) := by decide +kernel
theorem dX2_append_51 : decode cX2_append 51 = .ok (.getfield 24, 3) := by decide +kernel
theorem dX2_append_54 : decode cX2_append 54 = .ok (.iload 5, 2) := by decide +kernel
theorem dX2_append_56 : decode cX2_append 56 = .ok (.iload_n 1, 1) := by decide +kernel
theorem dX2_append_57 : decode cX2_append 57 = .ok (.iastore, 1) := by decide +kernel
theorem dX2_append_58 : decode cX2_append 58 = .ok (.aload_n 0, 1) := by decide +kernel
theorem dX2_append_59 : decode cX2_append 59 = .ok (.getfield 24, 3) := by decide +kernel
theorem dX2_append_62 : decode cX2_append 62 = .ok (.iload 5, 2) := by decide +kernel
theorem dX2_append_64 : decode cX2_append 64 = .ok (.iconst 1, 1) := by decide +kernel
theorem dX2_append_65 : decode cX2_append 65 = .ok (.iadd, 1) := by decide +kernel
theorem dX2_append_66 : decode cX2_append 66 = .ok (.iload_n 2, 1) := by decide +kernel
theorem dX2_append_67 : decode cX2_append 67 = .ok (.iastore, 1) := by decide +kernel
theorem dX2_append_68 : decode cX2_append 68 = .ok (.aload_n 0, 1) := by decide +kernel
theorem dX2_append_69 : decode cX2_append 69 = .ok (.getfield 24, 3) := by decide +kernel
theorem dX2_append_72 : decode cX2_append 72 = .ok (.iload 5, 2) := by decide +kernel
theorem dX2_append_74 : decode cX2_append 74 = .ok (.iconst 2, 1) := by decide +kernel
theorem dX2_append_75 : decode cX2_append 75 = .ok (.iadd, 1) := by decide +kernel
theorem dX2_append_76 : decode cX2_append 76 = .ok (.iload_n 3, 1) := by decide +kernel
theorem dX2_append_77 : decode cX2_append 77 = .ok (.iastore, 1) := by decide +kernel
theorem dX2_append_78 : decode cX2_append 78 = .ok (.aload_n 0, 1) := by decide +kernel
theorem dX2_append_79 : decode cX2_append 79 = .ok (.getfield 24, 3) := by decide +kernel
theorem dX2_append_82 : decode cX2_append 82 = .ok (.iload 5, 2) := by decide +kernel
theorem dX2_append_84 : decode cX2_append 84 = .ok (.iconst 3, 1) := by decide +kernel
theorem dX2_append_85 : decode cX2_append 85 = .ok (.iadd, 1) := by decide +kernel
theorem dX2_append_86 : decode cX2_append 86 = .ok (.iload 4, 2) := by decide +kernel
theorem dX2_append_88 : decode cX2_append 88 = .ok (.iastore, 1) := by decide +kernel
theorem dX2_append_89 : decode cX2_append 89 = .ok (.aload_n 0, 1) := by decide +kernel
theorem dX2_append_90 : decode cX2_append 90 = .ok (.dup, 1) := by decide +kernel
theorem dX2_append_91 : decode cX2_append 91 = .ok (.getfield 9, 3) := by decide +kernel
theorem dX2_append_94 : decode cX2_append 94 = .ok (.iconst 1, 1) := by decide +kernel
theorem dX2_append_95 : decode cX2_append 95 = .ok (.iadd, 1) := by decide +kernel
theorem dX2_append_96 : decode cX2_append 96 = .ok (.putfield 9, 3) := by decide +kernel
theorem dX2_append_99 : decode cX2_append 99 = .ok (.return_, 1) := by decide +kernel
theorem dX2_remove_0 : decode cX2_remove 0 = .ok (.iload_n 1, 1) := by decide +kernel
theorem dX2_remove_1 : decode cX2_remove 1 = .ok (.ifCond .lt 50, 3) := by decide +kernel
theorem dX2_remove_4 : decode cX2_remove 4 = .ok (.iload_n 1, 1) := by decide +kernel
theorem dX2_remove_5 : decode cX2_remove 5 = .ok (.aload_n 0, 1) := by decide +kernel
theorem dX2_remove_6 : decode cX2_remove 6 = .ok (.getfield 9, 3) := by decide +kernel
theorem dX2_remove_9 : decode cX2_remove 9 = .ok (.if_icmp .ge 42, 3) := by decide +kernel
theorem dX2_remove_12 : decode cX2_remove 12 = .ok (.iload_n 1, 1) := by decide +kernel
theorem dX2_remove_13 : decode cX2_remove 13 = .ok (.iconst 1, 1) := by decide +kernel
theorem dX2_remove_14 : decode cX2_remove 14 = .ok (.iadd, 1) := by decide +kernel
theorem dX2_remove_15 : decode cX2_remove 15 = .ok (.iconst 4, 1) := by decide +kernel
theorem dX2_remove_16 : decode cX2_remove 16 = .ok (.imul, 1) := by decide +kernel
theorem dX2_remove_17 : decode cX2_remove 17 = .ok (.istore_n 2, 1) := by decide +kernel
theorem dX2_remove_18 : decode cX2_remove 18 = .ok (.aload_n 0, 1) := by decide +kernel
theorem dX2_remove_19 : decode cX2_remove 19 = .ok (.getfield 24, 3) := by decide +kernel
theorem dX2_remove_22 : decode cX2_remove 22 = .ok (.iload_n 2, 1) := by decide +kernel
theorem dX2_remove_23 : decode cX2_remove 23 = .ok (.aload_n 0, 1) := by decide +kernel
theorem dX2_remove_24 : decode cX2_remove 24 = .ok (.getfield 24, 3) := by decide +kernel
theorem dX2_remove_27 : decode cX2_remove 27 = .ok (.iload_n 1, 1) := by decide +kernel
theorem dX2_remove_28 : decode cX2_remove 28 = .ok (.iconst 4, 1) := by decide +kernel
theorem dX2_remove_29 : decode cX2_remove 29 = .ok (.imul, 1) := by decide +kernel
theorem dX2_remove_30 : decode cX2_remove 30 = .ok (.aload_n 0, 1) := by decide +kernel
theorem dX2_remove_31 : decode cX2_remove 31 = .ok (.getfield 9, 3) := by decide +kernel
theorem dX2_remove_34 : decode cX2_remove 34 = .ok (.iconst 4, 1) := by decide +kernel
theorem dX2_remove_35 : decode cX2_remove 35 = .ok (.imul, 1) := by decide +kernel
theorem dX2_remove_36 : decode cX2_remove 36 = .ok (.iload_n 2, 1) := by decide +kernel
theorem dX2_remove_37 : decode cX2_remove 37 = .ok (.isub, 1) := by decide +kernel
theorem dX2_remove_38 : decode cX2_remove 38 = .ok (.invokestatic 31, 3) := by decide +kernel
theorem dX2_remove_41 : decode cX2_remove 41 = .ok (.aload_n 0, 1) := by decide +kernel
theorem dX2_remove_42 : decode cX2_remove 42 = .ok (.dup, 1) := by decide +kernel
theorem dX2_remove_43 : decode cX2_remove 43 = .ok (.getfield 9, 3) := by decide +kernel
theorem dX2_remove_46 : decode cX2_remove 46 = .ok (.iconst 1, 1) := by decide +kernel
theorem dX2_remove_47 : decode cX2_remove 47 = .ok (.isub, 1) := by decide +kernel
theorem dX2_remove_48 : decode cX2_remove 48 = .ok (.putfield 9, 3) := by decide +kernel
theorem dX2_remove_51 : decode cX2_remove 51 = .ok (.return_, 1) := by decide +kernel
theorem dX2_firstWith_0 : decode cX2_firstWith 0 = .ok (.iconst 0, 1) := by decide +kernel
theorem dX2_firstWith_1 : decode cX2_firstWith 1 = .ok (.istore_n 3, 1) := by decide +kernel
theorem dX2_firstWith_2 : decode cX2_firstWith 2 = .ok (.iload_n 3, 1) := by decide +kernel
theorem dX2_firstWith_3 : decode cX2_firstWith 3 = .ok (.aload_n 0, 1) := by decide +kernel
theorem dX2_firstWith_4 : decode cX2_firstWith 4 = .ok (.getfield 9, 3) := by decide +kernel
theorem dX2_firstWith_7 : decode cX2_firstWith 7 = .ok (.if_icmp .ge 21, 3) := by decide +kernel
theorem dX2_firstWith_10 : decode cX2_firstWith 10 = .ok (.aload_n 0, 1) := by decide +kernel
theorem dX2_firstWith_11 : decode cX2_firstWith 11 = .ok (.iload_n 3, 1) := by decide +kernel
theorem dX2_firstWith_12 : decode cX2_firstWith 12 = .ok (.iload_n 1, 1) := by decide +kernel
theorem dX2_firstWith_13 : decode cX2_firstWith 13 = .ok (.invokevirtual 37, 3) := by decide +kernel
theorem dX2_firstWith_16 : decode cX2_firstWith 16 = .ok (.iload_n 2, 1) := by decide +kernel
theorem dX2_firstWith_17 : decode cX2_firstWith 17 = .ok (.if_icmp .ne 5, 3) := by decide +kernel
theorem dX2_firstWith_20 : decode cX2_firstWith 20 = .ok (.iload_n 3, 1) := by decide +kernel
theorem dX2_firstWith_21 : decode cX2_firstWith 21 = .ok (.ireturn, 1) := by decide +kernel
theorem dX2_firstWith_22 : decode cX2_firstWith 22 = .ok (.iinc 3 1, 3) := by decide +kernel
theorem dX2_firstWith_25 : decode cX2_firstWith 25 = .ok (.goto (-23), 3) := by decide +kernel
theorem dX2_firstWith_28 : decode cX2_firstWith 28 = .ok (.iconst (-1), 1) := by decide +kernel
theorem dX2_firstWith_29 : decode cX2_firstWith 29 = .ok (.ireturn, 1) := by decide +kernel
theorem dX2_countWith_0 : decode cX2_countWith 0 = .ok (.iconst 0, 1) := by decide +kernel
theorem dX2_countWith_1 : decode cX2_countWith 1 = .ok (.istore_n 3, 1) := by decide +kernel
theorem dX2_countWith_2 : decode cX2_countWith 2 = .ok (.iconst 0, 1) := by decide +kernel
theorem dX2_countWith_3 : decode cX2_countWith 3 = .ok (.istore 4, 2) := by decide +kernel
theorem dX2_countWith_5 : decode cX2_countWith 5 = .ok (.iload 4, 2) := by decide +kernel
theorem dX2_countWith_7 : decode cX2_countWith 7 = .ok (.aload_n 0, 1) := by decide +kernel
theorem dX2_countWith_8 : decode cX2_countWith 8 = .ok (.getfield 9, 3) := by decide +kernel
theorem dX2_countWith_11 : decode cX2_countWith 11 = .ok (.if_icmp .ge 23, 3) := by decide +kernel
theorem dX2_countWith_14 : decode cX2_countWith 14 = .ok (.aload_n 0, 1) := by decide +kernel
theorem dX2_countWith_15 : decode cX2_countWith 15 = .ok (.iload 4, 2) := by decide +kernel
theorem dX2_countWith_17 : decode cX2_countWith 17 = .ok (.iload_n 1, 1) := by decide +kernel
theorem dX2_countWith_18 : decode cX2_countWith 18 = .ok (.invokevirtual 37, 3) := by decide +kernel
theorem dX2_countWith_21 : decode cX2_countWith 21 = .ok (.iload_n 2, 1) := by decide +kernel
theorem dX2_countWith_22 : decode cX2_countWith 22 = .ok (.if_icmp .ne 6, 3) := by decide +kernel
theorem dX2_countWith_25 : decode cX2_countWith 25 = .ok (.iinc 3 1, 3) := by decide +kernel
theorem dX2_countWith_28 : decode cX2_countWith 28 = .ok (.iinc 4 1, 3) := by decide +kernel
theorem dX2_countWith_31 : decode cX2_countWith 31 = .ok (.goto (-26), 3) := by decide +kernel
theorem dX2_countWith_34 : decode cX2_countWith 34 = .ok (.iload_n 3, 1) := by decide +kernel
theorem dX2_countWith_35 : decode cX2_countWith 35 = .ok (.ireturn, 1) := by decide +kernel
theorem dX2_removeWith_0 : decode cX2_removeWith 0 = .ok (.aload_n 0, 1) := by decide +kernel
theorem dX2_removeWith_1 : decode cX2_removeWith 1 = .ok (.getfield 9, 3) := by decide +kernel
theorem dX2_removeWith_4 : decode cX2_removeWith 4 = .ok (.istore_n 3, 1) := by decide +kernel
theorem dX2_removeWith_5 : decode cX2_removeWith 5 = .ok (.iload_n 3, 1) := by decide +kernel
theorem dX2_removeWith_6 : decode cX2_removeWith 6 = .ok (.iconst 1, 1) := by decide +kernel
theorem dX2_removeWith_7 : decode cX2_removeWith 7 = .ok (.isub, 1) := by decide +kernel
theorem dX2_removeWith_8 : decode cX2_removeWith 8 = .ok (.istore 4, 2) := by decide +kernel
theorem dX2_removeWith_10 : decode cX2_removeWith 10 = .ok (.iload 4, 2) := by decide +kernel
theorem dX2_removeWith_12 : decode cX2_removeWith 12 = .ok (.ifCond .lt 26, 3) := by decide +kernel
theorem dX2_removeWith_15 : decode cX2_removeWith 15 = .ok (.aload_n 0, 1) := by decide +kernel
theorem dX2_removeWith_16 : decode cX2_removeWith 16 = .ok (.iload 4, 2) := by decide +kernel
theorem dX2_removeWith_18 : decode cX2_removeWith 18 = .ok (.iload_n 1, 1) := by decide +kernel
theorem dX2_removeWith_19 : decode cX2_removeWith 19 = .ok (.invokevirtual 37, 3) := by decide +kernel
theorem dX2_removeWith_22 : decode cX2_removeWith 22 = .ok (.iload_n 2, 1) := by decide +kernel
theorem dX2_removeWith_23 : decode cX2_removeWith 23 = .ok (.if_icmp .ne 9, 3) := by decide +kernel
theorem dX2_removeWith_26 : decode cX2_removeWith 26 = .ok (.aload_n 0, 1) := by decide +kernel
theorem dX2_removeWith_27 : decode cX2_removeWith 27 = .ok (.iload 4, 2) := by decide +kernel
theorem dX2_removeWith_29 : decode cX2_removeWith 29 = .ok (.invokevirtual 40, 3) := by decide +kernel
theorem dX2_removeWith_32 : decode cX2_removeWith 32 = .ok (.iinc 4 (-1), 3) := by decide +kernel
theorem dX2_removeWith_35 : decode cX2_removeWith 35 = .ok (.goto (-25), 3) := by decide +kernel
theorem dX2_removeWith_38 : decode cX2_removeWith 38 = .ok (.iload_n 3, 1) := by decide +kernel
theorem dX2_removeWith_39 : decode cX2_removeWith 39 = .ok (.aload_n 0, 1) := by decide +kernel
theorem dX2_removeWith_40 : decode cX2_removeWith 40 = .ok (.getfield 9, 3) := by decide +kernel
theorem dX2_removeWith_43 : decode cX2_removeWith 43 = .ok (.isub, 1) := by decide +kernel
theorem dX2_removeWith_44 : decode cX2_removeWith 44 = .ok (.ireturn, 1) := by decide +kernel
theorem dX3_init_0 : decode cX3_init 0 = .ok (.aload_n 0, 1) := by decide +kernel
theorem dX3_init_1 : decode cX3_init 1 = .ok (.invokespecial 3, 3) := by decide +kernel
theorem dX3_init_4 : decode cX3_init 4 = .ok (.aload_n 0, 1) := by decide +kernel
theorem dX3_init_5 : decode cX3_init 5 = .ok (.bipush 60, 2) := by decide +kernel
theorem dX3_init_7 : decode cX3_init 7 = .ok (.newarray .char, 2) := by decide +kernel
theorem dX3_init_9 : decode cX3_init 9 = .ok (.putfield 9, 3) := by decide +kernel
theorem dX3_init_12 : decode cX3_init 12 = .ok (.aload_n 0, 1) := by decide +kernel
theorem dX3_init_13 : decode cX3_init 13 = .ok (.iconst 0, 1) := by decide +kernel
theorem dX3_init_14 : decode cX3_init 14 = .ok (.putfield 15, 3) := by decide +kernel
theorem dX3_init_17 : decode cX3_init 17 = .ok (.aload_n 0, 1) := by decide +kernel
theorem dX3_init_18 : decode cX3_init 18 = .ok (.iconst 0, 1) := by decide +kernel
theorem dX3_init_19 : decode cX3_init 19 = .ok (.putfield 19, 3) := by decide +kernel
theorem dX3_init_22 : decode cX3_init 22 = .ok (.aload_n 0, 1) := by decide +kernel
theorem dX3_init_23 : decode cX3_init 23 = .ok (.bipush 20, 2) := by decide +kernel
theorem dX3_init_25 : decode cX3_init 25 = .ok (.newarray .int, 2) := by decide +kernel
theorem dX3_init_27 : decode cX3_init 27 = .ok (.putfield 22, 3) := by decide +kernel
theorem dX3_init_30 : decode cX3_init 30 = .ok (.aload_n 0, 1) := by decide +kernel
theorem dX3_init_31 : decode cX3_init 31 = .ok (.bipush 20, 2) := by decide +kernel
theorem dX3_init_33 : decode cX3_init 33 = .ok (.newarray .int, 2) := by decide +kernel
theorem dX3_init_35 : decode cX3_init 35 = .ok (.putfield 26, 3) := by decide +kernel
theorem dX3_init_38 : decode cX3_init 38 = .ok (.aload_n 0, 1) := by decide +kernel
theorem dX3_init_39 : decode cX3_init 39 = .ok (.bipush 20, 2) := by decide +kernel
theorem dX3_init_41 : decode cX3_init 41 = .ok (.newarray .int, 2) := by decide +kernel
theorem dX3_init_43 : decode cX3_init 43 = .ok (.putfield 29, 3) := by decide +kernel
theorem dX3_init_46 : decode cX3_init 46 = .ok (.aload_n 0, 1) := by decide +kernel
theorem dX3_init_47 : decode cX3_init 47 = .ok (.iconst 0, 1) := by decide +kernel
theorem dX3_init_48 : decode cX3_init 48 = .ok (.putfield 32, 3) := by decide +kernel
theorem dX3_init_51 : decode cX3_init 51 = .ok (.return_, 1) := by decide +kernel
theorem dX3_isFull_0 : decode cX3_isFull 0 = .ok (.aload_n 0, 1) := by decide +kernel
theorem dX3_isFull_1 : decode cX3_isFull 1 = .ok (.getfield 15, 3) := by decide +kernel
theorem dX3_isFull_4 : decode cX3_isFull 4 = .ok (.bipush 60, 2) := by decide +kernel
theorem dX3_isFull_6 : decode cX3_isFull 6 = .ok (.if_icmp .lt 7, 3) := by decide +kernel
theorem dX3_isFull_9 : decode cX3_isFull 9 = .ok (.iconst 1, 1) := by decide +kernel
theorem dX3_isFull_10 : decode cX3_isFull 10 = .ok (.goto 4, 3) := by decide +kernel
theorem dX3_isFull_13 : decode cX3_isFull 13 = .ok (.iconst 0, 1) := by decide +kernel
theorem dX3_isFull_14 : decode cX3_isFull 14 = .ok (.ireturn, 1) := by decide +kernel
theorem dX3_append_0 : decode cX3_append 0 = .ok (.aload_n 0, 1) := by decide +kernel
theorem dX3_append_1 : decode cX3_append 1 = .ok (.getfield 15, 3) := by decide +kernel
theorem dX3_append_4 : decode cX3_append 4 = .ok (.bipush 60, 2) := by decide +kernel
theorem dX3_append_6 : decode cX3_append 6 = .ok (.if_icmp .ge 23, 3) := by decide +kernel
theorem dX3_append_9 : decode cX3_append 9 = .ok (.aload_n 0, 1) := by decide +kernel
theorem dX3_append_10 : decode cX3_append 10 = .ok (.getfield 9, 3) := by decide +kernel
theorem dX3_append_13 : decode cX3_append 13 = .ok (.aload_n 0, 1) := by decide +kernel
theorem dX3_append_14 : decode cX3_append 14 = .ok (.getfield 15, 3) := by decide +kernel
theorem dX3_append_17 : decode cX3_append 17 = .ok (.iload_n 1, 1) := by decide +kernel
theorem dX3_append_18 : decode cX3_append 18 = .ok (.castore, 1) := by decide +kernel
theorem dX3_append_19 : decode cX3_append 19 = .ok (.aload_n 0, 1) := by decide +kernel
theorem dX3_append_20 : decode cX3_append 20 = .ok (.dup, 1) := by decide +kernel
theorem dX3_append_21 : decode cX3_append 21 = .ok (.getfield 15, 3) := by decide +kernel
theorem dX3_append_24 : decode cX3_append 24 = .ok (.iconst 1, 1) := by decide +kernel
theorem dX3_append_25 : decode cX3_append 25 = .ok (.iadd, 1) := by decide +kernel
theorem dX3_append_26 : decode cX3_append 26 = .ok (.putfield 15, 3) := by decide +kernel
theorem dX3_append_29 : decode cX3_append 29 = .ok (.aload_n 0, 1) := by decide +kernel
theorem dX3_append_30 : decode cX3_append 30 = .ok (.getfield 15, 3) := by decide +kernel
theorem dX3_append_33 : decode cX3_append 33 = .ok (.ireturn, 1) := by decide +kernel
theorem dX3_empty_0 : decode cX3_empty 0 = .ok (.aload_n 0, 1) := by decide +kernel
theorem dX3_empty_1 : decode cX3_empty 1 = .ok (.iconst 0, 1) := by decide +kernel
theorem dX3_empty_2 : decode cX3_empty 2 = .ok (.putfield 15, 3) := by decide +kernel
theorem dX3_empty_5 : decode cX3_empty 5 = .ok (.return_, 1) := by decide +kernel
theorem dX3_current_0 : decode cX3_current 0 = .ok (.aload_n 0, 1) := by decide +kernel
theorem dX3_current_1 : decode cX3_current 1 = .ok (.getfield 19, 3) := by decide +kernel
theorem dX3_current_4 : decode cX3_current 4 = .ok (.ifCond .lt 26, 3) := by decide +kernel
theorem dX3_current_7 : decode cX3_current 7 = .ok (.aload_n 0, 1) := by decide +kernel
theorem dX3_current_8 : decode cX3_current 8 = .ok (.getfield 19, 3) := by decide +kernel
theorem dX3_current_11 : decode cX3_current 11 = .ok (.aload_n 0, 1) := by decide +kernel
theorem dX3_current_12 : decode cX3_current 12 = .ok (.getfield 15, 3) := by decide +kernel
theorem dX3_current_15 : decode cX3_current 15 = .ok (.if_icmp .ge 15, 3) := by decide +kernel
theorem dX3_current_18 : decode cX3_current 18 = .ok (.aload_n 0, 1) := by decide +kernel
theorem dX3_current_19 : decode cX3_current 19 = .ok (.getfield 9, 3) := by decide +kernel
theorem dX3_current_22 : decode cX3_current 22 = .ok (.aload_n 0, 1) := by decide +kernel
theorem dX3_current_23 : decode cX3_current 23 = .ok (.getfield 19, 3) := by decide +kernel
theorem dX3_current_26 : decode cX3_current 26 = .ok (.caload, 1) := by decide +kernel
theorem dX3_current_27 : decode cX3_current 27 = .ok (.goto 4, 3) := by decide +kernel
theorem dX3_current_30 : decode cX3_current 30 = .ok (.iconst (-1), 1) := by decide +kernel
theorem dX3_current_31 : decode cX3_current 31 = .ok (.ireturn, 1) := by decide +kernel
theorem dX3_isCommandLetter_0 : decode cX3_isCommandLetter 0 = .ok (.iload_n 0, 1) := by decide +kernel
theorem dX3_isCommandLetter_1 : decode cX3_isCommandLetter 1 = .ok (.bipush 110, 2) := by decide +kernel
theorem dX3_isCommandLetter_3 : decode cX3_isCommandLetter 3 = .ok (.if_icmp .eq 33, 3) := by decide +kernel
theorem dX3_isCommandLetter_6 : decode cX3_isCommandLetter 6 = .ok (.iload_n 0, 1) := by decide +kernel
theorem dX3_isCommandLetter_7 : decode cX3_isCommandLetter 7 = .ok (.bipush 100, 2) := by decide +kernel
theorem dX3_isCommandLetter_9 : decode cX3_isCommandLetter 9 = .ok (.if_icmp .eq 27, 3) := by decide +kernel
theorem dX3_isCommandLetter_12 : decode cX3_isCommandLetter 12 = .ok (.iload_n 0, 1) := by decide +kernel
theorem dX3_isCommandLetter_13 : decode cX3_isCommandLetter 13 = .ok (.bipush 102, 2) := by decide +kernel
theorem dX3_isCommandLetter_15 : decode cX3_isCommandLetter 15 = .ok (.if_icmp .eq 21, 3) := by decide +kernel
theorem dX3_isCommandLetter_18 : decode cX3_isCommandLetter 18 = .ok (.iload_n 0, 1) := by decide +kernel
theorem dX3_isCommandLetter_19 : decode cX3_isCommandLetter 19 = .ok (.bipush 114, 2) := by decide +kernel
theorem dX3_isCommandLetter_21 : decode cX3_isCommandLetter 21 = .ok (.if_icmp .eq 15, 3) := by decide +kernel
theorem dX3_isCommandLetter_24 : decode cX3_isCommandLetter 24 = .ok (.iload_n 0, 1) := by decide +kernel
theorem dX3_isCommandLetter_25 : decode cX3_isCommandLetter 25 = .ok (.bipush 119, 2) := by decide +kernel
theorem dX3_isCommandLetter_27 : decode cX3_isCommandLetter 27 = .ok (.if_icmp .eq 9, 3) := by decide +kernel
theorem dX3_isCommandLetter_30 : decode cX3_isCommandLetter 30 = .ok (.iload_n 0, 1) := by decide +kernel
theorem dX3_isCommandLetter_31 : decode cX3_isCommandLetter 31 = .ok (.bipush 116, 2) := by decide +kernel
theorem dX3_isCommandLetter_33 : decode cX3_isCommandLetter 33 = .ok (.if_icmp .ne 7, 3) := by decide +kernel
theorem dX3_isCommandLetter_36 : decode cX3_isCommandLetter 36 = .ok (.iconst 1, 1) := by decide +kernel
theorem dX3_isCommandLetter_37 : decode cX3_isCommandLetter 37 = .ok (.goto 4, 3) := by decide +kernel
theorem dX3_isCommandLetter_40 : decode cX3_isCommandLetter 40 = .ok (.iconst 0, 1) := by decide +kernel
theorem dX3_isCommandLetter_41 : decode cX3_isCommandLetter 41 = .ok (.ireturn, 1) := by decide +kernel
theorem dX3_readDigit_0 : decode cX3_readDigit 0 = .ok (.aload_n 0, 1) := by decide +kernel
theorem dX3_readDigit_1 : decode cX3_readDigit 1 = .ok (.invokevirtual 39, 3) := by decide +kernel
theorem dX3_readDigit_4 : decode cX3_readDigit 4 = .ok (.istore_n 1, 1) := by decide +kernel
theorem dX3_readDigit_5 : decode cX3_readDigit 5 = .ok (.iload_n 1, 1) := by decide +kernel
theorem dX3_readDigit_6 : decode cX3_readDigit 6 = .ok (.bipush 48, 2) := by decide +kernel
theorem dX3_readDigit_8 : decode cX3_readDigit 8 = .ok (.if_icmp .lt 9, 3) := by decide +kernel
theorem dX3_readDigit_11 : decode cX3_readDigit 11 = .ok (.iload_n 1, 1) := by decide +kernel
theorem dX3_readDigit_12 : decode cX3_readDigit 12 = .ok (.bipush 57, 2) := by decide +kernel
theorem dX3_readDigit_14 : decode cX3_readDigit 14 = .ok (.if_icmp .le 5, 3) := by decide +kernel
theorem dX3_readDigit_17 : decode cX3_readDigit 17 = .ok (.iconst (-1), 1) := by decide +kernel
theorem dX3_readDigit_18 : decode cX3_readDigit 18 = .ok (.ireturn, 1) := by decide +kernel
theorem dX3_readDigit_19 : decode cX3_readDigit 19 = .ok (.aload_n 0, 1) := by decide +kernel
theorem dX3_readDigit_20 : decode cX3_readDigit 20 = .ok (.dup, 1) := by decide +kernel
theorem dX3_readDigit_21 : decode cX3_readDigit 21 = .ok (.getfield 19, 3) := by decide +kernel
theorem dX3_readDigit_24 : decode cX3_readDigit 24 = .ok (.iconst 1, 1) := by decide +kernel
theorem dX3_readDigit_25 : decode cX3_readDigit 25 = .ok (.iadd, 1) := by decide +kernel
theorem dX3_readDigit_26 : decode cX3_readDigit 26 = .ok (.putfield 19, 3) := by decide +kernel
theorem dX3_readDigit_29 : decode cX3_readDigit 29 = .ok (.iload_n 1, 1) := by decide +kernel
theorem dX3_readDigit_30 : decode cX3_readDigit 30 = .ok (.bipush 48, 2) := by decide +kernel
theorem dX3_readDigit_32 : decode cX3_readDigit 32 = .ok (.isub, 1) := by decide +kernel
theorem dX3_readDigit_33 : decode cX3_readDigit 33 = .ok (.ireturn, 1) := by decide +kernel
theorem dX3_readNumber_0 : decode cX3_readNumber 0 = .ok (.aload_n 0, 1) := by decide +kernel
theorem dX3_readNumber_1 : decode cX3_readNumber 1 = .ok (.invokevirtual 58, 3) := by decide +kernel
theorem dX3_readNumber_4 : decode cX3_readNumber 4 = .ok (.istore_n 1, 1) := by decide +kernel
theorem dX3_readNumber_5 : decode cX3_readNumber 5 = .ok (.iload_n 1, 1) := by decide +kernel
theorem dX3_readNumber_6 : decode cX3_readNumber 6 = .ok (.iconst (-1), 1) := by decide +kernel
theorem dX3_readNumber_7 : decode cX3_readNumber 7 = .ok (.if_icmp .ne 5, 3) := by decide +kernel
theorem dX3_readNumber_10 : decode cX3_readNumber 10 = .ok (.iconst (-1), 1) := by decide +kernel
theorem dX3_readNumber_11 : decode cX3_readNumber 11 = .ok (.ireturn, 1) := by decide +kernel
theorem dX3_readNumber_12 : decode cX3_readNumber 12 = .ok (.aload_n 0, 1) := by decide +kernel
theorem dX3_readNumber_13 : decode cX3_readNumber 13 = .ok (.invokevirtual 58, 3) := by decide +kernel
theorem dX3_readNumber_16 : decode cX3_readNumber 16 = .ok (.istore_n 2, 1) := by decide +kernel
theorem dX3_readNumber_17 : decode cX3_readNumber 17 = .ok (.iload_n 2, 1) := by decide +kernel
theorem dX3_readNumber_18 : decode cX3_readNumber 18 = .ok (.iconst (-1), 1) := by decide +kernel
theorem dX3_readNumber_19 : decode cX3_readNumber 19 = .ok (.if_icmp .ne 7, 3) := by decide +kernel
theorem dX3_readNumber_22 : decode cX3_readNumber 22 = .ok (.iload_n 1, 1) := by decide +kernel
theorem dX3_readNumber_23 : decode cX3_readNumber 23 = .ok (.goto 9, 3) := by decide +kernel
theorem dX3_readNumber_26 : decode cX3_readNumber 26 = .ok (.iload_n 1, 1) := by decide +kernel
theorem dX3_readNumber_27 : decode cX3_readNumber 27 = .ok (.bipush 10, 2) := by decide +kernel
theorem dX3_readNumber_29 : decode cX3_readNumber 29 = .ok (.imul, 1) := by decide +kernel
theorem dX3_readNumber_30 : decode cX3_readNumber 30 = .ok (.iload_n 2, 1) := by decide +kernel
theorem dX3_readNumber_31 : decode cX3_readNumber 31 = .ok (.iadd, 1) := by decide +kernel
theorem dX3_readNumber_32 : decode cX3_readNumber 32 = .ok (.ireturn, 1) := by decide +kernel
theorem dX3_accept_0 : decode cX3_accept 0 = .ok (.aload_n 0, 1) := by decide +kernel
theorem dX3_accept_1 : decode cX3_accept 1 = .ok (.invokevirtual 39, 3) := by decide +kernel
theorem dX3_accept_4 : decode cX3_accept 4 = .ok (.iload_n 1, 1) := by decide +kernel
theorem dX3_accept_5 : decode cX3_accept 5 = .ok (.if_icmp .eq 5, 3) := by decide +kernel
theorem dX3_accept_8 : decode cX3_accept 8 = .ok (.iconst 0, 1) := by decide +kernel
theorem dX3_accept_9 : decode cX3_accept 9 = .ok (.ireturn, 1) := by decide +kernel
theorem dX3_accept_10 : decode cX3_accept 10 = .ok (.aload_n 0, 1) := by decide +kernel
theorem dX3_accept_11 : decode cX3_accept 11 = .ok (.dup, 1) := by decide +kernel
theorem dX3_accept_12 : decode cX3_accept 12 = .ok (.getfield 19, 3) := by decide +kernel
theorem dX3_accept_15 : decode cX3_accept 15 = .ok (.iconst 1, 1) := by decide +kernel
theorem dX3_accept_16 : decode cX3_accept 16 = .ok (.iadd, 1) := by decide +kernel
theorem dX3_accept_17 : decode cX3_accept 17 = .ok (.putfield 19, 3) := by decide +kernel
theorem dX3_accept_20 : decode cX3_accept 20 = .ok (.iconst 1, 1) := by decide +kernel
theorem dX3_accept_21 : decode cX3_accept 21 = .ok (.ireturn, 1) := by decide +kernel
theorem dX3_addCommand_0 : decode cX3_addCommand 0 = .ok (.aload_n 0, 1) := by decide +kernel
theorem dX3_addCommand_1 : decode cX3_addCommand 1 = .ok (.getfield 32, 3) := by decide +kernel
theorem dX3_addCommand_4 : decode cX3_addCommand 4 = .ok (.bipush 20, 2) := by decide +kernel
theorem dX3_addCommand_6 : decode cX3_addCommand 6 = .ok (.if_icmp .ge 43, 3) := by decide +kernel
theorem dX3_addCommand_9 : decode cX3_addCommand 9 = .ok (.aload_n 0, 1) := by decide +kernel
theorem dX3_addCommand_10 : decode cX3_addCommand 10 = .ok (.getfield 22, 3) := by decide +kernel
theorem dX3_addCommand_13 : decode cX3_addCommand 13 = .ok (.aload_n 0, 1) := by decide +kernel
theorem dX3_addCommand_14 : decode cX3_addCommand 14 = .ok (.getfield 32, 3) := by decide +kernel
theorem dX3_addCommand_17 : decode cX3_addCommand 17 = .ok (.iload_n 1, 1) := by decide +kernel
theorem dX3_addCommand_18 : decode cX3_addCommand 18 = .ok (.iastore, 1) := by decide +kernel
theorem dX3_addCommand_19 : decode cX3_addCommand 19 = .ok (.aload_n 0, 1) := by decide +kernel
theorem dX3_addCommand_20 : decode cX3_addCommand 20 = .ok (.getfield 26, 3) := by decide +kernel
theorem dX3_addCommand_23 : decode cX3_addCommand 23 = .ok (.aload_n 0, 1) := by decide +kernel
theorem dX3_addCommand_24 : decode cX3_addCommand 24 = .ok (.getfield 32, 3) := by decide +kernel
theorem dX3_addCommand_27 : decode cX3_addCommand 27 = .ok (.iload_n 2, 1) := by decide +kernel
theorem dX3_addCommand_28 : decode cX3_addCommand 28 = .ok (.iastore, 1) := by decide +kernel
theorem dX3_addCommand_29 : decode cX3_addCommand 29 = .ok (.aload_n 0, 1) := by decide +kernel
theorem dX3_addCommand_30 : decode cX3_addCommand 30 = .ok (.getfield 29, 3) := by decide +kernel
theorem dX3_addCommand_33 : decode cX3_addCommand 33 = .ok (.aload_n 0, 1) := by decide +kernel
theorem dX3_addCommand_34 : decode cX3_addCommand 34 = .ok (.getfield 32, 3) := by decide +kernel
theorem dX3_addCommand_37 : decode cX3_addCommand 37 = .ok (.iload_n 3, 1) := by decide +kernel
theorem dX3_addCommand_38 : decode cX3_addCommand 38 = .ok (.iastore, 1) := by decide +kernel
theorem dX3_addCommand_39 : decode cX3_addCommand 39 = .ok (.aload_n 0, 1) := by decide +kernel
theorem dX3_addCommand_40 : decode cX3_addCommand 40 = .ok (.dup, 1) := by decide +kernel
theorem dX3_addCommand_41 : decode cX3_addCommand 41 = .ok (.getfield 32, 3) := by decide +kernel
theorem dX3_addCommand_44 : decode cX3_addCommand 44 = .ok (.iconst 1, 1) := by decide +kernel
theorem dX3_addCommand_45 : decode cX3_addCommand 45 = .ok (.iadd, 1) := by decide +kernel
theorem dX3_addCommand_46 : decode cX3_addCommand 46 = .ok (.putfield 32, 3) := by decide +kernel
theorem dX3_addCommand_49 : decode cX3_addCommand 49 = .ok (.return_, 1) := by decide +kernel
theorem dX3_readCommand_0 : decode cX3_readCommand 0 = .ok (.aload_n 0, 1) := by decide +kernel
theorem dX3_readCommand_1 : decode cX3_readCommand 1 = .ok (.invokevirtual 39, 3) := by decide +kernel
theorem dX3_readCommand_4 : decode cX3_readCommand 4 = .ok (.istore_n 1, 1) := by decide +kernel
theorem dX3_readCommand_5 : decode cX3_readCommand 5 = .ok (.iload_n 1, 1) := by decide +kernel
theorem dX3_readCommand_6 : decode cX3_readCommand 6 = .ok (.invokestatic 43, 3) := by decide +kernel
theorem dX3_readCommand_9 : decode cX3_readCommand 9 = .ok (.ifCond .ne 5, 3) := by decide +kernel
theorem dX3_readCommand_12 : decode cX3_readCommand 12 = .ok (.iconst 0, 1) := by decide +kernel
theorem dX3_readCommand_13 : decode cX3_readCommand 13 = .ok (.ireturn, 1) := by decide +kernel
theorem dX3_readCommand_14 : decode cX3_readCommand 14 = .ok (.aload_n 0, 1) := by decide +kernel
theorem dX3_readCommand_15 : decode cX3_readCommand 15 = .ok (.dup, 1) := by decide +kernel
theorem dX3_readCommand_16 : decode cX3_readCommand 16 = .ok (.getfield 19, 3) := by decide +kernel
theorem dX3_readCommand_19 : decode cX3_readCommand 19 = .ok (.iconst 1, 1) := by decide +kernel
theorem dX3_readCommand_20 : decode cX3_readCommand 20 = .ok (.iadd, 1) := by decide +kernel
theorem dX3_readCommand_21 : decode cX3_readCommand 21 = .ok (.putfield 19, 3) := by decide +kernel
theorem dX3_readCommand_24 : decode cX3_readCommand 24 = .ok (.aload_n 0, 1) := by decide +kernel
theorem dX3_readCommand_25 : decode cX3_readCommand 25 = .ok (.invokevirtual 47, 3) := by decide +kernel
theorem dX3_readCommand_28 : decode cX3_readCommand 28 = .ok (.istore_n 2, 1) := by decide +kernel
theorem dX3_readCommand_29 : decode cX3_readCommand 29 = .ok (.iload_n 2, 1) := by decide +kernel
theorem dX3_readCommand_30 : decode cX3_readCommand 30 = .ok (.iconst (-1), 1) := by decide +kernel
theorem dX3_readCommand_31 : decode cX3_readCommand 31 = .ok (.if_icmp .ne 5, 3) := by decide +kernel
theorem dX3_readCommand_34 : decode cX3_readCommand 34 = .ok (.iconst 0, 1) := by decide +kernel
theorem dX3_readCommand_35 : decode cX3_readCommand 35 = .ok (.ireturn, 1) := by decide +kernel
theorem dX3_readCommand_36 : decode cX3_readCommand 36 = .ok (.iconst 0, 1) := by decide +kernel
theorem dX3_readCommand_37 : decode cX3_readCommand 37 = .ok (.istore_n 3, 1) := by decide +kernel
theorem dX3_readCommand_38 : decode cX3_readCommand 38 = .ok (.iload_n 1, 1) := by decide +kernel
theorem dX3_readCommand_39 : decode cX3_readCommand 39 = .ok (.bipush 119, 2) := by decide +kernel
theorem dX3_readCommand_41 : decode cX3_readCommand 41 = .ok (.if_icmp .ne 21, 3) := by decide +kernel
theorem dX3_readCommand_44 : decode cX3_readCommand 44 = .ok (.aload_n 0, 1) := by decide +kernel
theorem dX3_readCommand_45 : decode cX3_readCommand 45 = .ok (.bipush 61, 2) := by decide +kernel
theorem dX3_readCommand_47 : decode cX3_readCommand 47 = .ok (.invokevirtual 50, 3) := by decide +kernel
theorem dX3_readCommand_50 : decode cX3_readCommand 50 = .ok (.ifCond .eq 10, 3) := by decide +kernel
theorem dX3_readCommand_53 : decode cX3_readCommand 53 = .ok (.aload_n 0, 1) := by decide +kernel
theorem dX3_readCommand_54 : decode cX3_readCommand 54 = .ok (.invokevirtual 47, 3) := by decide +kernel
theorem dX3_readCommand_57 : decode cX3_readCommand 57 = .ok (.goto 4, 3) := by decide +kernel
theorem dX3_readCommand_60 : decode cX3_readCommand 60 = .ok (.iconst (-1), 1) := by decide +kernel
theorem dX3_readCommand_61 : decode cX3_readCommand 61 = .ok (.istore_n 3, 1) := by decide +kernel
theorem dX3_readCommand_62 : decode cX3_readCommand 62 = .ok (.iload_n 3, 1) := by decide +kernel
theorem dX3_readCommand_63 : decode cX3_readCommand 63 = .ok (.iconst (-1), 1) := by decide +kernel
theorem dX3_readCommand_64 : decode cX3_readCommand 64 = .ok (.if_icmp .eq 12, 3) := by decide +kernel
theorem dX3_readCommand_67 : decode cX3_readCommand 67 = .ok (.aload_n 0, 1) := by decide +kernel
theorem dX3_readCommand_68 : decode cX3_readCommand 68 = .ok (.bipush 59, 2) := by decide +kernel
theorem dX3_readCommand_70 : decode cX3_readCommand 70 = .ok (.invokevirtual 50, 3) := by decide +kernel
theorem dX3_readCommand_73 : decode cX3_readCommand 73 = .ok (.ifCond .ne 5, 3) := by decide +kernel
theorem dX3_readCommand_76 : decode cX3_readCommand 76 = .ok (.iconst 0, 1) := by decide +kernel
