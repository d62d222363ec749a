/-! the printed decode rows of EggHouse and of the library methods that it reaches -/
theorem dX0_init_0 : decode cX0_init 0 = .ok (.aload_n 0, 1) := by decide +kernel
theorem dX0_init_1 : decode cX0_init 1 = .ok (.invokespecial 1, 3) := by decide +kernel
theorem dX0_init_4 : decode cX0_init 4 = .ok (.aload_n 0, 1) := by decide +kernel
theorem dX0_init_5 : decode cX0_init 5 = .ok (.iload_n 1, 1) := by decide +kernel
theorem dX0_init_6 : decode cX0_init 6 = .ok (.putfield 7, 3) := by decide +kernel
theorem dX0_init_9 : decode cX0_init 9 = .ok (.aload_n 0, 1) := by decide +kernel
theorem dX0_init_10 : decode cX0_init 10 = .ok (.iload_n 2, 1) := by decide +kernel
theorem dX0_init_11 : decode cX0_init 11 = .ok (.putfield 13, 3) := by decide +kernel
theorem dX0_init_14 : decode cX0_init 14 = .ok (.aload_n 0, 1) := by decide +kernel
theorem dX0_init_15 : decode cX0_init 15 = .ok (.iload_n 3, 1) := by decide +kernel
theorem dX0_init_16 : decode cX0_init 16 = .ok (.putfield 16, 3) := by decide +kernel
theorem dX0_init_19 : decode cX0_init 19 = .ok (.aload_n 0, 1) := by decide +kernel
theorem dX0_init_20 : decode cX0_init 20 = .ok (.iload 4, 2) := by decide +kernel
theorem dX0_init_22 : decode cX0_init 22 = .ok (.putfield 19, 3) := by decide +kernel
theorem dX0_init_25 : decode cX0_init 25 = .ok (.aload_n 0, 1) := by decide +kernel
theorem dX0_init_26 : decode cX0_init 26 = .ok (.iload 5, 2) := by decide +kernel
theorem dX0_init_28 : decode cX0_init 28 = .ok (.putfield 22, 3) := by decide +kernel
theorem dX0_init_31 : decode cX0_init 31 = .ok (.aload_n 0, 1) := by decide +kernel
theorem dX0_init_32 : decode cX0_init 32 = .ok (.iload 6, 2) := by decide +kernel
theorem dX0_init_34 : decode cX0_init 34 = .ok (.putfield 25, 3) := by decide +kernel
theorem dX0_init_37 : decode cX0_init 37 = .ok (.return_, 1) := by decide +kernel
theorem dX1_init_0 : decode cX1_init 0 = .ok (.aload_n 0, 1) := by decide +kernel
theorem dX1_init_1 : decode cX1_init 1 = .ok (.invokespecial 1, 3) := by decide +kernel
theorem dX1_init_4 : decode cX1_init 4 = .ok (.aload_n 0, 1) := by decide +kernel
theorem dX1_init_5 : decode cX1_init 5 = .ok (.iload_n 1, 1) := by decide +kernel
theorem dX1_init_6 : decode cX1_init 6 = .ok (.putfield 7, 3) := by decide +kernel
theorem dX1_init_9 : decode cX1_init 9 = .ok (.aload_n 0, 1) := by decide +kernel
theorem dX1_init_10 : decode cX1_init 10 = .ok (.iload_n 2, 1) := by decide +kernel
theorem dX1_init_11 : decode cX1_init 11 = .ok (.putfield 13, 3) := by decide +kernel
theorem dX1_init_14 : decode cX1_init 14 = .ok (.aload_n 0, 1) := by decide +kernel
theorem dX1_init_15 : decode cX1_init 15 = .ok (.iload_n 3, 1) := by decide +kernel
theorem dX1_init_16 : decode cX1_init 16 = .ok (.putfield 16, 3) := by decide +kernel
theorem dX1_init_19 : decode cX1_init 19 = .ok (.return_, 1) := by decide +kernel
theorem dX2_init_0 : decode cX2_init 0 = .ok (.aload_n 0, 1) := by decide +kernel
theorem dX2_init_1 : decode cX2_init 1 = .ok (.invokespecial 3, 3) := by decide +kernel
theorem dX2_init_4 : decode cX2_init 4 = .ok (.aload_n 0, 1) := by decide +kernel
theorem dX2_init_5 : decode cX2_init 5 = .ok (.bipush (-9), 2) := by decide +kernel
theorem dX2_init_7 : decode cX2_init 7 = .ok (.putfield 9, 3) := by decide +kernel
theorem dX2_init_10 : decode cX2_init 10 = .ok (.return_, 1) := by decide +kernel
theorem dX2_lay_0 : decode cX2_lay 0 = .ok (.aload_n 0, 1) := by decide +kernel
theorem dX2_lay_1 : decode cX2_lay 1 = .ok (.aload_n 0, 1) := by decide +kernel
theorem dX2_lay_2 : decode cX2_lay 2 = .ok (.getfield 15, 3) := by decide +kernel
theorem dX2_lay_5 : decode cX2_lay 5 = .ok (.ifCond .ne 10, 3) := by decide +kernel
theorem dX2_lay_8 : decode cX2_lay 8 = .ok (.aload_n 1, 1) := by decide +kernel
theorem dX2_lay_9 : decode cX2_lay 9 = .ok (.getfield 18, 3) := by decide +kernel
theorem dX2_lay_12 : decode cX2_lay 12 = .ok (.goto 14, 3) := by decide +kernel
theorem dX2_lay_15 : decode cX2_lay 15 = .ok (.aload_n 0, 1) := by decide +kernel
theorem dX2_lay_16 : decode cX2_lay 16 = .ok (.getfield 23, 3) := by decide +kernel
theorem dX2_lay_19 : decode cX2_lay 19 = .ok (.aload_n 1, 1) := by decide +kernel
theorem dX2_lay_20 : decode cX2_lay 20 = .ok (.getfield 18, 3) := by decide +kernel
theorem dX2_lay_23 : decode cX2_lay 23 = .ok (.invokestatic 26, 3) := by decide +kernel
theorem dX2_lay_26 : decode cX2_lay 26 = .ok (.putfield 23, 3) := by decide +kernel
theorem dX2_lay_29 : decode cX2_lay 29 = .ok (.aload_n 0, 1) := by decide +kernel
theorem dX2_lay_30 : decode cX2_lay 30 = .ok (.aload_n 0, 1) := by decide +kernel
theorem dX2_lay_31 : decode cX2_lay 31 = .ok (.getfield 32, 3) := by decide +kernel
theorem dX2_lay_34 : decode cX2_lay 34 = .ok (.aload_n 1, 1) := by decide +kernel
theorem dX2_lay_35 : decode cX2_lay 35 = .ok (.getfield 18, 3) := by decide +kernel
theorem dX2_lay_38 : decode cX2_lay 38 = .ok (.invokestatic 35, 3) := by decide +kernel
theorem dX2_lay_41 : decode cX2_lay 41 = .ok (.putfield 32, 3) := by decide +kernel
theorem dX2_lay_44 : decode cX2_lay 44 = .ok (.aload_n 0, 1) := by decide +kernel
theorem dX2_lay_45 : decode cX2_lay 45 = .ok (.dup, 1) := by decide +kernel
theorem dX2_lay_46 : decode cX2_lay 46 = .ok (.getfield 15, 3) := by decide +kernel
theorem dX2_lay_49 : decode cX2_lay 49 = .ok (.iconst 1, 1) := by decide +kernel
theorem dX2_lay_50 : decode cX2_lay 50 = .ok (.iadd, 1) := by decide +kernel
theorem dX2_lay_51 : decode cX2_lay 51 = .ok (.putfield 15, 3) := by decide +kernel
theorem dX2_lay_54 : decode cX2_lay 54 = .ok (.aload_n 0, 1) := by decide +kernel
theorem dX2_lay_55 : decode cX2_lay 55 = .ok (.dup, 1) := by decide +kernel
theorem dX2_lay_56 : decode cX2_lay 56 = .ok (.getfield 38, 3) := by decide +kernel
theorem dX2_lay_59 : decode cX2_lay 59 = .ok (.iconst 1, 1) := by decide +kernel
theorem dX2_lay_60 : decode cX2_lay 60 = .ok (.aload_n 1, 1) := by decide +kernel
theorem dX2_lay_61 : decode cX2_lay 61 = .ok (.getfield 41, 3) := by decide +kernel
theorem dX2_lay_64 : decode cX2_lay 64 = .ok (.ishl, 1) := by decide +kernel
theorem dX2_lay_65 : decode cX2_lay 65 = .ok (.ior, 1) := by decide +kernel
theorem dX2_lay_66 : decode cX2_lay 66 = .ok (.putfield 38, 3) := by decide +kernel
theorem dX2_lay_69 : decode cX2_lay 69 = .ok (.aload_n 0, 1) := by decide +kernel
theorem dX2_lay_70 : decode cX2_lay 70 = .ok (.dup, 1) := by decide +kernel
theorem dX2_lay_71 : decode cX2_lay 71 = .ok (.getfield 44, 3) := by decide +kernel
theorem dX2_lay_74 : decode cX2_lay 74 = .ok (.aload_n 1, 1) := by decide +kernel
theorem dX2_lay_75 : decode cX2_lay 75 = .ok (.getfield 47, 3) := by decide +kernel
theorem dX2_lay_78 : decode cX2_lay 78 = .ok (.iadd, 1) := by decide +kernel
theorem dX2_lay_79 : decode cX2_lay 79 = .ok (.putfield 44, 3) := by decide +kernel
theorem dX2_lay_82 : decode cX2_lay 82 = .ok (.aload_n 0, 1) := by decide +kernel
theorem dX2_lay_83 : decode cX2_lay 83 = .ok (.dup, 1) := by decide +kernel
theorem dX2_lay_84 : decode cX2_lay 84 = .ok (.getfield 50, 3) := by decide +kernel
theorem dX2_lay_87 : decode cX2_lay 87 = .ok (.aload_n 1, 1) := by decide +kernel
theorem dX2_lay_88 : decode cX2_lay 88 = .ok (.getfield 53, 3) := by decide +kernel
theorem dX2_lay_91 : decode cX2_lay 91 = .ok (.iadd, 1) := by decide +kernel
theorem dX2_lay_92 : decode cX2_lay 92 = .ok (.putfield 50, 3) := by decide +kernel
theorem dX2_lay_95 : decode cX2_lay 95 = .ok (.return_, 1) := by decide +kernel
theorem dX2_isFreeOf_0 : decode cX2_isFreeOf 0 = .ok (.aload_n 0, 1) := by decide +kernel
theorem dX2_isFreeOf_1 : decode cX2_isFreeOf 1 = .ok (.getfield 56, 3) := by decide +kernel
theorem dX2_isFreeOf_4 : decode cX2_isFreeOf 4 = .ok (.iload_n 1, 1) := by decide +kernel
theorem dX2_isFreeOf_5 : decode cX2_isFreeOf 5 = .ok (.if_icmp .ne 23, 3) := by decide +kernel
theorem dX2_isFreeOf_8 : decode cX2_isFreeOf 8 = .ok (.aload_n 0, 1) := by decide +kernel
theorem dX2_isFreeOf_9 : decode cX2_isFreeOf 9 = .ok (.getfield 9, 3) := by decide +kernel
theorem dX2_isFreeOf_12 : decode cX2_isFreeOf 12 = .ok (.bipush (-9), 2) := by decide +kernel
theorem dX2_isFreeOf_14 : decode cX2_isFreeOf 14 = .ok (.if_icmp .ne 14, 3) := by decide +kernel
theorem dX2_isFreeOf_17 : decode cX2_isFreeOf 17 = .ok (.aload_n 0, 1) := by decide +kernel
theorem dX2_isFreeOf_18 : decode cX2_isFreeOf 18 = .ok (.getfield 59, 3) := by decide +kernel
theorem dX2_isFreeOf_21 : decode cX2_isFreeOf 21 = .ok (.ifCond .ne 7, 3) := by decide +kernel
theorem dX2_isFreeOf_24 : decode cX2_isFreeOf 24 = .ok (.iconst 1, 1) := by decide +kernel
theorem dX2_isFreeOf_25 : decode cX2_isFreeOf 25 = .ok (.goto 4, 3) := by decide +kernel
theorem dX2_isFreeOf_28 : decode cX2_isFreeOf 28 = .ok (.iconst 0, 1) := by decide +kernel
theorem dX2_isFreeOf_29 : decode cX2_isFreeOf 29 = .ok (.ireturn, 1) := by decide +kernel
theorem dX2_holdIf_0 : decode cX2_holdIf 0 = .ok (.iload_n 1, 1) := by decide +kernel
theorem dX2_holdIf_1 : decode cX2_holdIf 1 = .ok (.ifCond .eq 17, 3) := by decide +kernel
theorem dX2_holdIf_4 : decode cX2_holdIf 4 = .ok (.aload_n 0, 1) := by decide +kernel
theorem dX2_holdIf_5 : decode cX2_holdIf 5 = .ok (.getfield 9, 3) := by decide +kernel
theorem dX2_holdIf_8 : decode cX2_holdIf 8 = .ok (.bipush (-9), 2) := by decide +kernel
theorem dX2_holdIf_10 : decode cX2_holdIf 10 = .ok (.if_icmp .ne 8, 3) := by decide +kernel
theorem dX2_holdIf_13 : decode cX2_holdIf 13 = .ok (.aload_n 0, 1) := by decide +kernel
theorem dX2_holdIf_14 : decode cX2_holdIf 14 = .ok (.iconst 1, 1) := by decide +kernel
theorem dX2_holdIf_15 : decode cX2_holdIf 15 = .ok (.putfield 59, 3) := by decide +kernel
theorem dX2_holdIf_18 : decode cX2_holdIf 18 = .ok (.return_, 1) := by decide +kernel
theorem dX3_init_0 : decode cX3_init 0 = .ok (.aload_n 0, 1) := by decide +kernel
theorem dX3_init_1 : decode cX3_init 1 = .ok (.invokespecial 1, 3) := by decide +kernel
theorem dX3_init_4 : decode cX3_init 4 = .ok (.aload_n 0, 1) := by decide +kernel
theorem dX3_init_5 : decode cX3_init 5 = .ok (.iconst 1, 1) := by decide +kernel
theorem dX3_init_6 : decode cX3_init 6 = .ok (.putfield 7, 3) := by decide +kernel
theorem dX3_init_9 : decode cX3_init 9 = .ok (.aload_n 0, 1) := by decide +kernel
theorem dX3_init_10 : decode cX3_init 10 = .ok (.new 13, 3) := by decide +kernel
theorem dX3_init_13 : decode cX3_init 13 = .ok (.dup, 1) := by decide +kernel
theorem dX3_init_14 : decode cX3_init 14 = .ok (.invokespecial 15, 3) := by decide +kernel
theorem dX3_init_17 : decode cX3_init 17 = .ok (.putfield 16, 3) := by decide +kernel
theorem dX3_init_20 : decode cX3_init 20 = .ok (.aload_n 0, 1) := by decide +kernel
theorem dX3_init_21 : decode cX3_init 21 = .ok (.iload_n 1, 1) := by decide +kernel
theorem dX3_init_22 : decode cX3_init 22 = .ok (.putfield 20, 3) := by decide +kernel
theorem dX3_init_25 : decode cX3_init 25 = .ok (.aload_n 0, 1) := by decide +kernel
theorem dX3_init_26 : decode cX3_init 26 = .ok (.iload_n 2, 1) := by decide +kernel
theorem dX3_init_27 : decode cX3_init 27 = .ok (.putfield 24, 3) := by decide +kernel
theorem dX3_init_30 : decode cX3_init 30 = .ok (.return_, 1) := by decide +kernel
theorem dX4_init_0 : decode cX4_init 0 = .ok (.aload_n 0, 1) := by decide +kernel
theorem dX4_init_1 : decode cX4_init 1 = .ok (.invokespecial 1, 3) := by decide +kernel
theorem dX4_init_4 : decode cX4_init 4 = .ok (.aload_n 0, 1) := by decide +kernel
theorem dX4_init_5 : decode cX4_init 5 = .ok (.new 7, 3) := by decide +kernel
theorem dX4_init_8 : decode cX4_init 8 = .ok (.dup, 1) := by decide +kernel
theorem dX4_init_9 : decode cX4_init 9 = .ok (.invokespecial 9, 3) := by decide +kernel
theorem dX4_init_12 : decode cX4_init 12 = .ok (.putfield 10, 3) := by decide +kernel
theorem dX4_init_15 : decode cX4_init 15 = .ok (.aload_n 0, 1) := by decide +kernel
theorem dX4_init_16 : decode cX4_init 16 = .ok (.new 7, 3) := by decide +kernel
theorem dX4_init_19 : decode cX4_init 19 = .ok (.dup, 1) := by decide +kernel
theorem dX4_init_20 : decode cX4_init 20 = .ok (.invokespecial 9, 3) := by decide +kernel
theorem dX4_init_23 : decode cX4_init 23 = .ok (.putfield 16, 3) := by decide +kernel
theorem dX4_init_26 : decode cX4_init 26 = .ok (.aload_n 0, 1) := by decide +kernel
theorem dX4_init_27 : decode cX4_init 27 = .ok (.bipush 16, 2) := by decide +kernel
theorem dX4_init_29 : decode cX4_init 29 = .ok (.anewarray 19, 3) := by decide +kernel
theorem dX4_init_32 : decode cX4_init 32 = .ok (.putfield 21, 3) := by decide +kernel
theorem dX4_init_35 : decode cX4_init 35 = .ok (.aload_n 0, 1) := by decide +kernel
theorem dX4_init_36 : decode cX4_init 36 = .ok (.iconst 4, 1) := by decide +kernel
theorem dX4_init_37 : decode cX4_init 37 = .ok (.anewarray 25, 3) := by decide +kernel
theorem dX4_init_40 : decode cX4_init 40 = .ok (.putfield 27, 3) := by decide +kernel
theorem dX4_init_43 : decode cX4_init 43 = .ok (.aload_n 0, 1) := by decide +kernel
theorem dX4_init_44 : decode cX4_init 44 = .ok (.new 7, 3) := by decide +kernel
theorem dX4_init_47 : decode cX4_init 47 = .ok (.dup, 1) := by decide +kernel
theorem dX4_init_48 : decode cX4_init 48 = .ok (.invokespecial 9, 3) := by decide +kernel
theorem dX4_init_51 : decode cX4_init 51 = .ok (.putfield 31, 3) := by decide +kernel
theorem dX4_init_54 : decode cX4_init 54 = .ok (.aload_n 0, 1) := by decide +kernel
theorem dX4_init_55 : decode cX4_init 55 = .ok (.new 7, 3) := by decide +kernel
theorem dX4_init_58 : decode cX4_init 58 = .ok (.dup, 1) := by decide +kernel
theorem dX4_init_59 : decode cX4_init 59 = .ok (.invokespecial 9, 3) := by decide +kernel
theorem dX4_init_62 : decode cX4_init 62 = .ok (.putfield 34, 3) := by decide +kernel
theorem dX4_init_65 : decode cX4_init 65 = .ok (.aload_n 0, 1) := by decide +kernel
theorem dX4_init_66 : decode cX4_init 66 = .ok (.iconst 4, 1) := by decide +kernel
theorem dX4_init_67 : decode cX4_init 67 = .ok (.iconst 5, 1) := by decide +kernel
theorem dX4_init_68 : decode cX4_init 68 = .ok (.multianewarray 37 2, 4) := by decide +kernel
theorem dX4_init_72 : decode cX4_init 72 = .ok (.putfield 39, 3) := by decide +kernel
theorem dX4_init_75 : decode cX4_init 75 = .ok (.iconst 0, 1) := by decide +kernel
theorem dX4_init_76 : decode cX4_init 76 = .ok (.istore_n 1, 1) := by decide +kernel
theorem dX4_init_77 : decode cX4_init 77 = .ok (.iload_n 1, 1) := by decide +kernel
theorem dX4_init_78 : decode cX4_init 78 = .ok (.iconst 4, 1) := by decide +kernel
theorem dX4_init_79 : decode cX4_init 79 = .ok (.if_icmp .ge 31, 3) := by decide +kernel
theorem dX4_init_82 : decode cX4_init 82 = .ok (.aload_n 0, 1) := by decide +kernel
theorem dX4_init_83 : decode cX4_init 83 = .ok (.getfield 27, 3) := by decide +kernel
theorem dX4_init_86 : decode cX4_init 86 = .ok (.iload_n 1, 1) := by decide +kernel
theorem dX4_init_87 : decode cX4_init 87 = .ok (.new 25, 3) := by decide +kernel
theorem dX4_init_90 : decode cX4_init 90 = .ok (.dup, 1) := by decide +kernel
theorem dX4_init_91 : decode cX4_init 91 = .ok (.bipush 8, 2) := by decide +kernel
theorem dX4_init_93 : decode cX4_init 93 = .ok (.iload_n 1, 1) := by decide +kernel
theorem dX4_init_94 : decode cX4_init 94 = .ok (.iconst 2, 1) := by decide +kernel
theorem dX4_init_95 : decode cX4_init 95 = .ok (.imul, 1) := by decide +kernel
theorem dX4_init_96 : decode cX4_init 96 = .ok (.iadd, 1) := by decide +kernel
theorem dX4_init_97 : decode cX4_init 97 = .ok (.iconst 2, 1) := by decide +kernel
theorem dX4_init_98 : decode cX4_init 98 = .ok (.iload_n 1, 1) := by decide +kernel
theorem dX4_init_99 : decode cX4_init 99 = .ok (.iadd, 1) := by decide +kernel
theorem dX4_init_100 : decode cX4_init 100 = .ok (.invokespecial 42, 3) := by decide +kernel
theorem dX4_init_103 : decode cX4_init 103 = .ok (.aastore, 1) := by decide +kernel
theorem dX4_init_104 : decode cX4_init 104 = .ok (.iinc 1 1, 3) := by decide +kernel
theorem dX4_init_107 : decode cX4_init 107 = .ok (.goto (-30), 3) := by decide +kernel
theorem dX4_init_110 : decode cX4_init 110 = .ok (.return_, 1) := by decide +kernel
theorem dX4_egg_0 : decode cX4_egg 0 = .ok (.iload_n 1, 1) := by decide +kernel
theorem dX4_egg_1 : decode cX4_egg 1 = .ok (.invokestatic 45, 3) := by decide +kernel
theorem dX4_egg_4 : decode cX4_egg 4 = .ok (.ifCond .eq 24, 3) := by decide +kernel
theorem dX4_egg_7 : decode cX4_egg 7 = .ok (.iload_n 2, 1) := by decide +kernel
theorem dX4_egg_8 : decode cX4_egg 8 = .ok (.bipush 30, 2) := by decide +kernel
theorem dX4_egg_10 : decode cX4_egg 10 = .ok (.bipush 90, 2) := by decide +kernel
theorem dX4_egg_12 : decode cX4_egg 12 = .ok (.invokestatic 49, 3) := by decide +kernel
theorem dX4_egg_15 : decode cX4_egg 15 = .ok (.ifCond .eq 13, 3) := by decide +kernel
theorem dX4_egg_18 : decode cX4_egg 18 = .ok (.iload_n 3, 1) := by decide +kernel
theorem dX4_egg_19 : decode cX4_egg 19 = .ok (.iconst 0, 1) := by decide +kernel
theorem dX4_egg_20 : decode cX4_egg 20 = .ok (.bipush 15, 2) := by decide +kernel
theorem dX4_egg_22 : decode cX4_egg 22 = .ok (.invokestatic 49, 3) := by decide +kernel
theorem dX4_egg_25 : decode cX4_egg 25 = .ok (.ifCond .ne 5, 3) := by decide +kernel
theorem dX4_egg_28 : decode cX4_egg 28 = .ok (.iconst (-1), 1) := by decide +kernel
theorem dX4_egg_29 : decode cX4_egg 29 = .ok (.ireturn, 1) := by decide +kernel
theorem dX4_egg_30 : decode cX4_egg 30 = .ok (.iload 4, 2) := by decide +kernel
theorem dX4_egg_32 : decode cX4_egg 32 = .ok (.iconst 0, 1) := by decide +kernel
theorem dX4_egg_33 : decode cX4_egg 33 = .ok (.bipush 9, 2) := by decide +kernel
theorem dX4_egg_35 : decode cX4_egg 35 = .ok (.invokestatic 49, 3) := by decide +kernel
theorem dX4_egg_38 : decode cX4_egg 38 = .ok (.ifCond .eq 13, 3) := by decide +kernel
theorem dX4_egg_41 : decode cX4_egg 41 = .ok (.iload 5, 2) := by decide +kernel
theorem dX4_egg_43 : decode cX4_egg 43 = .ok (.iconst 0, 1) := by decide +kernel
theorem dX4_egg_44 : decode cX4_egg 44 = .ok (.iconst 3, 1) := by decide +kernel
theorem dX4_egg_45 : decode cX4_egg 45 = .ok (.invokestatic 49, 3) := by decide +kernel
theorem dX4_egg_48 : decode cX4_egg 48 = .ok (.ifCond .ne 5, 3) := by decide +kernel
theorem dX4_egg_51 : decode cX4_egg 51 = .ok (.iconst (-1), 1) := by decide +kernel
theorem dX4_egg_52 : decode cX4_egg 52 = .ok (.ireturn, 1) := by decide +kernel
theorem dX4_egg_53 : decode cX4_egg 53 = .ok (.aload_n 0, 1) := by decide +kernel
theorem dX4_egg_54 : decode cX4_egg 54 = .ok (.getfield 10, 3) := by decide +kernel
theorem dX4_egg_57 : decode cX4_egg 57 = .ok (.invokevirtual 53, 3) := by decide +kernel
theorem dX4_egg_60 : decode cX4_egg 60 = .ok (.bipush 20, 2) := by decide +kernel
theorem dX4_egg_62 : decode cX4_egg 62 = .ok (.if_icmp .lt 6, 3) := by decide +kernel
theorem dX4_egg_65 : decode cX4_egg 65 = .ok (.bipush (-3), 2) := by decide +kernel
theorem dX4_egg_67 : decode cX4_egg 67 = .ok (.ireturn, 1) := by decide +kernel
theorem dX4_egg_68 : decode cX4_egg 68 = .ok (.aload_n 0, 1) := by decide +kernel
theorem dX4_egg_69 : decode cX4_egg 69 = .ok (.iconst 0, 1) := by decide +kernel
theorem dX4_egg_70 : decode cX4_egg 70 = .ok (.invokevirtual 57, 3) := by decide +kernel
theorem dX4_egg_73 : decode cX4_egg 73 = .ok (.istore 6, 2) := by decide +kernel
theorem dX4_egg_75 : decode cX4_egg 75 = .ok (.aload_n 0, 1) := by decide +kernel
theorem dX4_egg_76 : decode cX4_egg 76 = .ok (.getfield 10, 3) := by decide +kernel
theorem dX4_egg_79 : decode cX4_egg 79 = .ok (.new 19, 3) := by decide +kernel
theorem dX4_egg_82 : decode cX4_egg 82 = .ok (.dup, 1) := by decide +kernel
theorem dX4_egg_83 : decode cX4_egg 83 = .ok (.iload 6, 2) := by decide +kernel
theorem dX4_egg_85 : decode cX4_egg 85 = .ok (.iload_n 1, 1) := by decide +kernel
theorem dX4_egg_86 : decode cX4_egg 86 = .ok (.iload_n 2, 1) := by decide +kernel
theorem dX4_egg_87 : decode cX4_egg 87 = .ok (.iload_n 3, 1) := by decide +kernel
theorem dX4_egg_88 : decode cX4_egg 88 = .ok (.iload 4, 2) := by decide +kernel
theorem dX4_egg_90 : decode cX4_egg 90 = .ok (.iload 5, 2) := by decide +kernel
theorem dX4_egg_92 : decode cX4_egg 92 = .ok (.invokespecial 61, 3) := by decide +kernel
theorem dX4_egg_95 : decode cX4_egg 95 = .ok (.invokevirtual 64, 3) := by decide +kernel
theorem dX4_egg_98 : decode cX4_egg 98 = .ok (.pop, 1) := by decide +kernel
theorem dX4_egg_99 : decode cX4_egg 99 = .ok (.aload_n 0, 1) := by decide +kernel
theorem dX4_egg_100 : decode cX4_egg 100 = .ok (.getfield 39, 3) := by decide +kernel
theorem dX4_egg_103 : decode cX4_egg 103 = .ok (.iload_n 1, 1) := by decide +kernel
theorem dX4_egg_104 : decode cX4_egg 104 = .ok (.aaload, 1) := by decide +kernel
theorem dX4_egg_105 : decode cX4_egg 105 = .ok (.iconst 0, 1) := by decide +kernel
theorem dX4_egg_106 : decode cX4_egg 106 = .ok (.dup2, 1) := by decide +kernel
theorem dX4_egg_107 : decode cX4_egg 107 = .ok (.iaload, 1) := by decide +kernel
theorem dX4_egg_108 : decode cX4_egg 108 = .ok (.iconst 1, 1) := by decide +kernel
theorem dX4_egg_109 : decode cX4_egg 109 = .ok (.iadd, 1) := by decide +kernel
theorem dX4_egg_110 : decode cX4_egg 110 = .ok (.iastore, 1) := by decide +kernel
theorem dX4_egg_111 : decode cX4_egg 111 = .ok (.iload 6, 2) := by decide +kernel
theorem dX4_egg_113 : decode cX4_egg 113 = .ok (.ireturn, 1) := by decide +kernel
theorem dX4_tick_0 : decode cX4_tick 0 = .ok (.iload_n 1, 1) := by decide +kernel
theorem dX4_tick_1 : decode cX4_tick 1 = .ok (.iconst 1, 1) := by decide +kernel
theorem dX4_tick_2 : decode cX4_tick 2 = .ok (.bipush 40, 2) := by decide +kernel
theorem dX4_tick_4 : decode cX4_tick 4 = .ok (.invokestatic 49, 3) := by decide +kernel
theorem dX4_tick_7 : decode cX4_tick 7 = .ok (.ifCond .ne 5, 3) := by decide +kernel
theorem dX4_tick_10 : decode cX4_tick 10 = .ok (.iconst (-1), 1) := by decide +kernel
theorem dX4_tick_11 : decode cX4_tick 11 = .ok (.ireturn, 1) := by decide +kernel
theorem dX4_tick_12 : decode cX4_tick 12 = .ok (.iconst 0, 1) := by decide +kernel
theorem dX4_tick_13 : decode cX4_tick 13 = .ok (.istore_n 2, 1) := by decide +kernel
theorem dX4_tick_14 : decode cX4_tick 14 = .ok (.iload_n 2, 1) := by decide +kernel
theorem dX4_tick_15 : decode cX4_tick 15 = .ok (.iload_n 1, 1) := by decide +kernel
theorem dX4_tick_16 : decode cX4_tick 16 = .ok (.if_icmp .ge 13, 3) := by decide +kernel
theorem dX4_tick_19 : decode cX4_tick 19 = .ok (.aload_n 0, 1) := by decide +kernel
theorem dX4_tick_20 : decode cX4_tick 20 = .ok (.invokevirtual 68, 3) := by decide +kernel
theorem dX4_tick_23 : decode cX4_tick 23 = .ok (.iinc 2 1, 3) := by decide +kernel
theorem dX4_tick_26 : decode cX4_tick 26 = .ok (.goto (-12), 3) := by decide +kernel
theorem dX4_tick_29 : decode cX4_tick 29 = .ok (.aload_n 0, 1) := by decide +kernel
theorem dX4_tick_30 : decode cX4_tick 30 = .ok (.getfield 71, 3) := by decide +kernel
theorem dX4_tick_33 : decode cX4_tick 33 = .ok (.ireturn, 1) := by decide +kernel
theorem dX4_drift_0 : decode cX4_drift 0 = .ok (.iload_n 1, 1) := by decide +kernel
theorem dX4_drift_1 : decode cX4_drift 1 = .ok (.bipush (-9), 2) := by decide +kernel
theorem dX4_drift_3 : decode cX4_drift 3 = .ok (.bipush 9, 2) := by decide +kernel
theorem dX4_drift_5 : decode cX4_drift 5 = .ok (.invokestatic 49, 3) := by decide +kernel
theorem dX4_drift_8 : decode cX4_drift 8 = .ok (.ifCond .ne 7, 3) := by decide +kernel
theorem dX4_drift_11 : decode cX4_drift 11 = .ok (.sipush (-1000), 3) := by decide +kernel
theorem dX4_drift_14 : decode cX4_drift 14 = .ok (.ireturn, 1) := by decide +kernel
theorem dX4_drift_15 : decode cX4_drift 15 = .ok (.aload_n 0, 1) := by decide +kernel
theorem dX4_drift_16 : decode cX4_drift 16 = .ok (.getfield 75, 3) := by decide +kernel
theorem dX4_drift_19 : decode cX4_drift 19 = .ok (.istore_n 2, 1) := by decide +kernel
theorem dX4_drift_20 : decode cX4_drift 20 = .ok (.aload_n 0, 1) := by decide +kernel
theorem dX4_drift_21 : decode cX4_drift 21 = .ok (.iload_n 1, 1) := by decide +kernel
theorem dX4_drift_22 : decode cX4_drift 22 = .ok (.putfield 75, 3) := by decide +kernel
theorem dX4_drift_25 : decode cX4_drift 25 = .ok (.iload_n 2, 1) := by decide +kernel
theorem dX4_drift_26 : decode cX4_drift 26 = .ok (.ireturn, 1) := by decide +kernel
theorem dX4_grade_0 : decode cX4_grade 0 = .ok (.iload_n 1, 1) := by decide +kernel
theorem dX4_grade_1 : decode cX4_grade 1 = .ok (.invokestatic 78, 3) := by decide +kernel
theorem dX4_grade_4 : decode cX4_grade 4 = .ok (.ifCond .eq 10, 3) := by decide +kernel
theorem dX4_grade_7 : decode cX4_grade 7 = .ok (.iload_n 2, 1) := by decide +kernel
theorem dX4_grade_8 : decode cX4_grade 8 = .ok (.invokestatic 81, 3) := by decide +kernel
theorem dX4_grade_11 : decode cX4_grade 11 = .ok (.ifCond .ne 5, 3) := by decide +kernel
theorem dX4_grade_14 : decode cX4_grade 14 = .ok (.iconst (-1), 1) := by decide +kernel
theorem dX4_grade_15 : decode cX4_grade 15 = .ok (.ireturn, 1) := by decide +kernel
theorem dX4_grade_16 : decode cX4_grade 16 = .ok (.aload_n 0, 1) := by decide +kernel
theorem dX4_grade_17 : decode cX4_grade 17 = .ok (.getfield 27, 3) := by decide +kernel
theorem dX4_grade_20 : decode cX4_grade 20 = .ok (.iload_n 1, 1) := by decide +kernel
theorem dX4_grade_21 : decode cX4_grade 21 = .ok (.aaload, 1) := by decide +kernel
theorem dX4_grade_22 : decode cX4_grade 22 = .ok (.astore_n 3, 1) := by decide +kernel
theorem dX4_grade_23 : decode cX4_grade 23 = .ok (.aload_n 3, 1) := by decide +kernel
theorem dX4_grade_24 : decode cX4_grade 24 = .ok (.getfield 84, 3) := by decide +kernel
theorem dX4_grade_27 : decode cX4_grade 27 = .ok (.getfield 88, 3) := by decide +kernel
theorem dX4_grade_30 : decode cX4_grade 30 = .ok (.ifCond .le 6, 3) := by decide +kernel
theorem dX4_grade_33 : decode cX4_grade 33 = .ok (.bipush (-2), 2) := by decide +kernel
theorem dX4_grade_35 : decode cX4_grade 35 = .ok (.ireturn, 1) := by decide +kernel
theorem dX4_grade_36 : decode cX4_grade 36 = .ok (.aload_n 3, 1) := by decide +kernel
theorem dX4_grade_37 : decode cX4_grade 37 = .ok (.getfield 93, 3) := by decide +kernel
theorem dX4_grade_40 : decode cX4_grade 40 = .ok (.istore 4, 2) := by decide +kernel
theorem dX4_grade_42 : decode cX4_grade 42 = .ok (.aload_n 3, 1) := by decide +kernel
theorem dX4_grade_43 : decode cX4_grade 43 = .ok (.iload_n 2, 1) := by decide +kernel
theorem dX4_grade_44 : decode cX4_grade 44 = .ok (.putfield 93, 3) := by decide +kernel
theorem dX4_grade_47 : decode cX4_grade 47 = .ok (.iload 4, 2) := by decide +kernel
theorem dX4_grade_49 : decode cX4_grade 49 = .ok (.ireturn, 1) := by decide +kernel
theorem dX4_on_0 : decode cX4_on 0 = .ok (.iload_n 1, 1) := by decide +kernel
theorem dX4_on_1 : decode cX4_on 1 = .ok (.invokestatic 78, 3) := by decide +kernel
theorem dX4_on_4 : decode cX4_on 4 = .ok (.ifCond .ne 5, 3) := by decide +kernel
theorem dX4_on_7 : decode cX4_on 7 = .ok (.iconst (-1), 1) := by decide +kernel
theorem dX4_on_8 : decode cX4_on 8 = .ok (.ireturn, 1) := by decide +kernel
theorem dX4_on_9 : decode cX4_on 9 = .ok (.aload_n 0, 1) := by decide +kernel
theorem dX4_on_10 : decode cX4_on 10 = .ok (.getfield 27, 3) := by decide +kernel
theorem dX4_on_13 : decode cX4_on 13 = .ok (.iload_n 1, 1) := by decide +kernel
theorem dX4_on_14 : decode cX4_on 14 = .ok (.aaload, 1) := by decide +kernel
theorem dX4_on_15 : decode cX4_on 15 = .ok (.astore_n 3, 1) := by decide +kernel
theorem dX4_on_16 : decode cX4_on 16 = .ok (.aload_n 3, 1) := by decide +kernel
theorem dX4_on_17 : decode cX4_on 17 = .ok (.getfield 96, 3) := by decide +kernel
theorem dX4_on_20 : decode cX4_on 20 = .ok (.invokestatic 100, 3) := by decide +kernel
theorem dX4_on_23 : decode cX4_on 23 = .ok (.istore 4, 2) := by decide +kernel
theorem dX4_on_25 : decode cX4_on 25 = .ok (.aload_n 3, 1) := by decide +kernel
theorem dX4_on_26 : decode cX4_on 26 = .ok (.iload_n 2, 1) := by decide +kernel
theorem dX4_on_27 : decode cX4_on 27 = .ok (.putfield 96, 3) := by decide +kernel
theorem dX4_on_30 : decode cX4_on 30 = .ok (.iload 4, 2) := by decide +kernel
theorem dX4_on_32 : decode cX4_on 32 = .ok (.ireturn, 1) := by decide +kernel
theorem dX4_at_0 : decode cX4_at 0 = .ok (.iload_n 1, 1) := by decide +kernel
theorem dX4_at_1 : decode cX4_at 1 = .ok (.iconst 0, 1) := by decide +kernel
theorem dX4_at_2 : decode cX4_at 2 = .ok (.bipush 15, 2) := by decide +kernel
theorem dX4_at_4 : decode cX4_at 4 = .ok (.invokestatic 49, 3) := by decide +kernel
theorem dX4_at_7 : decode cX4_at 7 = .ok (.ifCond .eq 12, 3) := by decide +kernel
theorem dX4_at_10 : decode cX4_at 10 = .ok (.iload_n 2, 1) := by decide +kernel
theorem dX4_at_11 : decode cX4_at 11 = .ok (.iconst 0, 1) := by decide +kernel
theorem dX4_at_12 : decode cX4_at 12 = .ok (.iconst 4, 1) := by decide +kernel
theorem dX4_at_13 : decode cX4_at 13 = .ok (.invokestatic 49, 3) := by decide +kernel
theorem dX4_at_16 : decode cX4_at 16 = .ok (.ifCond .ne 5, 3) := by decide +kernel
theorem dX4_at_19 : decode cX4_at 19 = .ok (.iconst (-1), 1) := by decide +kernel
theorem dX4_at_20 : decode cX4_at 20 = .ok (.ireturn, 1) := by decide +kernel
theorem dX4_at_21 : decode cX4_at 21 = .ok (.aload_n 0, 1) := by decide +kernel
theorem dX4_at_22 : decode cX4_at 22 = .ok (.getfield 21, 3) := by decide +kernel
theorem dX4_at_25 : decode cX4_at 25 = .ok (.iload_n 1, 1) := by decide +kernel
theorem dX4_at_26 : decode cX4_at 26 = .ok (.aaload, 1) := by decide +kernel
theorem dX4_at_27 : decode cX4_at 27 = .ok (.astore_n 3, 1) := by decide +kernel
theorem dX4_at_28 : decode cX4_at 28 = .ok (.aload_n 3, 1) := by decide +kernel
theorem dX4_at_29 : decode cX4_at 29 = .ok (.ifnonnull 6, 3) := by decide +kernel
theorem dX4_at_32 : decode cX4_at 32 = .ok (.bipush (-9), 2) := by decide +kernel
theorem dX4_at_34 : decode cX4_at 34 = .ok (.ireturn, 1) := by decide +kernel
theorem dX4_at_35 : decode cX4_at 35 = .ok (.iload_n 1, 1) := by decide +kernel
theorem dX4_at_36 : decode cX4_at 36 = .ok (.iconst 2, 1) := by decide +kernel
theorem dX4_at_37 : decode cX4_at 37 = .ok (.if_icmp .lt 7, 3) := by decide +kernel
theorem dX4_at_40 : decode cX4_at 40 = .ok (.iconst 1, 1) := by decide +kernel
theorem dX4_at_41 : decode cX4_at 41 = .ok (.goto 4, 3) := by decide +kernel
theorem dX4_at_44 : decode cX4_at 44 = .ok (.iconst 0, 1) := by decide +kernel
theorem dX4_at_45 : decode cX4_at 45 = .ok (.istore 4, 2) := by decide +kernel
theorem dX4_at_47 : decode cX4_at 47 = .ok (.iload_n 2, 1) := by decide +kernel
theorem dX4_at_48 : decode cX4_at 48 = .ok (.tableswitch 61 0 3 #[32, 37, 42, 47], 32) := by decide +kernel
theorem dX4_at_80 : decode cX4_at 80 = .ok (.aload_n 3, 1) := by decide +kernel
theorem dX4_at_81 : decode cX4_at 81 = .ok (.getfield 104, 3) := by decide +kernel
theorem dX4_at_84 : decode cX4_at 84 = .ok (.ireturn, 1) := by decide +kernel
theorem dX4_at_85 : decode cX4_at 85 = .ok (.aload_n 3, 1) := by decide +kernel
theorem dX4_at_86 : decode cX4_at 86 = .ok (.getfield 107, 3) := by decide +kernel
theorem dX4_at_89 : decode cX4_at 89 = .ok (.ireturn, 1) := by decide +kernel
theorem dX4_at_90 : decode cX4_at 90 = .ok (.aload_n 3, 1) := by decide +kernel
theorem dX4_at_91 : decode cX4_at 91 = .ok (.getfield 110, 3) := by decide +kernel
theorem dX4_at_94 : decode cX4_at 94 = .ok (.ireturn, 1) := by decide +kernel
theorem dX4_at_95 : decode cX4_at 95 = .ok (.iload 4, 2) := by decide +kernel
theorem dX4_at_97 : decode cX4_at 97 = .ok (.ifCond .eq 10, 3) := by decide +kernel
theorem dX4_at_100 : decode cX4_at 100 = .ok (.aload_n 3, 1) := by decide +kernel
theorem dX4_at_101 : decode cX4_at 101 = .ok (.getfield 113, 3) := by decide +kernel
theorem dX4_at_104 : decode cX4_at 104 = .ok (.goto 4, 3) := by decide +kernel
theorem dX4_at_107 : decode cX4_at 107 = .ok (.iconst 0, 1) := by decide +kernel
theorem dX4_at_108 : decode cX4_at 108 = .ok (.ireturn, 1) := by decide +kernel
theorem dX4_at_109 : decode cX4_at 109 = .ok (.iload 4, 2) := by decide +kernel
theorem dX4_at_111 : decode cX4_at 111 = .ok (.ifCond .eq 13, 3) := by decide +kernel
theorem dX4_at_114 : decode cX4_at 114 = .ok (.aload_n 3, 1) := by decide +kernel
theorem dX4_at_115 : decode cX4_at 115 = .ok (.getfield 113, 3) := by decide +kernel
theorem dX4_at_118 : decode cX4_at 118 = .ok (.invokestatic 116, 3) := by decide +kernel
theorem dX4_at_121 : decode cX4_at 121 = .ok (.goto 5, 3) := by decide +kernel
theorem dX4_at_124 : decode cX4_at 124 = .ok (.bipush (-9), 2) := by decide +kernel
theorem dX4_at_126 : decode cX4_at 126 = .ok (.ireturn, 1) := by decide +kernel
theorem dX4_packer_0 : decode cX4_packer 0 = .ok (.iload_n 1, 1) := by decide +kernel
theorem dX4_packer_1 : decode cX4_packer 1 = .ok (.invokestatic 78, 3) := by decide +kernel
theorem dX4_packer_4 : decode cX4_packer 4 = .ok (.ifCond .ne 5, 3) := by decide +kernel
theorem dX4_packer_7 : decode cX4_packer 7 = .ok (.iconst (-1), 1) := by decide +kernel
theorem dX4_packer_8 : decode cX4_packer 8 = .ok (.ireturn, 1) := by decide +kernel
theorem dX4_packer_9 : decode cX4_packer 9 = .ok (.aload_n 0, 1) := by decide +kernel
theorem dX4_packer_10 : decode cX4_packer 10 = .ok (.getfield 27, 3) := by decide +kernel
theorem dX4_packer_13 : decode cX4_packer 13 = .ok (.iload_n 1, 1) := by decide +kernel
theorem dX4_packer_14 : decode cX4_packer 14 = .ok (.aaload, 1) := by decide +kernel
theorem dX4_packer_15 : decode cX4_packer 15 = .ok (.astore_n 3, 1) := by decide +kernel
theorem dX4_packer_16 : decode cX4_packer 16 = .ok (.iload_n 2, 1) := by decide +kernel
theorem dX4_packer_17 : decode cX4_packer 17 = .ok (.tableswitch 69 0 4 #[35, 40, 48, 56, 61], 35) := by decide +kernel
theorem dX4_packer_52 : decode cX4_packer 52 = .ok (.aload_n 3, 1) := by decide +kernel
theorem dX4_packer_53 : decode cX4_packer 53 = .ok (.getfield 93, 3) := by decide +kernel
theorem dX4_packer_56 : decode cX4_packer 56 = .ok (.ireturn, 1) := by decide +kernel
theorem dX4_packer_57 : decode cX4_packer 57 = .ok (.aload_n 3, 1) := by decide +kernel
theorem dX4_packer_58 : decode cX4_packer 58 = .ok (.getfield 96, 3) := by decide +kernel
theorem dX4_packer_61 : decode cX4_packer 61 = .ok (.invokestatic 100, 3) := by decide +kernel
theorem dX4_packer_64 : decode cX4_packer 64 = .ok (.ireturn, 1) := by decide +kernel
theorem dX4_packer_65 : decode cX4_packer 65 = .ok (.aload_n 3, 1) := by decide +kernel
theorem dX4_packer_66 : decode cX4_packer 66 = .ok (.getfield 84, 3) := by decide +kernel
theorem dX4_packer_69 : decode cX4_packer 69 = .ok (.getfield 88, 3) := by decide +kernel
theorem dX4_packer_72 : decode cX4_packer 72 = .ok (.ireturn, 1) := by decide +kernel
theorem dX4_packer_73 : decode cX4_packer 73 = .ok (.aload_n 3, 1) := by decide +kernel
theorem dX4_packer_74 : decode cX4_packer 74 = .ok (.getfield 119, 3) := by decide +kernel
theorem dX4_packer_77 : decode cX4_packer 77 = .ok (.ireturn, 1) := by decide +kernel
theorem dX4_packer_78 : decode cX4_packer 78 = .ok (.aload_n 3, 1) := by decide +kernel
theorem dX4_packer_79 : decode cX4_packer 79 = .ok (.getfield 84, 3) := by decide +kernel
theorem dX4_packer_82 : decode cX4_packer 82 = .ok (.getfield 122, 3) := by decide +kernel
theorem dX4_packer_85 : decode cX4_packer 85 = .ok (.ireturn, 1) := by decide +kernel
theorem dX4_packer_86 : decode cX4_packer 86 = .ok (.iconst (-1), 1) := by decide +kernel
theorem dX4_packer_87 : decode cX4_packer 87 = .ok (.ireturn, 1) := by decide +kernel
theorem dX4_count_0 : decode cX4_count 0 = .ok (.iload_n 1, 1) := by decide +kernel
theorem dX4_count_1 : decode cX4_count 1 = .ok (.tableswitch 121 0 9 #[55, 61, 69, 74, 82, 88, 94, 100, 105, 116], 55) := by decide +kernel
theorem dX4_count_56 : decode cX4_count 56 = .ok (.aload_n 0, 1) := by decide +kernel
theorem dX4_count_57 : decode cX4_count 57 = .ok (.iconst 0, 1) := by decide +kernel
theorem dX4_count_58 : decode cX4_count 58 = .ok (.invokevirtual 57, 3) := by decide +kernel
theorem dX4_count_61 : decode cX4_count 61 = .ok (.ireturn, 1) := by decide +kernel
theorem dX4_count_62 : decode cX4_count 62 = .ok (.aload_n 0, 1) := by decide +kernel
theorem dX4_count_63 : decode cX4_count 63 = .ok (.getfield 10, 3) := by decide +kernel
theorem dX4_count_66 : decode cX4_count 66 = .ok (.invokevirtual 53, 3) := by decide +kernel
theorem dX4_count_69 : decode cX4_count 69 = .ok (.ireturn, 1) := by decide +kernel
theorem dX4_count_70 : decode cX4_count 70 = .ok (.aload_n 0, 1) := by decide +kernel
theorem dX4_count_71 : decode cX4_count 71 = .ok (.invokevirtual 125, 3) := by decide +kernel
theorem dX4_count_74 : decode cX4_count 74 = .ok (.ireturn, 1) := by decide +kernel
theorem dX4_count_75 : decode cX4_count 75 = .ok (.aload_n 0, 1) := by decide +kernel
theorem dX4_count_76 : decode cX4_count 76 = .ok (.getfield 16, 3) := by decide +kernel
theorem dX4_count_79 : decode cX4_count 79 = .ok (.invokevirtual 53, 3) := by decide +kernel
theorem dX4_count_82 : decode cX4_count 82 = .ok (.ireturn, 1) := by decide +kernel
theorem dX4_count_83 : decode cX4_count 83 = .ok (.aload_n 0, 1) := by decide +kernel
theorem dX4_count_84 : decode cX4_count 84 = .ok (.iconst 1, 1) := by decide +kernel
theorem dX4_count_85 : decode cX4_count 85 = .ok (.invokevirtual 57, 3) := by decide +kernel
theorem dX4_count_88 : decode cX4_count 88 = .ok (.ireturn, 1) := by decide +kernel
theorem dX4_count_89 : decode cX4_count 89 = .ok (.aload_n 0, 1) := by decide +kernel
theorem dX4_count_90 : decode cX4_count 90 = .ok (.iconst 2, 1) := by decide +kernel
theorem dX4_count_91 : decode cX4_count 91 = .ok (.invokevirtual 57, 3) := by decide +kernel
theorem dX4_count_94 : decode cX4_count 94 = .ok (.ireturn, 1) := by decide +kernel
theorem dX4_count_95 : decode cX4_count 95 = .ok (.aload_n 0, 1) := by decide +kernel
theorem dX4_count_96 : decode cX4_count 96 = .ok (.iconst 3, 1) := by decide +kernel
theorem dX4_count_97 : decode cX4_count 97 = .ok (.invokevirtual 57, 3) := by decide +kernel
theorem dX4_count_100 : decode cX4_count 100 = .ok (.ireturn, 1) := by decide +kernel
theorem dX4_count_101 : decode cX4_count 101 = .ok (.aload_n 0, 1) := by decide +kernel
theorem dX4_count_102 : decode cX4_count 102 = .ok (.invokevirtual 128, 3) := by decide +kernel
theorem dX4_count_105 : decode cX4_count 105 = .ok (.ireturn, 1) := by decide +kernel
theorem dX4_count_106 : decode cX4_count 106 = .ok (.aload_n 0, 1) := by decide +kernel
theorem dX4_count_107 : decode cX4_count 107 = .ok (.getfield 31, 3) := by decide +kernel
theorem dX4_count_110 : decode cX4_count 110 = .ok (.invokevirtual 53, 3) := by decide +kernel
theorem dX4_count_113 : decode cX4_count 113 = .ok (.bipush 6, 2) := by decide +kernel
theorem dX4_count_115 : decode cX4_count 115 = .ok (.imul, 1) := by decide +kernel
theorem dX4_count_116 : decode cX4_count 116 = .ok (.ireturn, 1) := by decide +kernel
theorem dX4_count_117 : decode cX4_count 117 = .ok (.aload_n 0, 1) := by decide +kernel
theorem dX4_count_118 : decode cX4_count 118 = .ok (.getfield 131, 3) := by decide +kernel
theorem dX4_count_121 : decode cX4_count 121 = .ok (.ireturn, 1) := by decide +kernel
theorem dX4_count_122 : decode cX4_count 122 = .ok (.iconst (-1), 1) := by decide +kernel
theorem dX4_count_123 : decode cX4_count 123 = .ok (.ireturn, 1) := by decide +kernel
theorem dX4_barn_0 : decode cX4_barn 0 = .ok (.iload_n 1, 1) := by decide +kernel
theorem dX4_barn_1 : decode cX4_barn 1 = .ok (.invokestatic 45, 3) := by decide +kernel
theorem dX4_barn_4 : decode cX4_barn 4 = .ok (.ifCond .eq 12, 3) := by decide +kernel
theorem dX4_barn_7 : decode cX4_barn 7 = .ok (.iload_n 2, 1) := by decide +kernel
theorem dX4_barn_8 : decode cX4_barn 8 = .ok (.iconst 0, 1) := by decide +kernel
theorem dX4_barn_9 : decode cX4_barn 9 = .ok (.iconst 4, 1) := by decide +kernel
theorem dX4_barn_10 : decode cX4_barn 10 = .ok (.invokestatic 49, 3) := by decide +kernel
theorem dX4_barn_13 : decode cX4_barn 13 = .ok (.ifCond .ne 5, 3) := by decide +kernel
theorem dX4_barn_16 : decode cX4_barn 16 = .ok (.iconst (-1), 1) := by decide +kernel
theorem dX4_barn_17 : decode cX4_barn 17 = .ok (.ireturn, 1) := by decide +kernel
theorem dX4_barn_18 : decode cX4_barn 18 = .ok (.aload_n 0, 1) := by decide +kernel
theorem dX4_barn_19 : decode cX4_barn 19 = .ok (.getfield 39, 3) := by decide +kernel
theorem dX4_barn_22 : decode cX4_barn 22 = .ok (.iload_n 1, 1) := by decide +kernel
theorem dX4_barn_23 : decode cX4_barn 23 = .ok (.aaload, 1) := by decide +kernel
theorem dX4_barn_24 : decode cX4_barn 24 = .ok (.iload_n 2, 1) := by decide +kernel
theorem dX4_barn_25 : decode cX4_barn 25 = .ok (.iaload, 1) := by decide +kernel
theorem dX4_barn_26 : decode cX4_barn 26 = .ok (.ireturn, 1) := by decide +kernel
theorem dX4_pack_0 : decode cX4_pack 0 = .ok (.aload_n 0, 1) := by decide +kernel
theorem dX4_pack_1 : decode cX4_pack 1 = .ok (.iload_n 1, 1) := by decide +kernel
theorem dX4_pack_2 : decode cX4_pack 2 = .ok (.invokevirtual 134, 3) := by decide +kernel
theorem dX4_pack_5 : decode cX4_pack 5 = .ok (.ifCond .ne 5, 3) := by decide +kernel
theorem dX4_pack_8 : decode cX4_pack 8 = .ok (.iconst (-1), 1) := by decide +kernel
theorem dX4_pack_9 : decode cX4_pack 9 = .ok (.ireturn, 1) := by decide +kernel
theorem dX4_pack_10 : decode cX4_pack 10 = .ok (.aload_n 0, 1) := by decide +kernel
theorem dX4_pack_11 : decode cX4_pack 11 = .ok (.getfield 31, 3) := by decide +kernel
theorem dX4_pack_14 : decode cX4_pack 14 = .ok (.iload_n 1, 1) := by decide +kernel
theorem dX4_pack_15 : decode cX4_pack 15 = .ok (.invokevirtual 137, 3) := by decide +kernel
theorem dX4_pack_18 : decode cX4_pack 18 = .ok (.checkcast 89, 3) := by decide +kernel
theorem dX4_pack_21 : decode cX4_pack 21 = .ok (.astore_n 3, 1) := by decide +kernel
theorem dX4_pack_22 : decode cX4_pack 22 = .ok (.iload_n 2, 1) := by decide +kernel
theorem dX4_pack_23 : decode cX4_pack 23 = .ok (.tableswitch 88 0 7 #[45, 50, 55, 60, 65, 70, 78, 83], 45) := by decide +kernel
theorem dX4_pack_68 : decode cX4_pack 68 = .ok (.aload_n 3, 1) := by decide +kernel
theorem dX4_pack_69 : decode cX4_pack 69 = .ok (.getfield 141, 3) := by decide +kernel
theorem dX4_pack_72 : decode cX4_pack 72 = .ok (.ireturn, 1) := by decide +kernel
theorem dX4_pack_73 : decode cX4_pack 73 = .ok (.aload_n 3, 1) := by decide +kernel
theorem dX4_pack_74 : decode cX4_pack 74 = .ok (.getfield 122, 3) := by decide +kernel
theorem dX4_pack_77 : decode cX4_pack 77 = .ok (.ireturn, 1) := by decide +kernel
theorem dX4_pack_78 : decode cX4_pack 78 = .ok (.aload_n 3, 1) := by decide +kernel
theorem dX4_pack_79 : decode cX4_pack 79 = .ok (.getfield 142, 3) := by decide +kernel
theorem dX4_pack_82 : decode cX4_pack 82 = .ok (.ireturn, 1) := by decide +kernel
theorem dX4_pack_83 : decode cX4_pack 83 = .ok (.aload_n 3, 1) := by decide +kernel
theorem dX4_pack_84 : decode cX4_pack 84 = .ok (.getfield 145, 3) := by decide +kernel
theorem dX4_pack_87 : decode cX4_pack 87 = .ok (.ireturn, 1) := by decide +kernel
theorem dX4_pack_88 : decode cX4_pack 88 = .ok (.aload_n 3, 1) := by decide +kernel
theorem dX4_pack_89 : decode cX4_pack 89 = .ok (.getfield 148, 3) := by decide +kernel
theorem dX4_pack_92 : decode cX4_pack 92 = .ok (.ireturn, 1) := by decide +kernel
theorem dX4_pack_93 : decode cX4_pack 93 = .ok (.aload_n 3, 1) := by decide +kernel
theorem dX4_pack_94 : decode cX4_pack 94 = .ok (.getfield 151, 3) := by decide +kernel
theorem dX4_pack_97 : decode cX4_pack 97 = .ok (.invokestatic 100, 3) := by decide +kernel
theorem dX4_pack_100 : decode cX4_pack 100 = .ok (.ireturn, 1) := by decide +kernel
theorem dX4_pack_101 : decode cX4_pack 101 = .ok (.aload_n 3, 1) := by decide +kernel
theorem dX4_pack_102 : decode cX4_pack 102 = .ok (.getfield 154, 3) := by decide +kernel
theorem dX4_pack_105 : decode cX4_pack 105 = .ok (.ireturn, 1) := by decide +kernel
theorem dX4_pack_106 : decode cX4_pack 106 = .ok (.aload_n 3, 1) := by decide +kernel
theorem dX4_pack_107 : decode cX4_pack 107 = .ok (.getfield 157, 3) := by decide +kernel
theorem dX4_pack_110 : decode cX4_pack 110 = .ok (.ireturn, 1) := by decide +kernel
theorem dX4_pack_111 : decode cX4_pack 111 = .ok (.iconst (-1), 1) := by decide +kernel
theorem dX4_pack_112 : decode cX4_pack 112 = .ok (.ireturn, 1) := by decide +kernel
theorem dX4_free_0 : decode cX4_free 0 = .ok (.iload_n 1, 1) := by decide +kernel
theorem dX4_free_1 : decode cX4_free 1 = .ok (.invokestatic 81, 3) := by decide +kernel
theorem dX4_free_4 : decode cX4_free 4 = .ok (.ifCond .ne 5, 3) := by decide +kernel
theorem dX4_free_7 : decode cX4_free 7 = .ok (.iconst (-1), 1) := by decide +kernel
theorem dX4_free_8 : decode cX4_free 8 = .ok (.ireturn, 1) := by decide +kernel
theorem dX4_free_9 : decode cX4_free 9 = .ok (.iconst 0, 1) := by decide +kernel
theorem dX4_free_10 : decode cX4_free 10 = .ok (.istore_n 2, 1) := by decide +kernel
theorem dX4_free_11 : decode cX4_free 11 = .ok (.iconst 0, 1) := by decide +kernel
theorem dX4_free_12 : decode cX4_free 12 = .ok (.istore_n 3, 1) := by decide +kernel
theorem dX4_free_13 : decode cX4_free 13 = .ok (.iload_n 3, 1) := by decide +kernel
theorem dX4_free_14 : decode cX4_free 14 = .ok (.aload_n 0, 1) := by decide +kernel
theorem dX4_free_15 : decode cX4_free 15 = .ok (.getfield 31, 3) := by decide +kernel
theorem dX4_free_18 : decode cX4_free 18 = .ok (.invokevirtual 53, 3) := by decide +kernel
theorem dX4_free_21 : decode cX4_free 21 = .ok (.if_icmp .ge 30, 3) := by decide +kernel
theorem dX4_free_24 : decode cX4_free 24 = .ok (.aload_n 0, 1) := by decide +kernel
theorem dX4_free_25 : decode cX4_free 25 = .ok (.getfield 31, 3) := by decide +kernel
theorem dX4_free_28 : decode cX4_free 28 = .ok (.iload_n 3, 1) := by decide +kernel
theorem dX4_free_29 : decode cX4_free 29 = .ok (.invokevirtual 137, 3) := by decide +kernel
theorem dX4_free_32 : decode cX4_free 32 = .ok (.checkcast 89, 3) := by decide +kernel
theorem dX4_free_35 : decode cX4_free 35 = .ok (.iload_n 1, 1) := by decide +kernel
theorem dX4_free_36 : decode cX4_free 36 = .ok (.invokevirtual 160, 3) := by decide +kernel
theorem dX4_free_39 : decode cX4_free 39 = .ok (.ifCond .eq 6, 3) := by decide +kernel
theorem dX4_free_42 : decode cX4_free 42 = .ok (.iinc 2 1, 3) := by decide +kernel
theorem dX4_free_45 : decode cX4_free 45 = .ok (.iinc 3 1, 3) := by decide +kernel
theorem dX4_free_48 : decode cX4_free 48 = .ok (.goto (-35), 3) := by decide +kernel
theorem dX4_free_51 : decode cX4_free 51 = .ok (.iload_n 2, 1) := by decide +kernel
theorem dX4_free_52 : decode cX4_free 52 = .ok (.ireturn, 1) := by decide +kernel
theorem dX4_order_0 : decode cX4_order 0 = .ok (.iload_n 1, 1) := by decide +kernel
theorem dX4_order_1 : decode cX4_order 1 = .ok (.invokestatic 81, 3) := by decide +kernel
theorem dX4_order_4 : decode cX4_order 4 = .ok (.ifCond .eq 24, 3) := by decide +kernel
theorem dX4_order_7 : decode cX4_order 7 = .ok (.iload_n 2, 1) := by decide +kernel
theorem dX4_order_8 : decode cX4_order 8 = .ok (.iconst 1, 1) := by decide +kernel
theorem dX4_order_9 : decode cX4_order 9 = .ok (.bipush 9, 2) := by decide +kernel
theorem dX4_order_11 : decode cX4_order 11 = .ok (.invokestatic 49, 3) := by decide +kernel
theorem dX4_order_14 : decode cX4_order 14 = .ok (.ifCond .eq 14, 3) := by decide +kernel
theorem dX4_order_17 : decode cX4_order 17 = .ok (.iload_n 3, 1) := by decide +kernel
theorem dX4_order_18 : decode cX4_order 18 = .ok (.iconst 1, 1) := by decide +kernel
theorem dX4_order_19 : decode cX4_order 19 = .ok (.sipush 1000, 3) := by decide +kernel
theorem dX4_order_22 : decode cX4_order 22 = .ok (.invokestatic 49, 3) := by decide +kernel
theorem dX4_order_25 : decode cX4_order 25 = .ok (.ifCond .ne 5, 3) := by decide +kernel
theorem dX4_order_28 : decode cX4_order 28 = .ok (.iconst (-1), 1) := by decide +kernel
theorem dX4_order_29 : decode cX4_order 29 = .ok (.ireturn, 1) := by decide +kernel
theorem dX4_order_30 : decode cX4_order 30 = .ok (.aload_n 0, 1) := by decide +kernel
theorem dX4_order_31 : decode cX4_order 31 = .ok (.getfield 34, 3) := by decide +kernel
theorem dX4_order_34 : decode cX4_order 34 = .ok (.invokevirtual 53, 3) := by decide +kernel
theorem dX4_order_37 : decode cX4_order 37 = .ok (.bipush 6, 2) := by decide +kernel
theorem dX4_order_39 : decode cX4_order 39 = .ok (.if_icmp .lt 6, 3) := by decide +kernel
theorem dX4_order_42 : decode cX4_order 42 = .ok (.bipush (-3), 2) := by decide +kernel
theorem dX4_order_44 : decode cX4_order 44 = .ok (.ireturn, 1) := by decide +kernel
theorem dX4_order_45 : decode cX4_order 45 = .ok (.aload_n 0, 1) := by decide +kernel
theorem dX4_order_46 : decode cX4_order 46 = .ok (.getfield 34, 3) := by decide +kernel
theorem dX4_order_49 : decode cX4_order 49 = .ok (.new 163, 3) := by decide +kernel
theorem dX4_order_52 : decode cX4_order 52 = .ok (.dup, 1) := by decide +kernel
theorem dX4_order_53 : decode cX4_order 53 = .ok (.iload_n 1, 1) := by decide +kernel
theorem dX4_order_54 : decode cX4_order 54 = .ok (.iload_n 2, 1) := by decide +kernel
theorem dX4_order_55 : decode cX4_order 55 = .ok (.iload_n 3, 1) := by decide +kernel
theorem dX4_order_56 : decode cX4_order 56 = .ok (.invokespecial 165, 3) := by decide +kernel
theorem dX4_order_59 : decode cX4_order 59 = .ok (.invokevirtual 64, 3) := by decide +kernel
theorem dX4_order_62 : decode cX4_order 62 = .ok (.pop, 1) := by decide +kernel
theorem dX4_order_63 : decode cX4_order 63 = .ok (.aload_n 0, 1) := by decide +kernel
theorem dX4_order_64 : decode cX4_order 64 = .ok (.getfield 34, 3) := by decide +kernel
theorem dX4_order_67 : decode cX4_order 67 = .ok (.invokevirtual 53, 3) := by decide +kernel
theorem dX4_order_70 : decode cX4_order 70 = .ok (.iconst 1, 1) := by decide +kernel
theorem dX4_order_71 : decode cX4_order 71 = .ok (.isub, 1) := by decide +kernel
theorem dX4_order_72 : decode cX4_order 72 = .ok (.ireturn, 1) := by decide +kernel
theorem dX4_best_0 : decode cX4_best 0 = .ok (.iload_n 1, 1) := by decide +kernel
theorem dX4_best_1 : decode cX4_best 1 = .ok (.lookupswitch 41 #[(0, 27), (1, 32)], 27) := by decide +kernel
theorem dX4_best_28 : decode cX4_best 28 = .ok (.aload_n 0, 1) := by decide +kernel
theorem dX4_best_29 : decode cX4_best 29 = .ok (.invokevirtual 168, 3) := by decide +kernel
theorem dX4_best_32 : decode cX4_best 32 = .ok (.ireturn, 1) := by decide +kernel
theorem dX4_best_33 : decode cX4_best 33 = .ok (.aload_n 0, 1) := by decide +kernel
theorem dX4_best_34 : decode cX4_best 34 = .ok (.aload_n 0, 1) := by decide +kernel
theorem dX4_best_35 : decode cX4_best 35 = .ok (.invokevirtual 168, 3) := by decide +kernel
theorem dX4_best_38 : decode cX4_best 38 = .ok (.invokevirtual 171, 3) := by decide +kernel
theorem dX4_best_41 : decode cX4_best 41 = .ok (.ireturn, 1) := by decide +kernel
theorem dX4_best_42 : decode cX4_best 42 = .ok (.iconst (-1), 1) := by decide +kernel
theorem dX4_best_43 : decode cX4_best 43 = .ok (.ireturn, 1) := by decide +kernel
theorem dX4_serve_0 : decode cX4_serve 0 = .ok (.aload_n 0, 1) := by decide +kernel
theorem dX4_serve_1 : decode cX4_serve 1 = .ok (.invokevirtual 168, 3) := by decide +kernel
theorem dX4_serve_4 : decode cX4_serve 4 = .ok (.istore_n 1, 1) := by decide +kernel
theorem dX4_serve_5 : decode cX4_serve 5 = .ok (.iconst 0, 1) := by decide +kernel
theorem dX4_serve_6 : decode cX4_serve 6 = .ok (.istore_n 2, 1) := by decide +kernel
theorem dX4_serve_7 : decode cX4_serve 7 = .ok (.iconst 0, 1) := by decide +kernel
theorem dX4_serve_8 : decode cX4_serve 8 = .ok (.istore_n 3, 1) := by decide +kernel
theorem dX4_serve_9 : decode cX4_serve 9 = .ok (.iload_n 3, 1) := by decide +kernel
theorem dX4_serve_10 : decode cX4_serve 10 = .ok (.aload_n 0, 1) := by decide +kernel
theorem dX4_serve_11 : decode cX4_serve 11 = .ok (.getfield 34, 3) := by decide +kernel
theorem dX4_serve_14 : decode cX4_serve 14 = .ok (.invokevirtual 53, 3) := by decide +kernel
theorem dX4_serve_17 : decode cX4_serve 17 = .ok (.if_icmp .ge 25, 3) := by decide +kernel
theorem dX4_serve_20 : decode cX4_serve 20 = .ok (.iload_n 1, 1) := by decide +kernel
theorem dX4_serve_21 : decode cX4_serve 21 = .ok (.iload_n 3, 1) := by decide +kernel
theorem dX4_serve_22 : decode cX4_serve 22 = .ok (.invokestatic 174, 3) := by decide +kernel
theorem dX4_serve_25 : decode cX4_serve 25 = .ok (.ifCond .eq 11, 3) := by decide +kernel
theorem dX4_serve_28 : decode cX4_serve 28 = .ok (.iload_n 2, 1) := by decide +kernel
theorem dX4_serve_29 : decode cX4_serve 29 = .ok (.aload_n 0, 1) := by decide +kernel
theorem dX4_serve_30 : decode cX4_serve 30 = .ok (.iload_n 3, 1) := by decide +kernel
theorem dX4_serve_31 : decode cX4_serve 31 = .ok (.invokevirtual 178, 3) := by decide +kernel
theorem dX4_serve_34 : decode cX4_serve 34 = .ok (.iadd, 1) := by decide +kernel
theorem dX4_serve_35 : decode cX4_serve 35 = .ok (.istore_n 2, 1) := by decide +kernel
theorem dX4_serve_36 : decode cX4_serve 36 = .ok (.iinc 3 1, 3) := by decide +kernel
theorem dX4_serve_39 : decode cX4_serve 39 = .ok (.goto (-30), 3) := by decide +kernel
theorem dX4_serve_42 : decode cX4_serve 42 = .ok (.iload_n 2, 1) := by decide +kernel
theorem dX4_serve_43 : decode cX4_serve 43 = .ok (.ireturn, 1) := by decide +kernel
theorem dX4_about_0 : decode cX4_about 0 = .ok (.iload_n 1, 1) := by decide +kernel
theorem dX4_about_1 : decode cX4_about 1 = .ok (.iconst 0, 1) := by decide +kernel
theorem dX4_about_2 : decode cX4_about 2 = .ok (.aload_n 0, 1) := by decide +kernel
theorem dX4_about_3 : decode cX4_about 3 = .ok (.getfield 34, 3) := by decide +kernel
theorem dX4_about_6 : decode cX4_about 6 = .ok (.invokevirtual 53, 3) := by decide +kernel
theorem dX4_about_9 : decode cX4_about 9 = .ok (.iconst 1, 1) := by decide +kernel
theorem dX4_about_10 : decode cX4_about 10 = .ok (.isub, 1) := by decide +kernel
theorem dX4_about_11 : decode cX4_about 11 = .ok (.invokestatic 49, 3) := by decide +kernel
theorem dX4_about_14 : decode cX4_about 14 = .ok (.ifCond .ne 5, 3) := by decide +kernel
theorem dX4_about_17 : decode cX4_about 17 = .ok (.iconst (-1), 1) := by decide +kernel
theorem dX4_about_18 : decode cX4_about 18 = .ok (.ireturn, 1) := by decide +kernel
theorem dX4_about_19 : decode cX4_about 19 = .ok (.aload_n 0, 1) := by decide +kernel
theorem dX4_about_20 : decode cX4_about 20 = .ok (.getfield 34, 3) := by decide +kernel
theorem dX4_about_23 : decode cX4_about 23 = .ok (.iload_n 1, 1) := by decide +kernel
theorem dX4_about_24 : decode cX4_about 24 = .ok (.invokevirtual 137, 3) := by decide +kernel
theorem dX4_about_27 : decode cX4_about 27 = .ok (.checkcast 163, 3) := by decide +kernel
theorem dX4_about_30 : decode cX4_about 30 = .ok (.astore_n 3, 1) := by decide +kernel
theorem dX4_about_31 : decode cX4_about 31 = .ok (.iload_n 2, 1) := by decide +kernel
theorem dX4_about_32 : decode cX4_about 32 = .ok (.tableswitch 55 0 3 #[32, 37, 42, 47], 32) := by decide +kernel
theorem dX4_about_64 : decode cX4_about 64 = .ok (.aload_n 3, 1) := by decide +kernel
theorem dX4_about_65 : decode cX4_about 65 = .ok (.getfield 181, 3) := by decide +kernel
theorem dX4_about_68 : decode cX4_about 68 = .ok (.ireturn, 1) := by decide +kernel
theorem dX4_about_69 : decode cX4_about 69 = .ok (.aload_n 3, 1) := by decide +kernel
theorem dX4_about_70 : decode cX4_about 70 = .ok (.getfield 182, 3) := by decide +kernel
theorem dX4_about_73 : decode cX4_about 73 = .ok (.ireturn, 1) := by decide +kernel
theorem dX4_about_74 : decode cX4_about 74 = .ok (.aload_n 3, 1) := by decide +kernel
theorem dX4_about_75 : decode cX4_about 75 = .ok (.getfield 185, 3) := by decide +kernel
theorem dX4_about_78 : decode cX4_about 78 = .ok (.ireturn, 1) := by decide +kernel
theorem dX4_about_79 : decode cX4_about 79 = .ok (.aload_n 3, 1) := by decide +kernel
theorem dX4_about_80 : decode cX4_about 80 = .ok (.getfield 188, 3) := by decide +kernel
theorem dX4_about_83 : decode cX4_about 83 = .ok (.invokestatic 100, 3) := by decide +kernel
theorem dX4_about_86 : decode cX4_about 86 = .ok (.ireturn, 1) := by decide +kernel
theorem dX4_about_87 : decode cX4_about 87 = .ok (.iconst (-1), 1) := by decide +kernel
theorem dX4_about_88 : decode cX4_about 88 = .ok (.ireturn, 1) := by decide +kernel
theorem dX4_doubt_0 : decode cX4_doubt 0 = .ok (.iload_n 1, 1) := by decide +kernel
theorem dX4_doubt_1 : decode cX4_doubt 1 = .ok (.invokestatic 45, 3) := by decide +kernel
theorem dX4_doubt_4 : decode cX4_doubt 4 = .ok (.ifCond .ne 5, 3) := by decide +kernel
theorem dX4_doubt_7 : decode cX4_doubt 7 = .ok (.iconst (-1), 1) := by decide +kernel
theorem dX4_doubt_8 : decode cX4_doubt 8 = .ok (.ireturn, 1) := by decide +kernel
theorem dX4_doubt_9 : decode cX4_doubt 9 = .ok (.iconst 0, 1) := by decide +kernel
theorem dX4_doubt_10 : decode cX4_doubt 10 = .ok (.istore_n 3, 1) := by decide +kernel
theorem dX4_doubt_11 : decode cX4_doubt 11 = .ok (.iconst 0, 1) := by decide +kernel
theorem dX4_doubt_12 : decode cX4_doubt 12 = .ok (.istore 4, 2) := by decide +kernel
theorem dX4_doubt_14 : decode cX4_doubt 14 = .ok (.iload 4, 2) := by decide +kernel
theorem dX4_doubt_16 : decode cX4_doubt 16 = .ok (.aload_n 0, 1) := by decide +kernel
theorem dX4_doubt_17 : decode cX4_doubt 17 = .ok (.getfield 31, 3) := by decide +kernel
theorem dX4_doubt_20 : decode cX4_doubt 20 = .ok (.invokevirtual 53, 3) := by decide +kernel
theorem dX4_doubt_23 : decode cX4_doubt 23 = .ok (.if_icmp .ge 44, 3) := by decide +kernel
theorem dX4_doubt_26 : decode cX4_doubt 26 = .ok (.aload_n 0, 1) := by decide +kernel
theorem dX4_doubt_27 : decode cX4_doubt 27 = .ok (.getfield 31, 3) := by decide +kernel
theorem dX4_doubt_30 : decode cX4_doubt 30 = .ok (.iload 4, 2) := by decide +kernel
theorem dX4_doubt_32 : decode cX4_doubt 32 = .ok (.invokevirtual 137, 3) := by decide +kernel
theorem dX4_doubt_35 : decode cX4_doubt 35 = .ok (.checkcast 89, 3) := by decide +kernel
theorem dX4_doubt_38 : decode cX4_doubt 38 = .ok (.astore 5, 2) := by decide +kernel
theorem dX4_doubt_40 : decode cX4_doubt 40 = .ok (.aload 5, 2) := by decide +kernel
theorem dX4_doubt_42 : decode cX4_doubt 42 = .ok (.getfield 122, 3) := by decide +kernel
theorem dX4_doubt_45 : decode cX4_doubt 45 = .ok (.iload_n 1, 1) := by decide +kernel
theorem dX4_doubt_46 : decode cX4_doubt 46 = .ok (.invokestatic 174, 3) := by decide +kernel
theorem dX4_doubt_49 : decode cX4_doubt 49 = .ok (.ifCond .eq 12, 3) := by decide +kernel
theorem dX4_doubt_52 : decode cX4_doubt 52 = .ok (.iinc 3 1, 3) := by decide +kernel
theorem dX4_doubt_55 : decode cX4_doubt 55 = .ok (.aload 5, 2) := by decide +kernel
theorem dX4_doubt_57 : decode cX4_doubt 57 = .ok (.iload_n 2, 1) := by decide +kernel
theorem dX4_doubt_58 : decode cX4_doubt 58 = .ok (.invokevirtual 191, 3) := by decide +kernel
theorem dX4_doubt_61 : decode cX4_doubt 61 = .ok (.iinc 4 1, 3) := by decide +kernel
theorem dX4_doubt_64 : decode cX4_doubt 64 = .ok (.goto (-50), 3) := by decide +kernel
theorem dX4_doubt_67 : decode cX4_doubt 67 = .ok (.iload_n 3, 1) := by decide +kernel
theorem dX4_doubt_68 : decode cX4_doubt 68 = .ok (.ireturn, 1) := by decide +kernel
theorem dX4_hours_0 : decode cX4_hours 0 = .ok (.iload_n 1, 1) := by decide +kernel
theorem dX4_hours_1 : decode cX4_hours 1 = .ok (.ifCond .lt 8, 3) := by decide +kernel
theorem dX4_hours_4 : decode cX4_hours 4 = .ok (.iload_n 2, 1) := by decide +kernel
theorem dX4_hours_5 : decode cX4_hours 5 = .ok (.iload_n 1, 1) := by decide +kernel
theorem dX4_hours_6 : decode cX4_hours 6 = .ok (.if_icmp .ge 5, 3) := by decide +kernel
theorem dX4_hours_9 : decode cX4_hours 9 = .ok (.iconst (-1), 1) := by decide +kernel
theorem dX4_hours_10 : decode cX4_hours 10 = .ok (.ireturn, 1) := by decide +kernel
theorem dX4_hours_11 : decode cX4_hours 11 = .ok (.iconst 0, 1) := by decide +kernel
theorem dX4_hours_12 : decode cX4_hours 12 = .ok (.istore 4, 2) := by decide +kernel
theorem dX4_hours_14 : decode cX4_hours 14 = .ok (.iconst 0, 1) := by decide +kernel
theorem dX4_hours_15 : decode cX4_hours 15 = .ok (.istore 5, 2) := by decide +kernel
theorem dX4_hours_17 : decode cX4_hours 17 = .ok (.iload 5, 2) := by decide +kernel
theorem dX4_hours_19 : decode cX4_hours 19 = .ok (.aload_n 0, 1) := by decide +kernel
theorem dX4_hours_20 : decode cX4_hours 20 = .ok (.getfield 31, 3) := by decide +kernel
theorem dX4_hours_23 : decode cX4_hours 23 = .ok (.invokevirtual 53, 3) := by decide +kernel
theorem dX4_hours_26 : decode cX4_hours 26 = .ok (.if_icmp .ge 50, 3) := by decide +kernel
theorem dX4_hours_29 : decode cX4_hours 29 = .ok (.aload_n 0, 1) := by decide +kernel
theorem dX4_hours_30 : decode cX4_hours 30 = .ok (.getfield 31, 3) := by decide +kernel
theorem dX4_hours_33 : decode cX4_hours 33 = .ok (.iload 5, 2) := by decide +kernel
theorem dX4_hours_35 : decode cX4_hours 35 = .ok (.invokevirtual 137, 3) := by decide +kernel
theorem dX4_hours_38 : decode cX4_hours 38 = .ok (.checkcast 89, 3) := by decide +kernel
theorem dX4_hours_41 : decode cX4_hours 41 = .ok (.astore 6, 2) := by decide +kernel
theorem dX4_hours_43 : decode cX4_hours 43 = .ok (.aload 6, 2) := by decide +kernel
theorem dX4_hours_45 : decode cX4_hours 45 = .ok (.getfield 142, 3) := by decide +kernel
theorem dX4_hours_48 : decode cX4_hours 48 = .ok (.iload_n 2, 1) := by decide +kernel
theorem dX4_hours_49 : decode cX4_hours 49 = .ok (.if_icmp .gt 21, 3) := by decide +kernel
theorem dX4_hours_52 : decode cX4_hours 52 = .ok (.aload 6, 2) := by decide +kernel
theorem dX4_hours_54 : decode cX4_hours 54 = .ok (.getfield 145, 3) := by decide +kernel
theorem dX4_hours_57 : decode cX4_hours 57 = .ok (.iload_n 1, 1) := by decide +kernel
theorem dX4_hours_58 : decode cX4_hours 58 = .ok (.if_icmp .lt 12, 3) := by decide +kernel
theorem dX4_hours_61 : decode cX4_hours 61 = .ok (.iinc 4 1, 3) := by decide +kernel
theorem dX4_hours_64 : decode cX4_hours 64 = .ok (.aload 6, 2) := by decide +kernel
theorem dX4_hours_66 : decode cX4_hours 66 = .ok (.iload_n 3, 1) := by decide +kernel
theorem dX4_hours_67 : decode cX4_hours 67 = .ok (.invokevirtual 191, 3) := by decide +kernel
theorem dX4_hours_70 : decode cX4_hours 70 = .ok (.iinc 5 1, 3) := by decide +kernel
theorem dX4_hours_73 : decode cX4_hours 73 = .ok (.goto (-56), 3) := by decide +kernel
theorem dX4_hours_76 : decode cX4_hours 76 = .ok (.iload 4, 2) := by decide +kernel
theorem dX4_hours_78 : decode cX4_hours 78 = .ok (.ireturn, 1) := by decide +kernel
theorem dX4_clear_0 : decode cX4_clear 0 = .ok (.aload_n 0, 1) := by decide +kernel
theorem dX4_clear_1 : decode cX4_clear 1 = .ok (.iload_n 1, 1) := by decide +kernel
theorem dX4_clear_2 : decode cX4_clear 2 = .ok (.invokevirtual 134, 3) := by decide +kernel
theorem dX4_clear_5 : decode cX4_clear 5 = .ok (.ifCond .ne 5, 3) := by decide +kernel
theorem dX4_clear_8 : decode cX4_clear 8 = .ok (.iconst (-1), 1) := by decide +kernel
theorem dX4_clear_9 : decode cX4_clear 9 = .ok (.ireturn, 1) := by decide +kernel
theorem dX4_clear_10 : decode cX4_clear 10 = .ok (.aload_n 0, 1) := by decide +kernel
theorem dX4_clear_11 : decode cX4_clear 11 = .ok (.getfield 31, 3) := by decide +kernel
theorem dX4_clear_14 : decode cX4_clear 14 = .ok (.iload_n 1, 1) := by decide +kernel
theorem dX4_clear_15 : decode cX4_clear 15 = .ok (.invokevirtual 137, 3) := by decide +kernel
theorem dX4_clear_18 : decode cX4_clear 18 = .ok (.checkcast 89, 3) := by decide +kernel
theorem dX4_clear_21 : decode cX4_clear 21 = .ok (.astore_n 2, 1) := by decide +kernel
theorem dX4_clear_22 : decode cX4_clear 22 = .ok (.aload_n 2, 1) := by decide +kernel
theorem dX4_clear_23 : decode cX4_clear 23 = .ok (.getfield 151, 3) := by decide +kernel
theorem dX4_clear_26 : decode cX4_clear 26 = .ok (.ifCond .ne 6, 3) := by decide +kernel
theorem dX4_clear_29 : decode cX4_clear 29 = .ok (.bipush (-2), 2) := by decide +kernel
theorem dX4_clear_31 : decode cX4_clear 31 = .ok (.ireturn, 1) := by decide +kernel
theorem dX4_clear_32 : decode cX4_clear 32 = .ok (.aload_n 2, 1) := by decide +kernel
theorem dX4_clear_33 : decode cX4_clear 33 = .ok (.iconst 0, 1) := by decide +kernel
theorem dX4_clear_34 : decode cX4_clear 34 = .ok (.putfield 151, 3) := by decide +kernel
theorem dX4_clear_37 : decode cX4_clear 37 = .ok (.iconst 1, 1) := by decide +kernel
theorem dX4_clear_38 : decode cX4_clear 38 = .ok (.ireturn, 1) := by decide +kernel
theorem dX4_told_0 : decode cX4_told 0 = .ok (.iload_n 1, 1) := by decide +kernel
theorem dX4_told_1 : decode cX4_told 1 = .ok (.tableswitch 75 0 5 #[39, 47, 55, 60, 65, 70], 39) := by decide +kernel
theorem dX4_told_40 : decode cX4_told 40 = .ok (.aload_n 0, 1) := by decide +kernel
theorem dX4_told_41 : decode cX4_told 41 = .ok (.getfield 31, 3) := by decide +kernel
theorem dX4_told_44 : decode cX4_told 44 = .ok (.invokevirtual 53, 3) := by decide +kernel
theorem dX4_told_47 : decode cX4_told 47 = .ok (.ireturn, 1) := by decide +kernel
theorem dX4_told_48 : decode cX4_told 48 = .ok (.aload_n 0, 1) := by decide +kernel
theorem dX4_told_49 : decode cX4_told 49 = .ok (.getfield 34, 3) := by decide +kernel
theorem dX4_told_52 : decode cX4_told 52 = .ok (.invokevirtual 53, 3) := by decide +kernel
theorem dX4_told_55 : decode cX4_told 55 = .ok (.ireturn, 1) := by decide +kernel
theorem dX4_told_56 : decode cX4_told 56 = .ok (.aload_n 0, 1) := by decide +kernel
theorem dX4_told_57 : decode cX4_told 57 = .ok (.invokevirtual 195, 3) := by decide +kernel
theorem dX4_told_60 : decode cX4_told 60 = .ok (.ireturn, 1) := by decide +kernel
theorem dX4_told_61 : decode cX4_told 61 = .ok (.aload_n 0, 1) := by decide +kernel
theorem dX4_told_62 : decode cX4_told 62 = .ok (.invokevirtual 198, 3) := by decide +kernel
theorem dX4_told_65 : decode cX4_told 65 = .ok (.ireturn, 1) := by decide +kernel
theorem dX4_told_66 : decode cX4_told 66 = .ok (.aload_n 0, 1) := by decide +kernel
theorem dX4_told_67 : decode cX4_told 67 = .ok (.getfield 71, 3) := by decide +kernel
theorem dX4_told_70 : decode cX4_told 70 = .ok (.ireturn, 1) := by decide +kernel
theorem dX4_told_71 : decode cX4_told 71 = .ok (.aload_n 0, 1) := by decide +kernel
theorem dX4_told_72 : decode cX4_told 72 = .ok (.getfield 75, 3) := by decide +kernel
theorem dX4_told_75 : decode cX4_told 75 = .ok (.ireturn, 1) := by decide +kernel
theorem dX4_told_76 : decode cX4_told 76 = .ok (.sipush (-1000), 3) := by decide +kernel
theorem dX4_told_79 : decode cX4_told 79 = .ok (.ireturn, 1) := by decide +kernel
theorem dX4_trace_0 : decode cX4_trace 0 = .ok (.aload_n 0, 1) := by decide +kernel
theorem dX4_trace_1 : decode cX4_trace 1 = .ok (.getfield 201, 3) := by decide +kernel
theorem dX4_trace_4 : decode cX4_trace 4 = .ok (.lreturn, 1) := by decide +kernel
theorem dX4_passOneTick_0 : decode cX4_passOneTick 0 = .ok (.aload_n 0, 1) := by decide +kernel
theorem dX4_passOneTick_1 : decode cX4_passOneTick 1 = .ok (.invokevirtual 205, 3) := by decide +kernel
theorem dX4_passOneTick_4 : decode cX4_passOneTick 4 = .ok (.aload_n 0, 1) := by decide +kernel
theorem dX4_passOneTick_5 : decode cX4_passOneTick 5 = .ok (.invokevirtual 208, 3) := by decide +kernel
theorem dX4_passOneTick_8 : decode cX4_passOneTick 8 = .ok (.aload_n 0, 1) := by decide +kernel
theorem dX4_passOneTick_9 : decode cX4_passOneTick 9 = .ok (.invokevirtual 211, 3) := by decide +kernel
theorem dX4_passOneTick_12 : decode cX4_passOneTick 12 = .ok (.iconst 0, 1) := by decide +kernel
theorem dX4_passOneTick_13 : decode cX4_passOneTick 13 = .ok (.istore_n 1, 1) := by decide +kernel
theorem dX4_passOneTick_14 : decode cX4_passOneTick 14 = .ok (.iload_n 1, 1) := by decide +kernel
theorem dX4_passOneTick_15 : decode cX4_passOneTick 15 = .ok (.iconst 4, 1) := by decide +kernel
theorem dX4_passOneTick_16 : decode cX4_passOneTick 16 = .ok (.if_icmp .ge 19, 3) := by decide +kernel
theorem dX4_passOneTick_19 : decode cX4_passOneTick 19 = .ok (.aload_n 0, 1) := by decide +kernel
theorem dX4_passOneTick_20 : decode cX4_passOneTick 20 = .ok (.aload_n 0, 1) := by decide +kernel
theorem dX4_passOneTick_21 : decode cX4_passOneTick 21 = .ok (.getfield 27, 3) := by decide +kernel
theorem dX4_passOneTick_24 : decode cX4_passOneTick 24 = .ok (.iload_n 1, 1) := by decide +kernel
theorem dX4_passOneTick_25 : decode cX4_passOneTick 25 = .ok (.aaload, 1) := by decide +kernel
theorem dX4_passOneTick_26 : decode cX4_passOneTick 26 = .ok (.invokevirtual 214, 3) := by decide +kernel
theorem dX4_passOneTick_29 : decode cX4_passOneTick 29 = .ok (.iinc 1 1, 3) := by decide +kernel
theorem dX4_passOneTick_32 : decode cX4_passOneTick 32 = .ok (.goto (-18), 3) := by decide +kernel
theorem dX4_passOneTick_35 : decode cX4_passOneTick 35 = .ok (.aload_n 0, 1) := by decide +kernel
theorem dX4_passOneTick_36 : decode cX4_passOneTick 36 = .ok (.invokevirtual 218, 3) := by decide +kernel
theorem dX4_passOneTick_39 : decode cX4_passOneTick 39 = .ok (.aload_n 0, 1) := by decide +kernel
theorem dX4_passOneTick_40 : decode cX4_passOneTick 40 = .ok (.invokevirtual 221, 3) := by decide +kernel
theorem dX4_passOneTick_43 : decode cX4_passOneTick 43 = .ok (.aload_n 0, 1) := by decide +kernel
theorem dX4_passOneTick_44 : decode cX4_passOneTick 44 = .ok (.dup, 1) := by decide +kernel
theorem dX4_passOneTick_45 : decode cX4_passOneTick 45 = .ok (.getfield 71, 3) := by decide +kernel
theorem dX4_passOneTick_48 : decode cX4_passOneTick 48 = .ok (.iconst 1, 1) := by decide +kernel
theorem dX4_passOneTick_49 : decode cX4_passOneTick 49 = .ok (.iadd, 1) := by decide +kernel
theorem dX4_passOneTick_50 : decode cX4_passOneTick 50 = .ok (.putfield 71, 3) := by decide +kernel
theorem dX4_passOneTick_53 : decode cX4_passOneTick 53 = .ok (.return_, 1) := by decide +kernel
theorem dX4_moveLine_0 : decode cX4_moveLine 0 = .ok (.aload_n 0, 1) := by decide +kernel
theorem dX4_moveLine_1 : decode cX4_moveLine 1 = .ok (.getfield 21, 3) := by decide +kernel
theorem dX4_moveLine_4 : decode cX4_moveLine 4 = .ok (.bipush 15, 2) := by decide +kernel
theorem dX4_moveLine_6 : decode cX4_moveLine 6 = .ok (.aaload, 1) := by decide +kernel
theorem dX4_moveLine_7 : decode cX4_moveLine 7 = .ok (.astore_n 1, 1) := by decide +kernel
theorem dX4_moveLine_8 : decode cX4_moveLine 8 = .ok (.aload_n 1, 1) := by decide +kernel
theorem dX4_moveLine_9 : decode cX4_moveLine 9 = .ok (.ifnull 18, 3) := by decide +kernel
theorem dX4_moveLine_12 : decode cX4_moveLine 12 = .ok (.aload_n 0, 1) := by decide +kernel
theorem dX4_moveLine_13 : decode cX4_moveLine 13 = .ok (.getfield 39, 3) := by decide +kernel
theorem dX4_moveLine_16 : decode cX4_moveLine 16 = .ok (.aload_n 1, 1) := by decide +kernel
theorem dX4_moveLine_17 : decode cX4_moveLine 17 = .ok (.getfield 107, 3) := by decide +kernel
theorem dX4_moveLine_20 : decode cX4_moveLine 20 = .ok (.aaload, 1) := by decide +kernel
theorem dX4_moveLine_21 : decode cX4_moveLine 21 = .ok (.iconst 3, 1) := by decide +kernel
theorem dX4_moveLine_22 : decode cX4_moveLine 22 = .ok (.dup2, 1) := by decide +kernel
theorem dX4_moveLine_23 : decode cX4_moveLine 23 = .ok (.iaload, 1) := by decide +kernel
theorem dX4_moveLine_24 : decode cX4_moveLine 24 = .ok (.iconst 1, 1) := by decide +kernel
theorem dX4_moveLine_25 : decode cX4_moveLine 25 = .ok (.iadd, 1) := by decide +kernel
theorem dX4_moveLine_26 : decode cX4_moveLine 26 = .ok (.iastore, 1) := by decide +kernel
theorem dX4_moveLine_27 : decode cX4_moveLine 27 = .ok (.bipush 15, 2) := by decide +kernel
theorem dX4_moveLine_29 : decode cX4_moveLine 29 = .ok (.istore_n 2, 1) := by decide +kernel
theorem dX4_moveLine_30 : decode cX4_moveLine 30 = .ok (.iload_n 2, 1) := by decide +kernel
theorem dX4_moveLine_31 : decode cX4_moveLine 31 = .ok (.ifCond .le 23, 3) := by decide +kernel
theorem dX4_moveLine_34 : decode cX4_moveLine 34 = .ok (.aload_n 0, 1) := by decide +kernel
theorem dX4_moveLine_35 : decode cX4_moveLine 35 = .ok (.getfield 21, 3) := by decide +kernel
theorem dX4_moveLine_38 : decode cX4_moveLine 38 = .ok (.iload_n 2, 1) := by decide +kernel
theorem dX4_moveLine_39 : decode cX4_moveLine 39 = .ok (.aload_n 0, 1) := by decide +kernel
theorem dX4_moveLine_40 : decode cX4_moveLine 40 = .ok (.getfield 21, 3) := by decide +kernel
theorem dX4_moveLine_43 : decode cX4_moveLine 43 = .ok (.iload_n 2, 1) := by decide +kernel
theorem dX4_moveLine_44 : decode cX4_moveLine 44 = .ok (.iconst 1, 1) := by decide +kernel
theorem dX4_moveLine_45 : decode cX4_moveLine 45 = .ok (.isub, 1) := by decide +kernel
theorem dX4_moveLine_46 : decode cX4_moveLine 46 = .ok (.aaload, 1) := by decide +kernel
theorem dX4_moveLine_47 : decode cX4_moveLine 47 = .ok (.aastore, 1) := by decide +kernel
theorem dX4_moveLine_48 : decode cX4_moveLine 48 = .ok (.iinc 2 (-1), 3) := by decide +kernel
theorem dX4_moveLine_51 : decode cX4_moveLine 51 = .ok (.goto (-21), 3) := by decide +kernel
theorem dX4_moveLine_54 : decode cX4_moveLine 54 = .ok (.aload_n 0, 1) := by decide +kernel
theorem dX4_moveLine_55 : decode cX4_moveLine 55 = .ok (.getfield 21, 3) := by decide +kernel
theorem dX4_moveLine_58 : decode cX4_moveLine 58 = .ok (.iconst 0, 1) := by decide +kernel
theorem dX4_moveLine_59 : decode cX4_moveLine 59 = .ok (.aconst_null, 1) := by decide +kernel
theorem dX4_moveLine_60 : decode cX4_moveLine 60 = .ok (.aastore, 1) := by decide +kernel
theorem dX4_moveLine_61 : decode cX4_moveLine 61 = .ok (.return_, 1) := by decide +kernel
theorem dX4_weigh_0 : decode cX4_weigh 0 = .ok (.aload_n 0, 1) := by decide +kernel
theorem dX4_weigh_1 : decode cX4_weigh 1 = .ok (.getfield 21, 3) := by decide +kernel
theorem dX4_weigh_4 : decode cX4_weigh 4 = .ok (.iconst 2, 1) := by decide +kernel
theorem dX4_weigh_5 : decode cX4_weigh 5 = .ok (.aaload, 1) := by decide +kernel
theorem dX4_weigh_6 : decode cX4_weigh 6 = .ok (.astore_n 1, 1) := by decide +kernel
theorem dX4_weigh_7 : decode cX4_weigh 7 = .ok (.aload_n 1, 1) := by decide +kernel
theorem dX4_weigh_8 : decode cX4_weigh 8 = .ok (.ifnull 24, 3) := by decide +kernel
theorem dX4_weigh_11 : decode cX4_weigh 11 = .ok (.aload_n 1, 1) := by decide +kernel
theorem dX4_weigh_12 : decode cX4_weigh 12 = .ok (.aload_n 1, 1) := by decide +kernel
theorem dX4_weigh_13 : decode cX4_weigh 13 = .ok (.getfield 110, 3) := by decide +kernel
theorem dX4_weigh_16 : decode cX4_weigh 16 = .ok (.aload_n 0, 1) := by decide +kernel
theorem dX4_weigh_17 : decode cX4_weigh 17 = .ok (.getfield 75, 3) := by decide +kernel
theorem dX4_weigh_20 : decode cX4_weigh 20 = .ok (.iadd, 1) := by decide +kernel
theorem dX4_weigh_21 : decode cX4_weigh 21 = .ok (.putfield 113, 3) := by decide +kernel
theorem dX4_weigh_24 : decode cX4_weigh 24 = .ok (.aload_n 1, 1) := by decide +kernel
theorem dX4_weigh_25 : decode cX4_weigh 25 = .ok (.aload_n 0, 1) := by decide +kernel
theorem dX4_weigh_26 : decode cX4_weigh 26 = .ok (.getfield 71, 3) := by decide +kernel
theorem dX4_weigh_29 : decode cX4_weigh 29 = .ok (.putfield 224, 3) := by decide +kernel
theorem dX4_weigh_32 : decode cX4_weigh 32 = .ok (.return_, 1) := by decide +kernel
theorem dX4_look_0 : decode cX4_look 0 = .ok (.aload_n 0, 1) := by decide +kernel
theorem dX4_look_1 : decode cX4_look 1 = .ok (.getfield 21, 3) := by decide +kernel
theorem dX4_look_4 : decode cX4_look 4 = .ok (.iconst 5, 1) := by decide +kernel
theorem dX4_look_5 : decode cX4_look 5 = .ok (.aaload, 1) := by decide +kernel
theorem dX4_look_6 : decode cX4_look 6 = .ok (.astore_n 1, 1) := by decide +kernel
theorem dX4_look_7 : decode cX4_look 7 = .ok (.aload_n 1, 1) := by decide +kernel
theorem dX4_look_8 : decode cX4_look 8 = .ok (.ifnonnull 4, 3) := by decide +kernel
theorem dX4_look_11 : decode cX4_look 11 = .ok (.return_, 1) := by decide +kernel
theorem dX4_look_12 : decode cX4_look 12 = .ok (.aload_n 0, 1) := by decide +kernel
theorem dX4_look_13 : decode cX4_look 13 = .ok (.aload_n 1, 1) := by decide +kernel
theorem dX4_look_14 : decode cX4_look 14 = .ok (.invokevirtual 227, 3) := by decide +kernel
theorem dX4_look_17 : decode cX4_look 17 = .ok (.istore_n 2, 1) := by decide +kernel
theorem dX4_look_18 : decode cX4_look 18 = .ok (.iload_n 2, 1) := by decide +kernel
theorem dX4_look_19 : decode cX4_look 19 = .ok (.ifCond .ne 4, 3) := by decide +kernel
theorem dX4_look_22 : decode cX4_look 22 = .ok (.return_, 1) := by decide +kernel
theorem dX4_look_23 : decode cX4_look 23 = .ok (.aload_n 0, 1) := by decide +kernel
theorem dX4_look_24 : decode cX4_look 24 = .ok (.getfield 21, 3) := by decide +kernel
theorem dX4_look_27 : decode cX4_look 27 = .ok (.iconst 5, 1) := by decide +kernel
theorem dX4_look_28 : decode cX4_look 28 = .ok (.aconst_null, 1) := by decide +kernel
theorem dX4_look_29 : decode cX4_look 29 = .ok (.aastore, 1) := by decide +kernel
theorem dX4_look_30 : decode cX4_look 30 = .ok (.iload_n 2, 1) := by decide +kernel
theorem dX4_look_31 : decode cX4_look 31 = .ok (.iconst 3, 1) := by decide +kernel
theorem dX4_look_32 : decode cX4_look 32 = .ok (.if_icmp .ne 21, 3) := by decide +kernel
theorem dX4_look_35 : decode cX4_look 35 = .ok (.aload_n 0, 1) := by decide +kernel
theorem dX4_look_36 : decode cX4_look 36 = .ok (.getfield 39, 3) := by decide +kernel
theorem dX4_look_39 : decode cX4_look 39 = .ok (.aload_n 1, 1) := by decide +kernel
theorem dX4_look_40 : decode cX4_look 40 = .ok (.getfield 107, 3) := by decide +kernel
theorem dX4_look_43 : decode cX4_look 43 = .ok (.aaload, 1) := by decide +kernel
theorem dX4_look_44 : decode cX4_look 44 = .ok (.iconst 2, 1) := by decide +kernel
theorem dX4_look_45 : decode cX4_look 45 = .ok (.dup2, 1) := by decide +kernel
theorem dX4_look_46 : decode cX4_look 46 = .ok (.iaload, 1) := by decide +kernel
theorem dX4_look_47 : decode cX4_look 47 = .ok (.iconst 1, 1) := by decide +kernel
theorem dX4_look_48 : decode cX4_look 48 = .ok (.iadd, 1) := by decide +kernel
theorem dX4_look_49 : decode cX4_look 49 = .ok (.iastore, 1) := by decide +kernel
theorem dX4_look_50 : decode cX4_look 50 = .ok (.goto 43, 3) := by decide +kernel
theorem dX4_look_53 : decode cX4_look 53 = .ok (.iload_n 2, 1) := by decide +kernel
theorem dX4_look_54 : decode cX4_look 54 = .ok (.iconst 1, 1) := by decide +kernel
theorem dX4_look_55 : decode cX4_look 55 = .ok (.if_icmp .ne 23, 3) := by decide +kernel
theorem dX4_look_58 : decode cX4_look 58 = .ok (.aload_n 0, 1) := by decide +kernel
theorem dX4_look_59 : decode cX4_look 59 = .ok (.getfield 16, 3) := by decide +kernel
theorem dX4_look_62 : decode cX4_look 62 = .ok (.invokevirtual 53, 3) := by decide +kernel
theorem dX4_look_65 : decode cX4_look 65 = .ok (.bipush 30, 2) := by decide +kernel
theorem dX4_look_67 : decode cX4_look 67 = .ok (.if_icmp .ge 11, 3) := by decide +kernel
theorem dX4_look_70 : decode cX4_look 70 = .ok (.aload_n 0, 1) := by decide +kernel
theorem dX4_look_71 : decode cX4_look 71 = .ok (.aload_n 1, 1) := by decide +kernel
theorem dX4_look_72 : decode cX4_look 72 = .ok (.invokevirtual 231, 3) := by decide +kernel
theorem dX4_look_75 : decode cX4_look 75 = .ok (.goto 18, 3) := by decide +kernel
theorem dX4_look_78 : decode cX4_look 78 = .ok (.aload_n 0, 1) := by decide +kernel
theorem dX4_look_79 : decode cX4_look 79 = .ok (.getfield 39, 3) := by decide +kernel
theorem dX4_look_82 : decode cX4_look 82 = .ok (.aload_n 1, 1) := by decide +kernel
theorem dX4_look_83 : decode cX4_look 83 = .ok (.getfield 107, 3) := by decide +kernel
theorem dX4_look_86 : decode cX4_look 86 = .ok (.aaload, 1) := by decide +kernel
theorem dX4_look_87 : decode cX4_look 87 = .ok (.iconst 1, 1) := by decide +kernel
theorem dX4_look_88 : decode cX4_look 88 = .ok (.dup2, 1) := by decide +kernel
theorem dX4_look_89 : decode cX4_look 89 = .ok (.iaload, 1) := by decide +kernel
theorem dX4_look_90 : decode cX4_look 90 = .ok (.iconst 1, 1) := by decide +kernel
theorem dX4_look_91 : decode cX4_look 91 = .ok (.iadd, 1) := by decide +kernel
theorem dX4_look_92 : decode cX4_look 92 = .ok (.iastore, 1) := by decide +kernel
theorem dX4_look_93 : decode cX4_look 93 = .ok (.return_, 1) := by decide +kernel
theorem dX4_askCracked_0 : decode cX4_askCracked 0 = .ok (.aload_n 0, 1) := by decide +kernel
theorem dX4_askCracked_1 : decode cX4_askCracked 1 = .ok (.dup, 1) := by decide +kernel
theorem dX4_askCracked_2 : decode cX4_askCracked 2 = .ok (.getfield 201, 3) := by decide +kernel
theorem dX4_askCracked_5 : decode cX4_askCracked 5 = .ok (.ldc2_w 235, 3) := by decide +kernel
theorem dX4_askCracked_8 : decode cX4_askCracked 8 = .ok (.ladd, 1) := by decide +kernel
theorem dX4_askCracked_9 : decode cX4_askCracked 9 = .ok (.putfield 201, 3) := by decide +kernel
theorem dX4_askCracked_12 : decode cX4_askCracked 12 = .ok (.aload_n 1, 1) := by decide +kernel
theorem dX4_askCracked_13 : decode cX4_askCracked 13 = .ok (.getfield 237, 3) := by decide +kernel
theorem dX4_askCracked_16 : decode cX4_askCracked 16 = .ok (.invokestatic 240, 3) := by decide +kernel
theorem dX4_askCracked_19 : decode cX4_askCracked 19 = .ok (.iconst 2, 1) := by decide +kernel
theorem dX4_askCracked_20 : decode cX4_askCracked 20 = .ok (.if_icmp .lt 7, 3) := by decide +kernel
theorem dX4_askCracked_23 : decode cX4_askCracked 23 = .ok (.iconst 3, 1) := by decide +kernel
theorem dX4_askCracked_24 : decode cX4_askCracked 24 = .ok (.goto 8, 3) := by decide +kernel
theorem dX4_askCracked_27 : decode cX4_askCracked 27 = .ok (.aload_n 0, 1) := by decide +kernel
theorem dX4_askCracked_28 : decode cX4_askCracked 28 = .ok (.aload_n 1, 1) := by decide +kernel
theorem dX4_askCracked_29 : decode cX4_askCracked 29 = .ok (.invokevirtual 245, 3) := by decide +kernel
theorem dX4_askCracked_32 : decode cX4_askCracked 32 = .ok (.ireturn, 1) := by decide +kernel
theorem dX4_askBloody_0 : decode cX4_askBloody 0 = .ok (.aload_n 0, 1) := by decide +kernel
theorem dX4_askBloody_1 : decode cX4_askBloody 1 = .ok (.dup, 1) := by decide +kernel
theorem dX4_askBloody_2 : decode cX4_askBloody 2 = .ok (.getfield 201, 3) := by decide +kernel
theorem dX4_askBloody_5 : decode cX4_askBloody 5 = .ok (.ldc2_w 248, 3) := by decide +kernel
theorem dX4_askBloody_8 : decode cX4_askBloody 8 = .ok (.ladd, 1) := by decide +kernel
theorem dX4_askBloody_9 : decode cX4_askBloody 9 = .ok (.putfield 201, 3) := by decide +kernel
theorem dX4_askBloody_12 : decode cX4_askBloody 12 = .ok (.aload_n 1, 1) := by decide +kernel
theorem dX4_askBloody_13 : decode cX4_askBloody 13 = .ok (.getfield 250, 3) := by decide +kernel
theorem dX4_askBloody_16 : decode cX4_askBloody 16 = .ok (.iconst 5, 1) := by decide +kernel
theorem dX4_askBloody_17 : decode cX4_askBloody 17 = .ok (.if_icmp .lt 7, 3) := by decide +kernel
theorem dX4_askBloody_20 : decode cX4_askBloody 20 = .ok (.iconst 2, 1) := by decide +kernel
theorem dX4_askBloody_21 : decode cX4_askBloody 21 = .ok (.goto 8, 3) := by decide +kernel
theorem dX4_askBloody_24 : decode cX4_askBloody 24 = .ok (.aload_n 0, 1) := by decide +kernel
theorem dX4_askBloody_25 : decode cX4_askBloody 25 = .ok (.aload_n 1, 1) := by decide +kernel
theorem dX4_askBloody_26 : decode cX4_askBloody 26 = .ok (.invokevirtual 253, 3) := by decide +kernel
theorem dX4_askBloody_29 : decode cX4_askBloody 29 = .ok (.ireturn, 1) := by decide +kernel
theorem dX4_askDirty_0 : decode cX4_askDirty 0 = .ok (.aload_n 0, 1) := by decide +kernel
theorem dX4_askDirty_1 : decode cX4_askDirty 1 = .ok (.dup, 1) := by decide +kernel
theorem dX4_askDirty_2 : decode cX4_askDirty 2 = .ok (.getfield 201, 3) := by decide +kernel
theorem dX4_askDirty_5 : decode cX4_askDirty 5 = .ok (.ldc2_w 256, 3) := by decide +kernel
theorem dX4_askDirty_8 : decode cX4_askDirty 8 = .ok (.ladd, 1) := by decide +kernel
theorem dX4_askDirty_9 : decode cX4_askDirty 9 = .ok (.putfield 201, 3) := by decide +kernel
theorem dX4_askDirty_12 : decode cX4_askDirty 12 = .ok (.aload_n 1, 1) := by decide +kernel
theorem dX4_askDirty_13 : decode cX4_askDirty 13 = .ok (.getfield 258, 3) := by decide +kernel
theorem dX4_askDirty_16 : decode cX4_askDirty 16 = .ok (.iconst 1, 1) := by decide +kernel
theorem dX4_askDirty_17 : decode cX4_askDirty 17 = .ok (.if_icmp .le 7, 3) := by decide +kernel
theorem dX4_askDirty_20 : decode cX4_askDirty 20 = .ok (.iconst 1, 1) := by decide +kernel
theorem dX4_askDirty_21 : decode cX4_askDirty 21 = .ok (.goto 7, 3) := by decide +kernel
theorem dX4_askDirty_24 : decode cX4_askDirty 24 = .ok (.aload_n 0, 1) := by decide +kernel
theorem dX4_askDirty_25 : decode cX4_askDirty 25 = .ok (.invokevirtual 261, 3) := by decide +kernel
theorem dX4_askDirty_28 : decode cX4_askDirty 28 = .ok (.ireturn, 1) := by decide +kernel
theorem dX4_askSound_0 : decode cX4_askSound 0 = .ok (.aload_n 0, 1) := by decide +kernel
theorem dX4_askSound_1 : decode cX4_askSound 1 = .ok (.dup, 1) := by decide +kernel
theorem dX4_askSound_2 : decode cX4_askSound 2 = .ok (.getfield 201, 3) := by decide +kernel
theorem dX4_askSound_5 : decode cX4_askSound 5 = .ok (.lconst 1, 1) := by decide +kernel
theorem dX4_askSound_6 : decode cX4_askSound 6 = .ok (.ladd, 1) := by decide +kernel
theorem dX4_askSound_7 : decode cX4_askSound 7 = .ok (.putfield 201, 3) := by decide +kernel
theorem dX4_askSound_10 : decode cX4_askSound 10 = .ok (.iconst 0, 1) := by decide +kernel
theorem dX4_askSound_11 : decode cX4_askSound 11 = .ok (.ireturn, 1) := by decide +kernel
theorem dX4_startWash_0 : decode cX4_startWash 0 = .ok (.aload_n 1, 1) := by decide +kernel
theorem dX4_startWash_1 : decode cX4_startWash 1 = .ok (.iconst 0, 1) := by decide +kernel
theorem dX4_startWash_2 : decode cX4_startWash 2 = .ok (.putfield 258, 3) := by decide +kernel
theorem dX4_startWash_5 : decode cX4_startWash 5 = .ok (.aload_n 1, 1) := by decide +kernel
theorem dX4_startWash_6 : decode cX4_startWash 6 = .ok (.aload_n 0, 1) := by decide +kernel
theorem dX4_startWash_7 : decode cX4_startWash 7 = .ok (.getfield 71, 3) := by decide +kernel
theorem dX4_startWash_10 : decode cX4_startWash 10 = .ok (.putfield 264, 3) := by decide +kernel
theorem dX4_startWash_13 : decode cX4_startWash 13 = .ok (.aload_n 0, 1) := by decide +kernel
theorem dX4_startWash_14 : decode cX4_startWash 14 = .ok (.getfield 16, 3) := by decide +kernel
theorem dX4_startWash_17 : decode cX4_startWash 17 = .ok (.aload_n 1, 1) := by decide +kernel
theorem dX4_startWash_18 : decode cX4_startWash 18 = .ok (.invokevirtual 64, 3) := by decide +kernel
theorem dX4_startWash_21 : decode cX4_startWash 21 = .ok (.pop, 1) := by decide +kernel
theorem dX4_startWash_22 : decode cX4_startWash 22 = .ok (.aload_n 0, 1) := by decide +kernel
theorem dX4_startWash_23 : decode cX4_startWash 23 = .ok (.dup, 1) := by decide +kernel
theorem dX4_startWash_24 : decode cX4_startWash 24 = .ok (.getfield 131, 3) := by decide +kernel
theorem dX4_startWash_27 : decode cX4_startWash 27 = .ok (.iconst 1, 1) := by decide +kernel
theorem dX4_startWash_28 : decode cX4_startWash 28 = .ok (.iadd, 1) := by decide +kernel
theorem dX4_startWash_29 : decode cX4_startWash 29 = .ok (.putfield 131, 3) := by decide +kernel
theorem dX4_startWash_32 : decode cX4_startWash 32 = .ok (.return_, 1) := by decide +kernel
theorem dX4_letTake_0 : decode cX4_letTake 0 = .ok (.aload_n 1, 1) := by decide +kernel
theorem dX4_letTake_1 : decode cX4_letTake 1 = .ok (.getfield 119, 3) := by decide +kernel
theorem dX4_letTake_4 : decode cX4_letTake 4 = .ok (.ifCond .le 14, 3) := by decide +kernel
theorem dX4_letTake_7 : decode cX4_letTake 7 = .ok (.aload_n 1, 1) := by decide +kernel
theorem dX4_letTake_8 : decode cX4_letTake 8 = .ok (.dup, 1) := by decide +kernel
theorem dX4_letTake_9 : decode cX4_letTake 9 = .ok (.getfield 119, 3) := by decide +kernel
theorem dX4_letTake_12 : decode cX4_letTake 12 = .ok (.iconst 1, 1) := by decide +kernel
theorem dX4_letTake_13 : decode cX4_letTake 13 = .ok (.isub, 1) := by decide +kernel
theorem dX4_letTake_14 : decode cX4_letTake 14 = .ok (.putfield 119, 3) := by decide +kernel
theorem dX4_letTake_17 : decode cX4_letTake 17 = .ok (.return_, 1) := by decide +kernel
theorem dX4_letTake_18 : decode cX4_letTake 18 = .ok (.aload_n 0, 1) := by decide +kernel
theorem dX4_letTake_19 : decode cX4_letTake 19 = .ok (.getfield 21, 3) := by decide +kernel
theorem dX4_letTake_22 : decode cX4_letTake 22 = .ok (.aload_n 1, 1) := by decide +kernel
theorem dX4_letTake_23 : decode cX4_letTake 23 = .ok (.getfield 267, 3) := by decide +kernel
theorem dX4_letTake_26 : decode cX4_letTake 26 = .ok (.aaload, 1) := by decide +kernel
theorem dX4_letTake_27 : decode cX4_letTake 27 = .ok (.astore_n 2, 1) := by decide +kernel
theorem dX4_letTake_28 : decode cX4_letTake 28 = .ok (.aload_n 2, 1) := by decide +kernel
theorem dX4_letTake_29 : decode cX4_letTake 29 = .ok (.ifnull 12, 3) := by decide +kernel
theorem dX4_letTake_32 : decode cX4_letTake 32 = .ok (.aload_n 0, 1) := by decide +kernel
theorem dX4_letTake_33 : decode cX4_letTake 33 = .ok (.aload_n 1, 1) := by decide +kernel
theorem dX4_letTake_34 : decode cX4_letTake 34 = .ok (.aload_n 2, 1) := by decide +kernel
theorem dX4_letTake_35 : decode cX4_letTake 35 = .ok (.invokevirtual 270, 3) := by decide +kernel
theorem dX4_letTake_38 : decode cX4_letTake 38 = .ok (.ifCond .ne 4, 3) := by decide +kernel
theorem dX4_letTake_41 : decode cX4_letTake 41 = .ok (.return_, 1) := by decide +kernel
theorem dX4_letTake_42 : decode cX4_letTake 42 = .ok (.aload_n 0, 1) := by decide +kernel
theorem dX4_letTake_43 : decode cX4_letTake 43 = .ok (.getfield 21, 3) := by decide +kernel
theorem dX4_letTake_46 : decode cX4_letTake 46 = .ok (.aload_n 1, 1) := by decide +kernel
theorem dX4_letTake_47 : decode cX4_letTake 47 = .ok (.getfield 267, 3) := by decide +kernel
theorem dX4_letTake_50 : decode cX4_letTake 50 = .ok (.aconst_null, 1) := by decide +kernel
theorem dX4_letTake_51 : decode cX4_letTake 51 = .ok (.aastore, 1) := by decide +kernel
theorem dX4_letTake_52 : decode cX4_letTake 52 = .ok (.aload_n 1, 1) := by decide +kernel
theorem dX4_letTake_53 : decode cX4_letTake 53 = .ok (.getfield 84, 3) := by decide +kernel
theorem dX4_letTake_56 : decode cX4_letTake 56 = .ok (.aload_n 2, 1) := by decide +kernel
theorem dX4_letTake_57 : decode cX4_letTake 57 = .ok (.invokevirtual 274, 3) := by decide +kernel
theorem dX4_letTake_60 : decode cX4_letTake 60 = .ok (.aload_n 1, 1) := by decide +kernel
theorem dX4_letTake_61 : decode cX4_letTake 61 = .ok (.iconst 2, 1) := by decide +kernel
theorem dX4_letTake_62 : decode cX4_letTake 62 = .ok (.putfield 119, 3) := by decide +kernel
theorem dX4_letTake_65 : decode cX4_letTake 65 = .ok (.aload_n 0, 1) := by decide +kernel
theorem dX4_letTake_66 : decode cX4_letTake 66 = .ok (.getfield 39, 3) := by decide +kernel
theorem dX4_letTake_69 : decode cX4_letTake 69 = .ok (.aload_n 2, 1) := by decide +kernel
theorem dX4_letTake_70 : decode cX4_letTake 70 = .ok (.getfield 107, 3) := by decide +kernel
theorem dX4_letTake_73 : decode cX4_letTake 73 = .ok (.aaload, 1) := by decide +kernel
theorem dX4_letTake_74 : decode cX4_letTake 74 = .ok (.iconst 4, 1) := by decide +kernel
theorem dX4_letTake_75 : decode cX4_letTake 75 = .ok (.dup2, 1) := by decide +kernel
theorem dX4_letTake_76 : decode cX4_letTake 76 = .ok (.iaload, 1) := by decide +kernel
theorem dX4_letTake_77 : decode cX4_letTake 77 = .ok (.iconst 1, 1) := by decide +kernel
theorem dX4_letTake_78 : decode cX4_letTake 78 = .ok (.iadd, 1) := by decide +kernel
theorem dX4_letTake_79 : decode cX4_letTake 79 = .ok (.iastore, 1) := by decide +kernel
theorem dX4_letTake_80 : decode cX4_letTake 80 = .ok (.aload_n 1, 1) := by decide +kernel
theorem dX4_letTake_81 : decode cX4_letTake 81 = .ok (.getfield 84, 3) := by decide +kernel
theorem dX4_letTake_84 : decode cX4_letTake 84 = .ok (.getfield 88, 3) := by decide +kernel
theorem dX4_letTake_87 : decode cX4_letTake 87 = .ok (.bipush 6, 2) := by decide +kernel
theorem dX4_letTake_89 : decode cX4_letTake 89 = .ok (.if_icmp .lt 8, 3) := by decide +kernel
theorem dX4_letTake_92 : decode cX4_letTake 92 = .ok (.aload_n 0, 1) := by decide +kernel
theorem dX4_letTake_93 : decode cX4_letTake 93 = .ok (.aload_n 1, 1) := by decide +kernel
theorem dX4_letTake_94 : decode cX4_letTake 94 = .ok (.invokevirtual 277, 3) := by decide +kernel
theorem dX4_letTake_97 : decode cX4_letTake 97 = .ok (.return_, 1) := by decide +kernel
theorem dX4_takes_0 : decode cX4_takes 0 = .ok (.aload_n 1, 1) := by decide +kernel
theorem dX4_takes_1 : decode cX4_takes 1 = .ok (.getfield 84, 3) := by decide +kernel
theorem dX4_takes_4 : decode cX4_takes 4 = .ok (.getfield 88, 3) := by decide +kernel
theorem dX4_takes_7 : decode cX4_takes 7 = .ok (.iconst 5, 1) := by decide +kernel
theorem dX4_takes_8 : decode cX4_takes 8 = .ok (.if_icmp .lt 15, 3) := by decide +kernel
theorem dX4_takes_11 : decode cX4_takes 11 = .ok (.aload_n 0, 1) := by decide +kernel
theorem dX4_takes_12 : decode cX4_takes 12 = .ok (.getfield 31, 3) := by decide +kernel
theorem dX4_takes_15 : decode cX4_takes 15 = .ok (.invokevirtual 53, 3) := by decide +kernel
theorem dX4_takes_18 : decode cX4_takes 18 = .ok (.bipush 60, 2) := by decide +kernel
theorem dX4_takes_20 : decode cX4_takes 20 = .ok (.if_icmp .ge 7, 3) := by decide +kernel
theorem dX4_takes_23 : decode cX4_takes 23 = .ok (.iconst 1, 1) := by decide +kernel
theorem dX4_takes_24 : decode cX4_takes 24 = .ok (.goto 4, 3) := by decide +kernel
theorem dX4_takes_27 : decode cX4_takes 27 = .ok (.iconst 0, 1) := by decide +kernel
theorem dX4_takes_28 : decode cX4_takes 28 = .ok (.istore_n 3, 1) := by decide +kernel
theorem dX4_takes_29 : decode cX4_takes 29 = .ok (.aload_n 1, 1) := by decide +kernel
theorem dX4_takes_30 : decode cX4_takes 30 = .ok (.getfield 96, 3) := by decide +kernel
theorem dX4_takes_33 : decode cX4_takes 33 = .ok (.ifCond .eq 25, 3) := by decide +kernel
theorem dX4_takes_36 : decode cX4_takes 36 = .ok (.iload_n 3, 1) := by decide +kernel
theorem dX4_takes_37 : decode cX4_takes 37 = .ok (.ifCond .eq 21, 3) := by decide +kernel
theorem dX4_takes_40 : decode cX4_takes 40 = .ok (.aload_n 2, 1) := by decide +kernel
theorem dX4_takes_41 : decode cX4_takes 41 = .ok (.getfield 113, 3) := by decide +kernel
theorem dX4_takes_44 : decode cX4_takes 44 = .ok (.invokestatic 116, 3) := by decide +kernel
theorem dX4_takes_47 : decode cX4_takes 47 = .ok (.aload_n 1, 1) := by decide +kernel
theorem dX4_takes_48 : decode cX4_takes 48 = .ok (.getfield 93, 3) := by decide +kernel
theorem dX4_takes_51 : decode cX4_takes 51 = .ok (.if_icmp .ne 7, 3) := by decide +kernel
theorem dX4_takes_54 : decode cX4_takes 54 = .ok (.iconst 1, 1) := by decide +kernel
theorem dX4_takes_55 : decode cX4_takes 55 = .ok (.goto 4, 3) := by decide +kernel
theorem dX4_takes_58 : decode cX4_takes 58 = .ok (.iconst 0, 1) := by decide +kernel
theorem dX4_takes_59 : decode cX4_takes 59 = .ok (.ireturn, 1) := by decide +kernel
theorem dX4_closeTray_0 : decode cX4_closeTray 0 = .ok (.aload_n 1, 1) := by decide +kernel
theorem dX4_closeTray_1 : decode cX4_closeTray 1 = .ok (.getfield 84, 3) := by decide +kernel
theorem dX4_closeTray_4 : decode cX4_closeTray 4 = .ok (.aload_n 1, 1) := by decide +kernel
theorem dX4_closeTray_5 : decode cX4_closeTray 5 = .ok (.getfield 93, 3) := by decide +kernel
theorem dX4_closeTray_8 : decode cX4_closeTray 8 = .ok (.putfield 141, 3) := by decide +kernel
theorem dX4_closeTray_11 : decode cX4_closeTray 11 = .ok (.aload_n 0, 1) := by decide +kernel
theorem dX4_closeTray_12 : decode cX4_closeTray 12 = .ok (.getfield 31, 3) := by decide +kernel
theorem dX4_closeTray_15 : decode cX4_closeTray 15 = .ok (.aload_n 1, 1) := by decide +kernel
theorem dX4_closeTray_16 : decode cX4_closeTray 16 = .ok (.getfield 84, 3) := by decide +kernel
theorem dX4_closeTray_19 : decode cX4_closeTray 19 = .ok (.invokevirtual 64, 3) := by decide +kernel
theorem dX4_closeTray_22 : decode cX4_closeTray 22 = .ok (.pop, 1) := by decide +kernel
theorem dX4_closeTray_23 : decode cX4_closeTray 23 = .ok (.aload_n 1, 1) := by decide +kernel
theorem dX4_closeTray_24 : decode cX4_closeTray 24 = .ok (.new 89, 3) := by decide +kernel
theorem dX4_closeTray_27 : decode cX4_closeTray 27 = .ok (.dup, 1) := by decide +kernel
theorem dX4_closeTray_28 : decode cX4_closeTray 28 = .ok (.invokespecial 280, 3) := by decide +kernel
theorem dX4_closeTray_31 : decode cX4_closeTray 31 = .ok (.putfield 84, 3) := by decide +kernel
theorem dX4_closeTray_34 : decode cX4_closeTray 34 = .ok (.return_, 1) := by decide +kernel
theorem dX4_bringWashed_0 : decode cX4_bringWashed 0 = .ok (.iconst 0, 1) := by decide +kernel
theorem dX4_bringWashed_1 : decode cX4_bringWashed 1 = .ok (.istore_n 1, 1) := by decide +kernel
theorem dX4_bringWashed_2 : decode cX4_bringWashed 2 = .ok (.iload_n 1, 1) := by decide +kernel
theorem dX4_bringWashed_3 : decode cX4_bringWashed 3 = .ok (.bipush 30, 2) := by decide +kernel
theorem dX4_bringWashed_5 : decode cX4_bringWashed 5 = .ok (.if_icmp .ge 76, 3) := by decide +kernel
theorem dX4_bringWashed_8 : decode cX4_bringWashed 8 = .ok (.aload_n 0, 1) := by decide +kernel
theorem dX4_bringWashed_9 : decode cX4_bringWashed 9 = .ok (.getfield 16, 3) := by decide +kernel
theorem dX4_bringWashed_12 : decode cX4_bringWashed 12 = .ok (.invokevirtual 281, 3) := by decide +kernel
theorem dX4_bringWashed_15 : decode cX4_bringWashed 15 = .ok (.ifCond .ne 15, 3) := by decide +kernel
theorem dX4_bringWashed_18 : decode cX4_bringWashed 18 = .ok (.aload_n 0, 1) := by decide +kernel
theorem dX4_bringWashed_19 : decode cX4_bringWashed 19 = .ok (.getfield 10, 3) := by decide +kernel
theorem dX4_bringWashed_22 : decode cX4_bringWashed 22 = .ok (.invokevirtual 53, 3) := by decide +kernel
theorem dX4_bringWashed_25 : decode cX4_bringWashed 25 = .ok (.bipush 20, 2) := by decide +kernel
theorem dX4_bringWashed_27 : decode cX4_bringWashed 27 = .ok (.if_icmp .lt 4, 3) := by decide +kernel
theorem dX4_bringWashed_30 : decode cX4_bringWashed 30 = .ok (.return_, 1) := by decide +kernel
theorem dX4_bringWashed_31 : decode cX4_bringWashed 31 = .ok (.aload_n 0, 1) := by decide +kernel
theorem dX4_bringWashed_32 : decode cX4_bringWashed 32 = .ok (.getfield 71, 3) := by decide +kernel
theorem dX4_bringWashed_35 : decode cX4_bringWashed 35 = .ok (.aload_n 0, 1) := by decide +kernel
theorem dX4_bringWashed_36 : decode cX4_bringWashed 36 = .ok (.getfield 16, 3) := by decide +kernel
theorem dX4_bringWashed_39 : decode cX4_bringWashed 39 = .ok (.iconst 0, 1) := by decide +kernel
theorem dX4_bringWashed_40 : decode cX4_bringWashed 40 = .ok (.invokevirtual 137, 3) := by decide +kernel
theorem dX4_bringWashed_43 : decode cX4_bringWashed 43 = .ok (.checkcast 19, 3) := by decide +kernel
theorem dX4_bringWashed_46 : decode cX4_bringWashed 46 = .ok (.getfield 264, 3) := by decide +kernel
theorem dX4_bringWashed_49 : decode cX4_bringWashed 49 = .ok (.isub, 1) := by decide +kernel
theorem dX4_bringWashed_50 : decode cX4_bringWashed 50 = .ok (.bipush 8, 2) := by decide +kernel
theorem dX4_bringWashed_52 : decode cX4_bringWashed 52 = .ok (.if_icmp .ge 4, 3) := by decide +kernel
theorem dX4_bringWashed_55 : decode cX4_bringWashed 55 = .ok (.return_, 1) := by decide +kernel
theorem dX4_bringWashed_56 : decode cX4_bringWashed 56 = .ok (.aload_n 0, 1) := by decide +kernel
theorem dX4_bringWashed_57 : decode cX4_bringWashed 57 = .ok (.getfield 10, 3) := by decide +kernel
theorem dX4_bringWashed_60 : decode cX4_bringWashed 60 = .ok (.aload_n 0, 1) := by decide +kernel
theorem dX4_bringWashed_61 : decode cX4_bringWashed 61 = .ok (.getfield 16, 3) := by decide +kernel
theorem dX4_bringWashed_64 : decode cX4_bringWashed 64 = .ok (.iconst 0, 1) := by decide +kernel
theorem dX4_bringWashed_65 : decode cX4_bringWashed 65 = .ok (.invokevirtual 285, 3) := by decide +kernel
theorem dX4_bringWashed_68 : decode cX4_bringWashed 68 = .ok (.checkcast 19, 3) := by decide +kernel
theorem dX4_bringWashed_71 : decode cX4_bringWashed 71 = .ok (.invokevirtual 64, 3) := by decide +kernel
theorem dX4_bringWashed_74 : decode cX4_bringWashed 74 = .ok (.pop, 1) := by decide +kernel
theorem dX4_bringWashed_75 : decode cX4_bringWashed 75 = .ok (.iinc 1 1, 3) := by decide +kernel
theorem dX4_bringWashed_78 : decode cX4_bringWashed 78 = .ok (.goto (-76), 3) := by decide +kernel
theorem dX4_bringWashed_81 : decode cX4_bringWashed 81 = .ok (.return_, 1) := by decide +kernel
theorem dX4_feedLine_0 : decode cX4_feedLine 0 = .ok (.aload_n 0, 1) := by decide +kernel
theorem dX4_feedLine_1 : decode cX4_feedLine 1 = .ok (.getfield 21, 3) := by decide +kernel
theorem dX4_feedLine_4 : decode cX4_feedLine 4 = .ok (.iconst 0, 1) := by decide +kernel
theorem dX4_feedLine_5 : decode cX4_feedLine 5 = .ok (.aaload, 1) := by decide +kernel
theorem dX4_feedLine_6 : decode cX4_feedLine 6 = .ok (.ifnonnull 30, 3) := by decide +kernel
theorem dX4_feedLine_9 : decode cX4_feedLine 9 = .ok (.aload_n 0, 1) := by decide +kernel
theorem dX4_feedLine_10 : decode cX4_feedLine 10 = .ok (.getfield 10, 3) := by decide +kernel
theorem dX4_feedLine_13 : decode cX4_feedLine 13 = .ok (.invokevirtual 281, 3) := by decide +kernel
theorem dX4_feedLine_16 : decode cX4_feedLine 16 = .ok (.ifCond .ne 20, 3) := by decide +kernel
theorem dX4_feedLine_19 : decode cX4_feedLine 19 = .ok (.aload_n 0, 1) := by decide +kernel
theorem dX4_feedLine_20 : decode cX4_feedLine 20 = .ok (.getfield 21, 3) := by decide +kernel
theorem dX4_feedLine_23 : decode cX4_feedLine 23 = .ok (.iconst 0, 1) := by decide +kernel
theorem dX4_feedLine_24 : decode cX4_feedLine 24 = .ok (.aload_n 0, 1) := by decide +kernel
theorem dX4_feedLine_25 : decode cX4_feedLine 25 = .ok (.getfield 10, 3) := by decide +kernel
theorem dX4_feedLine_28 : decode cX4_feedLine 28 = .ok (.iconst 0, 1) := by decide +kernel
theorem dX4_feedLine_29 : decode cX4_feedLine 29 = .ok (.invokevirtual 285, 3) := by decide +kernel
theorem dX4_feedLine_32 : decode cX4_feedLine 32 = .ok (.checkcast 19, 3) := by decide +kernel
theorem dX4_feedLine_35 : decode cX4_feedLine 35 = .ok (.aastore, 1) := by decide +kernel
theorem dX4_feedLine_36 : decode cX4_feedLine 36 = .ok (.return_, 1) := by decide +kernel
theorem dX4_bestSet_0 : decode cX4_bestSet 0 = .ok (.aload_n 0, 1) := by decide +kernel
theorem dX4_bestSet_1 : decode cX4_bestSet 1 = .ok (.invokevirtual 288, 3) := by decide +kernel
theorem dX4_bestSet_4 : decode cX4_bestSet 4 = .ok (.astore_n 1, 1) := by decide +kernel
theorem dX4_bestSet_5 : decode cX4_bestSet 5 = .ok (.iconst 0, 1) := by decide +kernel
theorem dX4_bestSet_6 : decode cX4_bestSet 6 = .ok (.istore_n 2, 1) := by decide +kernel
theorem dX4_bestSet_7 : decode cX4_bestSet 7 = .ok (.iconst 0, 1) := by decide +kernel
theorem dX4_bestSet_8 : decode cX4_bestSet 8 = .ok (.istore_n 3, 1) := by decide +kernel
theorem dX4_bestSet_9 : decode cX4_bestSet 9 = .ok (.iconst 1, 1) := by decide +kernel
theorem dX4_bestSet_10 : decode cX4_bestSet 10 = .ok (.aload_n 0, 1) := by decide +kernel
theorem dX4_bestSet_11 : decode cX4_bestSet 11 = .ok (.getfield 34, 3) := by decide +kernel
theorem dX4_bestSet_14 : decode cX4_bestSet 14 = .ok (.invokevirtual 53, 3) := by decide +kernel
theorem dX4_bestSet_17 : decode cX4_bestSet 17 = .ok (.ishl, 1) := by decide +kernel
theorem dX4_bestSet_18 : decode cX4_bestSet 18 = .ok (.istore 4, 2) := by decide +kernel
theorem dX4_bestSet_20 : decode cX4_bestSet 20 = .ok (.iconst 1, 1) := by decide +kernel
theorem dX4_bestSet_21 : decode cX4_bestSet 21 = .ok (.istore 5, 2) := by decide +kernel
theorem dX4_bestSet_23 : decode cX4_bestSet 23 = .ok (.iload 5, 2) := by decide +kernel
theorem dX4_bestSet_25 : decode cX4_bestSet 25 = .ok (.iload 4, 2) := by decide +kernel
theorem dX4_bestSet_27 : decode cX4_bestSet 27 = .ok (.if_icmp .ge 39, 3) := by decide +kernel
theorem dX4_bestSet_30 : decode cX4_bestSet 30 = .ok (.aload_n 0, 1) := by decide +kernel
theorem dX4_bestSet_31 : decode cX4_bestSet 31 = .ok (.iload 5, 2) := by decide +kernel
theorem dX4_bestSet_33 : decode cX4_bestSet 33 = .ok (.invokevirtual 171, 3) := by decide +kernel
theorem dX4_bestSet_36 : decode cX4_bestSet 36 = .ok (.istore 6, 2) := by decide +kernel
theorem dX4_bestSet_38 : decode cX4_bestSet 38 = .ok (.iload 6, 2) := by decide +kernel
theorem dX4_bestSet_40 : decode cX4_bestSet 40 = .ok (.iload_n 3, 1) := by decide +kernel
theorem dX4_bestSet_41 : decode cX4_bestSet 41 = .ok (.if_icmp .le 19, 3) := by decide +kernel
theorem dX4_bestSet_44 : decode cX4_bestSet 44 = .ok (.aload_n 0, 1) := by decide +kernel
theorem dX4_bestSet_45 : decode cX4_bestSet 45 = .ok (.iload 5, 2) := by decide +kernel
theorem dX4_bestSet_47 : decode cX4_bestSet 47 = .ok (.aload_n 1, 1) := by decide +kernel
theorem dX4_bestSet_48 : decode cX4_bestSet 48 = .ok (.invokevirtual 292, 3) := by decide +kernel
theorem dX4_bestSet_51 : decode cX4_bestSet 51 = .ok (.ifCond .eq 9, 3) := by decide +kernel
theorem dX4_bestSet_54 : decode cX4_bestSet 54 = .ok (.iload 5, 2) := by decide +kernel
theorem dX4_bestSet_56 : decode cX4_bestSet 56 = .ok (.istore_n 2, 1) := by decide +kernel
theorem dX4_bestSet_57 : decode cX4_bestSet 57 = .ok (.iload 6, 2) := by decide +kernel
theorem dX4_bestSet_59 : decode cX4_bestSet 59 = .ok (.istore_n 3, 1) := by decide +kernel
theorem dX4_bestSet_60 : decode cX4_bestSet 60 = .ok (.iinc 5 1, 3) := by decide +kernel
theorem dX4_bestSet_63 : decode cX4_bestSet 63 = .ok (.goto (-40), 3) := by decide +kernel
theorem dX4_bestSet_66 : decode cX4_bestSet 66 = .ok (.iload_n 2, 1) := by decide +kernel
theorem dX4_bestSet_67 : decode cX4_bestSet 67 = .ok (.ireturn, 1) := by decide +kernel
theorem dX4_freeByGrade_0 : decode cX4_freeByGrade 0 = .ok (.bipush 6, 2) := by decide +kernel
theorem dX4_freeByGrade_2 : decode cX4_freeByGrade 2 = .ok (.newarray .int, 2) := by decide +kernel
theorem dX4_freeByGrade_4 : decode cX4_freeByGrade 4 = .ok (.astore_n 1, 1) := by decide +kernel
theorem dX4_freeByGrade_5 : decode cX4_freeByGrade 5 = .ok (.iconst 0, 1) := by decide +kernel
theorem dX4_freeByGrade_6 : decode cX4_freeByGrade 6 = .ok (.istore_n 2, 1) := by decide +kernel
theorem dX4_freeByGrade_7 : decode cX4_freeByGrade 7 = .ok (.iload_n 2, 1) := by decide +kernel
theorem dX4_freeByGrade_8 : decode cX4_freeByGrade 8 = .ok (.bipush 6, 2) := by decide +kernel
theorem dX4_freeByGrade_10 : decode cX4_freeByGrade 10 = .ok (.if_icmp .ge 17, 3) := by decide +kernel
theorem dX4_freeByGrade_13 : decode cX4_freeByGrade 13 = .ok (.aload_n 1, 1) := by decide +kernel
theorem dX4_freeByGrade_14 : decode cX4_freeByGrade 14 = .ok (.iload_n 2, 1) := by decide +kernel
theorem dX4_freeByGrade_15 : decode cX4_freeByGrade 15 = .ok (.aload_n 0, 1) := by decide +kernel
theorem dX4_freeByGrade_16 : decode cX4_freeByGrade 16 = .ok (.iload_n 2, 1) := by decide +kernel
theorem dX4_freeByGrade_17 : decode cX4_freeByGrade 17 = .ok (.invokevirtual 296, 3) := by decide +kernel
theorem dX4_freeByGrade_20 : decode cX4_freeByGrade 20 = .ok (.iastore, 1) := by decide +kernel
theorem dX4_freeByGrade_21 : decode cX4_freeByGrade 21 = .ok (.iinc 2 1, 3) := by decide +kernel
theorem dX4_freeByGrade_24 : decode cX4_freeByGrade 24 = .ok (.goto (-17), 3) := by decide +kernel
theorem dX4_freeByGrade_27 : decode cX4_freeByGrade 27 = .ok (.aload_n 1, 1) := by decide +kernel
theorem dX4_freeByGrade_28 : decode cX4_freeByGrade 28 = .ok (.areturn, 1) := by decide +kernel
theorem dX4_worthOf_0 : decode cX4_worthOf 0 = .ok (.iconst 0, 1) := by decide +kernel
theorem dX4_worthOf_1 : decode cX4_worthOf 1 = .ok (.istore_n 2, 1) := by decide +kernel
theorem dX4_worthOf_2 : decode cX4_worthOf 2 = .ok (.iconst 0, 1) := by decide +kernel
theorem dX4_worthOf_3 : decode cX4_worthOf 3 = .ok (.istore_n 3, 1) := by decide +kernel
theorem dX4_worthOf_4 : decode cX4_worthOf 4 = .ok (.iload_n 3, 1) := by decide +kernel
theorem dX4_worthOf_5 : decode cX4_worthOf 5 = .ok (.aload_n 0, 1) := by decide +kernel
theorem dX4_worthOf_6 : decode cX4_worthOf 6 = .ok (.getfield 34, 3) := by decide +kernel
theorem dX4_worthOf_9 : decode cX4_worthOf 9 = .ok (.invokevirtual 53, 3) := by decide +kernel
theorem dX4_worthOf_12 : decode cX4_worthOf 12 = .ok (.if_icmp .ge 34, 3) := by decide +kernel
theorem dX4_worthOf_15 : decode cX4_worthOf 15 = .ok (.iload_n 1, 1) := by decide +kernel
theorem dX4_worthOf_16 : decode cX4_worthOf 16 = .ok (.iload_n 3, 1) := by decide +kernel
theorem dX4_worthOf_17 : decode cX4_worthOf 17 = .ok (.invokestatic 174, 3) := by decide +kernel
theorem dX4_worthOf_20 : decode cX4_worthOf 20 = .ok (.ifCond .eq 20, 3) := by decide +kernel
theorem dX4_worthOf_23 : decode cX4_worthOf 23 = .ok (.iload_n 2, 1) := by decide +kernel
theorem dX4_worthOf_24 : decode cX4_worthOf 24 = .ok (.aload_n 0, 1) := by decide +kernel
theorem dX4_worthOf_25 : decode cX4_worthOf 25 = .ok (.getfield 34, 3) := by decide +kernel
theorem dX4_worthOf_28 : decode cX4_worthOf 28 = .ok (.iload_n 3, 1) := by decide +kernel
theorem dX4_worthOf_29 : decode cX4_worthOf 29 = .ok (.invokevirtual 137, 3) := by decide +kernel
theorem dX4_worthOf_32 : decode cX4_worthOf 32 = .ok (.checkcast 163, 3) := by decide +kernel
theorem dX4_worthOf_35 : decode cX4_worthOf 35 = .ok (.getfield 185, 3) := by decide +kernel
theorem dX4_worthOf_38 : decode cX4_worthOf 38 = .ok (.iadd, 1) := by decide +kernel
theorem dX4_worthOf_39 : decode cX4_worthOf 39 = .ok (.istore_n 2, 1) := by decide +kernel
theorem dX4_worthOf_40 : decode cX4_worthOf 40 = .ok (.iinc 3 1, 3) := by decide +kernel
theorem dX4_worthOf_43 : decode cX4_worthOf 43 = .ok (.goto (-39), 3) := by decide +kernel
theorem dX4_worthOf_46 : decode cX4_worthOf 46 = .ok (.iload_n 2, 1) := by decide +kernel
theorem dX4_worthOf_47 : decode cX4_worthOf 47 = .ok (.ireturn, 1) := by decide +kernel
theorem dX4_canServe_0 : decode cX4_canServe 0 = .ok (.iconst 0, 1) := by decide +kernel
theorem dX4_canServe_1 : decode cX4_canServe 1 = .ok (.istore_n 3, 1) := by decide +kernel
theorem dX4_canServe_2 : decode cX4_canServe 2 = .ok (.iload_n 3, 1) := by decide +kernel
theorem dX4_canServe_3 : decode cX4_canServe 3 = .ok (.aload_n 0, 1) := by decide +kernel
theorem dX4_canServe_4 : decode cX4_canServe 4 = .ok (.getfield 34, 3) := by decide +kernel
theorem dX4_canServe_7 : decode cX4_canServe 7 = .ok (.invokevirtual 53, 3) := by decide +kernel
theorem dX4_canServe_10 : decode cX4_canServe 10 = .ok (.if_icmp .ge 36, 3) := by decide +kernel
theorem dX4_canServe_13 : decode cX4_canServe 13 = .ok (.iload_n 1, 1) := by decide +kernel
theorem dX4_canServe_14 : decode cX4_canServe 14 = .ok (.iload_n 3, 1) := by decide +kernel
theorem dX4_canServe_15 : decode cX4_canServe 15 = .ok (.invokestatic 174, 3) := by decide +kernel
theorem dX4_canServe_18 : decode cX4_canServe 18 = .ok (.ifCond .eq 22, 3) := by decide +kernel
theorem dX4_canServe_21 : decode cX4_canServe 21 = .ok (.aload_n 0, 1) := by decide +kernel
theorem dX4_canServe_22 : decode cX4_canServe 22 = .ok (.getfield 34, 3) := by decide +kernel
theorem dX4_canServe_25 : decode cX4_canServe 25 = .ok (.iload_n 3, 1) := by decide +kernel
theorem dX4_canServe_26 : decode cX4_canServe 26 = .ok (.invokevirtual 137, 3) := by decide +kernel
theorem dX4_canServe_29 : decode cX4_canServe 29 = .ok (.checkcast 163, 3) := by decide +kernel
theorem dX4_canServe_32 : decode cX4_canServe 32 = .ok (.getfield 188, 3) := by decide +kernel
theorem dX4_canServe_35 : decode cX4_canServe 35 = .ok (.ifCond .eq 5, 3) := by decide +kernel
theorem dX4_canServe_38 : decode cX4_canServe 38 = .ok (.iconst 0, 1) := by decide +kernel
theorem dX4_canServe_39 : decode cX4_canServe 39 = .ok (.ireturn, 1) := by decide +kernel
theorem dX4_canServe_40 : decode cX4_canServe 40 = .ok (.iinc 3 1, 3) := by decide +kernel
theorem dX4_canServe_43 : decode cX4_canServe 43 = .ok (.goto (-41), 3) := by decide +kernel
theorem dX4_canServe_46 : decode cX4_canServe 46 = .ok (.iconst 0, 1) := by decide +kernel
theorem dX4_canServe_47 : decode cX4_canServe 47 = .ok (.istore_n 3, 1) := by decide +kernel
theorem dX4_canServe_48 : decode cX4_canServe 48 = .ok (.iload_n 3, 1) := by decide +kernel
theorem dX4_canServe_49 : decode cX4_canServe 49 = .ok (.aload_n 2, 1) := by decide +kernel
theorem dX4_canServe_50 : decode cX4_canServe 50 = .ok (.arraylength, 1) := by decide +kernel
theorem dX4_canServe_51 : decode cX4_canServe 51 = .ok (.if_icmp .ge 23, 3) := by decide +kernel
theorem dX4_canServe_54 : decode cX4_canServe 54 = .ok (.aload_n 0, 1) := by decide +kernel
theorem dX4_canServe_55 : decode cX4_canServe 55 = .ok (.iload_n 1, 1) := by decide +kernel
theorem dX4_canServe_56 : decode cX4_canServe 56 = .ok (.iload_n 3, 1) := by decide +kernel
theorem dX4_canServe_57 : decode cX4_canServe 57 = .ok (.invokevirtual 299, 3) := by decide +kernel
theorem dX4_canServe_60 : decode cX4_canServe 60 = .ok (.aload_n 2, 1) := by decide +kernel
theorem dX4_canServe_61 : decode cX4_canServe 61 = .ok (.iload_n 3, 1) := by decide +kernel
theorem dX4_canServe_62 : decode cX4_canServe 62 = .ok (.iaload, 1) := by decide +kernel
theorem dX4_canServe_63 : decode cX4_canServe 63 = .ok (.if_icmp .le 5, 3) := by decide +kernel
theorem dX4_canServe_66 : decode cX4_canServe 66 = .ok (.iconst 0, 1) := by decide +kernel
theorem dX4_canServe_67 : decode cX4_canServe 67 = .ok (.ireturn, 1) := by decide +kernel
theorem dX4_canServe_68 : decode cX4_canServe 68 = .ok (.iinc 3 1, 3) := by decide +kernel
theorem dX4_canServe_71 : decode cX4_canServe 71 = .ok (.goto (-23), 3) := by decide +kernel
theorem dX4_canServe_74 : decode cX4_canServe 74 = .ok (.iconst 1, 1) := by decide +kernel
theorem dX4_canServe_75 : decode cX4_canServe 75 = .ok (.ireturn, 1) := by decide +kernel
theorem dX4_wantedOf_0 : decode cX4_wantedOf 0 = .ok (.iconst 0, 1) := by decide +kernel
theorem dX4_wantedOf_1 : decode cX4_wantedOf 1 = .ok (.istore_n 3, 1) := by decide +kernel
theorem dX4_wantedOf_2 : decode cX4_wantedOf 2 = .ok (.iconst 0, 1) := by decide +kernel
theorem dX4_wantedOf_3 : decode cX4_wantedOf 3 = .ok (.istore 4, 2) := by decide +kernel
theorem dX4_wantedOf_5 : decode cX4_wantedOf 5 = .ok (.iload 4, 2) := by decide +kernel
theorem dX4_wantedOf_7 : decode cX4_wantedOf 7 = .ok (.aload_n 0, 1) := by decide +kernel
theorem dX4_wantedOf_8 : decode cX4_wantedOf 8 = .ok (.getfield 34, 3) := by decide +kernel
theorem dX4_wantedOf_11 : decode cX4_wantedOf 11 = .ok (.invokevirtual 53, 3) := by decide +kernel
theorem dX4_wantedOf_14 : decode cX4_wantedOf 14 = .ok (.if_icmp .ge 49, 3) := by decide +kernel
theorem dX4_wantedOf_17 : decode cX4_wantedOf 17 = .ok (.aload_n 0, 1) := by decide +kernel
theorem dX4_wantedOf_18 : decode cX4_wantedOf 18 = .ok (.getfield 34, 3) := by decide +kernel
theorem dX4_wantedOf_21 : decode cX4_wantedOf 21 = .ok (.iload 4, 2) := by decide +kernel
theorem dX4_wantedOf_23 : decode cX4_wantedOf 23 = .ok (.invokevirtual 137, 3) := by decide +kernel
theorem dX4_wantedOf_26 : decode cX4_wantedOf 26 = .ok (.checkcast 163, 3) := by decide +kernel
theorem dX4_wantedOf_29 : decode cX4_wantedOf 29 = .ok (.astore 5, 2) := by decide +kernel
theorem dX4_wantedOf_31 : decode cX4_wantedOf 31 = .ok (.iload_n 1, 1) := by decide +kernel
theorem dX4_wantedOf_32 : decode cX4_wantedOf 32 = .ok (.iload 4, 2) := by decide +kernel
theorem dX4_wantedOf_34 : decode cX4_wantedOf 34 = .ok (.invokestatic 174, 3) := by decide +kernel
theorem dX4_wantedOf_37 : decode cX4_wantedOf 37 = .ok (.ifCond .eq 20, 3) := by decide +kernel
theorem dX4_wantedOf_40 : decode cX4_wantedOf 40 = .ok (.aload 5, 2) := by decide +kernel
theorem dX4_wantedOf_42 : decode cX4_wantedOf 42 = .ok (.getfield 181, 3) := by decide +kernel
theorem dX4_wantedOf_45 : decode cX4_wantedOf 45 = .ok (.iload_n 2, 1) := by decide +kernel
theorem dX4_wantedOf_46 : decode cX4_wantedOf 46 = .ok (.if_icmp .ne 11, 3) := by decide +kernel
theorem dX4_wantedOf_49 : decode cX4_wantedOf 49 = .ok (.iload_n 3, 1) := by decide +kernel
theorem dX4_wantedOf_50 : decode cX4_wantedOf 50 = .ok (.aload 5, 2) := by decide +kernel
theorem dX4_wantedOf_52 : decode cX4_wantedOf 52 = .ok (.getfield 182, 3) := by decide +kernel
theorem dX4_wantedOf_55 : decode cX4_wantedOf 55 = .ok (.iadd, 1) := by decide +kernel
theorem dX4_wantedOf_56 : decode cX4_wantedOf 56 = .ok (.istore_n 3, 1) := by decide +kernel
theorem dX4_wantedOf_57 : decode cX4_wantedOf 57 = .ok (.iinc 4 1, 3) := by decide +kernel
theorem dX4_wantedOf_60 : decode cX4_wantedOf 60 = .ok (.goto (-55), 3) := by decide +kernel
theorem dX4_wantedOf_63 : decode cX4_wantedOf 63 = .ok (.iload_n 3, 1) := by decide +kernel
theorem dX4_wantedOf_64 : decode cX4_wantedOf 64 = .ok (.ireturn, 1) := by decide +kernel
theorem dX4_sellTo_0 : decode cX4_sellTo 0 = .ok (.aload_n 0, 1) := by decide +kernel
theorem dX4_sellTo_1 : decode cX4_sellTo 1 = .ok (.getfield 34, 3) := by decide +kernel
theorem dX4_sellTo_4 : decode cX4_sellTo 4 = .ok (.iload_n 1, 1) := by decide +kernel
theorem dX4_sellTo_5 : decode cX4_sellTo 5 = .ok (.invokevirtual 137, 3) := by decide +kernel
theorem dX4_sellTo_8 : decode cX4_sellTo 8 = .ok (.checkcast 163, 3) := by decide +kernel
theorem dX4_sellTo_11 : decode cX4_sellTo 11 = .ok (.astore_n 2, 1) := by decide +kernel
theorem dX4_sellTo_12 : decode cX4_sellTo 12 = .ok (.iconst 0, 1) := by decide +kernel
theorem dX4_sellTo_13 : decode cX4_sellTo 13 = .ok (.istore_n 3, 1) := by decide +kernel
theorem dX4_sellTo_14 : decode cX4_sellTo 14 = .ok (.iconst 0, 1) := by decide +kernel
theorem dX4_sellTo_15 : decode cX4_sellTo 15 = .ok (.istore 4, 2) := by decide +kernel
theorem dX4_sellTo_17 : decode cX4_sellTo 17 = .ok (.iload 4, 2) := by decide +kernel
theorem dX4_sellTo_19 : decode cX4_sellTo 19 = .ok (.aload_n 0, 1) := by decide +kernel
theorem dX4_sellTo_20 : decode cX4_sellTo 20 = .ok (.getfield 31, 3) := by decide +kernel
theorem dX4_sellTo_23 : decode cX4_sellTo 23 = .ok (.invokevirtual 53, 3) := by decide +kernel
theorem dX4_sellTo_26 : decode cX4_sellTo 26 = .ok (.if_icmp .ge 52, 3) := by decide +kernel
theorem dX4_sellTo_29 : decode cX4_sellTo 29 = .ok (.iload_n 3, 1) := by decide +kernel
theorem dX4_sellTo_30 : decode cX4_sellTo 30 = .ok (.aload_n 2, 1) := by decide +kernel
theorem dX4_sellTo_31 : decode cX4_sellTo 31 = .ok (.getfield 182, 3) := by decide +kernel
theorem dX4_sellTo_34 : decode cX4_sellTo 34 = .ok (.if_icmp .ge 44, 3) := by decide +kernel
theorem dX4_sellTo_37 : decode cX4_sellTo 37 = .ok (.aload_n 0, 1) := by decide +kernel
theorem dX4_sellTo_38 : decode cX4_sellTo 38 = .ok (.getfield 31, 3) := by decide +kernel
theorem dX4_sellTo_41 : decode cX4_sellTo 41 = .ok (.iload 4, 2) := by decide +kernel
theorem dX4_sellTo_43 : decode cX4_sellTo 43 = .ok (.invokevirtual 137, 3) := by decide +kernel
theorem dX4_sellTo_46 : decode cX4_sellTo 46 = .ok (.checkcast 89, 3) := by decide +kernel
theorem dX4_sellTo_49 : decode cX4_sellTo 49 = .ok (.astore 5, 2) := by decide +kernel
theorem dX4_sellTo_51 : decode cX4_sellTo 51 = .ok (.aload 5, 2) := by decide +kernel
theorem dX4_sellTo_53 : decode cX4_sellTo 53 = .ok (.aload_n 2, 1) := by decide +kernel
theorem dX4_sellTo_54 : decode cX4_sellTo 54 = .ok (.getfield 181, 3) := by decide +kernel
theorem dX4_sellTo_57 : decode cX4_sellTo 57 = .ok (.invokevirtual 160, 3) := by decide +kernel
theorem dX4_sellTo_60 : decode cX4_sellTo 60 = .ok (.ifCond .eq 12, 3) := by decide +kernel
theorem dX4_sellTo_63 : decode cX4_sellTo 63 = .ok (.aload 5, 2) := by decide +kernel
theorem dX4_sellTo_65 : decode cX4_sellTo 65 = .ok (.iload_n 1, 1) := by decide +kernel
theorem dX4_sellTo_66 : decode cX4_sellTo 66 = .ok (.putfield 148, 3) := by decide +kernel
theorem dX4_sellTo_69 : decode cX4_sellTo 69 = .ok (.iinc 3 1, 3) := by decide +kernel
theorem dX4_sellTo_72 : decode cX4_sellTo 72 = .ok (.iinc 4 1, 3) := by decide +kernel
theorem dX4_sellTo_75 : decode cX4_sellTo 75 = .ok (.goto (-58), 3) := by decide +kernel
theorem dX4_sellTo_78 : decode cX4_sellTo 78 = .ok (.aload_n 2, 1) := by decide +kernel
theorem dX4_sellTo_79 : decode cX4_sellTo 79 = .ok (.iconst 1, 1) := by decide +kernel
theorem dX4_sellTo_80 : decode cX4_sellTo 80 = .ok (.putfield 188, 3) := by decide +kernel
theorem dX4_sellTo_83 : decode cX4_sellTo 83 = .ok (.iload_n 3, 1) := by decide +kernel
theorem dX4_sellTo_84 : decode cX4_sellTo 84 = .ok (.ireturn, 1) := by decide +kernel
theorem dX4_ofAllBarns_0 : decode cX4_ofAllBarns 0 = .ok (.iconst 0, 1) := by decide +kernel
theorem dX4_ofAllBarns_1 : decode cX4_ofAllBarns 1 = .ok (.istore_n 2, 1) := by decide +kernel
theorem dX4_ofAllBarns_2 : decode cX4_ofAllBarns 2 = .ok (.iconst 0, 1) := by decide +kernel
theorem dX4_ofAllBarns_3 : decode cX4_ofAllBarns 3 = .ok (.istore_n 3, 1) := by decide +kernel
theorem dX4_ofAllBarns_4 : decode cX4_ofAllBarns 4 = .ok (.iload_n 3, 1) := by decide +kernel
theorem dX4_ofAllBarns_5 : decode cX4_ofAllBarns 5 = .ok (.iconst 4, 1) := by decide +kernel
theorem dX4_ofAllBarns_6 : decode cX4_ofAllBarns 6 = .ok (.if_icmp .ge 20, 3) := by decide +kernel
theorem dX4_ofAllBarns_9 : decode cX4_ofAllBarns 9 = .ok (.iload_n 2, 1) := by decide +kernel
theorem dX4_ofAllBarns_10 : decode cX4_ofAllBarns 10 = .ok (.aload_n 0, 1) := by decide +kernel
theorem dX4_ofAllBarns_11 : decode cX4_ofAllBarns 11 = .ok (.getfield 39, 3) := by decide +kernel
theorem dX4_ofAllBarns_14 : decode cX4_ofAllBarns 14 = .ok (.iload_n 3, 1) := by decide +kernel
theorem dX4_ofAllBarns_15 : decode cX4_ofAllBarns 15 = .ok (.aaload, 1) := by decide +kernel
theorem dX4_ofAllBarns_16 : decode cX4_ofAllBarns 16 = .ok (.iload_n 1, 1) := by decide +kernel
theorem dX4_ofAllBarns_17 : decode cX4_ofAllBarns 17 = .ok (.iaload, 1) := by decide +kernel
theorem dX4_ofAllBarns_18 : decode cX4_ofAllBarns 18 = .ok (.iadd, 1) := by decide +kernel
theorem dX4_ofAllBarns_19 : decode cX4_ofAllBarns 19 = .ok (.istore_n 2, 1) := by decide +kernel
theorem dX4_ofAllBarns_20 : decode cX4_ofAllBarns 20 = .ok (.iinc 3 1, 3) := by decide +kernel
theorem dX4_ofAllBarns_23 : decode cX4_ofAllBarns 23 = .ok (.goto (-19), 3) := by decide +kernel
theorem dX4_ofAllBarns_26 : decode cX4_ofAllBarns 26 = .ok (.iload_n 2, 1) := by decide +kernel
theorem dX4_ofAllBarns_27 : decode cX4_ofAllBarns 27 = .ok (.ireturn, 1) := by decide +kernel
theorem dX4_eggsOnLine_0 : decode cX4_eggsOnLine 0 = .ok (.iconst 0, 1) := by decide +kernel
theorem dX4_eggsOnLine_1 : decode cX4_eggsOnLine 1 = .ok (.istore_n 1, 1) := by decide +kernel
theorem dX4_eggsOnLine_2 : decode cX4_eggsOnLine 2 = .ok (.iconst 0, 1) := by decide +kernel
theorem dX4_eggsOnLine_3 : decode cX4_eggsOnLine 3 = .ok (.istore_n 2, 1) := by decide +kernel
theorem dX4_eggsOnLine_4 : decode cX4_eggsOnLine 4 = .ok (.iload_n 2, 1) := by decide +kernel
theorem dX4_eggsOnLine_5 : decode cX4_eggsOnLine 5 = .ok (.bipush 16, 2) := by decide +kernel
theorem dX4_eggsOnLine_7 : decode cX4_eggsOnLine 7 = .ok (.if_icmp .ge 21, 3) := by decide +kernel
theorem dX4_eggsOnLine_10 : decode cX4_eggsOnLine 10 = .ok (.aload_n 0, 1) := by decide +kernel
theorem dX4_eggsOnLine_11 : decode cX4_eggsOnLine 11 = .ok (.getfield 21, 3) := by decide +kernel
theorem dX4_eggsOnLine_14 : decode cX4_eggsOnLine 14 = .ok (.iload_n 2, 1) := by decide +kernel
theorem dX4_eggsOnLine_15 : decode cX4_eggsOnLine 15 = .ok (.aaload, 1) := by decide +kernel
theorem dX4_eggsOnLine_16 : decode cX4_eggsOnLine 16 = .ok (.ifnull 6, 3) := by decide +kernel
theorem dX4_eggsOnLine_19 : decode cX4_eggsOnLine 19 = .ok (.iinc 1 1, 3) := by decide +kernel
theorem dX4_eggsOnLine_22 : decode cX4_eggsOnLine 22 = .ok (.iinc 2 1, 3) := by decide +kernel
theorem dX4_eggsOnLine_25 : decode cX4_eggsOnLine 25 = .ok (.goto (-21), 3) := by decide +kernel
theorem dX4_eggsOnLine_28 : decode cX4_eggsOnLine 28 = .ok (.iload_n 1, 1) := by decide +kernel
theorem dX4_eggsOnLine_29 : decode cX4_eggsOnLine 29 = .ok (.ireturn, 1) := by decide +kernel
theorem dX4_eggsInTrays_0 : decode cX4_eggsInTrays 0 = .ok (.iconst 0, 1) := by decide +kernel
theorem dX4_eggsInTrays_1 : decode cX4_eggsInTrays 1 = .ok (.istore_n 1, 1) := by decide +kernel
theorem dX4_eggsInTrays_2 : decode cX4_eggsInTrays 2 = .ok (.iconst 0, 1) := by decide +kernel
theorem dX4_eggsInTrays_3 : decode cX4_eggsInTrays 3 = .ok (.istore_n 2, 1) := by decide +kernel
theorem dX4_eggsInTrays_4 : decode cX4_eggsInTrays 4 = .ok (.iload_n 2, 1) := by decide +kernel
theorem dX4_eggsInTrays_5 : decode cX4_eggsInTrays 5 = .ok (.iconst 4, 1) := by decide +kernel
theorem dX4_eggsInTrays_6 : decode cX4_eggsInTrays 6 = .ok (.if_icmp .ge 24, 3) := by decide +kernel
theorem dX4_eggsInTrays_9 : decode cX4_eggsInTrays 9 = .ok (.iload_n 1, 1) := by decide +kernel
theorem dX4_eggsInTrays_10 : decode cX4_eggsInTrays 10 = .ok (.aload_n 0, 1) := by decide +kernel
theorem dX4_eggsInTrays_11 : decode cX4_eggsInTrays 11 = .ok (.getfield 27, 3) := by decide +kernel
theorem dX4_eggsInTrays_14 : decode cX4_eggsInTrays 14 = .ok (.iload_n 2, 1) := by decide +kernel
theorem dX4_eggsInTrays_15 : decode cX4_eggsInTrays 15 = .ok (.aaload, 1) := by decide +kernel
theorem dX4_eggsInTrays_16 : decode cX4_eggsInTrays 16 = .ok (.getfield 84, 3) := by decide +kernel
theorem dX4_eggsInTrays_19 : decode cX4_eggsInTrays 19 = .ok (.getfield 88, 3) := by decide +kernel
theorem dX4_eggsInTrays_22 : decode cX4_eggsInTrays 22 = .ok (.iadd, 1) := by decide +kernel
theorem dX4_eggsInTrays_23 : decode cX4_eggsInTrays 23 = .ok (.istore_n 1, 1) := by decide +kernel
theorem dX4_eggsInTrays_24 : decode cX4_eggsInTrays 24 = .ok (.iinc 2 1, 3) := by decide +kernel
theorem dX4_eggsInTrays_27 : decode cX4_eggsInTrays 27 = .ok (.goto (-23), 3) := by decide +kernel
theorem dX4_eggsInTrays_30 : decode cX4_eggsInTrays 30 = .ok (.iload_n 1, 1) := by decide +kernel
theorem dX4_eggsInTrays_31 : decode cX4_eggsInTrays 31 = .ok (.ireturn, 1) := by decide +kernel
theorem dX4_packsSold_0 : decode cX4_packsSold 0 = .ok (.iconst 0, 1) := by decide +kernel
theorem dX4_packsSold_1 : decode cX4_packsSold 1 = .ok (.istore_n 1, 1) := by decide +kernel
theorem dX4_packsSold_2 : decode cX4_packsSold 2 = .ok (.iconst 0, 1) := by decide +kernel
theorem dX4_packsSold_3 : decode cX4_packsSold 3 = .ok (.istore_n 2, 1) := by decide +kernel
theorem dX4_packsSold_4 : decode cX4_packsSold 4 = .ok (.iload_n 2, 1) := by decide +kernel
theorem dX4_packsSold_5 : decode cX4_packsSold 5 = .ok (.aload_n 0, 1) := by decide +kernel
theorem dX4_packsSold_6 : decode cX4_packsSold 6 = .ok (.getfield 31, 3) := by decide +kernel
theorem dX4_packsSold_9 : decode cX4_packsSold 9 = .ok (.invokevirtual 53, 3) := by decide +kernel
theorem dX4_packsSold_12 : decode cX4_packsSold 12 = .ok (.if_icmp .ge 31, 3) := by decide +kernel
theorem dX4_packsSold_15 : decode cX4_packsSold 15 = .ok (.aload_n 0, 1) := by decide +kernel
theorem dX4_packsSold_16 : decode cX4_packsSold 16 = .ok (.getfield 31, 3) := by decide +kernel
theorem dX4_packsSold_19 : decode cX4_packsSold 19 = .ok (.iload_n 2, 1) := by decide +kernel
theorem dX4_packsSold_20 : decode cX4_packsSold 20 = .ok (.invokevirtual 137, 3) := by decide +kernel
theorem dX4_packsSold_23 : decode cX4_packsSold 23 = .ok (.checkcast 89, 3) := by decide +kernel
theorem dX4_packsSold_26 : decode cX4_packsSold 26 = .ok (.getfield 148, 3) := by decide +kernel
theorem dX4_packsSold_29 : decode cX4_packsSold 29 = .ok (.bipush (-9), 2) := by decide +kernel
theorem dX4_packsSold_31 : decode cX4_packsSold 31 = .ok (.if_icmp .eq 6, 3) := by decide +kernel
theorem dX4_packsSold_34 : decode cX4_packsSold 34 = .ok (.iinc 1 1, 3) := by decide +kernel
theorem dX4_packsSold_37 : decode cX4_packsSold 37 = .ok (.iinc 2 1, 3) := by decide +kernel
theorem dX4_packsSold_40 : decode cX4_packsSold 40 = .ok (.goto (-36), 3) := by decide +kernel
theorem dX4_packsSold_43 : decode cX4_packsSold 43 = .ok (.iload_n 1, 1) := by decide +kernel
theorem dX4_packsSold_44 : decode cX4_packsSold 44 = .ok (.ireturn, 1) := by decide +kernel
theorem dX4_packsHeld_0 : decode cX4_packsHeld 0 = .ok (.iconst 0, 1) := by decide +kernel
theorem dX4_packsHeld_1 : decode cX4_packsHeld 1 = .ok (.istore_n 1, 1) := by decide +kernel
theorem dX4_packsHeld_2 : decode cX4_packsHeld 2 = .ok (.iconst 0, 1) := by decide +kernel
theorem dX4_packsHeld_3 : decode cX4_packsHeld 3 = .ok (.istore_n 2, 1) := by decide +kernel
theorem dX4_packsHeld_4 : decode cX4_packsHeld 4 = .ok (.iload_n 2, 1) := by decide +kernel
theorem dX4_packsHeld_5 : decode cX4_packsHeld 5 = .ok (.aload_n 0, 1) := by decide +kernel
theorem dX4_packsHeld_6 : decode cX4_packsHeld 6 = .ok (.getfield 31, 3) := by decide +kernel
theorem dX4_packsHeld_9 : decode cX4_packsHeld 9 = .ok (.invokevirtual 53, 3) := by decide +kernel
theorem dX4_packsHeld_12 : decode cX4_packsHeld 12 = .ok (.if_icmp .ge 29, 3) := by decide +kernel
theorem dX4_packsHeld_15 : decode cX4_packsHeld 15 = .ok (.aload_n 0, 1) := by decide +kernel
theorem dX4_packsHeld_16 : decode cX4_packsHeld 16 = .ok (.getfield 31, 3) := by decide +kernel
theorem dX4_packsHeld_19 : decode cX4_packsHeld 19 = .ok (.iload_n 2, 1) := by decide +kernel
theorem dX4_packsHeld_20 : decode cX4_packsHeld 20 = .ok (.invokevirtual 137, 3) := by decide +kernel
theorem dX4_packsHeld_23 : decode cX4_packsHeld 23 = .ok (.checkcast 89, 3) := by decide +kernel
theorem dX4_packsHeld_26 : decode cX4_packsHeld 26 = .ok (.getfield 151, 3) := by decide +kernel
theorem dX4_packsHeld_29 : decode cX4_packsHeld 29 = .ok (.ifCond .eq 6, 3) := by decide +kernel
theorem dX4_packsHeld_32 : decode cX4_packsHeld 32 = .ok (.iinc 1 1, 3) := by decide +kernel
theorem dX4_packsHeld_35 : decode cX4_packsHeld 35 = .ok (.iinc 2 1, 3) := by decide +kernel
theorem dX4_packsHeld_38 : decode cX4_packsHeld 38 = .ok (.goto (-34), 3) := by decide +kernel
theorem dX4_packsHeld_41 : decode cX4_packsHeld 41 = .ok (.iload_n 1, 1) := by decide +kernel
theorem dX4_packsHeld_42 : decode cX4_packsHeld 42 = .ok (.ireturn, 1) := by decide +kernel
theorem dX4_isWithin_0 : decode cX4_isWithin 0 = .ok (.iload_n 0, 1) := by decide +kernel
theorem dX4_isWithin_1 : decode cX4_isWithin 1 = .ok (.iload_n 1, 1) := by decide +kernel
theorem dX4_isWithin_2 : decode cX4_isWithin 2 = .ok (.if_icmp .lt 12, 3) := by decide +kernel
theorem dX4_isWithin_5 : decode cX4_isWithin 5 = .ok (.iload_n 0, 1) := by decide +kernel
theorem dX4_isWithin_6 : decode cX4_isWithin 6 = .ok (.iload_n 2, 1) := by decide +kernel
theorem dX4_isWithin_7 : decode cX4_isWithin 7 = .ok (.if_icmp .gt 7, 3) := by decide +kernel
theorem dX4_isWithin_10 : decode cX4_isWithin 10 = .ok (.iconst 1, 1) := by decide +kernel
theorem dX4_isWithin_11 : decode cX4_isWithin 11 = .ok (.goto 4, 3) := by decide +kernel
theorem dX4_isWithin_14 : decode cX4_isWithin 14 = .ok (.iconst 0, 1) := by decide +kernel
theorem dX4_isWithin_15 : decode cX4_isWithin 15 = .ok (.ireturn, 1) := by decide +kernel
theorem dX4_isBarn_0 : decode cX4_isBarn 0 = .ok (.iload_n 0, 1) := by decide +kernel
theorem dX4_isBarn_1 : decode cX4_isBarn 1 = .ok (.iconst 0, 1) := by decide +kernel
theorem dX4_isBarn_2 : decode cX4_isBarn 2 = .ok (.iconst 3, 1) := by decide +kernel
theorem dX4_isBarn_3 : decode cX4_isBarn 3 = .ok (.invokestatic 49, 3) := by decide +kernel
theorem dX4_isBarn_6 : decode cX4_isBarn 6 = .ok (.ireturn, 1) := by decide +kernel
theorem dX4_isGrade_0 : decode cX4_isGrade 0 = .ok (.iload_n 0, 1) := by decide +kernel
theorem dX4_isGrade_1 : decode cX4_isGrade 1 = .ok (.iconst 0, 1) := by decide +kernel
theorem dX4_isGrade_2 : decode cX4_isGrade 2 = .ok (.iconst 5, 1) := by decide +kernel
theorem dX4_isGrade_3 : decode cX4_isGrade 3 = .ok (.invokestatic 49, 3) := by decide +kernel
theorem dX4_isGrade_6 : decode cX4_isGrade 6 = .ok (.ireturn, 1) := by decide +kernel
theorem dX4_isPacker_0 : decode cX4_isPacker 0 = .ok (.iload_n 0, 1) := by decide +kernel
theorem dX4_isPacker_1 : decode cX4_isPacker 1 = .ok (.iconst 0, 1) := by decide +kernel
theorem dX4_isPacker_2 : decode cX4_isPacker 2 = .ok (.iconst 3, 1) := by decide +kernel
theorem dX4_isPacker_3 : decode cX4_isPacker 3 = .ok (.invokestatic 49, 3) := by decide +kernel
theorem dX4_isPacker_6 : decode cX4_isPacker 6 = .ok (.ireturn, 1) := by decide +kernel
theorem dX4_isPack_0 : decode cX4_isPack 0 = .ok (.iload_n 1, 1) := by decide +kernel
theorem dX4_isPack_1 : decode cX4_isPack 1 = .ok (.iconst 0, 1) := by decide +kernel
theorem dX4_isPack_2 : decode cX4_isPack 2 = .ok (.aload_n 0, 1) := by decide +kernel
theorem dX4_isPack_3 : decode cX4_isPack 3 = .ok (.getfield 31, 3) := by decide +kernel
theorem dX4_isPack_6 : decode cX4_isPack 6 = .ok (.invokevirtual 53, 3) := by decide +kernel
theorem dX4_isPack_9 : decode cX4_isPack 9 = .ok (.iconst 1, 1) := by decide +kernel
theorem dX4_isPack_10 : decode cX4_isPack 10 = .ok (.isub, 1) := by decide +kernel
theorem dX4_isPack_11 : decode cX4_isPack 11 = .ok (.invokestatic 49, 3) := by decide +kernel
theorem dX4_isPack_14 : decode cX4_isPack 14 = .ok (.ireturn, 1) := by decide +kernel
theorem dX4_hasBit_0 : decode cX4_hasBit 0 = .ok (.iload_n 0, 1) := by decide +kernel
theorem dX4_hasBit_1 : decode cX4_hasBit 1 = .ok (.iload_n 1, 1) := by decide +kernel
theorem dX4_hasBit_2 : decode cX4_hasBit 2 = .ok (.ishr, 1) := by decide +kernel
theorem dX4_hasBit_3 : decode cX4_hasBit 3 = .ok (.iconst 1, 1) := by decide +kernel
theorem dX4_hasBit_4 : decode cX4_hasBit 4 = .ok (.iand, 1) := by decide +kernel
theorem dX4_hasBit_5 : decode cX4_hasBit 5 = .ok (.iconst 1, 1) := by decide +kernel
theorem dX4_hasBit_6 : decode cX4_hasBit 6 = .ok (.if_icmp .ne 7, 3) := by decide +kernel
theorem dX4_hasBit_9 : decode cX4_hasBit 9 = .ok (.iconst 1, 1) := by decide +kernel
theorem dX4_hasBit_10 : decode cX4_hasBit 10 = .ok (.goto 4, 3) := by decide +kernel
theorem dX4_hasBit_13 : decode cX4_hasBit 13 = .ok (.iconst 0, 1) := by decide +kernel
theorem dX4_hasBit_14 : decode cX4_hasBit 14 = .ok (.ireturn, 1) := by decide +kernel
theorem dX4_asNumber_0 : decode cX4_asNumber 0 = .ok (.iload_n 0, 1) := by decide +kernel
theorem dX4_asNumber_1 : decode cX4_asNumber 1 = .ok (.ifCond .eq 7, 3) := by decide +kernel
theorem dX4_asNumber_4 : decode cX4_asNumber 4 = .ok (.iconst 1, 1) := by decide +kernel
theorem dX4_asNumber_5 : decode cX4_asNumber 5 = .ok (.goto 4, 3) := by decide +kernel
theorem dX4_asNumber_8 : decode cX4_asNumber 8 = .ok (.iconst 0, 1) := by decide +kernel
theorem dX4_asNumber_9 : decode cX4_asNumber 9 = .ok (.ireturn, 1) := by decide +kernel
theorem dX4_gradeOf_0 : decode cX4_gradeOf 0 = .ok (.iconst 0, 1) := by decide +kernel
theorem dX4_gradeOf_1 : decode cX4_gradeOf 1 = .ok (.istore_n 1, 1) := by decide +kernel
theorem dX4_gradeOf_2 : decode cX4_gradeOf 2 = .ok (.iload_n 1, 1) := by decide +kernel
theorem dX4_gradeOf_3 : decode cX4_gradeOf 3 = .ok (.getstatic 303, 3) := by decide +kernel
theorem dX4_gradeOf_6 : decode cX4_gradeOf 6 = .ok (.arraylength, 1) := by decide +kernel
theorem dX4_gradeOf_7 : decode cX4_gradeOf 7 = .ok (.if_icmp .ge 18, 3) := by decide +kernel
theorem dX4_gradeOf_10 : decode cX4_gradeOf 10 = .ok (.iload_n 0, 1) := by decide +kernel
theorem dX4_gradeOf_11 : decode cX4_gradeOf 11 = .ok (.getstatic 303, 3) := by decide +kernel
theorem dX4_gradeOf_14 : decode cX4_gradeOf 14 = .ok (.iload_n 1, 1) := by decide +kernel
theorem dX4_gradeOf_15 : decode cX4_gradeOf 15 = .ok (.iaload, 1) := by decide +kernel
theorem dX4_gradeOf_16 : decode cX4_gradeOf 16 = .ok (.if_icmp .lt 9, 3) := by decide +kernel
theorem dX4_gradeOf_19 : decode cX4_gradeOf 19 = .ok (.iinc 1 1, 3) := by decide +kernel
theorem dX4_gradeOf_22 : decode cX4_gradeOf 22 = .ok (.goto (-20), 3) := by decide +kernel
theorem dX4_gradeOf_25 : decode cX4_gradeOf 25 = .ok (.iload_n 1, 1) := by decide +kernel
theorem dX4_gradeOf_26 : decode cX4_gradeOf 26 = .ok (.ireturn, 1) := by decide +kernel
theorem dJ6_bitCount_0f7a4_0 : decode cJ6_bitCount_0f7a4 0 = .ok (.iload_n 0, 1) := by decide +kernel
theorem dJ6_bitCount_0f7a4_1 : decode cJ6_bitCount_0f7a4 1 = .ok (.iload_n 0, 1) := by decide +kernel
theorem dJ6_bitCount_0f7a4_2 : decode cJ6_bitCount_0f7a4 2 = .ok (.iconst 1, 1) := by decide +kernel
theorem dJ6_bitCount_0f7a4_3 : decode cJ6_bitCount_0f7a4 3 = .ok (.iushr, 1) := by decide +kernel
theorem dJ6_bitCount_0f7a4_4 : decode cJ6_bitCount_0f7a4 4 = .ok (.ldc_w 265, 3) := by decide +kernel
theorem dJ6_bitCount_0f7a4_7 : decode cJ6_bitCount_0f7a4 7 = .ok (.iand, 1) := by decide +kernel
theorem dJ6_bitCount_0f7a4_8 : decode cJ6_bitCount_0f7a4 8 = .ok (.isub, 1) := by decide +kernel
theorem dJ6_bitCount_0f7a4_9 : decode cJ6_bitCount_0f7a4 9 = .ok (.istore_n 0, 1) := by decide +kernel
theorem dJ6_bitCount_0f7a4_10 : decode cJ6_bitCount_0f7a4 10 = .ok (.iload_n 0, 1) := by decide +kernel
theorem dJ6_bitCount_0f7a4_11 : decode cJ6_bitCount_0f7a4 11 = .ok (.ldc_w 266, 3) := by decide +kernel
theorem dJ6_bitCount_0f7a4_14 : decode cJ6_bitCount_0f7a4 14 = .ok (.iand, 1) := by decide +kernel
theorem dJ6_bitCount_0f7a4_15 : decode cJ6_bitCount_0f7a4 15 = .ok (.iload_n 0, 1) := by decide +kernel
theorem dJ6_bitCount_0f7a4_16 : decode cJ6_bitCount_0f7a4 16 = .ok (.iconst 2, 1) := by decide +kernel
theorem dJ6_bitCount_0f7a4_17 : decode cJ6_bitCount_0f7a4 17 = .ok (.iushr, 1) := by decide +kernel
theorem dJ6_bitCount_0f7a4_18 : decode cJ6_bitCount_0f7a4 18 = .ok (.ldc_w 266, 3) := by decide +kernel
theorem dJ6_bitCount_0f7a4_21 : decode cJ6_bitCount_0f7a4 21 = .ok (.iand, 1) := by decide +kernel
theorem dJ6_bitCount_0f7a4_22 : decode cJ6_bitCount_0f7a4 22 = .ok (.iadd, 1) := by decide +kernel
theorem dJ6_bitCount_0f7a4_23 : decode cJ6_bitCount_0f7a4 23 = .ok (.istore_n 0, 1) := by decide +kernel
theorem dJ6_bitCount_0f7a4_24 : decode cJ6_bitCount_0f7a4 24 = .ok (.iload_n 0, 1) := by decide +kernel
theorem dJ6_bitCount_0f7a4_25 : decode cJ6_bitCount_0f7a4 25 = .ok (.iload_n 0, 1) := by decide +kernel
theorem dJ6_bitCount_0f7a4_26 : decode cJ6_bitCount_0f7a4 26 = .ok (.iconst 4, 1) := by decide +kernel
theorem dJ6_bitCount_0f7a4_27 : decode cJ6_bitCount_0f7a4 27 = .ok (.iushr, 1) := by decide +kernel
theorem dJ6_bitCount_0f7a4_28 : decode cJ6_bitCount_0f7a4 28 = .ok (.iadd, 1) := by decide +kernel
theorem dJ6_bitCount_0f7a4_29 : decode cJ6_bitCount_0f7a4 29 = .ok (.ldc_w 267, 3) := by decide +kernel
theorem dJ6_bitCount_0f7a4_32 : decode cJ6_bitCount_0f7a4 32 = .ok (.iand, 1) := by decide +kernel
theorem dJ6_bitCount_0f7a4_33 : decode cJ6_bitCount_0f7a4 33 = .ok (.istore_n 0, 1) := by decide +kernel
theorem dJ6_bitCount_0f7a4_34 : decode cJ6_bitCount_0f7a4 34 = .ok (.iload_n 0, 1) := by decide +kernel
theorem dJ6_bitCount_0f7a4_35 : decode cJ6_bitCount_0f7a4 35 = .ok (.iload_n 0, 1) := by decide +kernel
theorem dJ6_bitCount_0f7a4_36 : decode cJ6_bitCount_0f7a4 36 = .ok (.bipush 8, 2) := by decide +kernel
theorem dJ6_bitCount_0f7a4_38 : decode cJ6_bitCount_0f7a4 38 = .ok (.iushr, 1) := by decide +kernel
theorem dJ6_bitCount_0f7a4_39 : decode cJ6_bitCount_0f7a4 39 = .ok (.iadd, 1) := by decide +kernel
theorem dJ6_bitCount_0f7a4_40 : decode cJ6_bitCount_0f7a4 40 = .ok (.istore_n 0, 1) := by decide +kernel
theorem dJ6_bitCount_0f7a4_41 : decode cJ6_bitCount_0f7a4 41 = .ok (.iload_n 0, 1) := by decide +kernel
theorem dJ6_bitCount_0f7a4_42 : decode cJ6_bitCount_0f7a4 42 = .ok (.iload_n 0, 1) := by decide +kernel
theorem dJ6_bitCount_0f7a4_43 : decode cJ6_bitCount_0f7a4 43 = .ok (.bipush 16, 2) := by decide +kernel
theorem dJ6_bitCount_0f7a4_45 : decode cJ6_bitCount_0f7a4 45 = .ok (.iushr, 1) := by decide +kernel
theorem dJ6_bitCount_0f7a4_46 : decode cJ6_bitCount_0f7a4 46 = .ok (.iadd, 1) := by decide +kernel
theorem dJ6_bitCount_0f7a4_47 : decode cJ6_bitCount_0f7a4 47 = .ok (.istore_n 0, 1) := by decide +kernel
theorem dJ6_bitCount_0f7a4_48 : decode cJ6_bitCount_0f7a4 48 = .ok (.iload_n 0, 1) := by decide +kernel
theorem dJ6_bitCount_0f7a4_49 : decode cJ6_bitCount_0f7a4 49 = .ok (.bipush 63, 2) := by decide +kernel
theorem dJ6_bitCount_0f7a4_51 : decode cJ6_bitCount_0f7a4 51 = .ok (.iand, 1) := by decide +kernel
theorem dJ6_bitCount_0f7a4_52 : decode cJ6_bitCount_0f7a4 52 = .ok (.ireturn, 1) := by decide +kernel
theorem dJ9_max_7cf53_0 : decode cJ9_max_7cf53 0 = .ok (.iload_n 0, 1) := by decide +kernel
theorem dJ9_max_7cf53_1 : decode cJ9_max_7cf53 1 = .ok (.iload_n 1, 1) := by decide +kernel
theorem dJ9_max_7cf53_2 : decode cJ9_max_7cf53 2 = .ok (.if_icmp .lt 7, 3) := by decide +kernel
theorem dJ9_max_7cf53_5 : decode cJ9_max_7cf53 5 = .ok (.iload_n 0, 1) := by decide +kernel
theorem dJ9_max_7cf53_6 : decode cJ9_max_7cf53 6 = .ok (.goto 4, 3) := by decide +kernel
theorem dJ9_max_7cf53_9 : decode cJ9_max_7cf53 9 = .ok (.iload_n 1, 1) := by decide +kernel
theorem dJ9_max_7cf53_10 : decode cJ9_max_7cf53 10 = .ok (.ireturn, 1) := by decide +kernel
theorem dJ9_min_7cf53_0 : decode cJ9_min_7cf53 0 = .ok (.iload_n 0, 1) := by decide +kernel
theorem dJ9_min_7cf53_1 : decode cJ9_min_7cf53 1 = .ok (.iload_n 1, 1) := by decide +kernel
theorem dJ9_min_7cf53_2 : decode cJ9_min_7cf53 2 = .ok (.if_icmp .gt 7, 3) := by decide +kernel
theorem dJ9_min_7cf53_5 : decode cJ9_min_7cf53 5 = .ok (.iload_n 0, 1) := by decide +kernel
theorem dJ9_min_7cf53_6 : decode cJ9_min_7cf53 6 = .ok (.goto 4, 3) := by decide +kernel
theorem dJ9_min_7cf53_9 : decode cJ9_min_7cf53 9 = .ok (.iload_n 1, 1) := by decide +kernel
theorem dJ9_min_7cf53_10 : decode cJ9_min_7cf53 10 = .ok (.ireturn, 1) := by decide +kernel
theorem dJxa1e45_init_da8c8_0 : decode cJxa1e45_init_da8c8 0 = .ok (.aload_n 0, 1) := by decide +kernel
theorem dJxa1e45_init_da8c8_1 : decode cJxa1e45_init_da8c8 1 = .ok (.invokespecial 1, 3) := by decide +kernel
theorem dJxa1e45_init_da8c8_4 : decode cJxa1e45_init_da8c8 4 = .ok (.return_, 1) := by decide +kernel
theorem dJxc12de_init_da8c8_0 : decode cJxc12de_init_da8c8 0 = .ok (.aload_n 0, 1) := by decide +kernel
theorem dJxc12de_init_da8c8_1 : decode cJxc12de_init_da8c8 1 = .ok (.invokespecial 1, 3) := by decide +kernel
theorem dJxc12de_init_da8c8_4 : decode cJxc12de_init_da8c8 4 = .ok (.aload_n 0, 1) := by decide +kernel
theorem dJxc12de_init_da8c8_5 : decode cJxc12de_init_da8c8 5 = .ok (.iconst 0, 1) := by decide +kernel
theorem dJxc12de_init_da8c8_6 : decode cJxc12de_init_da8c8 6 = .ok (.putfield 7, 3) := by decide +kernel
theorem dJxc12de_init_da8c8_9 : decode cJxc12de_init_da8c8 9 = .ok (.return_, 1) := by decide +kernel
theorem dJx4a65c_init_da8c8_0 : decode cJx4a65c_init_da8c8 0 = .ok (.aload_n 0, 1) := by decide +kernel
theorem dJx4a65c_init_da8c8_1 : decode cJx4a65c_init_da8c8 1 = .ok (.invokespecial 1, 3) := by decide +kernel
theorem dJx4a65c_init_da8c8_4 : decode cJx4a65c_init_da8c8 4 = .ok (.aload_n 0, 1) := by decide +kernel
theorem dJx4a65c_init_da8c8_5 : decode cJx4a65c_init_da8c8 5 = .ok (.getstatic 39, 3) := by decide +kernel
theorem dJx4a65c_init_da8c8_8 : decode cJx4a65c_init_da8c8 8 = .ok (.putfield 9, 3) := by decide +kernel
theorem dJx4a65c_init_da8c8_11 : decode cJx4a65c_init_da8c8 11 = .ok (.return_, 1) := by decide +kernel
theorem dJx4a65c_grow_92f84_0 : decode cJx4a65c_grow_92f84 0 = .ok (.aload_n 0, 1) := by decide +kernel
theorem dJx4a65c_grow_92f84_1 : decode cJx4a65c_grow_92f84 1 = .ok (.getfield 9, 3) := by decide +kernel
theorem dJx4a65c_grow_92f84_4 : decode cJx4a65c_grow_92f84 4 = .ok (.arraylength, 1) := by decide +kernel
theorem dJx4a65c_grow_92f84_5 : decode cJx4a65c_grow_92f84 5 = .ok (.istore_n 2, 1) := by decide +kernel
theorem dJx4a65c_grow_92f84_6 : decode cJx4a65c_grow_92f84 6 = .ok (.iload_n 2, 1) := by decide +kernel
theorem dJx4a65c_grow_92f84_7 : decode cJx4a65c_grow_92f84 7 = .ok (.ifCond .gt 13, 3) := by decide +kernel
theorem dJx4a65c_grow_92f84_10 : decode cJx4a65c_grow_92f84 10 = .ok (.aload_n 0, 1) := by decide +kernel
theorem dJx4a65c_grow_92f84_11 : decode cJx4a65c_grow_92f84 11 = .ok (.getfield 9, 3) := by decide +kernel
theorem dJx4a65c_grow_92f84_14 : decode cJx4a65c_grow_92f84 14 = .ok (.getstatic 39, 3) := by decide +kernel
theorem dJx4a65c_grow_92f84_17 : decode cJx4a65c_grow_92f84 17 = .ok (.if_acmp .eq 28, 3) := by decide +kernel
theorem dJx4a65c_grow_92f84_20 : decode cJx4a65c_grow_92f84 20 = .ok (.iload_n 2, 1) := by decide +kernel
theorem dJx4a65c_grow_92f84_21 : decode cJx4a65c_grow_92f84 21 = .ok (.iload_n 1, 1) := by decide +kernel
theorem dJx4a65c_grow_92f84_22 : decode cJx4a65c_grow_92f84 22 = .ok (.iload_n 2, 1) := by decide +kernel
theorem dJx4a65c_grow_92f84_23 : decode cJx4a65c_grow_92f84 23 = .ok (.isub, 1) := by decide +kernel
theorem dJx4a65c_grow_92f84_24 : decode cJx4a65c_grow_92f84 24 = .ok (.iload_n 2, 1) := by decide +kernel
theorem dJx4a65c_grow_92f84_25 : decode cJx4a65c_grow_92f84 25 = .ok (.iconst 1, 1) := by decide +kernel
theorem dJx4a65c_grow_92f84_26 : decode cJx4a65c_grow_92f84 26 = .ok (.ishr, 1) := by decide +kernel
theorem dJx4a65c_grow_92f84_27 : decode cJx4a65c_grow_92f84 27 = .ok (.invokestatic 73, 3) := by decide +kernel
theorem dJx4a65c_grow_92f84_30 : decode cJx4a65c_grow_92f84 30 = .ok (.istore_n 3, 1) := by decide +kernel
theorem dJx4a65c_grow_92f84_31 : decode cJx4a65c_grow_92f84 31 = .ok (.aload_n 0, 1) := by decide +kernel
theorem dJx4a65c_grow_92f84_32 : decode cJx4a65c_grow_92f84 32 = .ok (.aload_n 0, 1) := by decide +kernel
theorem dJx4a65c_grow_92f84_33 : decode cJx4a65c_grow_92f84 33 = .ok (.getfield 9, 3) := by decide +kernel
theorem dJx4a65c_grow_92f84_36 : decode cJx4a65c_grow_92f84 36 = .ok (.iload_n 3, 1) := by decide +kernel
theorem dJx4a65c_grow_92f84_37 : decode cJx4a65c_grow_92f84 37 = .ok (.invokestatic 66, 3) := by decide +kernel
theorem dJx4a65c_grow_92f84_40 : decode cJx4a65c_grow_92f84 40 = .ok (.dup_x1, 1) := by decide +kernel
theorem dJx4a65c_grow_92f84_41 : decode cJx4a65c_grow_92f84 41 = .ok (.putfield 9, 3) := by decide +kernel
theorem dJx4a65c_grow_92f84_44 : decode cJx4a65c_grow_92f84 44 = .ok (.areturn, 1) := by decide +kernel
theorem dJx4a65c_grow_92f84_45 : decode cJx4a65c_grow_92f84 45 = .ok (.aload_n 0, 1) := by decide +kernel
theorem dJx4a65c_grow_92f84_46 : decode cJx4a65c_grow_92f84 46 = .ok (.bipush 10, 2) := by decide +kernel
theorem dJx4a65c_grow_92f84_48 : decode cJx4a65c_grow_92f84 48 = .ok (.iload_n 1, 1) := by decide +kernel
theorem dJx4a65c_grow_92f84_49 : decode cJx4a65c_grow_92f84 49 = .ok (.invokestatic 79, 3) := by decide +kernel
theorem dJx4a65c_grow_92f84_52 : decode cJx4a65c_grow_92f84 52 = .ok (.anewarray 7, 3) := by decide +kernel
theorem dJx4a65c_grow_92f84_55 : decode cJx4a65c_grow_92f84 55 = .ok (.dup_x1, 1) := by decide +kernel
theorem dJx4a65c_grow_92f84_56 : decode cJx4a65c_grow_92f84 56 = .ok (.putfield 9, 3) := by decide +kernel
theorem dJx4a65c_grow_92f84_59 : decode cJx4a65c_grow_92f84 59 = .ok (.areturn, 1) := by decide +kernel
theorem dJx4a65c_grow_d5877_0 : decode cJx4a65c_grow_d5877 0 = .ok (.aload_n 0, 1) := by decide +kernel
theorem dJx4a65c_grow_d5877_1 : decode cJx4a65c_grow_d5877 1 = .ok (.aload_n 0, 1) := by decide +kernel
theorem dJx4a65c_grow_d5877_2 : decode cJx4a65c_grow_d5877 2 = .ok (.getfield 48, 3) := by decide +kernel
theorem dJx4a65c_grow_d5877_5 : decode cJx4a65c_grow_d5877 5 = .ok (.iconst 1, 1) := by decide +kernel
theorem dJx4a65c_grow_d5877_6 : decode cJx4a65c_grow_d5877 6 = .ok (.iadd, 1) := by decide +kernel
theorem dJx4a65c_grow_d5877_7 : decode cJx4a65c_grow_d5877 7 = .ok (.invokevirtual 69, 3) := by decide +kernel
theorem dJx4a65c_grow_d5877_10 : decode cJx4a65c_grow_d5877 10 = .ok (.areturn, 1) := by decide +kernel
theorem dJx4a65c_size_8abf5_0 : decode cJx4a65c_size_8abf5 0 = .ok (.aload_n 0, 1) := by decide +kernel
theorem dJx4a65c_size_8abf5_1 : decode cJx4a65c_size_8abf5 1 = .ok (.getfield 48, 3) := by decide +kernel
theorem dJx4a65c_size_8abf5_4 : decode cJx4a65c_size_8abf5 4 = .ok (.ireturn, 1) := by decide +kernel
theorem dJx4a65c_isEmpty_aae02_0 : decode cJx4a65c_isEmpty_aae02 0 = .ok (.aload_n 0, 1) := by decide +kernel
theorem dJx4a65c_isEmpty_aae02_1 : decode cJx4a65c_isEmpty_aae02 1 = .ok (.getfield 48, 3) := by decide +kernel
theorem dJx4a65c_isEmpty_aae02_4 : decode cJx4a65c_isEmpty_aae02 4 = .ok (.ifCond .ne 7, 3) := by decide +kernel
theorem dJx4a65c_isEmpty_aae02_7 : decode cJx4a65c_isEmpty_aae02 7 = .ok (.iconst 1, 1) := by decide +kernel
theorem dJx4a65c_isEmpty_aae02_8 : decode cJx4a65c_isEmpty_aae02 8 = .ok (.goto 4, 3) := by decide +kernel
theorem dJx4a65c_isEmpty_aae02_11 : decode cJx4a65c_isEmpty_aae02 11 = .ok (.iconst 0, 1) := by decide +kernel
theorem dJx4a65c_isEmpty_aae02_12 : decode cJx4a65c_isEmpty_aae02 12 = .ok (.ireturn, 1) := by decide +kernel
theorem dJx4a65c_elementData_915e3_0 : decode cJx4a65c_elementData_915e3 0 = .ok (.aload_n 0, 1) := by decide +kernel
theorem dJx4a65c_elementData_915e3_1 : decode cJx4a65c_elementData_915e3 1 = .ok (.getfield 9, 3) := by decide +kernel
theorem dJx4a65c_elementData_915e3_4 : decode cJx4a65c_elementData_915e3 4 = .ok (.iload_n 1, 1) := by decide +kernel
theorem dJx4a65c_elementData_915e3_5 : decode cJx4a65c_elementData_915e3 5 = .ok (.aaload, 1) := by decide +kernel
theorem dJx4a65c_elementData_915e3_6 : decode cJx4a65c_elementData_915e3 6 = .ok (.areturn, 1) := by decide +kernel
theorem dJx4a65c_get_915e3_0 : decode cJx4a65c_get_915e3 0 = .ok (.iload_n 1, 1) := by decide +kernel
theorem dJx4a65c_get_915e3_1 : decode cJx4a65c_get_915e3 1 = .ok (.aload_n 0, 1) := by decide +kernel
theorem dJx4a65c_get_915e3_2 : decode cJx4a65c_get_915e3 2 = .ok (.getfield 48, 3) := by decide +kernel
theorem dJx4a65c_get_915e3_5 : decode cJx4a65c_get_915e3 5 = .ok (.invokestatic 118, 3) := by decide +kernel
theorem dJx4a65c_get_915e3_8 : decode cJx4a65c_get_915e3 8 = .ok (.pop, 1) := by decide +kernel
theorem dJx4a65c_get_915e3_9 : decode cJx4a65c_get_915e3 9 = .ok (.aload_n 0, 1) := by decide +kernel
theorem dJx4a65c_get_915e3_10 : decode cJx4a65c_get_915e3 10 = .ok (.iload_n 1, 1) := by decide +kernel
theorem dJx4a65c_get_915e3_11 : decode cJx4a65c_get_915e3 11 = .ok (.invokevirtual 123, 3) := by decide +kernel
theorem dJx4a65c_get_915e3_14 : decode cJx4a65c_get_915e3 14 = .ok (.areturn, 1) := by decide +kernel
theorem dJx4a65c_add_72be8_0 : decode cJx4a65c_add_72be8 0 = .ok (.iload_n 3, 1) := by decide +kernel
theorem dJx4a65c_add_72be8_1 : decode cJx4a65c_add_72be8 1 = .ok (.aload_n 2, 1) := by decide +kernel
theorem dJx4a65c_add_72be8_2 : decode cJx4a65c_add_72be8 2 = .ok (.arraylength, 1) := by decide +kernel
theorem dJx4a65c_add_72be8_3 : decode cJx4a65c_add_72be8 3 = .ok (.if_icmp .ne 8, 3) := by decide +kernel
theorem dJx4a65c_add_72be8_6 : decode cJx4a65c_add_72be8 6 = .ok (.aload_n 0, 1) := by decide +kernel
theorem dJx4a65c_add_72be8_7 : decode cJx4a65c_add_72be8 7 = .ok (.invokevirtual 129, 3) := by decide +kernel
theorem dJx4a65c_add_72be8_10 : decode cJx4a65c_add_72be8 10 = .ok (.astore_n 2, 1) := by decide +kernel
theorem dJx4a65c_add_72be8_11 : decode cJx4a65c_add_72be8 11 = .ok (.aload_n 2, 1) := by decide +kernel
theorem dJx4a65c_add_72be8_12 : decode cJx4a65c_add_72be8 12 = .ok (.iload_n 3, 1) := by decide +kernel
theorem dJx4a65c_add_72be8_13 : decode cJx4a65c_add_72be8 13 = .ok (.aload_n 1, 1) := by decide +kernel
theorem dJx4a65c_add_72be8_14 : decode cJx4a65c_add_72be8 14 = .ok (.aastore, 1) := by decide +kernel
theorem dJx4a65c_add_72be8_15 : decode cJx4a65c_add_72be8 15 = .ok (.aload_n 0, 1) := by decide +kernel
theorem dJx4a65c_add_72be8_16 : decode cJx4a65c_add_72be8 16 = .ok (.iload_n 3, 1) := by decide +kernel
theorem dJx4a65c_add_72be8_17 : decode cJx4a65c_add_72be8 17 = .ok (.iconst 1, 1) := by decide +kernel
theorem dJx4a65c_add_72be8_18 : decode cJx4a65c_add_72be8 18 = .ok (.iadd, 1) := by decide +kernel
theorem dJx4a65c_add_72be8_19 : decode cJx4a65c_add_72be8 19 = .ok (.putfield 48, 3) := by decide +kernel
theorem dJx4a65c_add_72be8_22 : decode cJx4a65c_add_72be8 22 = .ok (.return_, 1) := by decide +kernel
theorem dJx4a65c_add_9ea2d_0 : decode cJx4a65c_add_9ea2d 0 = .ok (.aload_n 0, 1) := by decide +kernel
theorem dJx4a65c_add_9ea2d_1 : decode cJx4a65c_add_9ea2d 1 = .ok (.dup, 1) := by decide +kernel
theorem dJx4a65c_add_9ea2d_2 : decode cJx4a65c_add_9ea2d 2 = .ok (.getfield 63, 3) := by decide +kernel
theorem dJx4a65c_add_9ea2d_5 : decode cJx4a65c_add_9ea2d 5 = .ok (.iconst 1, 1) := by decide +kernel
theorem dJx4a65c_add_9ea2d_6 : decode cJx4a65c_add_9ea2d 6 = .ok (.iadd, 1) := by decide +kernel
theorem dJx4a65c_add_9ea2d_7 : decode cJx4a65c_add_9ea2d 7 = .ok (.putfield 63, 3) := by decide +kernel
theorem dJx4a65c_add_9ea2d_10 : decode cJx4a65c_add_9ea2d 10 = .ok (.aload_n 0, 1) := by decide +kernel
theorem dJx4a65c_add_9ea2d_11 : decode cJx4a65c_add_9ea2d 11 = .ok (.aload_n 1, 1) := by decide +kernel
theorem dJx4a65c_add_9ea2d_12 : decode cJx4a65c_add_9ea2d 12 = .ok (.aload_n 0, 1) := by decide +kernel
theorem dJx4a65c_add_9ea2d_13 : decode cJx4a65c_add_9ea2d 13 = .ok (.getfield 9, 3) := by decide +kernel
theorem dJx4a65c_add_9ea2d_16 : decode cJx4a65c_add_9ea2d 16 = .ok (.aload_n 0, 1) := by decide +kernel
theorem dJx4a65c_add_9ea2d_17 : decode cJx4a65c_add_9ea2d 17 = .ok (.getfield 48, 3) := by decide +kernel
theorem dJx4a65c_add_9ea2d_20 : decode cJx4a65c_add_9ea2d 20 = .ok (.invokevirtual 131, 3) := by decide +kernel
theorem dJx4a65c_add_9ea2d_23 : decode cJx4a65c_add_9ea2d 23 = .ok (.iconst 1, 1) := by decide +kernel
theorem dJx4a65c_add_9ea2d_24 : decode cJx4a65c_add_9ea2d 24 = .ok (.ireturn, 1) := by decide +kernel
theorem dJx4a65c_remove_915e3_0 : decode cJx4a65c_remove_915e3 0 = .ok (.iload_n 1, 1) := by decide +kernel
theorem dJx4a65c_remove_915e3_1 : decode cJx4a65c_remove_915e3 1 = .ok (.aload_n 0, 1) := by decide +kernel
theorem dJx4a65c_remove_915e3_2 : decode cJx4a65c_remove_915e3 2 = .ok (.getfield 48, 3) := by decide +kernel
theorem dJx4a65c_remove_915e3_5 : decode cJx4a65c_remove_915e3 5 = .ok (.invokestatic 118, 3) := by decide +kernel
theorem dJx4a65c_remove_915e3_8 : decode cJx4a65c_remove_915e3 8 = .ok (.pop, 1) := by decide +kernel
theorem dJx4a65c_remove_915e3_9 : decode cJx4a65c_remove_915e3 9 = .ok (.aload_n 0, 1) := by decide +kernel
theorem dJx4a65c_remove_915e3_10 : decode cJx4a65c_remove_915e3 10 = .ok (.getfield 9, 3) := by decide +kernel
theorem dJx4a65c_remove_915e3_13 : decode cJx4a65c_remove_915e3 13 = .ok (.astore_n 2, 1) := by decide +kernel
theorem dJx4a65c_remove_915e3_14 : decode cJx4a65c_remove_915e3 14 = .ok (.aload_n 2, 1) := by decide +kernel
theorem dJx4a65c_remove_915e3_15 : decode cJx4a65c_remove_915e3 15 = .ok (.iload_n 1, 1) := by decide +kernel
theorem dJx4a65c_remove_915e3_16 : decode cJx4a65c_remove_915e3 16 = .ok (.aaload, 1) := by decide +kernel
theorem dJx4a65c_remove_915e3_17 : decode cJx4a65c_remove_915e3 17 = .ok (.astore_n 3, 1) := by decide +kernel
theorem dJx4a65c_remove_915e3_18 : decode cJx4a65c_remove_915e3 18 = .ok (.aload_n 0, 1) := by decide +kernel
theorem dJx4a65c_remove_915e3_19 : decode cJx4a65c_remove_915e3 19 = .ok (.aload_n 2, 1) := by decide +kernel
theorem dJx4a65c_remove_915e3_20 : decode cJx4a65c_remove_915e3 20 = .ok (.iload_n 1, 1) := by decide +kernel
theorem dJx4a65c_remove_915e3_21 : decode cJx4a65c_remove_915e3 21 = .ok (.invokevirtual 144, 3) := by decide +kernel
theorem dJx4a65c_remove_915e3_24 : decode cJx4a65c_remove_915e3 24 = .ok (.aload_n 3, 1) := by decide +kernel
theorem dJx4a65c_remove_915e3_25 : decode cJx4a65c_remove_915e3 25 = .ok (.areturn, 1) := by decide +kernel
theorem dJx4a65c_fastRemove_b59b0_0 : decode cJx4a65c_fastRemove_b59b0 0 = .ok (.aload_n 0, 1) := by decide +kernel
theorem dJx4a65c_fastRemove_b59b0_1 : decode cJx4a65c_fastRemove_b59b0 1 = .ok (.dup, 1) := by decide +kernel
theorem dJx4a65c_fastRemove_b59b0_2 : decode cJx4a65c_fastRemove_b59b0 2 = .ok (.getfield 63, 3) := by decide +kernel
theorem dJx4a65c_fastRemove_b59b0_5 : decode cJx4a65c_fastRemove_b59b0 5 = .ok (.iconst 1, 1) := by decide +kernel
theorem dJx4a65c_fastRemove_b59b0_6 : decode cJx4a65c_fastRemove_b59b0 6 = .ok (.iadd, 1) := by decide +kernel
theorem dJx4a65c_fastRemove_b59b0_7 : decode cJx4a65c_fastRemove_b59b0 7 = .ok (.putfield 63, 3) := by decide +kernel
theorem dJx4a65c_fastRemove_b59b0_10 : decode cJx4a65c_fastRemove_b59b0 10 = .ok (.aload_n 0, 1) := by decide +kernel
theorem dJx4a65c_fastRemove_b59b0_11 : decode cJx4a65c_fastRemove_b59b0 11 = .ok (.getfield 48, 3) := by decide +kernel
theorem dJx4a65c_fastRemove_b59b0_14 : decode cJx4a65c_fastRemove_b59b0 14 = .ok (.iconst 1, 1) := by decide +kernel
theorem dJx4a65c_fastRemove_b59b0_15 : decode cJx4a65c_fastRemove_b59b0 15 = .ok (.isub, 1) := by decide +kernel
theorem dJx4a65c_fastRemove_b59b0_16 : decode cJx4a65c_fastRemove_b59b0 16 = .ok (.dup, 1) := by decide +kernel
theorem dJx4a65c_fastRemove_b59b0_17 : decode cJx4a65c_fastRemove_b59b0 17 = .ok (.istore_n 3, 1) := by decide +kernel
theorem dJx4a65c_fastRemove_b59b0_18 : decode cJx4a65c_fastRemove_b59b0 18 = .ok (.iload_n 2, 1) := by decide +kernel
theorem dJx4a65c_fastRemove_b59b0_19 : decode cJx4a65c_fastRemove_b59b0 19 = .ok (.if_icmp .le 15, 3) := by decide +kernel
theorem dJx4a65c_fastRemove_b59b0_22 : decode cJx4a65c_fastRemove_b59b0 22 = .ok (.aload_n 1, 1) := by decide +kernel
theorem dJx4a65c_fastRemove_b59b0_23 : decode cJx4a65c_fastRemove_b59b0 23 = .ok (.iload_n 2, 1) := by decide +kernel
theorem dJx4a65c_fastRemove_b59b0_24 : decode cJx4a65c_fastRemove_b59b0 24 = .ok (.iconst 1, 1) := by decide +kernel
theorem dJx4a65c_fastRemove_b59b0_25 : decode cJx4a65c_fastRemove_b59b0 25 = .ok (.iadd, 1) := by decide +kernel
theorem dJx4a65c_fastRemove_b59b0_26 : decode cJx4a65c_fastRemove_b59b0 26 = .ok (.aload_n 1, 1) := by decide +kernel
theorem dJx4a65c_fastRemove_b59b0_27 : decode cJx4a65c_fastRemove_b59b0 27 = .ok (.iload_n 2, 1) := by decide +kernel
theorem dJx4a65c_fastRemove_b59b0_28 : decode cJx4a65c_fastRemove_b59b0 28 = .ok (.iload_n 3, 1) := by decide +kernel
theorem dJx4a65c_fastRemove_b59b0_29 : decode cJx4a65c_fastRemove_b59b0 29 = .ok (.iload_n 2, 1) := by decide +kernel
theorem dJx4a65c_fastRemove_b59b0_30 : decode cJx4a65c_fastRemove_b59b0 30 = .ok (.isub, 1) := by decide +kernel
theorem dJx4a65c_fastRemove_b59b0_31 : decode cJx4a65c_fastRemove_b59b0 31 = .ok (.invokestatic 112, 3) := by decide +kernel
theorem dJx4a65c_fastRemove_b59b0_34 : decode cJx4a65c_fastRemove_b59b0 34 = .ok (.aload_n 1, 1) := by decide +kernel
theorem dJx4a65c_fastRemove_b59b0_35 : decode cJx4a65c_fastRemove_b59b0 35 = .ok (.aload_n 0, 1) := by decide +kernel
theorem dJx4a65c_fastRemove_b59b0_36 : decode cJx4a65c_fastRemove_b59b0 36 = .ok (.iload_n 3, 1) := by decide +kernel
theorem dJx4a65c_fastRemove_b59b0_37 : decode cJx4a65c_fastRemove_b59b0 37 = .ok (.dup_x1, 1) := by decide +kernel
theorem dJx4a65c_fastRemove_b59b0_38 : decode cJx4a65c_fastRemove_b59b0 38 = .ok (.putfield 48, 3) := by decide +kernel
theorem dJx4a65c_fastRemove_b59b0_41 : decode cJx4a65c_fastRemove_b59b0 41 = .ok (.aconst_null, 1) := by decide +kernel
theorem dJx4a65c_fastRemove_b59b0_42 : decode cJx4a65c_fastRemove_b59b0 42 = .ok (.aastore, 1) := by decide +kernel
theorem dJx4a65c_fastRemove_b59b0_43 : decode cJx4a65c_fastRemove_b59b0 43 = .ok (.return_, 1) := by decide +kernel
theorem dJ7_copyOf_1904c_0 : decode cJ7_copyOf_1904c 0 = .ok (.aload_n 0, 1) := by decide +kernel
theorem dJ7_copyOf_1904c_1 : decode cJ7_copyOf_1904c 1 = .ok (.iload_n 1, 1) := by decide +kernel
theorem dJ7_copyOf_1904c_2 : decode cJ7_copyOf_1904c 2 = .ok (.aload_n 0, 1) := by decide +kernel
theorem dJ7_copyOf_1904c_3 : decode cJ7_copyOf_1904c 3 = .ok (.invokevirtual 86, 3) := by decide +kernel
theorem dJ7_copyOf_1904c_6 : decode cJ7_copyOf_1904c 6 = .ok (.invokestatic 300, 3) := by decide +kernel
theorem dJ7_copyOf_1904c_9 : decode cJ7_copyOf_1904c 9 = .ok (.areturn, 1) := by decide +kernel
theorem dJ7_copyOf_6403c_0 : decode cJ7_copyOf_6403c 0 = .ok (.aload_n 2, 1) := by decide +kernel
theorem dJ7_copyOf_6403c_1 : decode cJ7_copyOf_6403c 1 = .ok (.ldc 110, 2) := by decide +kernel
theorem dJ7_copyOf_6403c_3 : decode cJ7_copyOf_6403c 3 = .ok (.if_acmp .ne 10, 3) := by decide +kernel
theorem dJ7_copyOf_6403c_6 : decode cJ7_copyOf_6403c 6 = .ok (.iload_n 1, 1) := by decide +kernel
theorem dJ7_copyOf_6403c_7 : decode cJ7_copyOf_6403c 7 = .ok (.anewarray 2, 3) := by decide +kernel
theorem dJ7_copyOf_6403c_10 : decode cJ7_copyOf_6403c 10 = .ok (.goto 14, 3) := by decide +kernel
theorem dJ7_copyOf_6403c_13 : decode cJ7_copyOf_6403c 13 = .ok (.aload_n 2, 1) := by decide +kernel
theorem dJ7_copyOf_6403c_14 : decode cJ7_copyOf_6403c 14 = .ok (.invokevirtual 90, 3) := by decide +kernel
theorem dJ7_copyOf_6403c_17 : decode cJ7_copyOf_6403c 17 = .ok (.iload_n 1, 1) := by decide +kernel
theorem dJ7_copyOf_6403c_18 : decode cJ7_copyOf_6403c 18 = .ok (.invokestatic 95, 3) := by decide +kernel
theorem dJ7_copyOf_6403c_21 : decode cJ7_copyOf_6403c 21 = .ok (.checkcast 110, 3) := by decide +kernel
theorem dJ7_copyOf_6403c_24 : decode cJ7_copyOf_6403c 24 = .ok (.astore_n 3, 1) := by decide +kernel
theorem dJ7_copyOf_6403c_25 : decode cJ7_copyOf_6403c 25 = .ok (.aload_n 0, 1) := by decide +kernel
theorem dJ7_copyOf_6403c_26 : decode cJ7_copyOf_6403c 26 = .ok (.iconst 0, 1) := by decide +kernel
theorem dJ7_copyOf_6403c_27 : decode cJ7_copyOf_6403c 27 = .ok (.aload_n 3, 1) := by decide +kernel
theorem dJ7_copyOf_6403c_28 : decode cJ7_copyOf_6403c 28 = .ok (.iconst 0, 1) := by decide +kernel
theorem dJ7_copyOf_6403c_29 : decode cJ7_copyOf_6403c 29 = .ok (.aload_n 0, 1) := by decide +kernel
theorem dJ7_copyOf_6403c_30 : decode cJ7_copyOf_6403c 30 = .ok (.arraylength, 1) := by decide +kernel
theorem dJ7_copyOf_6403c_31 : decode cJ7_copyOf_6403c 31 = .ok (.iload_n 1, 1) := by decide +kernel
theorem dJ7_copyOf_6403c_32 : decode cJ7_copyOf_6403c 32 = .ok (.invokestatic 304, 3) := by decide +kernel
theorem dJ7_copyOf_6403c_35 : decode cJ7_copyOf_6403c 35 = .ok (.invokestatic 150, 3) := by decide +kernel
theorem dJ7_copyOf_6403c_38 : decode cJ7_copyOf_6403c 38 = .ok (.aload_n 3, 1) := by decide +kernel
theorem dJ7_copyOf_6403c_39 : decode cJ7_copyOf_6403c 39 = .ok (.areturn, 1) := by decide +kernel
theorem dJ15_checkIndex_7cf53_0 : decode cJ15_checkIndex_7cf53 0 = .ok (.iload_n 0, 1) := by decide +kernel
theorem dJ15_checkIndex_7cf53_1 : decode cJ15_checkIndex_7cf53 1 = .ok (.iload_n 1, 1) := by decide +kernel
theorem dJ15_checkIndex_7cf53_2 : decode cJ15_checkIndex_7cf53 2 = .ok (.aconst_null, 1) := by decide +kernel
theorem dJ15_checkIndex_7cf53_3 : decode cJ15_checkIndex_7cf53 3 = .ok (.invokestatic 105, 3) := by decide +kernel
theorem dJ15_checkIndex_7cf53_6 : decode cJ15_checkIndex_7cf53 6 = .ok (.ireturn, 1) := by decide +kernel
theorem dJ8_newLength_cabcc_0 : decode cJ8_newLength_cabcc 0 = .ok (.iload_n 0, 1) := by decide +kernel
theorem dJ8_newLength_cabcc_1 : decode cJ8_newLength_cabcc 1 = .ok (.iload_n 1, 1) := by decide +kernel
theorem dJ8_newLength_cabcc_2 : decode cJ8_newLength_cabcc 2 = .ok (.iload_n 2, 1) := by decide +kernel
theorem dJ8_newLength_cabcc_3 : decode cJ8_newLength_cabcc 3 = .ok (.invokestatic 194, 3) := by decide +kernel
theorem dJ8_newLength_cabcc_6 : decode cJ8_newLength_cabcc 6 = .ok (.iadd, 1) := by decide +kernel
theorem dJ8_newLength_cabcc_7 : decode cJ8_newLength_cabcc 7 = .ok (.istore_n 3, 1) := by decide +kernel
theorem dJ8_newLength_cabcc_8 : decode cJ8_newLength_cabcc 8 = .ok (.iconst 0, 1) := by decide +kernel
theorem dJ8_newLength_cabcc_9 : decode cJ8_newLength_cabcc 9 = .ok (.iload_n 3, 1) := by decide +kernel
theorem dJ8_newLength_cabcc_10 : decode cJ8_newLength_cabcc 10 = .ok (.if_icmp .ge 11, 3) := by decide +kernel
theorem dJ8_newLength_cabcc_13 : decode cJ8_newLength_cabcc 13 = .ok (.iload_n 3, 1) := by decide +kernel
theorem dJ8_newLength_cabcc_14 : decode cJ8_newLength_cabcc 14 = .ok (.ldc 200, 2) := by decide +kernel
theorem dJ8_newLength_cabcc_16 : decode cJ8_newLength_cabcc 16 = .ok (.if_icmp .gt 5, 3) := by decide +kernel
theorem dJ8_newLength_cabcc_19 : decode cJ8_newLength_cabcc 19 = .ok (.iload_n 3, 1) := by decide +kernel
theorem dJ8_newLength_cabcc_20 : decode cJ8_newLength_cabcc 20 = .ok (.ireturn, 1) := by decide +kernel
theorem dJ8_newLength_cabcc_21 : decode cJ8_newLength_cabcc 21 = .ok (.iload_n 0, 1) := by decide +kernel
theorem dJ8_newLength_cabcc_22 : decode cJ8_newLength_cabcc 22 = .ok (.iload_n 1, 1) := by decide +kernel
theorem dJ8_newLength_cabcc_23 : decode cJ8_newLength_cabcc 23 = .ok (.invokestatic 201, 3) := by decide +kernel
theorem dJ8_newLength_cabcc_26 : decode cJ8_newLength_cabcc 26 = .ok (.ireturn, 1) := by decide +kernel
theorem dJ8_hugeLength_7cf53_0 : decode cJ8_hugeLength_7cf53 0 = .ok (.iload_n 0, 1) := by decide +kernel
theorem dJ8_hugeLength_7cf53_1 : decode cJ8_hugeLength_7cf53 1 = .ok (.iload_n 1, 1) := by decide +kernel
theorem dJ8_hugeLength_7cf53_2 : decode cJ8_hugeLength_7cf53 2 = .ok (.iadd, 1) := by decide +kernel
theorem dJ8_hugeLength_7cf53_3 : decode cJ8_hugeLength_7cf53 3 = .ok (.istore_n 2, 1) := by decide +kernel
theorem dJ8_hugeLength_7cf53_4 : decode cJ8_hugeLength_7cf53 4 = .ok (.iload_n 2, 1) := by decide +kernel
theorem dJ8_hugeLength_7cf53_5 : decode cJ8_hugeLength_7cf53 5 = .ok (.ifCond .ge 44, 3) := by decide +kernel
theorem dJ8_hugeLength_7cf53_8 : decode cJ8_hugeLength_7cf53 8 = .ok (.new 204, 3) := by decide +kernel
theorem dJ8_hugeLength_7cf53_11 : decode cJ8_hugeLength_7cf53 11 = .ok (.dup, 1) := by decide +kernel
theorem dJ8_hugeLength_7cf53_12 : decode cJ8_hugeLength_7cf53 12 = .ok (.new 89, 3) := by decide +kernel
theorem dJ8_hugeLength_7cf53_15 : decode cJ8_hugeLength_7cf53 15 = .ok (.dup, 1) := by decide +kernel
theorem dJ8_hugeLength_7cf53_16 : decode cJ8_hugeLength_7cf53 16 = .ok (.invokespecial 91, 3) := by decide +kernel
theorem dJ8_hugeLength_7cf53_19 : decode cJ8_hugeLength_7cf53 19 = .ok (.ldc 206, 2) := by decide +kernel
theorem dJ8_hugeLength_7cf53_21 : decode cJ8_hugeLength_7cf53 21 = .ok (.invokevirtual 94, 3) := by decide +kernel
theorem dJ8_hugeLength_7cf53_24 : decode cJ8_hugeLength_7cf53 24 = .ok (.iload_n 0, 1) := by decide +kernel
theorem dJ8_hugeLength_7cf53_25 : decode cJ8_hugeLength_7cf53 25 = .ok (.invokevirtual 98, 3) := by decide +kernel
theorem dJ8_hugeLength_7cf53_28 : decode cJ8_hugeLength_7cf53 28 = .ok (.ldc 208, 2) := by decide +kernel
theorem dJ8_hugeLength_7cf53_30 : decode cJ8_hugeLength_7cf53 30 = .ok (.invokevirtual 94, 3) := by decide +kernel
theorem dJ8_hugeLength_7cf53_33 : decode cJ8_hugeLength_7cf53 33 = .ok (.iload_n 1, 1) := by decide +kernel
theorem dJ8_hugeLength_7cf53_34 : decode cJ8_hugeLength_7cf53 34 = .ok (.invokevirtual 98, 3) := by decide +kernel
theorem dJ8_hugeLength_7cf53_37 : decode cJ8_hugeLength_7cf53 37 = .ok (.ldc 210, 2) := by decide +kernel
theorem dJ8_hugeLength_7cf53_39 : decode cJ8_hugeLength_7cf53 39 = .ok (.invokevirtual 94, 3) := by decide +kernel
theorem dJ8_hugeLength_7cf53_42 : decode cJ8_hugeLength_7cf53 42 = .ok (.invokevirtual 101, 3) := by decide +kernel
theorem dJ8_hugeLength_7cf53_45 : decode cJ8_hugeLength_7cf53 45 = .ok (.invokespecial 212, 3) := by decide +kernel
theorem dJ8_hugeLength_7cf53_48 : decode cJ8_hugeLength_7cf53 48 = .ok (.athrow, 1) := by decide +kernel
theorem dJ8_hugeLength_7cf53_49 : decode cJ8_hugeLength_7cf53 49 = .ok (.iload_n 2, 1) := by decide +kernel
theorem dJ8_hugeLength_7cf53_50 : decode cJ8_hugeLength_7cf53 50 = .ok (.ldc 200, 2) := by decide +kernel
theorem dJ8_hugeLength_7cf53_52 : decode cJ8_hugeLength_7cf53 52 = .ok (.if_icmp .gt 6, 3) := by decide +kernel
theorem dJ8_hugeLength_7cf53_55 : decode cJ8_hugeLength_7cf53 55 = .ok (.ldc 200, 2) := by decide +kernel
theorem dJ8_hugeLength_7cf53_57 : decode cJ8_hugeLength_7cf53 57 = .ok (.ireturn, 1) := by decide +kernel
theorem dJ8_hugeLength_7cf53_58 : decode cJ8_hugeLength_7cf53 58 = .ok (.iload_n 2, 1) := by decide +kernel
theorem dJ8_hugeLength_7cf53_59 : decode cJ8_hugeLength_7cf53 59 = .ok (.ireturn, 1) := by decide +kernel
theorem dJ3_checkIndex_8e157_0 : decode cJ3_checkIndex_8e157 0 = .ok (.iload_n 0, 1) := by decide +kernel
theorem dJ3_checkIndex_8e157_1 : decode cJ3_checkIndex_8e157 1 = .ok (.ifCond .lt 8, 3) := by decide +kernel
theorem dJ3_checkIndex_8e157_4 : decode cJ3_checkIndex_8e157 4 = .ok (.iload_n 0, 1) := by decide +kernel
theorem dJ3_checkIndex_8e157_5 : decode cJ3_checkIndex_8e157 5 = .ok (.iload_n 1, 1) := by decide +kernel
theorem dJ3_checkIndex_8e157_6 : decode cJ3_checkIndex_8e157 6 = .ok (.if_icmp .lt 10, 3) := by decide +kernel
theorem dJ3_checkIndex_8e157_9 : decode cJ3_checkIndex_8e157 9 = .ok (.aload_n 2, 1) := by decide +kernel
theorem dJ3_checkIndex_8e157_10 : decode cJ3_checkIndex_8e157 10 = .ok (.iload_n 0, 1) := by decide +kernel
theorem dJ3_checkIndex_8e157_11 : decode cJ3_checkIndex_8e157 11 = .ok (.iload_n 1, 1) := by decide +kernel
theorem dJ3_checkIndex_8e157_12 : decode cJ3_checkIndex_8e157 12 = .ok (.invokestatic 95, 3) := by decide +kernel
theorem dJ3_checkIndex_8e157_15 : decode cJ3_checkIndex_8e157 15 = .ok (.athrow, 1) := by decide +kernel
theorem dJ3_checkIndex_8e157_16 : decode cJ3_checkIndex_8e157 16 = .ok (.iload_n 0, 1) := by decide +kernel
theorem dJ3_checkIndex_8e157_17 : decode cJ3_checkIndex_8e157 17 = .ok (.ireturn, 1) := by decide +kernel
