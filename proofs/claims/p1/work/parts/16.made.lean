theorem dX0_init_0 : decode cX0_init 0 = .ok (.aload_n 0, 1) := by decide +kernel
theorem dX0_init_1 : decode cX0_init 1 = .ok (.invokespecial 1, 3) := by decide +kernel
theorem dX0_init_4 : decode cX0_init 4 = .ok (.aload_n 0, 1) := by decide +kernel
theorem dX0_init_5 : decode cX0_init 5 = .ok (.bipush 99, 2) := by decide +kernel
theorem dX0_init_7 : decode cX0_init 7 = .ok (.putfield 7, 3) := by decide +kernel
theorem dX0_init_10 : decode cX0_init 10 = .ok (.aload_n 0, 1) := by decide +kernel
theorem dX0_init_11 : decode cX0_init 11 = .ok (.iconst 0, 1) := by decide +kernel
theorem dX0_init_12 : decode cX0_init 12 = .ok (.putfield 13, 3) := by decide +kernel
theorem dX0_init_15 : decode cX0_init 15 = .ok (.aload_n 0, 1) := by decide +kernel
theorem dX0_init_16 : decode cX0_init 16 = .ok (.iconst 0, 1) := by decide +kernel
theorem dX0_init_17 : decode cX0_init 17 = .ok (.putfield 17, 3) := by decide +kernel
theorem dX0_init_20 : decode cX0_init 20 = .ok (.aload_n 0, 1) := by decide +kernel
theorem dX0_init_21 : decode cX0_init 21 = .ok (.iconst 0, 1) := by decide +kernel
theorem dX0_init_22 : decode cX0_init 22 = .ok (.putfield 20, 3) := by decide +kernel
theorem dX0_init_25 : decode cX0_init 25 = .ok (.aload_n 0, 1) := by decide +kernel
theorem dX0_init_26 : decode cX0_init 26 = .ok (.iconst 0, 1) := by decide +kernel
theorem dX0_init_27 : decode cX0_init 27 = .ok (.putfield 23, 3) := by decide +kernel
theorem dX0_init_30 : decode cX0_init 30 = .ok (.return_, 1) := by decide +kernel
theorem dX1_init_0 : decode cX1_init 0 = .ok (.aload_n 0, 1) := by decide +kernel
theorem dX1_init_1 : decode cX1_init 1 = .ok (.invokespecial 1, 3) := by decide +kernel
theorem dX1_init_4 : decode cX1_init 4 = .ok (.aload_n 0, 1) := by decide +kernel
theorem dX1_init_5 : decode cX1_init 5 = .ok (.getstatic 7, 3) := by decide +kernel
theorem dX1_init_8 : decode cX1_init 8 = .ok (.putfield 13, 3) := by decide +kernel
theorem dX1_init_11 : decode cX1_init 11 = .ok (.aload_n 0, 1) := by decide +kernel
theorem dX1_init_12 : decode cX1_init 12 = .ok (.iconst 0, 1) := by decide +kernel
theorem dX1_init_13 : decode cX1_init 13 = .ok (.putfield 18, 3) := by decide +kernel
theorem dX1_init_16 : decode cX1_init 16 = .ok (.aload_n 0, 1) := by decide +kernel
theorem dX1_init_17 : decode cX1_init 17 = .ok (.iconst 0, 1) := by decide +kernel
theorem dX1_init_18 : decode cX1_init 18 = .ok (.putfield 22, 3) := by decide +kernel
theorem dX1_init_21 : decode cX1_init 21 = .ok (.return_, 1) := by decide +kernel
theorem dX2_init_0 : decode cX2_init 0 = .ok (.aload_n 0, 1) := by decide +kernel
theorem dX2_init_1 : decode cX2_init 1 = .ok (.invokespecial 3, 3) := by decide +kernel
theorem dX2_init_4 : decode cX2_init 4 = .ok (.aload_n 0, 1) := by decide +kernel
theorem dX2_init_5 : decode cX2_init 5 = .ok (.iconst 0, 1) := by decide +kernel
theorem dX2_init_6 : decode cX2_init 6 = .ok (.putfield 9, 3) := by decide +kernel
theorem dX2_init_9 : decode cX2_init 9 = .ok (.aload_n 0, 1) := by decide +kernel
theorem dX2_init_10 : decode cX2_init 10 = .ok (.iconst 0, 1) := by decide +kernel
theorem dX2_init_11 : decode cX2_init 11 = .ok (.putfield 15, 3) := by decide +kernel
theorem dX2_init_14 : decode cX2_init 14 = .ok (.aload_n 0, 1) := by decide +kernel
theorem dX2_init_15 : decode cX2_init 15 = .ok (.iconst (-1), 1) := by decide +kernel
theorem dX2_init_16 : decode cX2_init 16 = .ok (.putfield 18, 3) := by decide +kernel
theorem dX2_init_19 : decode cX2_init 19 = .ok (.aload_n 0, 1) := by decide +kernel
theorem dX2_init_20 : decode cX2_init 20 = .ok (.iconst 0, 1) := by decide +kernel
theorem dX2_init_21 : decode cX2_init 21 = .ok (.putfield 21, 3) := by decide +kernel
theorem dX2_init_24 : decode cX2_init 24 = .ok (.aload_n 0, 1) := by decide +kernel
theorem dX2_init_25 : decode cX2_init 25 = .ok (.iconst 0, 1) := by decide +kernel
theorem dX2_init_26 : decode cX2_init 26 = .ok (.putfield 24, 3) := by decide +kernel
theorem dX2_init_29 : decode cX2_init 29 = .ok (.return_, 1) := by decide +kernel
theorem dX4_init_0 : decode cX4_init 0 = .ok (.aload_n 0, 1) := by decide +kernel
theorem dX4_init_1 : decode cX4_init 1 = .ok (.invokespecial 3, 3) := by decide +kernel
theorem dX4_init_4 : decode cX4_init 4 = .ok (.aload_n 0, 1) := by decide +kernel
theorem dX4_init_5 : decode cX4_init 5 = .ok (.iconst 0, 1) := by decide +kernel
theorem dX4_init_6 : decode cX4_init 6 = .ok (.putfield 9, 3) := by decide +kernel
theorem dX4_init_9 : decode cX4_init 9 = .ok (.aload_n 0, 1) := by decide +kernel
theorem dX4_init_10 : decode cX4_init 10 = .ok (.iconst 0, 1) := by decide +kernel
theorem dX4_init_11 : decode cX4_init 11 = .ok (.putfield 15, 3) := by decide +kernel
theorem dX4_init_14 : decode cX4_init 14 = .ok (.aload_n 0, 1) := by decide +kernel
theorem dX4_init_15 : decode cX4_init 15 = .ok (.iconst 0, 1) := by decide +kernel
theorem dX4_init_16 : decode cX4_init 16 = .ok (.putfield 18, 3) := by decide +kernel
theorem dX4_init_19 : decode cX4_init 19 = .ok (.aload_n 0, 1) := by decide +kernel
theorem dX4_init_20 : decode cX4_init 20 = .ok (.iconst 0, 1) := by decide +kernel
theorem dX4_init_21 : decode cX4_init 21 = .ok (.putfield 21, 3) := by decide +kernel
theorem dX4_init_24 : decode cX4_init 24 = .ok (.aload_n 0, 1) := by decide +kernel
theorem dX4_init_25 : decode cX4_init 25 = .ok (.iconst (-1), 1) := by decide +kernel
theorem dX4_init_26 : decode cX4_init 26 = .ok (.putfield 24, 3) := by decide +kernel
theorem dX4_init_29 : decode cX4_init 29 = .ok (.aload_n 0, 1) := by decide +kernel
theorem dX4_init_30 : decode cX4_init 30 = .ok (.iconst (-1), 1) := by decide +kernel
theorem dX4_init_31 : decode cX4_init 31 = .ok (.putfield 27, 3) := by decide +kernel
theorem dX4_init_34 : decode cX4_init 34 = .ok (.return_, 1) := by decide +kernel
theorem dX5_init_0 : decode cX5_init 0 = .ok (.aload_n 0, 1) := by decide +kernel
theorem dX5_init_1 : decode cX5_init 1 = .ok (.invokespecial 3, 3) := by decide +kernel
theorem dX5_init_4 : decode cX5_init 4 = .ok (.aload_n 0, 1) := by decide +kernel
theorem dX5_init_5 : decode cX5_init 5 = .ok (.sipush 300, 3) := by decide +kernel
theorem dX5_init_8 : decode cX5_init 8 = .ok (.newarray .long, 2) := by decide +kernel
theorem dX5_init_10 : decode cX5_init 10 = .ok (.putfield 9, 3) := by decide +kernel
theorem dX5_init_13 : decode cX5_init 13 = .ok (.aload_n 0, 1) := by decide +kernel
theorem dX5_init_14 : decode cX5_init 14 = .ok (.sipush 2700, 3) := by decide +kernel
theorem dX5_init_17 : decode cX5_init 17 = .ok (.newarray .int, 2) := by decide +kernel
theorem dX5_init_19 : decode cX5_init 19 = .ok (.putfield 15, 3) := by decide +kernel
theorem dX5_init_22 : decode cX5_init 22 = .ok (.aload_n 0, 1) := by decide +kernel
theorem dX5_init_23 : decode cX5_init 23 = .ok (.sipush 300, 3) := by decide +kernel
theorem dX5_init_26 : decode cX5_init 26 = .ok (.newarray .int, 2) := by decide +kernel
theorem dX5_init_28 : decode cX5_init 28 = .ok (.putfield 19, 3) := by decide +kernel
theorem dX5_init_31 : decode cX5_init 31 = .ok (.aload_n 0, 1) := by decide +kernel
theorem dX5_init_32 : decode cX5_init 32 = .ok (.sipush 300, 3) := by decide +kernel
theorem dX5_init_35 : decode cX5_init 35 = .ok (.newarray .long, 2) := by decide +kernel
theorem dX5_init_37 : decode cX5_init 37 = .ok (.putfield 22, 3) := by decide +kernel
theorem dX5_init_40 : decode cX5_init 40 = .ok (.aload_n 0, 1) := by decide +kernel
theorem dX5_init_41 : decode cX5_init 41 = .ok (.bipush 9, 2) := by decide +kernel
theorem dX5_init_43 : decode cX5_init 43 = .ok (.newarray .int, 2) := by decide +kernel
theorem dX5_init_45 : decode cX5_init 45 = .ok (.putfield 25, 3) := by decide +kernel
theorem dX5_init_48 : decode cX5_init 48 = .ok (.aload_n 0, 1) := by decide +kernel
theorem dX5_init_49 : decode cX5_init 49 = .ok (.iconst 0, 1) := by decide +kernel
theorem dX5_init_50 : decode cX5_init 50 = .ok (.putfield 28, 3) := by decide +kernel
theorem dX5_init_53 : decode cX5_init 53 = .ok (.aload_n 0, 1) := by decide +kernel
theorem dX5_init_54 : decode cX5_init 54 = .ok (.iconst 0, 1) := by decide +kernel
theorem dX5_init_55 : decode cX5_init 55 = .ok (.putfield 32, 3) := by decide +kernel
theorem dX5_init_58 : decode cX5_init 58 = .ok (.aload_n 0, 1) := by decide +kernel
theorem dX5_init_59 : decode cX5_init 59 = .ok (.iconst 0, 1) := by decide +kernel
theorem dX5_init_60 : decode cX5_init 60 = .ok (.putfield 35, 3) := by decide +kernel
theorem dX5_init_63 : decode cX5_init 63 = .ok (.aload_n 0, 1) := by decide +kernel
theorem dX5_init_64 : decode cX5_init 64 = .ok (.iconst 0, 1) := by decide +kernel
theorem dX5_init_65 : decode cX5_init 65 = .ok (.putfield 38, 3) := by decide +kernel
theorem dX5_init_68 : decode cX5_init 68 = .ok (.aload_n 0, 1) := by decide +kernel
theorem dX5_init_69 : decode cX5_init 69 = .ok (.lconst 0, 1) := by decide +kernel
theorem dX5_init_70 : decode cX5_init 70 = .ok (.putfield 41, 3) := by decide +kernel
theorem dX5_init_73 : decode cX5_init 73 = .ok (.aload_n 0, 1) := by decide +kernel
theorem dX5_init_74 : decode cX5_init 74 = .ok (.iconst 0, 1) := by decide +kernel
theorem dX5_init_75 : decode cX5_init 75 = .ok (.putfield 45, 3) := by decide +kernel
theorem dX5_init_78 : decode cX5_init 78 = .ok (.aload_n 0, 1) := by decide +kernel
theorem dX5_init_79 : decode cX5_init 79 = .ok (.iconst 0, 1) := by decide +kernel
theorem dX5_init_80 : decode cX5_init 80 = .ok (.putfield 49, 3) := by decide +kernel
theorem dX5_init_83 : decode cX5_init 83 = .ok (.aload_n 0, 1) := by decide +kernel
theorem dX5_init_84 : decode cX5_init 84 = .ok (.iconst 0, 1) := by decide +kernel
theorem dX5_init_85 : decode cX5_init 85 = .ok (.putfield 52, 3) := by decide +kernel
theorem dX5_init_88 : decode cX5_init 88 = .ok (.return_, 1) := by decide +kernel
theorem dX6_init_0 : decode cX6_init 0 = .ok (.aload_n 0, 1) := by decide +kernel
theorem dX6_init_1 : decode cX6_init 1 = .ok (.invokespecial 3, 3) := by decide +kernel
theorem dX6_init_4 : decode cX6_init 4 = .ok (.aload_n 0, 1) := by decide +kernel
theorem dX6_init_5 : decode cX6_init 5 = .ok (.iconst 0, 1) := by decide +kernel
theorem dX6_init_6 : decode cX6_init 6 = .ok (.anewarray 9, 3) := by decide +kernel
theorem dX6_init_9 : decode cX6_init 9 = .ok (.putfield 11, 3) := by decide +kernel
theorem dX6_init_12 : decode cX6_init 12 = .ok (.aload_n 0, 1) := by decide +kernel
theorem dX6_init_13 : decode cX6_init 13 = .ok (.new 17, 3) := by decide +kernel
theorem dX6_init_16 : decode cX6_init 16 = .ok (.dup, 1) := by decide +kernel
theorem dX6_init_17 : decode cX6_init 17 = .ok (.invokespecial 19, 3) := by decide +kernel
theorem dX6_init_20 : decode cX6_init 20 = .ok (.putfield 20, 3) := by decide +kernel
theorem dX6_init_23 : decode cX6_init 23 = .ok (.aload_n 0, 1) := by decide +kernel
theorem dX6_init_24 : decode cX6_init 24 = .ok (.iconst 5, 1) := by decide +kernel
theorem dX6_init_25 : decode cX6_init 25 = .ok (.newarray .int, 2) := by decide +kernel
theorem dX6_init_27 : decode cX6_init 27 = .ok (.putfield 24, 3) := by decide +kernel
theorem dX6_init_30 : decode cX6_init 30 = .ok (.aload_n 0, 1) := by decide +kernel
theorem dX6_init_31 : decode cX6_init 31 = .ok (.iconst 5, 1) := by decide +kernel
theorem dX6_init_32 : decode cX6_init 32 = .ok (.newarray .int, 2) := by decide +kernel
theorem dX6_init_34 : decode cX6_init 34 = .ok (.putfield 28, 3) := by decide +kernel
theorem dX6_init_37 : decode cX6_init 37 = .ok (.aload_n 0, 1) := by decide +kernel
theorem dX6_init_38 : decode cX6_init 38 = .ok (.iconst 5, 1) := by decide +kernel
theorem dX6_init_39 : decode cX6_init 39 = .ok (.newarray .int, 2) := by decide +kernel
theorem dX6_init_41 : decode cX6_init 41 = .ok (.putfield 31, 3) := by decide +kernel
theorem dX6_init_44 : decode cX6_init 44 = .ok (.aload_n 0, 1) := by decide +kernel
theorem dX6_init_45 : decode cX6_init 45 = .ok (.lconst 0, 1) := by decide +kernel
theorem dX6_init_46 : decode cX6_init 46 = .ok (.putfield 34, 3) := by decide +kernel
theorem dX6_init_49 : decode cX6_init 49 = .ok (.aload_n 0, 1) := by decide +kernel
theorem dX6_init_50 : decode cX6_init 50 = .ok (.bipush 9, 2) := by decide +kernel
theorem dX6_init_52 : decode cX6_init 52 = .ok (.newarray .long, 2) := by decide +kernel
theorem dX6_init_54 : decode cX6_init 54 = .ok (.putfield 38, 3) := by decide +kernel
theorem dX6_init_57 : decode cX6_init 57 = .ok (.aload_n 0, 1) := by decide +kernel
theorem dX6_init_58 : decode cX6_init 58 = .ok (.bipush 9, 2) := by decide +kernel
theorem dX6_init_60 : decode cX6_init 60 = .ok (.newarray .int, 2) := by decide +kernel
theorem dX6_init_62 : decode cX6_init 62 = .ok (.putfield 42, 3) := by decide +kernel
theorem dX6_init_65 : decode cX6_init 65 = .ok (.aload_n 0, 1) := by decide +kernel
theorem dX6_init_66 : decode cX6_init 66 = .ok (.iconst 0, 1) := by decide +kernel
theorem dX6_init_67 : decode cX6_init 67 = .ok (.putfield 45, 3) := by decide +kernel
theorem dX6_init_70 : decode cX6_init 70 = .ok (.aload_n 0, 1) := by decide +kernel
theorem dX6_init_71 : decode cX6_init 71 = .ok (.iconst 0, 1) := by decide +kernel
theorem dX6_init_72 : decode cX6_init 72 = .ok (.putfield 49, 3) := by decide +kernel
theorem dX6_init_75 : decode cX6_init 75 = .ok (.return_, 1) := by decide +kernel
theorem dX8_init_0 : decode cX8_init 0 = .ok (.aload_n 0, 1) := by decide +kernel
theorem dX8_init_1 : decode cX8_init 1 = .ok (.invokespecial 3, 3) := by decide +kernel
theorem dX8_init_4 : decode cX8_init 4 = .ok (.aload_n 0, 1) := by decide +kernel
theorem dX8_init_5 : decode cX8_init 5 = .ok (.iconst 5, 1) := by decide +kernel
theorem dX8_init_6 : decode cX8_init 6 = .ok (.newarray .int, 2) := by decide +kernel
theorem dX8_init_8 : decode cX8_init 8 = .ok (.putfield 9, 3) := by decide +kernel
theorem dX8_init_11 : decode cX8_init 11 = .ok (.aload_n 0, 1) := by decide +kernel
theorem dX8_init_12 : decode cX8_init 12 = .ok (.iconst 5, 1) := by decide +kernel
theorem dX8_init_13 : decode cX8_init 13 = .ok (.newarray .int, 2) := by decide +kernel
theorem dX8_init_15 : decode cX8_init 15 = .ok (.putfield 15, 3) := by decide +kernel
theorem dX8_init_18 : decode cX8_init 18 = .ok (.aload_n 0, 1) := by decide +kernel
theorem dX8_init_19 : decode cX8_init 19 = .ok (.iconst 0, 1) := by decide +kernel
theorem dX8_init_20 : decode cX8_init 20 = .ok (.putfield 18, 3) := by decide +kernel
theorem dX8_init_23 : decode cX8_init 23 = .ok (.aload_n 0, 1) := by decide +kernel
theorem dX8_init_24 : decode cX8_init 24 = .ok (.iconst 0, 1) := by decide +kernel
theorem dX8_init_25 : decode cX8_init 25 = .ok (.putfield 22, 3) := by decide +kernel
theorem dX8_init_28 : decode cX8_init 28 = .ok (.aload_n 0, 1) := by decide +kernel
theorem dX8_init_29 : decode cX8_init 29 = .ok (.lconst 0, 1) := by decide +kernel
theorem dX8_init_30 : decode cX8_init 30 = .ok (.putfield 25, 3) := by decide +kernel
theorem dX8_init_33 : decode cX8_init 33 = .ok (.return_, 1) := by decide +kernel
theorem dX9_init_0 : decode cX9_init 0 = .ok (.aload_n 0, 1) := by decide +kernel
theorem dX9_init_1 : decode cX9_init 1 = .ok (.invokespecial 3, 3) := by decide +kernel
theorem dX9_init_4 : decode cX9_init 4 = .ok (.aload_n 0, 1) := by decide +kernel
theorem dX9_init_5 : decode cX9_init 5 = .ok (.iconst 0, 1) := by decide +kernel
theorem dX9_init_6 : decode cX9_init 6 = .ok (.putfield 9, 3) := by decide +kernel
theorem dX9_init_9 : decode cX9_init 9 = .ok (.aload_n 0, 1) := by decide +kernel
theorem dX9_init_10 : decode cX9_init 10 = .ok (.iconst 0, 1) := by decide +kernel
theorem dX9_init_11 : decode cX9_init 11 = .ok (.putfield 15, 3) := by decide +kernel
theorem dX9_init_14 : decode cX9_init 14 = .ok (.aload_n 0, 1) := by decide +kernel
theorem dX9_init_15 : decode cX9_init 15 = .ok (.iconst 0, 1) := by decide +kernel
theorem dX9_init_16 : decode cX9_init 16 = .ok (.putfield 18, 3) := by decide +kernel
theorem dX9_init_19 : decode cX9_init 19 = .ok (.aload_n 0, 1) := by decide +kernel
theorem dX9_init_20 : decode cX9_init 20 = .ok (.iconst 0, 1) := by decide +kernel
theorem dX9_init_21 : decode cX9_init 21 = .ok (.putfield 21, 3) := by decide +kernel
theorem dX9_init_24 : decode cX9_init 24 = .ok (.aload_n 0, 1) := by decide +kernel
theorem dX9_init_25 : decode cX9_init 25 = .ok (.bipush 9, 2) := by decide +kernel
theorem dX9_init_27 : decode cX9_init 27 = .ok (.anewarray 24, 3) := by decide +kernel
theorem dX9_init_30 : decode cX9_init 30 = .ok (.putfield 26, 3) := by decide +kernel
theorem dX9_init_33 : decode cX9_init 33 = .ok (.aload_n 0, 1) := by decide +kernel
theorem dX9_init_34 : decode cX9_init 34 = .ok (.iconst 5, 1) := by decide +kernel
theorem dX9_init_35 : decode cX9_init 35 = .ok (.newarray .int, 2) := by decide +kernel
theorem dX9_init_37 : decode cX9_init 37 = .ok (.putfield 30, 3) := by decide +kernel
theorem dX9_init_40 : decode cX9_init 40 = .ok (.aload_n 0, 1) := by decide +kernel
theorem dX9_init_41 : decode cX9_init 41 = .ok (.iconst 5, 1) := by decide +kernel
theorem dX9_init_42 : decode cX9_init 42 = .ok (.newarray .boolean, 2) := by decide +kernel
theorem dX9_init_44 : decode cX9_init 44 = .ok (.putfield 34, 3) := by decide +kernel
theorem dX9_init_47 : decode cX9_init 47 = .ok (.iconst 0, 1) := by decide +kernel
theorem dX9_init_48 : decode cX9_init 48 = .ok (.istore_n 1, 1) := by decide +kernel
theorem dX9_init_49 : decode cX9_init 49 = .ok (.iload_n 1, 1) := by decide +kernel
theorem dX9_init_50 : decode cX9_init 50 = .ok (.bipush 9, 2) := by decide +kernel
theorem dX9_init_52 : decode cX9_init 52 = .ok (.if_icmp .ge 22, 3) := by decide +kernel
theorem dX9_init_55 : decode cX9_init 55 = .ok (.aload_n 0, 1) := by decide +kernel
theorem dX9_init_56 : decode cX9_init 56 = .ok (.getfield 26, 3) := by decide +kernel
theorem dX9_init_59 : decode cX9_init 59 = .ok (.iload_n 1, 1) := by decide +kernel
theorem dX9_init_60 : decode cX9_init 60 = .ok (.new 24, 3) := by decide +kernel
theorem dX9_init_63 : decode cX9_init 63 = .ok (.dup, 1) := by decide +kernel
theorem dX9_init_64 : decode cX9_init 64 = .ok (.invokespecial 38, 3) := by decide +kernel
theorem dX9_init_67 : decode cX9_init 67 = .ok (.aastore, 1) := by decide +kernel
theorem dX9_init_68 : decode cX9_init 68 = .ok (.iinc 1 1, 3) := by decide +kernel
theorem dX9_init_71 : decode cX9_init 71 = .ok (.goto (-22), 3) := by decide +kernel
theorem dX9_init_74 : decode cX9_init 74 = .ok (.return_, 1) := by decide +kernel
theorem m_3 : (Cond.initialized "Theatrehouse$Work") ∈ lw_all := lw_in 3 (by decide +kernel) (by decide +kernel)
theorem m_4 : (Cond.initialized "Theatrehouse$Cue") ∈ lw_all := lw_in 4 (by decide +kernel) (by decide +kernel)
theorem m_84 : (Cond.methodLink "Theatrehouse$Show" 3 ⟨"java/lang/Object", "<init>", "()V"⟩) ∈ lw_all := lw_in 84 (by decide +kernel) (by decide +kernel)
theorem m_85 : (Cond.classLink "Theatrehouse$Show" 9 "Theatrehouse$Machine") ∈ lw_all := lw_in 85 (by decide +kernel) (by decide +kernel)
theorem m_86 : (Cond.classLink "Theatrehouse$Show" 17 "Theatrehouse$Work") ∈ lw_all := lw_in 86 (by decide +kernel) (by decide +kernel)
theorem m_87 : (Cond.instantiable "Theatrehouse$Work" 7) ∈ lw_all := lw_in 87 (by decide +kernel) (by decide +kernel)
theorem m_88 : (Cond.methodLink "Theatrehouse$Show" 19 ⟨"Theatrehouse$Work", "<init>", "()V"⟩) ∈ lw_all := lw_in 88 (by decide +kernel) (by decide +kernel)
theorem m_89 : (Cond.instanceMethod ⟨"Theatrehouse$Work", "<init>", "()V"⟩) ∈ lw_all := lw_in 89 (by decide +kernel) (by decide +kernel)
theorem m_90 : (Cond.code ⟨"Theatrehouse$Work", "<init>", "()V"⟩ prog_11_method_1_code 2 (Option.none : Option Jvm.ClassFile.FieldType)) ∈ lw_all := lw_in 90 (by decide +kernel) (by decide +kernel)
theorem m_91 : (Cond.methodLink "Theatrehouse$Work" 3 ⟨"java/lang/Object", "<init>", "()V"⟩) ∈ lw_all := lw_in 91 (by decide +kernel) (by decide +kernel)
theorem m_92 : (Cond.classLink "Theatrehouse$Work" 24 "Theatrehouse$Cue") ∈ lw_all := lw_in 92 (by decide +kernel) (by decide +kernel)
theorem m_94 : (Cond.instantiable "Theatrehouse$Cue" 5) ∈ lw_all := lw_in 94 (by decide +kernel) (by decide +kernel)
theorem m_96 : (Cond.instanceMethod ⟨"Theatrehouse$Cue", "<init>", "()V"⟩) ∈ lw_all := lw_in 96 (by decide +kernel) (by decide +kernel)
theorem m_97 : (Cond.code ⟨"Theatrehouse$Cue", "<init>", "()V"⟩ prog_2_method_1_code 1 (Option.none : Option Jvm.ClassFile.FieldType)) ∈ lw_all := lw_in 97 (by decide +kernel) (by decide +kernel)
theorem m_98 : (Cond.methodLink "Theatrehouse$Cue" 1 ⟨"java/lang/Object", "<init>", "()V"⟩) ∈ lw_all := lw_in 98 (by decide +kernel) (by decide +kernel)
theorem m_99 : (Cond.fieldLink "Theatrehouse$Cue" 7 "Theatrehouse$Cue" "kind" "C") ∈ lw_all := lw_in 99 (by decide +kernel) (by decide +kernel)
theorem m_102 : (Cond.fieldLink "Theatrehouse$Cue" 13 "Theatrehouse$Cue" "a" "I") ∈ lw_all := lw_in 102 (by decide +kernel) (by decide +kernel)
theorem m_105 : (Cond.fieldLink "Theatrehouse$Cue" 17 "Theatrehouse$Cue" "b" "I") ∈ lw_all := lw_in 105 (by decide +kernel) (by decide +kernel)
theorem m_108 : (Cond.fieldLink "Theatrehouse$Cue" 20 "Theatrehouse$Cue" "minutes" "I") ∈ lw_all := lw_in 108 (by decide +kernel) (by decide +kernel)
theorem m_111 : (Cond.fieldLink "Theatrehouse$Cue" 23 "Theatrehouse$Cue" "needs" "I") ∈ lw_all := lw_in 111 (by decide +kernel) (by decide +kernel)
theorem m_127 : (Cond.fieldLink "Theatrehouse$Work" 9 "Theatrehouse$Work" "roles" "I") ∈ lw_all := lw_in 127 (by decide +kernel) (by decide +kernel)
theorem m_129 : (Cond.fieldLink "Theatrehouse$Work" 15 "Theatrehouse$Work" "price" "I") ∈ lw_all := lw_in 129 (by decide +kernel) (by decide +kernel)
theorem m_131 : (Cond.fieldLink "Theatrehouse$Work" 18 "Theatrehouse$Work" "balance" "I") ∈ lw_all := lw_in 131 (by decide +kernel) (by decide +kernel)
theorem m_133 : (Cond.fieldLink "Theatrehouse$Work" 21 "Theatrehouse$Work" "cueCount" "I") ∈ lw_all := lw_in 133 (by decide +kernel) (by decide +kernel)
theorem m_138 : (Cond.fieldLink "Theatrehouse$Work" 26 "Theatrehouse$Work" "cueRows" "[LTheatrehouse$Cue;") ∈ lw_all := lw_in 138 (by decide +kernel) (by decide +kernel)
theorem m_141 : (Cond.fieldLink "Theatrehouse$Work" 30 "Theatrehouse$Work" "persons" "[I") ∈ lw_all := lw_in 141 (by decide +kernel) (by decide +kernel)
theorem m_143 : (Cond.fieldLink "Theatrehouse$Work" 34 "Theatrehouse$Work" "roleWasSet" "[Z") ∈ lw_all := lw_in 143 (by decide +kernel) (by decide +kernel)
theorem m_160 : (Cond.fieldLink "Theatrehouse$Show" 11 "Theatrehouse$Show" "machines" "[LTheatrehouse$Machine;") ∈ lw_all := lw_in 160 (by decide +kernel) (by decide +kernel)
theorem m_161 : (Cond.fieldLink "Theatrehouse$Show" 20 "Theatrehouse$Show" "work" "LTheatrehouse$Work;") ∈ lw_all := lw_in 161 (by decide +kernel) (by decide +kernel)
theorem m_165 : (Cond.fieldLink "Theatrehouse$Show" 24 "Theatrehouse$Show" "singers" "[I") ∈ lw_all := lw_in 165 (by decide +kernel) (by decide +kernel)
theorem m_167 : (Cond.fieldLink "Theatrehouse$Show" 28 "Theatrehouse$Show" "slots" "[I") ∈ lw_all := lw_in 167 (by decide +kernel) (by decide +kernel)
theorem m_168 : (Cond.fieldLink "Theatrehouse$Show" 31 "Theatrehouse$Show" "firstVoices" "[I") ∈ lw_all := lw_in 168 (by decide +kernel) (by decide +kernel)
theorem m_169 : (Cond.fieldLink "Theatrehouse$Show" 34 "Theatrehouse$Show" "now" "J") ∈ lw_all := lw_in 169 (by decide +kernel) (by decide +kernel)
theorem m_173 : (Cond.fieldLink "Theatrehouse$Show" 38 "Theatrehouse$Show" "statesBefore" "[J") ∈ lw_all := lw_in 173 (by decide +kernel) (by decide +kernel)
theorem m_174 : (Cond.fieldLink "Theatrehouse$Show" 42 "Theatrehouse$Show" "doneCues" "[I") ∈ lw_all := lw_in 174 (by decide +kernel) (by decide +kernel)
theorem m_175 : (Cond.fieldLink "Theatrehouse$Show" 45 "Theatrehouse$Show" "doneCount" "I") ∈ lw_all := lw_in 175 (by decide +kernel) (by decide +kernel)
theorem m_177 : (Cond.fieldLink "Theatrehouse$Show" 49 "Theatrehouse$Show" "minutesTaken" "I") ∈ lw_all := lw_in 177 (by decide +kernel) (by decide +kernel)
theorem m_200 : (Cond.arrayClass Jvm.ClassFile.FieldType.long) ∈ lw_all := lw_in 200 (by decide +kernel) (by decide +kernel)
theorem m_206 : (Cond.methodLink "Theatrehouse$Search" 3 ⟨"java/lang/Object", "<init>", "()V"⟩) ∈ lw_all := lw_in 206 (by decide +kernel) (by decide +kernel)
theorem m_207 : (Cond.fieldLink "Theatrehouse$Search" 9 "Theatrehouse$Search" "states" "[J") ∈ lw_all := lw_in 207 (by decide +kernel) (by decide +kernel)
theorem m_208 : (Cond.fieldLink "Theatrehouse$Search" 15 "Theatrehouse$Search" "nextStates" "[I") ∈ lw_all := lw_in 208 (by decide +kernel) (by decide +kernel)
theorem m_209 : (Cond.fieldLink "Theatrehouse$Search" 19 "Theatrehouse$Search" "lengths" "[I") ∈ lw_all := lw_in 209 (by decide +kernel) (by decide +kernel)
theorem m_210 : (Cond.fieldLink "Theatrehouse$Search" 22 "Theatrehouse$Search" "orderCounts" "[J") ∈ lw_all := lw_in 210 (by decide +kernel) (by decide +kernel)
theorem m_213 : (Cond.fieldLink "Theatrehouse$Search" 25 "Theatrehouse$Search" "row" "[I") ∈ lw_all := lw_in 213 (by decide +kernel) (by decide +kernel)
theorem m_216 : (Cond.fieldLink "Theatrehouse$Search" 28 "Theatrehouse$Search" "size" "I") ∈ lw_all := lw_in 216 (by decide +kernel) (by decide +kernel)
theorem m_218 : (Cond.fieldLink "Theatrehouse$Search" 32 "Theatrehouse$Search" "cueCount" "I") ∈ lw_all := lw_in 218 (by decide +kernel) (by decide +kernel)
theorem m_219 : (Cond.fieldLink "Theatrehouse$Search" 35 "Theatrehouse$Search" "leftCount" "I") ∈ lw_all := lw_in 219 (by decide +kernel) (by decide +kernel)
theorem m_220 : (Cond.fieldLink "Theatrehouse$Search" 38 "Theatrehouse$Search" "rowLength" "I") ∈ lw_all := lw_in 220 (by decide +kernel) (by decide +kernel)
theorem m_223 : (Cond.fieldLink "Theatrehouse$Search" 41 "Theatrehouse$Search" "rowEnd" "J") ∈ lw_all := lw_in 223 (by decide +kernel) (by decide +kernel)
theorem m_224 : (Cond.fieldLink "Theatrehouse$Search" 45 "Theatrehouse$Search" "hasTooMany" "Z") ∈ lw_all := lw_in 224 (by decide +kernel) (by decide +kernel)
theorem m_226 : (Cond.fieldLink "Theatrehouse$Search" 49 "Theatrehouse$Search" "layer" "I") ∈ lw_all := lw_in 226 (by decide +kernel) (by decide +kernel)
theorem m_227 : (Cond.fieldLink "Theatrehouse$Search" 52 "Theatrehouse$Search" "isExplored" "Z") ∈ lw_all := lw_in 227 (by decide +kernel) (by decide +kernel)
theorem m_260 : (Cond.methodLink "Theatrehouse$Trial" 3 ⟨"java/lang/Object", "<init>", "()V"⟩) ∈ lw_all := lw_in 260 (by decide +kernel) (by decide +kernel)
theorem m_261 : (Cond.fieldLink "Theatrehouse$Trial" 9 "Theatrehouse$Trial" "row" "[I") ∈ lw_all := lw_in 261 (by decide +kernel) (by decide +kernel)
theorem m_262 : (Cond.fieldLink "Theatrehouse$Trial" 15 "Theatrehouse$Trial" "firstOrder" "[I") ∈ lw_all := lw_in 262 (by decide +kernel) (by decide +kernel)
theorem m_263 : (Cond.fieldLink "Theatrehouse$Trial" 18 "Theatrehouse$Trial" "leftCount" "I") ∈ lw_all := lw_in 263 (by decide +kernel) (by decide +kernel)
theorem m_264 : (Cond.fieldLink "Theatrehouse$Trial" 22 "Theatrehouse$Trial" "longest" "I") ∈ lw_all := lw_in 264 (by decide +kernel) (by decide +kernel)
theorem m_265 : (Cond.fieldLink "Theatrehouse$Trial" 25 "Theatrehouse$Trial" "orderCount" "J") ∈ lw_all := lw_in 265 (by decide +kernel) (by decide +kernel)
theorem m_281 : (Cond.methodLink "Theatrehouse$Person" 3 ⟨"java/lang/Object", "<init>", "()V"⟩) ∈ lw_all := lw_in 281 (by decide +kernel) (by decide +kernel)
theorem m_282 : (Cond.fieldLink "Theatrehouse$Person" 9 "Theatrehouse$Person" "fee" "I") ∈ lw_all := lw_in 282 (by decide +kernel) (by decide +kernel)
theorem m_284 : (Cond.fieldLink "Theatrehouse$Person" 15 "Theatrehouse$Person" "greatestVoice" "I") ∈ lw_all := lw_in 284 (by decide +kernel) (by decide +kernel)
theorem m_286 : (Cond.fieldLink "Theatrehouse$Person" 18 "Theatrehouse$Person" "voice" "I") ∈ lw_all := lw_in 286 (by decide +kernel) (by decide +kernel)
theorem m_288 : (Cond.fieldLink "Theatrehouse$Person" 21 "Theatrehouse$Person" "voiceSung" "I") ∈ lw_all := lw_in 288 (by decide +kernel) (by decide +kernel)
theorem m_290 : (Cond.fieldLink "Theatrehouse$Person" 24 "Theatrehouse$Person" "cover" "I") ∈ lw_all := lw_in 290 (by decide +kernel) (by decide +kernel)
theorem m_292 : (Cond.fieldLink "Theatrehouse$Person" 27 "Theatrehouse$Person" "lastIllDay" "I") ∈ lw_all := lw_in 292 (by decide +kernel) (by decide +kernel)
theorem m_311 : (Cond.methodLink "Theatrehouse$Machine" 3 ⟨"java/lang/Object", "<init>", "()V"⟩) ∈ lw_all := lw_in 311 (by decide +kernel) (by decide +kernel)
theorem m_312 : (Cond.fieldLink "Theatrehouse$Machine" 9 "Theatrehouse$Machine" "zone" "I") ∈ lw_all := lw_in 312 (by decide +kernel) (by decide +kernel)
theorem m_315 : (Cond.fieldLink "Theatrehouse$Machine" 15 "Theatrehouse$Machine" "limit" "I") ∈ lw_all := lw_in 315 (by decide +kernel) (by decide +kernel)
theorem m_318 : (Cond.fieldLink "Theatrehouse$Machine" 18 "Theatrehouse$Machine" "other" "I") ∈ lw_all := lw_in 318 (by decide +kernel) (by decide +kernel)
theorem m_321 : (Cond.fieldLink "Theatrehouse$Machine" 21 "Theatrehouse$Machine" "low" "I") ∈ lw_all := lw_in 321 (by decide +kernel) (by decide +kernel)
theorem m_324 : (Cond.fieldLink "Theatrehouse$Machine" 24 "Theatrehouse$Machine" "high" "I") ∈ lw_all := lw_in 324 (by decide +kernel) (by decide +kernel)
theorem m_343 : (Cond.methodLink "Theatrehouse$Evening" 1 ⟨"java/lang/Object", "<init>", "()V"⟩) ∈ lw_all := lw_in 343 (by decide +kernel) (by decide +kernel)
theorem m_344 : (Cond.fieldLink "Theatrehouse$Evening" 7 "Theatrehouse$Status" "FREE" "LTheatrehouse$Status;") ∈ lw_all := lw_in 344 (by decide +kernel) (by decide +kernel)
theorem m_346 : (Cond.fieldLink "Theatrehouse$Evening" 13 "Theatrehouse$Evening" "status" "LTheatrehouse$Status;") ∈ lw_all := lw_in 346 (by decide +kernel) (by decide +kernel)
theorem m_348 : (Cond.fieldLink "Theatrehouse$Evening" 18 "Theatrehouse$Evening" "work" "I") ∈ lw_all := lw_in 348 (by decide +kernel) (by decide +kernel)
theorem m_350 : (Cond.fieldLink "Theatrehouse$Evening" 22 "Theatrehouse$Evening" "sold" "I") ∈ lw_all := lw_in 350 (by decide +kernel) (by decide +kernel)
theorem mn_95 : (Cond.methodLinkNest "Theatrehouse$Work" 38 ⟨"Theatrehouse$Cue", "<init>", "()V"⟩ "Theatrehouse") ∈ lw_ng := lw_inn 95 (by decide +kernel) (by decide +kernel)
theorem pool_push {D : va_G} {cl : List vw_C} {X : va_W} {LP : List Nat} {E : va_E} {q : Nat} {H : Heap} (h : va_P D cl ((X ++ va_pl LP (fun _ => E)) ++ [(q, E)]) H) : va_P D cl (X ++ va_pl (LP ++ [q]) (fun _ => E)) H := by
  have e : X ++ va_pl (LP ++ [q]) (fun _ => E) = (X ++ va_pl LP (fun _ => E)) ++ [(q, E)] := by simp [va_pl]
  rw [e]
  exact h
theorem pool_pushD {A : Nat → Prop} {X : va_W} {LP : List Nat} {E : va_E} {q : Nat} (h : va_D A ((X ++ va_pl LP (fun _ => E)) ++ [(q, E)])) : va_D A (X ++ va_pl (LP ++ [q]) (fun _ => E)) := by
  have e : X ++ va_pl (LP ++ [q]) (fun _ => E) = (X ++ va_pl LP (fun _ => E)) ++ [(q, E)] := by simp [va_pl]
  rw [e]
  exact h
theorem va_dnil2 {A : Nat → Prop} : va_D A [] := ⟨fun i j p q h => by simp at h, fun k q h => by simp at h⟩
theorem pool_nil {D : va_G} {cl : List vw_C} {X : va_W} {E : va_E} {H : Heap} (h : va_P D cl X H) : va_P D cl (X ++ va_pl [] (fun _ => E)) H := by
  show va_P D cl (X ++ []) H
  rw [List.append_nil]
  exact h
theorem pool_nilD {A : Nat → Prop} {X : va_W} {E : va_E} (h : va_D A X) : va_D A (X ++ va_pl [] (fun _ => E)) := by
  show va_D A (X ++ [])
  rw [List.append_nil]
  exact h

set_option maxHeartbeats 4000000 in
set_option maxRecDepth 100000 in
theorem c_init_Cue (l : Launch) (z0 : Nat) (D : va_G) (g : Nat → Nat) (sz : Nat) (o : Nat) : Met l yX0_init (wsp yX0_init cX0_init 1 none) ({ frames := 1, cells := 0, slots := 0, locals := 20 }) (va_Pc [.ref o] (PM z0 D g sz [(o, .inr (8, [.int 0, .int 0, .int 0, .int 0, .int 0]))])) (va_Qv (fun (_ : Unit) => True) (fun (_ : Unit) t => va_P D classes [(o, .inr (8, [.int 99, .int 0, .int 0, .int 0, .int 0]))] t.heap ∧ va_D (va_A [(o, .inr (8, [.int 0, .int 0, .int 0, .int 0, .int 0]))] sz) [(o, .inr (8, [.int 99, .int 0, .int 0, .int 0, .int 0]))]) (va_A [(o, .inr (8, [.int 0, .int 0, .int 0, .int 0, .int 0]))] sz)) 0 0 (va_A [(o, .inr (8, [.int 0, .int 0, .int 0, .int 0, .int 0]))] sz) := by
  refine Met.ofW (cc := cX0_init) (maxL := 1) (ret := none) (by decide) rfl ?_
  intro p e s m args below meth c s₁ B hml hv
  obtain ⟨rfl, hsz9, hz0, hE, hP, hD0⟩ := hv
  have hx := B.exec
  have hb := B.bytes
  have hr := B.returns
  have hts0 := atoms_spec (ws := (wsp yX0_init cX0_init 1 none)) B.pre
  have hts : ∀ w ∈ lw_all, w.before _ s = true := fun w h => hts0 w (List.mem_cons_of_mem _ h)
  have hown : s.vm.findClass "Theatrehouse$Cue" = some m.cls := findClass_of_methodNamed B.named
  have hlocks := B.notSynchronized
  have hin : meth.name = "<init>" := (name_of_methodNamed B.named B.method).1
  have hK := hE.K
  subst hsz9
  have hsz := hz0
  have hAz : ∀ q, va_A [(o, .inr (8, [.int 0, .int 0, .int 0, .int 0, .int 0]))] s.heap.size q → z0 ≤ q := vaA_z hz0 hD0
  have hD := hD0.self (sz := s.heap.size)
  generalize hAe : va_A [(o, .inr (8, [.int 0, .int 0, .int 0, .int 0, .int 0]))] s.heap.size = A at hD hAz ⊢
  have hA : ∀ q : Nat, s.heap.size ≤ q → A q := fun q h => by rw [← hAe]; exact Or.inr h
  have hS : va_S A s.heap s.heap [] := va_S.rf
  have hP : va_P D classes [(o, .inr (8, [.int 0, .int 0, .int 0, .int 0, .int 0]))] s.heap := hP
  have hl := lv_entry ([.ref o]) (n := 1) (Nat.le_of_ble_eq_true rfl)
  rw [lg_entry_eq]
  generalize (lg_sl ([.ref o]) ++ List.replicate (1 - (lg_sl ([.ref o])).length) Slot.unset).toArray = ls at hl ⊢
  have hl : lv_has ls 1 [(0, .ref o)] := hl
  refine lv_aload_n hx hb dX0_init_0 rfl (lv_at hl 0 rfl) ?_
  refine W.objInit hx hb hown (hts _ m_98) (hts _ m_69) (hts _ m_70) rfl (by rw [hml]; exact hl.1) rfl dX0_init_1 (Nat.le_of_ble_eq_true rfl) (Nat.le_of_ble_eq_true rfl) ?_
  refine W.eq (g2 := F0 m 4 ls []) rfl ?_
  refine lv_aload_n hx hb dX0_init_4 rfl (lv_at hl 0 rfl) ?_
  refine lv_bipush (v := 99) hx hb dX0_init_5 (by decide) ?_
  refine va_put (D := D) (ci := 8) (v := .int 99) (ty := .char) (C := RX0) (T := TX0) (N := 5) hx hb hts i_X0 tyX0 tyX0_ok nmX0 hown hK hP hD hS 0 rfl rfl 0 (by decide) (hts _ m_99) (fun _ h9 => h9) rfl (by decide +kernel) rfl rfl (Nat.le_of_ble_eq_true rfl) dX0_init_7 (fun H locs hP hD hS => ?_)
  have hP : va_P D classes [(o, .inr (8, [.int 99, .int 0, .int 0, .int 0, .int 0]))] H := hP
  have hD : va_D A [(o, .inr (8, [.int 99, .int 0, .int 0, .int 0, .int 0]))] := hD
  refine lv_aload_n hx hb dX0_init_10 rfl (lv_at hl 0 rfl) ?_
  refine lv_iconst (v := 0) hx hb dX0_init_11 (by decide) ?_
  refine va_put (D := D) (ci := 8) (v := .int 0) (ty := .int) (C := RX0) (T := TX0) (N := 5) hx hb hts i_X0 tyX0 tyX0_ok nmX0 hown hK hP hD hS 0 rfl rfl 1 (by decide) (hts _ m_102) (fun _ h9 => h9) rfl (by decide +kernel) rfl rfl (Nat.le_of_ble_eq_true rfl) dX0_init_12 (fun H locs hP hD hS => ?_)
  have hP : va_P D classes [(o, .inr (8, [.int 99, .int 0, .int 0, .int 0, .int 0]))] H := hP
  have hD : va_D A [(o, .inr (8, [.int 99, .int 0, .int 0, .int 0, .int 0]))] := hD
  refine lv_aload_n hx hb dX0_init_15 rfl (lv_at hl 0 rfl) ?_
  refine lv_iconst (v := 0) hx hb dX0_init_16 (by decide) ?_
  refine va_put (D := D) (ci := 8) (v := .int 0) (ty := .int) (C := RX0) (T := TX0) (N := 5) hx hb hts i_X0 tyX0 tyX0_ok nmX0 hown hK hP hD hS 0 rfl rfl 2 (by decide) (hts _ m_105) (fun _ h9 => h9) rfl (by decide +kernel) rfl rfl (Nat.le_of_ble_eq_true rfl) dX0_init_17 (fun H locs hP hD hS => ?_)
  have hP : va_P D classes [(o, .inr (8, [.int 99, .int 0, .int 0, .int 0, .int 0]))] H := hP
  have hD : va_D A [(o, .inr (8, [.int 99, .int 0, .int 0, .int 0, .int 0]))] := hD
  refine lv_aload_n hx hb dX0_init_20 rfl (lv_at hl 0 rfl) ?_
  refine lv_iconst (v := 0) hx hb dX0_init_21 (by decide) ?_
  refine va_put (D := D) (ci := 8) (v := .int 0) (ty := .int) (C := RX0) (T := TX0) (N := 5) hx hb hts i_X0 tyX0 tyX0_ok nmX0 hown hK hP hD hS 0 rfl rfl 3 (by decide) (hts _ m_108) (fun _ h9 => h9) rfl (by decide +kernel) rfl rfl (Nat.le_of_ble_eq_true rfl) dX0_init_22 (fun H locs hP hD hS => ?_)
  have hP : va_P D classes [(o, .inr (8, [.int 99, .int 0, .int 0, .int 0, .int 0]))] H := hP
  have hD : va_D A [(o, .inr (8, [.int 99, .int 0, .int 0, .int 0, .int 0]))] := hD
  refine lv_aload_n hx hb dX0_init_25 rfl (lv_at hl 0 rfl) ?_
  refine lv_iconst (v := 0) hx hb dX0_init_26 (by decide) ?_
  refine va_put (D := D) (ci := 8) (v := .int 0) (ty := .int) (C := RX0) (T := TX0) (N := 5) hx hb hts i_X0 tyX0 tyX0_ok nmX0 hown hK hP hD hS 0 rfl rfl 4 (by decide) (hts _ m_111) (fun _ h9 => h9) rfl (by decide +kernel) rfl rfl (Nat.le_of_ble_eq_true rfl) dX0_init_27 (fun H locs hP hD hS => ?_)
  have hP : va_P D classes [(o, .inr (8, [.int 99, .int 0, .int 0, .int 0, .int 0]))] H := hP
  have hD : va_D A [(o, .inr (8, [.int 99, .int 0, .int 0, .int 0, .int 0]))] := hD
  have hP9 := hP.sub (ws' := [(o, .inr (8, [.int 99, .int 0, .int 0, .int 0, .int 0]))]) [0] rfl
  have hD9 := hD.sub (ws' := [(o, .inr (8, [.int 99, .int 0, .int 0, .int 0, .int 0]))]) [0] (by decide) rfl
  refine W.widen (k := 0) (n := 0) (Nat.le_of_ble_eq_true rfl) (Nat.le_of_ble_eq_true rfl) ?_
  exact W.vret hx hb hr (fun t ht hW => ⟨⟨(), rfl, trivial, ⟨by rw [ht]; exact hP9, hD9⟩⟩, hS.F ht⟩) hS.2.2 dX0_init_30

set_option maxHeartbeats 4000000 in
set_option maxRecDepth 100000 in
theorem c_init_Person (l : Launch) (z0 : Nat) (D : va_G) (g : Nat → Nat) (sz : Nat) (o : Nat) : Met l yX4_init (wsp yX4_init cX4_init 1 none) ({ frames := 1, cells := 0, slots := 0, locals := 20 }) (va_Pc [.ref o] (PM z0 D g sz [(o, .inr (1, [.int 0, .int 0, .int 0, .int 0, .int 0, .int 0]))])) (va_Qv (fun (_ : Unit) => True) (fun (_ : Unit) t => va_P D classes [(o, .inr (1, [.int 0, .int 0, .int 0, .int 0, .int (-1), .int (-1)]))] t.heap ∧ va_D (va_A [(o, .inr (1, [.int 0, .int 0, .int 0, .int 0, .int 0, .int 0]))] sz) [(o, .inr (1, [.int 0, .int 0, .int 0, .int 0, .int (-1), .int (-1)]))]) (va_A [(o, .inr (1, [.int 0, .int 0, .int 0, .int 0, .int 0, .int 0]))] sz)) 0 0 (va_A [(o, .inr (1, [.int 0, .int 0, .int 0, .int 0, .int 0, .int 0]))] sz) := by
  refine Met.ofW (cc := cX4_init) (maxL := 1) (ret := none) (by decide) rfl ?_
  intro p e s m args below meth c s₁ B hml hv
  obtain ⟨rfl, hsz9, hz0, hE, hP, hD0⟩ := hv
  have hx := B.exec
  have hb := B.bytes
  have hr := B.returns
  have hts0 := atoms_spec (ws := (wsp yX4_init cX4_init 1 none)) B.pre
  have hts : ∀ w ∈ lw_all, w.before _ s = true := fun w h => hts0 w (List.mem_cons_of_mem _ h)
  have hown : s.vm.findClass "Theatrehouse$Person" = some m.cls := findClass_of_methodNamed B.named
  have hlocks := B.notSynchronized
  have hin : meth.name = "<init>" := (name_of_methodNamed B.named B.method).1
  have hK := hE.K
  subst hsz9
  have hsz := hz0
  have hAz : ∀ q, va_A [(o, .inr (1, [.int 0, .int 0, .int 0, .int 0, .int 0, .int 0]))] s.heap.size q → z0 ≤ q := vaA_z hz0 hD0
  have hD := hD0.self (sz := s.heap.size)
  generalize hAe : va_A [(o, .inr (1, [.int 0, .int 0, .int 0, .int 0, .int 0, .int 0]))] s.heap.size = A at hD hAz ⊢
  have hA : ∀ q : Nat, s.heap.size ≤ q → A q := fun q h => by rw [← hAe]; exact Or.inr h
  have hS : va_S A s.heap s.heap [] := va_S.rf
  have hP : va_P D classes [(o, .inr (1, [.int 0, .int 0, .int 0, .int 0, .int 0, .int 0]))] s.heap := hP
  have hl := lv_entry ([.ref o]) (n := 1) (Nat.le_of_ble_eq_true rfl)
  rw [lg_entry_eq]
  generalize (lg_sl ([.ref o]) ++ List.replicate (1 - (lg_sl ([.ref o])).length) Slot.unset).toArray = ls at hl ⊢
  have hl : lv_has ls 1 [(0, .ref o)] := hl
  refine lv_aload_n hx hb dX4_init_0 rfl (lv_at hl 0 rfl) ?_
  refine W.objInit hx hb hown (hts _ m_281) (hts _ m_69) (hts _ m_70) rfl (by rw [hml]; exact hl.1) rfl dX4_init_1 (Nat.le_of_ble_eq_true rfl) (Nat.le_of_ble_eq_true rfl) ?_
  refine W.eq (g2 := F0 m 4 ls []) rfl ?_
  refine lv_aload_n hx hb dX4_init_4 rfl (lv_at hl 0 rfl) ?_
  refine lv_iconst (v := 0) hx hb dX4_init_5 (by decide) ?_
  refine va_put (D := D) (ci := 1) (v := .int 0) (ty := .int) (C := RX4) (T := TX4) (N := 6) hx hb hts i_X4 tyX4 tyX4_ok nmX4 hown hK hP hD hS 0 rfl rfl 0 (by decide) (hts _ m_282) (fun _ h9 => h9) rfl (by decide +kernel) rfl rfl (Nat.le_of_ble_eq_true rfl) dX4_init_6 (fun H locs hP hD hS => ?_)
  have hP : va_P D classes [(o, .inr (1, [.int 0, .int 0, .int 0, .int 0, .int 0, .int 0]))] H := hP
  have hD : va_D A [(o, .inr (1, [.int 0, .int 0, .int 0, .int 0, .int 0, .int 0]))] := hD
  refine lv_aload_n hx hb dX4_init_9 rfl (lv_at hl 0 rfl) ?_
  refine lv_iconst (v := 0) hx hb dX4_init_10 (by decide) ?_
  refine va_put (D := D) (ci := 1) (v := .int 0) (ty := .int) (C := RX4) (T := TX4) (N := 6) hx hb hts i_X4 tyX4 tyX4_ok nmX4 hown hK hP hD hS 0 rfl rfl 1 (by decide) (hts _ m_284) (fun _ h9 => h9) rfl (by decide +kernel) rfl rfl (Nat.le_of_ble_eq_true rfl) dX4_init_11 (fun H locs hP hD hS => ?_)
  have hP : va_P D classes [(o, .inr (1, [.int 0, .int 0, .int 0, .int 0, .int 0, .int 0]))] H := hP
  have hD : va_D A [(o, .inr (1, [.int 0, .int 0, .int 0, .int 0, .int 0, .int 0]))] := hD
  refine lv_aload_n hx hb dX4_init_14 rfl (lv_at hl 0 rfl) ?_
  refine lv_iconst (v := 0) hx hb dX4_init_15 (by decide) ?_
  refine va_put (D := D) (ci := 1) (v := .int 0) (ty := .int) (C := RX4) (T := TX4) (N := 6) hx hb hts i_X4 tyX4 tyX4_ok nmX4 hown hK hP hD hS 0 rfl rfl 2 (by decide) (hts _ m_286) (fun _ h9 => h9) rfl (by decide +kernel) rfl rfl (Nat.le_of_ble_eq_true rfl) dX4_init_16 (fun H locs hP hD hS => ?_)
  have hP : va_P D classes [(o, .inr (1, [.int 0, .int 0, .int 0, .int 0, .int 0, .int 0]))] H := hP
  have hD : va_D A [(o, .inr (1, [.int 0, .int 0, .int 0, .int 0, .int 0, .int 0]))] := hD
  refine lv_aload_n hx hb dX4_init_19 rfl (lv_at hl 0 rfl) ?_
  refine lv_iconst (v := 0) hx hb dX4_init_20 (by decide) ?_
  refine va_put (D := D) (ci := 1) (v := .int 0) (ty := .int) (C := RX4) (T := TX4) (N := 6) hx hb hts i_X4 tyX4 tyX4_ok nmX4 hown hK hP hD hS 0 rfl rfl 3 (by decide) (hts _ m_288) (fun _ h9 => h9) rfl (by decide +kernel) rfl rfl (Nat.le_of_ble_eq_true rfl) dX4_init_21 (fun H locs hP hD hS => ?_)
  have hP : va_P D classes [(o, .inr (1, [.int 0, .int 0, .int 0, .int 0, .int 0, .int 0]))] H := hP
  have hD : va_D A [(o, .inr (1, [.int 0, .int 0, .int 0, .int 0, .int 0, .int 0]))] := hD
  refine lv_aload_n hx hb dX4_init_24 rfl (lv_at hl 0 rfl) ?_
  refine lv_iconst (v := (-1)) hx hb dX4_init_25 (by decide) ?_
  refine va_put (D := D) (ci := 1) (v := .int (-1)) (ty := .int) (C := RX4) (T := TX4) (N := 6) hx hb hts i_X4 tyX4 tyX4_ok nmX4 hown hK hP hD hS 0 rfl rfl 4 (by decide) (hts _ m_290) (fun _ h9 => h9) rfl (by decide +kernel) rfl rfl (Nat.le_of_ble_eq_true rfl) dX4_init_26 (fun H locs hP hD hS => ?_)
  have hP : va_P D classes [(o, .inr (1, [.int 0, .int 0, .int 0, .int 0, .int (-1), .int 0]))] H := hP
  have hD : va_D A [(o, .inr (1, [.int 0, .int 0, .int 0, .int 0, .int (-1), .int 0]))] := hD
  refine lv_aload_n hx hb dX4_init_29 rfl (lv_at hl 0 rfl) ?_
  refine lv_iconst (v := (-1)) hx hb dX4_init_30 (by decide) ?_
  refine va_put (D := D) (ci := 1) (v := .int (-1)) (ty := .int) (C := RX4) (T := TX4) (N := 6) hx hb hts i_X4 tyX4 tyX4_ok nmX4 hown hK hP hD hS 0 rfl rfl 5 (by decide) (hts _ m_292) (fun _ h9 => h9) rfl (by decide +kernel) rfl rfl (Nat.le_of_ble_eq_true rfl) dX4_init_31 (fun H locs hP hD hS => ?_)
  have hP : va_P D classes [(o, .inr (1, [.int 0, .int 0, .int 0, .int 0, .int (-1), .int (-1)]))] H := hP
  have hD : va_D A [(o, .inr (1, [.int 0, .int 0, .int 0, .int 0, .int (-1), .int (-1)]))] := hD
  have hP9 := hP.sub (ws' := [(o, .inr (1, [.int 0, .int 0, .int 0, .int 0, .int (-1), .int (-1)]))]) [0] rfl
  have hD9 := hD.sub (ws' := [(o, .inr (1, [.int 0, .int 0, .int 0, .int 0, .int (-1), .int (-1)]))]) [0] (by decide) rfl
  refine W.widen (k := 0) (n := 0) (Nat.le_of_ble_eq_true rfl) (Nat.le_of_ble_eq_true rfl) ?_
  exact W.vret hx hb hr (fun t ht hW => ⟨⟨(), rfl, trivial, ⟨by rw [ht]; exact hP9, hD9⟩⟩, hS.F ht⟩) hS.2.2 dX4_init_34

set_option maxHeartbeats 4000000 in
set_option maxRecDepth 100000 in
theorem c_init_Machine (l : Launch) (z0 : Nat) (D : va_G) (g : Nat → Nat) (sz : Nat) (o : Nat) : Met l yX2_init (wsp yX2_init cX2_init 1 none) ({ frames := 1, cells := 0, slots := 0, locals := 20 }) (va_Pc [.ref o] (PM z0 D g sz [(o, .inr (2, [.int 0, .int 0, .int 0, .int 0, .int 0]))])) (va_Qv (fun (_ : Unit) => True) (fun (_ : Unit) t => va_P D classes [(o, .inr (2, [.int 0, .int 0, .int (-1), .int 0, .int 0]))] t.heap ∧ va_D (va_A [(o, .inr (2, [.int 0, .int 0, .int 0, .int 0, .int 0]))] sz) [(o, .inr (2, [.int 0, .int 0, .int (-1), .int 0, .int 0]))]) (va_A [(o, .inr (2, [.int 0, .int 0, .int 0, .int 0, .int 0]))] sz)) 0 0 (va_A [(o, .inr (2, [.int 0, .int 0, .int 0, .int 0, .int 0]))] sz) := by
  refine Met.ofW (cc := cX2_init) (maxL := 1) (ret := none) (by decide) rfl ?_
  intro p e s m args below meth c s₁ B hml hv
  obtain ⟨rfl, hsz9, hz0, hE, hP, hD0⟩ := hv
  have hx := B.exec
  have hb := B.bytes
  have hr := B.returns
  have hts0 := atoms_spec (ws := (wsp yX2_init cX2_init 1 none)) B.pre
  have hts : ∀ w ∈ lw_all, w.before _ s = true := fun w h => hts0 w (List.mem_cons_of_mem _ h)
  have hown : s.vm.findClass "Theatrehouse$Machine" = some m.cls := findClass_of_methodNamed B.named
  have hlocks := B.notSynchronized
  have hin : meth.name = "<init>" := (name_of_methodNamed B.named B.method).1
  have hK := hE.K
  subst hsz9
  have hsz := hz0
  have hAz : ∀ q, va_A [(o, .inr (2, [.int 0, .int 0, .int 0, .int 0, .int 0]))] s.heap.size q → z0 ≤ q := vaA_z hz0 hD0
  have hD := hD0.self (sz := s.heap.size)
  generalize hAe : va_A [(o, .inr (2, [.int 0, .int 0, .int 0, .int 0, .int 0]))] s.heap.size = A at hD hAz ⊢
  have hA : ∀ q : Nat, s.heap.size ≤ q → A q := fun q h => by rw [← hAe]; exact Or.inr h
  have hS : va_S A s.heap s.heap [] := va_S.rf
  have hP : va_P D classes [(o, .inr (2, [.int 0, .int 0, .int 0, .int 0, .int 0]))] s.heap := hP
  have hl := lv_entry ([.ref o]) (n := 1) (Nat.le_of_ble_eq_true rfl)
  rw [lg_entry_eq]
  generalize (lg_sl ([.ref o]) ++ List.replicate (1 - (lg_sl ([.ref o])).length) Slot.unset).toArray = ls at hl ⊢
  have hl : lv_has ls 1 [(0, .ref o)] := hl
  refine lv_aload_n hx hb dX2_init_0 rfl (lv_at hl 0 rfl) ?_
  refine W.objInit hx hb hown (hts _ m_311) (hts _ m_69) (hts _ m_70) rfl (by rw [hml]; exact hl.1) rfl dX2_init_1 (Nat.le_of_ble_eq_true rfl) (Nat.le_of_ble_eq_true rfl) ?_
  refine W.eq (g2 := F0 m 4 ls []) rfl ?_
  refine lv_aload_n hx hb dX2_init_4 rfl (lv_at hl 0 rfl) ?_
  refine lv_iconst (v := 0) hx hb dX2_init_5 (by decide) ?_
  refine va_put (D := D) (ci := 2) (v := .int 0) (ty := .int) (C := RX2) (T := TX2) (N := 5) hx hb hts i_X2 tyX2 tyX2_ok nmX2 hown hK hP hD hS 0 rfl rfl 0 (by decide) (hts _ m_312) (fun _ h9 => h9) rfl (by decide +kernel) rfl rfl (Nat.le_of_ble_eq_true rfl) dX2_init_6 (fun H locs hP hD hS => ?_)
  have hP : va_P D classes [(o, .inr (2, [.int 0, .int 0, .int 0, .int 0, .int 0]))] H := hP
  have hD : va_D A [(o, .inr (2, [.int 0, .int 0, .int 0, .int 0, .int 0]))] := hD
  refine lv_aload_n hx hb dX2_init_9 rfl (lv_at hl 0 rfl) ?_
  refine lv_iconst (v := 0) hx hb dX2_init_10 (by decide) ?_
  refine va_put (D := D) (ci := 2) (v := .int 0) (ty := .int) (C := RX2) (T := TX2) (N := 5) hx hb hts i_X2 tyX2 tyX2_ok nmX2 hown hK hP hD hS 0 rfl rfl 1 (by decide) (hts _ m_315) (fun _ h9 => h9) rfl (by decide +kernel) rfl rfl (Nat.le_of_ble_eq_true rfl) dX2_init_11 (fun H locs hP hD hS => ?_)
  have hP : va_P D classes [(o, .inr (2, [.int 0, .int 0, .int 0, .int 0, .int 0]))] H := hP
  have hD : va_D A [(o, .inr (2, [.int 0, .int 0, .int 0, .int 0, .int 0]))] := hD
  refine lv_aload_n hx hb dX2_init_14 rfl (lv_at hl 0 rfl) ?_
  refine lv_iconst (v := (-1)) hx hb dX2_init_15 (by decide) ?_
  refine va_put (D := D) (ci := 2) (v := .int (-1)) (ty := .int) (C := RX2) (T := TX2) (N := 5) hx hb hts i_X2 tyX2 tyX2_ok nmX2 hown hK hP hD hS 0 rfl rfl 2 (by decide) (hts _ m_318) (fun _ h9 => h9) rfl (by decide +kernel) rfl rfl (Nat.le_of_ble_eq_true rfl) dX2_init_16 (fun H locs hP hD hS => ?_)
  have hP : va_P D classes [(o, .inr (2, [.int 0, .int 0, .int (-1), .int 0, .int 0]))] H := hP
  have hD : va_D A [(o, .inr (2, [.int 0, .int 0, .int (-1), .int 0, .int 0]))] := hD
  refine lv_aload_n hx hb dX2_init_19 rfl (lv_at hl 0 rfl) ?_
  refine lv_iconst (v := 0) hx hb dX2_init_20 (by decide) ?_
  refine va_put (D := D) (ci := 2) (v := .int 0) (ty := .int) (C := RX2) (T := TX2) (N := 5) hx hb hts i_X2 tyX2 tyX2_ok nmX2 hown hK hP hD hS 0 rfl rfl 3 (by decide) (hts _ m_321) (fun _ h9 => h9) rfl (by decide +kernel) rfl rfl (Nat.le_of_ble_eq_true rfl) dX2_init_21 (fun H locs hP hD hS => ?_)
  have hP : va_P D classes [(o, .inr (2, [.int 0, .int 0, .int (-1), .int 0, .int 0]))] H := hP
  have hD : va_D A [(o, .inr (2, [.int 0, .int 0, .int (-1), .int 0, .int 0]))] := hD
  refine lv_aload_n hx hb dX2_init_24 rfl (lv_at hl 0 rfl) ?_
  refine lv_iconst (v := 0) hx hb dX2_init_25 (by decide) ?_
  refine va_put (D := D) (ci := 2) (v := .int 0) (ty := .int) (C := RX2) (T := TX2) (N := 5) hx hb hts i_X2 tyX2 tyX2_ok nmX2 hown hK hP hD hS 0 rfl rfl 4 (by decide) (hts _ m_324) (fun _ h9 => h9) rfl (by decide +kernel) rfl rfl (Nat.le_of_ble_eq_true rfl) dX2_init_26 (fun H locs hP hD hS => ?_)
  have hP : va_P D classes [(o, .inr (2, [.int 0, .int 0, .int (-1), .int 0, .int 0]))] H := hP
  have hD : va_D A [(o, .inr (2, [.int 0, .int 0, .int (-1), .int 0, .int 0]))] := hD
  have hP9 := hP.sub (ws' := [(o, .inr (2, [.int 0, .int 0, .int (-1), .int 0, .int 0]))]) [0] rfl
  have hD9 := hD.sub (ws' := [(o, .inr (2, [.int 0, .int 0, .int (-1), .int 0, .int 0]))]) [0] (by decide) rfl
  refine W.widen (k := 0) (n := 0) (Nat.le_of_ble_eq_true rfl) (Nat.le_of_ble_eq_true rfl) ?_
  exact W.vret hx hb hr (fun t ht hW => ⟨⟨(), rfl, trivial, ⟨by rw [ht]; exact hP9, hD9⟩⟩, hS.F ht⟩) hS.2.2 dX2_init_29

set_option maxHeartbeats 4000000 in
set_option maxRecDepth 100000 in
theorem c_init_Evening (l : Launch) (z0 : Nat) (D : va_G) (g : Nat → Nat) (sz : Nat) (o : Nat) : Met l yX1_init (wsp yX1_init cX1_init 1 none) ({ frames := 1, cells := 0, slots := 0, locals := 20 }) (va_Pc [.ref o] (PM z0 D g sz [(o, .inr (4, [.null, .int 0, .int 0]))])) (va_Qv (fun (_ : Unit) => True) (fun (_ : Unit) t => va_P D classes [(o, .inr (4, [.ref (g 0), .int 0, .int 0]))] t.heap ∧ va_D (va_A [(o, .inr (4, [.null, .int 0, .int 0]))] sz) [(o, .inr (4, [.ref (g 0), .int 0, .int 0]))]) (va_A [(o, .inr (4, [.null, .int 0, .int 0]))] sz)) 0 0 (va_A [(o, .inr (4, [.null, .int 0, .int 0]))] sz) := by
  refine Met.ofW (cc := cX1_init) (maxL := 1) (ret := none) (by decide) rfl ?_
  intro p e s m args below meth c s₁ B hml hv
  obtain ⟨rfl, hsz9, hz0, hE, hP, hD0⟩ := hv
  have hx := B.exec
  have hb := B.bytes
  have hr := B.returns
  have hts0 := atoms_spec (ws := (wsp yX1_init cX1_init 1 none)) B.pre
  have hts : ∀ w ∈ lw_all, w.before _ s = true := fun w h => hts0 w (List.mem_cons_of_mem _ h)
  have hown : s.vm.findClass "Theatrehouse$Evening" = some m.cls := findClass_of_methodNamed B.named
  have hlocks := B.notSynchronized
  have hin : meth.name = "<init>" := (name_of_methodNamed B.named B.method).1
  have hK := hE.K
  subst hsz9
  have hsz := hz0
  have hAz : ∀ q, va_A [(o, .inr (4, [.null, .int 0, .int 0]))] s.heap.size q → z0 ≤ q := vaA_z hz0 hD0
  have hD := hD0.self (sz := s.heap.size)
  generalize hAe : va_A [(o, .inr (4, [.null, .int 0, .int 0]))] s.heap.size = A at hD hAz ⊢
  have hA : ∀ q : Nat, s.heap.size ≤ q → A q := fun q h => by rw [← hAe]; exact Or.inr h
  have hS : va_S A s.heap s.heap [] := va_S.rf
  have hP : va_P D classes [(o, .inr (4, [.null, .int 0, .int 0]))] s.heap := hP
  have hl := lv_entry ([.ref o]) (n := 1) (Nat.le_of_ble_eq_true rfl)
  rw [lg_entry_eq]
  generalize (lg_sl ([.ref o]) ++ List.replicate (1 - (lg_sl ([.ref o])).length) Slot.unset).toArray = ls at hl ⊢
  have hl : lv_has ls 1 [(0, .ref o)] := hl
  refine lv_aload_n hx hb dX1_init_0 rfl (lv_at hl 0 rfl) ?_
  refine W.objInit hx hb hown (hts _ m_343) (hts _ m_69) (hts _ m_70) rfl (by rw [hml]; exact hl.1) rfl dX1_init_1 (Nat.le_of_ble_eq_true rfl) (Nat.le_of_ble_eq_true rfl) ?_
  refine W.eq (g2 := F0 m 4 ls []) rfl ?_
  refine lv_aload_n hx hb dX1_init_4 rfl (lv_at hl 0 rfl) ?_
  refine va_gets hx hb (hE.z hAz (i := 0) rfl) hS hown (hts _ m_344) (fun _ h9 => h9) dX1_init_5 ?_
  refine va_put (D := D) (ci := 4) (v := .ref (g 0)) (ty := (.object "Theatrehouse$Status")) (C := RX1) (T := TX1) (N := 3) hx hb hts i_X1 tyX1 tyX1_ok nmX1 hown hK hP hD hS 0 rfl rfl 0 (by decide) (hts _ m_346) (fun _ h9 => h9) rfl (by decide +kernel) rfl rfl (Nat.le_of_ble_eq_true rfl) dX1_init_8 (fun H locs hP hD hS => ?_)
  have hP : va_P D classes [(o, .inr (4, [.ref (g 0), .int 0, .int 0]))] H := hP
  have hD : va_D A [(o, .inr (4, [.ref (g 0), .int 0, .int 0]))] := hD
  refine lv_aload_n hx hb dX1_init_11 rfl (lv_at hl 0 rfl) ?_
  refine lv_iconst (v := 0) hx hb dX1_init_12 (by decide) ?_
  refine va_put (D := D) (ci := 4) (v := .int 0) (ty := .int) (C := RX1) (T := TX1) (N := 3) hx hb hts i_X1 tyX1 tyX1_ok nmX1 hown hK hP hD hS 0 rfl rfl 1 (by decide) (hts _ m_348) (fun _ h9 => h9) rfl (by decide +kernel) rfl rfl (Nat.le_of_ble_eq_true rfl) dX1_init_13 (fun H locs hP hD hS => ?_)
  have hP : va_P D classes [(o, .inr (4, [.ref (g 0), .int 0, .int 0]))] H := hP
  have hD : va_D A [(o, .inr (4, [.ref (g 0), .int 0, .int 0]))] := hD
  refine lv_aload_n hx hb dX1_init_16 rfl (lv_at hl 0 rfl) ?_
  refine lv_iconst (v := 0) hx hb dX1_init_17 (by decide) ?_
  refine va_put (D := D) (ci := 4) (v := .int 0) (ty := .int) (C := RX1) (T := TX1) (N := 3) hx hb hts i_X1 tyX1 tyX1_ok nmX1 hown hK hP hD hS 0 rfl rfl 2 (by decide) (hts _ m_350) (fun _ h9 => h9) rfl (by decide +kernel) rfl rfl (Nat.le_of_ble_eq_true rfl) dX1_init_18 (fun H locs hP hD hS => ?_)
  have hP : va_P D classes [(o, .inr (4, [.ref (g 0), .int 0, .int 0]))] H := hP
  have hD : va_D A [(o, .inr (4, [.ref (g 0), .int 0, .int 0]))] := hD
  have hP9 := hP.sub (ws' := [(o, .inr (4, [.ref (g 0), .int 0, .int 0]))]) [0] rfl
  have hD9 := hD.sub (ws' := [(o, .inr (4, [.ref (g 0), .int 0, .int 0]))]) [0] (by decide) rfl
  refine W.widen (k := 0) (n := 0) (Nat.le_of_ble_eq_true rfl) (Nat.le_of_ble_eq_true rfl) ?_
  exact W.vret hx hb hr (fun t ht hW => ⟨⟨(), rfl, trivial, ⟨by rw [ht]; exact hP9, hD9⟩⟩, hS.F ht⟩) hS.2.2 dX1_init_21

set_option maxHeartbeats 4000000 in
set_option maxRecDepth 100000 in
theorem work_fill {p : Program} {l : Launch} {e : Env} {R : Room} {s : State} {m : MethodId} {args : Array Value} {below : List Frame} {meth : Method} {c : Code} {Q : State → Prop} {z0 : Nat} {D : va_G} {g : Nat → Nat} {A : Nat → Prop} (l1 : Launch) (hl1 : l1 = l) (c0 s0 : Nat) (o w1 w2 w3 : Nat) (cC : ClassId) (hx : p.tables.exec = Jvm.exec) (hb : c.code = cX9_init) (hml : c.maxLocals = 2) (hts : ∀ w ∈ lw_all, w.before args s = true) (hown : s.vm.findClass "Theatrehouse$Work" = some m.cls) (hE : EV z0 D g s s.heap) (hAz : ∀ q, A q → z0 ≤ q) (hA : ∀ q : Nat, s.heap.size ≤ q → A q) (hsz : z0 ≤ s.heap.size) (hK : va_K D classes [(cC, .object "Theatrehouse$Cue")] s) (hR : 60 ≤ R.frames ∧ 600 ≤ R.locals ∧ c0 + 1 * 9 ≤ R.cells ∧ s0 + 5 * 9 ≤ R.slots) (kx : ∀ (F : Nat → Option Nat) (H : Heap) (locs : List Loc), True → va_P D classes [(o, .inr (3, [.int 0, .int 0, .int 0, .int 0, .ref w1, .ref w2, .ref w3])), (w1, .inl (cC, 9, .inr (.inr (.inr (.inr F)))))] H → va_D A [(o, .inr (3, [.int 0, .int 0, .int 0, .int 0, .ref w1, .ref w2, .ref w3])), (w1, .inl (cC, 9, .inr (.inr (.inr (.inr F)))))] → va_S A s.heap H locs → ∀ (ls : Array Slot), lv_has ls 2 [(0, .ref o)] → W p l e R s m args below meth c H locs (c0 + 1 * 9) (s0 + 5 * 9) Q (F0 m 74 ls [])) : ∀ (n k : Nat) (i : Int32) (F : Nat → Option Nat) (H : Heap) (locs : List Loc), 0 ≤ k → k ≤ 9 → 10 ≤ k + n → i = nI k → True → va_P D classes [(o, .inr (3, [.int 0, .int 0, .int 0, .int 0, .ref w1, .ref w2, .ref w3])), (w1, .inl (cC, 9, .inr (.inr (.inr (.inr F)))))] H → va_D A [(o, .inr (3, [.int 0, .int 0, .int 0, .int 0, .ref w1, .ref w2, .ref w3])), (w1, .inl (cC, 9, .inr (.inr (.inr (.inr F)))))] → va_S A s.heap H locs → ∀ (ls : Array Slot), lv_has ls 2 [(1, .int i), (0, .ref o)] → W p l e R s m args below meth c H locs (c0 + 1 * k) (s0 + 5 * k) Q (F0 m 49 ls []) := by
  subst hl1
  intro n
  induction n with
  | zero => intro k i F H locs h0 h1 h2; omega
  | succ n ih =>
    intro k i F H locs h0 hk hn ek hF hP hD hS ls hl
    refine lv_iload_n hx hb dX9_init_49 rfl (lv_at hl 0 rfl) ?_
    refine lv_bipush (v := 9) hx hb dX9_init_50 (by decide) ?_
    refine lv_icmp_ge (tgt := 74) hx hb dX9_init_52 (by decide) (fun c_52 => ?_) (fun c_52 => ?_)
    · refine W.widen (k := c0 + 1 * 9) (n := s0 + 5 * 9) (by omega) (by omega) ?_
      have ek9 : k = 9 := by
        rcases Nat.lt_or_ge k 9 with h9 | h9
        · exact absurd (show i < 9 by rw [ek]; exact nI_lt (a := k) (b := 9) h9 (by decide)) (Int32.not_lt.mpr c_52)
        · omega
      exact kx F  H locs hF hP hD hS ls (lv_sub hl [1] rfl)
    · have hk2 : k < 9 := by
        rcases Nat.lt_or_ge k 9 with h9 | h9
        · exact h9
        · exact absurd (show (9 : Int32) ≤ i by rw [ek]; exact nI_le (a := 9) (b := k) h9 (by omega)) c_52
      refine lv_aload_n hx hb dX9_init_55 rfl (lv_at hl 1 rfl) ?_
      refine va_get (D := D) (ci := 3) (v := .ref w1) (C := RX9) (T := TX9) (N := 7) hx hb hts i_X9 hown hK hP 0 rfl rfl 4 (by decide) (hts _ m_138) (fun _ h9 => h9) rfl dX9_init_56 ?_
      refine lv_iload_n hx hb dX9_init_59 rfl (lv_at hl 0 rfl) ?_
      refine va_new (ci := 8) (fs := [.int 0, .int 0, .int 0, .int 0, .int 0]) (C := RX0) (T := TX0) (N := 5) hx hb hts i_X0 tyX0 tyX0_ok hown (hts _ m_92) (hts _ m_94) (hts _ m_4) hK hP hD hS hA rfl (fun j hj => by rcases (show j = 0 ∨ j = 1 ∨ j = 2 ∨ j = 3 ∨ j = 4 by omega) with rfl | rfl | rfl | rfl | rfl <;> rfl) (by have := hR.2.2.1; omega) (by have := hR.2.2.2; omega) dX9_init_60 (fun q_1 H hP hD hS => ?_)
      have hP : va_P D classes [(o, .inr (3, [.int 0, .int 0, .int 0, .int 0, .ref w1, .ref w2, .ref w3])), (w1, .inl (cC, 9, .inr (.inr (.inr (.inr F))))), (q_1, .inr (8, [.int 0, .int 0, .int 0, .int 0, .int 0]))] H := hP
      have hD : va_D A [(o, .inr (3, [.int 0, .int 0, .int 0, .int 0, .ref w1, .ref w2, .ref w3])), (w1, .inl (cC, 9, .inr (.inr (.inr (.inr F))))), (q_1, .inr (8, [.int 0, .int 0, .int 0, .int 0, .int 0]))] := hD
      refine lv_dup hx hb dX9_init_63 rfl ?_
      have hc_2 := hP.sub (ws' := [(q_1, .inr (8, [.int 0, .int 0, .int 0, .int 0, .int 0]))]) [2] rfl
      have hc_2D := hD.sub (ws' := [(q_1, .inr (8, [.int 0, .int 0, .int 0, .int 0, .int 0]))]) [2] (by decide) rfl
      have hc_2F := va_free (wc := [(q_1, .inr (8, [.int 0, .int 0, .int 0, .int 0, .int 0]))]) hD hS hA [2] rfl
      refine va_callv (va_runIN (As := []) (rest := [.ref q_1, .int i, .ref w1]) ⟨hx, hb, hml, hown, hts⟩ (c_init_Cue l1 z0 D g _ q_1) ⟨va_cnB 0 hts (lw_I m_97) rfl rfl rfl (hE.ng _ mn_95) (hts _ m_4) (by decide +kernel) ⟨Nat.le_trans (m := 60) (Nat.le_of_ble_eq_true rfl) hR.1, Nat.le_trans (m := 600) (Nat.le_of_ble_eq_true rfl) hR.2.1⟩, rfl, hts _ m_96⟩ ⟨PM.blind, PM.pre hE hS hAz hsz hc_2 hc_2D⟩ rfl rfl hl.1 rfl (lv_room (Nat.le_of_ble_eq_true rfl)) dX9_init_64 ⟨(by have := hR.2.2.1; omega), (by have := hR.2.2.2; omega)⟩) hS (fun q _ h => hc_2F q h) hc_2F (fun u_4 t H locs ht hvm hw hB hz1 hk1 hS => ?_)
      obtain ⟨hP1, hD1⟩ := hB
      rw [ht] at hP1
      obtain ⟨hP, hD⟩ := va_join (wr := [(o, .inr (3, [.int 0, .int 0, .int 0, .int 0, .ref w1, .ref w2, .ref w3])), (w1, .inl (cC, 9, .inr (.inr (.inr (.inr F)))))]) (w1 := [(q_1, .inr (8, [.int 99, .int 0, .int 0, .int 0, .int 0]))]) hP hD [2] [0, 1] rfl rfl (by decide) (by decide) hk1 hc_2F hP1 hD1
      have hP : va_P D classes [(o, .inr (3, [.int 0, .int 0, .int 0, .int 0, .ref w1, .ref w2, .ref w3])), (w1, .inl (cC, 9, .inr (.inr (.inr (.inr F))))), (q_1, .inr (8, [.int 99, .int 0, .int 0, .int 0, .int 0]))] H := hP
      have hD : va_D A [(o, .inr (3, [.int 0, .int 0, .int 0, .int 0, .ref w1, .ref w2, .ref w3])), (w1, .inl (cC, 9, .inr (.inr (.inr (.inr F))))), (q_1, .inr (8, [.int 99, .int 0, .int 0, .int 0, .int 0]))] := hD
      refine va_astq (i := i) hx hb hK hP hD hS 1 0 2 8 rfl rfl rfl rfl (by rw [ek]; exact vp_in_nI hk2 (by decide)) dX9_init_67 (fun H locs hP hD hS => ?_)
      have hP : va_P D classes [(o, .inr (3, [.int 0, .int 0, .int 0, .int 0, .ref w1, .ref w2, .ref w3])), (w1, .inl (cC, 9, .inr (.inr (.inr (.inr (va_up F (Int32.toNatClampNeg i) (some q_1))))))), (q_1, .inr (8, [.int 99, .int 0, .int 0, .int 0, .int 0]))] H := hP
      have hD : va_D A [(o, .inr (3, [.int 0, .int 0, .int 0, .int 0, .ref w1, .ref w2, .ref w3])), (w1, .inl (cC, 9, .inr (.inr (.inr (.inr (va_up F (Int32.toNatClampNeg i) (some q_1))))))), (q_1, .inr (8, [.int 99, .int 0, .int 0, .int 0, .int 0]))] := hD
      refine lv_iinc (v := (i + 1)) (lv' := [(1, .int (i + 1)), (0, .ref o)]) hx hb dX9_init_68 hl (k := 0) rfl rfl (by decide) rfl (fun ls hl => ?_)
      refine lv_goto (tgt := 49) hx hb dX9_init_71 (by decide) ?_
      have ek8 : Int32.toNatClampNeg i = k := by rw [ek]; exact nI_clamp (by omega)
      have hP := hP.sub (ws' := [(o, .inr (3, [.int 0, .int 0, .int 0, .int 0, .ref w1, .ref w2, .ref w3])), (w1, .inl (cC, 9, .inr (.inr (.inr (.inr (va_up F (Int32.toNatClampNeg i) (some q_1)))))))]) [0, 1] rfl
      have hD := hD.sub (ws' := [(o, .inr (3, [.int 0, .int 0, .int 0, .int 0, .ref w1, .ref w2, .ref w3])), (w1, .inl (cC, 9, .inr (.inr (.inr (.inr (va_up F (Int32.toNatClampNeg i) (some q_1)))))))]) [0, 1] (by decide) rfl
      refine W.widen (k := c0 + 1 * (k + 1)) (n := s0 + 5 * (k + 1)) (by omega) (by omega) ?_
      exact ih (k + 1) (i + 1) _  H locs (by omega) (by omega) (by omega) (by rw [ek]; exact nI_1 k) trivial hP hD hS ls (lv_sub hl [0, 1] rfl)

set_option maxHeartbeats 4000000 in
set_option maxRecDepth 100000 in
theorem c_init_Work (l : Launch) (z0 : Nat) (D : va_G) (g : Nat → Nat) (sz : Nat) (o : Nat) : Met l yX9_init (wsp yX9_init cX9_init 2 none) ({ frames := 60, cells := 12, slots := 64, locals := 600 }) (va_Pc [.ref o] (PM z0 D g sz [(o, .inr (3, [.int 0, .int 0, .int 0, .int 0, .null, .null, .null]))])) (va_Qv (fun (_ : Nat × Nat × Nat) => True) (fun u t => va_P D classes [(o, .inr (3, [.int 0, .int 0, .int 0, .int 0, .ref u.1, .ref u.2.1, .ref u.2.2]))] t.heap ∧ va_D (va_A [(o, .inr (3, [.int 0, .int 0, .int 0, .int 0, .null, .null, .null]))] sz) [(o, .inr (3, [.int 0, .int 0, .int 0, .int 0, .ref u.1, .ref u.2.1, .ref u.2.2]))]) (va_A [(o, .inr (3, [.int 0, .int 0, .int 0, .int 0, .null, .null, .null]))] sz)) 12 64 (va_A [(o, .inr (3, [.int 0, .int 0, .int 0, .int 0, .null, .null, .null]))] sz) := by
  refine Met.ofW (cc := cX9_init) (maxL := 2) (ret := none) (by decide) rfl ?_
  intro p e s m args below meth c s₁ B hml hv
  obtain ⟨rfl, hsz9, hz0, hE, hP, hD0⟩ := hv
  have hx := B.exec
  have hb := B.bytes
  have hr := B.returns
  have hts0 := atoms_spec (ws := (wsp yX9_init cX9_init 2 none)) B.pre
  have hts : ∀ w ∈ lw_all, w.before _ s = true := fun w h => hts0 w (List.mem_cons_of_mem _ h)
  have hown : s.vm.findClass "Theatrehouse$Work" = some m.cls := findClass_of_methodNamed B.named
  have hlocks := B.notSynchronized
  have hin : meth.name = "<init>" := (name_of_methodNamed B.named B.method).1
  have hK := hE.K
  subst hsz9
  have hsz := hz0
  have hAz : ∀ q, va_A [(o, .inr (3, [.int 0, .int 0, .int 0, .int 0, .null, .null, .null]))] s.heap.size q → z0 ≤ q := vaA_z hz0 hD0
  have hD := hD0.self (sz := s.heap.size)
  generalize hAe : va_A [(o, .inr (3, [.int 0, .int 0, .int 0, .int 0, .null, .null, .null]))] s.heap.size = A at hD hAz ⊢
  have hA : ∀ q : Nat, s.heap.size ≤ q → A q := fun q h => by rw [← hAe]; exact Or.inr h
  have hS : va_S A s.heap s.heap [] := va_S.rf
  have hP : va_P D classes [(o, .inr (3, [.int 0, .int 0, .int 0, .int 0, .null, .null, .null]))] s.heap := hP
  have hl := lv_entry ([.ref o]) (n := 2) (Nat.le_of_ble_eq_true rfl)
  rw [lg_entry_eq]
  generalize (lg_sl ([.ref o]) ++ List.replicate (2 - (lg_sl ([.ref o])).length) Slot.unset).toArray = ls at hl ⊢
  have hl : lv_has ls 2 [(0, .ref o)] := hl
  refine lv_aload_n hx hb dX9_init_0 rfl (lv_at hl 0 rfl) ?_
  refine W.objInit hx hb hown (hts _ m_91) (hts _ m_69) (hts _ m_70) rfl (by rw [hml]; exact hl.1) rfl dX9_init_1 (Nat.le_of_ble_eq_true rfl) (Nat.le_of_ble_eq_true rfl) ?_
  refine W.eq (g2 := F0 m 4 ls []) rfl ?_
  refine lv_aload_n hx hb dX9_init_4 rfl (lv_at hl 0 rfl) ?_
  refine lv_iconst (v := 0) hx hb dX9_init_5 (by decide) ?_
  refine va_put (D := D) (ci := 3) (v := .int 0) (ty := .int) (C := RX9) (T := TX9) (N := 7) hx hb hts i_X9 tyX9 tyX9_ok nmX9 hown hK hP hD hS 0 rfl rfl 0 (by decide) (hts _ m_127) (fun _ h9 => h9) rfl (by decide +kernel) rfl rfl (Nat.le_of_ble_eq_true rfl) dX9_init_6 (fun H locs hP hD hS => ?_)
  have hP : va_P D classes [(o, .inr (3, [.int 0, .int 0, .int 0, .int 0, .null, .null, .null]))] H := hP
  have hD : va_D A [(o, .inr (3, [.int 0, .int 0, .int 0, .int 0, .null, .null, .null]))] := hD
  refine lv_aload_n hx hb dX9_init_9 rfl (lv_at hl 0 rfl) ?_
  refine lv_iconst (v := 0) hx hb dX9_init_10 (by decide) ?_
  refine va_put (D := D) (ci := 3) (v := .int 0) (ty := .int) (C := RX9) (T := TX9) (N := 7) hx hb hts i_X9 tyX9 tyX9_ok nmX9 hown hK hP hD hS 0 rfl rfl 1 (by decide) (hts _ m_129) (fun _ h9 => h9) rfl (by decide +kernel) rfl rfl (Nat.le_of_ble_eq_true rfl) dX9_init_11 (fun H locs hP hD hS => ?_)
  have hP : va_P D classes [(o, .inr (3, [.int 0, .int 0, .int 0, .int 0, .null, .null, .null]))] H := hP
  have hD : va_D A [(o, .inr (3, [.int 0, .int 0, .int 0, .int 0, .null, .null, .null]))] := hD
  refine lv_aload_n hx hb dX9_init_14 rfl (lv_at hl 0 rfl) ?_
  refine lv_iconst (v := 0) hx hb dX9_init_15 (by decide) ?_
  refine va_put (D := D) (ci := 3) (v := .int 0) (ty := .int) (C := RX9) (T := TX9) (N := 7) hx hb hts i_X9 tyX9 tyX9_ok nmX9 hown hK hP hD hS 0 rfl rfl 2 (by decide) (hts _ m_131) (fun _ h9 => h9) rfl (by decide +kernel) rfl rfl (Nat.le_of_ble_eq_true rfl) dX9_init_16 (fun H locs hP hD hS => ?_)
  have hP : va_P D classes [(o, .inr (3, [.int 0, .int 0, .int 0, .int 0, .null, .null, .null]))] H := hP
  have hD : va_D A [(o, .inr (3, [.int 0, .int 0, .int 0, .int 0, .null, .null, .null]))] := hD
  refine lv_aload_n hx hb dX9_init_19 rfl (lv_at hl 0 rfl) ?_
  refine lv_iconst (v := 0) hx hb dX9_init_20 (by decide) ?_
  refine va_put (D := D) (ci := 3) (v := .int 0) (ty := .int) (C := RX9) (T := TX9) (N := 7) hx hb hts i_X9 tyX9 tyX9_ok nmX9 hown hK hP hD hS 0 rfl rfl 3 (by decide) (hts _ m_133) (fun _ h9 => h9) rfl (by decide +kernel) rfl rfl (Nat.le_of_ble_eq_true rfl) dX9_init_21 (fun H locs hP hD hS => ?_)
  have hP : va_P D classes [(o, .inr (3, [.int 0, .int 0, .int 0, .int 0, .null, .null, .null]))] H := hP
  have hD : va_D A [(o, .inr (3, [.int 0, .int 0, .int 0, .int 0, .null, .null, .null]))] := hD
  refine lv_aload_n hx hb dX9_init_24 rfl (lv_at hl 0 rfl) ?_
  refine lv_bipush (v := 9) hx hb dX9_init_25 (by decide) ?_
  refine va_newq (C := "Theatrehouse$Cue") hx hb hown (hts _ m_92) (hE.ao (i := 4) rfl) hK hP hD hS hA (by decide) (N' := 9) (by decide) (by decide) (Nat.le_of_ble_eq_true rfl) (Nat.le_of_ble_eq_true rfl) dX9_init_27 (fun q_1 cA_2 H hK hP hD hS => ?_)
  have hP : va_P D classes [(o, .inr (3, [.int 0, .int 0, .int 0, .int 0, .null, .null, .null])), (q_1, .inl (cA_2, 9, .inr (.inr (.inr (.inr (fun _ => none))))))] H := hP
  have hD : va_D A [(o, .inr (3, [.int 0, .int 0, .int 0, .int 0, .null, .null, .null])), (q_1, .inl (cA_2, 9, .inr (.inr (.inr (.inr (fun _ => none))))))] := hD
  have hK : va_K D classes [(cA_2, .object "Theatrehouse$Cue")] s := hK
  refine va_putF (D := D) (ci := 3) (v := .ref q_1) (ty := (.array (.object "Theatrehouse$Cue"))) (C := RX9) (T := TX9) (N := 7) hx hb hts i_X9 tyX9 tyX9_ok nmX9 hown hK hP hD hS 0 rfl rfl 4 (by decide) (hts _ m_138) (fun _ h9 => h9) rfl hin rfl (by decide +kernel) rfl rfl (Nat.le_of_ble_eq_true rfl) dX9_init_30 (fun H locs hP hD hS => ?_)
  have hP : va_P D classes [(o, .inr (3, [.int 0, .int 0, .int 0, .int 0, .ref q_1, .null, .null])), (q_1, .inl (cA_2, 9, .inr (.inr (.inr (.inr (fun _ => none))))))] H := hP
  have hD : va_D A [(o, .inr (3, [.int 0, .int 0, .int 0, .int 0, .ref q_1, .null, .null])), (q_1, .inl (cA_2, 9, .inr (.inr (.inr (.inr (fun _ => none))))))] := hD
  refine lv_aload_n hx hb dX9_init_33 rfl (lv_at hl 0 rfl) ?_
  refine lv_iconst (v := 5) hx hb dX9_init_34 (by decide) ?_
  refine va_newa (atype := .int) (ty := .int) (a0 := (5, .inl (fun _ => 0))) hx hb (hts _ m_125) rfl hK hP hD hS hA (fun _ => rfl) (by decide) (by decide) (by decide) (Nat.le_of_ble_eq_true rfl) (Nat.le_of_ble_eq_true rfl) dX9_init_35 (fun q_3 cA_4 H hK hP hD hS => ?_)
  have hP : va_P D classes [(o, .inr (3, [.int 0, .int 0, .int 0, .int 0, .ref q_1, .null, .null])), (q_1, .inl (cA_2, 9, .inr (.inr (.inr (.inr (fun _ => none)))))), (q_3, .inl (cA_4, 5, .inl (fun _ => 0)))] H := hP
  have hD : va_D A [(o, .inr (3, [.int 0, .int 0, .int 0, .int 0, .ref q_1, .null, .null])), (q_1, .inl (cA_2, 9, .inr (.inr (.inr (.inr (fun _ => none)))))), (q_3, .inl (cA_4, 5, .inl (fun _ => 0)))] := hD
  have hK : va_K D classes [(cA_2, .object "Theatrehouse$Cue"), (cA_4, .int)] s := hK
  refine va_putF (D := D) (ci := 3) (v := .ref q_3) (ty := (.array .int)) (C := RX9) (T := TX9) (N := 7) hx hb hts i_X9 tyX9 tyX9_ok nmX9 hown hK hP hD hS 0 rfl rfl 5 (by decide) (hts _ m_141) (fun _ h9 => h9) rfl hin rfl (by decide +kernel) rfl rfl (Nat.le_of_ble_eq_true rfl) dX9_init_37 (fun H locs hP hD hS => ?_)
  have hP : va_P D classes [(o, .inr (3, [.int 0, .int 0, .int 0, .int 0, .ref q_1, .ref q_3, .null])), (q_1, .inl (cA_2, 9, .inr (.inr (.inr (.inr (fun _ => none)))))), (q_3, .inl (cA_4, 5, .inl (fun _ => 0)))] H := hP
  have hD : va_D A [(o, .inr (3, [.int 0, .int 0, .int 0, .int 0, .ref q_1, .ref q_3, .null])), (q_1, .inl (cA_2, 9, .inr (.inr (.inr (.inr (fun _ => none)))))), (q_3, .inl (cA_4, 5, .inl (fun _ => 0)))] := hD
  refine lv_aload_n hx hb dX9_init_40 rfl (lv_at hl 0 rfl) ?_
  refine lv_iconst (v := 5) hx hb dX9_init_41 (by decide) ?_
  refine va_newa (atype := .boolean) (ty := .boolean) (a0 := (5, .inl (fun _ => 0))) hx hb (hts _ m_126) rfl hK hP hD hS hA (fun _ => rfl) (by decide) (by decide) (by decide) (Nat.le_of_ble_eq_true rfl) (Nat.le_of_ble_eq_true rfl) dX9_init_42 (fun q_5 cA_6 H hK hP hD hS => ?_)
  have hP : va_P D classes [(o, .inr (3, [.int 0, .int 0, .int 0, .int 0, .ref q_1, .ref q_3, .null])), (q_1, .inl (cA_2, 9, .inr (.inr (.inr (.inr (fun _ => none)))))), (q_3, .inl (cA_4, 5, .inl (fun _ => 0))), (q_5, .inl (cA_6, 5, .inl (fun _ => 0)))] H := hP
  have hD : va_D A [(o, .inr (3, [.int 0, .int 0, .int 0, .int 0, .ref q_1, .ref q_3, .null])), (q_1, .inl (cA_2, 9, .inr (.inr (.inr (.inr (fun _ => none)))))), (q_3, .inl (cA_4, 5, .inl (fun _ => 0))), (q_5, .inl (cA_6, 5, .inl (fun _ => 0)))] := hD
  have hK : va_K D classes [(cA_2, .object "Theatrehouse$Cue"), (cA_4, .int), (cA_6, .boolean)] s := hK
  refine va_putF (D := D) (ci := 3) (v := .ref q_5) (ty := (.array .boolean)) (C := RX9) (T := TX9) (N := 7) hx hb hts i_X9 tyX9 tyX9_ok nmX9 hown hK hP hD hS 0 rfl rfl 6 (by decide) (hts _ m_143) (fun _ h9 => h9) rfl hin rfl (by decide +kernel) rfl rfl (Nat.le_of_ble_eq_true rfl) dX9_init_44 (fun H locs hP hD hS => ?_)
  have hP : va_P D classes [(o, .inr (3, [.int 0, .int 0, .int 0, .int 0, .ref q_1, .ref q_3, .ref q_5])), (q_1, .inl (cA_2, 9, .inr (.inr (.inr (.inr (fun _ => none)))))), (q_3, .inl (cA_4, 5, .inl (fun _ => 0))), (q_5, .inl (cA_6, 5, .inl (fun _ => 0)))] H := hP
  have hD : va_D A [(o, .inr (3, [.int 0, .int 0, .int 0, .int 0, .ref q_1, .ref q_3, .ref q_5])), (q_1, .inl (cA_2, 9, .inr (.inr (.inr (.inr (fun _ => none)))))), (q_3, .inl (cA_4, 5, .inl (fun _ => 0))), (q_5, .inl (cA_6, 5, .inl (fun _ => 0)))] := hD
  refine lv_iconst (v := 0) hx hb dX9_init_47 (by decide) ?_
  refine lv_istore_n (lv' := [(1, .int 0), (0, .ref o)]) hx hb dX9_init_48 rfl hl (by decide) rfl (fun ls hl => ?_)
  refine W.widen (k := 3 + 1 * 0) (n := 19 + 5 * 0) (Nat.le_of_ble_eq_true rfl) (Nat.le_of_ble_eq_true rfl) ?_
  refine work_fill l rfl 3 19 o q_1 q_3 q_5 cA_2 hx hb hml hts hown hE hAz hA hsz (hK.sub (tys' := [(cA_2, .object "Theatrehouse$Cue")]) [0] rfl) ⟨(Nat.le_of_ble_eq_true rfl), (Nat.le_of_ble_eq_true rfl), (Nat.le_of_ble_eq_true rfl), (Nat.le_of_ble_eq_true rfl)⟩ (fun F H locs _ hP hD hS ls hl => ?_) 10 0 0 _ _ _ (by decide) (by decide) (by decide) nI_0.symm trivial (hP.sub (ws' := [(o, .inr (3, [.int 0, .int 0, .int 0, .int 0, .ref q_1, .ref q_3, .ref q_5])), (q_1, .inl (cA_2, 9, .inr (.inr (.inr (.inr (fun _ => none))))))]) [0, 1] rfl) (hD.sub (ws' := [(o, .inr (3, [.int 0, .int 0, .int 0, .int 0, .ref q_1, .ref q_3, .ref q_5])), (q_1, .inl (cA_2, 9, .inr (.inr (.inr (.inr (fun _ => none))))))]) [0, 1] (by decide) rfl) hS ls (lv_sub hl [0, 1] rfl)
  have hP9 := hP.sub (ws' := [(o, .inr (3, [.int 0, .int 0, .int 0, .int 0, .ref q_1, .ref q_3, .ref q_5]))]) [0] rfl
  have hD9 := hD.sub (ws' := [(o, .inr (3, [.int 0, .int 0, .int 0, .int 0, .ref q_1, .ref q_3, .ref q_5]))]) [0] (by decide) rfl
  refine W.widen (k := 12) (n := 64) (Nat.le_of_ble_eq_true rfl) (Nat.le_of_ble_eq_true rfl) ?_
  exact W.vret hx hb hr (fun t ht hW => ⟨⟨(q_1, q_3, q_5), rfl, trivial, ⟨by rw [ht]; exact hP9, hD9⟩⟩, hS.F ht⟩) hS.2.2 dX9_init_74

set_option maxHeartbeats 4000000 in
set_option maxRecDepth 100000 in
theorem c_init_Show (l : Launch) (z0 : Nat) (D : va_G) (g : Nat → Nat) (sz : Nat) (o : Nat) : Met l yX6_init (wsp yX6_init cX6_init 1 none) ({ frames := 61, cells := 19, slots := 104, locals := 621 }) (va_Pc [.ref o] (PM z0 D g sz [(o, .inr (5, [.null, .null, .null, .null, .null, .long 0, .null, .null, .int 0, .int 0]))])) (va_Qv (fun (_ : List Value) => True) (fun vs t => va_P D classes [(o, .inr (5, vs))] t.heap ∧ va_D (va_A [(o, .inr (5, [.null, .null, .null, .null, .null, .long 0, .null, .null, .int 0, .int 0]))] sz) [(o, .inr (5, vs))]) (va_A [(o, .inr (5, [.null, .null, .null, .null, .null, .long 0, .null, .null, .int 0, .int 0]))] sz)) 19 104 (va_A [(o, .inr (5, [.null, .null, .null, .null, .null, .long 0, .null, .null, .int 0, .int 0]))] sz) := by
  refine Met.ofW (cc := cX6_init) (maxL := 1) (ret := none) (by decide) rfl ?_
  intro p e s m args below meth c s₁ B hml hv
  obtain ⟨rfl, hsz9, hz0, hE, hP, hD0⟩ := hv
  have hx := B.exec
  have hb := B.bytes
  have hr := B.returns
  have hts0 := atoms_spec (ws := (wsp yX6_init cX6_init 1 none)) B.pre
  have hts : ∀ w ∈ lw_all, w.before _ s = true := fun w h => hts0 w (List.mem_cons_of_mem _ h)
  have hown : s.vm.findClass "Theatrehouse$Show" = some m.cls := findClass_of_methodNamed B.named
  have hlocks := B.notSynchronized
  have hin : meth.name = "<init>" := (name_of_methodNamed B.named B.method).1
  have hK := hE.K
  subst hsz9
  have hsz := hz0
  have hAz : ∀ q, va_A [(o, .inr (5, [.null, .null, .null, .null, .null, .long 0, .null, .null, .int 0, .int 0]))] s.heap.size q → z0 ≤ q := vaA_z hz0 hD0
  have hD := hD0.self (sz := s.heap.size)
  generalize hAe : va_A [(o, .inr (5, [.null, .null, .null, .null, .null, .long 0, .null, .null, .int 0, .int 0]))] s.heap.size = A at hD hAz ⊢
  have hA : ∀ q : Nat, s.heap.size ≤ q → A q := fun q h => by rw [← hAe]; exact Or.inr h
  have hS : va_S A s.heap s.heap [] := va_S.rf
  have hP : va_P D classes [(o, .inr (5, [.null, .null, .null, .null, .null, .long 0, .null, .null, .int 0, .int 0]))] s.heap := hP
  have hl := lv_entry ([.ref o]) (n := 1) (Nat.le_of_ble_eq_true rfl)
  rw [lg_entry_eq]
  generalize (lg_sl ([.ref o]) ++ List.replicate (1 - (lg_sl ([.ref o])).length) Slot.unset).toArray = ls at hl ⊢
  have hl : lv_has ls 1 [(0, .ref o)] := hl
  refine lv_aload_n hx hb dX6_init_0 rfl (lv_at hl 0 rfl) ?_
  refine W.objInit hx hb hown (hts _ m_84) (hts _ m_69) (hts _ m_70) rfl (by rw [hml]; exact hl.1) rfl dX6_init_1 (Nat.le_of_ble_eq_true rfl) (Nat.le_of_ble_eq_true rfl) ?_
  refine W.eq (g2 := F0 m 4 ls []) rfl ?_
  refine lv_aload_n hx hb dX6_init_4 rfl (lv_at hl 0 rfl) ?_
  refine lv_iconst (v := 0) hx hb dX6_init_5 (by decide) ?_
  refine va_newq (C := "Theatrehouse$Machine") hx hb hown (hts _ m_85) (hE.ao (i := 1) rfl) hK hP hD hS hA (by decide) (N' := 0) (by decide) (by decide) (Nat.le_of_ble_eq_true rfl) (Nat.le_of_ble_eq_true rfl) dX6_init_6 (fun q_1 cA_2 H hK hP hD hS => ?_)
  have hP : va_P D classes [(o, .inr (5, [.null, .null, .null, .null, .null, .long 0, .null, .null, .int 0, .int 0])), (q_1, .inl (cA_2, 0, .inr (.inr (.inr (.inr (fun _ => none))))))] H := hP
  have hD : va_D A [(o, .inr (5, [.null, .null, .null, .null, .null, .long 0, .null, .null, .int 0, .int 0])), (q_1, .inl (cA_2, 0, .inr (.inr (.inr (.inr (fun _ => none))))))] := hD
  have hK : va_K D classes [(cA_2, .object "Theatrehouse$Machine")] s := hK
  refine va_put (D := D) (ci := 5) (v := .ref q_1) (ty := (.array (.object "Theatrehouse$Machine"))) (C := RX6) (T := TX6) (N := 10) hx hb hts i_X6 tyX6 tyX6_ok nmX6 hown hK hP hD hS 0 rfl rfl 0 (by decide) (hts _ m_160) (fun _ h9 => h9) rfl (by decide +kernel) rfl rfl (Nat.le_of_ble_eq_true rfl) dX6_init_9 (fun H locs hP hD hS => ?_)
  have hP : va_P D classes [(o, .inr (5, [.ref q_1, .null, .null, .null, .null, .long 0, .null, .null, .int 0, .int 0])), (q_1, .inl (cA_2, 0, .inr (.inr (.inr (.inr (fun _ => none))))))] H := hP
  have hD : va_D A [(o, .inr (5, [.ref q_1, .null, .null, .null, .null, .long 0, .null, .null, .int 0, .int 0])), (q_1, .inl (cA_2, 0, .inr (.inr (.inr (.inr (fun _ => none))))))] := hD
  refine lv_aload_n hx hb dX6_init_12 rfl (lv_at hl 0 rfl) ?_
  refine va_new (ci := 3) (fs := [.int 0, .int 0, .int 0, .int 0, .null, .null, .null]) (C := RX9) (T := TX9) (N := 7) hx hb hts i_X9 tyX9 tyX9_ok hown (hts _ m_86) (hts _ m_87) (hts _ m_3) hK hP hD hS hA rfl (fun j hj => by rcases (show j = 0 ∨ j = 1 ∨ j = 2 ∨ j = 3 ∨ j = 4 ∨ j = 5 ∨ j = 6 by omega) with rfl | rfl | rfl | rfl | rfl | rfl | rfl <;> rfl) (Nat.le_of_ble_eq_true rfl) (Nat.le_of_ble_eq_true rfl) dX6_init_13 (fun q_3 H hP hD hS => ?_)
  have hP : va_P D classes [(o, .inr (5, [.ref q_1, .null, .null, .null, .null, .long 0, .null, .null, .int 0, .int 0])), (q_1, .inl (cA_2, 0, .inr (.inr (.inr (.inr (fun _ => none)))))), (q_3, .inr (3, [.int 0, .int 0, .int 0, .int 0, .null, .null, .null]))] H := hP
  have hD : va_D A [(o, .inr (5, [.ref q_1, .null, .null, .null, .null, .long 0, .null, .null, .int 0, .int 0])), (q_1, .inl (cA_2, 0, .inr (.inr (.inr (.inr (fun _ => none)))))), (q_3, .inr (3, [.int 0, .int 0, .int 0, .int 0, .null, .null, .null]))] := hD
  refine lv_dup hx hb dX6_init_16 rfl ?_
  have hc_4 := hP.sub (ws' := [(q_3, .inr (3, [.int 0, .int 0, .int 0, .int 0, .null, .null, .null]))]) [2] rfl
  have hc_4D := hD.sub (ws' := [(q_3, .inr (3, [.int 0, .int 0, .int 0, .int 0, .null, .null, .null]))]) [2] (by decide) rfl
  have hc_4F := va_free (wc := [(q_3, .inr (3, [.int 0, .int 0, .int 0, .int 0, .null, .null, .null]))]) hD hS hA [2] rfl
  refine va_callv (va_runI (As := []) (rest := [.ref q_3, .ref o]) ⟨hx, hb, hml, hown, hts⟩ (c_init_Work l z0 D g _ q_3) (cwI 0 hts (lw_I m_90) rfl rfl rfl (hts _ m_3) (hts _ m_88) (hts _ m_89) rfl (by decide +kernel) ⟨(Nat.le_of_ble_eq_true rfl), (Nat.le_of_ble_eq_true rfl)⟩) ⟨PM.blind, PM.pre hE hS hAz hsz hc_4 hc_4D⟩ rfl rfl hl.1 rfl (lv_room (Nat.le_of_ble_eq_true rfl)) dX6_init_17 ⟨(Nat.le_of_ble_eq_true rfl), (Nat.le_of_ble_eq_true rfl)⟩) hS (fun q _ h => hc_4F q h) hc_4F (fun u_6 t H locs ht hvm hw hB hz1 hk1 hS => ?_)
  obtain ⟨hP1, hD1⟩ := hB
  rw [ht] at hP1
  obtain ⟨hP, hD⟩ := va_join (wr := [(o, .inr (5, [.ref q_1, .null, .null, .null, .null, .long 0, .null, .null, .int 0, .int 0])), (q_1, .inl (cA_2, 0, .inr (.inr (.inr (.inr (fun _ => none))))))]) (w1 := [(q_3, .inr (3, [.int 0, .int 0, .int 0, .int 0, .ref u_6.1, .ref u_6.2.1, .ref u_6.2.2]))]) hP hD [2] [0, 1] rfl rfl (by decide) (by decide) hk1 hc_4F hP1 hD1
  have hP : va_P D classes [(o, .inr (5, [.ref q_1, .null, .null, .null, .null, .long 0, .null, .null, .int 0, .int 0])), (q_1, .inl (cA_2, 0, .inr (.inr (.inr (.inr (fun _ => none)))))), (q_3, .inr (3, [.int 0, .int 0, .int 0, .int 0, .ref u_6.1, .ref u_6.2.1, .ref u_6.2.2]))] H := hP
  have hD : va_D A [(o, .inr (5, [.ref q_1, .null, .null, .null, .null, .long 0, .null, .null, .int 0, .int 0])), (q_1, .inl (cA_2, 0, .inr (.inr (.inr (.inr (fun _ => none)))))), (q_3, .inr (3, [.int 0, .int 0, .int 0, .int 0, .ref u_6.1, .ref u_6.2.1, .ref u_6.2.2]))] := hD
  refine va_put (D := D) (ci := 5) (v := .ref q_3) (ty := (.object "Theatrehouse$Work")) (C := RX6) (T := TX6) (N := 10) hx hb hts i_X6 tyX6 tyX6_ok nmX6 hown hK hP hD hS 0 rfl rfl 1 (by decide) (hts _ m_161) (fun _ h9 => h9) rfl (by decide +kernel) rfl rfl (Nat.le_of_ble_eq_true rfl) dX6_init_20 (fun H locs hP hD hS => ?_)
  have hP : va_P D classes [(o, .inr (5, [.ref q_1, .ref q_3, .null, .null, .null, .long 0, .null, .null, .int 0, .int 0])), (q_1, .inl (cA_2, 0, .inr (.inr (.inr (.inr (fun _ => none)))))), (q_3, .inr (3, [.int 0, .int 0, .int 0, .int 0, .ref u_6.1, .ref u_6.2.1, .ref u_6.2.2]))] H := hP
  have hD : va_D A [(o, .inr (5, [.ref q_1, .ref q_3, .null, .null, .null, .long 0, .null, .null, .int 0, .int 0])), (q_1, .inl (cA_2, 0, .inr (.inr (.inr (.inr (fun _ => none)))))), (q_3, .inr (3, [.int 0, .int 0, .int 0, .int 0, .ref u_6.1, .ref u_6.2.1, .ref u_6.2.2]))] := hD
  refine lv_aload_n hx hb dX6_init_23 rfl (lv_at hl 0 rfl) ?_
  refine lv_iconst (v := 5) hx hb dX6_init_24 (by decide) ?_
  refine va_newa (atype := .int) (ty := .int) (a0 := (5, .inl (fun _ => 0))) hx hb (hts _ m_125) rfl hK hP hD hS hA (fun _ => rfl) (by decide) (by decide) (by decide) (Nat.le_of_ble_eq_true rfl) (Nat.le_of_ble_eq_true rfl) dX6_init_25 (fun q_7 cA_8 H hK hP hD hS => ?_)
  have hP : va_P D classes [(o, .inr (5, [.ref q_1, .ref q_3, .null, .null, .null, .long 0, .null, .null, .int 0, .int 0])), (q_1, .inl (cA_2, 0, .inr (.inr (.inr (.inr (fun _ => none)))))), (q_3, .inr (3, [.int 0, .int 0, .int 0, .int 0, .ref u_6.1, .ref u_6.2.1, .ref u_6.2.2])), (q_7, .inl (cA_8, 5, .inl (fun _ => 0)))] H := hP
  have hD : va_D A [(o, .inr (5, [.ref q_1, .ref q_3, .null, .null, .null, .long 0, .null, .null, .int 0, .int 0])), (q_1, .inl (cA_2, 0, .inr (.inr (.inr (.inr (fun _ => none)))))), (q_3, .inr (3, [.int 0, .int 0, .int 0, .int 0, .ref u_6.1, .ref u_6.2.1, .ref u_6.2.2])), (q_7, .inl (cA_8, 5, .inl (fun _ => 0)))] := hD
  have hK : va_K D classes [(cA_2, .object "Theatrehouse$Machine"), (cA_8, .int)] s := hK
  refine va_putF (D := D) (ci := 5) (v := .ref q_7) (ty := (.array .int)) (C := RX6) (T := TX6) (N := 10) hx hb hts i_X6 tyX6 tyX6_ok nmX6 hown hK hP hD hS 0 rfl rfl 2 (by decide) (hts _ m_165) (fun _ h9 => h9) rfl hin rfl (by decide +kernel) rfl rfl (Nat.le_of_ble_eq_true rfl) dX6_init_27 (fun H locs hP hD hS => ?_)
  have hP : va_P D classes [(o, .inr (5, [.ref q_1, .ref q_3, .ref q_7, .null, .null, .long 0, .null, .null, .int 0, .int 0])), (q_1, .inl (cA_2, 0, .inr (.inr (.inr (.inr (fun _ => none)))))), (q_3, .inr (3, [.int 0, .int 0, .int 0, .int 0, .ref u_6.1, .ref u_6.2.1, .ref u_6.2.2])), (q_7, .inl (cA_8, 5, .inl (fun _ => 0)))] H := hP
  have hD : va_D A [(o, .inr (5, [.ref q_1, .ref q_3, .ref q_7, .null, .null, .long 0, .null, .null, .int 0, .int 0])), (q_1, .inl (cA_2, 0, .inr (.inr (.inr (.inr (fun _ => none)))))), (q_3, .inr (3, [.int 0, .int 0, .int 0, .int 0, .ref u_6.1, .ref u_6.2.1, .ref u_6.2.2])), (q_7, .inl (cA_8, 5, .inl (fun _ => 0)))] := hD
  refine lv_aload_n hx hb dX6_init_30 rfl (lv_at hl 0 rfl) ?_
  refine lv_iconst (v := 5) hx hb dX6_init_31 (by decide) ?_
  refine va_newa (atype := .int) (ty := .int) (a0 := (5, .inl (fun _ => 0))) hx hb (hts _ m_125) rfl hK hP hD hS hA (fun _ => rfl) (by decide) (by decide) (by decide) (Nat.le_of_ble_eq_true rfl) (Nat.le_of_ble_eq_true rfl) dX6_init_32 (fun q_9 cA_10 H hK hP hD hS => ?_)
  have hP : va_P D classes [(o, .inr (5, [.ref q_1, .ref q_3, .ref q_7, .null, .null, .long 0, .null, .null, .int 0, .int 0])), (q_1, .inl (cA_2, 0, .inr (.inr (.inr (.inr (fun _ => none)))))), (q_3, .inr (3, [.int 0, .int 0, .int 0, .int 0, .ref u_6.1, .ref u_6.2.1, .ref u_6.2.2])), (q_7, .inl (cA_8, 5, .inl (fun _ => 0))), (q_9, .inl (cA_10, 5, .inl (fun _ => 0)))] H := hP
  have hD : va_D A [(o, .inr (5, [.ref q_1, .ref q_3, .ref q_7, .null, .null, .long 0, .null, .null, .int 0, .int 0])), (q_1, .inl (cA_2, 0, .inr (.inr (.inr (.inr (fun _ => none)))))), (q_3, .inr (3, [.int 0, .int 0, .int 0, .int 0, .ref u_6.1, .ref u_6.2.1, .ref u_6.2.2])), (q_7, .inl (cA_8, 5, .inl (fun _ => 0))), (q_9, .inl (cA_10, 5, .inl (fun _ => 0)))] := hD
  have hK : va_K D classes [(cA_2, .object "Theatrehouse$Machine"), (cA_8, .int), (cA_10, .int)] s := hK
  refine va_putF (D := D) (ci := 5) (v := .ref q_9) (ty := (.array .int)) (C := RX6) (T := TX6) (N := 10) hx hb hts i_X6 tyX6 tyX6_ok nmX6 hown hK hP hD hS 0 rfl rfl 3 (by decide) (hts _ m_167) (fun _ h9 => h9) rfl hin rfl (by decide +kernel) rfl rfl (Nat.le_of_ble_eq_true rfl) dX6_init_34 (fun H locs hP hD hS => ?_)
  have hP : va_P D classes [(o, .inr (5, [.ref q_1, .ref q_3, .ref q_7, .ref q_9, .null, .long 0, .null, .null, .int 0, .int 0])), (q_1, .inl (cA_2, 0, .inr (.inr (.inr (.inr (fun _ => none)))))), (q_3, .inr (3, [.int 0, .int 0, .int 0, .int 0, .ref u_6.1, .ref u_6.2.1, .ref u_6.2.2])), (q_7, .inl (cA_8, 5, .inl (fun _ => 0))), (q_9, .inl (cA_10, 5, .inl (fun _ => 0)))] H := hP
  have hD : va_D A [(o, .inr (5, [.ref q_1, .ref q_3, .ref q_7, .ref q_9, .null, .long 0, .null, .null, .int 0, .int 0])), (q_1, .inl (cA_2, 0, .inr (.inr (.inr (.inr (fun _ => none)))))), (q_3, .inr (3, [.int 0, .int 0, .int 0, .int 0, .ref u_6.1, .ref u_6.2.1, .ref u_6.2.2])), (q_7, .inl (cA_8, 5, .inl (fun _ => 0))), (q_9, .inl (cA_10, 5, .inl (fun _ => 0)))] := hD
  refine lv_aload_n hx hb dX6_init_37 rfl (lv_at hl 0 rfl) ?_
  refine lv_iconst (v := 5) hx hb dX6_init_38 (by decide) ?_
  refine va_newa (atype := .int) (ty := .int) (a0 := (5, .inl (fun _ => 0))) hx hb (hts _ m_125) rfl hK hP hD hS hA (fun _ => rfl) (by decide) (by decide) (by decide) (Nat.le_of_ble_eq_true rfl) (Nat.le_of_ble_eq_true rfl) dX6_init_39 (fun q_11 cA_12 H hK hP hD hS => ?_)
  have hP : va_P D classes [(o, .inr (5, [.ref q_1, .ref q_3, .ref q_7, .ref q_9, .null, .long 0, .null, .null, .int 0, .int 0])), (q_1, .inl (cA_2, 0, .inr (.inr (.inr (.inr (fun _ => none)))))), (q_3, .inr (3, [.int 0, .int 0, .int 0, .int 0, .ref u_6.1, .ref u_6.2.1, .ref u_6.2.2])), (q_7, .inl (cA_8, 5, .inl (fun _ => 0))), (q_9, .inl (cA_10, 5, .inl (fun _ => 0))), (q_11, .inl (cA_12, 5, .inl (fun _ => 0)))] H := hP
  have hD : va_D A [(o, .inr (5, [.ref q_1, .ref q_3, .ref q_7, .ref q_9, .null, .long 0, .null, .null, .int 0, .int 0])), (q_1, .inl (cA_2, 0, .inr (.inr (.inr (.inr (fun _ => none)))))), (q_3, .inr (3, [.int 0, .int 0, .int 0, .int 0, .ref u_6.1, .ref u_6.2.1, .ref u_6.2.2])), (q_7, .inl (cA_8, 5, .inl (fun _ => 0))), (q_9, .inl (cA_10, 5, .inl (fun _ => 0))), (q_11, .inl (cA_12, 5, .inl (fun _ => 0)))] := hD
  have hK : va_K D classes [(cA_2, .object "Theatrehouse$Machine"), (cA_8, .int), (cA_10, .int), (cA_12, .int)] s := hK
  refine va_putF (D := D) (ci := 5) (v := .ref q_11) (ty := (.array .int)) (C := RX6) (T := TX6) (N := 10) hx hb hts i_X6 tyX6 tyX6_ok nmX6 hown hK hP hD hS 0 rfl rfl 4 (by decide) (hts _ m_168) (fun _ h9 => h9) rfl hin rfl (by decide +kernel) rfl rfl (Nat.le_of_ble_eq_true rfl) dX6_init_41 (fun H locs hP hD hS => ?_)
  have hP : va_P D classes [(o, .inr (5, [.ref q_1, .ref q_3, .ref q_7, .ref q_9, .ref q_11, .long 0, .null, .null, .int 0, .int 0])), (q_1, .inl (cA_2, 0, .inr (.inr (.inr (.inr (fun _ => none)))))), (q_3, .inr (3, [.int 0, .int 0, .int 0, .int 0, .ref u_6.1, .ref u_6.2.1, .ref u_6.2.2])), (q_7, .inl (cA_8, 5, .inl (fun _ => 0))), (q_9, .inl (cA_10, 5, .inl (fun _ => 0))), (q_11, .inl (cA_12, 5, .inl (fun _ => 0)))] H := hP
  have hD : va_D A [(o, .inr (5, [.ref q_1, .ref q_3, .ref q_7, .ref q_9, .ref q_11, .long 0, .null, .null, .int 0, .int 0])), (q_1, .inl (cA_2, 0, .inr (.inr (.inr (.inr (fun _ => none)))))), (q_3, .inr (3, [.int 0, .int 0, .int 0, .int 0, .ref u_6.1, .ref u_6.2.1, .ref u_6.2.2])), (q_7, .inl (cA_8, 5, .inl (fun _ => 0))), (q_9, .inl (cA_10, 5, .inl (fun _ => 0))), (q_11, .inl (cA_12, 5, .inl (fun _ => 0)))] := hD
  refine lv_aload_n hx hb dX6_init_44 rfl (lv_at hl 0 rfl) ?_
  refine lv_lconst (v := 0) hx hb dX6_init_45 (by decide) ?_
  refine va_put (D := D) (ci := 5) (v := .long 0) (ty := .long) (C := RX6) (T := TX6) (N := 10) hx hb hts i_X6 tyX6 tyX6_ok nmX6 hown hK hP hD hS 0 rfl rfl 5 (by decide) (hts _ m_169) (fun _ h9 => h9) rfl (by decide +kernel) rfl rfl (Nat.le_of_ble_eq_true rfl) dX6_init_46 (fun H locs hP hD hS => ?_)
  have hP : va_P D classes [(o, .inr (5, [.ref q_1, .ref q_3, .ref q_7, .ref q_9, .ref q_11, .long 0, .null, .null, .int 0, .int 0])), (q_1, .inl (cA_2, 0, .inr (.inr (.inr (.inr (fun _ => none)))))), (q_3, .inr (3, [.int 0, .int 0, .int 0, .int 0, .ref u_6.1, .ref u_6.2.1, .ref u_6.2.2])), (q_7, .inl (cA_8, 5, .inl (fun _ => 0))), (q_9, .inl (cA_10, 5, .inl (fun _ => 0))), (q_11, .inl (cA_12, 5, .inl (fun _ => 0)))] H := hP
  have hD : va_D A [(o, .inr (5, [.ref q_1, .ref q_3, .ref q_7, .ref q_9, .ref q_11, .long 0, .null, .null, .int 0, .int 0])), (q_1, .inl (cA_2, 0, .inr (.inr (.inr (.inr (fun _ => none)))))), (q_3, .inr (3, [.int 0, .int 0, .int 0, .int 0, .ref u_6.1, .ref u_6.2.1, .ref u_6.2.2])), (q_7, .inl (cA_8, 5, .inl (fun _ => 0))), (q_9, .inl (cA_10, 5, .inl (fun _ => 0))), (q_11, .inl (cA_12, 5, .inl (fun _ => 0)))] := hD
  refine lv_aload_n hx hb dX6_init_49 rfl (lv_at hl 0 rfl) ?_
  refine lv_bipush (v := 9) hx hb dX6_init_50 (by decide) ?_
  refine va_newa (atype := .long) (ty := .long) (a0 := (9, .inr (.inl (fun _ => 0)))) hx hb (hts _ m_200) rfl hK hP hD hS hA (fun _ => rfl) (by decide) (by decide) (by decide) (Nat.le_of_ble_eq_true rfl) (Nat.le_of_ble_eq_true rfl) dX6_init_52 (fun q_13 cA_14 H hK hP hD hS => ?_)
  have hP : va_P D classes [(o, .inr (5, [.ref q_1, .ref q_3, .ref q_7, .ref q_9, .ref q_11, .long 0, .null, .null, .int 0, .int 0])), (q_1, .inl (cA_2, 0, .inr (.inr (.inr (.inr (fun _ => none)))))), (q_3, .inr (3, [.int 0, .int 0, .int 0, .int 0, .ref u_6.1, .ref u_6.2.1, .ref u_6.2.2])), (q_7, .inl (cA_8, 5, .inl (fun _ => 0))), (q_9, .inl (cA_10, 5, .inl (fun _ => 0))), (q_11, .inl (cA_12, 5, .inl (fun _ => 0))), (q_13, .inl (cA_14, 9, .inr (.inl (fun _ => 0))))] H := hP
  have hD : va_D A [(o, .inr (5, [.ref q_1, .ref q_3, .ref q_7, .ref q_9, .ref q_11, .long 0, .null, .null, .int 0, .int 0])), (q_1, .inl (cA_2, 0, .inr (.inr (.inr (.inr (fun _ => none)))))), (q_3, .inr (3, [.int 0, .int 0, .int 0, .int 0, .ref u_6.1, .ref u_6.2.1, .ref u_6.2.2])), (q_7, .inl (cA_8, 5, .inl (fun _ => 0))), (q_9, .inl (cA_10, 5, .inl (fun _ => 0))), (q_11, .inl (cA_12, 5, .inl (fun _ => 0))), (q_13, .inl (cA_14, 9, .inr (.inl (fun _ => 0))))] := hD
  have hK : va_K D classes [(cA_2, .object "Theatrehouse$Machine"), (cA_8, .int), (cA_10, .int), (cA_12, .int), (cA_14, .long)] s := hK
  refine va_putF (D := D) (ci := 5) (v := .ref q_13) (ty := (.array .long)) (C := RX6) (T := TX6) (N := 10) hx hb hts i_X6 tyX6 tyX6_ok nmX6 hown hK hP hD hS 0 rfl rfl 6 (by decide) (hts _ m_173) (fun _ h9 => h9) rfl hin rfl (by decide +kernel) rfl rfl (Nat.le_of_ble_eq_true rfl) dX6_init_54 (fun H locs hP hD hS => ?_)
  have hP : va_P D classes [(o, .inr (5, [.ref q_1, .ref q_3, .ref q_7, .ref q_9, .ref q_11, .long 0, .ref q_13, .null, .int 0, .int 0])), (q_1, .inl (cA_2, 0, .inr (.inr (.inr (.inr (fun _ => none)))))), (q_3, .inr (3, [.int 0, .int 0, .int 0, .int 0, .ref u_6.1, .ref u_6.2.1, .ref u_6.2.2])), (q_7, .inl (cA_8, 5, .inl (fun _ => 0))), (q_9, .inl (cA_10, 5, .inl (fun _ => 0))), (q_11, .inl (cA_12, 5, .inl (fun _ => 0))), (q_13, .inl (cA_14, 9, .inr (.inl (fun _ => 0))))] H := hP
  have hD : va_D A [(o, .inr (5, [.ref q_1, .ref q_3, .ref q_7, .ref q_9, .ref q_11, .long 0, .ref q_13, .null, .int 0, .int 0])), (q_1, .inl (cA_2, 0, .inr (.inr (.inr (.inr (fun _ => none)))))), (q_3, .inr (3, [.int 0, .int 0, .int 0, .int 0, .ref u_6.1, .ref u_6.2.1, .ref u_6.2.2])), (q_7, .inl (cA_8, 5, .inl (fun _ => 0))), (q_9, .inl (cA_10, 5, .inl (fun _ => 0))), (q_11, .inl (cA_12, 5, .inl (fun _ => 0))), (q_13, .inl (cA_14, 9, .inr (.inl (fun _ => 0))))] := hD
  refine lv_aload_n hx hb dX6_init_57 rfl (lv_at hl 0 rfl) ?_
  refine lv_bipush (v := 9) hx hb dX6_init_58 (by decide) ?_
  refine va_newa (atype := .int) (ty := .int) (a0 := (9, .inl (fun _ => 0))) hx hb (hts _ m_125) rfl hK hP hD hS hA (fun _ => rfl) (by decide) (by decide) (by decide) (Nat.le_of_ble_eq_true rfl) (Nat.le_of_ble_eq_true rfl) dX6_init_60 (fun q_15 cA_16 H hK hP hD hS => ?_)
  have hP : va_P D classes [(o, .inr (5, [.ref q_1, .ref q_3, .ref q_7, .ref q_9, .ref q_11, .long 0, .ref q_13, .null, .int 0, .int 0])), (q_1, .inl (cA_2, 0, .inr (.inr (.inr (.inr (fun _ => none)))))), (q_3, .inr (3, [.int 0, .int 0, .int 0, .int 0, .ref u_6.1, .ref u_6.2.1, .ref u_6.2.2])), (q_7, .inl (cA_8, 5, .inl (fun _ => 0))), (q_9, .inl (cA_10, 5, .inl (fun _ => 0))), (q_11, .inl (cA_12, 5, .inl (fun _ => 0))), (q_13, .inl (cA_14, 9, .inr (.inl (fun _ => 0)))), (q_15, .inl (cA_16, 9, .inl (fun _ => 0)))] H := hP
  have hD : va_D A [(o, .inr (5, [.ref q_1, .ref q_3, .ref q_7, .ref q_9, .ref q_11, .long 0, .ref q_13, .null, .int 0, .int 0])), (q_1, .inl (cA_2, 0, .inr (.inr (.inr (.inr (fun _ => none)))))), (q_3, .inr (3, [.int 0, .int 0, .int 0, .int 0, .ref u_6.1, .ref u_6.2.1, .ref u_6.2.2])), (q_7, .inl (cA_8, 5, .inl (fun _ => 0))), (q_9, .inl (cA_10, 5, .inl (fun _ => 0))), (q_11, .inl (cA_12, 5, .inl (fun _ => 0))), (q_13, .inl (cA_14, 9, .inr (.inl (fun _ => 0)))), (q_15, .inl (cA_16, 9, .inl (fun _ => 0)))] := hD
  have hK : va_K D classes [(cA_2, .object "Theatrehouse$Machine"), (cA_8, .int), (cA_10, .int), (cA_12, .int), (cA_14, .long), (cA_16, .int)] s := hK
  refine va_putF (D := D) (ci := 5) (v := .ref q_15) (ty := (.array .int)) (C := RX6) (T := TX6) (N := 10) hx hb hts i_X6 tyX6 tyX6_ok nmX6 hown hK hP hD hS 0 rfl rfl 7 (by decide) (hts _ m_174) (fun _ h9 => h9) rfl hin rfl (by decide +kernel) rfl rfl (Nat.le_of_ble_eq_true rfl) dX6_init_62 (fun H locs hP hD hS => ?_)
  have hP : va_P D classes [(o, .inr (5, [.ref q_1, .ref q_3, .ref q_7, .ref q_9, .ref q_11, .long 0, .ref q_13, .ref q_15, .int 0, .int 0])), (q_1, .inl (cA_2, 0, .inr (.inr (.inr (.inr (fun _ => none)))))), (q_3, .inr (3, [.int 0, .int 0, .int 0, .int 0, .ref u_6.1, .ref u_6.2.1, .ref u_6.2.2])), (q_7, .inl (cA_8, 5, .inl (fun _ => 0))), (q_9, .inl (cA_10, 5, .inl (fun _ => 0))), (q_11, .inl (cA_12, 5, .inl (fun _ => 0))), (q_13, .inl (cA_14, 9, .inr (.inl (fun _ => 0)))), (q_15, .inl (cA_16, 9, .inl (fun _ => 0)))] H := hP
  have hD : va_D A [(o, .inr (5, [.ref q_1, .ref q_3, .ref q_7, .ref q_9, .ref q_11, .long 0, .ref q_13, .ref q_15, .int 0, .int 0])), (q_1, .inl (cA_2, 0, .inr (.inr (.inr (.inr (fun _ => none)))))), (q_3, .inr (3, [.int 0, .int 0, .int 0, .int 0, .ref u_6.1, .ref u_6.2.1, .ref u_6.2.2])), (q_7, .inl (cA_8, 5, .inl (fun _ => 0))), (q_9, .inl (cA_10, 5, .inl (fun _ => 0))), (q_11, .inl (cA_12, 5, .inl (fun _ => 0))), (q_13, .inl (cA_14, 9, .inr (.inl (fun _ => 0)))), (q_15, .inl (cA_16, 9, .inl (fun _ => 0)))] := hD
  refine lv_aload_n hx hb dX6_init_65 rfl (lv_at hl 0 rfl) ?_
  refine lv_iconst (v := 0) hx hb dX6_init_66 (by decide) ?_
  refine va_put (D := D) (ci := 5) (v := .int 0) (ty := .int) (C := RX6) (T := TX6) (N := 10) hx hb hts i_X6 tyX6 tyX6_ok nmX6 hown hK hP hD hS 0 rfl rfl 8 (by decide) (hts _ m_175) (fun _ h9 => h9) rfl (by decide +kernel) rfl rfl (Nat.le_of_ble_eq_true rfl) dX6_init_67 (fun H locs hP hD hS => ?_)
  have hP : va_P D classes [(o, .inr (5, [.ref q_1, .ref q_3, .ref q_7, .ref q_9, .ref q_11, .long 0, .ref q_13, .ref q_15, .int 0, .int 0])), (q_1, .inl (cA_2, 0, .inr (.inr (.inr (.inr (fun _ => none)))))), (q_3, .inr (3, [.int 0, .int 0, .int 0, .int 0, .ref u_6.1, .ref u_6.2.1, .ref u_6.2.2])), (q_7, .inl (cA_8, 5, .inl (fun _ => 0))), (q_9, .inl (cA_10, 5, .inl (fun _ => 0))), (q_11, .inl (cA_12, 5, .inl (fun _ => 0))), (q_13, .inl (cA_14, 9, .inr (.inl (fun _ => 0)))), (q_15, .inl (cA_16, 9, .inl (fun _ => 0)))] H := hP
  have hD : va_D A [(o, .inr (5, [.ref q_1, .ref q_3, .ref q_7, .ref q_9, .ref q_11, .long 0, .ref q_13, .ref q_15, .int 0, .int 0])), (q_1, .inl (cA_2, 0, .inr (.inr (.inr (.inr (fun _ => none)))))), (q_3, .inr (3, [.int 0, .int 0, .int 0, .int 0, .ref u_6.1, .ref u_6.2.1, .ref u_6.2.2])), (q_7, .inl (cA_8, 5, .inl (fun _ => 0))), (q_9, .inl (cA_10, 5, .inl (fun _ => 0))), (q_11, .inl (cA_12, 5, .inl (fun _ => 0))), (q_13, .inl (cA_14, 9, .inr (.inl (fun _ => 0)))), (q_15, .inl (cA_16, 9, .inl (fun _ => 0)))] := hD
  refine lv_aload_n hx hb dX6_init_70 rfl (lv_at hl 0 rfl) ?_
  refine lv_iconst (v := 0) hx hb dX6_init_71 (by decide) ?_
  refine va_put (D := D) (ci := 5) (v := .int 0) (ty := .int) (C := RX6) (T := TX6) (N := 10) hx hb hts i_X6 tyX6 tyX6_ok nmX6 hown hK hP hD hS 0 rfl rfl 9 (by decide) (hts _ m_177) (fun _ h9 => h9) rfl (by decide +kernel) rfl rfl (Nat.le_of_ble_eq_true rfl) dX6_init_72 (fun H locs hP hD hS => ?_)
  have hP : va_P D classes [(o, .inr (5, [.ref q_1, .ref q_3, .ref q_7, .ref q_9, .ref q_11, .long 0, .ref q_13, .ref q_15, .int 0, .int 0])), (q_1, .inl (cA_2, 0, .inr (.inr (.inr (.inr (fun _ => none)))))), (q_3, .inr (3, [.int 0, .int 0, .int 0, .int 0, .ref u_6.1, .ref u_6.2.1, .ref u_6.2.2])), (q_7, .inl (cA_8, 5, .inl (fun _ => 0))), (q_9, .inl (cA_10, 5, .inl (fun _ => 0))), (q_11, .inl (cA_12, 5, .inl (fun _ => 0))), (q_13, .inl (cA_14, 9, .inr (.inl (fun _ => 0)))), (q_15, .inl (cA_16, 9, .inl (fun _ => 0)))] H := hP
  have hD : va_D A [(o, .inr (5, [.ref q_1, .ref q_3, .ref q_7, .ref q_9, .ref q_11, .long 0, .ref q_13, .ref q_15, .int 0, .int 0])), (q_1, .inl (cA_2, 0, .inr (.inr (.inr (.inr (fun _ => none)))))), (q_3, .inr (3, [.int 0, .int 0, .int 0, .int 0, .ref u_6.1, .ref u_6.2.1, .ref u_6.2.2])), (q_7, .inl (cA_8, 5, .inl (fun _ => 0))), (q_9, .inl (cA_10, 5, .inl (fun _ => 0))), (q_11, .inl (cA_12, 5, .inl (fun _ => 0))), (q_13, .inl (cA_14, 9, .inr (.inl (fun _ => 0)))), (q_15, .inl (cA_16, 9, .inl (fun _ => 0)))] := hD
  have hP9 := hP.sub (ws' := [(o, .inr (5, [.ref q_1, .ref q_3, .ref q_7, .ref q_9, .ref q_11, .long 0, .ref q_13, .ref q_15, .int 0, .int 0]))]) [0] rfl
  have hD9 := hD.sub (ws' := [(o, .inr (5, [.ref q_1, .ref q_3, .ref q_7, .ref q_9, .ref q_11, .long 0, .ref q_13, .ref q_15, .int 0, .int 0]))]) [0] (by decide) rfl
  refine W.widen (k := 19) (n := 104) (Nat.le_of_ble_eq_true rfl) (Nat.le_of_ble_eq_true rfl) ?_
  exact W.vret hx hb hr (fun t ht hW => ⟨⟨[.ref q_1, .ref q_3, .ref q_7, .ref q_9, .ref q_11, .long 0, .ref q_13, .ref q_15, .int 0, .int 0], rfl, trivial, ⟨by rw [ht]; exact hP9, hD9⟩⟩, hS.F ht⟩) hS.2.2 dX6_init_75

set_option maxHeartbeats 4000000 in
set_option maxRecDepth 100000 in
theorem c_init_Search (l : Launch) (z0 : Nat) (D : va_G) (g : Nat → Nat) (sz : Nat) (o : Nat) : Met l yX5_init (wsp yX5_init cX5_init 1 none) ({ frames := 1, cells := 5, slots := 3609, locals := 20 }) (va_Pc [.ref o] (PM z0 D g sz [(o, .inr (6, [.null, .null, .null, .null, .null, .int 0, .int 0, .int 0, .int 0, .long 0, .int 0, .int 0, .int 0]))])) (va_Qv (fun (_ : List Value) => True) (fun vs t => va_P D classes [(o, .inr (6, vs))] t.heap ∧ va_D (va_A [(o, .inr (6, [.null, .null, .null, .null, .null, .int 0, .int 0, .int 0, .int 0, .long 0, .int 0, .int 0, .int 0]))] sz) [(o, .inr (6, vs))]) (va_A [(o, .inr (6, [.null, .null, .null, .null, .null, .int 0, .int 0, .int 0, .int 0, .long 0, .int 0, .int 0, .int 0]))] sz)) 5 3609 (va_A [(o, .inr (6, [.null, .null, .null, .null, .null, .int 0, .int 0, .int 0, .int 0, .long 0, .int 0, .int 0, .int 0]))] sz) := by
  refine Met.ofW (cc := cX5_init) (maxL := 1) (ret := none) (by decide) rfl ?_
  intro p e s m args below meth c s₁ B hml hv
  obtain ⟨rfl, hsz9, hz0, hE, hP, hD0⟩ := hv
  have hx := B.exec
  have hb := B.bytes
  have hr := B.returns
  have hts0 := atoms_spec (ws := (wsp yX5_init cX5_init 1 none)) B.pre
  have hts : ∀ w ∈ lw_all, w.before _ s = true := fun w h => hts0 w (List.mem_cons_of_mem _ h)
  have hown : s.vm.findClass "Theatrehouse$Search" = some m.cls := findClass_of_methodNamed B.named
  have hlocks := B.notSynchronized
  have hin : meth.name = "<init>" := (name_of_methodNamed B.named B.method).1
  have hK := hE.K
  subst hsz9
  have hsz := hz0
  have hAz : ∀ q, va_A [(o, .inr (6, [.null, .null, .null, .null, .null, .int 0, .int 0, .int 0, .int 0, .long 0, .int 0, .int 0, .int 0]))] s.heap.size q → z0 ≤ q := vaA_z hz0 hD0
  have hD := hD0.self (sz := s.heap.size)
  generalize hAe : va_A [(o, .inr (6, [.null, .null, .null, .null, .null, .int 0, .int 0, .int 0, .int 0, .long 0, .int 0, .int 0, .int 0]))] s.heap.size = A at hD hAz ⊢
  have hA : ∀ q : Nat, s.heap.size ≤ q → A q := fun q h => by rw [← hAe]; exact Or.inr h
  have hS : va_S A s.heap s.heap [] := va_S.rf
  have hP : va_P D classes [(o, .inr (6, [.null, .null, .null, .null, .null, .int 0, .int 0, .int 0, .int 0, .long 0, .int 0, .int 0, .int 0]))] s.heap := hP
  have hl := lv_entry ([.ref o]) (n := 1) (Nat.le_of_ble_eq_true rfl)
  rw [lg_entry_eq]
  generalize (lg_sl ([.ref o]) ++ List.replicate (1 - (lg_sl ([.ref o])).length) Slot.unset).toArray = ls at hl ⊢
  have hl : lv_has ls 1 [(0, .ref o)] := hl
  refine lv_aload_n hx hb dX5_init_0 rfl (lv_at hl 0 rfl) ?_
  refine W.objInit hx hb hown (hts _ m_206) (hts _ m_69) (hts _ m_70) rfl (by rw [hml]; exact hl.1) rfl dX5_init_1 (Nat.le_of_ble_eq_true rfl) (Nat.le_of_ble_eq_true rfl) ?_
  refine W.eq (g2 := F0 m 4 ls []) rfl ?_
  refine lv_aload_n hx hb dX5_init_4 rfl (lv_at hl 0 rfl) ?_
  refine lv_sipush (v := 300) hx hb dX5_init_5 (by decide) ?_
  refine va_newa (atype := .long) (ty := .long) (a0 := (300, .inr (.inl (fun _ => 0)))) hx hb (hts _ m_200) rfl hK hP hD hS hA (fun _ => rfl) (by decide) (by decide) (by decide) (Nat.le_of_ble_eq_true rfl) (Nat.le_of_ble_eq_true rfl) dX5_init_8 (fun q_1 cA_2 H hK hP hD hS => ?_)
  have hP : va_P D classes [(o, .inr (6, [.null, .null, .null, .null, .null, .int 0, .int 0, .int 0, .int 0, .long 0, .int 0, .int 0, .int 0])), (q_1, .inl (cA_2, 300, .inr (.inl (fun _ => 0))))] H := hP
  have hD : va_D A [(o, .inr (6, [.null, .null, .null, .null, .null, .int 0, .int 0, .int 0, .int 0, .long 0, .int 0, .int 0, .int 0])), (q_1, .inl (cA_2, 300, .inr (.inl (fun _ => 0))))] := hD
  have hK : va_K D classes [(cA_2, .long)] s := hK
  refine va_putF (D := D) (ci := 6) (v := .ref q_1) (ty := (.array .long)) (C := RX5) (T := TX5) (N := 13) hx hb hts i_X5 tyX5 tyX5_ok nmX5 hown hK hP hD hS 0 rfl rfl 0 (by decide) (hts _ m_207) (fun _ h9 => h9) rfl hin rfl (by decide +kernel) rfl rfl (Nat.le_of_ble_eq_true rfl) dX5_init_10 (fun H locs hP hD hS => ?_)
  have hP : va_P D classes [(o, .inr (6, [.ref q_1, .null, .null, .null, .null, .int 0, .int 0, .int 0, .int 0, .long 0, .int 0, .int 0, .int 0])), (q_1, .inl (cA_2, 300, .inr (.inl (fun _ => 0))))] H := hP
  have hD : va_D A [(o, .inr (6, [.ref q_1, .null, .null, .null, .null, .int 0, .int 0, .int 0, .int 0, .long 0, .int 0, .int 0, .int 0])), (q_1, .inl (cA_2, 300, .inr (.inl (fun _ => 0))))] := hD
  refine lv_aload_n hx hb dX5_init_13 rfl (lv_at hl 0 rfl) ?_
  refine lv_sipush (v := 2700) hx hb dX5_init_14 (by decide) ?_
  refine va_newa (atype := .int) (ty := .int) (a0 := (2700, .inl (fun _ => 0))) hx hb (hts _ m_125) rfl hK hP hD hS hA (fun _ => rfl) (by decide) (by decide) (by decide) (Nat.le_of_ble_eq_true rfl) (Nat.le_of_ble_eq_true rfl) dX5_init_17 (fun q_3 cA_4 H hK hP hD hS => ?_)
  have hP : va_P D classes [(o, .inr (6, [.ref q_1, .null, .null, .null, .null, .int 0, .int 0, .int 0, .int 0, .long 0, .int 0, .int 0, .int 0])), (q_1, .inl (cA_2, 300, .inr (.inl (fun _ => 0)))), (q_3, .inl (cA_4, 2700, .inl (fun _ => 0)))] H := hP
  have hD : va_D A [(o, .inr (6, [.ref q_1, .null, .null, .null, .null, .int 0, .int 0, .int 0, .int 0, .long 0, .int 0, .int 0, .int 0])), (q_1, .inl (cA_2, 300, .inr (.inl (fun _ => 0)))), (q_3, .inl (cA_4, 2700, .inl (fun _ => 0)))] := hD
  have hK : va_K D classes [(cA_2, .long), (cA_4, .int)] s := hK
  refine va_putF (D := D) (ci := 6) (v := .ref q_3) (ty := (.array .int)) (C := RX5) (T := TX5) (N := 13) hx hb hts i_X5 tyX5 tyX5_ok nmX5 hown hK hP hD hS 0 rfl rfl 1 (by decide) (hts _ m_208) (fun _ h9 => h9) rfl hin rfl (by decide +kernel) rfl rfl (Nat.le_of_ble_eq_true rfl) dX5_init_19 (fun H locs hP hD hS => ?_)
  have hP : va_P D classes [(o, .inr (6, [.ref q_1, .ref q_3, .null, .null, .null, .int 0, .int 0, .int 0, .int 0, .long 0, .int 0, .int 0, .int 0])), (q_1, .inl (cA_2, 300, .inr (.inl (fun _ => 0)))), (q_3, .inl (cA_4, 2700, .inl (fun _ => 0)))] H := hP
  have hD : va_D A [(o, .inr (6, [.ref q_1, .ref q_3, .null, .null, .null, .int 0, .int 0, .int 0, .int 0, .long 0, .int 0, .int 0, .int 0])), (q_1, .inl (cA_2, 300, .inr (.inl (fun _ => 0)))), (q_3, .inl (cA_4, 2700, .inl (fun _ => 0)))] := hD
  refine lv_aload_n hx hb dX5_init_22 rfl (lv_at hl 0 rfl) ?_
  refine lv_sipush (v := 300) hx hb dX5_init_23 (by decide) ?_
  refine va_newa (atype := .int) (ty := .int) (a0 := (300, .inl (fun _ => 0))) hx hb (hts _ m_125) rfl hK hP hD hS hA (fun _ => rfl) (by decide) (by decide) (by decide) (Nat.le_of_ble_eq_true rfl) (Nat.le_of_ble_eq_true rfl) dX5_init_26 (fun q_5 cA_6 H hK hP hD hS => ?_)
  have hP : va_P D classes [(o, .inr (6, [.ref q_1, .ref q_3, .null, .null, .null, .int 0, .int 0, .int 0, .int 0, .long 0, .int 0, .int 0, .int 0])), (q_1, .inl (cA_2, 300, .inr (.inl (fun _ => 0)))), (q_3, .inl (cA_4, 2700, .inl (fun _ => 0))), (q_5, .inl (cA_6, 300, .inl (fun _ => 0)))] H := hP
  have hD : va_D A [(o, .inr (6, [.ref q_1, .ref q_3, .null, .null, .null, .int 0, .int 0, .int 0, .int 0, .long 0, .int 0, .int 0, .int 0])), (q_1, .inl (cA_2, 300, .inr (.inl (fun _ => 0)))), (q_3, .inl (cA_4, 2700, .inl (fun _ => 0))), (q_5, .inl (cA_6, 300, .inl (fun _ => 0)))] := hD
  have hK : va_K D classes [(cA_2, .long), (cA_4, .int), (cA_6, .int)] s := hK
  refine va_putF (D := D) (ci := 6) (v := .ref q_5) (ty := (.array .int)) (C := RX5) (T := TX5) (N := 13) hx hb hts i_X5 tyX5 tyX5_ok nmX5 hown hK hP hD hS 0 rfl rfl 2 (by decide) (hts _ m_209) (fun _ h9 => h9) rfl hin rfl (by decide +kernel) rfl rfl (Nat.le_of_ble_eq_true rfl) dX5_init_28 (fun H locs hP hD hS => ?_)
  have hP : va_P D classes [(o, .inr (6, [.ref q_1, .ref q_3, .ref q_5, .null, .null, .int 0, .int 0, .int 0, .int 0, .long 0, .int 0, .int 0, .int 0])), (q_1, .inl (cA_2, 300, .inr (.inl (fun _ => 0)))), (q_3, .inl (cA_4, 2700, .inl (fun _ => 0))), (q_5, .inl (cA_6, 300, .inl (fun _ => 0)))] H := hP
  have hD : va_D A [(o, .inr (6, [.ref q_1, .ref q_3, .ref q_5, .null, .null, .int 0, .int 0, .int 0, .int 0, .long 0, .int 0, .int 0, .int 0])), (q_1, .inl (cA_2, 300, .inr (.inl (fun _ => 0)))), (q_3, .inl (cA_4, 2700, .inl (fun _ => 0))), (q_5, .inl (cA_6, 300, .inl (fun _ => 0)))] := hD
  refine lv_aload_n hx hb dX5_init_31 rfl (lv_at hl 0 rfl) ?_
  refine lv_sipush (v := 300) hx hb dX5_init_32 (by decide) ?_
  refine va_newa (atype := .long) (ty := .long) (a0 := (300, .inr (.inl (fun _ => 0)))) hx hb (hts _ m_200) rfl hK hP hD hS hA (fun _ => rfl) (by decide) (by decide) (by decide) (Nat.le_of_ble_eq_true rfl) (Nat.le_of_ble_eq_true rfl) dX5_init_35 (fun q_7 cA_8 H hK hP hD hS => ?_)
  have hP : va_P D classes [(o, .inr (6, [.ref q_1, .ref q_3, .ref q_5, .null, .null, .int 0, .int 0, .int 0, .int 0, .long 0, .int 0, .int 0, .int 0])), (q_1, .inl (cA_2, 300, .inr (.inl (fun _ => 0)))), (q_3, .inl (cA_4, 2700, .inl (fun _ => 0))), (q_5, .inl (cA_6, 300, .inl (fun _ => 0))), (q_7, .inl (cA_8, 300, .inr (.inl (fun _ => 0))))] H := hP
  have hD : va_D A [(o, .inr (6, [.ref q_1, .ref q_3, .ref q_5, .null, .null, .int 0, .int 0, .int 0, .int 0, .long 0, .int 0, .int 0, .int 0])), (q_1, .inl (cA_2, 300, .inr (.inl (fun _ => 0)))), (q_3, .inl (cA_4, 2700, .inl (fun _ => 0))), (q_5, .inl (cA_6, 300, .inl (fun _ => 0))), (q_7, .inl (cA_8, 300, .inr (.inl (fun _ => 0))))] := hD
  have hK : va_K D classes [(cA_2, .long), (cA_4, .int), (cA_6, .int), (cA_8, .long)] s := hK
  refine va_putF (D := D) (ci := 6) (v := .ref q_7) (ty := (.array .long)) (C := RX5) (T := TX5) (N := 13) hx hb hts i_X5 tyX5 tyX5_ok nmX5 hown hK hP hD hS 0 rfl rfl 3 (by decide) (hts _ m_210) (fun _ h9 => h9) rfl hin rfl (by decide +kernel) rfl rfl (Nat.le_of_ble_eq_true rfl) dX5_init_37 (fun H locs hP hD hS => ?_)
  have hP : va_P D classes [(o, .inr (6, [.ref q_1, .ref q_3, .ref q_5, .ref q_7, .null, .int 0, .int 0, .int 0, .int 0, .long 0, .int 0, .int 0, .int 0])), (q_1, .inl (cA_2, 300, .inr (.inl (fun _ => 0)))), (q_3, .inl (cA_4, 2700, .inl (fun _ => 0))), (q_5, .inl (cA_6, 300, .inl (fun _ => 0))), (q_7, .inl (cA_8, 300, .inr (.inl (fun _ => 0))))] H := hP
  have hD : va_D A [(o, .inr (6, [.ref q_1, .ref q_3, .ref q_5, .ref q_7, .null, .int 0, .int 0, .int 0, .int 0, .long 0, .int 0, .int 0, .int 0])), (q_1, .inl (cA_2, 300, .inr (.inl (fun _ => 0)))), (q_3, .inl (cA_4, 2700, .inl (fun _ => 0))), (q_5, .inl (cA_6, 300, .inl (fun _ => 0))), (q_7, .inl (cA_8, 300, .inr (.inl (fun _ => 0))))] := hD
  refine lv_aload_n hx hb dX5_init_40 rfl (lv_at hl 0 rfl) ?_
  refine lv_bipush (v := 9) hx hb dX5_init_41 (by decide) ?_
  refine va_newa (atype := .int) (ty := .int) (a0 := (9, .inl (fun _ => 0))) hx hb (hts _ m_125) rfl hK hP hD hS hA (fun _ => rfl) (by decide) (by decide) (by decide) (Nat.le_of_ble_eq_true rfl) (Nat.le_of_ble_eq_true rfl) dX5_init_43 (fun q_9 cA_10 H hK hP hD hS => ?_)
  have hP : va_P D classes [(o, .inr (6, [.ref q_1, .ref q_3, .ref q_5, .ref q_7, .null, .int 0, .int 0, .int 0, .int 0, .long 0, .int 0, .int 0, .int 0])), (q_1, .inl (cA_2, 300, .inr (.inl (fun _ => 0)))), (q_3, .inl (cA_4, 2700, .inl (fun _ => 0))), (q_5, .inl (cA_6, 300, .inl (fun _ => 0))), (q_7, .inl (cA_8, 300, .inr (.inl (fun _ => 0)))), (q_9, .inl (cA_10, 9, .inl (fun _ => 0)))] H := hP
  have hD : va_D A [(o, .inr (6, [.ref q_1, .ref q_3, .ref q_5, .ref q_7, .null, .int 0, .int 0, .int 0, .int 0, .long 0, .int 0, .int 0, .int 0])), (q_1, .inl (cA_2, 300, .inr (.inl (fun _ => 0)))), (q_3, .inl (cA_4, 2700, .inl (fun _ => 0))), (q_5, .inl (cA_6, 300, .inl (fun _ => 0))), (q_7, .inl (cA_8, 300, .inr (.inl (fun _ => 0)))), (q_9, .inl (cA_10, 9, .inl (fun _ => 0)))] := hD
  have hK : va_K D classes [(cA_2, .long), (cA_4, .int), (cA_6, .int), (cA_8, .long), (cA_10, .int)] s := hK
  refine va_putF (D := D) (ci := 6) (v := .ref q_9) (ty := (.array .int)) (C := RX5) (T := TX5) (N := 13) hx hb hts i_X5 tyX5 tyX5_ok nmX5 hown hK hP hD hS 0 rfl rfl 4 (by decide) (hts _ m_213) (fun _ h9 => h9) rfl hin rfl (by decide +kernel) rfl rfl (Nat.le_of_ble_eq_true rfl) dX5_init_45 (fun H locs hP hD hS => ?_)
  have hP : va_P D classes [(o, .inr (6, [.ref q_1, .ref q_3, .ref q_5, .ref q_7, .ref q_9, .int 0, .int 0, .int 0, .int 0, .long 0, .int 0, .int 0, .int 0])), (q_1, .inl (cA_2, 300, .inr (.inl (fun _ => 0)))), (q_3, .inl (cA_4, 2700, .inl (fun _ => 0))), (q_5, .inl (cA_6, 300, .inl (fun _ => 0))), (q_7, .inl (cA_8, 300, .inr (.inl (fun _ => 0)))), (q_9, .inl (cA_10, 9, .inl (fun _ => 0)))] H := hP
  have hD : va_D A [(o, .inr (6, [.ref q_1, .ref q_3, .ref q_5, .ref q_7, .ref q_9, .int 0, .int 0, .int 0, .int 0, .long 0, .int 0, .int 0, .int 0])), (q_1, .inl (cA_2, 300, .inr (.inl (fun _ => 0)))), (q_3, .inl (cA_4, 2700, .inl (fun _ => 0))), (q_5, .inl (cA_6, 300, .inl (fun _ => 0))), (q_7, .inl (cA_8, 300, .inr (.inl (fun _ => 0)))), (q_9, .inl (cA_10, 9, .inl (fun _ => 0)))] := hD
  refine lv_aload_n hx hb dX5_init_48 rfl (lv_at hl 0 rfl) ?_
  refine lv_iconst (v := 0) hx hb dX5_init_49 (by decide) ?_
  refine va_put (D := D) (ci := 6) (v := .int 0) (ty := .int) (C := RX5) (T := TX5) (N := 13) hx hb hts i_X5 tyX5 tyX5_ok nmX5 hown hK hP hD hS 0 rfl rfl 5 (by decide) (hts _ m_216) (fun _ h9 => h9) rfl (by decide +kernel) rfl rfl (Nat.le_of_ble_eq_true rfl) dX5_init_50 (fun H locs hP hD hS => ?_)
  have hP : va_P D classes [(o, .inr (6, [.ref q_1, .ref q_3, .ref q_5, .ref q_7, .ref q_9, .int 0, .int 0, .int 0, .int 0, .long 0, .int 0, .int 0, .int 0])), (q_1, .inl (cA_2, 300, .inr (.inl (fun _ => 0)))), (q_3, .inl (cA_4, 2700, .inl (fun _ => 0))), (q_5, .inl (cA_6, 300, .inl (fun _ => 0))), (q_7, .inl (cA_8, 300, .inr (.inl (fun _ => 0)))), (q_9, .inl (cA_10, 9, .inl (fun _ => 0)))] H := hP
  have hD : va_D A [(o, .inr (6, [.ref q_1, .ref q_3, .ref q_5, .ref q_7, .ref q_9, .int 0, .int 0, .int 0, .int 0, .long 0, .int 0, .int 0, .int 0])), (q_1, .inl (cA_2, 300, .inr (.inl (fun _ => 0)))), (q_3, .inl (cA_4, 2700, .inl (fun _ => 0))), (q_5, .inl (cA_6, 300, .inl (fun _ => 0))), (q_7, .inl (cA_8, 300, .inr (.inl (fun _ => 0)))), (q_9, .inl (cA_10, 9, .inl (fun _ => 0)))] := hD
  refine lv_aload_n hx hb dX5_init_53 rfl (lv_at hl 0 rfl) ?_
  refine lv_iconst (v := 0) hx hb dX5_init_54 (by decide) ?_
  refine va_put (D := D) (ci := 6) (v := .int 0) (ty := .int) (C := RX5) (T := TX5) (N := 13) hx hb hts i_X5 tyX5 tyX5_ok nmX5 hown hK hP hD hS 0 rfl rfl 6 (by decide) (hts _ m_218) (fun _ h9 => h9) rfl (by decide +kernel) rfl rfl (Nat.le_of_ble_eq_true rfl) dX5_init_55 (fun H locs hP hD hS => ?_)
  have hP : va_P D classes [(o, .inr (6, [.ref q_1, .ref q_3, .ref q_5, .ref q_7, .ref q_9, .int 0, .int 0, .int 0, .int 0, .long 0, .int 0, .int 0, .int 0])), (q_1, .inl (cA_2, 300, .inr (.inl (fun _ => 0)))), (q_3, .inl (cA_4, 2700, .inl (fun _ => 0))), (q_5, .inl (cA_6, 300, .inl (fun _ => 0))), (q_7, .inl (cA_8, 300, .inr (.inl (fun _ => 0)))), (q_9, .inl (cA_10, 9, .inl (fun _ => 0)))] H := hP
  have hD : va_D A [(o, .inr (6, [.ref q_1, .ref q_3, .ref q_5, .ref q_7, .ref q_9, .int 0, .int 0, .int 0, .int 0, .long 0, .int 0, .int 0, .int 0])), (q_1, .inl (cA_2, 300, .inr (.inl (fun _ => 0)))), (q_3, .inl (cA_4, 2700, .inl (fun _ => 0))), (q_5, .inl (cA_6, 300, .inl (fun _ => 0))), (q_7, .inl (cA_8, 300, .inr (.inl (fun _ => 0)))), (q_9, .inl (cA_10, 9, .inl (fun _ => 0)))] := hD
  refine lv_aload_n hx hb dX5_init_58 rfl (lv_at hl 0 rfl) ?_
  refine lv_iconst (v := 0) hx hb dX5_init_59 (by decide) ?_
  refine va_put (D := D) (ci := 6) (v := .int 0) (ty := .int) (C := RX5) (T := TX5) (N := 13) hx hb hts i_X5 tyX5 tyX5_ok nmX5 hown hK hP hD hS 0 rfl rfl 7 (by decide) (hts _ m_219) (fun _ h9 => h9) rfl (by decide +kernel) rfl rfl (Nat.le_of_ble_eq_true rfl) dX5_init_60 (fun H locs hP hD hS => ?_)
  have hP : va_P D classes [(o, .inr (6, [.ref q_1, .ref q_3, .ref q_5, .ref q_7, .ref q_9, .int 0, .int 0, .int 0, .int 0, .long 0, .int 0, .int 0, .int 0])), (q_1, .inl (cA_2, 300, .inr (.inl (fun _ => 0)))), (q_3, .inl (cA_4, 2700, .inl (fun _ => 0))), (q_5, .inl (cA_6, 300, .inl (fun _ => 0))), (q_7, .inl (cA_8, 300, .inr (.inl (fun _ => 0)))), (q_9, .inl (cA_10, 9, .inl (fun _ => 0)))] H := hP
  have hD : va_D A [(o, .inr (6, [.ref q_1, .ref q_3, .ref q_5, .ref q_7, .ref q_9, .int 0, .int 0, .int 0, .int 0, .long 0, .int 0, .int 0, .int 0])), (q_1, .inl (cA_2, 300, .inr (.inl (fun _ => 0)))), (q_3, .inl (cA_4, 2700, .inl (fun _ => 0))), (q_5, .inl (cA_6, 300, .inl (fun _ => 0))), (q_7, .inl (cA_8, 300, .inr (.inl (fun _ => 0)))), (q_9, .inl (cA_10, 9, .inl (fun _ => 0)))] := hD
  refine lv_aload_n hx hb dX5_init_63 rfl (lv_at hl 0 rfl) ?_
  refine lv_iconst (v := 0) hx hb dX5_init_64 (by decide) ?_
  refine va_put (D := D) (ci := 6) (v := .int 0) (ty := .int) (C := RX5) (T := TX5) (N := 13) hx hb hts i_X5 tyX5 tyX5_ok nmX5 hown hK hP hD hS 0 rfl rfl 8 (by decide) (hts _ m_220) (fun _ h9 => h9) rfl (by decide +kernel) rfl rfl (Nat.le_of_ble_eq_true rfl) dX5_init_65 (fun H locs hP hD hS => ?_)
  have hP : va_P D classes [(o, .inr (6, [.ref q_1, .ref q_3, .ref q_5, .ref q_7, .ref q_9, .int 0, .int 0, .int 0, .int 0, .long 0, .int 0, .int 0, .int 0])), (q_1, .inl (cA_2, 300, .inr (.inl (fun _ => 0)))), (q_3, .inl (cA_4, 2700, .inl (fun _ => 0))), (q_5, .inl (cA_6, 300, .inl (fun _ => 0))), (q_7, .inl (cA_8, 300, .inr (.inl (fun _ => 0)))), (q_9, .inl (cA_10, 9, .inl (fun _ => 0)))] H := hP
  have hD : va_D A [(o, .inr (6, [.ref q_1, .ref q_3, .ref q_5, .ref q_7, .ref q_9, .int 0, .int 0, .int 0, .int 0, .long 0, .int 0, .int 0, .int 0])), (q_1, .inl (cA_2, 300, .inr (.inl (fun _ => 0)))), (q_3, .inl (cA_4, 2700, .inl (fun _ => 0))), (q_5, .inl (cA_6, 300, .inl (fun _ => 0))), (q_7, .inl (cA_8, 300, .inr (.inl (fun _ => 0)))), (q_9, .inl (cA_10, 9, .inl (fun _ => 0)))] := hD
  refine lv_aload_n hx hb dX5_init_68 rfl (lv_at hl 0 rfl) ?_
  refine lv_lconst (v := 0) hx hb dX5_init_69 (by decide) ?_
  refine va_put (D := D) (ci := 6) (v := .long 0) (ty := .long) (C := RX5) (T := TX5) (N := 13) hx hb hts i_X5 tyX5 tyX5_ok nmX5 hown hK hP hD hS 0 rfl rfl 9 (by decide) (hts _ m_223) (fun _ h9 => h9) rfl (by decide +kernel) rfl rfl (Nat.le_of_ble_eq_true rfl) dX5_init_70 (fun H locs hP hD hS => ?_)
  have hP : va_P D classes [(o, .inr (6, [.ref q_1, .ref q_3, .ref q_5, .ref q_7, .ref q_9, .int 0, .int 0, .int 0, .int 0, .long 0, .int 0, .int 0, .int 0])), (q_1, .inl (cA_2, 300, .inr (.inl (fun _ => 0)))), (q_3, .inl (cA_4, 2700, .inl (fun _ => 0))), (q_5, .inl (cA_6, 300, .inl (fun _ => 0))), (q_7, .inl (cA_8, 300, .inr (.inl (fun _ => 0)))), (q_9, .inl (cA_10, 9, .inl (fun _ => 0)))] H := hP
  have hD : va_D A [(o, .inr (6, [.ref q_1, .ref q_3, .ref q_5, .ref q_7, .ref q_9, .int 0, .int 0, .int 0, .int 0, .long 0, .int 0, .int 0, .int 0])), (q_1, .inl (cA_2, 300, .inr (.inl (fun _ => 0)))), (q_3, .inl (cA_4, 2700, .inl (fun _ => 0))), (q_5, .inl (cA_6, 300, .inl (fun _ => 0))), (q_7, .inl (cA_8, 300, .inr (.inl (fun _ => 0)))), (q_9, .inl (cA_10, 9, .inl (fun _ => 0)))] := hD
  refine lv_aload_n hx hb dX5_init_73 rfl (lv_at hl 0 rfl) ?_
  refine lv_iconst (v := 0) hx hb dX5_init_74 (by decide) ?_
  refine va_put (D := D) (ci := 6) (v := .int 0) (ty := .boolean) (C := RX5) (T := TX5) (N := 13) hx hb hts i_X5 tyX5 tyX5_ok nmX5 hown hK hP hD hS 0 rfl rfl 10 (by decide) (hts _ m_224) (fun _ h9 => h9) rfl (by decide +kernel) rfl rfl (Nat.le_of_ble_eq_true rfl) dX5_init_75 (fun H locs hP hD hS => ?_)
  have hP : va_P D classes [(o, .inr (6, [.ref q_1, .ref q_3, .ref q_5, .ref q_7, .ref q_9, .int 0, .int 0, .int 0, .int 0, .long 0, .int 0, .int 0, .int 0])), (q_1, .inl (cA_2, 300, .inr (.inl (fun _ => 0)))), (q_3, .inl (cA_4, 2700, .inl (fun _ => 0))), (q_5, .inl (cA_6, 300, .inl (fun _ => 0))), (q_7, .inl (cA_8, 300, .inr (.inl (fun _ => 0)))), (q_9, .inl (cA_10, 9, .inl (fun _ => 0)))] H := hP
  have hD : va_D A [(o, .inr (6, [.ref q_1, .ref q_3, .ref q_5, .ref q_7, .ref q_9, .int 0, .int 0, .int 0, .int 0, .long 0, .int 0, .int 0, .int 0])), (q_1, .inl (cA_2, 300, .inr (.inl (fun _ => 0)))), (q_3, .inl (cA_4, 2700, .inl (fun _ => 0))), (q_5, .inl (cA_6, 300, .inl (fun _ => 0))), (q_7, .inl (cA_8, 300, .inr (.inl (fun _ => 0)))), (q_9, .inl (cA_10, 9, .inl (fun _ => 0)))] := hD
  refine lv_aload_n hx hb dX5_init_78 rfl (lv_at hl 0 rfl) ?_
  refine lv_iconst (v := 0) hx hb dX5_init_79 (by decide) ?_
  refine va_put (D := D) (ci := 6) (v := .int 0) (ty := .int) (C := RX5) (T := TX5) (N := 13) hx hb hts i_X5 tyX5 tyX5_ok nmX5 hown hK hP hD hS 0 rfl rfl 11 (by decide) (hts _ m_226) (fun _ h9 => h9) rfl (by decide +kernel) rfl rfl (Nat.le_of_ble_eq_true rfl) dX5_init_80 (fun H locs hP hD hS => ?_)
  have hP : va_P D classes [(o, .inr (6, [.ref q_1, .ref q_3, .ref q_5, .ref q_7, .ref q_9, .int 0, .int 0, .int 0, .int 0, .long 0, .int 0, .int 0, .int 0])), (q_1, .inl (cA_2, 300, .inr (.inl (fun _ => 0)))), (q_3, .inl (cA_4, 2700, .inl (fun _ => 0))), (q_5, .inl (cA_6, 300, .inl (fun _ => 0))), (q_7, .inl (cA_8, 300, .inr (.inl (fun _ => 0)))), (q_9, .inl (cA_10, 9, .inl (fun _ => 0)))] H := hP
  have hD : va_D A [(o, .inr (6, [.ref q_1, .ref q_3, .ref q_5, .ref q_7, .ref q_9, .int 0, .int 0, .int 0, .int 0, .long 0, .int 0, .int 0, .int 0])), (q_1, .inl (cA_2, 300, .inr (.inl (fun _ => 0)))), (q_3, .inl (cA_4, 2700, .inl (fun _ => 0))), (q_5, .inl (cA_6, 300, .inl (fun _ => 0))), (q_7, .inl (cA_8, 300, .inr (.inl (fun _ => 0)))), (q_9, .inl (cA_10, 9, .inl (fun _ => 0)))] := hD
  refine lv_aload_n hx hb dX5_init_83 rfl (lv_at hl 0 rfl) ?_
  refine lv_iconst (v := 0) hx hb dX5_init_84 (by decide) ?_
  refine va_put (D := D) (ci := 6) (v := .int 0) (ty := .boolean) (C := RX5) (T := TX5) (N := 13) hx hb hts i_X5 tyX5 tyX5_ok nmX5 hown hK hP hD hS 0 rfl rfl 12 (by decide) (hts _ m_227) (fun _ h9 => h9) rfl (by decide +kernel) rfl rfl (Nat.le_of_ble_eq_true rfl) dX5_init_85 (fun H locs hP hD hS => ?_)
  have hP : va_P D classes [(o, .inr (6, [.ref q_1, .ref q_3, .ref q_5, .ref q_7, .ref q_9, .int 0, .int 0, .int 0, .int 0, .long 0, .int 0, .int 0, .int 0])), (q_1, .inl (cA_2, 300, .inr (.inl (fun _ => 0)))), (q_3, .inl (cA_4, 2700, .inl (fun _ => 0))), (q_5, .inl (cA_6, 300, .inl (fun _ => 0))), (q_7, .inl (cA_8, 300, .inr (.inl (fun _ => 0)))), (q_9, .inl (cA_10, 9, .inl (fun _ => 0)))] H := hP
  have hD : va_D A [(o, .inr (6, [.ref q_1, .ref q_3, .ref q_5, .ref q_7, .ref q_9, .int 0, .int 0, .int 0, .int 0, .long 0, .int 0, .int 0, .int 0])), (q_1, .inl (cA_2, 300, .inr (.inl (fun _ => 0)))), (q_3, .inl (cA_4, 2700, .inl (fun _ => 0))), (q_5, .inl (cA_6, 300, .inl (fun _ => 0))), (q_7, .inl (cA_8, 300, .inr (.inl (fun _ => 0)))), (q_9, .inl (cA_10, 9, .inl (fun _ => 0)))] := hD
  have hP9 := hP.sub (ws' := [(o, .inr (6, [.ref q_1, .ref q_3, .ref q_5, .ref q_7, .ref q_9, .int 0, .int 0, .int 0, .int 0, .long 0, .int 0, .int 0, .int 0]))]) [0] rfl
  have hD9 := hD.sub (ws' := [(o, .inr (6, [.ref q_1, .ref q_3, .ref q_5, .ref q_7, .ref q_9, .int 0, .int 0, .int 0, .int 0, .long 0, .int 0, .int 0, .int 0]))]) [0] (by decide) rfl
  refine W.widen (k := 5) (n := 3609) (Nat.le_of_ble_eq_true rfl) (Nat.le_of_ble_eq_true rfl) ?_
  exact W.vret hx hb hr (fun t ht hW => ⟨⟨[.ref q_1, .ref q_3, .ref q_5, .ref q_7, .ref q_9, .int 0, .int 0, .int 0, .int 0, .long 0, .int 0, .int 0, .int 0], rfl, trivial, ⟨by rw [ht]; exact hP9, hD9⟩⟩, hS.F ht⟩) hS.2.2 dX5_init_88

set_option maxHeartbeats 4000000 in
set_option maxRecDepth 100000 in
theorem c_init_Trial (l : Launch) (z0 : Nat) (D : va_G) (g : Nat → Nat) (sz : Nat) (o : Nat) : Met l yX8_init (wsp yX8_init cX8_init 1 none) ({ frames := 1, cells := 2, slots := 10, locals := 20 }) (va_Pc [.ref o] (PM z0 D g sz [(o, .inr (7, [.null, .null, .int 0, .int 0, .long 0]))])) (va_Qv (fun (_ : List Value) => True) (fun vs t => va_P D classes [(o, .inr (7, vs))] t.heap ∧ va_D (va_A [(o, .inr (7, [.null, .null, .int 0, .int 0, .long 0]))] sz) [(o, .inr (7, vs))]) (va_A [(o, .inr (7, [.null, .null, .int 0, .int 0, .long 0]))] sz)) 2 10 (va_A [(o, .inr (7, [.null, .null, .int 0, .int 0, .long 0]))] sz) := by
  refine Met.ofW (cc := cX8_init) (maxL := 1) (ret := none) (by decide) rfl ?_
  intro p e s m args below meth c s₁ B hml hv
  obtain ⟨rfl, hsz9, hz0, hE, hP, hD0⟩ := hv
  have hx := B.exec
  have hb := B.bytes
  have hr := B.returns
  have hts0 := atoms_spec (ws := (wsp yX8_init cX8_init 1 none)) B.pre
  have hts : ∀ w ∈ lw_all, w.before _ s = true := fun w h => hts0 w (List.mem_cons_of_mem _ h)
  have hown : s.vm.findClass "Theatrehouse$Trial" = some m.cls := findClass_of_methodNamed B.named
  have hlocks := B.notSynchronized
  have hin : meth.name = "<init>" := (name_of_methodNamed B.named B.method).1
  have hK := hE.K
  subst hsz9
  have hsz := hz0
  have hAz : ∀ q, va_A [(o, .inr (7, [.null, .null, .int 0, .int 0, .long 0]))] s.heap.size q → z0 ≤ q := vaA_z hz0 hD0
  have hD := hD0.self (sz := s.heap.size)
  generalize hAe : va_A [(o, .inr (7, [.null, .null, .int 0, .int 0, .long 0]))] s.heap.size = A at hD hAz ⊢
  have hA : ∀ q : Nat, s.heap.size ≤ q → A q := fun q h => by rw [← hAe]; exact Or.inr h
  have hS : va_S A s.heap s.heap [] := va_S.rf
  have hP : va_P D classes [(o, .inr (7, [.null, .null, .int 0, .int 0, .long 0]))] s.heap := hP
  have hl := lv_entry ([.ref o]) (n := 1) (Nat.le_of_ble_eq_true rfl)
  rw [lg_entry_eq]
  generalize (lg_sl ([.ref o]) ++ List.replicate (1 - (lg_sl ([.ref o])).length) Slot.unset).toArray = ls at hl ⊢
  have hl : lv_has ls 1 [(0, .ref o)] := hl
  refine lv_aload_n hx hb dX8_init_0 rfl (lv_at hl 0 rfl) ?_
  refine W.objInit hx hb hown (hts _ m_260) (hts _ m_69) (hts _ m_70) rfl (by rw [hml]; exact hl.1) rfl dX8_init_1 (Nat.le_of_ble_eq_true rfl) (Nat.le_of_ble_eq_true rfl) ?_
  refine W.eq (g2 := F0 m 4 ls []) rfl ?_
  refine lv_aload_n hx hb dX8_init_4 rfl (lv_at hl 0 rfl) ?_
  refine lv_iconst (v := 5) hx hb dX8_init_5 (by decide) ?_
  refine va_newa (atype := .int) (ty := .int) (a0 := (5, .inl (fun _ => 0))) hx hb (hts _ m_125) rfl hK hP hD hS hA (fun _ => rfl) (by decide) (by decide) (by decide) (Nat.le_of_ble_eq_true rfl) (Nat.le_of_ble_eq_true rfl) dX8_init_6 (fun q_1 cA_2 H hK hP hD hS => ?_)
  have hP : va_P D classes [(o, .inr (7, [.null, .null, .int 0, .int 0, .long 0])), (q_1, .inl (cA_2, 5, .inl (fun _ => 0)))] H := hP
  have hD : va_D A [(o, .inr (7, [.null, .null, .int 0, .int 0, .long 0])), (q_1, .inl (cA_2, 5, .inl (fun _ => 0)))] := hD
  have hK : va_K D classes [(cA_2, .int)] s := hK
  refine va_putF (D := D) (ci := 7) (v := .ref q_1) (ty := (.array .int)) (C := RX8) (T := TX8) (N := 5) hx hb hts i_X8 tyX8 tyX8_ok nmX8 hown hK hP hD hS 0 rfl rfl 0 (by decide) (hts _ m_261) (fun _ h9 => h9) rfl hin rfl (by decide +kernel) rfl rfl (Nat.le_of_ble_eq_true rfl) dX8_init_8 (fun H locs hP hD hS => ?_)
  have hP : va_P D classes [(o, .inr (7, [.ref q_1, .null, .int 0, .int 0, .long 0])), (q_1, .inl (cA_2, 5, .inl (fun _ => 0)))] H := hP
  have hD : va_D A [(o, .inr (7, [.ref q_1, .null, .int 0, .int 0, .long 0])), (q_1, .inl (cA_2, 5, .inl (fun _ => 0)))] := hD
  refine lv_aload_n hx hb dX8_init_11 rfl (lv_at hl 0 rfl) ?_
  refine lv_iconst (v := 5) hx hb dX8_init_12 (by decide) ?_
  refine va_newa (atype := .int) (ty := .int) (a0 := (5, .inl (fun _ => 0))) hx hb (hts _ m_125) rfl hK hP hD hS hA (fun _ => rfl) (by decide) (by decide) (by decide) (Nat.le_of_ble_eq_true rfl) (Nat.le_of_ble_eq_true rfl) dX8_init_13 (fun q_3 cA_4 H hK hP hD hS => ?_)
  have hP : va_P D classes [(o, .inr (7, [.ref q_1, .null, .int 0, .int 0, .long 0])), (q_1, .inl (cA_2, 5, .inl (fun _ => 0))), (q_3, .inl (cA_4, 5, .inl (fun _ => 0)))] H := hP
  have hD : va_D A [(o, .inr (7, [.ref q_1, .null, .int 0, .int 0, .long 0])), (q_1, .inl (cA_2, 5, .inl (fun _ => 0))), (q_3, .inl (cA_4, 5, .inl (fun _ => 0)))] := hD
  have hK : va_K D classes [(cA_2, .int), (cA_4, .int)] s := hK
  refine va_putF (D := D) (ci := 7) (v := .ref q_3) (ty := (.array .int)) (C := RX8) (T := TX8) (N := 5) hx hb hts i_X8 tyX8 tyX8_ok nmX8 hown hK hP hD hS 0 rfl rfl 1 (by decide) (hts _ m_262) (fun _ h9 => h9) rfl hin rfl (by decide +kernel) rfl rfl (Nat.le_of_ble_eq_true rfl) dX8_init_15 (fun H locs hP hD hS => ?_)
  have hP : va_P D classes [(o, .inr (7, [.ref q_1, .ref q_3, .int 0, .int 0, .long 0])), (q_1, .inl (cA_2, 5, .inl (fun _ => 0))), (q_3, .inl (cA_4, 5, .inl (fun _ => 0)))] H := hP
  have hD : va_D A [(o, .inr (7, [.ref q_1, .ref q_3, .int 0, .int 0, .long 0])), (q_1, .inl (cA_2, 5, .inl (fun _ => 0))), (q_3, .inl (cA_4, 5, .inl (fun _ => 0)))] := hD
  refine lv_aload_n hx hb dX8_init_18 rfl (lv_at hl 0 rfl) ?_
  refine lv_iconst (v := 0) hx hb dX8_init_19 (by decide) ?_
  refine va_put (D := D) (ci := 7) (v := .int 0) (ty := .int) (C := RX8) (T := TX8) (N := 5) hx hb hts i_X8 tyX8 tyX8_ok nmX8 hown hK hP hD hS 0 rfl rfl 2 (by decide) (hts _ m_263) (fun _ h9 => h9) rfl (by decide +kernel) rfl rfl (Nat.le_of_ble_eq_true rfl) dX8_init_20 (fun H locs hP hD hS => ?_)
  have hP : va_P D classes [(o, .inr (7, [.ref q_1, .ref q_3, .int 0, .int 0, .long 0])), (q_1, .inl (cA_2, 5, .inl (fun _ => 0))), (q_3, .inl (cA_4, 5, .inl (fun _ => 0)))] H := hP
  have hD : va_D A [(o, .inr (7, [.ref q_1, .ref q_3, .int 0, .int 0, .long 0])), (q_1, .inl (cA_2, 5, .inl (fun _ => 0))), (q_3, .inl (cA_4, 5, .inl (fun _ => 0)))] := hD
  refine lv_aload_n hx hb dX8_init_23 rfl (lv_at hl 0 rfl) ?_
  refine lv_iconst (v := 0) hx hb dX8_init_24 (by decide) ?_
  refine va_put (D := D) (ci := 7) (v := .int 0) (ty := .int) (C := RX8) (T := TX8) (N := 5) hx hb hts i_X8 tyX8 tyX8_ok nmX8 hown hK hP hD hS 0 rfl rfl 3 (by decide) (hts _ m_264) (fun _ h9 => h9) rfl (by decide +kernel) rfl rfl (Nat.le_of_ble_eq_true rfl) dX8_init_25 (fun H locs hP hD hS => ?_)
  have hP : va_P D classes [(o, .inr (7, [.ref q_1, .ref q_3, .int 0, .int 0, .long 0])), (q_1, .inl (cA_2, 5, .inl (fun _ => 0))), (q_3, .inl (cA_4, 5, .inl (fun _ => 0)))] H := hP
  have hD : va_D A [(o, .inr (7, [.ref q_1, .ref q_3, .int 0, .int 0, .long 0])), (q_1, .inl (cA_2, 5, .inl (fun _ => 0))), (q_3, .inl (cA_4, 5, .inl (fun _ => 0)))] := hD
  refine lv_aload_n hx hb dX8_init_28 rfl (lv_at hl 0 rfl) ?_
  refine lv_lconst (v := 0) hx hb dX8_init_29 (by decide) ?_
  refine va_put (D := D) (ci := 7) (v := .long 0) (ty := .long) (C := RX8) (T := TX8) (N := 5) hx hb hts i_X8 tyX8 tyX8_ok nmX8 hown hK hP hD hS 0 rfl rfl 4 (by decide) (hts _ m_265) (fun _ h9 => h9) rfl (by decide +kernel) rfl rfl (Nat.le_of_ble_eq_true rfl) dX8_init_30 (fun H locs hP hD hS => ?_)
  have hP : va_P D classes [(o, .inr (7, [.ref q_1, .ref q_3, .int 0, .int 0, .long 0])), (q_1, .inl (cA_2, 5, .inl (fun _ => 0))), (q_3, .inl (cA_4, 5, .inl (fun _ => 0)))] H := hP
  have hD : va_D A [(o, .inr (7, [.ref q_1, .ref q_3, .int 0, .int 0, .long 0])), (q_1, .inl (cA_2, 5, .inl (fun _ => 0))), (q_3, .inl (cA_4, 5, .inl (fun _ => 0)))] := hD
  have hP9 := hP.sub (ws' := [(o, .inr (7, [.ref q_1, .ref q_3, .int 0, .int 0, .long 0]))]) [0] rfl
  have hD9 := hD.sub (ws' := [(o, .inr (7, [.ref q_1, .ref q_3, .int 0, .int 0, .long 0]))]) [0] (by decide) rfl
  refine W.widen (k := 2) (n := 10) (Nat.le_of_ble_eq_true rfl) (Nat.le_of_ble_eq_true rfl) ?_
  exact W.vret hx hb hr (fun t ht hW => ⟨⟨[.ref q_1, .ref q_3, .int 0, .int 0, .long 0], rfl, trivial, ⟨by rw [ht]; exact hP9, hD9⟩⟩, hS.F ht⟩) hS.2.2 dX8_init_33
