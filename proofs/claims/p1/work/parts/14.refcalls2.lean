theorem dX18_addMachine_0 : decode cX18_addMachine 0 = .ok (.aload_n 0, 1) := by decide +kernel
theorem dX18_addMachine_1 : decode cX18_addMachine 1 = .ok (.iload_n 1, 1) := by decide +kernel
theorem dX18_addMachine_2 : decode cX18_addMachine 2 = .ok (.i2l, 1) := by decide +kernel
theorem dX18_addMachine_3 : decode cX18_addMachine 3 = .ok (.lconst 0, 1) := by decide +kernel
theorem dX18_addMachine_4 : decode cX18_addMachine 4 = .ok (.ldc2_w 87, 3) := by decide +kernel
theorem dX18_addMachine_7 : decode cX18_addMachine 7 = .ok (.invokestatic 49, 3) := by decide +kernel
theorem dX18_addMachine_10 : decode cX18_addMachine 10 = .ok (.ifCond .eq 15, 3) := by decide +kernel
theorem dX18_addMachine_13 : decode cX18_addMachine 13 = .ok (.iload_n 2, 1) := by decide +kernel
theorem dX18_addMachine_14 : decode cX18_addMachine 14 = .ok (.i2l, 1) := by decide +kernel
theorem dX18_addMachine_15 : decode cX18_addMachine 15 = .ok (.lconst 0, 1) := by decide +kernel
theorem dX18_addMachine_16 : decode cX18_addMachine 16 = .ok (.ldc2_w 89, 3) := by decide +kernel
theorem dX18_addMachine_19 : decode cX18_addMachine 19 = .ok (.invokestatic 49, 3) := by decide +kernel
theorem dX18_addMachine_22 : decode cX18_addMachine 22 = .ok (.ifCond .ne 7, 3) := by decide +kernel
theorem dX18_addMachine_25 : decode cX18_addMachine 25 = .ok (.iconst 1, 1) := by decide +kernel
theorem dX18_addMachine_26 : decode cX18_addMachine 26 = .ok (.goto 29, 3) := by decide +kernel
theorem dX18_addMachine_55 : decode cX18_addMachine 55 = .ok (.putfield 39, 3) := by decide +kernel
theorem dX18_addMachine_58 : decode cX18_addMachine 58 = .ok (.aload_n 0, 1) := by decide +kernel
theorem dX18_addMachine_59 : decode cX18_addMachine 59 = .ok (.getfield 39, 3) := by decide +kernel
theorem dX18_addMachine_62 : decode cX18_addMachine 62 = .ok (.ifCond .le 5, 3) := by decide +kernel
theorem dX18_addMachine_65 : decode cX18_addMachine 65 = .ok (.iconst (-1), 1) := by decide +kernel
theorem dX18_addMachine_66 : decode cX18_addMachine 66 = .ok (.ireturn, 1) := by decide +kernel
theorem dX18_addPerson_0 : decode cX18_addPerson 0 = .ok (.aload_n 0, 1) := by decide +kernel
theorem dX18_addPerson_1 : decode cX18_addPerson 1 = .ok (.iload_n 1, 1) := by decide +kernel
theorem dX18_addPerson_2 : decode cX18_addPerson 2 = .ok (.i2l, 1) := by decide +kernel
theorem dX18_addPerson_3 : decode cX18_addPerson 3 = .ok (.lconst 0, 1) := by decide +kernel
theorem dX18_addPerson_4 : decode cX18_addPerson 4 = .ok (.ldc2_w 53, 3) := by decide +kernel
theorem dX18_addPerson_7 : decode cX18_addPerson 7 = .ok (.invokestatic 49, 3) := by decide +kernel
theorem dX18_addPerson_10 : decode cX18_addPerson 10 = .ok (.ifCond .eq 15, 3) := by decide +kernel
theorem dX18_addPerson_13 : decode cX18_addPerson 13 = .ok (.iload_n 2, 1) := by decide +kernel
theorem dX18_addPerson_14 : decode cX18_addPerson 14 = .ok (.i2l, 1) := by decide +kernel
theorem dX18_addPerson_15 : decode cX18_addPerson 15 = .ok (.lconst 1, 1) := by decide +kernel
theorem dX18_addPerson_16 : decode cX18_addPerson 16 = .ok (.ldc2_w 55, 3) := by decide +kernel
theorem dX18_addPerson_19 : decode cX18_addPerson 19 = .ok (.invokestatic 49, 3) := by decide +kernel
theorem dX18_addPerson_22 : decode cX18_addPerson 22 = .ok (.ifCond .ne 7, 3) := by decide +kernel
theorem dX18_addPerson_25 : decode cX18_addPerson 25 = .ok (.iconst 1, 1) := by decide +kernel
theorem dX18_addPerson_26 : decode cX18_addPerson 26 = .ok (.goto 29, 3) := by decide +kernel
theorem dX18_addPerson_55 : decode cX18_addPerson 55 = .ok (.putfield 39, 3) := by decide +kernel
theorem dX18_addPerson_58 : decode cX18_addPerson 58 = .ok (.aload_n 0, 1) := by decide +kernel
theorem dX18_addPerson_59 : decode cX18_addPerson 59 = .ok (.getfield 39, 3) := by decide +kernel
theorem dX18_addPerson_62 : decode cX18_addPerson 62 = .ok (.ifCond .le 5, 3) := by decide +kernel
theorem dX18_addPerson_65 : decode cX18_addPerson 65 = .ok (.iconst (-1), 1) := by decide +kernel
theorem dX18_addPerson_66 : decode cX18_addPerson 66 = .ok (.ireturn, 1) := by decide +kernel
theorem dX18_addWork_0 : decode cX18_addWork 0 = .ok (.aload_n 0, 1) := by decide +kernel
theorem dX18_addWork_1 : decode cX18_addWork 1 = .ok (.iload_n 1, 1) := by decide +kernel
theorem dX18_addWork_2 : decode cX18_addWork 2 = .ok (.i2l, 1) := by decide +kernel
theorem dX18_addWork_3 : decode cX18_addWork 3 = .ok (.lconst 1, 1) := by decide +kernel
theorem dX18_addWork_4 : decode cX18_addWork 4 = .ok (.ldc2_w 108, 3) := by decide +kernel
theorem dX18_addWork_7 : decode cX18_addWork 7 = .ok (.invokestatic 49, 3) := by decide +kernel
theorem dX18_addWork_10 : decode cX18_addWork 10 = .ok (.ifCond .eq 15, 3) := by decide +kernel
theorem dX18_addWork_13 : decode cX18_addWork 13 = .ok (.iload_n 2, 1) := by decide +kernel
theorem dX18_addWork_14 : decode cX18_addWork 14 = .ok (.i2l, 1) := by decide +kernel
theorem dX18_addWork_15 : decode cX18_addWork 15 = .ok (.lconst 1, 1) := by decide +kernel
theorem dX18_addWork_16 : decode cX18_addWork 16 = .ok (.ldc2_w 53, 3) := by decide +kernel
theorem dX18_addWork_19 : decode cX18_addWork 19 = .ok (.invokestatic 49, 3) := by decide +kernel
theorem dX18_addWork_22 : decode cX18_addWork 22 = .ok (.ifCond .ne 7, 3) := by decide +kernel
theorem dX18_addWork_25 : decode cX18_addWork 25 = .ok (.iconst 1, 1) := by decide +kernel
theorem dX18_addWork_26 : decode cX18_addWork 26 = .ok (.goto 28, 3) := by decide +kernel
theorem dX18_addWork_54 : decode cX18_addWork 54 = .ok (.putfield 39, 3) := by decide +kernel
theorem dX18_addWork_57 : decode cX18_addWork 57 = .ok (.aload_n 0, 1) := by decide +kernel
theorem dX18_addWork_58 : decode cX18_addWork 58 = .ok (.getfield 39, 3) := by decide +kernel
theorem dX18_addWork_61 : decode cX18_addWork 61 = .ok (.ifCond .le 5, 3) := by decide +kernel
theorem dX18_addWork_64 : decode cX18_addWork 64 = .ok (.iconst (-1), 1) := by decide +kernel
theorem dX18_addWork_65 : decode cX18_addWork 65 = .ok (.ireturn, 1) := by decide +kernel
theorem dX18_begin_0 : decode cX18_begin 0 = .ok (.aload_n 0, 1) := by decide +kernel
theorem dX18_begin_1 : decode cX18_begin 1 = .ok (.getfield 25, 3) := by decide +kernel
theorem dX18_begin_4 : decode cX18_begin 4 = .ok (.aload_n 0, 1) := by decide +kernel
theorem dX18_begin_5 : decode cX18_begin 5 = .ok (.getfield 81, 3) := by decide +kernel
theorem dX18_begin_8 : decode cX18_begin 8 = .ok (.invokestatic 138, 3) := by decide +kernel
theorem dX18_begin_11 : decode cX18_begin 11 = .ok (.invokevirtual 180, 3) := by decide +kernel
theorem dX18_begin_14 : decode cX18_begin 14 = .ok (.checkcast 147, 3) := by decide +kernel
theorem dX18_begin_17 : decode cX18_begin 17 = .ok (.astore_n 1, 1) := by decide +kernel
theorem dX18_begin_18 : decode cX18_begin 18 = .ok (.aload_n 0, 1) := by decide +kernel
theorem dX18_begin_19 : decode cX18_begin 19 = .ok (.aload_n 0, 1) := by decide +kernel
theorem dX18_begin_20 : decode cX18_begin 20 = .ok (.getfield 57, 3) := by decide +kernel
theorem dX18_begin_23 : decode cX18_begin 23 = .ok (.ifnull 7, 3) := by decide +kernel
theorem dX18_begin_30 : decode cX18_begin 30 = .ok (.aload_n 1, 1) := by decide +kernel
theorem dX18_begin_31 : decode cX18_begin 31 = .ok (.ifnull 12, 3) := by decide +kernel
theorem dX18_begin_43 : decode cX18_begin 43 = .ok (.iconst 2, 1) := by decide +kernel
theorem dX18_begin_44 : decode cX18_begin 44 = .ok (.goto 4, 3) := by decide +kernel
theorem dX18_begin_48 : decode cX18_begin 48 = .ok (.putfield 39, 3) := by decide +kernel
theorem dX18_begin_51 : decode cX18_begin 51 = .ok (.aload_n 0, 1) := by decide +kernel
theorem dX18_begin_52 : decode cX18_begin 52 = .ok (.getfield 39, 3) := by decide +kernel
theorem dX18_begin_55 : decode cX18_begin 55 = .ok (.ifCond .le 5, 3) := by decide +kernel
theorem dX18_begin_58 : decode cX18_begin 58 = .ok (.iconst (-1), 1) := by decide +kernel
theorem dX18_begin_59 : decode cX18_begin 59 = .ok (.ireturn, 1) := by decide +kernel
theorem dX18_pass_0 : decode cX18_pass 0 = .ok (.aload_n 0, 1) := by decide +kernel
theorem dX18_pass_1 : decode cX18_pass 1 = .ok (.iload_n 1, 1) := by decide +kernel
theorem dX18_pass_2 : decode cX18_pass 2 = .ok (.i2l, 1) := by decide +kernel
theorem dX18_pass_3 : decode cX18_pass 3 = .ok (.lconst 1, 1) := by decide +kernel
theorem dX18_pass_4 : decode cX18_pass 4 = .ok (.ldc2_w 55, 3) := by decide +kernel
theorem dX18_pass_7 : decode cX18_pass 7 = .ok (.invokestatic 49, 3) := by decide +kernel
theorem dX18_pass_10 : decode cX18_pass 10 = .ok (.ifCond .eq 14, 3) := by decide +kernel
theorem dX18_pass_13 : decode cX18_pass 13 = .ok (.aload_n 0, 1) := by decide +kernel
theorem dX18_pass_14 : decode cX18_pass 14 = .ok (.getfield 81, 3) := by decide +kernel
theorem dX18_pass_17 : decode cX18_pass 17 = .ok (.iload_n 1, 1) := by decide +kernel
theorem dX18_pass_18 : decode cX18_pass 18 = .ok (.iadd, 1) := by decide +kernel
theorem dX18_pass_19 : decode cX18_pass 19 = .ok (.bipush 99, 2) := by decide +kernel
theorem dX18_pass_21 : decode cX18_pass 21 = .ok (.if_icmp .le 7, 3) := by decide +kernel
theorem dX18_pass_24 : decode cX18_pass 24 = .ok (.iconst 1, 1) := by decide +kernel
theorem dX18_pass_25 : decode cX18_pass 25 = .ok (.goto 15, 3) := by decide +kernel
theorem dX18_pass_28 : decode cX18_pass 28 = .ok (.aload_n 0, 1) := by decide +kernel
theorem dX18_pass_29 : decode cX18_pass 29 = .ok (.getfield 57, 3) := by decide +kernel
theorem dX18_pass_32 : decode cX18_pass 32 = .ok (.ifnull 7, 3) := by decide +kernel
theorem dX18_pass_39 : decode cX18_pass 39 = .ok (.iconst 0, 1) := by decide +kernel
theorem dX18_pass_40 : decode cX18_pass 40 = .ok (.putfield 39, 3) := by decide +kernel
theorem dX18_pass_43 : decode cX18_pass 43 = .ok (.aload_n 0, 1) := by decide +kernel
theorem dX18_pass_44 : decode cX18_pass 44 = .ok (.getfield 39, 3) := by decide +kernel
theorem dX18_pass_47 : decode cX18_pass 47 = .ok (.ifCond .le 5, 3) := by decide +kernel
theorem dX18_pass_50 : decode cX18_pass 50 = .ok (.iconst (-1), 1) := by decide +kernel
theorem dX18_pass_51 : decode cX18_pass 51 = .ok (.ireturn, 1) := by decide +kernel
theorem dX18_pass_52 : decode cX18_pass 52 = .ok (.iconst 0, 1) := by decide +kernel
theorem dX18_pass_53 : decode cX18_pass 53 = .ok (.istore_n 2, 1) := by decide +kernel
theorem dX18_pass_54 : decode cX18_pass 54 = .ok (.iload_n 2, 1) := by decide +kernel
theorem dX18_pass_55 : decode cX18_pass 55 = .ok (.iload_n 1, 1) := by decide +kernel
theorem dX18_pass_56 : decode cX18_pass 56 = .ok (.if_icmp .ge 165, 3) := by decide +kernel
theorem dX18_pass_59 : decode cX18_pass 59 = .ok (.aload_n 0, 1) := by decide +kernel
theorem dX18_pass_60 : decode cX18_pass 60 = .ok (.getfield 25, 3) := by decide +kernel
theorem dX18_pass_63 : decode cX18_pass 63 = .ok (.aload_n 0, 1) := by decide +kernel
theorem dX18_pass_64 : decode cX18_pass 64 = .ok (.getfield 81, 3) := by decide +kernel
theorem dX18_pass_67 : decode cX18_pass 67 = .ok (.invokestatic 138, 3) := by decide +kernel
theorem dX18_pass_70 : decode cX18_pass 70 = .ok (.invokevirtual 180, 3) := by decide +kernel
theorem dX18_pass_73 : decode cX18_pass 73 = .ok (.checkcast 147, 3) := by decide +kernel
theorem dX18_pass_76 : decode cX18_pass 76 = .ok (.astore_n 3, 1) := by decide +kernel
theorem dX18_pass_77 : decode cX18_pass 77 = .ok (.aload_n 3, 1) := by decide +kernel
theorem dX18_pass_78 : decode cX18_pass 78 = .ok (.ifnull 71, 3) := by decide +kernel
theorem dX18_pass_149 : decode cX18_pass 149 = .ok (.aload_n 0, 1) := by decide +kernel
theorem dX18_pass_150 : decode cX18_pass 150 = .ok (.getfield 10, 3) := by decide +kernel
theorem dX18_pass_153 : decode cX18_pass 153 = .ok (.invokeinterface 195 1, 5) := by decide +kernel
theorem dX18_pass_158 : decode cX18_pass 158 = .ok (.astore 4, 2) := by decide +kernel
theorem dX18_pass_160 : decode cX18_pass 160 = .ok (.aload 4, 2) := by decide +kernel
theorem dX18_pass_162 : decode cX18_pass 162 = .ok (.invokeinterface 166 1, 5) := by decide +kernel
theorem dX18_pass_167 : decode cX18_pass 167 = .ok (.ifCond .eq 38, 3) := by decide +kernel
theorem dX18_pass_205 : decode cX18_pass 205 = .ok (.aload_n 0, 1) := by decide +kernel
theorem dX18_pass_206 : decode cX18_pass 206 = .ok (.dup, 1) := by decide +kernel
theorem dX18_pass_207 : decode cX18_pass 207 = .ok (.getfield 81, 3) := by decide +kernel
theorem dX18_pass_210 : decode cX18_pass 210 = .ok (.iconst 1, 1) := by decide +kernel
theorem dX18_pass_211 : decode cX18_pass 211 = .ok (.iadd, 1) := by decide +kernel
theorem dX18_pass_212 : decode cX18_pass 212 = .ok (.putfield 81, 3) := by decide +kernel
theorem dX18_pass_215 : decode cX18_pass 215 = .ok (.iinc 2 1, 3) := by decide +kernel
theorem dX18_pass_218 : decode cX18_pass 218 = .ok (.goto (-164), 3) := by decide +kernel
theorem dX18_pass_221 : decode cX18_pass 221 = .ok (.aload_n 0, 1) := by decide +kernel
theorem dX18_pass_222 : decode cX18_pass 222 = .ok (.getfield 81, 3) := by decide +kernel
theorem dX18_pass_225 : decode cX18_pass 225 = .ok (.ireturn, 1) := by decide +kernel
theorem dX18_sell_0 : decode cX18_sell 0 = .ok (.aload_n 0, 1) := by decide +kernel
theorem dX18_sell_1 : decode cX18_sell 1 = .ok (.iload_n 2, 1) := by decide +kernel
theorem dX18_sell_2 : decode cX18_sell 2 = .ok (.ifCond .ne 7, 3) := by decide +kernel
theorem dX18_sell_5 : decode cX18_sell 5 = .ok (.iconst 1, 1) := by decide +kernel
theorem dX18_sell_6 : decode cX18_sell 6 = .ok (.goto 4, 3) := by decide +kernel
theorem dX18_sell_9 : decode cX18_sell 9 = .ok (.iconst 0, 1) := by decide +kernel
theorem dX18_sell_10 : decode cX18_sell 10 = .ok (.putfield 39, 3) := by decide +kernel
theorem dX18_sell_13 : decode cX18_sell 13 = .ok (.aload_n 0, 1) := by decide +kernel
theorem dX18_sell_14 : decode cX18_sell 14 = .ok (.getfield 39, 3) := by decide +kernel
theorem dX18_sell_17 : decode cX18_sell 17 = .ok (.ifCond .le 5, 3) := by decide +kernel
theorem dX18_sell_20 : decode cX18_sell 20 = .ok (.iconst (-1), 1) := by decide +kernel
theorem dX18_sell_21 : decode cX18_sell 21 = .ok (.ireturn, 1) := by decide +kernel
theorem dX18_sell_22 : decode cX18_sell 22 = .ok (.aload_n 0, 1) := by decide +kernel
theorem dX18_sell_23 : decode cX18_sell 23 = .ok (.getfield 25, 3) := by decide +kernel
theorem dX18_sell_26 : decode cX18_sell 26 = .ok (.iload_n 1, 1) := by decide +kernel
theorem dX18_sell_27 : decode cX18_sell 27 = .ok (.invokestatic 138, 3) := by decide +kernel
theorem dX18_sell_30 : decode cX18_sell 30 = .ok (.invokevirtual 180, 3) := by decide +kernel
theorem dX18_sell_33 : decode cX18_sell 33 = .ok (.checkcast 147, 3) := by decide +kernel
theorem dX18_sell_36 : decode cX18_sell 36 = .ok (.astore_n 3, 1) := by decide +kernel
theorem dX18_sell_37 : decode cX18_sell 37 = .ok (.aload_n 3, 1) := by decide +kernel
theorem dX18_sell_38 : decode cX18_sell 38 = .ok (.ifnull 29, 3) := by decide +kernel
theorem dX18_sell_67 : decode cX18_sell 67 = .ok (.iconst 0, 1) := by decide +kernel
theorem dX18_sell_68 : decode cX18_sell 68 = .ok (.istore 4, 2) := by decide +kernel
theorem dX18_sell_70 : decode cX18_sell 70 = .ok (.aload_n 0, 1) := by decide +kernel
theorem dX18_sell_71 : decode cX18_sell 71 = .ok (.iload 4, 2) := by decide +kernel
theorem dX18_sell_73 : decode cX18_sell 73 = .ok (.ifCond .ne 7, 3) := by decide +kernel
theorem dX18_sell_76 : decode cX18_sell 76 = .ok (.iconst 2, 1) := by decide +kernel
theorem dX18_sell_77 : decode cX18_sell 77 = .ok (.goto 26, 3) := by decide +kernel
theorem dX18_sell_103 : decode cX18_sell 103 = .ok (.putfield 39, 3) := by decide +kernel
theorem dX18_sell_106 : decode cX18_sell 106 = .ok (.aload_n 0, 1) := by decide +kernel
theorem dX18_sell_107 : decode cX18_sell 107 = .ok (.getfield 39, 3) := by decide +kernel
theorem dX18_sell_110 : decode cX18_sell 110 = .ok (.ifCond .le 5, 3) := by decide +kernel
theorem dX18_sell_113 : decode cX18_sell 113 = .ok (.iconst (-1), 1) := by decide +kernel
theorem dX18_sell_114 : decode cX18_sell 114 = .ok (.ireturn, 1) := by decide +kernel
theorem dX18_soldShare_0 : decode cX18_soldShare 0 = .ok (.iconst 0, 1) := by decide +kernel
theorem dX18_soldShare_1 : decode cX18_soldShare 1 = .ok (.istore_n 1, 1) := by decide +kernel
theorem dX18_soldShare_2 : decode cX18_soldShare 2 = .ok (.iconst 0, 1) := by decide +kernel
theorem dX18_soldShare_3 : decode cX18_soldShare 3 = .ok (.istore_n 2, 1) := by decide +kernel
theorem dX18_soldShare_4 : decode cX18_soldShare 4 = .ok (.aload_n 0, 1) := by decide +kernel
theorem dX18_soldShare_5 : decode cX18_soldShare 5 = .ok (.getfield 25, 3) := by decide +kernel
theorem dX18_soldShare_8 : decode cX18_soldShare 8 = .ok (.invokevirtual 156, 3) := by decide +kernel
theorem dX18_soldShare_11 : decode cX18_soldShare 11 = .ok (.invokeinterface 160 1, 5) := by decide +kernel
theorem dX18_soldShare_16 : decode cX18_soldShare 16 = .ok (.astore_n 3, 1) := by decide +kernel
theorem dX18_soldShare_17 : decode cX18_soldShare 17 = .ok (.aload_n 3, 1) := by decide +kernel
theorem dX18_soldShare_18 : decode cX18_soldShare 18 = .ok (.invokeinterface 166 1, 5) := by decide +kernel
theorem dX18_soldShare_23 : decode cX18_soldShare 23 = .ok (.ifCond .eq 57, 3) := by decide +kernel
theorem dX18_soldShare_80 : decode cX18_soldShare 80 = .ok (.aload_n 0, 1) := by decide +kernel
theorem dX18_soldShare_81 : decode cX18_soldShare 81 = .ok (.iload_n 1, 1) := by decide +kernel
theorem dX18_soldShare_82 : decode cX18_soldShare 82 = .ok (.ifCond .ne 7, 3) := by decide +kernel
theorem dX18_soldShare_85 : decode cX18_soldShare 85 = .ok (.iconst 1, 1) := by decide +kernel
theorem dX18_soldShare_86 : decode cX18_soldShare 86 = .ok (.goto 4, 3) := by decide +kernel
theorem dX18_soldShare_90 : decode cX18_soldShare 90 = .ok (.putfield 39, 3) := by decide +kernel
theorem dX18_soldShare_93 : decode cX18_soldShare 93 = .ok (.aload_n 0, 1) := by decide +kernel
theorem dX18_soldShare_94 : decode cX18_soldShare 94 = .ok (.getfield 39, 3) := by decide +kernel
theorem dX18_soldShare_97 : decode cX18_soldShare 97 = .ok (.ifCond .ne 14, 3) := by decide +kernel
theorem dX18_soldShare_111 : decode cX18_soldShare 111 = .ok (.fconst 0, 1) := by decide +kernel
theorem dX18_soldShare_112 : decode cX18_soldShare 112 = .ok (.freturn, 1) := by decide +kernel
theorem m_1184 : (Cond.fieldLink "TheatrehouseModel" 25 "TheatrehouseModel" "evenings" "Ljava/util/TreeMap;") ∈ lw_all := lw_in 1184 (by decide +kernel) (by decide +kernel)
theorem m_1237 : (Cond.constantLong "TheatrehouseModel" 53 (99 : Int64)) ∈ lw_all := lw_in 1237 (by decide +kernel) (by decide +kernel)
theorem m_1241 : (Cond.constantLong "TheatrehouseModel" 55 (30 : Int64)) ∈ lw_all := lw_in 1241 (by decide +kernel) (by decide +kernel)
theorem m_1402 : (Cond.constantLong "TheatrehouseModel" 87 (4 : Int64)) ∈ lw_all := lw_in 1402 (by decide +kernel) (by decide +kernel)
theorem m_1403 : (Cond.constantLong "TheatrehouseModel" 89 (9 : Int64)) ∈ lw_all := lw_in 1403 (by decide +kernel) (by decide +kernel)
theorem m_1442 : (Cond.constantLong "TheatrehouseModel" 108 (5 : Int64)) ∈ lw_all := lw_in 1442 (by decide +kernel) (by decide +kernel)
theorem m_1525 : (Cond.methodLink "TheatrehouseModel" 138 ⟨"java/lang/Integer", "valueOf", "(I)Ljava/lang/Integer;"⟩) ∈ lw_all := lw_in 1525 (by decide +kernel) (by decide +kernel)
theorem m_1526 : (Cond.static ⟨"java/lang/Integer", "valueOf", "(I)Ljava/lang/Integer;"⟩) ∈ lw_all := lw_in 1526 (by decide +kernel) (by decide +kernel)
theorem m_1527 : (Cond.code ⟨"java/lang/Integer", "valueOf", "(I)Ljava/lang/Integer;"⟩ prog_35_method_22_code 1 (Option.some (Jvm.ClassFile.FieldType.object "java/lang/Integer"))) ∈ lw_all := lw_in 1527 (by decide +kernel) (by decide +kernel)
theorem m_1904 : (Cond.methodLink "TheatrehouseModel" 156 ⟨"java/util/TreeMap", "values", "()Ljava/util/Collection;"⟩) ∈ lw_all := lw_in 1904 (by decide +kernel) (by decide +kernel)
theorem m_1905 : (Cond.instanceMethod ⟨"java/util/TreeMap", "values", "()Ljava/util/Collection;"⟩) ∈ lw_all := lw_in 1905 (by decide +kernel) (by decide +kernel)
theorem m_1906 : (Cond.selects "java/util/TreeMap" ⟨"java/util/TreeMap", "values", "()Ljava/util/Collection;"⟩ ⟨"java/util/TreeMap", "values", "()Ljava/util/Collection;"⟩) ∈ lw_all := lw_in 1906 (by decide +kernel) (by decide +kernel)
theorem m_1907 : (Cond.code ⟨"java/util/TreeMap", "values", "()Ljava/util/Collection;"⟩ prog_75_method_52_code 2 (Option.some (Jvm.ClassFile.FieldType.object "java/util/Collection"))) ∈ lw_all := lw_in 1907 (by decide +kernel) (by decide +kernel)
theorem m_1919 : (Cond.methodLink "TheatrehouseModel" 160 ⟨"java/util/Collection", "iterator", "()Ljava/util/Iterator;"⟩) ∈ lw_all := lw_in 1919 (by decide +kernel) (by decide +kernel)
theorem m_1925 : (Cond.instanceMethod ⟨"java/util/ArrayList", "iterator", "()Ljava/util/Iterator;"⟩) ∈ lw_all := lw_in 1925 (by decide +kernel) (by decide +kernel)
theorem m_1927 : (Cond.code ⟨"java/util/ArrayList", "iterator", "()Ljava/util/Iterator;"⟩ prog_55_method_55_code 1 (Option.some (Jvm.ClassFile.FieldType.object "java/util/Iterator"))) ∈ lw_all := lw_in 1927 (by decide +kernel) (by decide +kernel)
theorem m_1948 : (Cond.selects "java/util/TreeMap$Values" ⟨"java/util/Collection", "iterator", "()Ljava/util/Iterator;"⟩ ⟨"java/util/TreeMap$Values", "iterator", "()Ljava/util/Iterator;"⟩) ∈ lw_all := lw_in 1948 (by decide +kernel) (by decide +kernel)
theorem m_1950 : (Cond.instanceMethod ⟨"java/util/TreeMap$Values", "iterator", "()Ljava/util/Iterator;"⟩) ∈ lw_all := lw_in 1950 (by decide +kernel) (by decide +kernel)
theorem m_1952 : (Cond.code ⟨"java/util/TreeMap$Values", "iterator", "()Ljava/util/Iterator;"⟩ prog_79_method_2_code 1 (Option.some (Jvm.ClassFile.FieldType.object "java/util/Iterator"))) ∈ lw_all := lw_in 1952 (by decide +kernel) (by decide +kernel)
theorem m_1980 : (Cond.methodLink "TheatrehouseModel" 166 ⟨"java/util/Iterator", "hasNext", "()Z"⟩) ∈ lw_all := lw_in 1980 (by decide +kernel) (by decide +kernel)
theorem m_1984 : (Cond.selects "java/util/ArrayList$Itr" ⟨"java/util/Iterator", "hasNext", "()Z"⟩ ⟨"java/util/ArrayList$Itr", "hasNext", "()Z"⟩) ∈ lw_all := lw_in 1984 (by decide +kernel) (by decide +kernel)
theorem m_1986 : (Cond.instanceMethod ⟨"java/util/ArrayList$Itr", "hasNext", "()Z"⟩) ∈ lw_all := lw_in 1986 (by decide +kernel) (by decide +kernel)
theorem m_1988 : (Cond.code ⟨"java/util/ArrayList$Itr", "hasNext", "()Z"⟩ prog_56_method_2_code 1 (Option.some Jvm.ClassFile.FieldType.boolean)) ∈ lw_all := lw_in 1988 (by decide +kernel) (by decide +kernel)
theorem m_1990 : (Cond.selects "java/util/TreeMap$ValueIterator" ⟨"java/util/Iterator", "hasNext", "()Z"⟩ ⟨"java/util/TreeMap$PrivateEntryIterator", "hasNext", "()Z"⟩) ∈ lw_all := lw_in 1990 (by decide +kernel) (by decide +kernel)
theorem m_1992 : (Cond.instanceMethod ⟨"java/util/TreeMap$PrivateEntryIterator", "hasNext", "()Z"⟩) ∈ lw_all := lw_in 1992 (by decide +kernel) (by decide +kernel)
theorem m_1994 : (Cond.code ⟨"java/util/TreeMap$PrivateEntryIterator", "hasNext", "()Z"⟩ prog_77_method_2_code 1 (Option.some Jvm.ClassFile.FieldType.boolean)) ∈ lw_all := lw_in 1994 (by decide +kernel) (by decide +kernel)
theorem m_2039 : (Cond.methodLink "TheatrehouseModel" 180 ⟨"java/util/TreeMap", "get", "(Ljava/lang/Object;)Ljava/lang/Object;"⟩) ∈ lw_all := lw_in 2039 (by decide +kernel) (by decide +kernel)
theorem m_2040 : (Cond.instanceMethod ⟨"java/util/TreeMap", "get", "(Ljava/lang/Object;)Ljava/lang/Object;"⟩) ∈ lw_all := lw_in 2040 (by decide +kernel) (by decide +kernel)
theorem m_2041 : (Cond.selects "java/util/TreeMap" ⟨"java/util/TreeMap", "get", "(Ljava/lang/Object;)Ljava/lang/Object;"⟩ ⟨"java/util/TreeMap", "get", "(Ljava/lang/Object;)Ljava/lang/Object;"⟩) ∈ lw_all := lw_in 2041 (by decide +kernel) (by decide +kernel)
theorem m_2042 : (Cond.code ⟨"java/util/TreeMap", "get", "(Ljava/lang/Object;)Ljava/lang/Object;"⟩ prog_75_method_8_code 3 (Option.some (Jvm.ClassFile.FieldType.object "java/lang/Object"))) ∈ lw_all := lw_in 2042 (by decide +kernel) (by decide +kernel)
theorem m_2048 : (Cond.methodLink "TheatrehouseModel" 195 ⟨"java/util/List", "iterator", "()Ljava/util/Iterator;"⟩) ∈ lw_all := lw_in 2048 (by decide +kernel) (by decide +kernel)
theorem m_2051 : (Cond.selects "java/util/ArrayList" ⟨"java/util/List", "iterator", "()Ljava/util/Iterator;"⟩ ⟨"java/util/ArrayList", "iterator", "()Ljava/util/Iterator;"⟩) ∈ lw_all := lw_in 2051 (by decide +kernel) (by decide +kernel)
set_option maxHeartbeats 4000000 in
set_option maxRecDepth 100000 in
theorem c_X18_sell_0 (l : Launch) (z0 : Nat) (D : va_G) (g : Nat → Nat) (sz : Nat) (mm b0 b1 b2 b3 b4 b5 b6 : Nat) (p0 : Int32) (p1 : Int32) (h : p1 = 0) : Met l yX18_sell (wsp yX18_sell cX18_sell 5 (some .int)) ({ frames := 0, cells := 0, slots := 0, locals := 0 }) (va_Pc [.ref mm, .int p0, .int p1] (PM z0 D g sz [(mm, .inr (9, [.ref b0, .ref b1, .ref b2, .ref b3, .int 0, .null, .null, .ref b4, .null, .ref b5, .ref b6, .int 0, .int 0, .long 0, .int 0])), (b0, .inr (10, [.int 0, .ref (g 4), .int 0])), (b1, .inr (10, [.int 0, .ref (g 4), .int 0])), (b2, .inr (10, [.int 0, .ref (g 4), .int 0])), (b3, .inr (11, [.null, .null, .null, .null, .int 0, .int 0, .null, .null, .null]))])) (va_Qi (fun (r : Int32) (_ : Unit) => True) (fun (_ : Unit) t => va_P D classes [(mm, .inr (9, [.ref b0, .ref b1, .ref b2, .ref b3, .int 0, .null, .null, .ref b4, .null, .ref b5, .ref b6, .int 0, .int 0, .long 0, .int 1]))] t.heap ∧ va_D (va_A [(mm, .inr (9, [.ref b0, .ref b1, .ref b2, .ref b3, .int 0, .null, .null, .ref b4, .null, .ref b5, .ref b6, .int 0, .int 0, .long 0, .int 0])), (b0, .inr (10, [.int 0, .ref (g 4), .int 0])), (b1, .inr (10, [.int 0, .ref (g 4), .int 0])), (b2, .inr (10, [.int 0, .ref (g 4), .int 0])), (b3, .inr (11, [.null, .null, .null, .null, .int 0, .int 0, .null, .null, .null]))] sz) [(mm, .inr (9, [.ref b0, .ref b1, .ref b2, .ref b3, .int 0, .null, .null, .ref b4, .null, .ref b5, .ref b6, .int 0, .int 0, .long 0, .int 1]))]) (va_A [(mm, .inr (9, [.ref b0, .ref b1, .ref b2, .ref b3, .int 0, .null, .null, .ref b4, .null, .ref b5, .ref b6, .int 0, .int 0, .long 0, .int 0])), (b0, .inr (10, [.int 0, .ref (g 4), .int 0])), (b1, .inr (10, [.int 0, .ref (g 4), .int 0])), (b2, .inr (10, [.int 0, .ref (g 4), .int 0])), (b3, .inr (11, [.null, .null, .null, .null, .int 0, .int 0, .null, .null, .null]))] sz)) 0 0 (va_A [(mm, .inr (9, [.ref b0, .ref b1, .ref b2, .ref b3, .int 0, .null, .null, .ref b4, .null, .ref b5, .ref b6, .int 0, .int 0, .long 0, .int 0])), (b0, .inr (10, [.int 0, .ref (g 4), .int 0])), (b1, .inr (10, [.int 0, .ref (g 4), .int 0])), (b2, .inr (10, [.int 0, .ref (g 4), .int 0])), (b3, .inr (11, [.null, .null, .null, .null, .int 0, .int 0, .null, .null, .null]))] sz) := by
  refine Met.ofW (cc := cX18_sell) (maxL := 5) (ret := (some .int)) (by decide) rfl ?_
  intro p e s m args below meth c s₁ B hml hv
  obtain ⟨rfl, hsz9, hz0, hE, hP, hD0⟩ := hv
  have hx := B.exec
  have hb := B.bytes
  have hr := B.returns
  have hts0 := atoms_spec (ws := (wsp yX18_sell cX18_sell 5 (some .int))) B.pre
  have hts : ∀ w ∈ lw_all, w.before _ s = true := fun w h => hts0 w (List.mem_cons_of_mem _ h)
  have hown : s.vm.findClass "TheatrehouseModel" = some m.cls := findClass_of_methodNamed B.named
  have hlocks := B.notSynchronized
  have hK := hE.K
  subst hsz9
  have hsz := hz0
  have hAz : ∀ q, va_A [(mm, .inr (9, [.ref b0, .ref b1, .ref b2, .ref b3, .int 0, .null, .null, .ref b4, .null, .ref b5, .ref b6, .int 0, .int 0, .long 0, .int 0])), (b0, .inr (10, [.int 0, .ref (g 4), .int 0])), (b1, .inr (10, [.int 0, .ref (g 4), .int 0])), (b2, .inr (10, [.int 0, .ref (g 4), .int 0])), (b3, .inr (11, [.null, .null, .null, .null, .int 0, .int 0, .null, .null, .null]))] s.heap.size q → z0 ≤ q := vaA_z hz0 hD0
  have hD := hD0.self (sz := s.heap.size)
  generalize hAe : va_A [(mm, .inr (9, [.ref b0, .ref b1, .ref b2, .ref b3, .int 0, .null, .null, .ref b4, .null, .ref b5, .ref b6, .int 0, .int 0, .long 0, .int 0])), (b0, .inr (10, [.int 0, .ref (g 4), .int 0])), (b1, .inr (10, [.int 0, .ref (g 4), .int 0])), (b2, .inr (10, [.int 0, .ref (g 4), .int 0])), (b3, .inr (11, [.null, .null, .null, .null, .int 0, .int 0, .null, .null, .null]))] s.heap.size = A at hD hAz ⊢
  have hA : ∀ q : Nat, s.heap.size ≤ q → A q := fun q h => by rw [← hAe]; exact Or.inr h
  have hS : va_S A s.heap s.heap [] := va_S.rf
  have hP : va_P D classes [(mm, .inr (9, [.ref b0, .ref b1, .ref b2, .ref b3, .int 0, .null, .null, .ref b4, .null, .ref b5, .ref b6, .int 0, .int 0, .long 0, .int 0])), (b0, .inr (10, [.int 0, .ref (g 4), .int 0])), (b1, .inr (10, [.int 0, .ref (g 4), .int 0])), (b2, .inr (10, [.int 0, .ref (g 4), .int 0])), (b3, .inr (11, [.null, .null, .null, .null, .int 0, .int 0, .null, .null, .null]))] s.heap := hP
  have hl := lv_entry ([.ref mm, .int p0, .int p1]) (n := 5) (Nat.le_of_ble_eq_true rfl)
  rw [lg_entry_eq]
  generalize (lg_sl ([.ref mm, .int p0, .int p1]) ++ List.replicate (5 - (lg_sl ([.ref mm, .int p0, .int p1])).length) Slot.unset).toArray = ls at hl ⊢
  have hl : lv_has ls 5 [(0, .ref mm), (1, .int p0), (2, .int p1)] := hl
  refine lv_aload_n hx hb dX18_sell_0 rfl (lv_at hl 0 rfl) ?_
  refine lv_iload_n hx hb dX18_sell_1 rfl (lv_at hl 2 rfl) ?_
  refine lv_if_ne (tgt := 9) hx hb dX18_sell_2 (by decide) (fun h9 => absurd h h9) (fun _ => ?_)
  refine lv_iconst (v := 1) hx hb dX18_sell_5 (by decide) ?_
  refine lv_goto (tgt := 10) hx hb dX18_sell_6 (by decide) ?_
  refine va_put (D := D) (ci := 9) (v := .int 1) (ty := .int) (C := RX18) (T := TX18) (N := 15) hx hb hts i_X18 tyX18 tyX18_ok nmX18 hown hK hP hD hS 0 rfl rfl 14 (by decide) (hts _ m_1197) (fun _ h9 => h9) rfl (by decide +kernel) rfl rfl (Nat.le_of_ble_eq_true rfl) dX18_sell_10 (fun H locs hP hD hS => ?_)
  have hP : va_P D classes [(mm, .inr (9, [.ref b0, .ref b1, .ref b2, .ref b3, .int 0, .null, .null, .ref b4, .null, .ref b5, .ref b6, .int 0, .int 0, .long 0, .int 1])), (b0, .inr (10, [.int 0, .ref (g 4), .int 0])), (b1, .inr (10, [.int 0, .ref (g 4), .int 0])), (b2, .inr (10, [.int 0, .ref (g 4), .int 0])), (b3, .inr (11, [.null, .null, .null, .null, .int 0, .int 0, .null, .null, .null]))] H := hP
  have hD : va_D A [(mm, .inr (9, [.ref b0, .ref b1, .ref b2, .ref b3, .int 0, .null, .null, .ref b4, .null, .ref b5, .ref b6, .int 0, .int 0, .long 0, .int 1])), (b0, .inr (10, [.int 0, .ref (g 4), .int 0])), (b1, .inr (10, [.int 0, .ref (g 4), .int 0])), (b2, .inr (10, [.int 0, .ref (g 4), .int 0])), (b3, .inr (11, [.null, .null, .null, .null, .int 0, .int 0, .null, .null, .null]))] := hD
  refine lv_aload_n hx hb dX18_sell_13 rfl (lv_at hl 0 rfl) ?_
  refine va_get (D := D) (ci := 9) (v := .int 1) (C := RX18) (T := TX18) (N := 15) hx hb hts i_X18 hown hK hP 0 rfl rfl 14 (by decide) (hts _ m_1197) (fun _ h9 => h9) rfl dX18_sell_14 ?_
  refine lv_if_le (tgt := 22) hx hb dX18_sell_17 (by decide) (fun h9 => absurd h9 (by decide)) (fun _ => ?_)
  refine lv_iconst (v := (-1)) hx hb dX18_sell_20 (by decide) ?_
  have hP9 := hP.sub (ws' := [(mm, .inr (9, [.ref b0, .ref b1, .ref b2, .ref b3, .int 0, .null, .null, .ref b4, .null, .ref b5, .ref b6, .int 0, .int 0, .long 0, .int 1]))]) [0] rfl
  have hD9 := hD.sub (ws' := [(mm, .inr (9, [.ref b0, .ref b1, .ref b2, .ref b3, .int 0, .null, .null, .ref b4, .null, .ref b5, .ref b6, .int 0, .int 0, .long 0, .int 1]))]) [0] (by decide) rfl
  refine W.widen (k := 0) (n := 0) (Nat.le_of_ble_eq_true rfl) (Nat.le_of_ble_eq_true rfl) ?_
  exact W.iret (v := (-1)) hx hb hr (fun t ht hW => ⟨⟨(-1), (), rfl, trivial, ⟨by rw [ht]; exact hP9, hD9⟩⟩, hS.F ht⟩) hS.2.2 dX18_sell_21

set_option maxHeartbeats 4000000 in
set_option maxRecDepth 100000 in
theorem c_X18_sell_1 (l : Launch) (z0 : Nat) (D : va_G) (g : Nat → Nat) (sz : Nat) (mm b0 b1 b2 b3 b4 b5 b6 : Nat) (p0 : Int32) (p1 : Int32) (h : ¬ p1 = 0) : Met l yX18_sell (wsp yX18_sell cX18_sell 5 (some .int)) ({ frames := 4, cells := 1, slots := 1, locals := 81 }) (va_Pc [.ref mm, .int p0, .int p1] (PM z0 D g sz [(mm, .inr (9, [.ref b0, .ref b1, .ref b2, .ref b3, .int 0, .null, .null, .ref b4, .null, .ref b5, .ref b6, .int 0, .int 0, .long 0, .int 0])), (b0, .inr (10, [.int 0, .ref (g 4), .int 0])), (b1, .inr (10, [.int 0, .ref (g 4), .int 0])), (b2, .inr (10, [.int 0, .ref (g 4), .int 0])), (b3, .inr (11, [.null, .null, .null, .null, .int 0, .int 0, .null, .null, .null]))])) (va_Qi (fun (r : Int32) (_ : Unit) => True) (fun (_ : Unit) t => va_P D classes [(mm, .inr (9, [.ref b0, .ref b1, .ref b2, .ref b3, .int 0, .null, .null, .ref b4, .null, .ref b5, .ref b6, .int 0, .int 0, .long 0, .int 2]))] t.heap ∧ va_D (va_A [(mm, .inr (9, [.ref b0, .ref b1, .ref b2, .ref b3, .int 0, .null, .null, .ref b4, .null, .ref b5, .ref b6, .int 0, .int 0, .long 0, .int 0])), (b0, .inr (10, [.int 0, .ref (g 4), .int 0])), (b1, .inr (10, [.int 0, .ref (g 4), .int 0])), (b2, .inr (10, [.int 0, .ref (g 4), .int 0])), (b3, .inr (11, [.null, .null, .null, .null, .int 0, .int 0, .null, .null, .null]))] sz) [(mm, .inr (9, [.ref b0, .ref b1, .ref b2, .ref b3, .int 0, .null, .null, .ref b4, .null, .ref b5, .ref b6, .int 0, .int 0, .long 0, .int 2]))]) (va_A [(mm, .inr (9, [.ref b0, .ref b1, .ref b2, .ref b3, .int 0, .null, .null, .ref b4, .null, .ref b5, .ref b6, .int 0, .int 0, .long 0, .int 0])), (b0, .inr (10, [.int 0, .ref (g 4), .int 0])), (b1, .inr (10, [.int 0, .ref (g 4), .int 0])), (b2, .inr (10, [.int 0, .ref (g 4), .int 0])), (b3, .inr (11, [.null, .null, .null, .null, .int 0, .int 0, .null, .null, .null]))] sz)) 1 1 (va_A [(mm, .inr (9, [.ref b0, .ref b1, .ref b2, .ref b3, .int 0, .null, .null, .ref b4, .null, .ref b5, .ref b6, .int 0, .int 0, .long 0, .int 0])), (b0, .inr (10, [.int 0, .ref (g 4), .int 0])), (b1, .inr (10, [.int 0, .ref (g 4), .int 0])), (b2, .inr (10, [.int 0, .ref (g 4), .int 0])), (b3, .inr (11, [.null, .null, .null, .null, .int 0, .int 0, .null, .null, .null]))] sz) := by
  refine Met.ofW (cc := cX18_sell) (maxL := 5) (ret := (some .int)) (by decide) rfl ?_
  intro p e s m args below meth c s₁ B hml hv
  obtain ⟨rfl, hsz9, hz0, hE, hP, hD0⟩ := hv
  have hx := B.exec
  have hb := B.bytes
  have hr := B.returns
  have hts0 := atoms_spec (ws := (wsp yX18_sell cX18_sell 5 (some .int))) B.pre
  have hts : ∀ w ∈ lw_all, w.before _ s = true := fun w h => hts0 w (List.mem_cons_of_mem _ h)
  have hown : s.vm.findClass "TheatrehouseModel" = some m.cls := findClass_of_methodNamed B.named
  have hlocks := B.notSynchronized
  have hK := hE.K
  subst hsz9
  have hsz := hz0
  have hAz : ∀ q, va_A [(mm, .inr (9, [.ref b0, .ref b1, .ref b2, .ref b3, .int 0, .null, .null, .ref b4, .null, .ref b5, .ref b6, .int 0, .int 0, .long 0, .int 0])), (b0, .inr (10, [.int 0, .ref (g 4), .int 0])), (b1, .inr (10, [.int 0, .ref (g 4), .int 0])), (b2, .inr (10, [.int 0, .ref (g 4), .int 0])), (b3, .inr (11, [.null, .null, .null, .null, .int 0, .int 0, .null, .null, .null]))] s.heap.size q → z0 ≤ q := vaA_z hz0 hD0
  have hD := hD0.self (sz := s.heap.size)
  generalize hAe : va_A [(mm, .inr (9, [.ref b0, .ref b1, .ref b2, .ref b3, .int 0, .null, .null, .ref b4, .null, .ref b5, .ref b6, .int 0, .int 0, .long 0, .int 0])), (b0, .inr (10, [.int 0, .ref (g 4), .int 0])), (b1, .inr (10, [.int 0, .ref (g 4), .int 0])), (b2, .inr (10, [.int 0, .ref (g 4), .int 0])), (b3, .inr (11, [.null, .null, .null, .null, .int 0, .int 0, .null, .null, .null]))] s.heap.size = A at hD hAz ⊢
  have hA : ∀ q : Nat, s.heap.size ≤ q → A q := fun q h => by rw [← hAe]; exact Or.inr h
  have hS : va_S A s.heap s.heap [] := va_S.rf
  have hP : va_P D classes [(mm, .inr (9, [.ref b0, .ref b1, .ref b2, .ref b3, .int 0, .null, .null, .ref b4, .null, .ref b5, .ref b6, .int 0, .int 0, .long 0, .int 0])), (b0, .inr (10, [.int 0, .ref (g 4), .int 0])), (b1, .inr (10, [.int 0, .ref (g 4), .int 0])), (b2, .inr (10, [.int 0, .ref (g 4), .int 0])), (b3, .inr (11, [.null, .null, .null, .null, .int 0, .int 0, .null, .null, .null]))] s.heap := hP
  have hl := lv_entry ([.ref mm, .int p0, .int p1]) (n := 5) (Nat.le_of_ble_eq_true rfl)
  rw [lg_entry_eq]
  generalize (lg_sl ([.ref mm, .int p0, .int p1]) ++ List.replicate (5 - (lg_sl ([.ref mm, .int p0, .int p1])).length) Slot.unset).toArray = ls at hl ⊢
  have hl : lv_has ls 5 [(0, .ref mm), (1, .int p0), (2, .int p1)] := hl
  refine lv_aload_n hx hb dX18_sell_0 rfl (lv_at hl 0 rfl) ?_
  refine lv_iload_n hx hb dX18_sell_1 rfl (lv_at hl 2 rfl) ?_
  refine lv_if_ne (tgt := 9) hx hb dX18_sell_2 (by decide) (fun _ => ?_) (fun h9 => absurd h9 h)
  refine lv_iconst (v := 0) hx hb dX18_sell_9 (by decide) ?_
  refine va_put (D := D) (ci := 9) (v := .int 0) (ty := .int) (C := RX18) (T := TX18) (N := 15) hx hb hts i_X18 tyX18 tyX18_ok nmX18 hown hK hP hD hS 0 rfl rfl 14 (by decide) (hts _ m_1197) (fun _ h9 => h9) rfl (by decide +kernel) rfl rfl (Nat.le_of_ble_eq_true rfl) dX18_sell_10 (fun H locs hP hD hS => ?_)
  have hP : va_P D classes [(mm, .inr (9, [.ref b0, .ref b1, .ref b2, .ref b3, .int 0, .null, .null, .ref b4, .null, .ref b5, .ref b6, .int 0, .int 0, .long 0, .int 0])), (b0, .inr (10, [.int 0, .ref (g 4), .int 0])), (b1, .inr (10, [.int 0, .ref (g 4), .int 0])), (b2, .inr (10, [.int 0, .ref (g 4), .int 0])), (b3, .inr (11, [.null, .null, .null, .null, .int 0, .int 0, .null, .null, .null]))] H := hP
  have hD : va_D A [(mm, .inr (9, [.ref b0, .ref b1, .ref b2, .ref b3, .int 0, .null, .null, .ref b4, .null, .ref b5, .ref b6, .int 0, .int 0, .long 0, .int 0])), (b0, .inr (10, [.int 0, .ref (g 4), .int 0])), (b1, .inr (10, [.int 0, .ref (g 4), .int 0])), (b2, .inr (10, [.int 0, .ref (g 4), .int 0])), (b3, .inr (11, [.null, .null, .null, .null, .int 0, .int 0, .null, .null, .null]))] := hD
  refine lv_aload_n hx hb dX18_sell_13 rfl (lv_at hl 0 rfl) ?_
  refine va_get (D := D) (ci := 9) (v := .int 0) (C := RX18) (T := TX18) (N := 15) hx hb hts i_X18 hown hK hP 0 rfl rfl 14 (by decide) (hts _ m_1197) (fun _ h9 => h9) rfl dX18_sell_14 ?_
  refine lv_if_le (tgt := 22) hx hb dX18_sell_17 (by decide) (fun _ => ?_) (fun h9 => absurd (by decide) h9)
  refine lv_aload_n hx hb dX18_sell_22 rfl (lv_at hl 0 rfl) ?_
  refine va_get (D := D) (ci := 9) (v := .ref b3) (C := RX18) (T := TX18) (N := 15) hx hb hts i_X18 hown hK hP 0 rfl rfl 3 (by decide) (hts _ m_1184) (fun _ h9 => h9) rfl dX18_sell_23 ?_
  refine lv_iload_n hx hb dX18_sell_26 rfl (lv_at hl 1 rfl) ?_
  have hc_1 := hP.sub (ws' := []) [] rfl
  have hc_1D := hD.sub (ws' := []) [] (by decide) rfl
  have hc_1F := va_free (wc := []) hD hS hA [] rfl
  refine va_callr (va_runS (As := [.int p0]) (rest := [.ref b3]) ⟨hx, hb, hml, hown, hts⟩ (c_valueOf l z0 D g _ p0) (va_cwS 1 hts (lw_S m_1525 m_1526 m_38 m_1527) rfl rfl rfl (by decide +kernel) ⟨(Nat.le_of_ble_eq_true rfl), (Nat.le_of_ble_eq_true rfl)⟩) ⟨PM.blind, PM.pre hE hS hAz hsz hc_1 hc_1D⟩ rfl rfl hl.1 rfl (lv_room (Nat.le_of_ble_eq_true rfl)) dX18_sell_27 ⟨(Nat.le_of_ble_eq_true rfl), (Nat.le_of_ble_eq_true rfl)⟩) hS (fun q _ h => hc_1F q h) hc_1F (fun u_3 r_2 t H locs ht hvm hw hB hz1 hk1 hS => ?_)
  have hP := hP.oldA hk1
  have hP : va_P D classes [(mm, .inr (9, [.ref b0, .ref b1, .ref b2, .ref b3, .int 0, .null, .null, .ref b4, .null, .ref b5, .ref b6, .int 0, .int 0, .long 0, .int 0])), (b0, .inr (10, [.int 0, .ref (g 4), .int 0])), (b1, .inr (10, [.int 0, .ref (g 4), .int 0])), (b2, .inr (10, [.int 0, .ref (g 4), .int 0])), (b3, .inr (11, [.null, .null, .null, .null, .int 0, .int 0, .null, .null, .null]))] H := hP
  have hO := O_back hB ht hvm
  have hc_4 := hP.sub (ws' := [(b3, .inr (11, [.null, .null, .null, .null, .int 0, .int 0, .null, .null, .null]))]) [4] rfl
  refine va_callq (va_runV (As := [.ref r_2]) (rest := []) ⟨hx, hb, hml, hown, hts⟩ (c_TMget l z0 D g b3 r_2) (cwV 1 hts (lw_V m_2039 m_2040 m_2041 m_17 m_2042) rfl rfl rfl (by decide +kernel) ⟨(Nat.le_of_ble_eq_true rfl), (Nat.le_of_ble_eq_true rfl)⟩) ⟨PRO.blind, va_recv hK hP (ci := 11) (q0 := 4) rfl rfl, PRO.pre hE hS hAz hc_4 hO⟩ rfl rfl hl.1 rfl (lv_room (Nat.le_of_ble_eq_true rfl)) dX18_sell_30 ⟨(Nat.le_of_ble_eq_true rfl), (Nat.le_of_ble_eq_true rfl)⟩) hS nA_B nA_A (fun r_5 u_6 t H locs ht hvm hw hB hz1 hk1 hS => ?_)
  have hP := hP.old hk1
  have hP : va_P D classes [(mm, .inr (9, [.ref b0, .ref b1, .ref b2, .ref b3, .int 0, .null, .null, .ref b4, .null, .ref b5, .ref b6, .int 0, .int 0, .long 0, .int 0])), (b0, .inr (10, [.int 0, .ref (g 4), .int 0])), (b1, .inr (10, [.int 0, .ref (g 4), .int 0])), (b2, .inr (10, [.int 0, .ref (g 4), .int 0])), (b3, .inr (11, [.null, .null, .null, .null, .int 0, .int 0, .null, .null, .null]))] H := hP
  subst hw
  refine W.eq (g2 := F0 m 33 ls [.null]) rfl ?_
  refine lv_castN hx hb dX18_sell_33 ?_
  refine lv_astore_nN (lv' := [(3, .null), (0, .ref mm), (1, .int p0), (2, .int p1)]) hx hb dX18_sell_36 rfl hl (by decide) rfl (fun ls hl => ?_)
  refine lv_aload_nN hx hb dX18_sell_37 rfl (lv_at hl 0 rfl) ?_
  refine lv_ifnullN (tgt := 67) hx hb dX18_sell_38 (by decide) ?_
  refine lv_iconst (v := 0) hx hb dX18_sell_67 (by decide) ?_
  refine lv_istore (lv' := [(4, .int 0), (3, .null), (0, .ref mm), (1, .int p0), (2, .int p1)]) hx hb dX18_sell_68 hl (by decide) rfl (fun ls hl => ?_)
  refine lv_aload_n hx hb dX18_sell_70 rfl (lv_at hl 2 rfl) ?_
  refine lv_iload hx hb dX18_sell_71 (lv_at hl 0 rfl) ?_
  refine lv_if_ne (tgt := 80) hx hb dX18_sell_73 (by decide) (fun h9 => absurd (by decide) h9) (fun _ => ?_)
  refine lv_iconst (v := 2) hx hb dX18_sell_76 (by decide) ?_
  refine lv_goto (tgt := 103) hx hb dX18_sell_77 (by decide) ?_
  refine va_put (D := D) (ci := 9) (v := .int 2) (ty := .int) (C := RX18) (T := TX18) (N := 15) hx hb hts i_X18 tyX18 tyX18_ok nmX18 hown hK hP hD hS 0 rfl rfl 14 (by decide) (hts _ m_1197) (fun _ h9 => h9) rfl (by decide +kernel) rfl rfl (Nat.le_of_ble_eq_true rfl) dX18_sell_103 (fun H locs hP hD hS => ?_)
  have hP : va_P D classes [(mm, .inr (9, [.ref b0, .ref b1, .ref b2, .ref b3, .int 0, .null, .null, .ref b4, .null, .ref b5, .ref b6, .int 0, .int 0, .long 0, .int 2])), (b0, .inr (10, [.int 0, .ref (g 4), .int 0])), (b1, .inr (10, [.int 0, .ref (g 4), .int 0])), (b2, .inr (10, [.int 0, .ref (g 4), .int 0])), (b3, .inr (11, [.null, .null, .null, .null, .int 0, .int 0, .null, .null, .null]))] H := hP
  have hD : va_D A [(mm, .inr (9, [.ref b0, .ref b1, .ref b2, .ref b3, .int 0, .null, .null, .ref b4, .null, .ref b5, .ref b6, .int 0, .int 0, .long 0, .int 2])), (b0, .inr (10, [.int 0, .ref (g 4), .int 0])), (b1, .inr (10, [.int 0, .ref (g 4), .int 0])), (b2, .inr (10, [.int 0, .ref (g 4), .int 0])), (b3, .inr (11, [.null, .null, .null, .null, .int 0, .int 0, .null, .null, .null]))] := hD
  refine lv_aload_n hx hb dX18_sell_106 rfl (lv_at hl 2 rfl) ?_
  refine va_get (D := D) (ci := 9) (v := .int 2) (C := RX18) (T := TX18) (N := 15) hx hb hts i_X18 hown hK hP 0 rfl rfl 14 (by decide) (hts _ m_1197) (fun _ h9 => h9) rfl dX18_sell_107 ?_
  refine lv_if_le (tgt := 115) hx hb dX18_sell_110 (by decide) (fun h9 => absurd h9 (by decide)) (fun _ => ?_)
  refine lv_iconst (v := (-1)) hx hb dX18_sell_113 (by decide) ?_
  have hP9 := hP.sub (ws' := [(mm, .inr (9, [.ref b0, .ref b1, .ref b2, .ref b3, .int 0, .null, .null, .ref b4, .null, .ref b5, .ref b6, .int 0, .int 0, .long 0, .int 2]))]) [0] rfl
  have hD9 := hD.sub (ws' := [(mm, .inr (9, [.ref b0, .ref b1, .ref b2, .ref b3, .int 0, .null, .null, .ref b4, .null, .ref b5, .ref b6, .int 0, .int 0, .long 0, .int 2]))]) [0] (by decide) rfl
  refine W.widen (k := 1) (n := 1) (Nat.le_of_ble_eq_true rfl) (Nat.le_of_ble_eq_true rfl) ?_
  exact W.iret (v := (-1)) hx hb hr (fun t ht hW => ⟨⟨(-1), (), rfl, trivial, ⟨by rw [ht]; exact hP9, hD9⟩⟩, hS.F ht⟩) hS.2.2 dX18_sell_114

set_option maxHeartbeats 4000000 in
set_option maxRecDepth 100000 in
theorem c_X18_begin (l : Launch) (z0 : Nat) (D : va_G) (g : Nat → Nat) (sz : Nat) (mm b0 b1 b2 b3 b4 b5 b6 : Nat) : Met l yX18_begin (wsp yX18_begin cX18_begin 3 (some .int)) ({ frames := 4, cells := 1, slots := 1, locals := 81 }) (va_Pc [.ref mm] (PM z0 D g sz [(mm, .inr (9, [.ref b0, .ref b1, .ref b2, .ref b3, .int 0, .null, .null, .ref b4, .null, .ref b5, .ref b6, .int 0, .int 0, .long 0, .int 0])), (b0, .inr (10, [.int 0, .ref (g 4), .int 0])), (b1, .inr (10, [.int 0, .ref (g 4), .int 0])), (b2, .inr (10, [.int 0, .ref (g 4), .int 0])), (b3, .inr (11, [.null, .null, .null, .null, .int 0, .int 0, .null, .null, .null]))])) (va_Qi (fun (r : Int32) (_ : Unit) => True) (fun (_ : Unit) t => va_P D classes [(mm, .inr (9, [.ref b0, .ref b1, .ref b2, .ref b3, .int 0, .null, .null, .ref b4, .null, .ref b5, .ref b6, .int 0, .int 0, .long 0, .int 2]))] t.heap ∧ va_D (va_A [(mm, .inr (9, [.ref b0, .ref b1, .ref b2, .ref b3, .int 0, .null, .null, .ref b4, .null, .ref b5, .ref b6, .int 0, .int 0, .long 0, .int 0])), (b0, .inr (10, [.int 0, .ref (g 4), .int 0])), (b1, .inr (10, [.int 0, .ref (g 4), .int 0])), (b2, .inr (10, [.int 0, .ref (g 4), .int 0])), (b3, .inr (11, [.null, .null, .null, .null, .int 0, .int 0, .null, .null, .null]))] sz) [(mm, .inr (9, [.ref b0, .ref b1, .ref b2, .ref b3, .int 0, .null, .null, .ref b4, .null, .ref b5, .ref b6, .int 0, .int 0, .long 0, .int 2]))]) (va_A [(mm, .inr (9, [.ref b0, .ref b1, .ref b2, .ref b3, .int 0, .null, .null, .ref b4, .null, .ref b5, .ref b6, .int 0, .int 0, .long 0, .int 0])), (b0, .inr (10, [.int 0, .ref (g 4), .int 0])), (b1, .inr (10, [.int 0, .ref (g 4), .int 0])), (b2, .inr (10, [.int 0, .ref (g 4), .int 0])), (b3, .inr (11, [.null, .null, .null, .null, .int 0, .int 0, .null, .null, .null]))] sz)) 1 1 (va_A [(mm, .inr (9, [.ref b0, .ref b1, .ref b2, .ref b3, .int 0, .null, .null, .ref b4, .null, .ref b5, .ref b6, .int 0, .int 0, .long 0, .int 0])), (b0, .inr (10, [.int 0, .ref (g 4), .int 0])), (b1, .inr (10, [.int 0, .ref (g 4), .int 0])), (b2, .inr (10, [.int 0, .ref (g 4), .int 0])), (b3, .inr (11, [.null, .null, .null, .null, .int 0, .int 0, .null, .null, .null]))] sz) := by
  refine Met.ofW (cc := cX18_begin) (maxL := 3) (ret := (some .int)) (by decide) rfl ?_
  intro p e s m args below meth c s₁ B hml hv
  obtain ⟨rfl, hsz9, hz0, hE, hP, hD0⟩ := hv
  have hx := B.exec
  have hb := B.bytes
  have hr := B.returns
  have hts0 := atoms_spec (ws := (wsp yX18_begin cX18_begin 3 (some .int))) B.pre
  have hts : ∀ w ∈ lw_all, w.before _ s = true := fun w h => hts0 w (List.mem_cons_of_mem _ h)
  have hown : s.vm.findClass "TheatrehouseModel" = some m.cls := findClass_of_methodNamed B.named
  have hlocks := B.notSynchronized
  have hK := hE.K
  subst hsz9
  have hsz := hz0
  have hAz : ∀ q, va_A [(mm, .inr (9, [.ref b0, .ref b1, .ref b2, .ref b3, .int 0, .null, .null, .ref b4, .null, .ref b5, .ref b6, .int 0, .int 0, .long 0, .int 0])), (b0, .inr (10, [.int 0, .ref (g 4), .int 0])), (b1, .inr (10, [.int 0, .ref (g 4), .int 0])), (b2, .inr (10, [.int 0, .ref (g 4), .int 0])), (b3, .inr (11, [.null, .null, .null, .null, .int 0, .int 0, .null, .null, .null]))] s.heap.size q → z0 ≤ q := vaA_z hz0 hD0
  have hD := hD0.self (sz := s.heap.size)
  generalize hAe : va_A [(mm, .inr (9, [.ref b0, .ref b1, .ref b2, .ref b3, .int 0, .null, .null, .ref b4, .null, .ref b5, .ref b6, .int 0, .int 0, .long 0, .int 0])), (b0, .inr (10, [.int 0, .ref (g 4), .int 0])), (b1, .inr (10, [.int 0, .ref (g 4), .int 0])), (b2, .inr (10, [.int 0, .ref (g 4), .int 0])), (b3, .inr (11, [.null, .null, .null, .null, .int 0, .int 0, .null, .null, .null]))] s.heap.size = A at hD hAz ⊢
  have hA : ∀ q : Nat, s.heap.size ≤ q → A q := fun q h => by rw [← hAe]; exact Or.inr h
  have hS : va_S A s.heap s.heap [] := va_S.rf
  have hP : va_P D classes [(mm, .inr (9, [.ref b0, .ref b1, .ref b2, .ref b3, .int 0, .null, .null, .ref b4, .null, .ref b5, .ref b6, .int 0, .int 0, .long 0, .int 0])), (b0, .inr (10, [.int 0, .ref (g 4), .int 0])), (b1, .inr (10, [.int 0, .ref (g 4), .int 0])), (b2, .inr (10, [.int 0, .ref (g 4), .int 0])), (b3, .inr (11, [.null, .null, .null, .null, .int 0, .int 0, .null, .null, .null]))] s.heap := hP
  have hl := lv_entry ([.ref mm]) (n := 3) (Nat.le_of_ble_eq_true rfl)
  rw [lg_entry_eq]
  generalize (lg_sl ([.ref mm]) ++ List.replicate (3 - (lg_sl ([.ref mm])).length) Slot.unset).toArray = ls at hl ⊢
  have hl : lv_has ls 3 [(0, .ref mm)] := hl
  refine lv_aload_n hx hb dX18_begin_0 rfl (lv_at hl 0 rfl) ?_
  refine va_get (D := D) (ci := 9) (v := .ref b3) (C := RX18) (T := TX18) (N := 15) hx hb hts i_X18 hown hK hP 0 rfl rfl 3 (by decide) (hts _ m_1184) (fun _ h9 => h9) rfl dX18_begin_1 ?_
  refine lv_aload_n hx hb dX18_begin_4 rfl (lv_at hl 0 rfl) ?_
  refine va_get (D := D) (ci := 9) (v := .int 0) (C := RX18) (T := TX18) (N := 15) hx hb hts i_X18 hown hK hP 0 rfl rfl 4 (by decide) (hts _ m_1185) (fun _ h9 => h9) rfl dX18_begin_5 ?_
  have hc_1 := hP.sub (ws' := []) [] rfl
  have hc_1D := hD.sub (ws' := []) [] (by decide) rfl
  have hc_1F := va_free (wc := []) hD hS hA [] rfl
  refine va_callr (va_runS (As := [.int 0]) (rest := [.ref b3]) ⟨hx, hb, hml, hown, hts⟩ (c_valueOf l z0 D g _ 0) (va_cwS 1 hts (lw_S m_1525 m_1526 m_38 m_1527) rfl rfl rfl (by decide +kernel) ⟨(Nat.le_of_ble_eq_true rfl), (Nat.le_of_ble_eq_true rfl)⟩) ⟨PM.blind, PM.pre hE hS hAz hsz hc_1 hc_1D⟩ rfl rfl hl.1 rfl (lv_room (Nat.le_of_ble_eq_true rfl)) dX18_begin_8 ⟨(Nat.le_of_ble_eq_true rfl), (Nat.le_of_ble_eq_true rfl)⟩) hS (fun q _ h => hc_1F q h) hc_1F (fun u_3 r_2 t H locs ht hvm hw hB hz1 hk1 hS => ?_)
  have hP := hP.oldA hk1
  have hP : va_P D classes [(mm, .inr (9, [.ref b0, .ref b1, .ref b2, .ref b3, .int 0, .null, .null, .ref b4, .null, .ref b5, .ref b6, .int 0, .int 0, .long 0, .int 0])), (b0, .inr (10, [.int 0, .ref (g 4), .int 0])), (b1, .inr (10, [.int 0, .ref (g 4), .int 0])), (b2, .inr (10, [.int 0, .ref (g 4), .int 0])), (b3, .inr (11, [.null, .null, .null, .null, .int 0, .int 0, .null, .null, .null]))] H := hP
  have hO := O_back hB ht hvm
  have hc_4 := hP.sub (ws' := [(b3, .inr (11, [.null, .null, .null, .null, .int 0, .int 0, .null, .null, .null]))]) [4] rfl
  refine va_callq (va_runV (As := [.ref r_2]) (rest := []) ⟨hx, hb, hml, hown, hts⟩ (c_TMget l z0 D g b3 r_2) (cwV 1 hts (lw_V m_2039 m_2040 m_2041 m_17 m_2042) rfl rfl rfl (by decide +kernel) ⟨(Nat.le_of_ble_eq_true rfl), (Nat.le_of_ble_eq_true rfl)⟩) ⟨PRO.blind, va_recv hK hP (ci := 11) (q0 := 4) rfl rfl, PRO.pre hE hS hAz hc_4 hO⟩ rfl rfl hl.1 rfl (lv_room (Nat.le_of_ble_eq_true rfl)) dX18_begin_11 ⟨(Nat.le_of_ble_eq_true rfl), (Nat.le_of_ble_eq_true rfl)⟩) hS nA_B nA_A (fun r_5 u_6 t H locs ht hvm hw hB hz1 hk1 hS => ?_)
  have hP := hP.old hk1
  have hP : va_P D classes [(mm, .inr (9, [.ref b0, .ref b1, .ref b2, .ref b3, .int 0, .null, .null, .ref b4, .null, .ref b5, .ref b6, .int 0, .int 0, .long 0, .int 0])), (b0, .inr (10, [.int 0, .ref (g 4), .int 0])), (b1, .inr (10, [.int 0, .ref (g 4), .int 0])), (b2, .inr (10, [.int 0, .ref (g 4), .int 0])), (b3, .inr (11, [.null, .null, .null, .null, .int 0, .int 0, .null, .null, .null]))] H := hP
  subst hw
  refine W.eq (g2 := F0 m 14 ls [.null]) rfl ?_
  refine lv_castN hx hb dX18_begin_14 ?_
  refine lv_astore_nN (lv' := [(1, .null), (0, .ref mm)]) hx hb dX18_begin_17 rfl hl (by decide) rfl (fun ls hl => ?_)
  refine lv_aload_n hx hb dX18_begin_18 rfl (lv_at hl 1 rfl) ?_
  refine lv_aload_n hx hb dX18_begin_19 rfl (lv_at hl 1 rfl) ?_
  refine va_get (D := D) (ci := 9) (v := .null) (C := RX18) (T := TX18) (N := 15) hx hb hts i_X18 hown hK hP 0 rfl rfl 5 (by decide) (hts _ m_1186) (fun _ h9 => h9) rfl dX18_begin_20 ?_
  refine lv_ifnullN (tgt := 30) hx hb dX18_begin_23 (by decide) ?_
  refine lv_aload_nN hx hb dX18_begin_30 rfl (lv_at hl 0 rfl) ?_
  refine lv_ifnullN (tgt := 43) hx hb dX18_begin_31 (by decide) ?_
  refine lv_iconst (v := 2) hx hb dX18_begin_43 (by decide) ?_
  refine lv_goto (tgt := 48) hx hb dX18_begin_44 (by decide) ?_
  refine va_put (D := D) (ci := 9) (v := .int 2) (ty := .int) (C := RX18) (T := TX18) (N := 15) hx hb hts i_X18 tyX18 tyX18_ok nmX18 hown hK hP hD hS 0 rfl rfl 14 (by decide) (hts _ m_1197) (fun _ h9 => h9) rfl (by decide +kernel) rfl rfl (Nat.le_of_ble_eq_true rfl) dX18_begin_48 (fun H locs hP hD hS => ?_)
  have hP : va_P D classes [(mm, .inr (9, [.ref b0, .ref b1, .ref b2, .ref b3, .int 0, .null, .null, .ref b4, .null, .ref b5, .ref b6, .int 0, .int 0, .long 0, .int 2])), (b0, .inr (10, [.int 0, .ref (g 4), .int 0])), (b1, .inr (10, [.int 0, .ref (g 4), .int 0])), (b2, .inr (10, [.int 0, .ref (g 4), .int 0])), (b3, .inr (11, [.null, .null, .null, .null, .int 0, .int 0, .null, .null, .null]))] H := hP
  have hD : va_D A [(mm, .inr (9, [.ref b0, .ref b1, .ref b2, .ref b3, .int 0, .null, .null, .ref b4, .null, .ref b5, .ref b6, .int 0, .int 0, .long 0, .int 2])), (b0, .inr (10, [.int 0, .ref (g 4), .int 0])), (b1, .inr (10, [.int 0, .ref (g 4), .int 0])), (b2, .inr (10, [.int 0, .ref (g 4), .int 0])), (b3, .inr (11, [.null, .null, .null, .null, .int 0, .int 0, .null, .null, .null]))] := hD
  refine lv_aload_n hx hb dX18_begin_51 rfl (lv_at hl 1 rfl) ?_
  refine va_get (D := D) (ci := 9) (v := .int 2) (C := RX18) (T := TX18) (N := 15) hx hb hts i_X18 hown hK hP 0 rfl rfl 14 (by decide) (hts _ m_1197) (fun _ h9 => h9) rfl dX18_begin_52 ?_
  refine lv_if_le (tgt := 60) hx hb dX18_begin_55 (by decide) (fun h9 => absurd h9 (by decide)) (fun _ => ?_)
  refine lv_iconst (v := (-1)) hx hb dX18_begin_58 (by decide) ?_
  have hP9 := hP.sub (ws' := [(mm, .inr (9, [.ref b0, .ref b1, .ref b2, .ref b3, .int 0, .null, .null, .ref b4, .null, .ref b5, .ref b6, .int 0, .int 0, .long 0, .int 2]))]) [0] rfl
  have hD9 := hD.sub (ws' := [(mm, .inr (9, [.ref b0, .ref b1, .ref b2, .ref b3, .int 0, .null, .null, .ref b4, .null, .ref b5, .ref b6, .int 0, .int 0, .long 0, .int 2]))]) [0] (by decide) rfl
  refine W.widen (k := 1) (n := 1) (Nat.le_of_ble_eq_true rfl) (Nat.le_of_ble_eq_true rfl) ?_
  exact W.iret (v := (-1)) hx hb hr (fun t ht hW => ⟨⟨(-1), (), rfl, trivial, ⟨by rw [ht]; exact hP9, hD9⟩⟩, hS.F ht⟩) hS.2.2 dX18_begin_59

set_option maxHeartbeats 4000000 in
set_option maxRecDepth 100000 in
theorem c_X18_soldShare (l : Launch) (z0 : Nat) (D : va_G) (g : Nat → Nat) (sz : Nat) (mm b0 b1 b2 b3 b4 b5 b6 : Nat) : Met l yX18_soldShare (wsp yX18_soldShare cX18_soldShare 5 (some .float)) ({ frames := 4, cells := 2, slots := 5, locals := 84 }) (va_Pc [.ref mm] (PM z0 D g sz [(mm, .inr (9, [.ref b0, .ref b1, .ref b2, .ref b3, .int 0, .null, .null, .ref b4, .null, .ref b5, .ref b6, .int 0, .int 0, .long 0, .int 0])), (b0, .inr (10, [.int 0, .ref (g 4), .int 0])), (b1, .inr (10, [.int 0, .ref (g 4), .int 0])), (b2, .inr (10, [.int 0, .ref (g 4), .int 0])), (b3, .inr (11, [.null, .null, .null, .null, .int 0, .int 0, .null, .null, .null]))])) (va_Qf (fun (r : UInt32) (_ : Unit) => True) (fun (_ : Unit) t => va_P D classes [(mm, .inr (9, [.ref b0, .ref b1, .ref b2, .ref b3, .int 0, .null, .null, .ref b4, .null, .ref b5, .ref b6, .int 0, .int 0, .long 0, .int 1]))] t.heap ∧ va_D (va_A [(mm, .inr (9, [.ref b0, .ref b1, .ref b2, .ref b3, .int 0, .null, .null, .ref b4, .null, .ref b5, .ref b6, .int 0, .int 0, .long 0, .int 0])), (b0, .inr (10, [.int 0, .ref (g 4), .int 0])), (b1, .inr (10, [.int 0, .ref (g 4), .int 0])), (b2, .inr (10, [.int 0, .ref (g 4), .int 0])), (b3, .inr (11, [.null, .null, .null, .null, .int 0, .int 0, .null, .null, .null]))] sz) [(mm, .inr (9, [.ref b0, .ref b1, .ref b2, .ref b3, .int 0, .null, .null, .ref b4, .null, .ref b5, .ref b6, .int 0, .int 0, .long 0, .int 1]))]) (va_A [(mm, .inr (9, [.ref b0, .ref b1, .ref b2, .ref b3, .int 0, .null, .null, .ref b4, .null, .ref b5, .ref b6, .int 0, .int 0, .long 0, .int 0])), (b0, .inr (10, [.int 0, .ref (g 4), .int 0])), (b1, .inr (10, [.int 0, .ref (g 4), .int 0])), (b2, .inr (10, [.int 0, .ref (g 4), .int 0])), (b3, .inr (11, [.null, .null, .null, .null, .int 0, .int 0, .null, .null, .null]))] sz)) 2 5 (va_A [(mm, .inr (9, [.ref b0, .ref b1, .ref b2, .ref b3, .int 0, .null, .null, .ref b4, .null, .ref b5, .ref b6, .int 0, .int 0, .long 0, .int 0])), (b0, .inr (10, [.int 0, .ref (g 4), .int 0])), (b1, .inr (10, [.int 0, .ref (g 4), .int 0])), (b2, .inr (10, [.int 0, .ref (g 4), .int 0])), (b3, .inr (11, [.null, .null, .null, .null, .int 0, .int 0, .null, .null, .null]))] sz) := by
  refine Met.ofW (cc := cX18_soldShare) (maxL := 5) (ret := (some .float)) (by decide) rfl ?_
  intro p e s m args below meth c s₁ B hml hv
  obtain ⟨rfl, hsz9, hz0, hE, hP, hD0⟩ := hv
  have hx := B.exec
  have hb := B.bytes
  have hr := B.returns
  have hts0 := atoms_spec (ws := (wsp yX18_soldShare cX18_soldShare 5 (some .float))) B.pre
  have hts : ∀ w ∈ lw_all, w.before _ s = true := fun w h => hts0 w (List.mem_cons_of_mem _ h)
  have hown : s.vm.findClass "TheatrehouseModel" = some m.cls := findClass_of_methodNamed B.named
  have hlocks := B.notSynchronized
  have hK := hE.K
  subst hsz9
  have hsz := hz0
  have hAz : ∀ q, va_A [(mm, .inr (9, [.ref b0, .ref b1, .ref b2, .ref b3, .int 0, .null, .null, .ref b4, .null, .ref b5, .ref b6, .int 0, .int 0, .long 0, .int 0])), (b0, .inr (10, [.int 0, .ref (g 4), .int 0])), (b1, .inr (10, [.int 0, .ref (g 4), .int 0])), (b2, .inr (10, [.int 0, .ref (g 4), .int 0])), (b3, .inr (11, [.null, .null, .null, .null, .int 0, .int 0, .null, .null, .null]))] s.heap.size q → z0 ≤ q := vaA_z hz0 hD0
  have hD := hD0.self (sz := s.heap.size)
  generalize hAe : va_A [(mm, .inr (9, [.ref b0, .ref b1, .ref b2, .ref b3, .int 0, .null, .null, .ref b4, .null, .ref b5, .ref b6, .int 0, .int 0, .long 0, .int 0])), (b0, .inr (10, [.int 0, .ref (g 4), .int 0])), (b1, .inr (10, [.int 0, .ref (g 4), .int 0])), (b2, .inr (10, [.int 0, .ref (g 4), .int 0])), (b3, .inr (11, [.null, .null, .null, .null, .int 0, .int 0, .null, .null, .null]))] s.heap.size = A at hD hAz ⊢
  have hA : ∀ q : Nat, s.heap.size ≤ q → A q := fun q h => by rw [← hAe]; exact Or.inr h
  have hS : va_S A s.heap s.heap [] := va_S.rf
  have hP : va_P D classes [(mm, .inr (9, [.ref b0, .ref b1, .ref b2, .ref b3, .int 0, .null, .null, .ref b4, .null, .ref b5, .ref b6, .int 0, .int 0, .long 0, .int 0])), (b0, .inr (10, [.int 0, .ref (g 4), .int 0])), (b1, .inr (10, [.int 0, .ref (g 4), .int 0])), (b2, .inr (10, [.int 0, .ref (g 4), .int 0])), (b3, .inr (11, [.null, .null, .null, .null, .int 0, .int 0, .null, .null, .null]))] s.heap := hP
  have hl := lv_entry ([.ref mm]) (n := 5) (Nat.le_of_ble_eq_true rfl)
  rw [lg_entry_eq]
  generalize (lg_sl ([.ref mm]) ++ List.replicate (5 - (lg_sl ([.ref mm])).length) Slot.unset).toArray = ls at hl ⊢
  have hl : lv_has ls 5 [(0, .ref mm)] := hl
  refine lv_iconst (v := 0) hx hb dX18_soldShare_0 (by decide) ?_
  refine lv_istore_n (lv' := [(1, .int 0), (0, .ref mm)]) hx hb dX18_soldShare_1 rfl hl (by decide) rfl (fun ls hl => ?_)
  refine lv_iconst (v := 0) hx hb dX18_soldShare_2 (by decide) ?_
  refine lv_istore_n (lv' := [(2, .int 0), (1, .int 0), (0, .ref mm)]) hx hb dX18_soldShare_3 rfl hl (by decide) rfl (fun ls hl => ?_)
  refine lv_aload_n hx hb dX18_soldShare_4 rfl (lv_at hl 2 rfl) ?_
  refine va_get (D := D) (ci := 9) (v := .ref b3) (C := RX18) (T := TX18) (N := 15) hx hb hts i_X18 hown hK hP 0 rfl rfl 3 (by decide) (hts _ m_1184) (fun _ h9 => h9) rfl dX18_soldShare_5 ?_
  have hc_1 := hP.sub (ws' := [(b3, .inr (11, [.null, .null, .null, .null, .int 0, .int 0, .null, .null, .null]))]) [4] rfl
  have hc_1D := hD.sub (ws' := [(b3, .inr (11, [.null, .null, .null, .null, .int 0, .int 0, .null, .null, .null]))]) [4] (by decide) rfl
  have hc_1F := va_free (wc := [(b3, .inr (11, [.null, .null, .null, .null, .int 0, .int 0, .null, .null, .null]))]) hD hS hA [4] rfl
  refine va_callr (va_runV (As := []) (rest := []) ⟨hx, hb, hml, hown, hts⟩ (c_TMvalues l z0 D g _ b3) (cwV 0 hts (lw_V m_1904 m_1905 m_1906 m_17 m_1907) rfl rfl rfl (by decide +kernel) ⟨(Nat.le_of_ble_eq_true rfl), (Nat.le_of_ble_eq_true rfl)⟩) ⟨PM.blind, va_recv hK hP (ci := 11) (q0 := 4) rfl rfl, PM.pre hE hS hAz hsz hc_1 hc_1D⟩ rfl rfl hl.1 rfl (lv_room (Nat.le_of_ble_eq_true rfl)) dX18_soldShare_8 ⟨(Nat.le_of_ble_eq_true rfl), (Nat.le_of_ble_eq_true rfl)⟩) hS (fun q _ h => hc_1F q h) hc_1F (fun u_3 r_2 t H locs ht hvm hw hB hz1 hk1 hS => ?_)
  obtain ⟨hP1, hD1⟩ := hB
  rw [ht] at hP1
  obtain ⟨hP, hD⟩ := va_join (wr := [(mm, .inr (9, [.ref b0, .ref b1, .ref b2, .ref b3, .int 0, .null, .null, .ref b4, .null, .ref b5, .ref b6, .int 0, .int 0, .long 0, .int 0])), (b0, .inr (10, [.int 0, .ref (g 4), .int 0])), (b1, .inr (10, [.int 0, .ref (g 4), .int 0])), (b2, .inr (10, [.int 0, .ref (g 4), .int 0]))]) (w1 := [(b3, .inr (11, [.null, .ref r_2, .null, .null, .int 0, .int 0, .null, .null, .null])), (r_2, .inr (16, [.ref b3]))]) hP hD [4] [0, 1, 2, 3] rfl rfl (by decide) (by decide) hk1 hc_1F hP1 hD1
  have hP : va_P D classes [(mm, .inr (9, [.ref b0, .ref b1, .ref b2, .ref b3, .int 0, .null, .null, .ref b4, .null, .ref b5, .ref b6, .int 0, .int 0, .long 0, .int 0])), (b0, .inr (10, [.int 0, .ref (g 4), .int 0])), (b1, .inr (10, [.int 0, .ref (g 4), .int 0])), (b2, .inr (10, [.int 0, .ref (g 4), .int 0])), (b3, .inr (11, [.null, .ref r_2, .null, .null, .int 0, .int 0, .null, .null, .null])), (r_2, .inr (16, [.ref b3]))] H := hP
  have hD : va_D A [(mm, .inr (9, [.ref b0, .ref b1, .ref b2, .ref b3, .int 0, .null, .null, .ref b4, .null, .ref b5, .ref b6, .int 0, .int 0, .long 0, .int 0])), (b0, .inr (10, [.int 0, .ref (g 4), .int 0])), (b1, .inr (10, [.int 0, .ref (g 4), .int 0])), (b2, .inr (10, [.int 0, .ref (g 4), .int 0])), (b3, .inr (11, [.null, .ref r_2, .null, .null, .int 0, .int 0, .null, .null, .null])), (r_2, .inr (16, [.ref b3]))] := hD
  have hc_4 := hP.sub (ws' := [(r_2, .inr (16, [.ref b3])), (b3, .inr (11, [.null, .ref r_2, .null, .null, .int 0, .int 0, .null, .null, .null]))]) [5, 4] rfl
  have hc_4D := hD.sub (ws' := [(r_2, .inr (16, [.ref b3])), (b3, .inr (11, [.null, .ref r_2, .null, .null, .int 0, .int 0, .null, .null, .null]))]) [5, 4] (by decide) rfl
  have hc_4F := va_free (wc := [(r_2, .inr (16, [.ref b3])), (b3, .inr (11, [.null, .ref r_2, .null, .null, .int 0, .int 0, .null, .null, .null]))]) hD hS hA [5, 4] rfl
  refine va_callFr (va_runF (hK.1 16 _ rfl).2 (As := []) (rest := []) ⟨hx, hb, hml, hown, hts⟩ (c_Viterator l z0 D g _ r_2 b3) (va_cwF 0 hts (lw_F m_1919 m_1948 m_1950 m_47 m_1952) rfl rfl rfl (hE.fw (i := 4) rfl) (by decide +kernel) ⟨(Nat.le_of_ble_eq_true rfl), (Nat.le_of_ble_eq_true rfl)⟩) ⟨PM.blind, va_recv hK hP (ci := 16) (q0 := 5) rfl rfl, PM.pre hE hS hAz hsz hc_4 hc_4D⟩ rfl rfl hl.1 rfl (lv_room (Nat.le_of_ble_eq_true rfl)) dX18_soldShare_11 ⟨(Nat.le_of_ble_eq_true rfl), (Nat.le_of_ble_eq_true rfl)⟩) hS (fun q _ h => hc_4F q h) hc_4F (fun u_6 r_5 t H locs ht hvm hw hB hz1 hk1 hS => ?_)
  obtain ⟨hP1, hD1⟩ := hB
  rw [ht] at hP1
  obtain ⟨hP, hD⟩ := va_join (wr := [(mm, .inr (9, [.ref b0, .ref b1, .ref b2, .ref b3, .int 0, .null, .null, .ref b4, .null, .ref b5, .ref b6, .int 0, .int 0, .long 0, .int 0])), (b0, .inr (10, [.int 0, .ref (g 4), .int 0])), (b1, .inr (10, [.int 0, .ref (g 4), .int 0])), (b2, .inr (10, [.int 0, .ref (g 4), .int 0]))]) (w1 := [(r_2, .inr (16, [.ref b3])), (b3, .inr (11, [.null, .ref r_2, .null, .null, .int 0, .int 0, .null, .null, .null])), (r_5, .inr (17, [.null, .null, .int 0, .ref b3]))]) hP hD [5, 4] [0, 1, 2, 3] rfl rfl (by decide) (by decide) hk1 hc_4F hP1 hD1
  have hP : va_P D classes [(mm, .inr (9, [.ref b0, .ref b1, .ref b2, .ref b3, .int 0, .null, .null, .ref b4, .null, .ref b5, .ref b6, .int 0, .int 0, .long 0, .int 0])), (b0, .inr (10, [.int 0, .ref (g 4), .int 0])), (b1, .inr (10, [.int 0, .ref (g 4), .int 0])), (b2, .inr (10, [.int 0, .ref (g 4), .int 0])), (r_2, .inr (16, [.ref b3])), (b3, .inr (11, [.null, .ref r_2, .null, .null, .int 0, .int 0, .null, .null, .null])), (r_5, .inr (17, [.null, .null, .int 0, .ref b3]))] H := hP
  have hD : va_D A [(mm, .inr (9, [.ref b0, .ref b1, .ref b2, .ref b3, .int 0, .null, .null, .ref b4, .null, .ref b5, .ref b6, .int 0, .int 0, .long 0, .int 0])), (b0, .inr (10, [.int 0, .ref (g 4), .int 0])), (b1, .inr (10, [.int 0, .ref (g 4), .int 0])), (b2, .inr (10, [.int 0, .ref (g 4), .int 0])), (r_2, .inr (16, [.ref b3])), (b3, .inr (11, [.null, .ref r_2, .null, .null, .int 0, .int 0, .null, .null, .null])), (r_5, .inr (17, [.null, .null, .int 0, .ref b3]))] := hD
  refine lv_astore_n (lv' := [(3, .ref r_5), (2, .int 0), (1, .int 0), (0, .ref mm)]) hx hb dX18_soldShare_16 rfl hl (by decide) rfl (fun ls hl => ?_)
  refine lv_aload_n hx hb dX18_soldShare_17 rfl (lv_at hl 0 rfl) ?_
  have hc_7 := hP.sub (ws' := [(r_5, .inr (17, [.null, .null, .int 0, .ref b3]))]) [6] rfl
  refine va_callFi (va_runF (hK.1 17 _ rfl).2 (As := []) (rest := []) ⟨hx, hb, hml, hown, hts⟩ (c_VIhasNext l z0 D g r_5 b3) (va_cwF 0 hts (lw_F m_1980 m_1990 m_1992 m_49 m_1994) rfl rfl rfl (hE.fw (i := 5) rfl) (by decide +kernel) ⟨(Nat.le_of_ble_eq_true rfl), (Nat.le_of_ble_eq_true rfl)⟩) ⟨PR.blind, va_recv hK hP (ci := 17) (q0 := 6) rfl rfl, PR.pre hE hS hAz hc_7⟩ rfl rfl hl.1 rfl (lv_room (Nat.le_of_ble_eq_true rfl)) dX18_soldShare_18 ⟨(Nat.le_of_ble_eq_true rfl), (Nat.le_of_ble_eq_true rfl)⟩) hS nA_B nA_A (fun r_8 u_9 t H locs ht hvm hw hB hz1 hk1 hS => ?_)
  have hP := hP.old hk1
  have hP : va_P D classes [(mm, .inr (9, [.ref b0, .ref b1, .ref b2, .ref b3, .int 0, .null, .null, .ref b4, .null, .ref b5, .ref b6, .int 0, .int 0, .long 0, .int 0])), (b0, .inr (10, [.int 0, .ref (g 4), .int 0])), (b1, .inr (10, [.int 0, .ref (g 4), .int 0])), (b2, .inr (10, [.int 0, .ref (g 4), .int 0])), (r_2, .inr (16, [.ref b3])), (b3, .inr (11, [.null, .ref r_2, .null, .null, .int 0, .int 0, .null, .null, .null])), (r_5, .inr (17, [.null, .null, .int 0, .ref b3]))] H := hP
  subst hw
  refine lv_if_eq (tgt := 80) hx hb dX18_soldShare_23 (by decide) (fun _ => ?_) (fun h9 => absurd (by decide) h9)
  refine lv_aload_n hx hb dX18_soldShare_80 rfl (lv_at hl 3 rfl) ?_
  refine lv_iload_n hx hb dX18_soldShare_81 rfl (lv_at hl 2 rfl) ?_
  refine lv_if_ne (tgt := 89) hx hb dX18_soldShare_82 (by decide) (fun h9 => absurd (by decide) h9) (fun _ => ?_)
  refine lv_iconst (v := 1) hx hb dX18_soldShare_85 (by decide) ?_
  refine lv_goto (tgt := 90) hx hb dX18_soldShare_86 (by decide) ?_
  refine va_put (D := D) (ci := 9) (v := .int 1) (ty := .int) (C := RX18) (T := TX18) (N := 15) hx hb hts i_X18 tyX18 tyX18_ok nmX18 hown hK hP hD hS 0 rfl rfl 14 (by decide) (hts _ m_1197) (fun _ h9 => h9) rfl (by decide +kernel) rfl rfl (Nat.le_of_ble_eq_true rfl) dX18_soldShare_90 (fun H locs hP hD hS => ?_)
  have hP : va_P D classes [(mm, .inr (9, [.ref b0, .ref b1, .ref b2, .ref b3, .int 0, .null, .null, .ref b4, .null, .ref b5, .ref b6, .int 0, .int 0, .long 0, .int 1])), (b0, .inr (10, [.int 0, .ref (g 4), .int 0])), (b1, .inr (10, [.int 0, .ref (g 4), .int 0])), (b2, .inr (10, [.int 0, .ref (g 4), .int 0])), (r_2, .inr (16, [.ref b3])), (b3, .inr (11, [.null, .ref r_2, .null, .null, .int 0, .int 0, .null, .null, .null])), (r_5, .inr (17, [.null, .null, .int 0, .ref b3]))] H := hP
  have hD : va_D A [(mm, .inr (9, [.ref b0, .ref b1, .ref b2, .ref b3, .int 0, .null, .null, .ref b4, .null, .ref b5, .ref b6, .int 0, .int 0, .long 0, .int 1])), (b0, .inr (10, [.int 0, .ref (g 4), .int 0])), (b1, .inr (10, [.int 0, .ref (g 4), .int 0])), (b2, .inr (10, [.int 0, .ref (g 4), .int 0])), (r_2, .inr (16, [.ref b3])), (b3, .inr (11, [.null, .ref r_2, .null, .null, .int 0, .int 0, .null, .null, .null])), (r_5, .inr (17, [.null, .null, .int 0, .ref b3]))] := hD
  refine lv_aload_n hx hb dX18_soldShare_93 rfl (lv_at hl 3 rfl) ?_
  refine va_get (D := D) (ci := 9) (v := .int 1) (C := RX18) (T := TX18) (N := 15) hx hb hts i_X18 hown hK hP 0 rfl rfl 14 (by decide) (hts _ m_1197) (fun _ h9 => h9) rfl dX18_soldShare_94 ?_
  refine lv_if_ne (tgt := 111) hx hb dX18_soldShare_97 (by decide) (fun _ => ?_) (fun h9 => absurd h9 (by decide))
  refine lv_fconst0 hx hb dX18_soldShare_111 ?_
  have hP9 := hP.sub (ws' := [(mm, .inr (9, [.ref b0, .ref b1, .ref b2, .ref b3, .int 0, .null, .null, .ref b4, .null, .ref b5, .ref b6, .int 0, .int 0, .long 0, .int 1]))]) [0] rfl
  have hD9 := hD.sub (ws' := [(mm, .inr (9, [.ref b0, .ref b1, .ref b2, .ref b3, .int 0, .null, .null, .ref b4, .null, .ref b5, .ref b6, .int 0, .int 0, .long 0, .int 1]))]) [0] (by decide) rfl
  refine W.widen (k := 2) (n := 5) (Nat.le_of_ble_eq_true rfl) (Nat.le_of_ble_eq_true rfl) ?_
  exact W.fret (v := 0) hx hb hr (fun t ht hW => ⟨⟨0, (), rfl, trivial, ⟨by rw [ht]; exact hP9, hD9⟩⟩, hS.F ht⟩) hS.2.2 dX18_soldShare_112

theorem r_f {x lo hi : Int32} {lo2 hi2 : Int64} (e1 : lo.toInt64 = lo2) (e2 : hi.toInt64 = hi2) (h : x < lo ∨ ¬ x ≤ hi) : x.toInt64 < lo2 ∨ hi2 < x.toInt64 := by
  rw [← e1, ← e2]
  rcases h with h | h
  · exact Or.inl (Int32.toInt64_lt.mpr h)
  · exact Or.inr (Int32.toInt64_lt.mpr (Int32.not_le.mp h))
theorem r_t1 {x lo : Int32} {lo2 : Int64} (e1 : lo.toInt64 = lo2) (h : ¬ x < lo) : lo2 ≤ x.toInt64 := by
  rw [← e1]
  exact Int32.toInt64_le.mpr (Int32.not_lt.mp h)
theorem r_t2 {x hi : Int32} {hi2 : Int64} (e2 : hi.toInt64 = hi2) (h : x ≤ hi) : x.toInt64 ≤ hi2 := by
  rw [← e2]
  exact Int32.toInt64_le.mpr h

set_option maxHeartbeats 4000000 in
set_option maxRecDepth 100000 in
theorem c_X18_pass_bad (l : Launch) (z0 : Nat) (D : va_G) (g : Nat → Nat) (sz : Nat) (mm b0 b1 b2 b3 b4 b5 b6 : Nat) (p0 : Int32) (h : p0 < 1 ∨ ¬ p0 ≤ 30) : Met l yX18_pass (wsp yX18_pass cX18_pass 6 (some .int)) ({ frames := 1, cells := 0, slots := 0, locals := 25 }) (va_Pc [.ref mm, .int p0] (PM z0 D g sz [(mm, .inr (9, [.ref b0, .ref b1, .ref b2, .ref b3, .int 0, .null, .null, .ref b4, .null, .ref b5, .ref b6, .int 0, .int 0, .long 0, .int 0])), (b0, .inr (10, [.int 0, .ref (g 4), .int 0])), (b1, .inr (10, [.int 0, .ref (g 4), .int 0])), (b2, .inr (10, [.int 0, .ref (g 4), .int 0])), (b3, .inr (11, [.null, .null, .null, .null, .int 0, .int 0, .null, .null, .null]))])) (va_Qi (fun (r : Int32) (_ : Unit) => True) (fun (_ : Unit) t => va_P D classes [(mm, .inr (9, [.ref b0, .ref b1, .ref b2, .ref b3, .int 0, .null, .null, .ref b4, .null, .ref b5, .ref b6, .int 0, .int 0, .long 0, .int 1]))] t.heap ∧ va_D (va_A [(mm, .inr (9, [.ref b0, .ref b1, .ref b2, .ref b3, .int 0, .null, .null, .ref b4, .null, .ref b5, .ref b6, .int 0, .int 0, .long 0, .int 0])), (b0, .inr (10, [.int 0, .ref (g 4), .int 0])), (b1, .inr (10, [.int 0, .ref (g 4), .int 0])), (b2, .inr (10, [.int 0, .ref (g 4), .int 0])), (b3, .inr (11, [.null, .null, .null, .null, .int 0, .int 0, .null, .null, .null]))] sz) [(mm, .inr (9, [.ref b0, .ref b1, .ref b2, .ref b3, .int 0, .null, .null, .ref b4, .null, .ref b5, .ref b6, .int 0, .int 0, .long 0, .int 1]))]) (va_A [(mm, .inr (9, [.ref b0, .ref b1, .ref b2, .ref b3, .int 0, .null, .null, .ref b4, .null, .ref b5, .ref b6, .int 0, .int 0, .long 0, .int 0])), (b0, .inr (10, [.int 0, .ref (g 4), .int 0])), (b1, .inr (10, [.int 0, .ref (g 4), .int 0])), (b2, .inr (10, [.int 0, .ref (g 4), .int 0])), (b3, .inr (11, [.null, .null, .null, .null, .int 0, .int 0, .null, .null, .null]))] sz)) 0 0 (va_A [(mm, .inr (9, [.ref b0, .ref b1, .ref b2, .ref b3, .int 0, .null, .null, .ref b4, .null, .ref b5, .ref b6, .int 0, .int 0, .long 0, .int 0])), (b0, .inr (10, [.int 0, .ref (g 4), .int 0])), (b1, .inr (10, [.int 0, .ref (g 4), .int 0])), (b2, .inr (10, [.int 0, .ref (g 4), .int 0])), (b3, .inr (11, [.null, .null, .null, .null, .int 0, .int 0, .null, .null, .null]))] sz) := by
  refine Met.ofW (cc := cX18_pass) (maxL := 6) (ret := (some .int)) (by decide) rfl ?_
  intro p e s m args below meth c s₁ B hml hv
  obtain ⟨rfl, hsz9, hz0, hE, hP, hD0⟩ := hv
  have hx := B.exec
  have hb := B.bytes
  have hr := B.returns
  have hts0 := atoms_spec (ws := (wsp yX18_pass cX18_pass 6 (some .int))) B.pre
  have hts : ∀ w ∈ lw_all, w.before _ s = true := fun w h => hts0 w (List.mem_cons_of_mem _ h)
  have hown : s.vm.findClass "TheatrehouseModel" = some m.cls := findClass_of_methodNamed B.named
  have hlocks := B.notSynchronized
  have hK := hE.K
  subst hsz9
  have hsz := hz0
  have hAz : ∀ q, va_A [(mm, .inr (9, [.ref b0, .ref b1, .ref b2, .ref b3, .int 0, .null, .null, .ref b4, .null, .ref b5, .ref b6, .int 0, .int 0, .long 0, .int 0])), (b0, .inr (10, [.int 0, .ref (g 4), .int 0])), (b1, .inr (10, [.int 0, .ref (g 4), .int 0])), (b2, .inr (10, [.int 0, .ref (g 4), .int 0])), (b3, .inr (11, [.null, .null, .null, .null, .int 0, .int 0, .null, .null, .null]))] s.heap.size q → z0 ≤ q := vaA_z hz0 hD0
  have hD := hD0.self (sz := s.heap.size)
  generalize hAe : va_A [(mm, .inr (9, [.ref b0, .ref b1, .ref b2, .ref b3, .int 0, .null, .null, .ref b4, .null, .ref b5, .ref b6, .int 0, .int 0, .long 0, .int 0])), (b0, .inr (10, [.int 0, .ref (g 4), .int 0])), (b1, .inr (10, [.int 0, .ref (g 4), .int 0])), (b2, .inr (10, [.int 0, .ref (g 4), .int 0])), (b3, .inr (11, [.null, .null, .null, .null, .int 0, .int 0, .null, .null, .null]))] s.heap.size = A at hD hAz ⊢
  have hA : ∀ q : Nat, s.heap.size ≤ q → A q := fun q h => by rw [← hAe]; exact Or.inr h
  have hS : va_S A s.heap s.heap [] := va_S.rf
  have hP : va_P D classes [(mm, .inr (9, [.ref b0, .ref b1, .ref b2, .ref b3, .int 0, .null, .null, .ref b4, .null, .ref b5, .ref b6, .int 0, .int 0, .long 0, .int 0])), (b0, .inr (10, [.int 0, .ref (g 4), .int 0])), (b1, .inr (10, [.int 0, .ref (g 4), .int 0])), (b2, .inr (10, [.int 0, .ref (g 4), .int 0])), (b3, .inr (11, [.null, .null, .null, .null, .int 0, .int 0, .null, .null, .null]))] s.heap := hP
  have hl := lv_entry ([.ref mm, .int p0]) (n := 6) (Nat.le_of_ble_eq_true rfl)
  rw [lg_entry_eq]
  generalize (lg_sl ([.ref mm, .int p0]) ++ List.replicate (6 - (lg_sl ([.ref mm, .int p0])).length) Slot.unset).toArray = ls at hl ⊢
  have hl : lv_has ls 6 [(0, .ref mm), (1, .int p0)] := hl
  refine lv_aload_n hx hb dX18_pass_0 rfl (lv_at hl 0 rfl) ?_
  refine lv_iload_n hx hb dX18_pass_1 rfl (lv_at hl 1 rfl) ?_
  refine lv_i2l (v := (Int32.toInt64 p0)) hx hb dX18_pass_2 rfl ?_
  refine lv_lconst (v := 1) hx hb dX18_pass_3 (by decide) ?_
  refine lv_ldc2 (v := 30) hx hb hown (hts _ m_1241) dX18_pass_4 ?_
  refine va_calli (va_runS (As := [.long (Int32.toInt64 p0), .long 1, .long 30]) (rest := [.ref mm]) ⟨hx, hb, hml, hown, hts⟩ (c_in_f l z0 D g (Int32.toInt64 p0) 1 30 (r_f (lo := 1) (hi := 30) (by decide) (by decide) h)) (va_cwS 3 hts (lw_S m_1238 m_1239 m_12 m_1240) rfl rfl rfl (by decide +kernel) ⟨(Nat.le_of_ble_eq_true rfl), (Nat.le_of_ble_eq_true rfl)⟩) ⟨fun _ _ _ _ h => h, fun U _ _ => ⟨rfl, trivial⟩⟩ rfl rfl hl.1 rfl (lv_room (Nat.le_of_ble_eq_true rfl)) dX18_pass_7 ⟨(Nat.le_of_ble_eq_true rfl), (Nat.le_of_ble_eq_true rfl)⟩) hS nA_B nA_A (fun r_2 u_3 t H locs ht hvm hw hB hz1 hk1 hS => ?_)
  have hP := hP.old hk1
  have hP : va_P D classes [(mm, .inr (9, [.ref b0, .ref b1, .ref b2, .ref b3, .int 0, .null, .null, .ref b4, .null, .ref b5, .ref b6, .int 0, .int 0, .long 0, .int 0])), (b0, .inr (10, [.int 0, .ref (g 4), .int 0])), (b1, .inr (10, [.int 0, .ref (g 4), .int 0])), (b2, .inr (10, [.int 0, .ref (g 4), .int 0])), (b3, .inr (11, [.null, .null, .null, .null, .int 0, .int 0, .null, .null, .null]))] H := hP
  subst hw
  refine lv_if_eq (tgt := 24) hx hb dX18_pass_10 (by decide) (fun _ => ?_) (fun h9 => absurd (by decide) h9)
  refine lv_iconst (v := 1) hx hb dX18_pass_24 (by decide) ?_
  refine lv_goto (tgt := 40) hx hb dX18_pass_25 (by decide) ?_
  refine va_put (D := D) (ci := 9) (v := .int 1) (ty := .int) (C := RX18) (T := TX18) (N := 15) hx hb hts i_X18 tyX18 tyX18_ok nmX18 hown hK hP hD hS 0 rfl rfl 14 (by decide) (hts _ m_1197) (fun _ h9 => h9) rfl (by decide +kernel) rfl rfl (Nat.le_of_ble_eq_true rfl) dX18_pass_40 (fun H locs hP hD hS => ?_)
  have hP : va_P D classes [(mm, .inr (9, [.ref b0, .ref b1, .ref b2, .ref b3, .int 0, .null, .null, .ref b4, .null, .ref b5, .ref b6, .int 0, .int 0, .long 0, .int 1])), (b0, .inr (10, [.int 0, .ref (g 4), .int 0])), (b1, .inr (10, [.int 0, .ref (g 4), .int 0])), (b2, .inr (10, [.int 0, .ref (g 4), .int 0])), (b3, .inr (11, [.null, .null, .null, .null, .int 0, .int 0, .null, .null, .null]))] H := hP
  have hD : va_D A [(mm, .inr (9, [.ref b0, .ref b1, .ref b2, .ref b3, .int 0, .null, .null, .ref b4, .null, .ref b5, .ref b6, .int 0, .int 0, .long 0, .int 1])), (b0, .inr (10, [.int 0, .ref (g 4), .int 0])), (b1, .inr (10, [.int 0, .ref (g 4), .int 0])), (b2, .inr (10, [.int 0, .ref (g 4), .int 0])), (b3, .inr (11, [.null, .null, .null, .null, .int 0, .int 0, .null, .null, .null]))] := hD
  refine lv_aload_n hx hb dX18_pass_43 rfl (lv_at hl 0 rfl) ?_
  refine va_get (D := D) (ci := 9) (v := .int 1) (C := RX18) (T := TX18) (N := 15) hx hb hts i_X18 hown hK hP 0 rfl rfl 14 (by decide) (hts _ m_1197) (fun _ h9 => h9) rfl dX18_pass_44 ?_
  refine lv_if_le (tgt := 52) hx hb dX18_pass_47 (by decide) (fun h9 => absurd h9 (by decide)) (fun _ => ?_)
  refine lv_iconst (v := (-1)) hx hb dX18_pass_50 (by decide) ?_
  have hP9 := hP.sub (ws' := [(mm, .inr (9, [.ref b0, .ref b1, .ref b2, .ref b3, .int 0, .null, .null, .ref b4, .null, .ref b5, .ref b6, .int 0, .int 0, .long 0, .int 1]))]) [0] rfl
  have hD9 := hD.sub (ws' := [(mm, .inr (9, [.ref b0, .ref b1, .ref b2, .ref b3, .int 0, .null, .null, .ref b4, .null, .ref b5, .ref b6, .int 0, .int 0, .long 0, .int 1]))]) [0] (by decide) rfl
  refine W.widen (k := 0) (n := 0) (Nat.le_of_ble_eq_true rfl) (Nat.le_of_ble_eq_true rfl) ?_
  exact W.iret (v := (-1)) hx hb hr (fun t ht hW => ⟨⟨(-1), (), rfl, trivial, ⟨by rw [ht]; exact hP9, hD9⟩⟩, hS.F ht⟩) hS.2.2 dX18_pass_51

set_option maxHeartbeats 4000000 in
set_option maxRecDepth 100000 in
theorem c_X18_addPerson_b1 (l : Launch) (z0 : Nat) (D : va_G) (g : Nat → Nat) (sz : Nat) (mm b0 b1 b2 b3 b4 b5 b6 : Nat) (p0 : Int32) (p1 : Int32) (h : p0 < 0 ∨ ¬ p0 ≤ 99) : Met l yX18_addPerson (wsp yX18_addPerson cX18_addPerson 3 (some .int)) ({ frames := 1, cells := 0, slots := 0, locals := 25 }) (va_Pc [.ref mm, .int p0, .int p1] (PM z0 D g sz [(mm, .inr (9, [.ref b0, .ref b1, .ref b2, .ref b3, .int 0, .null, .null, .ref b4, .null, .ref b5, .ref b6, .int 0, .int 0, .long 0, .int 0])), (b0, .inr (10, [.int 0, .ref (g 4), .int 0])), (b1, .inr (10, [.int 0, .ref (g 4), .int 0])), (b2, .inr (10, [.int 0, .ref (g 4), .int 0])), (b3, .inr (11, [.null, .null, .null, .null, .int 0, .int 0, .null, .null, .null]))])) (va_Qi (fun (r : Int32) (_ : Unit) => True) (fun (_ : Unit) t => va_P D classes [(mm, .inr (9, [.ref b0, .ref b1, .ref b2, .ref b3, .int 0, .null, .null, .ref b4, .null, .ref b5, .ref b6, .int 0, .int 0, .long 0, .int 1]))] t.heap ∧ va_D (va_A [(mm, .inr (9, [.ref b0, .ref b1, .ref b2, .ref b3, .int 0, .null, .null, .ref b4, .null, .ref b5, .ref b6, .int 0, .int 0, .long 0, .int 0])), (b0, .inr (10, [.int 0, .ref (g 4), .int 0])), (b1, .inr (10, [.int 0, .ref (g 4), .int 0])), (b2, .inr (10, [.int 0, .ref (g 4), .int 0])), (b3, .inr (11, [.null, .null, .null, .null, .int 0, .int 0, .null, .null, .null]))] sz) [(mm, .inr (9, [.ref b0, .ref b1, .ref b2, .ref b3, .int 0, .null, .null, .ref b4, .null, .ref b5, .ref b6, .int 0, .int 0, .long 0, .int 1]))]) (va_A [(mm, .inr (9, [.ref b0, .ref b1, .ref b2, .ref b3, .int 0, .null, .null, .ref b4, .null, .ref b5, .ref b6, .int 0, .int 0, .long 0, .int 0])), (b0, .inr (10, [.int 0, .ref (g 4), .int 0])), (b1, .inr (10, [.int 0, .ref (g 4), .int 0])), (b2, .inr (10, [.int 0, .ref (g 4), .int 0])), (b3, .inr (11, [.null, .null, .null, .null, .int 0, .int 0, .null, .null, .null]))] sz)) 0 0 (va_A [(mm, .inr (9, [.ref b0, .ref b1, .ref b2, .ref b3, .int 0, .null, .null, .ref b4, .null, .ref b5, .ref b6, .int 0, .int 0, .long 0, .int 0])), (b0, .inr (10, [.int 0, .ref (g 4), .int 0])), (b1, .inr (10, [.int 0, .ref (g 4), .int 0])), (b2, .inr (10, [.int 0, .ref (g 4), .int 0])), (b3, .inr (11, [.null, .null, .null, .null, .int 0, .int 0, .null, .null, .null]))] sz) := by
  refine Met.ofW (cc := cX18_addPerson) (maxL := 3) (ret := (some .int)) (by decide) rfl ?_
  intro p e s m args below meth c s₁ B hml hv
  obtain ⟨rfl, hsz9, hz0, hE, hP, hD0⟩ := hv
  have hx := B.exec
  have hb := B.bytes
  have hr := B.returns
  have hts0 := atoms_spec (ws := (wsp yX18_addPerson cX18_addPerson 3 (some .int))) B.pre
  have hts : ∀ w ∈ lw_all, w.before _ s = true := fun w h => hts0 w (List.mem_cons_of_mem _ h)
  have hown : s.vm.findClass "TheatrehouseModel" = some m.cls := findClass_of_methodNamed B.named
  have hlocks := B.notSynchronized
  have hK := hE.K
  subst hsz9
  have hsz := hz0
  have hAz : ∀ q, va_A [(mm, .inr (9, [.ref b0, .ref b1, .ref b2, .ref b3, .int 0, .null, .null, .ref b4, .null, .ref b5, .ref b6, .int 0, .int 0, .long 0, .int 0])), (b0, .inr (10, [.int 0, .ref (g 4), .int 0])), (b1, .inr (10, [.int 0, .ref (g 4), .int 0])), (b2, .inr (10, [.int 0, .ref (g 4), .int 0])), (b3, .inr (11, [.null, .null, .null, .null, .int 0, .int 0, .null, .null, .null]))] s.heap.size q → z0 ≤ q := vaA_z hz0 hD0
  have hD := hD0.self (sz := s.heap.size)
  generalize hAe : va_A [(mm, .inr (9, [.ref b0, .ref b1, .ref b2, .ref b3, .int 0, .null, .null, .ref b4, .null, .ref b5, .ref b6, .int 0, .int 0, .long 0, .int 0])), (b0, .inr (10, [.int 0, .ref (g 4), .int 0])), (b1, .inr (10, [.int 0, .ref (g 4), .int 0])), (b2, .inr (10, [.int 0, .ref (g 4), .int 0])), (b3, .inr (11, [.null, .null, .null, .null, .int 0, .int 0, .null, .null, .null]))] s.heap.size = A at hD hAz ⊢
  have hA : ∀ q : Nat, s.heap.size ≤ q → A q := fun q h => by rw [← hAe]; exact Or.inr h
  have hS : va_S A s.heap s.heap [] := va_S.rf
  have hP : va_P D classes [(mm, .inr (9, [.ref b0, .ref b1, .ref b2, .ref b3, .int 0, .null, .null, .ref b4, .null, .ref b5, .ref b6, .int 0, .int 0, .long 0, .int 0])), (b0, .inr (10, [.int 0, .ref (g 4), .int 0])), (b1, .inr (10, [.int 0, .ref (g 4), .int 0])), (b2, .inr (10, [.int 0, .ref (g 4), .int 0])), (b3, .inr (11, [.null, .null, .null, .null, .int 0, .int 0, .null, .null, .null]))] s.heap := hP
  have hl := lv_entry ([.ref mm, .int p0, .int p1]) (n := 3) (Nat.le_of_ble_eq_true rfl)
  rw [lg_entry_eq]
  generalize (lg_sl ([.ref mm, .int p0, .int p1]) ++ List.replicate (3 - (lg_sl ([.ref mm, .int p0, .int p1])).length) Slot.unset).toArray = ls at hl ⊢
  have hl : lv_has ls 3 [(0, .ref mm), (1, .int p0), (2, .int p1)] := hl
  refine lv_aload_n hx hb dX18_addPerson_0 rfl (lv_at hl 0 rfl) ?_
  refine lv_iload_n hx hb dX18_addPerson_1 rfl (lv_at hl 1 rfl) ?_
  refine lv_i2l (v := (Int32.toInt64 p0)) hx hb dX18_addPerson_2 rfl ?_
  refine lv_lconst (v := 0) hx hb dX18_addPerson_3 (by decide) ?_
  refine lv_ldc2 (v := 99) hx hb hown (hts _ m_1237) dX18_addPerson_4 ?_
  refine va_calli (va_runS (As := [.long (Int32.toInt64 p0), .long 0, .long 99]) (rest := [.ref mm]) ⟨hx, hb, hml, hown, hts⟩ (c_in_f l z0 D g (Int32.toInt64 p0) 0 99 (r_f (lo := 0) (hi := 99) (by decide) (by decide) h)) (va_cwS 3 hts (lw_S m_1238 m_1239 m_12 m_1240) rfl rfl rfl (by decide +kernel) ⟨(Nat.le_of_ble_eq_true rfl), (Nat.le_of_ble_eq_true rfl)⟩) ⟨fun _ _ _ _ h => h, fun U _ _ => ⟨rfl, trivial⟩⟩ rfl rfl hl.1 rfl (lv_room (Nat.le_of_ble_eq_true rfl)) dX18_addPerson_7 ⟨(Nat.le_of_ble_eq_true rfl), (Nat.le_of_ble_eq_true rfl)⟩) hS nA_B nA_A (fun r_2 u_3 t H locs ht hvm hw hB hz1 hk1 hS => ?_)
  have hP := hP.old hk1
  have hP : va_P D classes [(mm, .inr (9, [.ref b0, .ref b1, .ref b2, .ref b3, .int 0, .null, .null, .ref b4, .null, .ref b5, .ref b6, .int 0, .int 0, .long 0, .int 0])), (b0, .inr (10, [.int 0, .ref (g 4), .int 0])), (b1, .inr (10, [.int 0, .ref (g 4), .int 0])), (b2, .inr (10, [.int 0, .ref (g 4), .int 0])), (b3, .inr (11, [.null, .null, .null, .null, .int 0, .int 0, .null, .null, .null]))] H := hP
  subst hw
  refine lv_if_eq (tgt := 25) hx hb dX18_addPerson_10 (by decide) (fun _ => ?_) (fun h9 => absurd (by decide) h9)
  refine lv_iconst (v := 1) hx hb dX18_addPerson_25 (by decide) ?_
  refine lv_goto (tgt := 55) hx hb dX18_addPerson_26 (by decide) ?_
  refine va_put (D := D) (ci := 9) (v := .int 1) (ty := .int) (C := RX18) (T := TX18) (N := 15) hx hb hts i_X18 tyX18 tyX18_ok nmX18 hown hK hP hD hS 0 rfl rfl 14 (by decide) (hts _ m_1197) (fun _ h9 => h9) rfl (by decide +kernel) rfl rfl (Nat.le_of_ble_eq_true rfl) dX18_addPerson_55 (fun H locs hP hD hS => ?_)
  have hP : va_P D classes [(mm, .inr (9, [.ref b0, .ref b1, .ref b2, .ref b3, .int 0, .null, .null, .ref b4, .null, .ref b5, .ref b6, .int 0, .int 0, .long 0, .int 1])), (b0, .inr (10, [.int 0, .ref (g 4), .int 0])), (b1, .inr (10, [.int 0, .ref (g 4), .int 0])), (b2, .inr (10, [.int 0, .ref (g 4), .int 0])), (b3, .inr (11, [.null, .null, .null, .null, .int 0, .int 0, .null, .null, .null]))] H := hP
  have hD : va_D A [(mm, .inr (9, [.ref b0, .ref b1, .ref b2, .ref b3, .int 0, .null, .null, .ref b4, .null, .ref b5, .ref b6, .int 0, .int 0, .long 0, .int 1])), (b0, .inr (10, [.int 0, .ref (g 4), .int 0])), (b1, .inr (10, [.int 0, .ref (g 4), .int 0])), (b2, .inr (10, [.int 0, .ref (g 4), .int 0])), (b3, .inr (11, [.null, .null, .null, .null, .int 0, .int 0, .null, .null, .null]))] := hD
  refine lv_aload_n hx hb dX18_addPerson_58 rfl (lv_at hl 0 rfl) ?_
  refine va_get (D := D) (ci := 9) (v := .int 1) (C := RX18) (T := TX18) (N := 15) hx hb hts i_X18 hown hK hP 0 rfl rfl 14 (by decide) (hts _ m_1197) (fun _ h9 => h9) rfl dX18_addPerson_59 ?_
  refine lv_if_le (tgt := 67) hx hb dX18_addPerson_62 (by decide) (fun h9 => absurd h9 (by decide)) (fun _ => ?_)
  refine lv_iconst (v := (-1)) hx hb dX18_addPerson_65 (by decide) ?_
  have hP9 := hP.sub (ws' := [(mm, .inr (9, [.ref b0, .ref b1, .ref b2, .ref b3, .int 0, .null, .null, .ref b4, .null, .ref b5, .ref b6, .int 0, .int 0, .long 0, .int 1]))]) [0] rfl
  have hD9 := hD.sub (ws' := [(mm, .inr (9, [.ref b0, .ref b1, .ref b2, .ref b3, .int 0, .null, .null, .ref b4, .null, .ref b5, .ref b6, .int 0, .int 0, .long 0, .int 1]))]) [0] (by decide) rfl
  refine W.widen (k := 0) (n := 0) (Nat.le_of_ble_eq_true rfl) (Nat.le_of_ble_eq_true rfl) ?_
  exact W.iret (v := (-1)) hx hb hr (fun t ht hW => ⟨⟨(-1), (), rfl, trivial, ⟨by rw [ht]; exact hP9, hD9⟩⟩, hS.F ht⟩) hS.2.2 dX18_addPerson_66

set_option maxHeartbeats 4000000 in
set_option maxRecDepth 100000 in
theorem c_X18_addPerson_b2 (l : Launch) (z0 : Nat) (D : va_G) (g : Nat → Nat) (sz : Nat) (mm b0 b1 b2 b3 b4 b5 b6 : Nat) (p0 : Int32) (p1 : Int32) (h1 : ¬ p0 < 0) (h2 : p0 ≤ 99) (h : p1 < 1 ∨ ¬ p1 ≤ 30) : Met l yX18_addPerson (wsp yX18_addPerson cX18_addPerson 3 (some .int)) ({ frames := 1, cells := 0, slots := 0, locals := 25 }) (va_Pc [.ref mm, .int p0, .int p1] (PM z0 D g sz [(mm, .inr (9, [.ref b0, .ref b1, .ref b2, .ref b3, .int 0, .null, .null, .ref b4, .null, .ref b5, .ref b6, .int 0, .int 0, .long 0, .int 0])), (b0, .inr (10, [.int 0, .ref (g 4), .int 0])), (b1, .inr (10, [.int 0, .ref (g 4), .int 0])), (b2, .inr (10, [.int 0, .ref (g 4), .int 0])), (b3, .inr (11, [.null, .null, .null, .null, .int 0, .int 0, .null, .null, .null]))])) (va_Qi (fun (r : Int32) (_ : Unit) => True) (fun (_ : Unit) t => va_P D classes [(mm, .inr (9, [.ref b0, .ref b1, .ref b2, .ref b3, .int 0, .null, .null, .ref b4, .null, .ref b5, .ref b6, .int 0, .int 0, .long 0, .int 1]))] t.heap ∧ va_D (va_A [(mm, .inr (9, [.ref b0, .ref b1, .ref b2, .ref b3, .int 0, .null, .null, .ref b4, .null, .ref b5, .ref b6, .int 0, .int 0, .long 0, .int 0])), (b0, .inr (10, [.int 0, .ref (g 4), .int 0])), (b1, .inr (10, [.int 0, .ref (g 4), .int 0])), (b2, .inr (10, [.int 0, .ref (g 4), .int 0])), (b3, .inr (11, [.null, .null, .null, .null, .int 0, .int 0, .null, .null, .null]))] sz) [(mm, .inr (9, [.ref b0, .ref b1, .ref b2, .ref b3, .int 0, .null, .null, .ref b4, .null, .ref b5, .ref b6, .int 0, .int 0, .long 0, .int 1]))]) (va_A [(mm, .inr (9, [.ref b0, .ref b1, .ref b2, .ref b3, .int 0, .null, .null, .ref b4, .null, .ref b5, .ref b6, .int 0, .int 0, .long 0, .int 0])), (b0, .inr (10, [.int 0, .ref (g 4), .int 0])), (b1, .inr (10, [.int 0, .ref (g 4), .int 0])), (b2, .inr (10, [.int 0, .ref (g 4), .int 0])), (b3, .inr (11, [.null, .null, .null, .null, .int 0, .int 0, .null, .null, .null]))] sz)) 0 0 (va_A [(mm, .inr (9, [.ref b0, .ref b1, .ref b2, .ref b3, .int 0, .null, .null, .ref b4, .null, .ref b5, .ref b6, .int 0, .int 0, .long 0, .int 0])), (b0, .inr (10, [.int 0, .ref (g 4), .int 0])), (b1, .inr (10, [.int 0, .ref (g 4), .int 0])), (b2, .inr (10, [.int 0, .ref (g 4), .int 0])), (b3, .inr (11, [.null, .null, .null, .null, .int 0, .int 0, .null, .null, .null]))] sz) := by
  refine Met.ofW (cc := cX18_addPerson) (maxL := 3) (ret := (some .int)) (by decide) rfl ?_
  intro p e s m args below meth c s₁ B hml hv
  obtain ⟨rfl, hsz9, hz0, hE, hP, hD0⟩ := hv
  have hx := B.exec
  have hb := B.bytes
  have hr := B.returns
  have hts0 := atoms_spec (ws := (wsp yX18_addPerson cX18_addPerson 3 (some .int))) B.pre
  have hts : ∀ w ∈ lw_all, w.before _ s = true := fun w h => hts0 w (List.mem_cons_of_mem _ h)
  have hown : s.vm.findClass "TheatrehouseModel" = some m.cls := findClass_of_methodNamed B.named
  have hlocks := B.notSynchronized
  have hK := hE.K
  subst hsz9
  have hsz := hz0
  have hAz : ∀ q, va_A [(mm, .inr (9, [.ref b0, .ref b1, .ref b2, .ref b3, .int 0, .null, .null, .ref b4, .null, .ref b5, .ref b6, .int 0, .int 0, .long 0, .int 0])), (b0, .inr (10, [.int 0, .ref (g 4), .int 0])), (b1, .inr (10, [.int 0, .ref (g 4), .int 0])), (b2, .inr (10, [.int 0, .ref (g 4), .int 0])), (b3, .inr (11, [.null, .null, .null, .null, .int 0, .int 0, .null, .null, .null]))] s.heap.size q → z0 ≤ q := vaA_z hz0 hD0
  have hD := hD0.self (sz := s.heap.size)
  generalize hAe : va_A [(mm, .inr (9, [.ref b0, .ref b1, .ref b2, .ref b3, .int 0, .null, .null, .ref b4, .null, .ref b5, .ref b6, .int 0, .int 0, .long 0, .int 0])), (b0, .inr (10, [.int 0, .ref (g 4), .int 0])), (b1, .inr (10, [.int 0, .ref (g 4), .int 0])), (b2, .inr (10, [.int 0, .ref (g 4), .int 0])), (b3, .inr (11, [.null, .null, .null, .null, .int 0, .int 0, .null, .null, .null]))] s.heap.size = A at hD hAz ⊢
  have hA : ∀ q : Nat, s.heap.size ≤ q → A q := fun q h => by rw [← hAe]; exact Or.inr h
  have hS : va_S A s.heap s.heap [] := va_S.rf
  have hP : va_P D classes [(mm, .inr (9, [.ref b0, .ref b1, .ref b2, .ref b3, .int 0, .null, .null, .ref b4, .null, .ref b5, .ref b6, .int 0, .int 0, .long 0, .int 0])), (b0, .inr (10, [.int 0, .ref (g 4), .int 0])), (b1, .inr (10, [.int 0, .ref (g 4), .int 0])), (b2, .inr (10, [.int 0, .ref (g 4), .int 0])), (b3, .inr (11, [.null, .null, .null, .null, .int 0, .int 0, .null, .null, .null]))] s.heap := hP
  have hl := lv_entry ([.ref mm, .int p0, .int p1]) (n := 3) (Nat.le_of_ble_eq_true rfl)
  rw [lg_entry_eq]
  generalize (lg_sl ([.ref mm, .int p0, .int p1]) ++ List.replicate (3 - (lg_sl ([.ref mm, .int p0, .int p1])).length) Slot.unset).toArray = ls at hl ⊢
  have hl : lv_has ls 3 [(0, .ref mm), (1, .int p0), (2, .int p1)] := hl
  refine lv_aload_n hx hb dX18_addPerson_0 rfl (lv_at hl 0 rfl) ?_
  refine lv_iload_n hx hb dX18_addPerson_1 rfl (lv_at hl 1 rfl) ?_
  refine lv_i2l (v := (Int32.toInt64 p0)) hx hb dX18_addPerson_2 rfl ?_
  refine lv_lconst (v := 0) hx hb dX18_addPerson_3 (by decide) ?_
  refine lv_ldc2 (v := 99) hx hb hown (hts _ m_1237) dX18_addPerson_4 ?_
  refine va_calli (va_runS (As := [.long (Int32.toInt64 p0), .long 0, .long 99]) (rest := [.ref mm]) ⟨hx, hb, hml, hown, hts⟩ (c_in_t l z0 D g (Int32.toInt64 p0) 0 99 (r_t1 (lo := 0) (by decide) h1) (r_t2 (hi := 99) (by decide) h2)) (va_cwS 3 hts (lw_S m_1238 m_1239 m_12 m_1240) rfl rfl rfl (by decide +kernel) ⟨(Nat.le_of_ble_eq_true rfl), (Nat.le_of_ble_eq_true rfl)⟩) ⟨fun _ _ _ _ h => h, fun U _ _ => ⟨rfl, trivial⟩⟩ rfl rfl hl.1 rfl (lv_room (Nat.le_of_ble_eq_true rfl)) dX18_addPerson_7 ⟨(Nat.le_of_ble_eq_true rfl), (Nat.le_of_ble_eq_true rfl)⟩) hS nA_B nA_A (fun r_2 u_3 t H locs ht hvm hw hB hz1 hk1 hS => ?_)
  have hP := hP.old hk1
  have hP : va_P D classes [(mm, .inr (9, [.ref b0, .ref b1, .ref b2, .ref b3, .int 0, .null, .null, .ref b4, .null, .ref b5, .ref b6, .int 0, .int 0, .long 0, .int 0])), (b0, .inr (10, [.int 0, .ref (g 4), .int 0])), (b1, .inr (10, [.int 0, .ref (g 4), .int 0])), (b2, .inr (10, [.int 0, .ref (g 4), .int 0])), (b3, .inr (11, [.null, .null, .null, .null, .int 0, .int 0, .null, .null, .null]))] H := hP
  subst hw
  refine lv_if_eq (tgt := 25) hx hb dX18_addPerson_10 (by decide) (fun h9 => absurd h9 (by decide)) (fun _ => ?_)
  refine lv_iload_n hx hb dX18_addPerson_13 rfl (lv_at hl 2 rfl) ?_
  refine lv_i2l (v := (Int32.toInt64 p1)) hx hb dX18_addPerson_14 rfl ?_
  refine lv_lconst (v := 1) hx hb dX18_addPerson_15 (by decide) ?_
  refine lv_ldc2 (v := 30) hx hb hown (hts _ m_1241) dX18_addPerson_16 ?_
  refine va_calli (va_runS (As := [.long (Int32.toInt64 p1), .long 1, .long 30]) (rest := [.ref mm]) ⟨hx, hb, hml, hown, hts⟩ (c_in_f l z0 D g (Int32.toInt64 p1) 1 30 (r_f (lo := 1) (hi := 30) (by decide) (by decide) h)) (va_cwS 3 hts (lw_S m_1238 m_1239 m_12 m_1240) rfl rfl rfl (by decide +kernel) ⟨(Nat.le_of_ble_eq_true rfl), (Nat.le_of_ble_eq_true rfl)⟩) ⟨fun _ _ _ _ h => h, fun U _ _ => ⟨rfl, trivial⟩⟩ rfl rfl hl.1 rfl (lv_room (Nat.le_of_ble_eq_true rfl)) dX18_addPerson_19 ⟨(Nat.le_of_ble_eq_true rfl), (Nat.le_of_ble_eq_true rfl)⟩) hS nA_B nA_A (fun r_5 u_6 t H locs ht hvm hw hB hz1 hk1 hS => ?_)
  have hP := hP.old hk1
  have hP : va_P D classes [(mm, .inr (9, [.ref b0, .ref b1, .ref b2, .ref b3, .int 0, .null, .null, .ref b4, .null, .ref b5, .ref b6, .int 0, .int 0, .long 0, .int 0])), (b0, .inr (10, [.int 0, .ref (g 4), .int 0])), (b1, .inr (10, [.int 0, .ref (g 4), .int 0])), (b2, .inr (10, [.int 0, .ref (g 4), .int 0])), (b3, .inr (11, [.null, .null, .null, .null, .int 0, .int 0, .null, .null, .null]))] H := hP
  subst hw
  refine lv_if_ne (tgt := 29) hx hb dX18_addPerson_22 (by decide) (fun h9 => absurd (by decide) h9) (fun _ => ?_)
  refine lv_iconst (v := 1) hx hb dX18_addPerson_25 (by decide) ?_
  refine lv_goto (tgt := 55) hx hb dX18_addPerson_26 (by decide) ?_
  refine va_put (D := D) (ci := 9) (v := .int 1) (ty := .int) (C := RX18) (T := TX18) (N := 15) hx hb hts i_X18 tyX18 tyX18_ok nmX18 hown hK hP hD hS 0 rfl rfl 14 (by decide) (hts _ m_1197) (fun _ h9 => h9) rfl (by decide +kernel) rfl rfl (Nat.le_of_ble_eq_true rfl) dX18_addPerson_55 (fun H locs hP hD hS => ?_)
  have hP : va_P D classes [(mm, .inr (9, [.ref b0, .ref b1, .ref b2, .ref b3, .int 0, .null, .null, .ref b4, .null, .ref b5, .ref b6, .int 0, .int 0, .long 0, .int 1])), (b0, .inr (10, [.int 0, .ref (g 4), .int 0])), (b1, .inr (10, [.int 0, .ref (g 4), .int 0])), (b2, .inr (10, [.int 0, .ref (g 4), .int 0])), (b3, .inr (11, [.null, .null, .null, .null, .int 0, .int 0, .null, .null, .null]))] H := hP
  have hD : va_D A [(mm, .inr (9, [.ref b0, .ref b1, .ref b2, .ref b3, .int 0, .null, .null, .ref b4, .null, .ref b5, .ref b6, .int 0, .int 0, .long 0, .int 1])), (b0, .inr (10, [.int 0, .ref (g 4), .int 0])), (b1, .inr (10, [.int 0, .ref (g 4), .int 0])), (b2, .inr (10, [.int 0, .ref (g 4), .int 0])), (b3, .inr (11, [.null, .null, .null, .null, .int 0, .int 0, .null, .null, .null]))] := hD
  refine lv_aload_n hx hb dX18_addPerson_58 rfl (lv_at hl 0 rfl) ?_
  refine va_get (D := D) (ci := 9) (v := .int 1) (C := RX18) (T := TX18) (N := 15) hx hb hts i_X18 hown hK hP 0 rfl rfl 14 (by decide) (hts _ m_1197) (fun _ h9 => h9) rfl dX18_addPerson_59 ?_
  refine lv_if_le (tgt := 67) hx hb dX18_addPerson_62 (by decide) (fun h9 => absurd h9 (by decide)) (fun _ => ?_)
  refine lv_iconst (v := (-1)) hx hb dX18_addPerson_65 (by decide) ?_
  have hP9 := hP.sub (ws' := [(mm, .inr (9, [.ref b0, .ref b1, .ref b2, .ref b3, .int 0, .null, .null, .ref b4, .null, .ref b5, .ref b6, .int 0, .int 0, .long 0, .int 1]))]) [0] rfl
  have hD9 := hD.sub (ws' := [(mm, .inr (9, [.ref b0, .ref b1, .ref b2, .ref b3, .int 0, .null, .null, .ref b4, .null, .ref b5, .ref b6, .int 0, .int 0, .long 0, .int 1]))]) [0] (by decide) rfl
  refine W.widen (k := 0) (n := 0) (Nat.le_of_ble_eq_true rfl) (Nat.le_of_ble_eq_true rfl) ?_
  exact W.iret (v := (-1)) hx hb hr (fun t ht hW => ⟨⟨(-1), (), rfl, trivial, ⟨by rw [ht]; exact hP9, hD9⟩⟩, hS.F ht⟩) hS.2.2 dX18_addPerson_66

set_option maxHeartbeats 4000000 in
set_option maxRecDepth 100000 in
theorem c_X18_addMachine_b1 (l : Launch) (z0 : Nat) (D : va_G) (g : Nat → Nat) (sz : Nat) (mm b0 b1 b2 b3 b4 b5 b6 : Nat) (p0 : Int32) (p1 : Int32) (h : p0 < 0 ∨ ¬ p0 ≤ 4) : Met l yX18_addMachine (wsp yX18_addMachine cX18_addMachine 3 (some .int)) ({ frames := 1, cells := 0, slots := 0, locals := 25 }) (va_Pc [.ref mm, .int p0, .int p1] (PM z0 D g sz [(mm, .inr (9, [.ref b0, .ref b1, .ref b2, .ref b3, .int 0, .null, .null, .ref b4, .null, .ref b5, .ref b6, .int 0, .int 0, .long 0, .int 0])), (b0, .inr (10, [.int 0, .ref (g 4), .int 0])), (b1, .inr (10, [.int 0, .ref (g 4), .int 0])), (b2, .inr (10, [.int 0, .ref (g 4), .int 0])), (b3, .inr (11, [.null, .null, .null, .null, .int 0, .int 0, .null, .null, .null]))])) (va_Qi (fun (r : Int32) (_ : Unit) => True) (fun (_ : Unit) t => va_P D classes [(mm, .inr (9, [.ref b0, .ref b1, .ref b2, .ref b3, .int 0, .null, .null, .ref b4, .null, .ref b5, .ref b6, .int 0, .int 0, .long 0, .int 1]))] t.heap ∧ va_D (va_A [(mm, .inr (9, [.ref b0, .ref b1, .ref b2, .ref b3, .int 0, .null, .null, .ref b4, .null, .ref b5, .ref b6, .int 0, .int 0, .long 0, .int 0])), (b0, .inr (10, [.int 0, .ref (g 4), .int 0])), (b1, .inr (10, [.int 0, .ref (g 4), .int 0])), (b2, .inr (10, [.int 0, .ref (g 4), .int 0])), (b3, .inr (11, [.null, .null, .null, .null, .int 0, .int 0, .null, .null, .null]))] sz) [(mm, .inr (9, [.ref b0, .ref b1, .ref b2, .ref b3, .int 0, .null, .null, .ref b4, .null, .ref b5, .ref b6, .int 0, .int 0, .long 0, .int 1]))]) (va_A [(mm, .inr (9, [.ref b0, .ref b1, .ref b2, .ref b3, .int 0, .null, .null, .ref b4, .null, .ref b5, .ref b6, .int 0, .int 0, .long 0, .int 0])), (b0, .inr (10, [.int 0, .ref (g 4), .int 0])), (b1, .inr (10, [.int 0, .ref (g 4), .int 0])), (b2, .inr (10, [.int 0, .ref (g 4), .int 0])), (b3, .inr (11, [.null, .null, .null, .null, .int 0, .int 0, .null, .null, .null]))] sz)) 0 0 (va_A [(mm, .inr (9, [.ref b0, .ref b1, .ref b2, .ref b3, .int 0, .null, .null, .ref b4, .null, .ref b5, .ref b6, .int 0, .int 0, .long 0, .int 0])), (b0, .inr (10, [.int 0, .ref (g 4), .int 0])), (b1, .inr (10, [.int 0, .ref (g 4), .int 0])), (b2, .inr (10, [.int 0, .ref (g 4), .int 0])), (b3, .inr (11, [.null, .null, .null, .null, .int 0, .int 0, .null, .null, .null]))] sz) := by
  refine Met.ofW (cc := cX18_addMachine) (maxL := 3) (ret := (some .int)) (by decide) rfl ?_
  intro p e s m args below meth c s₁ B hml hv
  obtain ⟨rfl, hsz9, hz0, hE, hP, hD0⟩ := hv
  have hx := B.exec
  have hb := B.bytes
  have hr := B.returns
  have hts0 := atoms_spec (ws := (wsp yX18_addMachine cX18_addMachine 3 (some .int))) B.pre
  have hts : ∀ w ∈ lw_all, w.before _ s = true := fun w h => hts0 w (List.mem_cons_of_mem _ h)
  have hown : s.vm.findClass "TheatrehouseModel" = some m.cls := findClass_of_methodNamed B.named
  have hlocks := B.notSynchronized
  have hK := hE.K
  subst hsz9
  have hsz := hz0
  have hAz : ∀ q, va_A [(mm, .inr (9, [.ref b0, .ref b1, .ref b2, .ref b3, .int 0, .null, .null, .ref b4, .null, .ref b5, .ref b6, .int 0, .int 0, .long 0, .int 0])), (b0, .inr (10, [.int 0, .ref (g 4), .int 0])), (b1, .inr (10, [.int 0, .ref (g 4), .int 0])), (b2, .inr (10, [.int 0, .ref (g 4), .int 0])), (b3, .inr (11, [.null, .null, .null, .null, .int 0, .int 0, .null, .null, .null]))] s.heap.size q → z0 ≤ q := vaA_z hz0 hD0
  have hD := hD0.self (sz := s.heap.size)
  generalize hAe : va_A [(mm, .inr (9, [.ref b0, .ref b1, .ref b2, .ref b3, .int 0, .null, .null, .ref b4, .null, .ref b5, .ref b6, .int 0, .int 0, .long 0, .int 0])), (b0, .inr (10, [.int 0, .ref (g 4), .int 0])), (b1, .inr (10, [.int 0, .ref (g 4), .int 0])), (b2, .inr (10, [.int 0, .ref (g 4), .int 0])), (b3, .inr (11, [.null, .null, .null, .null, .int 0, .int 0, .null, .null, .null]))] s.heap.size = A at hD hAz ⊢
  have hA : ∀ q : Nat, s.heap.size ≤ q → A q := fun q h => by rw [← hAe]; exact Or.inr h
  have hS : va_S A s.heap s.heap [] := va_S.rf
  have hP : va_P D classes [(mm, .inr (9, [.ref b0, .ref b1, .ref b2, .ref b3, .int 0, .null, .null, .ref b4, .null, .ref b5, .ref b6, .int 0, .int 0, .long 0, .int 0])), (b0, .inr (10, [.int 0, .ref (g 4), .int 0])), (b1, .inr (10, [.int 0, .ref (g 4), .int 0])), (b2, .inr (10, [.int 0, .ref (g 4), .int 0])), (b3, .inr (11, [.null, .null, .null, .null, .int 0, .int 0, .null, .null, .null]))] s.heap := hP
  have hl := lv_entry ([.ref mm, .int p0, .int p1]) (n := 3) (Nat.le_of_ble_eq_true rfl)
  rw [lg_entry_eq]
  generalize (lg_sl ([.ref mm, .int p0, .int p1]) ++ List.replicate (3 - (lg_sl ([.ref mm, .int p0, .int p1])).length) Slot.unset).toArray = ls at hl ⊢
  have hl : lv_has ls 3 [(0, .ref mm), (1, .int p0), (2, .int p1)] := hl
  refine lv_aload_n hx hb dX18_addMachine_0 rfl (lv_at hl 0 rfl) ?_
  refine lv_iload_n hx hb dX18_addMachine_1 rfl (lv_at hl 1 rfl) ?_
  refine lv_i2l (v := (Int32.toInt64 p0)) hx hb dX18_addMachine_2 rfl ?_
  refine lv_lconst (v := 0) hx hb dX18_addMachine_3 (by decide) ?_
  refine lv_ldc2 (v := 4) hx hb hown (hts _ m_1402) dX18_addMachine_4 ?_
  refine va_calli (va_runS (As := [.long (Int32.toInt64 p0), .long 0, .long 4]) (rest := [.ref mm]) ⟨hx, hb, hml, hown, hts⟩ (c_in_f l z0 D g (Int32.toInt64 p0) 0 4 (r_f (lo := 0) (hi := 4) (by decide) (by decide) h)) (va_cwS 3 hts (lw_S m_1238 m_1239 m_12 m_1240) rfl rfl rfl (by decide +kernel) ⟨(Nat.le_of_ble_eq_true rfl), (Nat.le_of_ble_eq_true rfl)⟩) ⟨fun _ _ _ _ h => h, fun U _ _ => ⟨rfl, trivial⟩⟩ rfl rfl hl.1 rfl (lv_room (Nat.le_of_ble_eq_true rfl)) dX18_addMachine_7 ⟨(Nat.le_of_ble_eq_true rfl), (Nat.le_of_ble_eq_true rfl)⟩) hS nA_B nA_A (fun r_2 u_3 t H locs ht hvm hw hB hz1 hk1 hS => ?_)
  have hP := hP.old hk1
  have hP : va_P D classes [(mm, .inr (9, [.ref b0, .ref b1, .ref b2, .ref b3, .int 0, .null, .null, .ref b4, .null, .ref b5, .ref b6, .int 0, .int 0, .long 0, .int 0])), (b0, .inr (10, [.int 0, .ref (g 4), .int 0])), (b1, .inr (10, [.int 0, .ref (g 4), .int 0])), (b2, .inr (10, [.int 0, .ref (g 4), .int 0])), (b3, .inr (11, [.null, .null, .null, .null, .int 0, .int 0, .null, .null, .null]))] H := hP
  subst hw
  refine lv_if_eq (tgt := 25) hx hb dX18_addMachine_10 (by decide) (fun _ => ?_) (fun h9 => absurd (by decide) h9)
  refine lv_iconst (v := 1) hx hb dX18_addMachine_25 (by decide) ?_
  refine lv_goto (tgt := 55) hx hb dX18_addMachine_26 (by decide) ?_
  refine va_put (D := D) (ci := 9) (v := .int 1) (ty := .int) (C := RX18) (T := TX18) (N := 15) hx hb hts i_X18 tyX18 tyX18_ok nmX18 hown hK hP hD hS 0 rfl rfl 14 (by decide) (hts _ m_1197) (fun _ h9 => h9) rfl (by decide +kernel) rfl rfl (Nat.le_of_ble_eq_true rfl) dX18_addMachine_55 (fun H locs hP hD hS => ?_)
  have hP : va_P D classes [(mm, .inr (9, [.ref b0, .ref b1, .ref b2, .ref b3, .int 0, .null, .null, .ref b4, .null, .ref b5, .ref b6, .int 0, .int 0, .long 0, .int 1])), (b0, .inr (10, [.int 0, .ref (g 4), .int 0])), (b1, .inr (10, [.int 0, .ref (g 4), .int 0])), (b2, .inr (10, [.int 0, .ref (g 4), .int 0])), (b3, .inr (11, [.null, .null, .null, .null, .int 0, .int 0, .null, .null, .null]))] H := hP
  have hD : va_D A [(mm, .inr (9, [.ref b0, .ref b1, .ref b2, .ref b3, .int 0, .null, .null, .ref b4, .null, .ref b5, .ref b6, .int 0, .int 0, .long 0, .int 1])), (b0, .inr (10, [.int 0, .ref (g 4), .int 0])), (b1, .inr (10, [.int 0, .ref (g 4), .int 0])), (b2, .inr (10, [.int 0, .ref (g 4), .int 0])), (b3, .inr (11, [.null, .null, .null, .null, .int 0, .int 0, .null, .null, .null]))] := hD
  refine lv_aload_n hx hb dX18_addMachine_58 rfl (lv_at hl 0 rfl) ?_
  refine va_get (D := D) (ci := 9) (v := .int 1) (C := RX18) (T := TX18) (N := 15) hx hb hts i_X18 hown hK hP 0 rfl rfl 14 (by decide) (hts _ m_1197) (fun _ h9 => h9) rfl dX18_addMachine_59 ?_
  refine lv_if_le (tgt := 67) hx hb dX18_addMachine_62 (by decide) (fun h9 => absurd h9 (by decide)) (fun _ => ?_)
  refine lv_iconst (v := (-1)) hx hb dX18_addMachine_65 (by decide) ?_
  have hP9 := hP.sub (ws' := [(mm, .inr (9, [.ref b0, .ref b1, .ref b2, .ref b3, .int 0, .null, .null, .ref b4, .null, .ref b5, .ref b6, .int 0, .int 0, .long 0, .int 1]))]) [0] rfl
  have hD9 := hD.sub (ws' := [(mm, .inr (9, [.ref b0, .ref b1, .ref b2, .ref b3, .int 0, .null, .null, .ref b4, .null, .ref b5, .ref b6, .int 0, .int 0, .long 0, .int 1]))]) [0] (by decide) rfl
  refine W.widen (k := 0) (n := 0) (Nat.le_of_ble_eq_true rfl) (Nat.le_of_ble_eq_true rfl) ?_
  exact W.iret (v := (-1)) hx hb hr (fun t ht hW => ⟨⟨(-1), (), rfl, trivial, ⟨by rw [ht]; exact hP9, hD9⟩⟩, hS.F ht⟩) hS.2.2 dX18_addMachine_66

set_option maxHeartbeats 4000000 in
set_option maxRecDepth 100000 in
theorem c_X18_addMachine_b2 (l : Launch) (z0 : Nat) (D : va_G) (g : Nat → Nat) (sz : Nat) (mm b0 b1 b2 b3 b4 b5 b6 : Nat) (p0 : Int32) (p1 : Int32) (h1 : ¬ p0 < 0) (h2 : p0 ≤ 4) (h : p1 < 0 ∨ ¬ p1 ≤ 9) : Met l yX18_addMachine (wsp yX18_addMachine cX18_addMachine 3 (some .int)) ({ frames := 1, cells := 0, slots := 0, locals := 25 }) (va_Pc [.ref mm, .int p0, .int p1] (PM z0 D g sz [(mm, .inr (9, [.ref b0, .ref b1, .ref b2, .ref b3, .int 0, .null, .null, .ref b4, .null, .ref b5, .ref b6, .int 0, .int 0, .long 0, .int 0])), (b0, .inr (10, [.int 0, .ref (g 4), .int 0])), (b1, .inr (10, [.int 0, .ref (g 4), .int 0])), (b2, .inr (10, [.int 0, .ref (g 4), .int 0])), (b3, .inr (11, [.null, .null, .null, .null, .int 0, .int 0, .null, .null, .null]))])) (va_Qi (fun (r : Int32) (_ : Unit) => True) (fun (_ : Unit) t => va_P D classes [(mm, .inr (9, [.ref b0, .ref b1, .ref b2, .ref b3, .int 0, .null, .null, .ref b4, .null, .ref b5, .ref b6, .int 0, .int 0, .long 0, .int 1]))] t.heap ∧ va_D (va_A [(mm, .inr (9, [.ref b0, .ref b1, .ref b2, .ref b3, .int 0, .null, .null, .ref b4, .null, .ref b5, .ref b6, .int 0, .int 0, .long 0, .int 0])), (b0, .inr (10, [.int 0, .ref (g 4), .int 0])), (b1, .inr (10, [.int 0, .ref (g 4), .int 0])), (b2, .inr (10, [.int 0, .ref (g 4), .int 0])), (b3, .inr (11, [.null, .null, .null, .null, .int 0, .int 0, .null, .null, .null]))] sz) [(mm, .inr (9, [.ref b0, .ref b1, .ref b2, .ref b3, .int 0, .null, .null, .ref b4, .null, .ref b5, .ref b6, .int 0, .int 0, .long 0, .int 1]))]) (va_A [(mm, .inr (9, [.ref b0, .ref b1, .ref b2, .ref b3, .int 0, .null, .null, .ref b4, .null, .ref b5, .ref b6, .int 0, .int 0, .long 0, .int 0])), (b0, .inr (10, [.int 0, .ref (g 4), .int 0])), (b1, .inr (10, [.int 0, .ref (g 4), .int 0])), (b2, .inr (10, [.int 0, .ref (g 4), .int 0])), (b3, .inr (11, [.null, .null, .null, .null, .int 0, .int 0, .null, .null, .null]))] sz)) 0 0 (va_A [(mm, .inr (9, [.ref b0, .ref b1, .ref b2, .ref b3, .int 0, .null, .null, .ref b4, .null, .ref b5, .ref b6, .int 0, .int 0, .long 0, .int 0])), (b0, .inr (10, [.int 0, .ref (g 4), .int 0])), (b1, .inr (10, [.int 0, .ref (g 4), .int 0])), (b2, .inr (10, [.int 0, .ref (g 4), .int 0])), (b3, .inr (11, [.null, .null, .null, .null, .int 0, .int 0, .null, .null, .null]))] sz) := by
  refine Met.ofW (cc := cX18_addMachine) (maxL := 3) (ret := (some .int)) (by decide) rfl ?_
  intro p e s m args below meth c s₁ B hml hv
  obtain ⟨rfl, hsz9, hz0, hE, hP, hD0⟩ := hv
  have hx := B.exec
  have hb := B.bytes
  have hr := B.returns
  have hts0 := atoms_spec (ws := (wsp yX18_addMachine cX18_addMachine 3 (some .int))) B.pre
  have hts : ∀ w ∈ lw_all, w.before _ s = true := fun w h => hts0 w (List.mem_cons_of_mem _ h)
  have hown : s.vm.findClass "TheatrehouseModel" = some m.cls := findClass_of_methodNamed B.named
  have hlocks := B.notSynchronized
  have hK := hE.K
  subst hsz9
  have hsz := hz0
  have hAz : ∀ q, va_A [(mm, .inr (9, [.ref b0, .ref b1, .ref b2, .ref b3, .int 0, .null, .null, .ref b4, .null, .ref b5, .ref b6, .int 0, .int 0, .long 0, .int 0])), (b0, .inr (10, [.int 0, .ref (g 4), .int 0])), (b1, .inr (10, [.int 0, .ref (g 4), .int 0])), (b2, .inr (10, [.int 0, .ref (g 4), .int 0])), (b3, .inr (11, [.null, .null, .null, .null, .int 0, .int 0, .null, .null, .null]))] s.heap.size q → z0 ≤ q := vaA_z hz0 hD0
  have hD := hD0.self (sz := s.heap.size)
  generalize hAe : va_A [(mm, .inr (9, [.ref b0, .ref b1, .ref b2, .ref b3, .int 0, .null, .null, .ref b4, .null, .ref b5, .ref b6, .int 0, .int 0, .long 0, .int 0])), (b0, .inr (10, [.int 0, .ref (g 4), .int 0])), (b1, .inr (10, [.int 0, .ref (g 4), .int 0])), (b2, .inr (10, [.int 0, .ref (g 4), .int 0])), (b3, .inr (11, [.null, .null, .null, .null, .int 0, .int 0, .null, .null, .null]))] s.heap.size = A at hD hAz ⊢
  have hA : ∀ q : Nat, s.heap.size ≤ q → A q := fun q h => by rw [← hAe]; exact Or.inr h
  have hS : va_S A s.heap s.heap [] := va_S.rf
  have hP : va_P D classes [(mm, .inr (9, [.ref b0, .ref b1, .ref b2, .ref b3, .int 0, .null, .null, .ref b4, .null, .ref b5, .ref b6, .int 0, .int 0, .long 0, .int 0])), (b0, .inr (10, [.int 0, .ref (g 4), .int 0])), (b1, .inr (10, [.int 0, .ref (g 4), .int 0])), (b2, .inr (10, [.int 0, .ref (g 4), .int 0])), (b3, .inr (11, [.null, .null, .null, .null, .int 0, .int 0, .null, .null, .null]))] s.heap := hP
  have hl := lv_entry ([.ref mm, .int p0, .int p1]) (n := 3) (Nat.le_of_ble_eq_true rfl)
  rw [lg_entry_eq]
  generalize (lg_sl ([.ref mm, .int p0, .int p1]) ++ List.replicate (3 - (lg_sl ([.ref mm, .int p0, .int p1])).length) Slot.unset).toArray = ls at hl ⊢
  have hl : lv_has ls 3 [(0, .ref mm), (1, .int p0), (2, .int p1)] := hl
  refine lv_aload_n hx hb dX18_addMachine_0 rfl (lv_at hl 0 rfl) ?_
  refine lv_iload_n hx hb dX18_addMachine_1 rfl (lv_at hl 1 rfl) ?_
  refine lv_i2l (v := (Int32.toInt64 p0)) hx hb dX18_addMachine_2 rfl ?_
  refine lv_lconst (v := 0) hx hb dX18_addMachine_3 (by decide) ?_
  refine lv_ldc2 (v := 4) hx hb hown (hts _ m_1402) dX18_addMachine_4 ?_
  refine va_calli (va_runS (As := [.long (Int32.toInt64 p0), .long 0, .long 4]) (rest := [.ref mm]) ⟨hx, hb, hml, hown, hts⟩ (c_in_t l z0 D g (Int32.toInt64 p0) 0 4 (r_t1 (lo := 0) (by decide) h1) (r_t2 (hi := 4) (by decide) h2)) (va_cwS 3 hts (lw_S m_1238 m_1239 m_12 m_1240) rfl rfl rfl (by decide +kernel) ⟨(Nat.le_of_ble_eq_true rfl), (Nat.le_of_ble_eq_true rfl)⟩) ⟨fun _ _ _ _ h => h, fun U _ _ => ⟨rfl, trivial⟩⟩ rfl rfl hl.1 rfl (lv_room (Nat.le_of_ble_eq_true rfl)) dX18_addMachine_7 ⟨(Nat.le_of_ble_eq_true rfl), (Nat.le_of_ble_eq_true rfl)⟩) hS nA_B nA_A (fun r_2 u_3 t H locs ht hvm hw hB hz1 hk1 hS => ?_)
  have hP := hP.old hk1
  have hP : va_P D classes [(mm, .inr (9, [.ref b0, .ref b1, .ref b2, .ref b3, .int 0, .null, .null, .ref b4, .null, .ref b5, .ref b6, .int 0, .int 0, .long 0, .int 0])), (b0, .inr (10, [.int 0, .ref (g 4), .int 0])), (b1, .inr (10, [.int 0, .ref (g 4), .int 0])), (b2, .inr (10, [.int 0, .ref (g 4), .int 0])), (b3, .inr (11, [.null, .null, .null, .null, .int 0, .int 0, .null, .null, .null]))] H := hP
  subst hw
  refine lv_if_eq (tgt := 25) hx hb dX18_addMachine_10 (by decide) (fun h9 => absurd h9 (by decide)) (fun _ => ?_)
  refine lv_iload_n hx hb dX18_addMachine_13 rfl (lv_at hl 2 rfl) ?_
  refine lv_i2l (v := (Int32.toInt64 p1)) hx hb dX18_addMachine_14 rfl ?_
  refine lv_lconst (v := 0) hx hb dX18_addMachine_15 (by decide) ?_
  refine lv_ldc2 (v := 9) hx hb hown (hts _ m_1403) dX18_addMachine_16 ?_
  refine va_calli (va_runS (As := [.long (Int32.toInt64 p1), .long 0, .long 9]) (rest := [.ref mm]) ⟨hx, hb, hml, hown, hts⟩ (c_in_f l z0 D g (Int32.toInt64 p1) 0 9 (r_f (lo := 0) (hi := 9) (by decide) (by decide) h)) (va_cwS 3 hts (lw_S m_1238 m_1239 m_12 m_1240) rfl rfl rfl (by decide +kernel) ⟨(Nat.le_of_ble_eq_true rfl), (Nat.le_of_ble_eq_true rfl)⟩) ⟨fun _ _ _ _ h => h, fun U _ _ => ⟨rfl, trivial⟩⟩ rfl rfl hl.1 rfl (lv_room (Nat.le_of_ble_eq_true rfl)) dX18_addMachine_19 ⟨(Nat.le_of_ble_eq_true rfl), (Nat.le_of_ble_eq_true rfl)⟩) hS nA_B nA_A (fun r_5 u_6 t H locs ht hvm hw hB hz1 hk1 hS => ?_)
  have hP := hP.old hk1
  have hP : va_P D classes [(mm, .inr (9, [.ref b0, .ref b1, .ref b2, .ref b3, .int 0, .null, .null, .ref b4, .null, .ref b5, .ref b6, .int 0, .int 0, .long 0, .int 0])), (b0, .inr (10, [.int 0, .ref (g 4), .int 0])), (b1, .inr (10, [.int 0, .ref (g 4), .int 0])), (b2, .inr (10, [.int 0, .ref (g 4), .int 0])), (b3, .inr (11, [.null, .null, .null, .null, .int 0, .int 0, .null, .null, .null]))] H := hP
  subst hw
  refine lv_if_ne (tgt := 29) hx hb dX18_addMachine_22 (by decide) (fun h9 => absurd (by decide) h9) (fun _ => ?_)
  refine lv_iconst (v := 1) hx hb dX18_addMachine_25 (by decide) ?_
  refine lv_goto (tgt := 55) hx hb dX18_addMachine_26 (by decide) ?_
  refine va_put (D := D) (ci := 9) (v := .int 1) (ty := .int) (C := RX18) (T := TX18) (N := 15) hx hb hts i_X18 tyX18 tyX18_ok nmX18 hown hK hP hD hS 0 rfl rfl 14 (by decide) (hts _ m_1197) (fun _ h9 => h9) rfl (by decide +kernel) rfl rfl (Nat.le_of_ble_eq_true rfl) dX18_addMachine_55 (fun H locs hP hD hS => ?_)
  have hP : va_P D classes [(mm, .inr (9, [.ref b0, .ref b1, .ref b2, .ref b3, .int 0, .null, .null, .ref b4, .null, .ref b5, .ref b6, .int 0, .int 0, .long 0, .int 1])), (b0, .inr (10, [.int 0, .ref (g 4), .int 0])), (b1, .inr (10, [.int 0, .ref (g 4), .int 0])), (b2, .inr (10, [.int 0, .ref (g 4), .int 0])), (b3, .inr (11, [.null, .null, .null, .null, .int 0, .int 0, .null, .null, .null]))] H := hP
  have hD : va_D A [(mm, .inr (9, [.ref b0, .ref b1, .ref b2, .ref b3, .int 0, .null, .null, .ref b4, .null, .ref b5, .ref b6, .int 0, .int 0, .long 0, .int 1])), (b0, .inr (10, [.int 0, .ref (g 4), .int 0])), (b1, .inr (10, [.int 0, .ref (g 4), .int 0])), (b2, .inr (10, [.int 0, .ref (g 4), .int 0])), (b3, .inr (11, [.null, .null, .null, .null, .int 0, .int 0, .null, .null, .null]))] := hD
  refine lv_aload_n hx hb dX18_addMachine_58 rfl (lv_at hl 0 rfl) ?_
  refine va_get (D := D) (ci := 9) (v := .int 1) (C := RX18) (T := TX18) (N := 15) hx hb hts i_X18 hown hK hP 0 rfl rfl 14 (by decide) (hts _ m_1197) (fun _ h9 => h9) rfl dX18_addMachine_59 ?_
  refine lv_if_le (tgt := 67) hx hb dX18_addMachine_62 (by decide) (fun h9 => absurd h9 (by decide)) (fun _ => ?_)
  refine lv_iconst (v := (-1)) hx hb dX18_addMachine_65 (by decide) ?_
  have hP9 := hP.sub (ws' := [(mm, .inr (9, [.ref b0, .ref b1, .ref b2, .ref b3, .int 0, .null, .null, .ref b4, .null, .ref b5, .ref b6, .int 0, .int 0, .long 0, .int 1]))]) [0] rfl
  have hD9 := hD.sub (ws' := [(mm, .inr (9, [.ref b0, .ref b1, .ref b2, .ref b3, .int 0, .null, .null, .ref b4, .null, .ref b5, .ref b6, .int 0, .int 0, .long 0, .int 1]))]) [0] (by decide) rfl
  refine W.widen (k := 0) (n := 0) (Nat.le_of_ble_eq_true rfl) (Nat.le_of_ble_eq_true rfl) ?_
  exact W.iret (v := (-1)) hx hb hr (fun t ht hW => ⟨⟨(-1), (), rfl, trivial, ⟨by rw [ht]; exact hP9, hD9⟩⟩, hS.F ht⟩) hS.2.2 dX18_addMachine_66

set_option maxHeartbeats 4000000 in
set_option maxRecDepth 100000 in
theorem c_X18_addWork_b1 (l : Launch) (z0 : Nat) (D : va_G) (g : Nat → Nat) (sz : Nat) (mm b0 b1 b2 b3 b4 b5 b6 : Nat) (p0 : Int32) (p1 : Int32) (h : p0 < 1 ∨ ¬ p0 ≤ 5) : Met l yX18_addWork (wsp yX18_addWork cX18_addWork 3 (some .int)) ({ frames := 1, cells := 0, slots := 0, locals := 25 }) (va_Pc [.ref mm, .int p0, .int p1] (PM z0 D g sz [(mm, .inr (9, [.ref b0, .ref b1, .ref b2, .ref b3, .int 0, .null, .null, .ref b4, .null, .ref b5, .ref b6, .int 0, .int 0, .long 0, .int 0])), (b0, .inr (10, [.int 0, .ref (g 4), .int 0])), (b1, .inr (10, [.int 0, .ref (g 4), .int 0])), (b2, .inr (10, [.int 0, .ref (g 4), .int 0])), (b3, .inr (11, [.null, .null, .null, .null, .int 0, .int 0, .null, .null, .null]))])) (va_Qi (fun (r : Int32) (_ : Unit) => True) (fun (_ : Unit) t => va_P D classes [(mm, .inr (9, [.ref b0, .ref b1, .ref b2, .ref b3, .int 0, .null, .null, .ref b4, .null, .ref b5, .ref b6, .int 0, .int 0, .long 0, .int 1]))] t.heap ∧ va_D (va_A [(mm, .inr (9, [.ref b0, .ref b1, .ref b2, .ref b3, .int 0, .null, .null, .ref b4, .null, .ref b5, .ref b6, .int 0, .int 0, .long 0, .int 0])), (b0, .inr (10, [.int 0, .ref (g 4), .int 0])), (b1, .inr (10, [.int 0, .ref (g 4), .int 0])), (b2, .inr (10, [.int 0, .ref (g 4), .int 0])), (b3, .inr (11, [.null, .null, .null, .null, .int 0, .int 0, .null, .null, .null]))] sz) [(mm, .inr (9, [.ref b0, .ref b1, .ref b2, .ref b3, .int 0, .null, .null, .ref b4, .null, .ref b5, .ref b6, .int 0, .int 0, .long 0, .int 1]))]) (va_A [(mm, .inr (9, [.ref b0, .ref b1, .ref b2, .ref b3, .int 0, .null, .null, .ref b4, .null, .ref b5, .ref b6, .int 0, .int 0, .long 0, .int 0])), (b0, .inr (10, [.int 0, .ref (g 4), .int 0])), (b1, .inr (10, [.int 0, .ref (g 4), .int 0])), (b2, .inr (10, [.int 0, .ref (g 4), .int 0])), (b3, .inr (11, [.null, .null, .null, .null, .int 0, .int 0, .null, .null, .null]))] sz)) 0 0 (va_A [(mm, .inr (9, [.ref b0, .ref b1, .ref b2, .ref b3, .int 0, .null, .null, .ref b4, .null, .ref b5, .ref b6, .int 0, .int 0, .long 0, .int 0])), (b0, .inr (10, [.int 0, .ref (g 4), .int 0])), (b1, .inr (10, [.int 0, .ref (g 4), .int 0])), (b2, .inr (10, [.int 0, .ref (g 4), .int 0])), (b3, .inr (11, [.null, .null, .null, .null, .int 0, .int 0, .null, .null, .null]))] sz) := by
  refine Met.ofW (cc := cX18_addWork) (maxL := 3) (ret := (some .int)) (by decide) rfl ?_
  intro p e s m args below meth c s₁ B hml hv
  obtain ⟨rfl, hsz9, hz0, hE, hP, hD0⟩ := hv
  have hx := B.exec
  have hb := B.bytes
  have hr := B.returns
  have hts0 := atoms_spec (ws := (wsp yX18_addWork cX18_addWork 3 (some .int))) B.pre
  have hts : ∀ w ∈ lw_all, w.before _ s = true := fun w h => hts0 w (List.mem_cons_of_mem _ h)
  have hown : s.vm.findClass "TheatrehouseModel" = some m.cls := findClass_of_methodNamed B.named
  have hlocks := B.notSynchronized
  have hK := hE.K
  subst hsz9
  have hsz := hz0
  have hAz : ∀ q, va_A [(mm, .inr (9, [.ref b0, .ref b1, .ref b2, .ref b3, .int 0, .null, .null, .ref b4, .null, .ref b5, .ref b6, .int 0, .int 0, .long 0, .int 0])), (b0, .inr (10, [.int 0, .ref (g 4), .int 0])), (b1, .inr (10, [.int 0, .ref (g 4), .int 0])), (b2, .inr (10, [.int 0, .ref (g 4), .int 0])), (b3, .inr (11, [.null, .null, .null, .null, .int 0, .int 0, .null, .null, .null]))] s.heap.size q → z0 ≤ q := vaA_z hz0 hD0
  have hD := hD0.self (sz := s.heap.size)
  generalize hAe : va_A [(mm, .inr (9, [.ref b0, .ref b1, .ref b2, .ref b3, .int 0, .null, .null, .ref b4, .null, .ref b5, .ref b6, .int 0, .int 0, .long 0, .int 0])), (b0, .inr (10, [.int 0, .ref (g 4), .int 0])), (b1, .inr (10, [.int 0, .ref (g 4), .int 0])), (b2, .inr (10, [.int 0, .ref (g 4), .int 0])), (b3, .inr (11, [.null, .null, .null, .null, .int 0, .int 0, .null, .null, .null]))] s.heap.size = A at hD hAz ⊢
  have hA : ∀ q : Nat, s.heap.size ≤ q → A q := fun q h => by rw [← hAe]; exact Or.inr h
  have hS : va_S A s.heap s.heap [] := va_S.rf
  have hP : va_P D classes [(mm, .inr (9, [.ref b0, .ref b1, .ref b2, .ref b3, .int 0, .null, .null, .ref b4, .null, .ref b5, .ref b6, .int 0, .int 0, .long 0, .int 0])), (b0, .inr (10, [.int 0, .ref (g 4), .int 0])), (b1, .inr (10, [.int 0, .ref (g 4), .int 0])), (b2, .inr (10, [.int 0, .ref (g 4), .int 0])), (b3, .inr (11, [.null, .null, .null, .null, .int 0, .int 0, .null, .null, .null]))] s.heap := hP
  have hl := lv_entry ([.ref mm, .int p0, .int p1]) (n := 3) (Nat.le_of_ble_eq_true rfl)
  rw [lg_entry_eq]
  generalize (lg_sl ([.ref mm, .int p0, .int p1]) ++ List.replicate (3 - (lg_sl ([.ref mm, .int p0, .int p1])).length) Slot.unset).toArray = ls at hl ⊢
  have hl : lv_has ls 3 [(0, .ref mm), (1, .int p0), (2, .int p1)] := hl
  refine lv_aload_n hx hb dX18_addWork_0 rfl (lv_at hl 0 rfl) ?_
  refine lv_iload_n hx hb dX18_addWork_1 rfl (lv_at hl 1 rfl) ?_
  refine lv_i2l (v := (Int32.toInt64 p0)) hx hb dX18_addWork_2 rfl ?_
  refine lv_lconst (v := 1) hx hb dX18_addWork_3 (by decide) ?_
  refine lv_ldc2 (v := 5) hx hb hown (hts _ m_1442) dX18_addWork_4 ?_
  refine va_calli (va_runS (As := [.long (Int32.toInt64 p0), .long 1, .long 5]) (rest := [.ref mm]) ⟨hx, hb, hml, hown, hts⟩ (c_in_f l z0 D g (Int32.toInt64 p0) 1 5 (r_f (lo := 1) (hi := 5) (by decide) (by decide) h)) (va_cwS 3 hts (lw_S m_1238 m_1239 m_12 m_1240) rfl rfl rfl (by decide +kernel) ⟨(Nat.le_of_ble_eq_true rfl), (Nat.le_of_ble_eq_true rfl)⟩) ⟨fun _ _ _ _ h => h, fun U _ _ => ⟨rfl, trivial⟩⟩ rfl rfl hl.1 rfl (lv_room (Nat.le_of_ble_eq_true rfl)) dX18_addWork_7 ⟨(Nat.le_of_ble_eq_true rfl), (Nat.le_of_ble_eq_true rfl)⟩) hS nA_B nA_A (fun r_2 u_3 t H locs ht hvm hw hB hz1 hk1 hS => ?_)
  have hP := hP.old hk1
  have hP : va_P D classes [(mm, .inr (9, [.ref b0, .ref b1, .ref b2, .ref b3, .int 0, .null, .null, .ref b4, .null, .ref b5, .ref b6, .int 0, .int 0, .long 0, .int 0])), (b0, .inr (10, [.int 0, .ref (g 4), .int 0])), (b1, .inr (10, [.int 0, .ref (g 4), .int 0])), (b2, .inr (10, [.int 0, .ref (g 4), .int 0])), (b3, .inr (11, [.null, .null, .null, .null, .int 0, .int 0, .null, .null, .null]))] H := hP
  subst hw
  refine lv_if_eq (tgt := 25) hx hb dX18_addWork_10 (by decide) (fun _ => ?_) (fun h9 => absurd (by decide) h9)
  refine lv_iconst (v := 1) hx hb dX18_addWork_25 (by decide) ?_
  refine lv_goto (tgt := 54) hx hb dX18_addWork_26 (by decide) ?_
  refine va_put (D := D) (ci := 9) (v := .int 1) (ty := .int) (C := RX18) (T := TX18) (N := 15) hx hb hts i_X18 tyX18 tyX18_ok nmX18 hown hK hP hD hS 0 rfl rfl 14 (by decide) (hts _ m_1197) (fun _ h9 => h9) rfl (by decide +kernel) rfl rfl (Nat.le_of_ble_eq_true rfl) dX18_addWork_54 (fun H locs hP hD hS => ?_)
  have hP : va_P D classes [(mm, .inr (9, [.ref b0, .ref b1, .ref b2, .ref b3, .int 0, .null, .null, .ref b4, .null, .ref b5, .ref b6, .int 0, .int 0, .long 0, .int 1])), (b0, .inr (10, [.int 0, .ref (g 4), .int 0])), (b1, .inr (10, [.int 0, .ref (g 4), .int 0])), (b2, .inr (10, [.int 0, .ref (g 4), .int 0])), (b3, .inr (11, [.null, .null, .null, .null, .int 0, .int 0, .null, .null, .null]))] H := hP
  have hD : va_D A [(mm, .inr (9, [.ref b0, .ref b1, .ref b2, .ref b3, .int 0, .null, .null, .ref b4, .null, .ref b5, .ref b6, .int 0, .int 0, .long 0, .int 1])), (b0, .inr (10, [.int 0, .ref (g 4), .int 0])), (b1, .inr (10, [.int 0, .ref (g 4), .int 0])), (b2, .inr (10, [.int 0, .ref (g 4), .int 0])), (b3, .inr (11, [.null, .null, .null, .null, .int 0, .int 0, .null, .null, .null]))] := hD
  refine lv_aload_n hx hb dX18_addWork_57 rfl (lv_at hl 0 rfl) ?_
  refine va_get (D := D) (ci := 9) (v := .int 1) (C := RX18) (T := TX18) (N := 15) hx hb hts i_X18 hown hK hP 0 rfl rfl 14 (by decide) (hts _ m_1197) (fun _ h9 => h9) rfl dX18_addWork_58 ?_
  refine lv_if_le (tgt := 66) hx hb dX18_addWork_61 (by decide) (fun h9 => absurd h9 (by decide)) (fun _ => ?_)
  refine lv_iconst (v := (-1)) hx hb dX18_addWork_64 (by decide) ?_
  have hP9 := hP.sub (ws' := [(mm, .inr (9, [.ref b0, .ref b1, .ref b2, .ref b3, .int 0, .null, .null, .ref b4, .null, .ref b5, .ref b6, .int 0, .int 0, .long 0, .int 1]))]) [0] rfl
  have hD9 := hD.sub (ws' := [(mm, .inr (9, [.ref b0, .ref b1, .ref b2, .ref b3, .int 0, .null, .null, .ref b4, .null, .ref b5, .ref b6, .int 0, .int 0, .long 0, .int 1]))]) [0] (by decide) rfl
  refine W.widen (k := 0) (n := 0) (Nat.le_of_ble_eq_true rfl) (Nat.le_of_ble_eq_true rfl) ?_
  exact W.iret (v := (-1)) hx hb hr (fun t ht hW => ⟨⟨(-1), (), rfl, trivial, ⟨by rw [ht]; exact hP9, hD9⟩⟩, hS.F ht⟩) hS.2.2 dX18_addWork_65

set_option maxHeartbeats 4000000 in
set_option maxRecDepth 100000 in
theorem c_X18_addWork_b2 (l : Launch) (z0 : Nat) (D : va_G) (g : Nat → Nat) (sz : Nat) (mm b0 b1 b2 b3 b4 b5 b6 : Nat) (p0 : Int32) (p1 : Int32) (h1 : ¬ p0 < 1) (h2 : p0 ≤ 5) (h : p1 < 1 ∨ ¬ p1 ≤ 99) : Met l yX18_addWork (wsp yX18_addWork cX18_addWork 3 (some .int)) ({ frames := 1, cells := 0, slots := 0, locals := 25 }) (va_Pc [.ref mm, .int p0, .int p1] (PM z0 D g sz [(mm, .inr (9, [.ref b0, .ref b1, .ref b2, .ref b3, .int 0, .null, .null, .ref b4, .null, .ref b5, .ref b6, .int 0, .int 0, .long 0, .int 0])), (b0, .inr (10, [.int 0, .ref (g 4), .int 0])), (b1, .inr (10, [.int 0, .ref (g 4), .int 0])), (b2, .inr (10, [.int 0, .ref (g 4), .int 0])), (b3, .inr (11, [.null, .null, .null, .null, .int 0, .int 0, .null, .null, .null]))])) (va_Qi (fun (r : Int32) (_ : Unit) => True) (fun (_ : Unit) t => va_P D classes [(mm, .inr (9, [.ref b0, .ref b1, .ref b2, .ref b3, .int 0, .null, .null, .ref b4, .null, .ref b5, .ref b6, .int 0, .int 0, .long 0, .int 1]))] t.heap ∧ va_D (va_A [(mm, .inr (9, [.ref b0, .ref b1, .ref b2, .ref b3, .int 0, .null, .null, .ref b4, .null, .ref b5, .ref b6, .int 0, .int 0, .long 0, .int 0])), (b0, .inr (10, [.int 0, .ref (g 4), .int 0])), (b1, .inr (10, [.int 0, .ref (g 4), .int 0])), (b2, .inr (10, [.int 0, .ref (g 4), .int 0])), (b3, .inr (11, [.null, .null, .null, .null, .int 0, .int 0, .null, .null, .null]))] sz) [(mm, .inr (9, [.ref b0, .ref b1, .ref b2, .ref b3, .int 0, .null, .null, .ref b4, .null, .ref b5, .ref b6, .int 0, .int 0, .long 0, .int 1]))]) (va_A [(mm, .inr (9, [.ref b0, .ref b1, .ref b2, .ref b3, .int 0, .null, .null, .ref b4, .null, .ref b5, .ref b6, .int 0, .int 0, .long 0, .int 0])), (b0, .inr (10, [.int 0, .ref (g 4), .int 0])), (b1, .inr (10, [.int 0, .ref (g 4), .int 0])), (b2, .inr (10, [.int 0, .ref (g 4), .int 0])), (b3, .inr (11, [.null, .null, .null, .null, .int 0, .int 0, .null, .null, .null]))] sz)) 0 0 (va_A [(mm, .inr (9, [.ref b0, .ref b1, .ref b2, .ref b3, .int 0, .null, .null, .ref b4, .null, .ref b5, .ref b6, .int 0, .int 0, .long 0, .int 0])), (b0, .inr (10, [.int 0, .ref (g 4), .int 0])), (b1, .inr (10, [.int 0, .ref (g 4), .int 0])), (b2, .inr (10, [.int 0, .ref (g 4), .int 0])), (b3, .inr (11, [.null, .null, .null, .null, .int 0, .int 0, .null, .null, .null]))] sz) := by
  refine Met.ofW (cc := cX18_addWork) (maxL := 3) (ret := (some .int)) (by decide) rfl ?_
  intro p e s m args below meth c s₁ B hml hv
  obtain ⟨rfl, hsz9, hz0, hE, hP, hD0⟩ := hv
  have hx := B.exec
  have hb := B.bytes
  have hr := B.returns
  have hts0 := atoms_spec (ws := (wsp yX18_addWork cX18_addWork 3 (some .int))) B.pre
  have hts : ∀ w ∈ lw_all, w.before _ s = true := fun w h => hts0 w (List.mem_cons_of_mem _ h)
  have hown : s.vm.findClass "TheatrehouseModel" = some m.cls := findClass_of_methodNamed B.named
  have hlocks := B.notSynchronized
  have hK := hE.K
  subst hsz9
  have hsz := hz0
  have hAz : ∀ q, va_A [(mm, .inr (9, [.ref b0, .ref b1, .ref b2, .ref b3, .int 0, .null, .null, .ref b4, .null, .ref b5, .ref b6, .int 0, .int 0, .long 0, .int 0])), (b0, .inr (10, [.int 0, .ref (g 4), .int 0])), (b1, .inr (10, [.int 0, .ref (g 4), .int 0])), (b2, .inr (10, [.int 0, .ref (g 4), .int 0])), (b3, .inr (11, [.null, .null, .null, .null, .int 0, .int 0, .null, .null, .null]))] s.heap.size q → z0 ≤ q := vaA_z hz0 hD0
  have hD := hD0.self (sz := s.heap.size)
  generalize hAe : va_A [(mm, .inr (9, [.ref b0, .ref b1, .ref b2, .ref b3, .int 0, .null, .null, .ref b4, .null, .ref b5, .ref b6, .int 0, .int 0, .long 0, .int 0])), (b0, .inr (10, [.int 0, .ref (g 4), .int 0])), (b1, .inr (10, [.int 0, .ref (g 4), .int 0])), (b2, .inr (10, [.int 0, .ref (g 4), .int 0])), (b3, .inr (11, [.null, .null, .null, .null, .int 0, .int 0, .null, .null, .null]))] s.heap.size = A at hD hAz ⊢
  have hA : ∀ q : Nat, s.heap.size ≤ q → A q := fun q h => by rw [← hAe]; exact Or.inr h
  have hS : va_S A s.heap s.heap [] := va_S.rf
  have hP : va_P D classes [(mm, .inr (9, [.ref b0, .ref b1, .ref b2, .ref b3, .int 0, .null, .null, .ref b4, .null, .ref b5, .ref b6, .int 0, .int 0, .long 0, .int 0])), (b0, .inr (10, [.int 0, .ref (g 4), .int 0])), (b1, .inr (10, [.int 0, .ref (g 4), .int 0])), (b2, .inr (10, [.int 0, .ref (g 4), .int 0])), (b3, .inr (11, [.null, .null, .null, .null, .int 0, .int 0, .null, .null, .null]))] s.heap := hP
  have hl := lv_entry ([.ref mm, .int p0, .int p1]) (n := 3) (Nat.le_of_ble_eq_true rfl)
  rw [lg_entry_eq]
  generalize (lg_sl ([.ref mm, .int p0, .int p1]) ++ List.replicate (3 - (lg_sl ([.ref mm, .int p0, .int p1])).length) Slot.unset).toArray = ls at hl ⊢
  have hl : lv_has ls 3 [(0, .ref mm), (1, .int p0), (2, .int p1)] := hl
  refine lv_aload_n hx hb dX18_addWork_0 rfl (lv_at hl 0 rfl) ?_
  refine lv_iload_n hx hb dX18_addWork_1 rfl (lv_at hl 1 rfl) ?_
  refine lv_i2l (v := (Int32.toInt64 p0)) hx hb dX18_addWork_2 rfl ?_
  refine lv_lconst (v := 1) hx hb dX18_addWork_3 (by decide) ?_
  refine lv_ldc2 (v := 5) hx hb hown (hts _ m_1442) dX18_addWork_4 ?_
  refine va_calli (va_runS (As := [.long (Int32.toInt64 p0), .long 1, .long 5]) (rest := [.ref mm]) ⟨hx, hb, hml, hown, hts⟩ (c_in_t l z0 D g (Int32.toInt64 p0) 1 5 (r_t1 (lo := 1) (by decide) h1) (r_t2 (hi := 5) (by decide) h2)) (va_cwS 3 hts (lw_S m_1238 m_1239 m_12 m_1240) rfl rfl rfl (by decide +kernel) ⟨(Nat.le_of_ble_eq_true rfl), (Nat.le_of_ble_eq_true rfl)⟩) ⟨fun _ _ _ _ h => h, fun U _ _ => ⟨rfl, trivial⟩⟩ rfl rfl hl.1 rfl (lv_room (Nat.le_of_ble_eq_true rfl)) dX18_addWork_7 ⟨(Nat.le_of_ble_eq_true rfl), (Nat.le_of_ble_eq_true rfl)⟩) hS nA_B nA_A (fun r_2 u_3 t H locs ht hvm hw hB hz1 hk1 hS => ?_)
  have hP := hP.old hk1
  have hP : va_P D classes [(mm, .inr (9, [.ref b0, .ref b1, .ref b2, .ref b3, .int 0, .null, .null, .ref b4, .null, .ref b5, .ref b6, .int 0, .int 0, .long 0, .int 0])), (b0, .inr (10, [.int 0, .ref (g 4), .int 0])), (b1, .inr (10, [.int 0, .ref (g 4), .int 0])), (b2, .inr (10, [.int 0, .ref (g 4), .int 0])), (b3, .inr (11, [.null, .null, .null, .null, .int 0, .int 0, .null, .null, .null]))] H := hP
  subst hw
  refine lv_if_eq (tgt := 25) hx hb dX18_addWork_10 (by decide) (fun h9 => absurd h9 (by decide)) (fun _ => ?_)
  refine lv_iload_n hx hb dX18_addWork_13 rfl (lv_at hl 2 rfl) ?_
  refine lv_i2l (v := (Int32.toInt64 p1)) hx hb dX18_addWork_14 rfl ?_
  refine lv_lconst (v := 1) hx hb dX18_addWork_15 (by decide) ?_
  refine lv_ldc2 (v := 99) hx hb hown (hts _ m_1237) dX18_addWork_16 ?_
  refine va_calli (va_runS (As := [.long (Int32.toInt64 p1), .long 1, .long 99]) (rest := [.ref mm]) ⟨hx, hb, hml, hown, hts⟩ (c_in_f l z0 D g (Int32.toInt64 p1) 1 99 (r_f (lo := 1) (hi := 99) (by decide) (by decide) h)) (va_cwS 3 hts (lw_S m_1238 m_1239 m_12 m_1240) rfl rfl rfl (by decide +kernel) ⟨(Nat.le_of_ble_eq_true rfl), (Nat.le_of_ble_eq_true rfl)⟩) ⟨fun _ _ _ _ h => h, fun U _ _ => ⟨rfl, trivial⟩⟩ rfl rfl hl.1 rfl (lv_room (Nat.le_of_ble_eq_true rfl)) dX18_addWork_19 ⟨(Nat.le_of_ble_eq_true rfl), (Nat.le_of_ble_eq_true rfl)⟩) hS nA_B nA_A (fun r_5 u_6 t H locs ht hvm hw hB hz1 hk1 hS => ?_)
  have hP := hP.old hk1
  have hP : va_P D classes [(mm, .inr (9, [.ref b0, .ref b1, .ref b2, .ref b3, .int 0, .null, .null, .ref b4, .null, .ref b5, .ref b6, .int 0, .int 0, .long 0, .int 0])), (b0, .inr (10, [.int 0, .ref (g 4), .int 0])), (b1, .inr (10, [.int 0, .ref (g 4), .int 0])), (b2, .inr (10, [.int 0, .ref (g 4), .int 0])), (b3, .inr (11, [.null, .null, .null, .null, .int 0, .int 0, .null, .null, .null]))] H := hP
  subst hw
  refine lv_if_ne (tgt := 29) hx hb dX18_addWork_22 (by decide) (fun h9 => absurd (by decide) h9) (fun _ => ?_)
  refine lv_iconst (v := 1) hx hb dX18_addWork_25 (by decide) ?_
  refine lv_goto (tgt := 54) hx hb dX18_addWork_26 (by decide) ?_
  refine va_put (D := D) (ci := 9) (v := .int 1) (ty := .int) (C := RX18) (T := TX18) (N := 15) hx hb hts i_X18 tyX18 tyX18_ok nmX18 hown hK hP hD hS 0 rfl rfl 14 (by decide) (hts _ m_1197) (fun _ h9 => h9) rfl (by decide +kernel) rfl rfl (Nat.le_of_ble_eq_true rfl) dX18_addWork_54 (fun H locs hP hD hS => ?_)
  have hP : va_P D classes [(mm, .inr (9, [.ref b0, .ref b1, .ref b2, .ref b3, .int 0, .null, .null, .ref b4, .null, .ref b5, .ref b6, .int 0, .int 0, .long 0, .int 1])), (b0, .inr (10, [.int 0, .ref (g 4), .int 0])), (b1, .inr (10, [.int 0, .ref (g 4), .int 0])), (b2, .inr (10, [.int 0, .ref (g 4), .int 0])), (b3, .inr (11, [.null, .null, .null, .null, .int 0, .int 0, .null, .null, .null]))] H := hP
  have hD : va_D A [(mm, .inr (9, [.ref b0, .ref b1, .ref b2, .ref b3, .int 0, .null, .null, .ref b4, .null, .ref b5, .ref b6, .int 0, .int 0, .long 0, .int 1])), (b0, .inr (10, [.int 0, .ref (g 4), .int 0])), (b1, .inr (10, [.int 0, .ref (g 4), .int 0])), (b2, .inr (10, [.int 0, .ref (g 4), .int 0])), (b3, .inr (11, [.null, .null, .null, .null, .int 0, .int 0, .null, .null, .null]))] := hD
  refine lv_aload_n hx hb dX18_addWork_57 rfl (lv_at hl 0 rfl) ?_
  refine va_get (D := D) (ci := 9) (v := .int 1) (C := RX18) (T := TX18) (N := 15) hx hb hts i_X18 hown hK hP 0 rfl rfl 14 (by decide) (hts _ m_1197) (fun _ h9 => h9) rfl dX18_addWork_58 ?_
  refine lv_if_le (tgt := 66) hx hb dX18_addWork_61 (by decide) (fun h9 => absurd h9 (by decide)) (fun _ => ?_)
  refine lv_iconst (v := (-1)) hx hb dX18_addWork_64 (by decide) ?_
  have hP9 := hP.sub (ws' := [(mm, .inr (9, [.ref b0, .ref b1, .ref b2, .ref b3, .int 0, .null, .null, .ref b4, .null, .ref b5, .ref b6, .int 0, .int 0, .long 0, .int 1]))]) [0] rfl
  have hD9 := hD.sub (ws' := [(mm, .inr (9, [.ref b0, .ref b1, .ref b2, .ref b3, .int 0, .null, .null, .ref b4, .null, .ref b5, .ref b6, .int 0, .int 0, .long 0, .int 1]))]) [0] (by decide) rfl
  refine W.widen (k := 0) (n := 0) (Nat.le_of_ble_eq_true rfl) (Nat.le_of_ble_eq_true rfl) ?_
  exact W.iret (v := (-1)) hx hb hr (fun t ht hW => ⟨⟨(-1), (), rfl, trivial, ⟨by rw [ht]; exact hP9, hD9⟩⟩, hS.F ht⟩) hS.2.2 dX18_addWork_65

set_option maxHeartbeats 4000000 in
set_option maxRecDepth 100000 in
theorem rpass_loop {p : Program} {l : Launch} {e : Env} {R : Room} {s : State} {m : MethodId} {args : Array Value} {below : List Frame} {meth : Method} {c : Code} {Q : State → Prop} {z0 : Nat} {D : va_G} {g : Nat → Nat} {A : Nat → Prop} (l1 : Launch) (hl1 : l1 = l) (c0 s0 : Nat) (mm b0 b1 b2 b3 b4 b5 b6 : Nat) (p0 : Int32) (d : Nat) (hd : d ≤ 30) (ed : p0 = nI d) (hx : p.tables.exec = Jvm.exec) (hb : c.code = cX18_pass) (hml : c.maxLocals = 6) (hts : ∀ w ∈ lw_all, w.before args s = true) (hown : s.vm.findClass "TheatrehouseModel" = some m.cls) (hE : EV z0 D g s s.heap) (hAz : ∀ q, A q → z0 ≤ q) (hA : ∀ q : Nat, s.heap.size ≤ q → A q) (hsz : z0 ≤ s.heap.size) (hK : va_K D classes [] s) (hR : 60 ≤ R.frames ∧ 600 ≤ R.locals ∧ c0 + 2 * 31 ≤ R.cells ∧ s0 + 5 * 31 ≤ R.slots) (kx : ∀ (H : Heap) (locs : List Loc), va_P D classes [(mm, .inr (9, [.ref b0, .ref b1, .ref b2, .ref b3, .int p0, .null, .null, .ref b4, .null, .ref b5, .ref b6, .int 0, .int 0, .long 0, .int 0])), (b0, .inr (10, [.int 0, .ref (g 4), .int 0])), (b1, .inr (10, [.int 0, .ref (g 4), .int 0])), (b2, .inr (10, [.int 0, .ref (g 4), .int 0])), (b3, .inr (11, [.null, .null, .null, .null, .int 0, .int 0, .null, .null, .null]))] H → va_D A [(mm, .inr (9, [.ref b0, .ref b1, .ref b2, .ref b3, .int p0, .null, .null, .ref b4, .null, .ref b5, .ref b6, .int 0, .int 0, .long 0, .int 0])), (b0, .inr (10, [.int 0, .ref (g 4), .int 0])), (b1, .inr (10, [.int 0, .ref (g 4), .int 0])), (b2, .inr (10, [.int 0, .ref (g 4), .int 0])), (b3, .inr (11, [.null, .null, .null, .null, .int 0, .int 0, .null, .null, .null]))] → va_S A s.heap H locs → ∀ (ls : Array Slot), lv_has ls 6 [(0, .ref mm), (1, .int p0)] → W p l e R s m args below meth c H locs (c0 + 2 * 31) (s0 + 5 * 31) Q (F0 m 221 ls [])) : ∀ (n k : Nat) (i : Int32) (H : Heap) (locs : List Loc), k ≤ d → d + 1 ≤ k + n → i = nI k → va_P D classes [(mm, .inr (9, [.ref b0, .ref b1, .ref b2, .ref b3, .int i, .null, .null, .ref b4, .null, .ref b5, .ref b6, .int 0, .int 0, .long 0, .int 0])), (b0, .inr (10, [.int 0, .ref (g 4), .int 0])), (b1, .inr (10, [.int 0, .ref (g 4), .int 0])), (b2, .inr (10, [.int 0, .ref (g 4), .int 0])), (b3, .inr (11, [.null, .null, .null, .null, .int 0, .int 0, .null, .null, .null]))] H → va_D A [(mm, .inr (9, [.ref b0, .ref b1, .ref b2, .ref b3, .int i, .null, .null, .ref b4, .null, .ref b5, .ref b6, .int 0, .int 0, .long 0, .int 0])), (b0, .inr (10, [.int 0, .ref (g 4), .int 0])), (b1, .inr (10, [.int 0, .ref (g 4), .int 0])), (b2, .inr (10, [.int 0, .ref (g 4), .int 0])), (b3, .inr (11, [.null, .null, .null, .null, .int 0, .int 0, .null, .null, .null]))] → va_S A s.heap H locs → ∀ (ls : Array Slot), lv_has ls 6 [(2, .int i), (0, .ref mm), (1, .int p0)] → W p l e R s m args below meth c H locs (c0 + 2 * k) (s0 + 5 * k) Q (F0 m 54 ls []) := by
  subst hl1
  intro n
  induction n with
  | zero => intro k i H locs h1 h2; omega
  | succ n ih =>
    intro k i H locs hk hn ek hP hD hS ls hl
    refine lv_iload_n hx hb dX18_pass_54 rfl (lv_at hl 0 rfl) ?_
    refine lv_iload_n hx hb dX18_pass_55 rfl (lv_at hl 2 rfl) ?_
    refine lv_icmp_ge (tgt := 221) hx hb dX18_pass_56 (by decide) (fun c_56 => ?_) (fun c_56 => ?_)
    · have e9 : i = p0 := by
        rcases Nat.lt_or_ge k d with h9 | h9
        · exact absurd (show i < p0 by rw [ek, ed]; exact nI_lt h9 (by omega)) (Int32.not_lt.mpr c_56)
        · rw [ek, ed, show k = d by omega]
      have hP : va_P D classes [(mm, .inr (9, [.ref b0, .ref b1, .ref b2, .ref b3, .int p0, .null, .null, .ref b4, .null, .ref b5, .ref b6, .int 0, .int 0, .long 0, .int 0])), (b0, .inr (10, [.int 0, .ref (g 4), .int 0])), (b1, .inr (10, [.int 0, .ref (g 4), .int 0])), (b2, .inr (10, [.int 0, .ref (g 4), .int 0])), (b3, .inr (11, [.null, .null, .null, .null, .int 0, .int 0, .null, .null, .null]))] H := by rw [← e9]; exact hP
      have hD : va_D A [(mm, .inr (9, [.ref b0, .ref b1, .ref b2, .ref b3, .int p0, .null, .null, .ref b4, .null, .ref b5, .ref b6, .int 0, .int 0, .long 0, .int 0])), (b0, .inr (10, [.int 0, .ref (g 4), .int 0])), (b1, .inr (10, [.int 0, .ref (g 4), .int 0])), (b2, .inr (10, [.int 0, .ref (g 4), .int 0])), (b3, .inr (11, [.null, .null, .null, .null, .int 0, .int 0, .null, .null, .null]))] := by rw [← e9]; exact hD
      refine W.widen (k := c0 + 2 * 31) (n := s0 + 5 * 31) (by omega) (by omega) ?_
      exact kx H locs hP hD hS ls (lv_sub hl [1, 2] rfl)
    · have hk2 : k < d := by
        rcases Nat.lt_or_ge k d with h9 | h9
        · exact h9
        · exact absurd (by rw [ek, ed]; exact nI_le h9 (by omega)) c_56
      refine lv_aload_n hx hb dX18_pass_59 rfl (lv_at hl 1 rfl) ?_
      refine va_get (D := D) (ci := 9) (v := .ref b3) (C := RX18) (T := TX18) (N := 15) hx hb hts i_X18 hown hK hP 0 rfl rfl 3 (by decide) (hts _ m_1184) (fun _ h9 => h9) rfl dX18_pass_60 ?_
      refine lv_aload_n hx hb dX18_pass_63 rfl (lv_at hl 1 rfl) ?_
      refine va_get (D := D) (ci := 9) (v := .int i) (C := RX18) (T := TX18) (N := 15) hx hb hts i_X18 hown hK hP 0 rfl rfl 4 (by decide) (hts _ m_1185) (fun _ h9 => h9) rfl dX18_pass_64 ?_
      have hc_1 := hP.sub (ws' := []) [] rfl
      have hc_1D := hD.sub (ws' := []) [] (by decide) rfl
      have hc_1F := va_free (wc := []) hD hS hA [] rfl
      refine va_callr (va_runS (As := [.int i]) (rest := [.ref b3]) ⟨hx, hb, hml, hown, hts⟩ (c_valueOf l1 z0 D g _ i) (va_cwS 1 hts (lw_S m_1525 m_1526 m_38 m_1527) rfl rfl rfl (by decide +kernel) ⟨Nat.le_trans (m := 60) (Nat.le_of_ble_eq_true rfl) hR.1, Nat.le_trans (m := 600) (Nat.le_of_ble_eq_true rfl) hR.2.1⟩) ⟨PM.blind, PM.pre hE hS hAz hsz hc_1 hc_1D⟩ rfl rfl hl.1 rfl (lv_room (Nat.le_of_ble_eq_true rfl)) dX18_pass_67 ⟨(by have := hR.2.2.1; omega), (by have := hR.2.2.2; omega)⟩) hS (fun q _ h => hc_1F q h) hc_1F (fun u_3 r_2 t H locs ht hvm hw hB hz1 hk1 hS => ?_)
      have hP := hP.oldA hk1
      have hP : va_P D classes [(mm, .inr (9, [.ref b0, .ref b1, .ref b2, .ref b3, .int i, .null, .null, .ref b4, .null, .ref b5, .ref b6, .int 0, .int 0, .long 0, .int 0])), (b0, .inr (10, [.int 0, .ref (g 4), .int 0])), (b1, .inr (10, [.int 0, .ref (g 4), .int 0])), (b2, .inr (10, [.int 0, .ref (g 4), .int 0])), (b3, .inr (11, [.null, .null, .null, .null, .int 0, .int 0, .null, .null, .null]))] H := hP
      have hO := O_back hB ht hvm
      have hc_4 := hP.sub (ws' := [(b3, .inr (11, [.null, .null, .null, .null, .int 0, .int 0, .null, .null, .null]))]) [4] rfl
      refine va_callq (va_runV (As := [.ref r_2]) (rest := []) ⟨hx, hb, hml, hown, hts⟩ (c_TMget l1 z0 D g b3 r_2) (cwV 1 hts (lw_V m_2039 m_2040 m_2041 m_17 m_2042) rfl rfl rfl (by decide +kernel) ⟨Nat.le_trans (m := 60) (Nat.le_of_ble_eq_true rfl) hR.1, Nat.le_trans (m := 600) (Nat.le_of_ble_eq_true rfl) hR.2.1⟩) ⟨PRO.blind, va_recv hK hP (ci := 11) (q0 := 4) rfl rfl, PRO.pre hE hS hAz hc_4 hO⟩ rfl rfl hl.1 rfl (lv_room (Nat.le_of_ble_eq_true rfl)) dX18_pass_70 ⟨(by have := hR.2.2.1; omega), (by have := hR.2.2.2; omega)⟩) hS nA_B nA_A (fun r_5 u_6 t H locs ht hvm hw hB hz1 hk1 hS => ?_)
      have hP := hP.old hk1
      have hP : va_P D classes [(mm, .inr (9, [.ref b0, .ref b1, .ref b2, .ref b3, .int i, .null, .null, .ref b4, .null, .ref b5, .ref b6, .int 0, .int 0, .long 0, .int 0])), (b0, .inr (10, [.int 0, .ref (g 4), .int 0])), (b1, .inr (10, [.int 0, .ref (g 4), .int 0])), (b2, .inr (10, [.int 0, .ref (g 4), .int 0])), (b3, .inr (11, [.null, .null, .null, .null, .int 0, .int 0, .null, .null, .null]))] H := hP
      subst hw
      refine W.eq (g2 := F0 m 73 ls [.null]) rfl ?_
      refine lv_castN hx hb dX18_pass_73 ?_
      refine lv_astore_nN (lv' := [(3, .null), (2, .int i), (0, .ref mm), (1, .int p0)]) hx hb dX18_pass_76 rfl hl (by decide) rfl (fun ls hl => ?_)
      refine lv_aload_nN hx hb dX18_pass_77 rfl (lv_at hl 0 rfl) ?_
      refine lv_ifnullN (tgt := 149) hx hb dX18_pass_78 (by decide) ?_
      refine lv_aload_n hx hb dX18_pass_149 rfl (lv_at hl 2 rfl) ?_
      refine va_get (D := D) (ci := 9) (v := .ref b0) (C := RX18) (T := TX18) (N := 15) hx hb hts i_X18 hown hK hP 0 rfl rfl 0 (by decide) (hts _ m_1181) (fun _ h9 => h9) rfl dX18_pass_150 ?_
      have hc_7 := hP.sub (ws' := [(b0, .inr (10, [.int 0, .ref (g 4), .int 0]))]) [1] rfl
      have hc_7D := hD.sub (ws' := [(b0, .inr (10, [.int 0, .ref (g 4), .int 0]))]) [1] (by decide) rfl
      have hc_7F := va_free (wc := [(b0, .inr (10, [.int 0, .ref (g 4), .int 0]))]) hD hS hA [1] rfl
      refine va_callFr (va_runF (hK.1 10 _ rfl).2 (As := []) (rest := []) ⟨hx, hb, hml, hown, hts⟩ (c_ALiterator l1 z0 D g _ b0) (va_cwF 0 hts (lw_F m_2048 m_2051 m_1925 m_15 m_1927) rfl rfl rfl (hE.fw (i := 2) rfl) (by decide +kernel) ⟨Nat.le_trans (m := 60) (Nat.le_of_ble_eq_true rfl) hR.1, Nat.le_trans (m := 600) (Nat.le_of_ble_eq_true rfl) hR.2.1⟩) ⟨PM.blind, va_recv hK hP (ci := 10) (q0 := 1) rfl rfl, PM.pre hE hS hAz hsz hc_7 hc_7D⟩ rfl rfl hl.1 rfl (lv_room (Nat.le_of_ble_eq_true rfl)) dX18_pass_153 ⟨(by have := hR.2.2.1; omega), (by have := hR.2.2.2; omega)⟩) hS (fun q _ h => hc_7F q h) hc_7F (fun u_9 r_8 t H locs ht hvm hw hB hz1 hk1 hS => ?_)
      obtain ⟨hP1, hD1⟩ := hB
      rw [ht] at hP1
      obtain ⟨hP, hD⟩ := va_join (wr := [(mm, .inr (9, [.ref b0, .ref b1, .ref b2, .ref b3, .int i, .null, .null, .ref b4, .null, .ref b5, .ref b6, .int 0, .int 0, .long 0, .int 0])), (b1, .inr (10, [.int 0, .ref (g 4), .int 0])), (b2, .inr (10, [.int 0, .ref (g 4), .int 0])), (b3, .inr (11, [.null, .null, .null, .null, .int 0, .int 0, .null, .null, .null]))]) (w1 := [(b0, .inr (10, [.int 0, .ref (g 4), .int 0])), (r_8, .inr (15, [.int 0, .int (-1), .int 0, .ref b0]))]) hP hD [1] [0, 2, 3, 4] rfl rfl (by decide) (by decide) hk1 hc_7F hP1 hD1
      have hP : va_P D classes [(mm, .inr (9, [.ref b0, .ref b1, .ref b2, .ref b3, .int i, .null, .null, .ref b4, .null, .ref b5, .ref b6, .int 0, .int 0, .long 0, .int 0])), (b1, .inr (10, [.int 0, .ref (g 4), .int 0])), (b2, .inr (10, [.int 0, .ref (g 4), .int 0])), (b3, .inr (11, [.null, .null, .null, .null, .int 0, .int 0, .null, .null, .null])), (b0, .inr (10, [.int 0, .ref (g 4), .int 0])), (r_8, .inr (15, [.int 0, .int (-1), .int 0, .ref b0]))] H := hP
      have hD : va_D A [(mm, .inr (9, [.ref b0, .ref b1, .ref b2, .ref b3, .int i, .null, .null, .ref b4, .null, .ref b5, .ref b6, .int 0, .int 0, .long 0, .int 0])), (b1, .inr (10, [.int 0, .ref (g 4), .int 0])), (b2, .inr (10, [.int 0, .ref (g 4), .int 0])), (b3, .inr (11, [.null, .null, .null, .null, .int 0, .int 0, .null, .null, .null])), (b0, .inr (10, [.int 0, .ref (g 4), .int 0])), (r_8, .inr (15, [.int 0, .int (-1), .int 0, .ref b0]))] := hD
      refine lv_astore (lv' := [(4, .ref r_8), (3, .null), (2, .int i), (0, .ref mm), (1, .int p0)]) hx hb dX18_pass_158 hl (by decide) rfl (fun ls hl => ?_)
      refine lv_aload hx hb dX18_pass_160 (lv_at hl 0 rfl) ?_
      have hc_10 := hP.sub (ws' := [(r_8, .inr (15, [.int 0, .int (-1), .int 0, .ref b0])), (b0, .inr (10, [.int 0, .ref (g 4), .int 0]))]) [5, 4] rfl
      refine va_callFi (va_runF (hK.1 15 _ rfl).2 (As := []) (rest := []) ⟨hx, hb, hml, hown, hts⟩ (c_IthasNext l1 z0 D g r_8 b0) (va_cwF 0 hts (lw_F m_1980 m_1984 m_1986 m_48 m_1988) rfl rfl rfl (hE.fw (i := 3) rfl) (by decide +kernel) ⟨Nat.le_trans (m := 60) (Nat.le_of_ble_eq_true rfl) hR.1, Nat.le_trans (m := 600) (Nat.le_of_ble_eq_true rfl) hR.2.1⟩) ⟨PR.blind, va_recv hK hP (ci := 15) (q0 := 5) rfl rfl, PR.pre hE hS hAz hc_10⟩ rfl rfl hl.1 rfl (lv_room (Nat.le_of_ble_eq_true rfl)) dX18_pass_162 ⟨(by have := hR.2.2.1; omega), (by have := hR.2.2.2; omega)⟩) hS nA_B nA_A (fun r_11 u_12 t H locs ht hvm hw hB hz1 hk1 hS => ?_)
      have hP := hP.old hk1
      have hP : va_P D classes [(mm, .inr (9, [.ref b0, .ref b1, .ref b2, .ref b3, .int i, .null, .null, .ref b4, .null, .ref b5, .ref b6, .int 0, .int 0, .long 0, .int 0])), (b1, .inr (10, [.int 0, .ref (g 4), .int 0])), (b2, .inr (10, [.int 0, .ref (g 4), .int 0])), (b3, .inr (11, [.null, .null, .null, .null, .int 0, .int 0, .null, .null, .null])), (b0, .inr (10, [.int 0, .ref (g 4), .int 0])), (r_8, .inr (15, [.int 0, .int (-1), .int 0, .ref b0]))] H := hP
      subst hw
      refine lv_if_eq (tgt := 205) hx hb dX18_pass_167 (by decide) (fun _ => ?_) (fun h9 => absurd (by decide) h9)
      refine lv_aload_n hx hb dX18_pass_205 rfl (lv_at hl 3 rfl) ?_
      refine lv_dup hx hb dX18_pass_206 rfl ?_
      refine va_get (D := D) (ci := 9) (v := .int i) (C := RX18) (T := TX18) (N := 15) hx hb hts i_X18 hown hK hP 0 rfl rfl 4 (by decide) (hts _ m_1185) (fun _ h9 => h9) rfl dX18_pass_207 ?_
      refine lv_iconst (v := 1) hx hb dX18_pass_210 (by decide) ?_
      refine lv_iadd hx hb dX18_pass_211 ?_
      refine va_put (D := D) (ci := 9) (v := .int (i + 1)) (ty := .int) (C := RX18) (T := TX18) (N := 15) hx hb hts i_X18 tyX18 tyX18_ok nmX18 hown hK hP hD hS 0 rfl rfl 4 (by decide) (hts _ m_1185) (fun _ h9 => h9) rfl (by decide +kernel) rfl rfl (Nat.le_of_ble_eq_true rfl) dX18_pass_212 (fun H locs hP hD hS => ?_)
      have hP : va_P D classes [(mm, .inr (9, [.ref b0, .ref b1, .ref b2, .ref b3, .int (i + 1), .null, .null, .ref b4, .null, .ref b5, .ref b6, .int 0, .int 0, .long 0, .int 0])), (b1, .inr (10, [.int 0, .ref (g 4), .int 0])), (b2, .inr (10, [.int 0, .ref (g 4), .int 0])), (b3, .inr (11, [.null, .null, .null, .null, .int 0, .int 0, .null, .null, .null])), (b0, .inr (10, [.int 0, .ref (g 4), .int 0])), (r_8, .inr (15, [.int 0, .int (-1), .int 0, .ref b0]))] H := hP
      have hD : va_D A [(mm, .inr (9, [.ref b0, .ref b1, .ref b2, .ref b3, .int (i + 1), .null, .null, .ref b4, .null, .ref b5, .ref b6, .int 0, .int 0, .long 0, .int 0])), (b1, .inr (10, [.int 0, .ref (g 4), .int 0])), (b2, .inr (10, [.int 0, .ref (g 4), .int 0])), (b3, .inr (11, [.null, .null, .null, .null, .int 0, .int 0, .null, .null, .null])), (b0, .inr (10, [.int 0, .ref (g 4), .int 0])), (r_8, .inr (15, [.int 0, .int (-1), .int 0, .ref b0]))] := hD
      refine lv_iinc (v := (i + 1)) (lv' := [(2, .int (i + 1)), (4, .ref r_8), (3, .null), (0, .ref mm), (1, .int p0)]) hx hb dX18_pass_215 hl (k := 2) rfl rfl (by decide) rfl (fun ls hl => ?_)
      refine lv_goto (tgt := 54) hx hb dX18_pass_218 (by decide) ?_
      have hP := hP.sub (ws' := [(mm, .inr (9, [.ref b0, .ref b1, .ref b2, .ref b3, .int (i + 1), .null, .null, .ref b4, .null, .ref b5, .ref b6, .int 0, .int 0, .long 0, .int 0])), (b0, .inr (10, [.int 0, .ref (g 4), .int 0])), (b1, .inr (10, [.int 0, .ref (g 4), .int 0])), (b2, .inr (10, [.int 0, .ref (g 4), .int 0])), (b3, .inr (11, [.null, .null, .null, .null, .int 0, .int 0, .null, .null, .null]))]) [0, 4, 1, 2, 3] rfl
      have hD := hD.sub (ws' := [(mm, .inr (9, [.ref b0, .ref b1, .ref b2, .ref b3, .int (i + 1), .null, .null, .ref b4, .null, .ref b5, .ref b6, .int 0, .int 0, .long 0, .int 0])), (b0, .inr (10, [.int 0, .ref (g 4), .int 0])), (b1, .inr (10, [.int 0, .ref (g 4), .int 0])), (b2, .inr (10, [.int 0, .ref (g 4), .int 0])), (b3, .inr (11, [.null, .null, .null, .null, .int 0, .int 0, .null, .null, .null]))]) [0, 4, 1, 2, 3] (by decide) rfl
      refine W.widen (k := c0 + 2 * (k + 1)) (n := s0 + 5 * (k + 1)) (by omega) (by omega) ?_
      exact ih (k + 1) (i + 1) H locs (by omega) (by omega) (by rw [ek]; exact nI_1 k) hP hD hS ls (lv_sub hl [0, 3, 4] rfl)

set_option maxHeartbeats 4000000 in
set_option maxRecDepth 100000 in
theorem c_X18_pass_ok (l : Launch) (z0 : Nat) (D : va_G) (g : Nat → Nat) (sz : Nat) (mm b0 b1 b2 b3 b4 b5 b6 : Nat) (p0 : Int32) (d : Nat) (hd : d ≤ 30) (ed : p0 = nI d) (h1 : ¬ p0 < 1) (h2 : p0 ≤ 30) (h4 : (0 + p0) ≤ 99) : Met l yX18_pass (wsp yX18_pass cX18_pass 6 (some .int)) ({ frames := 60, cells := 62, slots := 155, locals := 600 }) (va_Pc [.ref mm, .int p0] (PM z0 D g sz [(mm, .inr (9, [.ref b0, .ref b1, .ref b2, .ref b3, .int 0, .null, .null, .ref b4, .null, .ref b5, .ref b6, .int 0, .int 0, .long 0, .int 0])), (b0, .inr (10, [.int 0, .ref (g 4), .int 0])), (b1, .inr (10, [.int 0, .ref (g 4), .int 0])), (b2, .inr (10, [.int 0, .ref (g 4), .int 0])), (b3, .inr (11, [.null, .null, .null, .null, .int 0, .int 0, .null, .null, .null]))])) (va_Qi (fun (r : Int32) (_ : Unit) => r = p0) (fun (_ : Unit) t => va_P D classes [(mm, .inr (9, [.ref b0, .ref b1, .ref b2, .ref b3, .int p0, .null, .null, .ref b4, .null, .ref b5, .ref b6, .int 0, .int 0, .long 0, .int 0]))] t.heap ∧ va_D (va_A [(mm, .inr (9, [.ref b0, .ref b1, .ref b2, .ref b3, .int 0, .null, .null, .ref b4, .null, .ref b5, .ref b6, .int 0, .int 0, .long 0, .int 0])), (b0, .inr (10, [.int 0, .ref (g 4), .int 0])), (b1, .inr (10, [.int 0, .ref (g 4), .int 0])), (b2, .inr (10, [.int 0, .ref (g 4), .int 0])), (b3, .inr (11, [.null, .null, .null, .null, .int 0, .int 0, .null, .null, .null]))] sz) [(mm, .inr (9, [.ref b0, .ref b1, .ref b2, .ref b3, .int p0, .null, .null, .ref b4, .null, .ref b5, .ref b6, .int 0, .int 0, .long 0, .int 0]))]) (va_A [(mm, .inr (9, [.ref b0, .ref b1, .ref b2, .ref b3, .int 0, .null, .null, .ref b4, .null, .ref b5, .ref b6, .int 0, .int 0, .long 0, .int 0])), (b0, .inr (10, [.int 0, .ref (g 4), .int 0])), (b1, .inr (10, [.int 0, .ref (g 4), .int 0])), (b2, .inr (10, [.int 0, .ref (g 4), .int 0])), (b3, .inr (11, [.null, .null, .null, .null, .int 0, .int 0, .null, .null, .null]))] sz)) 62 155 (va_A [(mm, .inr (9, [.ref b0, .ref b1, .ref b2, .ref b3, .int 0, .null, .null, .ref b4, .null, .ref b5, .ref b6, .int 0, .int 0, .long 0, .int 0])), (b0, .inr (10, [.int 0, .ref (g 4), .int 0])), (b1, .inr (10, [.int 0, .ref (g 4), .int 0])), (b2, .inr (10, [.int 0, .ref (g 4), .int 0])), (b3, .inr (11, [.null, .null, .null, .null, .int 0, .int 0, .null, .null, .null]))] sz) := by
  refine Met.ofW (cc := cX18_pass) (maxL := 6) (ret := (some .int)) (by decide) rfl ?_
  intro p e s m args below meth c s₁ B hml hv
  obtain ⟨rfl, hsz9, hz0, hE, hP, hD0⟩ := hv
  have hx := B.exec
  have hb := B.bytes
  have hr := B.returns
  have hts0 := atoms_spec (ws := (wsp yX18_pass cX18_pass 6 (some .int))) B.pre
  have hts : ∀ w ∈ lw_all, w.before _ s = true := fun w h => hts0 w (List.mem_cons_of_mem _ h)
  have hown : s.vm.findClass "TheatrehouseModel" = some m.cls := findClass_of_methodNamed B.named
  have hlocks := B.notSynchronized
  have hK := hE.K
  subst hsz9
  have hsz := hz0
  have hAz : ∀ q, va_A [(mm, .inr (9, [.ref b0, .ref b1, .ref b2, .ref b3, .int 0, .null, .null, .ref b4, .null, .ref b5, .ref b6, .int 0, .int 0, .long 0, .int 0])), (b0, .inr (10, [.int 0, .ref (g 4), .int 0])), (b1, .inr (10, [.int 0, .ref (g 4), .int 0])), (b2, .inr (10, [.int 0, .ref (g 4), .int 0])), (b3, .inr (11, [.null, .null, .null, .null, .int 0, .int 0, .null, .null, .null]))] s.heap.size q → z0 ≤ q := vaA_z hz0 hD0
  have hD := hD0.self (sz := s.heap.size)
  generalize hAe : va_A [(mm, .inr (9, [.ref b0, .ref b1, .ref b2, .ref b3, .int 0, .null, .null, .ref b4, .null, .ref b5, .ref b6, .int 0, .int 0, .long 0, .int 0])), (b0, .inr (10, [.int 0, .ref (g 4), .int 0])), (b1, .inr (10, [.int 0, .ref (g 4), .int 0])), (b2, .inr (10, [.int 0, .ref (g 4), .int 0])), (b3, .inr (11, [.null, .null, .null, .null, .int 0, .int 0, .null, .null, .null]))] s.heap.size = A at hD hAz ⊢
  have hA : ∀ q : Nat, s.heap.size ≤ q → A q := fun q h => by rw [← hAe]; exact Or.inr h
  have hS : va_S A s.heap s.heap [] := va_S.rf
  have hP : va_P D classes [(mm, .inr (9, [.ref b0, .ref b1, .ref b2, .ref b3, .int 0, .null, .null, .ref b4, .null, .ref b5, .ref b6, .int 0, .int 0, .long 0, .int 0])), (b0, .inr (10, [.int 0, .ref (g 4), .int 0])), (b1, .inr (10, [.int 0, .ref (g 4), .int 0])), (b2, .inr (10, [.int 0, .ref (g 4), .int 0])), (b3, .inr (11, [.null, .null, .null, .null, .int 0, .int 0, .null, .null, .null]))] s.heap := hP
  have hl := lv_entry ([.ref mm, .int p0]) (n := 6) (Nat.le_of_ble_eq_true rfl)
  rw [lg_entry_eq]
  generalize (lg_sl ([.ref mm, .int p0]) ++ List.replicate (6 - (lg_sl ([.ref mm, .int p0])).length) Slot.unset).toArray = ls at hl ⊢
  have hl : lv_has ls 6 [(0, .ref mm), (1, .int p0)] := hl
  refine lv_aload_n hx hb dX18_pass_0 rfl (lv_at hl 0 rfl) ?_
  refine lv_iload_n hx hb dX18_pass_1 rfl (lv_at hl 1 rfl) ?_
  refine lv_i2l (v := (Int32.toInt64 p0)) hx hb dX18_pass_2 rfl ?_
  refine lv_lconst (v := 1) hx hb dX18_pass_3 (by decide) ?_
  refine lv_ldc2 (v := 30) hx hb hown (hts _ m_1241) dX18_pass_4 ?_
  refine va_calli (va_runS (As := [.long (Int32.toInt64 p0), .long 1, .long 30]) (rest := [.ref mm]) ⟨hx, hb, hml, hown, hts⟩ (c_in_t l z0 D g (Int32.toInt64 p0) 1 30 (r_t1 (lo := 1) (by decide) h1) (r_t2 (hi := 30) (by decide) h2)) (va_cwS 3 hts (lw_S m_1238 m_1239 m_12 m_1240) rfl rfl rfl (by decide +kernel) ⟨(Nat.le_of_ble_eq_true rfl), (Nat.le_of_ble_eq_true rfl)⟩) ⟨fun _ _ _ _ h => h, fun U _ _ => ⟨rfl, trivial⟩⟩ rfl rfl hl.1 rfl (lv_room (Nat.le_of_ble_eq_true rfl)) dX18_pass_7 ⟨(Nat.le_of_ble_eq_true rfl), (Nat.le_of_ble_eq_true rfl)⟩) hS nA_B nA_A (fun r_2 u_3 t H locs ht hvm hw hB hz1 hk1 hS => ?_)
  have hP := hP.old hk1
  have hP : va_P D classes [(mm, .inr (9, [.ref b0, .ref b1, .ref b2, .ref b3, .int 0, .null, .null, .ref b4, .null, .ref b5, .ref b6, .int 0, .int 0, .long 0, .int 0])), (b0, .inr (10, [.int 0, .ref (g 4), .int 0])), (b1, .inr (10, [.int 0, .ref (g 4), .int 0])), (b2, .inr (10, [.int 0, .ref (g 4), .int 0])), (b3, .inr (11, [.null, .null, .null, .null, .int 0, .int 0, .null, .null, .null]))] H := hP
  subst hw
  refine lv_if_eq (tgt := 24) hx hb dX18_pass_10 (by decide) (fun h9 => absurd h9 (by decide)) (fun _ => ?_)
  refine lv_aload_n hx hb dX18_pass_13 rfl (lv_at hl 0 rfl) ?_
  refine va_get (D := D) (ci := 9) (v := .int 0) (C := RX18) (T := TX18) (N := 15) hx hb hts i_X18 hown hK hP 0 rfl rfl 4 (by decide) (hts _ m_1185) (fun _ h9 => h9) rfl dX18_pass_14 ?_
  refine lv_iload_n hx hb dX18_pass_17 rfl (lv_at hl 1 rfl) ?_
  refine lv_iadd hx hb dX18_pass_18 ?_
  refine lv_bipush (v := 99) hx hb dX18_pass_19 (by decide) ?_
  refine lv_icmp_le (tgt := 28) hx hb dX18_pass_21 (by decide) (fun _ => ?_) (fun h9 => absurd h4 h9)
  refine lv_aload_n hx hb dX18_pass_28 rfl (lv_at hl 0 rfl) ?_
  refine va_get (D := D) (ci := 9) (v := .null) (C := RX18) (T := TX18) (N := 15) hx hb hts i_X18 hown hK hP 0 rfl rfl 5 (by decide) (hts _ m_1186) (fun _ h9 => h9) rfl dX18_pass_29 ?_
  refine lv_ifnullN (tgt := 39) hx hb dX18_pass_32 (by decide) ?_
  refine lv_iconst (v := 0) hx hb dX18_pass_39 (by decide) ?_
  refine va_put (D := D) (ci := 9) (v := .int 0) (ty := .int) (C := RX18) (T := TX18) (N := 15) hx hb hts i_X18 tyX18 tyX18_ok nmX18 hown hK hP hD hS 0 rfl rfl 14 (by decide) (hts _ m_1197) (fun _ h9 => h9) rfl (by decide +kernel) rfl rfl (Nat.le_of_ble_eq_true rfl) dX18_pass_40 (fun H locs hP hD hS => ?_)
  have hP : va_P D classes [(mm, .inr (9, [.ref b0, .ref b1, .ref b2, .ref b3, .int 0, .null, .null, .ref b4, .null, .ref b5, .ref b6, .int 0, .int 0, .long 0, .int 0])), (b0, .inr (10, [.int 0, .ref (g 4), .int 0])), (b1, .inr (10, [.int 0, .ref (g 4), .int 0])), (b2, .inr (10, [.int 0, .ref (g 4), .int 0])), (b3, .inr (11, [.null, .null, .null, .null, .int 0, .int 0, .null, .null, .null]))] H := hP
  have hD : va_D A [(mm, .inr (9, [.ref b0, .ref b1, .ref b2, .ref b3, .int 0, .null, .null, .ref b4, .null, .ref b5, .ref b6, .int 0, .int 0, .long 0, .int 0])), (b0, .inr (10, [.int 0, .ref (g 4), .int 0])), (b1, .inr (10, [.int 0, .ref (g 4), .int 0])), (b2, .inr (10, [.int 0, .ref (g 4), .int 0])), (b3, .inr (11, [.null, .null, .null, .null, .int 0, .int 0, .null, .null, .null]))] := hD
  refine lv_aload_n hx hb dX18_pass_43 rfl (lv_at hl 0 rfl) ?_
  refine va_get (D := D) (ci := 9) (v := .int 0) (C := RX18) (T := TX18) (N := 15) hx hb hts i_X18 hown hK hP 0 rfl rfl 14 (by decide) (hts _ m_1197) (fun _ h9 => h9) rfl dX18_pass_44 ?_
  refine lv_if_le (tgt := 52) hx hb dX18_pass_47 (by decide) (fun _ => ?_) (fun h9 => absurd (by decide) h9)
  refine lv_iconst (v := 0) hx hb dX18_pass_52 (by decide) ?_
  refine lv_istore_n (lv' := [(2, .int 0), (0, .ref mm), (1, .int p0)]) hx hb dX18_pass_53 rfl hl (by decide) rfl (fun ls hl => ?_)
  refine W.widen (k := 0 + 2 * 0) (n := 0 + 5 * 0) (Nat.le_of_ble_eq_true rfl) (Nat.le_of_ble_eq_true rfl) ?_
  refine rpass_loop l rfl 0 0 mm b0 b1 b2 b3 b4 b5 b6 p0 d hd ed hx hb hml hts hown hE hAz hA hsz hK ⟨(Nat.le_of_ble_eq_true rfl), (Nat.le_of_ble_eq_true rfl), (Nat.le_of_ble_eq_true rfl), (Nat.le_of_ble_eq_true rfl)⟩ (fun H locs hP hD hS ls hl => ?_) (d + 1) 0 0 _ _ (by omega) (by omega) nI_0.symm hP hD hS ls (lv_sub hl [0, 1, 2] rfl)
  refine lv_aload_n hx hb dX18_pass_221 rfl (lv_at hl 0 rfl) ?_
  refine va_get (D := D) (ci := 9) (v := .int p0) (C := RX18) (T := TX18) (N := 15) hx hb hts i_X18 hown hK hP 0 rfl rfl 4 (by decide) (hts _ m_1185) (fun _ h9 => h9) rfl dX18_pass_222 ?_
  have hP9 := hP.sub (ws' := [(mm, .inr (9, [.ref b0, .ref b1, .ref b2, .ref b3, .int p0, .null, .null, .ref b4, .null, .ref b5, .ref b6, .int 0, .int 0, .long 0, .int 0]))]) [0] rfl
  have hD9 := hD.sub (ws' := [(mm, .inr (9, [.ref b0, .ref b1, .ref b2, .ref b3, .int p0, .null, .null, .ref b4, .null, .ref b5, .ref b6, .int 0, .int 0, .long 0, .int 0]))]) [0] (by decide) rfl
  refine W.widen (k := 62) (n := 155) (Nat.le_of_ble_eq_true rfl) (Nat.le_of_ble_eq_true rfl) ?_
  exact W.iret (v := p0) hx hb hr (fun t ht hW => ⟨⟨p0, (), rfl, rfl, ⟨by rw [ht]; exact hP9, hD9⟩⟩, hS.F ht⟩) hS.2.2 dX18_pass_225
