theorem dJx4a65c_add_72be8_0 : decode cJx4a65c_add_72be8 0 = .ok (.iload_n 3, 1) := by decide +kernel
theorem dJx4a65c_add_72be8_1 : decode cJx4a65c_add_72be8 1 = .ok (.aload_n 2, 1) := by decide +kernel
theorem dJx4a65c_add_72be8_2 : decode cJx4a65c_add_72be8 2 = .ok (.arraylength, 1) := by decide +kernel
theorem dJx4a65c_add_72be8_3 : decode cJx4a65c_add_72be8 3 = .ok (.if_icmp .ne 8, 3) := by decide +kernel
theorem dJx4a65c_add_72be8_6 : decode cJx4a65c_add_72be8 6 = .ok (.aload_n 0, 1) := by decide +kernel
theorem dJx4a65c_add_72be8_7 : decode cJx4a65c_add_72be8 7 = .ok (.invokevirtual 129, 3) := by decide +kernel
theorem dJx4a65c_add_72be8_10 : decode cJx4a65c_add_72be8 10 = .ok (.astore_n 2, 1) := by decide +kernel
theorem dJx4a65c_add_72be8_11 : decode cJx4a65c_add_72be8 11 = .ok (.aload_n 2, 1) := by decide +kernel
theorem dJx4a65c_add_72be8_12 : decode cJx4a65c_add_72be8 12 = .ok (.iload_n 3, 1) := by decide +kernel
theorem dJx4a65c_add_72be8_13 : decode cJx4a65c_add_72be8 13 = .ok (.aload_n 1, 1) := by decide +kernel
theorem dJx4a65c_add_72be8_14 : decode cJx4a65c_add_72be8 14 = .ok (.aastore, 1) := by decide +kernel
theorem dJx4a65c_add_72be8_15 : decode cJx4a65c_add_72be8 15 = .ok (.aload_n 0, 1) := by decide +kernel
theorem dJx4a65c_add_72be8_16 : decode cJx4a65c_add_72be8 16 = .ok (.iload_n 3, 1) := by decide +kernel
theorem dJx4a65c_add_72be8_17 : decode cJx4a65c_add_72be8 17 = .ok (.iconst 1, 1) := by decide +kernel
theorem dJx4a65c_add_72be8_18 : decode cJx4a65c_add_72be8 18 = .ok (.iadd, 1) := by decide +kernel
theorem dJx4a65c_add_72be8_19 : decode cJx4a65c_add_72be8 19 = .ok (.putfield 48, 3) := by decide +kernel
theorem dJx4a65c_add_72be8_22 : decode cJx4a65c_add_72be8 22 = .ok (.return_, 1) := by decide +kernel
theorem dJx4a65c_add_9ea2d_0 : decode cJx4a65c_add_9ea2d 0 = .ok (.aload_n 0, 1) := by decide +kernel
theorem dJx4a65c_add_9ea2d_1 : decode cJx4a65c_add_9ea2d 1 = .ok (.dup, 1) := by decide +kernel
theorem dJx4a65c_add_9ea2d_2 : decode cJx4a65c_add_9ea2d 2 = .ok (.getfield 63, 3) := by decide +kernel
theorem dJx4a65c_add_9ea2d_5 : decode cJx4a65c_add_9ea2d 5 = .ok (.iconst 1, 1) := by decide +kernel
theorem dJx4a65c_add_9ea2d_6 : decode cJx4a65c_add_9ea2d 6 = .ok (.iadd, 1) := by decide +kernel
theorem dJx4a65c_add_9ea2d_7 : decode cJx4a65c_add_9ea2d 7 = .ok (.putfield 63, 3) := by decide +kernel
theorem dJx4a65c_add_9ea2d_10 : decode cJx4a65c_add_9ea2d 10 = .ok (.aload_n 0, 1) := by decide +kernel
theorem dJx4a65c_add_9ea2d_11 : decode cJx4a65c_add_9ea2d 11 = .ok (.aload_n 1, 1) := by decide +kernel
theorem dJx4a65c_add_9ea2d_12 : decode cJx4a65c_add_9ea2d 12 = .ok (.aload_n 0, 1) := by decide +kernel
theorem dJx4a65c_add_9ea2d_13 : decode cJx4a65c_add_9ea2d 13 = .ok (.getfield 9, 3) := by decide +kernel
theorem dJx4a65c_add_9ea2d_16 : decode cJx4a65c_add_9ea2d 16 = .ok (.aload_n 0, 1) := by decide +kernel
theorem dJx4a65c_add_9ea2d_17 : decode cJx4a65c_add_9ea2d 17 = .ok (.getfield 48, 3) := by decide +kernel
theorem dJx4a65c_add_9ea2d_20 : decode cJx4a65c_add_9ea2d 20 = .ok (.invokevirtual 131, 3) := by decide +kernel
theorem dJx4a65c_add_9ea2d_23 : decode cJx4a65c_add_9ea2d 23 = .ok (.iconst 1, 1) := by decide +kernel
theorem dJx4a65c_add_9ea2d_24 : decode cJx4a65c_add_9ea2d 24 = .ok (.ireturn, 1) := by decide +kernel
theorem dJx4a65c_grow_92f84_0 : decode cJx4a65c_grow_92f84 0 = .ok (.aload_n 0, 1) := by decide +kernel
theorem dJx4a65c_grow_92f84_1 : decode cJx4a65c_grow_92f84 1 = .ok (.getfield 9, 3) := by decide +kernel
theorem dJx4a65c_grow_92f84_4 : decode cJx4a65c_grow_92f84 4 = .ok (.arraylength, 1) := by decide +kernel
theorem dJx4a65c_grow_92f84_5 : decode cJx4a65c_grow_92f84 5 = .ok (.istore_n 2, 1) := by decide +kernel
theorem dJx4a65c_grow_92f84_6 : decode cJx4a65c_grow_92f84 6 = .ok (.iload_n 2, 1) := by decide +kernel
theorem dJx4a65c_grow_92f84_7 : decode cJx4a65c_grow_92f84 7 = .ok (.ifCond .gt 13, 3) := by decide +kernel
theorem dJx4a65c_grow_92f84_10 : decode cJx4a65c_grow_92f84 10 = .ok (.aload_n 0, 1) := by decide +kernel
theorem dJx4a65c_grow_92f84_11 : decode cJx4a65c_grow_92f84 11 = .ok (.getfield 9, 3) := by decide +kernel
theorem dJx4a65c_grow_92f84_14 : decode cJx4a65c_grow_92f84 14 = .ok (.getstatic 39, 3) := by decide +kernel
theorem dJx4a65c_grow_92f84_17 : decode cJx4a65c_grow_92f84 17 = .ok (.if_acmp .eq 28, 3) := by decide +kernel
theorem dJx4a65c_grow_92f84_45 : decode cJx4a65c_grow_92f84 45 = .ok (.aload_n 0, 1) := by decide +kernel
theorem dJx4a65c_grow_92f84_46 : decode cJx4a65c_grow_92f84 46 = .ok (.bipush 10, 2) := by decide +kernel
theorem dJx4a65c_grow_92f84_48 : decode cJx4a65c_grow_92f84 48 = .ok (.iload_n 1, 1) := by decide +kernel
theorem dJx4a65c_grow_92f84_49 : decode cJx4a65c_grow_92f84 49 = .ok (.invokestatic 79, 3) := by decide +kernel
theorem dJx4a65c_grow_92f84_52 : decode cJx4a65c_grow_92f84 52 = .ok (.anewarray 7, 3) := by decide +kernel
theorem dJx4a65c_grow_92f84_55 : decode cJx4a65c_grow_92f84 55 = .ok (.dup_x1, 1) := by decide +kernel
theorem dJx4a65c_grow_92f84_56 : decode cJx4a65c_grow_92f84 56 = .ok (.putfield 9, 3) := by decide +kernel
theorem dJx4a65c_grow_92f84_59 : decode cJx4a65c_grow_92f84 59 = .ok (.areturn, 1) := by decide +kernel
theorem dJx4a65c_grow_d5877_0 : decode cJx4a65c_grow_d5877 0 = .ok (.aload_n 0, 1) := by decide +kernel
theorem dJx4a65c_grow_d5877_1 : decode cJx4a65c_grow_d5877 1 = .ok (.aload_n 0, 1) := by decide +kernel
theorem dJx4a65c_grow_d5877_2 : decode cJx4a65c_grow_d5877 2 = .ok (.getfield 48, 3) := by decide +kernel
theorem dJx4a65c_grow_d5877_5 : decode cJx4a65c_grow_d5877 5 = .ok (.iconst 1, 1) := by decide +kernel
theorem dJx4a65c_grow_d5877_6 : decode cJx4a65c_grow_d5877 6 = .ok (.iadd, 1) := by decide +kernel
theorem dJx4a65c_grow_d5877_7 : decode cJx4a65c_grow_d5877 7 = .ok (.invokevirtual 69, 3) := by decide +kernel
theorem dJx4a65c_grow_d5877_10 : decode cJx4a65c_grow_d5877 10 = .ok (.areturn, 1) := by decide +kernel
theorem dX14_init_0 : decode cX14_init 0 = .ok (.aload_n 0, 1) := by decide +kernel
theorem dX14_init_1 : decode cX14_init 1 = .ok (.invokespecial 3, 3) := by decide +kernel
theorem dX14_init_4 : decode cX14_init 4 = .ok (.aload_n 0, 1) := by decide +kernel
theorem dX14_init_5 : decode cX14_init 5 = .ok (.iconst (-1), 1) := by decide +kernel
theorem dX14_init_6 : decode cX14_init 6 = .ok (.putfield 9, 3) := by decide +kernel
theorem dX14_init_9 : decode cX14_init 9 = .ok (.aload_n 0, 1) := by decide +kernel
theorem dX14_init_10 : decode cX14_init 10 = .ok (.iload_n 1, 1) := by decide +kernel
theorem dX14_init_11 : decode cX14_init 11 = .ok (.putfield 15, 3) := by decide +kernel
theorem dX14_init_14 : decode cX14_init 14 = .ok (.aload_n 0, 1) := by decide +kernel
theorem dX14_init_15 : decode cX14_init 15 = .ok (.iload_n 2, 1) := by decide +kernel
theorem dX14_init_16 : decode cX14_init 16 = .ok (.putfield 18, 3) := by decide +kernel
theorem dX14_init_19 : decode cX14_init 19 = .ok (.return_, 1) := by decide +kernel
theorem dX15_init_0 : decode cX15_init 0 = .ok (.aload_n 0, 1) := by decide +kernel
theorem dX15_init_1 : decode cX15_init 1 = .ok (.invokespecial 3, 3) := by decide +kernel
theorem dX15_init_4 : decode cX15_init 4 = .ok (.aload_n 0, 1) := by decide +kernel
theorem dX15_init_5 : decode cX15_init 5 = .ok (.iconst (-1), 1) := by decide +kernel
theorem dX15_init_6 : decode cX15_init 6 = .ok (.putfield 9, 3) := by decide +kernel
theorem dX15_init_9 : decode cX15_init 9 = .ok (.aload_n 0, 1) := by decide +kernel
theorem dX15_init_10 : decode cX15_init 10 = .ok (.iconst (-1), 1) := by decide +kernel
theorem dX15_init_11 : decode cX15_init 11 = .ok (.putfield 15, 3) := by decide +kernel
theorem dX15_init_14 : decode cX15_init 14 = .ok (.aload_n 0, 1) := by decide +kernel
theorem dX15_init_15 : decode cX15_init 15 = .ok (.iload_n 1, 1) := by decide +kernel
theorem dX15_init_16 : decode cX15_init 16 = .ok (.putfield 18, 3) := by decide +kernel
theorem dX15_init_19 : decode cX15_init 19 = .ok (.aload_n 0, 1) := by decide +kernel
theorem dX15_init_20 : decode cX15_init 20 = .ok (.iload_n 2, 1) := by decide +kernel
theorem dX15_init_21 : decode cX15_init 21 = .ok (.putfield 21, 3) := by decide +kernel
theorem dX15_init_24 : decode cX15_init 24 = .ok (.aload_n 0, 1) := by decide +kernel
theorem dX15_init_25 : decode cX15_init 25 = .ok (.iload_n 2, 1) := by decide +kernel
theorem dX15_init_26 : decode cX15_init 26 = .ok (.putfield 24, 3) := by decide +kernel
theorem dX15_init_29 : decode cX15_init 29 = .ok (.return_, 1) := by decide +kernel
theorem dX17_init_0 : decode cX17_init 0 = .ok (.aload_n 0, 1) := by decide +kernel
theorem dX17_init_1 : decode cX17_init 1 = .ok (.invokespecial 1, 3) := by decide +kernel
theorem dX17_init_4 : decode cX17_init 4 = .ok (.aload_n 0, 1) := by decide +kernel
theorem dX17_init_5 : decode cX17_init 5 = .ok (.new 7, 3) := by decide +kernel
theorem dX17_init_8 : decode cX17_init 8 = .ok (.dup, 1) := by decide +kernel
theorem dX17_init_9 : decode cX17_init 9 = .ok (.invokespecial 9, 3) := by decide +kernel
theorem dX17_init_12 : decode cX17_init 12 = .ok (.putfield 10, 3) := by decide +kernel
theorem dX17_init_15 : decode cX17_init 15 = .ok (.aload_n 0, 1) := by decide +kernel
theorem dX17_init_16 : decode cX17_init 16 = .ok (.iload_n 1, 1) := by decide +kernel
theorem dX17_init_17 : decode cX17_init 17 = .ok (.newarray .int, 2) := by decide +kernel
theorem dX17_init_19 : decode cX17_init 19 = .ok (.putfield 16, 3) := by decide +kernel
theorem dX17_init_22 : decode cX17_init 22 = .ok (.aload_n 0, 1) := by decide +kernel
theorem dX17_init_23 : decode cX17_init 23 = .ok (.iload_n 1, 1) := by decide +kernel
theorem dX17_init_24 : decode cX17_init 24 = .ok (.newarray .boolean, 2) := by decide +kernel
theorem dX17_init_26 : decode cX17_init 26 = .ok (.putfield 20, 3) := by decide +kernel
theorem dX17_init_29 : decode cX17_init 29 = .ok (.aload_n 0, 1) := by decide +kernel
theorem dX17_init_30 : decode cX17_init 30 = .ok (.iload_n 2, 1) := by decide +kernel
theorem dX17_init_31 : decode cX17_init 31 = .ok (.putfield 24, 3) := by decide +kernel
theorem dX17_init_34 : decode cX17_init 34 = .ok (.return_, 1) := by decide +kernel
theorem dX18_addMachine_29 : decode cX18_addMachine 29 = .ok (.aload_n 0, 1) := by decide +kernel
theorem dX18_addMachine_30 : decode cX18_addMachine 30 = .ok (.getfield 16, 3) := by decide +kernel
theorem dX18_addMachine_33 : decode cX18_addMachine 33 = .ok (.invokeinterface 43 1, 5) := by decide +kernel
theorem dX18_addMachine_38 : decode cX18_addMachine 38 = .ok (.bipush 6, 2) := by decide +kernel
theorem dX18_addMachine_40 : decode cX18_addMachine 40 = .ok (.if_icmp .eq 10, 3) := by decide +kernel
theorem dX18_addMachine_43 : decode cX18_addMachine 43 = .ok (.aload_n 0, 1) := by decide +kernel
theorem dX18_addMachine_44 : decode cX18_addMachine 44 = .ok (.getfield 57, 3) := by decide +kernel
theorem dX18_addMachine_47 : decode cX18_addMachine 47 = .ok (.ifnull 7, 3) := by decide +kernel
theorem dX18_addMachine_54 : decode cX18_addMachine 54 = .ok (.iconst 0, 1) := by decide +kernel
theorem dX18_addMachine_67 : decode cX18_addMachine 67 = .ok (.aload_n 0, 1) := by decide +kernel
theorem dX18_addMachine_68 : decode cX18_addMachine 68 = .ok (.getfield 16, 3) := by decide +kernel
theorem dX18_addMachine_71 : decode cX18_addMachine 71 = .ok (.new 91, 3) := by decide +kernel
theorem dX18_addMachine_74 : decode cX18_addMachine 74 = .ok (.dup, 1) := by decide +kernel
theorem dX18_addMachine_75 : decode cX18_addMachine 75 = .ok (.iload_n 1, 1) := by decide +kernel
theorem dX18_addMachine_76 : decode cX18_addMachine 76 = .ok (.iload_n 2, 1) := by decide +kernel
theorem dX18_addMachine_77 : decode cX18_addMachine 77 = .ok (.invokespecial 93, 3) := by decide +kernel
theorem dX18_addMachine_80 : decode cX18_addMachine 80 = .ok (.invokeinterface 66 2, 5) := by decide +kernel
theorem dX18_addMachine_85 : decode cX18_addMachine 85 = .ok (.pop, 1) := by decide +kernel
theorem dX18_addMachine_86 : decode cX18_addMachine 86 = .ok (.aload_n 0, 1) := by decide +kernel
theorem dX18_addMachine_87 : decode cX18_addMachine 87 = .ok (.getfield 16, 3) := by decide +kernel
theorem dX18_addMachine_90 : decode cX18_addMachine 90 = .ok (.invokeinterface 43 1, 5) := by decide +kernel
theorem dX18_addMachine_95 : decode cX18_addMachine 95 = .ok (.iconst 1, 1) := by decide +kernel
theorem dX18_addMachine_96 : decode cX18_addMachine 96 = .ok (.isub, 1) := by decide +kernel
theorem dX18_addMachine_97 : decode cX18_addMachine 97 = .ok (.ireturn, 1) := by decide +kernel
theorem dX18_addPerson_29 : decode cX18_addPerson 29 = .ok (.aload_n 0, 1) := by decide +kernel
theorem dX18_addPerson_30 : decode cX18_addPerson 30 = .ok (.getfield 10, 3) := by decide +kernel
theorem dX18_addPerson_33 : decode cX18_addPerson 33 = .ok (.invokeinterface 43 1, 5) := by decide +kernel
theorem dX18_addPerson_38 : decode cX18_addPerson 38 = .ok (.bipush 10, 2) := by decide +kernel
theorem dX18_addPerson_40 : decode cX18_addPerson 40 = .ok (.if_icmp .eq 10, 3) := by decide +kernel
theorem dX18_addPerson_43 : decode cX18_addPerson 43 = .ok (.aload_n 0, 1) := by decide +kernel
theorem dX18_addPerson_44 : decode cX18_addPerson 44 = .ok (.getfield 57, 3) := by decide +kernel
theorem dX18_addPerson_47 : decode cX18_addPerson 47 = .ok (.ifnull 7, 3) := by decide +kernel
theorem dX18_addPerson_54 : decode cX18_addPerson 54 = .ok (.iconst 0, 1) := by decide +kernel
theorem dX18_addPerson_67 : decode cX18_addPerson 67 = .ok (.aload_n 0, 1) := by decide +kernel
theorem dX18_addPerson_68 : decode cX18_addPerson 68 = .ok (.getfield 10, 3) := by decide +kernel
theorem dX18_addPerson_71 : decode cX18_addPerson 71 = .ok (.new 61, 3) := by decide +kernel
theorem dX18_addPerson_74 : decode cX18_addPerson 74 = .ok (.dup, 1) := by decide +kernel
theorem dX18_addPerson_75 : decode cX18_addPerson 75 = .ok (.iload_n 1, 1) := by decide +kernel
theorem dX18_addPerson_76 : decode cX18_addPerson 76 = .ok (.iload_n 2, 1) := by decide +kernel
theorem dX18_addPerson_77 : decode cX18_addPerson 77 = .ok (.invokespecial 63, 3) := by decide +kernel
theorem dX18_addPerson_80 : decode cX18_addPerson 80 = .ok (.invokeinterface 66 2, 5) := by decide +kernel
theorem dX18_addPerson_85 : decode cX18_addPerson 85 = .ok (.pop, 1) := by decide +kernel
theorem dX18_addPerson_86 : decode cX18_addPerson 86 = .ok (.aload_n 0, 1) := by decide +kernel
theorem dX18_addPerson_87 : decode cX18_addPerson 87 = .ok (.getfield 10, 3) := by decide +kernel
theorem dX18_addPerson_90 : decode cX18_addPerson 90 = .ok (.invokeinterface 43 1, 5) := by decide +kernel
theorem dX18_addPerson_95 : decode cX18_addPerson 95 = .ok (.iconst 1, 1) := by decide +kernel
theorem dX18_addPerson_96 : decode cX18_addPerson 96 = .ok (.isub, 1) := by decide +kernel
theorem dX18_addPerson_97 : decode cX18_addPerson 97 = .ok (.ireturn, 1) := by decide +kernel
theorem dX18_addWork_29 : decode cX18_addWork 29 = .ok (.aload_n 0, 1) := by decide +kernel
theorem dX18_addWork_30 : decode cX18_addWork 30 = .ok (.getfield 19, 3) := by decide +kernel
theorem dX18_addWork_33 : decode cX18_addWork 33 = .ok (.invokeinterface 43 1, 5) := by decide +kernel
theorem dX18_addWork_38 : decode cX18_addWork 38 = .ok (.iconst 3, 1) := by decide +kernel
theorem dX18_addWork_39 : decode cX18_addWork 39 = .ok (.if_icmp .eq 10, 3) := by decide +kernel
theorem dX18_addWork_42 : decode cX18_addWork 42 = .ok (.aload_n 0, 1) := by decide +kernel
theorem dX18_addWork_43 : decode cX18_addWork 43 = .ok (.getfield 57, 3) := by decide +kernel
theorem dX18_addWork_46 : decode cX18_addWork 46 = .ok (.ifnull 7, 3) := by decide +kernel
theorem dX18_addWork_53 : decode cX18_addWork 53 = .ok (.iconst 0, 1) := by decide +kernel
theorem dX18_addWork_66 : decode cX18_addWork 66 = .ok (.aload_n 0, 1) := by decide +kernel
theorem dX18_addWork_67 : decode cX18_addWork 67 = .ok (.getfield 19, 3) := by decide +kernel
theorem dX18_addWork_70 : decode cX18_addWork 70 = .ok (.new 110, 3) := by decide +kernel
theorem dX18_addWork_73 : decode cX18_addWork 73 = .ok (.dup, 1) := by decide +kernel
theorem dX18_addWork_74 : decode cX18_addWork 74 = .ok (.iload_n 1, 1) := by decide +kernel
theorem dX18_addWork_75 : decode cX18_addWork 75 = .ok (.iload_n 2, 1) := by decide +kernel
theorem dX18_addWork_76 : decode cX18_addWork 76 = .ok (.invokespecial 112, 3) := by decide +kernel
theorem dX18_addWork_79 : decode cX18_addWork 79 = .ok (.invokeinterface 66 2, 5) := by decide +kernel
theorem dX18_addWork_84 : decode cX18_addWork 84 = .ok (.pop, 1) := by decide +kernel
theorem dX18_addWork_85 : decode cX18_addWork 85 = .ok (.aload_n 0, 1) := by decide +kernel
theorem dX18_addWork_86 : decode cX18_addWork 86 = .ok (.getfield 19, 3) := by decide +kernel
theorem dX18_addWork_89 : decode cX18_addWork 89 = .ok (.invokeinterface 43 1, 5) := by decide +kernel
theorem dX18_addWork_94 : decode cX18_addWork 94 = .ok (.iconst 1, 1) := by decide +kernel
theorem dX18_addWork_95 : decode cX18_addWork 95 = .ok (.isub, 1) := by decide +kernel
theorem dX18_addWork_96 : decode cX18_addWork 96 = .ok (.ireturn, 1) := by decide +kernel
theorem m_23 : (Cond.initialized "TheatrehouseModel$Person") ∈ lw_all := lw_in 23 (by decide +kernel) (by decide +kernel)
theorem m_25 : (Cond.initialized "java/lang/Math") ∈ lw_all := lw_in 25 (by decide +kernel) (by decide +kernel)
theorem m_33 : (Cond.initialized "TheatrehouseModel$Machine") ∈ lw_all := lw_in 33 (by decide +kernel) (by decide +kernel)
theorem m_34 : (Cond.initialized "TheatrehouseModel$Work") ∈ lw_all := lw_in 34 (by decide +kernel) (by decide +kernel)
theorem m_125 : (Cond.arrayClass Jvm.ClassFile.FieldType.int) ∈ lw_all := lw_in 125 (by decide +kernel) (by decide +kernel)
theorem m_126 : (Cond.arrayClass Jvm.ClassFile.FieldType.boolean) ∈ lw_all := lw_in 126 (by decide +kernel) (by decide +kernel)
theorem m_512 : (Cond.static ⟨"java/lang/Math", "max", "(II)I"⟩) ∈ lw_all := lw_in 512 (by decide +kernel) (by decide +kernel)
theorem m_513 : (Cond.code ⟨"java/lang/Math", "max", "(II)I"⟩ prog_39_method_65_code 2 (Option.some Jvm.ClassFile.FieldType.int)) ∈ lw_all := lw_in 513 (by decide +kernel) (by decide +kernel)
theorem m_1118 : (Cond.instantiable "java/util/ArrayList" 3) ∈ lw_all := lw_in 1118 (by decide +kernel) (by decide +kernel)
theorem m_1120 : (Cond.instanceMethod ⟨"java/util/ArrayList", "<init>", "()V"⟩) ∈ lw_all := lw_in 1120 (by decide +kernel) (by decide +kernel)
theorem m_1121 : (Cond.code ⟨"java/util/ArrayList", "<init>", "()V"⟩ prog_55_method_2_code 1 (Option.none : Option Jvm.ClassFile.FieldType)) ∈ lw_all := lw_in 1121 (by decide +kernel) (by decide +kernel)
theorem m_1138 : (Cond.fieldLink "java/util/ArrayList" 63 "java/util/ArrayList" "modCount" "I") ∈ lw_all := lw_in 1138 (by decide +kernel) (by decide +kernel)
theorem m_1252 : (Cond.classLink "TheatrehouseModel" 61 "TheatrehouseModel$Person") ∈ lw_all := lw_in 1252 (by decide +kernel) (by decide +kernel)
theorem m_1253 : (Cond.instantiable "TheatrehouseModel$Person" 6) ∈ lw_all := lw_in 1253 (by decide +kernel) (by decide +kernel)
theorem m_1254 : (Cond.methodLink "TheatrehouseModel" 63 ⟨"TheatrehouseModel$Person", "<init>", "(II)V"⟩) ∈ lw_all := lw_in 1254 (by decide +kernel) (by decide +kernel)
theorem m_1255 : (Cond.instanceMethod ⟨"TheatrehouseModel$Person", "<init>", "(II)V"⟩) ∈ lw_all := lw_in 1255 (by decide +kernel) (by decide +kernel)
theorem m_1256 : (Cond.code ⟨"TheatrehouseModel$Person", "<init>", "(II)V"⟩ prog_18_method_1_code 3 (Option.none : Option Jvm.ClassFile.FieldType)) ∈ lw_all := lw_in 1256 (by decide +kernel) (by decide +kernel)
theorem m_1257 : (Cond.methodLink "TheatrehouseModel$Person" 3 ⟨"java/lang/Object", "<init>", "()V"⟩) ∈ lw_all := lw_in 1257 (by decide +kernel) (by decide +kernel)
theorem m_1258 : (Cond.fieldLink "TheatrehouseModel$Person" 18 "TheatrehouseModel$Person" "fee" "I") ∈ lw_all := lw_in 1258 (by decide +kernel) (by decide +kernel)
theorem m_1260 : (Cond.fieldLink "TheatrehouseModel$Person" 21 "TheatrehouseModel$Person" "most" "I") ∈ lw_all := lw_in 1260 (by decide +kernel) (by decide +kernel)
theorem m_1262 : (Cond.fieldLink "TheatrehouseModel$Person" 24 "TheatrehouseModel$Person" "voice" "I") ∈ lw_all := lw_in 1262 (by decide +kernel) (by decide +kernel)
theorem m_1264 : (Cond.fieldLink "TheatrehouseModel$Person" 9 "TheatrehouseModel$Person" "cover" "I") ∈ lw_all := lw_in 1264 (by decide +kernel) (by decide +kernel)
theorem m_1266 : (Cond.fieldLink "TheatrehouseModel$Person" 15 "TheatrehouseModel$Person" "ill" "I") ∈ lw_all := lw_in 1266 (by decide +kernel) (by decide +kernel)
theorem m_1283 : (Cond.methodLink "TheatrehouseModel" 66 ⟨"java/util/List", "add", "(Ljava/lang/Object;)Z"⟩) ∈ lw_all := lw_in 1283 (by decide +kernel) (by decide +kernel)
theorem m_1286 : (Cond.selects "java/util/ArrayList" ⟨"java/util/List", "add", "(Ljava/lang/Object;)Z"⟩ ⟨"java/util/ArrayList", "add", "(Ljava/lang/Object;)Z"⟩) ∈ lw_all := lw_in 1286 (by decide +kernel) (by decide +kernel)
theorem m_1288 : (Cond.instanceMethod ⟨"java/util/ArrayList", "add", "(Ljava/lang/Object;)Z"⟩) ∈ lw_all := lw_in 1288 (by decide +kernel) (by decide +kernel)
theorem m_1290 : (Cond.code ⟨"java/util/ArrayList", "add", "(Ljava/lang/Object;)Z"⟩ prog_55_method_25_code 2 (Option.some Jvm.ClassFile.FieldType.boolean)) ∈ lw_all := lw_in 1290 (by decide +kernel) (by decide +kernel)
theorem m_1291 : (Cond.methodLink "java/util/ArrayList" 131 ⟨"java/util/ArrayList", "add", "(Ljava/lang/Object;[Ljava/lang/Object;I)V"⟩) ∈ lw_all := lw_in 1291 (by decide +kernel) (by decide +kernel)
theorem m_1293 : (Cond.instanceMethod ⟨"java/util/ArrayList", "add", "(Ljava/lang/Object;[Ljava/lang/Object;I)V"⟩) ∈ lw_all := lw_in 1293 (by decide +kernel) (by decide +kernel)
theorem m_1294 : (Cond.code ⟨"java/util/ArrayList", "add", "(Ljava/lang/Object;[Ljava/lang/Object;I)V"⟩ prog_55_method_24_code 4 (Option.none : Option Jvm.ClassFile.FieldType)) ∈ lw_all := lw_in 1294 (by decide +kernel) (by decide +kernel)
theorem m_1295 : (Cond.methodLink "java/util/ArrayList" 129 ⟨"java/util/ArrayList", "grow", "()[Ljava/lang/Object;"⟩) ∈ lw_all := lw_in 1295 (by decide +kernel) (by decide +kernel)
theorem m_1297 : (Cond.instanceMethod ⟨"java/util/ArrayList", "grow", "()[Ljava/lang/Object;"⟩) ∈ lw_all := lw_in 1297 (by decide +kernel) (by decide +kernel)
theorem m_1298 : (Cond.code ⟨"java/util/ArrayList", "grow", "()[Ljava/lang/Object;"⟩ prog_55_method_7_code 1 (Option.some (Jvm.ClassFile.FieldType.array (Jvm.ClassFile.FieldType.object "java/lang/Object")))) ∈ lw_all := lw_in 1298 (by decide +kernel) (by decide +kernel)
theorem m_1299 : (Cond.methodLink "java/util/ArrayList" 69 ⟨"java/util/ArrayList", "grow", "(I)[Ljava/lang/Object;"⟩) ∈ lw_all := lw_in 1299 (by decide +kernel) (by decide +kernel)
theorem m_1301 : (Cond.instanceMethod ⟨"java/util/ArrayList", "grow", "(I)[Ljava/lang/Object;"⟩) ∈ lw_all := lw_in 1301 (by decide +kernel) (by decide +kernel)
theorem m_1302 : (Cond.code ⟨"java/util/ArrayList", "grow", "(I)[Ljava/lang/Object;"⟩ prog_55_method_6_code 4 (Option.some (Jvm.ClassFile.FieldType.array (Jvm.ClassFile.FieldType.object "java/lang/Object")))) ∈ lw_all := lw_in 1302 (by decide +kernel) (by decide +kernel)
theorem m_1365 : (Cond.methodLink "java/util/ArrayList" 79 ⟨"java/lang/Math", "max", "(II)I"⟩) ∈ lw_all := lw_in 1365 (by decide +kernel) (by decide +kernel)
theorem m_1366 : (Cond.classLink "java/util/ArrayList" 7 "java/lang/Object") ∈ lw_all := lw_in 1366 (by decide +kernel) (by decide +kernel)
theorem m_1404 : (Cond.classLink "TheatrehouseModel" 91 "TheatrehouseModel$Machine") ∈ lw_all := lw_in 1404 (by decide +kernel) (by decide +kernel)
theorem m_1405 : (Cond.instantiable "TheatrehouseModel$Machine" 5) ∈ lw_all := lw_in 1405 (by decide +kernel) (by decide +kernel)
theorem m_1406 : (Cond.methodLink "TheatrehouseModel" 93 ⟨"TheatrehouseModel$Machine", "<init>", "(II)V"⟩) ∈ lw_all := lw_in 1406 (by decide +kernel) (by decide +kernel)
theorem m_1407 : (Cond.instanceMethod ⟨"TheatrehouseModel$Machine", "<init>", "(II)V"⟩) ∈ lw_all := lw_in 1407 (by decide +kernel) (by decide +kernel)
theorem m_1408 : (Cond.code ⟨"TheatrehouseModel$Machine", "<init>", "(II)V"⟩ prog_17_method_1_code 3 (Option.none : Option Jvm.ClassFile.FieldType)) ∈ lw_all := lw_in 1408 (by decide +kernel) (by decide +kernel)
theorem m_1409 : (Cond.methodLink "TheatrehouseModel$Machine" 3 ⟨"java/lang/Object", "<init>", "()V"⟩) ∈ lw_all := lw_in 1409 (by decide +kernel) (by decide +kernel)
theorem m_1410 : (Cond.fieldLink "TheatrehouseModel$Machine" 15 "TheatrehouseModel$Machine" "zone" "I") ∈ lw_all := lw_in 1410 (by decide +kernel) (by decide +kernel)
theorem m_1412 : (Cond.fieldLink "TheatrehouseModel$Machine" 18 "TheatrehouseModel$Machine" "limit" "I") ∈ lw_all := lw_in 1412 (by decide +kernel) (by decide +kernel)
theorem m_1414 : (Cond.fieldLink "TheatrehouseModel$Machine" 9 "TheatrehouseModel$Machine" "other" "I") ∈ lw_all := lw_in 1414 (by decide +kernel) (by decide +kernel)
theorem m_1443 : (Cond.classLink "TheatrehouseModel" 110 "TheatrehouseModel$Work") ∈ lw_all := lw_in 1443 (by decide +kernel) (by decide +kernel)
theorem m_1444 : (Cond.instantiable "TheatrehouseModel$Work" 5) ∈ lw_all := lw_in 1444 (by decide +kernel) (by decide +kernel)
theorem m_1445 : (Cond.methodLink "TheatrehouseModel" 112 ⟨"TheatrehouseModel$Work", "<init>", "(II)V"⟩) ∈ lw_all := lw_in 1445 (by decide +kernel) (by decide +kernel)
theorem m_1446 : (Cond.instanceMethod ⟨"TheatrehouseModel$Work", "<init>", "(II)V"⟩) ∈ lw_all := lw_in 1446 (by decide +kernel) (by decide +kernel)
theorem m_1447 : (Cond.code ⟨"TheatrehouseModel$Work", "<init>", "(II)V"⟩ prog_20_method_1_code 3 (Option.none : Option Jvm.ClassFile.FieldType)) ∈ lw_all := lw_in 1447 (by decide +kernel) (by decide +kernel)
theorem m_1448 : (Cond.methodLink "TheatrehouseModel$Work" 1 ⟨"java/lang/Object", "<init>", "()V"⟩) ∈ lw_all := lw_in 1448 (by decide +kernel) (by decide +kernel)
theorem m_1449 : (Cond.classLink "TheatrehouseModel$Work" 7 "java/util/ArrayList") ∈ lw_all := lw_in 1449 (by decide +kernel) (by decide +kernel)
theorem m_1450 : (Cond.methodLink "TheatrehouseModel$Work" 9 ⟨"java/util/ArrayList", "<init>", "()V"⟩) ∈ lw_all := lw_in 1450 (by decide +kernel) (by decide +kernel)
theorem m_1451 : (Cond.fieldLink "TheatrehouseModel$Work" 16 "TheatrehouseModel$Work" "people" "[I") ∈ lw_all := lw_in 1451 (by decide +kernel) (by decide +kernel)
theorem m_1453 : (Cond.fieldLink "TheatrehouseModel$Work" 20 "TheatrehouseModel$Work" "isSet" "[Z") ∈ lw_all := lw_in 1453 (by decide +kernel) (by decide +kernel)
theorem m_1455 : (Cond.fieldLink "TheatrehouseModel$Work" 24 "TheatrehouseModel$Work" "price" "I") ∈ lw_all := lw_in 1455 (by decide +kernel) (by decide +kernel)
theorem m_1457 : (Cond.fieldLink "TheatrehouseModel$Work" 10 "TheatrehouseModel$Work" "cues" "Ljava/util/List;") ∈ lw_all := lw_in 1457 (by decide +kernel) (by decide +kernel)
theorem mp_25 : (Cond.selects "java/util/ArrayList" ⟨"java/util/ArrayList", "add", "(Ljava/lang/Object;[Ljava/lang/Object;I)V"⟩ ⟨"java/util/ArrayList", "add", "(Ljava/lang/Object;[Ljava/lang/Object;I)V"⟩) ∈ lw_all := lw_inp 25 (by decide +kernel) (by decide +kernel)
theorem mp_26 : (Cond.selects "java/util/ArrayList" ⟨"java/util/ArrayList", "grow", "()[Ljava/lang/Object;"⟩ ⟨"java/util/ArrayList", "grow", "()[Ljava/lang/Object;"⟩) ∈ lw_all := lw_inp 26 (by decide +kernel) (by decide +kernel)
theorem mp_27 : (Cond.selects "java/util/ArrayList" ⟨"java/util/ArrayList", "grow", "(I)[Ljava/lang/Object;"⟩ ⟨"java/util/ArrayList", "grow", "(I)[Ljava/lang/Object;"⟩) ∈ lw_all := lw_inp 27 (by decide +kernel) (by decide +kernel)
theorem mn_2969 : (Cond.castable "TheatrehouseModel$Person" "java/lang/Object") ∈ lw_ng := lw_inn 2969 (by decide +kernel) (by decide +kernel)
theorem mn_2972 : (Cond.castable "TheatrehouseModel$Machine" "java/lang/Object") ∈ lw_ng := lw_inn 2972 (by decide +kernel) (by decide +kernel)
theorem mn_2973 : (Cond.castable "TheatrehouseModel$Work" "java/lang/Object") ∈ lw_ng := lw_inn 2973 (by decide +kernel) (by decide +kernel)
set_option maxHeartbeats 4000000 in
set_option maxRecDepth 100000 in
theorem c_growI (l : Launch) (z0 : Nat) (D : va_G) (g : Nat → Nat) (sz : Nat) (b : Nat) : Met l yJx4a65c_grow_92f84 (wsp yJx4a65c_grow_92f84 cJx4a65c_grow_92f84 4 (some (.array (.object "java/lang/Object")))) ({ frames := 1, cells := 1, slots := 10, locals := 24 }) (va_Pc [.ref b, .int 1] (PM z0 D g sz [(b, .inr (10, [.int 1, .ref (g 4), .int 0]))])) (va_Qr (fun (_ : Unit) => True) (fun _ a t => ∃ cA9 : ClassId, va_K D classes [(cA9, .object "java/lang/Object")] t ∧ va_P D classes [(b, .inr (10, [.int 1, .ref a, .int 0])), (a, .inl (cA9, 10, .inr (.inr (.inr (.inr (fun _ => none))))))] t.heap ∧ va_D (va_A [(b, .inr (10, [.int 1, .ref (g 4), .int 0]))] sz) [(b, .inr (10, [.int 1, .ref a, .int 0])), (a, .inl (cA9, 10, .inr (.inr (.inr (.inr (fun _ => none))))))]) (va_A [(b, .inr (10, [.int 1, .ref (g 4), .int 0]))] sz)) 1 10 (va_A [(b, .inr (10, [.int 1, .ref (g 4), .int 0]))] sz) := by
  refine Met.ofW (cc := cJx4a65c_grow_92f84) (maxL := 4) (ret := (some (.array (.object "java/lang/Object")))) (by decide) rfl ?_
  intro p e s m args below meth c s₁ B hml hv
  obtain ⟨rfl, hsz9, hz0, hE, hP, hD0⟩ := hv
  have hx := B.exec
  have hb := B.bytes
  have hr := B.returns
  have hts0 := atoms_spec (ws := (wsp yJx4a65c_grow_92f84 cJx4a65c_grow_92f84 4 (some (.array (.object "java/lang/Object"))))) B.pre
  have hts : ∀ w ∈ lw_all, w.before _ s = true := fun w h => hts0 w (List.mem_cons_of_mem _ h)
  have hown : s.vm.findClass "java/util/ArrayList" = some m.cls := findClass_of_methodNamed B.named
  have hlocks := B.notSynchronized
  have hK := hE.K
  subst hsz9
  have hsz := hz0
  have hAz : ∀ q, va_A [(b, .inr (10, [.int 1, .ref (g 4), .int 0]))] s.heap.size q → z0 ≤ q := vaA_z hz0 hD0
  have hD := hD0.self (sz := s.heap.size)
  generalize hAe : va_A [(b, .inr (10, [.int 1, .ref (g 4), .int 0]))] s.heap.size = A at hD hAz ⊢
  have hA : ∀ q : Nat, s.heap.size ≤ q → A q := fun q h => by rw [← hAe]; exact Or.inr h
  have hS : va_S A s.heap s.heap [] := va_S.rf
  have hP : va_P D classes [(b, .inr (10, [.int 1, .ref (g 4), .int 0]))] s.heap := hP
  have hl := lv_entry ([.ref b, .int 1]) (n := 4) (Nat.le_of_ble_eq_true rfl)
  rw [lg_entry_eq]
  generalize (lg_sl ([.ref b, .int 1]) ++ List.replicate (4 - (lg_sl ([.ref b, .int 1])).length) Slot.unset).toArray = ls at hl ⊢
  have hl : lv_has ls 4 [(0, .ref b), (1, .int 1)] := hl
  refine lv_aload_n hx hb dJx4a65c_grow_92f84_0 rfl (lv_at hl 0 rfl) ?_
  refine va_get (D := D) (ci := 10) (v := .ref (g 4)) (C := RJx4a65c) (T := TJx4a65c) (N := 3) hx hb hts i_Jx4a65c hown hK hP 0 rfl rfl 1 (by decide) (hts _ m_1131) (fun _ h9 => h9) rfl dJx4a65c_grow_92f84_1 ?_
  refine va_tlen hx hb (hE.el hAz) hS (v := 0) (by decide) dJx4a65c_grow_92f84_4 ?_
  refine lv_istore_n (lv' := [(2, .int 0), (0, .ref b), (1, .int 1)]) hx hb dJx4a65c_grow_92f84_5 rfl hl (by decide) rfl (fun ls hl => ?_)
  refine lv_iload_n hx hb dJx4a65c_grow_92f84_6 rfl (lv_at hl 0 rfl) ?_
  refine lv_if_gt (tgt := 20) hx hb dJx4a65c_grow_92f84_7 (by decide) (fun h9 => absurd h9 (by decide)) (fun _ => ?_)
  refine lv_aload_n hx hb dJx4a65c_grow_92f84_10 rfl (lv_at hl 1 rfl) ?_
  refine va_get (D := D) (ci := 10) (v := .ref (g 4)) (C := RJx4a65c) (T := TJx4a65c) (N := 3) hx hb hts i_Jx4a65c hown hK hP 0 rfl rfl 1 (by decide) (hts _ m_1131) (fun _ h9 => h9) rfl dJx4a65c_grow_92f84_11 ?_
  refine va_gets hx hb (hE.z hAz (i := 4) rfl) hS hown (hts _ m_1129) (fun _ h9 => h9) dJx4a65c_grow_92f84_14 ?_
  refine lv_acmp_eq (rx := some (g 4)) (ry := some (g 4)) (tgt := 45) hx hb dJx4a65c_grow_92f84_17 (by decide) (fun _ => ?_) (fun h9 => absurd rfl h9)
  refine lv_aload_n hx hb dJx4a65c_grow_92f84_45 rfl (lv_at hl 1 rfl) ?_
  refine lv_bipush (v := 10) hx hb dJx4a65c_grow_92f84_46 (by decide) ?_
  refine lv_iload_n hx hb dJx4a65c_grow_92f84_48 rfl (lv_at hl 2 rfl) ?_
  refine va_mmax hx hb (by rw [hml]; exact hl.1.symm) hown (hts _ m_1365) (hts _ m_512) (hts _ m_25) (hts _ m_513) (Nat.le_of_ble_eq_true rfl) (Nat.le_of_ble_eq_true rfl) (Nat.le_of_ble_eq_true rfl) (Nat.le_of_ble_eq_true rfl) dJx4a65c_grow_92f84_49 ?_
  rw [show (if (10 : Int32) < 1 then (1 : Int32) else 10) = 10 by decide]
  refine va_newq (C := "java/lang/Object") hx hb hown (hts _ m_1366) (hE.ao (i := 5) rfl) hK hP hD hS hA (by decide) (N' := 10) (by decide) (by decide) (Nat.le_of_ble_eq_true rfl) (Nat.le_of_ble_eq_true rfl) dJx4a65c_grow_92f84_52 (fun q_1 cA_2 H hK hP hD hS => ?_)
  have hP : va_P D classes [(b, .inr (10, [.int 1, .ref (g 4), .int 0])), (q_1, .inl (cA_2, 10, .inr (.inr (.inr (.inr (fun _ => none))))))] H := hP
  have hD : va_D A [(b, .inr (10, [.int 1, .ref (g 4), .int 0])), (q_1, .inl (cA_2, 10, .inr (.inr (.inr (.inr (fun _ => none))))))] := hD
  have hK : va_K D classes [(cA_2, .object "java/lang/Object")] s := hK
  refine lv_dup_x1 hx hb dJx4a65c_grow_92f84_55 rfl rfl ?_
  refine va_put (D := D) (ci := 10) (v := .ref q_1) (ty := (.array (.object "java/lang/Object"))) (C := RJx4a65c) (T := TJx4a65c) (N := 3) hx hb hts i_Jx4a65c tyJx4a65c tyJx4a65c_ok nmJx4a65c hown hK hP hD hS 0 rfl rfl 1 (by decide) (hts _ m_1131) (fun _ h9 => h9) rfl (by decide +kernel) rfl rfl (Nat.le_of_ble_eq_true rfl) dJx4a65c_grow_92f84_56 (fun H locs hP hD hS => ?_)
  have hP : va_P D classes [(b, .inr (10, [.int 1, .ref q_1, .int 0])), (q_1, .inl (cA_2, 10, .inr (.inr (.inr (.inr (fun _ => none))))))] H := hP
  have hD : va_D A [(b, .inr (10, [.int 1, .ref q_1, .int 0])), (q_1, .inl (cA_2, 10, .inr (.inr (.inr (.inr (fun _ => none))))))] := hD
  have hP9 := hP.sub (ws' := [(b, .inr (10, [.int 1, .ref q_1, .int 0])), (q_1, .inl (cA_2, 10, .inr (.inr (.inr (.inr (fun _ => none))))))]) [0, 1] rfl
  have hD9 := hD.sub (ws' := [(b, .inr (10, [.int 1, .ref q_1, .int 0])), (q_1, .inl (cA_2, 10, .inr (.inr (.inr (.inr (fun _ => none))))))]) [0, 1] (by decide) rfl
  refine W.widen (k := 1) (n := 10) (Nat.le_of_ble_eq_true rfl) (Nat.le_of_ble_eq_true rfl) ?_
  exact W.aret (v := .ref q_1) hx hb hr (by first | exact Or.inl ⟨_, rfl⟩ | exact Or.inr ⟨_, rfl⟩) (Or.inr ⟨_, rfl⟩) (fun t ht hW => ⟨⟨(), q_1, rfl, trivial, ⟨cA_2, va_K.moved hW.alike hK, by rw [ht]; exact hP9, hD9⟩⟩, hS.F ht⟩) hS.2.2 dJx4a65c_grow_92f84_59

set_option maxHeartbeats 4000000 in
set_option maxRecDepth 100000 in
theorem c_grow (l : Launch) (z0 : Nat) (D : va_G) (g : Nat → Nat) (sz : Nat) (b : Nat) : Met l yJx4a65c_grow_d5877 (wsp yJx4a65c_grow_d5877 cJx4a65c_grow_d5877 1 (some (.array (.object "java/lang/Object")))) ({ frames := 2, cells := 1, slots := 10, locals := 47 }) (va_Pc [.ref b] (PM z0 D g sz [(b, .inr (10, [.int 1, .ref (g 4), .int 0]))])) (va_Qr (fun (_ : Unit) => True) (fun _ a t => ∃ cA9 : ClassId, va_K D classes [(cA9, .object "java/lang/Object")] t ∧ va_P D classes [(b, .inr (10, [.int 1, .ref a, .int 0])), (a, .inl (cA9, 10, .inr (.inr (.inr (.inr (fun _ => none))))))] t.heap ∧ va_D (va_A [(b, .inr (10, [.int 1, .ref (g 4), .int 0]))] sz) [(b, .inr (10, [.int 1, .ref a, .int 0])), (a, .inl (cA9, 10, .inr (.inr (.inr (.inr (fun _ => none))))))]) (va_A [(b, .inr (10, [.int 1, .ref (g 4), .int 0]))] sz)) 1 10 (va_A [(b, .inr (10, [.int 1, .ref (g 4), .int 0]))] sz) := by
  refine Met.ofW (cc := cJx4a65c_grow_d5877) (maxL := 1) (ret := (some (.array (.object "java/lang/Object")))) (by decide) rfl ?_
  intro p e s m args below meth c s₁ B hml hv
  obtain ⟨rfl, hsz9, hz0, hE, hP, hD0⟩ := hv
  have hx := B.exec
  have hb := B.bytes
  have hr := B.returns
  have hts0 := atoms_spec (ws := (wsp yJx4a65c_grow_d5877 cJx4a65c_grow_d5877 1 (some (.array (.object "java/lang/Object"))))) B.pre
  have hts : ∀ w ∈ lw_all, w.before _ s = true := fun w h => hts0 w (List.mem_cons_of_mem _ h)
  have hown : s.vm.findClass "java/util/ArrayList" = some m.cls := findClass_of_methodNamed B.named
  have hlocks := B.notSynchronized
  have hK := hE.K
  subst hsz9
  have hsz := hz0
  have hAz : ∀ q, va_A [(b, .inr (10, [.int 1, .ref (g 4), .int 0]))] s.heap.size q → z0 ≤ q := vaA_z hz0 hD0
  have hD := hD0.self (sz := s.heap.size)
  generalize hAe : va_A [(b, .inr (10, [.int 1, .ref (g 4), .int 0]))] s.heap.size = A at hD hAz ⊢
  have hA : ∀ q : Nat, s.heap.size ≤ q → A q := fun q h => by rw [← hAe]; exact Or.inr h
  have hS : va_S A s.heap s.heap [] := va_S.rf
  have hP : va_P D classes [(b, .inr (10, [.int 1, .ref (g 4), .int 0]))] s.heap := hP
  have hl := lv_entry ([.ref b]) (n := 1) (Nat.le_of_ble_eq_true rfl)
  rw [lg_entry_eq]
  generalize (lg_sl ([.ref b]) ++ List.replicate (1 - (lg_sl ([.ref b])).length) Slot.unset).toArray = ls at hl ⊢
  have hl : lv_has ls 1 [(0, .ref b)] := hl
  refine lv_aload_n hx hb dJx4a65c_grow_d5877_0 rfl (lv_at hl 0 rfl) ?_
  refine lv_aload_n hx hb dJx4a65c_grow_d5877_1 rfl (lv_at hl 0 rfl) ?_
  refine va_get (D := D) (ci := 10) (v := .int 0) (C := RJx4a65c) (T := TJx4a65c) (N := 3) hx hb hts i_Jx4a65c hown hK hP 0 rfl rfl 2 (by decide) (hts _ m_1134) (fun _ h9 => h9) rfl dJx4a65c_grow_d5877_2 ?_
  refine lv_iconst (v := 1) hx hb dJx4a65c_grow_d5877_5 (by decide) ?_
  refine lv_iadd hx hb dJx4a65c_grow_d5877_6 ?_
  rw [show (0 + 1 : Int32) = 1 by decide]
  have hc_1 := hP.sub (ws' := [(b, .inr (10, [.int 1, .ref (g 4), .int 0]))]) [0] rfl
  have hc_1D := hD.sub (ws' := [(b, .inr (10, [.int 1, .ref (g 4), .int 0]))]) [0] (by decide) rfl
  have hc_1F := va_free (wc := [(b, .inr (10, [.int 1, .ref (g 4), .int 0]))]) hD hS hA [0] rfl
  refine va_callr (va_runV (As := [.int 1]) (rest := []) ⟨hx, hb, hml, hown, hts⟩ (c_growI l z0 D g _ b) (cwV 1 hts (lw_V m_1299 m_1301 mp_27 m_15 m_1302) rfl rfl rfl (by decide +kernel) ⟨(Nat.le_of_ble_eq_true rfl), (Nat.le_of_ble_eq_true rfl)⟩) ⟨PM.blind, va_recv hK hP (ci := 10) (q0 := 0) rfl rfl, PM.pre hE hS hAz hsz hc_1 hc_1D⟩ rfl rfl hl.1 rfl (lv_room (Nat.le_of_ble_eq_true rfl)) dJx4a65c_grow_d5877_7 ⟨(Nat.le_of_ble_eq_true rfl), (Nat.le_of_ble_eq_true rfl)⟩) hS (fun q _ h => hc_1F q h) hc_1F (fun u_3 r_2 t H locs ht hvm hw hB hz1 hk1 hS => ?_)
  obtain ⟨cA9, hK9, hB⟩ := hB
  obtain ⟨hP1, hD1⟩ := hB
  rw [ht] at hP1
  obtain ⟨hP, hD⟩ := va_join (wr := []) (w1 := [(b, .inr (10, [.int 1, .ref r_2, .int 0])), (r_2, .inl (cA9, 10, .inr (.inr (.inr (.inr (fun _ => none))))))]) hP hD [0] [] rfl rfl (by decide) (by decide) hk1 hc_1F hP1 hD1
  have hP : va_P D classes [(b, .inr (10, [.int 1, .ref r_2, .int 0])), (r_2, .inl (cA9, 10, .inr (.inr (.inr (.inr (fun _ => none))))))] H := hP
  have hD : va_D A [(b, .inr (10, [.int 1, .ref r_2, .int 0])), (r_2, .inl (cA9, 10, .inr (.inr (.inr (.inr (fun _ => none))))))] := hD
  have hK := va_K.moved hvm.symm hK9
  have hK : va_K D classes [(cA9, .object "java/lang/Object")] s := hK
  have hP9 := hP.sub (ws' := [(b, .inr (10, [.int 1, .ref r_2, .int 0])), (r_2, .inl (cA9, 10, .inr (.inr (.inr (.inr (fun _ => none))))))]) [0, 1] rfl
  have hD9 := hD.sub (ws' := [(b, .inr (10, [.int 1, .ref r_2, .int 0])), (r_2, .inl (cA9, 10, .inr (.inr (.inr (.inr (fun _ => none))))))]) [0, 1] (by decide) rfl
  refine W.widen (k := 1) (n := 10) (Nat.le_of_ble_eq_true rfl) (Nat.le_of_ble_eq_true rfl) ?_
  exact W.aret (v := .ref r_2) hx hb hr (by first | exact Or.inl ⟨_, rfl⟩ | exact Or.inr ⟨_, rfl⟩) (Or.inr ⟨_, rfl⟩) (fun t ht hW => ⟨⟨(), r_2, rfl, trivial, ⟨cA9, va_K.moved hW.alike hK, by rw [ht]; exact hP9, hD9⟩⟩, hS.F ht⟩) hS.2.2 dJx4a65c_grow_d5877_10

set_option maxHeartbeats 4000000 in
set_option maxRecDepth 100000 in
/-- a list of one -/
theorem c_AL_size1 (l : Launch) (z0 : Nat) (D : va_G) (g : Nat → Nat) (b a : Nat) : Met l yJx4a65c_size_8abf5 (wsp yJx4a65c_size_8abf5 cJx4a65c_size_8abf5 1 (some .int)) ({ frames := 0, cells := 0, slots := 0, locals := 0 }) (va_Pc [.ref b] (PR z0 D g [(b, .inr (10, [.int 1, .ref a, .int 1]))])) (va_Qi (fun (r : Int32) (_ : Unit) => r = 1) (fun _ _ => True) nA) 0 0 nA := by
  refine Met.ofW (cc := cJx4a65c_size_8abf5) (maxL := 1) (ret := (some .int)) (by decide) rfl ?_
  intro p e s m args below meth c s₁ B hml hv
  obtain ⟨rfl, hE, hP⟩ := hv
  have hx := B.exec
  have hb := B.bytes
  have hr := B.returns
  have hts0 := atoms_spec (ws := (wsp yJx4a65c_size_8abf5 cJx4a65c_size_8abf5 1 (some .int))) B.pre
  have hts : ∀ w ∈ lw_all, w.before _ s = true := fun w h => hts0 w (List.mem_cons_of_mem _ h)
  have hown : s.vm.findClass "java/util/ArrayList" = some m.cls := findClass_of_methodNamed B.named
  have hlocks := B.notSynchronized
  have hK := hE.K
  have hS : va_S nA s.heap s.heap [] := va_S.rf
  have hP : va_P D classes [(b, .inr (10, [.int 1, .ref a, .int 1]))] s.heap := hP
  have hl := lv_entry ([.ref b]) (n := 1) (Nat.le_of_ble_eq_true rfl)
  rw [lg_entry_eq]
  generalize (lg_sl ([.ref b]) ++ List.replicate (1 - (lg_sl ([.ref b])).length) Slot.unset).toArray = ls at hl ⊢
  have hl : lv_has ls 1 [(0, .ref b)] := hl
  refine lv_aload_n hx hb dJx4a65c_size_8abf5_0 rfl (lv_at hl 0 rfl) ?_
  refine va_get (D := D) (ci := 10) (v := .int 1) (C := RJx4a65c) (T := TJx4a65c) (N := 3) hx hb hts i_Jx4a65c hown hK hP 0 rfl rfl 2 (by decide) (hts _ m_1134) (fun _ h9 => h9) rfl dJx4a65c_size_8abf5_1 ?_
  refine W.widen (k := 0) (n := 0) (Nat.le_of_ble_eq_true rfl) (Nat.le_of_ble_eq_true rfl) ?_
  exact W.iret (v := 1) hx hb hr (fun t ht hW => ⟨⟨1, (), rfl, rfl, trivial⟩, hS.F ht⟩) hS.2.2 dJx4a65c_size_8abf5_4

set_option maxHeartbeats 4000000 in
set_option maxRecDepth 100000 in
theorem c_add3P (l : Launch) (z0 : Nat) (D : va_G) (g : Nat → Nat) (sz : Nat) (b o : Nat) (vs : List Value) : Met l yJx4a65c_add_72be8 (wsp yJx4a65c_add_72be8 cJx4a65c_add_72be8 4 none) ({ frames := 3, cells := 1, slots := 10, locals := 67 }) (va_Pc [.ref b, .ref o, .ref (g 4), .int 0] (PM z0 D g sz [(b, .inr (10, [.int 1, .ref (g 4), .int 0])), (o, .inr (12, vs))])) (va_Qv (fun (_ : Nat) => True) (fun a t => va_P D classes [(b, .inr (10, [.int 1, .ref a, .int 1]))] t.heap ∧ va_D (va_A [(b, .inr (10, [.int 1, .ref (g 4), .int 0])), (o, .inr (12, vs))] sz) [(b, .inr (10, [.int 1, .ref a, .int 1]))]) (va_A [(b, .inr (10, [.int 1, .ref (g 4), .int 0])), (o, .inr (12, vs))] sz)) 1 10 (va_A [(b, .inr (10, [.int 1, .ref (g 4), .int 0])), (o, .inr (12, vs))] sz) := by
  refine Met.ofW (cc := cJx4a65c_add_72be8) (maxL := 4) (ret := none) (by decide) rfl ?_
  intro p e s m args below meth c s₁ B hml hv
  obtain ⟨rfl, hsz9, hz0, hE, hP, hD0⟩ := hv
  have hx := B.exec
  have hb := B.bytes
  have hr := B.returns
  have hts0 := atoms_spec (ws := (wsp yJx4a65c_add_72be8 cJx4a65c_add_72be8 4 none)) B.pre
  have hts : ∀ w ∈ lw_all, w.before _ s = true := fun w h => hts0 w (List.mem_cons_of_mem _ h)
  have hown : s.vm.findClass "java/util/ArrayList" = some m.cls := findClass_of_methodNamed B.named
  have hlocks := B.notSynchronized
  have hK := hE.K
  subst hsz9
  have hsz := hz0
  have hAz : ∀ q, va_A [(b, .inr (10, [.int 1, .ref (g 4), .int 0])), (o, .inr (12, vs))] s.heap.size q → z0 ≤ q := vaA_z hz0 hD0
  have hD := hD0.self (sz := s.heap.size)
  generalize hAe : va_A [(b, .inr (10, [.int 1, .ref (g 4), .int 0])), (o, .inr (12, vs))] s.heap.size = A at hD hAz ⊢
  have hA : ∀ q : Nat, s.heap.size ≤ q → A q := fun q h => by rw [← hAe]; exact Or.inr h
  have hS : va_S A s.heap s.heap [] := va_S.rf
  have hP : va_P D classes [(b, .inr (10, [.int 1, .ref (g 4), .int 0])), (o, .inr (12, vs))] s.heap := hP
  have hl := lv_entry ([.ref b, .ref o, .ref (g 4), .int 0]) (n := 4) (Nat.le_of_ble_eq_true rfl)
  rw [lg_entry_eq]
  generalize (lg_sl ([.ref b, .ref o, .ref (g 4), .int 0]) ++ List.replicate (4 - (lg_sl ([.ref b, .ref o, .ref (g 4), .int 0])).length) Slot.unset).toArray = ls at hl ⊢
  have hl : lv_has ls 4 [(0, .ref b), (1, .ref o), (2, .ref (g 4)), (3, .int 0)] := hl
  refine lv_iload_n hx hb dJx4a65c_add_72be8_0 rfl (lv_at hl 3 rfl) ?_
  refine lv_aload_n hx hb dJx4a65c_add_72be8_1 rfl (lv_at hl 2 rfl) ?_
  refine va_tlen hx hb (hE.el hAz) hS (v := 0) (by decide) dJx4a65c_add_72be8_2 ?_
  refine lv_icmp_ne (tgt := 11) hx hb dJx4a65c_add_72be8_3 (by decide) (fun h9 => absurd (by decide) h9) (fun _ => ?_)
  refine lv_aload_n hx hb dJx4a65c_add_72be8_6 rfl (lv_at hl 0 rfl) ?_
  have hc_1 := hP.sub (ws' := [(b, .inr (10, [.int 1, .ref (g 4), .int 0]))]) [0] rfl
  have hc_1D := hD.sub (ws' := [(b, .inr (10, [.int 1, .ref (g 4), .int 0]))]) [0] (by decide) rfl
  have hc_1F := va_free (wc := [(b, .inr (10, [.int 1, .ref (g 4), .int 0]))]) hD hS hA [0] rfl
  refine va_callr (va_runV (As := []) (rest := []) ⟨hx, hb, hml, hown, hts⟩ (c_grow l z0 D g _ b) (cwV 0 hts (lw_V m_1295 m_1297 mp_26 m_15 m_1298) rfl rfl rfl (by decide +kernel) ⟨(Nat.le_of_ble_eq_true rfl), (Nat.le_of_ble_eq_true rfl)⟩) ⟨PM.blind, va_recv hK hP (ci := 10) (q0 := 0) rfl rfl, PM.pre hE hS hAz hsz hc_1 hc_1D⟩ rfl rfl hl.1 rfl (lv_room (Nat.le_of_ble_eq_true rfl)) dJx4a65c_add_72be8_7 ⟨(Nat.le_of_ble_eq_true rfl), (Nat.le_of_ble_eq_true rfl)⟩) hS (fun q _ h => hc_1F q h) hc_1F (fun u_3 r_2 t H locs ht hvm hw hB hz1 hk1 hS => ?_)
  obtain ⟨cA9, hK9, hB⟩ := hB
  obtain ⟨hP1, hD1⟩ := hB
  rw [ht] at hP1
  obtain ⟨hP, hD⟩ := va_join (wr := [(o, .inr (12, vs))]) (w1 := [(b, .inr (10, [.int 1, .ref r_2, .int 0])), (r_2, .inl (cA9, 10, .inr (.inr (.inr (.inr (fun _ => none))))))]) hP hD [0] [1] rfl rfl (by decide) (by decide) hk1 hc_1F hP1 hD1
  have hP : va_P D classes [(o, .inr (12, vs)), (b, .inr (10, [.int 1, .ref r_2, .int 0])), (r_2, .inl (cA9, 10, .inr (.inr (.inr (.inr (fun _ => none))))))] H := hP
  have hD : va_D A [(o, .inr (12, vs)), (b, .inr (10, [.int 1, .ref r_2, .int 0])), (r_2, .inl (cA9, 10, .inr (.inr (.inr (.inr (fun _ => none))))))] := hD
  have hK := va_K.moved hvm.symm hK9
  have hK : va_K D classes [(cA9, .object "java/lang/Object")] s := hK
  refine lv_astore_n (lv' := [(2, .ref r_2), (0, .ref b), (1, .ref o), (3, .int 0)]) hx hb dJx4a65c_add_72be8_10 rfl hl (by decide) rfl (fun ls hl => ?_)
  refine lv_aload_n hx hb dJx4a65c_add_72be8_11 rfl (lv_at hl 0 rfl) ?_
  refine lv_iload_n hx hb dJx4a65c_add_72be8_12 rfl (lv_at hl 3 rfl) ?_
  refine lv_aload_n hx hb dJx4a65c_add_72be8_13 rfl (lv_at hl 2 rfl) ?_
  refine va_astqO (E := "java/lang/Object") (i := 0) hx hb hK hP hD hS 2 0 0 12 rfl rfl (hE.ng _ mn_2969) rfl rfl (by unfold vp_in; decide) dJx4a65c_add_72be8_14 (fun H locs hP hD hS => ?_)
  have hP : va_P D classes [(o, .inr (12, vs)), (b, .inr (10, [.int 1, .ref r_2, .int 0])), (r_2, .inl (cA9, 10, .inr (.inr (.inr (.inr (va_up (fun _ => none) (Int32.toNatClampNeg 0) (some o)))))))] H := hP
  have hD : va_D A [(o, .inr (12, vs)), (b, .inr (10, [.int 1, .ref r_2, .int 0])), (r_2, .inl (cA9, 10, .inr (.inr (.inr (.inr (va_up (fun _ => none) (Int32.toNatClampNeg 0) (some o)))))))] := hD
  refine lv_aload_n hx hb dJx4a65c_add_72be8_15 rfl (lv_at hl 1 rfl) ?_
  refine lv_iload_n hx hb dJx4a65c_add_72be8_16 rfl (lv_at hl 3 rfl) ?_
  refine lv_iconst (v := 1) hx hb dJx4a65c_add_72be8_17 (by decide) ?_
  refine lv_iadd hx hb dJx4a65c_add_72be8_18 ?_
  rw [show (0 + 1 : Int32) = 1 by decide]
  refine va_put (D := D) (ci := 10) (v := .int 1) (ty := .int) (C := RJx4a65c) (T := TJx4a65c) (N := 3) hx hb hts i_Jx4a65c tyJx4a65c tyJx4a65c_ok nmJx4a65c hown hK hP hD hS 1 rfl rfl 2 (by decide) (hts _ m_1134) (fun _ h9 => h9) rfl (by decide +kernel) rfl rfl (Nat.le_of_ble_eq_true rfl) dJx4a65c_add_72be8_19 (fun H locs hP hD hS => ?_)
  have hP : va_P D classes [(o, .inr (12, vs)), (b, .inr (10, [.int 1, .ref r_2, .int 1])), (r_2, .inl (cA9, 10, .inr (.inr (.inr (.inr (va_up (fun _ => none) (Int32.toNatClampNeg 0) (some o)))))))] H := hP
  have hD : va_D A [(o, .inr (12, vs)), (b, .inr (10, [.int 1, .ref r_2, .int 1])), (r_2, .inl (cA9, 10, .inr (.inr (.inr (.inr (va_up (fun _ => none) (Int32.toNatClampNeg 0) (some o)))))))] := hD
  have hP9 := hP.sub (ws' := [(b, .inr (10, [.int 1, .ref r_2, .int 1]))]) [1] rfl
  have hD9 := hD.sub (ws' := [(b, .inr (10, [.int 1, .ref r_2, .int 1]))]) [1] (by decide) rfl
  refine W.widen (k := 1) (n := 10) (Nat.le_of_ble_eq_true rfl) (Nat.le_of_ble_eq_true rfl) ?_
  exact W.vret hx hb hr (fun t ht hW => ⟨⟨r_2, rfl, trivial, ⟨by rw [ht]; exact hP9, hD9⟩⟩, hS.F ht⟩) hS.2.2 dJx4a65c_add_72be8_22

set_option maxHeartbeats 4000000 in
set_option maxRecDepth 100000 in
theorem c_add1P (l : Launch) (z0 : Nat) (D : va_G) (g : Nat → Nat) (sz : Nat) (b o : Nat) (vs : List Value) : Met l yJx4a65c_add_9ea2d (wsp yJx4a65c_add_9ea2d cJx4a65c_add_9ea2d 2 (some .boolean)) ({ frames := 4, cells := 1, slots := 10, locals := 90 }) (va_Pc [.ref b, .ref o] (PM z0 D g sz [(b, .inr (10, [.int 0, .ref (g 4), .int 0])), (o, .inr (12, vs))])) (va_Qi (fun (r : Int32) (_ : Nat) => r = 1) (fun a t => va_P D classes [(b, .inr (10, [.int 1, .ref a, .int 1]))] t.heap ∧ va_D (va_A [(b, .inr (10, [.int 0, .ref (g 4), .int 0])), (o, .inr (12, vs))] sz) [(b, .inr (10, [.int 1, .ref a, .int 1]))]) (va_A [(b, .inr (10, [.int 0, .ref (g 4), .int 0])), (o, .inr (12, vs))] sz)) 1 10 (va_A [(b, .inr (10, [.int 0, .ref (g 4), .int 0])), (o, .inr (12, vs))] sz) := by
  refine Met.ofW (cc := cJx4a65c_add_9ea2d) (maxL := 2) (ret := (some .boolean)) (by decide) rfl ?_
  intro p e s m args below meth c s₁ B hml hv
  obtain ⟨rfl, hsz9, hz0, hE, hP, hD0⟩ := hv
  have hx := B.exec
  have hb := B.bytes
  have hr := B.returns
  have hts0 := atoms_spec (ws := (wsp yJx4a65c_add_9ea2d cJx4a65c_add_9ea2d 2 (some .boolean))) B.pre
  have hts : ∀ w ∈ lw_all, w.before _ s = true := fun w h => hts0 w (List.mem_cons_of_mem _ h)
  have hown : s.vm.findClass "java/util/ArrayList" = some m.cls := findClass_of_methodNamed B.named
  have hlocks := B.notSynchronized
  have hK := hE.K
  subst hsz9
  have hsz := hz0
  have hAz : ∀ q, va_A [(b, .inr (10, [.int 0, .ref (g 4), .int 0])), (o, .inr (12, vs))] s.heap.size q → z0 ≤ q := vaA_z hz0 hD0
  have hD := hD0.self (sz := s.heap.size)
  generalize hAe : va_A [(b, .inr (10, [.int 0, .ref (g 4), .int 0])), (o, .inr (12, vs))] s.heap.size = A at hD hAz ⊢
  have hA : ∀ q : Nat, s.heap.size ≤ q → A q := fun q h => by rw [← hAe]; exact Or.inr h
  have hS : va_S A s.heap s.heap [] := va_S.rf
  have hP : va_P D classes [(b, .inr (10, [.int 0, .ref (g 4), .int 0])), (o, .inr (12, vs))] s.heap := hP
  have hl := lv_entry ([.ref b, .ref o]) (n := 2) (Nat.le_of_ble_eq_true rfl)
  rw [lg_entry_eq]
  generalize (lg_sl ([.ref b, .ref o]) ++ List.replicate (2 - (lg_sl ([.ref b, .ref o])).length) Slot.unset).toArray = ls at hl ⊢
  have hl : lv_has ls 2 [(0, .ref b), (1, .ref o)] := hl
  refine lv_aload_n hx hb dJx4a65c_add_9ea2d_0 rfl (lv_at hl 0 rfl) ?_
  refine lv_dup hx hb dJx4a65c_add_9ea2d_1 rfl ?_
  refine va_get (D := D) (ci := 10) (v := .int 0) (C := RJx4a65c) (T := TJx4a65c) (N := 3) hx hb hts i_Jx4a65c hown hK hP 0 rfl rfl 0 (by decide) (hts _ m_1138) (u_same (hts _ m_1137)) rfl dJx4a65c_add_9ea2d_2 ?_
  refine lv_iconst (v := 1) hx hb dJx4a65c_add_9ea2d_5 (by decide) ?_
  refine lv_iadd hx hb dJx4a65c_add_9ea2d_6 ?_
  rw [show (0 + 1 : Int32) = 1 by decide]
  refine va_put (D := D) (ci := 10) (v := .int 1) (ty := .int) (C := RJx4a65c) (T := TJx4a65c) (N := 3) hx hb hts i_Jx4a65c tyJx4a65c tyJx4a65c_ok nmJx4a65c hown hK hP hD hS 0 rfl rfl 0 (by decide) (hts _ m_1138) (u_same (hts _ m_1137)) rfl (by decide +kernel) rfl rfl (Nat.le_of_ble_eq_true rfl) dJx4a65c_add_9ea2d_7 (fun H locs hP hD hS => ?_)
  have hP : va_P D classes [(b, .inr (10, [.int 1, .ref (g 4), .int 0])), (o, .inr (12, vs))] H := hP
  have hD : va_D A [(b, .inr (10, [.int 1, .ref (g 4), .int 0])), (o, .inr (12, vs))] := hD
  refine lv_aload_n hx hb dJx4a65c_add_9ea2d_10 rfl (lv_at hl 0 rfl) ?_
  refine lv_aload_n hx hb dJx4a65c_add_9ea2d_11 rfl (lv_at hl 1 rfl) ?_
  refine lv_aload_n hx hb dJx4a65c_add_9ea2d_12 rfl (lv_at hl 0 rfl) ?_
  refine va_get (D := D) (ci := 10) (v := .ref (g 4)) (C := RJx4a65c) (T := TJx4a65c) (N := 3) hx hb hts i_Jx4a65c hown hK hP 0 rfl rfl 1 (by decide) (hts _ m_1131) (fun _ h9 => h9) rfl dJx4a65c_add_9ea2d_13 ?_
  refine lv_aload_n hx hb dJx4a65c_add_9ea2d_16 rfl (lv_at hl 0 rfl) ?_
  refine va_get (D := D) (ci := 10) (v := .int 0) (C := RJx4a65c) (T := TJx4a65c) (N := 3) hx hb hts i_Jx4a65c hown hK hP 0 rfl rfl 2 (by decide) (hts _ m_1134) (fun _ h9 => h9) rfl dJx4a65c_add_9ea2d_17 ?_
  have hc_1 := hP.sub (ws' := [(b, .inr (10, [.int 1, .ref (g 4), .int 0])), (o, .inr (12, vs))]) [0, 1] rfl
  have hc_1D := hD.sub (ws' := [(b, .inr (10, [.int 1, .ref (g 4), .int 0])), (o, .inr (12, vs))]) [0, 1] (by decide) rfl
  have hc_1F := va_free (wc := [(b, .inr (10, [.int 1, .ref (g 4), .int 0])), (o, .inr (12, vs))]) hD hS hA [0, 1] rfl
  refine va_callv (va_runV (As := [.ref o, .ref (g 4), .int 0]) (rest := []) ⟨hx, hb, hml, hown, hts⟩ (c_add3P l z0 D g _ b o vs) (cwV 3 hts (lw_V m_1291 m_1293 mp_25 m_15 m_1294) rfl rfl rfl (by decide +kernel) ⟨(Nat.le_of_ble_eq_true rfl), (Nat.le_of_ble_eq_true rfl)⟩) ⟨PM.blind, va_recv hK hP (ci := 10) (q0 := 0) rfl rfl, PM.pre hE hS hAz hsz hc_1 hc_1D⟩ rfl rfl hl.1 rfl (lv_room (Nat.le_of_ble_eq_true rfl)) dJx4a65c_add_9ea2d_20 ⟨(Nat.le_of_ble_eq_true rfl), (Nat.le_of_ble_eq_true rfl)⟩) hS (fun q _ h => hc_1F q h) hc_1F (fun u_3 t H locs ht hvm hw hB hz1 hk1 hS => ?_)
  obtain ⟨hP1, hD1⟩ := hB
  rw [ht] at hP1
  obtain ⟨hP, hD⟩ := va_join (wr := []) (w1 := [(b, .inr (10, [.int 1, .ref u_3, .int 1]))]) hP hD [0, 1] [] rfl rfl (by decide) (by decide) hk1 hc_1F hP1 hD1
  have hP : va_P D classes [(b, .inr (10, [.int 1, .ref u_3, .int 1]))] H := hP
  have hD : va_D A [(b, .inr (10, [.int 1, .ref u_3, .int 1]))] := hD
  refine lv_iconst (v := 1) hx hb dJx4a65c_add_9ea2d_23 (by decide) ?_
  have hP9 := hP.sub (ws' := [(b, .inr (10, [.int 1, .ref u_3, .int 1]))]) [0] rfl
  have hD9 := hD.sub (ws' := [(b, .inr (10, [.int 1, .ref u_3, .int 1]))]) [0] (by decide) rfl
  refine W.widen (k := 1) (n := 10) (Nat.le_of_ble_eq_true rfl) (Nat.le_of_ble_eq_true rfl) ?_
  exact W.zret (v := 1) hx hb hr (by decide) (fun t ht hW => ⟨⟨1, u_3, rfl, rfl, ⟨by rw [ht]; exact hP9, hD9⟩⟩, hS.F ht⟩) hS.2.2 dJx4a65c_add_9ea2d_24

set_option maxHeartbeats 4000000 in
set_option maxRecDepth 100000 in
theorem c_add3M (l : Launch) (z0 : Nat) (D : va_G) (g : Nat → Nat) (sz : Nat) (b o : Nat) (vs : List Value) : Met l yJx4a65c_add_72be8 (wsp yJx4a65c_add_72be8 cJx4a65c_add_72be8 4 none) ({ frames := 3, cells := 1, slots := 10, locals := 67 }) (va_Pc [.ref b, .ref o, .ref (g 4), .int 0] (PM z0 D g sz [(b, .inr (10, [.int 1, .ref (g 4), .int 0])), (o, .inr (13, vs))])) (va_Qv (fun (_ : Nat) => True) (fun a t => va_P D classes [(b, .inr (10, [.int 1, .ref a, .int 1]))] t.heap ∧ va_D (va_A [(b, .inr (10, [.int 1, .ref (g 4), .int 0])), (o, .inr (13, vs))] sz) [(b, .inr (10, [.int 1, .ref a, .int 1]))]) (va_A [(b, .inr (10, [.int 1, .ref (g 4), .int 0])), (o, .inr (13, vs))] sz)) 1 10 (va_A [(b, .inr (10, [.int 1, .ref (g 4), .int 0])), (o, .inr (13, vs))] sz) := by
  refine Met.ofW (cc := cJx4a65c_add_72be8) (maxL := 4) (ret := none) (by decide) rfl ?_
  intro p e s m args below meth c s₁ B hml hv
  obtain ⟨rfl, hsz9, hz0, hE, hP, hD0⟩ := hv
  have hx := B.exec
  have hb := B.bytes
  have hr := B.returns
  have hts0 := atoms_spec (ws := (wsp yJx4a65c_add_72be8 cJx4a65c_add_72be8 4 none)) B.pre
  have hts : ∀ w ∈ lw_all, w.before _ s = true := fun w h => hts0 w (List.mem_cons_of_mem _ h)
  have hown : s.vm.findClass "java/util/ArrayList" = some m.cls := findClass_of_methodNamed B.named
  have hlocks := B.notSynchronized
  have hK := hE.K
  subst hsz9
  have hsz := hz0
  have hAz : ∀ q, va_A [(b, .inr (10, [.int 1, .ref (g 4), .int 0])), (o, .inr (13, vs))] s.heap.size q → z0 ≤ q := vaA_z hz0 hD0
  have hD := hD0.self (sz := s.heap.size)
  generalize hAe : va_A [(b, .inr (10, [.int 1, .ref (g 4), .int 0])), (o, .inr (13, vs))] s.heap.size = A at hD hAz ⊢
  have hA : ∀ q : Nat, s.heap.size ≤ q → A q := fun q h => by rw [← hAe]; exact Or.inr h
  have hS : va_S A s.heap s.heap [] := va_S.rf
  have hP : va_P D classes [(b, .inr (10, [.int 1, .ref (g 4), .int 0])), (o, .inr (13, vs))] s.heap := hP
  have hl := lv_entry ([.ref b, .ref o, .ref (g 4), .int 0]) (n := 4) (Nat.le_of_ble_eq_true rfl)
  rw [lg_entry_eq]
  generalize (lg_sl ([.ref b, .ref o, .ref (g 4), .int 0]) ++ List.replicate (4 - (lg_sl ([.ref b, .ref o, .ref (g 4), .int 0])).length) Slot.unset).toArray = ls at hl ⊢
  have hl : lv_has ls 4 [(0, .ref b), (1, .ref o), (2, .ref (g 4)), (3, .int 0)] := hl
  refine lv_iload_n hx hb dJx4a65c_add_72be8_0 rfl (lv_at hl 3 rfl) ?_
  refine lv_aload_n hx hb dJx4a65c_add_72be8_1 rfl (lv_at hl 2 rfl) ?_
  refine va_tlen hx hb (hE.el hAz) hS (v := 0) (by decide) dJx4a65c_add_72be8_2 ?_
  refine lv_icmp_ne (tgt := 11) hx hb dJx4a65c_add_72be8_3 (by decide) (fun h9 => absurd (by decide) h9) (fun _ => ?_)
  refine lv_aload_n hx hb dJx4a65c_add_72be8_6 rfl (lv_at hl 0 rfl) ?_
  have hc_1 := hP.sub (ws' := [(b, .inr (10, [.int 1, .ref (g 4), .int 0]))]) [0] rfl
  have hc_1D := hD.sub (ws' := [(b, .inr (10, [.int 1, .ref (g 4), .int 0]))]) [0] (by decide) rfl
  have hc_1F := va_free (wc := [(b, .inr (10, [.int 1, .ref (g 4), .int 0]))]) hD hS hA [0] rfl
  refine va_callr (va_runV (As := []) (rest := []) ⟨hx, hb, hml, hown, hts⟩ (c_grow l z0 D g _ b) (cwV 0 hts (lw_V m_1295 m_1297 mp_26 m_15 m_1298) rfl rfl rfl (by decide +kernel) ⟨(Nat.le_of_ble_eq_true rfl), (Nat.le_of_ble_eq_true rfl)⟩) ⟨PM.blind, va_recv hK hP (ci := 10) (q0 := 0) rfl rfl, PM.pre hE hS hAz hsz hc_1 hc_1D⟩ rfl rfl hl.1 rfl (lv_room (Nat.le_of_ble_eq_true rfl)) dJx4a65c_add_72be8_7 ⟨(Nat.le_of_ble_eq_true rfl), (Nat.le_of_ble_eq_true rfl)⟩) hS (fun q _ h => hc_1F q h) hc_1F (fun u_3 r_2 t H locs ht hvm hw hB hz1 hk1 hS => ?_)
  obtain ⟨cA9, hK9, hB⟩ := hB
  obtain ⟨hP1, hD1⟩ := hB
  rw [ht] at hP1
  obtain ⟨hP, hD⟩ := va_join (wr := [(o, .inr (13, vs))]) (w1 := [(b, .inr (10, [.int 1, .ref r_2, .int 0])), (r_2, .inl (cA9, 10, .inr (.inr (.inr (.inr (fun _ => none))))))]) hP hD [0] [1] rfl rfl (by decide) (by decide) hk1 hc_1F hP1 hD1
  have hP : va_P D classes [(o, .inr (13, vs)), (b, .inr (10, [.int 1, .ref r_2, .int 0])), (r_2, .inl (cA9, 10, .inr (.inr (.inr (.inr (fun _ => none))))))] H := hP
  have hD : va_D A [(o, .inr (13, vs)), (b, .inr (10, [.int 1, .ref r_2, .int 0])), (r_2, .inl (cA9, 10, .inr (.inr (.inr (.inr (fun _ => none))))))] := hD
  have hK := va_K.moved hvm.symm hK9
  have hK : va_K D classes [(cA9, .object "java/lang/Object")] s := hK
  refine lv_astore_n (lv' := [(2, .ref r_2), (0, .ref b), (1, .ref o), (3, .int 0)]) hx hb dJx4a65c_add_72be8_10 rfl hl (by decide) rfl (fun ls hl => ?_)
  refine lv_aload_n hx hb dJx4a65c_add_72be8_11 rfl (lv_at hl 0 rfl) ?_
  refine lv_iload_n hx hb dJx4a65c_add_72be8_12 rfl (lv_at hl 3 rfl) ?_
  refine lv_aload_n hx hb dJx4a65c_add_72be8_13 rfl (lv_at hl 2 rfl) ?_
  refine va_astqO (E := "java/lang/Object") (i := 0) hx hb hK hP hD hS 2 0 0 13 rfl rfl (hE.ng _ mn_2972) rfl rfl (by unfold vp_in; decide) dJx4a65c_add_72be8_14 (fun H locs hP hD hS => ?_)
  have hP : va_P D classes [(o, .inr (13, vs)), (b, .inr (10, [.int 1, .ref r_2, .int 0])), (r_2, .inl (cA9, 10, .inr (.inr (.inr (.inr (va_up (fun _ => none) (Int32.toNatClampNeg 0) (some o)))))))] H := hP
  have hD : va_D A [(o, .inr (13, vs)), (b, .inr (10, [.int 1, .ref r_2, .int 0])), (r_2, .inl (cA9, 10, .inr (.inr (.inr (.inr (va_up (fun _ => none) (Int32.toNatClampNeg 0) (some o)))))))] := hD
  refine lv_aload_n hx hb dJx4a65c_add_72be8_15 rfl (lv_at hl 1 rfl) ?_
  refine lv_iload_n hx hb dJx4a65c_add_72be8_16 rfl (lv_at hl 3 rfl) ?_
  refine lv_iconst (v := 1) hx hb dJx4a65c_add_72be8_17 (by decide) ?_
  refine lv_iadd hx hb dJx4a65c_add_72be8_18 ?_
  rw [show (0 + 1 : Int32) = 1 by decide]
  refine va_put (D := D) (ci := 10) (v := .int 1) (ty := .int) (C := RJx4a65c) (T := TJx4a65c) (N := 3) hx hb hts i_Jx4a65c tyJx4a65c tyJx4a65c_ok nmJx4a65c hown hK hP hD hS 1 rfl rfl 2 (by decide) (hts _ m_1134) (fun _ h9 => h9) rfl (by decide +kernel) rfl rfl (Nat.le_of_ble_eq_true rfl) dJx4a65c_add_72be8_19 (fun H locs hP hD hS => ?_)
  have hP : va_P D classes [(o, .inr (13, vs)), (b, .inr (10, [.int 1, .ref r_2, .int 1])), (r_2, .inl (cA9, 10, .inr (.inr (.inr (.inr (va_up (fun _ => none) (Int32.toNatClampNeg 0) (some o)))))))] H := hP
  have hD : va_D A [(o, .inr (13, vs)), (b, .inr (10, [.int 1, .ref r_2, .int 1])), (r_2, .inl (cA9, 10, .inr (.inr (.inr (.inr (va_up (fun _ => none) (Int32.toNatClampNeg 0) (some o)))))))] := hD
  have hP9 := hP.sub (ws' := [(b, .inr (10, [.int 1, .ref r_2, .int 1]))]) [1] rfl
  have hD9 := hD.sub (ws' := [(b, .inr (10, [.int 1, .ref r_2, .int 1]))]) [1] (by decide) rfl
  refine W.widen (k := 1) (n := 10) (Nat.le_of_ble_eq_true rfl) (Nat.le_of_ble_eq_true rfl) ?_
  exact W.vret hx hb hr (fun t ht hW => ⟨⟨r_2, rfl, trivial, ⟨by rw [ht]; exact hP9, hD9⟩⟩, hS.F ht⟩) hS.2.2 dJx4a65c_add_72be8_22

set_option maxHeartbeats 4000000 in
set_option maxRecDepth 100000 in
theorem c_add1M (l : Launch) (z0 : Nat) (D : va_G) (g : Nat → Nat) (sz : Nat) (b o : Nat) (vs : List Value) : Met l yJx4a65c_add_9ea2d (wsp yJx4a65c_add_9ea2d cJx4a65c_add_9ea2d 2 (some .boolean)) ({ frames := 4, cells := 1, slots := 10, locals := 90 }) (va_Pc [.ref b, .ref o] (PM z0 D g sz [(b, .inr (10, [.int 0, .ref (g 4), .int 0])), (o, .inr (13, vs))])) (va_Qi (fun (r : Int32) (_ : Nat) => r = 1) (fun a t => va_P D classes [(b, .inr (10, [.int 1, .ref a, .int 1]))] t.heap ∧ va_D (va_A [(b, .inr (10, [.int 0, .ref (g 4), .int 0])), (o, .inr (13, vs))] sz) [(b, .inr (10, [.int 1, .ref a, .int 1]))]) (va_A [(b, .inr (10, [.int 0, .ref (g 4), .int 0])), (o, .inr (13, vs))] sz)) 1 10 (va_A [(b, .inr (10, [.int 0, .ref (g 4), .int 0])), (o, .inr (13, vs))] sz) := by
  refine Met.ofW (cc := cJx4a65c_add_9ea2d) (maxL := 2) (ret := (some .boolean)) (by decide) rfl ?_
  intro p e s m args below meth c s₁ B hml hv
  obtain ⟨rfl, hsz9, hz0, hE, hP, hD0⟩ := hv
  have hx := B.exec
  have hb := B.bytes
  have hr := B.returns
  have hts0 := atoms_spec (ws := (wsp yJx4a65c_add_9ea2d cJx4a65c_add_9ea2d 2 (some .boolean))) B.pre
  have hts : ∀ w ∈ lw_all, w.before _ s = true := fun w h => hts0 w (List.mem_cons_of_mem _ h)
  have hown : s.vm.findClass "java/util/ArrayList" = some m.cls := findClass_of_methodNamed B.named
  have hlocks := B.notSynchronized
  have hK := hE.K
  subst hsz9
  have hsz := hz0
  have hAz : ∀ q, va_A [(b, .inr (10, [.int 0, .ref (g 4), .int 0])), (o, .inr (13, vs))] s.heap.size q → z0 ≤ q := vaA_z hz0 hD0
  have hD := hD0.self (sz := s.heap.size)
  generalize hAe : va_A [(b, .inr (10, [.int 0, .ref (g 4), .int 0])), (o, .inr (13, vs))] s.heap.size = A at hD hAz ⊢
  have hA : ∀ q : Nat, s.heap.size ≤ q → A q := fun q h => by rw [← hAe]; exact Or.inr h
  have hS : va_S A s.heap s.heap [] := va_S.rf
  have hP : va_P D classes [(b, .inr (10, [.int 0, .ref (g 4), .int 0])), (o, .inr (13, vs))] s.heap := hP
  have hl := lv_entry ([.ref b, .ref o]) (n := 2) (Nat.le_of_ble_eq_true rfl)
  rw [lg_entry_eq]
  generalize (lg_sl ([.ref b, .ref o]) ++ List.replicate (2 - (lg_sl ([.ref b, .ref o])).length) Slot.unset).toArray = ls at hl ⊢
  have hl : lv_has ls 2 [(0, .ref b), (1, .ref o)] := hl
  refine lv_aload_n hx hb dJx4a65c_add_9ea2d_0 rfl (lv_at hl 0 rfl) ?_
  refine lv_dup hx hb dJx4a65c_add_9ea2d_1 rfl ?_
  refine va_get (D := D) (ci := 10) (v := .int 0) (C := RJx4a65c) (T := TJx4a65c) (N := 3) hx hb hts i_Jx4a65c hown hK hP 0 rfl rfl 0 (by decide) (hts _ m_1138) (u_same (hts _ m_1137)) rfl dJx4a65c_add_9ea2d_2 ?_
  refine lv_iconst (v := 1) hx hb dJx4a65c_add_9ea2d_5 (by decide) ?_
  refine lv_iadd hx hb dJx4a65c_add_9ea2d_6 ?_
  rw [show (0 + 1 : Int32) = 1 by decide]
  refine va_put (D := D) (ci := 10) (v := .int 1) (ty := .int) (C := RJx4a65c) (T := TJx4a65c) (N := 3) hx hb hts i_Jx4a65c tyJx4a65c tyJx4a65c_ok nmJx4a65c hown hK hP hD hS 0 rfl rfl 0 (by decide) (hts _ m_1138) (u_same (hts _ m_1137)) rfl (by decide +kernel) rfl rfl (Nat.le_of_ble_eq_true rfl) dJx4a65c_add_9ea2d_7 (fun H locs hP hD hS => ?_)
  have hP : va_P D classes [(b, .inr (10, [.int 1, .ref (g 4), .int 0])), (o, .inr (13, vs))] H := hP
  have hD : va_D A [(b, .inr (10, [.int 1, .ref (g 4), .int 0])), (o, .inr (13, vs))] := hD
  refine lv_aload_n hx hb dJx4a65c_add_9ea2d_10 rfl (lv_at hl 0 rfl) ?_
  refine lv_aload_n hx hb dJx4a65c_add_9ea2d_11 rfl (lv_at hl 1 rfl) ?_
  refine lv_aload_n hx hb dJx4a65c_add_9ea2d_12 rfl (lv_at hl 0 rfl) ?_
  refine va_get (D := D) (ci := 10) (v := .ref (g 4)) (C := RJx4a65c) (T := TJx4a65c) (N := 3) hx hb hts i_Jx4a65c hown hK hP 0 rfl rfl 1 (by decide) (hts _ m_1131) (fun _ h9 => h9) rfl dJx4a65c_add_9ea2d_13 ?_
  refine lv_aload_n hx hb dJx4a65c_add_9ea2d_16 rfl (lv_at hl 0 rfl) ?_
  refine va_get (D := D) (ci := 10) (v := .int 0) (C := RJx4a65c) (T := TJx4a65c) (N := 3) hx hb hts i_Jx4a65c hown hK hP 0 rfl rfl 2 (by decide) (hts _ m_1134) (fun _ h9 => h9) rfl dJx4a65c_add_9ea2d_17 ?_
  have hc_1 := hP.sub (ws' := [(b, .inr (10, [.int 1, .ref (g 4), .int 0])), (o, .inr (13, vs))]) [0, 1] rfl
  have hc_1D := hD.sub (ws' := [(b, .inr (10, [.int 1, .ref (g 4), .int 0])), (o, .inr (13, vs))]) [0, 1] (by decide) rfl
  have hc_1F := va_free (wc := [(b, .inr (10, [.int 1, .ref (g 4), .int 0])), (o, .inr (13, vs))]) hD hS hA [0, 1] rfl
  refine va_callv (va_runV (As := [.ref o, .ref (g 4), .int 0]) (rest := []) ⟨hx, hb, hml, hown, hts⟩ (c_add3M l z0 D g _ b o vs) (cwV 3 hts (lw_V m_1291 m_1293 mp_25 m_15 m_1294) rfl rfl rfl (by decide +kernel) ⟨(Nat.le_of_ble_eq_true rfl), (Nat.le_of_ble_eq_true rfl)⟩) ⟨PM.blind, va_recv hK hP (ci := 10) (q0 := 0) rfl rfl, PM.pre hE hS hAz hsz hc_1 hc_1D⟩ rfl rfl hl.1 rfl (lv_room (Nat.le_of_ble_eq_true rfl)) dJx4a65c_add_9ea2d_20 ⟨(Nat.le_of_ble_eq_true rfl), (Nat.le_of_ble_eq_true rfl)⟩) hS (fun q _ h => hc_1F q h) hc_1F (fun u_3 t H locs ht hvm hw hB hz1 hk1 hS => ?_)
  obtain ⟨hP1, hD1⟩ := hB
  rw [ht] at hP1
  obtain ⟨hP, hD⟩ := va_join (wr := []) (w1 := [(b, .inr (10, [.int 1, .ref u_3, .int 1]))]) hP hD [0, 1] [] rfl rfl (by decide) (by decide) hk1 hc_1F hP1 hD1
  have hP : va_P D classes [(b, .inr (10, [.int 1, .ref u_3, .int 1]))] H := hP
  have hD : va_D A [(b, .inr (10, [.int 1, .ref u_3, .int 1]))] := hD
  refine lv_iconst (v := 1) hx hb dJx4a65c_add_9ea2d_23 (by decide) ?_
  have hP9 := hP.sub (ws' := [(b, .inr (10, [.int 1, .ref u_3, .int 1]))]) [0] rfl
  have hD9 := hD.sub (ws' := [(b, .inr (10, [.int 1, .ref u_3, .int 1]))]) [0] (by decide) rfl
  refine W.widen (k := 1) (n := 10) (Nat.le_of_ble_eq_true rfl) (Nat.le_of_ble_eq_true rfl) ?_
  exact W.zret (v := 1) hx hb hr (by decide) (fun t ht hW => ⟨⟨1, u_3, rfl, rfl, ⟨by rw [ht]; exact hP9, hD9⟩⟩, hS.F ht⟩) hS.2.2 dJx4a65c_add_9ea2d_24

set_option maxHeartbeats 4000000 in
set_option maxRecDepth 100000 in
theorem c_add3W (l : Launch) (z0 : Nat) (D : va_G) (g : Nat → Nat) (sz : Nat) (b o : Nat) (vs : List Value) : Met l yJx4a65c_add_72be8 (wsp yJx4a65c_add_72be8 cJx4a65c_add_72be8 4 none) ({ frames := 3, cells := 1, slots := 10, locals := 67 }) (va_Pc [.ref b, .ref o, .ref (g 4), .int 0] (PM z0 D g sz [(b, .inr (10, [.int 1, .ref (g 4), .int 0])), (o, .inr (14, vs))])) (va_Qv (fun (_ : Nat) => True) (fun a t => va_P D classes [(b, .inr (10, [.int 1, .ref a, .int 1]))] t.heap ∧ va_D (va_A [(b, .inr (10, [.int 1, .ref (g 4), .int 0])), (o, .inr (14, vs))] sz) [(b, .inr (10, [.int 1, .ref a, .int 1]))]) (va_A [(b, .inr (10, [.int 1, .ref (g 4), .int 0])), (o, .inr (14, vs))] sz)) 1 10 (va_A [(b, .inr (10, [.int 1, .ref (g 4), .int 0])), (o, .inr (14, vs))] sz) := by
  refine Met.ofW (cc := cJx4a65c_add_72be8) (maxL := 4) (ret := none) (by decide) rfl ?_
  intro p e s m args below meth c s₁ B hml hv
  obtain ⟨rfl, hsz9, hz0, hE, hP, hD0⟩ := hv
  have hx := B.exec
  have hb := B.bytes
  have hr := B.returns
  have hts0 := atoms_spec (ws := (wsp yJx4a65c_add_72be8 cJx4a65c_add_72be8 4 none)) B.pre
  have hts : ∀ w ∈ lw_all, w.before _ s = true := fun w h => hts0 w (List.mem_cons_of_mem _ h)
  have hown : s.vm.findClass "java/util/ArrayList" = some m.cls := findClass_of_methodNamed B.named
  have hlocks := B.notSynchronized
  have hK := hE.K
  subst hsz9
  have hsz := hz0
  have hAz : ∀ q, va_A [(b, .inr (10, [.int 1, .ref (g 4), .int 0])), (o, .inr (14, vs))] s.heap.size q → z0 ≤ q := vaA_z hz0 hD0
  have hD := hD0.self (sz := s.heap.size)
  generalize hAe : va_A [(b, .inr (10, [.int 1, .ref (g 4), .int 0])), (o, .inr (14, vs))] s.heap.size = A at hD hAz ⊢
  have hA : ∀ q : Nat, s.heap.size ≤ q → A q := fun q h => by rw [← hAe]; exact Or.inr h
  have hS : va_S A s.heap s.heap [] := va_S.rf
  have hP : va_P D classes [(b, .inr (10, [.int 1, .ref (g 4), .int 0])), (o, .inr (14, vs))] s.heap := hP
  have hl := lv_entry ([.ref b, .ref o, .ref (g 4), .int 0]) (n := 4) (Nat.le_of_ble_eq_true rfl)
  rw [lg_entry_eq]
  generalize (lg_sl ([.ref b, .ref o, .ref (g 4), .int 0]) ++ List.replicate (4 - (lg_sl ([.ref b, .ref o, .ref (g 4), .int 0])).length) Slot.unset).toArray = ls at hl ⊢
  have hl : lv_has ls 4 [(0, .ref b), (1, .ref o), (2, .ref (g 4)), (3, .int 0)] := hl
  refine lv_iload_n hx hb dJx4a65c_add_72be8_0 rfl (lv_at hl 3 rfl) ?_
  refine lv_aload_n hx hb dJx4a65c_add_72be8_1 rfl (lv_at hl 2 rfl) ?_
  refine va_tlen hx hb (hE.el hAz) hS (v := 0) (by decide) dJx4a65c_add_72be8_2 ?_
  refine lv_icmp_ne (tgt := 11) hx hb dJx4a65c_add_72be8_3 (by decide) (fun h9 => absurd (by decide) h9) (fun _ => ?_)
  refine lv_aload_n hx hb dJx4a65c_add_72be8_6 rfl (lv_at hl 0 rfl) ?_
  have hc_1 := hP.sub (ws' := [(b, .inr (10, [.int 1, .ref (g 4), .int 0]))]) [0] rfl
  have hc_1D := hD.sub (ws' := [(b, .inr (10, [.int 1, .ref (g 4), .int 0]))]) [0] (by decide) rfl
  have hc_1F := va_free (wc := [(b, .inr (10, [.int 1, .ref (g 4), .int 0]))]) hD hS hA [0] rfl
  refine va_callr (va_runV (As := []) (rest := []) ⟨hx, hb, hml, hown, hts⟩ (c_grow l z0 D g _ b) (cwV 0 hts (lw_V m_1295 m_1297 mp_26 m_15 m_1298) rfl rfl rfl (by decide +kernel) ⟨(Nat.le_of_ble_eq_true rfl), (Nat.le_of_ble_eq_true rfl)⟩) ⟨PM.blind, va_recv hK hP (ci := 10) (q0 := 0) rfl rfl, PM.pre hE hS hAz hsz hc_1 hc_1D⟩ rfl rfl hl.1 rfl (lv_room (Nat.le_of_ble_eq_true rfl)) dJx4a65c_add_72be8_7 ⟨(Nat.le_of_ble_eq_true rfl), (Nat.le_of_ble_eq_true rfl)⟩) hS (fun q _ h => hc_1F q h) hc_1F (fun u_3 r_2 t H locs ht hvm hw hB hz1 hk1 hS => ?_)
  obtain ⟨cA9, hK9, hB⟩ := hB
  obtain ⟨hP1, hD1⟩ := hB
  rw [ht] at hP1
  obtain ⟨hP, hD⟩ := va_join (wr := [(o, .inr (14, vs))]) (w1 := [(b, .inr (10, [.int 1, .ref r_2, .int 0])), (r_2, .inl (cA9, 10, .inr (.inr (.inr (.inr (fun _ => none))))))]) hP hD [0] [1] rfl rfl (by decide) (by decide) hk1 hc_1F hP1 hD1
  have hP : va_P D classes [(o, .inr (14, vs)), (b, .inr (10, [.int 1, .ref r_2, .int 0])), (r_2, .inl (cA9, 10, .inr (.inr (.inr (.inr (fun _ => none))))))] H := hP
  have hD : va_D A [(o, .inr (14, vs)), (b, .inr (10, [.int 1, .ref r_2, .int 0])), (r_2, .inl (cA9, 10, .inr (.inr (.inr (.inr (fun _ => none))))))] := hD
  have hK := va_K.moved hvm.symm hK9
  have hK : va_K D classes [(cA9, .object "java/lang/Object")] s := hK
  refine lv_astore_n (lv' := [(2, .ref r_2), (0, .ref b), (1, .ref o), (3, .int 0)]) hx hb dJx4a65c_add_72be8_10 rfl hl (by decide) rfl (fun ls hl => ?_)
  refine lv_aload_n hx hb dJx4a65c_add_72be8_11 rfl (lv_at hl 0 rfl) ?_
  refine lv_iload_n hx hb dJx4a65c_add_72be8_12 rfl (lv_at hl 3 rfl) ?_
  refine lv_aload_n hx hb dJx4a65c_add_72be8_13 rfl (lv_at hl 2 rfl) ?_
  refine va_astqO (E := "java/lang/Object") (i := 0) hx hb hK hP hD hS 2 0 0 14 rfl rfl (hE.ng _ mn_2973) rfl rfl (by unfold vp_in; decide) dJx4a65c_add_72be8_14 (fun H locs hP hD hS => ?_)
  have hP : va_P D classes [(o, .inr (14, vs)), (b, .inr (10, [.int 1, .ref r_2, .int 0])), (r_2, .inl (cA9, 10, .inr (.inr (.inr (.inr (va_up (fun _ => none) (Int32.toNatClampNeg 0) (some o)))))))] H := hP
  have hD : va_D A [(o, .inr (14, vs)), (b, .inr (10, [.int 1, .ref r_2, .int 0])), (r_2, .inl (cA9, 10, .inr (.inr (.inr (.inr (va_up (fun _ => none) (Int32.toNatClampNeg 0) (some o)))))))] := hD
  refine lv_aload_n hx hb dJx4a65c_add_72be8_15 rfl (lv_at hl 1 rfl) ?_
  refine lv_iload_n hx hb dJx4a65c_add_72be8_16 rfl (lv_at hl 3 rfl) ?_
  refine lv_iconst (v := 1) hx hb dJx4a65c_add_72be8_17 (by decide) ?_
  refine lv_iadd hx hb dJx4a65c_add_72be8_18 ?_
  rw [show (0 + 1 : Int32) = 1 by decide]
  refine va_put (D := D) (ci := 10) (v := .int 1) (ty := .int) (C := RJx4a65c) (T := TJx4a65c) (N := 3) hx hb hts i_Jx4a65c tyJx4a65c tyJx4a65c_ok nmJx4a65c hown hK hP hD hS 1 rfl rfl 2 (by decide) (hts _ m_1134) (fun _ h9 => h9) rfl (by decide +kernel) rfl rfl (Nat.le_of_ble_eq_true rfl) dJx4a65c_add_72be8_19 (fun H locs hP hD hS => ?_)
  have hP : va_P D classes [(o, .inr (14, vs)), (b, .inr (10, [.int 1, .ref r_2, .int 1])), (r_2, .inl (cA9, 10, .inr (.inr (.inr (.inr (va_up (fun _ => none) (Int32.toNatClampNeg 0) (some o)))))))] H := hP
  have hD : va_D A [(o, .inr (14, vs)), (b, .inr (10, [.int 1, .ref r_2, .int 1])), (r_2, .inl (cA9, 10, .inr (.inr (.inr (.inr (va_up (fun _ => none) (Int32.toNatClampNeg 0) (some o)))))))] := hD
  have hP9 := hP.sub (ws' := [(b, .inr (10, [.int 1, .ref r_2, .int 1]))]) [1] rfl
  have hD9 := hD.sub (ws' := [(b, .inr (10, [.int 1, .ref r_2, .int 1]))]) [1] (by decide) rfl
  refine W.widen (k := 1) (n := 10) (Nat.le_of_ble_eq_true rfl) (Nat.le_of_ble_eq_true rfl) ?_
  exact W.vret hx hb hr (fun t ht hW => ⟨⟨r_2, rfl, trivial, ⟨by rw [ht]; exact hP9, hD9⟩⟩, hS.F ht⟩) hS.2.2 dJx4a65c_add_72be8_22

set_option maxHeartbeats 4000000 in
set_option maxRecDepth 100000 in
theorem c_add1W (l : Launch) (z0 : Nat) (D : va_G) (g : Nat → Nat) (sz : Nat) (b o : Nat) (vs : List Value) : Met l yJx4a65c_add_9ea2d (wsp yJx4a65c_add_9ea2d cJx4a65c_add_9ea2d 2 (some .boolean)) ({ frames := 4, cells := 1, slots := 10, locals := 90 }) (va_Pc [.ref b, .ref o] (PM z0 D g sz [(b, .inr (10, [.int 0, .ref (g 4), .int 0])), (o, .inr (14, vs))])) (va_Qi (fun (r : Int32) (_ : Nat) => r = 1) (fun a t => va_P D classes [(b, .inr (10, [.int 1, .ref a, .int 1]))] t.heap ∧ va_D (va_A [(b, .inr (10, [.int 0, .ref (g 4), .int 0])), (o, .inr (14, vs))] sz) [(b, .inr (10, [.int 1, .ref a, .int 1]))]) (va_A [(b, .inr (10, [.int 0, .ref (g 4), .int 0])), (o, .inr (14, vs))] sz)) 1 10 (va_A [(b, .inr (10, [.int 0, .ref (g 4), .int 0])), (o, .inr (14, vs))] sz) := by
  refine Met.ofW (cc := cJx4a65c_add_9ea2d) (maxL := 2) (ret := (some .boolean)) (by decide) rfl ?_
  intro p e s m args below meth c s₁ B hml hv
  obtain ⟨rfl, hsz9, hz0, hE, hP, hD0⟩ := hv
  have hx := B.exec
  have hb := B.bytes
  have hr := B.returns
  have hts0 := atoms_spec (ws := (wsp yJx4a65c_add_9ea2d cJx4a65c_add_9ea2d 2 (some .boolean))) B.pre
  have hts : ∀ w ∈ lw_all, w.before _ s = true := fun w h => hts0 w (List.mem_cons_of_mem _ h)
  have hown : s.vm.findClass "java/util/ArrayList" = some m.cls := findClass_of_methodNamed B.named
  have hlocks := B.notSynchronized
  have hK := hE.K
  subst hsz9
  have hsz := hz0
  have hAz : ∀ q, va_A [(b, .inr (10, [.int 0, .ref (g 4), .int 0])), (o, .inr (14, vs))] s.heap.size q → z0 ≤ q := vaA_z hz0 hD0
  have hD := hD0.self (sz := s.heap.size)
  generalize hAe : va_A [(b, .inr (10, [.int 0, .ref (g 4), .int 0])), (o, .inr (14, vs))] s.heap.size = A at hD hAz ⊢
  have hA : ∀ q : Nat, s.heap.size ≤ q → A q := fun q h => by rw [← hAe]; exact Or.inr h
  have hS : va_S A s.heap s.heap [] := va_S.rf
  have hP : va_P D classes [(b, .inr (10, [.int 0, .ref (g 4), .int 0])), (o, .inr (14, vs))] s.heap := hP
  have hl := lv_entry ([.ref b, .ref o]) (n := 2) (Nat.le_of_ble_eq_true rfl)
  rw [lg_entry_eq]
  generalize (lg_sl ([.ref b, .ref o]) ++ List.replicate (2 - (lg_sl ([.ref b, .ref o])).length) Slot.unset).toArray = ls at hl ⊢
  have hl : lv_has ls 2 [(0, .ref b), (1, .ref o)] := hl
  refine lv_aload_n hx hb dJx4a65c_add_9ea2d_0 rfl (lv_at hl 0 rfl) ?_
  refine lv_dup hx hb dJx4a65c_add_9ea2d_1 rfl ?_
  refine va_get (D := D) (ci := 10) (v := .int 0) (C := RJx4a65c) (T := TJx4a65c) (N := 3) hx hb hts i_Jx4a65c hown hK hP 0 rfl rfl 0 (by decide) (hts _ m_1138) (u_same (hts _ m_1137)) rfl dJx4a65c_add_9ea2d_2 ?_
  refine lv_iconst (v := 1) hx hb dJx4a65c_add_9ea2d_5 (by decide) ?_
  refine lv_iadd hx hb dJx4a65c_add_9ea2d_6 ?_
  rw [show (0 + 1 : Int32) = 1 by decide]
  refine va_put (D := D) (ci := 10) (v := .int 1) (ty := .int) (C := RJx4a65c) (T := TJx4a65c) (N := 3) hx hb hts i_Jx4a65c tyJx4a65c tyJx4a65c_ok nmJx4a65c hown hK hP hD hS 0 rfl rfl 0 (by decide) (hts _ m_1138) (u_same (hts _ m_1137)) rfl (by decide +kernel) rfl rfl (Nat.le_of_ble_eq_true rfl) dJx4a65c_add_9ea2d_7 (fun H locs hP hD hS => ?_)
  have hP : va_P D classes [(b, .inr (10, [.int 1, .ref (g 4), .int 0])), (o, .inr (14, vs))] H := hP
  have hD : va_D A [(b, .inr (10, [.int 1, .ref (g 4), .int 0])), (o, .inr (14, vs))] := hD
  refine lv_aload_n hx hb dJx4a65c_add_9ea2d_10 rfl (lv_at hl 0 rfl) ?_
  refine lv_aload_n hx hb dJx4a65c_add_9ea2d_11 rfl (lv_at hl 1 rfl) ?_
  refine lv_aload_n hx hb dJx4a65c_add_9ea2d_12 rfl (lv_at hl 0 rfl) ?_
  refine va_get (D := D) (ci := 10) (v := .ref (g 4)) (C := RJx4a65c) (T := TJx4a65c) (N := 3) hx hb hts i_Jx4a65c hown hK hP 0 rfl rfl 1 (by decide) (hts _ m_1131) (fun _ h9 => h9) rfl dJx4a65c_add_9ea2d_13 ?_
  refine lv_aload_n hx hb dJx4a65c_add_9ea2d_16 rfl (lv_at hl 0 rfl) ?_
  refine va_get (D := D) (ci := 10) (v := .int 0) (C := RJx4a65c) (T := TJx4a65c) (N := 3) hx hb hts i_Jx4a65c hown hK hP 0 rfl rfl 2 (by decide) (hts _ m_1134) (fun _ h9 => h9) rfl dJx4a65c_add_9ea2d_17 ?_
  have hc_1 := hP.sub (ws' := [(b, .inr (10, [.int 1, .ref (g 4), .int 0])), (o, .inr (14, vs))]) [0, 1] rfl
  have hc_1D := hD.sub (ws' := [(b, .inr (10, [.int 1, .ref (g 4), .int 0])), (o, .inr (14, vs))]) [0, 1] (by decide) rfl
  have hc_1F := va_free (wc := [(b, .inr (10, [.int 1, .ref (g 4), .int 0])), (o, .inr (14, vs))]) hD hS hA [0, 1] rfl
  refine va_callv (va_runV (As := [.ref o, .ref (g 4), .int 0]) (rest := []) ⟨hx, hb, hml, hown, hts⟩ (c_add3W l z0 D g _ b o vs) (cwV 3 hts (lw_V m_1291 m_1293 mp_25 m_15 m_1294) rfl rfl rfl (by decide +kernel) ⟨(Nat.le_of_ble_eq_true rfl), (Nat.le_of_ble_eq_true rfl)⟩) ⟨PM.blind, va_recv hK hP (ci := 10) (q0 := 0) rfl rfl, PM.pre hE hS hAz hsz hc_1 hc_1D⟩ rfl rfl hl.1 rfl (lv_room (Nat.le_of_ble_eq_true rfl)) dJx4a65c_add_9ea2d_20 ⟨(Nat.le_of_ble_eq_true rfl), (Nat.le_of_ble_eq_true rfl)⟩) hS (fun q _ h => hc_1F q h) hc_1F (fun u_3 t H locs ht hvm hw hB hz1 hk1 hS => ?_)
  obtain ⟨hP1, hD1⟩ := hB
  rw [ht] at hP1
  obtain ⟨hP, hD⟩ := va_join (wr := []) (w1 := [(b, .inr (10, [.int 1, .ref u_3, .int 1]))]) hP hD [0, 1] [] rfl rfl (by decide) (by decide) hk1 hc_1F hP1 hD1
  have hP : va_P D classes [(b, .inr (10, [.int 1, .ref u_3, .int 1]))] H := hP
  have hD : va_D A [(b, .inr (10, [.int 1, .ref u_3, .int 1]))] := hD
  refine lv_iconst (v := 1) hx hb dJx4a65c_add_9ea2d_23 (by decide) ?_
  have hP9 := hP.sub (ws' := [(b, .inr (10, [.int 1, .ref u_3, .int 1]))]) [0] rfl
  have hD9 := hD.sub (ws' := [(b, .inr (10, [.int 1, .ref u_3, .int 1]))]) [0] (by decide) rfl
  refine W.widen (k := 1) (n := 10) (Nat.le_of_ble_eq_true rfl) (Nat.le_of_ble_eq_true rfl) ?_
  exact W.zret (v := 1) hx hb hr (by decide) (fun t ht hW => ⟨⟨1, u_3, rfl, rfl, ⟨by rw [ht]; exact hP9, hD9⟩⟩, hS.F ht⟩) hS.2.2 dJx4a65c_add_9ea2d_24

set_option maxHeartbeats 4000000 in
set_option maxRecDepth 100000 in
theorem c_init_RP (l : Launch) (z0 : Nat) (D : va_G) (g : Nat → Nat) (sz : Nat) (o : Nat) (p0 p1 : Int32) : Met l yX15_init (wsp yX15_init cX15_init 3 none) ({ frames := 1, cells := 0, slots := 0, locals := 20 }) (va_Pc [.ref o, .int p0, .int p1] (PM z0 D g sz [(o, .inr (12, [.int 0, .int 0, .int 0, .int 0, .int 0, .int 0]))])) (va_Qv (fun (_ : Unit) => True) (fun (_ : Unit) t => va_P D classes [(o, .inr (12, [.int p0, .int p1, .int p1, .int (-1), .int (-1), .int 0]))] t.heap ∧ va_D (va_A [(o, .inr (12, [.int 0, .int 0, .int 0, .int 0, .int 0, .int 0]))] sz) [(o, .inr (12, [.int p0, .int p1, .int p1, .int (-1), .int (-1), .int 0]))]) (va_A [(o, .inr (12, [.int 0, .int 0, .int 0, .int 0, .int 0, .int 0]))] sz)) 0 0 (va_A [(o, .inr (12, [.int 0, .int 0, .int 0, .int 0, .int 0, .int 0]))] sz) := by
  refine Met.ofW (cc := cX15_init) (maxL := 3) (ret := none) (by decide) rfl ?_
  intro p e s m args below meth c s₁ B hml hv
  obtain ⟨rfl, hsz9, hz0, hE, hP, hD0⟩ := hv
  have hx := B.exec
  have hb := B.bytes
  have hr := B.returns
  have hts0 := atoms_spec (ws := (wsp yX15_init cX15_init 3 none)) B.pre
  have hts : ∀ w ∈ lw_all, w.before _ s = true := fun w h => hts0 w (List.mem_cons_of_mem _ h)
  have hown : s.vm.findClass "TheatrehouseModel$Person" = some m.cls := findClass_of_methodNamed B.named
  have hlocks := B.notSynchronized
  have hin : meth.name = "<init>" := (name_of_methodNamed B.named B.method).1
  have hK := hE.K
  subst hsz9
  have hsz := hz0
  have hAz : ∀ q, va_A [(o, .inr (12, [.int 0, .int 0, .int 0, .int 0, .int 0, .int 0]))] s.heap.size q → z0 ≤ q := vaA_z hz0 hD0
  have hD := hD0.self (sz := s.heap.size)
  generalize hAe : va_A [(o, .inr (12, [.int 0, .int 0, .int 0, .int 0, .int 0, .int 0]))] s.heap.size = A at hD hAz ⊢
  have hA : ∀ q : Nat, s.heap.size ≤ q → A q := fun q h => by rw [← hAe]; exact Or.inr h
  have hS : va_S A s.heap s.heap [] := va_S.rf
  have hP : va_P D classes [(o, .inr (12, [.int 0, .int 0, .int 0, .int 0, .int 0, .int 0]))] s.heap := hP
  have hl := lv_entry ([.ref o, .int p0, .int p1]) (n := 3) (Nat.le_of_ble_eq_true rfl)
  rw [lg_entry_eq]
  generalize (lg_sl ([.ref o, .int p0, .int p1]) ++ List.replicate (3 - (lg_sl ([.ref o, .int p0, .int p1])).length) Slot.unset).toArray = ls at hl ⊢
  have hl : lv_has ls 3 [(0, .ref o), (1, .int p0), (2, .int p1)] := hl
  refine lv_aload_n hx hb dX15_init_0 rfl (lv_at hl 0 rfl) ?_
  refine W.objInit hx hb hown (hts _ m_1257) (hts _ m_69) (hts _ m_70) rfl (by rw [hml]; exact hl.1) rfl dX15_init_1 (Nat.le_of_ble_eq_true rfl) (Nat.le_of_ble_eq_true rfl) ?_
  refine W.eq (g2 := F0 m 4 ls []) rfl ?_
  refine lv_aload_n hx hb dX15_init_4 rfl (lv_at hl 0 rfl) ?_
  refine lv_iconst (v := (-1)) hx hb dX15_init_5 (by decide) ?_
  refine va_put (D := D) (ci := 12) (v := .int (-1)) (ty := .int) (C := RX15) (T := TX15) (N := 6) hx hb hts i_X15 tyX15 tyX15_ok nmX15 hown hK hP hD hS 0 rfl rfl 3 (by decide) (hts _ m_1264) (fun _ h9 => h9) rfl (by decide +kernel) rfl rfl (Nat.le_of_ble_eq_true rfl) dX15_init_6 (fun H locs hP hD hS => ?_)
  have hP : va_P D classes [(o, .inr (12, [.int 0, .int 0, .int 0, .int (-1), .int 0, .int 0]))] H := hP
  have hD : va_D A [(o, .inr (12, [.int 0, .int 0, .int 0, .int (-1), .int 0, .int 0]))] := hD
  refine lv_aload_n hx hb dX15_init_9 rfl (lv_at hl 0 rfl) ?_
  refine lv_iconst (v := (-1)) hx hb dX15_init_10 (by decide) ?_
  refine va_put (D := D) (ci := 12) (v := .int (-1)) (ty := .int) (C := RX15) (T := TX15) (N := 6) hx hb hts i_X15 tyX15 tyX15_ok nmX15 hown hK hP hD hS 0 rfl rfl 4 (by decide) (hts _ m_1266) (fun _ h9 => h9) rfl (by decide +kernel) rfl rfl (Nat.le_of_ble_eq_true rfl) dX15_init_11 (fun H locs hP hD hS => ?_)
  have hP : va_P D classes [(o, .inr (12, [.int 0, .int 0, .int 0, .int (-1), .int (-1), .int 0]))] H := hP
  have hD : va_D A [(o, .inr (12, [.int 0, .int 0, .int 0, .int (-1), .int (-1), .int 0]))] := hD
  refine lv_aload_n hx hb dX15_init_14 rfl (lv_at hl 0 rfl) ?_
  refine lv_iload_n hx hb dX15_init_15 rfl (lv_at hl 1 rfl) ?_
  refine va_putF (D := D) (ci := 12) (v := .int p0) (ty := .int) (C := RX15) (T := TX15) (N := 6) hx hb hts i_X15 tyX15 tyX15_ok nmX15 hown hK hP hD hS 0 rfl rfl 0 (by decide) (hts _ m_1258) (fun _ h9 => h9) rfl hin rfl (by decide +kernel) rfl rfl (Nat.le_of_ble_eq_true rfl) dX15_init_16 (fun H locs hP hD hS => ?_)
  have hP : va_P D classes [(o, .inr (12, [.int p0, .int 0, .int 0, .int (-1), .int (-1), .int 0]))] H := hP
  have hD : va_D A [(o, .inr (12, [.int p0, .int 0, .int 0, .int (-1), .int (-1), .int 0]))] := hD
  refine lv_aload_n hx hb dX15_init_19 rfl (lv_at hl 0 rfl) ?_
  refine lv_iload_n hx hb dX15_init_20 rfl (lv_at hl 2 rfl) ?_
  refine va_putF (D := D) (ci := 12) (v := .int p1) (ty := .int) (C := RX15) (T := TX15) (N := 6) hx hb hts i_X15 tyX15 tyX15_ok nmX15 hown hK hP hD hS 0 rfl rfl 1 (by decide) (hts _ m_1260) (fun _ h9 => h9) rfl hin rfl (by decide +kernel) rfl rfl (Nat.le_of_ble_eq_true rfl) dX15_init_21 (fun H locs hP hD hS => ?_)
  have hP : va_P D classes [(o, .inr (12, [.int p0, .int p1, .int 0, .int (-1), .int (-1), .int 0]))] H := hP
  have hD : va_D A [(o, .inr (12, [.int p0, .int p1, .int 0, .int (-1), .int (-1), .int 0]))] := hD
  refine lv_aload_n hx hb dX15_init_24 rfl (lv_at hl 0 rfl) ?_
  refine lv_iload_n hx hb dX15_init_25 rfl (lv_at hl 2 rfl) ?_
  refine va_put (D := D) (ci := 12) (v := .int p1) (ty := .int) (C := RX15) (T := TX15) (N := 6) hx hb hts i_X15 tyX15 tyX15_ok nmX15 hown hK hP hD hS 0 rfl rfl 2 (by decide) (hts _ m_1262) (fun _ h9 => h9) rfl (by decide +kernel) rfl rfl (Nat.le_of_ble_eq_true rfl) dX15_init_26 (fun H locs hP hD hS => ?_)
  have hP : va_P D classes [(o, .inr (12, [.int p0, .int p1, .int p1, .int (-1), .int (-1), .int 0]))] H := hP
  have hD : va_D A [(o, .inr (12, [.int p0, .int p1, .int p1, .int (-1), .int (-1), .int 0]))] := hD
  have hP9 := hP.sub (ws' := [(o, .inr (12, [.int p0, .int p1, .int p1, .int (-1), .int (-1), .int 0]))]) [0] rfl
  have hD9 := hD.sub (ws' := [(o, .inr (12, [.int p0, .int p1, .int p1, .int (-1), .int (-1), .int 0]))]) [0] (by decide) rfl
  refine W.widen (k := 0) (n := 0) (Nat.le_of_ble_eq_true rfl) (Nat.le_of_ble_eq_true rfl) ?_
  exact W.vret hx hb hr (fun t ht hW => ⟨⟨(), rfl, trivial, ⟨by rw [ht]; exact hP9, hD9⟩⟩, hS.F ht⟩) hS.2.2 dX15_init_29

set_option maxHeartbeats 4000000 in
set_option maxRecDepth 100000 in
theorem c_init_RM (l : Launch) (z0 : Nat) (D : va_G) (g : Nat → Nat) (sz : Nat) (o : Nat) (p0 p1 : Int32) : Met l yX14_init (wsp yX14_init cX14_init 3 none) ({ frames := 1, cells := 0, slots := 0, locals := 20 }) (va_Pc [.ref o, .int p0, .int p1] (PM z0 D g sz [(o, .inr (13, [.int 0, .int 0, .int 0, .int 0, .int 0]))])) (va_Qv (fun (_ : Unit) => True) (fun (_ : Unit) t => va_P D classes [(o, .inr (13, [.int p0, .int p1, .int (-1), .int 0, .int 0]))] t.heap ∧ va_D (va_A [(o, .inr (13, [.int 0, .int 0, .int 0, .int 0, .int 0]))] sz) [(o, .inr (13, [.int p0, .int p1, .int (-1), .int 0, .int 0]))]) (va_A [(o, .inr (13, [.int 0, .int 0, .int 0, .int 0, .int 0]))] sz)) 0 0 (va_A [(o, .inr (13, [.int 0, .int 0, .int 0, .int 0, .int 0]))] sz) := by
  refine Met.ofW (cc := cX14_init) (maxL := 3) (ret := none) (by decide) rfl ?_
  intro p e s m args below meth c s₁ B hml hv
  obtain ⟨rfl, hsz9, hz0, hE, hP, hD0⟩ := hv
  have hx := B.exec
  have hb := B.bytes
  have hr := B.returns
  have hts0 := atoms_spec (ws := (wsp yX14_init cX14_init 3 none)) B.pre
  have hts : ∀ w ∈ lw_all, w.before _ s = true := fun w h => hts0 w (List.mem_cons_of_mem _ h)
  have hown : s.vm.findClass "TheatrehouseModel$Machine" = some m.cls := findClass_of_methodNamed B.named
  have hlocks := B.notSynchronized
  have hin : meth.name = "<init>" := (name_of_methodNamed B.named B.method).1
  have hK := hE.K
  subst hsz9
  have hsz := hz0
  have hAz : ∀ q, va_A [(o, .inr (13, [.int 0, .int 0, .int 0, .int 0, .int 0]))] s.heap.size q → z0 ≤ q := vaA_z hz0 hD0
  have hD := hD0.self (sz := s.heap.size)
  generalize hAe : va_A [(o, .inr (13, [.int 0, .int 0, .int 0, .int 0, .int 0]))] s.heap.size = A at hD hAz ⊢
  have hA : ∀ q : Nat, s.heap.size ≤ q → A q := fun q h => by rw [← hAe]; exact Or.inr h
  have hS : va_S A s.heap s.heap [] := va_S.rf
  have hP : va_P D classes [(o, .inr (13, [.int 0, .int 0, .int 0, .int 0, .int 0]))] s.heap := hP
  have hl := lv_entry ([.ref o, .int p0, .int p1]) (n := 3) (Nat.le_of_ble_eq_true rfl)
  rw [lg_entry_eq]
  generalize (lg_sl ([.ref o, .int p0, .int p1]) ++ List.replicate (3 - (lg_sl ([.ref o, .int p0, .int p1])).length) Slot.unset).toArray = ls at hl ⊢
  have hl : lv_has ls 3 [(0, .ref o), (1, .int p0), (2, .int p1)] := hl
  refine lv_aload_n hx hb dX14_init_0 rfl (lv_at hl 0 rfl) ?_
  refine W.objInit hx hb hown (hts _ m_1409) (hts _ m_69) (hts _ m_70) rfl (by rw [hml]; exact hl.1) rfl dX14_init_1 (Nat.le_of_ble_eq_true rfl) (Nat.le_of_ble_eq_true rfl) ?_
  refine W.eq (g2 := F0 m 4 ls []) rfl ?_
  refine lv_aload_n hx hb dX14_init_4 rfl (lv_at hl 0 rfl) ?_
  refine lv_iconst (v := (-1)) hx hb dX14_init_5 (by decide) ?_
  refine va_put (D := D) (ci := 13) (v := .int (-1)) (ty := .int) (C := RX14) (T := TX14) (N := 5) hx hb hts i_X14 tyX14 tyX14_ok nmX14 hown hK hP hD hS 0 rfl rfl 2 (by decide) (hts _ m_1414) (fun _ h9 => h9) rfl (by decide +kernel) rfl rfl (Nat.le_of_ble_eq_true rfl) dX14_init_6 (fun H locs hP hD hS => ?_)
  have hP : va_P D classes [(o, .inr (13, [.int 0, .int 0, .int (-1), .int 0, .int 0]))] H := hP
  have hD : va_D A [(o, .inr (13, [.int 0, .int 0, .int (-1), .int 0, .int 0]))] := hD
  refine lv_aload_n hx hb dX14_init_9 rfl (lv_at hl 0 rfl) ?_
  refine lv_iload_n hx hb dX14_init_10 rfl (lv_at hl 1 rfl) ?_
  refine va_putF (D := D) (ci := 13) (v := .int p0) (ty := .int) (C := RX14) (T := TX14) (N := 5) hx hb hts i_X14 tyX14 tyX14_ok nmX14 hown hK hP hD hS 0 rfl rfl 0 (by decide) (hts _ m_1410) (fun _ h9 => h9) rfl hin rfl (by decide +kernel) rfl rfl (Nat.le_of_ble_eq_true rfl) dX14_init_11 (fun H locs hP hD hS => ?_)
  have hP : va_P D classes [(o, .inr (13, [.int p0, .int 0, .int (-1), .int 0, .int 0]))] H := hP
  have hD : va_D A [(o, .inr (13, [.int p0, .int 0, .int (-1), .int 0, .int 0]))] := hD
  refine lv_aload_n hx hb dX14_init_14 rfl (lv_at hl 0 rfl) ?_
  refine lv_iload_n hx hb dX14_init_15 rfl (lv_at hl 2 rfl) ?_
  refine va_putF (D := D) (ci := 13) (v := .int p1) (ty := .int) (C := RX14) (T := TX14) (N := 5) hx hb hts i_X14 tyX14 tyX14_ok nmX14 hown hK hP hD hS 0 rfl rfl 1 (by decide) (hts _ m_1412) (fun _ h9 => h9) rfl hin rfl (by decide +kernel) rfl rfl (Nat.le_of_ble_eq_true rfl) dX14_init_16 (fun H locs hP hD hS => ?_)
  have hP : va_P D classes [(o, .inr (13, [.int p0, .int p1, .int (-1), .int 0, .int 0]))] H := hP
  have hD : va_D A [(o, .inr (13, [.int p0, .int p1, .int (-1), .int 0, .int 0]))] := hD
  have hP9 := hP.sub (ws' := [(o, .inr (13, [.int p0, .int p1, .int (-1), .int 0, .int 0]))]) [0] rfl
  have hD9 := hD.sub (ws' := [(o, .inr (13, [.int p0, .int p1, .int (-1), .int 0, .int 0]))]) [0] (by decide) rfl
  refine W.widen (k := 0) (n := 0) (Nat.le_of_ble_eq_true rfl) (Nat.le_of_ble_eq_true rfl) ?_
  exact W.vret hx hb hr (fun t ht hW => ⟨⟨(), rfl, trivial, ⟨by rw [ht]; exact hP9, hD9⟩⟩, hS.F ht⟩) hS.2.2 dX14_init_19

set_option maxHeartbeats 4000000 in
set_option maxRecDepth 100000 in
theorem c_init_RW (l : Launch) (z0 : Nat) (D : va_G) (g : Nat → Nat) (sz : Nat) (o : Nat) (p0 p1 : Int32) (k : Nat) (hk : k ≤ 5) (ek : p0 = nI k) : Met l yX17_init (wsp yX17_init cX17_init 3 none) ({ frames := 4, cells := 3, slots := 13, locals := 80 }) (va_Pc [.ref o, .int p0, .int p1] (PM z0 D g sz [(o, .inr (14, [.null, .null, .int 0, .null, .int 0]))])) (va_Qv (fun (_ : List Value) => True) (fun vs t => va_P D classes [(o, .inr (14, vs))] t.heap ∧ va_D (va_A [(o, .inr (14, [.null, .null, .int 0, .null, .int 0]))] sz) [(o, .inr (14, vs))]) (va_A [(o, .inr (14, [.null, .null, .int 0, .null, .int 0]))] sz)) 3 13 (va_A [(o, .inr (14, [.null, .null, .int 0, .null, .int 0]))] sz) := by
  refine Met.ofW (cc := cX17_init) (maxL := 3) (ret := none) (by decide) rfl ?_
  intro p e s m args below meth c s₁ B hml hv
  obtain ⟨rfl, hsz9, hz0, hE, hP, hD0⟩ := hv
  have hx := B.exec
  have hb := B.bytes
  have hr := B.returns
  have hts0 := atoms_spec (ws := (wsp yX17_init cX17_init 3 none)) B.pre
  have hts : ∀ w ∈ lw_all, w.before _ s = true := fun w h => hts0 w (List.mem_cons_of_mem _ h)
  have hown : s.vm.findClass "TheatrehouseModel$Work" = some m.cls := findClass_of_methodNamed B.named
  have hlocks := B.notSynchronized
  have hin : meth.name = "<init>" := (name_of_methodNamed B.named B.method).1
  have hK := hE.K
  subst hsz9
  have hsz := hz0
  have hAz : ∀ q, va_A [(o, .inr (14, [.null, .null, .int 0, .null, .int 0]))] s.heap.size q → z0 ≤ q := vaA_z hz0 hD0
  have hD := hD0.self (sz := s.heap.size)
  generalize hAe : va_A [(o, .inr (14, [.null, .null, .int 0, .null, .int 0]))] s.heap.size = A at hD hAz ⊢
  have hA : ∀ q : Nat, s.heap.size ≤ q → A q := fun q h => by rw [← hAe]; exact Or.inr h
  have hS : va_S A s.heap s.heap [] := va_S.rf
  have hP : va_P D classes [(o, .inr (14, [.null, .null, .int 0, .null, .int 0]))] s.heap := hP
  have hl := lv_entry ([.ref o, .int p0, .int p1]) (n := 3) (Nat.le_of_ble_eq_true rfl)
  rw [lg_entry_eq]
  generalize (lg_sl ([.ref o, .int p0, .int p1]) ++ List.replicate (3 - (lg_sl ([.ref o, .int p0, .int p1])).length) Slot.unset).toArray = ls at hl ⊢
  have hl : lv_has ls 3 [(0, .ref o), (1, .int p0), (2, .int p1)] := hl
  refine lv_aload_n hx hb dX17_init_0 rfl (lv_at hl 0 rfl) ?_
  refine W.objInit hx hb hown (hts _ m_1448) (hts _ m_69) (hts _ m_70) rfl (by rw [hml]; exact hl.1) rfl dX17_init_1 (Nat.le_of_ble_eq_true rfl) (Nat.le_of_ble_eq_true rfl) ?_
  refine W.eq (g2 := F0 m 4 ls []) rfl ?_
  refine lv_aload_n hx hb dX17_init_4 rfl (lv_at hl 0 rfl) ?_
  refine va_new (ci := 10) (fs := [.int 0, .null, .int 0]) (C := RJx4a65c) (T := TJx4a65c) (N := 3) hx hb hts i_Jx4a65c tyJx4a65c tyJx4a65c_ok hown (hts _ m_1449) (hts _ m_1118) (hts _ m_15) hK hP hD hS hA rfl (fun j hj => by rcases (show j = 0 ∨ j = 1 ∨ j = 2 by omega) with rfl | rfl | rfl <;> rfl) (Nat.le_of_ble_eq_true rfl) (Nat.le_of_ble_eq_true rfl) dX17_init_5 (fun q_1 H hP hD hS => ?_)
  have hP : va_P D classes [(o, .inr (14, [.null, .null, .int 0, .null, .int 0])), (q_1, .inr (10, [.int 0, .null, .int 0]))] H := hP
  have hD : va_D A [(o, .inr (14, [.null, .null, .int 0, .null, .int 0])), (q_1, .inr (10, [.int 0, .null, .int 0]))] := hD
  refine lv_dup hx hb dX17_init_8 rfl ?_
  have hc_2 := hP.sub (ws' := [(q_1, .inr (10, [.int 0, .null, .int 0]))]) [1] rfl
  have hc_2D := hD.sub (ws' := [(q_1, .inr (10, [.int 0, .null, .int 0]))]) [1] (by decide) rfl
  have hc_2F := va_free (wc := [(q_1, .inr (10, [.int 0, .null, .int 0]))]) hD hS hA [1] rfl
  refine va_callv (va_runI (As := []) (rest := [.ref q_1, .ref o]) ⟨hx, hb, hml, hown, hts⟩ (c_init_ArrayList l z0 D g _ q_1) (cwI 0 hts (lw_I m_1121) rfl rfl rfl (hts _ m_15) (hts _ m_1450) (hts _ m_1120) rfl (by decide +kernel) ⟨(Nat.le_of_ble_eq_true rfl), (Nat.le_of_ble_eq_true rfl)⟩) ⟨PM.blind, PM.pre hE hS hAz hsz hc_2 hc_2D⟩ rfl rfl hl.1 rfl (lv_room (Nat.le_of_ble_eq_true rfl)) dX17_init_9 ⟨(Nat.le_of_ble_eq_true rfl), (Nat.le_of_ble_eq_true rfl)⟩) hS (fun q _ h => hc_2F q h) hc_2F (fun u_4 t H locs ht hvm hw hB hz1 hk1 hS => ?_)
  obtain ⟨hP1, hD1⟩ := hB
  rw [ht] at hP1
  obtain ⟨hP, hD⟩ := va_join (wr := [(o, .inr (14, [.null, .null, .int 0, .null, .int 0]))]) (w1 := [(q_1, .inr (10, [.int 0, .ref (g 4), .int 0]))]) hP hD [1] [0] rfl rfl (by decide) (by decide) hk1 hc_2F hP1 hD1
  have hP : va_P D classes [(o, .inr (14, [.null, .null, .int 0, .null, .int 0])), (q_1, .inr (10, [.int 0, .ref (g 4), .int 0]))] H := hP
  have hD : va_D A [(o, .inr (14, [.null, .null, .int 0, .null, .int 0])), (q_1, .inr (10, [.int 0, .ref (g 4), .int 0]))] := hD
  refine va_putF (D := D) (ci := 14) (v := .ref q_1) (ty := (.object "java/util/List")) (C := RX17) (T := TX17) (N := 5) hx hb hts i_X17 tyX17 tyX17_ok nmX17 hown hK hP hD hS 0 rfl rfl 3 (by decide) (hts _ m_1457) (fun _ h9 => h9) rfl hin rfl (by decide +kernel) rfl rfl (Nat.le_of_ble_eq_true rfl) dX17_init_12 (fun H locs hP hD hS => ?_)
  have hP : va_P D classes [(o, .inr (14, [.null, .null, .int 0, .ref q_1, .int 0])), (q_1, .inr (10, [.int 0, .ref (g 4), .int 0]))] H := hP
  have hD : va_D A [(o, .inr (14, [.null, .null, .int 0, .ref q_1, .int 0])), (q_1, .inr (10, [.int 0, .ref (g 4), .int 0]))] := hD
  refine lv_aload_n hx hb dX17_init_15 rfl (lv_at hl 0 rfl) ?_
  refine lv_iload_n hx hb dX17_init_16 rfl (lv_at hl 1 rfl) ?_
  refine va_newa (atype := .int) (ty := .int) (a0 := (k, .inl (fun _ => 0))) hx hb (hts _ m_125) rfl hK hP hD hS hA (fun _ => rfl) (by rw [ek]; exact nI_pos (by omega)) (by rw [ek]; exact nI_clamp (by omega)) (by first | (show k * 4 ≤ 536870912; omega) | (show k * 1 ≤ 536870912; omega)) (Nat.le_of_ble_eq_true rfl) (Nat.le_trans (show 3 + k ≤ 3 + 5 by omega) (Nat.le_of_ble_eq_true rfl)) dX17_init_17 (fun q_5 cA_6 H hK hP hD hS => ?_)
  refine W.widen (k := 2) (n := 8) (by omega) (by omega) ?_
  have hP : va_P D classes [(o, .inr (14, [.null, .null, .int 0, .ref q_1, .int 0])), (q_1, .inr (10, [.int 0, .ref (g 4), .int 0])), (q_5, .inl (cA_6, k, .inl (fun _ => 0)))] H := hP
  have hD : va_D A [(o, .inr (14, [.null, .null, .int 0, .ref q_1, .int 0])), (q_1, .inr (10, [.int 0, .ref (g 4), .int 0])), (q_5, .inl (cA_6, k, .inl (fun _ => 0)))] := hD
  have hK : va_K D classes [(cA_6, .int)] s := hK
  refine va_putF (D := D) (ci := 14) (v := .ref q_5) (ty := (.array .int)) (C := RX17) (T := TX17) (N := 5) hx hb hts i_X17 tyX17 tyX17_ok nmX17 hown hK hP hD hS 0 rfl rfl 0 (by decide) (hts _ m_1451) (fun _ h9 => h9) rfl hin rfl (by decide +kernel) rfl rfl (Nat.le_of_ble_eq_true rfl) dX17_init_19 (fun H locs hP hD hS => ?_)
  have hP : va_P D classes [(o, .inr (14, [.ref q_5, .null, .int 0, .ref q_1, .int 0])), (q_1, .inr (10, [.int 0, .ref (g 4), .int 0])), (q_5, .inl (cA_6, k, .inl (fun _ => 0)))] H := hP
  have hD : va_D A [(o, .inr (14, [.ref q_5, .null, .int 0, .ref q_1, .int 0])), (q_1, .inr (10, [.int 0, .ref (g 4), .int 0])), (q_5, .inl (cA_6, k, .inl (fun _ => 0)))] := hD
  refine lv_aload_n hx hb dX17_init_22 rfl (lv_at hl 0 rfl) ?_
  refine lv_iload_n hx hb dX17_init_23 rfl (lv_at hl 1 rfl) ?_
  refine va_newa (atype := .boolean) (ty := .boolean) (a0 := (k, .inl (fun _ => 0))) hx hb (hts _ m_126) rfl hK hP hD hS hA (fun _ => rfl) (by rw [ek]; exact nI_pos (by omega)) (by rw [ek]; exact nI_clamp (by omega)) (by first | (show k * 4 ≤ 536870912; omega) | (show k * 1 ≤ 536870912; omega)) (Nat.le_of_ble_eq_true rfl) (Nat.le_trans (show 8 + k ≤ 8 + 5 by omega) (Nat.le_of_ble_eq_true rfl)) dX17_init_24 (fun q_7 cA_8 H hK hP hD hS => ?_)
  refine W.widen (k := 3) (n := 13) (by omega) (by omega) ?_
  have hP : va_P D classes [(o, .inr (14, [.ref q_5, .null, .int 0, .ref q_1, .int 0])), (q_1, .inr (10, [.int 0, .ref (g 4), .int 0])), (q_5, .inl (cA_6, k, .inl (fun _ => 0))), (q_7, .inl (cA_8, k, .inl (fun _ => 0)))] H := hP
  have hD : va_D A [(o, .inr (14, [.ref q_5, .null, .int 0, .ref q_1, .int 0])), (q_1, .inr (10, [.int 0, .ref (g 4), .int 0])), (q_5, .inl (cA_6, k, .inl (fun _ => 0))), (q_7, .inl (cA_8, k, .inl (fun _ => 0)))] := hD
  have hK : va_K D classes [(cA_6, .int), (cA_8, .boolean)] s := hK
  refine va_putF (D := D) (ci := 14) (v := .ref q_7) (ty := (.array .boolean)) (C := RX17) (T := TX17) (N := 5) hx hb hts i_X17 tyX17 tyX17_ok nmX17 hown hK hP hD hS 0 rfl rfl 1 (by decide) (hts _ m_1453) (fun _ h9 => h9) rfl hin rfl (by decide +kernel) rfl rfl (Nat.le_of_ble_eq_true rfl) dX17_init_26 (fun H locs hP hD hS => ?_)
  have hP : va_P D classes [(o, .inr (14, [.ref q_5, .ref q_7, .int 0, .ref q_1, .int 0])), (q_1, .inr (10, [.int 0, .ref (g 4), .int 0])), (q_5, .inl (cA_6, k, .inl (fun _ => 0))), (q_7, .inl (cA_8, k, .inl (fun _ => 0)))] H := hP
  have hD : va_D A [(o, .inr (14, [.ref q_5, .ref q_7, .int 0, .ref q_1, .int 0])), (q_1, .inr (10, [.int 0, .ref (g 4), .int 0])), (q_5, .inl (cA_6, k, .inl (fun _ => 0))), (q_7, .inl (cA_8, k, .inl (fun _ => 0)))] := hD
  refine lv_aload_n hx hb dX17_init_29 rfl (lv_at hl 0 rfl) ?_
  refine lv_iload_n hx hb dX17_init_30 rfl (lv_at hl 2 rfl) ?_
  refine va_putF (D := D) (ci := 14) (v := .int p1) (ty := .int) (C := RX17) (T := TX17) (N := 5) hx hb hts i_X17 tyX17 tyX17_ok nmX17 hown hK hP hD hS 0 rfl rfl 2 (by decide) (hts _ m_1455) (fun _ h9 => h9) rfl hin rfl (by decide +kernel) rfl rfl (Nat.le_of_ble_eq_true rfl) dX17_init_31 (fun H locs hP hD hS => ?_)
  have hP : va_P D classes [(o, .inr (14, [.ref q_5, .ref q_7, .int p1, .ref q_1, .int 0])), (q_1, .inr (10, [.int 0, .ref (g 4), .int 0])), (q_5, .inl (cA_6, k, .inl (fun _ => 0))), (q_7, .inl (cA_8, k, .inl (fun _ => 0)))] H := hP
  have hD : va_D A [(o, .inr (14, [.ref q_5, .ref q_7, .int p1, .ref q_1, .int 0])), (q_1, .inr (10, [.int 0, .ref (g 4), .int 0])), (q_5, .inl (cA_6, k, .inl (fun _ => 0))), (q_7, .inl (cA_8, k, .inl (fun _ => 0)))] := hD
  have hP9 := hP.sub (ws' := [(o, .inr (14, [.ref q_5, .ref q_7, .int p1, .ref q_1, .int 0]))]) [0] rfl
  have hD9 := hD.sub (ws' := [(o, .inr (14, [.ref q_5, .ref q_7, .int p1, .ref q_1, .int 0]))]) [0] (by decide) rfl
  refine W.widen (k := 3) (n := 13) (Nat.le_of_ble_eq_true rfl) (Nat.le_of_ble_eq_true rfl) ?_
  exact W.vret hx hb hr (fun t ht hW => ⟨⟨[.ref q_5, .ref q_7, .int p1, .ref q_1, .int 0], rfl, trivial, ⟨by rw [ht]; exact hP9, hD9⟩⟩, hS.F ht⟩) hS.2.2 dX17_init_34

set_option maxHeartbeats 4000000 in
set_option maxRecDepth 100000 in
theorem c_X18_addPerson_ok (l : Launch) (z0 : Nat) (D : va_G) (g : Nat → Nat) (sz : Nat) (mm b0 b1 b2 b3 b4 b5 b6 : Nat) (p0 : Int32) (p1 : Int32) (h1 : ¬ p0 < 0) (h2 : p0 ≤ 99) (h3 : ¬ p1 < 1) (h4 : p1 ≤ 30) : Met l yX18_addPerson (wsp yX18_addPerson cX18_addPerson 3 (some .int)) ({ frames := 5, cells := 2, slots := 16, locals := 111 }) (va_Pc [.ref mm, .int p0, .int p1] (PM z0 D g sz [(mm, .inr (9, [.ref b0, .ref b1, .ref b2, .ref b3, .int 0, .null, .null, .ref b4, .null, .ref b5, .ref b6, .int 0, .int 0, .long 0, .int 0])), (b0, .inr (10, [.int 0, .ref (g 4), .int 0])), (b1, .inr (10, [.int 0, .ref (g 4), .int 0])), (b2, .inr (10, [.int 0, .ref (g 4), .int 0])), (b3, .inr (11, [.null, .null, .null, .null, .int 0, .int 0, .null, .null, .null]))])) (va_Qi (fun (r : Int32) (_ : Unit) => r = 0) (fun (_ : Unit) t => va_P D classes [(mm, .inr (9, [.ref b0, .ref b1, .ref b2, .ref b3, .int 0, .null, .null, .ref b4, .null, .ref b5, .ref b6, .int 0, .int 0, .long 0, .int 0]))] t.heap ∧ va_D (va_A [(mm, .inr (9, [.ref b0, .ref b1, .ref b2, .ref b3, .int 0, .null, .null, .ref b4, .null, .ref b5, .ref b6, .int 0, .int 0, .long 0, .int 0])), (b0, .inr (10, [.int 0, .ref (g 4), .int 0])), (b1, .inr (10, [.int 0, .ref (g 4), .int 0])), (b2, .inr (10, [.int 0, .ref (g 4), .int 0])), (b3, .inr (11, [.null, .null, .null, .null, .int 0, .int 0, .null, .null, .null]))] sz) [(mm, .inr (9, [.ref b0, .ref b1, .ref b2, .ref b3, .int 0, .null, .null, .ref b4, .null, .ref b5, .ref b6, .int 0, .int 0, .long 0, .int 0]))]) (va_A [(mm, .inr (9, [.ref b0, .ref b1, .ref b2, .ref b3, .int 0, .null, .null, .ref b4, .null, .ref b5, .ref b6, .int 0, .int 0, .long 0, .int 0])), (b0, .inr (10, [.int 0, .ref (g 4), .int 0])), (b1, .inr (10, [.int 0, .ref (g 4), .int 0])), (b2, .inr (10, [.int 0, .ref (g 4), .int 0])), (b3, .inr (11, [.null, .null, .null, .null, .int 0, .int 0, .null, .null, .null]))] sz)) 2 16 (va_A [(mm, .inr (9, [.ref b0, .ref b1, .ref b2, .ref b3, .int 0, .null, .null, .ref b4, .null, .ref b5, .ref b6, .int 0, .int 0, .long 0, .int 0])), (b0, .inr (10, [.int 0, .ref (g 4), .int 0])), (b1, .inr (10, [.int 0, .ref (g 4), .int 0])), (b2, .inr (10, [.int 0, .ref (g 4), .int 0])), (b3, .inr (11, [.null, .null, .null, .null, .int 0, .int 0, .null, .null, .null]))] sz) := by
  refine Met.ofW (cc := cX18_addPerson) (maxL := 3) (ret := (some .int)) (by decide) rfl ?_
  intro p e s m args below meth c s₁ B hml hv
  obtain ⟨rfl, hsz9, hz0, hE, hP, hD0⟩ := hv
  have hx := B.exec
  have hb := B.bytes
  have hr := B.returns
  have hts0 := atoms_spec (ws := (wsp yX18_addPerson cX18_addPerson 3 (some .int))) B.pre
  have hts : ∀ w ∈ lw_all, w.before _ s = true := fun w h => hts0 w (List.mem_cons_of_mem _ h)
  have hown : s.vm.findClass "TheatrehouseModel" = some m.cls := findClass_of_methodNamed B.named
  have hlocks := B.notSynchronized
  have hK := hE.K
  subst hsz9
  have hsz := hz0
  have hAz : ∀ q, va_A [(mm, .inr (9, [.ref b0, .ref b1, .ref b2, .ref b3, .int 0, .null, .null, .ref b4, .null, .ref b5, .ref b6, .int 0, .int 0, .long 0, .int 0])), (b0, .inr (10, [.int 0, .ref (g 4), .int 0])), (b1, .inr (10, [.int 0, .ref (g 4), .int 0])), (b2, .inr (10, [.int 0, .ref (g 4), .int 0])), (b3, .inr (11, [.null, .null, .null, .null, .int 0, .int 0, .null, .null, .null]))] s.heap.size q → z0 ≤ q := vaA_z hz0 hD0
  have hD := hD0.self (sz := s.heap.size)
  generalize hAe : va_A [(mm, .inr (9, [.ref b0, .ref b1, .ref b2, .ref b3, .int 0, .null, .null, .ref b4, .null, .ref b5, .ref b6, .int 0, .int 0, .long 0, .int 0])), (b0, .inr (10, [.int 0, .ref (g 4), .int 0])), (b1, .inr (10, [.int 0, .ref (g 4), .int 0])), (b2, .inr (10, [.int 0, .ref (g 4), .int 0])), (b3, .inr (11, [.null, .null, .null, .null, .int 0, .int 0, .null, .null, .null]))] s.heap.size = A at hD hAz ⊢
  have hA : ∀ q : Nat, s.heap.size ≤ q → A q := fun q h => by rw [← hAe]; exact Or.inr h
  have hS : va_S A s.heap s.heap [] := va_S.rf
  have hP : va_P D classes [(mm, .inr (9, [.ref b0, .ref b1, .ref b2, .ref b3, .int 0, .null, .null, .ref b4, .null, .ref b5, .ref b6, .int 0, .int 0, .long 0, .int 0])), (b0, .inr (10, [.int 0, .ref (g 4), .int 0])), (b1, .inr (10, [.int 0, .ref (g 4), .int 0])), (b2, .inr (10, [.int 0, .ref (g 4), .int 0])), (b3, .inr (11, [.null, .null, .null, .null, .int 0, .int 0, .null, .null, .null]))] s.heap := hP
  have hl := lv_entry ([.ref mm, .int p0, .int p1]) (n := 3) (Nat.le_of_ble_eq_true rfl)
  rw [lg_entry_eq]
  generalize (lg_sl ([.ref mm, .int p0, .int p1]) ++ List.replicate (3 - (lg_sl ([.ref mm, .int p0, .int p1])).length) Slot.unset).toArray = ls at hl ⊢
  have hl : lv_has ls 3 [(0, .ref mm), (1, .int p0), (2, .int p1)] := hl
  refine lv_aload_n hx hb dX18_addPerson_0 rfl (lv_at hl 0 rfl) ?_
  refine lv_iload_n hx hb dX18_addPerson_1 rfl (lv_at hl 1 rfl) ?_
  refine lv_i2l (v := (Int32.toInt64 p0)) hx hb dX18_addPerson_2 rfl ?_
  refine lv_lconst (v := 0) hx hb dX18_addPerson_3 (by decide) ?_
  refine lv_ldc2 (v := 99) hx hb hown (hts _ m_1237) dX18_addPerson_4 ?_
  refine va_calli (va_runS (As := [.long (Int32.toInt64 p0), .long 0, .long 99]) (rest := [.ref mm]) ⟨hx, hb, hml, hown, hts⟩ (c_in_t l z0 D g (Int32.toInt64 p0) 0 99 (r_t1 (lo := 0) (by decide) h1) (r_t2 (hi := 99) (by decide) h2)) (va_cwS 3 hts (lw_S m_1238 m_1239 m_12 m_1240) rfl rfl rfl (by decide +kernel) ⟨(Nat.le_of_ble_eq_true rfl), (Nat.le_of_ble_eq_true rfl)⟩) ⟨fun _ _ _ _ h => h, fun U _ _ => ⟨rfl, trivial⟩⟩ rfl rfl hl.1 rfl (lv_room (Nat.le_of_ble_eq_true rfl)) dX18_addPerson_7 ⟨(Nat.le_of_ble_eq_true rfl), (Nat.le_of_ble_eq_true rfl)⟩) hS nA_B nA_A (fun r_2 u_3 t H locs ht hvm hw hB hz1 hk1 hS => ?_)
  have hP := hP.old hk1
  have hP : va_P D classes [(mm, .inr (9, [.ref b0, .ref b1, .ref b2, .ref b3, .int 0, .null, .null, .ref b4, .null, .ref b5, .ref b6, .int 0, .int 0, .long 0, .int 0])), (b0, .inr (10, [.int 0, .ref (g 4), .int 0])), (b1, .inr (10, [.int 0, .ref (g 4), .int 0])), (b2, .inr (10, [.int 0, .ref (g 4), .int 0])), (b3, .inr (11, [.null, .null, .null, .null, .int 0, .int 0, .null, .null, .null]))] H := hP
  subst hw
  refine lv_if_eq (tgt := 25) hx hb dX18_addPerson_10 (by decide) (fun h9 => absurd h9 (by decide)) (fun _ => ?_)
  refine lv_iload_n hx hb dX18_addPerson_13 rfl (lv_at hl 2 rfl) ?_
  refine lv_i2l (v := (Int32.toInt64 p1)) hx hb dX18_addPerson_14 rfl ?_
  refine lv_lconst (v := 1) hx hb dX18_addPerson_15 (by decide) ?_
  refine lv_ldc2 (v := 30) hx hb hown (hts _ m_1241) dX18_addPerson_16 ?_
  refine va_calli (va_runS (As := [.long (Int32.toInt64 p1), .long 1, .long 30]) (rest := [.ref mm]) ⟨hx, hb, hml, hown, hts⟩ (c_in_t l z0 D g (Int32.toInt64 p1) 1 30 (r_t1 (lo := 1) (by decide) h3) (r_t2 (hi := 30) (by decide) h4)) (va_cwS 3 hts (lw_S m_1238 m_1239 m_12 m_1240) rfl rfl rfl (by decide +kernel) ⟨(Nat.le_of_ble_eq_true rfl), (Nat.le_of_ble_eq_true rfl)⟩) ⟨fun _ _ _ _ h => h, fun U _ _ => ⟨rfl, trivial⟩⟩ rfl rfl hl.1 rfl (lv_room (Nat.le_of_ble_eq_true rfl)) dX18_addPerson_19 ⟨(Nat.le_of_ble_eq_true rfl), (Nat.le_of_ble_eq_true rfl)⟩) hS nA_B nA_A (fun r_5 u_6 t H locs ht hvm hw hB hz1 hk1 hS => ?_)
  have hP := hP.old hk1
  have hP : va_P D classes [(mm, .inr (9, [.ref b0, .ref b1, .ref b2, .ref b3, .int 0, .null, .null, .ref b4, .null, .ref b5, .ref b6, .int 0, .int 0, .long 0, .int 0])), (b0, .inr (10, [.int 0, .ref (g 4), .int 0])), (b1, .inr (10, [.int 0, .ref (g 4), .int 0])), (b2, .inr (10, [.int 0, .ref (g 4), .int 0])), (b3, .inr (11, [.null, .null, .null, .null, .int 0, .int 0, .null, .null, .null]))] H := hP
  subst hw
  refine lv_if_ne (tgt := 29) hx hb dX18_addPerson_22 (by decide) (fun _ => ?_) (fun h9 => absurd h9 (by decide))
  refine lv_aload_n hx hb dX18_addPerson_29 rfl (lv_at hl 0 rfl) ?_
  refine va_get (D := D) (ci := 9) (v := .ref b0) (C := RX18) (T := TX18) (N := 15) hx hb hts i_X18 hown hK hP 0 rfl rfl 0 (by decide) (hts _ m_1181) (fun _ h9 => h9) rfl dX18_addPerson_30 ?_
  have hc_7 := hP.sub (ws' := [(b0, .inr (10, [.int 0, .ref (g 4), .int 0]))]) [1] rfl
  refine va_callFi (va_runF (hK.1 10 _ rfl).2 (As := []) (rest := [.ref mm]) ⟨hx, hb, hml, hown, hts⟩ (c_AL_size l z0 D g b0) (va_cwF 0 hts (lw_F m_1243 m_1247 m_1249 m_15 m_1251) rfl rfl rfl (hE.fw (i := 0) rfl) (by decide +kernel) ⟨(Nat.le_of_ble_eq_true rfl), (Nat.le_of_ble_eq_true rfl)⟩) ⟨PR.blind, va_recv hK hP (ci := 10) (q0 := 1) rfl rfl, PR.pre hE hS hAz hc_7⟩ rfl rfl hl.1 rfl (lv_room (Nat.le_of_ble_eq_true rfl)) dX18_addPerson_33 ⟨(Nat.le_of_ble_eq_true rfl), (Nat.le_of_ble_eq_true rfl)⟩) hS nA_B nA_A (fun r_8 u_9 t H locs ht hvm hw hB hz1 hk1 hS => ?_)
  have hP := hP.old hk1
  have hP : va_P D classes [(mm, .inr (9, [.ref b0, .ref b1, .ref b2, .ref b3, .int 0, .null, .null, .ref b4, .null, .ref b5, .ref b6, .int 0, .int 0, .long 0, .int 0])), (b0, .inr (10, [.int 0, .ref (g 4), .int 0])), (b1, .inr (10, [.int 0, .ref (g 4), .int 0])), (b2, .inr (10, [.int 0, .ref (g 4), .int 0])), (b3, .inr (11, [.null, .null, .null, .null, .int 0, .int 0, .null, .null, .null]))] H := hP
  subst hw
  refine lv_bipush (v := 10) hx hb dX18_addPerson_38 (by decide) ?_
  refine lv_icmp_eq (tgt := 50) hx hb dX18_addPerson_40 (by decide) (fun h9 => absurd h9 (by decide)) (fun _ => ?_)
  refine lv_aload_n hx hb dX18_addPerson_43 rfl (lv_at hl 0 rfl) ?_
  refine va_get (D := D) (ci := 9) (v := .null) (C := RX18) (T := TX18) (N := 15) hx hb hts i_X18 hown hK hP 0 rfl rfl 5 (by decide) (hts _ m_1186) (fun _ h9 => h9) rfl dX18_addPerson_44 ?_
  refine lv_ifnullN (tgt := 54) hx hb dX18_addPerson_47 (by decide) ?_
  refine lv_iconst (v := 0) hx hb dX18_addPerson_54 (by decide) ?_
  refine va_put (D := D) (ci := 9) (v := .int 0) (ty := .int) (C := RX18) (T := TX18) (N := 15) hx hb hts i_X18 tyX18 tyX18_ok nmX18 hown hK hP hD hS 0 rfl rfl 14 (by decide) (hts _ m_1197) (fun _ h9 => h9) rfl (by decide +kernel) rfl rfl (Nat.le_of_ble_eq_true rfl) dX18_addPerson_55 (fun H locs hP hD hS => ?_)
  have hP : va_P D classes [(mm, .inr (9, [.ref b0, .ref b1, .ref b2, .ref b3, .int 0, .null, .null, .ref b4, .null, .ref b5, .ref b6, .int 0, .int 0, .long 0, .int 0])), (b0, .inr (10, [.int 0, .ref (g 4), .int 0])), (b1, .inr (10, [.int 0, .ref (g 4), .int 0])), (b2, .inr (10, [.int 0, .ref (g 4), .int 0])), (b3, .inr (11, [.null, .null, .null, .null, .int 0, .int 0, .null, .null, .null]))] H := hP
  have hD : va_D A [(mm, .inr (9, [.ref b0, .ref b1, .ref b2, .ref b3, .int 0, .null, .null, .ref b4, .null, .ref b5, .ref b6, .int 0, .int 0, .long 0, .int 0])), (b0, .inr (10, [.int 0, .ref (g 4), .int 0])), (b1, .inr (10, [.int 0, .ref (g 4), .int 0])), (b2, .inr (10, [.int 0, .ref (g 4), .int 0])), (b3, .inr (11, [.null, .null, .null, .null, .int 0, .int 0, .null, .null, .null]))] := hD
  refine lv_aload_n hx hb dX18_addPerson_58 rfl (lv_at hl 0 rfl) ?_
  refine va_get (D := D) (ci := 9) (v := .int 0) (C := RX18) (T := TX18) (N := 15) hx hb hts i_X18 hown hK hP 0 rfl rfl 14 (by decide) (hts _ m_1197) (fun _ h9 => h9) rfl dX18_addPerson_59 ?_
  refine lv_if_le (tgt := 67) hx hb dX18_addPerson_62 (by decide) (fun _ => ?_) (fun h9 => absurd (by decide) h9)
  refine lv_aload_n hx hb dX18_addPerson_67 rfl (lv_at hl 0 rfl) ?_
  refine va_get (D := D) (ci := 9) (v := .ref b0) (C := RX18) (T := TX18) (N := 15) hx hb hts i_X18 hown hK hP 0 rfl rfl 0 (by decide) (hts _ m_1181) (fun _ h9 => h9) rfl dX18_addPerson_68 ?_
  refine va_new (ci := 12) (fs := [.int 0, .int 0, .int 0, .int 0, .int 0, .int 0]) (C := RX15) (T := TX15) (N := 6) hx hb hts i_X15 tyX15 tyX15_ok hown (hts _ m_1252) (hts _ m_1253) (hts _ m_23) hK hP hD hS hA rfl (fun j hj => by rcases (show j = 0 ∨ j = 1 ∨ j = 2 ∨ j = 3 ∨ j = 4 ∨ j = 5 by omega) with rfl | rfl | rfl | rfl | rfl | rfl <;> rfl) (Nat.le_of_ble_eq_true rfl) (Nat.le_of_ble_eq_true rfl) dX18_addPerson_71 (fun q_10 H hP hD hS => ?_)
  have hP : va_P D classes [(mm, .inr (9, [.ref b0, .ref b1, .ref b2, .ref b3, .int 0, .null, .null, .ref b4, .null, .ref b5, .ref b6, .int 0, .int 0, .long 0, .int 0])), (b0, .inr (10, [.int 0, .ref (g 4), .int 0])), (b1, .inr (10, [.int 0, .ref (g 4), .int 0])), (b2, .inr (10, [.int 0, .ref (g 4), .int 0])), (b3, .inr (11, [.null, .null, .null, .null, .int 0, .int 0, .null, .null, .null])), (q_10, .inr (12, [.int 0, .int 0, .int 0, .int 0, .int 0, .int 0]))] H := hP
  have hD : va_D A [(mm, .inr (9, [.ref b0, .ref b1, .ref b2, .ref b3, .int 0, .null, .null, .ref b4, .null, .ref b5, .ref b6, .int 0, .int 0, .long 0, .int 0])), (b0, .inr (10, [.int 0, .ref (g 4), .int 0])), (b1, .inr (10, [.int 0, .ref (g 4), .int 0])), (b2, .inr (10, [.int 0, .ref (g 4), .int 0])), (b3, .inr (11, [.null, .null, .null, .null, .int 0, .int 0, .null, .null, .null])), (q_10, .inr (12, [.int 0, .int 0, .int 0, .int 0, .int 0, .int 0]))] := hD
  refine lv_dup hx hb dX18_addPerson_74 rfl ?_
  refine lv_iload_n hx hb dX18_addPerson_75 rfl (lv_at hl 1 rfl) ?_
  refine lv_iload_n hx hb dX18_addPerson_76 rfl (lv_at hl 2 rfl) ?_
  have hc_11 := hP.sub (ws' := [(q_10, .inr (12, [.int 0, .int 0, .int 0, .int 0, .int 0, .int 0]))]) [5] rfl
  have hc_11D := hD.sub (ws' := [(q_10, .inr (12, [.int 0, .int 0, .int 0, .int 0, .int 0, .int 0]))]) [5] (by decide) rfl
  have hc_11F := va_free (wc := [(q_10, .inr (12, [.int 0, .int 0, .int 0, .int 0, .int 0, .int 0]))]) hD hS hA [5] rfl
  refine va_callv (va_runI (As := [.int p0, .int p1]) (rest := [.ref q_10, .ref b0]) ⟨hx, hb, hml, hown, hts⟩ (c_init_RP l z0 D g _ q_10 p0 p1) (cwI 2 hts (lw_I m_1256) rfl rfl rfl (hts _ m_23) (hts _ m_1254) (hts _ m_1255) rfl (by decide +kernel) ⟨(Nat.le_of_ble_eq_true rfl), (Nat.le_of_ble_eq_true rfl)⟩) ⟨PM.blind, PM.pre hE hS hAz hsz hc_11 hc_11D⟩ rfl rfl hl.1 rfl (lv_room (Nat.le_of_ble_eq_true rfl)) dX18_addPerson_77 ⟨(Nat.le_of_ble_eq_true rfl), (Nat.le_of_ble_eq_true rfl)⟩) hS (fun q _ h => hc_11F q h) hc_11F (fun u_13 t H locs ht hvm hw hB hz1 hk1 hS => ?_)
  obtain ⟨hP1, hD1⟩ := hB
  rw [ht] at hP1
  obtain ⟨hP, hD⟩ := va_join (wr := [(mm, .inr (9, [.ref b0, .ref b1, .ref b2, .ref b3, .int 0, .null, .null, .ref b4, .null, .ref b5, .ref b6, .int 0, .int 0, .long 0, .int 0])), (b0, .inr (10, [.int 0, .ref (g 4), .int 0])), (b1, .inr (10, [.int 0, .ref (g 4), .int 0])), (b2, .inr (10, [.int 0, .ref (g 4), .int 0])), (b3, .inr (11, [.null, .null, .null, .null, .int 0, .int 0, .null, .null, .null]))]) (w1 := [(q_10, .inr (12, [.int p0, .int p1, .int p1, .int (-1), .int (-1), .int 0]))]) hP hD [5] [0, 1, 2, 3, 4] rfl rfl (by decide) (by decide) hk1 hc_11F hP1 hD1
  have hP : va_P D classes [(mm, .inr (9, [.ref b0, .ref b1, .ref b2, .ref b3, .int 0, .null, .null, .ref b4, .null, .ref b5, .ref b6, .int 0, .int 0, .long 0, .int 0])), (b0, .inr (10, [.int 0, .ref (g 4), .int 0])), (b1, .inr (10, [.int 0, .ref (g 4), .int 0])), (b2, .inr (10, [.int 0, .ref (g 4), .int 0])), (b3, .inr (11, [.null, .null, .null, .null, .int 0, .int 0, .null, .null, .null])), (q_10, .inr (12, [.int p0, .int p1, .int p1, .int (-1), .int (-1), .int 0]))] H := hP
  have hD : va_D A [(mm, .inr (9, [.ref b0, .ref b1, .ref b2, .ref b3, .int 0, .null, .null, .ref b4, .null, .ref b5, .ref b6, .int 0, .int 0, .long 0, .int 0])), (b0, .inr (10, [.int 0, .ref (g 4), .int 0])), (b1, .inr (10, [.int 0, .ref (g 4), .int 0])), (b2, .inr (10, [.int 0, .ref (g 4), .int 0])), (b3, .inr (11, [.null, .null, .null, .null, .int 0, .int 0, .null, .null, .null])), (q_10, .inr (12, [.int p0, .int p1, .int p1, .int (-1), .int (-1), .int 0]))] := hD
  have hc_14 := hP.sub (ws' := [(b0, .inr (10, [.int 0, .ref (g 4), .int 0])), (q_10, .inr (12, [.int p0, .int p1, .int p1, .int (-1), .int (-1), .int 0]))]) [1, 5] rfl
  have hc_14D := hD.sub (ws' := [(b0, .inr (10, [.int 0, .ref (g 4), .int 0])), (q_10, .inr (12, [.int p0, .int p1, .int p1, .int (-1), .int (-1), .int 0]))]) [1, 5] (by decide) rfl
  have hc_14F := va_free (wc := [(b0, .inr (10, [.int 0, .ref (g 4), .int 0])), (q_10, .inr (12, [.int p0, .int p1, .int p1, .int (-1), .int (-1), .int 0]))]) hD hS hA [1, 5] rfl
  refine va_callFi (va_runF (hK.1 10 _ rfl).2 (As := [.ref q_10]) (rest := []) ⟨hx, hb, hml, hown, hts⟩ (c_add1P l z0 D g _ b0 q_10 [.int p0, .int p1, .int p1, .int (-1), .int (-1), .int 0]) (va_cwF 1 hts (lw_F m_1283 m_1286 m_1288 m_15 m_1290) rfl rfl rfl (hE.fw (i := 1) rfl) (by decide +kernel) ⟨(Nat.le_of_ble_eq_true rfl), (Nat.le_of_ble_eq_true rfl)⟩) ⟨PM.blind, va_recv hK hP (ci := 10) (q0 := 1) rfl rfl, PM.pre hE hS hAz hsz hc_14 hc_14D⟩ rfl rfl hl.1 rfl (lv_room (Nat.le_of_ble_eq_true rfl)) dX18_addPerson_80 ⟨(Nat.le_of_ble_eq_true rfl), (Nat.le_of_ble_eq_true rfl)⟩) hS (fun q _ h => hc_14F q h) hc_14F (fun r_15 u_16 t H locs ht hvm hw hB hz1 hk1 hS => ?_)
  obtain ⟨hP1, hD1⟩ := hB
  rw [ht] at hP1
  obtain ⟨hP, hD⟩ := va_join (wr := [(mm, .inr (9, [.ref b0, .ref b1, .ref b2, .ref b3, .int 0, .null, .null, .ref b4, .null, .ref b5, .ref b6, .int 0, .int 0, .long 0, .int 0])), (b1, .inr (10, [.int 0, .ref (g 4), .int 0])), (b2, .inr (10, [.int 0, .ref (g 4), .int 0])), (b3, .inr (11, [.null, .null, .null, .null, .int 0, .int 0, .null, .null, .null]))]) (w1 := [(b0, .inr (10, [.int 1, .ref u_16, .int 1]))]) hP hD [1, 5] [0, 2, 3, 4] rfl rfl (by decide) (by decide) hk1 hc_14F hP1 hD1
  have hP : va_P D classes [(mm, .inr (9, [.ref b0, .ref b1, .ref b2, .ref b3, .int 0, .null, .null, .ref b4, .null, .ref b5, .ref b6, .int 0, .int 0, .long 0, .int 0])), (b1, .inr (10, [.int 0, .ref (g 4), .int 0])), (b2, .inr (10, [.int 0, .ref (g 4), .int 0])), (b3, .inr (11, [.null, .null, .null, .null, .int 0, .int 0, .null, .null, .null])), (b0, .inr (10, [.int 1, .ref u_16, .int 1]))] H := hP
  have hD : va_D A [(mm, .inr (9, [.ref b0, .ref b1, .ref b2, .ref b3, .int 0, .null, .null, .ref b4, .null, .ref b5, .ref b6, .int 0, .int 0, .long 0, .int 0])), (b1, .inr (10, [.int 0, .ref (g 4), .int 0])), (b2, .inr (10, [.int 0, .ref (g 4), .int 0])), (b3, .inr (11, [.null, .null, .null, .null, .int 0, .int 0, .null, .null, .null])), (b0, .inr (10, [.int 1, .ref u_16, .int 1]))] := hD
  subst hw
  refine lv_pop hx hb dX18_addPerson_85 rfl ?_
  refine lv_aload_n hx hb dX18_addPerson_86 rfl (lv_at hl 0 rfl) ?_
  refine va_get (D := D) (ci := 9) (v := .ref b0) (C := RX18) (T := TX18) (N := 15) hx hb hts i_X18 hown hK hP 0 rfl rfl 0 (by decide) (hts _ m_1181) (fun _ h9 => h9) rfl dX18_addPerson_87 ?_
  have hc_17 := hP.sub (ws' := [(b0, .inr (10, [.int 1, .ref u_16, .int 1]))]) [4] rfl
  refine va_callFi (va_runF (hK.1 10 _ rfl).2 (As := []) (rest := []) ⟨hx, hb, hml, hown, hts⟩ (c_AL_size1 l z0 D g b0 u_16) (va_cwF 0 hts (lw_F m_1243 m_1247 m_1249 m_15 m_1251) rfl rfl rfl (hE.fw (i := 0) rfl) (by decide +kernel) ⟨(Nat.le_of_ble_eq_true rfl), (Nat.le_of_ble_eq_true rfl)⟩) ⟨PR.blind, va_recv hK hP (ci := 10) (q0 := 4) rfl rfl, PR.pre hE hS hAz hc_17⟩ rfl rfl hl.1 rfl (lv_room (Nat.le_of_ble_eq_true rfl)) dX18_addPerson_90 ⟨(Nat.le_of_ble_eq_true rfl), (Nat.le_of_ble_eq_true rfl)⟩) hS nA_B nA_A (fun r_18 u_19 t H locs ht hvm hw hB hz1 hk1 hS => ?_)
  have hP := hP.old hk1
  have hP : va_P D classes [(mm, .inr (9, [.ref b0, .ref b1, .ref b2, .ref b3, .int 0, .null, .null, .ref b4, .null, .ref b5, .ref b6, .int 0, .int 0, .long 0, .int 0])), (b1, .inr (10, [.int 0, .ref (g 4), .int 0])), (b2, .inr (10, [.int 0, .ref (g 4), .int 0])), (b3, .inr (11, [.null, .null, .null, .null, .int 0, .int 0, .null, .null, .null])), (b0, .inr (10, [.int 1, .ref u_16, .int 1]))] H := hP
  subst hw
  refine lv_iconst (v := 1) hx hb dX18_addPerson_95 (by decide) ?_
  refine lv_isub hx hb dX18_addPerson_96 ?_
  rw [show (1 - 1 : Int32) = 0 by decide]
  have hP9 := hP.sub (ws' := [(mm, .inr (9, [.ref b0, .ref b1, .ref b2, .ref b3, .int 0, .null, .null, .ref b4, .null, .ref b5, .ref b6, .int 0, .int 0, .long 0, .int 0]))]) [0] rfl
  have hD9 := hD.sub (ws' := [(mm, .inr (9, [.ref b0, .ref b1, .ref b2, .ref b3, .int 0, .null, .null, .ref b4, .null, .ref b5, .ref b6, .int 0, .int 0, .long 0, .int 0]))]) [0] (by decide) rfl
  refine W.widen (k := 2) (n := 16) (Nat.le_of_ble_eq_true rfl) (Nat.le_of_ble_eq_true rfl) ?_
  exact W.iret (v := 0) hx hb hr (fun t ht hW => ⟨⟨0, (), rfl, rfl, ⟨by rw [ht]; exact hP9, hD9⟩⟩, hS.F ht⟩) hS.2.2 dX18_addPerson_97

set_option maxHeartbeats 4000000 in
set_option maxRecDepth 100000 in
theorem c_X18_addMachine_ok (l : Launch) (z0 : Nat) (D : va_G) (g : Nat → Nat) (sz : Nat) (mm b0 b1 b2 b3 b4 b5 b6 : Nat) (p0 : Int32) (p1 : Int32) (h1 : ¬ p0 < 0) (h2 : p0 ≤ 4) (h3 : ¬ p1 < 0) (h4 : p1 ≤ 9) : Met l yX18_addMachine (wsp yX18_addMachine cX18_addMachine 3 (some .int)) ({ frames := 5, cells := 2, slots := 15, locals := 111 }) (va_Pc [.ref mm, .int p0, .int p1] (PM z0 D g sz [(mm, .inr (9, [.ref b0, .ref b1, .ref b2, .ref b3, .int 0, .null, .null, .ref b4, .null, .ref b5, .ref b6, .int 0, .int 0, .long 0, .int 0])), (b0, .inr (10, [.int 0, .ref (g 4), .int 0])), (b1, .inr (10, [.int 0, .ref (g 4), .int 0])), (b2, .inr (10, [.int 0, .ref (g 4), .int 0])), (b3, .inr (11, [.null, .null, .null, .null, .int 0, .int 0, .null, .null, .null]))])) (va_Qi (fun (r : Int32) (_ : Unit) => r = 0) (fun (_ : Unit) t => va_P D classes [(mm, .inr (9, [.ref b0, .ref b1, .ref b2, .ref b3, .int 0, .null, .null, .ref b4, .null, .ref b5, .ref b6, .int 0, .int 0, .long 0, .int 0]))] t.heap ∧ va_D (va_A [(mm, .inr (9, [.ref b0, .ref b1, .ref b2, .ref b3, .int 0, .null, .null, .ref b4, .null, .ref b5, .ref b6, .int 0, .int 0, .long 0, .int 0])), (b0, .inr (10, [.int 0, .ref (g 4), .int 0])), (b1, .inr (10, [.int 0, .ref (g 4), .int 0])), (b2, .inr (10, [.int 0, .ref (g 4), .int 0])), (b3, .inr (11, [.null, .null, .null, .null, .int 0, .int 0, .null, .null, .null]))] sz) [(mm, .inr (9, [.ref b0, .ref b1, .ref b2, .ref b3, .int 0, .null, .null, .ref b4, .null, .ref b5, .ref b6, .int 0, .int 0, .long 0, .int 0]))]) (va_A [(mm, .inr (9, [.ref b0, .ref b1, .ref b2, .ref b3, .int 0, .null, .null, .ref b4, .null, .ref b5, .ref b6, .int 0, .int 0, .long 0, .int 0])), (b0, .inr (10, [.int 0, .ref (g 4), .int 0])), (b1, .inr (10, [.int 0, .ref (g 4), .int 0])), (b2, .inr (10, [.int 0, .ref (g 4), .int 0])), (b3, .inr (11, [.null, .null, .null, .null, .int 0, .int 0, .null, .null, .null]))] sz)) 2 15 (va_A [(mm, .inr (9, [.ref b0, .ref b1, .ref b2, .ref b3, .int 0, .null, .null, .ref b4, .null, .ref b5, .ref b6, .int 0, .int 0, .long 0, .int 0])), (b0, .inr (10, [.int 0, .ref (g 4), .int 0])), (b1, .inr (10, [.int 0, .ref (g 4), .int 0])), (b2, .inr (10, [.int 0, .ref (g 4), .int 0])), (b3, .inr (11, [.null, .null, .null, .null, .int 0, .int 0, .null, .null, .null]))] sz) := by
  refine Met.ofW (cc := cX18_addMachine) (maxL := 3) (ret := (some .int)) (by decide) rfl ?_
  intro p e s m args below meth c s₁ B hml hv
  obtain ⟨rfl, hsz9, hz0, hE, hP, hD0⟩ := hv
  have hx := B.exec
  have hb := B.bytes
  have hr := B.returns
  have hts0 := atoms_spec (ws := (wsp yX18_addMachine cX18_addMachine 3 (some .int))) B.pre
  have hts : ∀ w ∈ lw_all, w.before _ s = true := fun w h => hts0 w (List.mem_cons_of_mem _ h)
  have hown : s.vm.findClass "TheatrehouseModel" = some m.cls := findClass_of_methodNamed B.named
  have hlocks := B.notSynchronized
  have hK := hE.K
  subst hsz9
  have hsz := hz0
  have hAz : ∀ q, va_A [(mm, .inr (9, [.ref b0, .ref b1, .ref b2, .ref b3, .int 0, .null, .null, .ref b4, .null, .ref b5, .ref b6, .int 0, .int 0, .long 0, .int 0])), (b0, .inr (10, [.int 0, .ref (g 4), .int 0])), (b1, .inr (10, [.int 0, .ref (g 4), .int 0])), (b2, .inr (10, [.int 0, .ref (g 4), .int 0])), (b3, .inr (11, [.null, .null, .null, .null, .int 0, .int 0, .null, .null, .null]))] s.heap.size q → z0 ≤ q := vaA_z hz0 hD0
  have hD := hD0.self (sz := s.heap.size)
  generalize hAe : va_A [(mm, .inr (9, [.ref b0, .ref b1, .ref b2, .ref b3, .int 0, .null, .null, .ref b4, .null, .ref b5, .ref b6, .int 0, .int 0, .long 0, .int 0])), (b0, .inr (10, [.int 0, .ref (g 4), .int 0])), (b1, .inr (10, [.int 0, .ref (g 4), .int 0])), (b2, .inr (10, [.int 0, .ref (g 4), .int 0])), (b3, .inr (11, [.null, .null, .null, .null, .int 0, .int 0, .null, .null, .null]))] s.heap.size = A at hD hAz ⊢
  have hA : ∀ q : Nat, s.heap.size ≤ q → A q := fun q h => by rw [← hAe]; exact Or.inr h
  have hS : va_S A s.heap s.heap [] := va_S.rf
  have hP : va_P D classes [(mm, .inr (9, [.ref b0, .ref b1, .ref b2, .ref b3, .int 0, .null, .null, .ref b4, .null, .ref b5, .ref b6, .int 0, .int 0, .long 0, .int 0])), (b0, .inr (10, [.int 0, .ref (g 4), .int 0])), (b1, .inr (10, [.int 0, .ref (g 4), .int 0])), (b2, .inr (10, [.int 0, .ref (g 4), .int 0])), (b3, .inr (11, [.null, .null, .null, .null, .int 0, .int 0, .null, .null, .null]))] s.heap := hP
  have hl := lv_entry ([.ref mm, .int p0, .int p1]) (n := 3) (Nat.le_of_ble_eq_true rfl)
  rw [lg_entry_eq]
  generalize (lg_sl ([.ref mm, .int p0, .int p1]) ++ List.replicate (3 - (lg_sl ([.ref mm, .int p0, .int p1])).length) Slot.unset).toArray = ls at hl ⊢
  have hl : lv_has ls 3 [(0, .ref mm), (1, .int p0), (2, .int p1)] := hl
  refine lv_aload_n hx hb dX18_addMachine_0 rfl (lv_at hl 0 rfl) ?_
  refine lv_iload_n hx hb dX18_addMachine_1 rfl (lv_at hl 1 rfl) ?_
  refine lv_i2l (v := (Int32.toInt64 p0)) hx hb dX18_addMachine_2 rfl ?_
  refine lv_lconst (v := 0) hx hb dX18_addMachine_3 (by decide) ?_
  refine lv_ldc2 (v := 4) hx hb hown (hts _ m_1402) dX18_addMachine_4 ?_
  refine va_calli (va_runS (As := [.long (Int32.toInt64 p0), .long 0, .long 4]) (rest := [.ref mm]) ⟨hx, hb, hml, hown, hts⟩ (c_in_t l z0 D g (Int32.toInt64 p0) 0 4 (r_t1 (lo := 0) (by decide) h1) (r_t2 (hi := 4) (by decide) h2)) (va_cwS 3 hts (lw_S m_1238 m_1239 m_12 m_1240) rfl rfl rfl (by decide +kernel) ⟨(Nat.le_of_ble_eq_true rfl), (Nat.le_of_ble_eq_true rfl)⟩) ⟨fun _ _ _ _ h => h, fun U _ _ => ⟨rfl, trivial⟩⟩ rfl rfl hl.1 rfl (lv_room (Nat.le_of_ble_eq_true rfl)) dX18_addMachine_7 ⟨(Nat.le_of_ble_eq_true rfl), (Nat.le_of_ble_eq_true rfl)⟩) hS nA_B nA_A (fun r_2 u_3 t H locs ht hvm hw hB hz1 hk1 hS => ?_)
  have hP := hP.old hk1
  have hP : va_P D classes [(mm, .inr (9, [.ref b0, .ref b1, .ref b2, .ref b3, .int 0, .null, .null, .ref b4, .null, .ref b5, .ref b6, .int 0, .int 0, .long 0, .int 0])), (b0, .inr (10, [.int 0, .ref (g 4), .int 0])), (b1, .inr (10, [.int 0, .ref (g 4), .int 0])), (b2, .inr (10, [.int 0, .ref (g 4), .int 0])), (b3, .inr (11, [.null, .null, .null, .null, .int 0, .int 0, .null, .null, .null]))] H := hP
  subst hw
  refine lv_if_eq (tgt := 25) hx hb dX18_addMachine_10 (by decide) (fun h9 => absurd h9 (by decide)) (fun _ => ?_)
  refine lv_iload_n hx hb dX18_addMachine_13 rfl (lv_at hl 2 rfl) ?_
  refine lv_i2l (v := (Int32.toInt64 p1)) hx hb dX18_addMachine_14 rfl ?_
  refine lv_lconst (v := 0) hx hb dX18_addMachine_15 (by decide) ?_
  refine lv_ldc2 (v := 9) hx hb hown (hts _ m_1403) dX18_addMachine_16 ?_
  refine va_calli (va_runS (As := [.long (Int32.toInt64 p1), .long 0, .long 9]) (rest := [.ref mm]) ⟨hx, hb, hml, hown, hts⟩ (c_in_t l z0 D g (Int32.toInt64 p1) 0 9 (r_t1 (lo := 0) (by decide) h3) (r_t2 (hi := 9) (by decide) h4)) (va_cwS 3 hts (lw_S m_1238 m_1239 m_12 m_1240) rfl rfl rfl (by decide +kernel) ⟨(Nat.le_of_ble_eq_true rfl), (Nat.le_of_ble_eq_true rfl)⟩) ⟨fun _ _ _ _ h => h, fun U _ _ => ⟨rfl, trivial⟩⟩ rfl rfl hl.1 rfl (lv_room (Nat.le_of_ble_eq_true rfl)) dX18_addMachine_19 ⟨(Nat.le_of_ble_eq_true rfl), (Nat.le_of_ble_eq_true rfl)⟩) hS nA_B nA_A (fun r_5 u_6 t H locs ht hvm hw hB hz1 hk1 hS => ?_)
  have hP := hP.old hk1
  have hP : va_P D classes [(mm, .inr (9, [.ref b0, .ref b1, .ref b2, .ref b3, .int 0, .null, .null, .ref b4, .null, .ref b5, .ref b6, .int 0, .int 0, .long 0, .int 0])), (b0, .inr (10, [.int 0, .ref (g 4), .int 0])), (b1, .inr (10, [.int 0, .ref (g 4), .int 0])), (b2, .inr (10, [.int 0, .ref (g 4), .int 0])), (b3, .inr (11, [.null, .null, .null, .null, .int 0, .int 0, .null, .null, .null]))] H := hP
  subst hw
  refine lv_if_ne (tgt := 29) hx hb dX18_addMachine_22 (by decide) (fun _ => ?_) (fun h9 => absurd h9 (by decide))
  refine lv_aload_n hx hb dX18_addMachine_29 rfl (lv_at hl 0 rfl) ?_
  refine va_get (D := D) (ci := 9) (v := .ref b1) (C := RX18) (T := TX18) (N := 15) hx hb hts i_X18 hown hK hP 0 rfl rfl 1 (by decide) (hts _ m_1182) (fun _ h9 => h9) rfl dX18_addMachine_30 ?_
  have hc_7 := hP.sub (ws' := [(b1, .inr (10, [.int 0, .ref (g 4), .int 0]))]) [2] rfl
  refine va_callFi (va_runF (hK.1 10 _ rfl).2 (As := []) (rest := [.ref mm]) ⟨hx, hb, hml, hown, hts⟩ (c_AL_size l z0 D g b1) (va_cwF 0 hts (lw_F m_1243 m_1247 m_1249 m_15 m_1251) rfl rfl rfl (hE.fw (i := 0) rfl) (by decide +kernel) ⟨(Nat.le_of_ble_eq_true rfl), (Nat.le_of_ble_eq_true rfl)⟩) ⟨PR.blind, va_recv hK hP (ci := 10) (q0 := 2) rfl rfl, PR.pre hE hS hAz hc_7⟩ rfl rfl hl.1 rfl (lv_room (Nat.le_of_ble_eq_true rfl)) dX18_addMachine_33 ⟨(Nat.le_of_ble_eq_true rfl), (Nat.le_of_ble_eq_true rfl)⟩) hS nA_B nA_A (fun r_8 u_9 t H locs ht hvm hw hB hz1 hk1 hS => ?_)
  have hP := hP.old hk1
  have hP : va_P D classes [(mm, .inr (9, [.ref b0, .ref b1, .ref b2, .ref b3, .int 0, .null, .null, .ref b4, .null, .ref b5, .ref b6, .int 0, .int 0, .long 0, .int 0])), (b0, .inr (10, [.int 0, .ref (g 4), .int 0])), (b1, .inr (10, [.int 0, .ref (g 4), .int 0])), (b2, .inr (10, [.int 0, .ref (g 4), .int 0])), (b3, .inr (11, [.null, .null, .null, .null, .int 0, .int 0, .null, .null, .null]))] H := hP
  subst hw
  refine lv_bipush (v := 6) hx hb dX18_addMachine_38 (by decide) ?_
  refine lv_icmp_eq (tgt := 50) hx hb dX18_addMachine_40 (by decide) (fun h9 => absurd h9 (by decide)) (fun _ => ?_)
  refine lv_aload_n hx hb dX18_addMachine_43 rfl (lv_at hl 0 rfl) ?_
  refine va_get (D := D) (ci := 9) (v := .null) (C := RX18) (T := TX18) (N := 15) hx hb hts i_X18 hown hK hP 0 rfl rfl 5 (by decide) (hts _ m_1186) (fun _ h9 => h9) rfl dX18_addMachine_44 ?_
  refine lv_ifnullN (tgt := 54) hx hb dX18_addMachine_47 (by decide) ?_
  refine lv_iconst (v := 0) hx hb dX18_addMachine_54 (by decide) ?_
  refine va_put (D := D) (ci := 9) (v := .int 0) (ty := .int) (C := RX18) (T := TX18) (N := 15) hx hb hts i_X18 tyX18 tyX18_ok nmX18 hown hK hP hD hS 0 rfl rfl 14 (by decide) (hts _ m_1197) (fun _ h9 => h9) rfl (by decide +kernel) rfl rfl (Nat.le_of_ble_eq_true rfl) dX18_addMachine_55 (fun H locs hP hD hS => ?_)
  have hP : va_P D classes [(mm, .inr (9, [.ref b0, .ref b1, .ref b2, .ref b3, .int 0, .null, .null, .ref b4, .null, .ref b5, .ref b6, .int 0, .int 0, .long 0, .int 0])), (b0, .inr (10, [.int 0, .ref (g 4), .int 0])), (b1, .inr (10, [.int 0, .ref (g 4), .int 0])), (b2, .inr (10, [.int 0, .ref (g 4), .int 0])), (b3, .inr (11, [.null, .null, .null, .null, .int 0, .int 0, .null, .null, .null]))] H := hP
  have hD : va_D A [(mm, .inr (9, [.ref b0, .ref b1, .ref b2, .ref b3, .int 0, .null, .null, .ref b4, .null, .ref b5, .ref b6, .int 0, .int 0, .long 0, .int 0])), (b0, .inr (10, [.int 0, .ref (g 4), .int 0])), (b1, .inr (10, [.int 0, .ref (g 4), .int 0])), (b2, .inr (10, [.int 0, .ref (g 4), .int 0])), (b3, .inr (11, [.null, .null, .null, .null, .int 0, .int 0, .null, .null, .null]))] := hD
  refine lv_aload_n hx hb dX18_addMachine_58 rfl (lv_at hl 0 rfl) ?_
  refine va_get (D := D) (ci := 9) (v := .int 0) (C := RX18) (T := TX18) (N := 15) hx hb hts i_X18 hown hK hP 0 rfl rfl 14 (by decide) (hts _ m_1197) (fun _ h9 => h9) rfl dX18_addMachine_59 ?_
  refine lv_if_le (tgt := 67) hx hb dX18_addMachine_62 (by decide) (fun _ => ?_) (fun h9 => absurd (by decide) h9)
  refine lv_aload_n hx hb dX18_addMachine_67 rfl (lv_at hl 0 rfl) ?_
  refine va_get (D := D) (ci := 9) (v := .ref b1) (C := RX18) (T := TX18) (N := 15) hx hb hts i_X18 hown hK hP 0 rfl rfl 1 (by decide) (hts _ m_1182) (fun _ h9 => h9) rfl dX18_addMachine_68 ?_
  refine va_new (ci := 13) (fs := [.int 0, .int 0, .int 0, .int 0, .int 0]) (C := RX14) (T := TX14) (N := 5) hx hb hts i_X14 tyX14 tyX14_ok hown (hts _ m_1404) (hts _ m_1405) (hts _ m_33) hK hP hD hS hA rfl (fun j hj => by rcases (show j = 0 ∨ j = 1 ∨ j = 2 ∨ j = 3 ∨ j = 4 by omega) with rfl | rfl | rfl | rfl | rfl <;> rfl) (Nat.le_of_ble_eq_true rfl) (Nat.le_of_ble_eq_true rfl) dX18_addMachine_71 (fun q_10 H hP hD hS => ?_)
  have hP : va_P D classes [(mm, .inr (9, [.ref b0, .ref b1, .ref b2, .ref b3, .int 0, .null, .null, .ref b4, .null, .ref b5, .ref b6, .int 0, .int 0, .long 0, .int 0])), (b0, .inr (10, [.int 0, .ref (g 4), .int 0])), (b1, .inr (10, [.int 0, .ref (g 4), .int 0])), (b2, .inr (10, [.int 0, .ref (g 4), .int 0])), (b3, .inr (11, [.null, .null, .null, .null, .int 0, .int 0, .null, .null, .null])), (q_10, .inr (13, [.int 0, .int 0, .int 0, .int 0, .int 0]))] H := hP
  have hD : va_D A [(mm, .inr (9, [.ref b0, .ref b1, .ref b2, .ref b3, .int 0, .null, .null, .ref b4, .null, .ref b5, .ref b6, .int 0, .int 0, .long 0, .int 0])), (b0, .inr (10, [.int 0, .ref (g 4), .int 0])), (b1, .inr (10, [.int 0, .ref (g 4), .int 0])), (b2, .inr (10, [.int 0, .ref (g 4), .int 0])), (b3, .inr (11, [.null, .null, .null, .null, .int 0, .int 0, .null, .null, .null])), (q_10, .inr (13, [.int 0, .int 0, .int 0, .int 0, .int 0]))] := hD
  refine lv_dup hx hb dX18_addMachine_74 rfl ?_
  refine lv_iload_n hx hb dX18_addMachine_75 rfl (lv_at hl 1 rfl) ?_
  refine lv_iload_n hx hb dX18_addMachine_76 rfl (lv_at hl 2 rfl) ?_
  have hc_11 := hP.sub (ws' := [(q_10, .inr (13, [.int 0, .int 0, .int 0, .int 0, .int 0]))]) [5] rfl
  have hc_11D := hD.sub (ws' := [(q_10, .inr (13, [.int 0, .int 0, .int 0, .int 0, .int 0]))]) [5] (by decide) rfl
  have hc_11F := va_free (wc := [(q_10, .inr (13, [.int 0, .int 0, .int 0, .int 0, .int 0]))]) hD hS hA [5] rfl
  refine va_callv (va_runI (As := [.int p0, .int p1]) (rest := [.ref q_10, .ref b1]) ⟨hx, hb, hml, hown, hts⟩ (c_init_RM l z0 D g _ q_10 p0 p1) (cwI 2 hts (lw_I m_1408) rfl rfl rfl (hts _ m_33) (hts _ m_1406) (hts _ m_1407) rfl (by decide +kernel) ⟨(Nat.le_of_ble_eq_true rfl), (Nat.le_of_ble_eq_true rfl)⟩) ⟨PM.blind, PM.pre hE hS hAz hsz hc_11 hc_11D⟩ rfl rfl hl.1 rfl (lv_room (Nat.le_of_ble_eq_true rfl)) dX18_addMachine_77 ⟨(Nat.le_of_ble_eq_true rfl), (Nat.le_of_ble_eq_true rfl)⟩) hS (fun q _ h => hc_11F q h) hc_11F (fun u_13 t H locs ht hvm hw hB hz1 hk1 hS => ?_)
  obtain ⟨hP1, hD1⟩ := hB
  rw [ht] at hP1
  obtain ⟨hP, hD⟩ := va_join (wr := [(mm, .inr (9, [.ref b0, .ref b1, .ref b2, .ref b3, .int 0, .null, .null, .ref b4, .null, .ref b5, .ref b6, .int 0, .int 0, .long 0, .int 0])), (b0, .inr (10, [.int 0, .ref (g 4), .int 0])), (b1, .inr (10, [.int 0, .ref (g 4), .int 0])), (b2, .inr (10, [.int 0, .ref (g 4), .int 0])), (b3, .inr (11, [.null, .null, .null, .null, .int 0, .int 0, .null, .null, .null]))]) (w1 := [(q_10, .inr (13, [.int p0, .int p1, .int (-1), .int 0, .int 0]))]) hP hD [5] [0, 1, 2, 3, 4] rfl rfl (by decide) (by decide) hk1 hc_11F hP1 hD1
  have hP : va_P D classes [(mm, .inr (9, [.ref b0, .ref b1, .ref b2, .ref b3, .int 0, .null, .null, .ref b4, .null, .ref b5, .ref b6, .int 0, .int 0, .long 0, .int 0])), (b0, .inr (10, [.int 0, .ref (g 4), .int 0])), (b1, .inr (10, [.int 0, .ref (g 4), .int 0])), (b2, .inr (10, [.int 0, .ref (g 4), .int 0])), (b3, .inr (11, [.null, .null, .null, .null, .int 0, .int 0, .null, .null, .null])), (q_10, .inr (13, [.int p0, .int p1, .int (-1), .int 0, .int 0]))] H := hP
  have hD : va_D A [(mm, .inr (9, [.ref b0, .ref b1, .ref b2, .ref b3, .int 0, .null, .null, .ref b4, .null, .ref b5, .ref b6, .int 0, .int 0, .long 0, .int 0])), (b0, .inr (10, [.int 0, .ref (g 4), .int 0])), (b1, .inr (10, [.int 0, .ref (g 4), .int 0])), (b2, .inr (10, [.int 0, .ref (g 4), .int 0])), (b3, .inr (11, [.null, .null, .null, .null, .int 0, .int 0, .null, .null, .null])), (q_10, .inr (13, [.int p0, .int p1, .int (-1), .int 0, .int 0]))] := hD
  have hc_14 := hP.sub (ws' := [(b1, .inr (10, [.int 0, .ref (g 4), .int 0])), (q_10, .inr (13, [.int p0, .int p1, .int (-1), .int 0, .int 0]))]) [2, 5] rfl
  have hc_14D := hD.sub (ws' := [(b1, .inr (10, [.int 0, .ref (g 4), .int 0])), (q_10, .inr (13, [.int p0, .int p1, .int (-1), .int 0, .int 0]))]) [2, 5] (by decide) rfl
  have hc_14F := va_free (wc := [(b1, .inr (10, [.int 0, .ref (g 4), .int 0])), (q_10, .inr (13, [.int p0, .int p1, .int (-1), .int 0, .int 0]))]) hD hS hA [2, 5] rfl
  refine va_callFi (va_runF (hK.1 10 _ rfl).2 (As := [.ref q_10]) (rest := []) ⟨hx, hb, hml, hown, hts⟩ (c_add1M l z0 D g _ b1 q_10 [.int p0, .int p1, .int (-1), .int 0, .int 0]) (va_cwF 1 hts (lw_F m_1283 m_1286 m_1288 m_15 m_1290) rfl rfl rfl (hE.fw (i := 1) rfl) (by decide +kernel) ⟨(Nat.le_of_ble_eq_true rfl), (Nat.le_of_ble_eq_true rfl)⟩) ⟨PM.blind, va_recv hK hP (ci := 10) (q0 := 2) rfl rfl, PM.pre hE hS hAz hsz hc_14 hc_14D⟩ rfl rfl hl.1 rfl (lv_room (Nat.le_of_ble_eq_true rfl)) dX18_addMachine_80 ⟨(Nat.le_of_ble_eq_true rfl), (Nat.le_of_ble_eq_true rfl)⟩) hS (fun q _ h => hc_14F q h) hc_14F (fun r_15 u_16 t H locs ht hvm hw hB hz1 hk1 hS => ?_)
  obtain ⟨hP1, hD1⟩ := hB
  rw [ht] at hP1
  obtain ⟨hP, hD⟩ := va_join (wr := [(mm, .inr (9, [.ref b0, .ref b1, .ref b2, .ref b3, .int 0, .null, .null, .ref b4, .null, .ref b5, .ref b6, .int 0, .int 0, .long 0, .int 0])), (b0, .inr (10, [.int 0, .ref (g 4), .int 0])), (b2, .inr (10, [.int 0, .ref (g 4), .int 0])), (b3, .inr (11, [.null, .null, .null, .null, .int 0, .int 0, .null, .null, .null]))]) (w1 := [(b1, .inr (10, [.int 1, .ref u_16, .int 1]))]) hP hD [2, 5] [0, 1, 3, 4] rfl rfl (by decide) (by decide) hk1 hc_14F hP1 hD1
  have hP : va_P D classes [(mm, .inr (9, [.ref b0, .ref b1, .ref b2, .ref b3, .int 0, .null, .null, .ref b4, .null, .ref b5, .ref b6, .int 0, .int 0, .long 0, .int 0])), (b0, .inr (10, [.int 0, .ref (g 4), .int 0])), (b2, .inr (10, [.int 0, .ref (g 4), .int 0])), (b3, .inr (11, [.null, .null, .null, .null, .int 0, .int 0, .null, .null, .null])), (b1, .inr (10, [.int 1, .ref u_16, .int 1]))] H := hP
  have hD : va_D A [(mm, .inr (9, [.ref b0, .ref b1, .ref b2, .ref b3, .int 0, .null, .null, .ref b4, .null, .ref b5, .ref b6, .int 0, .int 0, .long 0, .int 0])), (b0, .inr (10, [.int 0, .ref (g 4), .int 0])), (b2, .inr (10, [.int 0, .ref (g 4), .int 0])), (b3, .inr (11, [.null, .null, .null, .null, .int 0, .int 0, .null, .null, .null])), (b1, .inr (10, [.int 1, .ref u_16, .int 1]))] := hD
  subst hw
  refine lv_pop hx hb dX18_addMachine_85 rfl ?_
  refine lv_aload_n hx hb dX18_addMachine_86 rfl (lv_at hl 0 rfl) ?_
  refine va_get (D := D) (ci := 9) (v := .ref b1) (C := RX18) (T := TX18) (N := 15) hx hb hts i_X18 hown hK hP 0 rfl rfl 1 (by decide) (hts _ m_1182) (fun _ h9 => h9) rfl dX18_addMachine_87 ?_
  have hc_17 := hP.sub (ws' := [(b1, .inr (10, [.int 1, .ref u_16, .int 1]))]) [4] rfl
  refine va_callFi (va_runF (hK.1 10 _ rfl).2 (As := []) (rest := []) ⟨hx, hb, hml, hown, hts⟩ (c_AL_size1 l z0 D g b1 u_16) (va_cwF 0 hts (lw_F m_1243 m_1247 m_1249 m_15 m_1251) rfl rfl rfl (hE.fw (i := 0) rfl) (by decide +kernel) ⟨(Nat.le_of_ble_eq_true rfl), (Nat.le_of_ble_eq_true rfl)⟩) ⟨PR.blind, va_recv hK hP (ci := 10) (q0 := 4) rfl rfl, PR.pre hE hS hAz hc_17⟩ rfl rfl hl.1 rfl (lv_room (Nat.le_of_ble_eq_true rfl)) dX18_addMachine_90 ⟨(Nat.le_of_ble_eq_true rfl), (Nat.le_of_ble_eq_true rfl)⟩) hS nA_B nA_A (fun r_18 u_19 t H locs ht hvm hw hB hz1 hk1 hS => ?_)
  have hP := hP.old hk1
  have hP : va_P D classes [(mm, .inr (9, [.ref b0, .ref b1, .ref b2, .ref b3, .int 0, .null, .null, .ref b4, .null, .ref b5, .ref b6, .int 0, .int 0, .long 0, .int 0])), (b0, .inr (10, [.int 0, .ref (g 4), .int 0])), (b2, .inr (10, [.int 0, .ref (g 4), .int 0])), (b3, .inr (11, [.null, .null, .null, .null, .int 0, .int 0, .null, .null, .null])), (b1, .inr (10, [.int 1, .ref u_16, .int 1]))] H := hP
  subst hw
  refine lv_iconst (v := 1) hx hb dX18_addMachine_95 (by decide) ?_
  refine lv_isub hx hb dX18_addMachine_96 ?_
  rw [show (1 - 1 : Int32) = 0 by decide]
  have hP9 := hP.sub (ws' := [(mm, .inr (9, [.ref b0, .ref b1, .ref b2, .ref b3, .int 0, .null, .null, .ref b4, .null, .ref b5, .ref b6, .int 0, .int 0, .long 0, .int 0]))]) [0] rfl
  have hD9 := hD.sub (ws' := [(mm, .inr (9, [.ref b0, .ref b1, .ref b2, .ref b3, .int 0, .null, .null, .ref b4, .null, .ref b5, .ref b6, .int 0, .int 0, .long 0, .int 0]))]) [0] (by decide) rfl
  refine W.widen (k := 2) (n := 15) (Nat.le_of_ble_eq_true rfl) (Nat.le_of_ble_eq_true rfl) ?_
  exact W.iret (v := 0) hx hb hr (fun t ht hW => ⟨⟨0, (), rfl, rfl, ⟨by rw [ht]; exact hP9, hD9⟩⟩, hS.F ht⟩) hS.2.2 dX18_addMachine_97

set_option maxHeartbeats 4000000 in
set_option maxRecDepth 100000 in
theorem c_X18_addWork_ok (l : Launch) (z0 : Nat) (D : va_G) (g : Nat → Nat) (sz : Nat) (mm b0 b1 b2 b3 b4 b5 b6 : Nat) (p0 : Int32) (p1 : Int32) (h1 : ¬ p0 < 1) (h2 : p0 ≤ 5) (h3 : ¬ p1 < 1) (h4 : p1 ≤ 99) (k : Nat) (hk : k ≤ 5) (ek : p0 = nI k) : Met l yX18_addWork (wsp yX18_addWork cX18_addWork 3 (some .int)) ({ frames := 5, cells := 5, slots := 28, locals := 111 }) (va_Pc [.ref mm, .int p0, .int p1] (PM z0 D g sz [(mm, .inr (9, [.ref b0, .ref b1, .ref b2, .ref b3, .int 0, .null, .null, .ref b4, .null, .ref b5, .ref b6, .int 0, .int 0, .long 0, .int 0])), (b0, .inr (10, [.int 0, .ref (g 4), .int 0])), (b1, .inr (10, [.int 0, .ref (g 4), .int 0])), (b2, .inr (10, [.int 0, .ref (g 4), .int 0])), (b3, .inr (11, [.null, .null, .null, .null, .int 0, .int 0, .null, .null, .null]))])) (va_Qi (fun (r : Int32) (_ : Unit) => r = 0) (fun (_ : Unit) t => va_P D classes [(mm, .inr (9, [.ref b0, .ref b1, .ref b2, .ref b3, .int 0, .null, .null, .ref b4, .null, .ref b5, .ref b6, .int 0, .int 0, .long 0, .int 0]))] t.heap ∧ va_D (va_A [(mm, .inr (9, [.ref b0, .ref b1, .ref b2, .ref b3, .int 0, .null, .null, .ref b4, .null, .ref b5, .ref b6, .int 0, .int 0, .long 0, .int 0])), (b0, .inr (10, [.int 0, .ref (g 4), .int 0])), (b1, .inr (10, [.int 0, .ref (g 4), .int 0])), (b2, .inr (10, [.int 0, .ref (g 4), .int 0])), (b3, .inr (11, [.null, .null, .null, .null, .int 0, .int 0, .null, .null, .null]))] sz) [(mm, .inr (9, [.ref b0, .ref b1, .ref b2, .ref b3, .int 0, .null, .null, .ref b4, .null, .ref b5, .ref b6, .int 0, .int 0, .long 0, .int 0]))]) (va_A [(mm, .inr (9, [.ref b0, .ref b1, .ref b2, .ref b3, .int 0, .null, .null, .ref b4, .null, .ref b5, .ref b6, .int 0, .int 0, .long 0, .int 0])), (b0, .inr (10, [.int 0, .ref (g 4), .int 0])), (b1, .inr (10, [.int 0, .ref (g 4), .int 0])), (b2, .inr (10, [.int 0, .ref (g 4), .int 0])), (b3, .inr (11, [.null, .null, .null, .null, .int 0, .int 0, .null, .null, .null]))] sz)) 5 28 (va_A [(mm, .inr (9, [.ref b0, .ref b1, .ref b2, .ref b3, .int 0, .null, .null, .ref b4, .null, .ref b5, .ref b6, .int 0, .int 0, .long 0, .int 0])), (b0, .inr (10, [.int 0, .ref (g 4), .int 0])), (b1, .inr (10, [.int 0, .ref (g 4), .int 0])), (b2, .inr (10, [.int 0, .ref (g 4), .int 0])), (b3, .inr (11, [.null, .null, .null, .null, .int 0, .int 0, .null, .null, .null]))] sz) := by
  refine Met.ofW (cc := cX18_addWork) (maxL := 3) (ret := (some .int)) (by decide) rfl ?_
  intro p e s m args below meth c s₁ B hml hv
  obtain ⟨rfl, hsz9, hz0, hE, hP, hD0⟩ := hv
  have hx := B.exec
  have hb := B.bytes
  have hr := B.returns
  have hts0 := atoms_spec (ws := (wsp yX18_addWork cX18_addWork 3 (some .int))) B.pre
  have hts : ∀ w ∈ lw_all, w.before _ s = true := fun w h => hts0 w (List.mem_cons_of_mem _ h)
  have hown : s.vm.findClass "TheatrehouseModel" = some m.cls := findClass_of_methodNamed B.named
  have hlocks := B.notSynchronized
  have hK := hE.K
  subst hsz9
  have hsz := hz0
  have hAz : ∀ q, va_A [(mm, .inr (9, [.ref b0, .ref b1, .ref b2, .ref b3, .int 0, .null, .null, .ref b4, .null, .ref b5, .ref b6, .int 0, .int 0, .long 0, .int 0])), (b0, .inr (10, [.int 0, .ref (g 4), .int 0])), (b1, .inr (10, [.int 0, .ref (g 4), .int 0])), (b2, .inr (10, [.int 0, .ref (g 4), .int 0])), (b3, .inr (11, [.null, .null, .null, .null, .int 0, .int 0, .null, .null, .null]))] s.heap.size q → z0 ≤ q := vaA_z hz0 hD0
  have hD := hD0.self (sz := s.heap.size)
  generalize hAe : va_A [(mm, .inr (9, [.ref b0, .ref b1, .ref b2, .ref b3, .int 0, .null, .null, .ref b4, .null, .ref b5, .ref b6, .int 0, .int 0, .long 0, .int 0])), (b0, .inr (10, [.int 0, .ref (g 4), .int 0])), (b1, .inr (10, [.int 0, .ref (g 4), .int 0])), (b2, .inr (10, [.int 0, .ref (g 4), .int 0])), (b3, .inr (11, [.null, .null, .null, .null, .int 0, .int 0, .null, .null, .null]))] s.heap.size = A at hD hAz ⊢
  have hA : ∀ q : Nat, s.heap.size ≤ q → A q := fun q h => by rw [← hAe]; exact Or.inr h
  have hS : va_S A s.heap s.heap [] := va_S.rf
  have hP : va_P D classes [(mm, .inr (9, [.ref b0, .ref b1, .ref b2, .ref b3, .int 0, .null, .null, .ref b4, .null, .ref b5, .ref b6, .int 0, .int 0, .long 0, .int 0])), (b0, .inr (10, [.int 0, .ref (g 4), .int 0])), (b1, .inr (10, [.int 0, .ref (g 4), .int 0])), (b2, .inr (10, [.int 0, .ref (g 4), .int 0])), (b3, .inr (11, [.null, .null, .null, .null, .int 0, .int 0, .null, .null, .null]))] s.heap := hP
  have hl := lv_entry ([.ref mm, .int p0, .int p1]) (n := 3) (Nat.le_of_ble_eq_true rfl)
  rw [lg_entry_eq]
  generalize (lg_sl ([.ref mm, .int p0, .int p1]) ++ List.replicate (3 - (lg_sl ([.ref mm, .int p0, .int p1])).length) Slot.unset).toArray = ls at hl ⊢
  have hl : lv_has ls 3 [(0, .ref mm), (1, .int p0), (2, .int p1)] := hl
  refine lv_aload_n hx hb dX18_addWork_0 rfl (lv_at hl 0 rfl) ?_
  refine lv_iload_n hx hb dX18_addWork_1 rfl (lv_at hl 1 rfl) ?_
  refine lv_i2l (v := (Int32.toInt64 p0)) hx hb dX18_addWork_2 rfl ?_
  refine lv_lconst (v := 1) hx hb dX18_addWork_3 (by decide) ?_
  refine lv_ldc2 (v := 5) hx hb hown (hts _ m_1442) dX18_addWork_4 ?_
  refine va_calli (va_runS (As := [.long (Int32.toInt64 p0), .long 1, .long 5]) (rest := [.ref mm]) ⟨hx, hb, hml, hown, hts⟩ (c_in_t l z0 D g (Int32.toInt64 p0) 1 5 (r_t1 (lo := 1) (by decide) h1) (r_t2 (hi := 5) (by decide) h2)) (va_cwS 3 hts (lw_S m_1238 m_1239 m_12 m_1240) rfl rfl rfl (by decide +kernel) ⟨(Nat.le_of_ble_eq_true rfl), (Nat.le_of_ble_eq_true rfl)⟩) ⟨fun _ _ _ _ h => h, fun U _ _ => ⟨rfl, trivial⟩⟩ rfl rfl hl.1 rfl (lv_room (Nat.le_of_ble_eq_true rfl)) dX18_addWork_7 ⟨(Nat.le_of_ble_eq_true rfl), (Nat.le_of_ble_eq_true rfl)⟩) hS nA_B nA_A (fun r_2 u_3 t H locs ht hvm hw hB hz1 hk1 hS => ?_)
  have hP := hP.old hk1
  have hP : va_P D classes [(mm, .inr (9, [.ref b0, .ref b1, .ref b2, .ref b3, .int 0, .null, .null, .ref b4, .null, .ref b5, .ref b6, .int 0, .int 0, .long 0, .int 0])), (b0, .inr (10, [.int 0, .ref (g 4), .int 0])), (b1, .inr (10, [.int 0, .ref (g 4), .int 0])), (b2, .inr (10, [.int 0, .ref (g 4), .int 0])), (b3, .inr (11, [.null, .null, .null, .null, .int 0, .int 0, .null, .null, .null]))] H := hP
  subst hw
  refine lv_if_eq (tgt := 25) hx hb dX18_addWork_10 (by decide) (fun h9 => absurd h9 (by decide)) (fun _ => ?_)
  refine lv_iload_n hx hb dX18_addWork_13 rfl (lv_at hl 2 rfl) ?_
  refine lv_i2l (v := (Int32.toInt64 p1)) hx hb dX18_addWork_14 rfl ?_
  refine lv_lconst (v := 1) hx hb dX18_addWork_15 (by decide) ?_
  refine lv_ldc2 (v := 99) hx hb hown (hts _ m_1237) dX18_addWork_16 ?_
  refine va_calli (va_runS (As := [.long (Int32.toInt64 p1), .long 1, .long 99]) (rest := [.ref mm]) ⟨hx, hb, hml, hown, hts⟩ (c_in_t l z0 D g (Int32.toInt64 p1) 1 99 (r_t1 (lo := 1) (by decide) h3) (r_t2 (hi := 99) (by decide) h4)) (va_cwS 3 hts (lw_S m_1238 m_1239 m_12 m_1240) rfl rfl rfl (by decide +kernel) ⟨(Nat.le_of_ble_eq_true rfl), (Nat.le_of_ble_eq_true rfl)⟩) ⟨fun _ _ _ _ h => h, fun U _ _ => ⟨rfl, trivial⟩⟩ rfl rfl hl.1 rfl (lv_room (Nat.le_of_ble_eq_true rfl)) dX18_addWork_19 ⟨(Nat.le_of_ble_eq_true rfl), (Nat.le_of_ble_eq_true rfl)⟩) hS nA_B nA_A (fun r_5 u_6 t H locs ht hvm hw hB hz1 hk1 hS => ?_)
  have hP := hP.old hk1
  have hP : va_P D classes [(mm, .inr (9, [.ref b0, .ref b1, .ref b2, .ref b3, .int 0, .null, .null, .ref b4, .null, .ref b5, .ref b6, .int 0, .int 0, .long 0, .int 0])), (b0, .inr (10, [.int 0, .ref (g 4), .int 0])), (b1, .inr (10, [.int 0, .ref (g 4), .int 0])), (b2, .inr (10, [.int 0, .ref (g 4), .int 0])), (b3, .inr (11, [.null, .null, .null, .null, .int 0, .int 0, .null, .null, .null]))] H := hP
  subst hw
  refine lv_if_ne (tgt := 29) hx hb dX18_addWork_22 (by decide) (fun _ => ?_) (fun h9 => absurd h9 (by decide))
  refine lv_aload_n hx hb dX18_addWork_29 rfl (lv_at hl 0 rfl) ?_
  refine va_get (D := D) (ci := 9) (v := .ref b2) (C := RX18) (T := TX18) (N := 15) hx hb hts i_X18 hown hK hP 0 rfl rfl 2 (by decide) (hts _ m_1183) (fun _ h9 => h9) rfl dX18_addWork_30 ?_
  have hc_7 := hP.sub (ws' := [(b2, .inr (10, [.int 0, .ref (g 4), .int 0]))]) [3] rfl
  refine va_callFi (va_runF (hK.1 10 _ rfl).2 (As := []) (rest := [.ref mm]) ⟨hx, hb, hml, hown, hts⟩ (c_AL_size l z0 D g b2) (va_cwF 0 hts (lw_F m_1243 m_1247 m_1249 m_15 m_1251) rfl rfl rfl (hE.fw (i := 0) rfl) (by decide +kernel) ⟨(Nat.le_of_ble_eq_true rfl), (Nat.le_of_ble_eq_true rfl)⟩) ⟨PR.blind, va_recv hK hP (ci := 10) (q0 := 3) rfl rfl, PR.pre hE hS hAz hc_7⟩ rfl rfl hl.1 rfl (lv_room (Nat.le_of_ble_eq_true rfl)) dX18_addWork_33 ⟨(Nat.le_of_ble_eq_true rfl), (Nat.le_of_ble_eq_true rfl)⟩) hS nA_B nA_A (fun r_8 u_9 t H locs ht hvm hw hB hz1 hk1 hS => ?_)
  have hP := hP.old hk1
  have hP : va_P D classes [(mm, .inr (9, [.ref b0, .ref b1, .ref b2, .ref b3, .int 0, .null, .null, .ref b4, .null, .ref b5, .ref b6, .int 0, .int 0, .long 0, .int 0])), (b0, .inr (10, [.int 0, .ref (g 4), .int 0])), (b1, .inr (10, [.int 0, .ref (g 4), .int 0])), (b2, .inr (10, [.int 0, .ref (g 4), .int 0])), (b3, .inr (11, [.null, .null, .null, .null, .int 0, .int 0, .null, .null, .null]))] H := hP
  subst hw
  refine lv_iconst (v := 3) hx hb dX18_addWork_38 (by decide) ?_
  refine lv_icmp_eq (tgt := 49) hx hb dX18_addWork_39 (by decide) (fun h9 => absurd h9 (by decide)) (fun _ => ?_)
  refine lv_aload_n hx hb dX18_addWork_42 rfl (lv_at hl 0 rfl) ?_
  refine va_get (D := D) (ci := 9) (v := .null) (C := RX18) (T := TX18) (N := 15) hx hb hts i_X18 hown hK hP 0 rfl rfl 5 (by decide) (hts _ m_1186) (fun _ h9 => h9) rfl dX18_addWork_43 ?_
  refine lv_ifnullN (tgt := 53) hx hb dX18_addWork_46 (by decide) ?_
  refine lv_iconst (v := 0) hx hb dX18_addWork_53 (by decide) ?_
  refine va_put (D := D) (ci := 9) (v := .int 0) (ty := .int) (C := RX18) (T := TX18) (N := 15) hx hb hts i_X18 tyX18 tyX18_ok nmX18 hown hK hP hD hS 0 rfl rfl 14 (by decide) (hts _ m_1197) (fun _ h9 => h9) rfl (by decide +kernel) rfl rfl (Nat.le_of_ble_eq_true rfl) dX18_addWork_54 (fun H locs hP hD hS => ?_)
  have hP : va_P D classes [(mm, .inr (9, [.ref b0, .ref b1, .ref b2, .ref b3, .int 0, .null, .null, .ref b4, .null, .ref b5, .ref b6, .int 0, .int 0, .long 0, .int 0])), (b0, .inr (10, [.int 0, .ref (g 4), .int 0])), (b1, .inr (10, [.int 0, .ref (g 4), .int 0])), (b2, .inr (10, [.int 0, .ref (g 4), .int 0])), (b3, .inr (11, [.null, .null, .null, .null, .int 0, .int 0, .null, .null, .null]))] H := hP
  have hD : va_D A [(mm, .inr (9, [.ref b0, .ref b1, .ref b2, .ref b3, .int 0, .null, .null, .ref b4, .null, .ref b5, .ref b6, .int 0, .int 0, .long 0, .int 0])), (b0, .inr (10, [.int 0, .ref (g 4), .int 0])), (b1, .inr (10, [.int 0, .ref (g 4), .int 0])), (b2, .inr (10, [.int 0, .ref (g 4), .int 0])), (b3, .inr (11, [.null, .null, .null, .null, .int 0, .int 0, .null, .null, .null]))] := hD
  refine lv_aload_n hx hb dX18_addWork_57 rfl (lv_at hl 0 rfl) ?_
  refine va_get (D := D) (ci := 9) (v := .int 0) (C := RX18) (T := TX18) (N := 15) hx hb hts i_X18 hown hK hP 0 rfl rfl 14 (by decide) (hts _ m_1197) (fun _ h9 => h9) rfl dX18_addWork_58 ?_
  refine lv_if_le (tgt := 66) hx hb dX18_addWork_61 (by decide) (fun _ => ?_) (fun h9 => absurd (by decide) h9)
  refine lv_aload_n hx hb dX18_addWork_66 rfl (lv_at hl 0 rfl) ?_
  refine va_get (D := D) (ci := 9) (v := .ref b2) (C := RX18) (T := TX18) (N := 15) hx hb hts i_X18 hown hK hP 0 rfl rfl 2 (by decide) (hts _ m_1183) (fun _ h9 => h9) rfl dX18_addWork_67 ?_
  refine va_new (ci := 14) (fs := [.null, .null, .int 0, .null, .int 0]) (C := RX17) (T := TX17) (N := 5) hx hb hts i_X17 tyX17 tyX17_ok hown (hts _ m_1443) (hts _ m_1444) (hts _ m_34) hK hP hD hS hA rfl (fun j hj => by rcases (show j = 0 ∨ j = 1 ∨ j = 2 ∨ j = 3 ∨ j = 4 by omega) with rfl | rfl | rfl | rfl | rfl <;> rfl) (Nat.le_of_ble_eq_true rfl) (Nat.le_of_ble_eq_true rfl) dX18_addWork_70 (fun q_10 H hP hD hS => ?_)
  have hP : va_P D classes [(mm, .inr (9, [.ref b0, .ref b1, .ref b2, .ref b3, .int 0, .null, .null, .ref b4, .null, .ref b5, .ref b6, .int 0, .int 0, .long 0, .int 0])), (b0, .inr (10, [.int 0, .ref (g 4), .int 0])), (b1, .inr (10, [.int 0, .ref (g 4), .int 0])), (b2, .inr (10, [.int 0, .ref (g 4), .int 0])), (b3, .inr (11, [.null, .null, .null, .null, .int 0, .int 0, .null, .null, .null])), (q_10, .inr (14, [.null, .null, .int 0, .null, .int 0]))] H := hP
  have hD : va_D A [(mm, .inr (9, [.ref b0, .ref b1, .ref b2, .ref b3, .int 0, .null, .null, .ref b4, .null, .ref b5, .ref b6, .int 0, .int 0, .long 0, .int 0])), (b0, .inr (10, [.int 0, .ref (g 4), .int 0])), (b1, .inr (10, [.int 0, .ref (g 4), .int 0])), (b2, .inr (10, [.int 0, .ref (g 4), .int 0])), (b3, .inr (11, [.null, .null, .null, .null, .int 0, .int 0, .null, .null, .null])), (q_10, .inr (14, [.null, .null, .int 0, .null, .int 0]))] := hD
  refine lv_dup hx hb dX18_addWork_73 rfl ?_
  refine lv_iload_n hx hb dX18_addWork_74 rfl (lv_at hl 1 rfl) ?_
  refine lv_iload_n hx hb dX18_addWork_75 rfl (lv_at hl 2 rfl) ?_
  have hc_11 := hP.sub (ws' := [(q_10, .inr (14, [.null, .null, .int 0, .null, .int 0]))]) [5] rfl
  have hc_11D := hD.sub (ws' := [(q_10, .inr (14, [.null, .null, .int 0, .null, .int 0]))]) [5] (by decide) rfl
  have hc_11F := va_free (wc := [(q_10, .inr (14, [.null, .null, .int 0, .null, .int 0]))]) hD hS hA [5] rfl
  refine va_callv (va_runI (As := [.int p0, .int p1]) (rest := [.ref q_10, .ref b2]) ⟨hx, hb, hml, hown, hts⟩ (c_init_RW l z0 D g _ q_10 p0 p1 k hk ek) (cwI 2 hts (lw_I m_1447) rfl rfl rfl (hts _ m_34) (hts _ m_1445) (hts _ m_1446) rfl (by decide +kernel) ⟨(Nat.le_of_ble_eq_true rfl), (Nat.le_of_ble_eq_true rfl)⟩) ⟨PM.blind, PM.pre hE hS hAz hsz hc_11 hc_11D⟩ rfl rfl hl.1 rfl (lv_room (Nat.le_of_ble_eq_true rfl)) dX18_addWork_76 ⟨(Nat.le_of_ble_eq_true rfl), (Nat.le_of_ble_eq_true rfl)⟩) hS (fun q _ h => hc_11F q h) hc_11F (fun u_13 t H locs ht hvm hw hB hz1 hk1 hS => ?_)
  obtain ⟨hP1, hD1⟩ := hB
  rw [ht] at hP1
  obtain ⟨hP, hD⟩ := va_join (wr := [(mm, .inr (9, [.ref b0, .ref b1, .ref b2, .ref b3, .int 0, .null, .null, .ref b4, .null, .ref b5, .ref b6, .int 0, .int 0, .long 0, .int 0])), (b0, .inr (10, [.int 0, .ref (g 4), .int 0])), (b1, .inr (10, [.int 0, .ref (g 4), .int 0])), (b2, .inr (10, [.int 0, .ref (g 4), .int 0])), (b3, .inr (11, [.null, .null, .null, .null, .int 0, .int 0, .null, .null, .null]))]) (w1 := [(q_10, .inr (14, u_13))]) hP hD [5] [0, 1, 2, 3, 4] rfl rfl (by decide) (by decide) hk1 hc_11F hP1 hD1
  have hP : va_P D classes [(mm, .inr (9, [.ref b0, .ref b1, .ref b2, .ref b3, .int 0, .null, .null, .ref b4, .null, .ref b5, .ref b6, .int 0, .int 0, .long 0, .int 0])), (b0, .inr (10, [.int 0, .ref (g 4), .int 0])), (b1, .inr (10, [.int 0, .ref (g 4), .int 0])), (b2, .inr (10, [.int 0, .ref (g 4), .int 0])), (b3, .inr (11, [.null, .null, .null, .null, .int 0, .int 0, .null, .null, .null])), (q_10, .inr (14, u_13))] H := hP
  have hD : va_D A [(mm, .inr (9, [.ref b0, .ref b1, .ref b2, .ref b3, .int 0, .null, .null, .ref b4, .null, .ref b5, .ref b6, .int 0, .int 0, .long 0, .int 0])), (b0, .inr (10, [.int 0, .ref (g 4), .int 0])), (b1, .inr (10, [.int 0, .ref (g 4), .int 0])), (b2, .inr (10, [.int 0, .ref (g 4), .int 0])), (b3, .inr (11, [.null, .null, .null, .null, .int 0, .int 0, .null, .null, .null])), (q_10, .inr (14, u_13))] := hD
  have hc_14 := hP.sub (ws' := [(b2, .inr (10, [.int 0, .ref (g 4), .int 0])), (q_10, .inr (14, u_13))]) [3, 5] rfl
  have hc_14D := hD.sub (ws' := [(b2, .inr (10, [.int 0, .ref (g 4), .int 0])), (q_10, .inr (14, u_13))]) [3, 5] (by decide) rfl
  have hc_14F := va_free (wc := [(b2, .inr (10, [.int 0, .ref (g 4), .int 0])), (q_10, .inr (14, u_13))]) hD hS hA [3, 5] rfl
  refine va_callFi (va_runF (hK.1 10 _ rfl).2 (As := [.ref q_10]) (rest := []) ⟨hx, hb, hml, hown, hts⟩ (c_add1W l z0 D g _ b2 q_10 u_13) (va_cwF 1 hts (lw_F m_1283 m_1286 m_1288 m_15 m_1290) rfl rfl rfl (hE.fw (i := 1) rfl) (by decide +kernel) ⟨(Nat.le_of_ble_eq_true rfl), (Nat.le_of_ble_eq_true rfl)⟩) ⟨PM.blind, va_recv hK hP (ci := 10) (q0 := 3) rfl rfl, PM.pre hE hS hAz hsz hc_14 hc_14D⟩ rfl rfl hl.1 rfl (lv_room (Nat.le_of_ble_eq_true rfl)) dX18_addWork_79 ⟨(Nat.le_of_ble_eq_true rfl), (Nat.le_of_ble_eq_true rfl)⟩) hS (fun q _ h => hc_14F q h) hc_14F (fun r_15 u_16 t H locs ht hvm hw hB hz1 hk1 hS => ?_)
  obtain ⟨hP1, hD1⟩ := hB
  rw [ht] at hP1
  obtain ⟨hP, hD⟩ := va_join (wr := [(mm, .inr (9, [.ref b0, .ref b1, .ref b2, .ref b3, .int 0, .null, .null, .ref b4, .null, .ref b5, .ref b6, .int 0, .int 0, .long 0, .int 0])), (b0, .inr (10, [.int 0, .ref (g 4), .int 0])), (b1, .inr (10, [.int 0, .ref (g 4), .int 0])), (b3, .inr (11, [.null, .null, .null, .null, .int 0, .int 0, .null, .null, .null]))]) (w1 := [(b2, .inr (10, [.int 1, .ref u_16, .int 1]))]) hP hD [3, 5] [0, 1, 2, 4] rfl rfl (by decide) (by decide) hk1 hc_14F hP1 hD1
  have hP : va_P D classes [(mm, .inr (9, [.ref b0, .ref b1, .ref b2, .ref b3, .int 0, .null, .null, .ref b4, .null, .ref b5, .ref b6, .int 0, .int 0, .long 0, .int 0])), (b0, .inr (10, [.int 0, .ref (g 4), .int 0])), (b1, .inr (10, [.int 0, .ref (g 4), .int 0])), (b3, .inr (11, [.null, .null, .null, .null, .int 0, .int 0, .null, .null, .null])), (b2, .inr (10, [.int 1, .ref u_16, .int 1]))] H := hP
  have hD : va_D A [(mm, .inr (9, [.ref b0, .ref b1, .ref b2, .ref b3, .int 0, .null, .null, .ref b4, .null, .ref b5, .ref b6, .int 0, .int 0, .long 0, .int 0])), (b0, .inr (10, [.int 0, .ref (g 4), .int 0])), (b1, .inr (10, [.int 0, .ref (g 4), .int 0])), (b3, .inr (11, [.null, .null, .null, .null, .int 0, .int 0, .null, .null, .null])), (b2, .inr (10, [.int 1, .ref u_16, .int 1]))] := hD
  subst hw
  refine lv_pop hx hb dX18_addWork_84 rfl ?_
  refine lv_aload_n hx hb dX18_addWork_85 rfl (lv_at hl 0 rfl) ?_
  refine va_get (D := D) (ci := 9) (v := .ref b2) (C := RX18) (T := TX18) (N := 15) hx hb hts i_X18 hown hK hP 0 rfl rfl 2 (by decide) (hts _ m_1183) (fun _ h9 => h9) rfl dX18_addWork_86 ?_
  have hc_17 := hP.sub (ws' := [(b2, .inr (10, [.int 1, .ref u_16, .int 1]))]) [4] rfl
  refine va_callFi (va_runF (hK.1 10 _ rfl).2 (As := []) (rest := []) ⟨hx, hb, hml, hown, hts⟩ (c_AL_size1 l z0 D g b2 u_16) (va_cwF 0 hts (lw_F m_1243 m_1247 m_1249 m_15 m_1251) rfl rfl rfl (hE.fw (i := 0) rfl) (by decide +kernel) ⟨(Nat.le_of_ble_eq_true rfl), (Nat.le_of_ble_eq_true rfl)⟩) ⟨PR.blind, va_recv hK hP (ci := 10) (q0 := 4) rfl rfl, PR.pre hE hS hAz hc_17⟩ rfl rfl hl.1 rfl (lv_room (Nat.le_of_ble_eq_true rfl)) dX18_addWork_89 ⟨(Nat.le_of_ble_eq_true rfl), (Nat.le_of_ble_eq_true rfl)⟩) hS nA_B nA_A (fun r_18 u_19 t H locs ht hvm hw hB hz1 hk1 hS => ?_)
  have hP := hP.old hk1
  have hP : va_P D classes [(mm, .inr (9, [.ref b0, .ref b1, .ref b2, .ref b3, .int 0, .null, .null, .ref b4, .null, .ref b5, .ref b6, .int 0, .int 0, .long 0, .int 0])), (b0, .inr (10, [.int 0, .ref (g 4), .int 0])), (b1, .inr (10, [.int 0, .ref (g 4), .int 0])), (b3, .inr (11, [.null, .null, .null, .null, .int 0, .int 0, .null, .null, .null])), (b2, .inr (10, [.int 1, .ref u_16, .int 1]))] H := hP
  subst hw
  refine lv_iconst (v := 1) hx hb dX18_addWork_94 (by decide) ?_
  refine lv_isub hx hb dX18_addWork_95 ?_
  rw [show (1 - 1 : Int32) = 0 by decide]
  have hP9 := hP.sub (ws' := [(mm, .inr (9, [.ref b0, .ref b1, .ref b2, .ref b3, .int 0, .null, .null, .ref b4, .null, .ref b5, .ref b6, .int 0, .int 0, .long 0, .int 0]))]) [0] rfl
  have hD9 := hD.sub (ws' := [(mm, .inr (9, [.ref b0, .ref b1, .ref b2, .ref b3, .int 0, .null, .null, .ref b4, .null, .ref b5, .ref b6, .int 0, .int 0, .long 0, .int 0]))]) [0] (by decide) rfl
  refine W.widen (k := 5) (n := 28) (Nat.le_of_ble_eq_true rfl) (Nat.le_of_ble_eq_true rfl) ?_
  exact W.iret (v := 0) hx hb hr (fun t ht hW => ⟨⟨0, (), rfl, rfl, ⟨by rw [ht]; exact hP9, hD9⟩⟩, hS.F ht⟩) hS.2.2 dX18_addWork_96
