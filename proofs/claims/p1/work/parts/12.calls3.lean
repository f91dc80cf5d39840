theorem dX10_addMachine_0 : decode cX10_addMachine 0 = .ok (.iload_n 1, 1) := by decide +kernel
theorem dX10_addMachine_1 : decode cX10_addMachine 1 = .ok (.iconst 0, 1) := by decide +kernel
theorem dX10_addMachine_2 : decode cX10_addMachine 2 = .ok (.iconst 4, 1) := by decide +kernel
theorem dX10_addMachine_3 : decode cX10_addMachine 3 = .ok (.invokestatic 81, 3) := by decide +kernel
theorem dX10_addMachine_6 : decode cX10_addMachine 6 = .ok (.iload_n 2, 1) := by decide +kernel
theorem dX10_addMachine_7 : decode cX10_addMachine 7 = .ok (.iconst 0, 1) := by decide +kernel
theorem dX10_addMachine_8 : decode cX10_addMachine 8 = .ok (.bipush 9, 2) := by decide +kernel
theorem dX10_addMachine_10 : decode cX10_addMachine 10 = .ok (.invokestatic 81, 3) := by decide +kernel
theorem dX10_addMachine_13 : decode cX10_addMachine 13 = .ok (.aload_n 0, 1) := by decide +kernel
theorem dX10_addMachine_14 : decode cX10_addMachine 14 = .ok (.getfield 58, 3) := by decide +kernel
theorem dX10_addMachine_17 : decode cX10_addMachine 17 = .ok (.bipush 6, 2) := by decide +kernel
theorem dX10_addMachine_19 : decode cX10_addMachine 19 = .ok (.invokestatic 85, 3) := by decide +kernel
theorem dX10_addMachine_22 : decode cX10_addMachine 22 = .ok (.aload_n 0, 1) := by decide +kernel
theorem dX10_addMachine_23 : decode cX10_addMachine 23 = .ok (.invokevirtual 89, 3) := by decide +kernel
theorem dX10_addMachine_26 : decode cX10_addMachine 26 = .ok (.aload_n 0, 1) := by decide +kernel
theorem dX10_addMachine_27 : decode cX10_addMachine 27 = .ok (.getfield 17, 3) := by decide +kernel
theorem dX10_addMachine_30 : decode cX10_addMachine 30 = .ok (.aload_n 0, 1) := by decide +kernel
theorem dX10_addMachine_31 : decode cX10_addMachine 31 = .ok (.getfield 58, 3) := by decide +kernel
theorem dX10_addMachine_34 : decode cX10_addMachine 34 = .ok (.aaload, 1) := by decide +kernel
theorem dX10_addMachine_35 : decode cX10_addMachine 35 = .ok (.astore_n 3, 1) := by decide +kernel
theorem dX10_addMachine_36 : decode cX10_addMachine 36 = .ok (.aload_n 3, 1) := by decide +kernel
theorem dX10_addMachine_37 : decode cX10_addMachine 37 = .ok (.iload_n 1, 1) := by decide +kernel
theorem dX10_addMachine_38 : decode cX10_addMachine 38 = .ok (.putfield 114, 3) := by decide +kernel
theorem dX10_addMachine_41 : decode cX10_addMachine 41 = .ok (.aload_n 3, 1) := by decide +kernel
theorem dX10_addMachine_42 : decode cX10_addMachine 42 = .ok (.iload_n 2, 1) := by decide +kernel
theorem dX10_addMachine_43 : decode cX10_addMachine 43 = .ok (.putfield 117, 3) := by decide +kernel
theorem dX10_addMachine_46 : decode cX10_addMachine 46 = .ok (.aload_n 0, 1) := by decide +kernel
theorem dX10_addMachine_47 : decode cX10_addMachine 47 = .ok (.dup, 1) := by decide +kernel
theorem dX10_addMachine_48 : decode cX10_addMachine 48 = .ok (.getfield 58, 3) := by decide +kernel
theorem dX10_addMachine_51 : decode cX10_addMachine 51 = .ok (.iconst 1, 1) := by decide +kernel
theorem dX10_addMachine_52 : decode cX10_addMachine 52 = .ok (.iadd, 1) := by decide +kernel
theorem dX10_addMachine_53 : decode cX10_addMachine 53 = .ok (.putfield 58, 3) := by decide +kernel
theorem dX10_addMachine_56 : decode cX10_addMachine 56 = .ok (.aload_n 0, 1) := by decide +kernel
theorem dX10_addMachine_57 : decode cX10_addMachine 57 = .ok (.getfield 58, 3) := by decide +kernel
theorem dX10_addMachine_60 : decode cX10_addMachine 60 = .ok (.iconst 1, 1) := by decide +kernel
theorem dX10_addMachine_61 : decode cX10_addMachine 61 = .ok (.isub, 1) := by decide +kernel
theorem dX10_addMachine_62 : decode cX10_addMachine 62 = .ok (.ireturn, 1) := by decide +kernel
theorem dX10_addPerson_0 : decode cX10_addPerson 0 = .ok (.iload_n 1, 1) := by decide +kernel
theorem dX10_addPerson_1 : decode cX10_addPerson 1 = .ok (.iconst 0, 1) := by decide +kernel
theorem dX10_addPerson_2 : decode cX10_addPerson 2 = .ok (.bipush 99, 2) := by decide +kernel
theorem dX10_addPerson_4 : decode cX10_addPerson 4 = .ok (.invokestatic 81, 3) := by decide +kernel
theorem dX10_addPerson_7 : decode cX10_addPerson 7 = .ok (.iload_n 2, 1) := by decide +kernel
theorem dX10_addPerson_8 : decode cX10_addPerson 8 = .ok (.iconst 1, 1) := by decide +kernel
theorem dX10_addPerson_9 : decode cX10_addPerson 9 = .ok (.bipush 30, 2) := by decide +kernel
theorem dX10_addPerson_11 : decode cX10_addPerson 11 = .ok (.invokestatic 81, 3) := by decide +kernel
theorem dX10_addPerson_14 : decode cX10_addPerson 14 = .ok (.aload_n 0, 1) := by decide +kernel
theorem dX10_addPerson_15 : decode cX10_addPerson 15 = .ok (.getfield 54, 3) := by decide +kernel
theorem dX10_addPerson_18 : decode cX10_addPerson 18 = .ok (.bipush 10, 2) := by decide +kernel
theorem dX10_addPerson_20 : decode cX10_addPerson 20 = .ok (.invokestatic 85, 3) := by decide +kernel
theorem dX10_addPerson_23 : decode cX10_addPerson 23 = .ok (.aload_n 0, 1) := by decide +kernel
theorem dX10_addPerson_24 : decode cX10_addPerson 24 = .ok (.invokevirtual 89, 3) := by decide +kernel
theorem dX10_addPerson_27 : decode cX10_addPerson 27 = .ok (.aload_n 0, 1) := by decide +kernel
theorem dX10_addPerson_28 : decode cX10_addPerson 28 = .ok (.getfield 11, 3) := by decide +kernel
theorem dX10_addPerson_31 : decode cX10_addPerson 31 = .ok (.aload_n 0, 1) := by decide +kernel
theorem dX10_addPerson_32 : decode cX10_addPerson 32 = .ok (.getfield 54, 3) := by decide +kernel
theorem dX10_addPerson_35 : decode cX10_addPerson 35 = .ok (.aaload, 1) := by decide +kernel
theorem dX10_addPerson_36 : decode cX10_addPerson 36 = .ok (.astore_n 3, 1) := by decide +kernel
theorem dX10_addPerson_37 : decode cX10_addPerson 37 = .ok (.aload_n 3, 1) := by decide +kernel
theorem dX10_addPerson_38 : decode cX10_addPerson 38 = .ok (.iload_n 1, 1) := by decide +kernel
theorem dX10_addPerson_39 : decode cX10_addPerson 39 = .ok (.putfield 92, 3) := by decide +kernel
theorem dX10_addPerson_42 : decode cX10_addPerson 42 = .ok (.aload_n 3, 1) := by decide +kernel
theorem dX10_addPerson_43 : decode cX10_addPerson 43 = .ok (.iload_n 2, 1) := by decide +kernel
theorem dX10_addPerson_44 : decode cX10_addPerson 44 = .ok (.putfield 95, 3) := by decide +kernel
theorem dX10_addPerson_47 : decode cX10_addPerson 47 = .ok (.aload_n 3, 1) := by decide +kernel
theorem dX10_addPerson_48 : decode cX10_addPerson 48 = .ok (.iload_n 2, 1) := by decide +kernel
theorem dX10_addPerson_49 : decode cX10_addPerson 49 = .ok (.putfield 98, 3) := by decide +kernel
theorem dX10_addPerson_52 : decode cX10_addPerson 52 = .ok (.aload_n 0, 1) := by decide +kernel
theorem dX10_addPerson_53 : decode cX10_addPerson 53 = .ok (.dup, 1) := by decide +kernel
theorem dX10_addPerson_54 : decode cX10_addPerson 54 = .ok (.getfield 54, 3) := by decide +kernel
theorem dX10_addPerson_57 : decode cX10_addPerson 57 = .ok (.iconst 1, 1) := by decide +kernel
theorem dX10_addPerson_58 : decode cX10_addPerson 58 = .ok (.iadd, 1) := by decide +kernel
theorem dX10_addPerson_59 : decode cX10_addPerson 59 = .ok (.putfield 54, 3) := by decide +kernel
theorem dX10_addPerson_62 : decode cX10_addPerson 62 = .ok (.aload_n 0, 1) := by decide +kernel
theorem dX10_addPerson_63 : decode cX10_addPerson 63 = .ok (.getfield 54, 3) := by decide +kernel
theorem dX10_addPerson_66 : decode cX10_addPerson 66 = .ok (.iconst 1, 1) := by decide +kernel
theorem dX10_addPerson_67 : decode cX10_addPerson 67 = .ok (.isub, 1) := by decide +kernel
theorem dX10_addPerson_68 : decode cX10_addPerson 68 = .ok (.ireturn, 1) := by decide +kernel
theorem dX10_addWork_0 : decode cX10_addWork 0 = .ok (.iload_n 1, 1) := by decide +kernel
theorem dX10_addWork_1 : decode cX10_addWork 1 = .ok (.iconst 1, 1) := by decide +kernel
theorem dX10_addWork_2 : decode cX10_addWork 2 = .ok (.iconst 5, 1) := by decide +kernel
theorem dX10_addWork_3 : decode cX10_addWork 3 = .ok (.invokestatic 81, 3) := by decide +kernel
theorem dX10_addWork_6 : decode cX10_addWork 6 = .ok (.iload_n 2, 1) := by decide +kernel
theorem dX10_addWork_7 : decode cX10_addWork 7 = .ok (.iconst 1, 1) := by decide +kernel
theorem dX10_addWork_8 : decode cX10_addWork 8 = .ok (.bipush 99, 2) := by decide +kernel
theorem dX10_addWork_10 : decode cX10_addWork 10 = .ok (.invokestatic 81, 3) := by decide +kernel
theorem dX10_addWork_13 : decode cX10_addWork 13 = .ok (.aload_n 0, 1) := by decide +kernel
theorem dX10_addWork_14 : decode cX10_addWork 14 = .ok (.getfield 61, 3) := by decide +kernel
theorem dX10_addWork_17 : decode cX10_addWork 17 = .ok (.iconst 3, 1) := by decide +kernel
theorem dX10_addWork_18 : decode cX10_addWork 18 = .ok (.invokestatic 85, 3) := by decide +kernel
theorem dX10_addWork_21 : decode cX10_addWork 21 = .ok (.aload_n 0, 1) := by decide +kernel
theorem dX10_addWork_22 : decode cX10_addWork 22 = .ok (.invokevirtual 89, 3) := by decide +kernel
theorem dX10_addWork_25 : decode cX10_addWork 25 = .ok (.aload_n 0, 1) := by decide +kernel
theorem dX10_addWork_26 : decode cX10_addWork 26 = .ok (.getfield 23, 3) := by decide +kernel
theorem dX10_addWork_29 : decode cX10_addWork 29 = .ok (.aload_n 0, 1) := by decide +kernel
theorem dX10_addWork_30 : decode cX10_addWork 30 = .ok (.getfield 61, 3) := by decide +kernel
theorem dX10_addWork_33 : decode cX10_addWork 33 = .ok (.aaload, 1) := by decide +kernel
theorem dX10_addWork_34 : decode cX10_addWork 34 = .ok (.astore_n 3, 1) := by decide +kernel
theorem dX10_addWork_35 : decode cX10_addWork 35 = .ok (.aload_n 3, 1) := by decide +kernel
theorem dX10_addWork_36 : decode cX10_addWork 36 = .ok (.iload_n 1, 1) := by decide +kernel
theorem dX10_addWork_37 : decode cX10_addWork 37 = .ok (.putfield 132, 3) := by decide +kernel
theorem dX10_addWork_40 : decode cX10_addWork 40 = .ok (.aload_n 3, 1) := by decide +kernel
theorem dX10_addWork_41 : decode cX10_addWork 41 = .ok (.iload_n 2, 1) := by decide +kernel
theorem dX10_addWork_42 : decode cX10_addWork 42 = .ok (.putfield 135, 3) := by decide +kernel
theorem dX10_addWork_45 : decode cX10_addWork 45 = .ok (.aload_n 0, 1) := by decide +kernel
theorem dX10_addWork_46 : decode cX10_addWork 46 = .ok (.dup, 1) := by decide +kernel
theorem dX10_addWork_47 : decode cX10_addWork 47 = .ok (.getfield 61, 3) := by decide +kernel
theorem dX10_addWork_50 : decode cX10_addWork 50 = .ok (.iconst 1, 1) := by decide +kernel
theorem dX10_addWork_51 : decode cX10_addWork 51 = .ok (.iadd, 1) := by decide +kernel
theorem dX10_addWork_52 : decode cX10_addWork 52 = .ok (.putfield 61, 3) := by decide +kernel
theorem dX10_addWork_55 : decode cX10_addWork 55 = .ok (.aload_n 0, 1) := by decide +kernel
theorem dX10_addWork_56 : decode cX10_addWork 56 = .ok (.getfield 61, 3) := by decide +kernel
theorem dX10_addWork_59 : decode cX10_addWork 59 = .ok (.iconst 1, 1) := by decide +kernel
theorem dX10_addWork_60 : decode cX10_addWork 60 = .ok (.isub, 1) := by decide +kernel
theorem dX10_addWork_61 : decode cX10_addWork 61 = .ok (.ireturn, 1) := by decide +kernel
theorem dX10_callOff_0 : decode cX10_callOff 0 = .ok (.aload_n 1, 1) := by decide +kernel
theorem dX10_callOff_1 : decode cX10_callOff 1 = .ok (.getfield 206, 3) := by decide +kernel
theorem dX10_callOff_4 : decode cX10_callOff 4 = .ok (.getstatic 217, 3) := by decide +kernel
theorem dX10_callOff_7 : decode cX10_callOff 7 = .ok (.if_acmp .ne 49, 3) := by decide +kernel
theorem dX10_callOff_56 : decode cX10_callOff 56 = .ok (.return_, 1) := by decide +kernel
theorem dX10_pass_0 : decode cX10_pass 0 = .ok (.iload_n 1, 1) := by decide +kernel
theorem dX10_pass_1 : decode cX10_pass 1 = .ok (.iconst 1, 1) := by decide +kernel
theorem dX10_pass_2 : decode cX10_pass 2 = .ok (.bipush 30, 2) := by decide +kernel
theorem dX10_pass_4 : decode cX10_pass 4 = .ok (.invokestatic 81, 3) := by decide +kernel
theorem dX10_pass_7 : decode cX10_pass 7 = .ok (.aload_n 0, 1) := by decide +kernel
theorem dX10_pass_8 : decode cX10_pass 8 = .ok (.getfield 64, 3) := by decide +kernel
theorem dX10_pass_11 : decode cX10_pass 11 = .ok (.iload_n 1, 1) := by decide +kernel
theorem dX10_pass_12 : decode cX10_pass 12 = .ok (.iadd, 1) := by decide +kernel
theorem dX10_pass_13 : decode cX10_pass 13 = .ok (.iconst 0, 1) := by decide +kernel
theorem dX10_pass_14 : decode cX10_pass 14 = .ok (.bipush 99, 2) := by decide +kernel
theorem dX10_pass_16 : decode cX10_pass 16 = .ok (.invokestatic 81, 3) := by decide +kernel
theorem dX10_pass_19 : decode cX10_pass 19 = .ok (.aload_n 0, 1) := by decide +kernel
theorem dX10_pass_20 : decode cX10_pass 20 = .ok (.invokevirtual 89, 3) := by decide +kernel
theorem dX10_pass_23 : decode cX10_pass 23 = .ok (.aload_n 0, 1) := by decide +kernel
theorem dX10_pass_24 : decode cX10_pass 24 = .ok (.getfield 64, 3) := by decide +kernel
theorem dX10_pass_27 : decode cX10_pass 27 = .ok (.istore_n 2, 1) := by decide +kernel
theorem dX10_pass_28 : decode cX10_pass 28 = .ok (.iload_n 2, 1) := by decide +kernel
theorem dX10_pass_29 : decode cX10_pass 29 = .ok (.aload_n 0, 1) := by decide +kernel
theorem dX10_pass_30 : decode cX10_pass 30 = .ok (.getfield 64, 3) := by decide +kernel
theorem dX10_pass_33 : decode cX10_pass 33 = .ok (.iload_n 1, 1) := by decide +kernel
theorem dX10_pass_34 : decode cX10_pass 34 = .ok (.iadd, 1) := by decide +kernel
theorem dX10_pass_35 : decode cX10_pass 35 = .ok (.if_icmp .ge 19, 3) := by decide +kernel
theorem dX10_pass_38 : decode cX10_pass 38 = .ok (.aload_n 0, 1) := by decide +kernel
theorem dX10_pass_39 : decode cX10_pass 39 = .ok (.aload_n 0, 1) := by decide +kernel
theorem dX10_pass_40 : decode cX10_pass 40 = .ok (.getfield 29, 3) := by decide +kernel
theorem dX10_pass_43 : decode cX10_pass 43 = .ok (.iload_n 2, 1) := by decide +kernel
theorem dX10_pass_44 : decode cX10_pass 44 = .ok (.aaload, 1) := by decide +kernel
theorem dX10_pass_45 : decode cX10_pass 45 = .ok (.invokevirtual 250, 3) := by decide +kernel
theorem dX10_pass_48 : decode cX10_pass 48 = .ok (.iinc 2 1, 3) := by decide +kernel
theorem dX10_pass_51 : decode cX10_pass 51 = .ok (.goto (-23), 3) := by decide +kernel
theorem dX10_pass_54 : decode cX10_pass 54 = .ok (.iconst 0, 1) := by decide +kernel
theorem dX10_pass_55 : decode cX10_pass 55 = .ok (.istore_n 2, 1) := by decide +kernel
theorem dX10_pass_56 : decode cX10_pass 56 = .ok (.iload_n 2, 1) := by decide +kernel
theorem dX10_pass_57 : decode cX10_pass 57 = .ok (.aload_n 0, 1) := by decide +kernel
theorem dX10_pass_58 : decode cX10_pass 58 = .ok (.getfield 54, 3) := by decide +kernel
theorem dX10_pass_61 : decode cX10_pass 61 = .ok (.if_icmp .ge 19, 3) := by decide +kernel
theorem dX10_pass_80 : decode cX10_pass 80 = .ok (.aload_n 0, 1) := by decide +kernel
theorem dX10_pass_81 : decode cX10_pass 81 = .ok (.dup, 1) := by decide +kernel
theorem dX10_pass_82 : decode cX10_pass 82 = .ok (.getfield 64, 3) := by decide +kernel
theorem dX10_pass_85 : decode cX10_pass 85 = .ok (.iload_n 1, 1) := by decide +kernel
theorem dX10_pass_86 : decode cX10_pass 86 = .ok (.iadd, 1) := by decide +kernel
theorem dX10_pass_87 : decode cX10_pass 87 = .ok (.putfield 64, 3) := by decide +kernel
theorem dX10_pass_90 : decode cX10_pass 90 = .ok (.aload_n 0, 1) := by decide +kernel
theorem dX10_pass_91 : decode cX10_pass 91 = .ok (.getfield 64, 3) := by decide +kernel
theorem dX10_pass_94 : decode cX10_pass 94 = .ok (.ireturn, 1) := by decide +kernel
theorem m_128 : (Cond.fieldLink "Theatrehouse" 132 "Theatrehouse$Work" "roles" "I") ∈ lw_all := lw_in 128 (by decide +kernel) (by decide +kernel)
theorem m_130 : (Cond.fieldLink "Theatrehouse" 135 "Theatrehouse$Work" "price" "I") ∈ lw_all := lw_in 130 (by decide +kernel) (by decide +kernel)
theorem m_283 : (Cond.fieldLink "Theatrehouse" 92 "Theatrehouse$Person" "fee" "I") ∈ lw_all := lw_in 283 (by decide +kernel) (by decide +kernel)
theorem m_285 : (Cond.fieldLink "Theatrehouse" 95 "Theatrehouse$Person" "greatestVoice" "I") ∈ lw_all := lw_in 285 (by decide +kernel) (by decide +kernel)
theorem m_287 : (Cond.fieldLink "Theatrehouse" 98 "Theatrehouse$Person" "voice" "I") ∈ lw_all := lw_in 287 (by decide +kernel) (by decide +kernel)
theorem m_313 : (Cond.fieldLink "Theatrehouse" 114 "Theatrehouse$Machine" "zone" "I") ∈ lw_all := lw_in 313 (by decide +kernel) (by decide +kernel)
theorem m_316 : (Cond.fieldLink "Theatrehouse" 117 "Theatrehouse$Machine" "limit" "I") ∈ lw_all := lw_in 316 (by decide +kernel) (by decide +kernel)
theorem m_359 : (Cond.fieldLink "Theatrehouse" 11 "Theatrehouse" "people" "[LTheatrehouse$Person;") ∈ lw_all := lw_in 359 (by decide +kernel) (by decide +kernel)
theorem m_360 : (Cond.fieldLink "Theatrehouse" 17 "Theatrehouse" "machines" "[LTheatrehouse$Machine;") ∈ lw_all := lw_in 360 (by decide +kernel) (by decide +kernel)
theorem m_361 : (Cond.fieldLink "Theatrehouse" 23 "Theatrehouse" "works" "[LTheatrehouse$Work;") ∈ lw_all := lw_in 361 (by decide +kernel) (by decide +kernel)
theorem m_557 : (Cond.methodLink "Theatrehouse" 81 ⟨"Theatrehouse", "requireRange", "(III)V"⟩) ∈ lw_all := lw_in 557 (by decide +kernel) (by decide +kernel)
theorem m_558 : (Cond.static ⟨"Theatrehouse", "requireRange", "(III)V"⟩) ∈ lw_all := lw_in 558 (by decide +kernel) (by decide +kernel)
theorem m_559 : (Cond.code ⟨"Theatrehouse", "requireRange", "(III)V"⟩ prog_1_method_37_code 3 (Option.none : Option Jvm.ClassFile.FieldType)) ∈ lw_all := lw_in 559 (by decide +kernel) (by decide +kernel)
theorem m_632 : (Cond.methodLink "Theatrehouse" 85 ⟨"Theatrehouse", "requireRoom", "(II)V"⟩) ∈ lw_all := lw_in 632 (by decide +kernel) (by decide +kernel)
theorem m_633 : (Cond.static ⟨"Theatrehouse", "requireRoom", "(II)V"⟩) ∈ lw_all := lw_in 633 (by decide +kernel) (by decide +kernel)
theorem m_634 : (Cond.code ⟨"Theatrehouse", "requireRoom", "(II)V"⟩ prog_1_method_38_code 2 (Option.none : Option Jvm.ClassFile.FieldType)) ∈ lw_all := lw_in 634 (by decide +kernel) (by decide +kernel)
theorem m_859 : (Cond.methodLink "Theatrehouse" 250 ⟨"Theatrehouse", "callOff", "(LTheatrehouse$Evening;)V"⟩) ∈ lw_all := lw_in 859 (by decide +kernel) (by decide +kernel)
theorem m_861 : (Cond.instanceMethod ⟨"Theatrehouse", "callOff", "(LTheatrehouse$Evening;)V"⟩) ∈ lw_all := lw_in 861 (by decide +kernel) (by decide +kernel)
theorem m_862 : (Cond.code ⟨"Theatrehouse", "callOff", "(LTheatrehouse$Evening;)V"⟩ prog_1_method_53_code 2 (Option.none : Option Jvm.ClassFile.FieldType)) ∈ lw_all := lw_in 862 (by decide +kernel) (by decide +kernel)
theorem mp_18 : (Cond.selects "Theatrehouse" ⟨"Theatrehouse", "callOff", "(LTheatrehouse$Evening;)V"⟩ ⟨"Theatrehouse", "callOff", "(LTheatrehouse$Evening;)V"⟩) ∈ lw_all := lw_inp 18 (by decide +kernel) (by decide +kernel)
set_option maxHeartbeats 4000000 in
set_option maxRecDepth 100000 in
theorem c_X10_addPerson_b1 (l : Launch) (hfl : l.stackTraces = false) (z0 : Nat) (D : va_G) (g : Nat → Nat) (x a0 a1 a2 a3 a4 a5 a6 : Nat) (p0 : Int32) (p1 : Int32) (h : p0 < 0 ∨ ¬ p0 ≤ 99) : vx_Met l yX10_addPerson (wsp yX10_addPerson cX10_addPerson 4 (some .int)) ({ frames := 7, cells := 1, slots := 6, locals := 104 }) (va_Pc [.ref x, .int p0, .int p1] (PR z0 D g [(x, .inr (0, [.ref a0, .ref a1, .ref a2, .ref a3, .ref a4, .ref a5, .ref a6, .int 0, .int 0, .int 0, .int 0, .int 0, .int 0, .int 0]))])) (va_Qi (fun (r : Int32) (_ : Unit) => False) (fun _ _ => True) nA) (xE "java/lang/IllegalArgumentException") 1 6 nA := by
  refine vx_ofW (cc := cX10_addPerson) (maxL := 4) (ret := (some .int)) (by decide) rfl ?_
  intro p e s m args below meth c s₁ B hml htb hv
  obtain ⟨rfl, hE, hP⟩ := hv
  have hx := B.exec
  have hb := B.bytes
  have hr := B.returns
  have hts0 := atoms_spec (ws := (wsp yX10_addPerson cX10_addPerson 4 (some .int))) B.pre
  have hts : ∀ w ∈ lw_all, w.before _ s = true := fun w h => hts0 w (List.mem_cons_of_mem _ h)
  have hown : s.vm.findClass "Theatrehouse" = some m.cls := findClass_of_methodNamed B.named
  have hlocks := B.notSynchronized
  have hK := hE.K
  have hS : va_S nA s.heap s.heap [] := va_S.rf
  have hP : va_P D classes [(x, .inr (0, [.ref a0, .ref a1, .ref a2, .ref a3, .ref a4, .ref a5, .ref a6, .int 0, .int 0, .int 0, .int 0, .int 0, .int 0, .int 0]))] s.heap := hP
  have hl := lv_entry ([.ref x, .int p0, .int p1]) (n := 4) (Nat.le_of_ble_eq_true rfl)
  rw [lg_entry_eq]
  generalize (lg_sl ([.ref x, .int p0, .int p1]) ++ List.replicate (4 - (lg_sl ([.ref x, .int p0, .int p1])).length) Slot.unset).toArray = ls at hl ⊢
  have hl : lv_has ls 4 [(0, .ref x), (1, .int p0), (2, .int p1)] := hl
  refine lv_iload_n hx hb dX10_addPerson_0 rfl (lv_at hl 1 rfl) ?_
  refine lv_iconst (v := 0) hx hb dX10_addPerson_1 (by decide) ?_
  refine lv_bipush (v := 99) hx hb dX10_addPerson_2 (by decide) ?_
  exact vx_callv (vx_runS (As := [.int p0, .int 0, .int 99]) (rest := []) ⟨hx, hb, hml, hown, hts⟩ (c_X10_requireRange_bad l hfl z0 D g p0 0 99 h) (va_cwS 3 hts (lw_S m_557 m_558 m_1 m_559) rfl rfl rfl (by decide +kernel) ⟨(Nat.le_of_ble_eq_true rfl), (Nat.le_of_ble_eq_true rfl)⟩) ⟨PR.blind, PR.pre hE hS nA_z va_nil⟩ rfl rfl hl.1 rfl (lv_room (Nat.le_of_ble_eq_true rfl)) dX10_addPerson_4 ⟨(Nat.le_of_ble_eq_true rfl), (Nat.le_of_ble_eq_true rfl)⟩) hS nA_B nA_A nA_B (fun E ce q9 u t H locs ht hvm _ hBX hz1 hk1 hS hce hcv hcl => by subst hBX; exact vx_out (fun x h => (htb x h).elim) hlocks hce hcv hcl (fun t2 ht2 _ => xE.of2 hS ht2) hS.2.2 (Nat.le_of_ble_eq_true rfl) (Nat.le_of_ble_eq_true rfl)) (fun u t H locs ht hvm hw _ _ _ _ => hw.elim)

set_option maxHeartbeats 4000000 in
set_option maxRecDepth 100000 in
theorem c_X10_addPerson_b2 (l : Launch) (hfl : l.stackTraces = false) (z0 : Nat) (D : va_G) (g : Nat → Nat) (x a0 a1 a2 a3 a4 a5 a6 : Nat) (p0 : Int32) (p1 : Int32) (h1 : ¬ p0 < 0) (h2 : p0 ≤ 99) (h : p1 < 1 ∨ ¬ p1 ≤ 30) : vx_Met l yX10_addPerson (wsp yX10_addPerson cX10_addPerson 4 (some .int)) ({ frames := 7, cells := 1, slots := 6, locals := 104 }) (va_Pc [.ref x, .int p0, .int p1] (PR z0 D g [(x, .inr (0, [.ref a0, .ref a1, .ref a2, .ref a3, .ref a4, .ref a5, .ref a6, .int 0, .int 0, .int 0, .int 0, .int 0, .int 0, .int 0]))])) (va_Qi (fun (r : Int32) (_ : Unit) => False) (fun _ _ => True) nA) (xE "java/lang/IllegalArgumentException") 1 6 nA := by
  refine vx_ofW (cc := cX10_addPerson) (maxL := 4) (ret := (some .int)) (by decide) rfl ?_
  intro p e s m args below meth c s₁ B hml htb hv
  obtain ⟨rfl, hE, hP⟩ := hv
  have hx := B.exec
  have hb := B.bytes
  have hr := B.returns
  have hts0 := atoms_spec (ws := (wsp yX10_addPerson cX10_addPerson 4 (some .int))) B.pre
  have hts : ∀ w ∈ lw_all, w.before _ s = true := fun w h => hts0 w (List.mem_cons_of_mem _ h)
  have hown : s.vm.findClass "Theatrehouse" = some m.cls := findClass_of_methodNamed B.named
  have hlocks := B.notSynchronized
  have hK := hE.K
  have hS : va_S nA s.heap s.heap [] := va_S.rf
  have hP : va_P D classes [(x, .inr (0, [.ref a0, .ref a1, .ref a2, .ref a3, .ref a4, .ref a5, .ref a6, .int 0, .int 0, .int 0, .int 0, .int 0, .int 0, .int 0]))] s.heap := hP
  have hl := lv_entry ([.ref x, .int p0, .int p1]) (n := 4) (Nat.le_of_ble_eq_true rfl)
  rw [lg_entry_eq]
  generalize (lg_sl ([.ref x, .int p0, .int p1]) ++ List.replicate (4 - (lg_sl ([.ref x, .int p0, .int p1])).length) Slot.unset).toArray = ls at hl ⊢
  have hl : lv_has ls 4 [(0, .ref x), (1, .int p0), (2, .int p1)] := hl
  refine lv_iload_n hx hb dX10_addPerson_0 rfl (lv_at hl 1 rfl) ?_
  refine lv_iconst (v := 0) hx hb dX10_addPerson_1 (by decide) ?_
  refine lv_bipush (v := 99) hx hb dX10_addPerson_2 (by decide) ?_
  refine va_callv (va_runS (As := [.int p0, .int 0, .int 99]) (rest := []) ⟨hx, hb, hml, hown, hts⟩ (c_X10_requireRange_ok l z0 D g p0 0 99 h1 h2) (va_cwS 3 hts (lw_S m_557 m_558 m_1 m_559) rfl rfl rfl (by decide +kernel) ⟨(Nat.le_of_ble_eq_true rfl), (Nat.le_of_ble_eq_true rfl)⟩) ⟨PR.blind, PR.pre hE hS nA_z va_nil⟩ rfl rfl hl.1 rfl (lv_room (Nat.le_of_ble_eq_true rfl)) dX10_addPerson_4 ⟨(Nat.le_of_ble_eq_true rfl), (Nat.le_of_ble_eq_true rfl)⟩) hS nA_B nA_A (fun u_3 t H locs ht hvm hw hB hz1 hk1 hS => ?_)
  have hP := hP.old hk1
  have hP : va_P D classes [(x, .inr (0, [.ref a0, .ref a1, .ref a2, .ref a3, .ref a4, .ref a5, .ref a6, .int 0, .int 0, .int 0, .int 0, .int 0, .int 0, .int 0]))] H := hP
  refine lv_iload_n hx hb dX10_addPerson_7 rfl (lv_at hl 2 rfl) ?_
  refine lv_iconst (v := 1) hx hb dX10_addPerson_8 (by decide) ?_
  refine lv_bipush (v := 30) hx hb dX10_addPerson_9 (by decide) ?_
  exact vx_callv (vx_runS (As := [.int p1, .int 1, .int 30]) (rest := []) ⟨hx, hb, hml, hown, hts⟩ (c_X10_requireRange_bad l hfl z0 D g p1 1 30 h) (va_cwS 3 hts (lw_S m_557 m_558 m_1 m_559) rfl rfl rfl (by decide +kernel) ⟨(Nat.le_of_ble_eq_true rfl), (Nat.le_of_ble_eq_true rfl)⟩) ⟨PR.blind, PR.pre hE hS nA_z va_nil⟩ rfl rfl hl.1 rfl (lv_room (Nat.le_of_ble_eq_true rfl)) dX10_addPerson_11 ⟨(Nat.le_of_ble_eq_true rfl), (Nat.le_of_ble_eq_true rfl)⟩) hS nA_B nA_A nA_B (fun E ce q9 u t H locs ht hvm _ hBX hz1 hk1 hS hce hcv hcl => by subst hBX; exact vx_out (fun x h => (htb x h).elim) hlocks hce hcv hcl (fun t2 ht2 _ => xE.of2 hS ht2) hS.2.2 (Nat.le_of_ble_eq_true rfl) (Nat.le_of_ble_eq_true rfl)) (fun u t H locs ht hvm hw _ _ _ _ => hw.elim)

set_option maxHeartbeats 4000000 in
set_option maxRecDepth 100000 in
theorem c_X10_addPerson_ok (l : Launch) (z0 : Nat) (D : va_G) (g : Nat → Nat) (sz : Nat) (x a0 a1 a2 a3 a4 a5 a6 : Nat) (cA : ClassId) (F : Nat → Option Nat) (pp : Nat) (p0 : Int32) (p1 : Int32) (hF : F 0 = some pp) (h1 : ¬ p0 < 0) (h2 : p0 ≤ 99) (h3 : ¬ p1 < 1) (h4 : p1 ≤ 30) : Met l yX10_addPerson (wsp yX10_addPerson cX10_addPerson 4 (some .int)) ({ frames := 1, cells := 0, slots := 0, locals := 22 }) (va_Pc [.ref x, .int p0, .int p1] (PMT z0 D g [(cA, .object "Theatrehouse$Person")] sz [(x, .inr (0, [.ref a0, .ref a1, .ref a2, .ref a3, .ref a4, .ref a5, .ref a6, .int 0, .int 0, .int 0, .int 0, .int 0, .int 0, .int 0])), (a0, .inl (cA, 10, .inr (.inr (.inr (.inr F))))), (pp, .inr (1, [.int 0, .int 0, .int 0, .int 0, .int (-1), .int (-1)]))] (fun _ => True))) (va_Qi (fun (r : Int32) (_ : Unit) => r = 0) (fun _ _ => True) (va_A [(x, .inr (0, [.ref a0, .ref a1, .ref a2, .ref a3, .ref a4, .ref a5, .ref a6, .int 0, .int 0, .int 0, .int 0, .int 0, .int 0, .int 0])), (a0, .inl (cA, 10, .inr (.inr (.inr (.inr F))))), (pp, .inr (1, [.int 0, .int 0, .int 0, .int 0, .int (-1), .int (-1)]))] sz)) 0 0 (va_A [(x, .inr (0, [.ref a0, .ref a1, .ref a2, .ref a3, .ref a4, .ref a5, .ref a6, .int 0, .int 0, .int 0, .int 0, .int 0, .int 0, .int 0])), (a0, .inl (cA, 10, .inr (.inr (.inr (.inr F))))), (pp, .inr (1, [.int 0, .int 0, .int 0, .int 0, .int (-1), .int (-1)]))] sz) := by
  refine Met.ofW (cc := cX10_addPerson) (maxL := 4) (ret := (some .int)) (by decide) rfl ?_
  intro p e s m args below meth c s₁ B hml hv
  obtain ⟨rfl, ⟨hsz9, hz0, hE, hP, hD0⟩, hK, hC⟩ := hv
  have hx := B.exec
  have hb := B.bytes
  have hr := B.returns
  have hts0 := atoms_spec (ws := (wsp yX10_addPerson cX10_addPerson 4 (some .int))) B.pre
  have hts : ∀ w ∈ lw_all, w.before _ s = true := fun w h => hts0 w (List.mem_cons_of_mem _ h)
  have hown : s.vm.findClass "Theatrehouse" = some m.cls := findClass_of_methodNamed B.named
  have hlocks := B.notSynchronized
  subst hsz9
  have hsz := hz0
  have hAz : ∀ q, va_A [(x, .inr (0, [.ref a0, .ref a1, .ref a2, .ref a3, .ref a4, .ref a5, .ref a6, .int 0, .int 0, .int 0, .int 0, .int 0, .int 0, .int 0])), (a0, .inl (cA, 10, .inr (.inr (.inr (.inr F))))), (pp, .inr (1, [.int 0, .int 0, .int 0, .int 0, .int (-1), .int (-1)]))] s.heap.size q → z0 ≤ q := vaA_z hz0 hD0
  have hD := hD0.self (sz := s.heap.size)
  generalize hAe : va_A [(x, .inr (0, [.ref a0, .ref a1, .ref a2, .ref a3, .ref a4, .ref a5, .ref a6, .int 0, .int 0, .int 0, .int 0, .int 0, .int 0, .int 0])), (a0, .inl (cA, 10, .inr (.inr (.inr (.inr F))))), (pp, .inr (1, [.int 0, .int 0, .int 0, .int 0, .int (-1), .int (-1)]))] s.heap.size = A at hD hAz ⊢
  have hA : ∀ q : Nat, s.heap.size ≤ q → A q := fun q h => by rw [← hAe]; exact Or.inr h
  have hS : va_S A s.heap s.heap [] := va_S.rf
  have hP : va_P D classes [(x, .inr (0, [.ref a0, .ref a1, .ref a2, .ref a3, .ref a4, .ref a5, .ref a6, .int 0, .int 0, .int 0, .int 0, .int 0, .int 0, .int 0])), (a0, .inl (cA, 10, .inr (.inr (.inr (.inr F))))), (pp, .inr (1, [.int 0, .int 0, .int 0, .int 0, .int (-1), .int (-1)]))] s.heap := hP
  have hl := lv_entry ([.ref x, .int p0, .int p1]) (n := 4) (Nat.le_of_ble_eq_true rfl)
  rw [lg_entry_eq]
  generalize (lg_sl ([.ref x, .int p0, .int p1]) ++ List.replicate (4 - (lg_sl ([.ref x, .int p0, .int p1])).length) Slot.unset).toArray = ls at hl ⊢
  have hl : lv_has ls 4 [(0, .ref x), (1, .int p0), (2, .int p1)] := hl
  refine lv_iload_n hx hb dX10_addPerson_0 rfl (lv_at hl 1 rfl) ?_
  refine lv_iconst (v := 0) hx hb dX10_addPerson_1 (by decide) ?_
  refine lv_bipush (v := 99) hx hb dX10_addPerson_2 (by decide) ?_
  refine va_callv (va_runS (As := [.int p0, .int 0, .int 99]) (rest := []) ⟨hx, hb, hml, hown, hts⟩ (c_X10_requireRange_ok l z0 D g p0 0 99 h1 h2) (va_cwS 3 hts (lw_S m_557 m_558 m_1 m_559) rfl rfl rfl (by decide +kernel) ⟨(Nat.le_of_ble_eq_true rfl), (Nat.le_of_ble_eq_true rfl)⟩) ⟨PR.blind, PR.pre hE hS hAz va_nil⟩ rfl rfl hl.1 rfl (lv_room (Nat.le_of_ble_eq_true rfl)) dX10_addPerson_4 ⟨(Nat.le_of_ble_eq_true rfl), (Nat.le_of_ble_eq_true rfl)⟩) hS nA_B nA_A (fun u_3 t H locs ht hvm hw hB hz1 hk1 hS => ?_)
  have hP := hP.old hk1
  have hP : va_P D classes [(x, .inr (0, [.ref a0, .ref a1, .ref a2, .ref a3, .ref a4, .ref a5, .ref a6, .int 0, .int 0, .int 0, .int 0, .int 0, .int 0, .int 0])), (a0, .inl (cA, 10, .inr (.inr (.inr (.inr F))))), (pp, .inr (1, [.int 0, .int 0, .int 0, .int 0, .int (-1), .int (-1)]))] H := hP
  refine lv_iload_n hx hb dX10_addPerson_7 rfl (lv_at hl 2 rfl) ?_
  refine lv_iconst (v := 1) hx hb dX10_addPerson_8 (by decide) ?_
  refine lv_bipush (v := 30) hx hb dX10_addPerson_9 (by decide) ?_
  refine va_callv (va_runS (As := [.int p1, .int 1, .int 30]) (rest := []) ⟨hx, hb, hml, hown, hts⟩ (c_X10_requireRange_ok l z0 D g p1 1 30 h3 h4) (va_cwS 3 hts (lw_S m_557 m_558 m_1 m_559) rfl rfl rfl (by decide +kernel) ⟨(Nat.le_of_ble_eq_true rfl), (Nat.le_of_ble_eq_true rfl)⟩) ⟨PR.blind, PR.pre hE hS hAz va_nil⟩ rfl rfl hl.1 rfl (lv_room (Nat.le_of_ble_eq_true rfl)) dX10_addPerson_11 ⟨(Nat.le_of_ble_eq_true rfl), (Nat.le_of_ble_eq_true rfl)⟩) hS nA_B nA_A (fun u_6 t H locs ht hvm hw hB hz1 hk1 hS => ?_)
  have hP := hP.old hk1
  have hP : va_P D classes [(x, .inr (0, [.ref a0, .ref a1, .ref a2, .ref a3, .ref a4, .ref a5, .ref a6, .int 0, .int 0, .int 0, .int 0, .int 0, .int 0, .int 0])), (a0, .inl (cA, 10, .inr (.inr (.inr (.inr F))))), (pp, .inr (1, [.int 0, .int 0, .int 0, .int 0, .int (-1), .int (-1)]))] H := hP
  refine lv_aload_n hx hb dX10_addPerson_14 rfl (lv_at hl 0 rfl) ?_
  refine va_get (D := D) (ci := 0) (v := .int 0) (C := RX10) (T := TX10) (N := 14) hx hb hts i_X10 hown hK hP 0 rfl rfl 7 (by decide) (hts _ m_366) (fun _ h9 => h9) rfl dX10_addPerson_15 ?_
  refine lv_bipush (v := 10) hx hb dX10_addPerson_18 (by decide) ?_
  refine va_callv (va_runS (As := [.int 0, .int 10]) (rest := []) ⟨hx, hb, hml, hown, hts⟩ (c_X10_requireRoom_ok l z0 D g 0 10 (by decide)) (va_cwS 2 hts (lw_S m_632 m_633 m_1 m_634) rfl rfl rfl (by decide +kernel) ⟨(Nat.le_of_ble_eq_true rfl), (Nat.le_of_ble_eq_true rfl)⟩) ⟨PR.blind, PR.pre hE hS hAz va_nil⟩ rfl rfl hl.1 rfl (lv_room (Nat.le_of_ble_eq_true rfl)) dX10_addPerson_20 ⟨(Nat.le_of_ble_eq_true rfl), (Nat.le_of_ble_eq_true rfl)⟩) hS nA_B nA_A (fun u_9 t H locs ht hvm hw hB hz1 hk1 hS => ?_)
  have hP := hP.old hk1
  have hP : va_P D classes [(x, .inr (0, [.ref a0, .ref a1, .ref a2, .ref a3, .ref a4, .ref a5, .ref a6, .int 0, .int 0, .int 0, .int 0, .int 0, .int 0, .int 0])), (a0, .inl (cA, 10, .inr (.inr (.inr (.inr F))))), (pp, .inr (1, [.int 0, .int 0, .int 0, .int 0, .int (-1), .int (-1)]))] H := hP
  refine lv_aload_n hx hb dX10_addPerson_23 rfl (lv_at hl 0 rfl) ?_
  have hc_10 := hP.sub (ws' := [(x, .inr (0, [.ref a0, .ref a1, .ref a2, .ref a3, .ref a4, .ref a5, .ref a6, .int 0, .int 0, .int 0, .int 0, .int 0, .int 0, .int 0]))]) [0] rfl
  refine va_callv (va_runV (As := []) (rest := []) ⟨hx, hb, hml, hown, hts⟩ (c_X10_requireNoShow l z0 D g x a0 a1 a2 a3 a4 a5 a6) (cwV 0 hts (lw_V m_651 m_653 mp_10 m_1 m_654) rfl rfl rfl (by decide +kernel) ⟨(Nat.le_of_ble_eq_true rfl), (Nat.le_of_ble_eq_true rfl)⟩) ⟨PR.blind, va_recv hK hP (ci := 0) (q0 := 0) rfl rfl, PR.pre hE hS hAz hc_10⟩ rfl rfl hl.1 rfl (lv_room (Nat.le_of_ble_eq_true rfl)) dX10_addPerson_24 ⟨(Nat.le_of_ble_eq_true rfl), (Nat.le_of_ble_eq_true rfl)⟩) hS nA_B nA_A (fun u_12 t H locs ht hvm hw hB hz1 hk1 hS => ?_)
  have hP := hP.old hk1
  have hP : va_P D classes [(x, .inr (0, [.ref a0, .ref a1, .ref a2, .ref a3, .ref a4, .ref a5, .ref a6, .int 0, .int 0, .int 0, .int 0, .int 0, .int 0, .int 0])), (a0, .inl (cA, 10, .inr (.inr (.inr (.inr F))))), (pp, .inr (1, [.int 0, .int 0, .int 0, .int 0, .int (-1), .int (-1)]))] H := hP
  refine lv_aload_n hx hb dX10_addPerson_27 rfl (lv_at hl 0 rfl) ?_
  refine va_get (D := D) (ci := 0) (v := .ref a0) (C := RX10) (T := TX10) (N := 14) hx hb hts i_X10 hown hK hP 0 rfl rfl 0 (by decide) (hts _ m_359) (fun _ h9 => h9) rfl dX10_addPerson_28 ?_
  refine lv_aload_n hx hb dX10_addPerson_31 rfl (lv_at hl 0 rfl) ?_
  refine va_get (D := D) (ci := 0) (v := .int 0) (C := RX10) (T := TX10) (N := 14) hx hb hts i_X10 hown hK hP 0 rfl rfl 7 (by decide) (hts _ m_366) (fun _ h9 => h9) rfl dX10_addPerson_32 ?_
  refine va_aldq (i := 0) hx hb hK hP 1 0 rfl rfl (by unfold vp_in; decide) dX10_addPerson_35 ?_
  rw [show F (Int32.toNatClampNeg 0) = some pp from hF]
  refine W.eq (g2 := F0 m 36 ls [.ref pp]) rfl ?_
  refine lv_astore_n (lv' := [(3, .ref pp), (0, .ref x), (1, .int p0), (2, .int p1)]) hx hb dX10_addPerson_36 rfl hl (by decide) rfl (fun ls hl => ?_)
  refine lv_aload_n hx hb dX10_addPerson_37 rfl (lv_at hl 0 rfl) ?_
  refine lv_iload_n hx hb dX10_addPerson_38 rfl (lv_at hl 2 rfl) ?_
  refine va_put (D := D) (ci := 1) (v := .int p0) (ty := .int) (C := RX4) (T := TX4) (N := 6) hx hb hts i_X4 tyX4 tyX4_ok nmX4 hown hK hP hD hS 2 rfl rfl 0 (by decide) (hts _ m_283) (fun _ h9 => h9) rfl (by decide +kernel) rfl rfl (Nat.le_of_ble_eq_true rfl) dX10_addPerson_39 (fun H locs hP hD hS => ?_)
  have hP : va_P D classes [(x, .inr (0, [.ref a0, .ref a1, .ref a2, .ref a3, .ref a4, .ref a5, .ref a6, .int 0, .int 0, .int 0, .int 0, .int 0, .int 0, .int 0])), (a0, .inl (cA, 10, .inr (.inr (.inr (.inr F))))), (pp, .inr (1, [.int p0, .int 0, .int 0, .int 0, .int (-1), .int (-1)]))] H := hP
  have hD : va_D A [(x, .inr (0, [.ref a0, .ref a1, .ref a2, .ref a3, .ref a4, .ref a5, .ref a6, .int 0, .int 0, .int 0, .int 0, .int 0, .int 0, .int 0])), (a0, .inl (cA, 10, .inr (.inr (.inr (.inr F))))), (pp, .inr (1, [.int p0, .int 0, .int 0, .int 0, .int (-1), .int (-1)]))] := hD
  refine lv_aload_n hx hb dX10_addPerson_42 rfl (lv_at hl 0 rfl) ?_
  refine lv_iload_n hx hb dX10_addPerson_43 rfl (lv_at hl 3 rfl) ?_
  refine va_put (D := D) (ci := 1) (v := .int p1) (ty := .int) (C := RX4) (T := TX4) (N := 6) hx hb hts i_X4 tyX4 tyX4_ok nmX4 hown hK hP hD hS 2 rfl rfl 1 (by decide) (hts _ m_285) (fun _ h9 => h9) rfl (by decide +kernel) rfl rfl (Nat.le_of_ble_eq_true rfl) dX10_addPerson_44 (fun H locs hP hD hS => ?_)
  have hP : va_P D classes [(x, .inr (0, [.ref a0, .ref a1, .ref a2, .ref a3, .ref a4, .ref a5, .ref a6, .int 0, .int 0, .int 0, .int 0, .int 0, .int 0, .int 0])), (a0, .inl (cA, 10, .inr (.inr (.inr (.inr F))))), (pp, .inr (1, [.int p0, .int p1, .int 0, .int 0, .int (-1), .int (-1)]))] H := hP
  have hD : va_D A [(x, .inr (0, [.ref a0, .ref a1, .ref a2, .ref a3, .ref a4, .ref a5, .ref a6, .int 0, .int 0, .int 0, .int 0, .int 0, .int 0, .int 0])), (a0, .inl (cA, 10, .inr (.inr (.inr (.inr F))))), (pp, .inr (1, [.int p0, .int p1, .int 0, .int 0, .int (-1), .int (-1)]))] := hD
  refine lv_aload_n hx hb dX10_addPerson_47 rfl (lv_at hl 0 rfl) ?_
  refine lv_iload_n hx hb dX10_addPerson_48 rfl (lv_at hl 3 rfl) ?_
  refine va_put (D := D) (ci := 1) (v := .int p1) (ty := .int) (C := RX4) (T := TX4) (N := 6) hx hb hts i_X4 tyX4 tyX4_ok nmX4 hown hK hP hD hS 2 rfl rfl 2 (by decide) (hts _ m_287) (fun _ h9 => h9) rfl (by decide +kernel) rfl rfl (Nat.le_of_ble_eq_true rfl) dX10_addPerson_49 (fun H locs hP hD hS => ?_)
  have hP : va_P D classes [(x, .inr (0, [.ref a0, .ref a1, .ref a2, .ref a3, .ref a4, .ref a5, .ref a6, .int 0, .int 0, .int 0, .int 0, .int 0, .int 0, .int 0])), (a0, .inl (cA, 10, .inr (.inr (.inr (.inr F))))), (pp, .inr (1, [.int p0, .int p1, .int p1, .int 0, .int (-1), .int (-1)]))] H := hP
  have hD : va_D A [(x, .inr (0, [.ref a0, .ref a1, .ref a2, .ref a3, .ref a4, .ref a5, .ref a6, .int 0, .int 0, .int 0, .int 0, .int 0, .int 0, .int 0])), (a0, .inl (cA, 10, .inr (.inr (.inr (.inr F))))), (pp, .inr (1, [.int p0, .int p1, .int p1, .int 0, .int (-1), .int (-1)]))] := hD
  refine lv_aload_n hx hb dX10_addPerson_52 rfl (lv_at hl 1 rfl) ?_
  refine lv_dup hx hb dX10_addPerson_53 rfl ?_
  refine va_get (D := D) (ci := 0) (v := .int 0) (C := RX10) (T := TX10) (N := 14) hx hb hts i_X10 hown hK hP 0 rfl rfl 7 (by decide) (hts _ m_366) (fun _ h9 => h9) rfl dX10_addPerson_54 ?_
  refine lv_iconst (v := 1) hx hb dX10_addPerson_57 (by decide) ?_
  refine lv_iadd hx hb dX10_addPerson_58 ?_
  rw [show (0 + 1 : Int32) = 1 by decide]
  refine va_put (D := D) (ci := 0) (v := .int 1) (ty := .int) (C := RX10) (T := TX10) (N := 14) hx hb hts i_X10 tyX10 tyX10_ok nmX10 hown hK hP hD hS 0 rfl rfl 7 (by decide) (hts _ m_366) (fun _ h9 => h9) rfl (by decide +kernel) rfl rfl (Nat.le_of_ble_eq_true rfl) dX10_addPerson_59 (fun H locs hP hD hS => ?_)
  have hP : va_P D classes [(x, .inr (0, [.ref a0, .ref a1, .ref a2, .ref a3, .ref a4, .ref a5, .ref a6, .int 1, .int 0, .int 0, .int 0, .int 0, .int 0, .int 0])), (a0, .inl (cA, 10, .inr (.inr (.inr (.inr F))))), (pp, .inr (1, [.int p0, .int p1, .int p1, .int 0, .int (-1), .int (-1)]))] H := hP
  have hD : va_D A [(x, .inr (0, [.ref a0, .ref a1, .ref a2, .ref a3, .ref a4, .ref a5, .ref a6, .int 1, .int 0, .int 0, .int 0, .int 0, .int 0, .int 0])), (a0, .inl (cA, 10, .inr (.inr (.inr (.inr F))))), (pp, .inr (1, [.int p0, .int p1, .int p1, .int 0, .int (-1), .int (-1)]))] := hD
  refine lv_aload_n hx hb dX10_addPerson_62 rfl (lv_at hl 1 rfl) ?_
  refine va_get (D := D) (ci := 0) (v := .int 1) (C := RX10) (T := TX10) (N := 14) hx hb hts i_X10 hown hK hP 0 rfl rfl 7 (by decide) (hts _ m_366) (fun _ h9 => h9) rfl dX10_addPerson_63 ?_
  refine lv_iconst (v := 1) hx hb dX10_addPerson_66 (by decide) ?_
  refine lv_isub hx hb dX10_addPerson_67 ?_
  rw [show (1 - 1 : Int32) = 0 by decide]
  refine W.widen (k := 0) (n := 0) (Nat.le_of_ble_eq_true rfl) (Nat.le_of_ble_eq_true rfl) ?_
  exact W.iret (v := 0) hx hb hr (fun t ht hW => ⟨⟨0, (), rfl, rfl, trivial⟩, hS.F ht⟩) hS.2.2 dX10_addPerson_68

set_option maxHeartbeats 4000000 in
set_option maxRecDepth 100000 in
theorem c_X10_addMachine_b1 (l : Launch) (hfl : l.stackTraces = false) (z0 : Nat) (D : va_G) (g : Nat → Nat) (x a0 a1 a2 a3 a4 a5 a6 : Nat) (p0 : Int32) (p1 : Int32) (h : p0 < 0 ∨ ¬ p0 ≤ 4) : vx_Met l yX10_addMachine (wsp yX10_addMachine cX10_addMachine 4 (some .int)) ({ frames := 7, cells := 1, slots := 6, locals := 104 }) (va_Pc [.ref x, .int p0, .int p1] (PR z0 D g [(x, .inr (0, [.ref a0, .ref a1, .ref a2, .ref a3, .ref a4, .ref a5, .ref a6, .int 0, .int 0, .int 0, .int 0, .int 0, .int 0, .int 0]))])) (va_Qi (fun (r : Int32) (_ : Unit) => False) (fun _ _ => True) nA) (xE "java/lang/IllegalArgumentException") 1 6 nA := by
  refine vx_ofW (cc := cX10_addMachine) (maxL := 4) (ret := (some .int)) (by decide) rfl ?_
  intro p e s m args below meth c s₁ B hml htb hv
  obtain ⟨rfl, hE, hP⟩ := hv
  have hx := B.exec
  have hb := B.bytes
  have hr := B.returns
  have hts0 := atoms_spec (ws := (wsp yX10_addMachine cX10_addMachine 4 (some .int))) B.pre
  have hts : ∀ w ∈ lw_all, w.before _ s = true := fun w h => hts0 w (List.mem_cons_of_mem _ h)
  have hown : s.vm.findClass "Theatrehouse" = some m.cls := findClass_of_methodNamed B.named
  have hlocks := B.notSynchronized
  have hK := hE.K
  have hS : va_S nA s.heap s.heap [] := va_S.rf
  have hP : va_P D classes [(x, .inr (0, [.ref a0, .ref a1, .ref a2, .ref a3, .ref a4, .ref a5, .ref a6, .int 0, .int 0, .int 0, .int 0, .int 0, .int 0, .int 0]))] s.heap := hP
  have hl := lv_entry ([.ref x, .int p0, .int p1]) (n := 4) (Nat.le_of_ble_eq_true rfl)
  rw [lg_entry_eq]
  generalize (lg_sl ([.ref x, .int p0, .int p1]) ++ List.replicate (4 - (lg_sl ([.ref x, .int p0, .int p1])).length) Slot.unset).toArray = ls at hl ⊢
  have hl : lv_has ls 4 [(0, .ref x), (1, .int p0), (2, .int p1)] := hl
  refine lv_iload_n hx hb dX10_addMachine_0 rfl (lv_at hl 1 rfl) ?_
  refine lv_iconst (v := 0) hx hb dX10_addMachine_1 (by decide) ?_
  refine lv_iconst (v := 4) hx hb dX10_addMachine_2 (by decide) ?_
  exact vx_callv (vx_runS (As := [.int p0, .int 0, .int 4]) (rest := []) ⟨hx, hb, hml, hown, hts⟩ (c_X10_requireRange_bad l hfl z0 D g p0 0 4 h) (va_cwS 3 hts (lw_S m_557 m_558 m_1 m_559) rfl rfl rfl (by decide +kernel) ⟨(Nat.le_of_ble_eq_true rfl), (Nat.le_of_ble_eq_true rfl)⟩) ⟨PR.blind, PR.pre hE hS nA_z va_nil⟩ rfl rfl hl.1 rfl (lv_room (Nat.le_of_ble_eq_true rfl)) dX10_addMachine_3 ⟨(Nat.le_of_ble_eq_true rfl), (Nat.le_of_ble_eq_true rfl)⟩) hS nA_B nA_A nA_B (fun E ce q9 u t H locs ht hvm _ hBX hz1 hk1 hS hce hcv hcl => by subst hBX; exact vx_out (fun x h => (htb x h).elim) hlocks hce hcv hcl (fun t2 ht2 _ => xE.of2 hS ht2) hS.2.2 (Nat.le_of_ble_eq_true rfl) (Nat.le_of_ble_eq_true rfl)) (fun u t H locs ht hvm hw _ _ _ _ => hw.elim)

set_option maxHeartbeats 4000000 in
set_option maxRecDepth 100000 in
theorem c_X10_addMachine_b2 (l : Launch) (hfl : l.stackTraces = false) (z0 : Nat) (D : va_G) (g : Nat → Nat) (x a0 a1 a2 a3 a4 a5 a6 : Nat) (p0 : Int32) (p1 : Int32) (h1 : ¬ p0 < 0) (h2 : p0 ≤ 4) (h : p1 < 0 ∨ ¬ p1 ≤ 9) : vx_Met l yX10_addMachine (wsp yX10_addMachine cX10_addMachine 4 (some .int)) ({ frames := 7, cells := 1, slots := 6, locals := 104 }) (va_Pc [.ref x, .int p0, .int p1] (PR z0 D g [(x, .inr (0, [.ref a0, .ref a1, .ref a2, .ref a3, .ref a4, .ref a5, .ref a6, .int 0, .int 0, .int 0, .int 0, .int 0, .int 0, .int 0]))])) (va_Qi (fun (r : Int32) (_ : Unit) => False) (fun _ _ => True) nA) (xE "java/lang/IllegalArgumentException") 1 6 nA := by
  refine vx_ofW (cc := cX10_addMachine) (maxL := 4) (ret := (some .int)) (by decide) rfl ?_
  intro p e s m args below meth c s₁ B hml htb hv
  obtain ⟨rfl, hE, hP⟩ := hv
  have hx := B.exec
  have hb := B.bytes
  have hr := B.returns
  have hts0 := atoms_spec (ws := (wsp yX10_addMachine cX10_addMachine 4 (some .int))) B.pre
  have hts : ∀ w ∈ lw_all, w.before _ s = true := fun w h => hts0 w (List.mem_cons_of_mem _ h)
  have hown : s.vm.findClass "Theatrehouse" = some m.cls := findClass_of_methodNamed B.named
  have hlocks := B.notSynchronized
  have hK := hE.K
  have hS : va_S nA s.heap s.heap [] := va_S.rf
  have hP : va_P D classes [(x, .inr (0, [.ref a0, .ref a1, .ref a2, .ref a3, .ref a4, .ref a5, .ref a6, .int 0, .int 0, .int 0, .int 0, .int 0, .int 0, .int 0]))] s.heap := hP
  have hl := lv_entry ([.ref x, .int p0, .int p1]) (n := 4) (Nat.le_of_ble_eq_true rfl)
  rw [lg_entry_eq]
  generalize (lg_sl ([.ref x, .int p0, .int p1]) ++ List.replicate (4 - (lg_sl ([.ref x, .int p0, .int p1])).length) Slot.unset).toArray = ls at hl ⊢
  have hl : lv_has ls 4 [(0, .ref x), (1, .int p0), (2, .int p1)] := hl
  refine lv_iload_n hx hb dX10_addMachine_0 rfl (lv_at hl 1 rfl) ?_
  refine lv_iconst (v := 0) hx hb dX10_addMachine_1 (by decide) ?_
  refine lv_iconst (v := 4) hx hb dX10_addMachine_2 (by decide) ?_
  refine va_callv (va_runS (As := [.int p0, .int 0, .int 4]) (rest := []) ⟨hx, hb, hml, hown, hts⟩ (c_X10_requireRange_ok l z0 D g p0 0 4 h1 h2) (va_cwS 3 hts (lw_S m_557 m_558 m_1 m_559) rfl rfl rfl (by decide +kernel) ⟨(Nat.le_of_ble_eq_true rfl), (Nat.le_of_ble_eq_true rfl)⟩) ⟨PR.blind, PR.pre hE hS nA_z va_nil⟩ rfl rfl hl.1 rfl (lv_room (Nat.le_of_ble_eq_true rfl)) dX10_addMachine_3 ⟨(Nat.le_of_ble_eq_true rfl), (Nat.le_of_ble_eq_true rfl)⟩) hS nA_B nA_A (fun u_3 t H locs ht hvm hw hB hz1 hk1 hS => ?_)
  have hP := hP.old hk1
  have hP : va_P D classes [(x, .inr (0, [.ref a0, .ref a1, .ref a2, .ref a3, .ref a4, .ref a5, .ref a6, .int 0, .int 0, .int 0, .int 0, .int 0, .int 0, .int 0]))] H := hP
  refine lv_iload_n hx hb dX10_addMachine_6 rfl (lv_at hl 2 rfl) ?_
  refine lv_iconst (v := 0) hx hb dX10_addMachine_7 (by decide) ?_
  refine lv_bipush (v := 9) hx hb dX10_addMachine_8 (by decide) ?_
  exact vx_callv (vx_runS (As := [.int p1, .int 0, .int 9]) (rest := []) ⟨hx, hb, hml, hown, hts⟩ (c_X10_requireRange_bad l hfl z0 D g p1 0 9 h) (va_cwS 3 hts (lw_S m_557 m_558 m_1 m_559) rfl rfl rfl (by decide +kernel) ⟨(Nat.le_of_ble_eq_true rfl), (Nat.le_of_ble_eq_true rfl)⟩) ⟨PR.blind, PR.pre hE hS nA_z va_nil⟩ rfl rfl hl.1 rfl (lv_room (Nat.le_of_ble_eq_true rfl)) dX10_addMachine_10 ⟨(Nat.le_of_ble_eq_true rfl), (Nat.le_of_ble_eq_true rfl)⟩) hS nA_B nA_A nA_B (fun E ce q9 u t H locs ht hvm _ hBX hz1 hk1 hS hce hcv hcl => by subst hBX; exact vx_out (fun x h => (htb x h).elim) hlocks hce hcv hcl (fun t2 ht2 _ => xE.of2 hS ht2) hS.2.2 (Nat.le_of_ble_eq_true rfl) (Nat.le_of_ble_eq_true rfl)) (fun u t H locs ht hvm hw _ _ _ _ => hw.elim)

set_option maxHeartbeats 4000000 in
set_option maxRecDepth 100000 in
theorem c_X10_addMachine_ok (l : Launch) (z0 : Nat) (D : va_G) (g : Nat → Nat) (sz : Nat) (x a0 a1 a2 a3 a4 a5 a6 : Nat) (cA : ClassId) (F : Nat → Option Nat) (pp : Nat) (p0 : Int32) (p1 : Int32) (hF : F 0 = some pp) (h1 : ¬ p0 < 0) (h2 : p0 ≤ 4) (h3 : ¬ p1 < 0) (h4 : p1 ≤ 9) : Met l yX10_addMachine (wsp yX10_addMachine cX10_addMachine 4 (some .int)) ({ frames := 1, cells := 0, slots := 0, locals := 22 }) (va_Pc [.ref x, .int p0, .int p1] (PMT z0 D g [(cA, .object "Theatrehouse$Machine")] sz [(x, .inr (0, [.ref a0, .ref a1, .ref a2, .ref a3, .ref a4, .ref a5, .ref a6, .int 0, .int 0, .int 0, .int 0, .int 0, .int 0, .int 0])), (a1, .inl (cA, 6, .inr (.inr (.inr (.inr F))))), (pp, .inr (2, [.int 0, .int 0, .int (-1), .int 0, .int 0]))] (fun _ => True))) (va_Qi (fun (r : Int32) (_ : Unit) => r = 0) (fun _ _ => True) (va_A [(x, .inr (0, [.ref a0, .ref a1, .ref a2, .ref a3, .ref a4, .ref a5, .ref a6, .int 0, .int 0, .int 0, .int 0, .int 0, .int 0, .int 0])), (a1, .inl (cA, 6, .inr (.inr (.inr (.inr F))))), (pp, .inr (2, [.int 0, .int 0, .int (-1), .int 0, .int 0]))] sz)) 0 0 (va_A [(x, .inr (0, [.ref a0, .ref a1, .ref a2, .ref a3, .ref a4, .ref a5, .ref a6, .int 0, .int 0, .int 0, .int 0, .int 0, .int 0, .int 0])), (a1, .inl (cA, 6, .inr (.inr (.inr (.inr F))))), (pp, .inr (2, [.int 0, .int 0, .int (-1), .int 0, .int 0]))] sz) := by
  refine Met.ofW (cc := cX10_addMachine) (maxL := 4) (ret := (some .int)) (by decide) rfl ?_
  intro p e s m args below meth c s₁ B hml hv
  obtain ⟨rfl, ⟨hsz9, hz0, hE, hP, hD0⟩, hK, hC⟩ := hv
  have hx := B.exec
  have hb := B.bytes
  have hr := B.returns
  have hts0 := atoms_spec (ws := (wsp yX10_addMachine cX10_addMachine 4 (some .int))) B.pre
  have hts : ∀ w ∈ lw_all, w.before _ s = true := fun w h => hts0 w (List.mem_cons_of_mem _ h)
  have hown : s.vm.findClass "Theatrehouse" = some m.cls := findClass_of_methodNamed B.named
  have hlocks := B.notSynchronized
  subst hsz9
  have hsz := hz0
  have hAz : ∀ q, va_A [(x, .inr (0, [.ref a0, .ref a1, .ref a2, .ref a3, .ref a4, .ref a5, .ref a6, .int 0, .int 0, .int 0, .int 0, .int 0, .int 0, .int 0])), (a1, .inl (cA, 6, .inr (.inr (.inr (.inr F))))), (pp, .inr (2, [.int 0, .int 0, .int (-1), .int 0, .int 0]))] s.heap.size q → z0 ≤ q := vaA_z hz0 hD0
  have hD := hD0.self (sz := s.heap.size)
  generalize hAe : va_A [(x, .inr (0, [.ref a0, .ref a1, .ref a2, .ref a3, .ref a4, .ref a5, .ref a6, .int 0, .int 0, .int 0, .int 0, .int 0, .int 0, .int 0])), (a1, .inl (cA, 6, .inr (.inr (.inr (.inr F))))), (pp, .inr (2, [.int 0, .int 0, .int (-1), .int 0, .int 0]))] s.heap.size = A at hD hAz ⊢
  have hA : ∀ q : Nat, s.heap.size ≤ q → A q := fun q h => by rw [← hAe]; exact Or.inr h
  have hS : va_S A s.heap s.heap [] := va_S.rf
  have hP : va_P D classes [(x, .inr (0, [.ref a0, .ref a1, .ref a2, .ref a3, .ref a4, .ref a5, .ref a6, .int 0, .int 0, .int 0, .int 0, .int 0, .int 0, .int 0])), (a1, .inl (cA, 6, .inr (.inr (.inr (.inr F))))), (pp, .inr (2, [.int 0, .int 0, .int (-1), .int 0, .int 0]))] s.heap := hP
  have hl := lv_entry ([.ref x, .int p0, .int p1]) (n := 4) (Nat.le_of_ble_eq_true rfl)
  rw [lg_entry_eq]
  generalize (lg_sl ([.ref x, .int p0, .int p1]) ++ List.replicate (4 - (lg_sl ([.ref x, .int p0, .int p1])).length) Slot.unset).toArray = ls at hl ⊢
  have hl : lv_has ls 4 [(0, .ref x), (1, .int p0), (2, .int p1)] := hl
  refine lv_iload_n hx hb dX10_addMachine_0 rfl (lv_at hl 1 rfl) ?_
  refine lv_iconst (v := 0) hx hb dX10_addMachine_1 (by decide) ?_
  refine lv_iconst (v := 4) hx hb dX10_addMachine_2 (by decide) ?_
  refine va_callv (va_runS (As := [.int p0, .int 0, .int 4]) (rest := []) ⟨hx, hb, hml, hown, hts⟩ (c_X10_requireRange_ok l z0 D g p0 0 4 h1 h2) (va_cwS 3 hts (lw_S m_557 m_558 m_1 m_559) rfl rfl rfl (by decide +kernel) ⟨(Nat.le_of_ble_eq_true rfl), (Nat.le_of_ble_eq_true rfl)⟩) ⟨PR.blind, PR.pre hE hS hAz va_nil⟩ rfl rfl hl.1 rfl (lv_room (Nat.le_of_ble_eq_true rfl)) dX10_addMachine_3 ⟨(Nat.le_of_ble_eq_true rfl), (Nat.le_of_ble_eq_true rfl)⟩) hS nA_B nA_A (fun u_3 t H locs ht hvm hw hB hz1 hk1 hS => ?_)
  have hP := hP.old hk1
  have hP : va_P D classes [(x, .inr (0, [.ref a0, .ref a1, .ref a2, .ref a3, .ref a4, .ref a5, .ref a6, .int 0, .int 0, .int 0, .int 0, .int 0, .int 0, .int 0])), (a1, .inl (cA, 6, .inr (.inr (.inr (.inr F))))), (pp, .inr (2, [.int 0, .int 0, .int (-1), .int 0, .int 0]))] H := hP
  refine lv_iload_n hx hb dX10_addMachine_6 rfl (lv_at hl 2 rfl) ?_
  refine lv_iconst (v := 0) hx hb dX10_addMachine_7 (by decide) ?_
  refine lv_bipush (v := 9) hx hb dX10_addMachine_8 (by decide) ?_
  refine va_callv (va_runS (As := [.int p1, .int 0, .int 9]) (rest := []) ⟨hx, hb, hml, hown, hts⟩ (c_X10_requireRange_ok l z0 D g p1 0 9 h3 h4) (va_cwS 3 hts (lw_S m_557 m_558 m_1 m_559) rfl rfl rfl (by decide +kernel) ⟨(Nat.le_of_ble_eq_true rfl), (Nat.le_of_ble_eq_true rfl)⟩) ⟨PR.blind, PR.pre hE hS hAz va_nil⟩ rfl rfl hl.1 rfl (lv_room (Nat.le_of_ble_eq_true rfl)) dX10_addMachine_10 ⟨(Nat.le_of_ble_eq_true rfl), (Nat.le_of_ble_eq_true rfl)⟩) hS nA_B nA_A (fun u_6 t H locs ht hvm hw hB hz1 hk1 hS => ?_)
  have hP := hP.old hk1
  have hP : va_P D classes [(x, .inr (0, [.ref a0, .ref a1, .ref a2, .ref a3, .ref a4, .ref a5, .ref a6, .int 0, .int 0, .int 0, .int 0, .int 0, .int 0, .int 0])), (a1, .inl (cA, 6, .inr (.inr (.inr (.inr F))))), (pp, .inr (2, [.int 0, .int 0, .int (-1), .int 0, .int 0]))] H := hP
  refine lv_aload_n hx hb dX10_addMachine_13 rfl (lv_at hl 0 rfl) ?_
  refine va_get (D := D) (ci := 0) (v := .int 0) (C := RX10) (T := TX10) (N := 14) hx hb hts i_X10 hown hK hP 0 rfl rfl 8 (by decide) (hts _ m_367) (fun _ h9 => h9) rfl dX10_addMachine_14 ?_
  refine lv_bipush (v := 6) hx hb dX10_addMachine_17 (by decide) ?_
  refine va_callv (va_runS (As := [.int 0, .int 6]) (rest := []) ⟨hx, hb, hml, hown, hts⟩ (c_X10_requireRoom_ok l z0 D g 0 6 (by decide)) (va_cwS 2 hts (lw_S m_632 m_633 m_1 m_634) rfl rfl rfl (by decide +kernel) ⟨(Nat.le_of_ble_eq_true rfl), (Nat.le_of_ble_eq_true rfl)⟩) ⟨PR.blind, PR.pre hE hS hAz va_nil⟩ rfl rfl hl.1 rfl (lv_room (Nat.le_of_ble_eq_true rfl)) dX10_addMachine_19 ⟨(Nat.le_of_ble_eq_true rfl), (Nat.le_of_ble_eq_true rfl)⟩) hS nA_B nA_A (fun u_9 t H locs ht hvm hw hB hz1 hk1 hS => ?_)
  have hP := hP.old hk1
  have hP : va_P D classes [(x, .inr (0, [.ref a0, .ref a1, .ref a2, .ref a3, .ref a4, .ref a5, .ref a6, .int 0, .int 0, .int 0, .int 0, .int 0, .int 0, .int 0])), (a1, .inl (cA, 6, .inr (.inr (.inr (.inr F))))), (pp, .inr (2, [.int 0, .int 0, .int (-1), .int 0, .int 0]))] H := hP
  refine lv_aload_n hx hb dX10_addMachine_22 rfl (lv_at hl 0 rfl) ?_
  have hc_10 := hP.sub (ws' := [(x, .inr (0, [.ref a0, .ref a1, .ref a2, .ref a3, .ref a4, .ref a5, .ref a6, .int 0, .int 0, .int 0, .int 0, .int 0, .int 0, .int 0]))]) [0] rfl
  refine va_callv (va_runV (As := []) (rest := []) ⟨hx, hb, hml, hown, hts⟩ (c_X10_requireNoShow l z0 D g x a0 a1 a2 a3 a4 a5 a6) (cwV 0 hts (lw_V m_651 m_653 mp_10 m_1 m_654) rfl rfl rfl (by decide +kernel) ⟨(Nat.le_of_ble_eq_true rfl), (Nat.le_of_ble_eq_true rfl)⟩) ⟨PR.blind, va_recv hK hP (ci := 0) (q0 := 0) rfl rfl, PR.pre hE hS hAz hc_10⟩ rfl rfl hl.1 rfl (lv_room (Nat.le_of_ble_eq_true rfl)) dX10_addMachine_23 ⟨(Nat.le_of_ble_eq_true rfl), (Nat.le_of_ble_eq_true rfl)⟩) hS nA_B nA_A (fun u_12 t H locs ht hvm hw hB hz1 hk1 hS => ?_)
  have hP := hP.old hk1
  have hP : va_P D classes [(x, .inr (0, [.ref a0, .ref a1, .ref a2, .ref a3, .ref a4, .ref a5, .ref a6, .int 0, .int 0, .int 0, .int 0, .int 0, .int 0, .int 0])), (a1, .inl (cA, 6, .inr (.inr (.inr (.inr F))))), (pp, .inr (2, [.int 0, .int 0, .int (-1), .int 0, .int 0]))] H := hP
  refine lv_aload_n hx hb dX10_addMachine_26 rfl (lv_at hl 0 rfl) ?_
  refine va_get (D := D) (ci := 0) (v := .ref a1) (C := RX10) (T := TX10) (N := 14) hx hb hts i_X10 hown hK hP 0 rfl rfl 1 (by decide) (hts _ m_360) (fun _ h9 => h9) rfl dX10_addMachine_27 ?_
  refine lv_aload_n hx hb dX10_addMachine_30 rfl (lv_at hl 0 rfl) ?_
  refine va_get (D := D) (ci := 0) (v := .int 0) (C := RX10) (T := TX10) (N := 14) hx hb hts i_X10 hown hK hP 0 rfl rfl 8 (by decide) (hts _ m_367) (fun _ h9 => h9) rfl dX10_addMachine_31 ?_
  refine va_aldq (i := 0) hx hb hK hP 1 0 rfl rfl (by unfold vp_in; decide) dX10_addMachine_34 ?_
  rw [show F (Int32.toNatClampNeg 0) = some pp from hF]
  refine W.eq (g2 := F0 m 35 ls [.ref pp]) rfl ?_
  refine lv_astore_n (lv' := [(3, .ref pp), (0, .ref x), (1, .int p0), (2, .int p1)]) hx hb dX10_addMachine_35 rfl hl (by decide) rfl (fun ls hl => ?_)
  refine lv_aload_n hx hb dX10_addMachine_36 rfl (lv_at hl 0 rfl) ?_
  refine lv_iload_n hx hb dX10_addMachine_37 rfl (lv_at hl 2 rfl) ?_
  refine va_put (D := D) (ci := 2) (v := .int p0) (ty := .int) (C := RX2) (T := TX2) (N := 5) hx hb hts i_X2 tyX2 tyX2_ok nmX2 hown hK hP hD hS 2 rfl rfl 0 (by decide) (hts _ m_313) (fun _ h9 => h9) rfl (by decide +kernel) rfl rfl (Nat.le_of_ble_eq_true rfl) dX10_addMachine_38 (fun H locs hP hD hS => ?_)
  have hP : va_P D classes [(x, .inr (0, [.ref a0, .ref a1, .ref a2, .ref a3, .ref a4, .ref a5, .ref a6, .int 0, .int 0, .int 0, .int 0, .int 0, .int 0, .int 0])), (a1, .inl (cA, 6, .inr (.inr (.inr (.inr F))))), (pp, .inr (2, [.int p0, .int 0, .int (-1), .int 0, .int 0]))] H := hP
  have hD : va_D A [(x, .inr (0, [.ref a0, .ref a1, .ref a2, .ref a3, .ref a4, .ref a5, .ref a6, .int 0, .int 0, .int 0, .int 0, .int 0, .int 0, .int 0])), (a1, .inl (cA, 6, .inr (.inr (.inr (.inr F))))), (pp, .inr (2, [.int p0, .int 0, .int (-1), .int 0, .int 0]))] := hD
  refine lv_aload_n hx hb dX10_addMachine_41 rfl (lv_at hl 0 rfl) ?_
  refine lv_iload_n hx hb dX10_addMachine_42 rfl (lv_at hl 3 rfl) ?_
  refine va_put (D := D) (ci := 2) (v := .int p1) (ty := .int) (C := RX2) (T := TX2) (N := 5) hx hb hts i_X2 tyX2 tyX2_ok nmX2 hown hK hP hD hS 2 rfl rfl 1 (by decide) (hts _ m_316) (fun _ h9 => h9) rfl (by decide +kernel) rfl rfl (Nat.le_of_ble_eq_true rfl) dX10_addMachine_43 (fun H locs hP hD hS => ?_)
  have hP : va_P D classes [(x, .inr (0, [.ref a0, .ref a1, .ref a2, .ref a3, .ref a4, .ref a5, .ref a6, .int 0, .int 0, .int 0, .int 0, .int 0, .int 0, .int 0])), (a1, .inl (cA, 6, .inr (.inr (.inr (.inr F))))), (pp, .inr (2, [.int p0, .int p1, .int (-1), .int 0, .int 0]))] H := hP
  have hD : va_D A [(x, .inr (0, [.ref a0, .ref a1, .ref a2, .ref a3, .ref a4, .ref a5, .ref a6, .int 0, .int 0, .int 0, .int 0, .int 0, .int 0, .int 0])), (a1, .inl (cA, 6, .inr (.inr (.inr (.inr F))))), (pp, .inr (2, [.int p0, .int p1, .int (-1), .int 0, .int 0]))] := hD
  refine lv_aload_n hx hb dX10_addMachine_46 rfl (lv_at hl 1 rfl) ?_
  refine lv_dup hx hb dX10_addMachine_47 rfl ?_
  refine va_get (D := D) (ci := 0) (v := .int 0) (C := RX10) (T := TX10) (N := 14) hx hb hts i_X10 hown hK hP 0 rfl rfl 8 (by decide) (hts _ m_367) (fun _ h9 => h9) rfl dX10_addMachine_48 ?_
  refine lv_iconst (v := 1) hx hb dX10_addMachine_51 (by decide) ?_
  refine lv_iadd hx hb dX10_addMachine_52 ?_
  rw [show (0 + 1 : Int32) = 1 by decide]
  refine va_put (D := D) (ci := 0) (v := .int 1) (ty := .int) (C := RX10) (T := TX10) (N := 14) hx hb hts i_X10 tyX10 tyX10_ok nmX10 hown hK hP hD hS 0 rfl rfl 8 (by decide) (hts _ m_367) (fun _ h9 => h9) rfl (by decide +kernel) rfl rfl (Nat.le_of_ble_eq_true rfl) dX10_addMachine_53 (fun H locs hP hD hS => ?_)
  have hP : va_P D classes [(x, .inr (0, [.ref a0, .ref a1, .ref a2, .ref a3, .ref a4, .ref a5, .ref a6, .int 0, .int 1, .int 0, .int 0, .int 0, .int 0, .int 0])), (a1, .inl (cA, 6, .inr (.inr (.inr (.inr F))))), (pp, .inr (2, [.int p0, .int p1, .int (-1), .int 0, .int 0]))] H := hP
  have hD : va_D A [(x, .inr (0, [.ref a0, .ref a1, .ref a2, .ref a3, .ref a4, .ref a5, .ref a6, .int 0, .int 1, .int 0, .int 0, .int 0, .int 0, .int 0])), (a1, .inl (cA, 6, .inr (.inr (.inr (.inr F))))), (pp, .inr (2, [.int p0, .int p1, .int (-1), .int 0, .int 0]))] := hD
  refine lv_aload_n hx hb dX10_addMachine_56 rfl (lv_at hl 1 rfl) ?_
  refine va_get (D := D) (ci := 0) (v := .int 1) (C := RX10) (T := TX10) (N := 14) hx hb hts i_X10 hown hK hP 0 rfl rfl 8 (by decide) (hts _ m_367) (fun _ h9 => h9) rfl dX10_addMachine_57 ?_
  refine lv_iconst (v := 1) hx hb dX10_addMachine_60 (by decide) ?_
  refine lv_isub hx hb dX10_addMachine_61 ?_
  rw [show (1 - 1 : Int32) = 0 by decide]
  refine W.widen (k := 0) (n := 0) (Nat.le_of_ble_eq_true rfl) (Nat.le_of_ble_eq_true rfl) ?_
  exact W.iret (v := 0) hx hb hr (fun t ht hW => ⟨⟨0, (), rfl, rfl, trivial⟩, hS.F ht⟩) hS.2.2 dX10_addMachine_62

set_option maxHeartbeats 4000000 in
set_option maxRecDepth 100000 in
theorem c_X10_addWork_b1 (l : Launch) (hfl : l.stackTraces = false) (z0 : Nat) (D : va_G) (g : Nat → Nat) (x a0 a1 a2 a3 a4 a5 a6 : Nat) (p0 : Int32) (p1 : Int32) (h : p0 < 1 ∨ ¬ p0 ≤ 5) : vx_Met l yX10_addWork (wsp yX10_addWork cX10_addWork 4 (some .int)) ({ frames := 7, cells := 1, slots := 6, locals := 104 }) (va_Pc [.ref x, .int p0, .int p1] (PR z0 D g [(x, .inr (0, [.ref a0, .ref a1, .ref a2, .ref a3, .ref a4, .ref a5, .ref a6, .int 0, .int 0, .int 0, .int 0, .int 0, .int 0, .int 0]))])) (va_Qi (fun (r : Int32) (_ : Unit) => False) (fun _ _ => True) nA) (xE "java/lang/IllegalArgumentException") 1 6 nA := by
  refine vx_ofW (cc := cX10_addWork) (maxL := 4) (ret := (some .int)) (by decide) rfl ?_
  intro p e s m args below meth c s₁ B hml htb hv
  obtain ⟨rfl, hE, hP⟩ := hv
  have hx := B.exec
  have hb := B.bytes
  have hr := B.returns
  have hts0 := atoms_spec (ws := (wsp yX10_addWork cX10_addWork 4 (some .int))) B.pre
  have hts : ∀ w ∈ lw_all, w.before _ s = true := fun w h => hts0 w (List.mem_cons_of_mem _ h)
  have hown : s.vm.findClass "Theatrehouse" = some m.cls := findClass_of_methodNamed B.named
  have hlocks := B.notSynchronized
  have hK := hE.K
  have hS : va_S nA s.heap s.heap [] := va_S.rf
  have hP : va_P D classes [(x, .inr (0, [.ref a0, .ref a1, .ref a2, .ref a3, .ref a4, .ref a5, .ref a6, .int 0, .int 0, .int 0, .int 0, .int 0, .int 0, .int 0]))] s.heap := hP
  have hl := lv_entry ([.ref x, .int p0, .int p1]) (n := 4) (Nat.le_of_ble_eq_true rfl)
  rw [lg_entry_eq]
  generalize (lg_sl ([.ref x, .int p0, .int p1]) ++ List.replicate (4 - (lg_sl ([.ref x, .int p0, .int p1])).length) Slot.unset).toArray = ls at hl ⊢
  have hl : lv_has ls 4 [(0, .ref x), (1, .int p0), (2, .int p1)] := hl
  refine lv_iload_n hx hb dX10_addWork_0 rfl (lv_at hl 1 rfl) ?_
  refine lv_iconst (v := 1) hx hb dX10_addWork_1 (by decide) ?_
  refine lv_iconst (v := 5) hx hb dX10_addWork_2 (by decide) ?_
  exact vx_callv (vx_runS (As := [.int p0, .int 1, .int 5]) (rest := []) ⟨hx, hb, hml, hown, hts⟩ (c_X10_requireRange_bad l hfl z0 D g p0 1 5 h) (va_cwS 3 hts (lw_S m_557 m_558 m_1 m_559) rfl rfl rfl (by decide +kernel) ⟨(Nat.le_of_ble_eq_true rfl), (Nat.le_of_ble_eq_true rfl)⟩) ⟨PR.blind, PR.pre hE hS nA_z va_nil⟩ rfl rfl hl.1 rfl (lv_room (Nat.le_of_ble_eq_true rfl)) dX10_addWork_3 ⟨(Nat.le_of_ble_eq_true rfl), (Nat.le_of_ble_eq_true rfl)⟩) hS nA_B nA_A nA_B (fun E ce q9 u t H locs ht hvm _ hBX hz1 hk1 hS hce hcv hcl => by subst hBX; exact vx_out (fun x h => (htb x h).elim) hlocks hce hcv hcl (fun t2 ht2 _ => xE.of2 hS ht2) hS.2.2 (Nat.le_of_ble_eq_true rfl) (Nat.le_of_ble_eq_true rfl)) (fun u t H locs ht hvm hw _ _ _ _ => hw.elim)

set_option maxHeartbeats 4000000 in
set_option maxRecDepth 100000 in
theorem c_X10_addWork_b2 (l : Launch) (hfl : l.stackTraces = false) (z0 : Nat) (D : va_G) (g : Nat → Nat) (x a0 a1 a2 a3 a4 a5 a6 : Nat) (p0 : Int32) (p1 : Int32) (h1 : ¬ p0 < 1) (h2 : p0 ≤ 5) (h : p1 < 1 ∨ ¬ p1 ≤ 99) : vx_Met l yX10_addWork (wsp yX10_addWork cX10_addWork 4 (some .int)) ({ frames := 7, cells := 1, slots := 6, locals := 104 }) (va_Pc [.ref x, .int p0, .int p1] (PR z0 D g [(x, .inr (0, [.ref a0, .ref a1, .ref a2, .ref a3, .ref a4, .ref a5, .ref a6, .int 0, .int 0, .int 0, .int 0, .int 0, .int 0, .int 0]))])) (va_Qi (fun (r : Int32) (_ : Unit) => False) (fun _ _ => True) nA) (xE "java/lang/IllegalArgumentException") 1 6 nA := by
  refine vx_ofW (cc := cX10_addWork) (maxL := 4) (ret := (some .int)) (by decide) rfl ?_
  intro p e s m args below meth c s₁ B hml htb hv
  obtain ⟨rfl, hE, hP⟩ := hv
  have hx := B.exec
  have hb := B.bytes
  have hr := B.returns
  have hts0 := atoms_spec (ws := (wsp yX10_addWork cX10_addWork 4 (some .int))) B.pre
  have hts : ∀ w ∈ lw_all, w.before _ s = true := fun w h => hts0 w (List.mem_cons_of_mem _ h)
  have hown : s.vm.findClass "Theatrehouse" = some m.cls := findClass_of_methodNamed B.named
  have hlocks := B.notSynchronized
  have hK := hE.K
  have hS : va_S nA s.heap s.heap [] := va_S.rf
  have hP : va_P D classes [(x, .inr (0, [.ref a0, .ref a1, .ref a2, .ref a3, .ref a4, .ref a5, .ref a6, .int 0, .int 0, .int 0, .int 0, .int 0, .int 0, .int 0]))] s.heap := hP
  have hl := lv_entry ([.ref x, .int p0, .int p1]) (n := 4) (Nat.le_of_ble_eq_true rfl)
  rw [lg_entry_eq]
  generalize (lg_sl ([.ref x, .int p0, .int p1]) ++ List.replicate (4 - (lg_sl ([.ref x, .int p0, .int p1])).length) Slot.unset).toArray = ls at hl ⊢
  have hl : lv_has ls 4 [(0, .ref x), (1, .int p0), (2, .int p1)] := hl
  refine lv_iload_n hx hb dX10_addWork_0 rfl (lv_at hl 1 rfl) ?_
  refine lv_iconst (v := 1) hx hb dX10_addWork_1 (by decide) ?_
  refine lv_iconst (v := 5) hx hb dX10_addWork_2 (by decide) ?_
  refine va_callv (va_runS (As := [.int p0, .int 1, .int 5]) (rest := []) ⟨hx, hb, hml, hown, hts⟩ (c_X10_requireRange_ok l z0 D g p0 1 5 h1 h2) (va_cwS 3 hts (lw_S m_557 m_558 m_1 m_559) rfl rfl rfl (by decide +kernel) ⟨(Nat.le_of_ble_eq_true rfl), (Nat.le_of_ble_eq_true rfl)⟩) ⟨PR.blind, PR.pre hE hS nA_z va_nil⟩ rfl rfl hl.1 rfl (lv_room (Nat.le_of_ble_eq_true rfl)) dX10_addWork_3 ⟨(Nat.le_of_ble_eq_true rfl), (Nat.le_of_ble_eq_true rfl)⟩) hS nA_B nA_A (fun u_3 t H locs ht hvm hw hB hz1 hk1 hS => ?_)
  have hP := hP.old hk1
  have hP : va_P D classes [(x, .inr (0, [.ref a0, .ref a1, .ref a2, .ref a3, .ref a4, .ref a5, .ref a6, .int 0, .int 0, .int 0, .int 0, .int 0, .int 0, .int 0]))] H := hP
  refine lv_iload_n hx hb dX10_addWork_6 rfl (lv_at hl 2 rfl) ?_
  refine lv_iconst (v := 1) hx hb dX10_addWork_7 (by decide) ?_
  refine lv_bipush (v := 99) hx hb dX10_addWork_8 (by decide) ?_
  exact vx_callv (vx_runS (As := [.int p1, .int 1, .int 99]) (rest := []) ⟨hx, hb, hml, hown, hts⟩ (c_X10_requireRange_bad l hfl z0 D g p1 1 99 h) (va_cwS 3 hts (lw_S m_557 m_558 m_1 m_559) rfl rfl rfl (by decide +kernel) ⟨(Nat.le_of_ble_eq_true rfl), (Nat.le_of_ble_eq_true rfl)⟩) ⟨PR.blind, PR.pre hE hS nA_z va_nil⟩ rfl rfl hl.1 rfl (lv_room (Nat.le_of_ble_eq_true rfl)) dX10_addWork_10 ⟨(Nat.le_of_ble_eq_true rfl), (Nat.le_of_ble_eq_true rfl)⟩) hS nA_B nA_A nA_B (fun E ce q9 u t H locs ht hvm _ hBX hz1 hk1 hS hce hcv hcl => by subst hBX; exact vx_out (fun x h => (htb x h).elim) hlocks hce hcv hcl (fun t2 ht2 _ => xE.of2 hS ht2) hS.2.2 (Nat.le_of_ble_eq_true rfl) (Nat.le_of_ble_eq_true rfl)) (fun u t H locs ht hvm hw _ _ _ _ => hw.elim)

set_option maxHeartbeats 4000000 in
set_option maxRecDepth 100000 in
theorem c_X10_addWork_ok (l : Launch) (z0 : Nat) (D : va_G) (g : Nat → Nat) (sz : Nat) (x a0 a1 a2 a3 a4 a5 a6 : Nat) (cA : ClassId) (F : Nat → Option Nat) (pp : Nat) (w1 w2 w3 : Nat) (p0 : Int32) (p1 : Int32) (hF : F 0 = some pp) (h1 : ¬ p0 < 1) (h2 : p0 ≤ 5) (h3 : ¬ p1 < 1) (h4 : p1 ≤ 99) : Met l yX10_addWork (wsp yX10_addWork cX10_addWork 4 (some .int)) ({ frames := 1, cells := 0, slots := 0, locals := 22 }) (va_Pc [.ref x, .int p0, .int p1] (PMT z0 D g [(cA, .object "Theatrehouse$Work")] sz [(x, .inr (0, [.ref a0, .ref a1, .ref a2, .ref a3, .ref a4, .ref a5, .ref a6, .int 0, .int 0, .int 0, .int 0, .int 0, .int 0, .int 0])), (a2, .inl (cA, 3, .inr (.inr (.inr (.inr F))))), (pp, .inr (3, [.int 0, .int 0, .int 0, .int 0, .ref w1, .ref w2, .ref w3]))] (fun _ => True))) (va_Qi (fun (r : Int32) (_ : Unit) => r = 0) (fun _ _ => True) (va_A [(x, .inr (0, [.ref a0, .ref a1, .ref a2, .ref a3, .ref a4, .ref a5, .ref a6, .int 0, .int 0, .int 0, .int 0, .int 0, .int 0, .int 0])), (a2, .inl (cA, 3, .inr (.inr (.inr (.inr F))))), (pp, .inr (3, [.int 0, .int 0, .int 0, .int 0, .ref w1, .ref w2, .ref w3]))] sz)) 0 0 (va_A [(x, .inr (0, [.ref a0, .ref a1, .ref a2, .ref a3, .ref a4, .ref a5, .ref a6, .int 0, .int 0, .int 0, .int 0, .int 0, .int 0, .int 0])), (a2, .inl (cA, 3, .inr (.inr (.inr (.inr F))))), (pp, .inr (3, [.int 0, .int 0, .int 0, .int 0, .ref w1, .ref w2, .ref w3]))] sz) := by
  refine Met.ofW (cc := cX10_addWork) (maxL := 4) (ret := (some .int)) (by decide) rfl ?_
  intro p e s m args below meth c s₁ B hml hv
  obtain ⟨rfl, ⟨hsz9, hz0, hE, hP, hD0⟩, hK, hC⟩ := hv
  have hx := B.exec
  have hb := B.bytes
  have hr := B.returns
  have hts0 := atoms_spec (ws := (wsp yX10_addWork cX10_addWork 4 (some .int))) B.pre
  have hts : ∀ w ∈ lw_all, w.before _ s = true := fun w h => hts0 w (List.mem_cons_of_mem _ h)
  have hown : s.vm.findClass "Theatrehouse" = some m.cls := findClass_of_methodNamed B.named
  have hlocks := B.notSynchronized
  subst hsz9
  have hsz := hz0
  have hAz : ∀ q, va_A [(x, .inr (0, [.ref a0, .ref a1, .ref a2, .ref a3, .ref a4, .ref a5, .ref a6, .int 0, .int 0, .int 0, .int 0, .int 0, .int 0, .int 0])), (a2, .inl (cA, 3, .inr (.inr (.inr (.inr F))))), (pp, .inr (3, [.int 0, .int 0, .int 0, .int 0, .ref w1, .ref w2, .ref w3]))] s.heap.size q → z0 ≤ q := vaA_z hz0 hD0
  have hD := hD0.self (sz := s.heap.size)
  generalize hAe : va_A [(x, .inr (0, [.ref a0, .ref a1, .ref a2, .ref a3, .ref a4, .ref a5, .ref a6, .int 0, .int 0, .int 0, .int 0, .int 0, .int 0, .int 0])), (a2, .inl (cA, 3, .inr (.inr (.inr (.inr F))))), (pp, .inr (3, [.int 0, .int 0, .int 0, .int 0, .ref w1, .ref w2, .ref w3]))] s.heap.size = A at hD hAz ⊢
  have hA : ∀ q : Nat, s.heap.size ≤ q → A q := fun q h => by rw [← hAe]; exact Or.inr h
  have hS : va_S A s.heap s.heap [] := va_S.rf
  have hP : va_P D classes [(x, .inr (0, [.ref a0, .ref a1, .ref a2, .ref a3, .ref a4, .ref a5, .ref a6, .int 0, .int 0, .int 0, .int 0, .int 0, .int 0, .int 0])), (a2, .inl (cA, 3, .inr (.inr (.inr (.inr F))))), (pp, .inr (3, [.int 0, .int 0, .int 0, .int 0, .ref w1, .ref w2, .ref w3]))] s.heap := hP
  have hl := lv_entry ([.ref x, .int p0, .int p1]) (n := 4) (Nat.le_of_ble_eq_true rfl)
  rw [lg_entry_eq]
  generalize (lg_sl ([.ref x, .int p0, .int p1]) ++ List.replicate (4 - (lg_sl ([.ref x, .int p0, .int p1])).length) Slot.unset).toArray = ls at hl ⊢
  have hl : lv_has ls 4 [(0, .ref x), (1, .int p0), (2, .int p1)] := hl
  refine lv_iload_n hx hb dX10_addWork_0 rfl (lv_at hl 1 rfl) ?_
  refine lv_iconst (v := 1) hx hb dX10_addWork_1 (by decide) ?_
  refine lv_iconst (v := 5) hx hb dX10_addWork_2 (by decide) ?_
  refine va_callv (va_runS (As := [.int p0, .int 1, .int 5]) (rest := []) ⟨hx, hb, hml, hown, hts⟩ (c_X10_requireRange_ok l z0 D g p0 1 5 h1 h2) (va_cwS 3 hts (lw_S m_557 m_558 m_1 m_559) rfl rfl rfl (by decide +kernel) ⟨(Nat.le_of_ble_eq_true rfl), (Nat.le_of_ble_eq_true rfl)⟩) ⟨PR.blind, PR.pre hE hS hAz va_nil⟩ rfl rfl hl.1 rfl (lv_room (Nat.le_of_ble_eq_true rfl)) dX10_addWork_3 ⟨(Nat.le_of_ble_eq_true rfl), (Nat.le_of_ble_eq_true rfl)⟩) hS nA_B nA_A (fun u_3 t H locs ht hvm hw hB hz1 hk1 hS => ?_)
  have hP := hP.old hk1
  have hP : va_P D classes [(x, .inr (0, [.ref a0, .ref a1, .ref a2, .ref a3, .ref a4, .ref a5, .ref a6, .int 0, .int 0, .int 0, .int 0, .int 0, .int 0, .int 0])), (a2, .inl (cA, 3, .inr (.inr (.inr (.inr F))))), (pp, .inr (3, [.int 0, .int 0, .int 0, .int 0, .ref w1, .ref w2, .ref w3]))] H := hP
  refine lv_iload_n hx hb dX10_addWork_6 rfl (lv_at hl 2 rfl) ?_
  refine lv_iconst (v := 1) hx hb dX10_addWork_7 (by decide) ?_
  refine lv_bipush (v := 99) hx hb dX10_addWork_8 (by decide) ?_
  refine va_callv (va_runS (As := [.int p1, .int 1, .int 99]) (rest := []) ⟨hx, hb, hml, hown, hts⟩ (c_X10_requireRange_ok l z0 D g p1 1 99 h3 h4) (va_cwS 3 hts (lw_S m_557 m_558 m_1 m_559) rfl rfl rfl (by decide +kernel) ⟨(Nat.le_of_ble_eq_true rfl), (Nat.le_of_ble_eq_true rfl)⟩) ⟨PR.blind, PR.pre hE hS hAz va_nil⟩ rfl rfl hl.1 rfl (lv_room (Nat.le_of_ble_eq_true rfl)) dX10_addWork_10 ⟨(Nat.le_of_ble_eq_true rfl), (Nat.le_of_ble_eq_true rfl)⟩) hS nA_B nA_A (fun u_6 t H locs ht hvm hw hB hz1 hk1 hS => ?_)
  have hP := hP.old hk1
  have hP : va_P D classes [(x, .inr (0, [.ref a0, .ref a1, .ref a2, .ref a3, .ref a4, .ref a5, .ref a6, .int 0, .int 0, .int 0, .int 0, .int 0, .int 0, .int 0])), (a2, .inl (cA, 3, .inr (.inr (.inr (.inr F))))), (pp, .inr (3, [.int 0, .int 0, .int 0, .int 0, .ref w1, .ref w2, .ref w3]))] H := hP
  refine lv_aload_n hx hb dX10_addWork_13 rfl (lv_at hl 0 rfl) ?_
  refine va_get (D := D) (ci := 0) (v := .int 0) (C := RX10) (T := TX10) (N := 14) hx hb hts i_X10 hown hK hP 0 rfl rfl 9 (by decide) (hts _ m_368) (fun _ h9 => h9) rfl dX10_addWork_14 ?_
  refine lv_iconst (v := 3) hx hb dX10_addWork_17 (by decide) ?_
  refine va_callv (va_runS (As := [.int 0, .int 3]) (rest := []) ⟨hx, hb, hml, hown, hts⟩ (c_X10_requireRoom_ok l z0 D g 0 3 (by decide)) (va_cwS 2 hts (lw_S m_632 m_633 m_1 m_634) rfl rfl rfl (by decide +kernel) ⟨(Nat.le_of_ble_eq_true rfl), (Nat.le_of_ble_eq_true rfl)⟩) ⟨PR.blind, PR.pre hE hS hAz va_nil⟩ rfl rfl hl.1 rfl (lv_room (Nat.le_of_ble_eq_true rfl)) dX10_addWork_18 ⟨(Nat.le_of_ble_eq_true rfl), (Nat.le_of_ble_eq_true rfl)⟩) hS nA_B nA_A (fun u_9 t H locs ht hvm hw hB hz1 hk1 hS => ?_)
  have hP := hP.old hk1
  have hP : va_P D classes [(x, .inr (0, [.ref a0, .ref a1, .ref a2, .ref a3, .ref a4, .ref a5, .ref a6, .int 0, .int 0, .int 0, .int 0, .int 0, .int 0, .int 0])), (a2, .inl (cA, 3, .inr (.inr (.inr (.inr F))))), (pp, .inr (3, [.int 0, .int 0, .int 0, .int 0, .ref w1, .ref w2, .ref w3]))] H := hP
  refine lv_aload_n hx hb dX10_addWork_21 rfl (lv_at hl 0 rfl) ?_
  have hc_10 := hP.sub (ws' := [(x, .inr (0, [.ref a0, .ref a1, .ref a2, .ref a3, .ref a4, .ref a5, .ref a6, .int 0, .int 0, .int 0, .int 0, .int 0, .int 0, .int 0]))]) [0] rfl
  refine va_callv (va_runV (As := []) (rest := []) ⟨hx, hb, hml, hown, hts⟩ (c_X10_requireNoShow l z0 D g x a0 a1 a2 a3 a4 a5 a6) (cwV 0 hts (lw_V m_651 m_653 mp_10 m_1 m_654) rfl rfl rfl (by decide +kernel) ⟨(Nat.le_of_ble_eq_true rfl), (Nat.le_of_ble_eq_true rfl)⟩) ⟨PR.blind, va_recv hK hP (ci := 0) (q0 := 0) rfl rfl, PR.pre hE hS hAz hc_10⟩ rfl rfl hl.1 rfl (lv_room (Nat.le_of_ble_eq_true rfl)) dX10_addWork_22 ⟨(Nat.le_of_ble_eq_true rfl), (Nat.le_of_ble_eq_true rfl)⟩) hS nA_B nA_A (fun u_12 t H locs ht hvm hw hB hz1 hk1 hS => ?_)
  have hP := hP.old hk1
  have hP : va_P D classes [(x, .inr (0, [.ref a0, .ref a1, .ref a2, .ref a3, .ref a4, .ref a5, .ref a6, .int 0, .int 0, .int 0, .int 0, .int 0, .int 0, .int 0])), (a2, .inl (cA, 3, .inr (.inr (.inr (.inr F))))), (pp, .inr (3, [.int 0, .int 0, .int 0, .int 0, .ref w1, .ref w2, .ref w3]))] H := hP
  refine lv_aload_n hx hb dX10_addWork_25 rfl (lv_at hl 0 rfl) ?_
  refine va_get (D := D) (ci := 0) (v := .ref a2) (C := RX10) (T := TX10) (N := 14) hx hb hts i_X10 hown hK hP 0 rfl rfl 2 (by decide) (hts _ m_361) (fun _ h9 => h9) rfl dX10_addWork_26 ?_
  refine lv_aload_n hx hb dX10_addWork_29 rfl (lv_at hl 0 rfl) ?_
  refine va_get (D := D) (ci := 0) (v := .int 0) (C := RX10) (T := TX10) (N := 14) hx hb hts i_X10 hown hK hP 0 rfl rfl 9 (by decide) (hts _ m_368) (fun _ h9 => h9) rfl dX10_addWork_30 ?_
  refine va_aldq (i := 0) hx hb hK hP 1 0 rfl rfl (by unfold vp_in; decide) dX10_addWork_33 ?_
  rw [show F (Int32.toNatClampNeg 0) = some pp from hF]
  refine W.eq (g2 := F0 m 34 ls [.ref pp]) rfl ?_
  refine lv_astore_n (lv' := [(3, .ref pp), (0, .ref x), (1, .int p0), (2, .int p1)]) hx hb dX10_addWork_34 rfl hl (by decide) rfl (fun ls hl => ?_)
  refine lv_aload_n hx hb dX10_addWork_35 rfl (lv_at hl 0 rfl) ?_
  refine lv_iload_n hx hb dX10_addWork_36 rfl (lv_at hl 2 rfl) ?_
  refine va_put (D := D) (ci := 3) (v := .int p0) (ty := .int) (C := RX9) (T := TX9) (N := 7) hx hb hts i_X9 tyX9 tyX9_ok nmX9 hown hK hP hD hS 2 rfl rfl 0 (by decide) (hts _ m_128) (fun _ h9 => h9) rfl (by decide +kernel) rfl rfl (Nat.le_of_ble_eq_true rfl) dX10_addWork_37 (fun H locs hP hD hS => ?_)
  have hP : va_P D classes [(x, .inr (0, [.ref a0, .ref a1, .ref a2, .ref a3, .ref a4, .ref a5, .ref a6, .int 0, .int 0, .int 0, .int 0, .int 0, .int 0, .int 0])), (a2, .inl (cA, 3, .inr (.inr (.inr (.inr F))))), (pp, .inr (3, [.int p0, .int 0, .int 0, .int 0, .ref w1, .ref w2, .ref w3]))] H := hP
  have hD : va_D A [(x, .inr (0, [.ref a0, .ref a1, .ref a2, .ref a3, .ref a4, .ref a5, .ref a6, .int 0, .int 0, .int 0, .int 0, .int 0, .int 0, .int 0])), (a2, .inl (cA, 3, .inr (.inr (.inr (.inr F))))), (pp, .inr (3, [.int p0, .int 0, .int 0, .int 0, .ref w1, .ref w2, .ref w3]))] := hD
  refine lv_aload_n hx hb dX10_addWork_40 rfl (lv_at hl 0 rfl) ?_
  refine lv_iload_n hx hb dX10_addWork_41 rfl (lv_at hl 3 rfl) ?_
  refine va_put (D := D) (ci := 3) (v := .int p1) (ty := .int) (C := RX9) (T := TX9) (N := 7) hx hb hts i_X9 tyX9 tyX9_ok nmX9 hown hK hP hD hS 2 rfl rfl 1 (by decide) (hts _ m_130) (fun _ h9 => h9) rfl (by decide +kernel) rfl rfl (Nat.le_of_ble_eq_true rfl) dX10_addWork_42 (fun H locs hP hD hS => ?_)
  have hP : va_P D classes [(x, .inr (0, [.ref a0, .ref a1, .ref a2, .ref a3, .ref a4, .ref a5, .ref a6, .int 0, .int 0, .int 0, .int 0, .int 0, .int 0, .int 0])), (a2, .inl (cA, 3, .inr (.inr (.inr (.inr F))))), (pp, .inr (3, [.int p0, .int p1, .int 0, .int 0, .ref w1, .ref w2, .ref w3]))] H := hP
  have hD : va_D A [(x, .inr (0, [.ref a0, .ref a1, .ref a2, .ref a3, .ref a4, .ref a5, .ref a6, .int 0, .int 0, .int 0, .int 0, .int 0, .int 0, .int 0])), (a2, .inl (cA, 3, .inr (.inr (.inr (.inr F))))), (pp, .inr (3, [.int p0, .int p1, .int 0, .int 0, .ref w1, .ref w2, .ref w3]))] := hD
  refine lv_aload_n hx hb dX10_addWork_45 rfl (lv_at hl 1 rfl) ?_
  refine lv_dup hx hb dX10_addWork_46 rfl ?_
  refine va_get (D := D) (ci := 0) (v := .int 0) (C := RX10) (T := TX10) (N := 14) hx hb hts i_X10 hown hK hP 0 rfl rfl 9 (by decide) (hts _ m_368) (fun _ h9 => h9) rfl dX10_addWork_47 ?_
  refine lv_iconst (v := 1) hx hb dX10_addWork_50 (by decide) ?_
  refine lv_iadd hx hb dX10_addWork_51 ?_
  rw [show (0 + 1 : Int32) = 1 by decide]
  refine va_put (D := D) (ci := 0) (v := .int 1) (ty := .int) (C := RX10) (T := TX10) (N := 14) hx hb hts i_X10 tyX10 tyX10_ok nmX10 hown hK hP hD hS 0 rfl rfl 9 (by decide) (hts _ m_368) (fun _ h9 => h9) rfl (by decide +kernel) rfl rfl (Nat.le_of_ble_eq_true rfl) dX10_addWork_52 (fun H locs hP hD hS => ?_)
  have hP : va_P D classes [(x, .inr (0, [.ref a0, .ref a1, .ref a2, .ref a3, .ref a4, .ref a5, .ref a6, .int 0, .int 0, .int 1, .int 0, .int 0, .int 0, .int 0])), (a2, .inl (cA, 3, .inr (.inr (.inr (.inr F))))), (pp, .inr (3, [.int p0, .int p1, .int 0, .int 0, .ref w1, .ref w2, .ref w3]))] H := hP
  have hD : va_D A [(x, .inr (0, [.ref a0, .ref a1, .ref a2, .ref a3, .ref a4, .ref a5, .ref a6, .int 0, .int 0, .int 1, .int 0, .int 0, .int 0, .int 0])), (a2, .inl (cA, 3, .inr (.inr (.inr (.inr F))))), (pp, .inr (3, [.int p0, .int p1, .int 0, .int 0, .ref w1, .ref w2, .ref w3]))] := hD
  refine lv_aload_n hx hb dX10_addWork_55 rfl (lv_at hl 1 rfl) ?_
  refine va_get (D := D) (ci := 0) (v := .int 1) (C := RX10) (T := TX10) (N := 14) hx hb hts i_X10 hown hK hP 0 rfl rfl 9 (by decide) (hts _ m_368) (fun _ h9 => h9) rfl dX10_addWork_56 ?_
  refine lv_iconst (v := 1) hx hb dX10_addWork_59 (by decide) ?_
  refine lv_isub hx hb dX10_addWork_60 ?_
  rw [show (1 - 1 : Int32) = 0 by decide]
  refine W.widen (k := 0) (n := 0) (Nat.le_of_ble_eq_true rfl) (Nat.le_of_ble_eq_true rfl) ?_
  exact W.iret (v := 0) hx hb hr (fun t ht hW => ⟨⟨0, (), rfl, rfl, trivial⟩, hS.F ht⟩) hS.2.2 dX10_addWork_61

set_option maxHeartbeats 4000000 in
set_option maxRecDepth 100000 in
theorem c_X10_pass_bad (l : Launch) (hfl : l.stackTraces = false) (z0 : Nat) (D : va_G) (g : Nat → Nat) (x a0 a1 a2 a3 a4 a5 a6 : Nat) (p0 : Int32) (h : p0 < 1 ∨ ¬ p0 ≤ 30) : vx_Met l yX10_pass (wsp yX10_pass cX10_pass 3 (some .int)) ({ frames := 7, cells := 1, slots := 6, locals := 104 }) (va_Pc [.ref x, .int p0] (PR z0 D g [(x, .inr (0, [.ref a0, .ref a1, .ref a2, .ref a3, .ref a4, .ref a5, .ref a6, .int 0, .int 0, .int 0, .int 0, .int 0, .int 0, .int 0]))])) (va_Qi (fun (r : Int32) (_ : Unit) => False) (fun _ _ => True) nA) (xE "java/lang/IllegalArgumentException") 1 6 nA := by
  refine vx_ofW (cc := cX10_pass) (maxL := 3) (ret := (some .int)) (by decide) rfl ?_
  intro p e s m args below meth c s₁ B hml htb hv
  obtain ⟨rfl, hE, hP⟩ := hv
  have hx := B.exec
  have hb := B.bytes
  have hr := B.returns
  have hts0 := atoms_spec (ws := (wsp yX10_pass cX10_pass 3 (some .int))) B.pre
  have hts : ∀ w ∈ lw_all, w.before _ s = true := fun w h => hts0 w (List.mem_cons_of_mem _ h)
  have hown : s.vm.findClass "Theatrehouse" = some m.cls := findClass_of_methodNamed B.named
  have hlocks := B.notSynchronized
  have hK := hE.K
  have hS : va_S nA s.heap s.heap [] := va_S.rf
  have hP : va_P D classes [(x, .inr (0, [.ref a0, .ref a1, .ref a2, .ref a3, .ref a4, .ref a5, .ref a6, .int 0, .int 0, .int 0, .int 0, .int 0, .int 0, .int 0]))] s.heap := hP
  have hl := lv_entry ([.ref x, .int p0]) (n := 3) (Nat.le_of_ble_eq_true rfl)
  rw [lg_entry_eq]
  generalize (lg_sl ([.ref x, .int p0]) ++ List.replicate (3 - (lg_sl ([.ref x, .int p0])).length) Slot.unset).toArray = ls at hl ⊢
  have hl : lv_has ls 3 [(0, .ref x), (1, .int p0)] := hl
  refine lv_iload_n hx hb dX10_pass_0 rfl (lv_at hl 1 rfl) ?_
  refine lv_iconst (v := 1) hx hb dX10_pass_1 (by decide) ?_
  refine lv_bipush (v := 30) hx hb dX10_pass_2 (by decide) ?_
  exact vx_callv (vx_runS (As := [.int p0, .int 1, .int 30]) (rest := []) ⟨hx, hb, hml, hown, hts⟩ (c_X10_requireRange_bad l hfl z0 D g p0 1 30 h) (va_cwS 3 hts (lw_S m_557 m_558 m_1 m_559) rfl rfl rfl (by decide +kernel) ⟨(Nat.le_of_ble_eq_true rfl), (Nat.le_of_ble_eq_true rfl)⟩) ⟨PR.blind, PR.pre hE hS nA_z va_nil⟩ rfl rfl hl.1 rfl (lv_room (Nat.le_of_ble_eq_true rfl)) dX10_pass_4 ⟨(Nat.le_of_ble_eq_true rfl), (Nat.le_of_ble_eq_true rfl)⟩) hS nA_B nA_A nA_B (fun E ce q9 u t H locs ht hvm _ hBX hz1 hk1 hS hce hcv hcl => by subst hBX; exact vx_out (fun x h => (htb x h).elim) hlocks hce hcv hcl (fun t2 ht2 _ => xE.of2 hS ht2) hS.2.2 (Nat.le_of_ble_eq_true rfl) (Nat.le_of_ble_eq_true rfl)) (fun u t H locs ht hvm hw _ _ _ _ => hw.elim)

set_option maxHeartbeats 4000000 in
set_option maxRecDepth 100000 in
theorem c_callOff (l : Launch) (z0 : Nat) (D : va_G) (g : Nat → Nat) (x y : Nat) : Met l yX10_callOff (wsp yX10_callOff cX10_callOff 2 none) ({ frames := 0, cells := 0, slots := 0, locals := 0 }) (va_Pc [.ref x, .ref y] (PR z0 D g [(y, .inr (4, [.ref (g 0), .int 0, .int 0]))])) (va_Qv (fun (_ : Unit) => True) (fun _ _ => True) nA) 0 0 nA := by
  refine Met.ofW (cc := cX10_callOff) (maxL := 2) (ret := none) (by decide) rfl ?_
  intro p e s m args below meth c s₁ B hml hv
  obtain ⟨rfl, hE, hP⟩ := hv
  have hx := B.exec
  have hb := B.bytes
  have hr := B.returns
  have hts0 := atoms_spec (ws := (wsp yX10_callOff cX10_callOff 2 none)) B.pre
  have hts : ∀ w ∈ lw_all, w.before _ s = true := fun w h => hts0 w (List.mem_cons_of_mem _ h)
  have hown : s.vm.findClass "Theatrehouse" = some m.cls := findClass_of_methodNamed B.named
  have hlocks := B.notSynchronized
  have hK := hE.K
  have hS : va_S nA s.heap s.heap [] := va_S.rf
  have hP : va_P D classes [(y, .inr (4, [.ref (g 0), .int 0, .int 0]))] s.heap := hP
  have hl := lv_entry ([.ref x, .ref y]) (n := 2) (Nat.le_of_ble_eq_true rfl)
  rw [lg_entry_eq]
  generalize (lg_sl ([.ref x, .ref y]) ++ List.replicate (2 - (lg_sl ([.ref x, .ref y])).length) Slot.unset).toArray = ls at hl ⊢
  have hl : lv_has ls 2 [(0, .ref x), (1, .ref y)] := hl
  refine lv_aload_n hx hb dX10_callOff_0 rfl (lv_at hl 1 rfl) ?_
  refine va_get (D := D) (ci := 4) (v := .ref (g 0)) (C := RX1) (T := TX1) (N := 3) hx hb hts i_X1 hown hK hP 0 rfl rfl 0 (by decide) (hts _ m_347) (fun _ h9 => h9) rfl dX10_callOff_1 ?_
  refine va_gets hx hb (hE.z nA_z (i := 1) rfl) hS hown (hts _ m_813) (fun _ h9 => h9) dX10_callOff_4 ?_
  refine lv_acmp_ne (rx := some (g 0)) (ry := some (g 1)) (tgt := 56) hx hb dX10_callOff_7 (by decide) (fun _ => ?_) (fun h9 => absurd (Option.some.inj h9) hE.x.2.2.2.1)
  refine W.widen (k := 0) (n := 0) (Nat.le_of_ble_eq_true rfl) (Nat.le_of_ble_eq_true rfl) ?_
  exact W.vret hx hb hr (fun t ht hW => ⟨⟨(), rfl, trivial, trivial⟩, hS.F ht⟩) hS.2.2 dX10_callOff_56

set_option maxHeartbeats 4000000 in
set_option maxRecDepth 100000 in
theorem pass_loop {p : Program} {l : Launch} {e : Env} {R : Room} {s : State} {m : MethodId} {args : Array Value} {below : List Frame} {meth : Method} {c : Code} {cells slots : Nat} {Q : State → Prop} {z0 : Nat} {D : va_G} {g : Nat → Nat} {A : Nat → Prop} (hfl : True) (l1 : Launch) (hl1 : l1 = l) (x a0 a1 a2 a3 a4 a5 a6 : Nat) (cE : ClassId) (F : Nat → Option Nat) (p0 : Int32) (d : Nat) (hd : d ≤ 30) (ed : p0 = nI d) (hx : p.tables.exec = Jvm.exec) (hb : c.code = cX10_pass) (hml : c.maxLocals = 3) (hts : ∀ w ∈ lw_all, w.before args s = true) (hown : s.vm.findClass "Theatrehouse" = some m.cls) (hE : EV z0 D g s s.heap) (hAz : ∀ q, A q → z0 ≤ q) (hK : va_K D classes [(cE, .object "Theatrehouse$Evening")] s) (hR : 0 + 1 ≤ R.frames ∧ 8 + (2 + 11) + 0 ≤ R.locals ∧ cells + 0 ≤ R.cells ∧ slots + 0 ≤ R.slots) (kx : ∀ (i : Int32) (H : Heap) (locs : List Loc), va_P D classes [(x, .inr (0, [.ref a0, .ref a1, .ref a2, .ref a3, .ref a4, .ref a5, .ref a6, .int 0, .int 0, .int 0, .int 0, .int 0, .int 0, .int 0])), (a3, .inl (cE, 100, .inr (.inr (.inr (.inr F)))))] H → va_D A [(x, .inr (0, [.ref a0, .ref a1, .ref a2, .ref a3, .ref a4, .ref a5, .ref a6, .int 0, .int 0, .int 0, .int 0, .int 0, .int 0, .int 0])), (a3, .inl (cE, 100, .inr (.inr (.inr (.inr F)))))] → va_S A s.heap H locs → CAL D g F H → ∀ (ls : Array Slot), lv_has ls 3 [(2, .int i), (0, .ref x), (1, .int p0)] → W p l e R s m args below meth c H locs cells slots Q (F0 m 54 ls [])) : ∀ (n k : Nat) (i : Int32) (H : Heap) (locs : List Loc), k ≤ d → d + 1 ≤ k + n → i = nI k → va_P D classes [(x, .inr (0, [.ref a0, .ref a1, .ref a2, .ref a3, .ref a4, .ref a5, .ref a6, .int 0, .int 0, .int 0, .int 0, .int 0, .int 0, .int 0])), (a3, .inl (cE, 100, .inr (.inr (.inr (.inr F)))))] H → va_D A [(x, .inr (0, [.ref a0, .ref a1, .ref a2, .ref a3, .ref a4, .ref a5, .ref a6, .int 0, .int 0, .int 0, .int 0, .int 0, .int 0, .int 0])), (a3, .inl (cE, 100, .inr (.inr (.inr (.inr F)))))] → va_S A s.heap H locs → CAL D g F H → ∀ (ls : Array Slot), lv_has ls 3 [(2, .int i), (0, .ref x), (1, .int p0)] → W p l e R s m args below meth c H locs cells slots Q (F0 m 28 ls []) := by
  subst hl1
  intro n
  induction n with
  | zero => intro k i H locs h1 h2; omega
  | succ n ih =>
    intro k i H locs hk hn ek hP hD hS hC ls hl
    refine lv_iload_n hx hb dX10_pass_28 rfl (lv_at hl 0 rfl) ?_
    refine lv_aload_n hx hb dX10_pass_29 rfl (lv_at hl 1 rfl) ?_
    refine va_get (D := D) (ci := 0) (v := .int 0) (C := RX10) (T := TX10) (N := 14) hx hb hts i_X10 hown hK hP 0 rfl rfl 10 (by decide) (hts _ m_369) (fun _ h9 => h9) rfl dX10_pass_30 ?_
    refine lv_iload_n hx hb dX10_pass_33 rfl (lv_at hl 2 rfl) ?_
    refine lv_iadd hx hb dX10_pass_34 ?_
    refine lv_icmp_ge (tgt := 54) hx hb dX10_pass_35 (by decide) (fun c_35 => ?_) (fun c_35 => ?_)
    · exact kx i H locs hP hD hS hC ls hl
    · have hk2 : k < d := by
        rcases Nat.lt_or_ge k d with h9 | h9
        · exact h9
        · exact absurd (by rw [Int32.zero_add, ek, ed]; exact nI_le h9 (by omega)) c_35
      have hk3 : k < d := hk2
      have hk2 : k < 100 := by omega
      refine lv_aload_n hx hb dX10_pass_38 rfl (lv_at hl 1 rfl) ?_
      refine lv_aload_n hx hb dX10_pass_39 rfl (lv_at hl 1 rfl) ?_
      refine va_get (D := D) (ci := 0) (v := .ref a3) (C := RX10) (T := TX10) (N := 14) hx hb hts i_X10 hown hK hP 0 rfl rfl 3 (by decide) (hts _ m_362) (fun _ h9 => h9) rfl dX10_pass_40 ?_
      refine lv_iload_n hx hb dX10_pass_43 rfl (lv_at hl 0 rfl) ?_
      obtain ⟨y_1, hF9, hP9⟩ := hC k hk2
      have hP := hP.app hP9
      have hP : va_P D classes [(x, .inr (0, [.ref a0, .ref a1, .ref a2, .ref a3, .ref a4, .ref a5, .ref a6, .int 0, .int 0, .int 0, .int 0, .int 0, .int 0, .int 0])), (a3, .inl (cE, 100, .inr (.inr (.inr (.inr F))))), (y_1, .inr (4, [.ref (g 0), .int 0, .int 0]))] _ := hP
      refine va_aldq (i := i) hx hb hK hP 1 0 rfl rfl (by rw [ek]; exact vp_in_nI hk2 (by decide)) dX10_pass_44 ?_
      rw [show F (Int32.toNatClampNeg i) = some y_1 from (by rw [ek, nI_clamp (by omega)]; exact hF9)]
      refine W.eq (g2 := F0 m 45 ls [.ref y_1, .ref x]) rfl ?_
      have hc_2 := hP.sub (ws' := [(y_1, .inr (4, [.ref (g 0), .int 0, .int 0]))]) [2] rfl
      refine va_callv (va_runV (As := [.ref y_1]) (rest := []) ⟨hx, hb, hml, hown, hts⟩ (c_callOff l1 z0 D g x y_1) (cwV 1 hts (lw_V m_859 m_861 mp_18 m_1 m_862) rfl rfl rfl (by decide +kernel) ⟨hR.1, hR.2.1⟩) ⟨PR.blind, va_recv hK hP (ci := 0) (q0 := 0) rfl rfl, PR.pre hE hS hAz hc_2⟩ rfl rfl hl.1 rfl (lv_room (Nat.le_of_ble_eq_true rfl)) dX10_pass_45 ⟨hR.2.2.1, hR.2.2.2⟩) hS nA_B nA_A (fun u_4 t H locs ht hvm hw hB hz1 hk1 hS => ?_)
      have hC := hC.old hk1
      have hP := hP.old hk1
      have hP : va_P D classes [(x, .inr (0, [.ref a0, .ref a1, .ref a2, .ref a3, .ref a4, .ref a5, .ref a6, .int 0, .int 0, .int 0, .int 0, .int 0, .int 0, .int 0])), (a3, .inl (cE, 100, .inr (.inr (.inr (.inr F))))), (y_1, .inr (4, [.ref (g 0), .int 0, .int 0]))] H := hP
      refine lv_iinc (v := (i + 1)) (lv' := [(2, .int (i + 1)), (0, .ref x), (1, .int p0)]) hx hb dX10_pass_48 hl (k := 0) rfl rfl (by decide) rfl (fun ls hl => ?_)
      refine lv_goto (tgt := 28) hx hb dX10_pass_51 (by decide) ?_
      have hP := hP.sub (ws' := [(x, .inr (0, [.ref a0, .ref a1, .ref a2, .ref a3, .ref a4, .ref a5, .ref a6, .int 0, .int 0, .int 0, .int 0, .int 0, .int 0, .int 0])), (a3, .inl (cE, 100, .inr (.inr (.inr (.inr F)))))]) [0, 1] rfl
      exact ih (k + 1) (i + 1) H locs (by omega) (by omega) (by rw [ek]; exact nI_1 k) hP hD hS hC ls (lv_sub hl [0, 1, 2] rfl)

set_option maxHeartbeats 4000000 in
set_option maxRecDepth 100000 in
theorem c_X10_pass_ok (l : Launch) (z0 : Nat) (D : va_G) (g : Nat → Nat) (sz : Nat) (x a0 a1 a2 a3 a4 a5 a6 : Nat) (cE : ClassId) (F : Nat → Option Nat) (p0 : Int32) (d : Nat) (hd : d ≤ 30) (ed : p0 = nI d) (h1 : ¬ p0 < 1) (h2 : p0 ≤ 30) (h3 : ¬ (0 + p0) < 0) (h4 : (0 + p0) ≤ 99) : Met l yX10_pass (wsp yX10_pass cX10_pass 3 (some .int)) ({ frames := 1, cells := 0, slots := 0, locals := 22 }) (va_Pc [.ref x, .int p0] (PMT z0 D g [(cE, .object "Theatrehouse$Evening")] sz [(x, .inr (0, [.ref a0, .ref a1, .ref a2, .ref a3, .ref a4, .ref a5, .ref a6, .int 0, .int 0, .int 0, .int 0, .int 0, .int 0, .int 0])), (a3, .inl (cE, 100, .inr (.inr (.inr (.inr F)))))] (CAL D g F))) (va_Qi (fun (r : Int32) (_ : Unit) => r = 0 + p0) (fun _ _ => True) (va_A [(x, .inr (0, [.ref a0, .ref a1, .ref a2, .ref a3, .ref a4, .ref a5, .ref a6, .int 0, .int 0, .int 0, .int 0, .int 0, .int 0, .int 0])), (a3, .inl (cE, 100, .inr (.inr (.inr (.inr F)))))] sz)) 0 0 (va_A [(x, .inr (0, [.ref a0, .ref a1, .ref a2, .ref a3, .ref a4, .ref a5, .ref a6, .int 0, .int 0, .int 0, .int 0, .int 0, .int 0, .int 0])), (a3, .inl (cE, 100, .inr (.inr (.inr (.inr F)))))] sz) := by
  refine Met.ofW (cc := cX10_pass) (maxL := 3) (ret := (some .int)) (by decide) rfl ?_
  intro p e s m args below meth c s₁ B hml hv
  obtain ⟨rfl, ⟨hsz9, hz0, hE, hP, hD0⟩, hK, hC⟩ := hv
  have hx := B.exec
  have hb := B.bytes
  have hr := B.returns
  have hts0 := atoms_spec (ws := (wsp yX10_pass cX10_pass 3 (some .int))) B.pre
  have hts : ∀ w ∈ lw_all, w.before _ s = true := fun w h => hts0 w (List.mem_cons_of_mem _ h)
  have hown : s.vm.findClass "Theatrehouse" = some m.cls := findClass_of_methodNamed B.named
  have hlocks := B.notSynchronized
  subst hsz9
  have hsz := hz0
  have hAz : ∀ q, va_A [(x, .inr (0, [.ref a0, .ref a1, .ref a2, .ref a3, .ref a4, .ref a5, .ref a6, .int 0, .int 0, .int 0, .int 0, .int 0, .int 0, .int 0])), (a3, .inl (cE, 100, .inr (.inr (.inr (.inr F)))))] s.heap.size q → z0 ≤ q := vaA_z hz0 hD0
  have hD := hD0.self (sz := s.heap.size)
  generalize hAe : va_A [(x, .inr (0, [.ref a0, .ref a1, .ref a2, .ref a3, .ref a4, .ref a5, .ref a6, .int 0, .int 0, .int 0, .int 0, .int 0, .int 0, .int 0])), (a3, .inl (cE, 100, .inr (.inr (.inr (.inr F)))))] s.heap.size = A at hD hAz ⊢
  have hA : ∀ q : Nat, s.heap.size ≤ q → A q := fun q h => by rw [← hAe]; exact Or.inr h
  have hS : va_S A s.heap s.heap [] := va_S.rf
  have hP : va_P D classes [(x, .inr (0, [.ref a0, .ref a1, .ref a2, .ref a3, .ref a4, .ref a5, .ref a6, .int 0, .int 0, .int 0, .int 0, .int 0, .int 0, .int 0])), (a3, .inl (cE, 100, .inr (.inr (.inr (.inr F)))))] s.heap := hP
  have hl := lv_entry ([.ref x, .int p0]) (n := 3) (Nat.le_of_ble_eq_true rfl)
  rw [lg_entry_eq]
  generalize (lg_sl ([.ref x, .int p0]) ++ List.replicate (3 - (lg_sl ([.ref x, .int p0])).length) Slot.unset).toArray = ls at hl ⊢
  have hl : lv_has ls 3 [(0, .ref x), (1, .int p0)] := hl
  refine lv_iload_n hx hb dX10_pass_0 rfl (lv_at hl 1 rfl) ?_
  refine lv_iconst (v := 1) hx hb dX10_pass_1 (by decide) ?_
  refine lv_bipush (v := 30) hx hb dX10_pass_2 (by decide) ?_
  refine va_callv (va_runS (As := [.int p0, .int 1, .int 30]) (rest := []) ⟨hx, hb, hml, hown, hts⟩ (c_X10_requireRange_ok l z0 D g p0 1 30 h1 h2) (va_cwS 3 hts (lw_S m_557 m_558 m_1 m_559) rfl rfl rfl (by decide +kernel) ⟨(Nat.le_of_ble_eq_true rfl), (Nat.le_of_ble_eq_true rfl)⟩) ⟨PR.blind, PR.pre hE hS hAz va_nil⟩ rfl rfl hl.1 rfl (lv_room (Nat.le_of_ble_eq_true rfl)) dX10_pass_4 ⟨(Nat.le_of_ble_eq_true rfl), (Nat.le_of_ble_eq_true rfl)⟩) hS nA_B nA_A (fun u_3 t H locs ht hvm hw hB hz1 hk1 hS => ?_)
  have hC := hC.old hk1
  have hP := hP.old hk1
  have hP : va_P D classes [(x, .inr (0, [.ref a0, .ref a1, .ref a2, .ref a3, .ref a4, .ref a5, .ref a6, .int 0, .int 0, .int 0, .int 0, .int 0, .int 0, .int 0])), (a3, .inl (cE, 100, .inr (.inr (.inr (.inr F)))))] H := hP
  refine lv_aload_n hx hb dX10_pass_7 rfl (lv_at hl 0 rfl) ?_
  refine va_get (D := D) (ci := 0) (v := .int 0) (C := RX10) (T := TX10) (N := 14) hx hb hts i_X10 hown hK hP 0 rfl rfl 10 (by decide) (hts _ m_369) (fun _ h9 => h9) rfl dX10_pass_8 ?_
  refine lv_iload_n hx hb dX10_pass_11 rfl (lv_at hl 1 rfl) ?_
  refine lv_iadd hx hb dX10_pass_12 ?_
  refine lv_iconst (v := 0) hx hb dX10_pass_13 (by decide) ?_
  refine lv_bipush (v := 99) hx hb dX10_pass_14 (by decide) ?_
  refine va_callv (va_runS (As := [.int (0 + p0), .int 0, .int 99]) (rest := []) ⟨hx, hb, hml, hown, hts⟩ (c_X10_requireRange_ok l z0 D g (0 + p0) 0 99 h3 h4) (va_cwS 3 hts (lw_S m_557 m_558 m_1 m_559) rfl rfl rfl (by decide +kernel) ⟨(Nat.le_of_ble_eq_true rfl), (Nat.le_of_ble_eq_true rfl)⟩) ⟨PR.blind, PR.pre hE hS hAz va_nil⟩ rfl rfl hl.1 rfl (lv_room (Nat.le_of_ble_eq_true rfl)) dX10_pass_16 ⟨(Nat.le_of_ble_eq_true rfl), (Nat.le_of_ble_eq_true rfl)⟩) hS nA_B nA_A (fun u_6 t H locs ht hvm hw hB hz1 hk1 hS => ?_)
  have hC := hC.old hk1
  have hP := hP.old hk1
  have hP : va_P D classes [(x, .inr (0, [.ref a0, .ref a1, .ref a2, .ref a3, .ref a4, .ref a5, .ref a6, .int 0, .int 0, .int 0, .int 0, .int 0, .int 0, .int 0])), (a3, .inl (cE, 100, .inr (.inr (.inr (.inr F)))))] H := hP
  refine lv_aload_n hx hb dX10_pass_19 rfl (lv_at hl 0 rfl) ?_
  have hc_7 := hP.sub (ws' := [(x, .inr (0, [.ref a0, .ref a1, .ref a2, .ref a3, .ref a4, .ref a5, .ref a6, .int 0, .int 0, .int 0, .int 0, .int 0, .int 0, .int 0]))]) [0] rfl
  refine va_callv (va_runV (As := []) (rest := []) ⟨hx, hb, hml, hown, hts⟩ (c_X10_requireNoShow l z0 D g x a0 a1 a2 a3 a4 a5 a6) (cwV 0 hts (lw_V m_651 m_653 mp_10 m_1 m_654) rfl rfl rfl (by decide +kernel) ⟨(Nat.le_of_ble_eq_true rfl), (Nat.le_of_ble_eq_true rfl)⟩) ⟨PR.blind, va_recv hK hP (ci := 0) (q0 := 0) rfl rfl, PR.pre hE hS hAz hc_7⟩ rfl rfl hl.1 rfl (lv_room (Nat.le_of_ble_eq_true rfl)) dX10_pass_20 ⟨(Nat.le_of_ble_eq_true rfl), (Nat.le_of_ble_eq_true rfl)⟩) hS nA_B nA_A (fun u_9 t H locs ht hvm hw hB hz1 hk1 hS => ?_)
  have hC := hC.old hk1
  have hP := hP.old hk1
  have hP : va_P D classes [(x, .inr (0, [.ref a0, .ref a1, .ref a2, .ref a3, .ref a4, .ref a5, .ref a6, .int 0, .int 0, .int 0, .int 0, .int 0, .int 0, .int 0])), (a3, .inl (cE, 100, .inr (.inr (.inr (.inr F)))))] H := hP
  refine lv_aload_n hx hb dX10_pass_23 rfl (lv_at hl 0 rfl) ?_
  refine va_get (D := D) (ci := 0) (v := .int 0) (C := RX10) (T := TX10) (N := 14) hx hb hts i_X10 hown hK hP 0 rfl rfl 10 (by decide) (hts _ m_369) (fun _ h9 => h9) rfl dX10_pass_24 ?_
  refine lv_istore_n (lv' := [(2, .int 0), (0, .ref x), (1, .int p0)]) hx hb dX10_pass_27 rfl hl (by decide) rfl (fun ls hl => ?_)
  refine pass_loop trivial l rfl x a0 a1 a2 a3 a4 a5 a6 cE F p0 d hd ed hx hb hml hts hown hE hAz hK ⟨(Nat.le_of_ble_eq_true rfl), (Nat.le_of_ble_eq_true rfl), (Nat.le_of_ble_eq_true rfl), (Nat.le_of_ble_eq_true rfl)⟩ (fun i H locs hP hD hS hC ls hl => ?_) (d + 1) 0 0 _ _ (by omega) (by omega) nI_0.symm hP hD hS hC ls (lv_sub hl [0, 1, 2] rfl)
  refine lv_iconst (v := 0) hx hb dX10_pass_54 (by decide) ?_
  refine lv_istore_n (lv' := [(2, .int 0), (0, .ref x), (1, .int p0)]) hx hb dX10_pass_55 rfl hl (by decide) rfl (fun ls hl => ?_)
  refine lv_iload_n hx hb dX10_pass_56 rfl (lv_at hl 0 rfl) ?_
  refine lv_aload_n hx hb dX10_pass_57 rfl (lv_at hl 1 rfl) ?_
  refine va_get (D := D) (ci := 0) (v := .int 0) (C := RX10) (T := TX10) (N := 14) hx hb hts i_X10 hown hK hP 0 rfl rfl 7 (by decide) (hts _ m_366) (fun _ h9 => h9) rfl dX10_pass_58 ?_
  refine lv_icmp_ge (tgt := 80) hx hb dX10_pass_61 (by decide) (fun _ => ?_) (fun h9 => absurd (by decide) h9)
  refine lv_aload_n hx hb dX10_pass_80 rfl (lv_at hl 1 rfl) ?_
  refine lv_dup hx hb dX10_pass_81 rfl ?_
  refine va_get (D := D) (ci := 0) (v := .int 0) (C := RX10) (T := TX10) (N := 14) hx hb hts i_X10 hown hK hP 0 rfl rfl 10 (by decide) (hts _ m_369) (fun _ h9 => h9) rfl dX10_pass_82 ?_
  refine lv_iload_n hx hb dX10_pass_85 rfl (lv_at hl 2 rfl) ?_
  refine lv_iadd hx hb dX10_pass_86 ?_
  refine va_put (D := D) (ci := 0) (v := .int (0 + p0)) (ty := .int) (C := RX10) (T := TX10) (N := 14) hx hb hts i_X10 tyX10 tyX10_ok nmX10 hown hK hP hD hS 0 rfl rfl 10 (by decide) (hts _ m_369) (fun _ h9 => h9) rfl (by decide +kernel) rfl rfl (Nat.le_of_ble_eq_true rfl) dX10_pass_87 (fun H locs hP hD hS => ?_)
  have hP : va_P D classes [(x, .inr (0, [.ref a0, .ref a1, .ref a2, .ref a3, .ref a4, .ref a5, .ref a6, .int 0, .int 0, .int 0, .int (0 + p0), .int 0, .int 0, .int 0])), (a3, .inl (cE, 100, .inr (.inr (.inr (.inr F)))))] H := hP
  have hD : va_D A [(x, .inr (0, [.ref a0, .ref a1, .ref a2, .ref a3, .ref a4, .ref a5, .ref a6, .int 0, .int 0, .int 0, .int (0 + p0), .int 0, .int 0, .int 0])), (a3, .inl (cE, 100, .inr (.inr (.inr (.inr F)))))] := hD
  refine lv_aload_n hx hb dX10_pass_90 rfl (lv_at hl 1 rfl) ?_
  refine va_get (D := D) (ci := 0) (v := .int (0 + p0)) (C := RX10) (T := TX10) (N := 14) hx hb hts i_X10 hown hK hP 0 rfl rfl 10 (by decide) (hts _ m_369) (fun _ h9 => h9) rfl dX10_pass_91 ?_
  refine W.widen (k := 0) (n := 0) (Nat.le_of_ble_eq_true rfl) (Nat.le_of_ble_eq_true rfl) ?_
  exact W.iret (v := (0 + p0)) hx hb hr (fun t ht hW => ⟨⟨(0 + p0), (), rfl, rfl, trivial⟩, hS.F ht⟩) hS.2.2 dX10_pass_94
