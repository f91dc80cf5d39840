theorem m_1 : (Cond.initialized "Theatrehouse") ∈ lw_all := lw_in 1 (by decide +kernel) (by decide +kernel)
theorem m_21 : (Cond.initialized "java/lang/IllegalArgumentException") ∈ lw_all := lw_in 21 (by decide +kernel) (by decide +kernel)
theorem m_22 : (Cond.initialized "java/lang/IllegalStateException") ∈ lw_all := lw_in 22 (by decide +kernel) (by decide +kernel)
theorem m_28 : (Cond.initialized "java/lang/IndexOutOfBoundsException") ∈ lw_all := lw_in 28 (by decide +kernel) (by decide +kernel)
theorem m_62 : (Cond.initialized "java/lang/ArithmeticException") ∈ lw_all := lw_in 62 (by decide +kernel) (by decide +kernel)
theorem m_366 : (Cond.fieldLink "Theatrehouse" 54 "Theatrehouse" "peopleCount" "I") ∈ lw_all := lw_in 366 (by decide +kernel) (by decide +kernel)
theorem m_367 : (Cond.fieldLink "Theatrehouse" 58 "Theatrehouse" "machineCount" "I") ∈ lw_all := lw_in 367 (by decide +kernel) (by decide +kernel)
theorem m_368 : (Cond.fieldLink "Theatrehouse" 61 "Theatrehouse" "workCount" "I") ∈ lw_all := lw_in 368 (by decide +kernel) (by decide +kernel)
theorem m_369 : (Cond.fieldLink "Theatrehouse" 64 "Theatrehouse" "today" "I") ∈ lw_all := lw_in 369 (by decide +kernel) (by decide +kernel)
theorem m_370 : (Cond.fieldLink "Theatrehouse" 67 "Theatrehouse" "showIsOn" "Z") ∈ lw_all := lw_in 370 (by decide +kernel) (by decide +kernel)
theorem m_371 : (Cond.fieldLink "Theatrehouse" 71 "Theatrehouse" "endedCount" "I") ∈ lw_all := lw_in 371 (by decide +kernel) (by decide +kernel)
theorem m_560 : (Cond.classLink "Theatrehouse" 179 "java/lang/IllegalArgumentException") ∈ lw_all := lw_in 560 (by decide +kernel) (by decide +kernel)
theorem m_635 : (Cond.classLink "Theatrehouse" 392 "java/lang/IllegalStateException") ∈ lw_all := lw_in 635 (by decide +kernel) (by decide +kernel)
theorem m_687 : (Cond.methodLink "Theatrehouse" 101 ⟨"Theatrehouse", "requirePerson", "(I)V"⟩) ∈ lw_all := lw_in 687 (by decide +kernel) (by decide +kernel)
theorem m_689 : (Cond.instanceMethod ⟨"Theatrehouse", "requirePerson", "(I)V"⟩) ∈ lw_all := lw_in 689 (by decide +kernel) (by decide +kernel)
theorem m_690 : (Cond.code ⟨"Theatrehouse", "requirePerson", "(I)V"⟩ prog_1_method_40_code 2 (Option.none : Option Jvm.ClassFile.FieldType)) ∈ lw_all := lw_in 690 (by decide +kernel) (by decide +kernel)
theorem m_691 : (Cond.methodLink "Theatrehouse" 399 ⟨"Theatrehouse", "isPerson", "(I)Z"⟩) ∈ lw_all := lw_in 691 (by decide +kernel) (by decide +kernel)
theorem m_693 : (Cond.instanceMethod ⟨"Theatrehouse", "isPerson", "(I)Z"⟩) ∈ lw_all := lw_in 693 (by decide +kernel) (by decide +kernel)
theorem m_694 : (Cond.code ⟨"Theatrehouse", "isPerson", "(I)Z"⟩ prog_1_method_47_code 2 (Option.some Jvm.ClassFile.FieldType.boolean)) ∈ lw_all := lw_in 694 (by decide +kernel) (by decide +kernel)
theorem m_695 : (Cond.classLink "Theatrehouse" 141 "java/lang/IndexOutOfBoundsException") ∈ lw_all := lw_in 695 (by decide +kernel) (by decide +kernel)
theorem m_733 : (Cond.methodLink "Theatrehouse" 120 ⟨"Theatrehouse", "requireMachine", "(I)V"⟩) ∈ lw_all := lw_in 733 (by decide +kernel) (by decide +kernel)
theorem m_735 : (Cond.instanceMethod ⟨"Theatrehouse", "requireMachine", "(I)V"⟩) ∈ lw_all := lw_in 735 (by decide +kernel) (by decide +kernel)
theorem m_736 : (Cond.code ⟨"Theatrehouse", "requireMachine", "(I)V"⟩ prog_1_method_41_code 2 (Option.none : Option Jvm.ClassFile.FieldType)) ∈ lw_all := lw_in 736 (by decide +kernel) (by decide +kernel)
theorem m_753 : (Cond.methodLink "Theatrehouse" 138 ⟨"Theatrehouse", "requireWork", "(I)V"⟩) ∈ lw_all := lw_in 753 (by decide +kernel) (by decide +kernel)
theorem m_755 : (Cond.instanceMethod ⟨"Theatrehouse", "requireWork", "(I)V"⟩) ∈ lw_all := lw_in 755 (by decide +kernel) (by decide +kernel)
theorem m_756 : (Cond.code ⟨"Theatrehouse", "requireWork", "(I)V"⟩ prog_1_method_42_code 2 (Option.none : Option Jvm.ClassFile.FieldType)) ∈ lw_all := lw_in 756 (by decide +kernel) (by decide +kernel)
theorem m_911 : (Cond.methodLink "Theatrehouse" 273 ⟨"Theatrehouse", "requireShow", "()V"⟩) ∈ lw_all := lw_in 911 (by decide +kernel) (by decide +kernel)
theorem m_913 : (Cond.instanceMethod ⟨"Theatrehouse", "requireShow", "()V"⟩) ∈ lw_all := lw_in 913 (by decide +kernel) (by decide +kernel)
theorem m_914 : (Cond.code ⟨"Theatrehouse", "requireShow", "()V"⟩ prog_1_method_44_code 1 (Option.none : Option Jvm.ClassFile.FieldType)) ∈ lw_all := lw_in 914 (by decide +kernel) (by decide +kernel)
theorem m_1016 : (Cond.methodLink "Theatrehouse" 337 ⟨"Theatrehouse", "requireToldOrders", "()V"⟩) ∈ lw_all := lw_in 1016 (by decide +kernel) (by decide +kernel)
theorem m_1018 : (Cond.instanceMethod ⟨"Theatrehouse", "requireToldOrders", "()V"⟩) ∈ lw_all := lw_in 1018 (by decide +kernel) (by decide +kernel)
theorem m_1019 : (Cond.code ⟨"Theatrehouse", "requireToldOrders", "()V"⟩ prog_1_method_46_code 1 (Option.none : Option Jvm.ClassFile.FieldType)) ∈ lw_all := lw_in 1019 (by decide +kernel) (by decide +kernel)
theorem m_1100 : (Cond.classLink "Theatrehouse" 369 "java/lang/ArithmeticException") ∈ lw_all := lw_in 1100 (by decide +kernel) (by decide +kernel)
theorem mp_11 : (Cond.selects "Theatrehouse" ⟨"Theatrehouse", "requirePerson", "(I)V"⟩ ⟨"Theatrehouse", "requirePerson", "(I)V"⟩) ∈ lw_all := lw_inp 11 (by decide +kernel) (by decide +kernel)
theorem mp_12 : (Cond.selects "Theatrehouse" ⟨"Theatrehouse", "isPerson", "(I)Z"⟩ ⟨"Theatrehouse", "isPerson", "(I)Z"⟩) ∈ lw_all := lw_inp 12 (by decide +kernel) (by decide +kernel)
theorem mp_13 : (Cond.selects "Theatrehouse" ⟨"Theatrehouse", "requireMachine", "(I)V"⟩ ⟨"Theatrehouse", "requireMachine", "(I)V"⟩) ∈ lw_all := lw_inp 13 (by decide +kernel) (by decide +kernel)
theorem mp_14 : (Cond.selects "Theatrehouse" ⟨"Theatrehouse", "requireWork", "(I)V"⟩ ⟨"Theatrehouse", "requireWork", "(I)V"⟩) ∈ lw_all := lw_inp 14 (by decide +kernel) (by decide +kernel)
theorem mp_21 : (Cond.selects "Theatrehouse" ⟨"Theatrehouse", "requireShow", "()V"⟩ ⟨"Theatrehouse", "requireShow", "()V"⟩) ∈ lw_all := lw_inp 21 (by decide +kernel) (by decide +kernel)
theorem mp_24 : (Cond.selects "Theatrehouse" ⟨"Theatrehouse", "requireToldOrders", "()V"⟩ ⟨"Theatrehouse", "requireToldOrders", "()V"⟩) ∈ lw_all := lw_inp 24 (by decide +kernel) (by decide +kernel)
theorem i_X10 : ∀ w ∈ u_ws RX10 TX10 14, w ∈ lw_all := by decide +kernel
theorem i_X4 : ∀ w ∈ u_ws RX4 TX4 6, w ∈ lw_all := by decide +kernel
theorem i_X2 : ∀ w ∈ u_ws RX2 TX2 5, w ∈ lw_all := by decide +kernel
theorem i_X9 : ∀ w ∈ u_ws RX9 TX9 7, w ∈ lw_all := by decide +kernel
theorem i_X1 : ∀ w ∈ u_ws RX1 TX1 3, w ∈ lw_all := by decide +kernel
theorem i_X6 : ∀ w ∈ u_ws RX6 TX6 10, w ∈ lw_all := by decide +kernel
theorem i_X5 : ∀ w ∈ u_ws RX5 TX5 13, w ∈ lw_all := by decide +kernel
theorem i_X8 : ∀ w ∈ u_ws RX8 TX8 5, w ∈ lw_all := by decide +kernel
theorem i_X0 : ∀ w ∈ u_ws RX0 TX0 5, w ∈ lw_all := by decide +kernel
theorem i_X18 : ∀ w ∈ u_ws RX18 TX18 15, w ∈ lw_all := by decide +kernel
theorem i_Jx4a65c : ∀ w ∈ u_ws RJx4a65c TJx4a65c 3, w ∈ lw_all := by decide +kernel
theorem i_X28 : ∀ w ∈ u_ws RX28 TX28 9, w ∈ lw_all := by decide +kernel
theorem i_X15 : ∀ w ∈ u_ws RX15 TX15 6, w ∈ lw_all := by decide +kernel
theorem i_X14 : ∀ w ∈ u_ws RX14 TX14 5, w ∈ lw_all := by decide +kernel
theorem i_X17 : ∀ w ∈ u_ws RX17 TX17 5, w ∈ lw_all := by decide +kernel
theorem i_Jx35411 : ∀ w ∈ u_ws RJx35411 TJx35411 4, w ∈ lw_all := by decide +kernel
theorem i_X27 : ∀ w ∈ u_ws RX27 TX27 1, w ∈ lw_all := by decide +kernel
theorem i_X26 : ∀ w ∈ u_ws RX26 TX26 4, w ∈ lw_all := by decide +kernel
theorem i_J6 : ∀ w ∈ u_ws RJ6 TJ6 1, w ∈ lw_all := by decide +kernel
theorem tha_X10_145 : (vx_atS "Theatrehouse" 145 "java/lang/IndexOutOfBoundsException" ["java/lang/RuntimeException", "java/lang/Exception"]).all (fun w => decide (w ∈ lw_tbl) && (goodWord w || ng_ok w)) = true := by decide +kernel
theorem thg_X10_145 : ∀ w ∈ Cond.classLink "Theatrehouse" 141 "java/lang/IndexOutOfBoundsException" :: Cond.initialized "java/lang/IndexOutOfBoundsException" :: vx_atS "Theatrehouse" 145 "java/lang/IndexOutOfBoundsException" ["java/lang/RuntimeException", "java/lang/Exception"], vx_ot w = true := by decide +kernel
theorem tha_X10_183 : (vx_atS "Theatrehouse" 183 "java/lang/IllegalArgumentException" ["java/lang/RuntimeException", "java/lang/Exception"]).all (fun w => decide (w ∈ lw_tbl) && (goodWord w || ng_ok w)) = true := by decide +kernel
theorem thg_X10_183 : ∀ w ∈ Cond.classLink "Theatrehouse" 179 "java/lang/IllegalArgumentException" :: Cond.initialized "java/lang/IllegalArgumentException" :: vx_atS "Theatrehouse" 183 "java/lang/IllegalArgumentException" ["java/lang/RuntimeException", "java/lang/Exception"], vx_ot w = true := by decide +kernel
theorem tha_X10_373 : (vx_atS "Theatrehouse" 373 "java/lang/ArithmeticException" ["java/lang/RuntimeException", "java/lang/Exception"]).all (fun w => decide (w ∈ lw_tbl) && (goodWord w || ng_ok w)) = true := by decide +kernel
theorem thg_X10_373 : ∀ w ∈ Cond.classLink "Theatrehouse" 369 "java/lang/ArithmeticException" :: Cond.initialized "java/lang/ArithmeticException" :: vx_atS "Theatrehouse" 373 "java/lang/ArithmeticException" ["java/lang/RuntimeException", "java/lang/Exception"], vx_ot w = true := by decide +kernel
theorem tha_X10_396 : (vx_atS "Theatrehouse" 396 "java/lang/IllegalStateException" ["java/lang/RuntimeException", "java/lang/Exception"]).all (fun w => decide (w ∈ lw_tbl) && (goodWord w || ng_ok w)) = true := by decide +kernel
theorem thg_X10_396 : ∀ w ∈ Cond.classLink "Theatrehouse" 392 "java/lang/IllegalStateException" :: Cond.initialized "java/lang/IllegalStateException" :: vx_atS "Theatrehouse" 396 "java/lang/IllegalStateException" ["java/lang/RuntimeException", "java/lang/Exception"], vx_ot w = true := by decide +kernel
