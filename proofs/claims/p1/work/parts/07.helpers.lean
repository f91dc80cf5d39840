theorem dL_addCue_0 : decode cL_addCue 0 = .ok (.aload 7, 2) := by decide +kernel
theorem dL_addCue_2 : decode cL_addCue 2 = .ok (.iconst 0, 1) := by decide +kernel
theorem dL_addCue_3 : decode cL_addCue 3 = .ok (.aload_n 0, 1) := by decide +kernel
theorem dL_addCue_4 : decode cL_addCue 4 = .ok (.iload_n 1, 1) := by decide +kernel
theorem dL_addCue_5 : decode cL_addCue 5 = .ok (.iload_n 2, 1) := by decide +kernel
theorem dL_addCue_6 : decode cL_addCue 6 = .ok (.iload_n 3, 1) := by decide +kernel
theorem dL_addCue_7 : decode cL_addCue 7 = .ok (.iload 4, 2) := by decide +kernel
theorem dL_addCue_9 : decode cL_addCue 9 = .ok (.iload 5, 2) := by decide +kernel
theorem dL_addCue_11 : decode cL_addCue 11 = .ok (.iload 6, 2) := by decide +kernel
theorem dL_addCue_13 : decode cL_addCue 13 = .ok (.invokevirtual 41, 3) := by decide +kernel
theorem dL_addCue_21 : decode cL_addCue 21 = .ok (.astore 8, 2) := by decide +kernel
theorem dL_addCue_23 : decode cL_addCue 23 = .ok (.iconst 1, 1) := by decide +kernel
theorem dL_addCue_24 : decode cL_addCue 24 = .ok (.ireturn, 1) := by decide +kernel
theorem dL_balance_0 : decode cL_balance 0 = .ok (.aload_n 2, 1) := by decide +kernel
theorem dL_balance_1 : decode cL_balance 1 = .ok (.iconst 0, 1) := by decide +kernel
theorem dL_balance_2 : decode cL_balance 2 = .ok (.aload_n 0, 1) := by decide +kernel
theorem dL_balance_3 : decode cL_balance 3 = .ok (.iload_n 1, 1) := by decide +kernel
theorem dL_balance_4 : decode cL_balance 4 = .ok (.invokevirtual 112, 3) := by decide +kernel
theorem dL_balance_12 : decode cL_balance 12 = .ok (.astore_n 3, 1) := by decide +kernel
theorem dL_balance_13 : decode cL_balance 13 = .ok (.iconst 1, 1) := by decide +kernel
theorem dL_balance_14 : decode cL_balance 14 = .ok (.ireturn, 1) := by decide +kernel
theorem dL_cues_0 : decode cL_cues 0 = .ok (.aload_n 2, 1) := by decide +kernel
theorem dL_cues_1 : decode cL_cues 1 = .ok (.iconst 0, 1) := by decide +kernel
theorem dL_cues_2 : decode cL_cues 2 = .ok (.aload_n 0, 1) := by decide +kernel
theorem dL_cues_3 : decode cL_cues 3 = .ok (.iload_n 1, 1) := by decide +kernel
theorem dL_cues_4 : decode cL_cues 4 = .ok (.invokevirtual 45, 3) := by decide +kernel
theorem dL_cues_12 : decode cL_cues 12 = .ok (.astore_n 3, 1) := by decide +kernel
theorem dL_cues_13 : decode cL_cues 13 = .ok (.iconst 1, 1) := by decide +kernel
theorem dL_cues_14 : decode cL_cues 14 = .ok (.ireturn, 1) := by decide +kernel
theorem dL_end_0 : decode cL_end 0 = .ok (.aload_n 1, 1) := by decide +kernel
theorem dL_end_1 : decode cL_end 1 = .ok (.iconst 0, 1) := by decide +kernel
theorem dL_end_2 : decode cL_end 2 = .ok (.aload_n 0, 1) := by decide +kernel
theorem dL_end_3 : decode cL_end 3 = .ok (.invokevirtual 74, 3) := by decide +kernel
theorem dL_end_11 : decode cL_end 11 = .ok (.astore_n 2, 1) := by decide +kernel
theorem dL_end_12 : decode cL_end 12 = .ok (.iconst 1, 1) := by decide +kernel
theorem dL_end_13 : decode cL_end 13 = .ok (.ireturn, 1) := by decide +kernel
theorem dL_fallIll_0 : decode cL_fallIll 0 = .ok (.aload_n 3, 1) := by decide +kernel
theorem dL_fallIll_1 : decode cL_fallIll 1 = .ok (.iconst 0, 1) := by decide +kernel
theorem dL_fallIll_2 : decode cL_fallIll 2 = .ok (.aload_n 0, 1) := by decide +kernel
theorem dL_fallIll_3 : decode cL_fallIll 3 = .ok (.iload_n 1, 1) := by decide +kernel
theorem dL_fallIll_4 : decode cL_fallIll 4 = .ok (.iload_n 2, 1) := by decide +kernel
theorem dL_fallIll_5 : decode cL_fallIll 5 = .ok (.invokevirtual 22, 3) := by decide +kernel
theorem dL_fallIll_13 : decode cL_fallIll 13 = .ok (.astore 4, 2) := by decide +kernel
theorem dL_fallIll_15 : decode cL_fallIll 15 = .ok (.iconst 1, 1) := by decide +kernel
theorem dL_fallIll_16 : decode cL_fallIll 16 = .ok (.ireturn, 1) := by decide +kernel
theorem dL_farthest_0 : decode cL_farthest 0 = .ok (.aload_n 1, 1) := by decide +kernel
theorem dL_farthest_1 : decode cL_farthest 1 = .ok (.iconst 0, 1) := by decide +kernel
theorem dL_farthest_2 : decode cL_farthest 2 = .ok (.aload_n 0, 1) := by decide +kernel
theorem dL_farthest_3 : decode cL_farthest 3 = .ok (.invokevirtual 102, 3) := by decide +kernel
theorem dL_farthest_11 : decode cL_farthest 11 = .ok (.astore_n 2, 1) := by decide +kernel
theorem dL_farthest_12 : decode cL_farthest 12 = .ok (.iconst 1, 1) := by decide +kernel
theorem dL_farthest_13 : decode cL_farthest 13 = .ok (.ireturn, 1) := by decide +kernel
theorem dL_hasOrder_0 : decode cL_hasOrder 0 = .ok (.aload_n 1, 1) := by decide +kernel
theorem dL_hasOrder_1 : decode cL_hasOrder 1 = .ok (.iconst 0, 1) := by decide +kernel
theorem dL_hasOrder_2 : decode cL_hasOrder 2 = .ok (.aload_n 0, 1) := by decide +kernel
theorem dL_hasOrder_3 : decode cL_hasOrder 3 = .ok (.invokevirtual 95, 3) := by decide +kernel
theorem dL_hasOrder_18 : decode cL_hasOrder 18 = .ok (.astore_n 2, 1) := by decide +kernel
theorem dL_hasOrder_19 : decode cL_hasOrder 19 = .ok (.iconst 1, 1) := by decide +kernel
theorem dL_hasOrder_20 : decode cL_hasOrder 20 = .ok (.ireturn, 1) := by decide +kernel
theorem dL_meanMinutes_0 : decode cL_meanMinutes 0 = .ok (.aload_n 1, 1) := by decide +kernel
theorem dL_meanMinutes_1 : decode cL_meanMinutes 1 = .ok (.iconst 0, 1) := by decide +kernel
theorem dL_meanMinutes_2 : decode cL_meanMinutes 2 = .ok (.aload_n 0, 1) := by decide +kernel
theorem dL_meanMinutes_3 : decode cL_meanMinutes 3 = .ok (.invokevirtual 124, 3) := by decide +kernel
theorem dL_meanMinutes_10 : decode cL_meanMinutes 10 = .ok (.astore_n 2, 1) := by decide +kernel
theorem dL_meanMinutes_11 : decode cL_meanMinutes 11 = .ok (.iconst 1, 1) := by decide +kernel
theorem dL_meanMinutes_12 : decode cL_meanMinutes 12 = .ok (.ireturn, 1) := by decide +kernel
theorem dL_minutes_0 : decode cL_minutes 0 = .ok (.aload_n 1, 1) := by decide +kernel
theorem dL_minutes_1 : decode cL_minutes 1 = .ok (.iconst 0, 1) := by decide +kernel
theorem dL_minutes_2 : decode cL_minutes 2 = .ok (.aload_n 0, 1) := by decide +kernel
theorem dL_minutes_3 : decode cL_minutes 3 = .ok (.invokevirtual 89, 3) := by decide +kernel
theorem dL_minutes_11 : decode cL_minutes 11 = .ok (.astore_n 2, 1) := by decide +kernel
theorem dL_minutes_12 : decode cL_minutes 12 = .ok (.iconst 1, 1) := by decide +kernel
theorem dL_minutes_13 : decode cL_minutes 13 = .ok (.ireturn, 1) := by decide +kernel
theorem dL_obstacle_0 : decode cL_obstacle 0 = .ok (.aload_n 2, 1) := by decide +kernel
theorem dL_obstacle_1 : decode cL_obstacle 1 = .ok (.iconst 0, 1) := by decide +kernel
theorem dL_obstacle_2 : decode cL_obstacle 2 = .ok (.aload_n 0, 1) := by decide +kernel
theorem dL_obstacle_3 : decode cL_obstacle 3 = .ok (.iload_n 1, 1) := by decide +kernel
theorem dL_obstacle_4 : decode cL_obstacle 4 = .ok (.invokevirtual 67, 3) := by decide +kernel
theorem dL_obstacle_12 : decode cL_obstacle 12 = .ok (.astore_n 3, 1) := by decide +kernel
theorem dL_obstacle_13 : decode cL_obstacle 13 = .ok (.iconst 1, 1) := by decide +kernel
theorem dL_obstacle_14 : decode cL_obstacle 14 = .ok (.ireturn, 1) := by decide +kernel
theorem dL_orderAt_0 : decode cL_orderAt 0 = .ok (.aload_n 2, 1) := by decide +kernel
theorem dL_orderAt_1 : decode cL_orderAt 1 = .ok (.iconst 0, 1) := by decide +kernel
theorem dL_orderAt_2 : decode cL_orderAt 2 = .ok (.aload_n 0, 1) := by decide +kernel
theorem dL_orderAt_3 : decode cL_orderAt 3 = .ok (.iload_n 1, 1) := by decide +kernel
theorem dL_orderAt_4 : decode cL_orderAt 4 = .ok (.invokevirtual 99, 3) := by decide +kernel
theorem dL_orderAt_12 : decode cL_orderAt 12 = .ok (.astore_n 3, 1) := by decide +kernel
theorem dL_orderAt_13 : decode cL_orderAt 13 = .ok (.iconst 1, 1) := by decide +kernel
theorem dL_orderAt_14 : decode cL_orderAt 14 = .ok (.ireturn, 1) := by decide +kernel
theorem dL_orders_0 : decode cL_orders 0 = .ok (.aload_n 1, 1) := by decide +kernel
theorem dL_orders_1 : decode cL_orders 1 = .ok (.iconst 0, 1) := by decide +kernel
theorem dL_orders_2 : decode cL_orders 2 = .ok (.aload_n 0, 1) := by decide +kernel
theorem dL_orders_3 : decode cL_orders 3 = .ok (.invokevirtual 108, 3) := by decide +kernel
theorem dL_orders_10 : decode cL_orders 10 = .ok (.astore_n 2, 1) := by decide +kernel
theorem dL_orders_11 : decode cL_orders 11 = .ok (.iconst 1, 1) := by decide +kernel
theorem dL_orders_12 : decode cL_orders 12 = .ok (.ireturn, 1) := by decide +kernel
theorem dL_perform_0 : decode cL_perform 0 = .ok (.aload_n 2, 1) := by decide +kernel
theorem dL_perform_1 : decode cL_perform 1 = .ok (.iconst 0, 1) := by decide +kernel
theorem dL_perform_2 : decode cL_perform 2 = .ok (.aload_n 0, 1) := by decide +kernel
theorem dL_perform_3 : decode cL_perform 3 = .ok (.iload_n 1, 1) := by decide +kernel
theorem dL_perform_4 : decode cL_perform 4 = .ok (.invokevirtual 64, 3) := by decide +kernel
theorem dL_perform_12 : decode cL_perform 12 = .ok (.astore_n 3, 1) := by decide +kernel
theorem dL_perform_13 : decode cL_perform 13 = .ok (.iconst 1, 1) := by decide +kernel
theorem dL_perform_14 : decode cL_perform 14 = .ok (.ireturn, 1) := by decide +kernel
theorem dL_place_0 : decode cL_place 0 = .ok (.aload_n 2, 1) := by decide +kernel
theorem dL_place_1 : decode cL_place 1 = .ok (.iconst 0, 1) := by decide +kernel
theorem dL_place_2 : decode cL_place 2 = .ok (.aload_n 0, 1) := by decide +kernel
theorem dL_place_3 : decode cL_place 3 = .ok (.iload_n 1, 1) := by decide +kernel
theorem dL_place_4 : decode cL_place 4 = .ok (.invokevirtual 86, 3) := by decide +kernel
theorem dL_place_12 : decode cL_place 12 = .ok (.astore_n 3, 1) := by decide +kernel
theorem dL_place_13 : decode cL_place 13 = .ok (.iconst 1, 1) := by decide +kernel
theorem dL_place_14 : decode cL_place 14 = .ok (.ireturn, 1) := by decide +kernel
theorem dL_plan_0 : decode cL_plan 0 = .ok (.aload_n 3, 1) := by decide +kernel
theorem dL_plan_1 : decode cL_plan 1 = .ok (.iconst 0, 1) := by decide +kernel
theorem dL_plan_2 : decode cL_plan 2 = .ok (.aload_n 0, 1) := by decide +kernel
theorem dL_plan_3 : decode cL_plan 3 = .ok (.iload_n 1, 1) := by decide +kernel
theorem dL_plan_4 : decode cL_plan 4 = .ok (.iload_n 2, 1) := by decide +kernel
theorem dL_plan_5 : decode cL_plan 5 = .ok (.invokevirtual 49, 3) := by decide +kernel
theorem dL_plan_13 : decode cL_plan 13 = .ok (.astore 4, 2) := by decide +kernel
theorem dL_plan_15 : decode cL_plan 15 = .ok (.iconst 1, 1) := by decide +kernel
theorem dL_plan_16 : decode cL_plan 16 = .ok (.ireturn, 1) := by decide +kernel
theorem dL_setCover_0 : decode cL_setCover 0 = .ok (.aload_n 3, 1) := by decide +kernel
theorem dL_setCover_1 : decode cL_setCover 1 = .ok (.iconst 0, 1) := by decide +kernel
theorem dL_setCover_2 : decode cL_setCover 2 = .ok (.aload_n 0, 1) := by decide +kernel
theorem dL_setCover_3 : decode cL_setCover 3 = .ok (.iload_n 1, 1) := by decide +kernel
theorem dL_setCover_4 : decode cL_setCover 4 = .ok (.iload_n 2, 1) := by decide +kernel
theorem dL_setCover_5 : decode cL_setCover 5 = .ok (.invokevirtual 17, 3) := by decide +kernel
theorem dL_setCover_13 : decode cL_setCover 13 = .ok (.astore 4, 2) := by decide +kernel
theorem dL_setCover_15 : decode cL_setCover 15 = .ok (.iconst 1, 1) := by decide +kernel
theorem dL_setCover_16 : decode cL_setCover 16 = .ok (.ireturn, 1) := by decide +kernel
theorem dL_setInterlock_0 : decode cL_setInterlock 0 = .ok (.aload 5, 2) := by decide +kernel
theorem dL_setInterlock_2 : decode cL_setInterlock 2 = .ok (.iconst 0, 1) := by decide +kernel
theorem dL_setInterlock_3 : decode cL_setInterlock 3 = .ok (.aload_n 0, 1) := by decide +kernel
theorem dL_setInterlock_4 : decode cL_setInterlock 4 = .ok (.iload_n 1, 1) := by decide +kernel
theorem dL_setInterlock_5 : decode cL_setInterlock 5 = .ok (.iload_n 2, 1) := by decide +kernel
theorem dL_setInterlock_6 : decode cL_setInterlock 6 = .ok (.iload_n 3, 1) := by decide +kernel
theorem dL_setInterlock_7 : decode cL_setInterlock 7 = .ok (.iload 4, 2) := by decide +kernel
theorem dL_setInterlock_9 : decode cL_setInterlock 9 = .ok (.invokevirtual 28, 3) := by decide +kernel
theorem dL_setInterlock_17 : decode cL_setInterlock 17 = .ok (.astore 6, 2) := by decide +kernel
theorem dL_setInterlock_19 : decode cL_setInterlock 19 = .ok (.iconst 1, 1) := by decide +kernel
theorem dL_setInterlock_20 : decode cL_setInterlock 20 = .ok (.ireturn, 1) := by decide +kernel
theorem dL_setRole_0 : decode cL_setRole 0 = .ok (.aload 4, 2) := by decide +kernel
theorem dL_setRole_2 : decode cL_setRole 2 = .ok (.iconst 0, 1) := by decide +kernel
theorem dL_setRole_3 : decode cL_setRole 3 = .ok (.aload_n 0, 1) := by decide +kernel
theorem dL_setRole_4 : decode cL_setRole 4 = .ok (.iload_n 1, 1) := by decide +kernel
theorem dL_setRole_5 : decode cL_setRole 5 = .ok (.iload_n 2, 1) := by decide +kernel
theorem dL_setRole_6 : decode cL_setRole 6 = .ok (.iload_n 3, 1) := by decide +kernel
theorem dL_setRole_7 : decode cL_setRole 7 = .ok (.invokevirtual 35, 3) := by decide +kernel
theorem dL_setRole_15 : decode cL_setRole 15 = .ok (.astore 5, 2) := by decide +kernel
theorem dL_setRole_17 : decode cL_setRole 17 = .ok (.iconst 1, 1) := by decide +kernel
theorem dL_setRole_18 : decode cL_setRole 18 = .ok (.ireturn, 1) := by decide +kernel
theorem dL_singer_0 : decode cL_singer 0 = .ok (.aload_n 2, 1) := by decide +kernel
theorem dL_singer_1 : decode cL_singer 1 = .ok (.iconst 0, 1) := by decide +kernel
theorem dL_singer_2 : decode cL_singer 2 = .ok (.aload_n 0, 1) := by decide +kernel
theorem dL_singer_3 : decode cL_singer 3 = .ok (.iload_n 1, 1) := by decide +kernel
theorem dL_singer_4 : decode cL_singer 4 = .ok (.invokevirtual 77, 3) := by decide +kernel
theorem dL_singer_12 : decode cL_singer 12 = .ok (.astore_n 3, 1) := by decide +kernel
theorem dL_singer_13 : decode cL_singer 13 = .ok (.iconst 1, 1) := by decide +kernel
theorem dL_singer_14 : decode cL_singer 14 = .ok (.ireturn, 1) := by decide +kernel
theorem dL_states_0 : decode cL_states 0 = .ok (.aload_n 1, 1) := by decide +kernel
theorem dL_states_1 : decode cL_states 1 = .ok (.iconst 0, 1) := by decide +kernel
theorem dL_states_2 : decode cL_states 2 = .ok (.aload_n 0, 1) := by decide +kernel
theorem dL_states_3 : decode cL_states 3 = .ok (.invokevirtual 92, 3) := by decide +kernel
theorem dL_states_11 : decode cL_states 11 = .ok (.astore_n 2, 1) := by decide +kernel
theorem dL_states_12 : decode cL_states 12 = .ok (.iconst 1, 1) := by decide +kernel
theorem dL_states_13 : decode cL_states 13 = .ok (.ireturn, 1) := by decide +kernel
theorem dL_stuck_0 : decode cL_stuck 0 = .ok (.aload_n 1, 1) := by decide +kernel
theorem dL_stuck_1 : decode cL_stuck 1 = .ok (.iconst 0, 1) := by decide +kernel
theorem dL_stuck_2 : decode cL_stuck 2 = .ok (.aload_n 0, 1) := by decide +kernel
theorem dL_stuck_3 : decode cL_stuck 3 = .ok (.invokevirtual 105, 3) := by decide +kernel
theorem dL_stuck_11 : decode cL_stuck 11 = .ok (.astore_n 2, 1) := by decide +kernel
theorem dL_stuck_12 : decode cL_stuck 12 = .ok (.iconst 1, 1) := by decide +kernel
theorem dL_stuck_13 : decode cL_stuck 13 = .ok (.ireturn, 1) := by decide +kernel
theorem dL_sung_0 : decode cL_sung 0 = .ok (.aload_n 2, 1) := by decide +kernel
theorem dL_sung_1 : decode cL_sung 1 = .ok (.iconst 0, 1) := by decide +kernel
theorem dL_sung_2 : decode cL_sung 2 = .ok (.aload_n 0, 1) := by decide +kernel
theorem dL_sung_3 : decode cL_sung 3 = .ok (.iload_n 1, 1) := by decide +kernel
theorem dL_sung_4 : decode cL_sung 4 = .ok (.invokevirtual 115, 3) := by decide +kernel
theorem dL_sung_12 : decode cL_sung 12 = .ok (.astore_n 3, 1) := by decide +kernel
theorem dL_sung_13 : decode cL_sung 13 = .ok (.iconst 1, 1) := by decide +kernel
theorem dL_sung_14 : decode cL_sung 14 = .ok (.ireturn, 1) := by decide +kernel
theorem dL_takeBack_0 : decode cL_takeBack 0 = .ok (.aload_n 1, 1) := by decide +kernel
theorem dL_takeBack_1 : decode cL_takeBack 1 = .ok (.iconst 0, 1) := by decide +kernel
theorem dL_takeBack_2 : decode cL_takeBack 2 = .ok (.aload_n 0, 1) := by decide +kernel
theorem dL_takeBack_3 : decode cL_takeBack 3 = .ok (.invokevirtual 71, 3) := by decide +kernel
theorem dL_takeBack_11 : decode cL_takeBack 11 = .ok (.astore_n 2, 1) := by decide +kernel
theorem dL_takeBack_12 : decode cL_takeBack 12 = .ok (.iconst 1, 1) := by decide +kernel
theorem dL_takeBack_13 : decode cL_takeBack 13 = .ok (.ireturn, 1) := by decide +kernel
theorem dL_voice_0 : decode cL_voice 0 = .ok (.aload_n 2, 1) := by decide +kernel
theorem dL_voice_1 : decode cL_voice 1 = .ok (.iconst 0, 1) := by decide +kernel
theorem dL_voice_2 : decode cL_voice 2 = .ok (.aload_n 0, 1) := by decide +kernel
theorem dL_voice_3 : decode cL_voice 3 = .ok (.iload_n 1, 1) := by decide +kernel
theorem dL_voice_4 : decode cL_voice 4 = .ok (.invokevirtual 83, 3) := by decide +kernel
theorem dL_voice_12 : decode cL_voice 12 = .ok (.astore_n 3, 1) := by decide +kernel
theorem dL_voice_13 : decode cL_voice 13 = .ok (.iconst 1, 1) := by decide +kernel
theorem dL_voice_14 : decode cL_voice 14 = .ok (.ireturn, 1) := by decide +kernel
theorem dL_zone_0 : decode cL_zone 0 = .ok (.aload_n 2, 1) := by decide +kernel
theorem dL_zone_1 : decode cL_zone 1 = .ok (.iconst 0, 1) := by decide +kernel
theorem dL_zone_2 : decode cL_zone 2 = .ok (.aload_n 0, 1) := by decide +kernel
theorem dL_zone_3 : decode cL_zone 3 = .ok (.iload_n 1, 1) := by decide +kernel
theorem dL_zone_4 : decode cL_zone 4 = .ok (.invokevirtual 80, 3) := by decide +kernel
theorem dL_zone_12 : decode cL_zone 12 = .ok (.astore_n 3, 1) := by decide +kernel
theorem dL_zone_13 : decode cL_zone 13 = .ok (.iconst 1, 1) := by decide +kernel
theorem dL_zone_14 : decode cL_zone 14 = .ok (.ireturn, 1) := by decide +kernel
theorem m_552 : (Cond.classLink "TheatrehouseLaw" 15 "java/lang/IllegalStateException") ∈ lw_all := lw_in 552 (by decide +kernel) (by decide +kernel)
theorem m_659 : (Cond.classLink "TheatrehouseLaw" 20 "java/lang/IndexOutOfBoundsException") ∈ lw_all := lw_in 659 (by decide +kernel) (by decide +kernel)
theorem m_683 : (Cond.methodLink "TheatrehouseLaw" 17 ⟨"Theatrehouse", "setCover", "(II)I"⟩) ∈ lw_all := lw_in 683 (by decide +kernel) (by decide +kernel)
theorem m_684 : (Cond.instanceMethod ⟨"Theatrehouse", "setCover", "(II)I"⟩) ∈ lw_all := lw_in 684 (by decide +kernel) (by decide +kernel)
theorem m_685 : (Cond.selects "Theatrehouse" ⟨"Theatrehouse", "setCover", "(II)I"⟩ ⟨"Theatrehouse", "setCover", "(II)I"⟩) ∈ lw_all := lw_in 685 (by decide +kernel) (by decide +kernel)
theorem m_686 : (Cond.code ⟨"Theatrehouse", "setCover", "(II)I"⟩ prog_1_method_3_code 4 (Option.some Jvm.ClassFile.FieldType.int)) ∈ lw_all := lw_in 686 (by decide +kernel) (by decide +kernel)
theorem m_715 : (Cond.methodLink "TheatrehouseLaw" 22 ⟨"Theatrehouse", "fallIll", "(II)I"⟩) ∈ lw_all := lw_in 715 (by decide +kernel) (by decide +kernel)
theorem m_716 : (Cond.instanceMethod ⟨"Theatrehouse", "fallIll", "(II)I"⟩) ∈ lw_all := lw_in 716 (by decide +kernel) (by decide +kernel)
theorem m_717 : (Cond.selects "Theatrehouse" ⟨"Theatrehouse", "fallIll", "(II)I"⟩ ⟨"Theatrehouse", "fallIll", "(II)I"⟩) ∈ lw_all := lw_in 717 (by decide +kernel) (by decide +kernel)
theorem m_718 : (Cond.code ⟨"Theatrehouse", "fallIll", "(II)I"⟩ prog_1_method_4_code 4 (Option.some Jvm.ClassFile.FieldType.int)) ∈ lw_all := lw_in 718 (by decide +kernel) (by decide +kernel)
theorem m_729 : (Cond.methodLink "TheatrehouseLaw" 28 ⟨"Theatrehouse", "setInterlock", "(IIII)I"⟩) ∈ lw_all := lw_in 729 (by decide +kernel) (by decide +kernel)
theorem m_730 : (Cond.instanceMethod ⟨"Theatrehouse", "setInterlock", "(IIII)I"⟩) ∈ lw_all := lw_in 730 (by decide +kernel) (by decide +kernel)
theorem m_731 : (Cond.selects "Theatrehouse" ⟨"Theatrehouse", "setInterlock", "(IIII)I"⟩ ⟨"Theatrehouse", "setInterlock", "(IIII)I"⟩) ∈ lw_all := lw_in 731 (by decide +kernel) (by decide +kernel)
theorem m_732 : (Cond.code ⟨"Theatrehouse", "setInterlock", "(IIII)I"⟩ prog_1_method_6_code 7 (Option.some Jvm.ClassFile.FieldType.int)) ∈ lw_all := lw_in 732 (by decide +kernel) (by decide +kernel)
theorem m_749 : (Cond.methodLink "TheatrehouseLaw" 35 ⟨"Theatrehouse", "setRole", "(III)I"⟩) ∈ lw_all := lw_in 749 (by decide +kernel) (by decide +kernel)
theorem m_750 : (Cond.instanceMethod ⟨"Theatrehouse", "setRole", "(III)I"⟩) ∈ lw_all := lw_in 750 (by decide +kernel) (by decide +kernel)
theorem m_751 : (Cond.selects "Theatrehouse" ⟨"Theatrehouse", "setRole", "(III)I"⟩ ⟨"Theatrehouse", "setRole", "(III)I"⟩) ∈ lw_all := lw_in 751 (by decide +kernel) (by decide +kernel)
theorem m_752 : (Cond.code ⟨"Theatrehouse", "setRole", "(III)I"⟩ prog_1_method_8_code 5 (Option.some Jvm.ClassFile.FieldType.int)) ∈ lw_all := lw_in 752 (by decide +kernel) (by decide +kernel)
theorem m_782 : (Cond.methodLink "TheatrehouseLaw" 41 ⟨"Theatrehouse", "addCue", "(ICIIII)I"⟩) ∈ lw_all := lw_in 782 (by decide +kernel) (by decide +kernel)
theorem m_783 : (Cond.instanceMethod ⟨"Theatrehouse", "addCue", "(ICIIII)I"⟩) ∈ lw_all := lw_in 783 (by decide +kernel) (by decide +kernel)
theorem m_784 : (Cond.selects "Theatrehouse" ⟨"Theatrehouse", "addCue", "(ICIIII)I"⟩ ⟨"Theatrehouse", "addCue", "(ICIIII)I"⟩) ∈ lw_all := lw_in 784 (by decide +kernel) (by decide +kernel)
theorem m_785 : (Cond.code ⟨"Theatrehouse", "addCue", "(ICIIII)I"⟩ prog_1_method_9_code 9 (Option.some Jvm.ClassFile.FieldType.int)) ∈ lw_all := lw_in 785 (by decide +kernel) (by decide +kernel)
theorem m_800 : (Cond.methodLink "TheatrehouseLaw" 45 ⟨"Theatrehouse", "cues", "(I)I"⟩) ∈ lw_all := lw_in 800 (by decide +kernel) (by decide +kernel)
theorem m_801 : (Cond.instanceMethod ⟨"Theatrehouse", "cues", "(I)I"⟩) ∈ lw_all := lw_in 801 (by decide +kernel) (by decide +kernel)
theorem m_802 : (Cond.selects "Theatrehouse" ⟨"Theatrehouse", "cues", "(I)I"⟩ ⟨"Theatrehouse", "cues", "(I)I"⟩) ∈ lw_all := lw_in 802 (by decide +kernel) (by decide +kernel)
theorem m_803 : (Cond.code ⟨"Theatrehouse", "cues", "(I)I"⟩ prog_1_method_10_code 2 (Option.some Jvm.ClassFile.FieldType.int)) ∈ lw_all := lw_in 803 (by decide +kernel) (by decide +kernel)
theorem m_807 : (Cond.methodLink "TheatrehouseLaw" 49 ⟨"Theatrehouse", "plan", "(II)I"⟩) ∈ lw_all := lw_in 807 (by decide +kernel) (by decide +kernel)
theorem m_808 : (Cond.instanceMethod ⟨"Theatrehouse", "plan", "(II)I"⟩) ∈ lw_all := lw_in 808 (by decide +kernel) (by decide +kernel)
theorem m_809 : (Cond.selects "Theatrehouse" ⟨"Theatrehouse", "plan", "(II)I"⟩ ⟨"Theatrehouse", "plan", "(II)I"⟩) ∈ lw_all := lw_in 809 (by decide +kernel) (by decide +kernel)
theorem m_810 : (Cond.code ⟨"Theatrehouse", "plan", "(II)I"⟩ prog_1_method_11_code 4 (Option.some Jvm.ClassFile.FieldType.int)) ∈ lw_all := lw_in 810 (by decide +kernel) (by decide +kernel)
theorem m_907 : (Cond.methodLink "TheatrehouseLaw" 64 ⟨"Theatrehouse", "perform", "(I)I"⟩) ∈ lw_all := lw_in 907 (by decide +kernel) (by decide +kernel)
theorem m_908 : (Cond.instanceMethod ⟨"Theatrehouse", "perform", "(I)I"⟩) ∈ lw_all := lw_in 908 (by decide +kernel) (by decide +kernel)
theorem m_909 : (Cond.selects "Theatrehouse" ⟨"Theatrehouse", "perform", "(I)I"⟩ ⟨"Theatrehouse", "perform", "(I)I"⟩) ∈ lw_all := lw_in 909 (by decide +kernel) (by decide +kernel)
theorem m_910 : (Cond.code ⟨"Theatrehouse", "perform", "(I)I"⟩ prog_1_method_16_code 2 (Option.some Jvm.ClassFile.FieldType.int)) ∈ lw_all := lw_in 910 (by decide +kernel) (by decide +kernel)
theorem m_935 : (Cond.methodLink "TheatrehouseLaw" 67 ⟨"Theatrehouse", "obstacle", "(I)C"⟩) ∈ lw_all := lw_in 935 (by decide +kernel) (by decide +kernel)
theorem m_936 : (Cond.instanceMethod ⟨"Theatrehouse", "obstacle", "(I)C"⟩) ∈ lw_all := lw_in 936 (by decide +kernel) (by decide +kernel)
theorem m_937 : (Cond.selects "Theatrehouse" ⟨"Theatrehouse", "obstacle", "(I)C"⟩ ⟨"Theatrehouse", "obstacle", "(I)C"⟩) ∈ lw_all := lw_in 937 (by decide +kernel) (by decide +kernel)
theorem m_938 : (Cond.code ⟨"Theatrehouse", "obstacle", "(I)C"⟩ prog_1_method_17_code 2 (Option.some Jvm.ClassFile.FieldType.char)) ∈ lw_all := lw_in 938 (by decide +kernel) (by decide +kernel)
theorem m_942 : (Cond.methodLink "TheatrehouseLaw" 71 ⟨"Theatrehouse", "takeBack", "()I"⟩) ∈ lw_all := lw_in 942 (by decide +kernel) (by decide +kernel)
theorem m_943 : (Cond.instanceMethod ⟨"Theatrehouse", "takeBack", "()I"⟩) ∈ lw_all := lw_in 943 (by decide +kernel) (by decide +kernel)
theorem m_944 : (Cond.selects "Theatrehouse" ⟨"Theatrehouse", "takeBack", "()I"⟩ ⟨"Theatrehouse", "takeBack", "()I"⟩) ∈ lw_all := lw_in 944 (by decide +kernel) (by decide +kernel)
theorem m_945 : (Cond.code ⟨"Theatrehouse", "takeBack", "()I"⟩ prog_1_method_18_code 2 (Option.some Jvm.ClassFile.FieldType.int)) ∈ lw_all := lw_in 945 (by decide +kernel) (by decide +kernel)
theorem m_954 : (Cond.methodLink "TheatrehouseLaw" 74 ⟨"Theatrehouse", "end", "()I"⟩) ∈ lw_all := lw_in 954 (by decide +kernel) (by decide +kernel)
theorem m_955 : (Cond.instanceMethod ⟨"Theatrehouse", "end", "()I"⟩) ∈ lw_all := lw_in 955 (by decide +kernel) (by decide +kernel)
theorem m_956 : (Cond.selects "Theatrehouse" ⟨"Theatrehouse", "end", "()I"⟩ ⟨"Theatrehouse", "end", "()I"⟩) ∈ lw_all := lw_in 956 (by decide +kernel) (by decide +kernel)
theorem m_957 : (Cond.code ⟨"Theatrehouse", "end", "()I"⟩ prog_1_method_19_code 1 (Option.some Jvm.ClassFile.FieldType.int)) ∈ lw_all := lw_in 957 (by decide +kernel) (by decide +kernel)
theorem m_971 : (Cond.methodLink "TheatrehouseLaw" 77 ⟨"Theatrehouse", "singer", "(I)I"⟩) ∈ lw_all := lw_in 971 (by decide +kernel) (by decide +kernel)
theorem m_972 : (Cond.instanceMethod ⟨"Theatrehouse", "singer", "(I)I"⟩) ∈ lw_all := lw_in 972 (by decide +kernel) (by decide +kernel)
theorem m_973 : (Cond.selects "Theatrehouse" ⟨"Theatrehouse", "singer", "(I)I"⟩ ⟨"Theatrehouse", "singer", "(I)I"⟩) ∈ lw_all := lw_in 973 (by decide +kernel) (by decide +kernel)
theorem m_974 : (Cond.code ⟨"Theatrehouse", "singer", "(I)I"⟩ prog_1_method_20_code 2 (Option.some Jvm.ClassFile.FieldType.int)) ∈ lw_all := lw_in 974 (by decide +kernel) (by decide +kernel)
theorem m_979 : (Cond.methodLink "TheatrehouseLaw" 80 ⟨"Theatrehouse", "zone", "(I)I"⟩) ∈ lw_all := lw_in 979 (by decide +kernel) (by decide +kernel)
theorem m_980 : (Cond.instanceMethod ⟨"Theatrehouse", "zone", "(I)I"⟩) ∈ lw_all := lw_in 980 (by decide +kernel) (by decide +kernel)
theorem m_981 : (Cond.selects "Theatrehouse" ⟨"Theatrehouse", "zone", "(I)I"⟩ ⟨"Theatrehouse", "zone", "(I)I"⟩) ∈ lw_all := lw_in 981 (by decide +kernel) (by decide +kernel)
theorem m_982 : (Cond.code ⟨"Theatrehouse", "zone", "(I)I"⟩ prog_1_method_21_code 2 (Option.some Jvm.ClassFile.FieldType.int)) ∈ lw_all := lw_in 982 (by decide +kernel) (by decide +kernel)
theorem m_990 : (Cond.methodLink "TheatrehouseLaw" 83 ⟨"Theatrehouse", "voice", "(I)I"⟩) ∈ lw_all := lw_in 990 (by decide +kernel) (by decide +kernel)
theorem m_991 : (Cond.instanceMethod ⟨"Theatrehouse", "voice", "(I)I"⟩) ∈ lw_all := lw_in 991 (by decide +kernel) (by decide +kernel)
theorem m_992 : (Cond.selects "Theatrehouse" ⟨"Theatrehouse", "voice", "(I)I"⟩ ⟨"Theatrehouse", "voice", "(I)I"⟩) ∈ lw_all := lw_in 992 (by decide +kernel) (by decide +kernel)
theorem m_993 : (Cond.code ⟨"Theatrehouse", "voice", "(I)I"⟩ prog_1_method_22_code 2 (Option.some Jvm.ClassFile.FieldType.int)) ∈ lw_all := lw_in 993 (by decide +kernel) (by decide +kernel)
theorem m_997 : (Cond.methodLink "TheatrehouseLaw" 86 ⟨"Theatrehouse", "place", "(I)I"⟩) ∈ lw_all := lw_in 997 (by decide +kernel) (by decide +kernel)
theorem m_998 : (Cond.instanceMethod ⟨"Theatrehouse", "place", "(I)I"⟩) ∈ lw_all := lw_in 998 (by decide +kernel) (by decide +kernel)
theorem m_999 : (Cond.selects "Theatrehouse" ⟨"Theatrehouse", "place", "(I)I"⟩ ⟨"Theatrehouse", "place", "(I)I"⟩) ∈ lw_all := lw_in 999 (by decide +kernel) (by decide +kernel)
theorem m_1000 : (Cond.code ⟨"Theatrehouse", "place", "(I)I"⟩ prog_1_method_23_code 2 (Option.some Jvm.ClassFile.FieldType.int)) ∈ lw_all := lw_in 1000 (by decide +kernel) (by decide +kernel)
theorem m_1005 : (Cond.methodLink "TheatrehouseLaw" 89 ⟨"Theatrehouse", "minutes", "()I"⟩) ∈ lw_all := lw_in 1005 (by decide +kernel) (by decide +kernel)
theorem m_1006 : (Cond.instanceMethod ⟨"Theatrehouse", "minutes", "()I"⟩) ∈ lw_all := lw_in 1006 (by decide +kernel) (by decide +kernel)
theorem m_1007 : (Cond.selects "Theatrehouse" ⟨"Theatrehouse", "minutes", "()I"⟩ ⟨"Theatrehouse", "minutes", "()I"⟩) ∈ lw_all := lw_in 1007 (by decide +kernel) (by decide +kernel)
theorem m_1008 : (Cond.code ⟨"Theatrehouse", "minutes", "()I"⟩ prog_1_method_24_code 1 (Option.some Jvm.ClassFile.FieldType.int)) ∈ lw_all := lw_in 1008 (by decide +kernel) (by decide +kernel)
theorem m_1012 : (Cond.methodLink "TheatrehouseLaw" 92 ⟨"Theatrehouse", "states", "()I"⟩) ∈ lw_all := lw_in 1012 (by decide +kernel) (by decide +kernel)
theorem m_1013 : (Cond.instanceMethod ⟨"Theatrehouse", "states", "()I"⟩) ∈ lw_all := lw_in 1013 (by decide +kernel) (by decide +kernel)
theorem m_1014 : (Cond.selects "Theatrehouse" ⟨"Theatrehouse", "states", "()I"⟩ ⟨"Theatrehouse", "states", "()I"⟩) ∈ lw_all := lw_in 1014 (by decide +kernel) (by decide +kernel)
theorem m_1015 : (Cond.code ⟨"Theatrehouse", "states", "()I"⟩ prog_1_method_25_code 1 (Option.some Jvm.ClassFile.FieldType.int)) ∈ lw_all := lw_in 1015 (by decide +kernel) (by decide +kernel)
theorem m_1024 : (Cond.methodLink "TheatrehouseLaw" 95 ⟨"Theatrehouse", "hasOrder", "()Z"⟩) ∈ lw_all := lw_in 1024 (by decide +kernel) (by decide +kernel)
theorem m_1025 : (Cond.instanceMethod ⟨"Theatrehouse", "hasOrder", "()Z"⟩) ∈ lw_all := lw_in 1025 (by decide +kernel) (by decide +kernel)
theorem m_1026 : (Cond.selects "Theatrehouse" ⟨"Theatrehouse", "hasOrder", "()Z"⟩ ⟨"Theatrehouse", "hasOrder", "()Z"⟩) ∈ lw_all := lw_in 1026 (by decide +kernel) (by decide +kernel)
theorem m_1027 : (Cond.code ⟨"Theatrehouse", "hasOrder", "()Z"⟩ prog_1_method_26_code 1 (Option.some Jvm.ClassFile.FieldType.boolean)) ∈ lw_all := lw_in 1027 (by decide +kernel) (by decide +kernel)
theorem m_1032 : (Cond.methodLink "TheatrehouseLaw" 99 ⟨"Theatrehouse", "orderAt", "(I)I"⟩) ∈ lw_all := lw_in 1032 (by decide +kernel) (by decide +kernel)
theorem m_1033 : (Cond.instanceMethod ⟨"Theatrehouse", "orderAt", "(I)I"⟩) ∈ lw_all := lw_in 1033 (by decide +kernel) (by decide +kernel)
theorem m_1034 : (Cond.selects "Theatrehouse" ⟨"Theatrehouse", "orderAt", "(I)I"⟩ ⟨"Theatrehouse", "orderAt", "(I)I"⟩) ∈ lw_all := lw_in 1034 (by decide +kernel) (by decide +kernel)
theorem m_1035 : (Cond.code ⟨"Theatrehouse", "orderAt", "(I)I"⟩ prog_1_method_27_code 2 (Option.some Jvm.ClassFile.FieldType.int)) ∈ lw_all := lw_in 1035 (by decide +kernel) (by decide +kernel)
theorem m_1041 : (Cond.methodLink "TheatrehouseLaw" 102 ⟨"Theatrehouse", "farthest", "()I"⟩) ∈ lw_all := lw_in 1041 (by decide +kernel) (by decide +kernel)
theorem m_1042 : (Cond.instanceMethod ⟨"Theatrehouse", "farthest", "()I"⟩) ∈ lw_all := lw_in 1042 (by decide +kernel) (by decide +kernel)
theorem m_1043 : (Cond.selects "Theatrehouse" ⟨"Theatrehouse", "farthest", "()I"⟩ ⟨"Theatrehouse", "farthest", "()I"⟩) ∈ lw_all := lw_in 1043 (by decide +kernel) (by decide +kernel)
theorem m_1044 : (Cond.code ⟨"Theatrehouse", "farthest", "()I"⟩ prog_1_method_28_code 1 (Option.some Jvm.ClassFile.FieldType.int)) ∈ lw_all := lw_in 1044 (by decide +kernel) (by decide +kernel)
theorem m_1048 : (Cond.methodLink "TheatrehouseLaw" 105 ⟨"Theatrehouse", "stuck", "()I"⟩) ∈ lw_all := lw_in 1048 (by decide +kernel) (by decide +kernel)
theorem m_1049 : (Cond.instanceMethod ⟨"Theatrehouse", "stuck", "()I"⟩) ∈ lw_all := lw_in 1049 (by decide +kernel) (by decide +kernel)
theorem m_1050 : (Cond.selects "Theatrehouse" ⟨"Theatrehouse", "stuck", "()I"⟩ ⟨"Theatrehouse", "stuck", "()I"⟩) ∈ lw_all := lw_in 1050 (by decide +kernel) (by decide +kernel)
theorem m_1051 : (Cond.code ⟨"Theatrehouse", "stuck", "()I"⟩ prog_1_method_29_code 1 (Option.some Jvm.ClassFile.FieldType.int)) ∈ lw_all := lw_in 1051 (by decide +kernel) (by decide +kernel)
theorem m_1061 : (Cond.methodLink "TheatrehouseLaw" 108 ⟨"Theatrehouse", "orders", "()J"⟩) ∈ lw_all := lw_in 1061 (by decide +kernel) (by decide +kernel)
theorem m_1062 : (Cond.instanceMethod ⟨"Theatrehouse", "orders", "()J"⟩) ∈ lw_all := lw_in 1062 (by decide +kernel) (by decide +kernel)
theorem m_1063 : (Cond.selects "Theatrehouse" ⟨"Theatrehouse", "orders", "()J"⟩ ⟨"Theatrehouse", "orders", "()J"⟩) ∈ lw_all := lw_in 1063 (by decide +kernel) (by decide +kernel)
theorem m_1064 : (Cond.code ⟨"Theatrehouse", "orders", "()J"⟩ prog_1_method_30_code 1 (Option.some Jvm.ClassFile.FieldType.long)) ∈ lw_all := lw_in 1064 (by decide +kernel) (by decide +kernel)
theorem m_1068 : (Cond.methodLink "TheatrehouseLaw" 112 ⟨"Theatrehouse", "balance", "(I)I"⟩) ∈ lw_all := lw_in 1068 (by decide +kernel) (by decide +kernel)
theorem m_1069 : (Cond.instanceMethod ⟨"Theatrehouse", "balance", "(I)I"⟩) ∈ lw_all := lw_in 1069 (by decide +kernel) (by decide +kernel)
theorem m_1070 : (Cond.selects "Theatrehouse" ⟨"Theatrehouse", "balance", "(I)I"⟩ ⟨"Theatrehouse", "balance", "(I)I"⟩) ∈ lw_all := lw_in 1070 (by decide +kernel) (by decide +kernel)
theorem m_1071 : (Cond.code ⟨"Theatrehouse", "balance", "(I)I"⟩ prog_1_method_31_code 2 (Option.some Jvm.ClassFile.FieldType.int)) ∈ lw_all := lw_in 1071 (by decide +kernel) (by decide +kernel)
theorem m_1075 : (Cond.methodLink "TheatrehouseLaw" 115 ⟨"Theatrehouse", "sung", "(I)I"⟩) ∈ lw_all := lw_in 1075 (by decide +kernel) (by decide +kernel)
theorem m_1076 : (Cond.instanceMethod ⟨"Theatrehouse", "sung", "(I)I"⟩) ∈ lw_all := lw_in 1076 (by decide +kernel) (by decide +kernel)
theorem m_1077 : (Cond.selects "Theatrehouse" ⟨"Theatrehouse", "sung", "(I)I"⟩ ⟨"Theatrehouse", "sung", "(I)I"⟩) ∈ lw_all := lw_in 1077 (by decide +kernel) (by decide +kernel)
theorem m_1078 : (Cond.code ⟨"Theatrehouse", "sung", "(I)I"⟩ prog_1_method_32_code 2 (Option.some Jvm.ClassFile.FieldType.int)) ∈ lw_all := lw_in 1078 (by decide +kernel) (by decide +kernel)
theorem m_1082 : (Cond.classLink "TheatrehouseLaw" 122 "java/lang/ArithmeticException") ∈ lw_all := lw_in 1082 (by decide +kernel) (by decide +kernel)
theorem m_1106 : (Cond.methodLink "TheatrehouseLaw" 124 ⟨"Theatrehouse", "meanMinutes", "()D"⟩) ∈ lw_all := lw_in 1106 (by decide +kernel) (by decide +kernel)
theorem m_1107 : (Cond.instanceMethod ⟨"Theatrehouse", "meanMinutes", "()D"⟩) ∈ lw_all := lw_in 1107 (by decide +kernel) (by decide +kernel)
theorem m_1108 : (Cond.selects "Theatrehouse" ⟨"Theatrehouse", "meanMinutes", "()D"⟩ ⟨"Theatrehouse", "meanMinutes", "()D"⟩) ∈ lw_all := lw_in 1108 (by decide +kernel) (by decide +kernel)
theorem m_1109 : (Cond.code ⟨"Theatrehouse", "meanMinutes", "()D"⟩ prog_1_method_35_code 1 (Option.some Jvm.ClassFile.FieldType.double)) ∈ lw_all := lw_in 1109 (by decide +kernel) (by decide +kernel)
theorem mn_637 : (Cond.castable "java/lang/IllegalStateException" "java/lang/IllegalStateException") ∈ lw_ng := lw_inn 637 (by decide +kernel) (by decide +kernel)
theorem mn_697 : (Cond.castable "java/lang/IndexOutOfBoundsException" "java/lang/IndexOutOfBoundsException") ∈ lw_ng := lw_inn 697 (by decide +kernel) (by decide +kernel)
theorem mn_1094 : (Cond.castable "java/lang/ArithmeticException" "java/lang/ArithmeticException") ∈ lw_ng := lw_inn 1094 (by decide +kernel) (by decide +kernel)
set_option maxHeartbeats 4000000 in
set_option maxRecDepth 100000 in
theorem c_L_setCover (l : Launch) (hfl : l.stackTraces = false) (z0 : Nat) (D : va_G) (g : Nat → Nat) (x a0 a1 a2 a3 a4 a5 a6 : Nat) (p0 : Int32) (p1 : Int32) (o : Nat) : vx_Met l yL_setCover (wspW yL_setCover cL_setCover 5 (some .int) [(0, 10, 13, 20), (0, 10, 17, 15)]) ({ frames := 8, cells := 1, slots := 6, locals := 126 }) (va_Pc [.ref x, .int p0, .int p1, .ref o] (PR z0 D g [(x, .inr (0, [.ref a0, .ref a1, .ref a2, .ref a3, .ref a4, .ref a5, .ref a6, .int 0, .int 0, .int 0, .int 0, .int 0, .int 0, .int 0]))])) (va_Qi (fun (r : Int32) (_ : Unit) => r = 1) (fun _ _ => True) nA) xN 1 6 nA := by
  refine vx_ofWH (cc := cL_setCover) (maxL := 5) (ret := (some .int)) (hh := [(0, 10, 13, 20), (0, 10, 17, 15)]) (by decide) rfl ?_
  intro p e s m args below meth c s₁ B hml hv
  obtain ⟨rfl, hE, hP⟩ := hv
  have hx := B.exec
  have hb := B.bytes
  have hr := B.returns
  have hts0 := atoms_spec (ws := (wspW yL_setCover cL_setCover 5 (some .int) [(0, 10, 13, 20), (0, 10, 17, 15)])) B.pre
  have htab := vx_table (x := yL_setCover) B (hts0 _ List.mem_cons_self)
  have hts : ∀ w ∈ lw_all, w.before _ s = true := fun w h => hts0 w (List.mem_cons_of_mem _ h)
  have hown : s.vm.findClass "TheatrehouseLaw" = some m.cls := findClass_of_methodNamed B.named
  have hlocks := B.notSynchronized
  have hK := hE.K
  have hS : va_S nA s.heap s.heap [] := va_S.rf
  have hP : va_P D classes [(x, .inr (0, [.ref a0, .ref a1, .ref a2, .ref a3, .ref a4, .ref a5, .ref a6, .int 0, .int 0, .int 0, .int 0, .int 0, .int 0, .int 0]))] s.heap := hP
  have hl := lv_entry ([.ref x, .int p0, .int p1, .ref o]) (n := 5) (Nat.le_of_ble_eq_true rfl)
  rw [lg_entry_eq]
  generalize (lg_sl ([.ref x, .int p0, .int p1, .ref o]) ++ List.replicate (5 - (lg_sl ([.ref x, .int p0, .int p1, .ref o])).length) Slot.unset).toArray = ls at hl ⊢
  have hl : lv_has ls 5 [(0, .ref x), (1, .int p0), (2, .int p1), (3, .ref o)] := hl
  refine lv_aload_n hx hb dL_setCover_0 rfl (lv_at hl 3 rfl) ?_
  refine lv_iconst (v := 0) hx hb dL_setCover_1 (by decide) ?_
  refine lv_aload_n hx hb dL_setCover_2 rfl (lv_at hl 0 rfl) ?_
  refine lv_iload_n hx hb dL_setCover_3 rfl (lv_at hl 1 rfl) ?_
  refine lv_iload_n hx hb dL_setCover_4 rfl (lv_at hl 2 rfl) ?_
  have hc_1 := hP.sub (ws' := [(x, .inr (0, [.ref a0, .ref a1, .ref a2, .ref a3, .ref a4, .ref a5, .ref a6, .int 0, .int 0, .int 0, .int 0, .int 0, .int 0, .int 0]))]) [0] rfl
  refine vx_calli (vx_runV (As := [.int p0, .int p1]) (rest := [.int 0, .ref o]) ⟨hx, hb, hml, hown, hts⟩ (c_X10_setCover l hfl z0 D g x a0 a1 a2 a3 a4 a5 a6 p0 p1) (cwV 2 hts (lw_V m_683 m_684 m_685 m_1 m_686) rfl rfl rfl (by decide +kernel) ⟨(Nat.le_of_ble_eq_true rfl), (Nat.le_of_ble_eq_true rfl)⟩) ⟨PR.blind, va_recv hK hP (ci := 0) (q0 := 0) rfl rfl, PR.pre hE hS nA_z hc_1⟩ rfl rfl hl.1 rfl (lv_room (Nat.le_of_ble_eq_true rfl)) dL_setCover_5 ⟨(Nat.le_of_ble_eq_true rfl), (Nat.le_of_ble_eq_true rfl)⟩) hS nA_B nA_A nA_B (fun E ce q9 u t H locs ht hvm _ hBX hz1 hk1 hS hce hcv hcl => ?_) (fun r_2 u t H locs ht hvm hw _ _ _ _ => hw.elim)
  subst hBX
  have hP := hP.old hk1
  have hP : va_P D classes [(x, .inr (0, [.ref a0, .ref a1, .ref a2, .ref a3, .ref a4, .ref a5, .ref a6, .int 0, .int 0, .int 0, .int 0, .int 0, .int 0, .int 0]))] H := hP
  refine vx_catch hown (tableOf []) ⟨0, 10, 13, 20⟩ (tableOf [(0, 10, 17, 15)]) (htab.trans rfl) (fun z hz => nomatch hz) (by decide) (by decide) (hts _ m_659) (va_Nw.use rfl (hE.ng _ mn_697)) hce hcv hcl ?_
  refine lv_astore (lv' := [(4, .ref q9), (0, .ref x), (1, .int p0), (2, .int p1), (3, .ref o)]) hx hb dL_setCover_13 hl (by decide) rfl (fun ls hl => ?_)
  refine lv_iconst (v := 1) hx hb dL_setCover_15 (by decide) ?_
  refine W.widen (k := 1) (n := 6) (Nat.le_of_ble_eq_true rfl) (Nat.le_of_ble_eq_true rfl) ?_
  refine vx_ret ?_
  exact W.iret (v := 1) hx hb hr (fun t ht hW => ⟨⟨1, (), rfl, rfl, trivial⟩, hS.F ht⟩) hS.2.2 dL_setCover_16

set_option maxHeartbeats 4000000 in
set_option maxRecDepth 100000 in
theorem c_L_fallIll (l : Launch) (hfl : l.stackTraces = false) (z0 : Nat) (D : va_G) (g : Nat → Nat) (x a0 a1 a2 a3 a4 a5 a6 : Nat) (p0 : Int32) (p1 : Int32) (o : Nat) : vx_Met l yL_fallIll (wspW yL_fallIll cL_fallIll 5 (some .int) [(0, 10, 13, 20), (0, 10, 17, 13)]) ({ frames := 8, cells := 1, slots := 6, locals := 126 }) (va_Pc [.ref x, .int p0, .int p1, .ref o] (PR z0 D g [(x, .inr (0, [.ref a0, .ref a1, .ref a2, .ref a3, .ref a4, .ref a5, .ref a6, .int 0, .int 0, .int 0, .int 0, .int 0, .int 0, .int 0]))])) (va_Qi (fun (r : Int32) (_ : Unit) => r = 1) (fun _ _ => True) nA) xN 1 6 nA := by
  refine vx_ofWH (cc := cL_fallIll) (maxL := 5) (ret := (some .int)) (hh := [(0, 10, 13, 20), (0, 10, 17, 13)]) (by decide) rfl ?_
  intro p e s m args below meth c s₁ B hml hv
  obtain ⟨rfl, hE, hP⟩ := hv
  have hx := B.exec
  have hb := B.bytes
  have hr := B.returns
  have hts0 := atoms_spec (ws := (wspW yL_fallIll cL_fallIll 5 (some .int) [(0, 10, 13, 20), (0, 10, 17, 13)])) B.pre
  have htab := vx_table (x := yL_fallIll) B (hts0 _ List.mem_cons_self)
  have hts : ∀ w ∈ lw_all, w.before _ s = true := fun w h => hts0 w (List.mem_cons_of_mem _ h)
  have hown : s.vm.findClass "TheatrehouseLaw" = some m.cls := findClass_of_methodNamed B.named
  have hlocks := B.notSynchronized
  have hK := hE.K
  have hS : va_S nA s.heap s.heap [] := va_S.rf
  have hP : va_P D classes [(x, .inr (0, [.ref a0, .ref a1, .ref a2, .ref a3, .ref a4, .ref a5, .ref a6, .int 0, .int 0, .int 0, .int 0, .int 0, .int 0, .int 0]))] s.heap := hP
  have hl := lv_entry ([.ref x, .int p0, .int p1, .ref o]) (n := 5) (Nat.le_of_ble_eq_true rfl)
  rw [lg_entry_eq]
  generalize (lg_sl ([.ref x, .int p0, .int p1, .ref o]) ++ List.replicate (5 - (lg_sl ([.ref x, .int p0, .int p1, .ref o])).length) Slot.unset).toArray = ls at hl ⊢
  have hl : lv_has ls 5 [(0, .ref x), (1, .int p0), (2, .int p1), (3, .ref o)] := hl
  refine lv_aload_n hx hb dL_fallIll_0 rfl (lv_at hl 3 rfl) ?_
  refine lv_iconst (v := 0) hx hb dL_fallIll_1 (by decide) ?_
  refine lv_aload_n hx hb dL_fallIll_2 rfl (lv_at hl 0 rfl) ?_
  refine lv_iload_n hx hb dL_fallIll_3 rfl (lv_at hl 1 rfl) ?_
  refine lv_iload_n hx hb dL_fallIll_4 rfl (lv_at hl 2 rfl) ?_
  have hc_1 := hP.sub (ws' := [(x, .inr (0, [.ref a0, .ref a1, .ref a2, .ref a3, .ref a4, .ref a5, .ref a6, .int 0, .int 0, .int 0, .int 0, .int 0, .int 0, .int 0]))]) [0] rfl
  refine vx_calli (vx_runV (As := [.int p0, .int p1]) (rest := [.int 0, .ref o]) ⟨hx, hb, hml, hown, hts⟩ (c_X10_fallIll l hfl z0 D g x a0 a1 a2 a3 a4 a5 a6 p0 p1) (cwV 2 hts (lw_V m_715 m_716 m_717 m_1 m_718) rfl rfl rfl (by decide +kernel) ⟨(Nat.le_of_ble_eq_true rfl), (Nat.le_of_ble_eq_true rfl)⟩) ⟨PR.blind, va_recv hK hP (ci := 0) (q0 := 0) rfl rfl, PR.pre hE hS nA_z hc_1⟩ rfl rfl hl.1 rfl (lv_room (Nat.le_of_ble_eq_true rfl)) dL_fallIll_5 ⟨(Nat.le_of_ble_eq_true rfl), (Nat.le_of_ble_eq_true rfl)⟩) hS nA_B nA_A nA_B (fun E ce q9 u t H locs ht hvm _ hBX hz1 hk1 hS hce hcv hcl => ?_) (fun r_2 u t H locs ht hvm hw _ _ _ _ => hw.elim)
  subst hBX
  have hP := hP.old hk1
  have hP : va_P D classes [(x, .inr (0, [.ref a0, .ref a1, .ref a2, .ref a3, .ref a4, .ref a5, .ref a6, .int 0, .int 0, .int 0, .int 0, .int 0, .int 0, .int 0]))] H := hP
  refine vx_catch hown (tableOf []) ⟨0, 10, 13, 20⟩ (tableOf [(0, 10, 17, 13)]) (htab.trans rfl) (fun z hz => nomatch hz) (by decide) (by decide) (hts _ m_659) (va_Nw.use rfl (hE.ng _ mn_697)) hce hcv hcl ?_
  refine lv_astore (lv' := [(4, .ref q9), (0, .ref x), (1, .int p0), (2, .int p1), (3, .ref o)]) hx hb dL_fallIll_13 hl (by decide) rfl (fun ls hl => ?_)
  refine lv_iconst (v := 1) hx hb dL_fallIll_15 (by decide) ?_
  refine W.widen (k := 1) (n := 6) (Nat.le_of_ble_eq_true rfl) (Nat.le_of_ble_eq_true rfl) ?_
  refine vx_ret ?_
  exact W.iret (v := 1) hx hb hr (fun t ht hW => ⟨⟨1, (), rfl, rfl, trivial⟩, hS.F ht⟩) hS.2.2 dL_fallIll_16

set_option maxHeartbeats 4000000 in
set_option maxRecDepth 100000 in
theorem c_L_setInterlock (l : Launch) (hfl : l.stackTraces = false) (z0 : Nat) (D : va_G) (g : Nat → Nat) (x a0 a1 a2 a3 a4 a5 a6 : Nat) (p0 : Int32) (p1 : Int32) (p2 : Int32) (p3 : Int32) (o : Nat) : vx_Met l yL_setInterlock (wspW yL_setInterlock cL_setInterlock 7 (some .int) [(0, 14, 17, 20), (0, 14, 21, 13), (0, 14, 25, 15)]) ({ frames := 8, cells := 1, slots := 6, locals := 129 }) (va_Pc [.ref x, .int p0, .int p1, .int p2, .int p3, .ref o] (PR z0 D g [(x, .inr (0, [.ref a0, .ref a1, .ref a2, .ref a3, .ref a4, .ref a5, .ref a6, .int 0, .int 0, .int 0, .int 0, .int 0, .int 0, .int 0]))])) (va_Qi (fun (r : Int32) (_ : Unit) => r = 1) (fun _ _ => True) nA) xN 1 6 nA := by
  refine vx_ofWH (cc := cL_setInterlock) (maxL := 7) (ret := (some .int)) (hh := [(0, 14, 17, 20), (0, 14, 21, 13), (0, 14, 25, 15)]) (by decide) rfl ?_
  intro p e s m args below meth c s₁ B hml hv
  obtain ⟨rfl, hE, hP⟩ := hv
  have hx := B.exec
  have hb := B.bytes
  have hr := B.returns
  have hts0 := atoms_spec (ws := (wspW yL_setInterlock cL_setInterlock 7 (some .int) [(0, 14, 17, 20), (0, 14, 21, 13), (0, 14, 25, 15)])) B.pre
  have htab := vx_table (x := yL_setInterlock) B (hts0 _ List.mem_cons_self)
  have hts : ∀ w ∈ lw_all, w.before _ s = true := fun w h => hts0 w (List.mem_cons_of_mem _ h)
  have hown : s.vm.findClass "TheatrehouseLaw" = some m.cls := findClass_of_methodNamed B.named
  have hlocks := B.notSynchronized
  have hK := hE.K
  have hS : va_S nA s.heap s.heap [] := va_S.rf
  have hP : va_P D classes [(x, .inr (0, [.ref a0, .ref a1, .ref a2, .ref a3, .ref a4, .ref a5, .ref a6, .int 0, .int 0, .int 0, .int 0, .int 0, .int 0, .int 0]))] s.heap := hP
  have hl := lv_entry ([.ref x, .int p0, .int p1, .int p2, .int p3, .ref o]) (n := 7) (Nat.le_of_ble_eq_true rfl)
  rw [lg_entry_eq]
  generalize (lg_sl ([.ref x, .int p0, .int p1, .int p2, .int p3, .ref o]) ++ List.replicate (7 - (lg_sl ([.ref x, .int p0, .int p1, .int p2, .int p3, .ref o])).length) Slot.unset).toArray = ls at hl ⊢
  have hl : lv_has ls 7 [(0, .ref x), (1, .int p0), (2, .int p1), (3, .int p2), (4, .int p3), (5, .ref o)] := hl
  refine lv_aload hx hb dL_setInterlock_0 (lv_at hl 5 rfl) ?_
  refine lv_iconst (v := 0) hx hb dL_setInterlock_2 (by decide) ?_
  refine lv_aload_n hx hb dL_setInterlock_3 rfl (lv_at hl 0 rfl) ?_
  refine lv_iload_n hx hb dL_setInterlock_4 rfl (lv_at hl 1 rfl) ?_
  refine lv_iload_n hx hb dL_setInterlock_5 rfl (lv_at hl 2 rfl) ?_
  refine lv_iload_n hx hb dL_setInterlock_6 rfl (lv_at hl 3 rfl) ?_
  refine lv_iload hx hb dL_setInterlock_7 (lv_at hl 4 rfl) ?_
  have hc_1 := hP.sub (ws' := [(x, .inr (0, [.ref a0, .ref a1, .ref a2, .ref a3, .ref a4, .ref a5, .ref a6, .int 0, .int 0, .int 0, .int 0, .int 0, .int 0, .int 0]))]) [0] rfl
  refine vx_calli (vx_runV (As := [.int p0, .int p1, .int p2, .int p3]) (rest := [.int 0, .ref o]) ⟨hx, hb, hml, hown, hts⟩ (c_X10_setInterlock l hfl z0 D g x a0 a1 a2 a3 a4 a5 a6 p0 p1 p2 p3) (cwV 4 hts (lw_V m_729 m_730 m_731 m_1 m_732) rfl rfl rfl (by decide +kernel) ⟨(Nat.le_of_ble_eq_true rfl), (Nat.le_of_ble_eq_true rfl)⟩) ⟨PR.blind, va_recv hK hP (ci := 0) (q0 := 0) rfl rfl, PR.pre hE hS nA_z hc_1⟩ rfl rfl hl.1 rfl (lv_room (Nat.le_of_ble_eq_true rfl)) dL_setInterlock_9 ⟨(Nat.le_of_ble_eq_true rfl), (Nat.le_of_ble_eq_true rfl)⟩) hS nA_B nA_A nA_B (fun E ce q9 u t H locs ht hvm _ hBX hz1 hk1 hS hce hcv hcl => ?_) (fun r_2 u t H locs ht hvm hw _ _ _ _ => hw.elim)
  subst hBX
  have hP := hP.old hk1
  have hP : va_P D classes [(x, .inr (0, [.ref a0, .ref a1, .ref a2, .ref a3, .ref a4, .ref a5, .ref a6, .int 0, .int 0, .int 0, .int 0, .int 0, .int 0, .int 0]))] H := hP
  refine vx_catch hown (tableOf []) ⟨0, 14, 17, 20⟩ (tableOf [(0, 14, 21, 13), (0, 14, 25, 15)]) (htab.trans rfl) (fun z hz => nomatch hz) (by decide) (by decide) (hts _ m_659) (va_Nw.use rfl (hE.ng _ mn_697)) hce hcv hcl ?_
  refine lv_astore (lv' := [(6, .ref q9), (0, .ref x), (1, .int p0), (2, .int p1), (3, .int p2), (4, .int p3), (5, .ref o)]) hx hb dL_setInterlock_17 hl (by decide) rfl (fun ls hl => ?_)
  refine lv_iconst (v := 1) hx hb dL_setInterlock_19 (by decide) ?_
  refine W.widen (k := 1) (n := 6) (Nat.le_of_ble_eq_true rfl) (Nat.le_of_ble_eq_true rfl) ?_
  refine vx_ret ?_
  exact W.iret (v := 1) hx hb hr (fun t ht hW => ⟨⟨1, (), rfl, rfl, trivial⟩, hS.F ht⟩) hS.2.2 dL_setInterlock_20

set_option maxHeartbeats 4000000 in
set_option maxRecDepth 100000 in
theorem c_L_setRole (l : Launch) (hfl : l.stackTraces = false) (z0 : Nat) (D : va_G) (g : Nat → Nat) (x a0 a1 a2 a3 a4 a5 a6 : Nat) (p0 : Int32) (p1 : Int32) (p2 : Int32) (o : Nat) : vx_Met l yL_setRole (wspW yL_setRole cL_setRole 6 (some .int) [(0, 12, 15, 20), (0, 12, 19, 39), (0, 12, 23, 15)]) ({ frames := 8, cells := 1, slots := 6, locals := 127 }) (va_Pc [.ref x, .int p0, .int p1, .int p2, .ref o] (PR z0 D g [(x, .inr (0, [.ref a0, .ref a1, .ref a2, .ref a3, .ref a4, .ref a5, .ref a6, .int 0, .int 0, .int 0, .int 0, .int 0, .int 0, .int 0]))])) (va_Qi (fun (r : Int32) (_ : Unit) => r = 1) (fun _ _ => True) nA) xN 1 6 nA := by
  refine vx_ofWH (cc := cL_setRole) (maxL := 6) (ret := (some .int)) (hh := [(0, 12, 15, 20), (0, 12, 19, 39), (0, 12, 23, 15)]) (by decide) rfl ?_
  intro p e s m args below meth c s₁ B hml hv
  obtain ⟨rfl, hE, hP⟩ := hv
  have hx := B.exec
  have hb := B.bytes
  have hr := B.returns
  have hts0 := atoms_spec (ws := (wspW yL_setRole cL_setRole 6 (some .int) [(0, 12, 15, 20), (0, 12, 19, 39), (0, 12, 23, 15)])) B.pre
  have htab := vx_table (x := yL_setRole) B (hts0 _ List.mem_cons_self)
  have hts : ∀ w ∈ lw_all, w.before _ s = true := fun w h => hts0 w (List.mem_cons_of_mem _ h)
  have hown : s.vm.findClass "TheatrehouseLaw" = some m.cls := findClass_of_methodNamed B.named
  have hlocks := B.notSynchronized
  have hK := hE.K
  have hS : va_S nA s.heap s.heap [] := va_S.rf
  have hP : va_P D classes [(x, .inr (0, [.ref a0, .ref a1, .ref a2, .ref a3, .ref a4, .ref a5, .ref a6, .int 0, .int 0, .int 0, .int 0, .int 0, .int 0, .int 0]))] s.heap := hP
  have hl := lv_entry ([.ref x, .int p0, .int p1, .int p2, .ref o]) (n := 6) (Nat.le_of_ble_eq_true rfl)
  rw [lg_entry_eq]
  generalize (lg_sl ([.ref x, .int p0, .int p1, .int p2, .ref o]) ++ List.replicate (6 - (lg_sl ([.ref x, .int p0, .int p1, .int p2, .ref o])).length) Slot.unset).toArray = ls at hl ⊢
  have hl : lv_has ls 6 [(0, .ref x), (1, .int p0), (2, .int p1), (3, .int p2), (4, .ref o)] := hl
  refine lv_aload hx hb dL_setRole_0 (lv_at hl 4 rfl) ?_
  refine lv_iconst (v := 0) hx hb dL_setRole_2 (by decide) ?_
  refine lv_aload_n hx hb dL_setRole_3 rfl (lv_at hl 0 rfl) ?_
  refine lv_iload_n hx hb dL_setRole_4 rfl (lv_at hl 1 rfl) ?_
  refine lv_iload_n hx hb dL_setRole_5 rfl (lv_at hl 2 rfl) ?_
  refine lv_iload_n hx hb dL_setRole_6 rfl (lv_at hl 3 rfl) ?_
  have hc_1 := hP.sub (ws' := [(x, .inr (0, [.ref a0, .ref a1, .ref a2, .ref a3, .ref a4, .ref a5, .ref a6, .int 0, .int 0, .int 0, .int 0, .int 0, .int 0, .int 0]))]) [0] rfl
  refine vx_calli (vx_runV (As := [.int p0, .int p1, .int p2]) (rest := [.int 0, .ref o]) ⟨hx, hb, hml, hown, hts⟩ (c_X10_setRole l hfl z0 D g x a0 a1 a2 a3 a4 a5 a6 p0 p1 p2) (cwV 3 hts (lw_V m_749 m_750 m_751 m_1 m_752) rfl rfl rfl (by decide +kernel) ⟨(Nat.le_of_ble_eq_true rfl), (Nat.le_of_ble_eq_true rfl)⟩) ⟨PR.blind, va_recv hK hP (ci := 0) (q0 := 0) rfl rfl, PR.pre hE hS nA_z hc_1⟩ rfl rfl hl.1 rfl (lv_room (Nat.le_of_ble_eq_true rfl)) dL_setRole_7 ⟨(Nat.le_of_ble_eq_true rfl), (Nat.le_of_ble_eq_true rfl)⟩) hS nA_B nA_A nA_B (fun E ce q9 u t H locs ht hvm _ hBX hz1 hk1 hS hce hcv hcl => ?_) (fun r_2 u t H locs ht hvm hw _ _ _ _ => hw.elim)
  subst hBX
  have hP := hP.old hk1
  have hP : va_P D classes [(x, .inr (0, [.ref a0, .ref a1, .ref a2, .ref a3, .ref a4, .ref a5, .ref a6, .int 0, .int 0, .int 0, .int 0, .int 0, .int 0, .int 0]))] H := hP
  refine vx_catch hown (tableOf []) ⟨0, 12, 15, 20⟩ (tableOf [(0, 12, 19, 39), (0, 12, 23, 15)]) (htab.trans rfl) (fun z hz => nomatch hz) (by decide) (by decide) (hts _ m_659) (va_Nw.use rfl (hE.ng _ mn_697)) hce hcv hcl ?_
  refine lv_astore (lv' := [(5, .ref q9), (0, .ref x), (1, .int p0), (2, .int p1), (3, .int p2), (4, .ref o)]) hx hb dL_setRole_15 hl (by decide) rfl (fun ls hl => ?_)
  refine lv_iconst (v := 1) hx hb dL_setRole_17 (by decide) ?_
  refine W.widen (k := 1) (n := 6) (Nat.le_of_ble_eq_true rfl) (Nat.le_of_ble_eq_true rfl) ?_
  refine vx_ret ?_
  exact W.iret (v := 1) hx hb hr (fun t ht hW => ⟨⟨1, (), rfl, rfl, trivial⟩, hS.F ht⟩) hS.2.2 dL_setRole_18

set_option maxHeartbeats 4000000 in
set_option maxRecDepth 100000 in
theorem c_L_addCue (l : Launch) (hfl : l.stackTraces = false) (z0 : Nat) (D : va_G) (g : Nat → Nat) (x a0 a1 a2 a3 a4 a5 a6 : Nat) (p0 : Int32) (p1 : Int32) (p2 : Int32) (p3 : Int32) (p4 : Int32) (p5 : Int32) (o : Nat) : vx_Met l yL_addCue (wspW yL_addCue cL_addCue 9 (some .int) [(0, 18, 21, 20), (0, 18, 25, 13), (0, 18, 29, 15)]) ({ frames := 8, cells := 1, slots := 6, locals := 131 }) (va_Pc [.ref x, .int p0, .int p1, .int p2, .int p3, .int p4, .int p5, .ref o] (PR z0 D g [(x, .inr (0, [.ref a0, .ref a1, .ref a2, .ref a3, .ref a4, .ref a5, .ref a6, .int 0, .int 0, .int 0, .int 0, .int 0, .int 0, .int 0]))])) (va_Qi (fun (r : Int32) (_ : Unit) => r = 1) (fun _ _ => True) nA) xN 1 6 nA := by
  refine vx_ofWH (cc := cL_addCue) (maxL := 9) (ret := (some .int)) (hh := [(0, 18, 21, 20), (0, 18, 25, 13), (0, 18, 29, 15)]) (by decide) rfl ?_
  intro p e s m args below meth c s₁ B hml hv
  obtain ⟨rfl, hE, hP⟩ := hv
  have hx := B.exec
  have hb := B.bytes
  have hr := B.returns
  have hts0 := atoms_spec (ws := (wspW yL_addCue cL_addCue 9 (some .int) [(0, 18, 21, 20), (0, 18, 25, 13), (0, 18, 29, 15)])) B.pre
  have htab := vx_table (x := yL_addCue) B (hts0 _ List.mem_cons_self)
  have hts : ∀ w ∈ lw_all, w.before _ s = true := fun w h => hts0 w (List.mem_cons_of_mem _ h)
  have hown : s.vm.findClass "TheatrehouseLaw" = some m.cls := findClass_of_methodNamed B.named
  have hlocks := B.notSynchronized
  have hK := hE.K
  have hS : va_S nA s.heap s.heap [] := va_S.rf
  have hP : va_P D classes [(x, .inr (0, [.ref a0, .ref a1, .ref a2, .ref a3, .ref a4, .ref a5, .ref a6, .int 0, .int 0, .int 0, .int 0, .int 0, .int 0, .int 0]))] s.heap := hP
  have hl := lv_entry ([.ref x, .int p0, .int p1, .int p2, .int p3, .int p4, .int p5, .ref o]) (n := 9) (Nat.le_of_ble_eq_true rfl)
  rw [lg_entry_eq]
  generalize (lg_sl ([.ref x, .int p0, .int p1, .int p2, .int p3, .int p4, .int p5, .ref o]) ++ List.replicate (9 - (lg_sl ([.ref x, .int p0, .int p1, .int p2, .int p3, .int p4, .int p5, .ref o])).length) Slot.unset).toArray = ls at hl ⊢
  have hl : lv_has ls 9 [(0, .ref x), (1, .int p0), (2, .int p1), (3, .int p2), (4, .int p3), (5, .int p4), (6, .int p5), (7, .ref o)] := hl
  refine lv_aload hx hb dL_addCue_0 (lv_at hl 7 rfl) ?_
  refine lv_iconst (v := 0) hx hb dL_addCue_2 (by decide) ?_
  refine lv_aload_n hx hb dL_addCue_3 rfl (lv_at hl 0 rfl) ?_
  refine lv_iload_n hx hb dL_addCue_4 rfl (lv_at hl 1 rfl) ?_
  refine lv_iload_n hx hb dL_addCue_5 rfl (lv_at hl 2 rfl) ?_
  refine lv_iload_n hx hb dL_addCue_6 rfl (lv_at hl 3 rfl) ?_
  refine lv_iload hx hb dL_addCue_7 (lv_at hl 4 rfl) ?_
  refine lv_iload hx hb dL_addCue_9 (lv_at hl 5 rfl) ?_
  refine lv_iload hx hb dL_addCue_11 (lv_at hl 6 rfl) ?_
  have hc_1 := hP.sub (ws' := [(x, .inr (0, [.ref a0, .ref a1, .ref a2, .ref a3, .ref a4, .ref a5, .ref a6, .int 0, .int 0, .int 0, .int 0, .int 0, .int 0, .int 0]))]) [0] rfl
  refine vx_calli (vx_runV (As := [.int p0, .int p1, .int p2, .int p3, .int p4, .int p5]) (rest := [.int 0, .ref o]) ⟨hx, hb, hml, hown, hts⟩ (c_X10_addCue l hfl z0 D g x a0 a1 a2 a3 a4 a5 a6 p0 p1 p2 p3 p4 p5) (cwV 6 hts (lw_V m_782 m_783 m_784 m_1 m_785) rfl rfl rfl (by decide +kernel) ⟨(Nat.le_of_ble_eq_true rfl), (Nat.le_of_ble_eq_true rfl)⟩) ⟨PR.blind, va_recv hK hP (ci := 0) (q0 := 0) rfl rfl, PR.pre hE hS nA_z hc_1⟩ rfl rfl hl.1 rfl (lv_room (Nat.le_of_ble_eq_true rfl)) dL_addCue_13 ⟨(Nat.le_of_ble_eq_true rfl), (Nat.le_of_ble_eq_true rfl)⟩) hS nA_B nA_A nA_B (fun E ce q9 u t H locs ht hvm _ hBX hz1 hk1 hS hce hcv hcl => ?_) (fun r_2 u t H locs ht hvm hw _ _ _ _ => hw.elim)
  subst hBX
  have hP := hP.old hk1
  have hP : va_P D classes [(x, .inr (0, [.ref a0, .ref a1, .ref a2, .ref a3, .ref a4, .ref a5, .ref a6, .int 0, .int 0, .int 0, .int 0, .int 0, .int 0, .int 0]))] H := hP
  refine vx_catch hown (tableOf []) ⟨0, 18, 21, 20⟩ (tableOf [(0, 18, 25, 13), (0, 18, 29, 15)]) (htab.trans rfl) (fun z hz => nomatch hz) (by decide) (by decide) (hts _ m_659) (va_Nw.use rfl (hE.ng _ mn_697)) hce hcv hcl ?_
  refine lv_astore (lv' := [(8, .ref q9), (0, .ref x), (1, .int p0), (2, .int p1), (3, .int p2), (4, .int p3), (5, .int p4), (6, .int p5), (7, .ref o)]) hx hb dL_addCue_21 hl (by decide) rfl (fun ls hl => ?_)
  refine lv_iconst (v := 1) hx hb dL_addCue_23 (by decide) ?_
  refine W.widen (k := 1) (n := 6) (Nat.le_of_ble_eq_true rfl) (Nat.le_of_ble_eq_true rfl) ?_
  refine vx_ret ?_
  exact W.iret (v := 1) hx hb hr (fun t ht hW => ⟨⟨1, (), rfl, rfl, trivial⟩, hS.F ht⟩) hS.2.2 dL_addCue_24

set_option maxHeartbeats 4000000 in
set_option maxRecDepth 100000 in
theorem c_L_cues (l : Launch) (hfl : l.stackTraces = false) (z0 : Nat) (D : va_G) (g : Nat → Nat) (x a0 a1 a2 a3 a4 a5 a6 : Nat) (p0 : Int32) (o : Nat) : vx_Met l yL_cues (wspW yL_cues cL_cues 4 (some .int) [(0, 9, 12, 20)]) ({ frames := 8, cells := 1, slots := 6, locals := 124 }) (va_Pc [.ref x, .int p0, .ref o] (PR z0 D g [(x, .inr (0, [.ref a0, .ref a1, .ref a2, .ref a3, .ref a4, .ref a5, .ref a6, .int 0, .int 0, .int 0, .int 0, .int 0, .int 0, .int 0]))])) (va_Qi (fun (r : Int32) (_ : Unit) => r = 1) (fun _ _ => True) nA) xN 1 6 nA := by
  refine vx_ofWH (cc := cL_cues) (maxL := 4) (ret := (some .int)) (hh := [(0, 9, 12, 20)]) (by decide) rfl ?_
  intro p e s m args below meth c s₁ B hml hv
  obtain ⟨rfl, hE, hP⟩ := hv
  have hx := B.exec
  have hb := B.bytes
  have hr := B.returns
  have hts0 := atoms_spec (ws := (wspW yL_cues cL_cues 4 (some .int) [(0, 9, 12, 20)])) B.pre
  have htab := vx_table (x := yL_cues) B (hts0 _ List.mem_cons_self)
  have hts : ∀ w ∈ lw_all, w.before _ s = true := fun w h => hts0 w (List.mem_cons_of_mem _ h)
  have hown : s.vm.findClass "TheatrehouseLaw" = some m.cls := findClass_of_methodNamed B.named
  have hlocks := B.notSynchronized
  have hK := hE.K
  have hS : va_S nA s.heap s.heap [] := va_S.rf
  have hP : va_P D classes [(x, .inr (0, [.ref a0, .ref a1, .ref a2, .ref a3, .ref a4, .ref a5, .ref a6, .int 0, .int 0, .int 0, .int 0, .int 0, .int 0, .int 0]))] s.heap := hP
  have hl := lv_entry ([.ref x, .int p0, .ref o]) (n := 4) (Nat.le_of_ble_eq_true rfl)
  rw [lg_entry_eq]
  generalize (lg_sl ([.ref x, .int p0, .ref o]) ++ List.replicate (4 - (lg_sl ([.ref x, .int p0, .ref o])).length) Slot.unset).toArray = ls at hl ⊢
  have hl : lv_has ls 4 [(0, .ref x), (1, .int p0), (2, .ref o)] := hl
  refine lv_aload_n hx hb dL_cues_0 rfl (lv_at hl 2 rfl) ?_
  refine lv_iconst (v := 0) hx hb dL_cues_1 (by decide) ?_
  refine lv_aload_n hx hb dL_cues_2 rfl (lv_at hl 0 rfl) ?_
  refine lv_iload_n hx hb dL_cues_3 rfl (lv_at hl 1 rfl) ?_
  have hc_1 := hP.sub (ws' := [(x, .inr (0, [.ref a0, .ref a1, .ref a2, .ref a3, .ref a4, .ref a5, .ref a6, .int 0, .int 0, .int 0, .int 0, .int 0, .int 0, .int 0]))]) [0] rfl
  refine vx_calli (vx_runV (As := [.int p0]) (rest := [.int 0, .ref o]) ⟨hx, hb, hml, hown, hts⟩ (c_X10_cues l hfl z0 D g x a0 a1 a2 a3 a4 a5 a6 p0) (cwV 1 hts (lw_V m_800 m_801 m_802 m_1 m_803) rfl rfl rfl (by decide +kernel) ⟨(Nat.le_of_ble_eq_true rfl), (Nat.le_of_ble_eq_true rfl)⟩) ⟨PR.blind, va_recv hK hP (ci := 0) (q0 := 0) rfl rfl, PR.pre hE hS nA_z hc_1⟩ rfl rfl hl.1 rfl (lv_room (Nat.le_of_ble_eq_true rfl)) dL_cues_4 ⟨(Nat.le_of_ble_eq_true rfl), (Nat.le_of_ble_eq_true rfl)⟩) hS nA_B nA_A nA_B (fun E ce q9 u t H locs ht hvm _ hBX hz1 hk1 hS hce hcv hcl => ?_) (fun r_2 u t H locs ht hvm hw _ _ _ _ => hw.elim)
  subst hBX
  have hP := hP.old hk1
  have hP : va_P D classes [(x, .inr (0, [.ref a0, .ref a1, .ref a2, .ref a3, .ref a4, .ref a5, .ref a6, .int 0, .int 0, .int 0, .int 0, .int 0, .int 0, .int 0]))] H := hP
  refine vx_catch hown (tableOf []) ⟨0, 9, 12, 20⟩ (tableOf []) (htab.trans rfl) (fun z hz => nomatch hz) (by decide) (by decide) (hts _ m_659) (va_Nw.use rfl (hE.ng _ mn_697)) hce hcv hcl ?_
  refine lv_astore_n (lv' := [(3, .ref q9), (0, .ref x), (1, .int p0), (2, .ref o)]) hx hb dL_cues_12 rfl hl (by decide) rfl (fun ls hl => ?_)
  refine lv_iconst (v := 1) hx hb dL_cues_13 (by decide) ?_
  refine W.widen (k := 1) (n := 6) (Nat.le_of_ble_eq_true rfl) (Nat.le_of_ble_eq_true rfl) ?_
  refine vx_ret ?_
  exact W.iret (v := 1) hx hb hr (fun t ht hW => ⟨⟨1, (), rfl, rfl, trivial⟩, hS.F ht⟩) hS.2.2 dL_cues_14

set_option maxHeartbeats 4000000 in
set_option maxRecDepth 100000 in
theorem c_L_plan (l : Launch) (hfl : l.stackTraces = false) (z0 : Nat) (D : va_G) (g : Nat → Nat) (x a0 a1 a2 a3 a4 a5 a6 : Nat) (p0 : Int32) (p1 : Int32) (o : Nat) : vx_Met l yL_plan (wspW yL_plan cL_plan 5 (some .int) [(0, 10, 13, 20), (0, 10, 17, 13), (0, 10, 21, 39)]) ({ frames := 8, cells := 1, slots := 6, locals := 126 }) (va_Pc [.ref x, .int p0, .int p1, .ref o] (PR z0 D g [(x, .inr (0, [.ref a0, .ref a1, .ref a2, .ref a3, .ref a4, .ref a5, .ref a6, .int 0, .int 0, .int 0, .int 0, .int 0, .int 0, .int 0]))])) (va_Qi (fun (r : Int32) (_ : Unit) => r = 1) (fun _ _ => True) nA) xN 1 6 nA := by
  refine vx_ofWH (cc := cL_plan) (maxL := 5) (ret := (some .int)) (hh := [(0, 10, 13, 20), (0, 10, 17, 13), (0, 10, 21, 39)]) (by decide) rfl ?_
  intro p e s m args below meth c s₁ B hml hv
  obtain ⟨rfl, hE, hP⟩ := hv
  have hx := B.exec
  have hb := B.bytes
  have hr := B.returns
  have hts0 := atoms_spec (ws := (wspW yL_plan cL_plan 5 (some .int) [(0, 10, 13, 20), (0, 10, 17, 13), (0, 10, 21, 39)])) B.pre
  have htab := vx_table (x := yL_plan) B (hts0 _ List.mem_cons_self)
  have hts : ∀ w ∈ lw_all, w.before _ s = true := fun w h => hts0 w (List.mem_cons_of_mem _ h)
  have hown : s.vm.findClass "TheatrehouseLaw" = some m.cls := findClass_of_methodNamed B.named
  have hlocks := B.notSynchronized
  have hK := hE.K
  have hS : va_S nA s.heap s.heap [] := va_S.rf
  have hP : va_P D classes [(x, .inr (0, [.ref a0, .ref a1, .ref a2, .ref a3, .ref a4, .ref a5, .ref a6, .int 0, .int 0, .int 0, .int 0, .int 0, .int 0, .int 0]))] s.heap := hP
  have hl := lv_entry ([.ref x, .int p0, .int p1, .ref o]) (n := 5) (Nat.le_of_ble_eq_true rfl)
  rw [lg_entry_eq]
  generalize (lg_sl ([.ref x, .int p0, .int p1, .ref o]) ++ List.replicate (5 - (lg_sl ([.ref x, .int p0, .int p1, .ref o])).length) Slot.unset).toArray = ls at hl ⊢
  have hl : lv_has ls 5 [(0, .ref x), (1, .int p0), (2, .int p1), (3, .ref o)] := hl
  refine lv_aload_n hx hb dL_plan_0 rfl (lv_at hl 3 rfl) ?_
  refine lv_iconst (v := 0) hx hb dL_plan_1 (by decide) ?_
  refine lv_aload_n hx hb dL_plan_2 rfl (lv_at hl 0 rfl) ?_
  refine lv_iload_n hx hb dL_plan_3 rfl (lv_at hl 1 rfl) ?_
  refine lv_iload_n hx hb dL_plan_4 rfl (lv_at hl 2 rfl) ?_
  have hc_1 := hP.sub (ws' := [(x, .inr (0, [.ref a0, .ref a1, .ref a2, .ref a3, .ref a4, .ref a5, .ref a6, .int 0, .int 0, .int 0, .int 0, .int 0, .int 0, .int 0]))]) [0] rfl
  refine vx_calli (vx_runV (As := [.int p0, .int p1]) (rest := [.int 0, .ref o]) ⟨hx, hb, hml, hown, hts⟩ (c_X10_plan l hfl z0 D g x a0 a1 a2 a3 a4 a5 a6 p0 p1) (cwV 2 hts (lw_V m_807 m_808 m_809 m_1 m_810) rfl rfl rfl (by decide +kernel) ⟨(Nat.le_of_ble_eq_true rfl), (Nat.le_of_ble_eq_true rfl)⟩) ⟨PR.blind, va_recv hK hP (ci := 0) (q0 := 0) rfl rfl, PR.pre hE hS nA_z hc_1⟩ rfl rfl hl.1 rfl (lv_room (Nat.le_of_ble_eq_true rfl)) dL_plan_5 ⟨(Nat.le_of_ble_eq_true rfl), (Nat.le_of_ble_eq_true rfl)⟩) hS nA_B nA_A nA_B (fun E ce q9 u t H locs ht hvm _ hBX hz1 hk1 hS hce hcv hcl => ?_) (fun r_2 u t H locs ht hvm hw _ _ _ _ => hw.elim)
  subst hBX
  have hP := hP.old hk1
  have hP : va_P D classes [(x, .inr (0, [.ref a0, .ref a1, .ref a2, .ref a3, .ref a4, .ref a5, .ref a6, .int 0, .int 0, .int 0, .int 0, .int 0, .int 0, .int 0]))] H := hP
  refine vx_catch hown (tableOf []) ⟨0, 10, 13, 20⟩ (tableOf [(0, 10, 17, 13), (0, 10, 21, 39)]) (htab.trans rfl) (fun z hz => nomatch hz) (by decide) (by decide) (hts _ m_659) (va_Nw.use rfl (hE.ng _ mn_697)) hce hcv hcl ?_
  refine lv_astore (lv' := [(4, .ref q9), (0, .ref x), (1, .int p0), (2, .int p1), (3, .ref o)]) hx hb dL_plan_13 hl (by decide) rfl (fun ls hl => ?_)
  refine lv_iconst (v := 1) hx hb dL_plan_15 (by decide) ?_
  refine W.widen (k := 1) (n := 6) (Nat.le_of_ble_eq_true rfl) (Nat.le_of_ble_eq_true rfl) ?_
  refine vx_ret ?_
  exact W.iret (v := 1) hx hb hr (fun t ht hW => ⟨⟨1, (), rfl, rfl, trivial⟩, hS.F ht⟩) hS.2.2 dL_plan_16

set_option maxHeartbeats 4000000 in
set_option maxRecDepth 100000 in
theorem c_L_voice (l : Launch) (hfl : l.stackTraces = false) (z0 : Nat) (D : va_G) (g : Nat → Nat) (x a0 a1 a2 a3 a4 a5 a6 : Nat) (p0 : Int32) (o : Nat) : vx_Met l yL_voice (wspW yL_voice cL_voice 4 (some .int) [(0, 9, 12, 20)]) ({ frames := 8, cells := 1, slots := 6, locals := 124 }) (va_Pc [.ref x, .int p0, .ref o] (PR z0 D g [(x, .inr (0, [.ref a0, .ref a1, .ref a2, .ref a3, .ref a4, .ref a5, .ref a6, .int 0, .int 0, .int 0, .int 0, .int 0, .int 0, .int 0]))])) (va_Qi (fun (r : Int32) (_ : Unit) => r = 1) (fun _ _ => True) nA) xN 1 6 nA := by
  refine vx_ofWH (cc := cL_voice) (maxL := 4) (ret := (some .int)) (hh := [(0, 9, 12, 20)]) (by decide) rfl ?_
  intro p e s m args below meth c s₁ B hml hv
  obtain ⟨rfl, hE, hP⟩ := hv
  have hx := B.exec
  have hb := B.bytes
  have hr := B.returns
  have hts0 := atoms_spec (ws := (wspW yL_voice cL_voice 4 (some .int) [(0, 9, 12, 20)])) B.pre
  have htab := vx_table (x := yL_voice) B (hts0 _ List.mem_cons_self)
  have hts : ∀ w ∈ lw_all, w.before _ s = true := fun w h => hts0 w (List.mem_cons_of_mem _ h)
  have hown : s.vm.findClass "TheatrehouseLaw" = some m.cls := findClass_of_methodNamed B.named
  have hlocks := B.notSynchronized
  have hK := hE.K
  have hS : va_S nA s.heap s.heap [] := va_S.rf
  have hP : va_P D classes [(x, .inr (0, [.ref a0, .ref a1, .ref a2, .ref a3, .ref a4, .ref a5, .ref a6, .int 0, .int 0, .int 0, .int 0, .int 0, .int 0, .int 0]))] s.heap := hP
  have hl := lv_entry ([.ref x, .int p0, .ref o]) (n := 4) (Nat.le_of_ble_eq_true rfl)
  rw [lg_entry_eq]
  generalize (lg_sl ([.ref x, .int p0, .ref o]) ++ List.replicate (4 - (lg_sl ([.ref x, .int p0, .ref o])).length) Slot.unset).toArray = ls at hl ⊢
  have hl : lv_has ls 4 [(0, .ref x), (1, .int p0), (2, .ref o)] := hl
  refine lv_aload_n hx hb dL_voice_0 rfl (lv_at hl 2 rfl) ?_
  refine lv_iconst (v := 0) hx hb dL_voice_1 (by decide) ?_
  refine lv_aload_n hx hb dL_voice_2 rfl (lv_at hl 0 rfl) ?_
  refine lv_iload_n hx hb dL_voice_3 rfl (lv_at hl 1 rfl) ?_
  have hc_1 := hP.sub (ws' := [(x, .inr (0, [.ref a0, .ref a1, .ref a2, .ref a3, .ref a4, .ref a5, .ref a6, .int 0, .int 0, .int 0, .int 0, .int 0, .int 0, .int 0]))]) [0] rfl
  refine vx_calli (vx_runV (As := [.int p0]) (rest := [.int 0, .ref o]) ⟨hx, hb, hml, hown, hts⟩ (c_X10_voice l hfl z0 D g x a0 a1 a2 a3 a4 a5 a6 p0) (cwV 1 hts (lw_V m_990 m_991 m_992 m_1 m_993) rfl rfl rfl (by decide +kernel) ⟨(Nat.le_of_ble_eq_true rfl), (Nat.le_of_ble_eq_true rfl)⟩) ⟨PR.blind, va_recv hK hP (ci := 0) (q0 := 0) rfl rfl, PR.pre hE hS nA_z hc_1⟩ rfl rfl hl.1 rfl (lv_room (Nat.le_of_ble_eq_true rfl)) dL_voice_4 ⟨(Nat.le_of_ble_eq_true rfl), (Nat.le_of_ble_eq_true rfl)⟩) hS nA_B nA_A nA_B (fun E ce q9 u t H locs ht hvm _ hBX hz1 hk1 hS hce hcv hcl => ?_) (fun r_2 u t H locs ht hvm hw _ _ _ _ => hw.elim)
  subst hBX
  have hP := hP.old hk1
  have hP : va_P D classes [(x, .inr (0, [.ref a0, .ref a1, .ref a2, .ref a3, .ref a4, .ref a5, .ref a6, .int 0, .int 0, .int 0, .int 0, .int 0, .int 0, .int 0]))] H := hP
  refine vx_catch hown (tableOf []) ⟨0, 9, 12, 20⟩ (tableOf []) (htab.trans rfl) (fun z hz => nomatch hz) (by decide) (by decide) (hts _ m_659) (va_Nw.use rfl (hE.ng _ mn_697)) hce hcv hcl ?_
  refine lv_astore_n (lv' := [(3, .ref q9), (0, .ref x), (1, .int p0), (2, .ref o)]) hx hb dL_voice_12 rfl hl (by decide) rfl (fun ls hl => ?_)
  refine lv_iconst (v := 1) hx hb dL_voice_13 (by decide) ?_
  refine W.widen (k := 1) (n := 6) (Nat.le_of_ble_eq_true rfl) (Nat.le_of_ble_eq_true rfl) ?_
  refine vx_ret ?_
  exact W.iret (v := 1) hx hb hr (fun t ht hW => ⟨⟨1, (), rfl, rfl, trivial⟩, hS.F ht⟩) hS.2.2 dL_voice_14

set_option maxHeartbeats 4000000 in
set_option maxRecDepth 100000 in
theorem c_L_place (l : Launch) (hfl : l.stackTraces = false) (z0 : Nat) (D : va_G) (g : Nat → Nat) (x a0 a1 a2 a3 a4 a5 a6 : Nat) (p0 : Int32) (o : Nat) : vx_Met l yL_place (wspW yL_place cL_place 4 (some .int) [(0, 9, 12, 20)]) ({ frames := 8, cells := 1, slots := 6, locals := 124 }) (va_Pc [.ref x, .int p0, .ref o] (PR z0 D g [(x, .inr (0, [.ref a0, .ref a1, .ref a2, .ref a3, .ref a4, .ref a5, .ref a6, .int 0, .int 0, .int 0, .int 0, .int 0, .int 0, .int 0]))])) (va_Qi (fun (r : Int32) (_ : Unit) => r = 1) (fun _ _ => True) nA) xN 1 6 nA := by
  refine vx_ofWH (cc := cL_place) (maxL := 4) (ret := (some .int)) (hh := [(0, 9, 12, 20)]) (by decide) rfl ?_
  intro p e s m args below meth c s₁ B hml hv
  obtain ⟨rfl, hE, hP⟩ := hv
  have hx := B.exec
  have hb := B.bytes
  have hr := B.returns
  have hts0 := atoms_spec (ws := (wspW yL_place cL_place 4 (some .int) [(0, 9, 12, 20)])) B.pre
  have htab := vx_table (x := yL_place) B (hts0 _ List.mem_cons_self)
  have hts : ∀ w ∈ lw_all, w.before _ s = true := fun w h => hts0 w (List.mem_cons_of_mem _ h)
  have hown : s.vm.findClass "TheatrehouseLaw" = some m.cls := findClass_of_methodNamed B.named
  have hlocks := B.notSynchronized
  have hK := hE.K
  have hS : va_S nA s.heap s.heap [] := va_S.rf
  have hP : va_P D classes [(x, .inr (0, [.ref a0, .ref a1, .ref a2, .ref a3, .ref a4, .ref a5, .ref a6, .int 0, .int 0, .int 0, .int 0, .int 0, .int 0, .int 0]))] s.heap := hP
  have hl := lv_entry ([.ref x, .int p0, .ref o]) (n := 4) (Nat.le_of_ble_eq_true rfl)
  rw [lg_entry_eq]
  generalize (lg_sl ([.ref x, .int p0, .ref o]) ++ List.replicate (4 - (lg_sl ([.ref x, .int p0, .ref o])).length) Slot.unset).toArray = ls at hl ⊢
  have hl : lv_has ls 4 [(0, .ref x), (1, .int p0), (2, .ref o)] := hl
  refine lv_aload_n hx hb dL_place_0 rfl (lv_at hl 2 rfl) ?_
  refine lv_iconst (v := 0) hx hb dL_place_1 (by decide) ?_
  refine lv_aload_n hx hb dL_place_2 rfl (lv_at hl 0 rfl) ?_
  refine lv_iload_n hx hb dL_place_3 rfl (lv_at hl 1 rfl) ?_
  have hc_1 := hP.sub (ws' := [(x, .inr (0, [.ref a0, .ref a1, .ref a2, .ref a3, .ref a4, .ref a5, .ref a6, .int 0, .int 0, .int 0, .int 0, .int 0, .int 0, .int 0]))]) [0] rfl
  refine vx_calli (vx_runV (As := [.int p0]) (rest := [.int 0, .ref o]) ⟨hx, hb, hml, hown, hts⟩ (c_X10_place l hfl z0 D g x a0 a1 a2 a3 a4 a5 a6 p0) (cwV 1 hts (lw_V m_997 m_998 m_999 m_1 m_1000) rfl rfl rfl (by decide +kernel) ⟨(Nat.le_of_ble_eq_true rfl), (Nat.le_of_ble_eq_true rfl)⟩) ⟨PR.blind, va_recv hK hP (ci := 0) (q0 := 0) rfl rfl, PR.pre hE hS nA_z hc_1⟩ rfl rfl hl.1 rfl (lv_room (Nat.le_of_ble_eq_true rfl)) dL_place_4 ⟨(Nat.le_of_ble_eq_true rfl), (Nat.le_of_ble_eq_true rfl)⟩) hS nA_B nA_A nA_B (fun E ce q9 u t H locs ht hvm _ hBX hz1 hk1 hS hce hcv hcl => ?_) (fun r_2 u t H locs ht hvm hw _ _ _ _ => hw.elim)
  subst hBX
  have hP := hP.old hk1
  have hP : va_P D classes [(x, .inr (0, [.ref a0, .ref a1, .ref a2, .ref a3, .ref a4, .ref a5, .ref a6, .int 0, .int 0, .int 0, .int 0, .int 0, .int 0, .int 0]))] H := hP
  refine vx_catch hown (tableOf []) ⟨0, 9, 12, 20⟩ (tableOf []) (htab.trans rfl) (fun z hz => nomatch hz) (by decide) (by decide) (hts _ m_659) (va_Nw.use rfl (hE.ng _ mn_697)) hce hcv hcl ?_
  refine lv_astore_n (lv' := [(3, .ref q9), (0, .ref x), (1, .int p0), (2, .ref o)]) hx hb dL_place_12 rfl hl (by decide) rfl (fun ls hl => ?_)
  refine lv_iconst (v := 1) hx hb dL_place_13 (by decide) ?_
  refine W.widen (k := 1) (n := 6) (Nat.le_of_ble_eq_true rfl) (Nat.le_of_ble_eq_true rfl) ?_
  refine vx_ret ?_
  exact W.iret (v := 1) hx hb hr (fun t ht hW => ⟨⟨1, (), rfl, rfl, trivial⟩, hS.F ht⟩) hS.2.2 dL_place_14

set_option maxHeartbeats 4000000 in
set_option maxRecDepth 100000 in
theorem c_L_balance (l : Launch) (hfl : l.stackTraces = false) (z0 : Nat) (D : va_G) (g : Nat → Nat) (x a0 a1 a2 a3 a4 a5 a6 : Nat) (p0 : Int32) (o : Nat) : vx_Met l yL_balance (wspW yL_balance cL_balance 4 (some .int) [(0, 9, 12, 20)]) ({ frames := 8, cells := 1, slots := 6, locals := 124 }) (va_Pc [.ref x, .int p0, .ref o] (PR z0 D g [(x, .inr (0, [.ref a0, .ref a1, .ref a2, .ref a3, .ref a4, .ref a5, .ref a6, .int 0, .int 0, .int 0, .int 0, .int 0, .int 0, .int 0]))])) (va_Qi (fun (r : Int32) (_ : Unit) => r = 1) (fun _ _ => True) nA) xN 1 6 nA := by
  refine vx_ofWH (cc := cL_balance) (maxL := 4) (ret := (some .int)) (hh := [(0, 9, 12, 20)]) (by decide) rfl ?_
  intro p e s m args below meth c s₁ B hml hv
  obtain ⟨rfl, hE, hP⟩ := hv
  have hx := B.exec
  have hb := B.bytes
  have hr := B.returns
  have hts0 := atoms_spec (ws := (wspW yL_balance cL_balance 4 (some .int) [(0, 9, 12, 20)])) B.pre
  have htab := vx_table (x := yL_balance) B (hts0 _ List.mem_cons_self)
  have hts : ∀ w ∈ lw_all, w.before _ s = true := fun w h => hts0 w (List.mem_cons_of_mem _ h)
  have hown : s.vm.findClass "TheatrehouseLaw" = some m.cls := findClass_of_methodNamed B.named
  have hlocks := B.notSynchronized
  have hK := hE.K
  have hS : va_S nA s.heap s.heap [] := va_S.rf
  have hP : va_P D classes [(x, .inr (0, [.ref a0, .ref a1, .ref a2, .ref a3, .ref a4, .ref a5, .ref a6, .int 0, .int 0, .int 0, .int 0, .int 0, .int 0, .int 0]))] s.heap := hP
  have hl := lv_entry ([.ref x, .int p0, .ref o]) (n := 4) (Nat.le_of_ble_eq_true rfl)
  rw [lg_entry_eq]
  generalize (lg_sl ([.ref x, .int p0, .ref o]) ++ List.replicate (4 - (lg_sl ([.ref x, .int p0, .ref o])).length) Slot.unset).toArray = ls at hl ⊢
  have hl : lv_has ls 4 [(0, .ref x), (1, .int p0), (2, .ref o)] := hl
  refine lv_aload_n hx hb dL_balance_0 rfl (lv_at hl 2 rfl) ?_
  refine lv_iconst (v := 0) hx hb dL_balance_1 (by decide) ?_
  refine lv_aload_n hx hb dL_balance_2 rfl (lv_at hl 0 rfl) ?_
  refine lv_iload_n hx hb dL_balance_3 rfl (lv_at hl 1 rfl) ?_
  have hc_1 := hP.sub (ws' := [(x, .inr (0, [.ref a0, .ref a1, .ref a2, .ref a3, .ref a4, .ref a5, .ref a6, .int 0, .int 0, .int 0, .int 0, .int 0, .int 0, .int 0]))]) [0] rfl
  refine vx_calli (vx_runV (As := [.int p0]) (rest := [.int 0, .ref o]) ⟨hx, hb, hml, hown, hts⟩ (c_X10_balance l hfl z0 D g x a0 a1 a2 a3 a4 a5 a6 p0) (cwV 1 hts (lw_V m_1068 m_1069 m_1070 m_1 m_1071) rfl rfl rfl (by decide +kernel) ⟨(Nat.le_of_ble_eq_true rfl), (Nat.le_of_ble_eq_true rfl)⟩) ⟨PR.blind, va_recv hK hP (ci := 0) (q0 := 0) rfl rfl, PR.pre hE hS nA_z hc_1⟩ rfl rfl hl.1 rfl (lv_room (Nat.le_of_ble_eq_true rfl)) dL_balance_4 ⟨(Nat.le_of_ble_eq_true rfl), (Nat.le_of_ble_eq_true rfl)⟩) hS nA_B nA_A nA_B (fun E ce q9 u t H locs ht hvm _ hBX hz1 hk1 hS hce hcv hcl => ?_) (fun r_2 u t H locs ht hvm hw _ _ _ _ => hw.elim)
  subst hBX
  have hP := hP.old hk1
  have hP : va_P D classes [(x, .inr (0, [.ref a0, .ref a1, .ref a2, .ref a3, .ref a4, .ref a5, .ref a6, .int 0, .int 0, .int 0, .int 0, .int 0, .int 0, .int 0]))] H := hP
  refine vx_catch hown (tableOf []) ⟨0, 9, 12, 20⟩ (tableOf []) (htab.trans rfl) (fun z hz => nomatch hz) (by decide) (by decide) (hts _ m_659) (va_Nw.use rfl (hE.ng _ mn_697)) hce hcv hcl ?_
  refine lv_astore_n (lv' := [(3, .ref q9), (0, .ref x), (1, .int p0), (2, .ref o)]) hx hb dL_balance_12 rfl hl (by decide) rfl (fun ls hl => ?_)
  refine lv_iconst (v := 1) hx hb dL_balance_13 (by decide) ?_
  refine W.widen (k := 1) (n := 6) (Nat.le_of_ble_eq_true rfl) (Nat.le_of_ble_eq_true rfl) ?_
  refine vx_ret ?_
  exact W.iret (v := 1) hx hb hr (fun t ht hW => ⟨⟨1, (), rfl, rfl, trivial⟩, hS.F ht⟩) hS.2.2 dL_balance_14

set_option maxHeartbeats 4000000 in
set_option maxRecDepth 100000 in
theorem c_L_sung (l : Launch) (hfl : l.stackTraces = false) (z0 : Nat) (D : va_G) (g : Nat → Nat) (x a0 a1 a2 a3 a4 a5 a6 : Nat) (p0 : Int32) (o : Nat) : vx_Met l yL_sung (wspW yL_sung cL_sung 4 (some .int) [(0, 9, 12, 20)]) ({ frames := 8, cells := 1, slots := 6, locals := 124 }) (va_Pc [.ref x, .int p0, .ref o] (PR z0 D g [(x, .inr (0, [.ref a0, .ref a1, .ref a2, .ref a3, .ref a4, .ref a5, .ref a6, .int 0, .int 0, .int 0, .int 0, .int 0, .int 0, .int 0]))])) (va_Qi (fun (r : Int32) (_ : Unit) => r = 1) (fun _ _ => True) nA) xN 1 6 nA := by
  refine vx_ofWH (cc := cL_sung) (maxL := 4) (ret := (some .int)) (hh := [(0, 9, 12, 20)]) (by decide) rfl ?_
  intro p e s m args below meth c s₁ B hml hv
  obtain ⟨rfl, hE, hP⟩ := hv
  have hx := B.exec
  have hb := B.bytes
  have hr := B.returns
  have hts0 := atoms_spec (ws := (wspW yL_sung cL_sung 4 (some .int) [(0, 9, 12, 20)])) B.pre
  have htab := vx_table (x := yL_sung) B (hts0 _ List.mem_cons_self)
  have hts : ∀ w ∈ lw_all, w.before _ s = true := fun w h => hts0 w (List.mem_cons_of_mem _ h)
  have hown : s.vm.findClass "TheatrehouseLaw" = some m.cls := findClass_of_methodNamed B.named
  have hlocks := B.notSynchronized
  have hK := hE.K
  have hS : va_S nA s.heap s.heap [] := va_S.rf
  have hP : va_P D classes [(x, .inr (0, [.ref a0, .ref a1, .ref a2, .ref a3, .ref a4, .ref a5, .ref a6, .int 0, .int 0, .int 0, .int 0, .int 0, .int 0, .int 0]))] s.heap := hP
  have hl := lv_entry ([.ref x, .int p0, .ref o]) (n := 4) (Nat.le_of_ble_eq_true rfl)
  rw [lg_entry_eq]
  generalize (lg_sl ([.ref x, .int p0, .ref o]) ++ List.replicate (4 - (lg_sl ([.ref x, .int p0, .ref o])).length) Slot.unset).toArray = ls at hl ⊢
  have hl : lv_has ls 4 [(0, .ref x), (1, .int p0), (2, .ref o)] := hl
  refine lv_aload_n hx hb dL_sung_0 rfl (lv_at hl 2 rfl) ?_
  refine lv_iconst (v := 0) hx hb dL_sung_1 (by decide) ?_
  refine lv_aload_n hx hb dL_sung_2 rfl (lv_at hl 0 rfl) ?_
  refine lv_iload_n hx hb dL_sung_3 rfl (lv_at hl 1 rfl) ?_
  have hc_1 := hP.sub (ws' := [(x, .inr (0, [.ref a0, .ref a1, .ref a2, .ref a3, .ref a4, .ref a5, .ref a6, .int 0, .int 0, .int 0, .int 0, .int 0, .int 0, .int 0]))]) [0] rfl
  refine vx_calli (vx_runV (As := [.int p0]) (rest := [.int 0, .ref o]) ⟨hx, hb, hml, hown, hts⟩ (c_X10_sung l hfl z0 D g x a0 a1 a2 a3 a4 a5 a6 p0) (cwV 1 hts (lw_V m_1075 m_1076 m_1077 m_1 m_1078) rfl rfl rfl (by decide +kernel) ⟨(Nat.le_of_ble_eq_true rfl), (Nat.le_of_ble_eq_true rfl)⟩) ⟨PR.blind, va_recv hK hP (ci := 0) (q0 := 0) rfl rfl, PR.pre hE hS nA_z hc_1⟩ rfl rfl hl.1 rfl (lv_room (Nat.le_of_ble_eq_true rfl)) dL_sung_4 ⟨(Nat.le_of_ble_eq_true rfl), (Nat.le_of_ble_eq_true rfl)⟩) hS nA_B nA_A nA_B (fun E ce q9 u t H locs ht hvm _ hBX hz1 hk1 hS hce hcv hcl => ?_) (fun r_2 u t H locs ht hvm hw _ _ _ _ => hw.elim)
  subst hBX
  have hP := hP.old hk1
  have hP : va_P D classes [(x, .inr (0, [.ref a0, .ref a1, .ref a2, .ref a3, .ref a4, .ref a5, .ref a6, .int 0, .int 0, .int 0, .int 0, .int 0, .int 0, .int 0]))] H := hP
  refine vx_catch hown (tableOf []) ⟨0, 9, 12, 20⟩ (tableOf []) (htab.trans rfl) (fun z hz => nomatch hz) (by decide) (by decide) (hts _ m_659) (va_Nw.use rfl (hE.ng _ mn_697)) hce hcv hcl ?_
  refine lv_astore_n (lv' := [(3, .ref q9), (0, .ref x), (1, .int p0), (2, .ref o)]) hx hb dL_sung_12 rfl hl (by decide) rfl (fun ls hl => ?_)
  refine lv_iconst (v := 1) hx hb dL_sung_13 (by decide) ?_
  refine W.widen (k := 1) (n := 6) (Nat.le_of_ble_eq_true rfl) (Nat.le_of_ble_eq_true rfl) ?_
  refine vx_ret ?_
  exact W.iret (v := 1) hx hb hr (fun t ht hW => ⟨⟨1, (), rfl, rfl, trivial⟩, hS.F ht⟩) hS.2.2 dL_sung_14

set_option maxHeartbeats 4000000 in
set_option maxRecDepth 100000 in
theorem c_L_perform (l : Launch) (hfl : l.stackTraces = false) (z0 : Nat) (D : va_G) (g : Nat → Nat) (x a0 a1 a2 a3 a4 a5 a6 : Nat) (p0 : Int32) (o : Nat) : vx_Met l yL_perform (wspW yL_perform cL_perform 4 (some .int) [(0, 9, 12, 15), (0, 9, 15, 20), (0, 9, 18, 39)]) ({ frames := 8, cells := 1, slots := 6, locals := 123 }) (va_Pc [.ref x, .int p0, .ref o] (PR z0 D g [(x, .inr (0, [.ref a0, .ref a1, .ref a2, .ref a3, .ref a4, .ref a5, .ref a6, .int 0, .int 0, .int 0, .int 0, .int 0, .int 0, .int 0]))])) (va_Qi (fun (r : Int32) (_ : Unit) => r = 1) (fun _ _ => True) nA) xN 1 6 nA := by
  refine vx_ofWH (cc := cL_perform) (maxL := 4) (ret := (some .int)) (hh := [(0, 9, 12, 15), (0, 9, 15, 20), (0, 9, 18, 39)]) (by decide) rfl ?_
  intro p e s m args below meth c s₁ B hml hv
  obtain ⟨rfl, hE, hP⟩ := hv
  have hx := B.exec
  have hb := B.bytes
  have hr := B.returns
  have hts0 := atoms_spec (ws := (wspW yL_perform cL_perform 4 (some .int) [(0, 9, 12, 15), (0, 9, 15, 20), (0, 9, 18, 39)])) B.pre
  have htab := vx_table (x := yL_perform) B (hts0 _ List.mem_cons_self)
  have hts : ∀ w ∈ lw_all, w.before _ s = true := fun w h => hts0 w (List.mem_cons_of_mem _ h)
  have hown : s.vm.findClass "TheatrehouseLaw" = some m.cls := findClass_of_methodNamed B.named
  have hlocks := B.notSynchronized
  have hK := hE.K
  have hS : va_S nA s.heap s.heap [] := va_S.rf
  have hP : va_P D classes [(x, .inr (0, [.ref a0, .ref a1, .ref a2, .ref a3, .ref a4, .ref a5, .ref a6, .int 0, .int 0, .int 0, .int 0, .int 0, .int 0, .int 0]))] s.heap := hP
  have hl := lv_entry ([.ref x, .int p0, .ref o]) (n := 4) (Nat.le_of_ble_eq_true rfl)
  rw [lg_entry_eq]
  generalize (lg_sl ([.ref x, .int p0, .ref o]) ++ List.replicate (4 - (lg_sl ([.ref x, .int p0, .ref o])).length) Slot.unset).toArray = ls at hl ⊢
  have hl : lv_has ls 4 [(0, .ref x), (1, .int p0), (2, .ref o)] := hl
  refine lv_aload_n hx hb dL_perform_0 rfl (lv_at hl 2 rfl) ?_
  refine lv_iconst (v := 0) hx hb dL_perform_1 (by decide) ?_
  refine lv_aload_n hx hb dL_perform_2 rfl (lv_at hl 0 rfl) ?_
  refine lv_iload_n hx hb dL_perform_3 rfl (lv_at hl 1 rfl) ?_
  have hc_1 := hP.sub (ws' := [(x, .inr (0, [.ref a0, .ref a1, .ref a2, .ref a3, .ref a4, .ref a5, .ref a6, .int 0, .int 0, .int 0, .int 0, .int 0, .int 0, .int 0]))]) [0] rfl
  refine vx_calli (vx_runV (As := [.int p0]) (rest := [.int 0, .ref o]) ⟨hx, hb, hml, hown, hts⟩ (c_X10_perform l hfl z0 D g x a0 a1 a2 a3 a4 a5 a6 p0) (cwV 1 hts (lw_V m_907 m_908 m_909 m_1 m_910) rfl rfl rfl (by decide +kernel) ⟨(Nat.le_of_ble_eq_true rfl), (Nat.le_of_ble_eq_true rfl)⟩) ⟨PR.blind, va_recv hK hP (ci := 0) (q0 := 0) rfl rfl, PR.pre hE hS nA_z hc_1⟩ rfl rfl hl.1 rfl (lv_room (Nat.le_of_ble_eq_true rfl)) dL_perform_4 ⟨(Nat.le_of_ble_eq_true rfl), (Nat.le_of_ble_eq_true rfl)⟩) hS nA_B nA_A nA_B (fun E ce q9 u t H locs ht hvm _ hBX hz1 hk1 hS hce hcv hcl => ?_) (fun r_2 u t H locs ht hvm hw _ _ _ _ => hw.elim)
  subst hBX
  have hP := hP.old hk1
  have hP : va_P D classes [(x, .inr (0, [.ref a0, .ref a1, .ref a2, .ref a3, .ref a4, .ref a5, .ref a6, .int 0, .int 0, .int 0, .int 0, .int 0, .int 0, .int 0]))] H := hP
  refine vx_catch hown (tableOf []) ⟨0, 9, 12, 15⟩ (tableOf [(0, 9, 15, 20), (0, 9, 18, 39)]) (htab.trans rfl) (fun z hz => nomatch hz) (by decide) (by decide) (hts _ m_552) (va_Nw.use rfl (hE.ng _ mn_637)) hce hcv hcl ?_
  refine lv_astore_n (lv' := [(3, .ref q9), (0, .ref x), (1, .int p0), (2, .ref o)]) hx hb dL_perform_12 rfl hl (by decide) rfl (fun ls hl => ?_)
  refine lv_iconst (v := 1) hx hb dL_perform_13 (by decide) ?_
  refine W.widen (k := 1) (n := 6) (Nat.le_of_ble_eq_true rfl) (Nat.le_of_ble_eq_true rfl) ?_
  refine vx_ret ?_
  exact W.iret (v := 1) hx hb hr (fun t ht hW => ⟨⟨1, (), rfl, rfl, trivial⟩, hS.F ht⟩) hS.2.2 dL_perform_14

set_option maxHeartbeats 4000000 in
set_option maxRecDepth 100000 in
theorem c_L_obstacle (l : Launch) (hfl : l.stackTraces = false) (z0 : Nat) (D : va_G) (g : Nat → Nat) (x a0 a1 a2 a3 a4 a5 a6 : Nat) (p0 : Int32) (o : Nat) : vx_Met l yL_obstacle (wspW yL_obstacle cL_obstacle 4 (some .int) [(0, 9, 12, 15), (0, 9, 15, 20)]) ({ frames := 8, cells := 1, slots := 6, locals := 123 }) (va_Pc [.ref x, .int p0, .ref o] (PR z0 D g [(x, .inr (0, [.ref a0, .ref a1, .ref a2, .ref a3, .ref a4, .ref a5, .ref a6, .int 0, .int 0, .int 0, .int 0, .int 0, .int 0, .int 0]))])) (va_Qi (fun (r : Int32) (_ : Unit) => r = 1) (fun _ _ => True) nA) xN 1 6 nA := by
  refine vx_ofWH (cc := cL_obstacle) (maxL := 4) (ret := (some .int)) (hh := [(0, 9, 12, 15), (0, 9, 15, 20)]) (by decide) rfl ?_
  intro p e s m args below meth c s₁ B hml hv
  obtain ⟨rfl, hE, hP⟩ := hv
  have hx := B.exec
  have hb := B.bytes
  have hr := B.returns
  have hts0 := atoms_spec (ws := (wspW yL_obstacle cL_obstacle 4 (some .int) [(0, 9, 12, 15), (0, 9, 15, 20)])) B.pre
  have htab := vx_table (x := yL_obstacle) B (hts0 _ List.mem_cons_self)
  have hts : ∀ w ∈ lw_all, w.before _ s = true := fun w h => hts0 w (List.mem_cons_of_mem _ h)
  have hown : s.vm.findClass "TheatrehouseLaw" = some m.cls := findClass_of_methodNamed B.named
  have hlocks := B.notSynchronized
  have hK := hE.K
  have hS : va_S nA s.heap s.heap [] := va_S.rf
  have hP : va_P D classes [(x, .inr (0, [.ref a0, .ref a1, .ref a2, .ref a3, .ref a4, .ref a5, .ref a6, .int 0, .int 0, .int 0, .int 0, .int 0, .int 0, .int 0]))] s.heap := hP
  have hl := lv_entry ([.ref x, .int p0, .ref o]) (n := 4) (Nat.le_of_ble_eq_true rfl)
  rw [lg_entry_eq]
  generalize (lg_sl ([.ref x, .int p0, .ref o]) ++ List.replicate (4 - (lg_sl ([.ref x, .int p0, .ref o])).length) Slot.unset).toArray = ls at hl ⊢
  have hl : lv_has ls 4 [(0, .ref x), (1, .int p0), (2, .ref o)] := hl
  refine lv_aload_n hx hb dL_obstacle_0 rfl (lv_at hl 2 rfl) ?_
  refine lv_iconst (v := 0) hx hb dL_obstacle_1 (by decide) ?_
  refine lv_aload_n hx hb dL_obstacle_2 rfl (lv_at hl 0 rfl) ?_
  refine lv_iload_n hx hb dL_obstacle_3 rfl (lv_at hl 1 rfl) ?_
  have hc_1 := hP.sub (ws' := [(x, .inr (0, [.ref a0, .ref a1, .ref a2, .ref a3, .ref a4, .ref a5, .ref a6, .int 0, .int 0, .int 0, .int 0, .int 0, .int 0, .int 0]))]) [0] rfl
  refine vx_calli (vx_runV (As := [.int p0]) (rest := [.int 0, .ref o]) ⟨hx, hb, hml, hown, hts⟩ (c_X10_obstacle l hfl z0 D g x a0 a1 a2 a3 a4 a5 a6 p0) (cwV 1 hts (lw_V m_935 m_936 m_937 m_1 m_938) rfl rfl rfl (by decide +kernel) ⟨(Nat.le_of_ble_eq_true rfl), (Nat.le_of_ble_eq_true rfl)⟩) ⟨PR.blind, va_recv hK hP (ci := 0) (q0 := 0) rfl rfl, PR.pre hE hS nA_z hc_1⟩ rfl rfl hl.1 rfl (lv_room (Nat.le_of_ble_eq_true rfl)) dL_obstacle_4 ⟨(Nat.le_of_ble_eq_true rfl), (Nat.le_of_ble_eq_true rfl)⟩) hS nA_B nA_A nA_B (fun E ce q9 u t H locs ht hvm _ hBX hz1 hk1 hS hce hcv hcl => ?_) (fun r_2 u t H locs ht hvm hw _ _ _ _ => hw.elim)
  subst hBX
  have hP := hP.old hk1
  have hP : va_P D classes [(x, .inr (0, [.ref a0, .ref a1, .ref a2, .ref a3, .ref a4, .ref a5, .ref a6, .int 0, .int 0, .int 0, .int 0, .int 0, .int 0, .int 0]))] H := hP
  refine vx_catch hown (tableOf []) ⟨0, 9, 12, 15⟩ (tableOf [(0, 9, 15, 20)]) (htab.trans rfl) (fun z hz => nomatch hz) (by decide) (by decide) (hts _ m_552) (va_Nw.use rfl (hE.ng _ mn_637)) hce hcv hcl ?_
  refine lv_astore_n (lv' := [(3, .ref q9), (0, .ref x), (1, .int p0), (2, .ref o)]) hx hb dL_obstacle_12 rfl hl (by decide) rfl (fun ls hl => ?_)
  refine lv_iconst (v := 1) hx hb dL_obstacle_13 (by decide) ?_
  refine W.widen (k := 1) (n := 6) (Nat.le_of_ble_eq_true rfl) (Nat.le_of_ble_eq_true rfl) ?_
  refine vx_ret ?_
  exact W.iret (v := 1) hx hb hr (fun t ht hW => ⟨⟨1, (), rfl, rfl, trivial⟩, hS.F ht⟩) hS.2.2 dL_obstacle_14

set_option maxHeartbeats 4000000 in
set_option maxRecDepth 100000 in
theorem c_L_takeBack (l : Launch) (hfl : l.stackTraces = false) (z0 : Nat) (D : va_G) (g : Nat → Nat) (x a0 a1 a2 a3 a4 a5 a6 : Nat) (o : Nat) : vx_Met l yL_takeBack (wspW yL_takeBack cL_takeBack 3 (some .int) [(0, 8, 11, 15), (0, 8, 14, 55)]) ({ frames := 8, cells := 1, slots := 6, locals := 123 }) (va_Pc [.ref x, .ref o] (PR z0 D g [(x, .inr (0, [.ref a0, .ref a1, .ref a2, .ref a3, .ref a4, .ref a5, .ref a6, .int 0, .int 0, .int 0, .int 0, .int 0, .int 0, .int 0]))])) (va_Qi (fun (r : Int32) (_ : Unit) => r = 1) (fun _ _ => True) nA) xN 1 6 nA := by
  refine vx_ofWH (cc := cL_takeBack) (maxL := 3) (ret := (some .int)) (hh := [(0, 8, 11, 15), (0, 8, 14, 55)]) (by decide) rfl ?_
  intro p e s m args below meth c s₁ B hml hv
  obtain ⟨rfl, hE, hP⟩ := hv
  have hx := B.exec
  have hb := B.bytes
  have hr := B.returns
  have hts0 := atoms_spec (ws := (wspW yL_takeBack cL_takeBack 3 (some .int) [(0, 8, 11, 15), (0, 8, 14, 55)])) B.pre
  have htab := vx_table (x := yL_takeBack) B (hts0 _ List.mem_cons_self)
  have hts : ∀ w ∈ lw_all, w.before _ s = true := fun w h => hts0 w (List.mem_cons_of_mem _ h)
  have hown : s.vm.findClass "TheatrehouseLaw" = some m.cls := findClass_of_methodNamed B.named
  have hlocks := B.notSynchronized
  have hK := hE.K
  have hS : va_S nA s.heap s.heap [] := va_S.rf
  have hP : va_P D classes [(x, .inr (0, [.ref a0, .ref a1, .ref a2, .ref a3, .ref a4, .ref a5, .ref a6, .int 0, .int 0, .int 0, .int 0, .int 0, .int 0, .int 0]))] s.heap := hP
  have hl := lv_entry ([.ref x, .ref o]) (n := 3) (Nat.le_of_ble_eq_true rfl)
  rw [lg_entry_eq]
  generalize (lg_sl ([.ref x, .ref o]) ++ List.replicate (3 - (lg_sl ([.ref x, .ref o])).length) Slot.unset).toArray = ls at hl ⊢
  have hl : lv_has ls 3 [(0, .ref x), (1, .ref o)] := hl
  refine lv_aload_n hx hb dL_takeBack_0 rfl (lv_at hl 1 rfl) ?_
  refine lv_iconst (v := 0) hx hb dL_takeBack_1 (by decide) ?_
  refine lv_aload_n hx hb dL_takeBack_2 rfl (lv_at hl 0 rfl) ?_
  have hc_1 := hP.sub (ws' := [(x, .inr (0, [.ref a0, .ref a1, .ref a2, .ref a3, .ref a4, .ref a5, .ref a6, .int 0, .int 0, .int 0, .int 0, .int 0, .int 0, .int 0]))]) [0] rfl
  refine vx_calli (vx_runV (As := []) (rest := [.int 0, .ref o]) ⟨hx, hb, hml, hown, hts⟩ (c_X10_takeBack l hfl z0 D g x a0 a1 a2 a3 a4 a5 a6) (cwV 0 hts (lw_V m_942 m_943 m_944 m_1 m_945) rfl rfl rfl (by decide +kernel) ⟨(Nat.le_of_ble_eq_true rfl), (Nat.le_of_ble_eq_true rfl)⟩) ⟨PR.blind, va_recv hK hP (ci := 0) (q0 := 0) rfl rfl, PR.pre hE hS nA_z hc_1⟩ rfl rfl hl.1 rfl (lv_room (Nat.le_of_ble_eq_true rfl)) dL_takeBack_3 ⟨(Nat.le_of_ble_eq_true rfl), (Nat.le_of_ble_eq_true rfl)⟩) hS nA_B nA_A nA_B (fun E ce q9 u t H locs ht hvm _ hBX hz1 hk1 hS hce hcv hcl => ?_) (fun r_2 u t H locs ht hvm hw _ _ _ _ => hw.elim)
  subst hBX
  have hP := hP.old hk1
  have hP : va_P D classes [(x, .inr (0, [.ref a0, .ref a1, .ref a2, .ref a3, .ref a4, .ref a5, .ref a6, .int 0, .int 0, .int 0, .int 0, .int 0, .int 0, .int 0]))] H := hP
  refine vx_catch hown (tableOf []) ⟨0, 8, 11, 15⟩ (tableOf [(0, 8, 14, 55)]) (htab.trans rfl) (fun z hz => nomatch hz) (by decide) (by decide) (hts _ m_552) (va_Nw.use rfl (hE.ng _ mn_637)) hce hcv hcl ?_
  refine lv_astore_n (lv' := [(2, .ref q9), (0, .ref x), (1, .ref o)]) hx hb dL_takeBack_11 rfl hl (by decide) rfl (fun ls hl => ?_)
  refine lv_iconst (v := 1) hx hb dL_takeBack_12 (by decide) ?_
  refine W.widen (k := 1) (n := 6) (Nat.le_of_ble_eq_true rfl) (Nat.le_of_ble_eq_true rfl) ?_
  refine vx_ret ?_
  exact W.iret (v := 1) hx hb hr (fun t ht hW => ⟨⟨1, (), rfl, rfl, trivial⟩, hS.F ht⟩) hS.2.2 dL_takeBack_13

set_option maxHeartbeats 4000000 in
set_option maxRecDepth 100000 in
theorem c_L_end (l : Launch) (hfl : l.stackTraces = false) (z0 : Nat) (D : va_G) (g : Nat → Nat) (x a0 a1 a2 a3 a4 a5 a6 : Nat) (o : Nat) : vx_Met l yL_end (wspW yL_end cL_end 3 (some .int) [(0, 8, 11, 15)]) ({ frames := 8, cells := 1, slots := 6, locals := 122 }) (va_Pc [.ref x, .ref o] (PR z0 D g [(x, .inr (0, [.ref a0, .ref a1, .ref a2, .ref a3, .ref a4, .ref a5, .ref a6, .int 0, .int 0, .int 0, .int 0, .int 0, .int 0, .int 0]))])) (va_Qi (fun (r : Int32) (_ : Unit) => r = 1) (fun _ _ => True) nA) xN 1 6 nA := by
  refine vx_ofWH (cc := cL_end) (maxL := 3) (ret := (some .int)) (hh := [(0, 8, 11, 15)]) (by decide) rfl ?_
  intro p e s m args below meth c s₁ B hml hv
  obtain ⟨rfl, hE, hP⟩ := hv
  have hx := B.exec
  have hb := B.bytes
  have hr := B.returns
  have hts0 := atoms_spec (ws := (wspW yL_end cL_end 3 (some .int) [(0, 8, 11, 15)])) B.pre
  have htab := vx_table (x := yL_end) B (hts0 _ List.mem_cons_self)
  have hts : ∀ w ∈ lw_all, w.before _ s = true := fun w h => hts0 w (List.mem_cons_of_mem _ h)
  have hown : s.vm.findClass "TheatrehouseLaw" = some m.cls := findClass_of_methodNamed B.named
  have hlocks := B.notSynchronized
  have hK := hE.K
  have hS : va_S nA s.heap s.heap [] := va_S.rf
  have hP : va_P D classes [(x, .inr (0, [.ref a0, .ref a1, .ref a2, .ref a3, .ref a4, .ref a5, .ref a6, .int 0, .int 0, .int 0, .int 0, .int 0, .int 0, .int 0]))] s.heap := hP
  have hl := lv_entry ([.ref x, .ref o]) (n := 3) (Nat.le_of_ble_eq_true rfl)
  rw [lg_entry_eq]
  generalize (lg_sl ([.ref x, .ref o]) ++ List.replicate (3 - (lg_sl ([.ref x, .ref o])).length) Slot.unset).toArray = ls at hl ⊢
  have hl : lv_has ls 3 [(0, .ref x), (1, .ref o)] := hl
  refine lv_aload_n hx hb dL_end_0 rfl (lv_at hl 1 rfl) ?_
  refine lv_iconst (v := 0) hx hb dL_end_1 (by decide) ?_
  refine lv_aload_n hx hb dL_end_2 rfl (lv_at hl 0 rfl) ?_
  have hc_1 := hP.sub (ws' := [(x, .inr (0, [.ref a0, .ref a1, .ref a2, .ref a3, .ref a4, .ref a5, .ref a6, .int 0, .int 0, .int 0, .int 0, .int 0, .int 0, .int 0]))]) [0] rfl
  refine vx_calli (vx_runV (As := []) (rest := [.int 0, .ref o]) ⟨hx, hb, hml, hown, hts⟩ (c_X10_end l hfl z0 D g x a0 a1 a2 a3 a4 a5 a6) (cwV 0 hts (lw_V m_954 m_955 m_956 m_1 m_957) rfl rfl rfl (by decide +kernel) ⟨(Nat.le_of_ble_eq_true rfl), (Nat.le_of_ble_eq_true rfl)⟩) ⟨PR.blind, va_recv hK hP (ci := 0) (q0 := 0) rfl rfl, PR.pre hE hS nA_z hc_1⟩ rfl rfl hl.1 rfl (lv_room (Nat.le_of_ble_eq_true rfl)) dL_end_3 ⟨(Nat.le_of_ble_eq_true rfl), (Nat.le_of_ble_eq_true rfl)⟩) hS nA_B nA_A nA_B (fun E ce q9 u t H locs ht hvm _ hBX hz1 hk1 hS hce hcv hcl => ?_) (fun r_2 u t H locs ht hvm hw _ _ _ _ => hw.elim)
  subst hBX
  have hP := hP.old hk1
  have hP : va_P D classes [(x, .inr (0, [.ref a0, .ref a1, .ref a2, .ref a3, .ref a4, .ref a5, .ref a6, .int 0, .int 0, .int 0, .int 0, .int 0, .int 0, .int 0]))] H := hP
  refine vx_catch hown (tableOf []) ⟨0, 8, 11, 15⟩ (tableOf []) (htab.trans rfl) (fun z hz => nomatch hz) (by decide) (by decide) (hts _ m_552) (va_Nw.use rfl (hE.ng _ mn_637)) hce hcv hcl ?_
  refine lv_astore_n (lv' := [(2, .ref q9), (0, .ref x), (1, .ref o)]) hx hb dL_end_11 rfl hl (by decide) rfl (fun ls hl => ?_)
  refine lv_iconst (v := 1) hx hb dL_end_12 (by decide) ?_
  refine W.widen (k := 1) (n := 6) (Nat.le_of_ble_eq_true rfl) (Nat.le_of_ble_eq_true rfl) ?_
  refine vx_ret ?_
  exact W.iret (v := 1) hx hb hr (fun t ht hW => ⟨⟨1, (), rfl, rfl, trivial⟩, hS.F ht⟩) hS.2.2 dL_end_13

set_option maxHeartbeats 4000000 in
set_option maxRecDepth 100000 in
theorem c_L_singer (l : Launch) (hfl : l.stackTraces = false) (z0 : Nat) (D : va_G) (g : Nat → Nat) (x a0 a1 a2 a3 a4 a5 a6 : Nat) (p0 : Int32) (o : Nat) : vx_Met l yL_singer (wspW yL_singer cL_singer 4 (some .int) [(0, 9, 12, 15), (0, 9, 15, 20), (0, 9, 18, 55)]) ({ frames := 8, cells := 1, slots := 6, locals := 123 }) (va_Pc [.ref x, .int p0, .ref o] (PR z0 D g [(x, .inr (0, [.ref a0, .ref a1, .ref a2, .ref a3, .ref a4, .ref a5, .ref a6, .int 0, .int 0, .int 0, .int 0, .int 0, .int 0, .int 0]))])) (va_Qi (fun (r : Int32) (_ : Unit) => r = 1) (fun _ _ => True) nA) xN 1 6 nA := by
  refine vx_ofWH (cc := cL_singer) (maxL := 4) (ret := (some .int)) (hh := [(0, 9, 12, 15), (0, 9, 15, 20), (0, 9, 18, 55)]) (by decide) rfl ?_
  intro p e s m args below meth c s₁ B hml hv
  obtain ⟨rfl, hE, hP⟩ := hv
  have hx := B.exec
  have hb := B.bytes
  have hr := B.returns
  have hts0 := atoms_spec (ws := (wspW yL_singer cL_singer 4 (some .int) [(0, 9, 12, 15), (0, 9, 15, 20), (0, 9, 18, 55)])) B.pre
  have htab := vx_table (x := yL_singer) B (hts0 _ List.mem_cons_self)
  have hts : ∀ w ∈ lw_all, w.before _ s = true := fun w h => hts0 w (List.mem_cons_of_mem _ h)
  have hown : s.vm.findClass "TheatrehouseLaw" = some m.cls := findClass_of_methodNamed B.named
  have hlocks := B.notSynchronized
  have hK := hE.K
  have hS : va_S nA s.heap s.heap [] := va_S.rf
  have hP : va_P D classes [(x, .inr (0, [.ref a0, .ref a1, .ref a2, .ref a3, .ref a4, .ref a5, .ref a6, .int 0, .int 0, .int 0, .int 0, .int 0, .int 0, .int 0]))] s.heap := hP
  have hl := lv_entry ([.ref x, .int p0, .ref o]) (n := 4) (Nat.le_of_ble_eq_true rfl)
  rw [lg_entry_eq]
  generalize (lg_sl ([.ref x, .int p0, .ref o]) ++ List.replicate (4 - (lg_sl ([.ref x, .int p0, .ref o])).length) Slot.unset).toArray = ls at hl ⊢
  have hl : lv_has ls 4 [(0, .ref x), (1, .int p0), (2, .ref o)] := hl
  refine lv_aload_n hx hb dL_singer_0 rfl (lv_at hl 2 rfl) ?_
  refine lv_iconst (v := 0) hx hb dL_singer_1 (by decide) ?_
  refine lv_aload_n hx hb dL_singer_2 rfl (lv_at hl 0 rfl) ?_
  refine lv_iload_n hx hb dL_singer_3 rfl (lv_at hl 1 rfl) ?_
  have hc_1 := hP.sub (ws' := [(x, .inr (0, [.ref a0, .ref a1, .ref a2, .ref a3, .ref a4, .ref a5, .ref a6, .int 0, .int 0, .int 0, .int 0, .int 0, .int 0, .int 0]))]) [0] rfl
  refine vx_calli (vx_runV (As := [.int p0]) (rest := [.int 0, .ref o]) ⟨hx, hb, hml, hown, hts⟩ (c_X10_singer l hfl z0 D g x a0 a1 a2 a3 a4 a5 a6 p0) (cwV 1 hts (lw_V m_971 m_972 m_973 m_1 m_974) rfl rfl rfl (by decide +kernel) ⟨(Nat.le_of_ble_eq_true rfl), (Nat.le_of_ble_eq_true rfl)⟩) ⟨PR.blind, va_recv hK hP (ci := 0) (q0 := 0) rfl rfl, PR.pre hE hS nA_z hc_1⟩ rfl rfl hl.1 rfl (lv_room (Nat.le_of_ble_eq_true rfl)) dL_singer_4 ⟨(Nat.le_of_ble_eq_true rfl), (Nat.le_of_ble_eq_true rfl)⟩) hS nA_B nA_A nA_B (fun E ce q9 u t H locs ht hvm _ hBX hz1 hk1 hS hce hcv hcl => ?_) (fun r_2 u t H locs ht hvm hw _ _ _ _ => hw.elim)
  subst hBX
  have hP := hP.old hk1
  have hP : va_P D classes [(x, .inr (0, [.ref a0, .ref a1, .ref a2, .ref a3, .ref a4, .ref a5, .ref a6, .int 0, .int 0, .int 0, .int 0, .int 0, .int 0, .int 0]))] H := hP
  refine vx_catch hown (tableOf []) ⟨0, 9, 12, 15⟩ (tableOf [(0, 9, 15, 20), (0, 9, 18, 55)]) (htab.trans rfl) (fun z hz => nomatch hz) (by decide) (by decide) (hts _ m_552) (va_Nw.use rfl (hE.ng _ mn_637)) hce hcv hcl ?_
  refine lv_astore_n (lv' := [(3, .ref q9), (0, .ref x), (1, .int p0), (2, .ref o)]) hx hb dL_singer_12 rfl hl (by decide) rfl (fun ls hl => ?_)
  refine lv_iconst (v := 1) hx hb dL_singer_13 (by decide) ?_
  refine W.widen (k := 1) (n := 6) (Nat.le_of_ble_eq_true rfl) (Nat.le_of_ble_eq_true rfl) ?_
  refine vx_ret ?_
  exact W.iret (v := 1) hx hb hr (fun t ht hW => ⟨⟨1, (), rfl, rfl, trivial⟩, hS.F ht⟩) hS.2.2 dL_singer_14

set_option maxHeartbeats 4000000 in
set_option maxRecDepth 100000 in
theorem c_L_zone (l : Launch) (hfl : l.stackTraces = false) (z0 : Nat) (D : va_G) (g : Nat → Nat) (x a0 a1 a2 a3 a4 a5 a6 : Nat) (p0 : Int32) (o : Nat) : vx_Met l yL_zone (wspW yL_zone cL_zone 4 (some .int) [(0, 9, 12, 15), (0, 9, 15, 20)]) ({ frames := 8, cells := 1, slots := 6, locals := 123 }) (va_Pc [.ref x, .int p0, .ref o] (PR z0 D g [(x, .inr (0, [.ref a0, .ref a1, .ref a2, .ref a3, .ref a4, .ref a5, .ref a6, .int 0, .int 0, .int 0, .int 0, .int 0, .int 0, .int 0]))])) (va_Qi (fun (r : Int32) (_ : Unit) => r = 1) (fun _ _ => True) nA) xN 1 6 nA := by
  refine vx_ofWH (cc := cL_zone) (maxL := 4) (ret := (some .int)) (hh := [(0, 9, 12, 15), (0, 9, 15, 20)]) (by decide) rfl ?_
  intro p e s m args below meth c s₁ B hml hv
  obtain ⟨rfl, hE, hP⟩ := hv
  have hx := B.exec
  have hb := B.bytes
  have hr := B.returns
  have hts0 := atoms_spec (ws := (wspW yL_zone cL_zone 4 (some .int) [(0, 9, 12, 15), (0, 9, 15, 20)])) B.pre
  have htab := vx_table (x := yL_zone) B (hts0 _ List.mem_cons_self)
  have hts : ∀ w ∈ lw_all, w.before _ s = true := fun w h => hts0 w (List.mem_cons_of_mem _ h)
  have hown : s.vm.findClass "TheatrehouseLaw" = some m.cls := findClass_of_methodNamed B.named
  have hlocks := B.notSynchronized
  have hK := hE.K
  have hS : va_S nA s.heap s.heap [] := va_S.rf
  have hP : va_P D classes [(x, .inr (0, [.ref a0, .ref a1, .ref a2, .ref a3, .ref a4, .ref a5, .ref a6, .int 0, .int 0, .int 0, .int 0, .int 0, .int 0, .int 0]))] s.heap := hP
  have hl := lv_entry ([.ref x, .int p0, .ref o]) (n := 4) (Nat.le_of_ble_eq_true rfl)
  rw [lg_entry_eq]
  generalize (lg_sl ([.ref x, .int p0, .ref o]) ++ List.replicate (4 - (lg_sl ([.ref x, .int p0, .ref o])).length) Slot.unset).toArray = ls at hl ⊢
  have hl : lv_has ls 4 [(0, .ref x), (1, .int p0), (2, .ref o)] := hl
  refine lv_aload_n hx hb dL_zone_0 rfl (lv_at hl 2 rfl) ?_
  refine lv_iconst (v := 0) hx hb dL_zone_1 (by decide) ?_
  refine lv_aload_n hx hb dL_zone_2 rfl (lv_at hl 0 rfl) ?_
  refine lv_iload_n hx hb dL_zone_3 rfl (lv_at hl 1 rfl) ?_
  have hc_1 := hP.sub (ws' := [(x, .inr (0, [.ref a0, .ref a1, .ref a2, .ref a3, .ref a4, .ref a5, .ref a6, .int 0, .int 0, .int 0, .int 0, .int 0, .int 0, .int 0]))]) [0] rfl
  refine vx_calli (vx_runV (As := [.int p0]) (rest := [.int 0, .ref o]) ⟨hx, hb, hml, hown, hts⟩ (c_X10_zone l hfl z0 D g x a0 a1 a2 a3 a4 a5 a6 p0) (cwV 1 hts (lw_V m_979 m_980 m_981 m_1 m_982) rfl rfl rfl (by decide +kernel) ⟨(Nat.le_of_ble_eq_true rfl), (Nat.le_of_ble_eq_true rfl)⟩) ⟨PR.blind, va_recv hK hP (ci := 0) (q0 := 0) rfl rfl, PR.pre hE hS nA_z hc_1⟩ rfl rfl hl.1 rfl (lv_room (Nat.le_of_ble_eq_true rfl)) dL_zone_4 ⟨(Nat.le_of_ble_eq_true rfl), (Nat.le_of_ble_eq_true rfl)⟩) hS nA_B nA_A nA_B (fun E ce q9 u t H locs ht hvm _ hBX hz1 hk1 hS hce hcv hcl => ?_) (fun r_2 u t H locs ht hvm hw _ _ _ _ => hw.elim)
  subst hBX
  have hP := hP.old hk1
  have hP : va_P D classes [(x, .inr (0, [.ref a0, .ref a1, .ref a2, .ref a3, .ref a4, .ref a5, .ref a6, .int 0, .int 0, .int 0, .int 0, .int 0, .int 0, .int 0]))] H := hP
  refine vx_catch hown (tableOf []) ⟨0, 9, 12, 15⟩ (tableOf [(0, 9, 15, 20)]) (htab.trans rfl) (fun z hz => nomatch hz) (by decide) (by decide) (hts _ m_552) (va_Nw.use rfl (hE.ng _ mn_637)) hce hcv hcl ?_
  refine lv_astore_n (lv' := [(3, .ref q9), (0, .ref x), (1, .int p0), (2, .ref o)]) hx hb dL_zone_12 rfl hl (by decide) rfl (fun ls hl => ?_)
  refine lv_iconst (v := 1) hx hb dL_zone_13 (by decide) ?_
  refine W.widen (k := 1) (n := 6) (Nat.le_of_ble_eq_true rfl) (Nat.le_of_ble_eq_true rfl) ?_
  refine vx_ret ?_
  exact W.iret (v := 1) hx hb hr (fun t ht hW => ⟨⟨1, (), rfl, rfl, trivial⟩, hS.F ht⟩) hS.2.2 dL_zone_14

set_option maxHeartbeats 4000000 in
set_option maxRecDepth 100000 in
theorem c_L_minutes (l : Launch) (hfl : l.stackTraces = false) (z0 : Nat) (D : va_G) (g : Nat → Nat) (x a0 a1 a2 a3 a4 a5 a6 : Nat) (o : Nat) : vx_Met l yL_minutes (wspW yL_minutes cL_minutes 3 (some .int) [(0, 8, 11, 15)]) ({ frames := 8, cells := 1, slots := 6, locals := 122 }) (va_Pc [.ref x, .ref o] (PR z0 D g [(x, .inr (0, [.ref a0, .ref a1, .ref a2, .ref a3, .ref a4, .ref a5, .ref a6, .int 0, .int 0, .int 0, .int 0, .int 0, .int 0, .int 0]))])) (va_Qi (fun (r : Int32) (_ : Unit) => r = 1) (fun _ _ => True) nA) xN 1 6 nA := by
  refine vx_ofWH (cc := cL_minutes) (maxL := 3) (ret := (some .int)) (hh := [(0, 8, 11, 15)]) (by decide) rfl ?_
  intro p e s m args below meth c s₁ B hml hv
  obtain ⟨rfl, hE, hP⟩ := hv
  have hx := B.exec
  have hb := B.bytes
  have hr := B.returns
  have hts0 := atoms_spec (ws := (wspW yL_minutes cL_minutes 3 (some .int) [(0, 8, 11, 15)])) B.pre
  have htab := vx_table (x := yL_minutes) B (hts0 _ List.mem_cons_self)
  have hts : ∀ w ∈ lw_all, w.before _ s = true := fun w h => hts0 w (List.mem_cons_of_mem _ h)
  have hown : s.vm.findClass "TheatrehouseLaw" = some m.cls := findClass_of_methodNamed B.named
  have hlocks := B.notSynchronized
  have hK := hE.K
  have hS : va_S nA s.heap s.heap [] := va_S.rf
  have hP : va_P D classes [(x, .inr (0, [.ref a0, .ref a1, .ref a2, .ref a3, .ref a4, .ref a5, .ref a6, .int 0, .int 0, .int 0, .int 0, .int 0, .int 0, .int 0]))] s.heap := hP
  have hl := lv_entry ([.ref x, .ref o]) (n := 3) (Nat.le_of_ble_eq_true rfl)
  rw [lg_entry_eq]
  generalize (lg_sl ([.ref x, .ref o]) ++ List.replicate (3 - (lg_sl ([.ref x, .ref o])).length) Slot.unset).toArray = ls at hl ⊢
  have hl : lv_has ls 3 [(0, .ref x), (1, .ref o)] := hl
  refine lv_aload_n hx hb dL_minutes_0 rfl (lv_at hl 1 rfl) ?_
  refine lv_iconst (v := 0) hx hb dL_minutes_1 (by decide) ?_
  refine lv_aload_n hx hb dL_minutes_2 rfl (lv_at hl 0 rfl) ?_
  have hc_1 := hP.sub (ws' := [(x, .inr (0, [.ref a0, .ref a1, .ref a2, .ref a3, .ref a4, .ref a5, .ref a6, .int 0, .int 0, .int 0, .int 0, .int 0, .int 0, .int 0]))]) [0] rfl
  refine vx_calli (vx_runV (As := []) (rest := [.int 0, .ref o]) ⟨hx, hb, hml, hown, hts⟩ (c_X10_minutes l hfl z0 D g x a0 a1 a2 a3 a4 a5 a6) (cwV 0 hts (lw_V m_1005 m_1006 m_1007 m_1 m_1008) rfl rfl rfl (by decide +kernel) ⟨(Nat.le_of_ble_eq_true rfl), (Nat.le_of_ble_eq_true rfl)⟩) ⟨PR.blind, va_recv hK hP (ci := 0) (q0 := 0) rfl rfl, PR.pre hE hS nA_z hc_1⟩ rfl rfl hl.1 rfl (lv_room (Nat.le_of_ble_eq_true rfl)) dL_minutes_3 ⟨(Nat.le_of_ble_eq_true rfl), (Nat.le_of_ble_eq_true rfl)⟩) hS nA_B nA_A nA_B (fun E ce q9 u t H locs ht hvm _ hBX hz1 hk1 hS hce hcv hcl => ?_) (fun r_2 u t H locs ht hvm hw _ _ _ _ => hw.elim)
  subst hBX
  have hP := hP.old hk1
  have hP : va_P D classes [(x, .inr (0, [.ref a0, .ref a1, .ref a2, .ref a3, .ref a4, .ref a5, .ref a6, .int 0, .int 0, .int 0, .int 0, .int 0, .int 0, .int 0]))] H := hP
  refine vx_catch hown (tableOf []) ⟨0, 8, 11, 15⟩ (tableOf []) (htab.trans rfl) (fun z hz => nomatch hz) (by decide) (by decide) (hts _ m_552) (va_Nw.use rfl (hE.ng _ mn_637)) hce hcv hcl ?_
  refine lv_astore_n (lv' := [(2, .ref q9), (0, .ref x), (1, .ref o)]) hx hb dL_minutes_11 rfl hl (by decide) rfl (fun ls hl => ?_)
  refine lv_iconst (v := 1) hx hb dL_minutes_12 (by decide) ?_
  refine W.widen (k := 1) (n := 6) (Nat.le_of_ble_eq_true rfl) (Nat.le_of_ble_eq_true rfl) ?_
  refine vx_ret ?_
  exact W.iret (v := 1) hx hb hr (fun t ht hW => ⟨⟨1, (), rfl, rfl, trivial⟩, hS.F ht⟩) hS.2.2 dL_minutes_13

set_option maxHeartbeats 4000000 in
set_option maxRecDepth 100000 in
theorem c_L_states (l : Launch) (hfl : l.stackTraces = false) (z0 : Nat) (D : va_G) (g : Nat → Nat) (x a0 a1 a2 a3 a4 a5 a6 : Nat) (o : Nat) : vx_Met l yL_states (wspW yL_states cL_states 3 (some .int) [(0, 8, 11, 15), (0, 8, 14, 39)]) ({ frames := 9, cells := 1, slots := 6, locals := 142 }) (va_Pc [.ref x, .ref o] (PR z0 D g [(x, .inr (0, [.ref a0, .ref a1, .ref a2, .ref a3, .ref a4, .ref a5, .ref a6, .int 0, .int 0, .int 0, .int 0, .int 0, .int 0, .int 0]))])) (va_Qi (fun (r : Int32) (_ : Unit) => r = 1) (fun _ _ => True) nA) xN 1 6 nA := by
  refine vx_ofWH (cc := cL_states) (maxL := 3) (ret := (some .int)) (hh := [(0, 8, 11, 15), (0, 8, 14, 39)]) (by decide) rfl ?_
  intro p e s m args below meth c s₁ B hml hv
  obtain ⟨rfl, hE, hP⟩ := hv
  have hx := B.exec
  have hb := B.bytes
  have hr := B.returns
  have hts0 := atoms_spec (ws := (wspW yL_states cL_states 3 (some .int) [(0, 8, 11, 15), (0, 8, 14, 39)])) B.pre
  have htab := vx_table (x := yL_states) B (hts0 _ List.mem_cons_self)
  have hts : ∀ w ∈ lw_all, w.before _ s = true := fun w h => hts0 w (List.mem_cons_of_mem _ h)
  have hown : s.vm.findClass "TheatrehouseLaw" = some m.cls := findClass_of_methodNamed B.named
  have hlocks := B.notSynchronized
  have hK := hE.K
  have hS : va_S nA s.heap s.heap [] := va_S.rf
  have hP : va_P D classes [(x, .inr (0, [.ref a0, .ref a1, .ref a2, .ref a3, .ref a4, .ref a5, .ref a6, .int 0, .int 0, .int 0, .int 0, .int 0, .int 0, .int 0]))] s.heap := hP
  have hl := lv_entry ([.ref x, .ref o]) (n := 3) (Nat.le_of_ble_eq_true rfl)
  rw [lg_entry_eq]
  generalize (lg_sl ([.ref x, .ref o]) ++ List.replicate (3 - (lg_sl ([.ref x, .ref o])).length) Slot.unset).toArray = ls at hl ⊢
  have hl : lv_has ls 3 [(0, .ref x), (1, .ref o)] := hl
  refine lv_aload_n hx hb dL_states_0 rfl (lv_at hl 1 rfl) ?_
  refine lv_iconst (v := 0) hx hb dL_states_1 (by decide) ?_
  refine lv_aload_n hx hb dL_states_2 rfl (lv_at hl 0 rfl) ?_
  have hc_1 := hP.sub (ws' := [(x, .inr (0, [.ref a0, .ref a1, .ref a2, .ref a3, .ref a4, .ref a5, .ref a6, .int 0, .int 0, .int 0, .int 0, .int 0, .int 0, .int 0]))]) [0] rfl
  refine vx_calli (vx_runV (As := []) (rest := [.int 0, .ref o]) ⟨hx, hb, hml, hown, hts⟩ (c_X10_states l hfl z0 D g x a0 a1 a2 a3 a4 a5 a6) (cwV 0 hts (lw_V m_1012 m_1013 m_1014 m_1 m_1015) rfl rfl rfl (by decide +kernel) ⟨(Nat.le_of_ble_eq_true rfl), (Nat.le_of_ble_eq_true rfl)⟩) ⟨PR.blind, va_recv hK hP (ci := 0) (q0 := 0) rfl rfl, PR.pre hE hS nA_z hc_1⟩ rfl rfl hl.1 rfl (lv_room (Nat.le_of_ble_eq_true rfl)) dL_states_3 ⟨(Nat.le_of_ble_eq_true rfl), (Nat.le_of_ble_eq_true rfl)⟩) hS nA_B nA_A nA_B (fun E ce q9 u t H locs ht hvm _ hBX hz1 hk1 hS hce hcv hcl => ?_) (fun r_2 u t H locs ht hvm hw _ _ _ _ => hw.elim)
  subst hBX
  have hP := hP.old hk1
  have hP : va_P D classes [(x, .inr (0, [.ref a0, .ref a1, .ref a2, .ref a3, .ref a4, .ref a5, .ref a6, .int 0, .int 0, .int 0, .int 0, .int 0, .int 0, .int 0]))] H := hP
  refine vx_catch hown (tableOf []) ⟨0, 8, 11, 15⟩ (tableOf [(0, 8, 14, 39)]) (htab.trans rfl) (fun z hz => nomatch hz) (by decide) (by decide) (hts _ m_552) (va_Nw.use rfl (hE.ng _ mn_637)) hce hcv hcl ?_
  refine lv_astore_n (lv' := [(2, .ref q9), (0, .ref x), (1, .ref o)]) hx hb dL_states_11 rfl hl (by decide) rfl (fun ls hl => ?_)
  refine lv_iconst (v := 1) hx hb dL_states_12 (by decide) ?_
  refine W.widen (k := 1) (n := 6) (Nat.le_of_ble_eq_true rfl) (Nat.le_of_ble_eq_true rfl) ?_
  refine vx_ret ?_
  exact W.iret (v := 1) hx hb hr (fun t ht hW => ⟨⟨1, (), rfl, rfl, trivial⟩, hS.F ht⟩) hS.2.2 dL_states_13

set_option maxHeartbeats 4000000 in
set_option maxRecDepth 100000 in
theorem c_L_hasOrder (l : Launch) (hfl : l.stackTraces = false) (z0 : Nat) (D : va_G) (g : Nat → Nat) (x a0 a1 a2 a3 a4 a5 a6 : Nat) (o : Nat) : vx_Met l yL_hasOrder (wspW yL_hasOrder cL_hasOrder 3 (some .int) [(0, 15, 18, 15), (0, 15, 21, 39)]) ({ frames := 9, cells := 1, slots := 6, locals := 142 }) (va_Pc [.ref x, .ref o] (PR z0 D g [(x, .inr (0, [.ref a0, .ref a1, .ref a2, .ref a3, .ref a4, .ref a5, .ref a6, .int 0, .int 0, .int 0, .int 0, .int 0, .int 0, .int 0]))])) (va_Qi (fun (r : Int32) (_ : Unit) => r = 1) (fun _ _ => True) nA) xN 1 6 nA := by
  refine vx_ofWH (cc := cL_hasOrder) (maxL := 3) (ret := (some .int)) (hh := [(0, 15, 18, 15), (0, 15, 21, 39)]) (by decide) rfl ?_
  intro p e s m args below meth c s₁ B hml hv
  obtain ⟨rfl, hE, hP⟩ := hv
  have hx := B.exec
  have hb := B.bytes
  have hr := B.returns
  have hts0 := atoms_spec (ws := (wspW yL_hasOrder cL_hasOrder 3 (some .int) [(0, 15, 18, 15), (0, 15, 21, 39)])) B.pre
  have htab := vx_table (x := yL_hasOrder) B (hts0 _ List.mem_cons_self)
  have hts : ∀ w ∈ lw_all, w.before _ s = true := fun w h => hts0 w (List.mem_cons_of_mem _ h)
  have hown : s.vm.findClass "TheatrehouseLaw" = some m.cls := findClass_of_methodNamed B.named
  have hlocks := B.notSynchronized
  have hK := hE.K
  have hS : va_S nA s.heap s.heap [] := va_S.rf
  have hP : va_P D classes [(x, .inr (0, [.ref a0, .ref a1, .ref a2, .ref a3, .ref a4, .ref a5, .ref a6, .int 0, .int 0, .int 0, .int 0, .int 0, .int 0, .int 0]))] s.heap := hP
  have hl := lv_entry ([.ref x, .ref o]) (n := 3) (Nat.le_of_ble_eq_true rfl)
  rw [lg_entry_eq]
  generalize (lg_sl ([.ref x, .ref o]) ++ List.replicate (3 - (lg_sl ([.ref x, .ref o])).length) Slot.unset).toArray = ls at hl ⊢
  have hl : lv_has ls 3 [(0, .ref x), (1, .ref o)] := hl
  refine lv_aload_n hx hb dL_hasOrder_0 rfl (lv_at hl 1 rfl) ?_
  refine lv_iconst (v := 0) hx hb dL_hasOrder_1 (by decide) ?_
  refine lv_aload_n hx hb dL_hasOrder_2 rfl (lv_at hl 0 rfl) ?_
  have hc_1 := hP.sub (ws' := [(x, .inr (0, [.ref a0, .ref a1, .ref a2, .ref a3, .ref a4, .ref a5, .ref a6, .int 0, .int 0, .int 0, .int 0, .int 0, .int 0, .int 0]))]) [0] rfl
  refine vx_calli (vx_runV (As := []) (rest := [.int 0, .ref o]) ⟨hx, hb, hml, hown, hts⟩ (c_X10_hasOrder l hfl z0 D g x a0 a1 a2 a3 a4 a5 a6) (cwV 0 hts (lw_V m_1024 m_1025 m_1026 m_1 m_1027) rfl rfl rfl (by decide +kernel) ⟨(Nat.le_of_ble_eq_true rfl), (Nat.le_of_ble_eq_true rfl)⟩) ⟨PR.blind, va_recv hK hP (ci := 0) (q0 := 0) rfl rfl, PR.pre hE hS nA_z hc_1⟩ rfl rfl hl.1 rfl (lv_room (Nat.le_of_ble_eq_true rfl)) dL_hasOrder_3 ⟨(Nat.le_of_ble_eq_true rfl), (Nat.le_of_ble_eq_true rfl)⟩) hS nA_B nA_A nA_B (fun E ce q9 u t H locs ht hvm _ hBX hz1 hk1 hS hce hcv hcl => ?_) (fun r_2 u t H locs ht hvm hw _ _ _ _ => hw.elim)
  subst hBX
  have hP := hP.old hk1
  have hP : va_P D classes [(x, .inr (0, [.ref a0, .ref a1, .ref a2, .ref a3, .ref a4, .ref a5, .ref a6, .int 0, .int 0, .int 0, .int 0, .int 0, .int 0, .int 0]))] H := hP
  refine vx_catch hown (tableOf []) ⟨0, 15, 18, 15⟩ (tableOf [(0, 15, 21, 39)]) (htab.trans rfl) (fun z hz => nomatch hz) (by decide) (by decide) (hts _ m_552) (va_Nw.use rfl (hE.ng _ mn_637)) hce hcv hcl ?_
  refine lv_astore_n (lv' := [(2, .ref q9), (0, .ref x), (1, .ref o)]) hx hb dL_hasOrder_18 rfl hl (by decide) rfl (fun ls hl => ?_)
  refine lv_iconst (v := 1) hx hb dL_hasOrder_19 (by decide) ?_
  refine W.widen (k := 1) (n := 6) (Nat.le_of_ble_eq_true rfl) (Nat.le_of_ble_eq_true rfl) ?_
  refine vx_ret ?_
  exact W.iret (v := 1) hx hb hr (fun t ht hW => ⟨⟨1, (), rfl, rfl, trivial⟩, hS.F ht⟩) hS.2.2 dL_hasOrder_20

set_option maxHeartbeats 4000000 in
set_option maxRecDepth 100000 in
theorem c_L_orderAt (l : Launch) (hfl : l.stackTraces = false) (z0 : Nat) (D : va_G) (g : Nat → Nat) (x a0 a1 a2 a3 a4 a5 a6 : Nat) (p0 : Int32) (o : Nat) : vx_Met l yL_orderAt (wspW yL_orderAt cL_orderAt 4 (some .int) [(0, 9, 12, 15), (0, 9, 15, 39), (0, 9, 18, 55)]) ({ frames := 9, cells := 1, slots := 6, locals := 143 }) (va_Pc [.ref x, .int p0, .ref o] (PR z0 D g [(x, .inr (0, [.ref a0, .ref a1, .ref a2, .ref a3, .ref a4, .ref a5, .ref a6, .int 0, .int 0, .int 0, .int 0, .int 0, .int 0, .int 0]))])) (va_Qi (fun (r : Int32) (_ : Unit) => r = 1) (fun _ _ => True) nA) xN 1 6 nA := by
  refine vx_ofWH (cc := cL_orderAt) (maxL := 4) (ret := (some .int)) (hh := [(0, 9, 12, 15), (0, 9, 15, 39), (0, 9, 18, 55)]) (by decide) rfl ?_
  intro p e s m args below meth c s₁ B hml hv
  obtain ⟨rfl, hE, hP⟩ := hv
  have hx := B.exec
  have hb := B.bytes
  have hr := B.returns
  have hts0 := atoms_spec (ws := (wspW yL_orderAt cL_orderAt 4 (some .int) [(0, 9, 12, 15), (0, 9, 15, 39), (0, 9, 18, 55)])) B.pre
  have htab := vx_table (x := yL_orderAt) B (hts0 _ List.mem_cons_self)
  have hts : ∀ w ∈ lw_all, w.before _ s = true := fun w h => hts0 w (List.mem_cons_of_mem _ h)
  have hown : s.vm.findClass "TheatrehouseLaw" = some m.cls := findClass_of_methodNamed B.named
  have hlocks := B.notSynchronized
  have hK := hE.K
  have hS : va_S nA s.heap s.heap [] := va_S.rf
  have hP : va_P D classes [(x, .inr (0, [.ref a0, .ref a1, .ref a2, .ref a3, .ref a4, .ref a5, .ref a6, .int 0, .int 0, .int 0, .int 0, .int 0, .int 0, .int 0]))] s.heap := hP
  have hl := lv_entry ([.ref x, .int p0, .ref o]) (n := 4) (Nat.le_of_ble_eq_true rfl)
  rw [lg_entry_eq]
  generalize (lg_sl ([.ref x, .int p0, .ref o]) ++ List.replicate (4 - (lg_sl ([.ref x, .int p0, .ref o])).length) Slot.unset).toArray = ls at hl ⊢
  have hl : lv_has ls 4 [(0, .ref x), (1, .int p0), (2, .ref o)] := hl
  refine lv_aload_n hx hb dL_orderAt_0 rfl (lv_at hl 2 rfl) ?_
  refine lv_iconst (v := 0) hx hb dL_orderAt_1 (by decide) ?_
  refine lv_aload_n hx hb dL_orderAt_2 rfl (lv_at hl 0 rfl) ?_
  refine lv_iload_n hx hb dL_orderAt_3 rfl (lv_at hl 1 rfl) ?_
  have hc_1 := hP.sub (ws' := [(x, .inr (0, [.ref a0, .ref a1, .ref a2, .ref a3, .ref a4, .ref a5, .ref a6, .int 0, .int 0, .int 0, .int 0, .int 0, .int 0, .int 0]))]) [0] rfl
  refine vx_calli (vx_runV (As := [.int p0]) (rest := [.int 0, .ref o]) ⟨hx, hb, hml, hown, hts⟩ (c_X10_orderAt l hfl z0 D g x a0 a1 a2 a3 a4 a5 a6 p0) (cwV 1 hts (lw_V m_1032 m_1033 m_1034 m_1 m_1035) rfl rfl rfl (by decide +kernel) ⟨(Nat.le_of_ble_eq_true rfl), (Nat.le_of_ble_eq_true rfl)⟩) ⟨PR.blind, va_recv hK hP (ci := 0) (q0 := 0) rfl rfl, PR.pre hE hS nA_z hc_1⟩ rfl rfl hl.1 rfl (lv_room (Nat.le_of_ble_eq_true rfl)) dL_orderAt_4 ⟨(Nat.le_of_ble_eq_true rfl), (Nat.le_of_ble_eq_true rfl)⟩) hS nA_B nA_A nA_B (fun E ce q9 u t H locs ht hvm _ hBX hz1 hk1 hS hce hcv hcl => ?_) (fun r_2 u t H locs ht hvm hw _ _ _ _ => hw.elim)
  subst hBX
  have hP := hP.old hk1
  have hP : va_P D classes [(x, .inr (0, [.ref a0, .ref a1, .ref a2, .ref a3, .ref a4, .ref a5, .ref a6, .int 0, .int 0, .int 0, .int 0, .int 0, .int 0, .int 0]))] H := hP
  refine vx_catch hown (tableOf []) ⟨0, 9, 12, 15⟩ (tableOf [(0, 9, 15, 39), (0, 9, 18, 55)]) (htab.trans rfl) (fun z hz => nomatch hz) (by decide) (by decide) (hts _ m_552) (va_Nw.use rfl (hE.ng _ mn_637)) hce hcv hcl ?_
  refine lv_astore_n (lv' := [(3, .ref q9), (0, .ref x), (1, .int p0), (2, .ref o)]) hx hb dL_orderAt_12 rfl hl (by decide) rfl (fun ls hl => ?_)
  refine lv_iconst (v := 1) hx hb dL_orderAt_13 (by decide) ?_
  refine W.widen (k := 1) (n := 6) (Nat.le_of_ble_eq_true rfl) (Nat.le_of_ble_eq_true rfl) ?_
  refine vx_ret ?_
  exact W.iret (v := 1) hx hb hr (fun t ht hW => ⟨⟨1, (), rfl, rfl, trivial⟩, hS.F ht⟩) hS.2.2 dL_orderAt_14

set_option maxHeartbeats 4000000 in
set_option maxRecDepth 100000 in
theorem c_L_farthest (l : Launch) (hfl : l.stackTraces = false) (z0 : Nat) (D : va_G) (g : Nat → Nat) (x a0 a1 a2 a3 a4 a5 a6 : Nat) (o : Nat) : vx_Met l yL_farthest (wspW yL_farthest cL_farthest 3 (some .int) [(0, 8, 11, 15), (0, 8, 14, 39)]) ({ frames := 9, cells := 1, slots := 6, locals := 142 }) (va_Pc [.ref x, .ref o] (PR z0 D g [(x, .inr (0, [.ref a0, .ref a1, .ref a2, .ref a3, .ref a4, .ref a5, .ref a6, .int 0, .int 0, .int 0, .int 0, .int 0, .int 0, .int 0]))])) (va_Qi (fun (r : Int32) (_ : Unit) => r = 1) (fun _ _ => True) nA) xN 1 6 nA := by
  refine vx_ofWH (cc := cL_farthest) (maxL := 3) (ret := (some .int)) (hh := [(0, 8, 11, 15), (0, 8, 14, 39)]) (by decide) rfl ?_
  intro p e s m args below meth c s₁ B hml hv
  obtain ⟨rfl, hE, hP⟩ := hv
  have hx := B.exec
  have hb := B.bytes
  have hr := B.returns
  have hts0 := atoms_spec (ws := (wspW yL_farthest cL_farthest 3 (some .int) [(0, 8, 11, 15), (0, 8, 14, 39)])) B.pre
  have htab := vx_table (x := yL_farthest) B (hts0 _ List.mem_cons_self)
  have hts : ∀ w ∈ lw_all, w.before _ s = true := fun w h => hts0 w (List.mem_cons_of_mem _ h)
  have hown : s.vm.findClass "TheatrehouseLaw" = some m.cls := findClass_of_methodNamed B.named
  have hlocks := B.notSynchronized
  have hK := hE.K
  have hS : va_S nA s.heap s.heap [] := va_S.rf
  have hP : va_P D classes [(x, .inr (0, [.ref a0, .ref a1, .ref a2, .ref a3, .ref a4, .ref a5, .ref a6, .int 0, .int 0, .int 0, .int 0, .int 0, .int 0, .int 0]))] s.heap := hP
  have hl := lv_entry ([.ref x, .ref o]) (n := 3) (Nat.le_of_ble_eq_true rfl)
  rw [lg_entry_eq]
  generalize (lg_sl ([.ref x, .ref o]) ++ List.replicate (3 - (lg_sl ([.ref x, .ref o])).length) Slot.unset).toArray = ls at hl ⊢
  have hl : lv_has ls 3 [(0, .ref x), (1, .ref o)] := hl
  refine lv_aload_n hx hb dL_farthest_0 rfl (lv_at hl 1 rfl) ?_
  refine lv_iconst (v := 0) hx hb dL_farthest_1 (by decide) ?_
  refine lv_aload_n hx hb dL_farthest_2 rfl (lv_at hl 0 rfl) ?_
  have hc_1 := hP.sub (ws' := [(x, .inr (0, [.ref a0, .ref a1, .ref a2, .ref a3, .ref a4, .ref a5, .ref a6, .int 0, .int 0, .int 0, .int 0, .int 0, .int 0, .int 0]))]) [0] rfl
  refine vx_calli (vx_runV (As := []) (rest := [.int 0, .ref o]) ⟨hx, hb, hml, hown, hts⟩ (c_X10_farthest l hfl z0 D g x a0 a1 a2 a3 a4 a5 a6) (cwV 0 hts (lw_V m_1041 m_1042 m_1043 m_1 m_1044) rfl rfl rfl (by decide +kernel) ⟨(Nat.le_of_ble_eq_true rfl), (Nat.le_of_ble_eq_true rfl)⟩) ⟨PR.blind, va_recv hK hP (ci := 0) (q0 := 0) rfl rfl, PR.pre hE hS nA_z hc_1⟩ rfl rfl hl.1 rfl (lv_room (Nat.le_of_ble_eq_true rfl)) dL_farthest_3 ⟨(Nat.le_of_ble_eq_true rfl), (Nat.le_of_ble_eq_true rfl)⟩) hS nA_B nA_A nA_B (fun E ce q9 u t H locs ht hvm _ hBX hz1 hk1 hS hce hcv hcl => ?_) (fun r_2 u t H locs ht hvm hw _ _ _ _ => hw.elim)
  subst hBX
  have hP := hP.old hk1
  have hP : va_P D classes [(x, .inr (0, [.ref a0, .ref a1, .ref a2, .ref a3, .ref a4, .ref a5, .ref a6, .int 0, .int 0, .int 0, .int 0, .int 0, .int 0, .int 0]))] H := hP
  refine vx_catch hown (tableOf []) ⟨0, 8, 11, 15⟩ (tableOf [(0, 8, 14, 39)]) (htab.trans rfl) (fun z hz => nomatch hz) (by decide) (by decide) (hts _ m_552) (va_Nw.use rfl (hE.ng _ mn_637)) hce hcv hcl ?_
  refine lv_astore_n (lv' := [(2, .ref q9), (0, .ref x), (1, .ref o)]) hx hb dL_farthest_11 rfl hl (by decide) rfl (fun ls hl => ?_)
  refine lv_iconst (v := 1) hx hb dL_farthest_12 (by decide) ?_
  refine W.widen (k := 1) (n := 6) (Nat.le_of_ble_eq_true rfl) (Nat.le_of_ble_eq_true rfl) ?_
  refine vx_ret ?_
  exact W.iret (v := 1) hx hb hr (fun t ht hW => ⟨⟨1, (), rfl, rfl, trivial⟩, hS.F ht⟩) hS.2.2 dL_farthest_13

set_option maxHeartbeats 4000000 in
set_option maxRecDepth 100000 in
theorem c_L_stuck (l : Launch) (hfl : l.stackTraces = false) (z0 : Nat) (D : va_G) (g : Nat → Nat) (x a0 a1 a2 a3 a4 a5 a6 : Nat) (o : Nat) : vx_Met l yL_stuck (wspW yL_stuck cL_stuck 3 (some .int) [(0, 8, 11, 15), (0, 8, 14, 39), (0, 8, 17, 55)]) ({ frames := 9, cells := 1, slots := 6, locals := 142 }) (va_Pc [.ref x, .ref o] (PR z0 D g [(x, .inr (0, [.ref a0, .ref a1, .ref a2, .ref a3, .ref a4, .ref a5, .ref a6, .int 0, .int 0, .int 0, .int 0, .int 0, .int 0, .int 0]))])) (va_Qi (fun (r : Int32) (_ : Unit) => r = 1) (fun _ _ => True) nA) xN 1 6 nA := by
  refine vx_ofWH (cc := cL_stuck) (maxL := 3) (ret := (some .int)) (hh := [(0, 8, 11, 15), (0, 8, 14, 39), (0, 8, 17, 55)]) (by decide) rfl ?_
  intro p e s m args below meth c s₁ B hml hv
  obtain ⟨rfl, hE, hP⟩ := hv
  have hx := B.exec
  have hb := B.bytes
  have hr := B.returns
  have hts0 := atoms_spec (ws := (wspW yL_stuck cL_stuck 3 (some .int) [(0, 8, 11, 15), (0, 8, 14, 39), (0, 8, 17, 55)])) B.pre
  have htab := vx_table (x := yL_stuck) B (hts0 _ List.mem_cons_self)
  have hts : ∀ w ∈ lw_all, w.before _ s = true := fun w h => hts0 w (List.mem_cons_of_mem _ h)
  have hown : s.vm.findClass "TheatrehouseLaw" = some m.cls := findClass_of_methodNamed B.named
  have hlocks := B.notSynchronized
  have hK := hE.K
  have hS : va_S nA s.heap s.heap [] := va_S.rf
  have hP : va_P D classes [(x, .inr (0, [.ref a0, .ref a1, .ref a2, .ref a3, .ref a4, .ref a5, .ref a6, .int 0, .int 0, .int 0, .int 0, .int 0, .int 0, .int 0]))] s.heap := hP
  have hl := lv_entry ([.ref x, .ref o]) (n := 3) (Nat.le_of_ble_eq_true rfl)
  rw [lg_entry_eq]
  generalize (lg_sl ([.ref x, .ref o]) ++ List.replicate (3 - (lg_sl ([.ref x, .ref o])).length) Slot.unset).toArray = ls at hl ⊢
  have hl : lv_has ls 3 [(0, .ref x), (1, .ref o)] := hl
  refine lv_aload_n hx hb dL_stuck_0 rfl (lv_at hl 1 rfl) ?_
  refine lv_iconst (v := 0) hx hb dL_stuck_1 (by decide) ?_
  refine lv_aload_n hx hb dL_stuck_2 rfl (lv_at hl 0 rfl) ?_
  have hc_1 := hP.sub (ws' := [(x, .inr (0, [.ref a0, .ref a1, .ref a2, .ref a3, .ref a4, .ref a5, .ref a6, .int 0, .int 0, .int 0, .int 0, .int 0, .int 0, .int 0]))]) [0] rfl
  refine vx_calli (vx_runV (As := []) (rest := [.int 0, .ref o]) ⟨hx, hb, hml, hown, hts⟩ (c_X10_stuck l hfl z0 D g x a0 a1 a2 a3 a4 a5 a6) (cwV 0 hts (lw_V m_1048 m_1049 m_1050 m_1 m_1051) rfl rfl rfl (by decide +kernel) ⟨(Nat.le_of_ble_eq_true rfl), (Nat.le_of_ble_eq_true rfl)⟩) ⟨PR.blind, va_recv hK hP (ci := 0) (q0 := 0) rfl rfl, PR.pre hE hS nA_z hc_1⟩ rfl rfl hl.1 rfl (lv_room (Nat.le_of_ble_eq_true rfl)) dL_stuck_3 ⟨(Nat.le_of_ble_eq_true rfl), (Nat.le_of_ble_eq_true rfl)⟩) hS nA_B nA_A nA_B (fun E ce q9 u t H locs ht hvm _ hBX hz1 hk1 hS hce hcv hcl => ?_) (fun r_2 u t H locs ht hvm hw _ _ _ _ => hw.elim)
  subst hBX
  have hP := hP.old hk1
  have hP : va_P D classes [(x, .inr (0, [.ref a0, .ref a1, .ref a2, .ref a3, .ref a4, .ref a5, .ref a6, .int 0, .int 0, .int 0, .int 0, .int 0, .int 0, .int 0]))] H := hP
  refine vx_catch hown (tableOf []) ⟨0, 8, 11, 15⟩ (tableOf [(0, 8, 14, 39), (0, 8, 17, 55)]) (htab.trans rfl) (fun z hz => nomatch hz) (by decide) (by decide) (hts _ m_552) (va_Nw.use rfl (hE.ng _ mn_637)) hce hcv hcl ?_
  refine lv_astore_n (lv' := [(2, .ref q9), (0, .ref x), (1, .ref o)]) hx hb dL_stuck_11 rfl hl (by decide) rfl (fun ls hl => ?_)
  refine lv_iconst (v := 1) hx hb dL_stuck_12 (by decide) ?_
  refine W.widen (k := 1) (n := 6) (Nat.le_of_ble_eq_true rfl) (Nat.le_of_ble_eq_true rfl) ?_
  refine vx_ret ?_
  exact W.iret (v := 1) hx hb hr (fun t ht hW => ⟨⟨1, (), rfl, rfl, trivial⟩, hS.F ht⟩) hS.2.2 dL_stuck_13

set_option maxHeartbeats 4000000 in
set_option maxRecDepth 100000 in
theorem c_L_orders (l : Launch) (hfl : l.stackTraces = false) (z0 : Nat) (D : va_G) (g : Nat → Nat) (x a0 a1 a2 a3 a4 a5 a6 : Nat) (o : Nat) : vx_Met l yL_orders (wspW yL_orders cL_orders 3 (some .int) [(0, 7, 10, 15), (0, 7, 13, 39)]) ({ frames := 9, cells := 1, slots := 6, locals := 142 }) (va_Pc [.ref x, .ref o] (PR z0 D g [(x, .inr (0, [.ref a0, .ref a1, .ref a2, .ref a3, .ref a4, .ref a5, .ref a6, .int 0, .int 0, .int 0, .int 0, .int 0, .int 0, .int 0]))])) (va_Qi (fun (r : Int32) (_ : Unit) => r = 1) (fun _ _ => True) nA) xN 1 6 nA := by
  refine vx_ofWH (cc := cL_orders) (maxL := 3) (ret := (some .int)) (hh := [(0, 7, 10, 15), (0, 7, 13, 39)]) (by decide) rfl ?_
  intro p e s m args below meth c s₁ B hml hv
  obtain ⟨rfl, hE, hP⟩ := hv
  have hx := B.exec
  have hb := B.bytes
  have hr := B.returns
  have hts0 := atoms_spec (ws := (wspW yL_orders cL_orders 3 (some .int) [(0, 7, 10, 15), (0, 7, 13, 39)])) B.pre
  have htab := vx_table (x := yL_orders) B (hts0 _ List.mem_cons_self)
  have hts : ∀ w ∈ lw_all, w.before _ s = true := fun w h => hts0 w (List.mem_cons_of_mem _ h)
  have hown : s.vm.findClass "TheatrehouseLaw" = some m.cls := findClass_of_methodNamed B.named
  have hlocks := B.notSynchronized
  have hK := hE.K
  have hS : va_S nA s.heap s.heap [] := va_S.rf
  have hP : va_P D classes [(x, .inr (0, [.ref a0, .ref a1, .ref a2, .ref a3, .ref a4, .ref a5, .ref a6, .int 0, .int 0, .int 0, .int 0, .int 0, .int 0, .int 0]))] s.heap := hP
  have hl := lv_entry ([.ref x, .ref o]) (n := 3) (Nat.le_of_ble_eq_true rfl)
  rw [lg_entry_eq]
  generalize (lg_sl ([.ref x, .ref o]) ++ List.replicate (3 - (lg_sl ([.ref x, .ref o])).length) Slot.unset).toArray = ls at hl ⊢
  have hl : lv_has ls 3 [(0, .ref x), (1, .ref o)] := hl
  refine lv_aload_n hx hb dL_orders_0 rfl (lv_at hl 1 rfl) ?_
  refine lv_iconst (v := 0) hx hb dL_orders_1 (by decide) ?_
  refine lv_aload_n hx hb dL_orders_2 rfl (lv_at hl 0 rfl) ?_
  have hc_1 := hP.sub (ws' := [(x, .inr (0, [.ref a0, .ref a1, .ref a2, .ref a3, .ref a4, .ref a5, .ref a6, .int 0, .int 0, .int 0, .int 0, .int 0, .int 0, .int 0]))]) [0] rfl
  refine vx_calll (vx_runV (As := []) (rest := [.int 0, .ref o]) ⟨hx, hb, hml, hown, hts⟩ (c_X10_orders l hfl z0 D g x a0 a1 a2 a3 a4 a5 a6) (cwV 0 hts (lw_V m_1061 m_1062 m_1063 m_1 m_1064) rfl rfl rfl (by decide +kernel) ⟨(Nat.le_of_ble_eq_true rfl), (Nat.le_of_ble_eq_true rfl)⟩) ⟨PR.blind, va_recv hK hP (ci := 0) (q0 := 0) rfl rfl, PR.pre hE hS nA_z hc_1⟩ rfl rfl hl.1 rfl (lv_room (Nat.le_of_ble_eq_true rfl)) dL_orders_3 ⟨(Nat.le_of_ble_eq_true rfl), (Nat.le_of_ble_eq_true rfl)⟩) hS nA_B nA_A nA_B (fun E ce q9 u t H locs ht hvm _ hBX hz1 hk1 hS hce hcv hcl => ?_) (fun r_2 u t H locs ht hvm hw _ _ _ _ => hw.elim)
  subst hBX
  have hP := hP.old hk1
  have hP : va_P D classes [(x, .inr (0, [.ref a0, .ref a1, .ref a2, .ref a3, .ref a4, .ref a5, .ref a6, .int 0, .int 0, .int 0, .int 0, .int 0, .int 0, .int 0]))] H := hP
  refine vx_catch hown (tableOf []) ⟨0, 7, 10, 15⟩ (tableOf [(0, 7, 13, 39)]) (htab.trans rfl) (fun z hz => nomatch hz) (by decide) (by decide) (hts _ m_552) (va_Nw.use rfl (hE.ng _ mn_637)) hce hcv hcl ?_
  refine lv_astore_n (lv' := [(2, .ref q9), (0, .ref x), (1, .ref o)]) hx hb dL_orders_10 rfl hl (by decide) rfl (fun ls hl => ?_)
  refine lv_iconst (v := 1) hx hb dL_orders_11 (by decide) ?_
  refine W.widen (k := 1) (n := 6) (Nat.le_of_ble_eq_true rfl) (Nat.le_of_ble_eq_true rfl) ?_
  refine vx_ret ?_
  exact W.iret (v := 1) hx hb hr (fun t ht hW => ⟨⟨1, (), rfl, rfl, trivial⟩, hS.F ht⟩) hS.2.2 dL_orders_12

set_option maxHeartbeats 4000000 in
set_option maxRecDepth 100000 in
theorem c_L_meanMinutes (l : Launch) (hfl : l.stackTraces = false) (z0 : Nat) (D : va_G) (g : Nat → Nat) (x a0 a1 a2 a3 a4 a5 a6 : Nat) (o : Nat) : vx_Met l yL_meanMinutes (wspW yL_meanMinutes cL_meanMinutes 3 (some .int) [(0, 7, 10, 122)]) ({ frames := 7, cells := 1, slots := 6, locals := 102 }) (va_Pc [.ref x, .ref o] (PR z0 D g [(x, .inr (0, [.ref a0, .ref a1, .ref a2, .ref a3, .ref a4, .ref a5, .ref a6, .int 0, .int 0, .int 0, .int 0, .int 0, .int 0, .int 0]))])) (va_Qi (fun (r : Int32) (_ : Unit) => r = 1) (fun _ _ => True) nA) xN 1 6 nA := by
  refine vx_ofWH (cc := cL_meanMinutes) (maxL := 3) (ret := (some .int)) (hh := [(0, 7, 10, 122)]) (by decide) rfl ?_
  intro p e s m args below meth c s₁ B hml hv
  obtain ⟨rfl, hE, hP⟩ := hv
  have hx := B.exec
  have hb := B.bytes
  have hr := B.returns
  have hts0 := atoms_spec (ws := (wspW yL_meanMinutes cL_meanMinutes 3 (some .int) [(0, 7, 10, 122)])) B.pre
  have htab := vx_table (x := yL_meanMinutes) B (hts0 _ List.mem_cons_self)
  have hts : ∀ w ∈ lw_all, w.before _ s = true := fun w h => hts0 w (List.mem_cons_of_mem _ h)
  have hown : s.vm.findClass "TheatrehouseLaw" = some m.cls := findClass_of_methodNamed B.named
  have hlocks := B.notSynchronized
  have hK := hE.K
  have hS : va_S nA s.heap s.heap [] := va_S.rf
  have hP : va_P D classes [(x, .inr (0, [.ref a0, .ref a1, .ref a2, .ref a3, .ref a4, .ref a5, .ref a6, .int 0, .int 0, .int 0, .int 0, .int 0, .int 0, .int 0]))] s.heap := hP
  have hl := lv_entry ([.ref x, .ref o]) (n := 3) (Nat.le_of_ble_eq_true rfl)
  rw [lg_entry_eq]
  generalize (lg_sl ([.ref x, .ref o]) ++ List.replicate (3 - (lg_sl ([.ref x, .ref o])).length) Slot.unset).toArray = ls at hl ⊢
  have hl : lv_has ls 3 [(0, .ref x), (1, .ref o)] := hl
  refine lv_aload_n hx hb dL_meanMinutes_0 rfl (lv_at hl 1 rfl) ?_
  refine lv_iconst (v := 0) hx hb dL_meanMinutes_1 (by decide) ?_
  refine lv_aload_n hx hb dL_meanMinutes_2 rfl (lv_at hl 0 rfl) ?_
  have hc_1 := hP.sub (ws' := [(x, .inr (0, [.ref a0, .ref a1, .ref a2, .ref a3, .ref a4, .ref a5, .ref a6, .int 0, .int 0, .int 0, .int 0, .int 0, .int 0, .int 0]))]) [0] rfl
  refine vx_calld (vx_runV (As := []) (rest := [.int 0, .ref o]) ⟨hx, hb, hml, hown, hts⟩ (c_X10_meanMinutes l hfl z0 D g x a0 a1 a2 a3 a4 a5 a6) (cwV 0 hts (lw_V m_1106 m_1107 m_1108 m_1 m_1109) rfl rfl rfl (by decide +kernel) ⟨(Nat.le_of_ble_eq_true rfl), (Nat.le_of_ble_eq_true rfl)⟩) ⟨PR.blind, va_recv hK hP (ci := 0) (q0 := 0) rfl rfl, PR.pre hE hS nA_z hc_1⟩ rfl rfl hl.1 rfl (lv_room (Nat.le_of_ble_eq_true rfl)) dL_meanMinutes_3 ⟨(Nat.le_of_ble_eq_true rfl), (Nat.le_of_ble_eq_true rfl)⟩) hS nA_B nA_A nA_B (fun E ce q9 u t H locs ht hvm _ hBX hz1 hk1 hS hce hcv hcl => ?_) (fun r_2 u t H locs ht hvm hw _ _ _ _ => hw.elim)
  subst hBX
  have hP := hP.old hk1
  have hP : va_P D classes [(x, .inr (0, [.ref a0, .ref a1, .ref a2, .ref a3, .ref a4, .ref a5, .ref a6, .int 0, .int 0, .int 0, .int 0, .int 0, .int 0, .int 0]))] H := hP
  refine vx_catch hown (tableOf []) ⟨0, 7, 10, 122⟩ (tableOf []) (htab.trans rfl) (fun z hz => nomatch hz) (by decide) (by decide) (hts _ m_1082) (va_Nw.use rfl (hE.ng _ mn_1094)) hce hcv hcl ?_
  refine lv_astore_n (lv' := [(2, .ref q9), (0, .ref x), (1, .ref o)]) hx hb dL_meanMinutes_10 rfl hl (by decide) rfl (fun ls hl => ?_)
  refine lv_iconst (v := 1) hx hb dL_meanMinutes_11 (by decide) ?_
  refine W.widen (k := 1) (n := 6) (Nat.le_of_ble_eq_true rfl) (Nat.le_of_ble_eq_true rfl) ?_
  refine vx_ret ?_
  exact W.iret (v := 1) hx hb hr (fun t ht hW => ⟨⟨1, (), rfl, rfl, trivial⟩, hS.F ht⟩) hS.2.2 dL_meanMinutes_12
