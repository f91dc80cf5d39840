theorem dJx4a65c_size_8abf5_0 : decode cJx4a65c_size_8abf5 0 = .ok (.aload_n 0, 1) := by decide +kernel
theorem dJx4a65c_size_8abf5_1 : decode cJx4a65c_size_8abf5 1 = .ok (.getfield 48, 3) := by decide +kernel
theorem dJx4a65c_size_8abf5_4 : decode cJx4a65c_size_8abf5 4 = .ok (.ireturn, 1) := by decide +kernel
theorem dL_addCue_0 : decode cL_addCue 0 = .ok (.aload 7, 2) := by decide +kernel
theorem dL_addCue_2 : decode cL_addCue 2 = .ok (.iconst 0, 1) := by decide +kernel
theorem dL_addCue_3 : decode cL_addCue 3 = .ok (.aload_n 0, 1) := by decide +kernel
theorem dL_addCue_4 : decode cL_addCue 4 = .ok (.iload_n 1, 1) := by decide +kernel
theorem dL_addCue_5 : decode cL_addCue 5 = .ok (.iload_n 2, 1) := by decide +kernel
theorem dL_addCue_6 : decode cL_addCue 6 = .ok (.iload_n 3, 1) := by decide +kernel
theorem dL_addCue_7 : decode cL_addCue 7 = .ok (.iload 4, 2) := by decide +kernel
theorem dL_addCue_9 : decode cL_addCue 9 = .ok (.iload 5, 2) := by decide +kernel
theorem dL_addCue_11 : decode cL_addCue 11 = .ok (.iload 6, 2) := by decide +kernel
theorem dL_addCue_13 : decode cL_addCue 13 = .ok (.invokevirtual 41, 3) := by decide +kernel
theorem dL_addCue_21 : decode cL_addCue 21 = .ok (.astore 8, 2) := by decide +kernel
theorem dL_addCue_23 : decode cL_addCue 23 = .ok (.iconst 1, 1) := by decide +kernel
theorem dL_addCue_24 : decode cL_addCue 24 = .ok (.ireturn, 1) := by decide +kernel
theorem dL_balance_0 : decode cL_balance 0 = .ok (.aload_n 2, 1) := by decide +kernel
theorem dL_balance_1 : decode cL_balance 1 = .ok (.iconst 0, 1) := by decide +kernel
theorem dL_balance_2 : decode cL_balance 2 = .ok (.aload_n 0, 1) := by decide +kernel
theorem dL_balance_3 : decode cL_balance 3 = .ok (.iload_n 1, 1) := by decide +kernel
theorem dL_balance_4 : decode cL_balance 4 = .ok (.invokevirtual 112, 3) := by decide +kernel
theorem dL_balance_12 : decode cL_balance 12 = .ok (.astore_n 3, 1) := by decide +kernel
theorem dL_balance_13 : decode cL_balance 13 = .ok (.iconst 1, 1) := by decide +kernel
theorem dL_balance_14 : decode cL_balance 14 = .ok (.ireturn, 1) := by decide +kernel
theorem dL_cues_0 : decode cL_cues 0 = .ok (.aload_n 2, 1) := by decide +kernel
theorem dL_cues_1 : decode cL_cues 1 = .ok (.iconst 0, 1) := by decide +kernel
theorem dL_cues_2 : decode cL_cues 2 = .ok (.aload_n 0, 1) := by decide +kernel
theorem dL_cues_3 : decode cL_cues 3 = .ok (.iload_n 1, 1) := by decide +kernel
theorem dL_cues_4 : decode cL_cues 4 = .ok (.invokevirtual 45, 3) := by decide +kernel
theorem dL_cues_12 : decode cL_cues 12 = .ok (.astore_n 3, 1) := by decide +kernel
theorem dL_cues_13 : decode cL_cues 13 = .ok (.iconst 1, 1) := by decide +kernel
theorem dL_cues_14 : decode cL_cues 14 = .ok (.ireturn, 1) := by decide +kernel
theorem dL_end_0 : decode cL_end 0 = .ok (.aload_n 1, 1) := by decide +kernel
theorem dL_end_1 : decode cL_end 1 = .ok (.iconst 0, 1) := by decide +kernel
theorem dL_end_2 : decode cL_end 2 = .ok (.aload_n 0, 1) := by decide +kernel
theorem dL_end_3 : decode cL_end 3 = .ok (.invokevirtual 74, 3) := by decide +kernel
theorem dL_end_11 : decode cL_end 11 = .ok (.astore_n 2, 1) := by decide +kernel
theorem dL_end_12 : decode cL_end 12 = .ok (.iconst 1, 1) := by decide +kernel
theorem dL_end_13 : decode cL_end 13 = .ok (.ireturn, 1) := by decide +kernel
theorem dL_fallIll_0 : decode cL_fallIll 0 = .ok (.aload_n 3, 1) := by decide +kernel
theorem dL_fallIll_1 : decode cL_fallIll 1 = .ok (.iconst 0, 1) := by decide +kernel
theorem dL_fallIll_2 : decode cL_fallIll 2 = .ok (.aload_n 0, 1) := by decide +kernel
theorem dL_fallIll_3 : decode cL_fallIll 3 = .ok (.iload_n 1, 1) := by decide +kernel
theorem dL_fallIll_4 : decode cL_fallIll 4 = .ok (.iload_n 2, 1) := by decide +kernel
theorem dL_fallIll_5 : decode cL_fallIll 5 = .ok (.invokevirtual 22, 3) := by decide +kernel
theorem dL_fallIll_13 : decode cL_fallIll 13 = .ok (.astore 4, 2) := by decide +kernel
theorem dL_fallIll_15 : decode cL_fallIll 15 = .ok (.iconst 1, 1) := by decide +kernel
theorem dL_fallIll_16 : decode cL_fallIll 16 = .ok (.ireturn, 1) := by decide +kernel
theorem dL_farthest_0 : decode cL_farthest 0 = .ok (.aload_n 1, 1) := by decide +kernel
theorem dL_farthest_1 : decode cL_farthest 1 = .ok (.iconst 0, 1) := by decide +kernel
theorem dL_farthest_2 : decode cL_farthest 2 = .ok (.aload_n 0, 1) := by decide +kernel
theorem dL_farthest_3 : decode cL_farthest 3 = .ok (.invokevirtual 102, 3) := by decide +kernel
theorem dL_farthest_11 : decode cL_farthest 11 = .ok (.astore_n 2, 1) := by decide +kernel
theorem dL_farthest_12 : decode cL_farthest 12 = .ok (.iconst 1, 1) := by decide +kernel
theorem dL_farthest_13 : decode cL_farthest 13 = .ok (.ireturn, 1) := by decide +kernel
theorem dL_hasOrder_0 : decode cL_hasOrder 0 = .ok (.aload_n 1, 1) := by decide +kernel
theorem dL_hasOrder_1 : decode cL_hasOrder 1 = .ok (.iconst 0, 1) := by decide +kernel
theorem dL_hasOrder_2 : decode cL_hasOrder 2 = .ok (.aload_n 0, 1) := by decide +kernel
theorem dL_hasOrder_3 : decode cL_hasOrder 3 = .ok (.invokevirtual 95, 3) := by decide +kernel
theorem dL_hasOrder_18 : decode cL_hasOrder 18 = .ok (.astore_n 2, 1) := by decide +kernel
theorem dL_hasOrder_19 : decode cL_hasOrder 19 = .ok (.iconst 1, 1) := by decide +kernel
theorem dL_hasOrder_20 : decode cL_hasOrder 20 = .ok (.ireturn, 1) := by decide +kernel
theorem dL_meanMinutes_0 : decode cL_meanMinutes 0 = .ok (.aload_n 1, 1) := by decide +kernel
theorem dL_meanMinutes_1 : decode cL_meanMinutes 1 = .ok (.iconst 0, 1) := by decide +kernel
theorem dL_meanMinutes_2 : decode cL_meanMinutes 2 = .ok (.aload_n 0, 1) := by decide +kernel
theorem dL_meanMinutes_3 : decode cL_meanMinutes 3 = .ok (.invokevirtual 124, 3) := by decide +kernel
theorem dL_meanMinutes_10 : decode cL_meanMinutes 10 = .ok (.astore_n 2, 1) := by decide +kernel
theorem dL_meanMinutes_11 : decode cL_meanMinutes 11 = .ok (.iconst 1, 1) := by decide +kernel
theorem dL_meanMinutes_12 : decode cL_meanMinutes 12 = .ok (.ireturn, 1) := by decide +kernel
theorem dL_minutes_0 : decode cL_minutes 0 = .ok (.aload_n 1, 1) := by decide +kernel
theorem dL_minutes_1 : decode cL_minutes 1 = .ok (.iconst 0, 1) := by decide +kernel
theorem dL_minutes_2 : decode cL_minutes 2 = .ok (.aload_n 0, 1) := by decide +kernel
theorem dL_minutes_3 : decode cL_minutes 3 = .ok (.invokevirtual 89, 3) := by decide +kernel
theorem dL_minutes_11 : decode cL_minutes 11 = .ok (.astore_n 2, 1) := by decide +kernel
theorem dL_minutes_12 : decode cL_minutes 12 = .ok (.iconst 1, 1) := by decide +kernel
theorem dL_minutes_13 : decode cL_minutes 13 = .ok (.ireturn, 1) := by decide +kernel
theorem dL_obstacle_0 : decode cL_obstacle 0 = .ok (.aload_n 2, 1) := by decide +kernel
theorem dL_obstacle_1 : decode cL_obstacle 1 = .ok (.iconst 0, 1) := by decide +kernel
theorem dL_obstacle_2 : decode cL_obstacle 2 = .ok (.aload_n 0, 1) := by decide +kernel
theorem dL_obstacle_3 : decode cL_obstacle 3 = .ok (.iload_n 1, 1) := by decide +kernel
theorem dL_obstacle_4 : decode cL_obstacle 4 = .ok (.invokevirtual 67, 3) := by decide +kernel
theorem dL_obstacle_12 : decode cL_obstacle 12 = .ok (.astore_n 3, 1) := by decide +kernel
theorem dL_obstacle_13 : decode cL_obstacle 13 = .ok (.iconst 1, 1) := by decide +kernel
theorem dL_obstacle_14 : decode cL_obstacle 14 = .ok (.ireturn, 1) := by decide +kernel
theorem dL_orderAt_0 : decode cL_orderAt 0 = .ok (.aload_n 2, 1) := by decide +kernel
theorem dL_orderAt_1 : decode cL_orderAt 1 = .ok (.iconst 0, 1) := by decide +kernel
theorem dL_orderAt_2 : decode cL_orderAt 2 = .ok (.aload_n 0, 1) := by decide +kernel
theorem dL_orderAt_3 : decode cL_orderAt 3 = .ok (.iload_n 1, 1) := by decide +kernel
theorem dL_orderAt_4 : decode cL_orderAt 4 = .ok (.invokevirtual 99, 3) := by decide +kernel
theorem dL_orderAt_12 : decode cL_orderAt 12 = .ok (.astore_n 3, 1) := by decide +kernel
theorem dL_orderAt_13 : decode cL_orderAt 13 = .ok (.iconst 1, 1) := by decide +kernel
theorem dL_orderAt_14 : decode cL_orderAt 14 = .ok (.ireturn, 1) := by decide +kernel
theorem dL_orders_0 : decode cL_orders 0 = .ok (.aload_n 1, 1) := by decide +kernel
theorem dL_orders_1 : decode cL_orders 1 = .ok (.iconst 0, 1) := by decide +kernel
theorem dL_orders_2 : decode cL_orders 2 = .ok (.aload_n 0, 1) := by decide +kernel
theorem dL_orders_3 : decode cL_orders 3 = .ok (.invokevirtual 108, 3) := by decide +kernel
theorem dL_orders_10 : decode cL_orders 10 = .ok (.astore_n 2, 1) := by decide +kernel
theorem dL_orders_11 : decode cL_orders 11 = .ok (.iconst 1, 1) := by decide +kernel
theorem dL_orders_12 : decode cL_orders 12 = .ok (.ireturn, 1) := by decide +kernel
theorem dL_perform_0 : decode cL_perform 0 = .ok (.aload_n 2, 1) := by decide +kernel
theorem dL_perform_1 : decode cL_perform 1 = .ok (.iconst 0, 1) := by decide +kernel
theorem dL_perform_2 : decode cL_perform 2 = .ok (.aload_n 0, 1) := by decide +kernel
theorem dL_perform_3 : decode cL_perform 3 = .ok (.iload_n 1, 1) := by decide +kernel
theorem dL_perform_4 : decode cL_perform 4 = .ok (.invokevirtual 64, 3) := by decide +kernel
theorem dL_perform_12 : decode cL_perform 12 = .ok (.astore_n 3, 1) := by decide +kernel
theorem dL_perform_13 : decode cL_perform 13 = .ok (.iconst 1, 1) := by decide +kernel
theorem dL_perform_14 : decode cL_perform 14 = .ok (.ireturn, 1) := by decide +kernel
theorem dL_place_0 : decode cL_place 0 = .ok (.aload_n 2, 1) := by decide +kernel
theorem dL_place_1 : decode cL_place 1 = .ok (.iconst 0, 1) := by decide +kernel
theorem dL_place_2 : decode cL_place 2 = .ok (.aload_n 0, 1) := by decide +kernel
theorem dL_place_3 : decode cL_place 3 = .ok (.iload_n 1, 1) := by decide +kernel
theorem dL_place_4 : decode cL_place 4 = .ok (.invokevirtual 86, 3) := by decide +kernel
theorem dL_place_12 : decode cL_place 12 = .ok (.astore_n 3, 1) := by decide +kernel
theorem dL_place_13 : decode cL_place 13 = .ok (.iconst 1, 1) := by decide +kernel
theorem dL_place_14 : decode cL_place 14 = .ok (.ireturn, 1) := by decide +kernel
theorem dL_plan_0 : decode cL_plan 0 = .ok (.aload_n 3, 1) := by decide +kernel
theorem dL_plan_1 : decode cL_plan 1 = .ok (.iconst 0, 1) := by decide +kernel
theorem dL_plan_2 : decode cL_plan 2 = .ok (.aload_n 0, 1) := by decide +kernel
theorem dL_plan_3 : decode cL_plan 3 = .ok (.iload_n 1, 1) := by decide +kernel
theorem dL_plan_4 : decode cL_plan 4 = .ok (.iload_n 2, 1) := by decide +kernel
theorem dL_plan_5 : decode cL_plan 5 = .ok (.invokevirtual 49, 3) := by decide +kernel
theorem dL_plan_13 : decode cL_plan 13 = .ok (.astore 4, 2) := by decide +kernel
theorem dL_plan_15 : decode cL_plan 15 = .ok (.iconst 1, 1) := by decide +kernel
theorem dL_plan_16 : decode cL_plan 16 = .ok (.ireturn, 1) := by decide +kernel
theorem dL_setCover_0 : decode cL_setCover 0 = .ok (.aload_n 3, 1) := by decide +kernel
theorem dL_setCover_1 : decode cL_setCover 1 = .ok (.iconst 0, 1) := by decide +kernel
theorem dL_setCover_2 : decode cL_setCover 2 = .ok (.aload_n 0, 1) := by decide +kernel
theorem dL_setCover_3 : decode cL_setCover 3 = .ok (.iload_n 1, 1) := by decide +kernel
theorem dL_setCover_4 : decode cL_setCover 4 = .ok (.iload_n 2, 1) := by decide +kernel
theorem dL_setCover_5 : decode cL_setCover 5 = .ok (.invokevirtual 17, 3) := by decide +kernel
theorem dL_setCover_13 : decode cL_setCover 13 = .ok (.astore 4, 2) := by decide +kernel
theorem dL_setCover_15 : decode cL_setCover 15 = .ok (.iconst 1, 1) := by decide +kernel
theorem dL_setCover_16 : decode cL_setCover 16 = .ok (.ireturn, 1) := by decide +kernel
theorem dL_setInterlock_0 : decode cL_setInterlock 0 = .ok (.aload 5, 2) := by decide +kernel
theorem dL_setInterlock_2 : decode cL_setInterlock 2 = .ok (.iconst 0, 1) := by decide +kernel
theorem dL_setInterlock_3 : decode cL_setInterlock 3 = .ok (.aload_n 0, 1) := by decide +kernel
theorem dL_setInterlock_4 : decode cL_setInterlock 4 = .ok (.iload_n 1, 1) := by decide +kernel
theorem dL_setInterlock_5 : decode cL_setInterlock 5 = .ok (.iload_n 2, 1) := by decide +kernel
theorem dL_setInterlock_6 : decode cL_setInterlock 6 = .ok (.iload_n 3, 1) := by decide +kernel
theorem dL_setInterlock_7 : decode cL_setInterlock 7 = .ok (.iload 4, 2) := by decide +kernel
theorem dL_setInterlock_9 : decode cL_setInterlock 9 = .ok (.invokevirtual 28, 3) := by decide +kernel
theorem dL_setInterlock_17 : decode cL_setInterlock 17 = .ok (.astore 6, 2) := by decide +kernel
theorem dL_setInterlock_19 : decode cL_setInterlock 19 = .ok (.iconst 1, 1) := by decide +kernel
theorem dL_setInterlock_20 : decode cL_setInterlock 20 = .ok (.ireturn, 1) := by decide +kernel
theorem dL_setRole_0 : decode cL_setRole 0 = .ok (.aload 4, 2) := by decide +kernel
theorem dL_setRole_2 : decode cL_setRole 2 = .ok (.iconst 0, 1) := by decide +kernel
theorem dL_setRole_3 : decode cL_setRole 3 = .ok (.aload_n 0, 1) := by decide +kernel
theorem dL_setRole_4 : decode cL_setRole 4 = .ok (.iload_n 1, 1) := by decide +kernel
theorem dL_setRole_5 : decode cL_setRole 5 = .ok (.iload_n 2, 1) := by decide +kernel
theorem dL_setRole_6 : decode cL_setRole 6 = .ok (.iload_n 3, 1) := by decide +kernel
theorem dL_setRole_7 : decode cL_setRole 7 = .ok (.invokevirtual 35, 3) := by decide +kernel
theorem dL_setRole_15 : decode cL_setRole 15 = .ok (.astore 5, 2) := by decide +kernel
theorem dL_setRole_17 : decode cL_setRole 17 = .ok (.iconst 1, 1) := by decide +kernel
theorem dL_setRole_18 : decode cL_setRole 18 = .ok (.ireturn, 1) := by decide +kernel
theorem dL_singer_0 : decode cL_singer 0 = .ok (.aload_n 2, 1) := by decide +kernel
theorem dL_singer_1 : decode cL_singer 1 = .ok (.iconst 0, 1) := by decide +kernel
theorem dL_singer_2 : decode cL_singer 2 = .ok (.aload_n 0, 1) := by decide +kernel
theorem dL_singer_3 : decode cL_singer 3 = .ok (.iload_n 1, 1) := by decide +kernel
theorem dL_singer_4 : decode cL_singer 4 = .ok (.invokevirtual 77, 3) := by decide +kernel
theorem dL_singer_12 : decode cL_singer 12 = .ok (.astore_n 3, 1) := by decide +kernel
theorem dL_singer_13 : decode cL_singer 13 = .ok (.iconst 1, 1) := by decide +kernel
theorem dL_singer_14 : decode cL_singer 14 = .ok (.ireturn, 1) := by decide +kernel
theorem dL_states_0 : decode cL_states 0 = .ok (.aload_n 1, 1) := by decide +kernel
theorem dL_states_1 : decode cL_states 1 = .ok (.iconst 0, 1) := by decide +kernel
theorem dL_states_2 : decode cL_states 2 = .ok (.aload_n 0, 1) := by decide +kernel
theorem dL_states_3 : decode cL_states 3 = .ok (.invokevirtual 92, 3) := by decide +kernel
theorem dL_states_11 : decode cL_states 11 = .ok (.astore_n 2, 1) := by decide +kernel
theorem dL_states_12 : decode cL_states 12 = .ok (.iconst 1, 1) := by decide +kernel
theorem dL_states_13 : decode cL_states 13 = .ok (.ireturn, 1) := by decide +kernel
theorem dL_stuck_0 : decode cL_stuck 0 = .ok (.aload_n 1, 1) := by decide +kernel
theorem dL_stuck_1 : decode cL_stuck 1 = .ok (.iconst 0, 1) := by decide +kernel
theorem dL_stuck_2 : decode cL_stuck 2 = .ok (.aload_n 0, 1) := by decide +kernel
theorem dL_stuck_3 : decode cL_stuck 3 = .ok (.invokevirtual 105, 3) := by decide +kernel
theorem dL_stuck_11 : decode cL_stuck 11 = .ok (.astore_n 2, 1) := by decide +kernel
theorem dL_stuck_12 : decode cL_stuck 12 = .ok (.iconst 1, 1) := by decide +kernel
theorem dL_stuck_13 : decode cL_stuck 13 = .ok (.ireturn, 1) := by decide +kernel
theorem dL_sung_0 : decode cL_sung 0 = .ok (.aload_n 2, 1) := by decide +kernel
theorem dL_sung_1 : decode cL_sung 1 = .ok (.iconst 0, 1) := by decide +kernel
theorem dL_sung_2 : decode cL_sung 2 = .ok (.aload_n 0, 1) := by decide +kernel
theorem dL_sung_3 : decode cL_sung 3 = .ok (.iload_n 1, 1) := by decide +kernel
theorem dL_sung_4 : decode cL_sung 4 = .ok (.invokevirtual 115, 3) := by decide +kernel
theorem dL_sung_12 : decode cL_sung 12 = .ok (.astore_n 3, 1) := by decide +kernel
theorem dL_sung_13 : decode cL_sung 13 = .ok (.iconst 1, 1) := by decide +kernel
theorem dL_sung_14 : decode cL_sung 14 = .ok (.ireturn, 1) := by decide +kernel
theorem dL_takeBack_0 : decode cL_takeBack 0 = .ok (.aload_n 1, 1) := by decide +kernel
theorem dL_takeBack_1 : decode cL_takeBack 1 = .ok (.iconst 0, 1) := by decide +kernel
theorem dL_takeBack_2 : decode cL_takeBack 2 = .ok (.aload_n 0, 1) := by decide +kernel
theorem dL_takeBack_3 : decode cL_takeBack 3 = .ok (.invokevirtual 71, 3) := by decide +kernel
theorem dL_takeBack_11 : decode cL_takeBack 11 = .ok (.astore_n 2, 1) := by decide +kernel
theorem dL_takeBack_12 : decode cL_takeBack 12 = .ok (.iconst 1, 1) := by decide +kernel
theorem dL_takeBack_13 : decode cL_takeBack 13 = .ok (.ireturn, 1) := by decide +kernel
theorem dL_voice_0 : decode cL_voice 0 = .ok (.aload_n 2, 1) := by decide +kernel
theorem dL_voice_1 : decode cL_voice 1 = .ok (.iconst 0, 1) := by decide +kernel
theorem dL_voice_2 : decode cL_voice 2 = .ok (.aload_n 0, 1) := by decide +kernel
theorem dL_voice_3 : decode cL_voice 3 = .ok (.iload_n 1, 1) := by decide +kernel
theorem dL_voice_4 : decode cL_voice 4 = .ok (.invokevirtual 83, 3) := by decide +kernel
theorem dL_voice_12 : decode cL_voice 12 = .ok (.astore_n 3, 1) := by decide +kernel
theorem dL_voice_13 : decode cL_voice 13 = .ok (.iconst 1, 1) := by decide +kernel
theorem dL_voice_14 : decode cL_voice 14 = .ok (.ireturn, 1) := by decide +kernel
theorem dL_zone_0 : decode cL_zone 0 = .ok (.aload_n 2, 1) := by decide +kernel
theorem dL_zone_1 : decode cL_zone 1 = .ok (.iconst 0, 1) := by decide +kernel
theorem dL_zone_2 : decode cL_zone 2 = .ok (.aload_n 0, 1) := by decide +kernel
theorem dL_zone_3 : decode cL_zone 3 = .ok (.iload_n 1, 1) := by decide +kernel
theorem dL_zone_4 : decode cL_zone 4 = .ok (.invokevirtual 80, 3) := by decide +kernel
theorem dL_zone_12 : decode cL_zone 12 = .ok (.astore_n 3, 1) := by decide +kernel
theorem dL_zone_13 : decode cL_zone 13 = .ok (.iconst 1, 1) := by decide +kernel
theorem dL_zone_14 : decode cL_zone 14 = .ok (.ireturn, 1) := by decide +kernel
theorem dX10_addCue_0 : decode cX10_addCue 0 = .ok (.aload_n 0, 1) := by decide +kernel
theorem dX10_addCue_1 : decode cX10_addCue 1 = .ok (.iload_n 1, 1) := by decide +kernel
theorem dX10_addCue_2 : decode cX10_addCue 2 = .ok (.invokevirtual 138, 3) := by decide +kernel
theorem dX10_balance_0 : decode cX10_balance 0 = .ok (.aload_n 0, 1) := by decide +kernel
theorem dX10_balance_1 : decode cX10_balance 1 = .ok (.iload_n 1, 1) := by decide +kernel
theorem dX10_balance_2 : decode cX10_balance 2 = .ok (.invokevirtual 138, 3) := by decide +kernel
theorem dX10_cues_0 : decode cX10_cues 0 = .ok (.aload_n 0, 1) := by decide +kernel
theorem dX10_cues_1 : decode cX10_cues 1 = .ok (.iload_n 1, 1) := by decide +kernel
theorem dX10_cues_2 : decode cX10_cues 2 = .ok (.invokevirtual 138, 3) := by decide +kernel
theorem dX10_day_0 : decode cX10_day 0 = .ok (.aload_n 0, 1) := by decide +kernel
theorem dX10_day_1 : decode cX10_day 1 = .ok (.getfield 64, 3) := by decide +kernel
theorem dX10_day_4 : decode cX10_day 4 = .ok (.ireturn, 1) := by decide +kernel
theorem dX10_end_0 : decode cX10_end 0 = .ok (.aload_n 0, 1) := by decide +kernel
theorem dX10_end_1 : decode cX10_end 1 = .ok (.invokevirtual 273, 3) := by decide +kernel
theorem dX10_evenings_0 : decode cX10_evenings 0 = .ok (.aload_n 0, 1) := by decide +kernel
theorem dX10_evenings_1 : decode cX10_evenings 1 = .ok (.getfield 71, 3) := by decide +kernel
theorem dX10_evenings_4 : decode cX10_evenings 4 = .ok (.ireturn, 1) := by decide +kernel
theorem dX10_fallIll_0 : decode cX10_fallIll 0 = .ok (.aload_n 0, 1) := by decide +kernel
theorem dX10_fallIll_1 : decode cX10_fallIll 1 = .ok (.iload_n 1, 1) := by decide +kernel
theorem dX10_fallIll_2 : decode cX10_fallIll 2 = .ok (.invokevirtual 101, 3) := by decide +kernel
theorem dX10_farthest_0 : decode cX10_farthest 0 = .ok (.aload_n 0, 1) := by decide +kernel
theorem dX10_farthest_1 : decode cX10_farthest 1 = .ok (.invokevirtual 337, 3) := by decide +kernel
theorem dX10_hasOrder_0 : decode cX10_hasOrder 0 = .ok (.aload_n 0, 1) := by decide +kernel
theorem dX10_hasOrder_1 : decode cX10_hasOrder 1 = .ok (.invokevirtual 337, 3) := by decide +kernel
theorem dX10_isConsistent_0 : decode cX10_isConsistent 0 = .ok (.iconst 0, 1) := by decide +kernel
theorem dX10_isConsistent_1 : decode cX10_isConsistent 1 = .ok (.istore_n 1, 1) := by decide +kernel
theorem dX10_isConsistent_2 : decode cX10_isConsistent 2 = .ok (.iload_n 1, 1) := by decide +kernel
theorem dX10_isConsistent_3 : decode cX10_isConsistent 3 = .ok (.aload_n 0, 1) := by decide +kernel
theorem dX10_isConsistent_4 : decode cX10_isConsistent 4 = .ok (.getfield 54, 3) := by decide +kernel
theorem dX10_isConsistent_7 : decode cX10_isConsistent 7 = .ok (.if_icmp .ge 44, 3) := by decide +kernel
theorem dX10_isConsistent_51 : decode cX10_isConsistent 51 = .ok (.aload_n 0, 1) := by decide +kernel
theorem dX10_isConsistent_52 : decode cX10_isConsistent 52 = .ok (.getfield 67, 3) := by decide +kernel
theorem dX10_isConsistent_55 : decode cX10_isConsistent 55 = .ok (.ifCond .eq 14, 3) := by decide +kernel
theorem dX10_isConsistent_69 : decode cX10_isConsistent 69 = .ok (.iconst 1, 1) := by decide +kernel
theorem dX10_isConsistent_70 : decode cX10_isConsistent 70 = .ok (.ireturn, 1) := by decide +kernel
theorem dX10_isPerson_0 : decode cX10_isPerson 0 = .ok (.iload_n 1, 1) := by decide +kernel
theorem dX10_isPerson_1 : decode cX10_isPerson 1 = .ok (.ifCond .lt 15, 3) := by decide +kernel
theorem dX10_isPerson_4 : decode cX10_isPerson 4 = .ok (.iload_n 1, 1) := by decide +kernel
theorem dX10_isPerson_5 : decode cX10_isPerson 5 = .ok (.aload_n 0, 1) := by decide +kernel
theorem dX10_isPerson_6 : decode cX10_isPerson 6 = .ok (.getfield 54, 3) := by decide +kernel
theorem dX10_isPerson_9 : decode cX10_isPerson 9 = .ok (.if_icmp .ge 7, 3) := by decide +kernel
theorem dX10_isPerson_16 : decode cX10_isPerson 16 = .ok (.iconst 0, 1) := by decide +kernel
theorem dX10_isPerson_17 : decode cX10_isPerson 17 = .ok (.ireturn, 1) := by decide +kernel
theorem dX10_meanMinutes_0 : decode cX10_meanMinutes 0 = .ok (.aload_n 0, 1) := by decide +kernel
theorem dX10_meanMinutes_1 : decode cX10_meanMinutes 1 = .ok (.getfield 71, 3) := by decide +kernel
theorem dX10_meanMinutes_4 : decode cX10_meanMinutes 4 = .ok (.ifCond .ne 14, 3) := by decide +kernel
theorem dX10_meanMinutes_7 : decode cX10_meanMinutes 7 = .ok (.new 369, 3) := by decide +kernel
theorem dX10_meanMinutes_10 : decode cX10_meanMinutes 10 = .ok (.dup, 1) := by decide +kernel
theorem dX10_meanMinutes_11 : decode cX10_meanMinutes 11 = .ok (.ldc_w 374, 3) := by decide +kernel
theorem dX10_meanMinutes_14 : decode cX10_meanMinutes 14 = .ok (.invokespecial 373, 3) := by decide +kernel
theorem dX10_meanMinutes_17 : decode cX10_meanMinutes 17 = .ok (.athrow, 1) := by decide +kernel
theorem dX10_minutes_0 : decode cX10_minutes 0 = .ok (.aload_n 0, 1) := by decide +kernel
theorem dX10_minutes_1 : decode cX10_minutes 1 = .ok (.invokevirtual 273, 3) := by decide +kernel
theorem dX10_obstacle_0 : decode cX10_obstacle 0 = .ok (.aload_n 0, 1) := by decide +kernel
theorem dX10_obstacle_1 : decode cX10_obstacle 1 = .ok (.invokevirtual 273, 3) := by decide +kernel
theorem dX10_orderAt_0 : decode cX10_orderAt 0 = .ok (.aload_n 0, 1) := by decide +kernel
theorem dX10_orderAt_1 : decode cX10_orderAt 1 = .ok (.invokevirtual 337, 3) := by decide +kernel
theorem dX10_orders_0 : decode cX10_orders 0 = .ok (.aload_n 0, 1) := by decide +kernel
theorem dX10_orders_1 : decode cX10_orders 1 = .ok (.invokevirtual 337, 3) := by decide +kernel
theorem dX10_perform_0 : decode cX10_perform 0 = .ok (.aload_n 0, 1) := by decide +kernel
theorem dX10_perform_1 : decode cX10_perform 1 = .ok (.invokevirtual 273, 3) := by decide +kernel
theorem dX10_place_0 : decode cX10_place 0 = .ok (.aload_n 0, 1) := by decide +kernel
theorem dX10_place_1 : decode cX10_place 1 = .ok (.iload_n 1, 1) := by decide +kernel
theorem dX10_place_2 : decode cX10_place 2 = .ok (.invokevirtual 120, 3) := by decide +kernel
theorem dX10_plan_0 : decode cX10_plan 0 = .ok (.aload_n 0, 1) := by decide +kernel
theorem dX10_plan_1 : decode cX10_plan 1 = .ok (.iload_n 1, 1) := by decide +kernel
theorem dX10_plan_2 : decode cX10_plan 2 = .ok (.invokevirtual 138, 3) := by decide +kernel
theorem dX10_requireMachine_0 : decode cX10_requireMachine 0 = .ok (.iload_n 1, 1) := by decide +kernel
theorem dX10_requireMachine_1 : decode cX10_requireMachine 1 = .ok (.ifCond .lt 11, 3) := by decide +kernel
theorem dX10_requireMachine_4 : decode cX10_requireMachine 4 = .ok (.iload_n 1, 1) := by decide +kernel
theorem dX10_requireMachine_5 : decode cX10_requireMachine 5 = .ok (.aload_n 0, 1) := by decide +kernel
theorem dX10_requireMachine_6 : decode cX10_requireMachine 6 = .ok (.getfield 58, 3) := by decide +kernel
theorem dX10_requireMachine_9 : decode cX10_requireMachine 9 = .ok (.if_icmp .lt 14, 3) := by decide +kernel
theorem dX10_requireMachine_12 : decode cX10_requireMachine 12 = .ok (.new 141, 3) := by decide +kernel
theorem dX10_requireMachine_15 : decode cX10_requireMachine 15 = .ok (.dup, 1) := by decide +kernel
theorem dX10_requireMachine_16 : decode cX10_requireMachine 16 = .ok (.ldc_w 405, 3) := by decide +kernel
theorem dX10_requireMachine_19 : decode cX10_requireMachine 19 = .ok (.invokespecial 145, 3) := by decide +kernel
theorem dX10_requireMachine_22 : decode cX10_requireMachine 22 = .ok (.athrow, 1) := by decide +kernel
theorem dX10_requireNoShow_0 : decode cX10_requireNoShow 0 = .ok (.aload_n 0, 1) := by decide +kernel
theorem dX10_requireNoShow_1 : decode cX10_requireNoShow 1 = .ok (.getfield 67, 3) := by decide +kernel
theorem dX10_requireNoShow_4 : decode cX10_requireNoShow 4 = .ok (.ifCond .eq 14, 3) := by decide +kernel
theorem dX10_requireNoShow_18 : decode cX10_requireNoShow 18 = .ok (.return_, 1) := by decide +kernel
theorem dX10_requirePerson_0 : decode cX10_requirePerson 0 = .ok (.aload_n 0, 1) := by decide +kernel
theorem dX10_requirePerson_1 : decode cX10_requirePerson 1 = .ok (.iload_n 1, 1) := by decide +kernel
theorem dX10_requirePerson_2 : decode cX10_requirePerson 2 = .ok (.invokevirtual 399, 3) := by decide +kernel
theorem dX10_requirePerson_5 : decode cX10_requirePerson 5 = .ok (.ifCond .ne 14, 3) := by decide +kernel
theorem dX10_requirePerson_8 : decode cX10_requirePerson 8 = .ok (.new 141, 3) := by decide +kernel
theorem dX10_requirePerson_11 : decode cX10_requirePerson 11 = .ok (.dup, 1) := by decide +kernel
theorem dX10_requirePerson_12 : decode cX10_requirePerson 12 = .ok (.ldc_w 403, 3) := by decide +kernel
theorem dX10_requirePerson_15 : decode cX10_requirePerson 15 = .ok (.invokespecial 145, 3) := by decide +kernel
theorem dX10_requirePerson_18 : decode cX10_requirePerson 18 = .ok (.athrow, 1) := by decide +kernel
theorem dX10_requireRange_0 : decode cX10_requireRange 0 = .ok (.iload_n 0, 1) := by decide +kernel
theorem dX10_requireRange_1 : decode cX10_requireRange 1 = .ok (.iload_n 1, 1) := by decide +kernel
theorem dX10_requireRange_2 : decode cX10_requireRange 2 = .ok (.if_icmp .lt 8, 3) := by decide +kernel
theorem dX10_requireRange_5 : decode cX10_requireRange 5 = .ok (.iload_n 0, 1) := by decide +kernel
theorem dX10_requireRange_6 : decode cX10_requireRange 6 = .ok (.iload_n 2, 1) := by decide +kernel
theorem dX10_requireRange_7 : decode cX10_requireRange 7 = .ok (.if_icmp .le 14, 3) := by decide +kernel
theorem dX10_requireRange_10 : decode cX10_requireRange 10 = .ok (.new 179, 3) := by decide +kernel
theorem dX10_requireRange_13 : decode cX10_requireRange 13 = .ok (.dup, 1) := by decide +kernel
theorem dX10_requireRange_14 : decode cX10_requireRange 14 = .ok (.ldc_w 390, 3) := by decide +kernel
theorem dX10_requireRange_17 : decode cX10_requireRange 17 = .ok (.invokespecial 183, 3) := by decide +kernel
theorem dX10_requireRange_20 : decode cX10_requireRange 20 = .ok (.athrow, 1) := by decide +kernel
theorem dX10_requireRange_21 : decode cX10_requireRange 21 = .ok (.return_, 1) := by decide +kernel
theorem dX10_requireRoom_0 : decode cX10_requireRoom 0 = .ok (.iload_n 0, 1) := by decide +kernel
theorem dX10_requireRoom_1 : decode cX10_requireRoom 1 = .ok (.iload_n 1, 1) := by decide +kernel
theorem dX10_requireRoom_2 : decode cX10_requireRoom 2 = .ok (.if_icmp .lt 14, 3) := by decide +kernel
theorem dX10_requireRoom_16 : decode cX10_requireRoom 16 = .ok (.return_, 1) := by decide +kernel
theorem dX10_requireShow_0 : decode cX10_requireShow 0 = .ok (.aload_n 0, 1) := by decide +kernel
theorem dX10_requireShow_1 : decode cX10_requireShow 1 = .ok (.getfield 67, 3) := by decide +kernel
theorem dX10_requireShow_4 : decode cX10_requireShow 4 = .ok (.ifCond .ne 14, 3) := by decide +kernel
theorem dX10_requireShow_7 : decode cX10_requireShow 7 = .ok (.new 392, 3) := by decide +kernel
theorem dX10_requireShow_10 : decode cX10_requireShow 10 = .ok (.dup, 1) := by decide +kernel
theorem dX10_requireShow_11 : decode cX10_requireShow 11 = .ok (.ldc_w 411, 3) := by decide +kernel
theorem dX10_requireShow_14 : decode cX10_requireShow 14 = .ok (.invokespecial 396, 3) := by decide +kernel
theorem dX10_requireShow_17 : decode cX10_requireShow 17 = .ok (.athrow, 1) := by decide +kernel
theorem dX10_requireToldOrders_0 : decode cX10_requireToldOrders 0 = .ok (.aload_n 0, 1) := by decide +kernel
theorem dX10_requireToldOrders_1 : decode cX10_requireToldOrders 1 = .ok (.invokevirtual 273, 3) := by decide +kernel
theorem dX10_requireWork_0 : decode cX10_requireWork 0 = .ok (.iload_n 1, 1) := by decide +kernel
theorem dX10_requireWork_1 : decode cX10_requireWork 1 = .ok (.ifCond .lt 11, 3) := by decide +kernel
theorem dX10_requireWork_4 : decode cX10_requireWork 4 = .ok (.iload_n 1, 1) := by decide +kernel
theorem dX10_requireWork_5 : decode cX10_requireWork 5 = .ok (.aload_n 0, 1) := by decide +kernel
theorem dX10_requireWork_6 : decode cX10_requireWork 6 = .ok (.getfield 61, 3) := by decide +kernel
theorem dX10_requireWork_9 : decode cX10_requireWork 9 = .ok (.if_icmp .lt 14, 3) := by decide +kernel
theorem dX10_requireWork_12 : decode cX10_requireWork 12 = .ok (.new 141, 3) := by decide +kernel
theorem dX10_requireWork_15 : decode cX10_requireWork 15 = .ok (.dup, 1) := by decide +kernel
theorem dX10_requireWork_16 : decode cX10_requireWork 16 = .ok (.ldc_w 407, 3) := by decide +kernel
theorem dX10_requireWork_19 : decode cX10_requireWork 19 = .ok (.invokespecial 145, 3) := by decide +kernel
theorem dX10_requireWork_22 : decode cX10_requireWork 22 = .ok (.athrow, 1) := by decide +kernel
theorem dX10_setCover_0 : decode cX10_setCover 0 = .ok (.aload_n 0, 1) := by decide +kernel
theorem dX10_setCover_1 : decode cX10_setCover 1 = .ok (.iload_n 1, 1) := by decide +kernel
theorem dX10_setCover_2 : decode cX10_setCover 2 = .ok (.invokevirtual 101, 3) := by decide +kernel
theorem dX10_setInterlock_0 : decode cX10_setInterlock 0 = .ok (.aload_n 0, 1) := by decide +kernel
theorem dX10_setInterlock_1 : decode cX10_setInterlock 1 = .ok (.iload_n 1, 1) := by decide +kernel
theorem dX10_setInterlock_2 : decode cX10_setInterlock 2 = .ok (.invokevirtual 120, 3) := by decide +kernel
theorem dX10_setRole_0 : decode cX10_setRole 0 = .ok (.aload_n 0, 1) := by decide +kernel
theorem dX10_setRole_1 : decode cX10_setRole 1 = .ok (.iload_n 1, 1) := by decide +kernel
theorem dX10_setRole_2 : decode cX10_setRole 2 = .ok (.invokevirtual 138, 3) := by decide +kernel
theorem dX10_singer_0 : decode cX10_singer 0 = .ok (.aload_n 0, 1) := by decide +kernel
theorem dX10_singer_1 : decode cX10_singer 1 = .ok (.invokevirtual 273, 3) := by decide +kernel
theorem dX10_states_0 : decode cX10_states 0 = .ok (.aload_n 0, 1) := by decide +kernel
theorem dX10_states_1 : decode cX10_states 1 = .ok (.invokevirtual 337, 3) := by decide +kernel
theorem dX10_stuck_0 : decode cX10_stuck 0 = .ok (.aload_n 0, 1) := by decide +kernel
theorem dX10_stuck_1 : decode cX10_stuck 1 = .ok (.invokevirtual 337, 3) := by decide +kernel
theorem dX10_sung_0 : decode cX10_sung 0 = .ok (.aload_n 0, 1) := by decide +kernel
theorem dX10_sung_1 : decode cX10_sung 1 = .ok (.iload_n 1, 1) := by decide +kernel
theorem dX10_sung_2 : decode cX10_sung 2 = .ok (.invokevirtual 101, 3) := by decide +kernel
theorem dX10_takeBack_0 : decode cX10_takeBack 0 = .ok (.aload_n 0, 1) := by decide +kernel
theorem dX10_takeBack_1 : decode cX10_takeBack 1 = .ok (.invokevirtual 273, 3) := by decide +kernel
theorem dX10_voice_0 : decode cX10_voice 0 = .ok (.aload_n 0, 1) := by decide +kernel
theorem dX10_voice_1 : decode cX10_voice 1 = .ok (.iload_n 1, 1) := by decide +kernel
theorem dX10_voice_2 : decode cX10_voice 2 = .ok (.invokevirtual 101, 3) := by decide +kernel
theorem dX10_zone_0 : decode cX10_zone 0 = .ok (.aload_n 0, 1) := by decide +kernel
theorem dX10_zone_1 : decode cX10_zone 1 = .ok (.invokevirtual 273, 3) := by decide +kernel
theorem dX18_addCue_0 : decode cX18_addCue 0 = .ok (.aload_n 0, 1) := by decide +kernel
theorem dX18_addCue_1 : decode cX18_addCue 1 = .ok (.aload_n 0, 1) := by decide +kernel
theorem dX18_addCue_2 : decode cX18_addCue 2 = .ok (.iload_n 1, 1) := by decide +kernel
theorem dX18_addCue_3 : decode cX18_addCue 3 = .ok (.invokevirtual 113, 3) := by decide +kernel
theorem dX18_addCue_6 : decode cX18_addCue 6 = .ok (.ifCond .eq 7, 3) := by decide +kernel
theorem dX18_addCue_13 : decode cX18_addCue 13 = .ok (.iconst 1, 1) := by decide +kernel
theorem dX18_addCue_14 : decode cX18_addCue 14 = .ok (.putfield 39, 3) := by decide +kernel
theorem dX18_addCue_17 : decode cX18_addCue 17 = .ok (.aload_n 0, 1) := by decide +kernel
theorem dX18_addCue_18 : decode cX18_addCue 18 = .ok (.getfield 39, 3) := by decide +kernel
theorem dX18_addCue_21 : decode cX18_addCue 21 = .ok (.ifCond .le 5, 3) := by decide +kernel
theorem dX18_addCue_24 : decode cX18_addCue 24 = .ok (.iconst (-1), 1) := by decide +kernel
theorem dX18_addCue_25 : decode cX18_addCue 25 = .ok (.ireturn, 1) := by decide +kernel
theorem dX18_balance_0 : decode cX18_balance 0 = .ok (.aload_n 0, 1) := by decide +kernel
theorem dX18_balance_1 : decode cX18_balance 1 = .ok (.aload_n 0, 1) := by decide +kernel
theorem dX18_balance_2 : decode cX18_balance 2 = .ok (.iload_n 1, 1) := by decide +kernel
theorem dX18_balance_3 : decode cX18_balance 3 = .ok (.invokevirtual 113, 3) := by decide +kernel
theorem dX18_balance_6 : decode cX18_balance 6 = .ok (.ifCond .eq 7, 3) := by decide +kernel
theorem dX18_balance_13 : decode cX18_balance 13 = .ok (.iconst 1, 1) := by decide +kernel
theorem dX18_balance_14 : decode cX18_balance 14 = .ok (.putfield 39, 3) := by decide +kernel
theorem dX18_balance_17 : decode cX18_balance 17 = .ok (.aload_n 0, 1) := by decide +kernel
theorem dX18_balance_18 : decode cX18_balance 18 = .ok (.getfield 39, 3) := by decide +kernel
theorem dX18_balance_21 : decode cX18_balance 21 = .ok (.ifCond .ne 22, 3) := by decide +kernel
theorem dX18_balance_43 : decode cX18_balance 43 = .ok (.iconst (-1), 1) := by decide +kernel
theorem dX18_balance_44 : decode cX18_balance 44 = .ok (.ireturn, 1) := by decide +kernel
theorem dX18_cues_0 : decode cX18_cues 0 = .ok (.aload_n 0, 1) := by decide +kernel
theorem dX18_cues_1 : decode cX18_cues 1 = .ok (.aload_n 0, 1) := by decide +kernel
theorem dX18_cues_2 : decode cX18_cues 2 = .ok (.iload_n 1, 1) := by decide +kernel
theorem dX18_cues_3 : decode cX18_cues 3 = .ok (.invokevirtual 113, 3) := by decide +kernel
theorem dX18_cues_6 : decode cX18_cues 6 = .ok (.ifCond .eq 7, 3) := by decide +kernel
theorem dX18_cues_13 : decode cX18_cues 13 = .ok (.iconst 1, 1) := by decide +kernel
theorem dX18_cues_14 : decode cX18_cues 14 = .ok (.putfield 39, 3) := by decide +kernel
theorem dX18_cues_17 : decode cX18_cues 17 = .ok (.aload_n 0, 1) := by decide +kernel
theorem dX18_cues_18 : decode cX18_cues 18 = .ok (.getfield 39, 3) := by decide +kernel
theorem dX18_cues_21 : decode cX18_cues 21 = .ok (.ifCond .ne 27, 3) := by decide +kernel
theorem dX18_cues_48 : decode cX18_cues 48 = .ok (.iconst (-1), 1) := by decide +kernel
theorem dX18_cues_49 : decode cX18_cues 49 = .ok (.ireturn, 1) := by decide +kernel
theorem dX18_day_0 : decode cX18_day 0 = .ok (.aload_n 0, 1) := by decide +kernel
theorem dX18_day_1 : decode cX18_day 1 = .ok (.iconst 0, 1) := by decide +kernel
theorem dX18_day_2 : decode cX18_day 2 = .ok (.putfield 39, 3) := by decide +kernel
theorem dX18_day_5 : decode cX18_day 5 = .ok (.aload_n 0, 1) := by decide +kernel
theorem dX18_day_6 : decode cX18_day 6 = .ok (.getfield 81, 3) := by decide +kernel
theorem dX18_day_9 : decode cX18_day 9 = .ok (.ireturn, 1) := by decide +kernel
theorem dX18_end_0 : decode cX18_end 0 = .ok (.aload_n 0, 1) := by decide +kernel
theorem dX18_end_1 : decode cX18_end 1 = .ok (.aload_n 0, 1) := by decide +kernel
theorem dX18_end_2 : decode cX18_end 2 = .ok (.getfield 57, 3) := by decide +kernel
theorem dX18_end_5 : decode cX18_end 5 = .ok (.ifnonnull 7, 3) := by decide +kernel
theorem dX18_end_8 : decode cX18_end 8 = .ok (.iconst 1, 1) := by decide +kernel
theorem dX18_end_9 : decode cX18_end 9 = .ok (.goto 4, 3) := by decide +kernel
theorem dX18_end_13 : decode cX18_end 13 = .ok (.putfield 39, 3) := by decide +kernel
theorem dX18_end_16 : decode cX18_end 16 = .ok (.aload_n 0, 1) := by decide +kernel
theorem dX18_end_17 : decode cX18_end 17 = .ok (.getfield 39, 3) := by decide +kernel
theorem dX18_end_20 : decode cX18_end 20 = .ok (.ifCond .le 5, 3) := by decide +kernel
theorem dX18_end_23 : decode cX18_end 23 = .ok (.iconst (-1), 1) := by decide +kernel
theorem dX18_end_24 : decode cX18_end 24 = .ok (.ireturn, 1) := by decide +kernel
theorem dX18_evenings_0 : decode cX18_evenings 0 = .ok (.aload_n 0, 1) := by decide +kernel
theorem dX18_evenings_1 : decode cX18_evenings 1 = .ok (.iconst 0, 1) := by decide +kernel
theorem dX18_evenings_2 : decode cX18_evenings 2 = .ok (.putfield 39, 3) := by decide +kernel
theorem dX18_evenings_5 : decode cX18_evenings 5 = .ok (.aload_n 0, 1) := by decide +kernel
theorem dX18_evenings_6 : decode cX18_evenings 6 = .ok (.getfield 315, 3) := by decide +kernel
theorem dX18_evenings_9 : decode cX18_evenings 9 = .ok (.ireturn, 1) := by decide +kernel
theorem dX18_fallIll_0 : decode cX18_fallIll 0 = .ok (.aload_n 0, 1) := by decide +kernel
theorem dX18_fallIll_1 : decode cX18_fallIll 1 = .ok (.aload_n 0, 1) := by decide +kernel
theorem dX18_fallIll_2 : decode cX18_fallIll 2 = .ok (.iload_n 1, 1) := by decide +kernel
theorem dX18_fallIll_3 : decode cX18_fallIll 3 = .ok (.invokevirtual 70, 3) := by decide +kernel
theorem dX18_fallIll_6 : decode cX18_fallIll 6 = .ok (.ifCond .ne 7, 3) := by decide +kernel
theorem dX18_fallIll_9 : decode cX18_fallIll 9 = .ok (.iconst 1, 1) := by decide +kernel
theorem dX18_fallIll_10 : decode cX18_fallIll 10 = .ok (.goto 20, 3) := by decide +kernel
theorem dX18_fallIll_30 : decode cX18_fallIll 30 = .ok (.putfield 39, 3) := by decide +kernel
theorem dX18_fallIll_33 : decode cX18_fallIll 33 = .ok (.aload_n 0, 1) := by decide +kernel
theorem dX18_fallIll_34 : decode cX18_fallIll 34 = .ok (.getfield 39, 3) := by decide +kernel
theorem dX18_fallIll_37 : decode cX18_fallIll 37 = .ok (.ifCond .le 5, 3) := by decide +kernel
theorem dX18_fallIll_40 : decode cX18_fallIll 40 = .ok (.iconst (-1), 1) := by decide +kernel
theorem dX18_fallIll_41 : decode cX18_fallIll 41 = .ok (.ireturn, 1) := by decide +kernel
theorem dX18_farthest_0 : decode cX18_farthest 0 = .ok (.aload_n 0, 1) := by decide +kernel
theorem dX18_farthest_1 : decode cX18_farthest 1 = .ok (.invokevirtual 331, 3) := by decide +kernel
theorem dX18_farthest_4 : decode cX18_farthest 4 = .ok (.astore_n 1, 1) := by decide +kernel
theorem dX18_farthest_5 : decode cX18_farthest 5 = .ok (.aload_n 1, 1) := by decide +kernel
theorem dX18_farthest_6 : decode cX18_farthest 6 = .ok (.ifnonnull 7, 3) := by decide +kernel
theorem dX18_farthest_9 : decode cX18_farthest 9 = .ok (.iconst (-1), 1) := by decide +kernel
theorem dX18_farthest_10 : decode cX18_farthest 10 = .ok (.goto 9, 3) := by decide +kernel
theorem dX18_farthest_19 : decode cX18_farthest 19 = .ok (.ireturn, 1) := by decide +kernel
theorem dX18_hasOrder_0 : decode cX18_hasOrder 0 = .ok (.aload_n 0, 1) := by decide +kernel
theorem dX18_hasOrder_1 : decode cX18_hasOrder 1 = .ok (.invokevirtual 331, 3) := by decide +kernel
theorem dX18_hasOrder_4 : decode cX18_hasOrder 4 = .ok (.astore_n 1, 1) := by decide +kernel
theorem dX18_hasOrder_5 : decode cX18_hasOrder 5 = .ok (.aload_n 1, 1) := by decide +kernel
theorem dX18_hasOrder_6 : decode cX18_hasOrder 6 = .ok (.ifnull 18, 3) := by decide +kernel
theorem dX18_hasOrder_24 : decode cX18_hasOrder 24 = .ok (.iconst 0, 1) := by decide +kernel
theorem dX18_hasOrder_25 : decode cX18_hasOrder 25 = .ok (.ireturn, 1) := by decide +kernel
theorem dX18_in_0 : decode cX18_in 0 = .ok (.lload_n 0, 1) := by decide +kernel
theorem dX18_in_1 : decode cX18_in 1 = .ok (.lload_n 2, 1) := by decide +kernel
theorem dX18_in_2 : decode cX18_in 2 = .ok (.lcmp, 1) := by decide +kernel
theorem dX18_in_3 : decode cX18_in 3 = .ok (.ifCond .lt 14, 3) := by decide +kernel
theorem dX18_in_6 : decode cX18_in 6 = .ok (.lload_n 0, 1) := by decide +kernel
theorem dX18_in_7 : decode cX18_in 7 = .ok (.lload 4, 2) := by decide +kernel
theorem dX18_in_9 : decode cX18_in 9 = .ok (.lcmp, 1) := by decide +kernel
theorem dX18_in_10 : decode cX18_in 10 = .ok (.ifCond .gt 7, 3) := by decide +kernel
theorem dX18_in_13 : decode cX18_in 13 = .ok (.iconst 1, 1) := by decide +kernel
theorem dX18_in_14 : decode cX18_in 14 = .ok (.goto 4, 3) := by decide +kernel
theorem dX18_in_17 : decode cX18_in 17 = .ok (.iconst 0, 1) := by decide +kernel
theorem dX18_in_18 : decode cX18_in 18 = .ok (.ireturn, 1) := by decide +kernel
theorem dX18_isConsistent_0 : decode cX18_isConsistent 0 = .ok (.aload_n 0, 1) := by decide +kernel
theorem dX18_isConsistent_1 : decode cX18_isConsistent 1 = .ok (.iconst 0, 1) := by decide +kernel
theorem dX18_isConsistent_2 : decode cX18_isConsistent 2 = .ok (.putfield 39, 3) := by decide +kernel
theorem dX18_isConsistent_5 : decode cX18_isConsistent 5 = .ok (.iconst 1, 1) := by decide +kernel
theorem dX18_isConsistent_6 : decode cX18_isConsistent 6 = .ok (.ireturn, 1) := by decide +kernel
theorem dX18_isMachine_0 : decode cX18_isMachine 0 = .ok (.iload_n 1, 1) := by decide +kernel
theorem dX18_isMachine_1 : decode cX18_isMachine 1 = .ok (.i2l, 1) := by decide +kernel
theorem dX18_isMachine_2 : decode cX18_isMachine 2 = .ok (.lconst 0, 1) := by decide +kernel
theorem dX18_isMachine_3 : decode cX18_isMachine 3 = .ok (.aload_n 0, 1) := by decide +kernel
theorem dX18_isMachine_4 : decode cX18_isMachine 4 = .ok (.getfield 16, 3) := by decide +kernel
theorem dX18_isMachine_7 : decode cX18_isMachine 7 = .ok (.invokeinterface 43 1, 5) := by decide +kernel
theorem dX18_isMachine_12 : decode cX18_isMachine 12 = .ok (.iconst 1, 1) := by decide +kernel
theorem dX18_isMachine_13 : decode cX18_isMachine 13 = .ok (.isub, 1) := by decide +kernel
theorem dX18_isMachine_14 : decode cX18_isMachine 14 = .ok (.i2l, 1) := by decide +kernel
theorem dX18_isMachine_15 : decode cX18_isMachine 15 = .ok (.invokestatic 49, 3) := by decide +kernel
theorem dX18_isMachine_18 : decode cX18_isMachine 18 = .ok (.ireturn, 1) := by decide +kernel
theorem dX18_isOn_0 : decode cX18_isOn 0 = .ok (.aload_n 0, 1) := by decide +kernel
theorem dX18_isOn_1 : decode cX18_isOn 1 = .ok (.aload_n 0, 1) := by decide +kernel
theorem dX18_isOn_2 : decode cX18_isOn 2 = .ok (.getfield 57, 3) := by decide +kernel
theorem dX18_isOn_5 : decode cX18_isOn 5 = .ok (.ifnonnull 7, 3) := by decide +kernel
theorem dX18_isOn_8 : decode cX18_isOn 8 = .ok (.iconst 1, 1) := by decide +kernel
theorem dX18_isOn_9 : decode cX18_isOn 9 = .ok (.goto 32, 3) := by decide +kernel
theorem dX18_isOn_41 : decode cX18_isOn 41 = .ok (.putfield 39, 3) := by decide +kernel
theorem dX18_isOn_44 : decode cX18_isOn 44 = .ok (.aload_n 0, 1) := by decide +kernel
theorem dX18_isOn_45 : decode cX18_isOn 45 = .ok (.getfield 39, 3) := by decide +kernel
theorem dX18_isOn_48 : decode cX18_isOn 48 = .ok (.ifCond .ne 7, 3) := by decide +kernel
theorem dX18_isOn_55 : decode cX18_isOn 55 = .ok (.iconst 0, 1) := by decide +kernel
theorem dX18_isOn_56 : decode cX18_isOn 56 = .ok (.ireturn, 1) := by decide +kernel
theorem dX18_isPerson_0 : decode cX18_isPerson 0 = .ok (.iload_n 1, 1) := by decide +kernel
theorem dX18_isPerson_1 : decode cX18_isPerson 1 = .ok (.i2l, 1) := by decide +kernel
theorem dX18_isPerson_2 : decode cX18_isPerson 2 = .ok (.lconst 0, 1) := by decide +kernel
theorem dX18_isPerson_3 : decode cX18_isPerson 3 = .ok (.aload_n 0, 1) := by decide +kernel
theorem dX18_isPerson_4 : decode cX18_isPerson 4 = .ok (.getfield 10, 3) := by decide +kernel
theorem dX18_isPerson_7 : decode cX18_isPerson 7 = .ok (.invokeinterface 43 1, 5) := by decide +kernel
theorem dX18_isPerson_12 : decode cX18_isPerson 12 = .ok (.iconst 1, 1) := by decide +kernel
theorem dX18_isPerson_13 : decode cX18_isPerson 13 = .ok (.isub, 1) := by decide +kernel
theorem dX18_isPerson_14 : decode cX18_isPerson 14 = .ok (.i2l, 1) := by decide +kernel
theorem dX18_isPerson_15 : decode cX18_isPerson 15 = .ok (.invokestatic 49, 3) := by decide +kernel
theorem dX18_isPerson_18 : decode cX18_isPerson 18 = .ok (.ireturn, 1) := by decide +kernel
theorem dX18_isWork_0 : decode cX18_isWork 0 = .ok (.iload_n 1, 1) := by decide +kernel
theorem dX18_isWork_1 : decode cX18_isWork 1 = .ok (.i2l, 1) := by decide +kernel
theorem dX18_isWork_2 : decode cX18_isWork 2 = .ok (.lconst 0, 1) := by decide +kernel
theorem dX18_isWork_3 : decode cX18_isWork 3 = .ok (.aload_n 0, 1) := by decide +kernel
theorem dX18_isWork_4 : decode cX18_isWork 4 = .ok (.getfield 19, 3) := by decide +kernel
theorem dX18_isWork_7 : decode cX18_isWork 7 = .ok (.invokeinterface 43 1, 5) := by decide +kernel
theorem dX18_isWork_12 : decode cX18_isWork 12 = .ok (.iconst 1, 1) := by decide +kernel
theorem dX18_isWork_13 : decode cX18_isWork 13 = .ok (.isub, 1) := by decide +kernel
theorem dX18_isWork_14 : decode cX18_isWork 14 = .ok (.i2l, 1) := by decide +kernel
theorem dX18_isWork_15 : decode cX18_isWork 15 = .ok (.invokestatic 49, 3) := by decide +kernel
theorem dX18_isWork_18 : decode cX18_isWork 18 = .ok (.ireturn, 1) := by decide +kernel
theorem dX18_levels_0 : decode cX18_levels 0 = .ok (.aload_n 0, 1) := by decide +kernel
theorem dX18_levels_1 : decode cX18_levels 1 = .ok (.aload_n 0, 1) := by decide +kernel
theorem dX18_levels_2 : decode cX18_levels 2 = .ok (.getfield 57, 3) := by decide +kernel
theorem dX18_levels_5 : decode cX18_levels 5 = .ok (.ifnonnull 7, 3) := by decide +kernel
theorem dX18_levels_8 : decode cX18_levels 8 = .ok (.iconst 1, 1) := by decide +kernel
theorem dX18_levels_9 : decode cX18_levels 9 = .ok (.goto 4, 3) := by decide +kernel
theorem dX18_levels_13 : decode cX18_levels 13 = .ok (.putfield 39, 3) := by decide +kernel
theorem dX18_levels_16 : decode cX18_levels 16 = .ok (.aload_n 0, 1) := by decide +kernel
theorem dX18_levels_17 : decode cX18_levels 17 = .ok (.getfield 39, 3) := by decide +kernel
theorem dX18_levels_20 : decode cX18_levels 20 = .ok (.ifCond .le 5, 3) := by decide +kernel
theorem dX18_levels_23 : decode cX18_levels 23 = .ok (.aconst_null, 1) := by decide +kernel
theorem dX18_levels_24 : decode cX18_levels 24 = .ok (.areturn, 1) := by decide +kernel
theorem dX18_meanMinutes_0 : decode cX18_meanMinutes 0 = .ok (.aload_n 0, 1) := by decide +kernel
theorem dX18_meanMinutes_1 : decode cX18_meanMinutes 1 = .ok (.aload_n 0, 1) := by decide +kernel
theorem dX18_meanMinutes_2 : decode cX18_meanMinutes 2 = .ok (.getfield 315, 3) := by decide +kernel
theorem dX18_meanMinutes_5 : decode cX18_meanMinutes 5 = .ok (.ifCond .ne 7, 3) := by decide +kernel
theorem dX18_meanMinutes_8 : decode cX18_meanMinutes 8 = .ok (.iconst 1, 1) := by decide +kernel
theorem dX18_meanMinutes_9 : decode cX18_meanMinutes 9 = .ok (.goto 4, 3) := by decide +kernel
theorem dX18_meanMinutes_13 : decode cX18_meanMinutes 13 = .ok (.putfield 39, 3) := by decide +kernel
theorem dX18_meanMinutes_16 : decode cX18_meanMinutes 16 = .ok (.aload_n 0, 1) := by decide +kernel
theorem dX18_meanMinutes_17 : decode cX18_meanMinutes 17 = .ok (.getfield 39, 3) := by decide +kernel
theorem dX18_meanMinutes_20 : decode cX18_meanMinutes 20 = .ok (.ifCond .ne 17, 3) := by decide +kernel
theorem dX18_meanMinutes_37 : decode cX18_meanMinutes 37 = .ok (.dconst 0, 1) := by decide +kernel
theorem dX18_meanMinutes_38 : decode cX18_meanMinutes 38 = .ok (.dreturn, 1) := by decide +kernel
theorem dX18_minutes_0 : decode cX18_minutes 0 = .ok (.aload_n 0, 1) := by decide +kernel
theorem dX18_minutes_1 : decode cX18_minutes 1 = .ok (.aload_n 0, 1) := by decide +kernel
theorem dX18_minutes_2 : decode cX18_minutes 2 = .ok (.getfield 57, 3) := by decide +kernel
theorem dX18_minutes_5 : decode cX18_minutes 5 = .ok (.ifnonnull 7, 3) := by decide +kernel
theorem dX18_minutes_8 : decode cX18_minutes 8 = .ok (.iconst 1, 1) := by decide +kernel
theorem dX18_minutes_9 : decode cX18_minutes 9 = .ok (.goto 4, 3) := by decide +kernel
theorem dX18_minutes_13 : decode cX18_minutes 13 = .ok (.putfield 39, 3) := by decide +kernel
theorem dX18_minutes_16 : decode cX18_minutes 16 = .ok (.aload_n 0, 1) := by decide +kernel
theorem dX18_minutes_17 : decode cX18_minutes 17 = .ok (.getfield 39, 3) := by decide +kernel
theorem dX18_minutes_20 : decode cX18_minutes 20 = .ok (.ifCond .ne 10, 3) := by decide +kernel
theorem dX18_minutes_30 : decode cX18_minutes 30 = .ok (.iconst (-1), 1) := by decide +kernel
theorem dX18_minutes_31 : decode cX18_minutes 31 = .ok (.ireturn, 1) := by decide +kernel
theorem dX18_obstacle__0 : decode cX18_obstacle_ 0 = .ok (.aload_n 0, 1) := by decide +kernel
theorem dX18_obstacle__1 : decode cX18_obstacle_ 1 = .ok (.iload_n 1, 1) := by decide +kernel
theorem dX18_obstacle__2 : decode cX18_obstacle_ 2 = .ok (.invokevirtual 284, 3) := by decide +kernel
theorem dX18_obstacle__5 : decode cX18_obstacle_ 5 = .ok (.ifCond .eq 15, 3) := by decide +kernel
theorem dX18_obstacle__20 : decode cX18_obstacle_ 20 = .ok (.bipush 32, 2) := by decide +kernel
theorem dX18_obstacle__22 : decode cX18_obstacle_ 22 = .ok (.ireturn, 1) := by decide +kernel
theorem dX18_orderAt_0 : decode cX18_orderAt 0 = .ok (.aload_n 0, 1) := by decide +kernel
theorem dX18_orderAt_1 : decode cX18_orderAt 1 = .ok (.invokevirtual 331, 3) := by decide +kernel
theorem dX18_orderAt_4 : decode cX18_orderAt 4 = .ok (.astore_n 2, 1) := by decide +kernel
theorem dX18_orderAt_5 : decode cX18_orderAt 5 = .ok (.aload_n 2, 1) := by decide +kernel
theorem dX18_orderAt_6 : decode cX18_orderAt 6 = .ok (.ifnonnull 5, 3) := by decide +kernel
theorem dX18_orderAt_9 : decode cX18_orderAt 9 = .ok (.iconst (-1), 1) := by decide +kernel
theorem dX18_orderAt_10 : decode cX18_orderAt 10 = .ok (.ireturn, 1) := by decide +kernel
theorem dX18_orders_0 : decode cX18_orders 0 = .ok (.aload_n 0, 1) := by decide +kernel
theorem dX18_orders_1 : decode cX18_orders 1 = .ok (.invokevirtual 331, 3) := by decide +kernel
theorem dX18_orders_4 : decode cX18_orders 4 = .ok (.astore_n 1, 1) := by decide +kernel
theorem dX18_orders_5 : decode cX18_orders 5 = .ok (.aload_n 1, 1) := by decide +kernel
theorem dX18_orders_6 : decode cX18_orders 6 = .ok (.ifnonnull 9, 3) := by decide +kernel
theorem dX18_orders_9 : decode cX18_orders 9 = .ok (.ldc2_w 355, 3) := by decide +kernel
theorem dX18_orders_12 : decode cX18_orders 12 = .ok (.goto 9, 3) := by decide +kernel
theorem dX18_orders_21 : decode cX18_orders 21 = .ok (.lreturn, 1) := by decide +kernel
theorem dX18_perform_0 : decode cX18_perform 0 = .ok (.aload_n 0, 1) := by decide +kernel
theorem dX18_perform_1 : decode cX18_perform 1 = .ok (.iload_n 1, 1) := by decide +kernel
theorem dX18_perform_2 : decode cX18_perform 2 = .ok (.invokevirtual 284, 3) := by decide +kernel
theorem dX18_perform_5 : decode cX18_perform 5 = .ok (.ifCond .ne 5, 3) := by decide +kernel
theorem dX18_perform_8 : decode cX18_perform 8 = .ok (.iconst (-1), 1) := by decide +kernel
theorem dX18_perform_9 : decode cX18_perform 9 = .ok (.ireturn, 1) := by decide +kernel
theorem dX18_place_0 : decode cX18_place 0 = .ok (.aload_n 0, 1) := by decide +kernel
theorem dX18_place_1 : decode cX18_place 1 = .ok (.aload_n 0, 1) := by decide +kernel
theorem dX18_place_2 : decode cX18_place 2 = .ok (.iload_n 1, 1) := by decide +kernel
theorem dX18_place_3 : decode cX18_place 3 = .ok (.invokevirtual 94, 3) := by decide +kernel
theorem dX18_place_6 : decode cX18_place 6 = .ok (.ifCond .eq 7, 3) := by decide +kernel
theorem dX18_place_13 : decode cX18_place 13 = .ok (.iconst 1, 1) := by decide +kernel
theorem dX18_place_14 : decode cX18_place 14 = .ok (.putfield 39, 3) := by decide +kernel
theorem dX18_place_17 : decode cX18_place 17 = .ok (.aload_n 0, 1) := by decide +kernel
theorem dX18_place_18 : decode cX18_place 18 = .ok (.getfield 39, 3) := by decide +kernel
theorem dX18_place_21 : decode cX18_place 21 = .ok (.ifCond .le 7, 3) := by decide +kernel
theorem dX18_place_24 : decode cX18_place 24 = .ok (.iconst (-1), 1) := by decide +kernel
theorem dX18_place_25 : decode cX18_place 25 = .ok (.goto 23, 3) := by decide +kernel
theorem dX18_place_48 : decode cX18_place 48 = .ok (.ireturn, 1) := by decide +kernel
theorem dX18_plan_0 : decode cX18_plan 0 = .ok (.aload_n 0, 1) := by decide +kernel
theorem dX18_plan_1 : decode cX18_plan 1 = .ok (.aload_n 0, 1) := by decide +kernel
theorem dX18_plan_2 : decode cX18_plan 2 = .ok (.iload_n 1, 1) := by decide +kernel
theorem dX18_plan_3 : decode cX18_plan 3 = .ok (.invokevirtual 113, 3) := by decide +kernel
theorem dX18_plan_6 : decode cX18_plan 6 = .ok (.ifCond .ne 7, 3) := by decide +kernel
theorem dX18_plan_9 : decode cX18_plan 9 = .ok (.iconst 1, 1) := by decide +kernel
theorem dX18_plan_10 : decode cX18_plan 10 = .ok (.goto 42, 3) := by decide +kernel
theorem dX18_plan_52 : decode cX18_plan 52 = .ok (.putfield 39, 3) := by decide +kernel
theorem dX18_plan_55 : decode cX18_plan 55 = .ok (.aload_n 0, 1) := by decide +kernel
theorem dX18_plan_56 : decode cX18_plan 56 = .ok (.getfield 39, 3) := by decide +kernel
theorem dX18_plan_59 : decode cX18_plan 59 = .ok (.ifCond .le 5, 3) := by decide +kernel
theorem dX18_plan_62 : decode cX18_plan 62 = .ok (.iconst (-1), 1) := by decide +kernel
theorem dX18_plan_63 : decode cX18_plan 63 = .ok (.ireturn, 1) := by decide +kernel
theorem dX18_setCover_0 : decode cX18_setCover 0 = .ok (.aload_n 0, 1) := by decide +kernel
theorem dX18_setCover_1 : decode cX18_setCover 1 = .ok (.iload_n 1, 1) := by decide +kernel
theorem dX18_setCover_2 : decode cX18_setCover 2 = .ok (.invokevirtual 70, 3) := by decide +kernel
theorem dX18_setCover_5 : decode cX18_setCover 5 = .ok (.ifCond .eq 25, 3) := by decide +kernel
theorem dX18_setCover_30 : decode cX18_setCover 30 = .ok (.iconst 0, 1) := by decide +kernel
theorem dX18_setCover_31 : decode cX18_setCover 31 = .ok (.istore_n 3, 1) := by decide +kernel
theorem dX18_setCover_32 : decode cX18_setCover 32 = .ok (.aload_n 0, 1) := by decide +kernel
theorem dX18_setCover_33 : decode cX18_setCover 33 = .ok (.iload_n 3, 1) := by decide +kernel
theorem dX18_setCover_34 : decode cX18_setCover 34 = .ok (.ifCond .ne 7, 3) := by decide +kernel
theorem dX18_setCover_37 : decode cX18_setCover 37 = .ok (.iconst 1, 1) := by decide +kernel
theorem dX18_setCover_38 : decode cX18_setCover 38 = .ok (.goto 15, 3) := by decide +kernel
theorem dX18_setCover_53 : decode cX18_setCover 53 = .ok (.putfield 39, 3) := by decide +kernel
theorem dX18_setCover_56 : decode cX18_setCover 56 = .ok (.aload_n 0, 1) := by decide +kernel
theorem dX18_setCover_57 : decode cX18_setCover 57 = .ok (.getfield 39, 3) := by decide +kernel
theorem dX18_setCover_60 : decode cX18_setCover 60 = .ok (.ifCond .le 5, 3) := by decide +kernel
theorem dX18_setCover_63 : decode cX18_setCover 63 = .ok (.iconst (-1), 1) := by decide +kernel
theorem dX18_setCover_64 : decode cX18_setCover 64 = .ok (.ireturn, 1) := by decide +kernel
theorem dX18_setInterlock_0 : decode cX18_setInterlock 0 = .ok (.aload_n 0, 1) := by decide +kernel
theorem dX18_setInterlock_1 : decode cX18_setInterlock 1 = .ok (.iload_n 1, 1) := by decide +kernel
theorem dX18_setInterlock_2 : decode cX18_setInterlock 2 = .ok (.invokevirtual 94, 3) := by decide +kernel
theorem dX18_setInterlock_5 : decode cX18_setInterlock 5 = .ok (.ifCond .eq 25, 3) := by decide +kernel
theorem dX18_setInterlock_30 : decode cX18_setInterlock 30 = .ok (.iconst 0, 1) := by decide +kernel
theorem dX18_setInterlock_31 : decode cX18_setInterlock 31 = .ok (.istore 5, 2) := by decide +kernel
theorem dX18_setInterlock_33 : decode cX18_setInterlock 33 = .ok (.iload_n 3, 1) := by decide +kernel
theorem dX18_setInterlock_34 : decode cX18_setInterlock 34 = .ok (.i2l, 1) := by decide +kernel
theorem dX18_setInterlock_35 : decode cX18_setInterlock 35 = .ok (.lconst 0, 1) := by decide +kernel
theorem dX18_setInterlock_36 : decode cX18_setInterlock 36 = .ok (.ldc2_w 97, 3) := by decide +kernel
theorem dX18_setInterlock_39 : decode cX18_setInterlock 39 = .ok (.invokestatic 49, 3) := by decide +kernel
theorem dX18_setInterlock_42 : decode cX18_setInterlock 42 = .ok (.ifCond .eq 21, 3) := by decide +kernel
theorem dX18_setInterlock_45 : decode cX18_setInterlock 45 = .ok (.iload 4, 2) := by decide +kernel
theorem dX18_setInterlock_47 : decode cX18_setInterlock 47 = .ok (.i2l, 1) := by decide +kernel
theorem dX18_setInterlock_48 : decode cX18_setInterlock 48 = .ok (.iload_n 3, 1) := by decide +kernel
theorem dX18_setInterlock_49 : decode cX18_setInterlock 49 = .ok (.i2l, 1) := by decide +kernel
theorem dX18_setInterlock_50 : decode cX18_setInterlock 50 = .ok (.ldc2_w 97, 3) := by decide +kernel
theorem dX18_setInterlock_53 : decode cX18_setInterlock 53 = .ok (.invokestatic 49, 3) := by decide +kernel
theorem dX18_setInterlock_56 : decode cX18_setInterlock 56 = .ok (.ifCond .eq 7, 3) := by decide +kernel
theorem dX18_setInterlock_59 : decode cX18_setInterlock 59 = .ok (.iconst 1, 1) := by decide +kernel
theorem dX18_setInterlock_60 : decode cX18_setInterlock 60 = .ok (.goto 4, 3) := by decide +kernel
theorem dX18_setInterlock_63 : decode cX18_setInterlock 63 = .ok (.iconst 0, 1) := by decide +kernel
theorem dX18_setInterlock_64 : decode cX18_setInterlock 64 = .ok (.istore 6, 2) := by decide +kernel
theorem dX18_setInterlock_66 : decode cX18_setInterlock 66 = .ok (.aload_n 0, 1) := by decide +kernel
theorem dX18_setInterlock_67 : decode cX18_setInterlock 67 = .ok (.iload 5, 2) := by decide +kernel
theorem dX18_setInterlock_69 : decode cX18_setInterlock 69 = .ok (.ifCond .ne 7, 3) := by decide +kernel
theorem dX18_setInterlock_72 : decode cX18_setInterlock 72 = .ok (.iconst 1, 1) := by decide +kernel
theorem dX18_setInterlock_73 : decode cX18_setInterlock 73 = .ok (.goto 24, 3) := by decide +kernel
theorem dX18_setInterlock_97 : decode cX18_setInterlock 97 = .ok (.putfield 39, 3) := by decide +kernel
theorem dX18_setInterlock_100 : decode cX18_setInterlock 100 = .ok (.aload_n 0, 1) := by decide +kernel
theorem dX18_setInterlock_101 : decode cX18_setInterlock 101 = .ok (.getfield 39, 3) := by decide +kernel
theorem dX18_setInterlock_104 : decode cX18_setInterlock 104 = .ok (.ifCond .le 5, 3) := by decide +kernel
theorem dX18_setInterlock_107 : decode cX18_setInterlock 107 = .ok (.iconst (-1), 1) := by decide +kernel
theorem dX18_setInterlock_108 : decode cX18_setInterlock 108 = .ok (.ireturn, 1) := by decide +kernel
theorem dX18_setRole_0 : decode cX18_setRole 0 = .ok (.aload_n 0, 1) := by decide +kernel
theorem dX18_setRole_1 : decode cX18_setRole 1 = .ok (.iload_n 1, 1) := by decide +kernel
theorem dX18_setRole_2 : decode cX18_setRole 2 = .ok (.invokevirtual 113, 3) := by decide +kernel
theorem dX18_setRole_5 : decode cX18_setRole 5 = .ok (.ifCond .eq 44, 3) := by decide +kernel
theorem dX18_setRole_49 : decode cX18_setRole 49 = .ok (.iconst 0, 1) := by decide +kernel
theorem dX18_setRole_50 : decode cX18_setRole 50 = .ok (.istore 4, 2) := by decide +kernel
theorem dX18_setRole_52 : decode cX18_setRole 52 = .ok (.aload_n 0, 1) := by decide +kernel
theorem dX18_setRole_53 : decode cX18_setRole 53 = .ok (.iload 4, 2) := by decide +kernel
theorem dX18_setRole_55 : decode cX18_setRole 55 = .ok (.ifCond .eq 7, 3) := by decide +kernel
theorem dX18_setRole_62 : decode cX18_setRole 62 = .ok (.iconst 1, 1) := by decide +kernel
theorem dX18_setRole_63 : decode cX18_setRole 63 = .ok (.putfield 39, 3) := by decide +kernel
theorem dX18_setRole_66 : decode cX18_setRole 66 = .ok (.aload_n 0, 1) := by decide +kernel
theorem dX18_setRole_67 : decode cX18_setRole 67 = .ok (.getfield 39, 3) := by decide +kernel
theorem dX18_setRole_70 : decode cX18_setRole 70 = .ok (.ifCond .le 5, 3) := by decide +kernel
theorem dX18_setRole_73 : decode cX18_setRole 73 = .ok (.iconst (-1), 1) := by decide +kernel
theorem dX18_setRole_74 : decode cX18_setRole 74 = .ok (.ireturn, 1) := by decide +kernel
theorem dX18_singer_0 : decode cX18_singer 0 = .ok (.aload_n 0, 1) := by decide +kernel
theorem dX18_singer_1 : decode cX18_singer 1 = .ok (.aload_n 0, 1) := by decide +kernel
theorem dX18_singer_2 : decode cX18_singer 2 = .ok (.getfield 57, 3) := by decide +kernel
theorem dX18_singer_5 : decode cX18_singer 5 = .ok (.ifnonnull 7, 3) := by decide +kernel
theorem dX18_singer_8 : decode cX18_singer 8 = .ok (.iconst 1, 1) := by decide +kernel
theorem dX18_singer_9 : decode cX18_singer 9 = .ok (.goto 39, 3) := by decide +kernel
theorem dX18_singer_48 : decode cX18_singer 48 = .ok (.putfield 39, 3) := by decide +kernel
theorem dX18_singer_51 : decode cX18_singer 51 = .ok (.aload_n 0, 1) := by decide +kernel
theorem dX18_singer_52 : decode cX18_singer 52 = .ok (.getfield 39, 3) := by decide +kernel
theorem dX18_singer_55 : decode cX18_singer 55 = .ok (.ifCond .ne 12, 3) := by decide +kernel
theorem dX18_singer_67 : decode cX18_singer 67 = .ok (.iconst (-1), 1) := by decide +kernel
theorem dX18_singer_68 : decode cX18_singer 68 = .ok (.ireturn, 1) := by decide +kernel
theorem dX18_states_0 : decode cX18_states 0 = .ok (.aload_n 0, 1) := by decide +kernel
theorem dX18_states_1 : decode cX18_states 1 = .ok (.invokevirtual 331, 3) := by decide +kernel
theorem dX18_states_4 : decode cX18_states 4 = .ok (.astore_n 1, 1) := by decide +kernel
theorem dX18_states_5 : decode cX18_states 5 = .ok (.aload_n 1, 1) := by decide +kernel
theorem dX18_states_6 : decode cX18_states 6 = .ok (.ifnonnull 7, 3) := by decide +kernel
theorem dX18_states_9 : decode cX18_states 9 = .ok (.iconst (-1), 1) := by decide +kernel
theorem dX18_states_10 : decode cX18_states 10 = .ok (.goto 12, 3) := by decide +kernel
theorem dX18_states_22 : decode cX18_states 22 = .ok (.ireturn, 1) := by decide +kernel
theorem dX18_stuck_0 : decode cX18_stuck 0 = .ok (.aload_n 0, 1) := by decide +kernel
theorem dX18_stuck_1 : decode cX18_stuck 1 = .ok (.invokevirtual 331, 3) := by decide +kernel
theorem dX18_stuck_4 : decode cX18_stuck 4 = .ok (.astore_n 1, 1) := by decide +kernel
theorem dX18_stuck_5 : decode cX18_stuck 5 = .ok (.aload_n 1, 1) := by decide +kernel
theorem dX18_stuck_6 : decode cX18_stuck 6 = .ok (.ifnonnull 5, 3) := by decide +kernel
theorem dX18_stuck_9 : decode cX18_stuck 9 = .ok (.iconst (-1), 1) := by decide +kernel
theorem dX18_stuck_10 : decode cX18_stuck 10 = .ok (.ireturn, 1) := by decide +kernel
theorem dX18_sung_0 : decode cX18_sung 0 = .ok (.aload_n 0, 1) := by decide +kernel
theorem dX18_sung_1 : decode cX18_sung 1 = .ok (.aload_n 0, 1) := by decide +kernel
theorem dX18_sung_2 : decode cX18_sung 2 = .ok (.iload_n 1, 1) := by decide +kernel
theorem dX18_sung_3 : decode cX18_sung 3 = .ok (.invokevirtual 70, 3) := by decide +kernel
theorem dX18_sung_6 : decode cX18_sung 6 = .ok (.ifCond .eq 7, 3) := by decide +kernel
theorem dX18_sung_13 : decode cX18_sung 13 = .ok (.iconst 1, 1) := by decide +kernel
theorem dX18_sung_14 : decode cX18_sung 14 = .ok (.putfield 39, 3) := by decide +kernel
theorem dX18_sung_17 : decode cX18_sung 17 = .ok (.aload_n 0, 1) := by decide +kernel
theorem dX18_sung_18 : decode cX18_sung 18 = .ok (.getfield 39, 3) := by decide +kernel
theorem dX18_sung_21 : decode cX18_sung 21 = .ok (.ifCond .ne 22, 3) := by decide +kernel
theorem dX18_sung_43 : decode cX18_sung 43 = .ok (.iconst (-1), 1) := by decide +kernel
theorem dX18_sung_44 : decode cX18_sung 44 = .ok (.ireturn, 1) := by decide +kernel
theorem dX18_takeBack_0 : decode cX18_takeBack 0 = .ok (.aload_n 0, 1) := by decide +kernel
theorem dX18_takeBack_1 : decode cX18_takeBack 1 = .ok (.aload_n 0, 1) := by decide +kernel
theorem dX18_takeBack_2 : decode cX18_takeBack 2 = .ok (.getfield 57, 3) := by decide +kernel
theorem dX18_takeBack_5 : decode cX18_takeBack 5 = .ok (.ifnonnull 7, 3) := by decide +kernel
theorem dX18_takeBack_8 : decode cX18_takeBack 8 = .ok (.iconst 1, 1) := by decide +kernel
theorem dX18_takeBack_9 : decode cX18_takeBack 9 = .ok (.goto 20, 3) := by decide +kernel
theorem dX18_takeBack_29 : decode cX18_takeBack 29 = .ok (.putfield 39, 3) := by decide +kernel
theorem dX18_takeBack_32 : decode cX18_takeBack 32 = .ok (.aload_n 0, 1) := by decide +kernel
theorem dX18_takeBack_33 : decode cX18_takeBack 33 = .ok (.getfield 39, 3) := by decide +kernel
theorem dX18_takeBack_36 : decode cX18_takeBack 36 = .ok (.ifCond .le 5, 3) := by decide +kernel
theorem dX18_takeBack_39 : decode cX18_takeBack 39 = .ok (.iconst (-1), 1) := by decide +kernel
theorem dX18_takeBack_40 : decode cX18_takeBack 40 = .ok (.ireturn, 1) := by decide +kernel
theorem dX18_voice_0 : decode cX18_voice 0 = .ok (.aload_n 0, 1) := by decide +kernel
theorem dX18_voice_1 : decode cX18_voice 1 = .ok (.aload_n 0, 1) := by decide +kernel
theorem dX18_voice_2 : decode cX18_voice 2 = .ok (.iload_n 1, 1) := by decide +kernel
theorem dX18_voice_3 : decode cX18_voice 3 = .ok (.invokevirtual 70, 3) := by decide +kernel
theorem dX18_voice_6 : decode cX18_voice 6 = .ok (.ifCond .eq 7, 3) := by decide +kernel
theorem dX18_voice_13 : decode cX18_voice 13 = .ok (.iconst 1, 1) := by decide +kernel
theorem dX18_voice_14 : decode cX18_voice 14 = .ok (.putfield 39, 3) := by decide +kernel
theorem dX18_voice_17 : decode cX18_voice 17 = .ok (.aload_n 0, 1) := by decide +kernel
theorem dX18_voice_18 : decode cX18_voice 18 = .ok (.getfield 39, 3) := by decide +kernel
theorem dX18_voice_21 : decode cX18_voice 21 = .ok (.ifCond .ne 22, 3) := by decide +kernel
theorem dX18_voice_43 : decode cX18_voice 43 = .ok (.iconst (-1), 1) := by decide +kernel
theorem dX18_voice_44 : decode cX18_voice 44 = .ok (.ireturn, 1) := by decide +kernel
theorem dX18_zone_0 : decode cX18_zone 0 = .ok (.aload_n 0, 1) := by decide +kernel
theorem dX18_zone_1 : decode cX18_zone 1 = .ok (.aload_n 0, 1) := by decide +kernel
theorem dX18_zone_2 : decode cX18_zone 2 = .ok (.getfield 57, 3) := by decide +kernel
theorem dX18_zone_5 : decode cX18_zone 5 = .ok (.ifnonnull 7, 3) := by decide +kernel
theorem dX18_zone_8 : decode cX18_zone 8 = .ok (.iconst 1, 1) := by decide +kernel
theorem dX18_zone_9 : decode cX18_zone 9 = .ok (.goto 16, 3) := by decide +kernel
theorem dX18_zone_25 : decode cX18_zone 25 = .ok (.putfield 39, 3) := by decide +kernel
theorem dX18_zone_28 : decode cX18_zone 28 = .ok (.aload_n 0, 1) := by decide +kernel
theorem dX18_zone_29 : decode cX18_zone 29 = .ok (.getfield 39, 3) := by decide +kernel
theorem dX18_zone_32 : decode cX18_zone 32 = .ok (.ifCond .ne 15, 3) := by decide +kernel
theorem dX18_zone_47 : decode cX18_zone 47 = .ok (.iconst (-1), 1) := by decide +kernel
theorem dX18_zone_48 : decode cX18_zone 48 = .ok (.ireturn, 1) := by decide +kernel
