theorem dX10_addCue_0 : decode cX10_addCue 0 = .ok (.aload_n 0, 1) := by decide +kernel
theorem dX10_addCue_1 : decode cX10_addCue 1 = .ok (.iload_n 1, 1) := by decide +kernel
theorem dX10_addCue_2 : decode cX10_addCue 2 = .ok (.invokevirtual 138, 3) := by decide +kernel
theorem dX10_balance_0 : decode cX10_balance 0 = .ok (.aload_n 0, 1) := by decide +kernel
theorem dX10_balance_1 : decode cX10_balance 1 = .ok (.iload_n 1, 1) := by decide +kernel
theorem dX10_balance_2 : decode cX10_balance 2 = .ok (.invokevirtual 138, 3) := by decide +kernel
theorem dX10_cues_0 : decode cX10_cues 0 = .ok (.aload_n 0, 1) := by decide +kernel
theorem dX10_cues_1 : decode cX10_cues 1 = .ok (.iload_n 1, 1) := by decide +kernel
theorem dX10_cues_2 : decode cX10_cues 2 = .ok (.invokevirtual 138, 3) := by decide +kernel
theorem dX10_day_0 : decode cX10_day 0 = .ok (.aload_n 0, 1) := by decide +kernel
theorem dX10_day_1 : decode cX10_day 1 = .ok (.getfield 64, 3) := by decide +kernel
theorem dX10_day_4 : decode cX10_day 4 = .ok (.ireturn, 1) := by decide +kernel
theorem dX10_end_0 : decode cX10_end 0 = .ok (.aload_n 0, 1) := by decide +kernel
theorem dX10_end_1 : decode cX10_end 1 = .ok (.invokevirtual 273, 3) := by decide +kernel
theorem dX10_evenings_0 : decode cX10_evenings 0 = .ok (.aload_n 0, 1) := by decide +kernel
theorem dX10_evenings_1 : decode cX10_evenings 1 = .ok (.getfield 71, 3) := by decide +kernel
theorem dX10_evenings_4 : decode cX10_evenings 4 = .ok (.ireturn, 1) := by decide +kernel
theorem dX10_fallIll_0 : decode cX10_fallIll 0 = .ok (.aload_n 0, 1) := by decide +kernel
theorem dX10_fallIll_1 : decode cX10_fallIll 1 = .ok (.iload_n 1, 1) := by decide +kernel
theorem dX10_fallIll_2 : decode cX10_fallIll 2 = .ok (.invokevirtual 101, 3) := by decide +kernel
theorem dX10_farthest_0 : decode cX10_farthest 0 = .ok (.aload_n 0, 1) := by decide +kernel
theorem dX10_farthest_1 : decode cX10_farthest 1 = .ok (.invokevirtual 337, 3) := by decide +kernel
theorem dX10_hasOrder_0 : decode cX10_hasOrder 0 = .ok (.aload_n 0, 1) := by decide +kernel
theorem dX10_hasOrder_1 : decode cX10_hasOrder 1 = .ok (.invokevirtual 337, 3) := by decide +kernel
theorem dX10_isConsistent_0 : decode cX10_isConsistent 0 = .ok (.iconst 0, 1) := by decide +kernel
theorem dX10_isConsistent_1 : decode cX10_isConsistent 1 = .ok (.istore_n 1, 1) := by decide +kernel
theorem dX10_isConsistent_2 : decode cX10_isConsistent 2 = .ok (.iload_n 1, 1) := by decide +kernel
theorem dX10_isConsistent_3 : decode cX10_isConsistent 3 = .ok (.aload_n 0, 1) := by decide +kernel
theorem dX10_isConsistent_4 : decode cX10_isConsistent 4 = .ok (.getfield 54, 3) := by decide +kernel
theorem dX10_isConsistent_7 : decode cX10_isConsistent 7 = .ok (.if_icmp .ge 44, 3) := by decide +kernel
theorem dX10_isConsistent_51 : decode cX10_isConsistent 51 = .ok (.aload_n 0, 1) := by decide +kernel
theorem dX10_isConsistent_52 : decode cX10_isConsistent 52 = .ok (.getfield 67, 3) := by decide +kernel
theorem dX10_isConsistent_55 : decode cX10_isConsistent 55 = .ok (.ifCond .eq 14, 3) := by decide +kernel
theorem dX10_isConsistent_69 : decode cX10_isConsistent 69 = .ok (.iconst 1, 1) := by decide +kernel
theorem dX10_isConsistent_70 : decode cX10_isConsistent 70 = .ok (.ireturn, 1) := by decide +kernel
theorem dX10_isPerson_0 : decode cX10_isPerson 0 = .ok (.iload_n 1, 1) := by decide +kernel
theorem dX10_isPerson_1 : decode cX10_isPerson 1 = .ok (.ifCond .lt 15, 3) := by decide +kernel
theorem dX10_isPerson_4 : decode cX10_isPerson 4 = .ok (.iload_n 1, 1) := by decide +kernel
theorem dX10_isPerson_5 : decode cX10_isPerson 5 = .ok (.aload_n 0, 1) := by decide +kernel
theorem dX10_isPerson_6 : decode cX10_isPerson 6 = .ok (.getfield 54, 3) := by decide +kernel
theorem dX10_isPerson_9 : decode cX10_isPerson 9 = .ok (.if_icmp .ge 7, 3) := by decide +kernel
theorem dX10_isPerson_16 : decode cX10_isPerson 16 = .ok (.iconst 0, 1) := by decide +kernel
theorem dX10_isPerson_17 : decode cX10_isPerson 17 = .ok (.ireturn, 1) := by decide +kernel
theorem dX10_meanMinutes_0 : decode cX10_meanMinutes 0 = .ok (.aload_n 0, 1) := by decide +kernel
theorem dX10_meanMinutes_1 : decode cX10_meanMinutes 1 = .ok (.getfield 71, 3) := by decide +kernel
theorem dX10_meanMinutes_4 : decode cX10_meanMinutes 4 = .ok (.ifCond .ne 14, 3) := by decide +kernel
theorem dX10_meanMinutes_7 : decode cX10_meanMinutes 7 = .ok (.new 369, 3) := by decide +kernel
theorem dX10_meanMinutes_10 : decode cX10_meanMinutes 10 = .ok (.dup, 1) := by decide +kernel
theorem dX10_meanMinutes_11 : decode cX10_meanMinutes 11 = .ok (.ldc_w 374, 3) := by decide +kernel
theorem dX10_meanMinutes_14 : decode cX10_meanMinutes 14 = .ok (.invokespecial 373, 3) := by decide +kernel
theorem dX10_meanMinutes_17 : decode cX10_meanMinutes 17 = .ok (.athrow, 1) := by decide +kernel
theorem dX10_minutes_0 : decode cX10_minutes 0 = .ok (.aload_n 0, 1) := by decide +kernel
theorem dX10_minutes_1 : decode cX10_minutes 1 = .ok (.invokevirtual 273, 3) := by decide +kernel
theorem dX10_obstacle_0 : decode cX10_obstacle 0 = .ok (.aload_n 0, 1) := by decide +kernel
theorem dX10_obstacle_1 : decode cX10_obstacle 1 = .ok (.invokevirtual 273, 3) := by decide +kernel
theorem dX10_orderAt_0 : decode cX10_orderAt 0 = .ok (.aload_n 0, 1) := by decide +kernel
theorem dX10_orderAt_1 : decode cX10_orderAt 1 = .ok (.invokevirtual 337, 3) := by decide +kernel
theorem dX10_orders_0 : decode cX10_orders 0 = .ok (.aload_n 0, 1) := by decide +kernel
theorem dX10_orders_1 : decode cX10_orders 1 = .ok (.invokevirtual 337, 3) := by decide +kernel
theorem dX10_perform_0 : decode cX10_perform 0 = .ok (.aload_n 0, 1) := by decide +kernel
theorem dX10_perform_1 : decode cX10_perform 1 = .ok (.invokevirtual 273, 3) := by decide +kernel
theorem dX10_place_0 : decode cX10_place 0 = .ok (.aload_n 0, 1) := by decide +kernel
theorem dX10_place_1 : decode cX10_place 1 = .ok (.iload_n 1, 1) := by decide +kernel
theorem dX10_place_2 : decode cX10_place 2 = .ok (.invokevirtual 120, 3) := by decide +kernel
theorem dX10_plan_0 : decode cX10_plan 0 = .ok (.aload_n 0, 1) := by decide +kernel
theorem dX10_plan_1 : decode cX10_plan 1 = .ok (.iload_n 1, 1) := by decide +kernel
theorem dX10_plan_2 : decode cX10_plan 2 = .ok (.invokevirtual 138, 3) := by decide +kernel
theorem dX10_requireMachine_0 : decode cX10_requireMachine 0 = .ok (.iload_n 1, 1) := by decide +kernel
theorem dX10_requireMachine_1 : decode cX10_requireMachine 1 = .ok (.ifCond .lt 11, 3) := by decide +kernel
theorem dX10_requireMachine_4 : decode cX10_requireMachine 4 = .ok (.iload_n 1, 1) := by decide +kernel
theorem dX10_requireMachine_5 : decode cX10_requireMachine 5 = .ok (.aload_n 0, 1) := by decide +kernel
theorem dX10_requireMachine_6 : decode cX10_requireMachine 6 = .ok (.getfield 58, 3) := by decide +kernel
theorem dX10_requireMachine_9 : decode cX10_requireMachine 9 = .ok (.if_icmp .lt 14, 3) := by decide +kernel
theorem dX10_requireMachine_12 : decode cX10_requireMachine 12 = .ok (.new 141, 3) := by decide +kernel
theorem dX10_requireMachine_15 : decode cX10_requireMachine 15 = .ok (.dup, 1) := by decide +kernel
theorem dX10_requireMachine_16 : decode cX10_requireMachine 16 = .ok (.ldc_w 405, 3) := by decide +kernel
theorem dX10_requireMachine_19 : decode cX10_requireMachine 19 = .ok (.invokespecial 145, 3) := by decide +kernel
theorem dX10_requireMachine_22 : decode cX10_requireMachine 22 = .ok (.athrow, 1) := by decide +kernel
theorem dX10_requireNoShow_0 : decode cX10_requireNoShow 0 = .ok (.aload_n 0, 1) := by decide +kernel
theorem dX10_requireNoShow_1 : decode cX10_requireNoShow 1 = .ok (.getfield 67, 3) := by decide +kernel
theorem dX10_requireNoShow_4 : decode cX10_requireNoShow 4 = .ok (.ifCond .eq 14, 3) := by decide +kernel
theorem dX10_requireNoShow_18 : decode cX10_requireNoShow 18 = .ok (.return_, 1) := by decide +kernel
theorem dX10_requirePerson_0 : decode cX10_requirePerson 0 = .ok (.aload_n 0, 1) := by decide +kernel
theorem dX10_requirePerson_1 : decode cX10_requirePerson 1 = .ok (.iload_n 1, 1) := by decide +kernel
theorem dX10_requirePerson_2 : decode cX10_requirePerson 2 = .ok (.invokevirtual 399, 3) := by decide +kernel
theorem dX10_requirePerson_5 : decode cX10_requirePerson 5 = .ok (.ifCond .ne 14, 3) := by decide +kernel
theorem dX10_requirePerson_8 : decode cX10_requirePerson 8 = .ok (.new 141, 3) := by decide +kernel
theorem dX10_requirePerson_11 : decode cX10_requirePerson 11 = .ok (.dup, 1) := by decide +kernel
theorem dX10_requirePerson_12 : decode cX10_requirePerson 12 = .ok (.ldc_w 403, 3) := by decide +kernel
theorem dX10_requirePerson_15 : decode cX10_requirePerson 15 = .ok (.invokespecial 145, 3) := by decide +kernel
theorem dX10_requirePerson_18 : decode cX10_requirePerson 18 = .ok (.athrow, 1) := by decide +kernel
theorem dX10_requireRange_0 : decode cX10_requireRange 0 = .ok (.iload_n 0, 1) := by decide +kernel
theorem dX10_requireRange_1 : decode cX10_requireRange 1 = .ok (.iload_n 1, 1) := by decide +kernel
theorem dX10_requireRange_2 : decode cX10_requireRange 2 = .ok (.if_icmp .lt 8, 3) := by decide +kernel
theorem dX10_requireRange_5 : decode cX10_requireRange 5 = .ok (.iload_n 0, 1) := by decide +kernel
theorem dX10_requireRange_6 : decode cX10_requireRange 6 = .ok (.iload_n 2, 1) := by decide +kernel
theorem dX10_requireRange_7 : decode cX10_requireRange 7 = .ok (.if_icmp .le 14, 3) := by decide +kernel
theorem dX10_requireRange_10 : decode cX10_requireRange 10 = .ok (.new 179, 3) := by decide +kernel
theorem dX10_requireRange_13 : decode cX10_requireRange 13 = .ok (.dup, 1) := by decide +kernel
theorem dX10_requireRange_14 : decode cX10_requireRange 14 = .ok (.ldc_w 390, 3) := by decide +kernel
theorem dX10_requireRange_17 : decode cX10_requireRange 17 = .ok (.invokespecial 183, 3) := by decide +kernel
theorem dX10_requireRange_20 : decode cX10_requireRange 20 = .ok (.athrow, 1) := by decide +kernel
theorem dX10_requireRange_21 : decode cX10_requireRange 21 = .ok (.return_, 1) := by decide +kernel
theorem dX10_requireRoom_0 : decode cX10_requireRoom 0 = .ok (.iload_n 0, 1) := by decide +kernel
theorem dX10_requireRoom_1 : decode cX10_requireRoom 1 = .ok (.iload_n 1, 1) := by decide +kernel
theorem dX10_requireRoom_2 : decode cX10_requireRoom 2 = .ok (.if_icmp .lt 14, 3) := by decide +kernel
theorem dX10_requireRoom_16 : decode cX10_requireRoom 16 = .ok (.return_, 1) := by decide +kernel
theorem dX10_requireShow_0 : decode cX10_requireShow 0 = .ok (.aload_n 0, 1) := by decide +kernel
theorem dX10_requireShow_1 : decode cX10_requireShow 1 = .ok (.getfield 67, 3) := by decide +kernel
theorem dX10_requireShow_4 : decode cX10_requireShow 4 = .ok (.ifCond .ne 14, 3) := by decide +kernel
theorem dX10_requireShow_7 : decode cX10_requireShow 7 = .ok (.new 392, 3) := by decide +kernel
theorem dX10_requireShow_10 : decode cX10_requireShow 10 = .ok (.dup, 1) := by decide +kernel
theorem dX10_requireShow_11 : decode cX10_requireShow 11 = .ok (.ldc_w 411, 3) := by decide +kernel
theorem dX10_requireShow_14 : decode cX10_requireShow 14 = .ok (.invokespecial 396, 3) := by decide +kernel
theorem dX10_requireShow_17 : decode cX10_requireShow 17 = .ok (.athrow, 1) := by decide +kernel
theorem dX10_requireToldOrders_0 : decode cX10_requireToldOrders 0 = .ok (.aload_n 0, 1) := by decide +kernel
theorem dX10_requireToldOrders_1 : decode cX10_requireToldOrders 1 = .ok (.invokevirtual 273, 3) := by decide +kernel
theorem dX10_requireWork_0 : decode cX10_requireWork 0 = .ok (.iload_n 1, 1) := by decide +kernel
theorem dX10_requireWork_1 : decode cX10_requireWork 1 = .ok (.ifCond .lt 11, 3) := by decide +kernel
theorem dX10_requireWork_4 : decode cX10_requireWork 4 = .ok (.iload_n 1, 1) := by decide +kernel
theorem dX10_requireWork_5 : decode cX10_requireWork 5 = .ok (.aload_n 0, 1) := by decide +kernel
theorem dX10_requireWork_6 : decode cX10_requireWork 6 = .ok (.getfield 61, 3) := by decide +kernel
theorem dX10_requireWork_9 : decode cX10_requireWork 9 = .ok (.if_icmp .lt 14, 3) := by decide +kernel
theorem dX10_requireWork_12 : decode cX10_requireWork 12 = .ok (.new 141, 3) := by decide +kernel
theorem dX10_requireWork_15 : decode cX10_requireWork 15 = .ok (.dup, 1) := by decide +kernel
theorem dX10_requireWork_16 : decode cX10_requireWork 16 = .ok (.ldc_w 407, 3) := by decide +kernel
theorem dX10_requireWork_19 : decode cX10_requireWork 19 = .ok (.invokespecial 145, 3) := by decide +kernel
theorem dX10_requireWork_22 : decode cX10_requireWork 22 = .ok (.athrow, 1) := by decide +kernel
theorem dX10_setCover_0 : decode cX10_setCover 0 = .ok (.aload_n 0, 1) := by decide +kernel
theorem dX10_setCover_1 : decode cX10_setCover 1 = .ok (.iload_n 1, 1) := by decide +kernel
theorem dX10_setCover_2 : decode cX10_setCover 2 = .ok (.invokevirtual 101, 3) := by decide +kernel
theorem dX10_setInterlock_0 : decode cX10_setInterlock 0 = .ok (.aload_n 0, 1) := by decide +kernel
theorem dX10_setInterlock_1 : decode cX10_setInterlock 1 = .ok (.iload_n 1, 1) := by decide +kernel
theorem dX10_setInterlock_2 : decode cX10_setInterlock 2 = .ok (.invokevirtual 120, 3) := by decide +kernel
theorem dX10_setRole_0 : decode cX10_setRole 0 = .ok (.aload_n 0, 1) := by decide +kernel
theorem dX10_setRole_1 : decode cX10_setRole 1 = .ok (.iload_n 1, 1) := by decide +kernel
theorem dX10_setRole_2 : decode cX10_setRole 2 = .ok (.invokevirtual 138, 3) := by decide +kernel
theorem dX10_singer_0 : decode cX10_singer 0 = .ok (.aload_n 0, 1) := by decide +kernel
theorem dX10_singer_1 : decode cX10_singer 1 = .ok (.invokevirtual 273, 3) := by decide +kernel
theorem dX10_states_0 : decode cX10_states 0 = .ok (.aload_n 0, 1) := by decide +kernel
theorem dX10_states_1 : decode cX10_states 1 = .ok (.invokevirtual 337, 3) := by decide +kernel
theorem dX10_stuck_0 : decode cX10_stuck 0 = .ok (.aload_n 0, 1) := by decide +kernel
theorem dX10_stuck_1 : decode cX10_stuck 1 = .ok (.invokevirtual 337, 3) := by decide +kernel
theorem dX10_sung_0 : decode cX10_sung 0 = .ok (.aload_n 0, 1) := by decide +kernel
theorem dX10_sung_1 : decode cX10_sung 1 = .ok (.iload_n 1, 1) := by decide +kernel
theorem dX10_sung_2 : decode cX10_sung 2 = .ok (.invokevirtual 101, 3) := by decide +kernel
theorem dX10_takeBack_0 : decode cX10_takeBack 0 = .ok (.aload_n 0, 1) := by decide +kernel
theorem dX10_takeBack_1 : decode cX10_takeBack 1 = .ok (.invokevirtual 273, 3) := by decide +kernel
theorem dX10_voice_0 : decode cX10_voice 0 = .ok (.aload_n 0, 1) := by decide +kernel
theorem dX10_voice_1 : decode cX10_voice 1 = .ok (.iload_n 1, 1) := by decide +kernel
theorem dX10_voice_2 : decode cX10_voice 2 = .ok (.invokevirtual 101, 3) := by decide +kernel
theorem dX10_zone_0 : decode cX10_zone 0 = .ok (.aload_n 0, 1) := by decide +kernel
theorem dX10_zone_1 : decode cX10_zone 1 = .ok (.invokevirtual 273, 3) := by decide +kernel
