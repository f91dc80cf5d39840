theorem dX10_addCue_0 : decode cX10_addCue 0 = .ok (.aload_n 0, 1) := by decide +kernel
theorem dX10_addCue_1 : decode cX10_addCue 1 = .ok (.iload_n 1, 1) := by decide +kernel
theorem dX10_addCue_2 : decode cX10_addCue 2 = .ok (.invokevirtual 138, 3) := by decide +kernel
theorem dX10_balance_0 : decode cX10_balance 0 = .ok (.aload_n 0, 1) := by decide +kernel
theorem dX10_balance_1 : decode cX10_balance 1 = .ok (.iload_n 1, 1) := by decide +kernel
theorem dX10_balance_2 : decode cX10_balance 2 = .ok (.invokevirtual 138, 3) := by decide +kernel
theorem dX10_cues_0 : decode cX10_cues 0 = .ok (.aload_n 0, 1) := by decide +kernel
theorem dX10_cues_1 : decode cX10_cues 1 = .ok (.iload_n 1, 1) := by decide +kernel
theorem dX10_cues_2 : decode cX10_cues 2 = .ok (.invokevirtual 138, 3) := by decide +kernel
theorem dX10_day_0 : decode cX10_day 0 = .ok (.aload_n 0, 1) := by decide +kernel
theorem dX10_day_1 : decode cX10_day 1 = .ok (.getfield 64, 3) := by decide +kernel
theorem dX10_day_4 : decode cX10_day 4 = .ok (.ireturn, 1) := by decide +kernel
theorem dX10_end_0 : decode cX10_end 0 = .ok (.aload_n 0, 1) := by decide +kernel
theorem dX10_end_1 : decode cX10_end 1 = .ok (.invokevirtual 273, 3) := by decide +kernel
theorem dX10_evenings_0 : decode cX10_evenings 0 = .ok (.aload_n 0, 1) := by decide +kernel
theorem dX10_evenings_1 : decode cX10_evenings 1 = .ok (.getfield 71, 3) := by decide +kernel
theorem dX10_evenings_4 : decode cX10_evenings 4 = .ok (.ireturn, 1) := by decide +kernel
theorem dX10_fallIll_0 : decode cX10_fallIll 0 = .ok (.aload_n 0, 1) := by decide +kernel
theorem dX10_fallIll_1 : decode cX10_fallIll 1 = .ok (.iload_n 1, 1) := by decide +kernel
theorem dX10_fallIll_2 : decode cX10_fallIll 2 = .ok (.invokevirtual 101, 3) := by decide +kernel
theorem dX10_farthest_0 : decode cX10_farthest 0 = .ok (.aload_n 0, 1) := by decide +kernel
theorem dX10_farthest_1 : decode cX10_farthest 1 = .ok (.invokevirtual 337, 3) := by decide +kernel
theorem dX10_hasOrder_0 : decode cX10_hasOrder 0 = .ok (.aload_n 0, 1) := by decide +kernel
theorem dX10_hasOrder_1 : decode cX10_hasOrder 1 = .ok (.invokevirtual 337, 3) := by decide +kernel
theorem dX10_isConsistent_0 : decode cX10_isConsistent 0 = .ok (.iconst 0, 1) := by decide +kernel
theorem dX10_isConsistent_1 : decode cX10_isConsistent 1 = .ok (.istore_n 1, 1) := by decide +kernel
theorem dX10_isConsistent_2 : decode cX10_isConsistent 2 = .ok (.iload_n 1, 1) := by decide +kernel
theorem dX10_isConsistent_3 : decode cX10_isConsistent 3 = .ok (.aload_n 0, 1) := by decide +kernel
theorem dX10_isConsistent_4 : decode cX10_isConsistent 4 = .ok (.getfield 54, 3) := by decide +kernel
theorem dX10_isConsistent_7 : decode cX10_isConsistent 7 = .ok (.if_icmp .ge 44, 3) := by decide +kernel
theorem dX10_isConsistent_51 : decode cX10_isConsistent 51 = .ok (.aload_n 0, 1) := by decide +kernel
theorem dX10_isConsistent_52 : decode cX10_isConsistent 52 = .ok (.getfield 67, 3) := by decide +kernel
theorem dX10_isConsistent_55 : decode cX10_isConsistent 55 = .ok (.ifCond .eq 14, 3) := by decide +kernel
theorem dX10_isConsistent_69 : decode cX10_isConsistent 69 = .ok (.iconst 1, 1) := by decide +kernel
theorem dX10_isConsistent_70 : decode cX10_isConsistent 70 = .ok (.ireturn, 1) := by decide +kernel
theorem dX10_meanMinutes_0 : decode cX10_meanMinutes 0 = .ok (.aload_n 0, 1) := by decide +kernel
theorem dX10_meanMinutes_1 : decode cX10_meanMinutes 1 = .ok (.getfield 71, 3) := by decide +kernel
theorem dX10_meanMinutes_4 : decode cX10_meanMinutes 4 = .ok (.ifCond .ne 14, 3) := by decide +kernel
theorem dX10_meanMinutes_7 : decode cX10_meanMinutes 7 = .ok (.new 369, 3) := by decide +kernel
theorem dX10_meanMinutes_10 : decode cX10_meanMinutes 10 = .ok (.dup, 1) := by decide +kernel
theorem dX10_meanMinutes_11 : decode cX10_meanMinutes 11 = .ok (.ldc_w 374, 3) := by decide +kernel
theorem dX10_meanMinutes_14 : decode cX10_meanMinutes 14 = .ok (.invokespecial 373, 3) := by decide +kernel
theorem dX10_meanMinutes_17 : decode cX10_meanMinutes 17 = .ok (.athrow, 1) := by decide +kernel
theorem dX10_minutes_0 : decode cX10_minutes 0 = .ok (.aload_n 0, 1) := by decide +kernel
theorem dX10_minutes_1 : decode cX10_minutes 1 = .ok (.invokevirtual 273, 3) := by decide +kernel
theorem dX10_obstacle_0 : decode cX10_obstacle 0 = .ok (.aload_n 0, 1) := by decide +kernel
theorem dX10_obstacle_1 : decode cX10_obstacle 1 = .ok (.invokevirtual 273, 3) := by decide +kernel
theorem dX10_orderAt_0 : decode cX10_orderAt 0 = .ok (.aload_n 0, 1) := by decide +kernel
theorem dX10_orderAt_1 : decode cX10_orderAt 1 = .ok (.invokevirtual 337, 3) := by decide +kernel
theorem dX10_orders_0 : decode cX10_orders 0 = .ok (.aload_n 0, 1) := by decide +kernel
theorem dX10_orders_1 : decode cX10_orders 1 = .ok (.invokevirtual 337, 3) := by decide +kernel
theorem dX10_perform_0 : decode cX10_perform 0 = .ok (.aload_n 0, 1) := by decide +kernel
theorem dX10_perform_1 : decode cX10_perform 1 = .ok (.invokevirtual 273, 3) := by decide +kernel
theorem dX10_place_0 : decode cX10_place 0 = .ok (.aload_n 0, 1) := by decide +kernel
theorem dX10_place_1 : decode cX10_place 1 = .ok (.iload_n 1, 1) := by decide +kernel
theorem dX10_place_2 : decode cX10_place 2 = .ok (.invokevirtual 120, 3) := by decide +kernel
theorem dX10_plan_0 : decode cX10_plan 0 = .ok (.aload_n 0, 1) := by decide +kernel
theorem dX10_plan_1 : decode cX10_plan 1 = .ok (.iload_n 1, 1) := by decide +kernel
theorem dX10_plan_2 : decode cX10_plan 2 = .ok (.invokevirtual 138, 3) := by decide +kernel
theorem dX10_setCover_0 : decode cX10_setCover 0 = .ok (.aload_n 0, 1) := by decide +kernel
theorem dX10_setCover_1 : decode cX10_setCover 1 = .ok (.iload_n 1, 1) := by decide +kernel
theorem dX10_setCover_2 : decode cX10_setCover 2 = .ok (.invokevirtual 101, 3) := by decide +kernel
theorem dX10_setInterlock_0 : decode cX10_setInterlock 0 = .ok (.aload_n 0, 1) := by decide +kernel
theorem dX10_setInterlock_1 : decode cX10_setInterlock 1 = .ok (.iload_n 1, 1) := by decide +kernel
theorem dX10_setInterlock_2 : decode cX10_setInterlock 2 = .ok (.invokevirtual 120, 3) := by decide +kernel
theorem dX10_setRole_0 : decode cX10_setRole 0 = .ok (.aload_n 0, 1) := by decide +kernel
theorem dX10_setRole_1 : decode cX10_setRole 1 = .ok (.iload_n 1, 1) := by decide +kernel
theorem dX10_setRole_2 : decode cX10_setRole 2 = .ok (.invokevirtual 138, 3) := by decide +kernel
theorem dX10_singer_0 : decode cX10_singer 0 = .ok (.aload_n 0, 1) := by decide +kernel
theorem dX10_singer_1 : decode cX10_singer 1 = .ok (.invokevirtual 273, 3) := by decide +kernel
theorem dX10_states_0 : decode cX10_states 0 = .ok (.aload_n 0, 1) := by decide +kernel
theorem dX10_states_1 : decode cX10_states 1 = .ok (.invokevirtual 337, 3) := by decide +kernel
theorem dX10_stuck_0 : decode cX10_stuck 0 = .ok (.aload_n 0, 1) := by decide +kernel
theorem dX10_stuck_1 : decode cX10_stuck 1 = .ok (.invokevirtual 337, 3) := by decide +kernel
theorem dX10_sung_0 : decode cX10_sung 0 = .ok (.aload_n 0, 1) := by decide +kernel
theorem dX10_sung_1 : decode cX10_sung 1 = .ok (.iload_n 1, 1) := by decide +kernel
theorem dX10_sung_2 : decode cX10_sung 2 = .ok (.invokevirtual 101, 3) := by decide +kernel
theorem dX10_takeBack_0 : decode cX10_takeBack 0 = .ok (.aload_n 0, 1) := by decide +kernel
theorem dX10_takeBack_1 : decode cX10_takeBack 1 = .ok (.invokevirtual 273, 3) := by decide +kernel
theorem dX10_voice_0 : decode cX10_voice 0 = .ok (.aload_n 0, 1) := by decide +kernel
theorem dX10_voice_1 : decode cX10_voice 1 = .ok (.iload_n 1, 1) := by decide +kernel
theorem dX10_voice_2 : decode cX10_voice 2 = .ok (.invokevirtual 101, 3) := by decide +kernel
theorem dX10_zone_0 : decode cX10_zone 0 = .ok (.aload_n 0, 1) := by decide +kernel
theorem dX10_zone_1 : decode cX10_zone 1 = .ok (.invokevirtual 273, 3) := by decide +kernel
theorem m_62 : (Cond.initialized "java/lang/ArithmeticException") ∈ lw_all := lw_in 62 (by decide +kernel) (by decide +kernel)
theorem m_369 : (Cond.fieldLink "Theatrehouse" 64 "Theatrehouse" "today" "I") ∈ lw_all := lw_in 369 (by decide +kernel) (by decide +kernel)
theorem m_371 : (Cond.fieldLink "Theatrehouse" 71 "Theatrehouse" "endedCount" "I") ∈ lw_all := lw_in 371 (by decide +kernel) (by decide +kernel)
theorem m_687 : (Cond.methodLink "Theatrehouse" 101 ⟨"Theatrehouse", "requirePerson", "(I)V"⟩) ∈ lw_all := lw_in 687 (by decide +kernel) (by decide +kernel)
theorem m_689 : (Cond.instanceMethod ⟨"Theatrehouse", "requirePerson", "(I)V"⟩) ∈ lw_all := lw_in 689 (by decide +kernel) (by decide +kernel)
theorem m_690 : (Cond.code ⟨"Theatrehouse", "requirePerson", "(I)V"⟩ prog_1_method_40_code 2 (Option.none : Option Jvm.ClassFile.FieldType)) ∈ lw_all := lw_in 690 (by decide +kernel) (by decide +kernel)
theorem m_733 : (Cond.methodLink "Theatrehouse" 120 ⟨"Theatrehouse", "requireMachine", "(I)V"⟩) ∈ lw_all := lw_in 733 (by decide +kernel) (by decide +kernel)
theorem m_735 : (Cond.instanceMethod ⟨"Theatrehouse", "requireMachine", "(I)V"⟩) ∈ lw_all := lw_in 735 (by decide +kernel) (by decide +kernel)
theorem m_736 : (Cond.code ⟨"Theatrehouse", "requireMachine", "(I)V"⟩ prog_1_method_41_code 2 (Option.none : Option Jvm.ClassFile.FieldType)) ∈ lw_all := lw_in 736 (by decide +kernel) (by decide +kernel)
theorem m_753 : (Cond.methodLink "Theatrehouse" 138 ⟨"Theatrehouse", "requireWork", "(I)V"⟩) ∈ lw_all := lw_in 753 (by decide +kernel) (by decide +kernel)
theorem m_755 : (Cond.instanceMethod ⟨"Theatrehouse", "requireWork", "(I)V"⟩) ∈ lw_all := lw_in 755 (by decide +kernel) (by decide +kernel)
theorem m_756 : (Cond.code ⟨"Theatrehouse", "requireWork", "(I)V"⟩ prog_1_method_42_code 2 (Option.none : Option Jvm.ClassFile.FieldType)) ∈ lw_all := lw_in 756 (by decide +kernel) (by decide +kernel)
theorem m_1016 : (Cond.methodLink "Theatrehouse" 337 ⟨"Theatrehouse", "requireToldOrders", "()V"⟩) ∈ lw_all := lw_in 1016 (by decide +kernel) (by decide +kernel)
theorem m_1018 : (Cond.instanceMethod ⟨"Theatrehouse", "requireToldOrders", "()V"⟩) ∈ lw_all := lw_in 1018 (by decide +kernel) (by decide +kernel)
theorem m_1019 : (Cond.code ⟨"Theatrehouse", "requireToldOrders", "()V"⟩ prog_1_method_46_code 1 (Option.none : Option Jvm.ClassFile.FieldType)) ∈ lw_all := lw_in 1019 (by decide +kernel) (by decide +kernel)
theorem m_1100 : (Cond.classLink "Theatrehouse" 369 "java/lang/ArithmeticException") ∈ lw_all := lw_in 1100 (by decide +kernel) (by decide +kernel)
theorem mp_11 : (Cond.selects "Theatrehouse" ⟨"Theatrehouse", "requirePerson", "(I)V"⟩ ⟨"Theatrehouse", "requirePerson", "(I)V"⟩) ∈ lw_all := lw_inp 11 (by decide +kernel) (by decide +kernel)
theorem mp_13 : (Cond.selects "Theatrehouse" ⟨"Theatrehouse", "requireMachine", "(I)V"⟩ ⟨"Theatrehouse", "requireMachine", "(I)V"⟩) ∈ lw_all := lw_inp 13 (by decide +kernel) (by decide +kernel)
theorem mp_14 : (Cond.selects "Theatrehouse" ⟨"Theatrehouse", "requireWork", "(I)V"⟩ ⟨"Theatrehouse", "requireWork", "(I)V"⟩) ∈ lw_all := lw_inp 14 (by decide +kernel) (by decide +kernel)
theorem mp_24 : (Cond.selects "Theatrehouse" ⟨"Theatrehouse", "requireToldOrders", "()V"⟩ ⟨"Theatrehouse", "requireToldOrders", "()V"⟩) ∈ lw_all := lw_inp 24 (by decide +kernel) (by decide +kernel)
theorem tha_X10_373 : (vx_atS "Theatrehouse" 373 "java/lang/ArithmeticException" ["java/lang/RuntimeException", "java/lang/Exception"]).all (fun w => decide (w ∈ lw_tbl) && (goodWord w || ng_ok w)) = true := by decide +kernel
theorem thg_X10_373 : ∀ w ∈ Cond.classLink "Theatrehouse" 369 "java/lang/ArithmeticException" :: Cond.initialized "java/lang/ArithmeticException" :: vx_atS "Theatrehouse" 373 "java/lang/ArithmeticException" ["java/lang/RuntimeException", "java/lang/Exception"], vx_ot w = true := by decide +kernel
set_option maxHeartbeats 4000000 in
set_option maxRecDepth 100000 in
theorem c_X10_setCover (l : Launch) (hfl : l.stackTraces = false) (z0 : Nat) (D : va_G) (g : Nat → Nat) (x a0 a1 a2 a3 a4 a5 a6 : Nat) (p0 : Int32) (p1 : Int32) : vx_Met l yX10_setCover (wsp yX10_setCover cX10_setCover 4 (some .int)) ({ frames := 7, cells := 1, slots := 6, locals := 103 }) (va_Pc [.ref x, .int p0, .int p1] (PR z0 D g [(x, .inr (0, [.ref a0, .ref a1, .ref a2, .ref a3, .ref a4, .ref a5, .ref a6, .int 0, .int 0, .int 0, .int 0, .int 0, .int 0, .int 0]))])) (va_Qi (fun (r : Int32) (_ : Unit) => False) (fun _ _ => True) nA) (xE "java/lang/IndexOutOfBoundsException") 1 6 nA := by
  refine vx_ofW (cc := cX10_setCover) (maxL := 4) (ret := (some .int)) (by decide) rfl ?_
  intro p e s m args below meth c s₁ B hml htb hv
  obtain ⟨rfl, hE, hP⟩ := hv
  have hx := B.exec
  have hb := B.bytes
  have hr := B.returns
  have hts0 := atoms_spec (ws := (wsp yX10_setCover cX10_setCover 4 (some .int))) B.pre
  have hts : ∀ w ∈ lw_all, w.before _ s = true := fun w h => hts0 w (List.mem_cons_of_mem _ h)
  have hown : s.vm.findClass "Theatrehouse" = some m.cls := findClass_of_methodNamed B.named
  have hlocks := B.notSynchronized
  have hK := hE.K
  have hS : va_S nA s.heap s.heap [] := va_S.rf
  have hP : va_P D classes [(x, .inr (0, [.ref a0, .ref a1, .ref a2, .ref a3, .ref a4, .ref a5, .ref a6, .int 0, .int 0, .int 0, .int 0, .int 0, .int 0, .int 0]))] s.heap := hP
  have hl := lv_entry ([.ref x, .int p0, .int p1]) (n := 4) (Nat.le_of_ble_eq_true rfl)
  rw [lg_entry_eq]
  generalize (lg_sl ([.ref x, .int p0, .int p1]) ++ List.replicate (4 - (lg_sl ([.ref x, .int p0, .int p1])).length) Slot.unset).toArray = ls at hl ⊢
  have hl : lv_has ls 4 [(0, .ref x), (1, .int p0), (2, .int p1)] := hl
  refine lv_aload_n hx hb dX10_setCover_0 rfl (lv_at hl 0 rfl) ?_
  refine lv_iload_n hx hb dX10_setCover_1 rfl (lv_at hl 1 rfl) ?_
  have hc_1 := hP.sub (ws' := [(x, .inr (0, [.ref a0, .ref a1, .ref a2, .ref a3, .ref a4, .ref a5, .ref a6, .int 0, .int 0, .int 0, .int 0, .int 0, .int 0, .int 0]))]) [0] rfl
  exact vx_callv (vx_runV (As := [.int p0]) (rest := []) ⟨hx, hb, hml, hown, hts⟩ (c_X10_requirePerson l hfl z0 D g x a0 a1 a2 a3 a4 a5 a6 p0) (cwV 1 hts (lw_V m_687 m_689 mp_11 m_1 m_690) rfl rfl rfl (by decide +kernel) ⟨(Nat.le_of_ble_eq_true rfl), (Nat.le_of_ble_eq_true rfl)⟩) ⟨PR.blind, va_recv hK hP (ci := 0) (q0 := 0) rfl rfl, PR.pre hE hS nA_z hc_1⟩ rfl rfl hl.1 rfl (lv_room (Nat.le_of_ble_eq_true rfl)) dX10_setCover_2 ⟨(Nat.le_of_ble_eq_true rfl), (Nat.le_of_ble_eq_true rfl)⟩) hS nA_B nA_A nA_B (fun E ce q9 u t H locs ht hvm _ hBX hz1 hk1 hS hce hcv hcl => by subst hBX; exact vx_out (fun x h => (htb x h).elim) hlocks hce hcv hcl (fun t2 ht2 _ => xE.of2 hS ht2) hS.2.2 (Nat.le_of_ble_eq_true rfl) (Nat.le_of_ble_eq_true rfl)) (fun u t H locs ht hvm hw _ _ _ _ => hw.elim)

set_option maxHeartbeats 4000000 in
set_option maxRecDepth 100000 in
theorem c_X10_fallIll (l : Launch) (hfl : l.stackTraces = false) (z0 : Nat) (D : va_G) (g : Nat → Nat) (x a0 a1 a2 a3 a4 a5 a6 : Nat) (p0 : Int32) (p1 : Int32) : vx_Met l yX10_fallIll (wsp yX10_fallIll cX10_fallIll 4 (some .int)) ({ frames := 7, cells := 1, slots := 6, locals := 103 }) (va_Pc [.ref x, .int p0, .int p1] (PR z0 D g [(x, .inr (0, [.ref a0, .ref a1, .ref a2, .ref a3, .ref a4, .ref a5, .ref a6, .int 0, .int 0, .int 0, .int 0, .int 0, .int 0, .int 0]))])) (va_Qi (fun (r : Int32) (_ : Unit) => False) (fun _ _ => True) nA) (xE "java/lang/IndexOutOfBoundsException") 1 6 nA := by
  refine vx_ofW (cc := cX10_fallIll) (maxL := 4) (ret := (some .int)) (by decide) rfl ?_
  intro p e s m args below meth c s₁ B hml htb hv
  obtain ⟨rfl, hE, hP⟩ := hv
  have hx := B.exec
  have hb := B.bytes
  have hr := B.returns
  have hts0 := atoms_spec (ws := (wsp yX10_fallIll cX10_fallIll 4 (some .int))) B.pre
  have hts : ∀ w ∈ lw_all, w.before _ s = true := fun w h => hts0 w (List.mem_cons_of_mem _ h)
  have hown : s.vm.findClass "Theatrehouse" = some m.cls := findClass_of_methodNamed B.named
  have hlocks := B.notSynchronized
  have hK := hE.K
  have hS : va_S nA s.heap s.heap [] := va_S.rf
  have hP : va_P D classes [(x, .inr (0, [.ref a0, .ref a1, .ref a2, .ref a3, .ref a4, .ref a5, .ref a6, .int 0, .int 0, .int 0, .int 0, .int 0, .int 0, .int 0]))] s.heap := hP
  have hl := lv_entry ([.ref x, .int p0, .int p1]) (n := 4) (Nat.le_of_ble_eq_true rfl)
  rw [lg_entry_eq]
  generalize (lg_sl ([.ref x, .int p0, .int p1]) ++ List.replicate (4 - (lg_sl ([.ref x, .int p0, .int p1])).length) Slot.unset).toArray = ls at hl ⊢
  have hl : lv_has ls 4 [(0, .ref x), (1, .int p0), (2, .int p1)] := hl
  refine lv_aload_n hx hb dX10_fallIll_0 rfl (lv_at hl 0 rfl) ?_
  refine lv_iload_n hx hb dX10_fallIll_1 rfl (lv_at hl 1 rfl) ?_
  have hc_1 := hP.sub (ws' := [(x, .inr (0, [.ref a0, .ref a1, .ref a2, .ref a3, .ref a4, .ref a5, .ref a6, .int 0, .int 0, .int 0, .int 0, .int 0, .int 0, .int 0]))]) [0] rfl
  exact vx_callv (vx_runV (As := [.int p0]) (rest := []) ⟨hx, hb, hml, hown, hts⟩ (c_X10_requirePerson l hfl z0 D g x a0 a1 a2 a3 a4 a5 a6 p0) (cwV 1 hts (lw_V m_687 m_689 mp_11 m_1 m_690) rfl rfl rfl (by decide +kernel) ⟨(Nat.le_of_ble_eq_true rfl), (Nat.le_of_ble_eq_true rfl)⟩) ⟨PR.blind, va_recv hK hP (ci := 0) (q0 := 0) rfl rfl, PR.pre hE hS nA_z hc_1⟩ rfl rfl hl.1 rfl (lv_room (Nat.le_of_ble_eq_true rfl)) dX10_fallIll_2 ⟨(Nat.le_of_ble_eq_true rfl), (Nat.le_of_ble_eq_true rfl)⟩) hS nA_B nA_A nA_B (fun E ce q9 u t H locs ht hvm _ hBX hz1 hk1 hS hce hcv hcl => by subst hBX; exact vx_out (fun x h => (htb x h).elim) hlocks hce hcv hcl (fun t2 ht2 _ => xE.of2 hS ht2) hS.2.2 (Nat.le_of_ble_eq_true rfl) (Nat.le_of_ble_eq_true rfl)) (fun u t H locs ht hvm hw _ _ _ _ => hw.elim)

set_option maxHeartbeats 4000000 in
set_option maxRecDepth 100000 in
theorem c_X10_setInterlock (l : Launch) (hfl : l.stackTraces = false) (z0 : Nat) (D : va_G) (g : Nat → Nat) (x a0 a1 a2 a3 a4 a5 a6 : Nat) (p0 : Int32) (p1 : Int32) (p2 : Int32) (p3 : Int32) : vx_Met l yX10_setInterlock (wsp yX10_setInterlock cX10_setInterlock 7 (some .int)) ({ frames := 7, cells := 1, slots := 6, locals := 103 }) (va_Pc [.ref x, .int p0, .int p1, .int p2, .int p3] (PR z0 D g [(x, .inr (0, [.ref a0, .ref a1, .ref a2, .ref a3, .ref a4, .ref a5, .ref a6, .int 0, .int 0, .int 0, .int 0, .int 0, .int 0, .int 0]))])) (va_Qi (fun (r : Int32) (_ : Unit) => False) (fun _ _ => True) nA) (xE "java/lang/IndexOutOfBoundsException") 1 6 nA := by
  refine vx_ofW (cc := cX10_setInterlock) (maxL := 7) (ret := (some .int)) (by decide) rfl ?_
  intro p e s m args below meth c s₁ B hml htb hv
  obtain ⟨rfl, hE, hP⟩ := hv
  have hx := B.exec
  have hb := B.bytes
  have hr := B.returns
  have hts0 := atoms_spec (ws := (wsp yX10_setInterlock cX10_setInterlock 7 (some .int))) B.pre
  have hts : ∀ w ∈ lw_all, w.before _ s = true := fun w h => hts0 w (List.mem_cons_of_mem _ h)
  have hown : s.vm.findClass "Theatrehouse" = some m.cls := findClass_of_methodNamed B.named
  have hlocks := B.notSynchronized
  have hK := hE.K
  have hS : va_S nA s.heap s.heap [] := va_S.rf
  have hP : va_P D classes [(x, .inr (0, [.ref a0, .ref a1, .ref a2, .ref a3, .ref a4, .ref a5, .ref a6, .int 0, .int 0, .int 0, .int 0, .int 0, .int 0, .int 0]))] s.heap := hP
  have hl := lv_entry ([.ref x, .int p0, .int p1, .int p2, .int p3]) (n := 7) (Nat.le_of_ble_eq_true rfl)
  rw [lg_entry_eq]
  generalize (lg_sl ([.ref x, .int p0, .int p1, .int p2, .int p3]) ++ List.replicate (7 - (lg_sl ([.ref x, .int p0, .int p1, .int p2, .int p3])).length) Slot.unset).toArray = ls at hl ⊢
  have hl : lv_has ls 7 [(0, .ref x), (1, .int p0), (2, .int p1), (3, .int p2), (4, .int p3)] := hl
  refine lv_aload_n hx hb dX10_setInterlock_0 rfl (lv_at hl 0 rfl) ?_
  refine lv_iload_n hx hb dX10_setInterlock_1 rfl (lv_at hl 1 rfl) ?_
  have hc_1 := hP.sub (ws' := [(x, .inr (0, [.ref a0, .ref a1, .ref a2, .ref a3, .ref a4, .ref a5, .ref a6, .int 0, .int 0, .int 0, .int 0, .int 0, .int 0, .int 0]))]) [0] rfl
  exact vx_callv (vx_runV (As := [.int p0]) (rest := []) ⟨hx, hb, hml, hown, hts⟩ (c_X10_requireMachine l hfl z0 D g x a0 a1 a2 a3 a4 a5 a6 p0) (cwV 1 hts (lw_V m_733 m_735 mp_13 m_1 m_736) rfl rfl rfl (by decide +kernel) ⟨(Nat.le_of_ble_eq_true rfl), (Nat.le_of_ble_eq_true rfl)⟩) ⟨PR.blind, va_recv hK hP (ci := 0) (q0 := 0) rfl rfl, PR.pre hE hS nA_z hc_1⟩ rfl rfl hl.1 rfl (lv_room (Nat.le_of_ble_eq_true rfl)) dX10_setInterlock_2 ⟨(Nat.le_of_ble_eq_true rfl), (Nat.le_of_ble_eq_true rfl)⟩) hS nA_B nA_A nA_B (fun E ce q9 u t H locs ht hvm _ hBX hz1 hk1 hS hce hcv hcl => by subst hBX; exact vx_out (fun x h => (htb x h).elim) hlocks hce hcv hcl (fun t2 ht2 _ => xE.of2 hS ht2) hS.2.2 (Nat.le_of_ble_eq_true rfl) (Nat.le_of_ble_eq_true rfl)) (fun u t H locs ht hvm hw _ _ _ _ => hw.elim)

set_option maxHeartbeats 4000000 in
set_option maxRecDepth 100000 in
theorem c_X10_setRole (l : Launch) (hfl : l.stackTraces = false) (z0 : Nat) (D : va_G) (g : Nat → Nat) (x a0 a1 a2 a3 a4 a5 a6 : Nat) (p0 : Int32) (p1 : Int32) (p2 : Int32) : vx_Met l yX10_setRole (wsp yX10_setRole cX10_setRole 5 (some .int)) ({ frames := 7, cells := 1, slots := 6, locals := 103 }) (va_Pc [.ref x, .int p0, .int p1, .int p2] (PR z0 D g [(x, .inr (0, [.ref a0, .ref a1, .ref a2, .ref a3, .ref a4, .ref a5, .ref a6, .int 0, .int 0, .int 0, .int 0, .int 0, .int 0, .int 0]))])) (va_Qi (fun (r : Int32) (_ : Unit) => False) (fun _ _ => True) nA) (xE "java/lang/IndexOutOfBoundsException") 1 6 nA := by
  refine vx_ofW (cc := cX10_setRole) (maxL := 5) (ret := (some .int)) (by decide) rfl ?_
  intro p e s m args below meth c s₁ B hml htb hv
  obtain ⟨rfl, hE, hP⟩ := hv
  have hx := B.exec
  have hb := B.bytes
  have hr := B.returns
  have hts0 := atoms_spec (ws := (wsp yX10_setRole cX10_setRole 5 (some .int))) B.pre
  have hts : ∀ w ∈ lw_all, w.before _ s = true := fun w h => hts0 w (List.mem_cons_of_mem _ h)
  have hown : s.vm.findClass "Theatrehouse" = some m.cls := findClass_of_methodNamed B.named
  have hlocks := B.notSynchronized
  have hK := hE.K
  have hS : va_S nA s.heap s.heap [] := va_S.rf
  have hP : va_P D classes [(x, .inr (0, [.ref a0, .ref a1, .ref a2, .ref a3, .ref a4, .ref a5, .ref a6, .int 0, .int 0, .int 0, .int 0, .int 0, .int 0, .int 0]))] s.heap := hP
  have hl := lv_entry ([.ref x, .int p0, .int p1, .int p2]) (n := 5) (Nat.le_of_ble_eq_true rfl)
  rw [lg_entry_eq]
  generalize (lg_sl ([.ref x, .int p0, .int p1, .int p2]) ++ List.replicate (5 - (lg_sl ([.ref x, .int p0, .int p1, .int p2])).length) Slot.unset).toArray = ls at hl ⊢
  have hl : lv_has ls 5 [(0, .ref x), (1, .int p0), (2, .int p1), (3, .int p2)] := hl
  refine lv_aload_n hx hb dX10_setRole_0 rfl (lv_at hl 0 rfl) ?_
  refine lv_iload_n hx hb dX10_setRole_1 rfl (lv_at hl 1 rfl) ?_
  have hc_1 := hP.sub (ws' := [(x, .inr (0, [.ref a0, .ref a1, .ref a2, .ref a3, .ref a4, .ref a5, .ref a6, .int 0, .int 0, .int 0, .int 0, .int 0, .int 0, .int 0]))]) [0] rfl
  exact vx_callv (vx_runV (As := [.int p0]) (rest := []) ⟨hx, hb, hml, hown, hts⟩ (c_X10_requireWork l hfl z0 D g x a0 a1 a2 a3 a4 a5 a6 p0) (cwV 1 hts (lw_V m_753 m_755 mp_14 m_1 m_756) rfl rfl rfl (by decide +kernel) ⟨(Nat.le_of_ble_eq_true rfl), (Nat.le_of_ble_eq_true rfl)⟩) ⟨PR.blind, va_recv hK hP (ci := 0) (q0 := 0) rfl rfl, PR.pre hE hS nA_z hc_1⟩ rfl rfl hl.1 rfl (lv_room (Nat.le_of_ble_eq_true rfl)) dX10_setRole_2 ⟨(Nat.le_of_ble_eq_true rfl), (Nat.le_of_ble_eq_true rfl)⟩) hS nA_B nA_A nA_B (fun E ce q9 u t H locs ht hvm _ hBX hz1 hk1 hS hce hcv hcl => by subst hBX; exact vx_out (fun x h => (htb x h).elim) hlocks hce hcv hcl (fun t2 ht2 _ => xE.of2 hS ht2) hS.2.2 (Nat.le_of_ble_eq_true rfl) (Nat.le_of_ble_eq_true rfl)) (fun u t H locs ht hvm hw _ _ _ _ => hw.elim)

set_option maxHeartbeats 4000000 in
set_option maxRecDepth 100000 in
theorem c_X10_addCue (l : Launch) (hfl : l.stackTraces = false) (z0 : Nat) (D : va_G) (g : Nat → Nat) (x a0 a1 a2 a3 a4 a5 a6 : Nat) (p0 : Int32) (p1 : Int32) (p2 : Int32) (p3 : Int32) (p4 : Int32) (p5 : Int32) : vx_Met l yX10_addCue (wsp yX10_addCue cX10_addCue 9 (some .int)) ({ frames := 7, cells := 1, slots := 6, locals := 103 }) (va_Pc [.ref x, .int p0, .int p1, .int p2, .int p3, .int p4, .int p5] (PR z0 D g [(x, .inr (0, [.ref a0, .ref a1, .ref a2, .ref a3, .ref a4, .ref a5, .ref a6, .int 0, .int 0, .int 0, .int 0, .int 0, .int 0, .int 0]))])) (va_Qi (fun (r : Int32) (_ : Unit) => False) (fun _ _ => True) nA) (xE "java/lang/IndexOutOfBoundsException") 1 6 nA := by
  refine vx_ofW (cc := cX10_addCue) (maxL := 9) (ret := (some .int)) (by decide) rfl ?_
  intro p e s m args below meth c s₁ B hml htb hv
  obtain ⟨rfl, hE, hP⟩ := hv
  have hx := B.exec
  have hb := B.bytes
  have hr := B.returns
  have hts0 := atoms_spec (ws := (wsp yX10_addCue cX10_addCue 9 (some .int))) B.pre
  have hts : ∀ w ∈ lw_all, w.before _ s = true := fun w h => hts0 w (List.mem_cons_of_mem _ h)
  have hown : s.vm.findClass "Theatrehouse" = some m.cls := findClass_of_methodNamed B.named
  have hlocks := B.notSynchronized
  have hK := hE.K
  have hS : va_S nA s.heap s.heap [] := va_S.rf
  have hP : va_P D classes [(x, .inr (0, [.ref a0, .ref a1, .ref a2, .ref a3, .ref a4, .ref a5, .ref a6, .int 0, .int 0, .int 0, .int 0, .int 0, .int 0, .int 0]))] s.heap := hP
  have hl := lv_entry ([.ref x, .int p0, .int p1, .int p2, .int p3, .int p4, .int p5]) (n := 9) (Nat.le_of_ble_eq_true rfl)
  rw [lg_entry_eq]
  generalize (lg_sl ([.ref x, .int p0, .int p1, .int p2, .int p3, .int p4, .int p5]) ++ List.replicate (9 - (lg_sl ([.ref x, .int p0, .int p1, .int p2, .int p3, .int p4, .int p5])).length) Slot.unset).toArray = ls at hl ⊢
  have hl : lv_has ls 9 [(0, .ref x), (1, .int p0), (2, .int p1), (3, .int p2), (4, .int p3), (5, .int p4), (6, .int p5)] := hl
  refine lv_aload_n hx hb dX10_addCue_0 rfl (lv_at hl 0 rfl) ?_
  refine lv_iload_n hx hb dX10_addCue_1 rfl (lv_at hl 1 rfl) ?_
  have hc_1 := hP.sub (ws' := [(x, .inr (0, [.ref a0, .ref a1, .ref a2, .ref a3, .ref a4, .ref a5, .ref a6, .int 0, .int 0, .int 0, .int 0, .int 0, .int 0, .int 0]))]) [0] rfl
  exact vx_callv (vx_runV (As := [.int p0]) (rest := []) ⟨hx, hb, hml, hown, hts⟩ (c_X10_requireWork l hfl z0 D g x a0 a1 a2 a3 a4 a5 a6 p0) (cwV 1 hts (lw_V m_753 m_755 mp_14 m_1 m_756) rfl rfl rfl (by decide +kernel) ⟨(Nat.le_of_ble_eq_true rfl), (Nat.le_of_ble_eq_true rfl)⟩) ⟨PR.blind, va_recv hK hP (ci := 0) (q0 := 0) rfl rfl, PR.pre hE hS nA_z hc_1⟩ rfl rfl hl.1 rfl (lv_room (Nat.le_of_ble_eq_true rfl)) dX10_addCue_2 ⟨(Nat.le_of_ble_eq_true rfl), (Nat.le_of_ble_eq_true rfl)⟩) hS nA_B nA_A nA_B (fun E ce q9 u t H locs ht hvm _ hBX hz1 hk1 hS hce hcv hcl => by subst hBX; exact vx_out (fun x h => (htb x h).elim) hlocks hce hcv hcl (fun t2 ht2 _ => xE.of2 hS ht2) hS.2.2 (Nat.le_of_ble_eq_true rfl) (Nat.le_of_ble_eq_true rfl)) (fun u t H locs ht hvm hw _ _ _ _ => hw.elim)

set_option maxHeartbeats 4000000 in
set_option maxRecDepth 100000 in
theorem c_X10_cues (l : Launch) (hfl : l.stackTraces = false) (z0 : Nat) (D : va_G) (g : Nat → Nat) (x a0 a1 a2 a3 a4 a5 a6 : Nat) (p0 : Int32) : vx_Met l yX10_cues (wsp yX10_cues cX10_cues 2 (some .int)) ({ frames := 7, cells := 1, slots := 6, locals := 103 }) (va_Pc [.ref x, .int p0] (PR z0 D g [(x, .inr (0, [.ref a0, .ref a1, .ref a2, .ref a3, .ref a4, .ref a5, .ref a6, .int 0, .int 0, .int 0, .int 0, .int 0, .int 0, .int 0]))])) (va_Qi (fun (r : Int32) (_ : Unit) => False) (fun _ _ => True) nA) (xE "java/lang/IndexOutOfBoundsException") 1 6 nA := by
  refine vx_ofW (cc := cX10_cues) (maxL := 2) (ret := (some .int)) (by decide) rfl ?_
  intro p e s m args below meth c s₁ B hml htb hv
  obtain ⟨rfl, hE, hP⟩ := hv
  have hx := B.exec
  have hb := B.bytes
  have hr := B.returns
  have hts0 := atoms_spec (ws := (wsp yX10_cues cX10_cues 2 (some .int))) B.pre
  have hts : ∀ w ∈ lw_all, w.before _ s = true := fun w h => hts0 w (List.mem_cons_of_mem _ h)
  have hown : s.vm.findClass "Theatrehouse" = some m.cls := findClass_of_methodNamed B.named
  have hlocks := B.notSynchronized
  have hK := hE.K
  have hS : va_S nA s.heap s.heap [] := va_S.rf
  have hP : va_P D classes [(x, .inr (0, [.ref a0, .ref a1, .ref a2, .ref a3, .ref a4, .ref a5, .ref a6, .int 0, .int 0, .int 0, .int 0, .int 0, .int 0, .int 0]))] s.heap := hP
  have hl := lv_entry ([.ref x, .int p0]) (n := 2) (Nat.le_of_ble_eq_true rfl)
  rw [lg_entry_eq]
  generalize (lg_sl ([.ref x, .int p0]) ++ List.replicate (2 - (lg_sl ([.ref x, .int p0])).length) Slot.unset).toArray = ls at hl ⊢
  have hl : lv_has ls 2 [(0, .ref x), (1, .int p0)] := hl
  refine lv_aload_n hx hb dX10_cues_0 rfl (lv_at hl 0 rfl) ?_
  refine lv_iload_n hx hb dX10_cues_1 rfl (lv_at hl 1 rfl) ?_
  have hc_1 := hP.sub (ws' := [(x, .inr (0, [.ref a0, .ref a1, .ref a2, .ref a3, .ref a4, .ref a5, .ref a6, .int 0, .int 0, .int 0, .int 0, .int 0, .int 0, .int 0]))]) [0] rfl
  exact vx_callv (vx_runV (As := [.int p0]) (rest := []) ⟨hx, hb, hml, hown, hts⟩ (c_X10_requireWork l hfl z0 D g x a0 a1 a2 a3 a4 a5 a6 p0) (cwV 1 hts (lw_V m_753 m_755 mp_14 m_1 m_756) rfl rfl rfl (by decide +kernel) ⟨(Nat.le_of_ble_eq_true rfl), (Nat.le_of_ble_eq_true rfl)⟩) ⟨PR.blind, va_recv hK hP (ci := 0) (q0 := 0) rfl rfl, PR.pre hE hS nA_z hc_1⟩ rfl rfl hl.1 rfl (lv_room (Nat.le_of_ble_eq_true rfl)) dX10_cues_2 ⟨(Nat.le_of_ble_eq_true rfl), (Nat.le_of_ble_eq_true rfl)⟩) hS nA_B nA_A nA_B (fun E ce q9 u t H locs ht hvm _ hBX hz1 hk1 hS hce hcv hcl => by subst hBX; exact vx_out (fun x h => (htb x h).elim) hlocks hce hcv hcl (fun t2 ht2 _ => xE.of2 hS ht2) hS.2.2 (Nat.le_of_ble_eq_true rfl) (Nat.le_of_ble_eq_true rfl)) (fun u t H locs ht hvm hw _ _ _ _ => hw.elim)

set_option maxHeartbeats 4000000 in
set_option maxRecDepth 100000 in
theorem c_X10_plan (l : Launch) (hfl : l.stackTraces = false) (z0 : Nat) (D : va_G) (g : Nat → Nat) (x a0 a1 a2 a3 a4 a5 a6 : Nat) (p0 : Int32) (p1 : Int32) : vx_Met l yX10_plan (wsp yX10_plan cX10_plan 4 (some .int)) ({ frames := 7, cells := 1, slots := 6, locals := 103 }) (va_Pc [.ref x, .int p0, .int p1] (PR z0 D g [(x, .inr (0, [.ref a0, .ref a1, .ref a2, .ref a3, .ref a4, .ref a5, .ref a6, .int 0, .int 0, .int 0, .int 0, .int 0, .int 0, .int 0]))])) (va_Qi (fun (r : Int32) (_ : Unit) => False) (fun _ _ => True) nA) (xE "java/lang/IndexOutOfBoundsException") 1 6 nA := by
  refine vx_ofW (cc := cX10_plan) (maxL := 4) (ret := (some .int)) (by decide) rfl ?_
  intro p e s m args below meth c s₁ B hml htb hv
  obtain ⟨rfl, hE, hP⟩ := hv
  have hx := B.exec
  have hb := B.bytes
  have hr := B.returns
  have hts0 := atoms_spec (ws := (wsp yX10_plan cX10_plan 4 (some .int))) B.pre
  have hts : ∀ w ∈ lw_all, w.before _ s = true := fun w h => hts0 w (List.mem_cons_of_mem _ h)
  have hown : s.vm.findClass "Theatrehouse" = some m.cls := findClass_of_methodNamed B.named
  have hlocks := B.notSynchronized
  have hK := hE.K
  have hS : va_S nA s.heap s.heap [] := va_S.rf
  have hP : va_P D classes [(x, .inr (0, [.ref a0, .ref a1, .ref a2, .ref a3, .ref a4, .ref a5, .ref a6, .int 0, .int 0, .int 0, .int 0, .int 0, .int 0, .int 0]))] s.heap := hP
  have hl := lv_entry ([.ref x, .int p0, .int p1]) (n := 4) (Nat.le_of_ble_eq_true rfl)
  rw [lg_entry_eq]
  generalize (lg_sl ([.ref x, .int p0, .int p1]) ++ List.replicate (4 - (lg_sl ([.ref x, .int p0, .int p1])).length) Slot.unset).toArray = ls at hl ⊢
  have hl : lv_has ls 4 [(0, .ref x), (1, .int p0), (2, .int p1)] := hl
  refine lv_aload_n hx hb dX10_plan_0 rfl (lv_at hl 0 rfl) ?_
  refine lv_iload_n hx hb dX10_plan_1 rfl (lv_at hl 1 rfl) ?_
  have hc_1 := hP.sub (ws' := [(x, .inr (0, [.ref a0, .ref a1, .ref a2, .ref a3, .ref a4, .ref a5, .ref a6, .int 0, .int 0, .int 0, .int 0, .int 0, .int 0, .int 0]))]) [0] rfl
  exact vx_callv (vx_runV (As := [.int p0]) (rest := []) ⟨hx, hb, hml, hown, hts⟩ (c_X10_requireWork l hfl z0 D g x a0 a1 a2 a3 a4 a5 a6 p0) (cwV 1 hts (lw_V m_753 m_755 mp_14 m_1 m_756) rfl rfl rfl (by decide +kernel) ⟨(Nat.le_of_ble_eq_true rfl), (Nat.le_of_ble_eq_true rfl)⟩) ⟨PR.blind, va_recv hK hP (ci := 0) (q0 := 0) rfl rfl, PR.pre hE hS nA_z hc_1⟩ rfl rfl hl.1 rfl (lv_room (Nat.le_of_ble_eq_true rfl)) dX10_plan_2 ⟨(Nat.le_of_ble_eq_true rfl), (Nat.le_of_ble_eq_true rfl)⟩) hS nA_B nA_A nA_B (fun E ce q9 u t H locs ht hvm _ hBX hz1 hk1 hS hce hcv hcl => by subst hBX; exact vx_out (fun x h => (htb x h).elim) hlocks hce hcv hcl (fun t2 ht2 _ => xE.of2 hS ht2) hS.2.2 (Nat.le_of_ble_eq_true rfl) (Nat.le_of_ble_eq_true rfl)) (fun u t H locs ht hvm hw _ _ _ _ => hw.elim)

set_option maxHeartbeats 4000000 in
set_option maxRecDepth 100000 in
theorem c_X10_voice (l : Launch) (hfl : l.stackTraces = false) (z0 : Nat) (D : va_G) (g : Nat → Nat) (x a0 a1 a2 a3 a4 a5 a6 : Nat) (p0 : Int32) : vx_Met l yX10_voice (wsp yX10_voice cX10_voice 2 (some .int)) ({ frames := 7, cells := 1, slots := 6, locals := 103 }) (va_Pc [.ref x, .int p0] (PR z0 D g [(x, .inr (0, [.ref a0, .ref a1, .ref a2, .ref a3, .ref a4, .ref a5, .ref a6, .int 0, .int 0, .int 0, .int 0, .int 0, .int 0, .int 0]))])) (va_Qi (fun (r : Int32) (_ : Unit) => False) (fun _ _ => True) nA) (xE "java/lang/IndexOutOfBoundsException") 1 6 nA := by
  refine vx_ofW (cc := cX10_voice) (maxL := 2) (ret := (some .int)) (by decide) rfl ?_
  intro p e s m args below meth c s₁ B hml htb hv
  obtain ⟨rfl, hE, hP⟩ := hv
  have hx := B.exec
  have hb := B.bytes
  have hr := B.returns
  have hts0 := atoms_spec (ws := (wsp yX10_voice cX10_voice 2 (some .int))) B.pre
  have hts : ∀ w ∈ lw_all, w.before _ s = true := fun w h => hts0 w (List.mem_cons_of_mem _ h)
  have hown : s.vm.findClass "Theatrehouse" = some m.cls := findClass_of_methodNamed B.named
  have hlocks := B.notSynchronized
  have hK := hE.K
  have hS : va_S nA s.heap s.heap [] := va_S.rf
  have hP : va_P D classes [(x, .inr (0, [.ref a0, .ref a1, .ref a2, .ref a3, .ref a4, .ref a5, .ref a6, .int 0, .int 0, .int 0, .int 0, .int 0, .int 0, .int 0]))] s.heap := hP
  have hl := lv_entry ([.ref x, .int p0]) (n := 2) (Nat.le_of_ble_eq_true rfl)
  rw [lg_entry_eq]
  generalize (lg_sl ([.ref x, .int p0]) ++ List.replicate (2 - (lg_sl ([.ref x, .int p0])).length) Slot.unset).toArray = ls at hl ⊢
  have hl : lv_has ls 2 [(0, .ref x), (1, .int p0)] := hl
  refine lv_aload_n hx hb dX10_voice_0 rfl (lv_at hl 0 rfl) ?_
  refine lv_iload_n hx hb dX10_voice_1 rfl (lv_at hl 1 rfl) ?_
  have hc_1 := hP.sub (ws' := [(x, .inr (0, [.ref a0, .ref a1, .ref a2, .ref a3, .ref a4, .ref a5, .ref a6, .int 0, .int 0, .int 0, .int 0, .int 0, .int 0, .int 0]))]) [0] rfl
  exact vx_callv (vx_runV (As := [.int p0]) (rest := []) ⟨hx, hb, hml, hown, hts⟩ (c_X10_requirePerson l hfl z0 D g x a0 a1 a2 a3 a4 a5 a6 p0) (cwV 1 hts (lw_V m_687 m_689 mp_11 m_1 m_690) rfl rfl rfl (by decide +kernel) ⟨(Nat.le_of_ble_eq_true rfl), (Nat.le_of_ble_eq_true rfl)⟩) ⟨PR.blind, va_recv hK hP (ci := 0) (q0 := 0) rfl rfl, PR.pre hE hS nA_z hc_1⟩ rfl rfl hl.1 rfl (lv_room (Nat.le_of_ble_eq_true rfl)) dX10_voice_2 ⟨(Nat.le_of_ble_eq_true rfl), (Nat.le_of_ble_eq_true rfl)⟩) hS nA_B nA_A nA_B (fun E ce q9 u t H locs ht hvm _ hBX hz1 hk1 hS hce hcv hcl => by subst hBX; exact vx_out (fun x h => (htb x h).elim) hlocks hce hcv hcl (fun t2 ht2 _ => xE.of2 hS ht2) hS.2.2 (Nat.le_of_ble_eq_true rfl) (Nat.le_of_ble_eq_true rfl)) (fun u t H locs ht hvm hw _ _ _ _ => hw.elim)

set_option maxHeartbeats 4000000 in
set_option maxRecDepth 100000 in
theorem c_X10_place (l : Launch) (hfl : l.stackTraces = false) (z0 : Nat) (D : va_G) (g : Nat → Nat) (x a0 a1 a2 a3 a4 a5 a6 : Nat) (p0 : Int32) : vx_Met l yX10_place (wsp yX10_place cX10_place 2 (some .int)) ({ frames := 7, cells := 1, slots := 6, locals := 103 }) (va_Pc [.ref x, .int p0] (PR z0 D g [(x, .inr (0, [.ref a0, .ref a1, .ref a2, .ref a3, .ref a4, .ref a5, .ref a6, .int 0, .int 0, .int 0, .int 0, .int 0, .int 0, .int 0]))])) (va_Qi (fun (r : Int32) (_ : Unit) => False) (fun _ _ => True) nA) (xE "java/lang/IndexOutOfBoundsException") 1 6 nA := by
  refine vx_ofW (cc := cX10_place) (maxL := 2) (ret := (some .int)) (by decide) rfl ?_
  intro p e s m args below meth c s₁ B hml htb hv
  obtain ⟨rfl, hE, hP⟩ := hv
  have hx := B.exec
  have hb := B.bytes
  have hr := B.returns
  have hts0 := atoms_spec (ws := (wsp yX10_place cX10_place 2 (some .int))) B.pre
  have hts : ∀ w ∈ lw_all, w.before _ s = true := fun w h => hts0 w (List.mem_cons_of_mem _ h)
  have hown : s.vm.findClass "Theatrehouse" = some m.cls := findClass_of_methodNamed B.named
  have hlocks := B.notSynchronized
  have hK := hE.K
  have hS : va_S nA s.heap s.heap [] := va_S.rf
  have hP : va_P D classes [(x, .inr (0, [.ref a0, .ref a1, .ref a2, .ref a3, .ref a4, .ref a5, .ref a6, .int 0, .int 0, .int 0, .int 0, .int 0, .int 0, .int 0]))] s.heap := hP
  have hl := lv_entry ([.ref x, .int p0]) (n := 2) (Nat.le_of_ble_eq_true rfl)
  rw [lg_entry_eq]
  generalize (lg_sl ([.ref x, .int p0]) ++ List.replicate (2 - (lg_sl ([.ref x, .int p0])).length) Slot.unset).toArray = ls at hl ⊢
  have hl : lv_has ls 2 [(0, .ref x), (1, .int p0)] := hl
  refine lv_aload_n hx hb dX10_place_0 rfl (lv_at hl 0 rfl) ?_
  refine lv_iload_n hx hb dX10_place_1 rfl (lv_at hl 1 rfl) ?_
  have hc_1 := hP.sub (ws' := [(x, .inr (0, [.ref a0, .ref a1, .ref a2, .ref a3, .ref a4, .ref a5, .ref a6, .int 0, .int 0, .int 0, .int 0, .int 0, .int 0, .int 0]))]) [0] rfl
  exact vx_callv (vx_runV (As := [.int p0]) (rest := []) ⟨hx, hb, hml, hown, hts⟩ (c_X10_requireMachine l hfl z0 D g x a0 a1 a2 a3 a4 a5 a6 p0) (cwV 1 hts (lw_V m_733 m_735 mp_13 m_1 m_736) rfl rfl rfl (by decide +kernel) ⟨(Nat.le_of_ble_eq_true rfl), (Nat.le_of_ble_eq_true rfl)⟩) ⟨PR.blind, va_recv hK hP (ci := 0) (q0 := 0) rfl rfl, PR.pre hE hS nA_z hc_1⟩ rfl rfl hl.1 rfl (lv_room (Nat.le_of_ble_eq_true rfl)) dX10_place_2 ⟨(Nat.le_of_ble_eq_true rfl), (Nat.le_of_ble_eq_true rfl)⟩) hS nA_B nA_A nA_B (fun E ce q9 u t H locs ht hvm _ hBX hz1 hk1 hS hce hcv hcl => by subst hBX; exact vx_out (fun x h => (htb x h).elim) hlocks hce hcv hcl (fun t2 ht2 _ => xE.of2 hS ht2) hS.2.2 (Nat.le_of_ble_eq_true rfl) (Nat.le_of_ble_eq_true rfl)) (fun u t H locs ht hvm hw _ _ _ _ => hw.elim)

set_option maxHeartbeats 4000000 in
set_option maxRecDepth 100000 in
theorem c_X10_balance (l : Launch) (hfl : l.stackTraces = false) (z0 : Nat) (D : va_G) (g : Nat → Nat) (x a0 a1 a2 a3 a4 a5 a6 : Nat) (p0 : Int32) : vx_Met l yX10_balance (wsp yX10_balance cX10_balance 2 (some .int)) ({ frames := 7, cells := 1, slots := 6, locals := 103 }) (va_Pc [.ref x, .int p0] (PR z0 D g [(x, .inr (0, [.ref a0, .ref a1, .ref a2, .ref a3, .ref a4, .ref a5, .ref a6, .int 0, .int 0, .int 0, .int 0, .int 0, .int 0, .int 0]))])) (va_Qi (fun (r : Int32) (_ : Unit) => False) (fun _ _ => True) nA) (xE "java/lang/IndexOutOfBoundsException") 1 6 nA := by
  refine vx_ofW (cc := cX10_balance) (maxL := 2) (ret := (some .int)) (by decide) rfl ?_
  intro p e s m args below meth c s₁ B hml htb hv
  obtain ⟨rfl, hE, hP⟩ := hv
  have hx := B.exec
  have hb := B.bytes
  have hr := B.returns
  have hts0 := atoms_spec (ws := (wsp yX10_balance cX10_balance 2 (some .int))) B.pre
  have hts : ∀ w ∈ lw_all, w.before _ s = true := fun w h => hts0 w (List.mem_cons_of_mem _ h)
  have hown : s.vm.findClass "Theatrehouse" = some m.cls := findClass_of_methodNamed B.named
  have hlocks := B.notSynchronized
  have hK := hE.K
  have hS : va_S nA s.heap s.heap [] := va_S.rf
  have hP : va_P D classes [(x, .inr (0, [.ref a0, .ref a1, .ref a2, .ref a3, .ref a4, .ref a5, .ref a6, .int 0, .int 0, .int 0, .int 0, .int 0, .int 0, .int 0]))] s.heap := hP
  have hl := lv_entry ([.ref x, .int p0]) (n := 2) (Nat.le_of_ble_eq_true rfl)
  rw [lg_entry_eq]
  generalize (lg_sl ([.ref x, .int p0]) ++ List.replicate (2 - (lg_sl ([.ref x, .int p0])).length) Slot.unset).toArray = ls at hl ⊢
  have hl : lv_has ls 2 [(0, .ref x), (1, .int p0)] := hl
  refine lv_aload_n hx hb dX10_balance_0 rfl (lv_at hl 0 rfl) ?_
  refine lv_iload_n hx hb dX10_balance_1 rfl (lv_at hl 1 rfl) ?_
  have hc_1 := hP.sub (ws' := [(x, .inr (0, [.ref a0, .ref a1, .ref a2, .ref a3, .ref a4, .ref a5, .ref a6, .int 0, .int 0, .int 0, .int 0, .int 0, .int 0, .int 0]))]) [0] rfl
  exact vx_callv (vx_runV (As := [.int p0]) (rest := []) ⟨hx, hb, hml, hown, hts⟩ (c_X10_requireWork l hfl z0 D g x a0 a1 a2 a3 a4 a5 a6 p0) (cwV 1 hts (lw_V m_753 m_755 mp_14 m_1 m_756) rfl rfl rfl (by decide +kernel) ⟨(Nat.le_of_ble_eq_true rfl), (Nat.le_of_ble_eq_true rfl)⟩) ⟨PR.blind, va_recv hK hP (ci := 0) (q0 := 0) rfl rfl, PR.pre hE hS nA_z hc_1⟩ rfl rfl hl.1 rfl (lv_room (Nat.le_of_ble_eq_true rfl)) dX10_balance_2 ⟨(Nat.le_of_ble_eq_true rfl), (Nat.le_of_ble_eq_true rfl)⟩) hS nA_B nA_A nA_B (fun E ce q9 u t H locs ht hvm _ hBX hz1 hk1 hS hce hcv hcl => by subst hBX; exact vx_out (fun x h => (htb x h).elim) hlocks hce hcv hcl (fun t2 ht2 _ => xE.of2 hS ht2) hS.2.2 (Nat.le_of_ble_eq_true rfl) (Nat.le_of_ble_eq_true rfl)) (fun u t H locs ht hvm hw _ _ _ _ => hw.elim)

set_option maxHeartbeats 4000000 in
set_option maxRecDepth 100000 in
theorem c_X10_sung (l : Launch) (hfl : l.stackTraces = false) (z0 : Nat) (D : va_G) (g : Nat → Nat) (x a0 a1 a2 a3 a4 a5 a6 : Nat) (p0 : Int32) : vx_Met l yX10_sung (wsp yX10_sung cX10_sung 2 (some .int)) ({ frames := 7, cells := 1, slots := 6, locals := 103 }) (va_Pc [.ref x, .int p0] (PR z0 D g [(x, .inr (0, [.ref a0, .ref a1, .ref a2, .ref a3, .ref a4, .ref a5, .ref a6, .int 0, .int 0, .int 0, .int 0, .int 0, .int 0, .int 0]))])) (va_Qi (fun (r : Int32) (_ : Unit) => False) (fun _ _ => True) nA) (xE "java/lang/IndexOutOfBoundsException") 1 6 nA := by
  refine vx_ofW (cc := cX10_sung) (maxL := 2) (ret := (some .int)) (by decide) rfl ?_
  intro p e s m args below meth c s₁ B hml htb hv
  obtain ⟨rfl, hE, hP⟩ := hv
  have hx := B.exec
  have hb := B.bytes
  have hr := B.returns
  have hts0 := atoms_spec (ws := (wsp yX10_sung cX10_sung 2 (some .int))) B.pre
  have hts : ∀ w ∈ lw_all, w.before _ s = true := fun w h => hts0 w (List.mem_cons_of_mem _ h)
  have hown : s.vm.findClass "Theatrehouse" = some m.cls := findClass_of_methodNamed B.named
  have hlocks := B.notSynchronized
  have hK := hE.K
  have hS : va_S nA s.heap s.heap [] := va_S.rf
  have hP : va_P D classes [(x, .inr (0, [.ref a0, .ref a1, .ref a2, .ref a3, .ref a4, .ref a5, .ref a6, .int 0, .int 0, .int 0, .int 0, .int 0, .int 0, .int 0]))] s.heap := hP
  have hl := lv_entry ([.ref x, .int p0]) (n := 2) (Nat.le_of_ble_eq_true rfl)
  rw [lg_entry_eq]
  generalize (lg_sl ([.ref x, .int p0]) ++ List.replicate (2 - (lg_sl ([.ref x, .int p0])).length) Slot.unset).toArray = ls at hl ⊢
  have hl : lv_has ls 2 [(0, .ref x), (1, .int p0)] := hl
  refine lv_aload_n hx hb dX10_sung_0 rfl (lv_at hl 0 rfl) ?_
  refine lv_iload_n hx hb dX10_sung_1 rfl (lv_at hl 1 rfl) ?_
  have hc_1 := hP.sub (ws' := [(x, .inr (0, [.ref a0, .ref a1, .ref a2, .ref a3, .ref a4, .ref a5, .ref a6, .int 0, .int 0, .int 0, .int 0, .int 0, .int 0, .int 0]))]) [0] rfl
  exact vx_callv (vx_runV (As := [.int p0]) (rest := []) ⟨hx, hb, hml, hown, hts⟩ (c_X10_requirePerson l hfl z0 D g x a0 a1 a2 a3 a4 a5 a6 p0) (cwV 1 hts (lw_V m_687 m_689 mp_11 m_1 m_690) rfl rfl rfl (by decide +kernel) ⟨(Nat.le_of_ble_eq_true rfl), (Nat.le_of_ble_eq_true rfl)⟩) ⟨PR.blind, va_recv hK hP (ci := 0) (q0 := 0) rfl rfl, PR.pre hE hS nA_z hc_1⟩ rfl rfl hl.1 rfl (lv_room (Nat.le_of_ble_eq_true rfl)) dX10_sung_2 ⟨(Nat.le_of_ble_eq_true rfl), (Nat.le_of_ble_eq_true rfl)⟩) hS nA_B nA_A nA_B (fun E ce q9 u t H locs ht hvm _ hBX hz1 hk1 hS hce hcv hcl => by subst hBX; exact vx_out (fun x h => (htb x h).elim) hlocks hce hcv hcl (fun t2 ht2 _ => xE.of2 hS ht2) hS.2.2 (Nat.le_of_ble_eq_true rfl) (Nat.le_of_ble_eq_true rfl)) (fun u t H locs ht hvm hw _ _ _ _ => hw.elim)

set_option maxHeartbeats 4000000 in
set_option maxRecDepth 100000 in
theorem c_X10_perform (l : Launch) (hfl : l.stackTraces = false) (z0 : Nat) (D : va_G) (g : Nat → Nat) (x a0 a1 a2 a3 a4 a5 a6 : Nat) (p0 : Int32) : vx_Met l yX10_perform (wsp yX10_perform cX10_perform 2 (some .int)) ({ frames := 7, cells := 1, slots := 6, locals := 102 }) (va_Pc [.ref x, .int p0] (PR z0 D g [(x, .inr (0, [.ref a0, .ref a1, .ref a2, .ref a3, .ref a4, .ref a5, .ref a6, .int 0, .int 0, .int 0, .int 0, .int 0, .int 0, .int 0]))])) (va_Qi (fun (r : Int32) (_ : Unit) => False) (fun _ _ => True) nA) (xE "java/lang/IllegalStateException") 1 6 nA := by
  refine vx_ofW (cc := cX10_perform) (maxL := 2) (ret := (some .int)) (by decide) rfl ?_
  intro p e s m args below meth c s₁ B hml htb hv
  obtain ⟨rfl, hE, hP⟩ := hv
  have hx := B.exec
  have hb := B.bytes
  have hr := B.returns
  have hts0 := atoms_spec (ws := (wsp yX10_perform cX10_perform 2 (some .int))) B.pre
  have hts : ∀ w ∈ lw_all, w.before _ s = true := fun w h => hts0 w (List.mem_cons_of_mem _ h)
  have hown : s.vm.findClass "Theatrehouse" = some m.cls := findClass_of_methodNamed B.named
  have hlocks := B.notSynchronized
  have hK := hE.K
  have hS : va_S nA s.heap s.heap [] := va_S.rf
  have hP : va_P D classes [(x, .inr (0, [.ref a0, .ref a1, .ref a2, .ref a3, .ref a4, .ref a5, .ref a6, .int 0, .int 0, .int 0, .int 0, .int 0, .int 0, .int 0]))] s.heap := hP
  have hl := lv_entry ([.ref x, .int p0]) (n := 2) (Nat.le_of_ble_eq_true rfl)
  rw [lg_entry_eq]
  generalize (lg_sl ([.ref x, .int p0]) ++ List.replicate (2 - (lg_sl ([.ref x, .int p0])).length) Slot.unset).toArray = ls at hl ⊢
  have hl : lv_has ls 2 [(0, .ref x), (1, .int p0)] := hl
  refine lv_aload_n hx hb dX10_perform_0 rfl (lv_at hl 0 rfl) ?_
  have hc_1 := hP.sub (ws' := [(x, .inr (0, [.ref a0, .ref a1, .ref a2, .ref a3, .ref a4, .ref a5, .ref a6, .int 0, .int 0, .int 0, .int 0, .int 0, .int 0, .int 0]))]) [0] rfl
  exact vx_callv (vx_runV (As := []) (rest := []) ⟨hx, hb, hml, hown, hts⟩ (c_X10_requireShow l hfl z0 D g x a0 a1 a2 a3 a4 a5 a6) (cwV 0 hts (lw_V m_911 m_913 mp_21 m_1 m_914) rfl rfl rfl (by decide +kernel) ⟨(Nat.le_of_ble_eq_true rfl), (Nat.le_of_ble_eq_true rfl)⟩) ⟨PR.blind, va_recv hK hP (ci := 0) (q0 := 0) rfl rfl, PR.pre hE hS nA_z hc_1⟩ rfl rfl hl.1 rfl (lv_room (Nat.le_of_ble_eq_true rfl)) dX10_perform_1 ⟨(Nat.le_of_ble_eq_true rfl), (Nat.le_of_ble_eq_true rfl)⟩) hS nA_B nA_A nA_B (fun E ce q9 u t H locs ht hvm _ hBX hz1 hk1 hS hce hcv hcl => by subst hBX; exact vx_out (fun x h => (htb x h).elim) hlocks hce hcv hcl (fun t2 ht2 _ => xE.of2 hS ht2) hS.2.2 (Nat.le_of_ble_eq_true rfl) (Nat.le_of_ble_eq_true rfl)) (fun u t H locs ht hvm hw _ _ _ _ => hw.elim)

set_option maxHeartbeats 4000000 in
set_option maxRecDepth 100000 in
theorem c_X10_obstacle (l : Launch) (hfl : l.stackTraces = false) (z0 : Nat) (D : va_G) (g : Nat → Nat) (x a0 a1 a2 a3 a4 a5 a6 : Nat) (p0 : Int32) : vx_Met l yX10_obstacle (wsp yX10_obstacle cX10_obstacle 2 (some .char)) ({ frames := 7, cells := 1, slots := 6, locals := 102 }) (va_Pc [.ref x, .int p0] (PR z0 D g [(x, .inr (0, [.ref a0, .ref a1, .ref a2, .ref a3, .ref a4, .ref a5, .ref a6, .int 0, .int 0, .int 0, .int 0, .int 0, .int 0, .int 0]))])) (va_Qi (fun (r : Int32) (_ : Unit) => False) (fun _ _ => True) nA) (xE "java/lang/IllegalStateException") 1 6 nA := by
  refine vx_ofW (cc := cX10_obstacle) (maxL := 2) (ret := (some .char)) (by decide) rfl ?_
  intro p e s m args below meth c s₁ B hml htb hv
  obtain ⟨rfl, hE, hP⟩ := hv
  have hx := B.exec
  have hb := B.bytes
  have hr := B.returns
  have hts0 := atoms_spec (ws := (wsp yX10_obstacle cX10_obstacle 2 (some .char))) B.pre
  have hts : ∀ w ∈ lw_all, w.before _ s = true := fun w h => hts0 w (List.mem_cons_of_mem _ h)
  have hown : s.vm.findClass "Theatrehouse" = some m.cls := findClass_of_methodNamed B.named
  have hlocks := B.notSynchronized
  have hK := hE.K
  have hS : va_S nA s.heap s.heap [] := va_S.rf
  have hP : va_P D classes [(x, .inr (0, [.ref a0, .ref a1, .ref a2, .ref a3, .ref a4, .ref a5, .ref a6, .int 0, .int 0, .int 0, .int 0, .int 0, .int 0, .int 0]))] s.heap := hP
  have hl := lv_entry ([.ref x, .int p0]) (n := 2) (Nat.le_of_ble_eq_true rfl)
  rw [lg_entry_eq]
  generalize (lg_sl ([.ref x, .int p0]) ++ List.replicate (2 - (lg_sl ([.ref x, .int p0])).length) Slot.unset).toArray = ls at hl ⊢
  have hl : lv_has ls 2 [(0, .ref x), (1, .int p0)] := hl
  refine lv_aload_n hx hb dX10_obstacle_0 rfl (lv_at hl 0 rfl) ?_
  have hc_1 := hP.sub (ws' := [(x, .inr (0, [.ref a0, .ref a1, .ref a2, .ref a3, .ref a4, .ref a5, .ref a6, .int 0, .int 0, .int 0, .int 0, .int 0, .int 0, .int 0]))]) [0] rfl
  exact vx_callv (vx_runV (As := []) (rest := []) ⟨hx, hb, hml, hown, hts⟩ (c_X10_requireShow l hfl z0 D g x a0 a1 a2 a3 a4 a5 a6) (cwV 0 hts (lw_V m_911 m_913 mp_21 m_1 m_914) rfl rfl rfl (by decide +kernel) ⟨(Nat.le_of_ble_eq_true rfl), (Nat.le_of_ble_eq_true rfl)⟩) ⟨PR.blind, va_recv hK hP (ci := 0) (q0 := 0) rfl rfl, PR.pre hE hS nA_z hc_1⟩ rfl rfl hl.1 rfl (lv_room (Nat.le_of_ble_eq_true rfl)) dX10_obstacle_1 ⟨(Nat.le_of_ble_eq_true rfl), (Nat.le_of_ble_eq_true rfl)⟩) hS nA_B nA_A nA_B (fun E ce q9 u t H locs ht hvm _ hBX hz1 hk1 hS hce hcv hcl => by subst hBX; exact vx_out (fun x h => (htb x h).elim) hlocks hce hcv hcl (fun t2 ht2 _ => xE.of2 hS ht2) hS.2.2 (Nat.le_of_ble_eq_true rfl) (Nat.le_of_ble_eq_true rfl)) (fun u t H locs ht hvm hw _ _ _ _ => hw.elim)

set_option maxHeartbeats 4000000 in
set_option maxRecDepth 100000 in
theorem c_X10_takeBack (l : Launch) (hfl : l.stackTraces = false) (z0 : Nat) (D : va_G) (g : Nat → Nat) (x a0 a1 a2 a3 a4 a5 a6 : Nat) : vx_Met l yX10_takeBack (wsp yX10_takeBack cX10_takeBack 2 (some .int)) ({ frames := 7, cells := 1, slots := 6, locals := 102 }) (va_Pc [.ref x] (PR z0 D g [(x, .inr (0, [.ref a0, .ref a1, .ref a2, .ref a3, .ref a4, .ref a5, .ref a6, .int 0, .int 0, .int 0, .int 0, .int 0, .int 0, .int 0]))])) (va_Qi (fun (r : Int32) (_ : Unit) => False) (fun _ _ => True) nA) (xE "java/lang/IllegalStateException") 1 6 nA := by
  refine vx_ofW (cc := cX10_takeBack) (maxL := 2) (ret := (some .int)) (by decide) rfl ?_
  intro p e s m args below meth c s₁ B hml htb hv
  obtain ⟨rfl, hE, hP⟩ := hv
  have hx := B.exec
  have hb := B.bytes
  have hr := B.returns
  have hts0 := atoms_spec (ws := (wsp yX10_takeBack cX10_takeBack 2 (some .int))) B.pre
  have hts : ∀ w ∈ lw_all, w.before _ s = true := fun w h => hts0 w (List.mem_cons_of_mem _ h)
  have hown : s.vm.findClass "Theatrehouse" = some m.cls := findClass_of_methodNamed B.named
  have hlocks := B.notSynchronized
  have hK := hE.K
  have hS : va_S nA s.heap s.heap [] := va_S.rf
  have hP : va_P D classes [(x, .inr (0, [.ref a0, .ref a1, .ref a2, .ref a3, .ref a4, .ref a5, .ref a6, .int 0, .int 0, .int 0, .int 0, .int 0, .int 0, .int 0]))] s.heap := hP
  have hl := lv_entry ([.ref x]) (n := 2) (Nat.le_of_ble_eq_true rfl)
  rw [lg_entry_eq]
  generalize (lg_sl ([.ref x]) ++ List.replicate (2 - (lg_sl ([.ref x])).length) Slot.unset).toArray = ls at hl ⊢
  have hl : lv_has ls 2 [(0, .ref x)] := hl
  refine lv_aload_n hx hb dX10_takeBack_0 rfl (lv_at hl 0 rfl) ?_
  have hc_1 := hP.sub (ws' := [(x, .inr (0, [.ref a0, .ref a1, .ref a2, .ref a3, .ref a4, .ref a5, .ref a6, .int 0, .int 0, .int 0, .int 0, .int 0, .int 0, .int 0]))]) [0] rfl
  exact vx_callv (vx_runV (As := []) (rest := []) ⟨hx, hb, hml, hown, hts⟩ (c_X10_requireShow l hfl z0 D g x a0 a1 a2 a3 a4 a5 a6) (cwV 0 hts (lw_V m_911 m_913 mp_21 m_1 m_914) rfl rfl rfl (by decide +kernel) ⟨(Nat.le_of_ble_eq_true rfl), (Nat.le_of_ble_eq_true rfl)⟩) ⟨PR.blind, va_recv hK hP (ci := 0) (q0 := 0) rfl rfl, PR.pre hE hS nA_z hc_1⟩ rfl rfl hl.1 rfl (lv_room (Nat.le_of_ble_eq_true rfl)) dX10_takeBack_1 ⟨(Nat.le_of_ble_eq_true rfl), (Nat.le_of_ble_eq_true rfl)⟩) hS nA_B nA_A nA_B (fun E ce q9 u t H locs ht hvm _ hBX hz1 hk1 hS hce hcv hcl => by subst hBX; exact vx_out (fun x h => (htb x h).elim) hlocks hce hcv hcl (fun t2 ht2 _ => xE.of2 hS ht2) hS.2.2 (Nat.le_of_ble_eq_true rfl) (Nat.le_of_ble_eq_true rfl)) (fun u t H locs ht hvm hw _ _ _ _ => hw.elim)

set_option maxHeartbeats 4000000 in
set_option maxRecDepth 100000 in
theorem c_X10_end (l : Launch) (hfl : l.stackTraces = false) (z0 : Nat) (D : va_G) (g : Nat → Nat) (x a0 a1 a2 a3 a4 a5 a6 : Nat) : vx_Met l yX10_end (wsp yX10_end cX10_end 1 (some .int)) ({ frames := 7, cells := 1, slots := 6, locals := 102 }) (va_Pc [.ref x] (PR z0 D g [(x, .inr (0, [.ref a0, .ref a1, .ref a2, .ref a3, .ref a4, .ref a5, .ref a6, .int 0, .int 0, .int 0, .int 0, .int 0, .int 0, .int 0]))])) (va_Qi (fun (r : Int32) (_ : Unit) => False) (fun _ _ => True) nA) (xE "java/lang/IllegalStateException") 1 6 nA := by
  refine vx_ofW (cc := cX10_end) (maxL := 1) (ret := (some .int)) (by decide) rfl ?_
  intro p e s m args below meth c s₁ B hml htb hv
  obtain ⟨rfl, hE, hP⟩ := hv
  have hx := B.exec
  have hb := B.bytes
  have hr := B.returns
  have hts0 := atoms_spec (ws := (wsp yX10_end cX10_end 1 (some .int))) B.pre
  have hts : ∀ w ∈ lw_all, w.before _ s = true := fun w h => hts0 w (List.mem_cons_of_mem _ h)
  have hown : s.vm.findClass "Theatrehouse" = some m.cls := findClass_of_methodNamed B.named
  have hlocks := B.notSynchronized
  have hK := hE.K
  have hS : va_S nA s.heap s.heap [] := va_S.rf
  have hP : va_P D classes [(x, .inr (0, [.ref a0, .ref a1, .ref a2, .ref a3, .ref a4, .ref a5, .ref a6, .int 0, .int 0, .int 0, .int 0, .int 0, .int 0, .int 0]))] s.heap := hP
  have hl := lv_entry ([.ref x]) (n := 1) (Nat.le_of_ble_eq_true rfl)
  rw [lg_entry_eq]
  generalize (lg_sl ([.ref x]) ++ List.replicate (1 - (lg_sl ([.ref x])).length) Slot.unset).toArray = ls at hl ⊢
  have hl : lv_has ls 1 [(0, .ref x)] := hl
  refine lv_aload_n hx hb dX10_end_0 rfl (lv_at hl 0 rfl) ?_
  have hc_1 := hP.sub (ws' := [(x, .inr (0, [.ref a0, .ref a1, .ref a2, .ref a3, .ref a4, .ref a5, .ref a6, .int 0, .int 0, .int 0, .int 0, .int 0, .int 0, .int 0]))]) [0] rfl
  exact vx_callv (vx_runV (As := []) (rest := []) ⟨hx, hb, hml, hown, hts⟩ (c_X10_requireShow l hfl z0 D g x a0 a1 a2 a3 a4 a5 a6) (cwV 0 hts (lw_V m_911 m_913 mp_21 m_1 m_914) rfl rfl rfl (by decide +kernel) ⟨(Nat.le_of_ble_eq_true rfl), (Nat.le_of_ble_eq_true rfl)⟩) ⟨PR.blind, va_recv hK hP (ci := 0) (q0 := 0) rfl rfl, PR.pre hE hS nA_z hc_1⟩ rfl rfl hl.1 rfl (lv_room (Nat.le_of_ble_eq_true rfl)) dX10_end_1 ⟨(Nat.le_of_ble_eq_true rfl), (Nat.le_of_ble_eq_true rfl)⟩) hS nA_B nA_A nA_B (fun E ce q9 u t H locs ht hvm _ hBX hz1 hk1 hS hce hcv hcl => by subst hBX; exact vx_out (fun x h => (htb x h).elim) hlocks hce hcv hcl (fun t2 ht2 _ => xE.of2 hS ht2) hS.2.2 (Nat.le_of_ble_eq_true rfl) (Nat.le_of_ble_eq_true rfl)) (fun u t H locs ht hvm hw _ _ _ _ => hw.elim)

set_option maxHeartbeats 4000000 in
set_option maxRecDepth 100000 in
theorem c_X10_singer (l : Launch) (hfl : l.stackTraces = false) (z0 : Nat) (D : va_G) (g : Nat → Nat) (x a0 a1 a2 a3 a4 a5 a6 : Nat) (p0 : Int32) : vx_Met l yX10_singer (wsp yX10_singer cX10_singer 2 (some .int)) ({ frames := 7, cells := 1, slots := 6, locals := 102 }) (va_Pc [.ref x, .int p0] (PR z0 D g [(x, .inr (0, [.ref a0, .ref a1, .ref a2, .ref a3, .ref a4, .ref a5, .ref a6, .int 0, .int 0, .int 0, .int 0, .int 0, .int 0, .int 0]))])) (va_Qi (fun (r : Int32) (_ : Unit) => False) (fun _ _ => True) nA) (xE "java/lang/IllegalStateException") 1 6 nA := by
  refine vx_ofW (cc := cX10_singer) (maxL := 2) (ret := (some .int)) (by decide) rfl ?_
  intro p e s m args below meth c s₁ B hml htb hv
  obtain ⟨rfl, hE, hP⟩ := hv
  have hx := B.exec
  have hb := B.bytes
  have hr := B.returns
  have hts0 := atoms_spec (ws := (wsp yX10_singer cX10_singer 2 (some .int))) B.pre
  have hts : ∀ w ∈ lw_all, w.before _ s = true := fun w h => hts0 w (List.mem_cons_of_mem _ h)
  have hown : s.vm.findClass "Theatrehouse" = some m.cls := findClass_of_methodNamed B.named
  have hlocks := B.notSynchronized
  have hK := hE.K
  have hS : va_S nA s.heap s.heap [] := va_S.rf
  have hP : va_P D classes [(x, .inr (0, [.ref a0, .ref a1, .ref a2, .ref a3, .ref a4, .ref a5, .ref a6, .int 0, .int 0, .int 0, .int 0, .int 0, .int 0, .int 0]))] s.heap := hP
  have hl := lv_entry ([.ref x, .int p0]) (n := 2) (Nat.le_of_ble_eq_true rfl)
  rw [lg_entry_eq]
  generalize (lg_sl ([.ref x, .int p0]) ++ List.replicate (2 - (lg_sl ([.ref x, .int p0])).length) Slot.unset).toArray = ls at hl ⊢
  have hl : lv_has ls 2 [(0, .ref x), (1, .int p0)] := hl
  refine lv_aload_n hx hb dX10_singer_0 rfl (lv_at hl 0 rfl) ?_
  have hc_1 := hP.sub (ws' := [(x, .inr (0, [.ref a0, .ref a1, .ref a2, .ref a3, .ref a4, .ref a5, .ref a6, .int 0, .int 0, .int 0, .int 0, .int 0, .int 0, .int 0]))]) [0] rfl
  exact vx_callv (vx_runV (As := []) (rest := []) ⟨hx, hb, hml, hown, hts⟩ (c_X10_requireShow l hfl z0 D g x a0 a1 a2 a3 a4 a5 a6) (cwV 0 hts (lw_V m_911 m_913 mp_21 m_1 m_914) rfl rfl rfl (by decide +kernel) ⟨(Nat.le_of_ble_eq_true rfl), (Nat.le_of_ble_eq_true rfl)⟩) ⟨PR.blind, va_recv hK hP (ci := 0) (q0 := 0) rfl rfl, PR.pre hE hS nA_z hc_1⟩ rfl rfl hl.1 rfl (lv_room (Nat.le_of_ble_eq_true rfl)) dX10_singer_1 ⟨(Nat.le_of_ble_eq_true rfl), (Nat.le_of_ble_eq_true rfl)⟩) hS nA_B nA_A nA_B (fun E ce q9 u t H locs ht hvm _ hBX hz1 hk1 hS hce hcv hcl => by subst hBX; exact vx_out (fun x h => (htb x h).elim) hlocks hce hcv hcl (fun t2 ht2 _ => xE.of2 hS ht2) hS.2.2 (Nat.le_of_ble_eq_true rfl) (Nat.le_of_ble_eq_true rfl)) (fun u t H locs ht hvm hw _ _ _ _ => hw.elim)

set_option maxHeartbeats 4000000 in
set_option maxRecDepth 100000 in
theorem c_X10_zone (l : Launch) (hfl : l.stackTraces = false) (z0 : Nat) (D : va_G) (g : Nat → Nat) (x a0 a1 a2 a3 a4 a5 a6 : Nat) (p0 : Int32) : vx_Met l yX10_zone (wsp yX10_zone cX10_zone 2 (some .int)) ({ frames := 7, cells := 1, slots := 6, locals := 102 }) (va_Pc [.ref x, .int p0] (PR z0 D g [(x, .inr (0, [.ref a0, .ref a1, .ref a2, .ref a3, .ref a4, .ref a5, .ref a6, .int 0, .int 0, .int 0, .int 0, .int 0, .int 0, .int 0]))])) (va_Qi (fun (r : Int32) (_ : Unit) => False) (fun _ _ => True) nA) (xE "java/lang/IllegalStateException") 1 6 nA := by
  refine vx_ofW (cc := cX10_zone) (maxL := 2) (ret := (some .int)) (by decide) rfl ?_
  intro p e s m args below meth c s₁ B hml htb hv
  obtain ⟨rfl, hE, hP⟩ := hv
  have hx := B.exec
  have hb := B.bytes
  have hr := B.returns
  have hts0 := atoms_spec (ws := (wsp yX10_zone cX10_zone 2 (some .int))) B.pre
  have hts : ∀ w ∈ lw_all, w.before _ s = true := fun w h => hts0 w (List.mem_cons_of_mem _ h)
  have hown : s.vm.findClass "Theatrehouse" = some m.cls := findClass_of_methodNamed B.named
  have hlocks := B.notSynchronized
  have hK := hE.K
  have hS : va_S nA s.heap s.heap [] := va_S.rf
  have hP : va_P D classes [(x, .inr (0, [.ref a0, .ref a1, .ref a2, .ref a3, .ref a4, .ref a5, .ref a6, .int 0, .int 0, .int 0, .int 0, .int 0, .int 0, .int 0]))] s.heap := hP
  have hl := lv_entry ([.ref x, .int p0]) (n := 2) (Nat.le_of_ble_eq_true rfl)
  rw [lg_entry_eq]
  generalize (lg_sl ([.ref x, .int p0]) ++ List.replicate (2 - (lg_sl ([.ref x, .int p0])).length) Slot.unset).toArray = ls at hl ⊢
  have hl : lv_has ls 2 [(0, .ref x), (1, .int p0)] := hl
  refine lv_aload_n hx hb dX10_zone_0 rfl (lv_at hl 0 rfl) ?_
  have hc_1 := hP.sub (ws' := [(x, .inr (0, [.ref a0, .ref a1, .ref a2, .ref a3, .ref a4, .ref a5, .ref a6, .int 0, .int 0, .int 0, .int 0, .int 0, .int 0, .int 0]))]) [0] rfl
  exact vx_callv (vx_runV (As := []) (rest := []) ⟨hx, hb, hml, hown, hts⟩ (c_X10_requireShow l hfl z0 D g x a0 a1 a2 a3 a4 a5 a6) (cwV 0 hts (lw_V m_911 m_913 mp_21 m_1 m_914) rfl rfl rfl (by decide +kernel) ⟨(Nat.le_of_ble_eq_true rfl), (Nat.le_of_ble_eq_true rfl)⟩) ⟨PR.blind, va_recv hK hP (ci := 0) (q0 := 0) rfl rfl, PR.pre hE hS nA_z hc_1⟩ rfl rfl hl.1 rfl (lv_room (Nat.le_of_ble_eq_true rfl)) dX10_zone_1 ⟨(Nat.le_of_ble_eq_true rfl), (Nat.le_of_ble_eq_true rfl)⟩) hS nA_B nA_A nA_B (fun E ce q9 u t H locs ht hvm _ hBX hz1 hk1 hS hce hcv hcl => by subst hBX; exact vx_out (fun x h => (htb x h).elim) hlocks hce hcv hcl (fun t2 ht2 _ => xE.of2 hS ht2) hS.2.2 (Nat.le_of_ble_eq_true rfl) (Nat.le_of_ble_eq_true rfl)) (fun u t H locs ht hvm hw _ _ _ _ => hw.elim)

set_option maxHeartbeats 4000000 in
set_option maxRecDepth 100000 in
theorem c_X10_minutes (l : Launch) (hfl : l.stackTraces = false) (z0 : Nat) (D : va_G) (g : Nat → Nat) (x a0 a1 a2 a3 a4 a5 a6 : Nat) : vx_Met l yX10_minutes (wsp yX10_minutes cX10_minutes 1 (some .int)) ({ frames := 7, cells := 1, slots := 6, locals := 102 }) (va_Pc [.ref x] (PR z0 D g [(x, .inr (0, [.ref a0, .ref a1, .ref a2, .ref a3, .ref a4, .ref a5, .ref a6, .int 0, .int 0, .int 0, .int 0, .int 0, .int 0, .int 0]))])) (va_Qi (fun (r : Int32) (_ : Unit) => False) (fun _ _ => True) nA) (xE "java/lang/IllegalStateException") 1 6 nA := by
  refine vx_ofW (cc := cX10_minutes) (maxL := 1) (ret := (some .int)) (by decide) rfl ?_
  intro p e s m args below meth c s₁ B hml htb hv
  obtain ⟨rfl, hE, hP⟩ := hv
  have hx := B.exec
  have hb := B.bytes
  have hr := B.returns
  have hts0 := atoms_spec (ws := (wsp yX10_minutes cX10_minutes 1 (some .int))) B.pre
  have hts : ∀ w ∈ lw_all, w.before _ s = true := fun w h => hts0 w (List.mem_cons_of_mem _ h)
  have hown : s.vm.findClass "Theatrehouse" = some m.cls := findClass_of_methodNamed B.named
  have hlocks := B.notSynchronized
  have hK := hE.K
  have hS : va_S nA s.heap s.heap [] := va_S.rf
  have hP : va_P D classes [(x, .inr (0, [.ref a0, .ref a1, .ref a2, .ref a3, .ref a4, .ref a5, .ref a6, .int 0, .int 0, .int 0, .int 0, .int 0, .int 0, .int 0]))] s.heap := hP
  have hl := lv_entry ([.ref x]) (n := 1) (Nat.le_of_ble_eq_true rfl)
  rw [lg_entry_eq]
  generalize (lg_sl ([.ref x]) ++ List.replicate (1 - (lg_sl ([.ref x])).length) Slot.unset).toArray = ls at hl ⊢
  have hl : lv_has ls 1 [(0, .ref x)] := hl
  refine lv_aload_n hx hb dX10_minutes_0 rfl (lv_at hl 0 rfl) ?_
  have hc_1 := hP.sub (ws' := [(x, .inr (0, [.ref a0, .ref a1, .ref a2, .ref a3, .ref a4, .ref a5, .ref a6, .int 0, .int 0, .int 0, .int 0, .int 0, .int 0, .int 0]))]) [0] rfl
  exact vx_callv (vx_runV (As := []) (rest := []) ⟨hx, hb, hml, hown, hts⟩ (c_X10_requireShow l hfl z0 D g x a0 a1 a2 a3 a4 a5 a6) (cwV 0 hts (lw_V m_911 m_913 mp_21 m_1 m_914) rfl rfl rfl (by decide +kernel) ⟨(Nat.le_of_ble_eq_true rfl), (Nat.le_of_ble_eq_true rfl)⟩) ⟨PR.blind, va_recv hK hP (ci := 0) (q0 := 0) rfl rfl, PR.pre hE hS nA_z hc_1⟩ rfl rfl hl.1 rfl (lv_room (Nat.le_of_ble_eq_true rfl)) dX10_minutes_1 ⟨(Nat.le_of_ble_eq_true rfl), (Nat.le_of_ble_eq_true rfl)⟩) hS nA_B nA_A nA_B (fun E ce q9 u t H locs ht hvm _ hBX hz1 hk1 hS hce hcv hcl => by subst hBX; exact vx_out (fun x h => (htb x h).elim) hlocks hce hcv hcl (fun t2 ht2 _ => xE.of2 hS ht2) hS.2.2 (Nat.le_of_ble_eq_true rfl) (Nat.le_of_ble_eq_true rfl)) (fun u t H locs ht hvm hw _ _ _ _ => hw.elim)

set_option maxHeartbeats 4000000 in
set_option maxRecDepth 100000 in
theorem c_X10_states (l : Launch) (hfl : l.stackTraces = false) (z0 : Nat) (D : va_G) (g : Nat → Nat) (x a0 a1 a2 a3 a4 a5 a6 : Nat) : vx_Met l yX10_states (wsp yX10_states cX10_states 1 (some .int)) ({ frames := 8, cells := 1, slots := 6, locals := 122 }) (va_Pc [.ref x] (PR z0 D g [(x, .inr (0, [.ref a0, .ref a1, .ref a2, .ref a3, .ref a4, .ref a5, .ref a6, .int 0, .int 0, .int 0, .int 0, .int 0, .int 0, .int 0]))])) (va_Qi (fun (r : Int32) (_ : Unit) => False) (fun _ _ => True) nA) (xE "java/lang/IllegalStateException") 1 6 nA := by
  refine vx_ofW (cc := cX10_states) (maxL := 1) (ret := (some .int)) (by decide) rfl ?_
  intro p e s m args below meth c s₁ B hml htb hv
  obtain ⟨rfl, hE, hP⟩ := hv
  have hx := B.exec
  have hb := B.bytes
  have hr := B.returns
  have hts0 := atoms_spec (ws := (wsp yX10_states cX10_states 1 (some .int))) B.pre
  have hts : ∀ w ∈ lw_all, w.before _ s = true := fun w h => hts0 w (List.mem_cons_of_mem _ h)
  have hown : s.vm.findClass "Theatrehouse" = some m.cls := findClass_of_methodNamed B.named
  have hlocks := B.notSynchronized
  have hK := hE.K
  have hS : va_S nA s.heap s.heap [] := va_S.rf
  have hP : va_P D classes [(x, .inr (0, [.ref a0, .ref a1, .ref a2, .ref a3, .ref a4, .ref a5, .ref a6, .int 0, .int 0, .int 0, .int 0, .int 0, .int 0, .int 0]))] s.heap := hP
  have hl := lv_entry ([.ref x]) (n := 1) (Nat.le_of_ble_eq_true rfl)
  rw [lg_entry_eq]
  generalize (lg_sl ([.ref x]) ++ List.replicate (1 - (lg_sl ([.ref x])).length) Slot.unset).toArray = ls at hl ⊢
  have hl : lv_has ls 1 [(0, .ref x)] := hl
  refine lv_aload_n hx hb dX10_states_0 rfl (lv_at hl 0 rfl) ?_
  have hc_1 := hP.sub (ws' := [(x, .inr (0, [.ref a0, .ref a1, .ref a2, .ref a3, .ref a4, .ref a5, .ref a6, .int 0, .int 0, .int 0, .int 0, .int 0, .int 0, .int 0]))]) [0] rfl
  exact vx_callv (vx_runV (As := []) (rest := []) ⟨hx, hb, hml, hown, hts⟩ (c_X10_requireToldOrders l hfl z0 D g x a0 a1 a2 a3 a4 a5 a6) (cwV 0 hts (lw_V m_1016 m_1018 mp_24 m_1 m_1019) rfl rfl rfl (by decide +kernel) ⟨(Nat.le_of_ble_eq_true rfl), (Nat.le_of_ble_eq_true rfl)⟩) ⟨PR.blind, va_recv hK hP (ci := 0) (q0 := 0) rfl rfl, PR.pre hE hS nA_z hc_1⟩ rfl rfl hl.1 rfl (lv_room (Nat.le_of_ble_eq_true rfl)) dX10_states_1 ⟨(Nat.le_of_ble_eq_true rfl), (Nat.le_of_ble_eq_true rfl)⟩) hS nA_B nA_A nA_B (fun E ce q9 u t H locs ht hvm _ hBX hz1 hk1 hS hce hcv hcl => by subst hBX; exact vx_out (fun x h => (htb x h).elim) hlocks hce hcv hcl (fun t2 ht2 _ => xE.of2 hS ht2) hS.2.2 (Nat.le_of_ble_eq_true rfl) (Nat.le_of_ble_eq_true rfl)) (fun u t H locs ht hvm hw _ _ _ _ => hw.elim)

set_option maxHeartbeats 4000000 in
set_option maxRecDepth 100000 in
theorem c_X10_hasOrder (l : Launch) (hfl : l.stackTraces = false) (z0 : Nat) (D : va_G) (g : Nat → Nat) (x a0 a1 a2 a3 a4 a5 a6 : Nat) : vx_Met l yX10_hasOrder (wsp yX10_hasOrder cX10_hasOrder 1 (some .boolean)) ({ frames := 8, cells := 1, slots := 6, locals := 122 }) (va_Pc [.ref x] (PR z0 D g [(x, .inr (0, [.ref a0, .ref a1, .ref a2, .ref a3, .ref a4, .ref a5, .ref a6, .int 0, .int 0, .int 0, .int 0, .int 0, .int 0, .int 0]))])) (va_Qi (fun (r : Int32) (_ : Unit) => False) (fun _ _ => True) nA) (xE "java/lang/IllegalStateException") 1 6 nA := by
  refine vx_ofW (cc := cX10_hasOrder) (maxL := 1) (ret := (some .boolean)) (by decide) rfl ?_
  intro p e s m args below meth c s₁ B hml htb hv
  obtain ⟨rfl, hE, hP⟩ := hv
  have hx := B.exec
  have hb := B.bytes
  have hr := B.returns
  have hts0 := atoms_spec (ws := (wsp yX10_hasOrder cX10_hasOrder 1 (some .boolean))) B.pre
  have hts : ∀ w ∈ lw_all, w.before _ s = true := fun w h => hts0 w (List.mem_cons_of_mem _ h)
  have hown : s.vm.findClass "Theatrehouse" = some m.cls := findClass_of_methodNamed B.named
  have hlocks := B.notSynchronized
  have hK := hE.K
  have hS : va_S nA s.heap s.heap [] := va_S.rf
  have hP : va_P D classes [(x, .inr (0, [.ref a0, .ref a1, .ref a2, .ref a3, .ref a4, .ref a5, .ref a6, .int 0, .int 0, .int 0, .int 0, .int 0, .int 0, .int 0]))] s.heap := hP
  have hl := lv_entry ([.ref x]) (n := 1) (Nat.le_of_ble_eq_true rfl)
  rw [lg_entry_eq]
  generalize (lg_sl ([.ref x]) ++ List.replicate (1 - (lg_sl ([.ref x])).length) Slot.unset).toArray = ls at hl ⊢
  have hl : lv_has ls 1 [(0, .ref x)] := hl
  refine lv_aload_n hx hb dX10_hasOrder_0 rfl (lv_at hl 0 rfl) ?_
  have hc_1 := hP.sub (ws' := [(x, .inr (0, [.ref a0, .ref a1, .ref a2, .ref a3, .ref a4, .ref a5, .ref a6, .int 0, .int 0, .int 0, .int 0, .int 0, .int 0, .int 0]))]) [0] rfl
  exact vx_callv (vx_runV (As := []) (rest := []) ⟨hx, hb, hml, hown, hts⟩ (c_X10_requireToldOrders l hfl z0 D g x a0 a1 a2 a3 a4 a5 a6) (cwV 0 hts (lw_V m_1016 m_1018 mp_24 m_1 m_1019) rfl rfl rfl (by decide +kernel) ⟨(Nat.le_of_ble_eq_true rfl), (Nat.le_of_ble_eq_true rfl)⟩) ⟨PR.blind, va_recv hK hP (ci := 0) (q0 := 0) rfl rfl, PR.pre hE hS nA_z hc_1⟩ rfl rfl hl.1 rfl (lv_room (Nat.le_of_ble_eq_true rfl)) dX10_hasOrder_1 ⟨(Nat.le_of_ble_eq_true rfl), (Nat.le_of_ble_eq_true rfl)⟩) hS nA_B nA_A nA_B (fun E ce q9 u t H locs ht hvm _ hBX hz1 hk1 hS hce hcv hcl => by subst hBX; exact vx_out (fun x h => (htb x h).elim) hlocks hce hcv hcl (fun t2 ht2 _ => xE.of2 hS ht2) hS.2.2 (Nat.le_of_ble_eq_true rfl) (Nat.le_of_ble_eq_true rfl)) (fun u t H locs ht hvm hw _ _ _ _ => hw.elim)

set_option maxHeartbeats 4000000 in
set_option maxRecDepth 100000 in
theorem c_X10_orderAt (l : Launch) (hfl : l.stackTraces = false) (z0 : Nat) (D : va_G) (g : Nat → Nat) (x a0 a1 a2 a3 a4 a5 a6 : Nat) (p0 : Int32) : vx_Met l yX10_orderAt (wsp yX10_orderAt cX10_orderAt 2 (some .int)) ({ frames := 8, cells := 1, slots := 6, locals := 122 }) (va_Pc [.ref x, .int p0] (PR z0 D g [(x, .inr (0, [.ref a0, .ref a1, .ref a2, .ref a3, .ref a4, .ref a5, .ref a6, .int 0, .int 0, .int 0, .int 0, .int 0, .int 0, .int 0]))])) (va_Qi (fun (r : Int32) (_ : Unit) => False) (fun _ _ => True) nA) (xE "java/lang/IllegalStateException") 1 6 nA := by
  refine vx_ofW (cc := cX10_orderAt) (maxL := 2) (ret := (some .int)) (by decide) rfl ?_
  intro p e s m args below meth c s₁ B hml htb hv
  obtain ⟨rfl, hE, hP⟩ := hv
  have hx := B.exec
  have hb := B.bytes
  have hr := B.returns
  have hts0 := atoms_spec (ws := (wsp yX10_orderAt cX10_orderAt 2 (some .int))) B.pre
  have hts : ∀ w ∈ lw_all, w.before _ s = true := fun w h => hts0 w (List.mem_cons_of_mem _ h)
  have hown : s.vm.findClass "Theatrehouse" = some m.cls := findClass_of_methodNamed B.named
  have hlocks := B.notSynchronized
  have hK := hE.K
  have hS : va_S nA s.heap s.heap [] := va_S.rf
  have hP : va_P D classes [(x, .inr (0, [.ref a0, .ref a1, .ref a2, .ref a3, .ref a4, .ref a5, .ref a6, .int 0, .int 0, .int 0, .int 0, .int 0, .int 0, .int 0]))] s.heap := hP
  have hl := lv_entry ([.ref x, .int p0]) (n := 2) (Nat.le_of_ble_eq_true rfl)
  rw [lg_entry_eq]
  generalize (lg_sl ([.ref x, .int p0]) ++ List.replicate (2 - (lg_sl ([.ref x, .int p0])).length) Slot.unset).toArray = ls at hl ⊢
  have hl : lv_has ls 2 [(0, .ref x), (1, .int p0)] := hl
  refine lv_aload_n hx hb dX10_orderAt_0 rfl (lv_at hl 0 rfl) ?_
  have hc_1 := hP.sub (ws' := [(x, .inr (0, [.ref a0, .ref a1, .ref a2, .ref a3, .ref a4, .ref a5, .ref a6, .int 0, .int 0, .int 0, .int 0, .int 0, .int 0, .int 0]))]) [0] rfl
  exact vx_callv (vx_runV (As := []) (rest := []) ⟨hx, hb, hml, hown, hts⟩ (c_X10_requireToldOrders l hfl z0 D g x a0 a1 a2 a3 a4 a5 a6) (cwV 0 hts (lw_V m_1016 m_1018 mp_24 m_1 m_1019) rfl rfl rfl (by decide +kernel) ⟨(Nat.le_of_ble_eq_true rfl), (Nat.le_of_ble_eq_true rfl)⟩) ⟨PR.blind, va_recv hK hP (ci := 0) (q0 := 0) rfl rfl, PR.pre hE hS nA_z hc_1⟩ rfl rfl hl.1 rfl (lv_room (Nat.le_of_ble_eq_true rfl)) dX10_orderAt_1 ⟨(Nat.le_of_ble_eq_true rfl), (Nat.le_of_ble_eq_true rfl)⟩) hS nA_B nA_A nA_B (fun E ce q9 u t H locs ht hvm _ hBX hz1 hk1 hS hce hcv hcl => by subst hBX; exact vx_out (fun x h => (htb x h).elim) hlocks hce hcv hcl (fun t2 ht2 _ => xE.of2 hS ht2) hS.2.2 (Nat.le_of_ble_eq_true rfl) (Nat.le_of_ble_eq_true rfl)) (fun u t H locs ht hvm hw _ _ _ _ => hw.elim)

set_option maxHeartbeats 4000000 in
set_option maxRecDepth 100000 in
theorem c_X10_farthest (l : Launch) (hfl : l.stackTraces = false) (z0 : Nat) (D : va_G) (g : Nat → Nat) (x a0 a1 a2 a3 a4 a5 a6 : Nat) : vx_Met l yX10_farthest (wsp yX10_farthest cX10_farthest 1 (some .int)) ({ frames := 8, cells := 1, slots := 6, locals := 122 }) (va_Pc [.ref x] (PR z0 D g [(x, .inr (0, [.ref a0, .ref a1, .ref a2, .ref a3, .ref a4, .ref a5, .ref a6, .int 0, .int 0, .int 0, .int 0, .int 0, .int 0, .int 0]))])) (va_Qi (fun (r : Int32) (_ : Unit) => False) (fun _ _ => True) nA) (xE "java/lang/IllegalStateException") 1 6 nA := by
  refine vx_ofW (cc := cX10_farthest) (maxL := 1) (ret := (some .int)) (by decide) rfl ?_
  intro p e s m args below meth c s₁ B hml htb hv
  obtain ⟨rfl, hE, hP⟩ := hv
  have hx := B.exec
  have hb := B.bytes
  have hr := B.returns
  have hts0 := atoms_spec (ws := (wsp yX10_farthest cX10_farthest 1 (some .int))) B.pre
  have hts : ∀ w ∈ lw_all, w.before _ s = true := fun w h => hts0 w (List.mem_cons_of_mem _ h)
  have hown : s.vm.findClass "Theatrehouse" = some m.cls := findClass_of_methodNamed B.named
  have hlocks := B.notSynchronized
  have hK := hE.K
  have hS : va_S nA s.heap s.heap [] := va_S.rf
  have hP : va_P D classes [(x, .inr (0, [.ref a0, .ref a1, .ref a2, .ref a3, .ref a4, .ref a5, .ref a6, .int 0, .int 0, .int 0, .int 0, .int 0, .int 0, .int 0]))] s.heap := hP
  have hl := lv_entry ([.ref x]) (n := 1) (Nat.le_of_ble_eq_true rfl)
  rw [lg_entry_eq]
  generalize (lg_sl ([.ref x]) ++ List.replicate (1 - (lg_sl ([.ref x])).length) Slot.unset).toArray = ls at hl ⊢
  have hl : lv_has ls 1 [(0, .ref x)] := hl
  refine lv_aload_n hx hb dX10_farthest_0 rfl (lv_at hl 0 rfl) ?_
  have hc_1 := hP.sub (ws' := [(x, .inr (0, [.ref a0, .ref a1, .ref a2, .ref a3, .ref a4, .ref a5, .ref a6, .int 0, .int 0, .int 0, .int 0, .int 0, .int 0, .int 0]))]) [0] rfl
  exact vx_callv (vx_runV (As := []) (rest := []) ⟨hx, hb, hml, hown, hts⟩ (c_X10_requireToldOrders l hfl z0 D g x a0 a1 a2 a3 a4 a5 a6) (cwV 0 hts (lw_V m_1016 m_1018 mp_24 m_1 m_1019) rfl rfl rfl (by decide +kernel) ⟨(Nat.le_of_ble_eq_true rfl), (Nat.le_of_ble_eq_true rfl)⟩) ⟨PR.blind, va_recv hK hP (ci := 0) (q0 := 0) rfl rfl, PR.pre hE hS nA_z hc_1⟩ rfl rfl hl.1 rfl (lv_room (Nat.le_of_ble_eq_true rfl)) dX10_farthest_1 ⟨(Nat.le_of_ble_eq_true rfl), (Nat.le_of_ble_eq_true rfl)⟩) hS nA_B nA_A nA_B (fun E ce q9 u t H locs ht hvm _ hBX hz1 hk1 hS hce hcv hcl => by subst hBX; exact vx_out (fun x h => (htb x h).elim) hlocks hce hcv hcl (fun t2 ht2 _ => xE.of2 hS ht2) hS.2.2 (Nat.le_of_ble_eq_true rfl) (Nat.le_of_ble_eq_true rfl)) (fun u t H locs ht hvm hw _ _ _ _ => hw.elim)

set_option maxHeartbeats 4000000 in
set_option maxRecDepth 100000 in
theorem c_X10_stuck (l : Launch) (hfl : l.stackTraces = false) (z0 : Nat) (D : va_G) (g : Nat → Nat) (x a0 a1 a2 a3 a4 a5 a6 : Nat) : vx_Met l yX10_stuck (wsp yX10_stuck cX10_stuck 1 (some .int)) ({ frames := 8, cells := 1, slots := 6, locals := 122 }) (va_Pc [.ref x] (PR z0 D g [(x, .inr (0, [.ref a0, .ref a1, .ref a2, .ref a3, .ref a4, .ref a5, .ref a6, .int 0, .int 0, .int 0, .int 0, .int 0, .int 0, .int 0]))])) (va_Qi (fun (r : Int32) (_ : Unit) => False) (fun _ _ => True) nA) (xE "java/lang/IllegalStateException") 1 6 nA := by
  refine vx_ofW (cc := cX10_stuck) (maxL := 1) (ret := (some .int)) (by decide) rfl ?_
  intro p e s m args below meth c s₁ B hml htb hv
  obtain ⟨rfl, hE, hP⟩ := hv
  have hx := B.exec
  have hb := B.bytes
  have hr := B.returns
  have hts0 := atoms_spec (ws := (wsp yX10_stuck cX10_stuck 1 (some .int))) B.pre
  have hts : ∀ w ∈ lw_all, w.before _ s = true := fun w h => hts0 w (List.mem_cons_of_mem _ h)
  have hown : s.vm.findClass "Theatrehouse" = some m.cls := findClass_of_methodNamed B.named
  have hlocks := B.notSynchronized
  have hK := hE.K
  have hS : va_S nA s.heap s.heap [] := va_S.rf
  have hP : va_P D classes [(x, .inr (0, [.ref a0, .ref a1, .ref a2, .ref a3, .ref a4, .ref a5, .ref a6, .int 0, .int 0, .int 0, .int 0, .int 0, .int 0, .int 0]))] s.heap := hP
  have hl := lv_entry ([.ref x]) (n := 1) (Nat.le_of_ble_eq_true rfl)
  rw [lg_entry_eq]
  generalize (lg_sl ([.ref x]) ++ List.replicate (1 - (lg_sl ([.ref x])).length) Slot.unset).toArray = ls at hl ⊢
  have hl : lv_has ls 1 [(0, .ref x)] := hl
  refine lv_aload_n hx hb dX10_stuck_0 rfl (lv_at hl 0 rfl) ?_
  have hc_1 := hP.sub (ws' := [(x, .inr (0, [.ref a0, .ref a1, .ref a2, .ref a3, .ref a4, .ref a5, .ref a6, .int 0, .int 0, .int 0, .int 0, .int 0, .int 0, .int 0]))]) [0] rfl
  exact vx_callv (vx_runV (As := []) (rest := []) ⟨hx, hb, hml, hown, hts⟩ (c_X10_requireToldOrders l hfl z0 D g x a0 a1 a2 a3 a4 a5 a6) (cwV 0 hts (lw_V m_1016 m_1018 mp_24 m_1 m_1019) rfl rfl rfl (by decide +kernel) ⟨(Nat.le_of_ble_eq_true rfl), (Nat.le_of_ble_eq_true rfl)⟩) ⟨PR.blind, va_recv hK hP (ci := 0) (q0 := 0) rfl rfl, PR.pre hE hS nA_z hc_1⟩ rfl rfl hl.1 rfl (lv_room (Nat.le_of_ble_eq_true rfl)) dX10_stuck_1 ⟨(Nat.le_of_ble_eq_true rfl), (Nat.le_of_ble_eq_true rfl)⟩) hS nA_B nA_A nA_B (fun E ce q9 u t H locs ht hvm _ hBX hz1 hk1 hS hce hcv hcl => by subst hBX; exact vx_out (fun x h => (htb x h).elim) hlocks hce hcv hcl (fun t2 ht2 _ => xE.of2 hS ht2) hS.2.2 (Nat.le_of_ble_eq_true rfl) (Nat.le_of_ble_eq_true rfl)) (fun u t H locs ht hvm hw _ _ _ _ => hw.elim)

set_option maxHeartbeats 4000000 in
set_option maxRecDepth 100000 in
theorem c_X10_orders (l : Launch) (hfl : l.stackTraces = false) (z0 : Nat) (D : va_G) (g : Nat → Nat) (x a0 a1 a2 a3 a4 a5 a6 : Nat) : vx_Met l yX10_orders (wsp yX10_orders cX10_orders 1 (some .long)) ({ frames := 8, cells := 1, slots := 6, locals := 122 }) (va_Pc [.ref x] (PR z0 D g [(x, .inr (0, [.ref a0, .ref a1, .ref a2, .ref a3, .ref a4, .ref a5, .ref a6, .int 0, .int 0, .int 0, .int 0, .int 0, .int 0, .int 0]))])) (va_Ql (fun (r : Int64) (_ : Unit) => False) (fun _ _ => True) nA) (xE "java/lang/IllegalStateException") 1 6 nA := by
  refine vx_ofW (cc := cX10_orders) (maxL := 1) (ret := (some .long)) (by decide) rfl ?_
  intro p e s m args below meth c s₁ B hml htb hv
  obtain ⟨rfl, hE, hP⟩ := hv
  have hx := B.exec
  have hb := B.bytes
  have hr := B.returns
  have hts0 := atoms_spec (ws := (wsp yX10_orders cX10_orders 1 (some .long))) B.pre
  have hts : ∀ w ∈ lw_all, w.before _ s = true := fun w h => hts0 w (List.mem_cons_of_mem _ h)
  have hown : s.vm.findClass "Theatrehouse" = some m.cls := findClass_of_methodNamed B.named
  have hlocks := B.notSynchronized
  have hK := hE.K
  have hS : va_S nA s.heap s.heap [] := va_S.rf
  have hP : va_P D classes [(x, .inr (0, [.ref a0, .ref a1, .ref a2, .ref a3, .ref a4, .ref a5, .ref a6, .int 0, .int 0, .int 0, .int 0, .int 0, .int 0, .int 0]))] s.heap := hP
  have hl := lv_entry ([.ref x]) (n := 1) (Nat.le_of_ble_eq_true rfl)
  rw [lg_entry_eq]
  generalize (lg_sl ([.ref x]) ++ List.replicate (1 - (lg_sl ([.ref x])).length) Slot.unset).toArray = ls at hl ⊢
  have hl : lv_has ls 1 [(0, .ref x)] := hl
  refine lv_aload_n hx hb dX10_orders_0 rfl (lv_at hl 0 rfl) ?_
  have hc_1 := hP.sub (ws' := [(x, .inr (0, [.ref a0, .ref a1, .ref a2, .ref a3, .ref a4, .ref a5, .ref a6, .int 0, .int 0, .int 0, .int 0, .int 0, .int 0, .int 0]))]) [0] rfl
  exact vx_callv (vx_runV (As := []) (rest := []) ⟨hx, hb, hml, hown, hts⟩ (c_X10_requireToldOrders l hfl z0 D g x a0 a1 a2 a3 a4 a5 a6) (cwV 0 hts (lw_V m_1016 m_1018 mp_24 m_1 m_1019) rfl rfl rfl (by decide +kernel) ⟨(Nat.le_of_ble_eq_true rfl), (Nat.le_of_ble_eq_true rfl)⟩) ⟨PR.blind, va_recv hK hP (ci := 0) (q0 := 0) rfl rfl, PR.pre hE hS nA_z hc_1⟩ rfl rfl hl.1 rfl (lv_room (Nat.le_of_ble_eq_true rfl)) dX10_orders_1 ⟨(Nat.le_of_ble_eq_true rfl), (Nat.le_of_ble_eq_true rfl)⟩) hS nA_B nA_A nA_B (fun E ce q9 u t H locs ht hvm _ hBX hz1 hk1 hS hce hcv hcl => by subst hBX; exact vx_out (fun x h => (htb x h).elim) hlocks hce hcv hcl (fun t2 ht2 _ => xE.of2 hS ht2) hS.2.2 (Nat.le_of_ble_eq_true rfl) (Nat.le_of_ble_eq_true rfl)) (fun u t H locs ht hvm hw _ _ _ _ => hw.elim)

set_option maxHeartbeats 4000000 in
set_option maxRecDepth 100000 in
theorem c_X10_meanMinutes (l : Launch) (hfl : l.stackTraces = false) (z0 : Nat) (D : va_G) (g : Nat → Nat) (x a0 a1 a2 a3 a4 a5 a6 : Nat) : vx_Met l yX10_meanMinutes (wsp yX10_meanMinutes cX10_meanMinutes 1 (some .double)) ({ frames := 6, cells := 1, slots := 6, locals := 82 }) (va_Pc [.ref x] (PR z0 D g [(x, .inr (0, [.ref a0, .ref a1, .ref a2, .ref a3, .ref a4, .ref a5, .ref a6, .int 0, .int 0, .int 0, .int 0, .int 0, .int 0, .int 0]))])) (va_Qd (fun (r : UInt64) (_ : Unit) => False) (fun _ _ => True) nA) (xE "java/lang/ArithmeticException") 1 6 nA := by
  refine vx_ofW (cc := cX10_meanMinutes) (maxL := 1) (ret := (some .double)) (by decide) rfl ?_
  intro p e s m args below meth c s₁ B hml htb hv
  obtain ⟨rfl, hE, hP⟩ := hv
  have hx := B.exec
  have hb := B.bytes
  have hr := B.returns
  have hts0 := atoms_spec (ws := (wsp yX10_meanMinutes cX10_meanMinutes 1 (some .double))) B.pre
  have hts : ∀ w ∈ lw_all, w.before _ s = true := fun w h => hts0 w (List.mem_cons_of_mem _ h)
  have hown : s.vm.findClass "Theatrehouse" = some m.cls := findClass_of_methodNamed B.named
  have hlocks := B.notSynchronized
  have hK := hE.K
  have hS : va_S nA s.heap s.heap [] := va_S.rf
  have hP : va_P D classes [(x, .inr (0, [.ref a0, .ref a1, .ref a2, .ref a3, .ref a4, .ref a5, .ref a6, .int 0, .int 0, .int 0, .int 0, .int 0, .int 0, .int 0]))] s.heap := hP
  have hl := lv_entry ([.ref x]) (n := 1) (Nat.le_of_ble_eq_true rfl)
  rw [lg_entry_eq]
  generalize (lg_sl ([.ref x]) ++ List.replicate (1 - (lg_sl ([.ref x])).length) Slot.unset).toArray = ls at hl ⊢
  have hl : lv_has ls 1 [(0, .ref x)] := hl
  refine lv_aload_n hx hb dX10_meanMinutes_0 rfl (lv_at hl 0 rfl) ?_
  refine va_get (D := D) (ci := 0) (v := .int 0) (C := RX10) (T := TX10) (N := 14) hx hb hts i_X10 hown hK hP 0 rfl rfl 12 (by decide) (hts _ m_371) (fun _ h9 => h9) rfl dX10_meanMinutes_1 ?_
  refine lv_if_ne (tgt := 18) hx hb dX10_meanMinutes_4 (by decide) (fun h9 => absurd (by decide) h9) (fun _ => ?_)
  obtain ⟨sa, hsa⟩ := hE.str (i := 15) rfl
  exact vx_throwSW hx hb hfl (own := "Theatrehouse") (cls := "java/lang/ArithmeticException") (text := "no evening has ended") (names := ["java/lang/RuntimeException", "java/lang/Exception"]) (ik := 369) (is := 374) (ic := 373) (sa := sa) (A := nA) hown (by decide +kernel) (by decide +kernel) (hts _ m_1100) (hts _ m_62) hsa (lx_hat tha_X10_373 hts hE.ng) thg_X10_373 (hE.U nA_z) (hE.N nA_z) hS (hl.1.trans hml.symm) dX10_meanMinutes_7 dX10_meanMinutes_10 dX10_meanMinutes_11 dX10_meanMinutes_14 dX10_meanMinutes_17 (fun x h => (htb x h).elim) (Nat.le_of_ble_eq_true rfl) (Nat.le_of_ble_eq_true rfl) (Nat.le_of_ble_eq_true rfl) (Nat.le_of_ble_eq_true rfl) hlocks (fun t _ h1 h2 => xE.of hS h1 h2) hS.2.2 (Nat.le_of_ble_eq_true rfl) (Nat.le_of_ble_eq_true rfl)

set_option maxHeartbeats 4000000 in
set_option maxRecDepth 100000 in
theorem c_X10_day (l : Launch) (z0 : Nat) (D : va_G) (g : Nat → Nat) (x a0 a1 a2 a3 a4 a5 a6 : Nat) : Met l yX10_day (wsp yX10_day cX10_day 1 (some .int)) ({ frames := 0, cells := 0, slots := 0, locals := 0 }) (va_Pc [.ref x] (PR z0 D g [(x, .inr (0, [.ref a0, .ref a1, .ref a2, .ref a3, .ref a4, .ref a5, .ref a6, .int 0, .int 0, .int 0, .int 0, .int 0, .int 0, .int 0]))])) (va_Qi (fun (r : Int32) (_ : Unit) => r = 0) (fun _ _ => True) nA) 0 0 nA := by
  refine Met.ofW (cc := cX10_day) (maxL := 1) (ret := (some .int)) (by decide) rfl ?_
  intro p e s m args below meth c s₁ B hml hv
  obtain ⟨rfl, hE, hP⟩ := hv
  have hx := B.exec
  have hb := B.bytes
  have hr := B.returns
  have hts0 := atoms_spec (ws := (wsp yX10_day cX10_day 1 (some .int))) B.pre
  have hts : ∀ w ∈ lw_all, w.before _ s = true := fun w h => hts0 w (List.mem_cons_of_mem _ h)
  have hown : s.vm.findClass "Theatrehouse" = some m.cls := findClass_of_methodNamed B.named
  have hlocks := B.notSynchronized
  have hK := hE.K
  have hS : va_S nA s.heap s.heap [] := va_S.rf
  have hP : va_P D classes [(x, .inr (0, [.ref a0, .ref a1, .ref a2, .ref a3, .ref a4, .ref a5, .ref a6, .int 0, .int 0, .int 0, .int 0, .int 0, .int 0, .int 0]))] s.heap := hP
  have hl := lv_entry ([.ref x]) (n := 1) (Nat.le_of_ble_eq_true rfl)
  rw [lg_entry_eq]
  generalize (lg_sl ([.ref x]) ++ List.replicate (1 - (lg_sl ([.ref x])).length) Slot.unset).toArray = ls at hl ⊢
  have hl : lv_has ls 1 [(0, .ref x)] := hl
  refine lv_aload_n hx hb dX10_day_0 rfl (lv_at hl 0 rfl) ?_
  refine va_get (D := D) (ci := 0) (v := .int 0) (C := RX10) (T := TX10) (N := 14) hx hb hts i_X10 hown hK hP 0 rfl rfl 10 (by decide) (hts _ m_369) (fun _ h9 => h9) rfl dX10_day_1 ?_
  refine W.widen (k := 0) (n := 0) (Nat.le_of_ble_eq_true rfl) (Nat.le_of_ble_eq_true rfl) ?_
  exact W.iret (v := 0) hx hb hr (fun t ht hW => ⟨⟨0, (), rfl, rfl, trivial⟩, hS.F ht⟩) hS.2.2 dX10_day_4

set_option maxHeartbeats 4000000 in
set_option maxRecDepth 100000 in
theorem c_X10_evenings (l : Launch) (z0 : Nat) (D : va_G) (g : Nat → Nat) (x a0 a1 a2 a3 a4 a5 a6 : Nat) : Met l yX10_evenings (wsp yX10_evenings cX10_evenings 1 (some .int)) ({ frames := 0, cells := 0, slots := 0, locals := 0 }) (va_Pc [.ref x] (PR z0 D g [(x, .inr (0, [.ref a0, .ref a1, .ref a2, .ref a3, .ref a4, .ref a5, .ref a6, .int 0, .int 0, .int 0, .int 0, .int 0, .int 0, .int 0]))])) (va_Qi (fun (r : Int32) (_ : Unit) => r = 0) (fun _ _ => True) nA) 0 0 nA := by
  refine Met.ofW (cc := cX10_evenings) (maxL := 1) (ret := (some .int)) (by decide) rfl ?_
  intro p e s m args below meth c s₁ B hml hv
  obtain ⟨rfl, hE, hP⟩ := hv
  have hx := B.exec
  have hb := B.bytes
  have hr := B.returns
  have hts0 := atoms_spec (ws := (wsp yX10_evenings cX10_evenings 1 (some .int))) B.pre
  have hts : ∀ w ∈ lw_all, w.before _ s = true := fun w h => hts0 w (List.mem_cons_of_mem _ h)
  have hown : s.vm.findClass "Theatrehouse" = some m.cls := findClass_of_methodNamed B.named
  have hlocks := B.notSynchronized
  have hK := hE.K
  have hS : va_S nA s.heap s.heap [] := va_S.rf
  have hP : va_P D classes [(x, .inr (0, [.ref a0, .ref a1, .ref a2, .ref a3, .ref a4, .ref a5, .ref a6, .int 0, .int 0, .int 0, .int 0, .int 0, .int 0, .int 0]))] s.heap := hP
  have hl := lv_entry ([.ref x]) (n := 1) (Nat.le_of_ble_eq_true rfl)
  rw [lg_entry_eq]
  generalize (lg_sl ([.ref x]) ++ List.replicate (1 - (lg_sl ([.ref x])).length) Slot.unset).toArray = ls at hl ⊢
  have hl : lv_has ls 1 [(0, .ref x)] := hl
  refine lv_aload_n hx hb dX10_evenings_0 rfl (lv_at hl 0 rfl) ?_
  refine va_get (D := D) (ci := 0) (v := .int 0) (C := RX10) (T := TX10) (N := 14) hx hb hts i_X10 hown hK hP 0 rfl rfl 12 (by decide) (hts _ m_371) (fun _ h9 => h9) rfl dX10_evenings_1 ?_
  refine W.widen (k := 0) (n := 0) (Nat.le_of_ble_eq_true rfl) (Nat.le_of_ble_eq_true rfl) ?_
  exact W.iret (v := 0) hx hb hr (fun t ht hW => ⟨⟨0, (), rfl, rfl, trivial⟩, hS.F ht⟩) hS.2.2 dX10_evenings_4

set_option maxHeartbeats 4000000 in
set_option maxRecDepth 100000 in
theorem c_X10_isConsistent (l : Launch) (z0 : Nat) (D : va_G) (g : Nat → Nat) (x a0 a1 a2 a3 a4 a5 a6 : Nat) : Met l yX10_isConsistent (wsp yX10_isConsistent cX10_isConsistent 2 (some .boolean)) ({ frames := 0, cells := 0, slots := 0, locals := 0 }) (va_Pc [.ref x] (PR z0 D g [(x, .inr (0, [.ref a0, .ref a1, .ref a2, .ref a3, .ref a4, .ref a5, .ref a6, .int 0, .int 0, .int 0, .int 0, .int 0, .int 0, .int 0]))])) (va_Qi (fun (r : Int32) (_ : Unit) => r = 1) (fun _ _ => True) nA) 0 0 nA := by
  refine Met.ofW (cc := cX10_isConsistent) (maxL := 2) (ret := (some .boolean)) (by decide) rfl ?_
  intro p e s m args below meth c s₁ B hml hv
  obtain ⟨rfl, hE, hP⟩ := hv
  have hx := B.exec
  have hb := B.bytes
  have hr := B.returns
  have hts0 := atoms_spec (ws := (wsp yX10_isConsistent cX10_isConsistent 2 (some .boolean))) B.pre
  have hts : ∀ w ∈ lw_all, w.before _ s = true := fun w h => hts0 w (List.mem_cons_of_mem _ h)
  have hown : s.vm.findClass "Theatrehouse" = some m.cls := findClass_of_methodNamed B.named
  have hlocks := B.notSynchronized
  have hK := hE.K
  have hS : va_S nA s.heap s.heap [] := va_S.rf
  have hP : va_P D classes [(x, .inr (0, [.ref a0, .ref a1, .ref a2, .ref a3, .ref a4, .ref a5, .ref a6, .int 0, .int 0, .int 0, .int 0, .int 0, .int 0, .int 0]))] s.heap := hP
  have hl := lv_entry ([.ref x]) (n := 2) (Nat.le_of_ble_eq_true rfl)
  rw [lg_entry_eq]
  generalize (lg_sl ([.ref x]) ++ List.replicate (2 - (lg_sl ([.ref x])).length) Slot.unset).toArray = ls at hl ⊢
  have hl : lv_has ls 2 [(0, .ref x)] := hl
  refine lv_iconst (v := 0) hx hb dX10_isConsistent_0 (by decide) ?_
  refine lv_istore_n (lv' := [(1, .int 0), (0, .ref x)]) hx hb dX10_isConsistent_1 rfl hl (by decide) rfl (fun ls hl => ?_)
  refine lv_iload_n hx hb dX10_isConsistent_2 rfl (lv_at hl 0 rfl) ?_
  refine lv_aload_n hx hb dX10_isConsistent_3 rfl (lv_at hl 1 rfl) ?_
  refine va_get (D := D) (ci := 0) (v := .int 0) (C := RX10) (T := TX10) (N := 14) hx hb hts i_X10 hown hK hP 0 rfl rfl 7 (by decide) (hts _ m_366) (fun _ h9 => h9) rfl dX10_isConsistent_4 ?_
  refine lv_icmp_ge (tgt := 51) hx hb dX10_isConsistent_7 (by decide) (fun _ => ?_) (fun h9 => absurd (by decide) h9)
  refine lv_aload_n hx hb dX10_isConsistent_51 rfl (lv_at hl 1 rfl) ?_
  refine va_get (D := D) (ci := 0) (v := .int 0) (C := RX10) (T := TX10) (N := 14) hx hb hts i_X10 hown hK hP 0 rfl rfl 11 (by decide) (hts _ m_370) (fun _ h9 => h9) rfl dX10_isConsistent_52 ?_
  refine lv_if_eq (tgt := 69) hx hb dX10_isConsistent_55 (by decide) (fun _ => ?_) (fun h9 => absurd (by decide) h9)
  refine lv_iconst (v := 1) hx hb dX10_isConsistent_69 (by decide) ?_
  refine W.widen (k := 0) (n := 0) (Nat.le_of_ble_eq_true rfl) (Nat.le_of_ble_eq_true rfl) ?_
  exact W.zret (v := 1) hx hb hr (by decide) (fun t ht hW => ⟨⟨1, (), rfl, rfl, trivial⟩, hS.F ht⟩) hS.2.2 dX10_isConsistent_70
