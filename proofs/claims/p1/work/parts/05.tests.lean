theorem dX10_isPerson_0 : decode cX10_isPerson 0 = .ok (.iload_n 1, 1) := by decide +kernel
theorem dX10_isPerson_1 : decode cX10_isPerson 1 = .ok (.ifCond .lt 15, 3) := by decide +kernel
theorem dX10_isPerson_4 : decode cX10_isPerson 4 = .ok (.iload_n 1, 1) := by decide +kernel
theorem dX10_isPerson_5 : decode cX10_isPerson 5 = .ok (.aload_n 0, 1) := by decide +kernel
theorem dX10_isPerson_6 : decode cX10_isPerson 6 = .ok (.getfield 54, 3) := by decide +kernel
theorem dX10_isPerson_9 : decode cX10_isPerson 9 = .ok (.if_icmp .ge 7, 3) := by decide +kernel
theorem dX10_isPerson_16 : decode cX10_isPerson 16 = .ok (.iconst 0, 1) := by decide +kernel
theorem dX10_isPerson_17 : decode cX10_isPerson 17 = .ok (.ireturn, 1) := by decide +kernel
theorem dX10_requireMachine_0 : decode cX10_requireMachine 0 = .ok (.iload_n 1, 1) := by decide +kernel
theorem dX10_requireMachine_1 : decode cX10_requireMachine 1 = .ok (.ifCond .lt 11, 3) := by decide +kernel
theorem dX10_requireMachine_4 : decode cX10_requireMachine 4 = .ok (.iload_n 1, 1) := by decide +kernel
theorem dX10_requireMachine_5 : decode cX10_requireMachine 5 = .ok (.aload_n 0, 1) := by decide +kernel
theorem dX10_requireMachine_6 : decode cX10_requireMachine 6 = .ok (.getfield 58, 3) := by decide +kernel
theorem dX10_requireMachine_9 : decode cX10_requireMachine 9 = .ok (.if_icmp .lt 14, 3) := by decide +kernel
theorem dX10_requireMachine_12 : decode cX10_requireMachine 12 = .ok (.new 141, 3) := by decide +kernel
theorem dX10_requireMachine_15 : decode cX10_requireMachine 15 = .ok (.dup, 1) := by decide +kernel
theorem dX10_requireMachine_16 : decode cX10_requireMachine 16 = .ok (.ldc_w 405, 3) := by decide +kernel
theorem dX10_requireMachine_19 : decode cX10_requireMachine 19 = .ok (.invokespecial 145, 3) := by decide +kernel
theorem dX10_requireMachine_22 : decode cX10_requireMachine 22 = .ok (.athrow, 1) := by decide +kernel
theorem dX10_requireNoShow_0 : decode cX10_requireNoShow 0 = .ok (.aload_n 0, 1) := by decide +kernel
theorem dX10_requireNoShow_1 : decode cX10_requireNoShow 1 = .ok (.getfield 67, 3) := by decide +kernel
theorem dX10_requireNoShow_4 : decode cX10_requireNoShow 4 = .ok (.ifCond .eq 14, 3) := by decide +kernel
theorem dX10_requireNoShow_18 : decode cX10_requireNoShow 18 = .ok (.return_, 1) := by decide +kernel
theorem dX10_requirePerson_0 : decode cX10_requirePerson 0 = .ok (.aload_n 0, 1) := by decide +kernel
theorem dX10_requirePerson_1 : decode cX10_requirePerson 1 = .ok (.iload_n 1, 1) := by decide +kernel
theorem dX10_requirePerson_2 : decode cX10_requirePerson 2 = .ok (.invokevirtual 399, 3) := by decide +kernel
theorem dX10_requirePerson_5 : decode cX10_requirePerson 5 = .ok (.ifCond .ne 14, 3) := by decide +kernel
theorem dX10_requirePerson_8 : decode cX10_requirePerson 8 = .ok (.new 141, 3) := by decide +kernel
theorem dX10_requirePerson_11 : decode cX10_requirePerson 11 = .ok (.dup, 1) := by decide +kernel
theorem dX10_requirePerson_12 : decode cX10_requirePerson 12 = .ok (.ldc_w 403, 3) := by decide +kernel
theorem dX10_requirePerson_15 : decode cX10_requirePerson 15 = .ok (.invokespecial 145, 3) := by decide +kernel
theorem dX10_requirePerson_18 : decode cX10_requirePerson 18 = .ok (.athrow, 1) := by decide +kernel
theorem dX10_requireRange_0 : decode cX10_requireRange 0 = .ok (.iload_n 0, 1) := by decide +kernel
theorem dX10_requireRange_1 : decode cX10_requireRange 1 = .ok (.iload_n 1, 1) := by decide +kernel
theorem dX10_requireRange_2 : decode cX10_requireRange 2 = .ok (.if_icmp .lt 8, 3) := by decide +kernel
theorem dX10_requireRange_5 : decode cX10_requireRange 5 = .ok (.iload_n 0, 1) := by decide +kernel
theorem dX10_requireRange_6 : decode cX10_requireRange 6 = .ok (.iload_n 2, 1) := by decide +kernel
theorem dX10_requireRange_7 : decode cX10_requireRange 7 = .ok (.if_icmp .le 14, 3) := by decide +kernel
theorem dX10_requireRange_10 : decode cX10_requireRange 10 = .ok (.new 179, 3) := by decide +kernel
theorem dX10_requireRange_13 : decode cX10_requireRange 13 = .ok (.dup, 1) := by decide +kernel
theorem dX10_requireRange_14 : decode cX10_requireRange 14 = .ok (.ldc_w 390, 3) := by decide +kernel
theorem dX10_requireRange_17 : decode cX10_requireRange 17 = .ok (.invokespecial 183, 3) := by decide +kernel
theorem dX10_requireRange_20 : decode cX10_requireRange 20 = .ok (.athrow, 1) := by decide +kernel
theorem dX10_requireRange_21 : decode cX10_requireRange 21 = .ok (.return_, 1) := by decide +kernel
theorem dX10_requireRoom_0 : decode cX10_requireRoom 0 = .ok (.iload_n 0, 1) := by decide +kernel
theorem dX10_requireRoom_1 : decode cX10_requireRoom 1 = .ok (.iload_n 1, 1) := by decide +kernel
theorem dX10_requireRoom_2 : decode cX10_requireRoom 2 = .ok (.if_icmp .lt 14, 3) := by decide +kernel
theorem dX10_requireRoom_16 : decode cX10_requireRoom 16 = .ok (.return_, 1) := by decide +kernel
theorem dX10_requireShow_0 : decode cX10_requireShow 0 = .ok (.aload_n 0, 1) := by decide +kernel
theorem dX10_requireShow_1 : decode cX10_requireShow 1 = .ok (.getfield 67, 3) := by decide +kernel
theorem dX10_requireShow_4 : decode cX10_requireShow 4 = .ok (.ifCond .ne 14, 3) := by decide +kernel
theorem dX10_requireShow_7 : decode cX10_requireShow 7 = .ok (.new 392, 3) := by decide +kernel
theorem dX10_requireShow_10 : decode cX10_requireShow 10 = .ok (.dup, 1) := by decide +kernel
theorem dX10_requireShow_11 : decode cX10_requireShow 11 = .ok (.ldc_w 411, 3) := by decide +kernel
theorem dX10_requireShow_14 : decode cX10_requireShow 14 = .ok (.invokespecial 396, 3) := by decide +kernel
theorem dX10_requireShow_17 : decode cX10_requireShow 17 = .ok (.athrow, 1) := by decide +kernel
theorem dX10_requireToldOrders_0 : decode cX10_requireToldOrders 0 = .ok (.aload_n 0, 1) := by decide +kernel
theorem dX10_requireToldOrders_1 : decode cX10_requireToldOrders 1 = .ok (.invokevirtual 273, 3) := by decide +kernel
theorem dX10_requireWork_0 : decode cX10_requireWork 0 = .ok (.iload_n 1, 1) := by decide +kernel
theorem dX10_requireWork_1 : decode cX10_requireWork 1 = .ok (.ifCond .lt 11, 3) := by decide +kernel
theorem dX10_requireWork_4 : decode cX10_requireWork 4 = .ok (.iload_n 1, 1) := by decide +kernel
theorem dX10_requireWork_5 : decode cX10_requireWork 5 = .ok (.aload_n 0, 1) := by decide +kernel
theorem dX10_requireWork_6 : decode cX10_requireWork 6 = .ok (.getfield 61, 3) := by decide +kernel
theorem dX10_requireWork_9 : decode cX10_requireWork 9 = .ok (.if_icmp .lt 14, 3) := by decide +kernel
theorem dX10_requireWork_12 : decode cX10_requireWork 12 = .ok (.new 141, 3) := by decide +kernel
theorem dX10_requireWork_15 : decode cX10_requireWork 15 = .ok (.dup, 1) := by decide +kernel
theorem dX10_requireWork_16 : decode cX10_requireWork 16 = .ok (.ldc_w 407, 3) := by decide +kernel
theorem dX10_requireWork_19 : decode cX10_requireWork 19 = .ok (.invokespecial 145, 3) := by decide +kernel
theorem dX10_requireWork_22 : decode cX10_requireWork 22 = .ok (.athrow, 1) := by decide +kernel
theorem m_1 : (Cond.initialized "Theatrehouse") ∈ lw_all := lw_in 1 (by decide +kernel) (by decide +kernel)
theorem m_21 : (Cond.initialized "java/lang/IllegalArgumentException") ∈ lw_all := lw_in 21 (by decide +kernel) (by decide +kernel)
theorem m_22 : (Cond.initialized "java/lang/IllegalStateException") ∈ lw_all := lw_in 22 (by decide +kernel) (by decide +kernel)
theorem m_28 : (Cond.initialized "java/lang/IndexOutOfBoundsException") ∈ lw_all := lw_in 28 (by decide +kernel) (by decide +kernel)
theorem m_366 : (Cond.fieldLink "Theatrehouse" 54 "Theatrehouse" "peopleCount" "I") ∈ lw_all := lw_in 366 (by decide +kernel) (by decide +kernel)
theorem m_367 : (Cond.fieldLink "Theatrehouse" 58 "Theatrehouse" "machineCount" "I") ∈ lw_all := lw_in 367 (by decide +kernel) (by decide +kernel)
theorem m_368 : (Cond.fieldLink "Theatrehouse" 61 "Theatrehouse" "workCount" "I") ∈ lw_all := lw_in 368 (by decide +kernel) (by decide +kernel)
theorem m_370 : (Cond.fieldLink "Theatrehouse" 67 "Theatrehouse" "showIsOn" "Z") ∈ lw_all := lw_in 370 (by decide +kernel) (by decide +kernel)
theorem m_560 : (Cond.classLink "Theatrehouse" 179 "java/lang/IllegalArgumentException") ∈ lw_all := lw_in 560 (by decide +kernel) (by decide +kernel)
theorem m_635 : (Cond.classLink "Theatrehouse" 392 "java/lang/IllegalStateException") ∈ lw_all := lw_in 635 (by decide +kernel) (by decide +kernel)
theorem m_691 : (Cond.methodLink "Theatrehouse" 399 ⟨"Theatrehouse", "isPerson", "(I)Z"⟩) ∈ lw_all := lw_in 691 (by decide +kernel) (by decide +kernel)
theorem m_693 : (Cond.instanceMethod ⟨"Theatrehouse", "isPerson", "(I)Z"⟩) ∈ lw_all := lw_in 693 (by decide +kernel) (by decide +kernel)
theorem m_694 : (Cond.code ⟨"Theatrehouse", "isPerson", "(I)Z"⟩ prog_1_method_47_code 2 (Option.some Jvm.ClassFile.FieldType.boolean)) ∈ lw_all := lw_in 694 (by decide +kernel) (by decide +kernel)
theorem m_695 : (Cond.classLink "Theatrehouse" 141 "java/lang/IndexOutOfBoundsException") ∈ lw_all := lw_in 695 (by decide +kernel) (by decide +kernel)
theorem m_911 : (Cond.methodLink "Theatrehouse" 273 ⟨"Theatrehouse", "requireShow", "()V"⟩) ∈ lw_all := lw_in 911 (by decide +kernel) (by decide +kernel)
theorem m_913 : (Cond.instanceMethod ⟨"Theatrehouse", "requireShow", "()V"⟩) ∈ lw_all := lw_in 913 (by decide +kernel) (by decide +kernel)
theorem m_914 : (Cond.code ⟨"Theatrehouse", "requireShow", "()V"⟩ prog_1_method_44_code 1 (Option.none : Option Jvm.ClassFile.FieldType)) ∈ lw_all := lw_in 914 (by decide +kernel) (by decide +kernel)
theorem mp_12 : (Cond.selects "Theatrehouse" ⟨"Theatrehouse", "isPerson", "(I)Z"⟩ ⟨"Theatrehouse", "isPerson", "(I)Z"⟩) ∈ lw_all := lw_inp 12 (by decide +kernel) (by decide +kernel)
theorem mp_21 : (Cond.selects "Theatrehouse" ⟨"Theatrehouse", "requireShow", "()V"⟩ ⟨"Theatrehouse", "requireShow", "()V"⟩) ∈ lw_all := lw_inp 21 (by decide +kernel) (by decide +kernel)
theorem tha_X10_145 : (vx_atS "Theatrehouse" 145 "java/lang/IndexOutOfBoundsException" ["java/lang/RuntimeException", "java/lang/Exception"]).all (fun w => decide (w ∈ lw_tbl) && (goodWord w || ng_ok w)) = true := by decide +kernel
theorem thg_X10_145 : ∀ w ∈ Cond.classLink "Theatrehouse" 141 "java/lang/IndexOutOfBoundsException" :: Cond.initialized "java/lang/IndexOutOfBoundsException" :: vx_atS "Theatrehouse" 145 "java/lang/IndexOutOfBoundsException" ["java/lang/RuntimeException", "java/lang/Exception"], vx_ot w = true := by decide +kernel
theorem tha_X10_183 : (vx_atS "Theatrehouse" 183 "java/lang/IllegalArgumentException" ["java/lang/RuntimeException", "java/lang/Exception"]).all (fun w => decide (w ∈ lw_tbl) && (goodWord w || ng_ok w)) = true := by decide +kernel
theorem thg_X10_183 : ∀ w ∈ Cond.classLink "Theatrehouse" 179 "java/lang/IllegalArgumentException" :: Cond.initialized "java/lang/IllegalArgumentException" :: vx_atS "Theatrehouse" 183 "java/lang/IllegalArgumentException" ["java/lang/RuntimeException", "java/lang/Exception"], vx_ot w = true := by decide +kernel
theorem tha_X10_396 : (vx_atS "Theatrehouse" 396 "java/lang/IllegalStateException" ["java/lang/RuntimeException", "java/lang/Exception"]).all (fun w => decide (w ∈ lw_tbl) && (goodWord w || ng_ok w)) = true := by decide +kernel
theorem thg_X10_396 : ∀ w ∈ Cond.classLink "Theatrehouse" 392 "java/lang/IllegalStateException" :: Cond.initialized "java/lang/IllegalStateException" :: vx_atS "Theatrehouse" 396 "java/lang/IllegalStateException" ["java/lang/RuntimeException", "java/lang/Exception"], vx_ot w = true := by decide +kernel
set_option maxHeartbeats 4000000 in
set_option maxRecDepth 100000 in
/-- a number out of range: IllegalArgumentException -/
theorem c_X10_requireRange_bad (l : Launch) (hfl : l.stackTraces = false) (z0 : Nat) (D : va_G) (g : Nat → Nat) (p0 : Int32) (p1 : Int32) (p2 : Int32) (h : p0 < p1 ∨ ¬ p0 ≤ p2) : vx_Met l yX10_requireRange (wsp yX10_requireRange cX10_requireRange 3 none) ({ frames := 6, cells := 1, slots := 6, locals := 82 }) (va_Pc [.int p0, .int p1, .int p2] (PR z0 D g [])) (va_Qv (fun (_ : Unit) => False) (fun _ _ => True) nA) (xE "java/lang/IllegalArgumentException") 1 6 nA := by
  refine vx_ofW (cc := cX10_requireRange) (maxL := 3) (ret := none) (by decide) rfl ?_
  intro p e s m args below meth c s₁ B hml htb hv
  obtain ⟨rfl, hE, hP⟩ := hv
  have hx := B.exec
  have hb := B.bytes
  have hr := B.returns
  have hts0 := atoms_spec (ws := (wsp yX10_requireRange cX10_requireRange 3 none)) B.pre
  have hts : ∀ w ∈ lw_all, w.before _ s = true := fun w h => hts0 w (List.mem_cons_of_mem _ h)
  have hown : s.vm.findClass "Theatrehouse" = some m.cls := findClass_of_methodNamed B.named
  have hlocks := B.notSynchronized
  have hK := hE.K
  have hS : va_S nA s.heap s.heap [] := va_S.rf
  have hP : va_P D classes [] s.heap := hP
  have hl := lv_entry ([.int p0, .int p1, .int p2]) (n := 3) (Nat.le_of_ble_eq_true rfl)
  rw [lg_entry_eq]
  generalize (lg_sl ([.int p0, .int p1, .int p2]) ++ List.replicate (3 - (lg_sl ([.int p0, .int p1, .int p2])).length) Slot.unset).toArray = ls at hl ⊢
  have hl : lv_has ls 3 [(0, .int p0), (1, .int p1), (2, .int p2)] := hl
  refine lv_iload_n hx hb dX10_requireRange_0 rfl (lv_at hl 0 rfl) ?_
  refine lv_iload_n hx hb dX10_requireRange_1 rfl (lv_at hl 1 rfl) ?_
  refine lv_icmp_lt (tgt := 10) hx hb dX10_requireRange_2 (by decide) (fun c_2 => ?_) (fun c_2 => ?_)
  · obtain ⟨sa, hsa⟩ := hE.str (i := 16) rfl
    exact vx_throwSW hx hb hfl (own := "Theatrehouse") (cls := "java/lang/IllegalArgumentException") (text := "a number is out of range") (names := ["java/lang/RuntimeException", "java/lang/Exception"]) (ik := 179) (is := 390) (ic := 183) (sa := sa) (A := nA) hown (by decide +kernel) (by decide +kernel) (hts _ m_560) (hts _ m_21) hsa (lx_hat tha_X10_183 hts hE.ng) thg_X10_183 (hE.U nA_z) (hE.N nA_z) hS (hl.1.trans hml.symm) dX10_requireRange_10 dX10_requireRange_13 dX10_requireRange_14 dX10_requireRange_17 dX10_requireRange_20 (fun x h => (htb x h).elim) (Nat.le_of_ble_eq_true rfl) (Nat.le_of_ble_eq_true rfl) (Nat.le_of_ble_eq_true rfl) (Nat.le_of_ble_eq_true rfl) hlocks (fun t _ h1 h2 => xE.of hS h1 h2) hS.2.2 (Nat.le_of_ble_eq_true rfl) (Nat.le_of_ble_eq_true rfl)
  · refine lv_iload_n hx hb dX10_requireRange_5 rfl (lv_at hl 0 rfl) ?_
    refine lv_iload_n hx hb dX10_requireRange_6 rfl (lv_at hl 2 rfl) ?_
    refine lv_icmp_le (tgt := 21) hx hb dX10_requireRange_7 (by decide) (fun h9 => absurd h9 (h.resolve_left c_2)) (fun _ => ?_)
    obtain ⟨sa, hsa⟩ := hE.str (i := 16) rfl
    exact vx_throwSW hx hb hfl (own := "Theatrehouse") (cls := "java/lang/IllegalArgumentException") (text := "a number is out of range") (names := ["java/lang/RuntimeException", "java/lang/Exception"]) (ik := 179) (is := 390) (ic := 183) (sa := sa) (A := nA) hown (by decide +kernel) (by decide +kernel) (hts _ m_560) (hts _ m_21) hsa (lx_hat tha_X10_183 hts hE.ng) thg_X10_183 (hE.U nA_z) (hE.N nA_z) hS (hl.1.trans hml.symm) dX10_requireRange_10 dX10_requireRange_13 dX10_requireRange_14 dX10_requireRange_17 dX10_requireRange_20 (fun x h => (htb x h).elim) (Nat.le_of_ble_eq_true rfl) (Nat.le_of_ble_eq_true rfl) (Nat.le_of_ble_eq_true rfl) (Nat.le_of_ble_eq_true rfl) hlocks (fun t _ h1 h2 => xE.of hS h1 h2) hS.2.2 (Nat.le_of_ble_eq_true rfl) (Nat.le_of_ble_eq_true rfl)

set_option maxHeartbeats 4000000 in
set_option maxRecDepth 100000 in
theorem c_X10_requireRange_ok (l : Launch) (z0 : Nat) (D : va_G) (g : Nat → Nat) (p0 : Int32) (p1 : Int32) (p2 : Int32) (h1 : ¬ p0 < p1) (h2 : p0 ≤ p2) : Met l yX10_requireRange (wsp yX10_requireRange cX10_requireRange 3 none) ({ frames := 0, cells := 0, slots := 0, locals := 0 }) (va_Pc [.int p0, .int p1, .int p2] (PR z0 D g [])) (va_Qv (fun (_ : Unit) => True) (fun _ _ => True) nA) 0 0 nA := by
  refine Met.ofW (cc := cX10_requireRange) (maxL := 3) (ret := none) (by decide) rfl ?_
  intro p e s m args below meth c s₁ B hml hv
  obtain ⟨rfl, hE, hP⟩ := hv
  have hx := B.exec
  have hb := B.bytes
  have hr := B.returns
  have hts0 := atoms_spec (ws := (wsp yX10_requireRange cX10_requireRange 3 none)) B.pre
  have hts : ∀ w ∈ lw_all, w.before _ s = true := fun w h => hts0 w (List.mem_cons_of_mem _ h)
  have hown : s.vm.findClass "Theatrehouse" = some m.cls := findClass_of_methodNamed B.named
  have hlocks := B.notSynchronized
  have hK := hE.K
  have hS : va_S nA s.heap s.heap [] := va_S.rf
  have hP : va_P D classes [] s.heap := hP
  have hl := lv_entry ([.int p0, .int p1, .int p2]) (n := 3) (Nat.le_of_ble_eq_true rfl)
  rw [lg_entry_eq]
  generalize (lg_sl ([.int p0, .int p1, .int p2]) ++ List.replicate (3 - (lg_sl ([.int p0, .int p1, .int p2])).length) Slot.unset).toArray = ls at hl ⊢
  have hl : lv_has ls 3 [(0, .int p0), (1, .int p1), (2, .int p2)] := hl
  refine lv_iload_n hx hb dX10_requireRange_0 rfl (lv_at hl 0 rfl) ?_
  refine lv_iload_n hx hb dX10_requireRange_1 rfl (lv_at hl 1 rfl) ?_
  refine lv_icmp_lt (tgt := 10) hx hb dX10_requireRange_2 (by decide) (fun h9 => absurd h9 h1) (fun _ => ?_)
  refine lv_iload_n hx hb dX10_requireRange_5 rfl (lv_at hl 0 rfl) ?_
  refine lv_iload_n hx hb dX10_requireRange_6 rfl (lv_at hl 2 rfl) ?_
  refine lv_icmp_le (tgt := 21) hx hb dX10_requireRange_7 (by decide) (fun _ => ?_) (fun h9 => absurd h2 h9)
  refine W.widen (k := 0) (n := 0) (Nat.le_of_ble_eq_true rfl) (Nat.le_of_ble_eq_true rfl) ?_
  exact W.vret hx hb hr (fun t ht hW => ⟨⟨(), rfl, trivial, trivial⟩, hS.F ht⟩) hS.2.2 dX10_requireRange_21

set_option maxHeartbeats 4000000 in
set_option maxRecDepth 100000 in
theorem c_X10_requireRoom_ok (l : Launch) (z0 : Nat) (D : va_G) (g : Nat → Nat) (p0 : Int32) (p1 : Int32) (h : p0 < p1) : Met l yX10_requireRoom (wsp yX10_requireRoom cX10_requireRoom 2 none) ({ frames := 0, cells := 0, slots := 0, locals := 0 }) (va_Pc [.int p0, .int p1] (PR z0 D g [])) (va_Qv (fun (_ : Unit) => True) (fun _ _ => True) nA) 0 0 nA := by
  refine Met.ofW (cc := cX10_requireRoom) (maxL := 2) (ret := none) (by decide) rfl ?_
  intro p e s m args below meth c s₁ B hml hv
  obtain ⟨rfl, hE, hP⟩ := hv
  have hx := B.exec
  have hb := B.bytes
  have hr := B.returns
  have hts0 := atoms_spec (ws := (wsp yX10_requireRoom cX10_requireRoom 2 none)) B.pre
  have hts : ∀ w ∈ lw_all, w.before _ s = true := fun w h => hts0 w (List.mem_cons_of_mem _ h)
  have hown : s.vm.findClass "Theatrehouse" = some m.cls := findClass_of_methodNamed B.named
  have hlocks := B.notSynchronized
  have hK := hE.K
  have hS : va_S nA s.heap s.heap [] := va_S.rf
  have hP : va_P D classes [] s.heap := hP
  have hl := lv_entry ([.int p0, .int p1]) (n := 2) (Nat.le_of_ble_eq_true rfl)
  rw [lg_entry_eq]
  generalize (lg_sl ([.int p0, .int p1]) ++ List.replicate (2 - (lg_sl ([.int p0, .int p1])).length) Slot.unset).toArray = ls at hl ⊢
  have hl : lv_has ls 2 [(0, .int p0), (1, .int p1)] := hl
  refine lv_iload_n hx hb dX10_requireRoom_0 rfl (lv_at hl 0 rfl) ?_
  refine lv_iload_n hx hb dX10_requireRoom_1 rfl (lv_at hl 1 rfl) ?_
  refine lv_icmp_lt (tgt := 16) hx hb dX10_requireRoom_2 (by decide) (fun _ => ?_) (fun h9 => absurd h h9)
  refine W.widen (k := 0) (n := 0) (Nat.le_of_ble_eq_true rfl) (Nat.le_of_ble_eq_true rfl) ?_
  exact W.vret hx hb hr (fun t ht hW => ⟨⟨(), rfl, trivial, trivial⟩, hS.F ht⟩) hS.2.2 dX10_requireRoom_16

set_option maxHeartbeats 4000000 in
set_option maxRecDepth 100000 in
/-- a house without people -/
theorem c_X10_isPerson (l : Launch) (z0 : Nat) (D : va_G) (g : Nat → Nat) (x a0 a1 a2 a3 a4 a5 a6 : Nat) (p0 : Int32) : Met l yX10_isPerson (wsp yX10_isPerson cX10_isPerson 2 (some .boolean)) ({ frames := 0, cells := 0, slots := 0, locals := 0 }) (va_Pc [.ref x, .int p0] (PR z0 D g [(x, .inr (0, [.ref a0, .ref a1, .ref a2, .ref a3, .ref a4, .ref a5, .ref a6, .int 0, .int 0, .int 0, .int 0, .int 0, .int 0, .int 0]))])) (va_Qi (fun (r : Int32) (_ : Unit) => r = 0) (fun _ _ => True) nA) 0 0 nA := by
  refine Met.ofW (cc := cX10_isPerson) (maxL := 2) (ret := (some .boolean)) (by decide) rfl ?_
  intro p e s m args below meth c s₁ B hml hv
  obtain ⟨rfl, hE, hP⟩ := hv
  have hx := B.exec
  have hb := B.bytes
  have hr := B.returns
  have hts0 := atoms_spec (ws := (wsp yX10_isPerson cX10_isPerson 2 (some .boolean))) B.pre
  have hts : ∀ w ∈ lw_all, w.before _ s = true := fun w h => hts0 w (List.mem_cons_of_mem _ h)
  have hown : s.vm.findClass "Theatrehouse" = some m.cls := findClass_of_methodNamed B.named
  have hlocks := B.notSynchronized
  have hK := hE.K
  have hS : va_S nA s.heap s.heap [] := va_S.rf
  have hP : va_P D classes [(x, .inr (0, [.ref a0, .ref a1, .ref a2, .ref a3, .ref a4, .ref a5, .ref a6, .int 0, .int 0, .int 0, .int 0, .int 0, .int 0, .int 0]))] s.heap := hP
  have hl := lv_entry ([.ref x, .int p0]) (n := 2) (Nat.le_of_ble_eq_true rfl)
  rw [lg_entry_eq]
  generalize (lg_sl ([.ref x, .int p0]) ++ List.replicate (2 - (lg_sl ([.ref x, .int p0])).length) Slot.unset).toArray = ls at hl ⊢
  have hl : lv_has ls 2 [(0, .ref x), (1, .int p0)] := hl
  refine lv_iload_n hx hb dX10_isPerson_0 rfl (lv_at hl 1 rfl) ?_
  refine lv_if_lt (tgt := 16) hx hb dX10_isPerson_1 (by decide) (fun c_1 => ?_) (fun c_1 => ?_)
  · refine lv_iconst (v := 0) hx hb dX10_isPerson_16 (by decide) ?_
    refine W.widen (k := 0) (n := 0) (Nat.le_of_ble_eq_true rfl) (Nat.le_of_ble_eq_true rfl) ?_
    exact W.zret (v := 0) hx hb hr (by decide) (fun t ht hW => ⟨⟨0, (), rfl, rfl, trivial⟩, hS.F ht⟩) hS.2.2 dX10_isPerson_17
  · refine lv_iload_n hx hb dX10_isPerson_4 rfl (lv_at hl 1 rfl) ?_
    refine lv_aload_n hx hb dX10_isPerson_5 rfl (lv_at hl 0 rfl) ?_
    refine va_get (D := D) (ci := 0) (v := .int 0) (C := RX10) (T := TX10) (N := 14) hx hb hts i_X10 hown hK hP 0 rfl rfl 7 (by decide) (hts _ m_366) (fun _ h9 => h9) rfl dX10_isPerson_6 ?_
    refine lv_icmp_ge (tgt := 16) hx hb dX10_isPerson_9 (by decide) (fun _ => ?_) (fun h9 => absurd (Int32.not_lt.mp c_1) h9)
    refine lv_iconst (v := 0) hx hb dX10_isPerson_16 (by decide) ?_
    refine W.widen (k := 0) (n := 0) (Nat.le_of_ble_eq_true rfl) (Nat.le_of_ble_eq_true rfl) ?_
    exact W.zret (v := 0) hx hb hr (by decide) (fun t ht hW => ⟨⟨0, (), rfl, rfl, trivial⟩, hS.F ht⟩) hS.2.2 dX10_isPerson_17

set_option maxHeartbeats 4000000 in
set_option maxRecDepth 100000 in
theorem c_X10_requirePerson (l : Launch) (hfl : l.stackTraces = false) (z0 : Nat) (D : va_G) (g : Nat → Nat) (x a0 a1 a2 a3 a4 a5 a6 : Nat) (p0 : Int32) : vx_Met l yX10_requirePerson (wsp yX10_requirePerson cX10_requirePerson 2 none) ({ frames := 6, cells := 1, slots := 6, locals := 82 }) (va_Pc [.ref x, .int p0] (PR z0 D g [(x, .inr (0, [.ref a0, .ref a1, .ref a2, .ref a3, .ref a4, .ref a5, .ref a6, .int 0, .int 0, .int 0, .int 0, .int 0, .int 0, .int 0]))])) (va_Qv (fun (_ : Unit) => False) (fun _ _ => True) nA) (xE "java/lang/IndexOutOfBoundsException") 1 6 nA := by
  refine vx_ofW (cc := cX10_requirePerson) (maxL := 2) (ret := none) (by decide) rfl ?_
  intro p e s m args below meth c s₁ B hml htb hv
  obtain ⟨rfl, hE, hP⟩ := hv
  have hx := B.exec
  have hb := B.bytes
  have hr := B.returns
  have hts0 := atoms_spec (ws := (wsp yX10_requirePerson cX10_requirePerson 2 none)) B.pre
  have hts : ∀ w ∈ lw_all, w.before _ s = true := fun w h => hts0 w (List.mem_cons_of_mem _ h)
  have hown : s.vm.findClass "Theatrehouse" = some m.cls := findClass_of_methodNamed B.named
  have hlocks := B.notSynchronized
  have hK := hE.K
  have hS : va_S nA s.heap s.heap [] := va_S.rf
  have hP : va_P D classes [(x, .inr (0, [.ref a0, .ref a1, .ref a2, .ref a3, .ref a4, .ref a5, .ref a6, .int 0, .int 0, .int 0, .int 0, .int 0, .int 0, .int 0]))] s.heap := hP
  have hl := lv_entry ([.ref x, .int p0]) (n := 2) (Nat.le_of_ble_eq_true rfl)
  rw [lg_entry_eq]
  generalize (lg_sl ([.ref x, .int p0]) ++ List.replicate (2 - (lg_sl ([.ref x, .int p0])).length) Slot.unset).toArray = ls at hl ⊢
  have hl : lv_has ls 2 [(0, .ref x), (1, .int p0)] := hl
  refine lv_aload_n hx hb dX10_requirePerson_0 rfl (lv_at hl 0 rfl) ?_
  refine lv_iload_n hx hb dX10_requirePerson_1 rfl (lv_at hl 1 rfl) ?_
  have hc_1 := hP.sub (ws' := [(x, .inr (0, [.ref a0, .ref a1, .ref a2, .ref a3, .ref a4, .ref a5, .ref a6, .int 0, .int 0, .int 0, .int 0, .int 0, .int 0, .int 0]))]) [0] rfl
  refine va_calli (va_runV (As := [.int p0]) (rest := []) ⟨hx, hb, hml, hown, hts⟩ (c_X10_isPerson l z0 D g x a0 a1 a2 a3 a4 a5 a6 p0) (cwV 1 hts (lw_V m_691 m_693 mp_12 m_1 m_694) rfl rfl rfl (by decide +kernel) ⟨(Nat.le_of_ble_eq_true rfl), (Nat.le_of_ble_eq_true rfl)⟩) ⟨PR.blind, va_recv hK hP (ci := 0) (q0 := 0) rfl rfl, PR.pre hE hS nA_z hc_1⟩ rfl rfl hl.1 rfl (lv_room (Nat.le_of_ble_eq_true rfl)) dX10_requirePerson_2 ⟨(Nat.le_of_ble_eq_true rfl), (Nat.le_of_ble_eq_true rfl)⟩) hS nA_B nA_A (fun r_2 u_3 t H locs ht hvm hw hB hz1 hk1 hS => ?_)
  have hP := hP.old hk1
  have hP : va_P D classes [(x, .inr (0, [.ref a0, .ref a1, .ref a2, .ref a3, .ref a4, .ref a5, .ref a6, .int 0, .int 0, .int 0, .int 0, .int 0, .int 0, .int 0]))] H := hP
  subst hw
  refine lv_if_ne (tgt := 19) hx hb dX10_requirePerson_5 (by decide) (fun h9 => absurd (by decide) h9) (fun _ => ?_)
  obtain ⟨sa, hsa⟩ := hE.str (i := 19) rfl
  exact vx_throwSW hx hb hfl (own := "Theatrehouse") (cls := "java/lang/IndexOutOfBoundsException") (text := "no such person") (names := ["java/lang/RuntimeException", "java/lang/Exception"]) (ik := 141) (is := 403) (ic := 145) (sa := sa) (A := nA) hown (by decide +kernel) (by decide +kernel) (hts _ m_695) (hts _ m_28) hsa (lx_hat tha_X10_145 hts hE.ng) thg_X10_145 (hE.U nA_z) (hE.N nA_z) hS (hl.1.trans hml.symm) dX10_requirePerson_8 dX10_requirePerson_11 dX10_requirePerson_12 dX10_requirePerson_15 dX10_requirePerson_18 (fun x h => (htb x h).elim) (Nat.le_of_ble_eq_true rfl) (Nat.le_of_ble_eq_true rfl) (Nat.le_of_ble_eq_true rfl) (Nat.le_of_ble_eq_true rfl) hlocks (fun t _ h1 h2 => xE.of hS h1 h2) hS.2.2 (Nat.le_of_ble_eq_true rfl) (Nat.le_of_ble_eq_true rfl)

set_option maxHeartbeats 4000000 in
set_option maxRecDepth 100000 in
theorem c_X10_requireMachine (l : Launch) (hfl : l.stackTraces = false) (z0 : Nat) (D : va_G) (g : Nat → Nat) (x a0 a1 a2 a3 a4 a5 a6 : Nat) (p0 : Int32) : vx_Met l yX10_requireMachine (wsp yX10_requireMachine cX10_requireMachine 2 none) ({ frames := 6, cells := 1, slots := 6, locals := 82 }) (va_Pc [.ref x, .int p0] (PR z0 D g [(x, .inr (0, [.ref a0, .ref a1, .ref a2, .ref a3, .ref a4, .ref a5, .ref a6, .int 0, .int 0, .int 0, .int 0, .int 0, .int 0, .int 0]))])) (va_Qv (fun (_ : Unit) => False) (fun _ _ => True) nA) (xE "java/lang/IndexOutOfBoundsException") 1 6 nA := by
  refine vx_ofW (cc := cX10_requireMachine) (maxL := 2) (ret := none) (by decide) rfl ?_
  intro p e s m args below meth c s₁ B hml htb hv
  obtain ⟨rfl, hE, hP⟩ := hv
  have hx := B.exec
  have hb := B.bytes
  have hr := B.returns
  have hts0 := atoms_spec (ws := (wsp yX10_requireMachine cX10_requireMachine 2 none)) B.pre
  have hts : ∀ w ∈ lw_all, w.before _ s = true := fun w h => hts0 w (List.mem_cons_of_mem _ h)
  have hown : s.vm.findClass "Theatrehouse" = some m.cls := findClass_of_methodNamed B.named
  have hlocks := B.notSynchronized
  have hK := hE.K
  have hS : va_S nA s.heap s.heap [] := va_S.rf
  have hP : va_P D classes [(x, .inr (0, [.ref a0, .ref a1, .ref a2, .ref a3, .ref a4, .ref a5, .ref a6, .int 0, .int 0, .int 0, .int 0, .int 0, .int 0, .int 0]))] s.heap := hP
  have hl := lv_entry ([.ref x, .int p0]) (n := 2) (Nat.le_of_ble_eq_true rfl)
  rw [lg_entry_eq]
  generalize (lg_sl ([.ref x, .int p0]) ++ List.replicate (2 - (lg_sl ([.ref x, .int p0])).length) Slot.unset).toArray = ls at hl ⊢
  have hl : lv_has ls 2 [(0, .ref x), (1, .int p0)] := hl
  refine lv_iload_n hx hb dX10_requireMachine_0 rfl (lv_at hl 1 rfl) ?_
  refine lv_if_lt (tgt := 12) hx hb dX10_requireMachine_1 (by decide) (fun c_1 => ?_) (fun c_1 => ?_)
  · obtain ⟨sa, hsa⟩ := hE.str (i := 20) rfl
    exact vx_throwSW hx hb hfl (own := "Theatrehouse") (cls := "java/lang/IndexOutOfBoundsException") (text := "no such machine") (names := ["java/lang/RuntimeException", "java/lang/Exception"]) (ik := 141) (is := 405) (ic := 145) (sa := sa) (A := nA) hown (by decide +kernel) (by decide +kernel) (hts _ m_695) (hts _ m_28) hsa (lx_hat tha_X10_145 hts hE.ng) thg_X10_145 (hE.U nA_z) (hE.N nA_z) hS (hl.1.trans hml.symm) dX10_requireMachine_12 dX10_requireMachine_15 dX10_requireMachine_16 dX10_requireMachine_19 dX10_requireMachine_22 (fun x h => (htb x h).elim) (Nat.le_of_ble_eq_true rfl) (Nat.le_of_ble_eq_true rfl) (Nat.le_of_ble_eq_true rfl) (Nat.le_of_ble_eq_true rfl) hlocks (fun t _ h1 h2 => xE.of hS h1 h2) hS.2.2 (Nat.le_of_ble_eq_true rfl) (Nat.le_of_ble_eq_true rfl)
  · refine lv_iload_n hx hb dX10_requireMachine_4 rfl (lv_at hl 1 rfl) ?_
    refine lv_aload_n hx hb dX10_requireMachine_5 rfl (lv_at hl 0 rfl) ?_
    refine va_get (D := D) (ci := 0) (v := .int 0) (C := RX10) (T := TX10) (N := 14) hx hb hts i_X10 hown hK hP 0 rfl rfl 8 (by decide) (hts _ m_367) (fun _ h9 => h9) rfl dX10_requireMachine_6 ?_
    refine lv_icmp_lt (tgt := 23) hx hb dX10_requireMachine_9 (by decide) (fun h9 => absurd h9 c_1) (fun _ => ?_)
    obtain ⟨sa, hsa⟩ := hE.str (i := 20) rfl
    exact vx_throwSW hx hb hfl (own := "Theatrehouse") (cls := "java/lang/IndexOutOfBoundsException") (text := "no such machine") (names := ["java/lang/RuntimeException", "java/lang/Exception"]) (ik := 141) (is := 405) (ic := 145) (sa := sa) (A := nA) hown (by decide +kernel) (by decide +kernel) (hts _ m_695) (hts _ m_28) hsa (lx_hat tha_X10_145 hts hE.ng) thg_X10_145 (hE.U nA_z) (hE.N nA_z) hS (hl.1.trans hml.symm) dX10_requireMachine_12 dX10_requireMachine_15 dX10_requireMachine_16 dX10_requireMachine_19 dX10_requireMachine_22 (fun x h => (htb x h).elim) (Nat.le_of_ble_eq_true rfl) (Nat.le_of_ble_eq_true rfl) (Nat.le_of_ble_eq_true rfl) (Nat.le_of_ble_eq_true rfl) hlocks (fun t _ h1 h2 => xE.of hS h1 h2) hS.2.2 (Nat.le_of_ble_eq_true rfl) (Nat.le_of_ble_eq_true rfl)

set_option maxHeartbeats 4000000 in
set_option maxRecDepth 100000 in
theorem c_X10_requireWork (l : Launch) (hfl : l.stackTraces = false) (z0 : Nat) (D : va_G) (g : Nat → Nat) (x a0 a1 a2 a3 a4 a5 a6 : Nat) (p0 : Int32) : vx_Met l yX10_requireWork (wsp yX10_requireWork cX10_requireWork 2 none) ({ frames := 6, cells := 1, slots := 6, locals := 82 }) (va_Pc [.ref x, .int p0] (PR z0 D g [(x, .inr (0, [.ref a0, .ref a1, .ref a2, .ref a3, .ref a4, .ref a5, .ref a6, .int 0, .int 0, .int 0, .int 0, .int 0, .int 0, .int 0]))])) (va_Qv (fun (_ : Unit) => False) (fun _ _ => True) nA) (xE "java/lang/IndexOutOfBoundsException") 1 6 nA := by
  refine vx_ofW (cc := cX10_requireWork) (maxL := 2) (ret := none) (by decide) rfl ?_
  intro p e s m args below meth c s₁ B hml htb hv
  obtain ⟨rfl, hE, hP⟩ := hv
  have hx := B.exec
  have hb := B.bytes
  have hr := B.returns
  have hts0 := atoms_spec (ws := (wsp yX10_requireWork cX10_requireWork 2 none)) B.pre
  have hts : ∀ w ∈ lw_all, w.before _ s = true := fun w h => hts0 w (List.mem_cons_of_mem _ h)
  have hown : s.vm.findClass "Theatrehouse" = some m.cls := findClass_of_methodNamed B.named
  have hlocks := B.notSynchronized
  have hK := hE.K
  have hS : va_S nA s.heap s.heap [] := va_S.rf
  have hP : va_P D classes [(x, .inr (0, [.ref a0, .ref a1, .ref a2, .ref a3, .ref a4, .ref a5, .ref a6, .int 0, .int 0, .int 0, .int 0, .int 0, .int 0, .int 0]))] s.heap := hP
  have hl := lv_entry ([.ref x, .int p0]) (n := 2) (Nat.le_of_ble_eq_true rfl)
  rw [lg_entry_eq]
  generalize (lg_sl ([.ref x, .int p0]) ++ List.replicate (2 - (lg_sl ([.ref x, .int p0])).length) Slot.unset).toArray = ls at hl ⊢
  have hl : lv_has ls 2 [(0, .ref x), (1, .int p0)] := hl
  refine lv_iload_n hx hb dX10_requireWork_0 rfl (lv_at hl 1 rfl) ?_
  refine lv_if_lt (tgt := 12) hx hb dX10_requireWork_1 (by decide) (fun c_1 => ?_) (fun c_1 => ?_)
  · obtain ⟨sa, hsa⟩ := hE.str (i := 21) rfl
    exact vx_throwSW hx hb hfl (own := "Theatrehouse") (cls := "java/lang/IndexOutOfBoundsException") (text := "no such work") (names := ["java/lang/RuntimeException", "java/lang/Exception"]) (ik := 141) (is := 407) (ic := 145) (sa := sa) (A := nA) hown (by decide +kernel) (by decide +kernel) (hts _ m_695) (hts _ m_28) hsa (lx_hat tha_X10_145 hts hE.ng) thg_X10_145 (hE.U nA_z) (hE.N nA_z) hS (hl.1.trans hml.symm) dX10_requireWork_12 dX10_requireWork_15 dX10_requireWork_16 dX10_requireWork_19 dX10_requireWork_22 (fun x h => (htb x h).elim) (Nat.le_of_ble_eq_true rfl) (Nat.le_of_ble_eq_true rfl) (Nat.le_of_ble_eq_true rfl) (Nat.le_of_ble_eq_true rfl) hlocks (fun t _ h1 h2 => xE.of hS h1 h2) hS.2.2 (Nat.le_of_ble_eq_true rfl) (Nat.le_of_ble_eq_true rfl)
  · refine lv_iload_n hx hb dX10_requireWork_4 rfl (lv_at hl 1 rfl) ?_
    refine lv_aload_n hx hb dX10_requireWork_5 rfl (lv_at hl 0 rfl) ?_
    refine va_get (D := D) (ci := 0) (v := .int 0) (C := RX10) (T := TX10) (N := 14) hx hb hts i_X10 hown hK hP 0 rfl rfl 9 (by decide) (hts _ m_368) (fun _ h9 => h9) rfl dX10_requireWork_6 ?_
    refine lv_icmp_lt (tgt := 23) hx hb dX10_requireWork_9 (by decide) (fun h9 => absurd h9 c_1) (fun _ => ?_)
    obtain ⟨sa, hsa⟩ := hE.str (i := 21) rfl
    exact vx_throwSW hx hb hfl (own := "Theatrehouse") (cls := "java/lang/IndexOutOfBoundsException") (text := "no such work") (names := ["java/lang/RuntimeException", "java/lang/Exception"]) (ik := 141) (is := 407) (ic := 145) (sa := sa) (A := nA) hown (by decide +kernel) (by decide +kernel) (hts _ m_695) (hts _ m_28) hsa (lx_hat tha_X10_145 hts hE.ng) thg_X10_145 (hE.U nA_z) (hE.N nA_z) hS (hl.1.trans hml.symm) dX10_requireWork_12 dX10_requireWork_15 dX10_requireWork_16 dX10_requireWork_19 dX10_requireWork_22 (fun x h => (htb x h).elim) (Nat.le_of_ble_eq_true rfl) (Nat.le_of_ble_eq_true rfl) (Nat.le_of_ble_eq_true rfl) (Nat.le_of_ble_eq_true rfl) hlocks (fun t _ h1 h2 => xE.of hS h1 h2) hS.2.2 (Nat.le_of_ble_eq_true rfl) (Nat.le_of_ble_eq_true rfl)

set_option maxHeartbeats 4000000 in
set_option maxRecDepth 100000 in
theorem c_X10_requireShow (l : Launch) (hfl : l.stackTraces = false) (z0 : Nat) (D : va_G) (g : Nat → Nat) (x a0 a1 a2 a3 a4 a5 a6 : Nat) : vx_Met l yX10_requireShow (wsp yX10_requireShow cX10_requireShow 1 none) ({ frames := 6, cells := 1, slots := 6, locals := 82 }) (va_Pc [.ref x] (PR z0 D g [(x, .inr (0, [.ref a0, .ref a1, .ref a2, .ref a3, .ref a4, .ref a5, .ref a6, .int 0, .int 0, .int 0, .int 0, .int 0, .int 0, .int 0]))])) (va_Qv (fun (_ : Unit) => False) (fun _ _ => True) nA) (xE "java/lang/IllegalStateException") 1 6 nA := by
  refine vx_ofW (cc := cX10_requireShow) (maxL := 1) (ret := none) (by decide) rfl ?_
  intro p e s m args below meth c s₁ B hml htb hv
  obtain ⟨rfl, hE, hP⟩ := hv
  have hx := B.exec
  have hb := B.bytes
  have hr := B.returns
  have hts0 := atoms_spec (ws := (wsp yX10_requireShow cX10_requireShow 1 none)) B.pre
  have hts : ∀ w ∈ lw_all, w.before _ s = true := fun w h => hts0 w (List.mem_cons_of_mem _ h)
  have hown : s.vm.findClass "Theatrehouse" = some m.cls := findClass_of_methodNamed B.named
  have hlocks := B.notSynchronized
  have hK := hE.K
  have hS : va_S nA s.heap s.heap [] := va_S.rf
  have hP : va_P D classes [(x, .inr (0, [.ref a0, .ref a1, .ref a2, .ref a3, .ref a4, .ref a5, .ref a6, .int 0, .int 0, .int 0, .int 0, .int 0, .int 0, .int 0]))] s.heap := hP
  have hl := lv_entry ([.ref x]) (n := 1) (Nat.le_of_ble_eq_true rfl)
  rw [lg_entry_eq]
  generalize (lg_sl ([.ref x]) ++ List.replicate (1 - (lg_sl ([.ref x])).length) Slot.unset).toArray = ls at hl ⊢
  have hl : lv_has ls 1 [(0, .ref x)] := hl
  refine lv_aload_n hx hb dX10_requireShow_0 rfl (lv_at hl 0 rfl) ?_
  refine va_get (D := D) (ci := 0) (v := .int 0) (C := RX10) (T := TX10) (N := 14) hx hb hts i_X10 hown hK hP 0 rfl rfl 11 (by decide) (hts _ m_370) (fun _ h9 => h9) rfl dX10_requireShow_1 ?_
  refine lv_if_ne (tgt := 18) hx hb dX10_requireShow_4 (by decide) (fun h9 => absurd (by decide) h9) (fun _ => ?_)
  obtain ⟨sa, hsa⟩ := hE.str (i := 23) rfl
  exact vx_throwSW hx hb hfl (own := "Theatrehouse") (cls := "java/lang/IllegalStateException") (text := "no evening is on") (names := ["java/lang/RuntimeException", "java/lang/Exception"]) (ik := 392) (is := 411) (ic := 396) (sa := sa) (A := nA) hown (by decide +kernel) (by decide +kernel) (hts _ m_635) (hts _ m_22) hsa (lx_hat tha_X10_396 hts hE.ng) thg_X10_396 (hE.U nA_z) (hE.N nA_z) hS (hl.1.trans hml.symm) dX10_requireShow_7 dX10_requireShow_10 dX10_requireShow_11 dX10_requireShow_14 dX10_requireShow_17 (fun x h => (htb x h).elim) (Nat.le_of_ble_eq_true rfl) (Nat.le_of_ble_eq_true rfl) (Nat.le_of_ble_eq_true rfl) (Nat.le_of_ble_eq_true rfl) hlocks (fun t _ h1 h2 => xE.of hS h1 h2) hS.2.2 (Nat.le_of_ble_eq_true rfl) (Nat.le_of_ble_eq_true rfl)

set_option maxHeartbeats 4000000 in
set_option maxRecDepth 100000 in
theorem c_X10_requireNoShow (l : Launch) (z0 : Nat) (D : va_G) (g : Nat → Nat) (x a0 a1 a2 a3 a4 a5 a6 : Nat) : Met l yX10_requireNoShow (wsp yX10_requireNoShow cX10_requireNoShow 1 none) ({ frames := 0, cells := 0, slots := 0, locals := 0 }) (va_Pc [.ref x] (PR z0 D g [(x, .inr (0, [.ref a0, .ref a1, .ref a2, .ref a3, .ref a4, .ref a5, .ref a6, .int 0, .int 0, .int 0, .int 0, .int 0, .int 0, .int 0]))])) (va_Qv (fun (_ : Unit) => True) (fun _ _ => True) nA) 0 0 nA := by
  refine Met.ofW (cc := cX10_requireNoShow) (maxL := 1) (ret := none) (by decide) rfl ?_
  intro p e s m args below meth c s₁ B hml hv
  obtain ⟨rfl, hE, hP⟩ := hv
  have hx := B.exec
  have hb := B.bytes
  have hr := B.returns
  have hts0 := atoms_spec (ws := (wsp yX10_requireNoShow cX10_requireNoShow 1 none)) B.pre
  have hts : ∀ w ∈ lw_all, w.before _ s = true := fun w h => hts0 w (List.mem_cons_of_mem _ h)
  have hown : s.vm.findClass "Theatrehouse" = some m.cls := findClass_of_methodNamed B.named
  have hlocks := B.notSynchronized
  have hK := hE.K
  have hS : va_S nA s.heap s.heap [] := va_S.rf
  have hP : va_P D classes [(x, .inr (0, [.ref a0, .ref a1, .ref a2, .ref a3, .ref a4, .ref a5, .ref a6, .int 0, .int 0, .int 0, .int 0, .int 0, .int 0, .int 0]))] s.heap := hP
  have hl := lv_entry ([.ref x]) (n := 1) (Nat.le_of_ble_eq_true rfl)
  rw [lg_entry_eq]
  generalize (lg_sl ([.ref x]) ++ List.replicate (1 - (lg_sl ([.ref x])).length) Slot.unset).toArray = ls at hl ⊢
  have hl : lv_has ls 1 [(0, .ref x)] := hl
  refine lv_aload_n hx hb dX10_requireNoShow_0 rfl (lv_at hl 0 rfl) ?_
  refine va_get (D := D) (ci := 0) (v := .int 0) (C := RX10) (T := TX10) (N := 14) hx hb hts i_X10 hown hK hP 0 rfl rfl 11 (by decide) (hts _ m_370) (fun _ h9 => h9) rfl dX10_requireNoShow_1 ?_
  refine lv_if_eq (tgt := 18) hx hb dX10_requireNoShow_4 (by decide) (fun _ => ?_) (fun h9 => absurd (by decide) h9)
  refine W.widen (k := 0) (n := 0) (Nat.le_of_ble_eq_true rfl) (Nat.le_of_ble_eq_true rfl) ?_
  exact W.vret hx hb hr (fun t ht hW => ⟨⟨(), rfl, trivial, trivial⟩, hS.F ht⟩) hS.2.2 dX10_requireNoShow_18

set_option maxHeartbeats 4000000 in
set_option maxRecDepth 100000 in
theorem c_X10_requireToldOrders (l : Launch) (hfl : l.stackTraces = false) (z0 : Nat) (D : va_G) (g : Nat → Nat) (x a0 a1 a2 a3 a4 a5 a6 : Nat) : vx_Met l yX10_requireToldOrders (wsp yX10_requireToldOrders cX10_requireToldOrders 1 none) ({ frames := 7, cells := 1, slots := 6, locals := 102 }) (va_Pc [.ref x] (PR z0 D g [(x, .inr (0, [.ref a0, .ref a1, .ref a2, .ref a3, .ref a4, .ref a5, .ref a6, .int 0, .int 0, .int 0, .int 0, .int 0, .int 0, .int 0]))])) (va_Qv (fun (_ : Unit) => False) (fun _ _ => True) nA) (xE "java/lang/IllegalStateException") 1 6 nA := by
  refine vx_ofW (cc := cX10_requireToldOrders) (maxL := 1) (ret := none) (by decide) rfl ?_
  intro p e s m args below meth c s₁ B hml htb hv
  obtain ⟨rfl, hE, hP⟩ := hv
  have hx := B.exec
  have hb := B.bytes
  have hr := B.returns
  have hts0 := atoms_spec (ws := (wsp yX10_requireToldOrders cX10_requireToldOrders 1 none)) B.pre
  have hts : ∀ w ∈ lw_all, w.before _ s = true := fun w h => hts0 w (List.mem_cons_of_mem _ h)
  have hown : s.vm.findClass "Theatrehouse" = some m.cls := findClass_of_methodNamed B.named
  have hlocks := B.notSynchronized
  have hK := hE.K
  have hS : va_S nA s.heap s.heap [] := va_S.rf
  have hP : va_P D classes [(x, .inr (0, [.ref a0, .ref a1, .ref a2, .ref a3, .ref a4, .ref a5, .ref a6, .int 0, .int 0, .int 0, .int 0, .int 0, .int 0, .int 0]))] s.heap := hP
  have hl := lv_entry ([.ref x]) (n := 1) (Nat.le_of_ble_eq_true rfl)
  rw [lg_entry_eq]
  generalize (lg_sl ([.ref x]) ++ List.replicate (1 - (lg_sl ([.ref x])).length) Slot.unset).toArray = ls at hl ⊢
  have hl : lv_has ls 1 [(0, .ref x)] := hl
  refine lv_aload_n hx hb dX10_requireToldOrders_0 rfl (lv_at hl 0 rfl) ?_
  have hc_1 := hP.sub (ws' := [(x, .inr (0, [.ref a0, .ref a1, .ref a2, .ref a3, .ref a4, .ref a5, .ref a6, .int 0, .int 0, .int 0, .int 0, .int 0, .int 0, .int 0]))]) [0] rfl
  exact vx_callv (vx_runV (As := []) (rest := []) ⟨hx, hb, hml, hown, hts⟩ (c_X10_requireShow l hfl z0 D g x a0 a1 a2 a3 a4 a5 a6) (cwV 0 hts (lw_V m_911 m_913 mp_21 m_1 m_914) rfl rfl rfl (by decide +kernel) ⟨(Nat.le_of_ble_eq_true rfl), (Nat.le_of_ble_eq_true rfl)⟩) ⟨PR.blind, va_recv hK hP (ci := 0) (q0 := 0) rfl rfl, PR.pre hE hS nA_z hc_1⟩ rfl rfl hl.1 rfl (lv_room (Nat.le_of_ble_eq_true rfl)) dX10_requireToldOrders_1 ⟨(Nat.le_of_ble_eq_true rfl), (Nat.le_of_ble_eq_true rfl)⟩) hS nA_B nA_A nA_B (fun E ce q9 u t H locs ht hvm _ hBX hz1 hk1 hS hce hcv hcl => by subst hBX; exact vx_out (fun x h => (htb x h).elim) hlocks hce hcv hcl (fun t2 ht2 _ => xE.of2 hS ht2) hS.2.2 (Nat.le_of_ble_eq_true rfl) (Nat.le_of_ble_eq_true rfl)) (fun u t H locs ht hvm hw _ _ _ _ => hw.elim)
