theorem dX18_begin_0 : decode cX18_begin 0 = .ok (.aload_n 0, 1) := by decide +kernel
theorem dX18_begin_1 : decode cX18_begin 1 = .ok (.getfield 25, 3) := by decide +kernel
theorem dX18_begin_4 : decode cX18_begin 4 = .ok (.aload_n 0, 1) := by decide +kernel
theorem dX18_begin_5 : decode cX18_begin 5 = .ok (.getfield 81, 3) := by decide +kernel
theorem dX18_begin_8 : decode cX18_begin 8 = .ok (.invokestatic 138, 3) := by decide +kernel
theorem dX18_begin_11 : decode cX18_begin 11 = .ok (.invokevirtual 180, 3) := by decide +kernel
theorem dX18_begin_14 : decode cX18_begin 14 = .ok (.checkcast 147, 3) := by decide +kernel
theorem dX18_begin_17 : decode cX18_begin 17 = .ok (.astore_n 1, 1) := by decide +kernel
theorem dX18_begin_18 : decode cX18_begin 18 = .ok (.aload_n 0, 1) := by decide +kernel
theorem dX18_begin_19 : decode cX18_begin 19 = .ok (.aload_n 0, 1) := by decide +kernel
theorem dX18_begin_20 : decode cX18_begin 20 = .ok (.getfield 57, 3) := by decide +kernel
theorem dX18_begin_23 : decode cX18_begin 23 = .ok (.ifnull 7, 3) := by decide +kernel
theorem dX18_begin_30 : decode cX18_begin 30 = .ok (.aload_n 1, 1) := by decide +kernel
theorem dX18_begin_31 : decode cX18_begin 31 = .ok (.ifnull 12, 3) := by decide +kernel
theorem dX18_begin_43 : decode cX18_begin 43 = .ok (.iconst 2, 1) := by decide +kernel
theorem dX18_begin_44 : decode cX18_begin 44 = .ok (.goto 4, 3) := by decide +kernel
theorem dX18_begin_48 : decode cX18_begin 48 = .ok (.putfield 39, 3) := by decide +kernel
theorem dX18_begin_51 : decode cX18_begin 51 = .ok (.aload_n 0, 1) := by decide +kernel
theorem dX18_begin_52 : decode cX18_begin 52 = .ok (.getfield 39, 3) := by decide +kernel
theorem dX18_begin_55 : decode cX18_begin 55 = .ok (.ifCond .le 5, 3) := by decide +kernel
theorem dX18_begin_58 : decode cX18_begin 58 = .ok (.iconst (-1), 1) := by decide +kernel
theorem dX18_begin_59 : decode cX18_begin 59 = .ok (.ireturn, 1) := by decide +kernel
theorem dX18_sell_0 : decode cX18_sell 0 = .ok (.aload_n 0, 1) := by decide +kernel
theorem dX18_sell_1 : decode cX18_sell 1 = .ok (.iload_n 2, 1) := by decide +kernel
theorem dX18_sell_2 : decode cX18_sell 2 = .ok (.ifCond .ne 7, 3) := by decide +kernel
theorem dX18_sell_5 : decode cX18_sell 5 = .ok (.iconst 1, 1) := by decide +kernel
theorem dX18_sell_6 : decode cX18_sell 6 = .ok (.goto 4, 3) := by decide +kernel
theorem dX18_sell_9 : decode cX18_sell 9 = .ok (.iconst 0, 1) := by decide +kernel
theorem dX18_sell_10 : decode cX18_sell 10 = .ok (.putfield 39, 3) := by decide +kernel
theorem dX18_sell_13 : decode cX18_sell 13 = .ok (.aload_n 0, 1) := by decide +kernel
theorem dX18_sell_14 : decode cX18_sell 14 = .ok (.getfield 39, 3) := by decide +kernel
theorem dX18_sell_17 : decode cX18_sell 17 = .ok (.ifCond .le 5, 3) := by decide +kernel
theorem dX18_sell_20 : decode cX18_sell 20 = .ok (.iconst (-1), 1) := by decide +kernel
theorem dX18_sell_21 : decode cX18_sell 21 = .ok (.ireturn, 1) := by decide +kernel
theorem dX18_sell_22 : decode cX18_sell 22 = .ok (.aload_n 0, 1) := by decide +kernel
theorem dX18_sell_23 : decode cX18_sell 23 = .ok (.getfield 25, 3) := by decide +kernel
theorem dX18_sell_26 : decode cX18_sell 26 = .ok (.iload_n 1, 1) := by decide +kernel
theorem dX18_sell_27 : decode cX18_sell 27 = .ok (.invokestatic 138, 3) := by decide +kernel
theorem dX18_sell_30 : decode cX18_sell 30 = .ok (.invokevirtual 180, 3) := by decide +kernel
theorem dX18_sell_33 : decode cX18_sell 33 = .ok (.checkcast 147, 3) := by decide +kernel
theorem dX18_sell_36 : decode cX18_sell 36 = .ok (.astore_n 3, 1) := by decide +kernel
theorem dX18_sell_37 : decode cX18_sell 37 = .ok (.aload_n 3, 1) := by decide +kernel
theorem dX18_sell_38 : decode cX18_sell 38 = .ok (.ifnull 29, 3) := by decide +kernel
theorem dX18_sell_67 : decode cX18_sell 67 = .ok (.iconst 0, 1) := by decide +kernel
theorem dX18_sell_68 : decode cX18_sell 68 = .ok (.istore 4, 2) := by decide +kernel
theorem dX18_sell_70 : decode cX18_sell 70 = .ok (.aload_n 0, 1) := by decide +kernel
theorem dX18_sell_71 : decode cX18_sell 71 = .ok (.iload 4, 2) := by decide +kernel
theorem dX18_sell_73 : decode cX18_sell 73 = .ok (.ifCond .ne 7, 3) := by decide +kernel
theorem dX18_sell_76 : decode cX18_sell 76 = .ok (.iconst 2, 1) := by decide +kernel
theorem dX18_sell_77 : decode cX18_sell 77 = .ok (.goto 26, 3) := by decide +kernel
theorem dX18_sell_103 : decode cX18_sell 103 = .ok (.putfield 39, 3) := by decide +kernel
theorem dX18_sell_106 : decode cX18_sell 106 = .ok (.aload_n 0, 1) := by decide +kernel
theorem dX18_sell_107 : decode cX18_sell 107 = .ok (.getfield 39, 3) := by decide +kernel
theorem dX18_sell_110 : decode cX18_sell 110 = .ok (.ifCond .le 5, 3) := by decide +kernel
theorem dX18_sell_113 : decode cX18_sell 113 = .ok (.iconst (-1), 1) := by decide +kernel
theorem dX18_sell_114 : decode cX18_sell 114 = .ok (.ireturn, 1) := by decide +kernel
theorem m_1184 : (Cond.fieldLink "TheatrehouseModel" 25 "TheatrehouseModel" "evenings" "Ljava/util/TreeMap;") ∈ lw_all := lw_in 1184 (by decide +kernel) (by decide +kernel)
theorem m_1525 : (Cond.methodLink "TheatrehouseModel" 138 ⟨"java/lang/Integer", "valueOf", "(I)Ljava/lang/Integer;"⟩) ∈ lw_all := lw_in 1525 (by decide +kernel) (by decide +kernel)
theorem m_1526 : (Cond.static ⟨"java/lang/Integer", "valueOf", "(I)Ljava/lang/Integer;"⟩) ∈ lw_all := lw_in 1526 (by decide +kernel) (by decide +kernel)
theorem m_1527 : (Cond.code ⟨"java/lang/Integer", "valueOf", "(I)Ljava/lang/Integer;"⟩ prog_35_method_22_code 1 (Option.some (Jvm.ClassFile.FieldType.object "java/lang/Integer"))) ∈ lw_all := lw_in 1527 (by decide +kernel) (by decide +kernel)
theorem m_2039 : (Cond.methodLink "TheatrehouseModel" 180 ⟨"java/util/TreeMap", "get", "(Ljava/lang/Object;)Ljava/lang/Object;"⟩) ∈ lw_all := lw_in 2039 (by decide +kernel) (by decide +kernel)
theorem m_2040 : (Cond.instanceMethod ⟨"java/util/TreeMap", "get", "(Ljava/lang/Object;)Ljava/lang/Object;"⟩) ∈ lw_all := lw_in 2040 (by decide +kernel) (by decide +kernel)
theorem m_2041 : (Cond.selects "java/util/TreeMap" ⟨"java/util/TreeMap", "get", "(Ljava/lang/Object;)Ljava/lang/Object;"⟩ ⟨"java/util/TreeMap", "get", "(Ljava/lang/Object;)Ljava/lang/Object;"⟩) ∈ lw_all := lw_in 2041 (by decide +kernel) (by decide +kernel)
theorem m_2042 : (Cond.code ⟨"java/util/TreeMap", "get", "(Ljava/lang/Object;)Ljava/lang/Object;"⟩ prog_75_method_8_code 3 (Option.some (Jvm.ClassFile.FieldType.object "java/lang/Object"))) ∈ lw_all := lw_in 2042 (by decide +kernel) (by decide +kernel)
set_option maxHeartbeats 4000000 in
set_option maxRecDepth 100000 in
theorem c_X18_sell_0 (l : Launch) (z0 : Nat) (D : va_G) (g : Nat → Nat) (sz : Nat) (mm b0 b1 b2 b3 b4 b5 b6 : Nat) (p0 : Int32) (p1 : Int32) (h : p1 = 0) : Met l yX18_sell (wsp yX18_sell cX18_sell 5 (some .int)) ({ frames := 0, cells := 0, slots := 0, locals := 0 }) (va_Pc [.ref mm, .int p0, .int p1] (PM z0 D g sz [(mm, .inr (9, [.ref b0, .ref b1, .ref b2, .ref b3, .int 0, .null, .null, .ref b4, .null, .ref b5, .ref b6, .int 0, .int 0, .long 0, .int 0])), (b0, .inr (10, [.int 0, .ref (g 4), .int 0])), (b1, .inr (10, [.int 0, .ref (g 4), .int 0])), (b2, .inr (10, [.int 0, .ref (g 4), .int 0])), (b3, .inr (11, [.null, .null, .null, .null, .int 0, .int 0, .null, .null, .null]))])) (va_Qi (fun (r : Int32) (_ : Unit) => True) (fun (_ : Unit) t => va_P D classes [(mm, .inr (9, [.ref b0, .ref b1, .ref b2, .ref b3, .int 0, .null, .null, .ref b4, .null, .ref b5, .ref b6, .int 0, .int 0, .long 0, .int 1]))] t.heap ∧ va_D (va_A [(mm, .inr (9, [.ref b0, .ref b1, .ref b2, .ref b3, .int 0, .null, .null, .ref b4, .null, .ref b5, .ref b6, .int 0, .int 0, .long 0, .int 0])), (b0, .inr (10, [.int 0, .ref (g 4), .int 0])), (b1, .inr (10, [.int 0, .ref (g 4), .int 0])), (b2, .inr (10, [.int 0, .ref (g 4), .int 0])), (b3, .inr (11, [.null, .null, .null, .null, .int 0, .int 0, .null, .null, .null]))] sz) [(mm, .inr (9, [.ref b0, .ref b1, .ref b2, .ref b3, .int 0, .null, .null, .ref b4, .null, .ref b5, .ref b6, .int 0, .int 0, .long 0, .int 1]))]) (va_A [(mm, .inr (9, [.ref b0, .ref b1, .ref b2, .ref b3, .int 0, .null, .null, .ref b4, .null, .ref b5, .ref b6, .int 0, .int 0, .long 0, .int 0])), (b0, .inr (10, [.int 0, .ref (g 4), .int 0])), (b1, .inr (10, [.int 0, .ref (g 4), .int 0])), (b2, .inr (10, [.int 0, .ref (g 4), .int 0])), (b3, .inr (11, [.null, .null, .null, .null, .int 0, .int 0, .null, .null, .null]))] sz)) 0 0 (va_A [(mm, .inr (9, [.ref b0, .ref b1, .ref b2, .ref b3, .int 0, .null, .null, .ref b4, .null, .ref b5, .ref b6, .int 0, .int 0, .long 0, .int 0])), (b0, .inr (10, [.int 0, .ref (g 4), .int 0])), (b1, .inr (10, [.int 0, .ref (g 4), .int 0])), (b2, .inr (10, [.int 0, .ref (g 4), .int 0])), (b3, .inr (11, [.null, .null, .null, .null, .int 0, .int 0, .null, .null, .null]))] sz) := by
  refine Met.ofW (cc := cX18_sell) (maxL := 5) (ret := (some .int)) (by decide) rfl ?_
  intro p e s m args below meth c s₁ B hml hv
  obtain ⟨rfl, hsz9, hz0, hE, hP, hD0⟩ := hv
  have hx := B.exec
  have hb := B.bytes
  have hr := B.returns
  have hts0 := atoms_spec (ws := (wsp yX18_sell cX18_sell 5 (some .int))) B.pre
  have hts : ∀ w ∈ lw_all, w.before _ s = true := fun w h => hts0 w (List.mem_cons_of_mem _ h)
  have hown : s.vm.findClass "TheatrehouseModel" = some m.cls := findClass_of_methodNamed B.named
  have hlocks := B.notSynchronized
  have hK := hE.K
  subst hsz9
  have hsz := hz0
  have hAz : ∀ q, va_A [(mm, .inr (9, [.ref b0, .ref b1, .ref b2, .ref b3, .int 0, .null, .null, .ref b4, .null, .ref b5, .ref b6, .int 0, .int 0, .long 0, .int 0])), (b0, .inr (10, [.int 0, .ref (g 4), .int 0])), (b1, .inr (10, [.int 0, .ref (g 4), .int 0])), (b2, .inr (10, [.int 0, .ref (g 4), .int 0])), (b3, .inr (11, [.null, .null, .null, .null, .int 0, .int 0, .null, .null, .null]))] s.heap.size q → z0 ≤ q := vaA_z hz0 hD0
  have hD := hD0.self (sz := s.heap.size)
  generalize hAe : va_A [(mm, .inr (9, [.ref b0, .ref b1, .ref b2, .ref b3, .int 0, .null, .null, .ref b4, .null, .ref b5, .ref b6, .int 0, .int 0, .long 0, .int 0])), (b0, .inr (10, [.int 0, .ref (g 4), .int 0])), (b1, .inr (10, [.int 0, .ref (g 4), .int 0])), (b2, .inr (10, [.int 0, .ref (g 4), .int 0])), (b3, .inr (11, [.null, .null, .null, .null, .int 0, .int 0, .null, .null, .null]))] s.heap.size = A at hD hAz ⊢
  have hA : ∀ q : Nat, s.heap.size ≤ q → A q := fun q h => by rw [← hAe]; exact Or.inr h
  have hS : va_S A s.heap s.heap [] := va_S.rf
  have hP : va_P D classes [(mm, .inr (9, [.ref b0, .ref b1, .ref b2, .ref b3, .int 0, .null, .null, .ref b4, .null, .ref b5, .ref b6, .int 0, .int 0, .long 0, .int 0])), (b0, .inr (10, [.int 0, .ref (g 4), .int 0])), (b1, .inr (10, [.int 0, .ref (g 4), .int 0])), (b2, .inr (10, [.int 0, .ref (g 4), .int 0])), (b3, .inr (11, [.null, .null, .null, .null, .int 0, .int 0, .null, .null, .null]))] s.heap := hP
  have hl := lv_entry ([.ref mm, .int p0, .int p1]) (n := 5) (Nat.le_of_ble_eq_true rfl)
  rw [lg_entry_eq]
  generalize (lg_sl ([.ref mm, .int p0, .int p1]) ++ List.replicate (5 - (lg_sl ([.ref mm, .int p0, .int p1])).length) Slot.unset).toArray = ls at hl ⊢
  have hl : lv_has ls 5 [(0, .ref mm), (1, .int p0), (2, .int p1)] := hl
  refine lv_aload_n hx hb dX18_sell_0 rfl (lv_at hl 0 rfl) ?_
  refine lv_iload_n hx hb dX18_sell_1 rfl (lv_at hl 2 rfl) ?_
  refine lv_if_ne (tgt := 9) hx hb dX18_sell_2 (by decide) (fun h9 => absurd h h9) (fun _ => ?_)
  refine lv_iconst (v := 1) hx hb dX18_sell_5 (by decide) ?_
  refine lv_goto (tgt := 10) hx hb dX18_sell_6 (by decide) ?_
  refine va_put (D := D) (ci := 9) (v := .int 1) (ty := .int) (C := RX18) (T := TX18) (N := 15) hx hb hts i_X18 tyX18 tyX18_ok nmX18 hown hK hP hD hS 0 rfl rfl 14 (by decide) (hts _ m_1197) (fun _ h9 => h9) rfl (by decide +kernel) rfl rfl (Nat.le_of_ble_eq_true rfl) dX18_sell_10 (fun H locs hP hD hS => ?_)
  have hP : va_P D classes [(mm, .inr (9, [.ref b0, .ref b1, .ref b2, .ref b3, .int 0, .null, .null, .ref b4, .null, .ref b5, .ref b6, .int 0, .int 0, .long 0, .int 1])), (b0, .inr (10, [.int 0, .ref (g 4), .int 0])), (b1, .inr (10, [.int 0, .ref (g 4), .int 0])), (b2, .inr (10, [.int 0, .ref (g 4), .int 0])), (b3, .inr (11, [.null, .null, .null, .null, .int 0, .int 0, .null, .null, .null]))] H := hP
  have hD : va_D A [(mm, .inr (9, [.ref b0, .ref b1, .ref b2, .ref b3, .int 0, .null, .null, .ref b4, .null, .ref b5, .ref b6, .int 0, .int 0, .long 0, .int 1])), (b0, .inr (10, [.int 0, .ref (g 4), .int 0])), (b1, .inr (10, [.int 0, .ref (g 4), .int 0])), (b2, .inr (10, [.int 0, .ref (g 4), .int 0])), (b3, .inr (11, [.null, .null, .null, .null, .int 0, .int 0, .null, .null, .null]))] := hD
  refine lv_aload_n hx hb dX18_sell_13 rfl (lv_at hl 0 rfl) ?_
  refine va_get (D := D) (ci := 9) (v := .int 1) (C := RX18) (T := TX18) (N := 15) hx hb hts i_X18 hown hK hP 0 rfl rfl 14 (by decide) (hts _ m_1197) (fun _ h9 => h9) rfl dX18_sell_14 ?_
  refine lv_if_le (tgt := 22) hx hb dX18_sell_17 (by decide) (fun h9 => absurd h9 (by decide)) (fun _ => ?_)
  refine lv_iconst (v := (-1)) hx hb dX18_sell_20 (by decide) ?_
  have hP9 := hP.sub (ws' := [(mm, .inr (9, [.ref b0, .ref b1, .ref b2, .ref b3, .int 0, .null, .null, .ref b4, .null, .ref b5, .ref b6, .int 0, .int 0, .long 0, .int 1]))]) [0] rfl
  have hD9 := hD.sub (ws' := [(mm, .inr (9, [.ref b0, .ref b1, .ref b2, .ref b3, .int 0, .null, .null, .ref b4, .null, .ref b5, .ref b6, .int 0, .int 0, .long 0, .int 1]))]) [0] (by decide) rfl
  refine W.widen (k := 0) (n := 0) (Nat.le_of_ble_eq_true rfl) (Nat.le_of_ble_eq_true rfl) ?_
  exact W.iret (v := (-1)) hx hb hr (fun t ht hW => ⟨⟨(-1), (), rfl, trivial, ⟨by rw [ht]; exact hP9, hD9⟩⟩, hS.F ht⟩) hS.2.2 dX18_sell_21

set_option maxHeartbeats 4000000 in
set_option maxRecDepth 100000 in
theorem c_X18_sell_1 (l : Launch) (z0 : Nat) (D : va_G) (g : Nat → Nat) (sz : Nat) (mm b0 b1 b2 b3 b4 b5 b6 : Nat) (p0 : Int32) (p1 : Int32) (h : ¬ p1 = 0) : Met l yX18_sell (wsp yX18_sell cX18_sell 5 (some .int)) ({ frames := 4, cells := 1, slots := 1, locals := 81 }) (va_Pc [.ref mm, .int p0, .int p1] (PM z0 D g sz [(mm, .inr (9, [.ref b0, .ref b1, .ref b2, .ref b3, .int 0, .null, .null, .ref b4, .null, .ref b5, .ref b6, .int 0, .int 0, .long 0, .int 0])), (b0, .inr (10, [.int 0, .ref (g 4), .int 0])), (b1, .inr (10, [.int 0, .ref (g 4), .int 0])), (b2, .inr (10, [.int 0, .ref (g 4), .int 0])), (b3, .inr (11, [.null, .null, .null, .null, .int 0, .int 0, .null, .null, .null]))])) (va_Qi (fun (r : Int32) (_ : Unit) => True) (fun (_ : Unit) t => va_P D classes [(mm, .inr (9, [.ref b0, .ref b1, .ref b2, .ref b3, .int 0, .null, .null, .ref b4, .null, .ref b5, .ref b6, .int 0, .int 0, .long 0, .int 2]))] t.heap ∧ va_D (va_A [(mm, .inr (9, [.ref b0, .ref b1, .ref b2, .ref b3, .int 0, .null, .null, .ref b4, .null, .ref b5, .ref b6, .int 0, .int 0, .long 0, .int 0])), (b0, .inr (10, [.int 0, .ref (g 4), .int 0])), (b1, .inr (10, [.int 0, .ref (g 4), .int 0])), (b2, .inr (10, [.int 0, .ref (g 4), .int 0])), (b3, .inr (11, [.null, .null, .null, .null, .int 0, .int 0, .null, .null, .null]))] sz) [(mm, .inr (9, [.ref b0, .ref b1, .ref b2, .ref b3, .int 0, .null, .null, .ref b4, .null, .ref b5, .ref b6, .int 0, .int 0, .long 0, .int 2]))]) (va_A [(mm, .inr (9, [.ref b0, .ref b1, .ref b2, .ref b3, .int 0, .null, .null, .ref b4, .null, .ref b5, .ref b6, .int 0, .int 0, .long 0, .int 0])), (b0, .inr (10, [.int 0, .ref (g 4), .int 0])), (b1, .inr (10, [.int 0, .ref (g 4), .int 0])), (b2, .inr (10, [.int 0, .ref (g 4), .int 0])), (b3, .inr (11, [.null, .null, .null, .null, .int 0, .int 0, .null, .null, .null]))] sz)) 1 1 (va_A [(mm, .inr (9, [.ref b0, .ref b1, .ref b2, .ref b3, .int 0, .null, .null, .ref b4, .null, .ref b5, .ref b6, .int 0, .int 0, .long 0, .int 0])), (b0, .inr (10, [.int 0, .ref (g 4), .int 0])), (b1, .inr (10, [.int 0, .ref (g 4), .int 0])), (b2, .inr (10, [.int 0, .ref (g 4), .int 0])), (b3, .inr (11, [.null, .null, .null, .null, .int 0, .int 0, .null, .null, .null]))] sz) := by
  refine Met.ofW (cc := cX18_sell) (maxL := 5) (ret := (some .int)) (by decide) rfl ?_
  intro p e s m args below meth c s₁ B hml hv
  obtain ⟨rfl, hsz9, hz0, hE, hP, hD0⟩ := hv
  have hx := B.exec
  have hb := B.bytes
  have hr := B.returns
  have hts0 := atoms_spec (ws := (wsp yX18_sell cX18_sell 5 (some .int))) B.pre
  have hts : ∀ w ∈ lw_all, w.before _ s = true := fun w h => hts0 w (List.mem_cons_of_mem _ h)
  have hown : s.vm.findClass "TheatrehouseModel" = some m.cls := findClass_of_methodNamed B.named
  have hlocks := B.notSynchronized
  have hK := hE.K
  subst hsz9
  have hsz := hz0
  have hAz : ∀ q, va_A [(mm, .inr (9, [.ref b0, .ref b1, .ref b2, .ref b3, .int 0, .null, .null, .ref b4, .null, .ref b5, .ref b6, .int 0, .int 0, .long 0, .int 0])), (b0, .inr (10, [.int 0, .ref (g 4), .int 0])), (b1, .inr (10, [.int 0, .ref (g 4), .int 0])), (b2, .inr (10, [.int 0, .ref (g 4), .int 0])), (b3, .inr (11, [.null, .null, .null, .null, .int 0, .int 0, .null, .null, .null]))] s.heap.size q → z0 ≤ q := vaA_z hz0 hD0
  have hD := hD0.self (sz := s.heap.size)
  generalize hAe : va_A [(mm, .inr (9, [.ref b0, .ref b1, .ref b2, .ref b3, .int 0, .null, .null, .ref b4, .null, .ref b5, .ref b6, .int 0, .int 0, .long 0, .int 0])), (b0, .inr (10, [.int 0, .ref (g 4), .int 0])), (b1, .inr (10, [.int 0, .ref (g 4), .int 0])), (b2, .inr (10, [.int 0, .ref (g 4), .int 0])), (b3, .inr (11, [.null, .null, .null, .null, .int 0, .int 0, .null, .null, .null]))] s.heap.size = A at hD hAz ⊢
  have hA : ∀ q : Nat, s.heap.size ≤ q → A q := fun q h => by rw [← hAe]; exact Or.inr h
  have hS : va_S A s.heap s.heap [] := va_S.rf
  have hP : va_P D classes [(mm, .inr (9, [.ref b0, .ref b1, .ref b2, .ref b3, .int 0, .null, .null, .ref b4, .null, .ref b5, .ref b6, .int 0, .int 0, .long 0, .int 0])), (b0, .inr (10, [.int 0, .ref (g 4), .int 0])), (b1, .inr (10, [.int 0, .ref (g 4), .int 0])), (b2, .inr (10, [.int 0, .ref (g 4), .int 0])), (b3, .inr (11, [.null, .null, .null, .null, .int 0, .int 0, .null, .null, .null]))] s.heap := hP
  have hl := lv_entry ([.ref mm, .int p0, .int p1]) (n := 5) (Nat.le_of_ble_eq_true rfl)
  rw [lg_entry_eq]
  generalize (lg_sl ([.ref mm, .int p0, .int p1]) ++ List.replicate (5 - (lg_sl ([.ref mm, .int p0, .int p1])).length) Slot.unset).toArray = ls at hl ⊢
  have hl : lv_has ls 5 [(0, .ref mm), (1, .int p0), (2, .int p1)] := hl
  refine lv_aload_n hx hb dX18_sell_0 rfl (lv_at hl 0 rfl) ?_
  refine lv_iload_n hx hb dX18_sell_1 rfl (lv_at hl 2 rfl) ?_
  refine lv_if_ne (tgt := 9) hx hb dX18_sell_2 (by decide) (fun _ => ?_) (fun h9 => absurd h9 h)
  refine lv_iconst (v := 0) hx hb dX18_sell_9 (by decide) ?_
  refine va_put (D := D) (ci := 9) (v := .int 0) (ty := .int) (C := RX18) (T := TX18) (N := 15) hx hb hts i_X18 tyX18 tyX18_ok nmX18 hown hK hP hD hS 0 rfl rfl 14 (by decide) (hts _ m_1197) (fun _ h9 => h9) rfl (by decide +kernel) rfl rfl (Nat.le_of_ble_eq_true rfl) dX18_sell_10 (fun H locs hP hD hS => ?_)
  have hP : va_P D classes [(mm, .inr (9, [.ref b0, .ref b1, .ref b2, .ref b3, .int 0, .null, .null, .ref b4, .null, .ref b5, .ref b6, .int 0, .int 0, .long 0, .int 0])), (b0, .inr (10, [.int 0, .ref (g 4), .int 0])), (b1, .inr (10, [.int 0, .ref (g 4), .int 0])), (b2, .inr (10, [.int 0, .ref (g 4), .int 0])), (b3, .inr (11, [.null, .null, .null, .null, .int 0, .int 0, .null, .null, .null]))] H := hP
  have hD : va_D A [(mm, .inr (9, [.ref b0, .ref b1, .ref b2, .ref b3, .int 0, .null, .null, .ref b4, .null, .ref b5, .ref b6, .int 0, .int 0, .long 0, .int 0])), (b0, .inr (10, [.int 0, .ref (g 4), .int 0])), (b1, .inr (10, [.int 0, .ref (g 4), .int 0])), (b2, .inr (10, [.int 0, .ref (g 4), .int 0])), (b3, .inr (11, [.null, .null, .null, .null, .int 0, .int 0, .null, .null, .null]))] := hD
  refine lv_aload_n hx hb dX18_sell_13 rfl (lv_at hl 0 rfl) ?_
  refine va_get (D := D) (ci := 9) (v := .int 0) (C := RX18) (T := TX18) (N := 15) hx hb hts i_X18 hown hK hP 0 rfl rfl 14 (by decide) (hts _ m_1197) (fun _ h9 => h9) rfl dX18_sell_14 ?_
  refine lv_if_le (tgt := 22) hx hb dX18_sell_17 (by decide) (fun _ => ?_) (fun h9 => absurd (by decide) h9)
  refine lv_aload_n hx hb dX18_sell_22 rfl (lv_at hl 0 rfl) ?_
  refine va_get (D := D) (ci := 9) (v := .ref b3) (C := RX18) (T := TX18) (N := 15) hx hb hts i_X18 hown hK hP 0 rfl rfl 3 (by decide) (hts _ m_1184) (fun _ h9 => h9) rfl dX18_sell_23 ?_
  refine lv_iload_n hx hb dX18_sell_26 rfl (lv_at hl 1 rfl) ?_
  have hc_1 := hP.sub (ws' := []) [] rfl
  have hc_1D := hD.sub (ws' := []) [] (by decide) rfl
  have hc_1F := va_free (wc := []) hD hS hA [] rfl
  refine va_callr (va_runS (As := [.int p0]) (rest := [.ref b3]) ⟨hx, hb, hml, hown, hts⟩ (c_valueOf l z0 D g _ p0) (va_cwS 1 hts (lw_S m_1525 m_1526 m_38 m_1527) rfl rfl rfl (by decide +kernel) ⟨(Nat.le_of_ble_eq_true rfl), (Nat.le_of_ble_eq_true rfl)⟩) ⟨PM.blind, PM.pre hE hS hAz hsz hc_1 hc_1D⟩ rfl rfl hl.1 rfl (lv_room (Nat.le_of_ble_eq_true rfl)) dX18_sell_27 ⟨(Nat.le_of_ble_eq_true rfl), (Nat.le_of_ble_eq_true rfl)⟩) hS (fun q _ h => hc_1F q h) hc_1F (fun u r_2 t H locs ht hvm hw hB hz1 hk1 hS => ?_)
  have hP := hP.oldA hk1
  have hP : va_P D classes [(mm, .inr (9, [.ref b0, .ref b1, .ref b2, .ref b3, .int 0, .null, .null, .ref b4, .null, .ref b5, .ref b6, .int 0, .int 0, .long 0, .int 0])), (b0, .inr (10, [.int 0, .ref (g 4), .int 0])), (b1, .inr (10, [.int 0, .ref (g 4), .int 0])), (b2, .inr (10, [.int 0, .ref (g 4), .int 0])), (b3, .inr (11, [.null, .null, .null, .null, .int 0, .int 0, .null, .null, .null]))] H := hP
  have hO := O_back hB ht hvm
  have hc_3 := hP.sub (ws' := [(b3, .inr (11, [.null, .null, .null, .null, .int 0, .int 0, .null, .null, .null]))]) [4] rfl
  refine va_callq (va_runV (As := [.ref r_2]) (rest := []) ⟨hx, hb, hml, hown, hts⟩ (c_TMget l z0 D g b3 r_2) (cwV 1 hts (lw_V m_2039 m_2040 m_2041 m_17 m_2042) rfl rfl rfl (by decide +kernel) ⟨(Nat.le_of_ble_eq_true rfl), (Nat.le_of_ble_eq_true rfl)⟩) ⟨PRO.blind, va_recv hK hP (ci := 11) (q0 := 4) rfl rfl, PRO.pre hE hS hAz hc_3 hO⟩ rfl rfl hl.1 rfl (lv_room (Nat.le_of_ble_eq_true rfl)) dX18_sell_30 ⟨(Nat.le_of_ble_eq_true rfl), (Nat.le_of_ble_eq_true rfl)⟩) hS nA_B nA_A (fun r_4 u t H locs ht hvm hw hB hz1 hk1 hS => ?_)
  have hP := hP.old hk1
  have hP : va_P D classes [(mm, .inr (9, [.ref b0, .ref b1, .ref b2, .ref b3, .int 0, .null, .null, .ref b4, .null, .ref b5, .ref b6, .int 0, .int 0, .long 0, .int 0])), (b0, .inr (10, [.int 0, .ref (g 4), .int 0])), (b1, .inr (10, [.int 0, .ref (g 4), .int 0])), (b2, .inr (10, [.int 0, .ref (g 4), .int 0])), (b3, .inr (11, [.null, .null, .null, .null, .int 0, .int 0, .null, .null, .null]))] H := hP
  subst hw
  refine W.eq (g2 := F0 m 33 ls [.null]) rfl ?_
  refine lv_castN hx hb dX18_sell_33 ?_
  refine lv_astore_nN (lv' := [(3, .null), (0, .ref mm), (1, .int p0), (2, .int p1)]) hx hb dX18_sell_36 rfl hl (by decide) rfl (fun ls hl => ?_)
  refine lv_aload_nN hx hb dX18_sell_37 rfl (lv_at hl 0 rfl) ?_
  refine lv_ifnullN (tgt := 67) hx hb dX18_sell_38 (by decide) ?_
  refine lv_iconst (v := 0) hx hb dX18_sell_67 (by decide) ?_
  refine lv_istore (lv' := [(4, .int 0), (3, .null), (0, .ref mm), (1, .int p0), (2, .int p1)]) hx hb dX18_sell_68 hl (by decide) rfl (fun ls hl => ?_)
  refine lv_aload_n hx hb dX18_sell_70 rfl (lv_at hl 2 rfl) ?_
  refine lv_iload hx hb dX18_sell_71 (lv_at hl 0 rfl) ?_
  refine lv_if_ne (tgt := 80) hx hb dX18_sell_73 (by decide) (fun h9 => absurd (by decide) h9) (fun _ => ?_)
  refine lv_iconst (v := 2) hx hb dX18_sell_76 (by decide) ?_
  refine lv_goto (tgt := 103) hx hb dX18_sell_77 (by decide) ?_
  refine va_put (D := D) (ci := 9) (v := .int 2) (ty := .int) (C := RX18) (T := TX18) (N := 15) hx hb hts i_X18 tyX18 tyX18_ok nmX18 hown hK hP hD hS 0 rfl rfl 14 (by decide) (hts _ m_1197) (fun _ h9 => h9) rfl (by decide +kernel) rfl rfl (Nat.le_of_ble_eq_true rfl) dX18_sell_103 (fun H locs hP hD hS => ?_)
  have hP : va_P D classes [(mm, .inr (9, [.ref b0, .ref b1, .ref b2, .ref b3, .int 0, .null, .null, .ref b4, .null, .ref b5, .ref b6, .int 0, .int 0, .long 0, .int 2])), (b0, .inr (10, [.int 0, .ref (g 4), .int 0])), (b1, .inr (10, [.int 0, .ref (g 4), .int 0])), (b2, .inr (10, [.int 0, .ref (g 4), .int 0])), (b3, .inr (11, [.null, .null, .null, .null, .int 0, .int 0, .null, .null, .null]))] H := hP
  have hD : va_D A [(mm, .inr (9, [.ref b0, .ref b1, .ref b2, .ref b3, .int 0, .null, .null, .ref b4, .null, .ref b5, .ref b6, .int 0, .int 0, .long 0, .int 2])), (b0, .inr (10, [.int 0, .ref (g 4), .int 0])), (b1, .inr (10, [.int 0, .ref (g 4), .int 0])), (b2, .inr (10, [.int 0, .ref (g 4), .int 0])), (b3, .inr (11, [.null, .null, .null, .null, .int 0, .int 0, .null, .null, .null]))] := hD
  refine lv_aload_n hx hb dX18_sell_106 rfl (lv_at hl 2 rfl) ?_
  refine va_get (D := D) (ci := 9) (v := .int 2) (C := RX18) (T := TX18) (N := 15) hx hb hts i_X18 hown hK hP 0 rfl rfl 14 (by decide) (hts _ m_1197) (fun _ h9 => h9) rfl dX18_sell_107 ?_
  refine lv_if_le (tgt := 115) hx hb dX18_sell_110 (by decide) (fun h9 => absurd h9 (by decide)) (fun _ => ?_)
  refine lv_iconst (v := (-1)) hx hb dX18_sell_113 (by decide) ?_
  have hP9 := hP.sub (ws' := [(mm, .inr (9, [.ref b0, .ref b1, .ref b2, .ref b3, .int 0, .null, .null, .ref b4, .null, .ref b5, .ref b6, .int 0, .int 0, .long 0, .int 2]))]) [0] rfl
  have hD9 := hD.sub (ws' := [(mm, .inr (9, [.ref b0, .ref b1, .ref b2, .ref b3, .int 0, .null, .null, .ref b4, .null, .ref b5, .ref b6, .int 0, .int 0, .long 0, .int 2]))]) [0] (by decide) rfl
  refine W.widen (k := 1) (n := 1) (Nat.le_of_ble_eq_true rfl) (Nat.le_of_ble_eq_true rfl) ?_
  exact W.iret (v := (-1)) hx hb hr (fun t ht hW => ⟨⟨(-1), (), rfl, trivial, ⟨by rw [ht]; exact hP9, hD9⟩⟩, hS.F ht⟩) hS.2.2 dX18_sell_114

set_option maxHeartbeats 4000000 in
set_option maxRecDepth 100000 in
theorem c_X18_begin (l : Launch) (z0 : Nat) (D : va_G) (g : Nat → Nat) (sz : Nat) (mm b0 b1 b2 b3 b4 b5 b6 : Nat) : Met l yX18_begin (wsp yX18_begin cX18_begin 3 (some .int)) ({ frames := 4, cells := 1, slots := 1, locals := 81 }) (va_Pc [.ref mm] (PM z0 D g sz [(mm, .inr (9, [.ref b0, .ref b1, .ref b2, .ref b3, .int 0, .null, .null, .ref b4, .null, .ref b5, .ref b6, .int 0, .int 0, .long 0, .int 0])), (b0, .inr (10, [.int 0, .ref (g 4), .int 0])), (b1, .inr (10, [.int 0, .ref (g 4), .int 0])), (b2, .inr (10, [.int 0, .ref (g 4), .int 0])), (b3, .inr (11, [.null, .null, .null, .null, .int 0, .int 0, .null, .null, .null]))])) (va_Qi (fun (r : Int32) (_ : Unit) => True) (fun (_ : Unit) t => va_P D classes [(mm, .inr (9, [.ref b0, .ref b1, .ref b2, .ref b3, .int 0, .null, .null, .ref b4, .null, .ref b5, .ref b6, .int 0, .int 0, .long 0, .int 2]))] t.heap ∧ va_D (va_A [(mm, .inr (9, [.ref b0, .ref b1, .ref b2, .ref b3, .int 0, .null, .null, .ref b4, .null, .ref b5, .ref b6, .int 0, .int 0, .long 0, .int 0])), (b0, .inr (10, [.int 0, .ref (g 4), .int 0])), (b1, .inr (10, [.int 0, .ref (g 4), .int 0])), (b2, .inr (10, [.int 0, .ref (g 4), .int 0])), (b3, .inr (11, [.null, .null, .null, .null, .int 0, .int 0, .null, .null, .null]))] sz) [(mm, .inr (9, [.ref b0, .ref b1, .ref b2, .ref b3, .int 0, .null, .null, .ref b4, .null, .ref b5, .ref b6, .int 0, .int 0, .long 0, .int 2]))]) (va_A [(mm, .inr (9, [.ref b0, .ref b1, .ref b2, .ref b3, .int 0, .null, .null, .ref b4, .null, .ref b5, .ref b6, .int 0, .int 0, .long 0, .int 0])), (b0, .inr (10, [.int 0, .ref (g 4), .int 0])), (b1, .inr (10, [.int 0, .ref (g 4), .int 0])), (b2, .inr (10, [.int 0, .ref (g 4), .int 0])), (b3, .inr (11, [.null, .null, .null, .null, .int 0, .int 0, .null, .null, .null]))] sz)) 1 1 (va_A [(mm, .inr (9, [.ref b0, .ref b1, .ref b2, .ref b3, .int 0, .null, .null, .ref b4, .null, .ref b5, .ref b6, .int 0, .int 0, .long 0, .int 0])), (b0, .inr (10, [.int 0, .ref (g 4), .int 0])), (b1, .inr (10, [.int 0, .ref (g 4), .int 0])), (b2, .inr (10, [.int 0, .ref (g 4), .int 0])), (b3, .inr (11, [.null, .null, .null, .null, .int 0, .int 0, .null, .null, .null]))] sz) := by
  refine Met.ofW (cc := cX18_begin) (maxL := 3) (ret := (some .int)) (by decide) rfl ?_
  intro p e s m args below meth c s₁ B hml hv
  obtain ⟨rfl, hsz9, hz0, hE, hP, hD0⟩ := hv
  have hx := B.exec
  have hb := B.bytes
  have hr := B.returns
  have hts0 := atoms_spec (ws := (wsp yX18_begin cX18_begin 3 (some .int))) B.pre
  have hts : ∀ w ∈ lw_all, w.before _ s = true := fun w h => hts0 w (List.mem_cons_of_mem _ h)
  have hown : s.vm.findClass "TheatrehouseModel" = some m.cls := findClass_of_methodNamed B.named
  have hlocks := B.notSynchronized
  have hK := hE.K
  subst hsz9
  have hsz := hz0
  have hAz : ∀ q, va_A [(mm, .inr (9, [.ref b0, .ref b1, .ref b2, .ref b3, .int 0, .null, .null, .ref b4, .null, .ref b5, .ref b6, .int 0, .int 0, .long 0, .int 0])), (b0, .inr (10, [.int 0, .ref (g 4), .int 0])), (b1, .inr (10, [.int 0, .ref (g 4), .int 0])), (b2, .inr (10, [.int 0, .ref (g 4), .int 0])), (b3, .inr (11, [.null, .null, .null, .null, .int 0, .int 0, .null, .null, .null]))] s.heap.size q → z0 ≤ q := vaA_z hz0 hD0
  have hD := hD0.self (sz := s.heap.size)
  generalize hAe : va_A [(mm, .inr (9, [.ref b0, .ref b1, .ref b2, .ref b3, .int 0, .null, .null, .ref b4, .null, .ref b5, .ref b6, .int 0, .int 0, .long 0, .int 0])), (b0, .inr (10, [.int 0, .ref (g 4), .int 0])), (b1, .inr (10, [.int 0, .ref (g 4), .int 0])), (b2, .inr (10, [.int 0, .ref (g 4), .int 0])), (b3, .inr (11, [.null, .null, .null, .null, .int 0, .int 0, .null, .null, .null]))] s.heap.size = A at hD hAz ⊢
  have hA : ∀ q : Nat, s.heap.size ≤ q → A q := fun q h => by rw [← hAe]; exact Or.inr h
  have hS : va_S A s.heap s.heap [] := va_S.rf
  have hP : va_P D classes [(mm, .inr (9, [.ref b0, .ref b1, .ref b2, .ref b3, .int 0, .null, .null, .ref b4, .null, .ref b5, .ref b6, .int 0, .int 0, .long 0, .int 0])), (b0, .inr (10, [.int 0, .ref (g 4), .int 0])), (b1, .inr (10, [.int 0, .ref (g 4), .int 0])), (b2, .inr (10, [.int 0, .ref (g 4), .int 0])), (b3, .inr (11, [.null, .null, .null, .null, .int 0, .int 0, .null, .null, .null]))] s.heap := hP
  have hl := lv_entry ([.ref mm]) (n := 3) (Nat.le_of_ble_eq_true rfl)
  rw [lg_entry_eq]
  generalize (lg_sl ([.ref mm]) ++ List.replicate (3 - (lg_sl ([.ref mm])).length) Slot.unset).toArray = ls at hl ⊢
  have hl : lv_has ls 3 [(0, .ref mm)] := hl
  refine lv_aload_n hx hb dX18_begin_0 rfl (lv_at hl 0 rfl) ?_
  refine va_get (D := D) (ci := 9) (v := .ref b3) (C := RX18) (T := TX18) (N := 15) hx hb hts i_X18 hown hK hP 0 rfl rfl 3 (by decide) (hts _ m_1184) (fun _ h9 => h9) rfl dX18_begin_1 ?_
  refine lv_aload_n hx hb dX18_begin_4 rfl (lv_at hl 0 rfl) ?_
  refine va_get (D := D) (ci := 9) (v := .int 0) (C := RX18) (T := TX18) (N := 15) hx hb hts i_X18 hown hK hP 0 rfl rfl 4 (by decide) (hts _ m_1185) (fun _ h9 => h9) rfl dX18_begin_5 ?_
  have hc_1 := hP.sub (ws' := []) [] rfl
  have hc_1D := hD.sub (ws' := []) [] (by decide) rfl
  have hc_1F := va_free (wc := []) hD hS hA [] rfl
  refine va_callr (va_runS (As := [.int 0]) (rest := [.ref b3]) ⟨hx, hb, hml, hown, hts⟩ (c_valueOf l z0 D g _ 0) (va_cwS 1 hts (lw_S m_1525 m_1526 m_38 m_1527) rfl rfl rfl (by decide +kernel) ⟨(Nat.le_of_ble_eq_true rfl), (Nat.le_of_ble_eq_true rfl)⟩) ⟨PM.blind, PM.pre hE hS hAz hsz hc_1 hc_1D⟩ rfl rfl hl.1 rfl (lv_room (Nat.le_of_ble_eq_true rfl)) dX18_begin_8 ⟨(Nat.le_of_ble_eq_true rfl), (Nat.le_of_ble_eq_true rfl)⟩) hS (fun q _ h => hc_1F q h) hc_1F (fun u r_2 t H locs ht hvm hw hB hz1 hk1 hS => ?_)
  have hP := hP.oldA hk1
  have hP : va_P D classes [(mm, .inr (9, [.ref b0, .ref b1, .ref b2, .ref b3, .int 0, .null, .null, .ref b4, .null, .ref b5, .ref b6, .int 0, .int 0, .long 0, .int 0])), (b0, .inr (10, [.int 0, .ref (g 4), .int 0])), (b1, .inr (10, [.int 0, .ref (g 4), .int 0])), (b2, .inr (10, [.int 0, .ref (g 4), .int 0])), (b3, .inr (11, [.null, .null, .null, .null, .int 0, .int 0, .null, .null, .null]))] H := hP
  have hO := O_back hB ht hvm
  have hc_3 := hP.sub (ws' := [(b3, .inr (11, [.null, .null, .null, .null, .int 0, .int 0, .null, .null, .null]))]) [4] rfl
  refine va_callq (va_runV (As := [.ref r_2]) (rest := []) ⟨hx, hb, hml, hown, hts⟩ (c_TMget l z0 D g b3 r_2) (cwV 1 hts (lw_V m_2039 m_2040 m_2041 m_17 m_2042) rfl rfl rfl (by decide +kernel) ⟨(Nat.le_of_ble_eq_true rfl), (Nat.le_of_ble_eq_true rfl)⟩) ⟨PRO.blind, va_recv hK hP (ci := 11) (q0 := 4) rfl rfl, PRO.pre hE hS hAz hc_3 hO⟩ rfl rfl hl.1 rfl (lv_room (Nat.le_of_ble_eq_true rfl)) dX18_begin_11 ⟨(Nat.le_of_ble_eq_true rfl), (Nat.le_of_ble_eq_true rfl)⟩) hS nA_B nA_A (fun r_4 u t H locs ht hvm hw hB hz1 hk1 hS => ?_)
  have hP := hP.old hk1
  have hP : va_P D classes [(mm, .inr (9, [.ref b0, .ref b1, .ref b2, .ref b3, .int 0, .null, .null, .ref b4, .null, .ref b5, .ref b6, .int 0, .int 0, .long 0, .int 0])), (b0, .inr (10, [.int 0, .ref (g 4), .int 0])), (b1, .inr (10, [.int 0, .ref (g 4), .int 0])), (b2, .inr (10, [.int 0, .ref (g 4), .int 0])), (b3, .inr (11, [.null, .null, .null, .null, .int 0, .int 0, .null, .null, .null]))] H := hP
  subst hw
  refine W.eq (g2 := F0 m 14 ls [.null]) rfl ?_
  refine lv_castN hx hb dX18_begin_14 ?_
  refine lv_astore_nN (lv' := [(1, .null), (0, .ref mm)]) hx hb dX18_begin_17 rfl hl (by decide) rfl (fun ls hl => ?_)
  refine lv_aload_n hx hb dX18_begin_18 rfl (lv_at hl 1 rfl) ?_
  refine lv_aload_n hx hb dX18_begin_19 rfl (lv_at hl 1 rfl) ?_
  refine va_get (D := D) (ci := 9) (v := .null) (C := RX18) (T := TX18) (N := 15) hx hb hts i_X18 hown hK hP 0 rfl rfl 5 (by decide) (hts _ m_1186) (fun _ h9 => h9) rfl dX18_begin_20 ?_
  refine lv_ifnullN (tgt := 30) hx hb dX18_begin_23 (by decide) ?_
  refine lv_aload_nN hx hb dX18_begin_30 rfl (lv_at hl 0 rfl) ?_
  refine lv_ifnullN (tgt := 43) hx hb dX18_begin_31 (by decide) ?_
  refine lv_iconst (v := 2) hx hb dX18_begin_43 (by decide) ?_
  refine lv_goto (tgt := 48) hx hb dX18_begin_44 (by decide) ?_
  refine va_put (D := D) (ci := 9) (v := .int 2) (ty := .int) (C := RX18) (T := TX18) (N := 15) hx hb hts i_X18 tyX18 tyX18_ok nmX18 hown hK hP hD hS 0 rfl rfl 14 (by decide) (hts _ m_1197) (fun _ h9 => h9) rfl (by decide +kernel) rfl rfl (Nat.le_of_ble_eq_true rfl) dX18_begin_48 (fun H locs hP hD hS => ?_)
  have hP : va_P D classes [(mm, .inr (9, [.ref b0, .ref b1, .ref b2, .ref b3, .int 0, .null, .null, .ref b4, .null, .ref b5, .ref b6, .int 0, .int 0, .long 0, .int 2])), (b0, .inr (10, [.int 0, .ref (g 4), .int 0])), (b1, .inr (10, [.int 0, .ref (g 4), .int 0])), (b2, .inr (10, [.int 0, .ref (g 4), .int 0])), (b3, .inr (11, [.null, .null, .null, .null, .int 0, .int 0, .null, .null, .null]))] H := hP
  have hD : va_D A [(mm, .inr (9, [.ref b0, .ref b1, .ref b2, .ref b3, .int 0, .null, .null, .ref b4, .null, .ref b5, .ref b6, .int 0, .int 0, .long 0, .int 2])), (b0, .inr (10, [.int 0, .ref (g 4), .int 0])), (b1, .inr (10, [.int 0, .ref (g 4), .int 0])), (b2, .inr (10, [.int 0, .ref (g 4), .int 0])), (b3, .inr (11, [.null, .null, .null, .null, .int 0, .int 0, .null, .null, .null]))] := hD
  refine lv_aload_n hx hb dX18_begin_51 rfl (lv_at hl 1 rfl) ?_
  refine va_get (D := D) (ci := 9) (v := .int 2) (C := RX18) (T := TX18) (N := 15) hx hb hts i_X18 hown hK hP 0 rfl rfl 14 (by decide) (hts _ m_1197) (fun _ h9 => h9) rfl dX18_begin_52 ?_
  refine lv_if_le (tgt := 60) hx hb dX18_begin_55 (by decide) (fun h9 => absurd h9 (by decide)) (fun _ => ?_)
  refine lv_iconst (v := (-1)) hx hb dX18_begin_58 (by decide) ?_
  have hP9 := hP.sub (ws' := [(mm, .inr (9, [.ref b0, .ref b1, .ref b2, .ref b3, .int 0, .null, .null, .ref b4, .null, .ref b5, .ref b6, .int 0, .int 0, .long 0, .int 2]))]) [0] rfl
  have hD9 := hD.sub (ws' := [(mm, .inr (9, [.ref b0, .ref b1, .ref b2, .ref b3, .int 0, .null, .null, .ref b4, .null, .ref b5, .ref b6, .int 0, .int 0, .long 0, .int 2]))]) [0] (by decide) rfl
  refine W.widen (k := 1) (n := 1) (Nat.le_of_ble_eq_true rfl) (Nat.le_of_ble_eq_true rfl) ?_
  exact W.iret (v := (-1)) hx hb hr (fun t ht hW => ⟨⟨(-1), (), rfl, trivial, ⟨by rw [ht]; exact hP9, hD9⟩⟩, hS.F ht⟩) hS.2.2 dX18_begin_59
