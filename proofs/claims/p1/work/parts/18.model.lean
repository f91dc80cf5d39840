theorem dX18_init_0 : decode cX18_init 0 = .ok (.aload_n 0, 1) := by decide +kernel
theorem dX18_init_1 : decode cX18_init 1 = .ok (.invokespecial 1, 3) := by decide +kernel
theorem dX18_init_4 : decode cX18_init 4 = .ok (.aload_n 0, 1) := by decide +kernel
theorem dX18_init_5 : decode cX18_init 5 = .ok (.new 7, 3) := by decide +kernel
theorem dX18_init_8 : decode cX18_init 8 = .ok (.dup, 1) := by decide +kernel
theorem dX18_init_9 : decode cX18_init 9 = .ok (.invokespecial 9, 3) := by decide +kernel
theorem dX18_init_12 : decode cX18_init 12 = .ok (.putfield 10, 3) := by decide +kernel
theorem dX18_init_15 : decode cX18_init 15 = .ok (.aload_n 0, 1) := by decide +kernel
theorem dX18_init_16 : decode cX18_init 16 = .ok (.new 7, 3) := by decide +kernel
theorem dX18_init_19 : decode cX18_init 19 = .ok (.dup, 1) := by decide +kernel
theorem dX18_init_20 : decode cX18_init 20 = .ok (.invokespecial 9, 3) := by decide +kernel
theorem dX18_init_23 : decode cX18_init 23 = .ok (.putfield 16, 3) := by decide +kernel
theorem dX18_init_26 : decode cX18_init 26 = .ok (.aload_n 0, 1) := by decide +kernel
theorem dX18_init_27 : decode cX18_init 27 = .ok (.new 7, 3) := by decide +kernel
theorem dX18_init_30 : decode cX18_init 30 = .ok (.dup, 1) := by decide +kernel
theorem dX18_init_31 : decode cX18_init 31 = .ok (.invokespecial 9, 3) := by decide +kernel
theorem dX18_init_34 : decode cX18_init 34 = .ok (.putfield 19, 3) := by decide +kernel
theorem dX18_init_37 : decode cX18_init 37 = .ok (.aload_n 0, 1) := by decide +kernel
theorem dX18_init_38 : decode cX18_init 38 = .ok (.new 22, 3) := by decide +kernel
theorem dX18_init_41 : decode cX18_init 41 = .ok (.dup, 1) := by decide +kernel
theorem dX18_init_42 : decode cX18_init 42 = .ok (.invokespecial 24, 3) := by decide +kernel
theorem dX18_init_45 : decode cX18_init 45 = .ok (.putfield 25, 3) := by decide +kernel
theorem dX18_init_48 : decode cX18_init 48 = .ok (.aload_n 0, 1) := by decide +kernel
theorem dX18_init_49 : decode cX18_init 49 = .ok (.iconst 0, 1) := by decide +kernel
theorem dX18_init_50 : decode cX18_init 50 = .ok (.newarray .int, 2) := by decide +kernel
theorem dX18_init_52 : decode cX18_init 52 = .ok (.putfield 29, 3) := by decide +kernel
theorem dX18_init_55 : decode cX18_init 55 = .ok (.aload_n 0, 1) := by decide +kernel
theorem dX18_init_56 : decode cX18_init 56 = .ok (.new 7, 3) := by decide +kernel
theorem dX18_init_59 : decode cX18_init 59 = .ok (.dup, 1) := by decide +kernel
theorem dX18_init_60 : decode cX18_init 60 = .ok (.invokespecial 9, 3) := by decide +kernel
theorem dX18_init_63 : decode cX18_init 63 = .ok (.putfield 33, 3) := by decide +kernel
theorem dX18_init_66 : decode cX18_init 66 = .ok (.aload_n 0, 1) := by decide +kernel
theorem dX18_init_67 : decode cX18_init 67 = .ok (.new 7, 3) := by decide +kernel
theorem dX18_init_70 : decode cX18_init 70 = .ok (.dup, 1) := by decide +kernel
theorem dX18_init_71 : decode cX18_init 71 = .ok (.invokespecial 9, 3) := by decide +kernel
theorem dX18_init_74 : decode cX18_init 74 = .ok (.putfield 36, 3) := by decide +kernel
theorem dX18_init_77 : decode cX18_init 77 = .ok (.return_, 1) := by decide +kernel
theorem m_1116 : (Cond.methodLink "TheatrehouseModel" 1 ⟨"java/lang/Object", "<init>", "()V"⟩) ∈ lw_all := lw_in 1116 (by decide +kernel) (by decide +kernel)
theorem m_1117 : (Cond.classLink "TheatrehouseModel" 7 "java/util/ArrayList") ∈ lw_all := lw_in 1117 (by decide +kernel) (by decide +kernel)
theorem m_1119 : (Cond.methodLink "TheatrehouseModel" 9 ⟨"java/util/ArrayList", "<init>", "()V"⟩) ∈ lw_all := lw_in 1119 (by decide +kernel) (by decide +kernel)
theorem m_1146 : (Cond.classLink "TheatrehouseModel" 22 "java/util/TreeMap") ∈ lw_all := lw_in 1146 (by decide +kernel) (by decide +kernel)
theorem m_1147 : (Cond.instantiable "java/util/TreeMap" 9) ∈ lw_all := lw_in 1147 (by decide +kernel) (by decide +kernel)
theorem m_1148 : (Cond.methodLink "TheatrehouseModel" 24 ⟨"java/util/TreeMap", "<init>", "()V"⟩) ∈ lw_all := lw_in 1148 (by decide +kernel) (by decide +kernel)
theorem m_1149 : (Cond.instanceMethod ⟨"java/util/TreeMap", "<init>", "()V"⟩) ∈ lw_all := lw_in 1149 (by decide +kernel) (by decide +kernel)
theorem m_1150 : (Cond.code ⟨"java/util/TreeMap", "<init>", "()V"⟩ prog_75_method_1_code 1 (Option.none : Option Jvm.ClassFile.FieldType)) ∈ lw_all := lw_in 1150 (by decide +kernel) (by decide +kernel)
theorem m_1189 : (Cond.fieldLink "TheatrehouseModel" 29 "TheatrehouseModel" "singers" "[I") ∈ lw_all := lw_in 1189 (by decide +kernel) (by decide +kernel)
theorem m_1192 : (Cond.fieldLink "TheatrehouseModel" 33 "TheatrehouseModel" "before" "Ljava/util/List;") ∈ lw_all := lw_in 1192 (by decide +kernel) (by decide +kernel)
theorem m_1193 : (Cond.fieldLink "TheatrehouseModel" 36 "TheatrehouseModel" "performed" "Ljava/util/List;") ∈ lw_all := lw_in 1193 (by decide +kernel) (by decide +kernel)
/-- what a new reference is -/
def MB (D : va_G) (g : Nat → Nat) (mm : Nat) (A : Nat → Prop) (t : State) : Prop := ∃ (b0 b1 b2 b3 b4 b5 b6 : Nat), va_P D classes [(mm, .inr (9, [.ref b0, .ref b1, .ref b2, .ref b3, .int 0, .null, .null, .ref b4, .null, .ref b5, .ref b6, .int 0, .int 0, .long 0, .int 0])), (b0, .inr (10, [.int 0, .ref (g 4), .int 0])), (b1, .inr (10, [.int 0, .ref (g 4), .int 0])), (b2, .inr (10, [.int 0, .ref (g 4), .int 0])), (b3, .inr (11, [.null, .null, .null, .null, .int 0, .int 0, .null, .null, .null]))] t.heap ∧ va_D A [(mm, .inr (9, [.ref b0, .ref b1, .ref b2, .ref b3, .int 0, .null, .null, .ref b4, .null, .ref b5, .ref b6, .int 0, .int 0, .long 0, .int 0])), (b0, .inr (10, [.int 0, .ref (g 4), .int 0])), (b1, .inr (10, [.int 0, .ref (g 4), .int 0])), (b2, .inr (10, [.int 0, .ref (g 4), .int 0])), (b3, .inr (11, [.null, .null, .null, .null, .int 0, .int 0, .null, .null, .null]))]

set_option maxHeartbeats 4000000 in
set_option maxRecDepth 100000 in
theorem c_init_Ref (l : Launch) (z0 : Nat) (D : va_G) (g : Nat → Nat) (sz : Nat) (mm : Nat) : Met l yX18_init (wsp yX18_init cX18_init 1 none) ({ frames := 4, cells := 7, slots := 24, locals := 80 }) (va_Pc [.ref mm] (PM z0 D g sz [(mm, .inr (9, [.null, .null, .null, .null, .int 0, .null, .null, .null, .null, .null, .null, .int 0, .int 0, .long 0, .int 0]))])) (va_Qv (fun (_ : Unit) => True) (fun _ t => MB D g mm (va_A [(mm, .inr (9, [.null, .null, .null, .null, .int 0, .null, .null, .null, .null, .null, .null, .int 0, .int 0, .long 0, .int 0]))] sz) t) (va_A [(mm, .inr (9, [.null, .null, .null, .null, .int 0, .null, .null, .null, .null, .null, .null, .int 0, .int 0, .long 0, .int 0]))] sz)) 7 24 (va_A [(mm, .inr (9, [.null, .null, .null, .null, .int 0, .null, .null, .null, .null, .null, .null, .int 0, .int 0, .long 0, .int 0]))] sz) := by
  refine Met.ofW (cc := cX18_init) (maxL := 1) (ret := none) (by decide) rfl ?_
  intro p e s m args below meth c s₁ B hml hv
  obtain ⟨rfl, hsz9, hz0, hE, hP, hD0⟩ := hv
  have hx := B.exec
  have hb := B.bytes
  have hr := B.returns
  have hts0 := atoms_spec (ws := (wsp yX18_init cX18_init 1 none)) B.pre
  have hts : ∀ w ∈ lw_all, w.before _ s = true := fun w h => hts0 w (List.mem_cons_of_mem _ h)
  have hown : s.vm.findClass "TheatrehouseModel" = some m.cls := findClass_of_methodNamed B.named
  have hlocks := B.notSynchronized
  have hin : meth.name = "<init>" := (name_of_methodNamed B.named B.method).1
  have hK := hE.K
  subst hsz9
  have hsz := hz0
  have hAz : ∀ q, va_A [(mm, .inr (9, [.null, .null, .null, .null, .int 0, .null, .null, .null, .null, .null, .null, .int 0, .int 0, .long 0, .int 0]))] s.heap.size q → z0 ≤ q := vaA_z hz0 hD0
  have hD := hD0.self (sz := s.heap.size)
  generalize hAe : va_A [(mm, .inr (9, [.null, .null, .null, .null, .int 0, .null, .null, .null, .null, .null, .null, .int 0, .int 0, .long 0, .int 0]))] s.heap.size = A at hD hAz ⊢
  have hA : ∀ q : Nat, s.heap.size ≤ q → A q := fun q h => by rw [← hAe]; exact Or.inr h
  have hS : va_S A s.heap s.heap [] := va_S.rf
  have hP : va_P D classes [(mm, .inr (9, [.null, .null, .null, .null, .int 0, .null, .null, .null, .null, .null, .null, .int 0, .int 0, .long 0, .int 0]))] s.heap := hP
  have hl := lv_entry ([.ref mm]) (n := 1) (Nat.le_of_ble_eq_true rfl)
  rw [lg_entry_eq]
  generalize (lg_sl ([.ref mm]) ++ List.replicate (1 - (lg_sl ([.ref mm])).length) Slot.unset).toArray = ls at hl ⊢
  have hl : lv_has ls 1 [(0, .ref mm)] := hl
  refine lv_aload_n hx hb dX18_init_0 rfl (lv_at hl 0 rfl) ?_
  refine W.objInit hx hb hown (hts _ m_1116) (hts _ m_69) (hts _ m_70) rfl (by rw [hml]; exact hl.1) rfl dX18_init_1 (Nat.le_of_ble_eq_true rfl) (Nat.le_of_ble_eq_true rfl) ?_
  refine W.eq (g2 := F0 m 4 ls []) rfl ?_
  refine lv_aload_n hx hb dX18_init_4 rfl (lv_at hl 0 rfl) ?_
  refine va_new (ci := 10) (fs := [.int 0, .null, .int 0]) (C := RJx4a65c) (T := TJx4a65c) (N := 3) hx hb hts i_Jx4a65c tyJx4a65c tyJx4a65c_ok hown (hts _ m_1117) (hts _ m_1118) (hts _ m_15) hK hP hD hS hA rfl (fun j hj => by rcases (show j = 0 ∨ j = 1 ∨ j = 2 by omega) with rfl | rfl | rfl <;> rfl) (Nat.le_of_ble_eq_true rfl) (Nat.le_of_ble_eq_true rfl) dX18_init_5 (fun q_1 H hP hD hS => ?_)
  have hP : va_P D classes [(mm, .inr (9, [.null, .null, .null, .null, .int 0, .null, .null, .null, .null, .null, .null, .int 0, .int 0, .long 0, .int 0])), (q_1, .inr (10, [.int 0, .null, .int 0]))] H := hP
  have hD : va_D A [(mm, .inr (9, [.null, .null, .null, .null, .int 0, .null, .null, .null, .null, .null, .null, .int 0, .int 0, .long 0, .int 0])), (q_1, .inr (10, [.int 0, .null, .int 0]))] := hD
  refine lv_dup hx hb dX18_init_8 rfl ?_
  have hc_2 := hP.sub (ws' := [(q_1, .inr (10, [.int 0, .null, .int 0]))]) [1] rfl
  have hc_2D := hD.sub (ws' := [(q_1, .inr (10, [.int 0, .null, .int 0]))]) [1] (by decide) rfl
  have hc_2F := va_free (wc := [(q_1, .inr (10, [.int 0, .null, .int 0]))]) hD hS hA [1] rfl
  refine va_callv (va_runI (As := []) (rest := [.ref q_1, .ref mm]) ⟨hx, hb, hml, hown, hts⟩ (c_init_ArrayList l z0 D g _ q_1) (cwI 0 hts (lw_I m_1121) rfl rfl rfl (hts _ m_15) (hts _ m_1119) (hts _ m_1120) rfl (by decide +kernel) ⟨(Nat.le_of_ble_eq_true rfl), (Nat.le_of_ble_eq_true rfl)⟩) ⟨PM.blind, PM.pre hE hS hAz hsz hc_2 hc_2D⟩ rfl rfl hl.1 rfl (lv_room (Nat.le_of_ble_eq_true rfl)) dX18_init_9 ⟨(Nat.le_of_ble_eq_true rfl), (Nat.le_of_ble_eq_true rfl)⟩) hS (fun q _ h => hc_2F q h) hc_2F (fun u_4 t H locs ht hvm hw hB hz1 hk1 hS => ?_)
  obtain ⟨hP1, hD1⟩ := hB
  rw [ht] at hP1
  obtain ⟨hP, hD⟩ := va_join (wr := [(mm, .inr (9, [.null, .null, .null, .null, .int 0, .null, .null, .null, .null, .null, .null, .int 0, .int 0, .long 0, .int 0]))]) (w1 := [(q_1, .inr (10, [.int 0, .ref (g 4), .int 0]))]) hP hD [1] [0] rfl rfl (by decide) (by decide) hk1 hc_2F hP1 hD1
  have hP : va_P D classes [(mm, .inr (9, [.null, .null, .null, .null, .int 0, .null, .null, .null, .null, .null, .null, .int 0, .int 0, .long 0, .int 0])), (q_1, .inr (10, [.int 0, .ref (g 4), .int 0]))] H := hP
  have hD : va_D A [(mm, .inr (9, [.null, .null, .null, .null, .int 0, .null, .null, .null, .null, .null, .null, .int 0, .int 0, .long 0, .int 0])), (q_1, .inr (10, [.int 0, .ref (g 4), .int 0]))] := hD
  refine va_putF (D := D) (ci := 9) (v := .ref q_1) (ty := (.object "java/util/List")) (C := RX18) (T := TX18) (N := 15) hx hb hts i_X18 tyX18 tyX18_ok nmX18 hown hK hP hD hS 0 rfl rfl 0 (by decide) (hts _ m_1181) (fun _ h9 => h9) rfl hin rfl (by decide +kernel) rfl rfl (Nat.le_of_ble_eq_true rfl) dX18_init_12 (fun H locs hP hD hS => ?_)
  have hP : va_P D classes [(mm, .inr (9, [.ref q_1, .null, .null, .null, .int 0, .null, .null, .null, .null, .null, .null, .int 0, .int 0, .long 0, .int 0])), (q_1, .inr (10, [.int 0, .ref (g 4), .int 0]))] H := hP
  have hD : va_D A [(mm, .inr (9, [.ref q_1, .null, .null, .null, .int 0, .null, .null, .null, .null, .null, .null, .int 0, .int 0, .long 0, .int 0])), (q_1, .inr (10, [.int 0, .ref (g 4), .int 0]))] := hD
  refine lv_aload_n hx hb dX18_init_15 rfl (lv_at hl 0 rfl) ?_
  refine va_new (ci := 10) (fs := [.int 0, .null, .int 0]) (C := RJx4a65c) (T := TJx4a65c) (N := 3) hx hb hts i_Jx4a65c tyJx4a65c tyJx4a65c_ok hown (hts _ m_1117) (hts _ m_1118) (hts _ m_15) hK hP hD hS hA rfl (fun j hj => by rcases (show j = 0 ∨ j = 1 ∨ j = 2 by omega) with rfl | rfl | rfl <;> rfl) (Nat.le_of_ble_eq_true rfl) (Nat.le_of_ble_eq_true rfl) dX18_init_16 (fun q_5 H hP hD hS => ?_)
  have hP : va_P D classes [(mm, .inr (9, [.ref q_1, .null, .null, .null, .int 0, .null, .null, .null, .null, .null, .null, .int 0, .int 0, .long 0, .int 0])), (q_1, .inr (10, [.int 0, .ref (g 4), .int 0])), (q_5, .inr (10, [.int 0, .null, .int 0]))] H := hP
  have hD : va_D A [(mm, .inr (9, [.ref q_1, .null, .null, .null, .int 0, .null, .null, .null, .null, .null, .null, .int 0, .int 0, .long 0, .int 0])), (q_1, .inr (10, [.int 0, .ref (g 4), .int 0])), (q_5, .inr (10, [.int 0, .null, .int 0]))] := hD
  refine lv_dup hx hb dX18_init_19 rfl ?_
  have hc_6 := hP.sub (ws' := [(q_5, .inr (10, [.int 0, .null, .int 0]))]) [2] rfl
  have hc_6D := hD.sub (ws' := [(q_5, .inr (10, [.int 0, .null, .int 0]))]) [2] (by decide) rfl
  have hc_6F := va_free (wc := [(q_5, .inr (10, [.int 0, .null, .int 0]))]) hD hS hA [2] rfl
  refine va_callv (va_runI (As := []) (rest := [.ref q_5, .ref mm]) ⟨hx, hb, hml, hown, hts⟩ (c_init_ArrayList l z0 D g _ q_5) (cwI 0 hts (lw_I m_1121) rfl rfl rfl (hts _ m_15) (hts _ m_1119) (hts _ m_1120) rfl (by decide +kernel) ⟨(Nat.le_of_ble_eq_true rfl), (Nat.le_of_ble_eq_true rfl)⟩) ⟨PM.blind, PM.pre hE hS hAz hsz hc_6 hc_6D⟩ rfl rfl hl.1 rfl (lv_room (Nat.le_of_ble_eq_true rfl)) dX18_init_20 ⟨(Nat.le_of_ble_eq_true rfl), (Nat.le_of_ble_eq_true rfl)⟩) hS (fun q _ h => hc_6F q h) hc_6F (fun u_8 t H locs ht hvm hw hB hz1 hk1 hS => ?_)
  obtain ⟨hP1, hD1⟩ := hB
  rw [ht] at hP1
  obtain ⟨hP, hD⟩ := va_join (wr := [(mm, .inr (9, [.ref q_1, .null, .null, .null, .int 0, .null, .null, .null, .null, .null, .null, .int 0, .int 0, .long 0, .int 0])), (q_1, .inr (10, [.int 0, .ref (g 4), .int 0]))]) (w1 := [(q_5, .inr (10, [.int 0, .ref (g 4), .int 0]))]) hP hD [2] [0, 1] rfl rfl (by decide) (by decide) hk1 hc_6F hP1 hD1
  have hP : va_P D classes [(mm, .inr (9, [.ref q_1, .null, .null, .null, .int 0, .null, .null, .null, .null, .null, .null, .int 0, .int 0, .long 0, .int 0])), (q_1, .inr (10, [.int 0, .ref (g 4), .int 0])), (q_5, .inr (10, [.int 0, .ref (g 4), .int 0]))] H := hP
  have hD : va_D A [(mm, .inr (9, [.ref q_1, .null, .null, .null, .int 0, .null, .null, .null, .null, .null, .null, .int 0, .int 0, .long 0, .int 0])), (q_1, .inr (10, [.int 0, .ref (g 4), .int 0])), (q_5, .inr (10, [.int 0, .ref (g 4), .int 0]))] := hD
  refine va_putF (D := D) (ci := 9) (v := .ref q_5) (ty := (.object "java/util/List")) (C := RX18) (T := TX18) (N := 15) hx hb hts i_X18 tyX18 tyX18_ok nmX18 hown hK hP hD hS 0 rfl rfl 1 (by decide) (hts _ m_1182) (fun _ h9 => h9) rfl hin rfl (by decide +kernel) rfl rfl (Nat.le_of_ble_eq_true rfl) dX18_init_23 (fun H locs hP hD hS => ?_)
  have hP : va_P D classes [(mm, .inr (9, [.ref q_1, .ref q_5, .null, .null, .int 0, .null, .null, .null, .null, .null, .null, .int 0, .int 0, .long 0, .int 0])), (q_1, .inr (10, [.int 0, .ref (g 4), .int 0])), (q_5, .inr (10, [.int 0, .ref (g 4), .int 0]))] H := hP
  have hD : va_D A [(mm, .inr (9, [.ref q_1, .ref q_5, .null, .null, .int 0, .null, .null, .null, .null, .null, .null, .int 0, .int 0, .long 0, .int 0])), (q_1, .inr (10, [.int 0, .ref (g 4), .int 0])), (q_5, .inr (10, [.int 0, .ref (g 4), .int 0]))] := hD
  refine lv_aload_n hx hb dX18_init_26 rfl (lv_at hl 0 rfl) ?_
  refine va_new (ci := 10) (fs := [.int 0, .null, .int 0]) (C := RJx4a65c) (T := TJx4a65c) (N := 3) hx hb hts i_Jx4a65c tyJx4a65c tyJx4a65c_ok hown (hts _ m_1117) (hts _ m_1118) (hts _ m_15) hK hP hD hS hA rfl (fun j hj => by rcases (show j = 0 ∨ j = 1 ∨ j = 2 by omega) with rfl | rfl | rfl <;> rfl) (Nat.le_of_ble_eq_true rfl) (Nat.le_of_ble_eq_true rfl) dX18_init_27 (fun q_9 H hP hD hS => ?_)
  have hP : va_P D classes [(mm, .inr (9, [.ref q_1, .ref q_5, .null, .null, .int 0, .null, .null, .null, .null, .null, .null, .int 0, .int 0, .long 0, .int 0])), (q_1, .inr (10, [.int 0, .ref (g 4), .int 0])), (q_5, .inr (10, [.int 0, .ref (g 4), .int 0])), (q_9, .inr (10, [.int 0, .null, .int 0]))] H := hP
  have hD : va_D A [(mm, .inr (9, [.ref q_1, .ref q_5, .null, .null, .int 0, .null, .null, .null, .null, .null, .null, .int 0, .int 0, .long 0, .int 0])), (q_1, .inr (10, [.int 0, .ref (g 4), .int 0])), (q_5, .inr (10, [.int 0, .ref (g 4), .int 0])), (q_9, .inr (10, [.int 0, .null, .int 0]))] := hD
  refine lv_dup hx hb dX18_init_30 rfl ?_
  have hc_10 := hP.sub (ws' := [(q_9, .inr (10, [.int 0, .null, .int 0]))]) [3] rfl
  have hc_10D := hD.sub (ws' := [(q_9, .inr (10, [.int 0, .null, .int 0]))]) [3] (by decide) rfl
  have hc_10F := va_free (wc := [(q_9, .inr (10, [.int 0, .null, .int 0]))]) hD hS hA [3] rfl
  refine va_callv (va_runI (As := []) (rest := [.ref q_9, .ref mm]) ⟨hx, hb, hml, hown, hts⟩ (c_init_ArrayList l z0 D g _ q_9) (cwI 0 hts (lw_I m_1121) rfl rfl rfl (hts _ m_15) (hts _ m_1119) (hts _ m_1120) rfl (by decide +kernel) ⟨(Nat.le_of_ble_eq_true rfl), (Nat.le_of_ble_eq_true rfl)⟩) ⟨PM.blind, PM.pre hE hS hAz hsz hc_10 hc_10D⟩ rfl rfl hl.1 rfl (lv_room (Nat.le_of_ble_eq_true rfl)) dX18_init_31 ⟨(Nat.le_of_ble_eq_true rfl), (Nat.le_of_ble_eq_true rfl)⟩) hS (fun q _ h => hc_10F q h) hc_10F (fun u_12 t H locs ht hvm hw hB hz1 hk1 hS => ?_)
  obtain ⟨hP1, hD1⟩ := hB
  rw [ht] at hP1
  obtain ⟨hP, hD⟩ := va_join (wr := [(mm, .inr (9, [.ref q_1, .ref q_5, .null, .null, .int 0, .null, .null, .null, .null, .null, .null, .int 0, .int 0, .long 0, .int 0])), (q_1, .inr (10, [.int 0, .ref (g 4), .int 0])), (q_5, .inr (10, [.int 0, .ref (g 4), .int 0]))]) (w1 := [(q_9, .inr (10, [.int 0, .ref (g 4), .int 0]))]) hP hD [3] [0, 1, 2] rfl rfl (by decide) (by decide) hk1 hc_10F hP1 hD1
  have hP : va_P D classes [(mm, .inr (9, [.ref q_1, .ref q_5, .null, .null, .int 0, .null, .null, .null, .null, .null, .null, .int 0, .int 0, .long 0, .int 0])), (q_1, .inr (10, [.int 0, .ref (g 4), .int 0])), (q_5, .inr (10, [.int 0, .ref (g 4), .int 0])), (q_9, .inr (10, [.int 0, .ref (g 4), .int 0]))] H := hP
  have hD : va_D A [(mm, .inr (9, [.ref q_1, .ref q_5, .null, .null, .int 0, .null, .null, .null, .null, .null, .null, .int 0, .int 0, .long 0, .int 0])), (q_1, .inr (10, [.int 0, .ref (g 4), .int 0])), (q_5, .inr (10, [.int 0, .ref (g 4), .int 0])), (q_9, .inr (10, [.int 0, .ref (g 4), .int 0]))] := hD
  refine va_putF (D := D) (ci := 9) (v := .ref q_9) (ty := (.object "java/util/List")) (C := RX18) (T := TX18) (N := 15) hx hb hts i_X18 tyX18 tyX18_ok nmX18 hown hK hP hD hS 0 rfl rfl 2 (by decide) (hts _ m_1183) (fun _ h9 => h9) rfl hin rfl (by decide +kernel) rfl rfl (Nat.le_of_ble_eq_true rfl) dX18_init_34 (fun H locs hP hD hS => ?_)
  have hP : va_P D classes [(mm, .inr (9, [.ref q_1, .ref q_5, .ref q_9, .null, .int 0, .null, .null, .null, .null, .null, .null, .int 0, .int 0, .long 0, .int 0])), (q_1, .inr (10, [.int 0, .ref (g 4), .int 0])), (q_5, .inr (10, [.int 0, .ref (g 4), .int 0])), (q_9, .inr (10, [.int 0, .ref (g 4), .int 0]))] H := hP
  have hD : va_D A [(mm, .inr (9, [.ref q_1, .ref q_5, .ref q_9, .null, .int 0, .null, .null, .null, .null, .null, .null, .int 0, .int 0, .long 0, .int 0])), (q_1, .inr (10, [.int 0, .ref (g 4), .int 0])), (q_5, .inr (10, [.int 0, .ref (g 4), .int 0])), (q_9, .inr (10, [.int 0, .ref (g 4), .int 0]))] := hD
  refine lv_aload_n hx hb dX18_init_37 rfl (lv_at hl 0 rfl) ?_
  refine va_new (ci := 11) (fs := [.null, .null, .null, .null, .int 0, .int 0, .null, .null, .null]) (C := RX28) (T := TX28) (N := 9) hx hb hts i_X28 tyX28 tyX28_ok hown (hts _ m_1146) (hts _ m_1147) (hts _ m_17) hK hP hD hS hA rfl (fun j hj => by rcases (show j = 0 ∨ j = 1 ∨ j = 2 ∨ j = 3 ∨ j = 4 ∨ j = 5 ∨ j = 6 ∨ j = 7 ∨ j = 8 by omega) with rfl | rfl | rfl | rfl | rfl | rfl | rfl | rfl | rfl <;> rfl) (Nat.le_of_ble_eq_true rfl) (Nat.le_of_ble_eq_true rfl) dX18_init_38 (fun q_13 H hP hD hS => ?_)
  have hP : va_P D classes [(mm, .inr (9, [.ref q_1, .ref q_5, .ref q_9, .null, .int 0, .null, .null, .null, .null, .null, .null, .int 0, .int 0, .long 0, .int 0])), (q_1, .inr (10, [.int 0, .ref (g 4), .int 0])), (q_5, .inr (10, [.int 0, .ref (g 4), .int 0])), (q_9, .inr (10, [.int 0, .ref (g 4), .int 0])), (q_13, .inr (11, [.null, .null, .null, .null, .int 0, .int 0, .null, .null, .null]))] H := hP
  have hD : va_D A [(mm, .inr (9, [.ref q_1, .ref q_5, .ref q_9, .null, .int 0, .null, .null, .null, .null, .null, .null, .int 0, .int 0, .long 0, .int 0])), (q_1, .inr (10, [.int 0, .ref (g 4), .int 0])), (q_5, .inr (10, [.int 0, .ref (g 4), .int 0])), (q_9, .inr (10, [.int 0, .ref (g 4), .int 0])), (q_13, .inr (11, [.null, .null, .null, .null, .int 0, .int 0, .null, .null, .null]))] := hD
  refine lv_dup hx hb dX18_init_41 rfl ?_
  have hc_14 := hP.sub (ws' := [(q_13, .inr (11, [.null, .null, .null, .null, .int 0, .int 0, .null, .null, .null]))]) [4] rfl
  have hc_14D := hD.sub (ws' := [(q_13, .inr (11, [.null, .null, .null, .null, .int 0, .int 0, .null, .null, .null]))]) [4] (by decide) rfl
  have hc_14F := va_free (wc := [(q_13, .inr (11, [.null, .null, .null, .null, .int 0, .int 0, .null, .null, .null]))]) hD hS hA [4] rfl
  refine va_callv (va_runI (As := []) (rest := [.ref q_13, .ref mm]) ⟨hx, hb, hml, hown, hts⟩ (c_init_TreeMap l z0 D g _ q_13) (cwI 0 hts (lw_I m_1150) rfl rfl rfl (hts _ m_17) (hts _ m_1148) (hts _ m_1149) rfl (by decide +kernel) ⟨(Nat.le_of_ble_eq_true rfl), (Nat.le_of_ble_eq_true rfl)⟩) ⟨PM.blind, PM.pre hE hS hAz hsz hc_14 hc_14D⟩ rfl rfl hl.1 rfl (lv_room (Nat.le_of_ble_eq_true rfl)) dX18_init_42 ⟨(Nat.le_of_ble_eq_true rfl), (Nat.le_of_ble_eq_true rfl)⟩) hS (fun q _ h => hc_14F q h) hc_14F (fun u_16 t H locs ht hvm hw hB hz1 hk1 hS => ?_)
  obtain ⟨hP1, hD1⟩ := hB
  rw [ht] at hP1
  obtain ⟨hP, hD⟩ := va_join (wr := [(mm, .inr (9, [.ref q_1, .ref q_5, .ref q_9, .null, .int 0, .null, .null, .null, .null, .null, .null, .int 0, .int 0, .long 0, .int 0])), (q_1, .inr (10, [.int 0, .ref (g 4), .int 0])), (q_5, .inr (10, [.int 0, .ref (g 4), .int 0])), (q_9, .inr (10, [.int 0, .ref (g 4), .int 0]))]) (w1 := [(q_13, .inr (11, [.null, .null, .null, .null, .int 0, .int 0, .null, .null, .null]))]) hP hD [4] [0, 1, 2, 3] rfl rfl (by decide) (by decide) hk1 hc_14F hP1 hD1
  have hP : va_P D classes [(mm, .inr (9, [.ref q_1, .ref q_5, .ref q_9, .null, .int 0, .null, .null, .null, .null, .null, .null, .int 0, .int 0, .long 0, .int 0])), (q_1, .inr (10, [.int 0, .ref (g 4), .int 0])), (q_5, .inr (10, [.int 0, .ref (g 4), .int 0])), (q_9, .inr (10, [.int 0, .ref (g 4), .int 0])), (q_13, .inr (11, [.null, .null, .null, .null, .int 0, .int 0, .null, .null, .null]))] H := hP
  have hD : va_D A [(mm, .inr (9, [.ref q_1, .ref q_5, .ref q_9, .null, .int 0, .null, .null, .null, .null, .null, .null, .int 0, .int 0, .long 0, .int 0])), (q_1, .inr (10, [.int 0, .ref (g 4), .int 0])), (q_5, .inr (10, [.int 0, .ref (g 4), .int 0])), (q_9, .inr (10, [.int 0, .ref (g 4), .int 0])), (q_13, .inr (11, [.null, .null, .null, .null, .int 0, .int 0, .null, .null, .null]))] := hD
  refine va_putF (D := D) (ci := 9) (v := .ref q_13) (ty := (.object "java/util/TreeMap")) (C := RX18) (T := TX18) (N := 15) hx hb hts i_X18 tyX18 tyX18_ok nmX18 hown hK hP hD hS 0 rfl rfl 3 (by decide) (hts _ m_1184) (fun _ h9 => h9) rfl hin rfl (by decide +kernel) rfl rfl (Nat.le_of_ble_eq_true rfl) dX18_init_45 (fun H locs hP hD hS => ?_)
  have hP : va_P D classes [(mm, .inr (9, [.ref q_1, .ref q_5, .ref q_9, .ref q_13, .int 0, .null, .null, .null, .null, .null, .null, .int 0, .int 0, .long 0, .int 0])), (q_1, .inr (10, [.int 0, .ref (g 4), .int 0])), (q_5, .inr (10, [.int 0, .ref (g 4), .int 0])), (q_9, .inr (10, [.int 0, .ref (g 4), .int 0])), (q_13, .inr (11, [.null, .null, .null, .null, .int 0, .int 0, .null, .null, .null]))] H := hP
  have hD : va_D A [(mm, .inr (9, [.ref q_1, .ref q_5, .ref q_9, .ref q_13, .int 0, .null, .null, .null, .null, .null, .null, .int 0, .int 0, .long 0, .int 0])), (q_1, .inr (10, [.int 0, .ref (g 4), .int 0])), (q_5, .inr (10, [.int 0, .ref (g 4), .int 0])), (q_9, .inr (10, [.int 0, .ref (g 4), .int 0])), (q_13, .inr (11, [.null, .null, .null, .null, .int 0, .int 0, .null, .null, .null]))] := hD
  refine lv_aload_n hx hb dX18_init_48 rfl (lv_at hl 0 rfl) ?_
  refine lv_iconst (v := 0) hx hb dX18_init_49 (by decide) ?_
  refine va_newa (atype := .int) (ty := .int) (a0 := (0, .inl (fun _ => 0))) hx hb (hts _ m_125) rfl hK hP hD hS hA (fun _ => rfl) (by decide) (by decide) (by decide) (Nat.le_of_ble_eq_true rfl) (Nat.le_of_ble_eq_true rfl) dX18_init_50 (fun q_17 cA_18 H hK hP hD hS => ?_)
  have hP : va_P D classes [(mm, .inr (9, [.ref q_1, .ref q_5, .ref q_9, .ref q_13, .int 0, .null, .null, .null, .null, .null, .null, .int 0, .int 0, .long 0, .int 0])), (q_1, .inr (10, [.int 0, .ref (g 4), .int 0])), (q_5, .inr (10, [.int 0, .ref (g 4), .int 0])), (q_9, .inr (10, [.int 0, .ref (g 4), .int 0])), (q_13, .inr (11, [.null, .null, .null, .null, .int 0, .int 0, .null, .null, .null])), (q_17, .inl (cA_18, 0, .inl (fun _ => 0)))] H := hP
  have hD : va_D A [(mm, .inr (9, [.ref q_1, .ref q_5, .ref q_9, .ref q_13, .int 0, .null, .null, .null, .null, .null, .null, .int 0, .int 0, .long 0, .int 0])), (q_1, .inr (10, [.int 0, .ref (g 4), .int 0])), (q_5, .inr (10, [.int 0, .ref (g 4), .int 0])), (q_9, .inr (10, [.int 0, .ref (g 4), .int 0])), (q_13, .inr (11, [.null, .null, .null, .null, .int 0, .int 0, .null, .null, .null])), (q_17, .inl (cA_18, 0, .inl (fun _ => 0)))] := hD
  have hK : va_K D classes [(cA_18, .int)] s := hK
  refine va_put (D := D) (ci := 9) (v := .ref q_17) (ty := (.array .int)) (C := RX18) (T := TX18) (N := 15) hx hb hts i_X18 tyX18 tyX18_ok nmX18 hown hK hP hD hS 0 rfl rfl 7 (by decide) (hts _ m_1189) (fun _ h9 => h9) rfl (by decide +kernel) rfl rfl (Nat.le_of_ble_eq_true rfl) dX18_init_52 (fun H locs hP hD hS => ?_)
  have hP : va_P D classes [(mm, .inr (9, [.ref q_1, .ref q_5, .ref q_9, .ref q_13, .int 0, .null, .null, .ref q_17, .null, .null, .null, .int 0, .int 0, .long 0, .int 0])), (q_1, .inr (10, [.int 0, .ref (g 4), .int 0])), (q_5, .inr (10, [.int 0, .ref (g 4), .int 0])), (q_9, .inr (10, [.int 0, .ref (g 4), .int 0])), (q_13, .inr (11, [.null, .null, .null, .null, .int 0, .int 0, .null, .null, .null])), (q_17, .inl (cA_18, 0, .inl (fun _ => 0)))] H := hP
  have hD : va_D A [(mm, .inr (9, [.ref q_1, .ref q_5, .ref q_9, .ref q_13, .int 0, .null, .null, .ref q_17, .null, .null, .null, .int 0, .int 0, .long 0, .int 0])), (q_1, .inr (10, [.int 0, .ref (g 4), .int 0])), (q_5, .inr (10, [.int 0, .ref (g 4), .int 0])), (q_9, .inr (10, [.int 0, .ref (g 4), .int 0])), (q_13, .inr (11, [.null, .null, .null, .null, .int 0, .int 0, .null, .null, .null])), (q_17, .inl (cA_18, 0, .inl (fun _ => 0)))] := hD
  refine lv_aload_n hx hb dX18_init_55 rfl (lv_at hl 0 rfl) ?_
  refine va_new (ci := 10) (fs := [.int 0, .null, .int 0]) (C := RJx4a65c) (T := TJx4a65c) (N := 3) hx hb hts i_Jx4a65c tyJx4a65c tyJx4a65c_ok hown (hts _ m_1117) (hts _ m_1118) (hts _ m_15) hK hP hD hS hA rfl (fun j hj => by rcases (show j = 0 ∨ j = 1 ∨ j = 2 by omega) with rfl | rfl | rfl <;> rfl) (Nat.le_of_ble_eq_true rfl) (Nat.le_of_ble_eq_true rfl) dX18_init_56 (fun q_19 H hP hD hS => ?_)
  have hP : va_P D classes [(mm, .inr (9, [.ref q_1, .ref q_5, .ref q_9, .ref q_13, .int 0, .null, .null, .ref q_17, .null, .null, .null, .int 0, .int 0, .long 0, .int 0])), (q_1, .inr (10, [.int 0, .ref (g 4), .int 0])), (q_5, .inr (10, [.int 0, .ref (g 4), .int 0])), (q_9, .inr (10, [.int 0, .ref (g 4), .int 0])), (q_13, .inr (11, [.null, .null, .null, .null, .int 0, .int 0, .null, .null, .null])), (q_17, .inl (cA_18, 0, .inl (fun _ => 0))), (q_19, .inr (10, [.int 0, .null, .int 0]))] H := hP
  have hD : va_D A [(mm, .inr (9, [.ref q_1, .ref q_5, .ref q_9, .ref q_13, .int 0, .null, .null, .ref q_17, .null, .null, .null, .int 0, .int 0, .long 0, .int 0])), (q_1, .inr (10, [.int 0, .ref (g 4), .int 0])), (q_5, .inr (10, [.int 0, .ref (g 4), .int 0])), (q_9, .inr (10, [.int 0, .ref (g 4), .int 0])), (q_13, .inr (11, [.null, .null, .null, .null, .int 0, .int 0, .null, .null, .null])), (q_17, .inl (cA_18, 0, .inl (fun _ => 0))), (q_19, .inr (10, [.int 0, .null, .int 0]))] := hD
  refine lv_dup hx hb dX18_init_59 rfl ?_
  have hc_20 := hP.sub (ws' := [(q_19, .inr (10, [.int 0, .null, .int 0]))]) [6] rfl
  have hc_20D := hD.sub (ws' := [(q_19, .inr (10, [.int 0, .null, .int 0]))]) [6] (by decide) rfl
  have hc_20F := va_free (wc := [(q_19, .inr (10, [.int 0, .null, .int 0]))]) hD hS hA [6] rfl
  refine va_callv (va_runI (As := []) (rest := [.ref q_19, .ref mm]) ⟨hx, hb, hml, hown, hts⟩ (c_init_ArrayList l z0 D g _ q_19) (cwI 0 hts (lw_I m_1121) rfl rfl rfl (hts _ m_15) (hts _ m_1119) (hts _ m_1120) rfl (by decide +kernel) ⟨(Nat.le_of_ble_eq_true rfl), (Nat.le_of_ble_eq_true rfl)⟩) ⟨PM.blind, PM.pre hE hS hAz hsz hc_20 hc_20D⟩ rfl rfl hl.1 rfl (lv_room (Nat.le_of_ble_eq_true rfl)) dX18_init_60 ⟨(Nat.le_of_ble_eq_true rfl), (Nat.le_of_ble_eq_true rfl)⟩) hS (fun q _ h => hc_20F q h) hc_20F (fun u_22 t H locs ht hvm hw hB hz1 hk1 hS => ?_)
  obtain ⟨hP1, hD1⟩ := hB
  rw [ht] at hP1
  obtain ⟨hP, hD⟩ := va_join (wr := [(mm, .inr (9, [.ref q_1, .ref q_5, .ref q_9, .ref q_13, .int 0, .null, .null, .ref q_17, .null, .null, .null, .int 0, .int 0, .long 0, .int 0])), (q_1, .inr (10, [.int 0, .ref (g 4), .int 0])), (q_5, .inr (10, [.int 0, .ref (g 4), .int 0])), (q_9, .inr (10, [.int 0, .ref (g 4), .int 0])), (q_13, .inr (11, [.null, .null, .null, .null, .int 0, .int 0, .null, .null, .null])), (q_17, .inl (cA_18, 0, .inl (fun _ => 0)))]) (w1 := [(q_19, .inr (10, [.int 0, .ref (g 4), .int 0]))]) hP hD [6] [0, 1, 2, 3, 4, 5] rfl rfl (by decide) (by decide) hk1 hc_20F hP1 hD1
  have hP : va_P D classes [(mm, .inr (9, [.ref q_1, .ref q_5, .ref q_9, .ref q_13, .int 0, .null, .null, .ref q_17, .null, .null, .null, .int 0, .int 0, .long 0, .int 0])), (q_1, .inr (10, [.int 0, .ref (g 4), .int 0])), (q_5, .inr (10, [.int 0, .ref (g 4), .int 0])), (q_9, .inr (10, [.int 0, .ref (g 4), .int 0])), (q_13, .inr (11, [.null, .null, .null, .null, .int 0, .int 0, .null, .null, .null])), (q_17, .inl (cA_18, 0, .inl (fun _ => 0))), (q_19, .inr (10, [.int 0, .ref (g 4), .int 0]))] H := hP
  have hD : va_D A [(mm, .inr (9, [.ref q_1, .ref q_5, .ref q_9, .ref q_13, .int 0, .null, .null, .ref q_17, .null, .null, .null, .int 0, .int 0, .long 0, .int 0])), (q_1, .inr (10, [.int 0, .ref (g 4), .int 0])), (q_5, .inr (10, [.int 0, .ref (g 4), .int 0])), (q_9, .inr (10, [.int 0, .ref (g 4), .int 0])), (q_13, .inr (11, [.null, .null, .null, .null, .int 0, .int 0, .null, .null, .null])), (q_17, .inl (cA_18, 0, .inl (fun _ => 0))), (q_19, .inr (10, [.int 0, .ref (g 4), .int 0]))] := hD
  refine va_putF (D := D) (ci := 9) (v := .ref q_19) (ty := (.object "java/util/List")) (C := RX18) (T := TX18) (N := 15) hx hb hts i_X18 tyX18 tyX18_ok nmX18 hown hK hP hD hS 0 rfl rfl 9 (by decide) (hts _ m_1192) (fun _ h9 => h9) rfl hin rfl (by decide +kernel) rfl rfl (Nat.le_of_ble_eq_true rfl) dX18_init_63 (fun H locs hP hD hS => ?_)
  have hP : va_P D classes [(mm, .inr (9, [.ref q_1, .ref q_5, .ref q_9, .ref q_13, .int 0, .null, .null, .ref q_17, .null, .ref q_19, .null, .int 0, .int 0, .long 0, .int 0])), (q_1, .inr (10, [.int 0, .ref (g 4), .int 0])), (q_5, .inr (10, [.int 0, .ref (g 4), .int 0])), (q_9, .inr (10, [.int 0, .ref (g 4), .int 0])), (q_13, .inr (11, [.null, .null, .null, .null, .int 0, .int 0, .null, .null, .null])), (q_17, .inl (cA_18, 0, .inl (fun _ => 0))), (q_19, .inr (10, [.int 0, .ref (g 4), .int 0]))] H := hP
  have hD : va_D A [(mm, .inr (9, [.ref q_1, .ref q_5, .ref q_9, .ref q_13, .int 0, .null, .null, .ref q_17, .null, .ref q_19, .null, .int 0, .int 0, .long 0, .int 0])), (q_1, .inr (10, [.int 0, .ref (g 4), .int 0])), (q_5, .inr (10, [.int 0, .ref (g 4), .int 0])), (q_9, .inr (10, [.int 0, .ref (g 4), .int 0])), (q_13, .inr (11, [.null, .null, .null, .null, .int 0, .int 0, .null, .null, .null])), (q_17, .inl (cA_18, 0, .inl (fun _ => 0))), (q_19, .inr (10, [.int 0, .ref (g 4), .int 0]))] := hD
  refine lv_aload_n hx hb dX18_init_66 rfl (lv_at hl 0 rfl) ?_
  refine va_new (ci := 10) (fs := [.int 0, .null, .int 0]) (C := RJx4a65c) (T := TJx4a65c) (N := 3) hx hb hts i_Jx4a65c tyJx4a65c tyJx4a65c_ok hown (hts _ m_1117) (hts _ m_1118) (hts _ m_15) hK hP hD hS hA rfl (fun j hj => by rcases (show j = 0 ∨ j = 1 ∨ j = 2 by omega) with rfl | rfl | rfl <;> rfl) (Nat.le_of_ble_eq_true rfl) (Nat.le_of_ble_eq_true rfl) dX18_init_67 (fun q_23 H hP hD hS => ?_)
  have hP : va_P D classes [(mm, .inr (9, [.ref q_1, .ref q_5, .ref q_9, .ref q_13, .int 0, .null, .null, .ref q_17, .null, .ref q_19, .null, .int 0, .int 0, .long 0, .int 0])), (q_1, .inr (10, [.int 0, .ref (g 4), .int 0])), (q_5, .inr (10, [.int 0, .ref (g 4), .int 0])), (q_9, .inr (10, [.int 0, .ref (g 4), .int 0])), (q_13, .inr (11, [.null, .null, .null, .null, .int 0, .int 0, .null, .null, .null])), (q_17, .inl (cA_18, 0, .inl (fun _ => 0))), (q_19, .inr (10, [.int 0, .ref (g 4), .int 0])), (q_23, .inr (10, [.int 0, .null, .int 0]))] H := hP
  have hD : va_D A [(mm, .inr (9, [.ref q_1, .ref q_5, .ref q_9, .ref q_13, .int 0, .null, .null, .ref q_17, .null, .ref q_19, .null, .int 0, .int 0, .long 0, .int 0])), (q_1, .inr (10, [.int 0, .ref (g 4), .int 0])), (q_5, .inr (10, [.int 0, .ref (g 4), .int 0])), (q_9, .inr (10, [.int 0, .ref (g 4), .int 0])), (q_13, .inr (11, [.null, .null, .null, .null, .int 0, .int 0, .null, .null, .null])), (q_17, .inl (cA_18, 0, .inl (fun _ => 0))), (q_19, .inr (10, [.int 0, .ref (g 4), .int 0])), (q_23, .inr (10, [.int 0, .null, .int 0]))] := hD
  refine lv_dup hx hb dX18_init_70 rfl ?_
  have hc_24 := hP.sub (ws' := [(q_23, .inr (10, [.int 0, .null, .int 0]))]) [7] rfl
  have hc_24D := hD.sub (ws' := [(q_23, .inr (10, [.int 0, .null, .int 0]))]) [7] (by decide) rfl
  have hc_24F := va_free (wc := [(q_23, .inr (10, [.int 0, .null, .int 0]))]) hD hS hA [7] rfl
  refine va_callv (va_runI (As := []) (rest := [.ref q_23, .ref mm]) ⟨hx, hb, hml, hown, hts⟩ (c_init_ArrayList l z0 D g _ q_23) (cwI 0 hts (lw_I m_1121) rfl rfl rfl (hts _ m_15) (hts _ m_1119) (hts _ m_1120) rfl (by decide +kernel) ⟨(Nat.le_of_ble_eq_true rfl), (Nat.le_of_ble_eq_true rfl)⟩) ⟨PM.blind, PM.pre hE hS hAz hsz hc_24 hc_24D⟩ rfl rfl hl.1 rfl (lv_room (Nat.le_of_ble_eq_true rfl)) dX18_init_71 ⟨(Nat.le_of_ble_eq_true rfl), (Nat.le_of_ble_eq_true rfl)⟩) hS (fun q _ h => hc_24F q h) hc_24F (fun u_26 t H locs ht hvm hw hB hz1 hk1 hS => ?_)
  obtain ⟨hP1, hD1⟩ := hB
  rw [ht] at hP1
  obtain ⟨hP, hD⟩ := va_join (wr := [(mm, .inr (9, [.ref q_1, .ref q_5, .ref q_9, .ref q_13, .int 0, .null, .null, .ref q_17, .null, .ref q_19, .null, .int 0, .int 0, .long 0, .int 0])), (q_1, .inr (10, [.int 0, .ref (g 4), .int 0])), (q_5, .inr (10, [.int 0, .ref (g 4), .int 0])), (q_9, .inr (10, [.int 0, .ref (g 4), .int 0])), (q_13, .inr (11, [.null, .null, .null, .null, .int 0, .int 0, .null, .null, .null])), (q_17, .inl (cA_18, 0, .inl (fun _ => 0))), (q_19, .inr (10, [.int 0, .ref (g 4), .int 0]))]) (w1 := [(q_23, .inr (10, [.int 0, .ref (g 4), .int 0]))]) hP hD [7] [0, 1, 2, 3, 4, 5, 6] rfl rfl (by decide) (by decide) hk1 hc_24F hP1 hD1
  have hP : va_P D classes [(mm, .inr (9, [.ref q_1, .ref q_5, .ref q_9, .ref q_13, .int 0, .null, .null, .ref q_17, .null, .ref q_19, .null, .int 0, .int 0, .long 0, .int 0])), (q_1, .inr (10, [.int 0, .ref (g 4), .int 0])), (q_5, .inr (10, [.int 0, .ref (g 4), .int 0])), (q_9, .inr (10, [.int 0, .ref (g 4), .int 0])), (q_13, .inr (11, [.null, .null, .null, .null, .int 0, .int 0, .null, .null, .null])), (q_17, .inl (cA_18, 0, .inl (fun _ => 0))), (q_19, .inr (10, [.int 0, .ref (g 4), .int 0])), (q_23, .inr (10, [.int 0, .ref (g 4), .int 0]))] H := hP
  have hD : va_D A [(mm, .inr (9, [.ref q_1, .ref q_5, .ref q_9, .ref q_13, .int 0, .null, .null, .ref q_17, .null, .ref q_19, .null, .int 0, .int 0, .long 0, .int 0])), (q_1, .inr (10, [.int 0, .ref (g 4), .int 0])), (q_5, .inr (10, [.int 0, .ref (g 4), .int 0])), (q_9, .inr (10, [.int 0, .ref (g 4), .int 0])), (q_13, .inr (11, [.null, .null, .null, .null, .int 0, .int 0, .null, .null, .null])), (q_17, .inl (cA_18, 0, .inl (fun _ => 0))), (q_19, .inr (10, [.int 0, .ref (g 4), .int 0])), (q_23, .inr (10, [.int 0, .ref (g 4), .int 0]))] := hD
  refine va_putF (D := D) (ci := 9) (v := .ref q_23) (ty := (.object "java/util/List")) (C := RX18) (T := TX18) (N := 15) hx hb hts i_X18 tyX18 tyX18_ok nmX18 hown hK hP hD hS 0 rfl rfl 10 (by decide) (hts _ m_1193) (fun _ h9 => h9) rfl hin rfl (by decide +kernel) rfl rfl (Nat.le_of_ble_eq_true rfl) dX18_init_74 (fun H locs hP hD hS => ?_)
  have hP : va_P D classes [(mm, .inr (9, [.ref q_1, .ref q_5, .ref q_9, .ref q_13, .int 0, .null, .null, .ref q_17, .null, .ref q_19, .ref q_23, .int 0, .int 0, .long 0, .int 0])), (q_1, .inr (10, [.int 0, .ref (g 4), .int 0])), (q_5, .inr (10, [.int 0, .ref (g 4), .int 0])), (q_9, .inr (10, [.int 0, .ref (g 4), .int 0])), (q_13, .inr (11, [.null, .null, .null, .null, .int 0, .int 0, .null, .null, .null])), (q_17, .inl (cA_18, 0, .inl (fun _ => 0))), (q_19, .inr (10, [.int 0, .ref (g 4), .int 0])), (q_23, .inr (10, [.int 0, .ref (g 4), .int 0]))] H := hP
  have hD : va_D A [(mm, .inr (9, [.ref q_1, .ref q_5, .ref q_9, .ref q_13, .int 0, .null, .null, .ref q_17, .null, .ref q_19, .ref q_23, .int 0, .int 0, .long 0, .int 0])), (q_1, .inr (10, [.int 0, .ref (g 4), .int 0])), (q_5, .inr (10, [.int 0, .ref (g 4), .int 0])), (q_9, .inr (10, [.int 0, .ref (g 4), .int 0])), (q_13, .inr (11, [.null, .null, .null, .null, .int 0, .int 0, .null, .null, .null])), (q_17, .inl (cA_18, 0, .inl (fun _ => 0))), (q_19, .inr (10, [.int 0, .ref (g 4), .int 0])), (q_23, .inr (10, [.int 0, .ref (g 4), .int 0]))] := hD
  have hP9 := hP.sub (ws' := [(mm, .inr (9, [.ref q_1, .ref q_5, .ref q_9, .ref q_13, .int 0, .null, .null, .ref q_17, .null, .ref q_19, .ref q_23, .int 0, .int 0, .long 0, .int 0])), (q_1, .inr (10, [.int 0, .ref (g 4), .int 0])), (q_5, .inr (10, [.int 0, .ref (g 4), .int 0])), (q_9, .inr (10, [.int 0, .ref (g 4), .int 0])), (q_13, .inr (11, [.null, .null, .null, .null, .int 0, .int 0, .null, .null, .null]))]) [0, 1, 2, 3, 4] rfl
  have hD9 := hD.sub (ws' := [(mm, .inr (9, [.ref q_1, .ref q_5, .ref q_9, .ref q_13, .int 0, .null, .null, .ref q_17, .null, .ref q_19, .ref q_23, .int 0, .int 0, .long 0, .int 0])), (q_1, .inr (10, [.int 0, .ref (g 4), .int 0])), (q_5, .inr (10, [.int 0, .ref (g 4), .int 0])), (q_9, .inr (10, [.int 0, .ref (g 4), .int 0])), (q_13, .inr (11, [.null, .null, .null, .null, .int 0, .int 0, .null, .null, .null]))]) [0, 1, 2, 3, 4] (by decide) rfl
  refine W.widen (k := 7) (n := 24) (Nat.le_of_ble_eq_true rfl) (Nat.le_of_ble_eq_true rfl) ?_
  exact W.vret hx hb hr (fun t ht hW => ⟨⟨(), rfl, trivial, q_1, q_5, q_9, q_13, q_17, q_19, q_23, by rw [ht]; exact hP9, hD9⟩, hS.F ht⟩) hS.2.2 dX18_init_77
