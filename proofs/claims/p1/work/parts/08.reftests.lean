theorem dJx4a65c_size_8abf5_0 : decode cJx4a65c_size_8abf5 0 = .ok (.aload_n 0, 1) := by decide +kernel
theorem dJx4a65c_size_8abf5_1 : decode cJx4a65c_size_8abf5 1 = .ok (.getfield 48, 3) := by decide +kernel
theorem dJx4a65c_size_8abf5_4 : decode cJx4a65c_size_8abf5 4 = .ok (.ireturn, 1) := by decide +kernel
theorem dX18_in_0 : decode cX18_in 0 = .ok (.lload_n 0, 1) := by decide +kernel
theorem dX18_in_1 : decode cX18_in 1 = .ok (.lload_n 2, 1) := by decide +kernel
theorem dX18_in_2 : decode cX18_in 2 = .ok (.lcmp, 1) := by decide +kernel
theorem dX18_in_3 : decode cX18_in 3 = .ok (.ifCond .lt 14, 3) := by decide +kernel
theorem dX18_in_6 : decode cX18_in 6 = .ok (.lload_n 0, 1) := by decide +kernel
theorem dX18_in_7 : decode cX18_in 7 = .ok (.lload 4, 2) := by decide +kernel
theorem dX18_in_9 : decode cX18_in 9 = .ok (.lcmp, 1) := by decide +kernel
theorem dX18_in_10 : decode cX18_in 10 = .ok (.ifCond .gt 7, 3) := by decide +kernel
theorem dX18_in_13 : decode cX18_in 13 = .ok (.iconst 1, 1) := by decide +kernel
theorem dX18_in_14 : decode cX18_in 14 = .ok (.goto 4, 3) := by decide +kernel
theorem dX18_in_17 : decode cX18_in 17 = .ok (.iconst 0, 1) := by decide +kernel
theorem dX18_in_18 : decode cX18_in 18 = .ok (.ireturn, 1) := by decide +kernel
theorem dX18_isMachine_0 : decode cX18_isMachine 0 = .ok (.iload_n 1, 1) := by decide +kernel
theorem dX18_isMachine_1 : decode cX18_isMachine 1 = .ok (.i2l, 1) := by decide +kernel
theorem dX18_isMachine_2 : decode cX18_isMachine 2 = .ok (.lconst 0, 1) := by decide +kernel
theorem dX18_isMachine_3 : decode cX18_isMachine 3 = .ok (.aload_n 0, 1) := by decide +kernel
theorem dX18_isMachine_4 : decode cX18_isMachine 4 = .ok (.getfield 16, 3) := by decide +kernel
theorem dX18_isMachine_7 : decode cX18_isMachine 7 = .ok (.invokeinterface 43 1, 5) := by decide +kernel
theorem dX18_isMachine_12 : decode cX18_isMachine 12 = .ok (.iconst 1, 1) := by decide +kernel
theorem dX18_isMachine_13 : decode cX18_isMachine 13 = .ok (.isub, 1) := by decide +kernel
theorem dX18_isMachine_14 : decode cX18_isMachine 14 = .ok (.i2l, 1) := by decide +kernel
theorem dX18_isMachine_15 : decode cX18_isMachine 15 = .ok (.invokestatic 49, 3) := by decide +kernel
theorem dX18_isMachine_18 : decode cX18_isMachine 18 = .ok (.ireturn, 1) := by decide +kernel
theorem dX18_isOn_0 : decode cX18_isOn 0 = .ok (.aload_n 0, 1) := by decide +kernel
theorem dX18_isOn_1 : decode cX18_isOn 1 = .ok (.aload_n 0, 1) := by decide +kernel
theorem dX18_isOn_2 : decode cX18_isOn 2 = .ok (.getfield 57, 3) := by decide +kernel
theorem dX18_isOn_5 : decode cX18_isOn 5 = .ok (.ifnonnull 7, 3) := by decide +kernel
theorem dX18_isOn_8 : decode cX18_isOn 8 = .ok (.iconst 1, 1) := by decide +kernel
theorem dX18_isOn_9 : decode cX18_isOn 9 = .ok (.goto 32, 3) := by decide +kernel
theorem dX18_isOn_41 : decode cX18_isOn 41 = .ok (.putfield 39, 3) := by decide +kernel
theorem dX18_isOn_44 : decode cX18_isOn 44 = .ok (.aload_n 0, 1) := by decide +kernel
theorem dX18_isOn_45 : decode cX18_isOn 45 = .ok (.getfield 39, 3) := by decide +kernel
theorem dX18_isOn_48 : decode cX18_isOn 48 = .ok (.ifCond .ne 7, 3) := by decide +kernel
theorem dX18_isOn_55 : decode cX18_isOn 55 = .ok (.iconst 0, 1) := by decide +kernel
theorem dX18_isOn_56 : decode cX18_isOn 56 = .ok (.ireturn, 1) := by decide +kernel
theorem dX18_isPerson_0 : decode cX18_isPerson 0 = .ok (.iload_n 1, 1) := by decide +kernel
theorem dX18_isPerson_1 : decode cX18_isPerson 1 = .ok (.i2l, 1) := by decide +kernel
theorem dX18_isPerson_2 : decode cX18_isPerson 2 = .ok (.lconst 0, 1) := by decide +kernel
theorem dX18_isPerson_3 : decode cX18_isPerson 3 = .ok (.aload_n 0, 1) := by decide +kernel
theorem dX18_isPerson_4 : decode cX18_isPerson 4 = .ok (.getfield 10, 3) := by decide +kernel
theorem dX18_isPerson_7 : decode cX18_isPerson 7 = .ok (.invokeinterface 43 1, 5) := by decide +kernel
theorem dX18_isPerson_12 : decode cX18_isPerson 12 = .ok (.iconst 1, 1) := by decide +kernel
theorem dX18_isPerson_13 : decode cX18_isPerson 13 = .ok (.isub, 1) := by decide +kernel
theorem dX18_isPerson_14 : decode cX18_isPerson 14 = .ok (.i2l, 1) := by decide +kernel
theorem dX18_isPerson_15 : decode cX18_isPerson 15 = .ok (.invokestatic 49, 3) := by decide +kernel
theorem dX18_isPerson_18 : decode cX18_isPerson 18 = .ok (.ireturn, 1) := by decide +kernel
theorem dX18_isWork_0 : decode cX18_isWork 0 = .ok (.iload_n 1, 1) := by decide +kernel
theorem dX18_isWork_1 : decode cX18_isWork 1 = .ok (.i2l, 1) := by decide +kernel
theorem dX18_isWork_2 : decode cX18_isWork 2 = .ok (.lconst 0, 1) := by decide +kernel
theorem dX18_isWork_3 : decode cX18_isWork 3 = .ok (.aload_n 0, 1) := by decide +kernel
theorem dX18_isWork_4 : decode cX18_isWork 4 = .ok (.getfield 19, 3) := by decide +kernel
theorem dX18_isWork_7 : decode cX18_isWork 7 = .ok (.invokeinterface 43 1, 5) := by decide +kernel
theorem dX18_isWork_12 : decode cX18_isWork 12 = .ok (.iconst 1, 1) := by decide +kernel
theorem dX18_isWork_13 : decode cX18_isWork 13 = .ok (.isub, 1) := by decide +kernel
theorem dX18_isWork_14 : decode cX18_isWork 14 = .ok (.i2l, 1) := by decide +kernel
theorem dX18_isWork_15 : decode cX18_isWork 15 = .ok (.invokestatic 49, 3) := by decide +kernel
theorem dX18_isWork_18 : decode cX18_isWork 18 = .ok (.ireturn, 1) := by decide +kernel
theorem dX18_levels_0 : decode cX18_levels 0 = .ok (.aload_n 0, 1) := by decide +kernel
theorem dX18_levels_1 : decode cX18_levels 1 = .ok (.aload_n 0, 1) := by decide +kernel
theorem dX18_levels_2 : decode cX18_levels 2 = .ok (.getfield 57, 3) := by decide +kernel
theorem dX18_levels_5 : decode cX18_levels 5 = .ok (.ifnonnull 7, 3) := by decide +kernel
theorem dX18_levels_8 : decode cX18_levels 8 = .ok (.iconst 1, 1) := by decide +kernel
theorem dX18_levels_9 : decode cX18_levels 9 = .ok (.goto 4, 3) := by decide +kernel
theorem dX18_levels_13 : decode cX18_levels 13 = .ok (.putfield 39, 3) := by decide +kernel
theorem dX18_levels_16 : decode cX18_levels 16 = .ok (.aload_n 0, 1) := by decide +kernel
theorem dX18_levels_17 : decode cX18_levels 17 = .ok (.getfield 39, 3) := by decide +kernel
theorem dX18_levels_20 : decode cX18_levels 20 = .ok (.ifCond .le 5, 3) := by decide +kernel
theorem dX18_levels_23 : decode cX18_levels 23 = .ok (.aconst_null, 1) := by decide +kernel
theorem dX18_levels_24 : decode cX18_levels 24 = .ok (.areturn, 1) := by decide +kernel
theorem m_12 : (Cond.initialized "TheatrehouseModel") ∈ lw_all := lw_in 12 (by decide +kernel) (by decide +kernel)
theorem m_15 : (Cond.initialized "java/util/ArrayList") ∈ lw_all := lw_in 15 (by decide +kernel) (by decide +kernel)
theorem m_1134 : (Cond.fieldLink "java/util/ArrayList" 48 "java/util/ArrayList" "size" "I") ∈ lw_all := lw_in 1134 (by decide +kernel) (by decide +kernel)
theorem m_1181 : (Cond.fieldLink "TheatrehouseModel" 10 "TheatrehouseModel" "people" "Ljava/util/List;") ∈ lw_all := lw_in 1181 (by decide +kernel) (by decide +kernel)
theorem m_1182 : (Cond.fieldLink "TheatrehouseModel" 16 "TheatrehouseModel" "machines" "Ljava/util/List;") ∈ lw_all := lw_in 1182 (by decide +kernel) (by decide +kernel)
theorem m_1183 : (Cond.fieldLink "TheatrehouseModel" 19 "TheatrehouseModel" "works" "Ljava/util/List;") ∈ lw_all := lw_in 1183 (by decide +kernel) (by decide +kernel)
theorem m_1186 : (Cond.fieldLink "TheatrehouseModel" 57 "TheatrehouseModel" "on" "LTheatrehouseModel$Evening;") ∈ lw_all := lw_in 1186 (by decide +kernel) (by decide +kernel)
theorem m_1197 : (Cond.fieldLink "TheatrehouseModel" 39 "TheatrehouseModel" "thrown" "I") ∈ lw_all := lw_in 1197 (by decide +kernel) (by decide +kernel)
theorem m_1238 : (Cond.methodLink "TheatrehouseModel" 49 ⟨"TheatrehouseModel", "in", "(JJJ)Z"⟩) ∈ lw_all := lw_in 1238 (by decide +kernel) (by decide +kernel)
theorem m_1239 : (Cond.static ⟨"TheatrehouseModel", "in", "(JJJ)Z"⟩) ∈ lw_all := lw_in 1239 (by decide +kernel) (by decide +kernel)
theorem m_1240 : (Cond.code ⟨"TheatrehouseModel", "in", "(JJJ)Z"⟩ prog_13_method_3_code 6 (Option.some Jvm.ClassFile.FieldType.boolean)) ∈ lw_all := lw_in 1240 (by decide +kernel) (by decide +kernel)
theorem m_1243 : (Cond.methodLink "TheatrehouseModel" 43 ⟨"java/util/List", "size", "()I"⟩) ∈ lw_all := lw_in 1243 (by decide +kernel) (by decide +kernel)
theorem m_1247 : (Cond.selects "java/util/ArrayList" ⟨"java/util/List", "size", "()I"⟩ ⟨"java/util/ArrayList", "size", "()I"⟩) ∈ lw_all := lw_in 1247 (by decide +kernel) (by decide +kernel)
theorem m_1249 : (Cond.instanceMethod ⟨"java/util/ArrayList", "size", "()I"⟩) ∈ lw_all := lw_in 1249 (by decide +kernel) (by decide +kernel)
theorem m_1251 : (Cond.code ⟨"java/util/ArrayList", "size", "()I"⟩ prog_55_method_8_code 1 (Option.some Jvm.ClassFile.FieldType.int)) ∈ lw_all := lw_in 1251 (by decide +kernel) (by decide +kernel)
set_option maxHeartbeats 4000000 in
set_option maxRecDepth 100000 in
/-- an empty list -/
theorem c_AL_size (l : Launch) (z0 : Nat) (D : va_G) (g : Nat → Nat) (b : Nat) : Met l yJx4a65c_size_8abf5 (wsp yJx4a65c_size_8abf5 cJx4a65c_size_8abf5 1 (some .int)) ({ frames := 0, cells := 0, slots := 0, locals := 0 }) (va_Pc [.ref b] (PR z0 D g [(b, .inr (10, [.int 0, .ref (g 4), .int 0]))])) (va_Qi (fun (r : Int32) (_ : Unit) => r = 0) (fun _ _ => True) nA) 0 0 nA := by
  refine Met.ofW (cc := cJx4a65c_size_8abf5) (maxL := 1) (ret := (some .int)) (by decide) rfl ?_
  intro p e s m args below meth c s₁ B hml hv
  obtain ⟨rfl, hE, hP⟩ := hv
  have hx := B.exec
  have hb := B.bytes
  have hr := B.returns
  have hts0 := atoms_spec (ws := (wsp yJx4a65c_size_8abf5 cJx4a65c_size_8abf5 1 (some .int))) B.pre
  have hts : ∀ w ∈ lw_all, w.before _ s = true := fun w h => hts0 w (List.mem_cons_of_mem _ h)
  have hown : s.vm.findClass "java/util/ArrayList" = some m.cls := findClass_of_methodNamed B.named
  have hlocks := B.notSynchronized
  have hK := hE.K
  have hS : va_S nA s.heap s.heap [] := va_S.rf
  have hP : va_P D classes [(b, .inr (10, [.int 0, .ref (g 4), .int 0]))] s.heap := hP
  have hl := lv_entry ([.ref b]) (n := 1) (Nat.le_of_ble_eq_true rfl)
  rw [lg_entry_eq]
  generalize (lg_sl ([.ref b]) ++ List.replicate (1 - (lg_sl ([.ref b])).length) Slot.unset).toArray = ls at hl ⊢
  have hl : lv_has ls 1 [(0, .ref b)] := hl
  refine lv_aload_n hx hb dJx4a65c_size_8abf5_0 rfl (lv_at hl 0 rfl) ?_
  refine va_get (D := D) (ci := 10) (v := .int 0) (C := RJx4a65c) (T := TJx4a65c) (N := 3) hx hb hts i_Jx4a65c hown hK hP 0 rfl rfl 2 (by decide) (hts _ m_1134) (fun _ h9 => h9) rfl dJx4a65c_size_8abf5_1 ?_
  refine W.widen (k := 0) (n := 0) (Nat.le_of_ble_eq_true rfl) (Nat.le_of_ble_eq_true rfl) ?_
  exact W.iret (v := 0) hx hb hr (fun t ht hW => ⟨⟨0, (), rfl, rfl, trivial⟩, hS.F ht⟩) hS.2.2 dJx4a65c_size_8abf5_4

set_option maxHeartbeats 4000000 in
set_option maxRecDepth 100000 in
theorem c_in_t (l : Launch) (z0 : Nat) (D : va_G) (g : Nat → Nat) (p0 p1 p2 : Int64) (h1 : p1 ≤ p0) (h2 : p0 ≤ p2) : Met l yX18_in (wsp yX18_in cX18_in 6 (some .boolean)) ({ frames := 0, cells := 0, slots := 0, locals := 0 }) (va_Pc [.long p0, .long p1, .long p2] (fun _ => True)) (va_Qi (fun (r : Int32) (_ : Unit) => r = 1) (fun _ _ => True) nA) 0 0 nA := by
  refine Met.ofW (cc := cX18_in) (maxL := 6) (ret := (some .boolean)) (by decide) rfl ?_
  intro p e s m args below meth c s₁ B hml hv
  obtain ⟨rfl, -⟩ := hv
  have hx := B.exec
  have hb := B.bytes
  have hr := B.returns
  have hts0 := atoms_spec (ws := (wsp yX18_in cX18_in 6 (some .boolean))) B.pre
  have hts : ∀ w ∈ lw_all, w.before _ s = true := fun w h => hts0 w (List.mem_cons_of_mem _ h)
  have hown : s.vm.findClass "TheatrehouseModel" = some m.cls := findClass_of_methodNamed B.named
  have hlocks := B.notSynchronized
  have hS : va_S nA s.heap s.heap [] := va_S.rf
  have hl := lv_entry ([.long p0, .long p1, .long p2]) (n := 6) (Nat.le_of_ble_eq_true rfl)
  rw [lg_entry_eq]
  generalize (lg_sl ([.long p0, .long p1, .long p2]) ++ List.replicate (6 - (lg_sl ([.long p0, .long p1, .long p2])).length) Slot.unset).toArray = ls at hl ⊢
  have hl : lv_has ls 6 [(0, .long p0), (2, .long p1), (4, .long p2)] := hl
  refine lv_lload_n hx hb dX18_in_0 rfl (lv_at hl 0 rfl) ?_
  refine lv_lload_n hx hb dX18_in_1 rfl (lv_at hl 1 rfl) ?_
  refine W.lcmp hx hb dX18_in_2 ?_
  refine lv_if_lt (tgt := 17) hx hb dX18_in_3 (by decide) (fun h9 => absurd h9 (fun z => Int64.not_lt.mpr h1 ((lg_cmp_lt _ _).mp z))) (fun _ => ?_)
  refine lv_lload_n hx hb dX18_in_6 rfl (lv_at hl 0 rfl) ?_
  refine lv_lload hx hb dX18_in_7 (lv_at hl 2 rfl) ?_
  refine W.lcmp hx hb dX18_in_9 ?_
  refine lv_if_gt (tgt := 17) hx hb dX18_in_10 (by decide) (fun h9 => absurd h9 (fun z => Int64.not_lt.mpr h2 ((lg_cmp_gt _ _).mp z))) (fun _ => ?_)
  refine lv_iconst (v := 1) hx hb dX18_in_13 (by decide) ?_
  refine lv_goto (tgt := 18) hx hb dX18_in_14 (by decide) ?_
  refine W.widen (k := 0) (n := 0) (Nat.le_of_ble_eq_true rfl) (Nat.le_of_ble_eq_true rfl) ?_
  exact W.zret (v := 1) hx hb hr (by decide) (fun t ht hW => ⟨⟨1, (), rfl, rfl, trivial⟩, hS.F ht⟩) hS.2.2 dX18_in_18

set_option maxHeartbeats 4000000 in
set_option maxRecDepth 100000 in
theorem c_in_f (l : Launch) (z0 : Nat) (D : va_G) (g : Nat → Nat) (p0 p1 p2 : Int64) (h : p0 < p1 ∨ p2 < p0) : Met l yX18_in (wsp yX18_in cX18_in 6 (some .boolean)) ({ frames := 0, cells := 0, slots := 0, locals := 0 }) (va_Pc [.long p0, .long p1, .long p2] (fun _ => True)) (va_Qi (fun (r : Int32) (_ : Unit) => r = 0) (fun _ _ => True) nA) 0 0 nA := by
  refine Met.ofW (cc := cX18_in) (maxL := 6) (ret := (some .boolean)) (by decide) rfl ?_
  intro p e s m args below meth c s₁ B hml hv
  obtain ⟨rfl, -⟩ := hv
  have hx := B.exec
  have hb := B.bytes
  have hr := B.returns
  have hts0 := atoms_spec (ws := (wsp yX18_in cX18_in 6 (some .boolean))) B.pre
  have hts : ∀ w ∈ lw_all, w.before _ s = true := fun w h => hts0 w (List.mem_cons_of_mem _ h)
  have hown : s.vm.findClass "TheatrehouseModel" = some m.cls := findClass_of_methodNamed B.named
  have hlocks := B.notSynchronized
  have hS : va_S nA s.heap s.heap [] := va_S.rf
  have hl := lv_entry ([.long p0, .long p1, .long p2]) (n := 6) (Nat.le_of_ble_eq_true rfl)
  rw [lg_entry_eq]
  generalize (lg_sl ([.long p0, .long p1, .long p2]) ++ List.replicate (6 - (lg_sl ([.long p0, .long p1, .long p2])).length) Slot.unset).toArray = ls at hl ⊢
  have hl : lv_has ls 6 [(0, .long p0), (2, .long p1), (4, .long p2)] := hl
  refine lv_lload_n hx hb dX18_in_0 rfl (lv_at hl 0 rfl) ?_
  refine lv_lload_n hx hb dX18_in_1 rfl (lv_at hl 1 rfl) ?_
  refine W.lcmp hx hb dX18_in_2 ?_
  refine lv_if_lt (tgt := 17) hx hb dX18_in_3 (by decide) (fun c_3 => ?_) (fun c_3 => ?_)
  · refine lv_iconst (v := 0) hx hb dX18_in_17 (by decide) ?_
    refine W.widen (k := 0) (n := 0) (Nat.le_of_ble_eq_true rfl) (Nat.le_of_ble_eq_true rfl) ?_
    exact W.zret (v := 0) hx hb hr (by decide) (fun t ht hW => ⟨⟨0, (), rfl, rfl, trivial⟩, hS.F ht⟩) hS.2.2 dX18_in_18
  · refine lv_lload_n hx hb dX18_in_6 rfl (lv_at hl 0 rfl) ?_
    refine lv_lload hx hb dX18_in_7 (lv_at hl 2 rfl) ?_
    refine W.lcmp hx hb dX18_in_9 ?_
    refine lv_if_gt (tgt := 17) hx hb dX18_in_10 (by decide) (fun _ => ?_) (fun h9 => absurd ((lg_cmp_gt _ _).mpr (h.resolve_left (fun z => c_3 ((lg_cmp_lt _ _).mpr z)))) h9)
    refine lv_iconst (v := 0) hx hb dX18_in_17 (by decide) ?_
    refine W.widen (k := 0) (n := 0) (Nat.le_of_ble_eq_true rfl) (Nat.le_of_ble_eq_true rfl) ?_
    exact W.zret (v := 0) hx hb hr (by decide) (fun t ht hW => ⟨⟨0, (), rfl, rfl, trivial⟩, hS.F ht⟩) hS.2.2 dX18_in_18

set_option maxHeartbeats 4000000 in
set_option maxRecDepth 100000 in
theorem c_in_b (l : Launch) (z0 : Nat) (D : va_G) (g : Nat → Nat) (p0 p1 p2 : Int64) : Met l yX18_in (wsp yX18_in cX18_in 6 (some .boolean)) ({ frames := 0, cells := 0, slots := 0, locals := 0 }) (va_Pc [.long p0, .long p1, .long p2] (fun _ => True)) (va_Qi (fun (r : Int32) (_ : Unit) => r = 0 ∨ r = 1) (fun _ _ => True) nA) 0 0 nA := by
  refine Met.ofW (cc := cX18_in) (maxL := 6) (ret := (some .boolean)) (by decide) rfl ?_
  intro p e s m args below meth c s₁ B hml hv
  obtain ⟨rfl, -⟩ := hv
  have hx := B.exec
  have hb := B.bytes
  have hr := B.returns
  have hts0 := atoms_spec (ws := (wsp yX18_in cX18_in 6 (some .boolean))) B.pre
  have hts : ∀ w ∈ lw_all, w.before _ s = true := fun w h => hts0 w (List.mem_cons_of_mem _ h)
  have hown : s.vm.findClass "TheatrehouseModel" = some m.cls := findClass_of_methodNamed B.named
  have hlocks := B.notSynchronized
  have hS : va_S nA s.heap s.heap [] := va_S.rf
  have hl := lv_entry ([.long p0, .long p1, .long p2]) (n := 6) (Nat.le_of_ble_eq_true rfl)
  rw [lg_entry_eq]
  generalize (lg_sl ([.long p0, .long p1, .long p2]) ++ List.replicate (6 - (lg_sl ([.long p0, .long p1, .long p2])).length) Slot.unset).toArray = ls at hl ⊢
  have hl : lv_has ls 6 [(0, .long p0), (2, .long p1), (4, .long p2)] := hl
  refine lv_lload_n hx hb dX18_in_0 rfl (lv_at hl 0 rfl) ?_
  refine lv_lload_n hx hb dX18_in_1 rfl (lv_at hl 1 rfl) ?_
  refine W.lcmp hx hb dX18_in_2 ?_
  refine lv_if_lt (tgt := 17) hx hb dX18_in_3 (by decide) (fun c_3 => ?_) (fun c_3 => ?_)
  · refine lv_iconst (v := 0) hx hb dX18_in_17 (by decide) ?_
    refine W.widen (k := 0) (n := 0) (Nat.le_of_ble_eq_true rfl) (Nat.le_of_ble_eq_true rfl) ?_
    exact W.zret (v := 0) hx hb hr (by decide) (fun t ht hW => ⟨⟨0, (), rfl, (Or.inl rfl), trivial⟩, hS.F ht⟩) hS.2.2 dX18_in_18
  · refine lv_lload_n hx hb dX18_in_6 rfl (lv_at hl 0 rfl) ?_
    refine lv_lload hx hb dX18_in_7 (lv_at hl 2 rfl) ?_
    refine W.lcmp hx hb dX18_in_9 ?_
    refine lv_if_gt (tgt := 17) hx hb dX18_in_10 (by decide) (fun c_10 => ?_) (fun c_10 => ?_)
    · refine lv_iconst (v := 0) hx hb dX18_in_17 (by decide) ?_
      refine W.widen (k := 0) (n := 0) (Nat.le_of_ble_eq_true rfl) (Nat.le_of_ble_eq_true rfl) ?_
      exact W.zret (v := 0) hx hb hr (by decide) (fun t ht hW => ⟨⟨0, (), rfl, (Or.inl rfl), trivial⟩, hS.F ht⟩) hS.2.2 dX18_in_18
    · refine lv_iconst (v := 1) hx hb dX18_in_13 (by decide) ?_
      refine lv_goto (tgt := 18) hx hb dX18_in_14 (by decide) ?_
      refine W.widen (k := 0) (n := 0) (Nat.le_of_ble_eq_true rfl) (Nat.le_of_ble_eq_true rfl) ?_
      exact W.zret (v := 1) hx hb hr (by decide) (fun t ht hW => ⟨⟨1, (), rfl, (Or.inr rfl), trivial⟩, hS.F ht⟩) hS.2.2 dX18_in_18

theorem neg_or (x : Int64) : x < 0 ∨ (-1 : Int64) < x := by
  by_cases h : x < 0
  · exact Or.inl h
  · refine Or.inr ?_
    rw [Int64.lt_iff_toInt_lt] at *
    have h1 : (0 : Int64).toInt = 0 := by decide
    have h2 : (-1 : Int64).toInt = -1 := by decide
    omega

set_option maxHeartbeats 4000000 in
set_option maxRecDepth 100000 in
theorem c_X18_isPerson (l : Launch) (z0 : Nat) (D : va_G) (g : Nat → Nat) (mm b0 b1 b2 b3 b4 b5 b6 : Nat) (p0 : Int32) : Met l yX18_isPerson (wsp yX18_isPerson cX18_isPerson 2 (some .boolean)) ({ frames := 1, cells := 0, slots := 0, locals := 25 }) (va_Pc [.ref mm, .int p0] (PR z0 D g [(mm, .inr (9, [.ref b0, .ref b1, .ref b2, .ref b3, .int 0, .null, .null, .ref b4, .null, .ref b5, .ref b6, .int 0, .int 0, .long 0, .int 0])), (b0, .inr (10, [.int 0, .ref (g 4), .int 0])), (b1, .inr (10, [.int 0, .ref (g 4), .int 0])), (b2, .inr (10, [.int 0, .ref (g 4), .int 0])), (b3, .inr (11, [.null, .null, .null, .null, .int 0, .int 0, .null, .null, .null]))])) (va_Qi (fun (r : Int32) (_ : Unit) => r = 0) (fun _ _ => True) nA) 0 0 nA := by
  refine Met.ofW (cc := cX18_isPerson) (maxL := 2) (ret := (some .boolean)) (by decide) rfl ?_
  intro p e s m args below meth c s₁ B hml hv
  obtain ⟨rfl, hE, hP⟩ := hv
  have hx := B.exec
  have hb := B.bytes
  have hr := B.returns
  have hts0 := atoms_spec (ws := (wsp yX18_isPerson cX18_isPerson 2 (some .boolean))) B.pre
  have hts : ∀ w ∈ lw_all, w.before _ s = true := fun w h => hts0 w (List.mem_cons_of_mem _ h)
  have hown : s.vm.findClass "TheatrehouseModel" = some m.cls := findClass_of_methodNamed B.named
  have hlocks := B.notSynchronized
  have hK := hE.K
  have hS : va_S nA s.heap s.heap [] := va_S.rf
  have hP : va_P D classes [(mm, .inr (9, [.ref b0, .ref b1, .ref b2, .ref b3, .int 0, .null, .null, .ref b4, .null, .ref b5, .ref b6, .int 0, .int 0, .long 0, .int 0])), (b0, .inr (10, [.int 0, .ref (g 4), .int 0])), (b1, .inr (10, [.int 0, .ref (g 4), .int 0])), (b2, .inr (10, [.int 0, .ref (g 4), .int 0])), (b3, .inr (11, [.null, .null, .null, .null, .int 0, .int 0, .null, .null, .null]))] s.heap := hP
  have hl := lv_entry ([.ref mm, .int p0]) (n := 2) (Nat.le_of_ble_eq_true rfl)
  rw [lg_entry_eq]
  generalize (lg_sl ([.ref mm, .int p0]) ++ List.replicate (2 - (lg_sl ([.ref mm, .int p0])).length) Slot.unset).toArray = ls at hl ⊢
  have hl : lv_has ls 2 [(0, .ref mm), (1, .int p0)] := hl
  refine lv_iload_n hx hb dX18_isPerson_0 rfl (lv_at hl 1 rfl) ?_
  refine lv_i2l (v := (Int32.toInt64 p0)) hx hb dX18_isPerson_1 rfl ?_
  refine lv_lconst (v := 0) hx hb dX18_isPerson_2 (by decide) ?_
  refine lv_aload_n hx hb dX18_isPerson_3 rfl (lv_at hl 0 rfl) ?_
  refine va_get (D := D) (ci := 9) (v := .ref b0) (C := RX18) (T := TX18) (N := 15) hx hb hts i_X18 hown hK hP 0 rfl rfl 0 (by decide) (hts _ m_1181) (fun _ h9 => h9) rfl dX18_isPerson_4 ?_
  have hc_1 := hP.sub (ws' := [(b0, .inr (10, [.int 0, .ref (g 4), .int 0]))]) [1] rfl
  refine va_callFi (va_runF (hK.1 10 _ rfl).2 (As := []) (rest := [.long 0, .long (Int32.toInt64 p0)]) ⟨hx, hb, hml, hown, hts⟩ (c_AL_size l z0 D g b0) (va_cwF 0 hts (lw_F m_1243 m_1247 m_1249 m_15 m_1251) rfl rfl rfl (hE.fw (i := 0) rfl) (by decide +kernel) ⟨(Nat.le_of_ble_eq_true rfl), (Nat.le_of_ble_eq_true rfl)⟩) ⟨PR.blind, va_recv hK hP (ci := 10) (q0 := 1) rfl rfl, PR.pre hE hS nA_z hc_1⟩ rfl rfl hl.1 rfl (lv_room (Nat.le_of_ble_eq_true rfl)) dX18_isPerson_7 ⟨(Nat.le_of_ble_eq_true rfl), (Nat.le_of_ble_eq_true rfl)⟩) hS nA_B nA_A (fun r_2 u_3 t H locs ht hvm hw hB hz1 hk1 hS => ?_)
  have hP := hP.old hk1
  have hP : va_P D classes [(mm, .inr (9, [.ref b0, .ref b1, .ref b2, .ref b3, .int 0, .null, .null, .ref b4, .null, .ref b5, .ref b6, .int 0, .int 0, .long 0, .int 0])), (b0, .inr (10, [.int 0, .ref (g 4), .int 0])), (b1, .inr (10, [.int 0, .ref (g 4), .int 0])), (b2, .inr (10, [.int 0, .ref (g 4), .int 0])), (b3, .inr (11, [.null, .null, .null, .null, .int 0, .int 0, .null, .null, .null]))] H := hP
  subst hw
  refine lv_iconst (v := 1) hx hb dX18_isPerson_12 (by decide) ?_
  refine lv_isub hx hb dX18_isPerson_13 ?_
  rw [show (0 - 1 : Int32) = (-1) by decide]
  refine lv_i2l (v := (-1)) hx hb dX18_isPerson_14 (by decide) ?_
  refine va_calli (va_runS (As := [.long (Int32.toInt64 p0), .long 0, .long (-1)]) (rest := []) ⟨hx, hb, hml, hown, hts⟩ (c_in_f l z0 D g (Int32.toInt64 p0) 0 (-1) (neg_or _)) (va_cwS 3 hts (lw_S m_1238 m_1239 m_12 m_1240) rfl rfl rfl (by decide +kernel) ⟨(Nat.le_of_ble_eq_true rfl), (Nat.le_of_ble_eq_true rfl)⟩) ⟨fun _ _ _ _ h => h, fun U _ _ => ⟨rfl, trivial⟩⟩ rfl rfl hl.1 rfl (lv_room (Nat.le_of_ble_eq_true rfl)) dX18_isPerson_15 ⟨(Nat.le_of_ble_eq_true rfl), (Nat.le_of_ble_eq_true rfl)⟩) hS nA_B nA_A (fun r_5 u_6 t H locs ht hvm hw hB hz1 hk1 hS => ?_)
  have hP := hP.old hk1
  have hP : va_P D classes [(mm, .inr (9, [.ref b0, .ref b1, .ref b2, .ref b3, .int 0, .null, .null, .ref b4, .null, .ref b5, .ref b6, .int 0, .int 0, .long 0, .int 0])), (b0, .inr (10, [.int 0, .ref (g 4), .int 0])), (b1, .inr (10, [.int 0, .ref (g 4), .int 0])), (b2, .inr (10, [.int 0, .ref (g 4), .int 0])), (b3, .inr (11, [.null, .null, .null, .null, .int 0, .int 0, .null, .null, .null]))] H := hP
  subst hw
  refine W.widen (k := 0) (n := 0) (Nat.le_of_ble_eq_true rfl) (Nat.le_of_ble_eq_true rfl) ?_
  exact W.zret (v := 0) hx hb hr (by decide) (fun t ht hW => ⟨⟨0, (), rfl, rfl, trivial⟩, hS.F ht⟩) hS.2.2 dX18_isPerson_18

set_option maxHeartbeats 4000000 in
set_option maxRecDepth 100000 in
theorem c_X18_isMachine (l : Launch) (z0 : Nat) (D : va_G) (g : Nat → Nat) (mm b0 b1 b2 b3 b4 b5 b6 : Nat) (p0 : Int32) : Met l yX18_isMachine (wsp yX18_isMachine cX18_isMachine 2 (some .boolean)) ({ frames := 1, cells := 0, slots := 0, locals := 25 }) (va_Pc [.ref mm, .int p0] (PR z0 D g [(mm, .inr (9, [.ref b0, .ref b1, .ref b2, .ref b3, .int 0, .null, .null, .ref b4, .null, .ref b5, .ref b6, .int 0, .int 0, .long 0, .int 0])), (b0, .inr (10, [.int 0, .ref (g 4), .int 0])), (b1, .inr (10, [.int 0, .ref (g 4), .int 0])), (b2, .inr (10, [.int 0, .ref (g 4), .int 0])), (b3, .inr (11, [.null, .null, .null, .null, .int 0, .int 0, .null, .null, .null]))])) (va_Qi (fun (r : Int32) (_ : Unit) => r = 0) (fun _ _ => True) nA) 0 0 nA := by
  refine Met.ofW (cc := cX18_isMachine) (maxL := 2) (ret := (some .boolean)) (by decide) rfl ?_
  intro p e s m args below meth c s₁ B hml hv
  obtain ⟨rfl, hE, hP⟩ := hv
  have hx := B.exec
  have hb := B.bytes
  have hr := B.returns
  have hts0 := atoms_spec (ws := (wsp yX18_isMachine cX18_isMachine 2 (some .boolean))) B.pre
  have hts : ∀ w ∈ lw_all, w.before _ s = true := fun w h => hts0 w (List.mem_cons_of_mem _ h)
  have hown : s.vm.findClass "TheatrehouseModel" = some m.cls := findClass_of_methodNamed B.named
  have hlocks := B.notSynchronized
  have hK := hE.K
  have hS : va_S nA s.heap s.heap [] := va_S.rf
  have hP : va_P D classes [(mm, .inr (9, [.ref b0, .ref b1, .ref b2, .ref b3, .int 0, .null, .null, .ref b4, .null, .ref b5, .ref b6, .int 0, .int 0, .long 0, .int 0])), (b0, .inr (10, [.int 0, .ref (g 4), .int 0])), (b1, .inr (10, [.int 0, .ref (g 4), .int 0])), (b2, .inr (10, [.int 0, .ref (g 4), .int 0])), (b3, .inr (11, [.null, .null, .null, .null, .int 0, .int 0, .null, .null, .null]))] s.heap := hP
  have hl := lv_entry ([.ref mm, .int p0]) (n := 2) (Nat.le_of_ble_eq_true rfl)
  rw [lg_entry_eq]
  generalize (lg_sl ([.ref mm, .int p0]) ++ List.replicate (2 - (lg_sl ([.ref mm, .int p0])).length) Slot.unset).toArray = ls at hl ⊢
  have hl : lv_has ls 2 [(0, .ref mm), (1, .int p0)] := hl
  refine lv_iload_n hx hb dX18_isMachine_0 rfl (lv_at hl 1 rfl) ?_
  refine lv_i2l (v := (Int32.toInt64 p0)) hx hb dX18_isMachine_1 rfl ?_
  refine lv_lconst (v := 0) hx hb dX18_isMachine_2 (by decide) ?_
  refine lv_aload_n hx hb dX18_isMachine_3 rfl (lv_at hl 0 rfl) ?_
  refine va_get (D := D) (ci := 9) (v := .ref b1) (C := RX18) (T := TX18) (N := 15) hx hb hts i_X18 hown hK hP 0 rfl rfl 1 (by decide) (hts _ m_1182) (fun _ h9 => h9) rfl dX18_isMachine_4 ?_
  have hc_1 := hP.sub (ws' := [(b1, .inr (10, [.int 0, .ref (g 4), .int 0]))]) [2] rfl
  refine va_callFi (va_runF (hK.1 10 _ rfl).2 (As := []) (rest := [.long 0, .long (Int32.toInt64 p0)]) ⟨hx, hb, hml, hown, hts⟩ (c_AL_size l z0 D g b1) (va_cwF 0 hts (lw_F m_1243 m_1247 m_1249 m_15 m_1251) rfl rfl rfl (hE.fw (i := 0) rfl) (by decide +kernel) ⟨(Nat.le_of_ble_eq_true rfl), (Nat.le_of_ble_eq_true rfl)⟩) ⟨PR.blind, va_recv hK hP (ci := 10) (q0 := 2) rfl rfl, PR.pre hE hS nA_z hc_1⟩ rfl rfl hl.1 rfl (lv_room (Nat.le_of_ble_eq_true rfl)) dX18_isMachine_7 ⟨(Nat.le_of_ble_eq_true rfl), (Nat.le_of_ble_eq_true rfl)⟩) hS nA_B nA_A (fun r_2 u_3 t H locs ht hvm hw hB hz1 hk1 hS => ?_)
  have hP := hP.old hk1
  have hP : va_P D classes [(mm, .inr (9, [.ref b0, .ref b1, .ref b2, .ref b3, .int 0, .null, .null, .ref b4, .null, .ref b5, .ref b6, .int 0, .int 0, .long 0, .int 0])), (b0, .inr (10, [.int 0, .ref (g 4), .int 0])), (b1, .inr (10, [.int 0, .ref (g 4), .int 0])), (b2, .inr (10, [.int 0, .ref (g 4), .int 0])), (b3, .inr (11, [.null, .null, .null, .null, .int 0, .int 0, .null, .null, .null]))] H := hP
  subst hw
  refine lv_iconst (v := 1) hx hb dX18_isMachine_12 (by decide) ?_
  refine lv_isub hx hb dX18_isMachine_13 ?_
  rw [show (0 - 1 : Int32) = (-1) by decide]
  refine lv_i2l (v := (-1)) hx hb dX18_isMachine_14 (by decide) ?_
  refine va_calli (va_runS (As := [.long (Int32.toInt64 p0), .long 0, .long (-1)]) (rest := []) ⟨hx, hb, hml, hown, hts⟩ (c_in_f l z0 D g (Int32.toInt64 p0) 0 (-1) (neg_or _)) (va_cwS 3 hts (lw_S m_1238 m_1239 m_12 m_1240) rfl rfl rfl (by decide +kernel) ⟨(Nat.le_of_ble_eq_true rfl), (Nat.le_of_ble_eq_true rfl)⟩) ⟨fun _ _ _ _ h => h, fun U _ _ => ⟨rfl, trivial⟩⟩ rfl rfl hl.1 rfl (lv_room (Nat.le_of_ble_eq_true rfl)) dX18_isMachine_15 ⟨(Nat.le_of_ble_eq_true rfl), (Nat.le_of_ble_eq_true rfl)⟩) hS nA_B nA_A (fun r_5 u_6 t H locs ht hvm hw hB hz1 hk1 hS => ?_)
  have hP := hP.old hk1
  have hP : va_P D classes [(mm, .inr (9, [.ref b0, .ref b1, .ref b2, .ref b3, .int 0, .null, .null, .ref b4, .null, .ref b5, .ref b6, .int 0, .int 0, .long 0, .int 0])), (b0, .inr (10, [.int 0, .ref (g 4), .int 0])), (b1, .inr (10, [.int 0, .ref (g 4), .int 0])), (b2, .inr (10, [.int 0, .ref (g 4), .int 0])), (b3, .inr (11, [.null, .null, .null, .null, .int 0, .int 0, .null, .null, .null]))] H := hP
  subst hw
  refine W.widen (k := 0) (n := 0) (Nat.le_of_ble_eq_true rfl) (Nat.le_of_ble_eq_true rfl) ?_
  exact W.zret (v := 0) hx hb hr (by decide) (fun t ht hW => ⟨⟨0, (), rfl, rfl, trivial⟩, hS.F ht⟩) hS.2.2 dX18_isMachine_18

set_option maxHeartbeats 4000000 in
set_option maxRecDepth 100000 in
theorem c_X18_isWork (l : Launch) (z0 : Nat) (D : va_G) (g : Nat → Nat) (mm b0 b1 b2 b3 b4 b5 b6 : Nat) (p0 : Int32) : Met l yX18_isWork (wsp yX18_isWork cX18_isWork 2 (some .boolean)) ({ frames := 1, cells := 0, slots := 0, locals := 25 }) (va_Pc [.ref mm, .int p0] (PR z0 D g [(mm, .inr (9, [.ref b0, .ref b1, .ref b2, .ref b3, .int 0, .null, .null, .ref b4, .null, .ref b5, .ref b6, .int 0, .int 0, .long 0, .int 0])), (b0, .inr (10, [.int 0, .ref (g 4), .int 0])), (b1, .inr (10, [.int 0, .ref (g 4), .int 0])), (b2, .inr (10, [.int 0, .ref (g 4), .int 0])), (b3, .inr (11, [.null, .null, .null, .null, .int 0, .int 0, .null, .null, .null]))])) (va_Qi (fun (r : Int32) (_ : Unit) => r = 0) (fun _ _ => True) nA) 0 0 nA := by
  refine Met.ofW (cc := cX18_isWork) (maxL := 2) (ret := (some .boolean)) (by decide) rfl ?_
  intro p e s m args below meth c s₁ B hml hv
  obtain ⟨rfl, hE, hP⟩ := hv
  have hx := B.exec
  have hb := B.bytes
  have hr := B.returns
  have hts0 := atoms_spec (ws := (wsp yX18_isWork cX18_isWork 2 (some .boolean))) B.pre
  have hts : ∀ w ∈ lw_all, w.before _ s = true := fun w h => hts0 w (List.mem_cons_of_mem _ h)
  have hown : s.vm.findClass "TheatrehouseModel" = some m.cls := findClass_of_methodNamed B.named
  have hlocks := B.notSynchronized
  have hK := hE.K
  have hS : va_S nA s.heap s.heap [] := va_S.rf
  have hP : va_P D classes [(mm, .inr (9, [.ref b0, .ref b1, .ref b2, .ref b3, .int 0, .null, .null, .ref b4, .null, .ref b5, .ref b6, .int 0, .int 0, .long 0, .int 0])), (b0, .inr (10, [.int 0, .ref (g 4), .int 0])), (b1, .inr (10, [.int 0, .ref (g 4), .int 0])), (b2, .inr (10, [.int 0, .ref (g 4), .int 0])), (b3, .inr (11, [.null, .null, .null, .null, .int 0, .int 0, .null, .null, .null]))] s.heap := hP
  have hl := lv_entry ([.ref mm, .int p0]) (n := 2) (Nat.le_of_ble_eq_true rfl)
  rw [lg_entry_eq]
  generalize (lg_sl ([.ref mm, .int p0]) ++ List.replicate (2 - (lg_sl ([.ref mm, .int p0])).length) Slot.unset).toArray = ls at hl ⊢
  have hl : lv_has ls 2 [(0, .ref mm), (1, .int p0)] := hl
  refine lv_iload_n hx hb dX18_isWork_0 rfl (lv_at hl 1 rfl) ?_
  refine lv_i2l (v := (Int32.toInt64 p0)) hx hb dX18_isWork_1 rfl ?_
  refine lv_lconst (v := 0) hx hb dX18_isWork_2 (by decide) ?_
  refine lv_aload_n hx hb dX18_isWork_3 rfl (lv_at hl 0 rfl) ?_
  refine va_get (D := D) (ci := 9) (v := .ref b2) (C := RX18) (T := TX18) (N := 15) hx hb hts i_X18 hown hK hP 0 rfl rfl 2 (by decide) (hts _ m_1183) (fun _ h9 => h9) rfl dX18_isWork_4 ?_
  have hc_1 := hP.sub (ws' := [(b2, .inr (10, [.int 0, .ref (g 4), .int 0]))]) [3] rfl
  refine va_callFi (va_runF (hK.1 10 _ rfl).2 (As := []) (rest := [.long 0, .long (Int32.toInt64 p0)]) ⟨hx, hb, hml, hown, hts⟩ (c_AL_size l z0 D g b2) (va_cwF 0 hts (lw_F m_1243 m_1247 m_1249 m_15 m_1251) rfl rfl rfl (hE.fw (i := 0) rfl) (by decide +kernel) ⟨(Nat.le_of_ble_eq_true rfl), (Nat.le_of_ble_eq_true rfl)⟩) ⟨PR.blind, va_recv hK hP (ci := 10) (q0 := 3) rfl rfl, PR.pre hE hS nA_z hc_1⟩ rfl rfl hl.1 rfl (lv_room (Nat.le_of_ble_eq_true rfl)) dX18_isWork_7 ⟨(Nat.le_of_ble_eq_true rfl), (Nat.le_of_ble_eq_true rfl)⟩) hS nA_B nA_A (fun r_2 u_3 t H locs ht hvm hw hB hz1 hk1 hS => ?_)
  have hP := hP.old hk1
  have hP : va_P D classes [(mm, .inr (9, [.ref b0, .ref b1, .ref b2, .ref b3, .int 0, .null, .null, .ref b4, .null, .ref b5, .ref b6, .int 0, .int 0, .long 0, .int 0])), (b0, .inr (10, [.int 0, .ref (g 4), .int 0])), (b1, .inr (10, [.int 0, .ref (g 4), .int 0])), (b2, .inr (10, [.int 0, .ref (g 4), .int 0])), (b3, .inr (11, [.null, .null, .null, .null, .int 0, .int 0, .null, .null, .null]))] H := hP
  subst hw
  refine lv_iconst (v := 1) hx hb dX18_isWork_12 (by decide) ?_
  refine lv_isub hx hb dX18_isWork_13 ?_
  rw [show (0 - 1 : Int32) = (-1) by decide]
  refine lv_i2l (v := (-1)) hx hb dX18_isWork_14 (by decide) ?_
  refine va_calli (va_runS (As := [.long (Int32.toInt64 p0), .long 0, .long (-1)]) (rest := []) ⟨hx, hb, hml, hown, hts⟩ (c_in_f l z0 D g (Int32.toInt64 p0) 0 (-1) (neg_or _)) (va_cwS 3 hts (lw_S m_1238 m_1239 m_12 m_1240) rfl rfl rfl (by decide +kernel) ⟨(Nat.le_of_ble_eq_true rfl), (Nat.le_of_ble_eq_true rfl)⟩) ⟨fun _ _ _ _ h => h, fun U _ _ => ⟨rfl, trivial⟩⟩ rfl rfl hl.1 rfl (lv_room (Nat.le_of_ble_eq_true rfl)) dX18_isWork_15 ⟨(Nat.le_of_ble_eq_true rfl), (Nat.le_of_ble_eq_true rfl)⟩) hS nA_B nA_A (fun r_5 u_6 t H locs ht hvm hw hB hz1 hk1 hS => ?_)
  have hP := hP.old hk1
  have hP : va_P D classes [(mm, .inr (9, [.ref b0, .ref b1, .ref b2, .ref b3, .int 0, .null, .null, .ref b4, .null, .ref b5, .ref b6, .int 0, .int 0, .long 0, .int 0])), (b0, .inr (10, [.int 0, .ref (g 4), .int 0])), (b1, .inr (10, [.int 0, .ref (g 4), .int 0])), (b2, .inr (10, [.int 0, .ref (g 4), .int 0])), (b3, .inr (11, [.null, .null, .null, .null, .int 0, .int 0, .null, .null, .null]))] H := hP
  subst hw
  refine W.widen (k := 0) (n := 0) (Nat.le_of_ble_eq_true rfl) (Nat.le_of_ble_eq_true rfl) ?_
  exact W.zret (v := 0) hx hb hr (by decide) (fun t ht hW => ⟨⟨0, (), rfl, rfl, trivial⟩, hS.F ht⟩) hS.2.2 dX18_isWork_18

set_option maxHeartbeats 4000000 in
set_option maxRecDepth 100000 in
theorem c_X18_isOn (l : Launch) (z0 : Nat) (D : va_G) (g : Nat → Nat) (sz : Nat) (mm b0 b1 b2 b3 b4 b5 b6 : Nat) (p0 : Int32) : Met l yX18_isOn (wsp yX18_isOn cX18_isOn 2 (some .boolean)) ({ frames := 0, cells := 0, slots := 0, locals := 0 }) (va_Pc [.ref mm, .int p0] (PM z0 D g sz [(mm, .inr (9, [.ref b0, .ref b1, .ref b2, .ref b3, .int 0, .null, .null, .ref b4, .null, .ref b5, .ref b6, .int 0, .int 0, .long 0, .int 0])), (b0, .inr (10, [.int 0, .ref (g 4), .int 0])), (b1, .inr (10, [.int 0, .ref (g 4), .int 0])), (b2, .inr (10, [.int 0, .ref (g 4), .int 0])), (b3, .inr (11, [.null, .null, .null, .null, .int 0, .int 0, .null, .null, .null]))])) (va_Qi (fun (r : Int32) (_ : Unit) => r = 0) (fun (_ : Unit) t => va_P D classes [(mm, .inr (9, [.ref b0, .ref b1, .ref b2, .ref b3, .int 0, .null, .null, .ref b4, .null, .ref b5, .ref b6, .int 0, .int 0, .long 0, .int 1])), (b0, .inr (10, [.int 0, .ref (g 4), .int 0])), (b1, .inr (10, [.int 0, .ref (g 4), .int 0])), (b2, .inr (10, [.int 0, .ref (g 4), .int 0])), (b3, .inr (11, [.null, .null, .null, .null, .int 0, .int 0, .null, .null, .null]))] t.heap ∧ va_D (va_A [(mm, .inr (9, [.ref b0, .ref b1, .ref b2, .ref b3, .int 0, .null, .null, .ref b4, .null, .ref b5, .ref b6, .int 0, .int 0, .long 0, .int 0])), (b0, .inr (10, [.int 0, .ref (g 4), .int 0])), (b1, .inr (10, [.int 0, .ref (g 4), .int 0])), (b2, .inr (10, [.int 0, .ref (g 4), .int 0])), (b3, .inr (11, [.null, .null, .null, .null, .int 0, .int 0, .null, .null, .null]))] sz) [(mm, .inr (9, [.ref b0, .ref b1, .ref b2, .ref b3, .int 0, .null, .null, .ref b4, .null, .ref b5, .ref b6, .int 0, .int 0, .long 0, .int 1])), (b0, .inr (10, [.int 0, .ref (g 4), .int 0])), (b1, .inr (10, [.int 0, .ref (g 4), .int 0])), (b2, .inr (10, [.int 0, .ref (g 4), .int 0])), (b3, .inr (11, [.null, .null, .null, .null, .int 0, .int 0, .null, .null, .null]))]) (va_A [(mm, .inr (9, [.ref b0, .ref b1, .ref b2, .ref b3, .int 0, .null, .null, .ref b4, .null, .ref b5, .ref b6, .int 0, .int 0, .long 0, .int 0])), (b0, .inr (10, [.int 0, .ref (g 4), .int 0])), (b1, .inr (10, [.int 0, .ref (g 4), .int 0])), (b2, .inr (10, [.int 0, .ref (g 4), .int 0])), (b3, .inr (11, [.null, .null, .null, .null, .int 0, .int 0, .null, .null, .null]))] sz)) 0 0 (va_A [(mm, .inr (9, [.ref b0, .ref b1, .ref b2, .ref b3, .int 0, .null, .null, .ref b4, .null, .ref b5, .ref b6, .int 0, .int 0, .long 0, .int 0])), (b0, .inr (10, [.int 0, .ref (g 4), .int 0])), (b1, .inr (10, [.int 0, .ref (g 4), .int 0])), (b2, .inr (10, [.int 0, .ref (g 4), .int 0])), (b3, .inr (11, [.null, .null, .null, .null, .int 0, .int 0, .null, .null, .null]))] sz) := by
  refine Met.ofW (cc := cX18_isOn) (maxL := 2) (ret := (some .boolean)) (by decide) rfl ?_
  intro p e s m args below meth c s₁ B hml hv
  obtain ⟨rfl, hsz9, hz0, hE, hP, hD0⟩ := hv
  have hx := B.exec
  have hb := B.bytes
  have hr := B.returns
  have hts0 := atoms_spec (ws := (wsp yX18_isOn cX18_isOn 2 (some .boolean))) B.pre
  have hts : ∀ w ∈ lw_all, w.before _ s = true := fun w h => hts0 w (List.mem_cons_of_mem _ h)
  have hown : s.vm.findClass "TheatrehouseModel" = some m.cls := findClass_of_methodNamed B.named
  have hlocks := B.notSynchronized
  have hK := hE.K
  subst hsz9
  have hsz := hz0
  have hAz : ∀ q, va_A [(mm, .inr (9, [.ref b0, .ref b1, .ref b2, .ref b3, .int 0, .null, .null, .ref b4, .null, .ref b5, .ref b6, .int 0, .int 0, .long 0, .int 0])), (b0, .inr (10, [.int 0, .ref (g 4), .int 0])), (b1, .inr (10, [.int 0, .ref (g 4), .int 0])), (b2, .inr (10, [.int 0, .ref (g 4), .int 0])), (b3, .inr (11, [.null, .null, .null, .null, .int 0, .int 0, .null, .null, .null]))] s.heap.size q → z0 ≤ q := vaA_z hz0 hD0
  have hD := hD0.self (sz := s.heap.size)
  generalize hAe : va_A [(mm, .inr (9, [.ref b0, .ref b1, .ref b2, .ref b3, .int 0, .null, .null, .ref b4, .null, .ref b5, .ref b6, .int 0, .int 0, .long 0, .int 0])), (b0, .inr (10, [.int 0, .ref (g 4), .int 0])), (b1, .inr (10, [.int 0, .ref (g 4), .int 0])), (b2, .inr (10, [.int 0, .ref (g 4), .int 0])), (b3, .inr (11, [.null, .null, .null, .null, .int 0, .int 0, .null, .null, .null]))] s.heap.size = A at hD hAz ⊢
  have hA : ∀ q : Nat, s.heap.size ≤ q → A q := fun q h => by rw [← hAe]; exact Or.inr h
  have hS : va_S A s.heap s.heap [] := va_S.rf
  have hP : va_P D classes [(mm, .inr (9, [.ref b0, .ref b1, .ref b2, .ref b3, .int 0, .null, .null, .ref b4, .null, .ref b5, .ref b6, .int 0, .int 0, .long 0, .int 0])), (b0, .inr (10, [.int 0, .ref (g 4), .int 0])), (b1, .inr (10, [.int 0, .ref (g 4), .int 0])), (b2, .inr (10, [.int 0, .ref (g 4), .int 0])), (b3, .inr (11, [.null, .null, .null, .null, .int 0, .int 0, .null, .null, .null]))] s.heap := hP
  have hl := lv_entry ([.ref mm, .int p0]) (n := 2) (Nat.le_of_ble_eq_true rfl)
  rw [lg_entry_eq]
  generalize (lg_sl ([.ref mm, .int p0]) ++ List.replicate (2 - (lg_sl ([.ref mm, .int p0])).length) Slot.unset).toArray = ls at hl ⊢
  have hl : lv_has ls 2 [(0, .ref mm), (1, .int p0)] := hl
  refine lv_aload_n hx hb dX18_isOn_0 rfl (lv_at hl 0 rfl) ?_
  refine lv_aload_n hx hb dX18_isOn_1 rfl (lv_at hl 0 rfl) ?_
  refine va_get (D := D) (ci := 9) (v := .null) (C := RX18) (T := TX18) (N := 15) hx hb hts i_X18 hown hK hP 0 rfl rfl 5 (by decide) (hts _ m_1186) (fun _ h9 => h9) rfl dX18_isOn_2 ?_
  refine lv_ifnonnullN hx hb dX18_isOn_5 ?_
  refine lv_iconst (v := 1) hx hb dX18_isOn_8 (by decide) ?_
  refine lv_goto (tgt := 41) hx hb dX18_isOn_9 (by decide) ?_
  refine va_put (D := D) (ci := 9) (v := .int 1) (ty := .int) (C := RX18) (T := TX18) (N := 15) hx hb hts i_X18 tyX18 tyX18_ok nmX18 hown hK hP hD hS 0 rfl rfl 14 (by decide) (hts _ m_1197) (fun _ h9 => h9) rfl (by decide +kernel) rfl rfl (Nat.le_of_ble_eq_true rfl) dX18_isOn_41 (fun H locs hP hD hS => ?_)
  have hP : va_P D classes [(mm, .inr (9, [.ref b0, .ref b1, .ref b2, .ref b3, .int 0, .null, .null, .ref b4, .null, .ref b5, .ref b6, .int 0, .int 0, .long 0, .int 1])), (b0, .inr (10, [.int 0, .ref (g 4), .int 0])), (b1, .inr (10, [.int 0, .ref (g 4), .int 0])), (b2, .inr (10, [.int 0, .ref (g 4), .int 0])), (b3, .inr (11, [.null, .null, .null, .null, .int 0, .int 0, .null, .null, .null]))] H := hP
  have hD : va_D A [(mm, .inr (9, [.ref b0, .ref b1, .ref b2, .ref b3, .int 0, .null, .null, .ref b4, .null, .ref b5, .ref b6, .int 0, .int 0, .long 0, .int 1])), (b0, .inr (10, [.int 0, .ref (g 4), .int 0])), (b1, .inr (10, [.int 0, .ref (g 4), .int 0])), (b2, .inr (10, [.int 0, .ref (g 4), .int 0])), (b3, .inr (11, [.null, .null, .null, .null, .int 0, .int 0, .null, .null, .null]))] := hD
  refine lv_aload_n hx hb dX18_isOn_44 rfl (lv_at hl 0 rfl) ?_
  refine va_get (D := D) (ci := 9) (v := .int 1) (C := RX18) (T := TX18) (N := 15) hx hb hts i_X18 hown hK hP 0 rfl rfl 14 (by decide) (hts _ m_1197) (fun _ h9 => h9) rfl dX18_isOn_45 ?_
  refine lv_if_ne (tgt := 55) hx hb dX18_isOn_48 (by decide) (fun _ => ?_) (fun h9 => absurd h9 (by decide))
  refine lv_iconst (v := 0) hx hb dX18_isOn_55 (by decide) ?_
  have hP9 := hP.sub (ws' := [(mm, .inr (9, [.ref b0, .ref b1, .ref b2, .ref b3, .int 0, .null, .null, .ref b4, .null, .ref b5, .ref b6, .int 0, .int 0, .long 0, .int 1])), (b0, .inr (10, [.int 0, .ref (g 4), .int 0])), (b1, .inr (10, [.int 0, .ref (g 4), .int 0])), (b2, .inr (10, [.int 0, .ref (g 4), .int 0])), (b3, .inr (11, [.null, .null, .null, .null, .int 0, .int 0, .null, .null, .null]))]) [0, 1, 2, 3, 4] rfl
  have hD9 := hD.sub (ws' := [(mm, .inr (9, [.ref b0, .ref b1, .ref b2, .ref b3, .int 0, .null, .null, .ref b4, .null, .ref b5, .ref b6, .int 0, .int 0, .long 0, .int 1])), (b0, .inr (10, [.int 0, .ref (g 4), .int 0])), (b1, .inr (10, [.int 0, .ref (g 4), .int 0])), (b2, .inr (10, [.int 0, .ref (g 4), .int 0])), (b3, .inr (11, [.null, .null, .null, .null, .int 0, .int 0, .null, .null, .null]))]) [0, 1, 2, 3, 4] (by decide) rfl
  refine W.widen (k := 0) (n := 0) (Nat.le_of_ble_eq_true rfl) (Nat.le_of_ble_eq_true rfl) ?_
  exact W.zret (v := 0) hx hb hr (by decide) (fun t ht hW => ⟨⟨0, (), rfl, rfl, by rw [ht]; exact hP9, hD9⟩, hS.F ht⟩) hS.2.2 dX18_isOn_56

set_option maxHeartbeats 4000000 in
set_option maxRecDepth 100000 in
theorem c_X18_levels (l : Launch) (z0 : Nat) (D : va_G) (g : Nat → Nat) (sz : Nat) (mm b0 b1 b2 b3 b4 b5 b6 : Nat) : Met l yX18_levels (wsp yX18_levels cX18_levels 2 (some (.object "TheatrehouseModel$Levels"))) ({ frames := 0, cells := 0, slots := 0, locals := 0 }) (va_Pc [.ref mm] (PM z0 D g sz [(mm, .inr (9, [.ref b0, .ref b1, .ref b2, .ref b3, .int 0, .null, .null, .ref b4, .null, .ref b5, .ref b6, .int 0, .int 0, .long 0, .int 0])), (b0, .inr (10, [.int 0, .ref (g 4), .int 0])), (b1, .inr (10, [.int 0, .ref (g 4), .int 0])), (b2, .inr (10, [.int 0, .ref (g 4), .int 0])), (b3, .inr (11, [.null, .null, .null, .null, .int 0, .int 0, .null, .null, .null]))])) (va_Qq (fun (r : Option Nat) (_ : Unit) => r = none) (fun (_ : Unit) t => va_P D classes [(mm, .inr (9, [.ref b0, .ref b1, .ref b2, .ref b3, .int 0, .null, .null, .ref b4, .null, .ref b5, .ref b6, .int 0, .int 0, .long 0, .int 1])), (b0, .inr (10, [.int 0, .ref (g 4), .int 0])), (b1, .inr (10, [.int 0, .ref (g 4), .int 0])), (b2, .inr (10, [.int 0, .ref (g 4), .int 0])), (b3, .inr (11, [.null, .null, .null, .null, .int 0, .int 0, .null, .null, .null]))] t.heap ∧ va_D (va_A [(mm, .inr (9, [.ref b0, .ref b1, .ref b2, .ref b3, .int 0, .null, .null, .ref b4, .null, .ref b5, .ref b6, .int 0, .int 0, .long 0, .int 0])), (b0, .inr (10, [.int 0, .ref (g 4), .int 0])), (b1, .inr (10, [.int 0, .ref (g 4), .int 0])), (b2, .inr (10, [.int 0, .ref (g 4), .int 0])), (b3, .inr (11, [.null, .null, .null, .null, .int 0, .int 0, .null, .null, .null]))] sz) [(mm, .inr (9, [.ref b0, .ref b1, .ref b2, .ref b3, .int 0, .null, .null, .ref b4, .null, .ref b5, .ref b6, .int 0, .int 0, .long 0, .int 1])), (b0, .inr (10, [.int 0, .ref (g 4), .int 0])), (b1, .inr (10, [.int 0, .ref (g 4), .int 0])), (b2, .inr (10, [.int 0, .ref (g 4), .int 0])), (b3, .inr (11, [.null, .null, .null, .null, .int 0, .int 0, .null, .null, .null]))]) (va_A [(mm, .inr (9, [.ref b0, .ref b1, .ref b2, .ref b3, .int 0, .null, .null, .ref b4, .null, .ref b5, .ref b6, .int 0, .int 0, .long 0, .int 0])), (b0, .inr (10, [.int 0, .ref (g 4), .int 0])), (b1, .inr (10, [.int 0, .ref (g 4), .int 0])), (b2, .inr (10, [.int 0, .ref (g 4), .int 0])), (b3, .inr (11, [.null, .null, .null, .null, .int 0, .int 0, .null, .null, .null]))] sz)) 0 0 (va_A [(mm, .inr (9, [.ref b0, .ref b1, .ref b2, .ref b3, .int 0, .null, .null, .ref b4, .null, .ref b5, .ref b6, .int 0, .int 0, .long 0, .int 0])), (b0, .inr (10, [.int 0, .ref (g 4), .int 0])), (b1, .inr (10, [.int 0, .ref (g 4), .int 0])), (b2, .inr (10, [.int 0, .ref (g 4), .int 0])), (b3, .inr (11, [.null, .null, .null, .null, .int 0, .int 0, .null, .null, .null]))] sz) := by
  refine Met.ofW (cc := cX18_levels) (maxL := 2) (ret := (some (.object "TheatrehouseModel$Levels"))) (by decide) rfl ?_
  intro p e s m args below meth c s₁ B hml hv
  obtain ⟨rfl, hsz9, hz0, hE, hP, hD0⟩ := hv
  have hx := B.exec
  have hb := B.bytes
  have hr := B.returns
  have hts0 := atoms_spec (ws := (wsp yX18_levels cX18_levels 2 (some (.object "TheatrehouseModel$Levels")))) B.pre
  have hts : ∀ w ∈ lw_all, w.before _ s = true := fun w h => hts0 w (List.mem_cons_of_mem _ h)
  have hown : s.vm.findClass "TheatrehouseModel" = some m.cls := findClass_of_methodNamed B.named
  have hlocks := B.notSynchronized
  have hK := hE.K
  subst hsz9
  have hsz := hz0
  have hAz : ∀ q, va_A [(mm, .inr (9, [.ref b0, .ref b1, .ref b2, .ref b3, .int 0, .null, .null, .ref b4, .null, .ref b5, .ref b6, .int 0, .int 0, .long 0, .int 0])), (b0, .inr (10, [.int 0, .ref (g 4), .int 0])), (b1, .inr (10, [.int 0, .ref (g 4), .int 0])), (b2, .inr (10, [.int 0, .ref (g 4), .int 0])), (b3, .inr (11, [.null, .null, .null, .null, .int 0, .int 0, .null, .null, .null]))] s.heap.size q → z0 ≤ q := vaA_z hz0 hD0
  have hD := hD0.self (sz := s.heap.size)
  generalize hAe : va_A [(mm, .inr (9, [.ref b0, .ref b1, .ref b2, .ref b3, .int 0, .null, .null, .ref b4, .null, .ref b5, .ref b6, .int 0, .int 0, .long 0, .int 0])), (b0, .inr (10, [.int 0, .ref (g 4), .int 0])), (b1, .inr (10, [.int 0, .ref (g 4), .int 0])), (b2, .inr (10, [.int 0, .ref (g 4), .int 0])), (b3, .inr (11, [.null, .null, .null, .null, .int 0, .int 0, .null, .null, .null]))] s.heap.size = A at hD hAz ⊢
  have hA : ∀ q : Nat, s.heap.size ≤ q → A q := fun q h => by rw [← hAe]; exact Or.inr h
  have hS : va_S A s.heap s.heap [] := va_S.rf
  have hP : va_P D classes [(mm, .inr (9, [.ref b0, .ref b1, .ref b2, .ref b3, .int 0, .null, .null, .ref b4, .null, .ref b5, .ref b6, .int 0, .int 0, .long 0, .int 0])), (b0, .inr (10, [.int 0, .ref (g 4), .int 0])), (b1, .inr (10, [.int 0, .ref (g 4), .int 0])), (b2, .inr (10, [.int 0, .ref (g 4), .int 0])), (b3, .inr (11, [.null, .null, .null, .null, .int 0, .int 0, .null, .null, .null]))] s.heap := hP
  have hl := lv_entry ([.ref mm]) (n := 2) (Nat.le_of_ble_eq_true rfl)
  rw [lg_entry_eq]
  generalize (lg_sl ([.ref mm]) ++ List.replicate (2 - (lg_sl ([.ref mm])).length) Slot.unset).toArray = ls at hl ⊢
  have hl : lv_has ls 2 [(0, .ref mm)] := hl
  refine lv_aload_n hx hb dX18_levels_0 rfl (lv_at hl 0 rfl) ?_
  refine lv_aload_n hx hb dX18_levels_1 rfl (lv_at hl 0 rfl) ?_
  refine va_get (D := D) (ci := 9) (v := .null) (C := RX18) (T := TX18) (N := 15) hx hb hts i_X18 hown hK hP 0 rfl rfl 5 (by decide) (hts _ m_1186) (fun _ h9 => h9) rfl dX18_levels_2 ?_
  refine lv_ifnonnullN hx hb dX18_levels_5 ?_
  refine lv_iconst (v := 1) hx hb dX18_levels_8 (by decide) ?_
  refine lv_goto (tgt := 13) hx hb dX18_levels_9 (by decide) ?_
  refine va_put (D := D) (ci := 9) (v := .int 1) (ty := .int) (C := RX18) (T := TX18) (N := 15) hx hb hts i_X18 tyX18 tyX18_ok nmX18 hown hK hP hD hS 0 rfl rfl 14 (by decide) (hts _ m_1197) (fun _ h9 => h9) rfl (by decide +kernel) rfl rfl (Nat.le_of_ble_eq_true rfl) dX18_levels_13 (fun H locs hP hD hS => ?_)
  have hP : va_P D classes [(mm, .inr (9, [.ref b0, .ref b1, .ref b2, .ref b3, .int 0, .null, .null, .ref b4, .null, .ref b5, .ref b6, .int 0, .int 0, .long 0, .int 1])), (b0, .inr (10, [.int 0, .ref (g 4), .int 0])), (b1, .inr (10, [.int 0, .ref (g 4), .int 0])), (b2, .inr (10, [.int 0, .ref (g 4), .int 0])), (b3, .inr (11, [.null, .null, .null, .null, .int 0, .int 0, .null, .null, .null]))] H := hP
  have hD : va_D A [(mm, .inr (9, [.ref b0, .ref b1, .ref b2, .ref b3, .int 0, .null, .null, .ref b4, .null, .ref b5, .ref b6, .int 0, .int 0, .long 0, .int 1])), (b0, .inr (10, [.int 0, .ref (g 4), .int 0])), (b1, .inr (10, [.int 0, .ref (g 4), .int 0])), (b2, .inr (10, [.int 0, .ref (g 4), .int 0])), (b3, .inr (11, [.null, .null, .null, .null, .int 0, .int 0, .null, .null, .null]))] := hD
  refine lv_aload_n hx hb dX18_levels_16 rfl (lv_at hl 0 rfl) ?_
  refine va_get (D := D) (ci := 9) (v := .int 1) (C := RX18) (T := TX18) (N := 15) hx hb hts i_X18 hown hK hP 0 rfl rfl 14 (by decide) (hts _ m_1197) (fun _ h9 => h9) rfl dX18_levels_17 ?_
  refine lv_if_le (tgt := 25) hx hb dX18_levels_20 (by decide) (fun h9 => absurd h9 (by decide)) (fun _ => ?_)
  refine lv_null hx hb dX18_levels_23 ?_
  have hP9 := hP.sub (ws' := [(mm, .inr (9, [.ref b0, .ref b1, .ref b2, .ref b3, .int 0, .null, .null, .ref b4, .null, .ref b5, .ref b6, .int 0, .int 0, .long 0, .int 1])), (b0, .inr (10, [.int 0, .ref (g 4), .int 0])), (b1, .inr (10, [.int 0, .ref (g 4), .int 0])), (b2, .inr (10, [.int 0, .ref (g 4), .int 0])), (b3, .inr (11, [.null, .null, .null, .null, .int 0, .int 0, .null, .null, .null]))]) [0, 1, 2, 3, 4] rfl
  have hD9 := hD.sub (ws' := [(mm, .inr (9, [.ref b0, .ref b1, .ref b2, .ref b3, .int 0, .null, .null, .ref b4, .null, .ref b5, .ref b6, .int 0, .int 0, .long 0, .int 1])), (b0, .inr (10, [.int 0, .ref (g 4), .int 0])), (b1, .inr (10, [.int 0, .ref (g 4), .int 0])), (b2, .inr (10, [.int 0, .ref (g 4), .int 0])), (b3, .inr (11, [.null, .null, .null, .null, .int 0, .int 0, .null, .null, .null]))]) [0, 1, 2, 3, 4] (by decide) rfl
  refine W.widen (k := 0) (n := 0) (Nat.le_of_ble_eq_true rfl) (Nat.le_of_ble_eq_true rfl) ?_
  exact W.aret (v := .null) hx hb hr (Or.inl ⟨_, rfl⟩) (Or.inl rfl) (fun t ht hW => ⟨⟨none, (), rfl, rfl, by rw [ht]; exact hP9, hD9⟩, hS.F ht⟩) hS.2.2 dX18_levels_24
