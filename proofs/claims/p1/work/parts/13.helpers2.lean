theorem dL_addMachine_0 : decode cL_addMachine 0 = .ok (.aload_n 3, 1) := by decide +kernel
theorem dL_addMachine_1 : decode cL_addMachine 1 = .ok (.iconst 0, 1) := by decide +kernel
theorem dL_addMachine_2 : decode cL_addMachine 2 = .ok (.aload_n 0, 1) := by decide +kernel
theorem dL_addMachine_3 : decode cL_addMachine 3 = .ok (.iload_n 1, 1) := by decide +kernel
theorem dL_addMachine_4 : decode cL_addMachine 4 = .ok (.iload_n 2, 1) := by decide +kernel
theorem dL_addMachine_5 : decode cL_addMachine 5 = .ok (.invokevirtual 25, 3) := by decide +kernel
theorem dL_addMachine_8 : decode cL_addMachine 8 = .ok (.i2l, 1) := by decide +kernel
theorem dL_addMachine_9 : decode cL_addMachine 9 = .ok (.lastore, 1) := by decide +kernel
theorem dL_addMachine_10 : decode cL_addMachine 10 = .ok (.goto 11, 3) := by decide +kernel
theorem dL_addMachine_13 : decode cL_addMachine 13 = .ok (.astore 4, 2) := by decide +kernel
theorem dL_addMachine_15 : decode cL_addMachine 15 = .ok (.iconst 1, 1) := by decide +kernel
theorem dL_addMachine_16 : decode cL_addMachine 16 = .ok (.ireturn, 1) := by decide +kernel
theorem dL_addMachine_21 : decode cL_addMachine 21 = .ok (.iconst 0, 1) := by decide +kernel
theorem dL_addMachine_22 : decode cL_addMachine 22 = .ok (.ireturn, 1) := by decide +kernel
theorem dL_addPerson_0 : decode cL_addPerson 0 = .ok (.aload_n 3, 1) := by decide +kernel
theorem dL_addPerson_1 : decode cL_addPerson 1 = .ok (.iconst 0, 1) := by decide +kernel
theorem dL_addPerson_2 : decode cL_addPerson 2 = .ok (.aload_n 0, 1) := by decide +kernel
theorem dL_addPerson_3 : decode cL_addPerson 3 = .ok (.iload_n 1, 1) := by decide +kernel
theorem dL_addPerson_4 : decode cL_addPerson 4 = .ok (.iload_n 2, 1) := by decide +kernel
theorem dL_addPerson_5 : decode cL_addPerson 5 = .ok (.invokevirtual 7, 3) := by decide +kernel
theorem dL_addPerson_8 : decode cL_addPerson 8 = .ok (.i2l, 1) := by decide +kernel
theorem dL_addPerson_9 : decode cL_addPerson 9 = .ok (.lastore, 1) := by decide +kernel
theorem dL_addPerson_10 : decode cL_addPerson 10 = .ok (.goto 11, 3) := by decide +kernel
theorem dL_addPerson_13 : decode cL_addPerson 13 = .ok (.astore 4, 2) := by decide +kernel
theorem dL_addPerson_15 : decode cL_addPerson 15 = .ok (.iconst 1, 1) := by decide +kernel
theorem dL_addPerson_16 : decode cL_addPerson 16 = .ok (.ireturn, 1) := by decide +kernel
theorem dL_addPerson_21 : decode cL_addPerson 21 = .ok (.iconst 0, 1) := by decide +kernel
theorem dL_addPerson_22 : decode cL_addPerson 22 = .ok (.ireturn, 1) := by decide +kernel
theorem dL_addWork_0 : decode cL_addWork 0 = .ok (.aload_n 3, 1) := by decide +kernel
theorem dL_addWork_1 : decode cL_addWork 1 = .ok (.iconst 0, 1) := by decide +kernel
theorem dL_addWork_2 : decode cL_addWork 2 = .ok (.aload_n 0, 1) := by decide +kernel
theorem dL_addWork_3 : decode cL_addWork 3 = .ok (.iload_n 1, 1) := by decide +kernel
theorem dL_addWork_4 : decode cL_addWork 4 = .ok (.iload_n 2, 1) := by decide +kernel
theorem dL_addWork_5 : decode cL_addWork 5 = .ok (.invokevirtual 32, 3) := by decide +kernel
theorem dL_addWork_8 : decode cL_addWork 8 = .ok (.i2l, 1) := by decide +kernel
theorem dL_addWork_9 : decode cL_addWork 9 = .ok (.lastore, 1) := by decide +kernel
theorem dL_addWork_10 : decode cL_addWork 10 = .ok (.goto 11, 3) := by decide +kernel
theorem dL_addWork_13 : decode cL_addWork 13 = .ok (.astore 4, 2) := by decide +kernel
theorem dL_addWork_15 : decode cL_addWork 15 = .ok (.iconst 1, 1) := by decide +kernel
theorem dL_addWork_16 : decode cL_addWork 16 = .ok (.ireturn, 1) := by decide +kernel
theorem dL_addWork_21 : decode cL_addWork 21 = .ok (.iconst 0, 1) := by decide +kernel
theorem dL_addWork_22 : decode cL_addWork 22 = .ok (.ireturn, 1) := by decide +kernel
theorem dL_begin_0 : decode cL_begin 0 = .ok (.aload_n 1, 1) := by decide +kernel
theorem dL_begin_1 : decode cL_begin 1 = .ok (.iconst 0, 1) := by decide +kernel
theorem dL_begin_2 : decode cL_begin 2 = .ok (.aload_n 0, 1) := by decide +kernel
theorem dL_begin_3 : decode cL_begin 3 = .ok (.invokevirtual 60, 3) := by decide +kernel
theorem dL_begin_14 : decode cL_begin 14 = .ok (.astore_n 2, 1) := by decide +kernel
theorem dL_begin_15 : decode cL_begin 15 = .ok (.iconst 2, 1) := by decide +kernel
theorem dL_begin_16 : decode cL_begin 16 = .ok (.ireturn, 1) := by decide +kernel
theorem dL_pass_0 : decode cL_pass 0 = .ok (.aload_n 2, 1) := by decide +kernel
theorem dL_pass_1 : decode cL_pass 1 = .ok (.iconst 0, 1) := by decide +kernel
theorem dL_pass_2 : decode cL_pass 2 = .ok (.aload_n 0, 1) := by decide +kernel
theorem dL_pass_3 : decode cL_pass 3 = .ok (.iload_n 1, 1) := by decide +kernel
theorem dL_pass_4 : decode cL_pass 4 = .ok (.invokevirtual 57, 3) := by decide +kernel
theorem dL_pass_7 : decode cL_pass 7 = .ok (.i2l, 1) := by decide +kernel
theorem dL_pass_8 : decode cL_pass 8 = .ok (.lastore, 1) := by decide +kernel
theorem dL_pass_9 : decode cL_pass 9 = .ok (.goto 9, 3) := by decide +kernel
theorem dL_pass_12 : decode cL_pass 12 = .ok (.astore_n 3, 1) := by decide +kernel
theorem dL_pass_13 : decode cL_pass 13 = .ok (.iconst 1, 1) := by decide +kernel
theorem dL_pass_14 : decode cL_pass 14 = .ok (.ireturn, 1) := by decide +kernel
theorem dL_pass_18 : decode cL_pass 18 = .ok (.iconst 0, 1) := by decide +kernel
theorem dL_pass_19 : decode cL_pass 19 = .ok (.ireturn, 1) := by decide +kernel
theorem dL_sell_0 : decode cL_sell 0 = .ok (.aload_n 3, 1) := by decide +kernel
theorem dL_sell_1 : decode cL_sell 1 = .ok (.iconst 0, 1) := by decide +kernel
theorem dL_sell_2 : decode cL_sell 2 = .ok (.aload_n 0, 1) := by decide +kernel
theorem dL_sell_3 : decode cL_sell 3 = .ok (.iload_n 1, 1) := by decide +kernel
theorem dL_sell_4 : decode cL_sell 4 = .ok (.iload_n 2, 1) := by decide +kernel
theorem dL_sell_5 : decode cL_sell 5 = .ok (.invokevirtual 52, 3) := by decide +kernel
theorem dL_sell_13 : decode cL_sell 13 = .ok (.astore 4, 2) := by decide +kernel
theorem dL_sell_15 : decode cL_sell 15 = .ok (.iconst 1, 1) := by decide +kernel
theorem dL_sell_16 : decode cL_sell 16 = .ok (.ireturn, 1) := by decide +kernel
theorem dL_sell_17 : decode cL_sell 17 = .ok (.astore 4, 2) := by decide +kernel
theorem dL_sell_19 : decode cL_sell 19 = .ok (.iconst 2, 1) := by decide +kernel
theorem dL_sell_20 : decode cL_sell 20 = .ok (.ireturn, 1) := by decide +kernel
theorem dL_soldShare_0 : decode cL_soldShare 0 = .ok (.aload_n 1, 1) := by decide +kernel
theorem dL_soldShare_1 : decode cL_soldShare 1 = .ok (.iconst 0, 1) := by decide +kernel
theorem dL_soldShare_2 : decode cL_soldShare 2 = .ok (.aload_n 0, 1) := by decide +kernel
theorem dL_soldShare_3 : decode cL_soldShare 3 = .ok (.invokevirtual 118, 3) := by decide +kernel
theorem dL_soldShare_11 : decode cL_soldShare 11 = .ok (.astore_n 2, 1) := by decide +kernel
theorem dL_soldShare_12 : decode cL_soldShare 12 = .ok (.iconst 1, 1) := by decide +kernel
theorem dL_soldShare_13 : decode cL_soldShare 13 = .ok (.ireturn, 1) := by decide +kernel
theorem m_551 : (Cond.classLink "TheatrehouseLaw" 13 "java/lang/IllegalArgumentException") ∈ lw_all := lw_in 551 (by decide +kernel) (by decide +kernel)
theorem m_553 : (Cond.methodLink "TheatrehouseLaw" 7 ⟨"Theatrehouse", "addPerson", "(II)I"⟩) ∈ lw_all := lw_in 553 (by decide +kernel) (by decide +kernel)
theorem m_554 : (Cond.instanceMethod ⟨"Theatrehouse", "addPerson", "(II)I"⟩) ∈ lw_all := lw_in 554 (by decide +kernel) (by decide +kernel)
theorem m_555 : (Cond.selects "Theatrehouse" ⟨"Theatrehouse", "addPerson", "(II)I"⟩ ⟨"Theatrehouse", "addPerson", "(II)I"⟩) ∈ lw_all := lw_in 555 (by decide +kernel) (by decide +kernel)
theorem m_556 : (Cond.code ⟨"Theatrehouse", "addPerson", "(II)I"⟩ prog_1_method_2_code 4 (Option.some Jvm.ClassFile.FieldType.int)) ∈ lw_all := lw_in 556 (by decide +kernel) (by decide +kernel)
theorem m_722 : (Cond.methodLink "TheatrehouseLaw" 25 ⟨"Theatrehouse", "addMachine", "(II)I"⟩) ∈ lw_all := lw_in 722 (by decide +kernel) (by decide +kernel)
theorem m_723 : (Cond.instanceMethod ⟨"Theatrehouse", "addMachine", "(II)I"⟩) ∈ lw_all := lw_in 723 (by decide +kernel) (by decide +kernel)
theorem m_724 : (Cond.selects "Theatrehouse" ⟨"Theatrehouse", "addMachine", "(II)I"⟩ ⟨"Theatrehouse", "addMachine", "(II)I"⟩) ∈ lw_all := lw_in 724 (by decide +kernel) (by decide +kernel)
theorem m_725 : (Cond.code ⟨"Theatrehouse", "addMachine", "(II)I"⟩ prog_1_method_5_code 4 (Option.some Jvm.ClassFile.FieldType.int)) ∈ lw_all := lw_in 725 (by decide +kernel) (by decide +kernel)
theorem m_741 : (Cond.methodLink "TheatrehouseLaw" 32 ⟨"Theatrehouse", "addWork", "(II)I"⟩) ∈ lw_all := lw_in 741 (by decide +kernel) (by decide +kernel)
theorem m_742 : (Cond.instanceMethod ⟨"Theatrehouse", "addWork", "(II)I"⟩) ∈ lw_all := lw_in 742 (by decide +kernel) (by decide +kernel)
theorem m_743 : (Cond.selects "Theatrehouse" ⟨"Theatrehouse", "addWork", "(II)I"⟩ ⟨"Theatrehouse", "addWork", "(II)I"⟩) ∈ lw_all := lw_in 743 (by decide +kernel) (by decide +kernel)
theorem m_744 : (Cond.code ⟨"Theatrehouse", "addWork", "(II)I"⟩ prog_1_method_7_code 4 (Option.some Jvm.ClassFile.FieldType.int)) ∈ lw_all := lw_in 744 (by decide +kernel) (by decide +kernel)
theorem m_824 : (Cond.classLink "TheatrehouseLaw" 55 "java/util/NoSuchElementException") ∈ lw_all := lw_in 824 (by decide +kernel) (by decide +kernel)
theorem m_825 : (Cond.methodLink "TheatrehouseLaw" 52 ⟨"Theatrehouse", "sell", "(II)I"⟩) ∈ lw_all := lw_in 825 (by decide +kernel) (by decide +kernel)
theorem m_826 : (Cond.instanceMethod ⟨"Theatrehouse", "sell", "(II)I"⟩) ∈ lw_all := lw_in 826 (by decide +kernel) (by decide +kernel)
theorem m_827 : (Cond.selects "Theatrehouse" ⟨"Theatrehouse", "sell", "(II)I"⟩ ⟨"Theatrehouse", "sell", "(II)I"⟩) ∈ lw_all := lw_in 827 (by decide +kernel) (by decide +kernel)
theorem m_828 : (Cond.code ⟨"Theatrehouse", "sell", "(II)I"⟩ prog_1_method_12_code 6 (Option.some Jvm.ClassFile.FieldType.int)) ∈ lw_all := lw_in 828 (by decide +kernel) (by decide +kernel)
theorem m_855 : (Cond.methodLink "TheatrehouseLaw" 57 ⟨"Theatrehouse", "pass", "(I)I"⟩) ∈ lw_all := lw_in 855 (by decide +kernel) (by decide +kernel)
theorem m_856 : (Cond.instanceMethod ⟨"Theatrehouse", "pass", "(I)I"⟩) ∈ lw_all := lw_in 856 (by decide +kernel) (by decide +kernel)
theorem m_857 : (Cond.selects "Theatrehouse" ⟨"Theatrehouse", "pass", "(I)I"⟩ ⟨"Theatrehouse", "pass", "(I)I"⟩) ∈ lw_all := lw_in 857 (by decide +kernel) (by decide +kernel)
theorem m_858 : (Cond.code ⟨"Theatrehouse", "pass", "(I)I"⟩ prog_1_method_13_code 3 (Option.some Jvm.ClassFile.FieldType.int)) ∈ lw_all := lw_in 858 (by decide +kernel) (by decide +kernel)
theorem m_875 : (Cond.methodLink "TheatrehouseLaw" 60 ⟨"Theatrehouse", "begin", "()I"⟩) ∈ lw_all := lw_in 875 (by decide +kernel) (by decide +kernel)
theorem m_876 : (Cond.instanceMethod ⟨"Theatrehouse", "begin", "()I"⟩) ∈ lw_all := lw_in 876 (by decide +kernel) (by decide +kernel)
theorem m_877 : (Cond.selects "Theatrehouse" ⟨"Theatrehouse", "begin", "()I"⟩ ⟨"Theatrehouse", "begin", "()I"⟩) ∈ lw_all := lw_in 877 (by decide +kernel) (by decide +kernel)
theorem m_878 : (Cond.code ⟨"Theatrehouse", "begin", "()I"⟩ prog_1_method_15_code 5 (Option.some Jvm.ClassFile.FieldType.int)) ∈ lw_all := lw_in 878 (by decide +kernel) (by decide +kernel)
theorem m_1096 : (Cond.methodLink "TheatrehouseLaw" 118 ⟨"Theatrehouse", "soldShare", "()F"⟩) ∈ lw_all := lw_in 1096 (by decide +kernel) (by decide +kernel)
theorem m_1097 : (Cond.instanceMethod ⟨"Theatrehouse", "soldShare", "()F"⟩) ∈ lw_all := lw_in 1097 (by decide +kernel) (by decide +kernel)
theorem m_1098 : (Cond.selects "Theatrehouse" ⟨"Theatrehouse", "soldShare", "()F"⟩ ⟨"Theatrehouse", "soldShare", "()F"⟩) ∈ lw_all := lw_in 1098 (by decide +kernel) (by decide +kernel)
theorem m_1099 : (Cond.code ⟨"Theatrehouse", "soldShare", "()F"⟩ prog_1_method_34_code 4 (Option.some Jvm.ClassFile.FieldType.float)) ∈ lw_all := lw_in 1099 (by decide +kernel) (by decide +kernel)
theorem mn_562 : (Cond.castable "java/lang/IllegalArgumentException" "java/lang/IllegalArgumentException") ∈ lw_ng := lw_inn 562 (by decide +kernel) (by decide +kernel)
theorem mn_836 : (Cond.castable "java/util/NoSuchElementException" "java/util/NoSuchElementException") ∈ lw_ng := lw_inn 836 (by decide +kernel) (by decide +kernel)
theorem va_dnil {A : Nat → Prop} : va_D A [] := ⟨fun i j p q h => by simp at h, fun k q h => by simp at h⟩

set_option maxHeartbeats 4000000 in
set_option maxRecDepth 100000 in
theorem c_L_addPerson_b1 (l : Launch) (hfl : l.stackTraces = false) (z0 : Nat) (D : va_G) (g : Nat → Nat) (x a0 a1 a2 a3 a4 a5 a6 : Nat) (p0 : Int32) (p1 : Int32) (o : Nat) (h : p0 < 0 ∨ ¬ p0 ≤ 99) : vx_Met l yL_addPerson (wspW yL_addPerson cL_addPerson 5 (some .int) [(0, 10, 13, 13), (0, 10, 17, 15)]) ({ frames := 8, cells := 1, slots := 6, locals := 127 }) (va_Pc [.ref x, .int p0, .int p1, .ref o] (PR z0 D g [(x, .inr (0, [.ref a0, .ref a1, .ref a2, .ref a3, .ref a4, .ref a5, .ref a6, .int 0, .int 0, .int 0, .int 0, .int 0, .int 0, .int 0]))])) (va_Qi (fun (r : Int32) (_ : Unit) => r = 1) (fun _ _ => True) nA) xN 1 6 nA := by
  refine vx_ofWH (cc := cL_addPerson) (maxL := 5) (ret := (some .int)) (hh := [(0, 10, 13, 13), (0, 10, 17, 15)]) (by decide) rfl ?_
  intro p e s m args below meth c s₁ B hml hv
  obtain ⟨rfl, hE, hP⟩ := hv
  have hx := B.exec
  have hb := B.bytes
  have hr := B.returns
  have hts0 := atoms_spec (ws := (wspW yL_addPerson cL_addPerson 5 (some .int) [(0, 10, 13, 13), (0, 10, 17, 15)])) B.pre
  have htab := vx_table (x := yL_addPerson) B (hts0 _ List.mem_cons_self)
  have hts : ∀ w ∈ lw_all, w.before _ s = true := fun w h => hts0 w (List.mem_cons_of_mem _ h)
  have hown : s.vm.findClass "TheatrehouseLaw" = some m.cls := findClass_of_methodNamed B.named
  have hlocks := B.notSynchronized
  have hK := hE.K
  have hS : va_S nA s.heap s.heap [] := va_S.rf
  have hP : va_P D classes [(x, .inr (0, [.ref a0, .ref a1, .ref a2, .ref a3, .ref a4, .ref a5, .ref a6, .int 0, .int 0, .int 0, .int 0, .int 0, .int 0, .int 0]))] s.heap := hP
  have hl := lv_entry ([.ref x, .int p0, .int p1, .ref o]) (n := 5) (Nat.le_of_ble_eq_true rfl)
  rw [lg_entry_eq]
  generalize (lg_sl ([.ref x, .int p0, .int p1, .ref o]) ++ List.replicate (5 - (lg_sl ([.ref x, .int p0, .int p1, .ref o])).length) Slot.unset).toArray = ls at hl ⊢
  have hl : lv_has ls 5 [(0, .ref x), (1, .int p0), (2, .int p1), (3, .ref o)] := hl
  refine lv_aload_n hx hb dL_addPerson_0 rfl (lv_at hl 3 rfl) ?_
  refine lv_iconst (v := 0) hx hb dL_addPerson_1 (by decide) ?_
  refine lv_aload_n hx hb dL_addPerson_2 rfl (lv_at hl 0 rfl) ?_
  refine lv_iload_n hx hb dL_addPerson_3 rfl (lv_at hl 1 rfl) ?_
  refine lv_iload_n hx hb dL_addPerson_4 rfl (lv_at hl 2 rfl) ?_
  have hc_1 := hP.sub (ws' := [(x, .inr (0, [.ref a0, .ref a1, .ref a2, .ref a3, .ref a4, .ref a5, .ref a6, .int 0, .int 0, .int 0, .int 0, .int 0, .int 0, .int 0]))]) [0] rfl
  refine vx_calli (vx_runV (As := [.int p0, .int p1]) (rest := [.int 0, .ref o]) ⟨hx, hb, hml, hown, hts⟩ (c_X10_addPerson_b1 l hfl z0 D g x a0 a1 a2 a3 a4 a5 a6 p0 p1 h) (cwV 2 hts (lw_V m_553 m_554 m_555 m_1 m_556) rfl rfl rfl (by decide +kernel) ⟨(Nat.le_of_ble_eq_true rfl), (Nat.le_of_ble_eq_true rfl)⟩) ⟨PR.blind, va_recv hK hP (ci := 0) (q0 := 0) rfl rfl, PR.pre hE hS nA_z hc_1⟩ rfl rfl hl.1 rfl (lv_room (Nat.le_of_ble_eq_true rfl)) dL_addPerson_5 ⟨(Nat.le_of_ble_eq_true rfl), (Nat.le_of_ble_eq_true rfl)⟩) hS nA_B nA_A nA_B (fun E ce q9 u t H locs ht hvm _ hBX hz1 hk1 hS hce hcv hcl => ?_) (fun r_2 u t H locs ht hvm hw _ _ _ _ => hw.elim)
  subst hBX
  have hP := hP.old hk1
  have hP : va_P D classes [(x, .inr (0, [.ref a0, .ref a1, .ref a2, .ref a3, .ref a4, .ref a5, .ref a6, .int 0, .int 0, .int 0, .int 0, .int 0, .int 0, .int 0]))] H := hP
  refine vx_catch hown (tableOf []) ⟨0, 10, 13, 13⟩ (tableOf [(0, 10, 17, 15)]) (htab.trans rfl) (fun z hz => nomatch hz) (by decide) (by decide) (hts _ m_551) (va_Nw.use rfl (hE.ng _ mn_562)) hce hcv hcl ?_
  refine lv_astore (lv' := [(4, .ref q9), (0, .ref x), (1, .int p0), (2, .int p1), (3, .ref o)]) hx hb dL_addPerson_13 hl (by decide) rfl (fun ls hl => ?_)
  refine lv_iconst (v := 1) hx hb dL_addPerson_15 (by decide) ?_
  refine W.widen (k := 1) (n := 6) (Nat.le_of_ble_eq_true rfl) (Nat.le_of_ble_eq_true rfl) ?_
  refine vx_ret ?_
  exact W.iret (v := 1) hx hb hr (fun t ht hW => ⟨⟨1, (), rfl, rfl, trivial⟩, hS.F ht⟩) hS.2.2 dL_addPerson_16

set_option maxHeartbeats 4000000 in
set_option maxRecDepth 100000 in
theorem c_L_addPerson_b2 (l : Launch) (hfl : l.stackTraces = false) (z0 : Nat) (D : va_G) (g : Nat → Nat) (x a0 a1 a2 a3 a4 a5 a6 : Nat) (p0 : Int32) (p1 : Int32) (o : Nat) (h1 : ¬ p0 < 0) (h2 : p0 ≤ 99) (h : p1 < 1 ∨ ¬ p1 ≤ 30) : vx_Met l yL_addPerson (wspW yL_addPerson cL_addPerson 5 (some .int) [(0, 10, 13, 13), (0, 10, 17, 15)]) ({ frames := 8, cells := 1, slots := 6, locals := 127 }) (va_Pc [.ref x, .int p0, .int p1, .ref o] (PR z0 D g [(x, .inr (0, [.ref a0, .ref a1, .ref a2, .ref a3, .ref a4, .ref a5, .ref a6, .int 0, .int 0, .int 0, .int 0, .int 0, .int 0, .int 0]))])) (va_Qi (fun (r : Int32) (_ : Unit) => r = 1) (fun _ _ => True) nA) xN 1 6 nA := by
  refine vx_ofWH (cc := cL_addPerson) (maxL := 5) (ret := (some .int)) (hh := [(0, 10, 13, 13), (0, 10, 17, 15)]) (by decide) rfl ?_
  intro p e s m args below meth c s₁ B hml hv
  obtain ⟨rfl, hE, hP⟩ := hv
  have hx := B.exec
  have hb := B.bytes
  have hr := B.returns
  have hts0 := atoms_spec (ws := (wspW yL_addPerson cL_addPerson 5 (some .int) [(0, 10, 13, 13), (0, 10, 17, 15)])) B.pre
  have htab := vx_table (x := yL_addPerson) B (hts0 _ List.mem_cons_self)
  have hts : ∀ w ∈ lw_all, w.before _ s = true := fun w h => hts0 w (List.mem_cons_of_mem _ h)
  have hown : s.vm.findClass "TheatrehouseLaw" = some m.cls := findClass_of_methodNamed B.named
  have hlocks := B.notSynchronized
  have hK := hE.K
  have hS : va_S nA s.heap s.heap [] := va_S.rf
  have hP : va_P D classes [(x, .inr (0, [.ref a0, .ref a1, .ref a2, .ref a3, .ref a4, .ref a5, .ref a6, .int 0, .int 0, .int 0, .int 0, .int 0, .int 0, .int 0]))] s.heap := hP
  have hl := lv_entry ([.ref x, .int p0, .int p1, .ref o]) (n := 5) (Nat.le_of_ble_eq_true rfl)
  rw [lg_entry_eq]
  generalize (lg_sl ([.ref x, .int p0, .int p1, .ref o]) ++ List.replicate (5 - (lg_sl ([.ref x, .int p0, .int p1, .ref o])).length) Slot.unset).toArray = ls at hl ⊢
  have hl : lv_has ls 5 [(0, .ref x), (1, .int p0), (2, .int p1), (3, .ref o)] := hl
  refine lv_aload_n hx hb dL_addPerson_0 rfl (lv_at hl 3 rfl) ?_
  refine lv_iconst (v := 0) hx hb dL_addPerson_1 (by decide) ?_
  refine lv_aload_n hx hb dL_addPerson_2 rfl (lv_at hl 0 rfl) ?_
  refine lv_iload_n hx hb dL_addPerson_3 rfl (lv_at hl 1 rfl) ?_
  refine lv_iload_n hx hb dL_addPerson_4 rfl (lv_at hl 2 rfl) ?_
  have hc_1 := hP.sub (ws' := [(x, .inr (0, [.ref a0, .ref a1, .ref a2, .ref a3, .ref a4, .ref a5, .ref a6, .int 0, .int 0, .int 0, .int 0, .int 0, .int 0, .int 0]))]) [0] rfl
  refine vx_calli (vx_runV (As := [.int p0, .int p1]) (rest := [.int 0, .ref o]) ⟨hx, hb, hml, hown, hts⟩ (c_X10_addPerson_b2 l hfl z0 D g x a0 a1 a2 a3 a4 a5 a6 p0 p1 h1 h2 h) (cwV 2 hts (lw_V m_553 m_554 m_555 m_1 m_556) rfl rfl rfl (by decide +kernel) ⟨(Nat.le_of_ble_eq_true rfl), (Nat.le_of_ble_eq_true rfl)⟩) ⟨PR.blind, va_recv hK hP (ci := 0) (q0 := 0) rfl rfl, PR.pre hE hS nA_z hc_1⟩ rfl rfl hl.1 rfl (lv_room (Nat.le_of_ble_eq_true rfl)) dL_addPerson_5 ⟨(Nat.le_of_ble_eq_true rfl), (Nat.le_of_ble_eq_true rfl)⟩) hS nA_B nA_A nA_B (fun E ce q9 u t H locs ht hvm _ hBX hz1 hk1 hS hce hcv hcl => ?_) (fun r_2 u t H locs ht hvm hw _ _ _ _ => hw.elim)
  subst hBX
  have hP := hP.old hk1
  have hP : va_P D classes [(x, .inr (0, [.ref a0, .ref a1, .ref a2, .ref a3, .ref a4, .ref a5, .ref a6, .int 0, .int 0, .int 0, .int 0, .int 0, .int 0, .int 0]))] H := hP
  refine vx_catch hown (tableOf []) ⟨0, 10, 13, 13⟩ (tableOf [(0, 10, 17, 15)]) (htab.trans rfl) (fun z hz => nomatch hz) (by decide) (by decide) (hts _ m_551) (va_Nw.use rfl (hE.ng _ mn_562)) hce hcv hcl ?_
  refine lv_astore (lv' := [(4, .ref q9), (0, .ref x), (1, .int p0), (2, .int p1), (3, .ref o)]) hx hb dL_addPerson_13 hl (by decide) rfl (fun ls hl => ?_)
  refine lv_iconst (v := 1) hx hb dL_addPerson_15 (by decide) ?_
  refine W.widen (k := 1) (n := 6) (Nat.le_of_ble_eq_true rfl) (Nat.le_of_ble_eq_true rfl) ?_
  refine vx_ret ?_
  exact W.iret (v := 1) hx hb hr (fun t ht hW => ⟨⟨1, (), rfl, rfl, trivial⟩, hS.F ht⟩) hS.2.2 dL_addPerson_16

set_option maxHeartbeats 4000000 in
set_option maxRecDepth 100000 in
theorem c_L_addMachine_b1 (l : Launch) (hfl : l.stackTraces = false) (z0 : Nat) (D : va_G) (g : Nat → Nat) (x a0 a1 a2 a3 a4 a5 a6 : Nat) (p0 : Int32) (p1 : Int32) (o : Nat) (h : p0 < 0 ∨ ¬ p0 ≤ 4) : vx_Met l yL_addMachine (wspW yL_addMachine cL_addMachine 5 (some .int) [(0, 10, 13, 13), (0, 10, 17, 15)]) ({ frames := 8, cells := 1, slots := 6, locals := 127 }) (va_Pc [.ref x, .int p0, .int p1, .ref o] (PR z0 D g [(x, .inr (0, [.ref a0, .ref a1, .ref a2, .ref a3, .ref a4, .ref a5, .ref a6, .int 0, .int 0, .int 0, .int 0, .int 0, .int 0, .int 0]))])) (va_Qi (fun (r : Int32) (_ : Unit) => r = 1) (fun _ _ => True) nA) xN 1 6 nA := by
  refine vx_ofWH (cc := cL_addMachine) (maxL := 5) (ret := (some .int)) (hh := [(0, 10, 13, 13), (0, 10, 17, 15)]) (by decide) rfl ?_
  intro p e s m args below meth c s₁ B hml hv
  obtain ⟨rfl, hE, hP⟩ := hv
  have hx := B.exec
  have hb := B.bytes
  have hr := B.returns
  have hts0 := atoms_spec (ws := (wspW yL_addMachine cL_addMachine 5 (some .int) [(0, 10, 13, 13), (0, 10, 17, 15)])) B.pre
  have htab := vx_table (x := yL_addMachine) B (hts0 _ List.mem_cons_self)
  have hts : ∀ w ∈ lw_all, w.before _ s = true := fun w h => hts0 w (List.mem_cons_of_mem _ h)
  have hown : s.vm.findClass "TheatrehouseLaw" = some m.cls := findClass_of_methodNamed B.named
  have hlocks := B.notSynchronized
  have hK := hE.K
  have hS : va_S nA s.heap s.heap [] := va_S.rf
  have hP : va_P D classes [(x, .inr (0, [.ref a0, .ref a1, .ref a2, .ref a3, .ref a4, .ref a5, .ref a6, .int 0, .int 0, .int 0, .int 0, .int 0, .int 0, .int 0]))] s.heap := hP
  have hl := lv_entry ([.ref x, .int p0, .int p1, .ref o]) (n := 5) (Nat.le_of_ble_eq_true rfl)
  rw [lg_entry_eq]
  generalize (lg_sl ([.ref x, .int p0, .int p1, .ref o]) ++ List.replicate (5 - (lg_sl ([.ref x, .int p0, .int p1, .ref o])).length) Slot.unset).toArray = ls at hl ⊢
  have hl : lv_has ls 5 [(0, .ref x), (1, .int p0), (2, .int p1), (3, .ref o)] := hl
  refine lv_aload_n hx hb dL_addMachine_0 rfl (lv_at hl 3 rfl) ?_
  refine lv_iconst (v := 0) hx hb dL_addMachine_1 (by decide) ?_
  refine lv_aload_n hx hb dL_addMachine_2 rfl (lv_at hl 0 rfl) ?_
  refine lv_iload_n hx hb dL_addMachine_3 rfl (lv_at hl 1 rfl) ?_
  refine lv_iload_n hx hb dL_addMachine_4 rfl (lv_at hl 2 rfl) ?_
  have hc_1 := hP.sub (ws' := [(x, .inr (0, [.ref a0, .ref a1, .ref a2, .ref a3, .ref a4, .ref a5, .ref a6, .int 0, .int 0, .int 0, .int 0, .int 0, .int 0, .int 0]))]) [0] rfl
  refine vx_calli (vx_runV (As := [.int p0, .int p1]) (rest := [.int 0, .ref o]) ⟨hx, hb, hml, hown, hts⟩ (c_X10_addMachine_b1 l hfl z0 D g x a0 a1 a2 a3 a4 a5 a6 p0 p1 h) (cwV 2 hts (lw_V m_722 m_723 m_724 m_1 m_725) rfl rfl rfl (by decide +kernel) ⟨(Nat.le_of_ble_eq_true rfl), (Nat.le_of_ble_eq_true rfl)⟩) ⟨PR.blind, va_recv hK hP (ci := 0) (q0 := 0) rfl rfl, PR.pre hE hS nA_z hc_1⟩ rfl rfl hl.1 rfl (lv_room (Nat.le_of_ble_eq_true rfl)) dL_addMachine_5 ⟨(Nat.le_of_ble_eq_true rfl), (Nat.le_of_ble_eq_true rfl)⟩) hS nA_B nA_A nA_B (fun E ce q9 u t H locs ht hvm _ hBX hz1 hk1 hS hce hcv hcl => ?_) (fun r_2 u t H locs ht hvm hw _ _ _ _ => hw.elim)
  subst hBX
  have hP := hP.old hk1
  have hP : va_P D classes [(x, .inr (0, [.ref a0, .ref a1, .ref a2, .ref a3, .ref a4, .ref a5, .ref a6, .int 0, .int 0, .int 0, .int 0, .int 0, .int 0, .int 0]))] H := hP
  refine vx_catch hown (tableOf []) ⟨0, 10, 13, 13⟩ (tableOf [(0, 10, 17, 15)]) (htab.trans rfl) (fun z hz => nomatch hz) (by decide) (by decide) (hts _ m_551) (va_Nw.use rfl (hE.ng _ mn_562)) hce hcv hcl ?_
  refine lv_astore (lv' := [(4, .ref q9), (0, .ref x), (1, .int p0), (2, .int p1), (3, .ref o)]) hx hb dL_addMachine_13 hl (by decide) rfl (fun ls hl => ?_)
  refine lv_iconst (v := 1) hx hb dL_addMachine_15 (by decide) ?_
  refine W.widen (k := 1) (n := 6) (Nat.le_of_ble_eq_true rfl) (Nat.le_of_ble_eq_true rfl) ?_
  refine vx_ret ?_
  exact W.iret (v := 1) hx hb hr (fun t ht hW => ⟨⟨1, (), rfl, rfl, trivial⟩, hS.F ht⟩) hS.2.2 dL_addMachine_16

set_option maxHeartbeats 4000000 in
set_option maxRecDepth 100000 in
theorem c_L_addMachine_b2 (l : Launch) (hfl : l.stackTraces = false) (z0 : Nat) (D : va_G) (g : Nat → Nat) (x a0 a1 a2 a3 a4 a5 a6 : Nat) (p0 : Int32) (p1 : Int32) (o : Nat) (h1 : ¬ p0 < 0) (h2 : p0 ≤ 4) (h : p1 < 0 ∨ ¬ p1 ≤ 9) : vx_Met l yL_addMachine (wspW yL_addMachine cL_addMachine 5 (some .int) [(0, 10, 13, 13), (0, 10, 17, 15)]) ({ frames := 8, cells := 1, slots := 6, locals := 127 }) (va_Pc [.ref x, .int p0, .int p1, .ref o] (PR z0 D g [(x, .inr (0, [.ref a0, .ref a1, .ref a2, .ref a3, .ref a4, .ref a5, .ref a6, .int 0, .int 0, .int 0, .int 0, .int 0, .int 0, .int 0]))])) (va_Qi (fun (r : Int32) (_ : Unit) => r = 1) (fun _ _ => True) nA) xN 1 6 nA := by
  refine vx_ofWH (cc := cL_addMachine) (maxL := 5) (ret := (some .int)) (hh := [(0, 10, 13, 13), (0, 10, 17, 15)]) (by decide) rfl ?_
  intro p e s m args below meth c s₁ B hml hv
  obtain ⟨rfl, hE, hP⟩ := hv
  have hx := B.exec
  have hb := B.bytes
  have hr := B.returns
  have hts0 := atoms_spec (ws := (wspW yL_addMachine cL_addMachine 5 (some .int) [(0, 10, 13, 13), (0, 10, 17, 15)])) B.pre
  have htab := vx_table (x := yL_addMachine) B (hts0 _ List.mem_cons_self)
  have hts : ∀ w ∈ lw_all, w.before _ s = true := fun w h => hts0 w (List.mem_cons_of_mem _ h)
  have hown : s.vm.findClass "TheatrehouseLaw" = some m.cls := findClass_of_methodNamed B.named
  have hlocks := B.notSynchronized
  have hK := hE.K
  have hS : va_S nA s.heap s.heap [] := va_S.rf
  have hP : va_P D classes [(x, .inr (0, [.ref a0, .ref a1, .ref a2, .ref a3, .ref a4, .ref a5, .ref a6, .int 0, .int 0, .int 0, .int 0, .int 0, .int 0, .int 0]))] s.heap := hP
  have hl := lv_entry ([.ref x, .int p0, .int p1, .ref o]) (n := 5) (Nat.le_of_ble_eq_true rfl)
  rw [lg_entry_eq]
  generalize (lg_sl ([.ref x, .int p0, .int p1, .ref o]) ++ List.replicate (5 - (lg_sl ([.ref x, .int p0, .int p1, .ref o])).length) Slot.unset).toArray = ls at hl ⊢
  have hl : lv_has ls 5 [(0, .ref x), (1, .int p0), (2, .int p1), (3, .ref o)] := hl
  refine lv_aload_n hx hb dL_addMachine_0 rfl (lv_at hl 3 rfl) ?_
  refine lv_iconst (v := 0) hx hb dL_addMachine_1 (by decide) ?_
  refine lv_aload_n hx hb dL_addMachine_2 rfl (lv_at hl 0 rfl) ?_
  refine lv_iload_n hx hb dL_addMachine_3 rfl (lv_at hl 1 rfl) ?_
  refine lv_iload_n hx hb dL_addMachine_4 rfl (lv_at hl 2 rfl) ?_
  have hc_1 := hP.sub (ws' := [(x, .inr (0, [.ref a0, .ref a1, .ref a2, .ref a3, .ref a4, .ref a5, .ref a6, .int 0, .int 0, .int 0, .int 0, .int 0, .int 0, .int 0]))]) [0] rfl
  refine vx_calli (vx_runV (As := [.int p0, .int p1]) (rest := [.int 0, .ref o]) ⟨hx, hb, hml, hown, hts⟩ (c_X10_addMachine_b2 l hfl z0 D g x a0 a1 a2 a3 a4 a5 a6 p0 p1 h1 h2 h) (cwV 2 hts (lw_V m_722 m_723 m_724 m_1 m_725) rfl rfl rfl (by decide +kernel) ⟨(Nat.le_of_ble_eq_true rfl), (Nat.le_of_ble_eq_true rfl)⟩) ⟨PR.blind, va_recv hK hP (ci := 0) (q0 := 0) rfl rfl, PR.pre hE hS nA_z hc_1⟩ rfl rfl hl.1 rfl (lv_room (Nat.le_of_ble_eq_true rfl)) dL_addMachine_5 ⟨(Nat.le_of_ble_eq_true rfl), (Nat.le_of_ble_eq_true rfl)⟩) hS nA_B nA_A nA_B (fun E ce q9 u t H locs ht hvm _ hBX hz1 hk1 hS hce hcv hcl => ?_) (fun r_2 u t H locs ht hvm hw _ _ _ _ => hw.elim)
  subst hBX
  have hP := hP.old hk1
  have hP : va_P D classes [(x, .inr (0, [.ref a0, .ref a1, .ref a2, .ref a3, .ref a4, .ref a5, .ref a6, .int 0, .int 0, .int 0, .int 0, .int 0, .int 0, .int 0]))] H := hP
  refine vx_catch hown (tableOf []) ⟨0, 10, 13, 13⟩ (tableOf [(0, 10, 17, 15)]) (htab.trans rfl) (fun z hz => nomatch hz) (by decide) (by decide) (hts _ m_551) (va_Nw.use rfl (hE.ng _ mn_562)) hce hcv hcl ?_
  refine lv_astore (lv' := [(4, .ref q9), (0, .ref x), (1, .int p0), (2, .int p1), (3, .ref o)]) hx hb dL_addMachine_13 hl (by decide) rfl (fun ls hl => ?_)
  refine lv_iconst (v := 1) hx hb dL_addMachine_15 (by decide) ?_
  refine W.widen (k := 1) (n := 6) (Nat.le_of_ble_eq_true rfl) (Nat.le_of_ble_eq_true rfl) ?_
  refine vx_ret ?_
  exact W.iret (v := 1) hx hb hr (fun t ht hW => ⟨⟨1, (), rfl, rfl, trivial⟩, hS.F ht⟩) hS.2.2 dL_addMachine_16

set_option maxHeartbeats 4000000 in
set_option maxRecDepth 100000 in
theorem c_L_addWork_b1 (l : Launch) (hfl : l.stackTraces = false) (z0 : Nat) (D : va_G) (g : Nat → Nat) (x a0 a1 a2 a3 a4 a5 a6 : Nat) (p0 : Int32) (p1 : Int32) (o : Nat) (h : p0 < 1 ∨ ¬ p0 ≤ 5) : vx_Met l yL_addWork (wspW yL_addWork cL_addWork 5 (some .int) [(0, 10, 13, 13), (0, 10, 17, 15)]) ({ frames := 8, cells := 1, slots := 6, locals := 127 }) (va_Pc [.ref x, .int p0, .int p1, .ref o] (PR z0 D g [(x, .inr (0, [.ref a0, .ref a1, .ref a2, .ref a3, .ref a4, .ref a5, .ref a6, .int 0, .int 0, .int 0, .int 0, .int 0, .int 0, .int 0]))])) (va_Qi (fun (r : Int32) (_ : Unit) => r = 1) (fun _ _ => True) nA) xN 1 6 nA := by
  refine vx_ofWH (cc := cL_addWork) (maxL := 5) (ret := (some .int)) (hh := [(0, 10, 13, 13), (0, 10, 17, 15)]) (by decide) rfl ?_
  intro p e s m args below meth c s₁ B hml hv
  obtain ⟨rfl, hE, hP⟩ := hv
  have hx := B.exec
  have hb := B.bytes
  have hr := B.returns
  have hts0 := atoms_spec (ws := (wspW yL_addWork cL_addWork 5 (some .int) [(0, 10, 13, 13), (0, 10, 17, 15)])) B.pre
  have htab := vx_table (x := yL_addWork) B (hts0 _ List.mem_cons_self)
  have hts : ∀ w ∈ lw_all, w.before _ s = true := fun w h => hts0 w (List.mem_cons_of_mem _ h)
  have hown : s.vm.findClass "TheatrehouseLaw" = some m.cls := findClass_of_methodNamed B.named
  have hlocks := B.notSynchronized
  have hK := hE.K
  have hS : va_S nA s.heap s.heap [] := va_S.rf
  have hP : va_P D classes [(x, .inr (0, [.ref a0, .ref a1, .ref a2, .ref a3, .ref a4, .ref a5, .ref a6, .int 0, .int 0, .int 0, .int 0, .int 0, .int 0, .int 0]))] s.heap := hP
  have hl := lv_entry ([.ref x, .int p0, .int p1, .ref o]) (n := 5) (Nat.le_of_ble_eq_true rfl)
  rw [lg_entry_eq]
  generalize (lg_sl ([.ref x, .int p0, .int p1, .ref o]) ++ List.replicate (5 - (lg_sl ([.ref x, .int p0, .int p1, .ref o])).length) Slot.unset).toArray = ls at hl ⊢
  have hl : lv_has ls 5 [(0, .ref x), (1, .int p0), (2, .int p1), (3, .ref o)] := hl
  refine lv_aload_n hx hb dL_addWork_0 rfl (lv_at hl 3 rfl) ?_
  refine lv_iconst (v := 0) hx hb dL_addWork_1 (by decide) ?_
  refine lv_aload_n hx hb dL_addWork_2 rfl (lv_at hl 0 rfl) ?_
  refine lv_iload_n hx hb dL_addWork_3 rfl (lv_at hl 1 rfl) ?_
  refine lv_iload_n hx hb dL_addWork_4 rfl (lv_at hl 2 rfl) ?_
  have hc_1 := hP.sub (ws' := [(x, .inr (0, [.ref a0, .ref a1, .ref a2, .ref a3, .ref a4, .ref a5, .ref a6, .int 0, .int 0, .int 0, .int 0, .int 0, .int 0, .int 0]))]) [0] rfl
  refine vx_calli (vx_runV (As := [.int p0, .int p1]) (rest := [.int 0, .ref o]) ⟨hx, hb, hml, hown, hts⟩ (c_X10_addWork_b1 l hfl z0 D g x a0 a1 a2 a3 a4 a5 a6 p0 p1 h) (cwV 2 hts (lw_V m_741 m_742 m_743 m_1 m_744) rfl rfl rfl (by decide +kernel) ⟨(Nat.le_of_ble_eq_true rfl), (Nat.le_of_ble_eq_true rfl)⟩) ⟨PR.blind, va_recv hK hP (ci := 0) (q0 := 0) rfl rfl, PR.pre hE hS nA_z hc_1⟩ rfl rfl hl.1 rfl (lv_room (Nat.le_of_ble_eq_true rfl)) dL_addWork_5 ⟨(Nat.le_of_ble_eq_true rfl), (Nat.le_of_ble_eq_true rfl)⟩) hS nA_B nA_A nA_B (fun E ce q9 u t H locs ht hvm _ hBX hz1 hk1 hS hce hcv hcl => ?_) (fun r_2 u t H locs ht hvm hw _ _ _ _ => hw.elim)
  subst hBX
  have hP := hP.old hk1
  have hP : va_P D classes [(x, .inr (0, [.ref a0, .ref a1, .ref a2, .ref a3, .ref a4, .ref a5, .ref a6, .int 0, .int 0, .int 0, .int 0, .int 0, .int 0, .int 0]))] H := hP
  refine vx_catch hown (tableOf []) ⟨0, 10, 13, 13⟩ (tableOf [(0, 10, 17, 15)]) (htab.trans rfl) (fun z hz => nomatch hz) (by decide) (by decide) (hts _ m_551) (va_Nw.use rfl (hE.ng _ mn_562)) hce hcv hcl ?_
  refine lv_astore (lv' := [(4, .ref q9), (0, .ref x), (1, .int p0), (2, .int p1), (3, .ref o)]) hx hb dL_addWork_13 hl (by decide) rfl (fun ls hl => ?_)
  refine lv_iconst (v := 1) hx hb dL_addWork_15 (by decide) ?_
  refine W.widen (k := 1) (n := 6) (Nat.le_of_ble_eq_true rfl) (Nat.le_of_ble_eq_true rfl) ?_
  refine vx_ret ?_
  exact W.iret (v := 1) hx hb hr (fun t ht hW => ⟨⟨1, (), rfl, rfl, trivial⟩, hS.F ht⟩) hS.2.2 dL_addWork_16

set_option maxHeartbeats 4000000 in
set_option maxRecDepth 100000 in
theorem c_L_addWork_b2 (l : Launch) (hfl : l.stackTraces = false) (z0 : Nat) (D : va_G) (g : Nat → Nat) (x a0 a1 a2 a3 a4 a5 a6 : Nat) (p0 : Int32) (p1 : Int32) (o : Nat) (h1 : ¬ p0 < 1) (h2 : p0 ≤ 5) (h : p1 < 1 ∨ ¬ p1 ≤ 99) : vx_Met l yL_addWork (wspW yL_addWork cL_addWork 5 (some .int) [(0, 10, 13, 13), (0, 10, 17, 15)]) ({ frames := 8, cells := 1, slots := 6, locals := 127 }) (va_Pc [.ref x, .int p0, .int p1, .ref o] (PR z0 D g [(x, .inr (0, [.ref a0, .ref a1, .ref a2, .ref a3, .ref a4, .ref a5, .ref a6, .int 0, .int 0, .int 0, .int 0, .int 0, .int 0, .int 0]))])) (va_Qi (fun (r : Int32) (_ : Unit) => r = 1) (fun _ _ => True) nA) xN 1 6 nA := by
  refine vx_ofWH (cc := cL_addWork) (maxL := 5) (ret := (some .int)) (hh := [(0, 10, 13, 13), (0, 10, 17, 15)]) (by decide) rfl ?_
  intro p e s m args below meth c s₁ B hml hv
  obtain ⟨rfl, hE, hP⟩ := hv
  have hx := B.exec
  have hb := B.bytes
  have hr := B.returns
  have hts0 := atoms_spec (ws := (wspW yL_addWork cL_addWork 5 (some .int) [(0, 10, 13, 13), (0, 10, 17, 15)])) B.pre
  have htab := vx_table (x := yL_addWork) B (hts0 _ List.mem_cons_self)
  have hts : ∀ w ∈ lw_all, w.before _ s = true := fun w h => hts0 w (List.mem_cons_of_mem _ h)
  have hown : s.vm.findClass "TheatrehouseLaw" = some m.cls := findClass_of_methodNamed B.named
  have hlocks := B.notSynchronized
  have hK := hE.K
  have hS : va_S nA s.heap s.heap [] := va_S.rf
  have hP : va_P D classes [(x, .inr (0, [.ref a0, .ref a1, .ref a2, .ref a3, .ref a4, .ref a5, .ref a6, .int 0, .int 0, .int 0, .int 0, .int 0, .int 0, .int 0]))] s.heap := hP
  have hl := lv_entry ([.ref x, .int p0, .int p1, .ref o]) (n := 5) (Nat.le_of_ble_eq_true rfl)
  rw [lg_entry_eq]
  generalize (lg_sl ([.ref x, .int p0, .int p1, .ref o]) ++ List.replicate (5 - (lg_sl ([.ref x, .int p0, .int p1, .ref o])).length) Slot.unset).toArray = ls at hl ⊢
  have hl : lv_has ls 5 [(0, .ref x), (1, .int p0), (2, .int p1), (3, .ref o)] := hl
  refine lv_aload_n hx hb dL_addWork_0 rfl (lv_at hl 3 rfl) ?_
  refine lv_iconst (v := 0) hx hb dL_addWork_1 (by decide) ?_
  refine lv_aload_n hx hb dL_addWork_2 rfl (lv_at hl 0 rfl) ?_
  refine lv_iload_n hx hb dL_addWork_3 rfl (lv_at hl 1 rfl) ?_
  refine lv_iload_n hx hb dL_addWork_4 rfl (lv_at hl 2 rfl) ?_
  have hc_1 := hP.sub (ws' := [(x, .inr (0, [.ref a0, .ref a1, .ref a2, .ref a3, .ref a4, .ref a5, .ref a6, .int 0, .int 0, .int 0, .int 0, .int 0, .int 0, .int 0]))]) [0] rfl
  refine vx_calli (vx_runV (As := [.int p0, .int p1]) (rest := [.int 0, .ref o]) ⟨hx, hb, hml, hown, hts⟩ (c_X10_addWork_b2 l hfl z0 D g x a0 a1 a2 a3 a4 a5 a6 p0 p1 h1 h2 h) (cwV 2 hts (lw_V m_741 m_742 m_743 m_1 m_744) rfl rfl rfl (by decide +kernel) ⟨(Nat.le_of_ble_eq_true rfl), (Nat.le_of_ble_eq_true rfl)⟩) ⟨PR.blind, va_recv hK hP (ci := 0) (q0 := 0) rfl rfl, PR.pre hE hS nA_z hc_1⟩ rfl rfl hl.1 rfl (lv_room (Nat.le_of_ble_eq_true rfl)) dL_addWork_5 ⟨(Nat.le_of_ble_eq_true rfl), (Nat.le_of_ble_eq_true rfl)⟩) hS nA_B nA_A nA_B (fun E ce q9 u t H locs ht hvm _ hBX hz1 hk1 hS hce hcv hcl => ?_) (fun r_2 u t H locs ht hvm hw _ _ _ _ => hw.elim)
  subst hBX
  have hP := hP.old hk1
  have hP : va_P D classes [(x, .inr (0, [.ref a0, .ref a1, .ref a2, .ref a3, .ref a4, .ref a5, .ref a6, .int 0, .int 0, .int 0, .int 0, .int 0, .int 0, .int 0]))] H := hP
  refine vx_catch hown (tableOf []) ⟨0, 10, 13, 13⟩ (tableOf [(0, 10, 17, 15)]) (htab.trans rfl) (fun z hz => nomatch hz) (by decide) (by decide) (hts _ m_551) (va_Nw.use rfl (hE.ng _ mn_562)) hce hcv hcl ?_
  refine lv_astore (lv' := [(4, .ref q9), (0, .ref x), (1, .int p0), (2, .int p1), (3, .ref o)]) hx hb dL_addWork_13 hl (by decide) rfl (fun ls hl => ?_)
  refine lv_iconst (v := 1) hx hb dL_addWork_15 (by decide) ?_
  refine W.widen (k := 1) (n := 6) (Nat.le_of_ble_eq_true rfl) (Nat.le_of_ble_eq_true rfl) ?_
  refine vx_ret ?_
  exact W.iret (v := 1) hx hb hr (fun t ht hW => ⟨⟨1, (), rfl, rfl, trivial⟩, hS.F ht⟩) hS.2.2 dL_addWork_16

set_option maxHeartbeats 4000000 in
set_option maxRecDepth 100000 in
theorem c_L_sell_0 (l : Launch) (hfl : l.stackTraces = false) (z0 : Nat) (D : va_G) (g : Nat → Nat) (x a0 a1 a2 a3 a4 a5 a6 : Nat) (p0 : Int32) (p1 : Int32) (o : Nat) (h : p1 = 0) : vx_Met l yL_sell (wspW yL_sell cL_sell 5 (some .int) [(0, 10, 13, 13), (0, 10, 17, 55), (0, 10, 21, 39)]) ({ frames := 7, cells := 1, slots := 6, locals := 107 }) (va_Pc [.ref x, .int p0, .int p1, .ref o] (PR z0 D g [(x, .inr (0, [.ref a0, .ref a1, .ref a2, .ref a3, .ref a4, .ref a5, .ref a6, .int 0, .int 0, .int 0, .int 0, .int 0, .int 0, .int 0]))])) (va_Qi (fun (r : Int32) (_ : Unit) => r = 1) (fun _ _ => True) nA) xN 1 6 nA := by
  refine vx_ofWH (cc := cL_sell) (maxL := 5) (ret := (some .int)) (hh := [(0, 10, 13, 13), (0, 10, 17, 55), (0, 10, 21, 39)]) (by decide) rfl ?_
  intro p e s m args below meth c s₁ B hml hv
  obtain ⟨rfl, hE, hP⟩ := hv
  have hx := B.exec
  have hb := B.bytes
  have hr := B.returns
  have hts0 := atoms_spec (ws := (wspW yL_sell cL_sell 5 (some .int) [(0, 10, 13, 13), (0, 10, 17, 55), (0, 10, 21, 39)])) B.pre
  have htab := vx_table (x := yL_sell) B (hts0 _ List.mem_cons_self)
  have hts : ∀ w ∈ lw_all, w.before _ s = true := fun w h => hts0 w (List.mem_cons_of_mem _ h)
  have hown : s.vm.findClass "TheatrehouseLaw" = some m.cls := findClass_of_methodNamed B.named
  have hlocks := B.notSynchronized
  have hK := hE.K
  have hS : va_S nA s.heap s.heap [] := va_S.rf
  have hP : va_P D classes [(x, .inr (0, [.ref a0, .ref a1, .ref a2, .ref a3, .ref a4, .ref a5, .ref a6, .int 0, .int 0, .int 0, .int 0, .int 0, .int 0, .int 0]))] s.heap := hP
  have hl := lv_entry ([.ref x, .int p0, .int p1, .ref o]) (n := 5) (Nat.le_of_ble_eq_true rfl)
  rw [lg_entry_eq]
  generalize (lg_sl ([.ref x, .int p0, .int p1, .ref o]) ++ List.replicate (5 - (lg_sl ([.ref x, .int p0, .int p1, .ref o])).length) Slot.unset).toArray = ls at hl ⊢
  have hl : lv_has ls 5 [(0, .ref x), (1, .int p0), (2, .int p1), (3, .ref o)] := hl
  refine lv_aload_n hx hb dL_sell_0 rfl (lv_at hl 3 rfl) ?_
  refine lv_iconst (v := 0) hx hb dL_sell_1 (by decide) ?_
  refine lv_aload_n hx hb dL_sell_2 rfl (lv_at hl 0 rfl) ?_
  refine lv_iload_n hx hb dL_sell_3 rfl (lv_at hl 1 rfl) ?_
  refine lv_iload_n hx hb dL_sell_4 rfl (lv_at hl 2 rfl) ?_
  have hc_1 := hP.sub (ws' := [(x, .inr (0, [.ref a0, .ref a1, .ref a2, .ref a3, .ref a4, .ref a5, .ref a6, .int 0, .int 0, .int 0, .int 0, .int 0, .int 0, .int 0]))]) [0] rfl
  refine vx_calli (vx_runV (As := [.int p0, .int p1]) (rest := [.int 0, .ref o]) ⟨hx, hb, hml, hown, hts⟩ (c_X10_sell_0 l hfl z0 D g x a0 a1 a2 a3 a4 a5 a6 p0 p1 h) (cwV 2 hts (lw_V m_825 m_826 m_827 m_1 m_828) rfl rfl rfl (by decide +kernel) ⟨(Nat.le_of_ble_eq_true rfl), (Nat.le_of_ble_eq_true rfl)⟩) ⟨PR.blind, va_recv hK hP (ci := 0) (q0 := 0) rfl rfl, PR.pre hE hS nA_z hc_1⟩ rfl rfl hl.1 rfl (lv_room (Nat.le_of_ble_eq_true rfl)) dL_sell_5 ⟨(Nat.le_of_ble_eq_true rfl), (Nat.le_of_ble_eq_true rfl)⟩) hS nA_B nA_A nA_B (fun E ce q9 u t H locs ht hvm _ hBX hz1 hk1 hS hce hcv hcl => ?_) (fun r_2 u t H locs ht hvm hw _ _ _ _ => hw.elim)
  subst hBX
  have hP := hP.old hk1
  have hP : va_P D classes [(x, .inr (0, [.ref a0, .ref a1, .ref a2, .ref a3, .ref a4, .ref a5, .ref a6, .int 0, .int 0, .int 0, .int 0, .int 0, .int 0, .int 0]))] H := hP
  refine vx_catch hown (tableOf []) ⟨0, 10, 13, 13⟩ (tableOf [(0, 10, 17, 55), (0, 10, 21, 39)]) (htab.trans rfl) (fun z hz => nomatch hz) (by decide) (by decide) (hts _ m_551) (va_Nw.use rfl (hE.ng _ mn_562)) hce hcv hcl ?_
  refine lv_astore (lv' := [(4, .ref q9), (0, .ref x), (1, .int p0), (2, .int p1), (3, .ref o)]) hx hb dL_sell_13 hl (by decide) rfl (fun ls hl => ?_)
  refine lv_iconst (v := 1) hx hb dL_sell_15 (by decide) ?_
  refine W.widen (k := 1) (n := 6) (Nat.le_of_ble_eq_true rfl) (Nat.le_of_ble_eq_true rfl) ?_
  refine vx_ret ?_
  exact W.iret (v := 1) hx hb hr (fun t ht hW => ⟨⟨1, (), rfl, rfl, trivial⟩, hS.F ht⟩) hS.2.2 dL_sell_16

set_option maxHeartbeats 4000000 in
set_option maxRecDepth 100000 in
theorem c_L_pass_bad (l : Launch) (hfl : l.stackTraces = false) (z0 : Nat) (D : va_G) (g : Nat → Nat) (x a0 a1 a2 a3 a4 a5 a6 : Nat) (p0 : Int32) (o : Nat) (h : p0 < 1 ∨ ¬ p0 ≤ 30) : vx_Met l yL_pass (wspW yL_pass cL_pass 4 (some .int) [(0, 9, 12, 13), (0, 9, 15, 15)]) ({ frames := 8, cells := 1, slots := 6, locals := 126 }) (va_Pc [.ref x, .int p0, .ref o] (PR z0 D g [(x, .inr (0, [.ref a0, .ref a1, .ref a2, .ref a3, .ref a4, .ref a5, .ref a6, .int 0, .int 0, .int 0, .int 0, .int 0, .int 0, .int 0]))])) (va_Qi (fun (r : Int32) (_ : Unit) => r = 1) (fun _ _ => True) nA) xN 1 6 nA := by
  refine vx_ofWH (cc := cL_pass) (maxL := 4) (ret := (some .int)) (hh := [(0, 9, 12, 13), (0, 9, 15, 15)]) (by decide) rfl ?_
  intro p e s m args below meth c s₁ B hml hv
  obtain ⟨rfl, hE, hP⟩ := hv
  have hx := B.exec
  have hb := B.bytes
  have hr := B.returns
  have hts0 := atoms_spec (ws := (wspW yL_pass cL_pass 4 (some .int) [(0, 9, 12, 13), (0, 9, 15, 15)])) B.pre
  have htab := vx_table (x := yL_pass) B (hts0 _ List.mem_cons_self)
  have hts : ∀ w ∈ lw_all, w.before _ s = true := fun w h => hts0 w (List.mem_cons_of_mem _ h)
  have hown : s.vm.findClass "TheatrehouseLaw" = some m.cls := findClass_of_methodNamed B.named
  have hlocks := B.notSynchronized
  have hK := hE.K
  have hS : va_S nA s.heap s.heap [] := va_S.rf
  have hP : va_P D classes [(x, .inr (0, [.ref a0, .ref a1, .ref a2, .ref a3, .ref a4, .ref a5, .ref a6, .int 0, .int 0, .int 0, .int 0, .int 0, .int 0, .int 0]))] s.heap := hP
  have hl := lv_entry ([.ref x, .int p0, .ref o]) (n := 4) (Nat.le_of_ble_eq_true rfl)
  rw [lg_entry_eq]
  generalize (lg_sl ([.ref x, .int p0, .ref o]) ++ List.replicate (4 - (lg_sl ([.ref x, .int p0, .ref o])).length) Slot.unset).toArray = ls at hl ⊢
  have hl : lv_has ls 4 [(0, .ref x), (1, .int p0), (2, .ref o)] := hl
  refine lv_aload_n hx hb dL_pass_0 rfl (lv_at hl 2 rfl) ?_
  refine lv_iconst (v := 0) hx hb dL_pass_1 (by decide) ?_
  refine lv_aload_n hx hb dL_pass_2 rfl (lv_at hl 0 rfl) ?_
  refine lv_iload_n hx hb dL_pass_3 rfl (lv_at hl 1 rfl) ?_
  have hc_1 := hP.sub (ws' := [(x, .inr (0, [.ref a0, .ref a1, .ref a2, .ref a3, .ref a4, .ref a5, .ref a6, .int 0, .int 0, .int 0, .int 0, .int 0, .int 0, .int 0]))]) [0] rfl
  refine vx_calli (vx_runV (As := [.int p0]) (rest := [.int 0, .ref o]) ⟨hx, hb, hml, hown, hts⟩ (c_X10_pass_bad l hfl z0 D g x a0 a1 a2 a3 a4 a5 a6 p0 h) (cwV 1 hts (lw_V m_855 m_856 m_857 m_1 m_858) rfl rfl rfl (by decide +kernel) ⟨(Nat.le_of_ble_eq_true rfl), (Nat.le_of_ble_eq_true rfl)⟩) ⟨PR.blind, va_recv hK hP (ci := 0) (q0 := 0) rfl rfl, PR.pre hE hS nA_z hc_1⟩ rfl rfl hl.1 rfl (lv_room (Nat.le_of_ble_eq_true rfl)) dL_pass_4 ⟨(Nat.le_of_ble_eq_true rfl), (Nat.le_of_ble_eq_true rfl)⟩) hS nA_B nA_A nA_B (fun E ce q9 u t H locs ht hvm _ hBX hz1 hk1 hS hce hcv hcl => ?_) (fun r_2 u t H locs ht hvm hw _ _ _ _ => hw.elim)
  subst hBX
  have hP := hP.old hk1
  have hP : va_P D classes [(x, .inr (0, [.ref a0, .ref a1, .ref a2, .ref a3, .ref a4, .ref a5, .ref a6, .int 0, .int 0, .int 0, .int 0, .int 0, .int 0, .int 0]))] H := hP
  refine vx_catch hown (tableOf []) ⟨0, 9, 12, 13⟩ (tableOf [(0, 9, 15, 15)]) (htab.trans rfl) (fun z hz => nomatch hz) (by decide) (by decide) (hts _ m_551) (va_Nw.use rfl (hE.ng _ mn_562)) hce hcv hcl ?_
  refine lv_astore_n (lv' := [(3, .ref q9), (0, .ref x), (1, .int p0), (2, .ref o)]) hx hb dL_pass_12 rfl hl (by decide) rfl (fun ls hl => ?_)
  refine lv_iconst (v := 1) hx hb dL_pass_13 (by decide) ?_
  refine W.widen (k := 1) (n := 6) (Nat.le_of_ble_eq_true rfl) (Nat.le_of_ble_eq_true rfl) ?_
  refine vx_ret ?_
  exact W.iret (v := 1) hx hb hr (fun t ht hW => ⟨⟨1, (), rfl, rfl, trivial⟩, hS.F ht⟩) hS.2.2 dL_pass_14

set_option maxHeartbeats 4000000 in
set_option maxRecDepth 100000 in
theorem c_L_sell_1 (l : Launch) (hfl : l.stackTraces = false) (z0 : Nat) (D : va_G) (g : Nat → Nat) (x a0 a1 a2 a3 a4 a5 a6 : Nat) (cE : ClassId) (F : Nat → Option Nat) (p0 : Int32) (p1 : Int32) (o : Nat) (h : ¬ p1 = 0) : vx_Met l yL_sell (wspW yL_sell cL_sell 5 (some .int) [(0, 10, 13, 13), (0, 10, 17, 55), (0, 10, 21, 39)]) ({ frames := 7, cells := 1, slots := 6, locals := 107 }) (va_Pc [.ref x, .int p0, .int p1, .ref o] (PRC z0 D g [(cE, .object "Theatrehouse$Evening")] [(x, .inr (0, [.ref a0, .ref a1, .ref a2, .ref a3, .ref a4, .ref a5, .ref a6, .int 0, .int 0, .int 0, .int 0, .int 0, .int 0, .int 0])), (a3, .inl (cE, 100, .inr (.inr (.inr (.inr F)))))] F)) (va_Qi (fun (r : Int32) (_ : Unit) => r = 2) (fun _ _ => True) nA) xN 1 6 nA := by
  refine vx_ofWH (cc := cL_sell) (maxL := 5) (ret := (some .int)) (hh := [(0, 10, 13, 13), (0, 10, 17, 55), (0, 10, 21, 39)]) (by decide) rfl ?_
  intro p e s m args below meth c s₁ B hml hv
  obtain ⟨rfl, hE, hP, hK, hC⟩ := hv
  have hx := B.exec
  have hb := B.bytes
  have hr := B.returns
  have hts0 := atoms_spec (ws := (wspW yL_sell cL_sell 5 (some .int) [(0, 10, 13, 13), (0, 10, 17, 55), (0, 10, 21, 39)])) B.pre
  have htab := vx_table (x := yL_sell) B (hts0 _ List.mem_cons_self)
  have hts : ∀ w ∈ lw_all, w.before _ s = true := fun w h => hts0 w (List.mem_cons_of_mem _ h)
  have hown : s.vm.findClass "TheatrehouseLaw" = some m.cls := findClass_of_methodNamed B.named
  have hlocks := B.notSynchronized
  have hS : va_S nA s.heap s.heap [] := va_S.rf
  have hP : va_P D classes [(x, .inr (0, [.ref a0, .ref a1, .ref a2, .ref a3, .ref a4, .ref a5, .ref a6, .int 0, .int 0, .int 0, .int 0, .int 0, .int 0, .int 0])), (a3, .inl (cE, 100, .inr (.inr (.inr (.inr F)))))] s.heap := hP
  have hl := lv_entry ([.ref x, .int p0, .int p1, .ref o]) (n := 5) (Nat.le_of_ble_eq_true rfl)
  rw [lg_entry_eq]
  generalize (lg_sl ([.ref x, .int p0, .int p1, .ref o]) ++ List.replicate (5 - (lg_sl ([.ref x, .int p0, .int p1, .ref o])).length) Slot.unset).toArray = ls at hl ⊢
  have hl : lv_has ls 5 [(0, .ref x), (1, .int p0), (2, .int p1), (3, .ref o)] := hl
  refine lv_aload_n hx hb dL_sell_0 rfl (lv_at hl 3 rfl) ?_
  refine lv_iconst (v := 0) hx hb dL_sell_1 (by decide) ?_
  refine lv_aload_n hx hb dL_sell_2 rfl (lv_at hl 0 rfl) ?_
  refine lv_iload_n hx hb dL_sell_3 rfl (lv_at hl 1 rfl) ?_
  refine lv_iload_n hx hb dL_sell_4 rfl (lv_at hl 2 rfl) ?_
  have hc_1 := hP.sub (ws' := [(x, .inr (0, [.ref a0, .ref a1, .ref a2, .ref a3, .ref a4, .ref a5, .ref a6, .int 0, .int 0, .int 0, .int 0, .int 0, .int 0, .int 0])), (a3, .inl (cE, 100, .inr (.inr (.inr (.inr F)))))]) [0, 1] rfl
  refine vx_calli (vx_runV (As := [.int p0, .int p1]) (rest := [.int 0, .ref o]) ⟨hx, hb, hml, hown, hts⟩ (c_X10_sell_1 l hfl z0 D g x a0 a1 a2 a3 a4 a5 a6 cE F p0 p1 h) (cwV 2 hts (lw_V m_825 m_826 m_827 m_1 m_828) rfl rfl rfl (by decide +kernel) ⟨(Nat.le_of_ble_eq_true rfl), (Nat.le_of_ble_eq_true rfl)⟩) ⟨PRC.blind, va_recv hK hP (ci := 0) (q0 := 0) rfl rfl, PRC.pre hE hS nA_z hc_1 hK hC⟩ rfl rfl hl.1 rfl (lv_room (Nat.le_of_ble_eq_true rfl)) dL_sell_5 ⟨(Nat.le_of_ble_eq_true rfl), (Nat.le_of_ble_eq_true rfl)⟩) hS nA_B nA_A nA_B (fun E ce q9 u t H locs ht hvm _ hBX hz1 hk1 hS hce hcv hcl => ?_) (fun r_2 u t H locs ht hvm hw _ _ _ _ => hw.elim)
  subst hBX
  have hP := hP.old hk1
  have hP : va_P D classes [(x, .inr (0, [.ref a0, .ref a1, .ref a2, .ref a3, .ref a4, .ref a5, .ref a6, .int 0, .int 0, .int 0, .int 0, .int 0, .int 0, .int 0])), (a3, .inl (cE, 100, .inr (.inr (.inr (.inr F)))))] H := hP
  refine vx_catch hown (tableOf [(0, 10, 13, 13)]) ⟨0, 10, 17, 55⟩ (tableOf [(0, 10, 21, 39)]) (htab.trans rfl) (fun z hz => by rcases List.mem_cons.mp hz with rfl | hz <;> first | exact Or.inr ⟨by decide, "java/lang/IllegalArgumentException", hts _ m_551, hE.nc (i := 0) rfl⟩ | exact absurd hz List.not_mem_nil) (by decide) (by decide) (hts _ m_824) (va_Nw.use rfl (hE.ng _ mn_836)) hce hcv hcl ?_
  refine lv_astore (lv' := [(4, .ref q9), (0, .ref x), (1, .int p0), (2, .int p1), (3, .ref o)]) hx hb dL_sell_17 hl (by decide) rfl (fun ls hl => ?_)
  refine lv_iconst (v := 2) hx hb dL_sell_19 (by decide) ?_
  refine W.widen (k := 1) (n := 6) (Nat.le_of_ble_eq_true rfl) (Nat.le_of_ble_eq_true rfl) ?_
  refine vx_ret ?_
  exact W.iret (v := 2) hx hb hr (fun t ht hW => ⟨⟨2, (), rfl, rfl, trivial⟩, hS.F ht⟩) hS.2.2 dL_sell_20

set_option maxHeartbeats 4000000 in
set_option maxRecDepth 100000 in
theorem c_L_begin (l : Launch) (hfl : l.stackTraces = false) (z0 : Nat) (D : va_G) (g : Nat → Nat) (x a0 a1 a2 a3 a4 a5 a6 : Nat) (cE : ClassId) (F : Nat → Option Nat) (o : Nat) : vx_Met l yL_begin (wspW yL_begin cL_begin 3 (some .int) [(0, 8, 11, 15), (0, 8, 14, 55)]) ({ frames := 7, cells := 1, slots := 6, locals := 106 }) (va_Pc [.ref x, .ref o] (PRC z0 D g [(cE, .object "Theatrehouse$Evening")] [(x, .inr (0, [.ref a0, .ref a1, .ref a2, .ref a3, .ref a4, .ref a5, .ref a6, .int 0, .int 0, .int 0, .int 0, .int 0, .int 0, .int 0])), (a3, .inl (cE, 100, .inr (.inr (.inr (.inr F)))))] F)) (va_Qi (fun (r : Int32) (_ : Unit) => r = 2) (fun _ _ => True) nA) xN 1 6 nA := by
  refine vx_ofWH (cc := cL_begin) (maxL := 3) (ret := (some .int)) (hh := [(0, 8, 11, 15), (0, 8, 14, 55)]) (by decide) rfl ?_
  intro p e s m args below meth c s₁ B hml hv
  obtain ⟨rfl, hE, hP, hK, hC⟩ := hv
  have hx := B.exec
  have hb := B.bytes
  have hr := B.returns
  have hts0 := atoms_spec (ws := (wspW yL_begin cL_begin 3 (some .int) [(0, 8, 11, 15), (0, 8, 14, 55)])) B.pre
  have htab := vx_table (x := yL_begin) B (hts0 _ List.mem_cons_self)
  have hts : ∀ w ∈ lw_all, w.before _ s = true := fun w h => hts0 w (List.mem_cons_of_mem _ h)
  have hown : s.vm.findClass "TheatrehouseLaw" = some m.cls := findClass_of_methodNamed B.named
  have hlocks := B.notSynchronized
  have hS : va_S nA s.heap s.heap [] := va_S.rf
  have hP : va_P D classes [(x, .inr (0, [.ref a0, .ref a1, .ref a2, .ref a3, .ref a4, .ref a5, .ref a6, .int 0, .int 0, .int 0, .int 0, .int 0, .int 0, .int 0])), (a3, .inl (cE, 100, .inr (.inr (.inr (.inr F)))))] s.heap := hP
  have hl := lv_entry ([.ref x, .ref o]) (n := 3) (Nat.le_of_ble_eq_true rfl)
  rw [lg_entry_eq]
  generalize (lg_sl ([.ref x, .ref o]) ++ List.replicate (3 - (lg_sl ([.ref x, .ref o])).length) Slot.unset).toArray = ls at hl ⊢
  have hl : lv_has ls 3 [(0, .ref x), (1, .ref o)] := hl
  refine lv_aload_n hx hb dL_begin_0 rfl (lv_at hl 1 rfl) ?_
  refine lv_iconst (v := 0) hx hb dL_begin_1 (by decide) ?_
  refine lv_aload_n hx hb dL_begin_2 rfl (lv_at hl 0 rfl) ?_
  have hc_1 := hP.sub (ws' := [(x, .inr (0, [.ref a0, .ref a1, .ref a2, .ref a3, .ref a4, .ref a5, .ref a6, .int 0, .int 0, .int 0, .int 0, .int 0, .int 0, .int 0])), (a3, .inl (cE, 100, .inr (.inr (.inr (.inr F)))))]) [0, 1] rfl
  refine vx_calli (vx_runV (As := []) (rest := [.int 0, .ref o]) ⟨hx, hb, hml, hown, hts⟩ (c_X10_begin l hfl z0 D g x a0 a1 a2 a3 a4 a5 a6 cE F) (cwV 0 hts (lw_V m_875 m_876 m_877 m_1 m_878) rfl rfl rfl (by decide +kernel) ⟨(Nat.le_of_ble_eq_true rfl), (Nat.le_of_ble_eq_true rfl)⟩) ⟨PRC.blind, va_recv hK hP (ci := 0) (q0 := 0) rfl rfl, PRC.pre hE hS nA_z hc_1 hK hC⟩ rfl rfl hl.1 rfl (lv_room (Nat.le_of_ble_eq_true rfl)) dL_begin_3 ⟨(Nat.le_of_ble_eq_true rfl), (Nat.le_of_ble_eq_true rfl)⟩) hS nA_B nA_A nA_B (fun E ce q9 u t H locs ht hvm _ hBX hz1 hk1 hS hce hcv hcl => ?_) (fun r_2 u t H locs ht hvm hw _ _ _ _ => hw.elim)
  subst hBX
  have hP := hP.old hk1
  have hP : va_P D classes [(x, .inr (0, [.ref a0, .ref a1, .ref a2, .ref a3, .ref a4, .ref a5, .ref a6, .int 0, .int 0, .int 0, .int 0, .int 0, .int 0, .int 0])), (a3, .inl (cE, 100, .inr (.inr (.inr (.inr F)))))] H := hP
  refine vx_catch hown (tableOf [(0, 8, 11, 15)]) ⟨0, 8, 14, 55⟩ (tableOf []) (htab.trans rfl) (fun z hz => by rcases List.mem_cons.mp hz with rfl | hz <;> first | exact Or.inr ⟨by decide, "java/lang/IllegalStateException", hts _ m_552, hE.nc (i := 1) rfl⟩ | exact absurd hz List.not_mem_nil) (by decide) (by decide) (hts _ m_824) (va_Nw.use rfl (hE.ng _ mn_836)) hce hcv hcl ?_
  refine lv_astore_n (lv' := [(2, .ref q9), (0, .ref x), (1, .ref o)]) hx hb dL_begin_14 rfl hl (by decide) rfl (fun ls hl => ?_)
  refine lv_iconst (v := 2) hx hb dL_begin_15 (by decide) ?_
  refine W.widen (k := 1) (n := 6) (Nat.le_of_ble_eq_true rfl) (Nat.le_of_ble_eq_true rfl) ?_
  refine vx_ret ?_
  exact W.iret (v := 2) hx hb hr (fun t ht hW => ⟨⟨2, (), rfl, rfl, trivial⟩, hS.F ht⟩) hS.2.2 dL_begin_16

set_option maxHeartbeats 4000000 in
set_option maxRecDepth 100000 in
theorem c_L_soldShare (l : Launch) (hfl : l.stackTraces = false) (z0 : Nat) (D : va_G) (g : Nat → Nat) (x a0 a1 a2 a3 a4 a5 a6 : Nat) (cE : ClassId) (F : Nat → Option Nat) (o : Nat) : vx_Met l yL_soldShare (wspW yL_soldShare cL_soldShare 3 (some .int) [(0, 8, 11, 122)]) ({ frames := 7, cells := 1, slots := 6, locals := 105 }) (va_Pc [.ref x, .ref o] (PRC z0 D g [(cE, .object "Theatrehouse$Evening")] [(x, .inr (0, [.ref a0, .ref a1, .ref a2, .ref a3, .ref a4, .ref a5, .ref a6, .int 0, .int 0, .int 0, .int 0, .int 0, .int 0, .int 0])), (a3, .inl (cE, 100, .inr (.inr (.inr (.inr F)))))] F)) (va_Qi (fun (r : Int32) (_ : Unit) => r = 1) (fun _ _ => True) nA) xN 1 6 nA := by
  refine vx_ofWH (cc := cL_soldShare) (maxL := 3) (ret := (some .int)) (hh := [(0, 8, 11, 122)]) (by decide) rfl ?_
  intro p e s m args below meth c s₁ B hml hv
  obtain ⟨rfl, hE, hP, hK, hC⟩ := hv
  have hx := B.exec
  have hb := B.bytes
  have hr := B.returns
  have hts0 := atoms_spec (ws := (wspW yL_soldShare cL_soldShare 3 (some .int) [(0, 8, 11, 122)])) B.pre
  have htab := vx_table (x := yL_soldShare) B (hts0 _ List.mem_cons_self)
  have hts : ∀ w ∈ lw_all, w.before _ s = true := fun w h => hts0 w (List.mem_cons_of_mem _ h)
  have hown : s.vm.findClass "TheatrehouseLaw" = some m.cls := findClass_of_methodNamed B.named
  have hlocks := B.notSynchronized
  have hS : va_S nA s.heap s.heap [] := va_S.rf
  have hP : va_P D classes [(x, .inr (0, [.ref a0, .ref a1, .ref a2, .ref a3, .ref a4, .ref a5, .ref a6, .int 0, .int 0, .int 0, .int 0, .int 0, .int 0, .int 0])), (a3, .inl (cE, 100, .inr (.inr (.inr (.inr F)))))] s.heap := hP
  have hl := lv_entry ([.ref x, .ref o]) (n := 3) (Nat.le_of_ble_eq_true rfl)
  rw [lg_entry_eq]
  generalize (lg_sl ([.ref x, .ref o]) ++ List.replicate (3 - (lg_sl ([.ref x, .ref o])).length) Slot.unset).toArray = ls at hl ⊢
  have hl : lv_has ls 3 [(0, .ref x), (1, .ref o)] := hl
  refine lv_aload_n hx hb dL_soldShare_0 rfl (lv_at hl 1 rfl) ?_
  refine lv_iconst (v := 0) hx hb dL_soldShare_1 (by decide) ?_
  refine lv_aload_n hx hb dL_soldShare_2 rfl (lv_at hl 0 rfl) ?_
  have hc_1 := hP.sub (ws' := [(x, .inr (0, [.ref a0, .ref a1, .ref a2, .ref a3, .ref a4, .ref a5, .ref a6, .int 0, .int 0, .int 0, .int 0, .int 0, .int 0, .int 0])), (a3, .inl (cE, 100, .inr (.inr (.inr (.inr F)))))]) [0, 1] rfl
  refine vx_callf (vx_runV (As := []) (rest := [.int 0, .ref o]) ⟨hx, hb, hml, hown, hts⟩ (c_X10_soldShare l hfl z0 D g x a0 a1 a2 a3 a4 a5 a6 cE F) (cwV 0 hts (lw_V m_1096 m_1097 m_1098 m_1 m_1099) rfl rfl rfl (by decide +kernel) ⟨(Nat.le_of_ble_eq_true rfl), (Nat.le_of_ble_eq_true rfl)⟩) ⟨PRC.blind, va_recv hK hP (ci := 0) (q0 := 0) rfl rfl, PRC.pre hE hS nA_z hc_1 hK hC⟩ rfl rfl hl.1 rfl (lv_room (Nat.le_of_ble_eq_true rfl)) dL_soldShare_3 ⟨(Nat.le_of_ble_eq_true rfl), (Nat.le_of_ble_eq_true rfl)⟩) hS nA_B nA_A nA_B (fun E ce q9 u t H locs ht hvm _ hBX hz1 hk1 hS hce hcv hcl => ?_) (fun r_2 u t H locs ht hvm hw _ _ _ _ => hw.elim)
  subst hBX
  have hP := hP.old hk1
  have hP : va_P D classes [(x, .inr (0, [.ref a0, .ref a1, .ref a2, .ref a3, .ref a4, .ref a5, .ref a6, .int 0, .int 0, .int 0, .int 0, .int 0, .int 0, .int 0])), (a3, .inl (cE, 100, .inr (.inr (.inr (.inr F)))))] H := hP
  refine vx_catch hown (tableOf []) ⟨0, 8, 11, 122⟩ (tableOf []) (htab.trans rfl) (fun z hz => nomatch hz) (by decide) (by decide) (hts _ m_1082) (va_Nw.use rfl (hE.ng _ mn_1094)) hce hcv hcl ?_
  refine lv_astore_n (lv' := [(2, .ref q9), (0, .ref x), (1, .ref o)]) hx hb dL_soldShare_11 rfl hl (by decide) rfl (fun ls hl => ?_)
  refine lv_iconst (v := 1) hx hb dL_soldShare_12 (by decide) ?_
  refine W.widen (k := 1) (n := 6) (Nat.le_of_ble_eq_true rfl) (Nat.le_of_ble_eq_true rfl) ?_
  refine vx_ret ?_
  exact W.iret (v := 1) hx hb hr (fun t ht hW => ⟨⟨1, (), rfl, rfl, trivial⟩, hS.F ht⟩) hS.2.2 dL_soldShare_13

set_option maxHeartbeats 4000000 in
set_option maxRecDepth 100000 in
theorem c_L_addPerson_ok (l : Launch) (hfl : l.stackTraces = false) (z0 : Nat) (D : va_G) (g : Nat → Nat) (sz : Nat) (x a0 a1 a2 a3 a4 a5 a6 : Nat) (cA : ClassId) (F : Nat → Option Nat) (pp : Nat) (cJ : ClassId) (G : Nat → Int64) (p0 : Int32) (p1 : Int32) (o : Nat) (hF : F 0 = some pp) (h1 : ¬ p0 < 0) (h2 : p0 ≤ 99) (h3 : ¬ p1 < 1) (h4 : p1 ≤ 30) : vx_Met l yL_addPerson (wspW yL_addPerson cL_addPerson 5 (some .int) [(0, 10, 13, 13), (0, 10, 17, 15)]) ({ frames := 2, cells := 0, slots := 0, locals := 45 }) (va_Pc [.ref x, .int p0, .int p1, .ref o] (PMT z0 D g [(cA, .object "Theatrehouse$Person"), (cJ, .long)] sz [(x, .inr (0, [.ref a0, .ref a1, .ref a2, .ref a3, .ref a4, .ref a5, .ref a6, .int 0, .int 0, .int 0, .int 0, .int 0, .int 0, .int 0])), (a0, .inl (cA, 10, .inr (.inr (.inr (.inr F))))), (pp, .inr (1, [.int 0, .int 0, .int 0, .int 0, .int (-1), .int (-1)])), (o, .inl (cJ, 1, .inr (.inl G)))] (fun _ => True))) (va_Qi (fun (r : Int32) (_ : Unit) => r = 0) (fun (_ : Unit) t => va_P D classes [(o, .inl (cJ, 1, .inr (.inl (vp_updL G (Int32.toNatClampNeg 0) (0)))))] t.heap ∧ va_D (va_A [(x, .inr (0, [.ref a0, .ref a1, .ref a2, .ref a3, .ref a4, .ref a5, .ref a6, .int 0, .int 0, .int 0, .int 0, .int 0, .int 0, .int 0])), (a0, .inl (cA, 10, .inr (.inr (.inr (.inr F))))), (pp, .inr (1, [.int 0, .int 0, .int 0, .int 0, .int (-1), .int (-1)])), (o, .inl (cJ, 1, .inr (.inl G)))] sz) [(o, .inl (cJ, 1, .inr (.inl (vp_updL G (Int32.toNatClampNeg 0) (0)))))]) (va_A [(x, .inr (0, [.ref a0, .ref a1, .ref a2, .ref a3, .ref a4, .ref a5, .ref a6, .int 0, .int 0, .int 0, .int 0, .int 0, .int 0, .int 0])), (a0, .inl (cA, 10, .inr (.inr (.inr (.inr F))))), (pp, .inr (1, [.int 0, .int 0, .int 0, .int 0, .int (-1), .int (-1)])), (o, .inl (cJ, 1, .inr (.inl G)))] sz)) xN 0 0 (va_A [(x, .inr (0, [.ref a0, .ref a1, .ref a2, .ref a3, .ref a4, .ref a5, .ref a6, .int 0, .int 0, .int 0, .int 0, .int 0, .int 0, .int 0])), (a0, .inl (cA, 10, .inr (.inr (.inr (.inr F))))), (pp, .inr (1, [.int 0, .int 0, .int 0, .int 0, .int (-1), .int (-1)])), (o, .inl (cJ, 1, .inr (.inl G)))] sz) := by
  refine vx_ofWH (cc := cL_addPerson) (maxL := 5) (ret := (some .int)) (hh := [(0, 10, 13, 13), (0, 10, 17, 15)]) (by decide) rfl ?_
  intro p e s m args below meth c s₁ B hml hv
  obtain ⟨rfl, ⟨hsz9, hz0, hE, hP, hD0⟩, hK, hC⟩ := hv
  have hx := B.exec
  have hb := B.bytes
  have hr := B.returns
  have hts0 := atoms_spec (ws := (wspW yL_addPerson cL_addPerson 5 (some .int) [(0, 10, 13, 13), (0, 10, 17, 15)])) B.pre
  have htab := vx_table (x := yL_addPerson) B (hts0 _ List.mem_cons_self)
  have hts : ∀ w ∈ lw_all, w.before _ s = true := fun w h => hts0 w (List.mem_cons_of_mem _ h)
  have hown : s.vm.findClass "TheatrehouseLaw" = some m.cls := findClass_of_methodNamed B.named
  have hlocks := B.notSynchronized
  subst hsz9
  have hsz := hz0
  have hAz : ∀ q, va_A [(x, .inr (0, [.ref a0, .ref a1, .ref a2, .ref a3, .ref a4, .ref a5, .ref a6, .int 0, .int 0, .int 0, .int 0, .int 0, .int 0, .int 0])), (a0, .inl (cA, 10, .inr (.inr (.inr (.inr F))))), (pp, .inr (1, [.int 0, .int 0, .int 0, .int 0, .int (-1), .int (-1)])), (o, .inl (cJ, 1, .inr (.inl G)))] s.heap.size q → z0 ≤ q := vaA_z hz0 hD0
  have hD := hD0.self (sz := s.heap.size)
  generalize hAe : va_A [(x, .inr (0, [.ref a0, .ref a1, .ref a2, .ref a3, .ref a4, .ref a5, .ref a6, .int 0, .int 0, .int 0, .int 0, .int 0, .int 0, .int 0])), (a0, .inl (cA, 10, .inr (.inr (.inr (.inr F))))), (pp, .inr (1, [.int 0, .int 0, .int 0, .int 0, .int (-1), .int (-1)])), (o, .inl (cJ, 1, .inr (.inl G)))] s.heap.size = A at hD hAz ⊢
  have hA : ∀ q : Nat, s.heap.size ≤ q → A q := fun q h => by rw [← hAe]; exact Or.inr h
  have hS : va_S A s.heap s.heap [] := va_S.rf
  have hP : va_P D classes [(x, .inr (0, [.ref a0, .ref a1, .ref a2, .ref a3, .ref a4, .ref a5, .ref a6, .int 0, .int 0, .int 0, .int 0, .int 0, .int 0, .int 0])), (a0, .inl (cA, 10, .inr (.inr (.inr (.inr F))))), (pp, .inr (1, [.int 0, .int 0, .int 0, .int 0, .int (-1), .int (-1)])), (o, .inl (cJ, 1, .inr (.inl G)))] s.heap := hP
  have hl := lv_entry ([.ref x, .int p0, .int p1, .ref o]) (n := 5) (Nat.le_of_ble_eq_true rfl)
  rw [lg_entry_eq]
  generalize (lg_sl ([.ref x, .int p0, .int p1, .ref o]) ++ List.replicate (5 - (lg_sl ([.ref x, .int p0, .int p1, .ref o])).length) Slot.unset).toArray = ls at hl ⊢
  have hl : lv_has ls 5 [(0, .ref x), (1, .int p0), (2, .int p1), (3, .ref o)] := hl
  refine lv_aload_n hx hb dL_addPerson_0 rfl (lv_at hl 3 rfl) ?_
  refine lv_iconst (v := 0) hx hb dL_addPerson_1 (by decide) ?_
  refine lv_aload_n hx hb dL_addPerson_2 rfl (lv_at hl 0 rfl) ?_
  refine lv_iload_n hx hb dL_addPerson_3 rfl (lv_at hl 1 rfl) ?_
  refine lv_iload_n hx hb dL_addPerson_4 rfl (lv_at hl 2 rfl) ?_
  have hc_1 := hP.sub (ws' := [(x, .inr (0, [.ref a0, .ref a1, .ref a2, .ref a3, .ref a4, .ref a5, .ref a6, .int 0, .int 0, .int 0, .int 0, .int 0, .int 0, .int 0])), (a0, .inl (cA, 10, .inr (.inr (.inr (.inr F))))), (pp, .inr (1, [.int 0, .int 0, .int 0, .int 0, .int (-1), .int (-1)]))]) [0, 1, 2] rfl
  have hc_1D := hD.sub (ws' := [(x, .inr (0, [.ref a0, .ref a1, .ref a2, .ref a3, .ref a4, .ref a5, .ref a6, .int 0, .int 0, .int 0, .int 0, .int 0, .int 0, .int 0])), (a0, .inl (cA, 10, .inr (.inr (.inr (.inr F))))), (pp, .inr (1, [.int 0, .int 0, .int 0, .int 0, .int (-1), .int (-1)]))]) [0, 1, 2] (by decide) rfl
  have hc_1F := va_free (wc := [(x, .inr (0, [.ref a0, .ref a1, .ref a2, .ref a3, .ref a4, .ref a5, .ref a6, .int 0, .int 0, .int 0, .int 0, .int 0, .int 0, .int 0])), (a0, .inl (cA, 10, .inr (.inr (.inr (.inr F))))), (pp, .inr (1, [.int 0, .int 0, .int 0, .int 0, .int (-1), .int (-1)]))]) hD hS hA [0, 1, 2] rfl
  refine va_calli (va_runV (As := [.int p0, .int p1]) (rest := [.int 0, .ref o]) ⟨hx, hb, hml, hown, hts⟩ (c_X10_addPerson_ok l z0 D g _ x a0 a1 a2 a3 a4 a5 a6 cA F pp p0 p1 hF h1 h2 h3 h4) (cwV 2 hts (lw_V m_553 m_554 m_555 m_1 m_556) rfl rfl rfl (by decide +kernel) ⟨(Nat.le_of_ble_eq_true rfl), (Nat.le_of_ble_eq_true rfl)⟩) ⟨PMT.blind, va_recv hK hP (ci := 0) (q0 := 0) rfl rfl, PMT.pre hE hS hAz hsz hc_1 hc_1D (hK.sub [0] rfl) trivial⟩ rfl rfl hl.1 rfl (lv_room (Nat.le_of_ble_eq_true rfl)) dL_addPerson_5 ⟨(Nat.le_of_ble_eq_true rfl), (Nat.le_of_ble_eq_true rfl)⟩) hS (fun q _ h => hc_1F q h) hc_1F (fun r_2 u_3 t H locs ht hvm hw hB hz1 hk1 hS => ?_)
  obtain ⟨hP, hD⟩ := va_join (wr := [(o, .inl (cJ, 1, .inr (.inl G)))]) (w1 := []) hP hD [0, 1, 2] [3] rfl rfl (by decide) (by decide) hk1 hc_1F va_nil va_dnil
  have hP : va_P D classes [(o, .inl (cJ, 1, .inr (.inl G)))] H := hP
  have hD : va_D A [(o, .inl (cJ, 1, .inr (.inl G)))] := hD
  subst hw
  refine lv_i2l (v := (0)) hx hb dL_addPerson_8 (by decide) ?_
  refine va_last hx hb hK hP hD hS 0 1 rfl rfl (i := 0) (by unfold vp_in; decide) dL_addPerson_9 (fun H locs hP hD hS => ?_)
  have hP : va_P D classes [(o, .inl (cJ, 1, .inr (.inl (vp_updL G (Int32.toNatClampNeg 0) (0)))))] H := hP
  have hD : va_D A [(o, .inl (cJ, 1, .inr (.inl (vp_updL G (Int32.toNatClampNeg 0) (0)))))] := hD
  refine lv_goto (tgt := 21) hx hb dL_addPerson_10 (by decide) ?_
  refine lv_iconst (v := 0) hx hb dL_addPerson_21 (by decide) ?_
  have hP9 := hP.sub (ws' := [(o, .inl (cJ, 1, .inr (.inl (vp_updL G (Int32.toNatClampNeg 0) (0)))))]) [0] rfl
  have hD9 := hD.sub (ws' := [(o, .inl (cJ, 1, .inr (.inl (vp_updL G (Int32.toNatClampNeg 0) (0)))))]) [0] (by decide) rfl
  refine W.widen (k := 0) (n := 0) (Nat.le_of_ble_eq_true rfl) (Nat.le_of_ble_eq_true rfl) ?_
  refine vx_ret ?_
  exact W.iret (v := 0) hx hb hr (fun t ht hW => ⟨⟨0, (), rfl, rfl, ⟨by rw [ht]; exact hP9, hD9⟩⟩, hS.F ht⟩) hS.2.2 dL_addPerson_22

set_option maxHeartbeats 4000000 in
set_option maxRecDepth 100000 in
theorem c_L_addMachine_ok (l : Launch) (hfl : l.stackTraces = false) (z0 : Nat) (D : va_G) (g : Nat → Nat) (sz : Nat) (x a0 a1 a2 a3 a4 a5 a6 : Nat) (cA : ClassId) (F : Nat → Option Nat) (pp : Nat) (cJ : ClassId) (G : Nat → Int64) (p0 : Int32) (p1 : Int32) (o : Nat) (hF : F 0 = some pp) (h1 : ¬ p0 < 0) (h2 : p0 ≤ 4) (h3 : ¬ p1 < 0) (h4 : p1 ≤ 9) : vx_Met l yL_addMachine (wspW yL_addMachine cL_addMachine 5 (some .int) [(0, 10, 13, 13), (0, 10, 17, 15)]) ({ frames := 2, cells := 0, slots := 0, locals := 45 }) (va_Pc [.ref x, .int p0, .int p1, .ref o] (PMT z0 D g [(cA, .object "Theatrehouse$Machine"), (cJ, .long)] sz [(x, .inr (0, [.ref a0, .ref a1, .ref a2, .ref a3, .ref a4, .ref a5, .ref a6, .int 0, .int 0, .int 0, .int 0, .int 0, .int 0, .int 0])), (a1, .inl (cA, 6, .inr (.inr (.inr (.inr F))))), (pp, .inr (2, [.int 0, .int 0, .int (-1), .int 0, .int 0])), (o, .inl (cJ, 1, .inr (.inl G)))] (fun _ => True))) (va_Qi (fun (r : Int32) (_ : Unit) => r = 0) (fun (_ : Unit) t => va_P D classes [(o, .inl (cJ, 1, .inr (.inl (vp_updL G (Int32.toNatClampNeg 0) (0)))))] t.heap ∧ va_D (va_A [(x, .inr (0, [.ref a0, .ref a1, .ref a2, .ref a3, .ref a4, .ref a5, .ref a6, .int 0, .int 0, .int 0, .int 0, .int 0, .int 0, .int 0])), (a1, .inl (cA, 6, .inr (.inr (.inr (.inr F))))), (pp, .inr (2, [.int 0, .int 0, .int (-1), .int 0, .int 0])), (o, .inl (cJ, 1, .inr (.inl G)))] sz) [(o, .inl (cJ, 1, .inr (.inl (vp_updL G (Int32.toNatClampNeg 0) (0)))))]) (va_A [(x, .inr (0, [.ref a0, .ref a1, .ref a2, .ref a3, .ref a4, .ref a5, .ref a6, .int 0, .int 0, .int 0, .int 0, .int 0, .int 0, .int 0])), (a1, .inl (cA, 6, .inr (.inr (.inr (.inr F))))), (pp, .inr (2, [.int 0, .int 0, .int (-1), .int 0, .int 0])), (o, .inl (cJ, 1, .inr (.inl G)))] sz)) xN 0 0 (va_A [(x, .inr (0, [.ref a0, .ref a1, .ref a2, .ref a3, .ref a4, .ref a5, .ref a6, .int 0, .int 0, .int 0, .int 0, .int 0, .int 0, .int 0])), (a1, .inl (cA, 6, .inr (.inr (.inr (.inr F))))), (pp, .inr (2, [.int 0, .int 0, .int (-1), .int 0, .int 0])), (o, .inl (cJ, 1, .inr (.inl G)))] sz) := by
  refine vx_ofWH (cc := cL_addMachine) (maxL := 5) (ret := (some .int)) (hh := [(0, 10, 13, 13), (0, 10, 17, 15)]) (by decide) rfl ?_
  intro p e s m args below meth c s₁ B hml hv
  obtain ⟨rfl, ⟨hsz9, hz0, hE, hP, hD0⟩, hK, hC⟩ := hv
  have hx := B.exec
  have hb := B.bytes
  have hr := B.returns
  have hts0 := atoms_spec (ws := (wspW yL_addMachine cL_addMachine 5 (some .int) [(0, 10, 13, 13), (0, 10, 17, 15)])) B.pre
  have htab := vx_table (x := yL_addMachine) B (hts0 _ List.mem_cons_self)
  have hts : ∀ w ∈ lw_all, w.before _ s = true := fun w h => hts0 w (List.mem_cons_of_mem _ h)
  have hown : s.vm.findClass "TheatrehouseLaw" = some m.cls := findClass_of_methodNamed B.named
  have hlocks := B.notSynchronized
  subst hsz9
  have hsz := hz0
  have hAz : ∀ q, va_A [(x, .inr (0, [.ref a0, .ref a1, .ref a2, .ref a3, .ref a4, .ref a5, .ref a6, .int 0, .int 0, .int 0, .int 0, .int 0, .int 0, .int 0])), (a1, .inl (cA, 6, .inr (.inr (.inr (.inr F))))), (pp, .inr (2, [.int 0, .int 0, .int (-1), .int 0, .int 0])), (o, .inl (cJ, 1, .inr (.inl G)))] s.heap.size q → z0 ≤ q := vaA_z hz0 hD0
  have hD := hD0.self (sz := s.heap.size)
  generalize hAe : va_A [(x, .inr (0, [.ref a0, .ref a1, .ref a2, .ref a3, .ref a4, .ref a5, .ref a6, .int 0, .int 0, .int 0, .int 0, .int 0, .int 0, .int 0])), (a1, .inl (cA, 6, .inr (.inr (.inr (.inr F))))), (pp, .inr (2, [.int 0, .int 0, .int (-1), .int 0, .int 0])), (o, .inl (cJ, 1, .inr (.inl G)))] s.heap.size = A at hD hAz ⊢
  have hA : ∀ q : Nat, s.heap.size ≤ q → A q := fun q h => by rw [← hAe]; exact Or.inr h
  have hS : va_S A s.heap s.heap [] := va_S.rf
  have hP : va_P D classes [(x, .inr (0, [.ref a0, .ref a1, .ref a2, .ref a3, .ref a4, .ref a5, .ref a6, .int 0, .int 0, .int 0, .int 0, .int 0, .int 0, .int 0])), (a1, .inl (cA, 6, .inr (.inr (.inr (.inr F))))), (pp, .inr (2, [.int 0, .int 0, .int (-1), .int 0, .int 0])), (o, .inl (cJ, 1, .inr (.inl G)))] s.heap := hP
  have hl := lv_entry ([.ref x, .int p0, .int p1, .ref o]) (n := 5) (Nat.le_of_ble_eq_true rfl)
  rw [lg_entry_eq]
  generalize (lg_sl ([.ref x, .int p0, .int p1, .ref o]) ++ List.replicate (5 - (lg_sl ([.ref x, .int p0, .int p1, .ref o])).length) Slot.unset).toArray = ls at hl ⊢
  have hl : lv_has ls 5 [(0, .ref x), (1, .int p0), (2, .int p1), (3, .ref o)] := hl
  refine lv_aload_n hx hb dL_addMachine_0 rfl (lv_at hl 3 rfl) ?_
  refine lv_iconst (v := 0) hx hb dL_addMachine_1 (by decide) ?_
  refine lv_aload_n hx hb dL_addMachine_2 rfl (lv_at hl 0 rfl) ?_
  refine lv_iload_n hx hb dL_addMachine_3 rfl (lv_at hl 1 rfl) ?_
  refine lv_iload_n hx hb dL_addMachine_4 rfl (lv_at hl 2 rfl) ?_
  have hc_1 := hP.sub (ws' := [(x, .inr (0, [.ref a0, .ref a1, .ref a2, .ref a3, .ref a4, .ref a5, .ref a6, .int 0, .int 0, .int 0, .int 0, .int 0, .int 0, .int 0])), (a1, .inl (cA, 6, .inr (.inr (.inr (.inr F))))), (pp, .inr (2, [.int 0, .int 0, .int (-1), .int 0, .int 0]))]) [0, 1, 2] rfl
  have hc_1D := hD.sub (ws' := [(x, .inr (0, [.ref a0, .ref a1, .ref a2, .ref a3, .ref a4, .ref a5, .ref a6, .int 0, .int 0, .int 0, .int 0, .int 0, .int 0, .int 0])), (a1, .inl (cA, 6, .inr (.inr (.inr (.inr F))))), (pp, .inr (2, [.int 0, .int 0, .int (-1), .int 0, .int 0]))]) [0, 1, 2] (by decide) rfl
  have hc_1F := va_free (wc := [(x, .inr (0, [.ref a0, .ref a1, .ref a2, .ref a3, .ref a4, .ref a5, .ref a6, .int 0, .int 0, .int 0, .int 0, .int 0, .int 0, .int 0])), (a1, .inl (cA, 6, .inr (.inr (.inr (.inr F))))), (pp, .inr (2, [.int 0, .int 0, .int (-1), .int 0, .int 0]))]) hD hS hA [0, 1, 2] rfl
  refine va_calli (va_runV (As := [.int p0, .int p1]) (rest := [.int 0, .ref o]) ⟨hx, hb, hml, hown, hts⟩ (c_X10_addMachine_ok l z0 D g _ x a0 a1 a2 a3 a4 a5 a6 cA F pp p0 p1 hF h1 h2 h3 h4) (cwV 2 hts (lw_V m_722 m_723 m_724 m_1 m_725) rfl rfl rfl (by decide +kernel) ⟨(Nat.le_of_ble_eq_true rfl), (Nat.le_of_ble_eq_true rfl)⟩) ⟨PMT.blind, va_recv hK hP (ci := 0) (q0 := 0) rfl rfl, PMT.pre hE hS hAz hsz hc_1 hc_1D (hK.sub [0] rfl) trivial⟩ rfl rfl hl.1 rfl (lv_room (Nat.le_of_ble_eq_true rfl)) dL_addMachine_5 ⟨(Nat.le_of_ble_eq_true rfl), (Nat.le_of_ble_eq_true rfl)⟩) hS (fun q _ h => hc_1F q h) hc_1F (fun r_2 u_3 t H locs ht hvm hw hB hz1 hk1 hS => ?_)
  obtain ⟨hP, hD⟩ := va_join (wr := [(o, .inl (cJ, 1, .inr (.inl G)))]) (w1 := []) hP hD [0, 1, 2] [3] rfl rfl (by decide) (by decide) hk1 hc_1F va_nil va_dnil
  have hP : va_P D classes [(o, .inl (cJ, 1, .inr (.inl G)))] H := hP
  have hD : va_D A [(o, .inl (cJ, 1, .inr (.inl G)))] := hD
  subst hw
  refine lv_i2l (v := (0)) hx hb dL_addMachine_8 (by decide) ?_
  refine va_last hx hb hK hP hD hS 0 1 rfl rfl (i := 0) (by unfold vp_in; decide) dL_addMachine_9 (fun H locs hP hD hS => ?_)
  have hP : va_P D classes [(o, .inl (cJ, 1, .inr (.inl (vp_updL G (Int32.toNatClampNeg 0) (0)))))] H := hP
  have hD : va_D A [(o, .inl (cJ, 1, .inr (.inl (vp_updL G (Int32.toNatClampNeg 0) (0)))))] := hD
  refine lv_goto (tgt := 21) hx hb dL_addMachine_10 (by decide) ?_
  refine lv_iconst (v := 0) hx hb dL_addMachine_21 (by decide) ?_
  have hP9 := hP.sub (ws' := [(o, .inl (cJ, 1, .inr (.inl (vp_updL G (Int32.toNatClampNeg 0) (0)))))]) [0] rfl
  have hD9 := hD.sub (ws' := [(o, .inl (cJ, 1, .inr (.inl (vp_updL G (Int32.toNatClampNeg 0) (0)))))]) [0] (by decide) rfl
  refine W.widen (k := 0) (n := 0) (Nat.le_of_ble_eq_true rfl) (Nat.le_of_ble_eq_true rfl) ?_
  refine vx_ret ?_
  exact W.iret (v := 0) hx hb hr (fun t ht hW => ⟨⟨0, (), rfl, rfl, ⟨by rw [ht]; exact hP9, hD9⟩⟩, hS.F ht⟩) hS.2.2 dL_addMachine_22

set_option maxHeartbeats 4000000 in
set_option maxRecDepth 100000 in
theorem c_L_addWork_ok (l : Launch) (hfl : l.stackTraces = false) (z0 : Nat) (D : va_G) (g : Nat → Nat) (sz : Nat) (x a0 a1 a2 a3 a4 a5 a6 : Nat) (cA : ClassId) (F : Nat → Option Nat) (pp : Nat) (w1 w2 w3 : Nat) (cJ : ClassId) (G : Nat → Int64) (p0 : Int32) (p1 : Int32) (o : Nat) (hF : F 0 = some pp) (h1 : ¬ p0 < 1) (h2 : p0 ≤ 5) (h3 : ¬ p1 < 1) (h4 : p1 ≤ 99) : vx_Met l yL_addWork (wspW yL_addWork cL_addWork 5 (some .int) [(0, 10, 13, 13), (0, 10, 17, 15)]) ({ frames := 2, cells := 0, slots := 0, locals := 45 }) (va_Pc [.ref x, .int p0, .int p1, .ref o] (PMT z0 D g [(cA, .object "Theatrehouse$Work"), (cJ, .long)] sz [(x, .inr (0, [.ref a0, .ref a1, .ref a2, .ref a3, .ref a4, .ref a5, .ref a6, .int 0, .int 0, .int 0, .int 0, .int 0, .int 0, .int 0])), (a2, .inl (cA, 3, .inr (.inr (.inr (.inr F))))), (pp, .inr (3, [.int 0, .int 0, .int 0, .int 0, .ref w1, .ref w2, .ref w3])), (o, .inl (cJ, 1, .inr (.inl G)))] (fun _ => True))) (va_Qi (fun (r : Int32) (_ : Unit) => r = 0) (fun (_ : Unit) t => va_P D classes [(o, .inl (cJ, 1, .inr (.inl (vp_updL G (Int32.toNatClampNeg 0) (0)))))] t.heap ∧ va_D (va_A [(x, .inr (0, [.ref a0, .ref a1, .ref a2, .ref a3, .ref a4, .ref a5, .ref a6, .int 0, .int 0, .int 0, .int 0, .int 0, .int 0, .int 0])), (a2, .inl (cA, 3, .inr (.inr (.inr (.inr F))))), (pp, .inr (3, [.int 0, .int 0, .int 0, .int 0, .ref w1, .ref w2, .ref w3])), (o, .inl (cJ, 1, .inr (.inl G)))] sz) [(o, .inl (cJ, 1, .inr (.inl (vp_updL G (Int32.toNatClampNeg 0) (0)))))]) (va_A [(x, .inr (0, [.ref a0, .ref a1, .ref a2, .ref a3, .ref a4, .ref a5, .ref a6, .int 0, .int 0, .int 0, .int 0, .int 0, .int 0, .int 0])), (a2, .inl (cA, 3, .inr (.inr (.inr (.inr F))))), (pp, .inr (3, [.int 0, .int 0, .int 0, .int 0, .ref w1, .ref w2, .ref w3])), (o, .inl (cJ, 1, .inr (.inl G)))] sz)) xN 0 0 (va_A [(x, .inr (0, [.ref a0, .ref a1, .ref a2, .ref a3, .ref a4, .ref a5, .ref a6, .int 0, .int 0, .int 0, .int 0, .int 0, .int 0, .int 0])), (a2, .inl (cA, 3, .inr (.inr (.inr (.inr F))))), (pp, .inr (3, [.int 0, .int 0, .int 0, .int 0, .ref w1, .ref w2, .ref w3])), (o, .inl (cJ, 1, .inr (.inl G)))] sz) := by
  refine vx_ofWH (cc := cL_addWork) (maxL := 5) (ret := (some .int)) (hh := [(0, 10, 13, 13), (0, 10, 17, 15)]) (by decide) rfl ?_
  intro p e s m args below meth c s₁ B hml hv
  obtain ⟨rfl, ⟨hsz9, hz0, hE, hP, hD0⟩, hK, hC⟩ := hv
  have hx := B.exec
  have hb := B.bytes
  have hr := B.returns
  have hts0 := atoms_spec (ws := (wspW yL_addWork cL_addWork 5 (some .int) [(0, 10, 13, 13), (0, 10, 17, 15)])) B.pre
  have htab := vx_table (x := yL_addWork) B (hts0 _ List.mem_cons_self)
  have hts : ∀ w ∈ lw_all, w.before _ s = true := fun w h => hts0 w (List.mem_cons_of_mem _ h)
  have hown : s.vm.findClass "TheatrehouseLaw" = some m.cls := findClass_of_methodNamed B.named
  have hlocks := B.notSynchronized
  subst hsz9
  have hsz := hz0
  have hAz : ∀ q, va_A [(x, .inr (0, [.ref a0, .ref a1, .ref a2, .ref a3, .ref a4, .ref a5, .ref a6, .int 0, .int 0, .int 0, .int 0, .int 0, .int 0, .int 0])), (a2, .inl (cA, 3, .inr (.inr (.inr (.inr F))))), (pp, .inr (3, [.int 0, .int 0, .int 0, .int 0, .ref w1, .ref w2, .ref w3])), (o, .inl (cJ, 1, .inr (.inl G)))] s.heap.size q → z0 ≤ q := vaA_z hz0 hD0
  have hD := hD0.self (sz := s.heap.size)
  generalize hAe : va_A [(x, .inr (0, [.ref a0, .ref a1, .ref a2, .ref a3, .ref a4, .ref a5, .ref a6, .int 0, .int 0, .int 0, .int 0, .int 0, .int 0, .int 0])), (a2, .inl (cA, 3, .inr (.inr (.inr (.inr F))))), (pp, .inr (3, [.int 0, .int 0, .int 0, .int 0, .ref w1, .ref w2, .ref w3])), (o, .inl (cJ, 1, .inr (.inl G)))] s.heap.size = A at hD hAz ⊢
  have hA : ∀ q : Nat, s.heap.size ≤ q → A q := fun q h => by rw [← hAe]; exact Or.inr h
  have hS : va_S A s.heap s.heap [] := va_S.rf
  have hP : va_P D classes [(x, .inr (0, [.ref a0, .ref a1, .ref a2, .ref a3, .ref a4, .ref a5, .ref a6, .int 0, .int 0, .int 0, .int 0, .int 0, .int 0, .int 0])), (a2, .inl (cA, 3, .inr (.inr (.inr (.inr F))))), (pp, .inr (3, [.int 0, .int 0, .int 0, .int 0, .ref w1, .ref w2, .ref w3])), (o, .inl (cJ, 1, .inr (.inl G)))] s.heap := hP
  have hl := lv_entry ([.ref x, .int p0, .int p1, .ref o]) (n := 5) (Nat.le_of_ble_eq_true rfl)
  rw [lg_entry_eq]
  generalize (lg_sl ([.ref x, .int p0, .int p1, .ref o]) ++ List.replicate (5 - (lg_sl ([.ref x, .int p0, .int p1, .ref o])).length) Slot.unset).toArray = ls at hl ⊢
  have hl : lv_has ls 5 [(0, .ref x), (1, .int p0), (2, .int p1), (3, .ref o)] := hl
  refine lv_aload_n hx hb dL_addWork_0 rfl (lv_at hl 3 rfl) ?_
  refine lv_iconst (v := 0) hx hb dL_addWork_1 (by decide) ?_
  refine lv_aload_n hx hb dL_addWork_2 rfl (lv_at hl 0 rfl) ?_
  refine lv_iload_n hx hb dL_addWork_3 rfl (lv_at hl 1 rfl) ?_
  refine lv_iload_n hx hb dL_addWork_4 rfl (lv_at hl 2 rfl) ?_
  have hc_1 := hP.sub (ws' := [(x, .inr (0, [.ref a0, .ref a1, .ref a2, .ref a3, .ref a4, .ref a5, .ref a6, .int 0, .int 0, .int 0, .int 0, .int 0, .int 0, .int 0])), (a2, .inl (cA, 3, .inr (.inr (.inr (.inr F))))), (pp, .inr (3, [.int 0, .int 0, .int 0, .int 0, .ref w1, .ref w2, .ref w3]))]) [0, 1, 2] rfl
  have hc_1D := hD.sub (ws' := [(x, .inr (0, [.ref a0, .ref a1, .ref a2, .ref a3, .ref a4, .ref a5, .ref a6, .int 0, .int 0, .int 0, .int 0, .int 0, .int 0, .int 0])), (a2, .inl (cA, 3, .inr (.inr (.inr (.inr F))))), (pp, .inr (3, [.int 0, .int 0, .int 0, .int 0, .ref w1, .ref w2, .ref w3]))]) [0, 1, 2] (by decide) rfl
  have hc_1F := va_free (wc := [(x, .inr (0, [.ref a0, .ref a1, .ref a2, .ref a3, .ref a4, .ref a5, .ref a6, .int 0, .int 0, .int 0, .int 0, .int 0, .int 0, .int 0])), (a2, .inl (cA, 3, .inr (.inr (.inr (.inr F))))), (pp, .inr (3, [.int 0, .int 0, .int 0, .int 0, .ref w1, .ref w2, .ref w3]))]) hD hS hA [0, 1, 2] rfl
  refine va_calli (va_runV (As := [.int p0, .int p1]) (rest := [.int 0, .ref o]) ⟨hx, hb, hml, hown, hts⟩ (c_X10_addWork_ok l z0 D g _ x a0 a1 a2 a3 a4 a5 a6 cA F pp w1 w2 w3 p0 p1 hF h1 h2 h3 h4) (cwV 2 hts (lw_V m_741 m_742 m_743 m_1 m_744) rfl rfl rfl (by decide +kernel) ⟨(Nat.le_of_ble_eq_true rfl), (Nat.le_of_ble_eq_true rfl)⟩) ⟨PMT.blind, va_recv hK hP (ci := 0) (q0 := 0) rfl rfl, PMT.pre hE hS hAz hsz hc_1 hc_1D (hK.sub [0] rfl) trivial⟩ rfl rfl hl.1 rfl (lv_room (Nat.le_of_ble_eq_true rfl)) dL_addWork_5 ⟨(Nat.le_of_ble_eq_true rfl), (Nat.le_of_ble_eq_true rfl)⟩) hS (fun q _ h => hc_1F q h) hc_1F (fun r_2 u_3 t H locs ht hvm hw hB hz1 hk1 hS => ?_)
  obtain ⟨hP, hD⟩ := va_join (wr := [(o, .inl (cJ, 1, .inr (.inl G)))]) (w1 := []) hP hD [0, 1, 2] [3] rfl rfl (by decide) (by decide) hk1 hc_1F va_nil va_dnil
  have hP : va_P D classes [(o, .inl (cJ, 1, .inr (.inl G)))] H := hP
  have hD : va_D A [(o, .inl (cJ, 1, .inr (.inl G)))] := hD
  subst hw
  refine lv_i2l (v := (0)) hx hb dL_addWork_8 (by decide) ?_
  refine va_last hx hb hK hP hD hS 0 1 rfl rfl (i := 0) (by unfold vp_in; decide) dL_addWork_9 (fun H locs hP hD hS => ?_)
  have hP : va_P D classes [(o, .inl (cJ, 1, .inr (.inl (vp_updL G (Int32.toNatClampNeg 0) (0)))))] H := hP
  have hD : va_D A [(o, .inl (cJ, 1, .inr (.inl (vp_updL G (Int32.toNatClampNeg 0) (0)))))] := hD
  refine lv_goto (tgt := 21) hx hb dL_addWork_10 (by decide) ?_
  refine lv_iconst (v := 0) hx hb dL_addWork_21 (by decide) ?_
  have hP9 := hP.sub (ws' := [(o, .inl (cJ, 1, .inr (.inl (vp_updL G (Int32.toNatClampNeg 0) (0)))))]) [0] rfl
  have hD9 := hD.sub (ws' := [(o, .inl (cJ, 1, .inr (.inl (vp_updL G (Int32.toNatClampNeg 0) (0)))))]) [0] (by decide) rfl
  refine W.widen (k := 0) (n := 0) (Nat.le_of_ble_eq_true rfl) (Nat.le_of_ble_eq_true rfl) ?_
  refine vx_ret ?_
  exact W.iret (v := 0) hx hb hr (fun t ht hW => ⟨⟨0, (), rfl, rfl, ⟨by rw [ht]; exact hP9, hD9⟩⟩, hS.F ht⟩) hS.2.2 dL_addWork_22

set_option maxHeartbeats 4000000 in
set_option maxRecDepth 100000 in
theorem c_L_pass_ok (l : Launch) (hfl : l.stackTraces = false) (z0 : Nat) (D : va_G) (g : Nat → Nat) (sz : Nat) (x a0 a1 a2 a3 a4 a5 a6 : Nat) (cE : ClassId) (F : Nat → Option Nat) (cJ : ClassId) (G : Nat → Int64) (p0 : Int32) (o : Nat) (d : Nat) (hd : d ≤ 30) (ed : p0 = nI d) (h1 : ¬ p0 < 1) (h2 : p0 ≤ 30) (h3 : ¬ (0 + p0) < 0) (h4 : (0 + p0) ≤ 99) : vx_Met l yL_pass (wspW yL_pass cL_pass 4 (some .int) [(0, 9, 12, 13), (0, 9, 15, 15)]) ({ frames := 2, cells := 0, slots := 0, locals := 44 }) (va_Pc [.ref x, .int p0, .ref o] (PMT z0 D g [(cE, .object "Theatrehouse$Evening"), (cJ, .long)] sz [(x, .inr (0, [.ref a0, .ref a1, .ref a2, .ref a3, .ref a4, .ref a5, .ref a6, .int 0, .int 0, .int 0, .int 0, .int 0, .int 0, .int 0])), (a3, .inl (cE, 100, .inr (.inr (.inr (.inr F))))), (o, .inl (cJ, 1, .inr (.inl G)))] (CAL D g F))) (va_Qi (fun (r : Int32) (_ : Unit) => r = 0) (fun (_ : Unit) t => va_P D classes [(o, .inl (cJ, 1, .inr (.inl (vp_updL G (Int32.toNatClampNeg 0) (Int32.toInt64 (0 + p0))))))] t.heap ∧ va_D (va_A [(x, .inr (0, [.ref a0, .ref a1, .ref a2, .ref a3, .ref a4, .ref a5, .ref a6, .int 0, .int 0, .int 0, .int 0, .int 0, .int 0, .int 0])), (a3, .inl (cE, 100, .inr (.inr (.inr (.inr F))))), (o, .inl (cJ, 1, .inr (.inl G)))] sz) [(o, .inl (cJ, 1, .inr (.inl (vp_updL G (Int32.toNatClampNeg 0) (Int32.toInt64 (0 + p0))))))]) (va_A [(x, .inr (0, [.ref a0, .ref a1, .ref a2, .ref a3, .ref a4, .ref a5, .ref a6, .int 0, .int 0, .int 0, .int 0, .int 0, .int 0, .int 0])), (a3, .inl (cE, 100, .inr (.inr (.inr (.inr F))))), (o, .inl (cJ, 1, .inr (.inl G)))] sz)) xN 0 0 (va_A [(x, .inr (0, [.ref a0, .ref a1, .ref a2, .ref a3, .ref a4, .ref a5, .ref a6, .int 0, .int 0, .int 0, .int 0, .int 0, .int 0, .int 0])), (a3, .inl (cE, 100, .inr (.inr (.inr (.inr F))))), (o, .inl (cJ, 1, .inr (.inl G)))] sz) := by
  refine vx_ofWH (cc := cL_pass) (maxL := 4) (ret := (some .int)) (hh := [(0, 9, 12, 13), (0, 9, 15, 15)]) (by decide) rfl ?_
  intro p e s m args below meth c s₁ B hml hv
  obtain ⟨rfl, ⟨hsz9, hz0, hE, hP, hD0⟩, hK, hC⟩ := hv
  have hx := B.exec
  have hb := B.bytes
  have hr := B.returns
  have hts0 := atoms_spec (ws := (wspW yL_pass cL_pass 4 (some .int) [(0, 9, 12, 13), (0, 9, 15, 15)])) B.pre
  have htab := vx_table (x := yL_pass) B (hts0 _ List.mem_cons_self)
  have hts : ∀ w ∈ lw_all, w.before _ s = true := fun w h => hts0 w (List.mem_cons_of_mem _ h)
  have hown : s.vm.findClass "TheatrehouseLaw" = some m.cls := findClass_of_methodNamed B.named
  have hlocks := B.notSynchronized
  subst hsz9
  have hsz := hz0
  have hAz : ∀ q, va_A [(x, .inr (0, [.ref a0, .ref a1, .ref a2, .ref a3, .ref a4, .ref a5, .ref a6, .int 0, .int 0, .int 0, .int 0, .int 0, .int 0, .int 0])), (a3, .inl (cE, 100, .inr (.inr (.inr (.inr F))))), (o, .inl (cJ, 1, .inr (.inl G)))] s.heap.size q → z0 ≤ q := vaA_z hz0 hD0
  have hD := hD0.self (sz := s.heap.size)
  generalize hAe : va_A [(x, .inr (0, [.ref a0, .ref a1, .ref a2, .ref a3, .ref a4, .ref a5, .ref a6, .int 0, .int 0, .int 0, .int 0, .int 0, .int 0, .int 0])), (a3, .inl (cE, 100, .inr (.inr (.inr (.inr F))))), (o, .inl (cJ, 1, .inr (.inl G)))] s.heap.size = A at hD hAz ⊢
  have hA : ∀ q : Nat, s.heap.size ≤ q → A q := fun q h => by rw [← hAe]; exact Or.inr h
  have hS : va_S A s.heap s.heap [] := va_S.rf
  have hP : va_P D classes [(x, .inr (0, [.ref a0, .ref a1, .ref a2, .ref a3, .ref a4, .ref a5, .ref a6, .int 0, .int 0, .int 0, .int 0, .int 0, .int 0, .int 0])), (a3, .inl (cE, 100, .inr (.inr (.inr (.inr F))))), (o, .inl (cJ, 1, .inr (.inl G)))] s.heap := hP
  have hl := lv_entry ([.ref x, .int p0, .ref o]) (n := 4) (Nat.le_of_ble_eq_true rfl)
  rw [lg_entry_eq]
  generalize (lg_sl ([.ref x, .int p0, .ref o]) ++ List.replicate (4 - (lg_sl ([.ref x, .int p0, .ref o])).length) Slot.unset).toArray = ls at hl ⊢
  have hl : lv_has ls 4 [(0, .ref x), (1, .int p0), (2, .ref o)] := hl
  refine lv_aload_n hx hb dL_pass_0 rfl (lv_at hl 2 rfl) ?_
  refine lv_iconst (v := 0) hx hb dL_pass_1 (by decide) ?_
  refine lv_aload_n hx hb dL_pass_2 rfl (lv_at hl 0 rfl) ?_
  refine lv_iload_n hx hb dL_pass_3 rfl (lv_at hl 1 rfl) ?_
  have hc_1 := hP.sub (ws' := [(x, .inr (0, [.ref a0, .ref a1, .ref a2, .ref a3, .ref a4, .ref a5, .ref a6, .int 0, .int 0, .int 0, .int 0, .int 0, .int 0, .int 0])), (a3, .inl (cE, 100, .inr (.inr (.inr (.inr F)))))]) [0, 1] rfl
  have hc_1D := hD.sub (ws' := [(x, .inr (0, [.ref a0, .ref a1, .ref a2, .ref a3, .ref a4, .ref a5, .ref a6, .int 0, .int 0, .int 0, .int 0, .int 0, .int 0, .int 0])), (a3, .inl (cE, 100, .inr (.inr (.inr (.inr F)))))]) [0, 1] (by decide) rfl
  have hc_1F := va_free (wc := [(x, .inr (0, [.ref a0, .ref a1, .ref a2, .ref a3, .ref a4, .ref a5, .ref a6, .int 0, .int 0, .int 0, .int 0, .int 0, .int 0, .int 0])), (a3, .inl (cE, 100, .inr (.inr (.inr (.inr F)))))]) hD hS hA [0, 1] rfl
  refine va_calli (va_runV (As := [.int p0]) (rest := [.int 0, .ref o]) ⟨hx, hb, hml, hown, hts⟩ (c_X10_pass_ok l z0 D g _ x a0 a1 a2 a3 a4 a5 a6 cE F p0 d hd ed h1 h2 h3 h4) (cwV 1 hts (lw_V m_855 m_856 m_857 m_1 m_858) rfl rfl rfl (by decide +kernel) ⟨(Nat.le_of_ble_eq_true rfl), (Nat.le_of_ble_eq_true rfl)⟩) ⟨PMT.blind, va_recv hK hP (ci := 0) (q0 := 0) rfl rfl, PMT.pre hE hS hAz hsz hc_1 hc_1D (hK.sub [0] rfl) hC⟩ rfl rfl hl.1 rfl (lv_room (Nat.le_of_ble_eq_true rfl)) dL_pass_4 ⟨(Nat.le_of_ble_eq_true rfl), (Nat.le_of_ble_eq_true rfl)⟩) hS (fun q _ h => hc_1F q h) hc_1F (fun r_2 u_3 t H locs ht hvm hw hB hz1 hk1 hS => ?_)
  obtain ⟨hP, hD⟩ := va_join (wr := [(o, .inl (cJ, 1, .inr (.inl G)))]) (w1 := []) hP hD [0, 1] [2] rfl rfl (by decide) (by decide) hk1 hc_1F va_nil va_dnil
  have hP : va_P D classes [(o, .inl (cJ, 1, .inr (.inl G)))] H := hP
  have hD : va_D A [(o, .inl (cJ, 1, .inr (.inl G)))] := hD
  subst hw
  refine lv_i2l (v := (Int32.toInt64 (0 + p0))) hx hb dL_pass_7 rfl ?_
  refine va_last hx hb hK hP hD hS 0 1 rfl rfl (i := 0) (by unfold vp_in; decide) dL_pass_8 (fun H locs hP hD hS => ?_)
  have hP : va_P D classes [(o, .inl (cJ, 1, .inr (.inl (vp_updL G (Int32.toNatClampNeg 0) (Int32.toInt64 (0 + p0))))))] H := hP
  have hD : va_D A [(o, .inl (cJ, 1, .inr (.inl (vp_updL G (Int32.toNatClampNeg 0) (Int32.toInt64 (0 + p0))))))] := hD
  refine lv_goto (tgt := 18) hx hb dL_pass_9 (by decide) ?_
  refine lv_iconst (v := 0) hx hb dL_pass_18 (by decide) ?_
  have hP9 := hP.sub (ws' := [(o, .inl (cJ, 1, .inr (.inl (vp_updL G (Int32.toNatClampNeg 0) (Int32.toInt64 (0 + p0))))))]) [0] rfl
  have hD9 := hD.sub (ws' := [(o, .inl (cJ, 1, .inr (.inl (vp_updL G (Int32.toNatClampNeg 0) (Int32.toInt64 (0 + p0))))))]) [0] (by decide) rfl
  refine W.widen (k := 0) (n := 0) (Nat.le_of_ble_eq_true rfl) (Nat.le_of_ble_eq_true rfl) ?_
  refine vx_ret ?_
  exact W.iret (v := 0) hx hb hr (fun t ht hW => ⟨⟨0, (), rfl, rfl, ⟨by rw [ht]; exact hP9, hD9⟩⟩, hS.F ht⟩) hS.2.2 dL_pass_19
