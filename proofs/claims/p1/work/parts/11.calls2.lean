theorem dX10_begin_0 : decode cX10_begin 0 = .ok (.aload_n 0, 1) := by decide +kernel
theorem dX10_begin_1 : decode cX10_begin 1 = .ok (.invokevirtual 89, 3) := by decide +kernel
theorem dX10_begin_4 : decode cX10_begin 4 = .ok (.aload_n 0, 1) := by decide +kernel
theorem dX10_begin_5 : decode cX10_begin 5 = .ok (.getfield 29, 3) := by decide +kernel
theorem dX10_begin_8 : decode cX10_begin 8 = .ok (.aload_n 0, 1) := by decide +kernel
theorem dX10_begin_9 : decode cX10_begin 9 = .ok (.getfield 64, 3) := by decide +kernel
theorem dX10_begin_12 : decode cX10_begin 12 = .ok (.aaload, 1) := by decide +kernel
theorem dX10_begin_13 : decode cX10_begin 13 = .ok (.astore_n 1, 1) := by decide +kernel
theorem dX10_begin_14 : decode cX10_begin 14 = .ok (.aload_n 1, 1) := by decide +kernel
theorem dX10_begin_15 : decode cX10_begin 15 = .ok (.getfield 206, 3) := by decide +kernel
theorem dX10_begin_18 : decode cX10_begin 18 = .ok (.getstatic 217, 3) := by decide +kernel
theorem dX10_begin_21 : decode cX10_begin 21 = .ok (.if_acmp .eq 14, 3) := by decide +kernel
theorem dX10_begin_24 : decode cX10_begin 24 = .ok (.new 235, 3) := by decide +kernel
theorem dX10_begin_27 : decode cX10_begin 27 = .ok (.dup, 1) := by decide +kernel
theorem dX10_begin_28 : decode cX10_begin 28 = .ok (.ldc_w 257, 3) := by decide +kernel
theorem dX10_begin_31 : decode cX10_begin 31 = .ok (.invokespecial 239, 3) := by decide +kernel
theorem dX10_begin_34 : decode cX10_begin 34 = .ok (.athrow, 1) := by decide +kernel
theorem dX10_canSell_0 : decode cX10_canSell 0 = .ok (.iload_n 1, 1) := by decide +kernel
theorem dX10_canSell_1 : decode cX10_canSell 1 = .ok (.ifCond .lt 9, 3) := by decide +kernel
theorem dX10_canSell_4 : decode cX10_canSell 4 = .ok (.iload_n 1, 1) := by decide +kernel
theorem dX10_canSell_5 : decode cX10_canSell 5 = .ok (.bipush 99, 2) := by decide +kernel
theorem dX10_canSell_7 : decode cX10_canSell 7 = .ok (.if_icmp .le 5, 3) := by decide +kernel
theorem dX10_canSell_10 : decode cX10_canSell 10 = .ok (.iconst 0, 1) := by decide +kernel
theorem dX10_canSell_11 : decode cX10_canSell 11 = .ok (.ireturn, 1) := by decide +kernel
theorem dX10_canSell_12 : decode cX10_canSell 12 = .ok (.aload_n 0, 1) := by decide +kernel
theorem dX10_canSell_13 : decode cX10_canSell 13 = .ok (.getfield 29, 3) := by decide +kernel
theorem dX10_canSell_16 : decode cX10_canSell 16 = .ok (.iload_n 1, 1) := by decide +kernel
theorem dX10_canSell_17 : decode cX10_canSell 17 = .ok (.aaload, 1) := by decide +kernel
theorem dX10_canSell_18 : decode cX10_canSell 18 = .ok (.getfield 206, 3) := by decide +kernel
theorem dX10_canSell_21 : decode cX10_canSell 21 = .ok (.astore_n 3, 1) := by decide +kernel
theorem dX10_canSell_22 : decode cX10_canSell 22 = .ok (.aload_n 3, 1) := by decide +kernel
theorem dX10_canSell_23 : decode cX10_canSell 23 = .ok (.getstatic 217, 3) := by decide +kernel
theorem dX10_canSell_26 : decode cX10_canSell 26 = .ok (.if_acmp .eq 14, 3) := by decide +kernel
theorem dX10_canSell_29 : decode cX10_canSell 29 = .ok (.aload_n 3, 1) := by decide +kernel
theorem dX10_canSell_30 : decode cX10_canSell 30 = .ok (.getstatic 227, 3) := by decide +kernel
theorem dX10_canSell_33 : decode cX10_canSell 33 = .ok (.if_acmp .ne 11, 3) := by decide +kernel
theorem dX10_canSell_44 : decode cX10_canSell 44 = .ok (.iconst 0, 1) := by decide +kernel
theorem dX10_canSell_45 : decode cX10_canSell 45 = .ok (.ireturn, 1) := by decide +kernel
theorem dX10_countEvenings_0 : decode cX10_countEvenings 0 = .ok (.iconst 0, 1) := by decide +kernel
theorem dX10_countEvenings_1 : decode cX10_countEvenings 1 = .ok (.istore_n 2, 1) := by decide +kernel
theorem dX10_countEvenings_2 : decode cX10_countEvenings 2 = .ok (.iconst 0, 1) := by decide +kernel
theorem dX10_countEvenings_3 : decode cX10_countEvenings 3 = .ok (.istore_n 3, 1) := by decide +kernel
theorem dX10_countEvenings_4 : decode cX10_countEvenings 4 = .ok (.iload_n 3, 1) := by decide +kernel
theorem dX10_countEvenings_5 : decode cX10_countEvenings 5 = .ok (.bipush 99, 2) := by decide +kernel
theorem dX10_countEvenings_7 : decode cX10_countEvenings 7 = .ok (.if_icmp .gt 25, 3) := by decide +kernel
theorem dX10_countEvenings_10 : decode cX10_countEvenings 10 = .ok (.aload_n 0, 1) := by decide +kernel
theorem dX10_countEvenings_11 : decode cX10_countEvenings 11 = .ok (.getfield 29, 3) := by decide +kernel
theorem dX10_countEvenings_14 : decode cX10_countEvenings 14 = .ok (.iload_n 3, 1) := by decide +kernel
theorem dX10_countEvenings_15 : decode cX10_countEvenings 15 = .ok (.aaload, 1) := by decide +kernel
theorem dX10_countEvenings_16 : decode cX10_countEvenings 16 = .ok (.getfield 206, 3) := by decide +kernel
theorem dX10_countEvenings_19 : decode cX10_countEvenings 19 = .ok (.aload_n 1, 1) := by decide +kernel
theorem dX10_countEvenings_20 : decode cX10_countEvenings 20 = .ok (.if_acmp .ne 6, 3) := by decide +kernel
theorem dX10_countEvenings_26 : decode cX10_countEvenings 26 = .ok (.iinc 3 1, 3) := by decide +kernel
theorem dX10_countEvenings_29 : decode cX10_countEvenings 29 = .ok (.goto (-25), 3) := by decide +kernel
theorem dX10_countEvenings_32 : decode cX10_countEvenings 32 = .ok (.iload_n 2, 1) := by decide +kernel
theorem dX10_countEvenings_33 : decode cX10_countEvenings 33 = .ok (.ireturn, 1) := by decide +kernel
theorem dX10_sell_0 : decode cX10_sell 0 = .ok (.iload_n 2, 1) := by decide +kernel
theorem dX10_sell_1 : decode cX10_sell 1 = .ok (.ifCond .ne 13, 3) := by decide +kernel
theorem dX10_sell_4 : decode cX10_sell 4 = .ok (.new 179, 3) := by decide +kernel
theorem dX10_sell_7 : decode cX10_sell 7 = .ok (.dup, 1) := by decide +kernel
theorem dX10_sell_8 : decode cX10_sell 8 = .ok (.ldc 230, 2) := by decide +kernel
theorem dX10_sell_10 : decode cX10_sell 10 = .ok (.invokespecial 183, 3) := by decide +kernel
theorem dX10_sell_13 : decode cX10_sell 13 = .ok (.athrow, 1) := by decide +kernel
theorem dX10_sell_14 : decode cX10_sell 14 = .ok (.aload_n 0, 1) := by decide +kernel
theorem dX10_sell_15 : decode cX10_sell 15 = .ok (.iload_n 1, 1) := by decide +kernel
theorem dX10_sell_16 : decode cX10_sell 16 = .ok (.iload_n 2, 1) := by decide +kernel
theorem dX10_sell_17 : decode cX10_sell 17 = .ok (.invokevirtual 232, 3) := by decide +kernel
theorem dX10_sell_20 : decode cX10_sell 20 = .ok (.ifCond .ne 13, 3) := by decide +kernel
theorem dX10_sell_23 : decode cX10_sell 23 = .ok (.new 235, 3) := by decide +kernel
theorem dX10_sell_26 : decode cX10_sell 26 = .ok (.dup, 1) := by decide +kernel
theorem dX10_sell_27 : decode cX10_sell 27 = .ok (.ldc 237, 2) := by decide +kernel
theorem dX10_sell_29 : decode cX10_sell 29 = .ok (.invokespecial 239, 3) := by decide +kernel
theorem dX10_sell_32 : decode cX10_sell 32 = .ok (.athrow, 1) := by decide +kernel
theorem dX10_soldShare_0 : decode cX10_soldShare 0 = .ok (.aload_n 0, 1) := by decide +kernel
theorem dX10_soldShare_1 : decode cX10_soldShare 1 = .ok (.getstatic 217, 3) := by decide +kernel
theorem dX10_soldShare_4 : decode cX10_soldShare 4 = .ok (.invokevirtual 223, 3) := by decide +kernel
theorem dX10_soldShare_7 : decode cX10_soldShare 7 = .ok (.aload_n 0, 1) := by decide +kernel
theorem dX10_soldShare_8 : decode cX10_soldShare 8 = .ok (.getstatic 227, 3) := by decide +kernel
theorem dX10_soldShare_11 : decode cX10_soldShare 11 = .ok (.invokevirtual 223, 3) := by decide +kernel
theorem dX10_soldShare_14 : decode cX10_soldShare 14 = .ok (.iadd, 1) := by decide +kernel
theorem dX10_soldShare_15 : decode cX10_soldShare 15 = .ok (.aload_n 0, 1) := by decide +kernel
theorem dX10_soldShare_16 : decode cX10_soldShare 16 = .ok (.getstatic 317, 3) := by decide +kernel
theorem dX10_soldShare_19 : decode cX10_soldShare 19 = .ok (.invokevirtual 223, 3) := by decide +kernel
theorem dX10_soldShare_22 : decode cX10_soldShare 22 = .ok (.iadd, 1) := by decide +kernel
theorem dX10_soldShare_23 : decode cX10_soldShare 23 = .ok (.istore_n 1, 1) := by decide +kernel
theorem dX10_soldShare_24 : decode cX10_soldShare 24 = .ok (.iload_n 1, 1) := by decide +kernel
theorem dX10_soldShare_25 : decode cX10_soldShare 25 = .ok (.ifCond .ne 14, 3) := by decide +kernel
theorem dX10_soldShare_28 : decode cX10_soldShare 28 = .ok (.new 369, 3) := by decide +kernel
theorem dX10_soldShare_31 : decode cX10_soldShare 31 = .ok (.dup, 1) := by decide +kernel
theorem dX10_soldShare_32 : decode cX10_soldShare 32 = .ok (.ldc_w 371, 3) := by decide +kernel
theorem dX10_soldShare_35 : decode cX10_soldShare 35 = .ok (.invokespecial 373, 3) := by decide +kernel
theorem dX10_soldShare_38 : decode cX10_soldShare 38 = .ok (.athrow, 1) := by decide +kernel
theorem m_51 : (Cond.initialized "java/util/NoSuchElementException") ∈ lw_all := lw_in 51 (by decide +kernel) (by decide +kernel)
theorem m_347 : (Cond.fieldLink "Theatrehouse" 206 "Theatrehouse$Evening" "status" "LTheatrehouse$Status;") ∈ lw_all := lw_in 347 (by decide +kernel) (by decide +kernel)
theorem m_362 : (Cond.fieldLink "Theatrehouse" 29 "Theatrehouse" "calendar" "[LTheatrehouse$Evening;") ∈ lw_all := lw_in 362 (by decide +kernel) (by decide +kernel)
theorem m_651 : (Cond.methodLink "Theatrehouse" 89 ⟨"Theatrehouse", "requireNoShow", "()V"⟩) ∈ lw_all := lw_in 651 (by decide +kernel) (by decide +kernel)
theorem m_653 : (Cond.instanceMethod ⟨"Theatrehouse", "requireNoShow", "()V"⟩) ∈ lw_all := lw_in 653 (by decide +kernel) (by decide +kernel)
theorem m_654 : (Cond.code ⟨"Theatrehouse", "requireNoShow", "()V"⟩ prog_1_method_45_code 1 (Option.none : Option Jvm.ClassFile.FieldType)) ∈ lw_all := lw_in 654 (by decide +kernel) (by decide +kernel)
theorem m_813 : (Cond.fieldLink "Theatrehouse" 217 "Theatrehouse$Status" "PLANNED" "LTheatrehouse$Status;") ∈ lw_all := lw_in 813 (by decide +kernel) (by decide +kernel)
theorem m_815 : (Cond.methodLink "Theatrehouse" 223 ⟨"Theatrehouse", "countEvenings", "(LTheatrehouse$Status;)I"⟩) ∈ lw_all := lw_in 815 (by decide +kernel) (by decide +kernel)
theorem m_817 : (Cond.instanceMethod ⟨"Theatrehouse", "countEvenings", "(LTheatrehouse$Status;)I"⟩) ∈ lw_all := lw_in 817 (by decide +kernel) (by decide +kernel)
theorem m_818 : (Cond.code ⟨"Theatrehouse", "countEvenings", "(LTheatrehouse$Status;)I"⟩ prog_1_method_51_code 4 (Option.some Jvm.ClassFile.FieldType.int)) ∈ lw_all := lw_in 818 (by decide +kernel) (by decide +kernel)
theorem m_819 : (Cond.fieldLink "Theatrehouse" 227 "Theatrehouse$Status" "ON" "LTheatrehouse$Status;") ∈ lw_all := lw_in 819 (by decide +kernel) (by decide +kernel)
theorem m_830 : (Cond.methodLink "Theatrehouse" 232 ⟨"Theatrehouse", "canSell", "(II)Z"⟩) ∈ lw_all := lw_in 830 (by decide +kernel) (by decide +kernel)
theorem m_832 : (Cond.instanceMethod ⟨"Theatrehouse", "canSell", "(II)Z"⟩) ∈ lw_all := lw_in 832 (by decide +kernel) (by decide +kernel)
theorem m_833 : (Cond.code ⟨"Theatrehouse", "canSell", "(II)Z"⟩ prog_1_method_52_code 4 (Option.some Jvm.ClassFile.FieldType.boolean)) ∈ lw_all := lw_in 833 (by decide +kernel) (by decide +kernel)
theorem m_834 : (Cond.classLink "Theatrehouse" 235 "java/util/NoSuchElementException") ∈ lw_all := lw_in 834 (by decide +kernel) (by decide +kernel)
theorem m_966 : (Cond.fieldLink "Theatrehouse" 317 "Theatrehouse$Status" "ENDED" "LTheatrehouse$Status;") ∈ lw_all := lw_in 966 (by decide +kernel) (by decide +kernel)
theorem mp_10 : (Cond.selects "Theatrehouse" ⟨"Theatrehouse", "requireNoShow", "()V"⟩ ⟨"Theatrehouse", "requireNoShow", "()V"⟩) ∈ lw_all := lw_inp 10 (by decide +kernel) (by decide +kernel)
theorem mp_16 : (Cond.selects "Theatrehouse" ⟨"Theatrehouse", "countEvenings", "(LTheatrehouse$Status;)I"⟩ ⟨"Theatrehouse", "countEvenings", "(LTheatrehouse$Status;)I"⟩) ∈ lw_all := lw_inp 16 (by decide +kernel) (by decide +kernel)
theorem mp_17 : (Cond.selects "Theatrehouse" ⟨"Theatrehouse", "canSell", "(II)Z"⟩ ⟨"Theatrehouse", "canSell", "(II)Z"⟩) ∈ lw_all := lw_inp 17 (by decide +kernel) (by decide +kernel)
theorem tha_X10_239 : (nse_at "Theatrehouse" 239 "java/util/NoSuchElementException" 13 prog_69_method_4_code "java/lang/RuntimeException" ["java/lang/Exception"]).all (fun w => decide (w ∈ lw_tbl) && (goodWord w || ng_ok w)) = true := by decide +kernel
theorem thg_X10_239 : ∀ w ∈ Cond.classLink "Theatrehouse" 235 "java/util/NoSuchElementException" :: Cond.initialized "java/util/NoSuchElementException" :: nse_at "Theatrehouse" 239 "java/util/NoSuchElementException" 13 prog_69_method_4_code "java/lang/RuntimeException" ["java/lang/Exception"], vx_ot w = true := by decide +kernel
set_option maxHeartbeats 4000000 in
set_option maxRecDepth 100000 in
theorem cnt_loop {p : Program} {l : Launch} {e : Env} {R : Room} {s : State} {m : MethodId} {args : Array Value} {below : List Frame} {meth : Method} {c : Code} {H : Heap} {locs : List Loc} {cells slots : Nat} {Q : State → Prop} {D : va_G} {g : Nat → Nat} (x a0 a1 a2 a3 a4 a5 a6 : Nat) (cE : ClassId) (F : Nat → Option Nat) (q : Nat) (hq : g 0 ≠ q) (hx : p.tables.exec = Jvm.exec) (hb : c.code = cX10_countEvenings) (hts : ∀ w ∈ lw_all, w.before args s = true) (hown : s.vm.findClass "Theatrehouse" = some m.cls) (hK : va_K D classes [(cE, .object "Theatrehouse$Evening")] s) (hP : va_P D classes [(x, .inr (0, [.ref a0, .ref a1, .ref a2, .ref a3, .ref a4, .ref a5, .ref a6, .int 0, .int 0, .int 0, .int 0, .int 0, .int 0, .int 0])), (a3, .inl (cE, 100, .inr (.inr (.inr (.inr F)))))] H) (hC : CAL D g F H) (kx : ∀ (i : Int32) (ls : Array Slot), lv_has ls 4 [(3, .int i), (2, .int 0), (0, .ref x), (1, .ref q)] → W p l e R s m args below meth c H locs cells slots Q (F0 m 32 ls [])) : ∀ (n k : Nat) (i : Int32), k ≤ 100 → 101 ≤ k + n → i = nI k → ∀ (ls : Array Slot), lv_has ls 4 [(3, .int i), (2, .int 0), (0, .ref x), (1, .ref q)] → W p l e R s m args below meth c H locs cells slots Q (F0 m 4 ls []) := by
  intro n
  induction n with
  | zero => intro k i h1 h2; omega
  | succ n ih =>
    intro k i hk hn ek ls hl
    refine lv_iload_n hx hb dX10_countEvenings_4 rfl (lv_at hl 0 rfl) ?_
    refine lv_bipush (v := 99) hx hb dX10_countEvenings_5 (by decide) ?_
    refine lv_icmp_gt (tgt := 32) hx hb dX10_countEvenings_7 (by decide) (fun c_7 => ?_) (fun c_7 => ?_)
    · exact kx i ls hl
    · have hk2 : k < 100 := by
        rcases Nat.lt_or_ge k 100 with h9 | h9
        · exact h9
        · exact absurd (by rw [ek]; exact nI_lt (show 99 < k by omega) (by omega)) c_7
      refine lv_aload_n hx hb dX10_countEvenings_10 rfl (lv_at hl 2 rfl) ?_
      refine va_get (D := D) (ci := 0) (v := .ref a3) (C := RX10) (T := TX10) (N := 14) hx hb hts i_X10 hown hK hP 0 rfl rfl 3 (by decide) (hts _ m_362) (fun _ h9 => h9) rfl dX10_countEvenings_11 ?_
      refine lv_iload_n hx hb dX10_countEvenings_14 rfl (lv_at hl 0 rfl) ?_
      obtain ⟨y_1, hF9, hP9⟩ := hC k hk2
      have hP := hP.app hP9
      have hP : va_P D classes [(x, .inr (0, [.ref a0, .ref a1, .ref a2, .ref a3, .ref a4, .ref a5, .ref a6, .int 0, .int 0, .int 0, .int 0, .int 0, .int 0, .int 0])), (a3, .inl (cE, 100, .inr (.inr (.inr (.inr F))))), (y_1, .inr (4, [.ref (g 0), .int 0, .int 0]))] _ := hP
      refine va_aldq (i := i) hx hb hK hP 1 0 rfl rfl (by rw [ek]; exact vp_in_nI hk2 (by decide)) dX10_countEvenings_15 ?_
      rw [show F (Int32.toNatClampNeg i) = some y_1 from (by rw [ek, nI_clamp (by omega)]; exact hF9)]
      refine W.eq (g2 := F0 m 16 ls [.ref y_1]) rfl ?_
      refine va_get (D := D) (ci := 4) (v := .ref (g 0)) (C := RX1) (T := TX1) (N := 3) hx hb hts i_X1 hown hK hP 2 rfl rfl 0 (by decide) (hts _ m_347) (fun _ h9 => h9) rfl dX10_countEvenings_16 ?_
      refine lv_aload_n hx hb dX10_countEvenings_19 rfl (lv_at hl 3 rfl) ?_
      refine lv_acmp_ne (rx := some (g 0)) (ry := some q) (tgt := 26) hx hb dX10_countEvenings_20 (by decide) (fun _ => ?_) (fun h9 => absurd (Option.some.inj h9) hq)
      refine lv_iinc (v := (i + 1)) (lv' := [(3, .int (i + 1)), (2, .int 0), (0, .ref x), (1, .ref q)]) hx hb dX10_countEvenings_26 hl (k := 0) rfl rfl (by decide) rfl (fun ls hl => ?_)
      refine lv_goto (tgt := 4) hx hb dX10_countEvenings_29 (by decide) ?_
      exact ih (k + 1) (i + 1) (by omega) (by omega) (by rw [ek]; exact nI_1 k) ls (lv_sub hl [0, 1, 2, 3] rfl)

set_option maxHeartbeats 4000000 in
set_option maxRecDepth 100000 in
theorem c_countEvenings (l : Launch) (z0 : Nat) (D : va_G) (g : Nat → Nat) (x a0 a1 a2 a3 a4 a5 a6 : Nat) (cE : ClassId) (F : Nat → Option Nat) (q : Nat) (hq : g 0 ≠ q) : Met l yX10_countEvenings (wsp yX10_countEvenings cX10_countEvenings 4 (some .int)) ({ frames := 0, cells := 0, slots := 0, locals := 0 }) (va_Pc [.ref x, .ref q] (PRC z0 D g [(cE, .object "Theatrehouse$Evening")] [(x, .inr (0, [.ref a0, .ref a1, .ref a2, .ref a3, .ref a4, .ref a5, .ref a6, .int 0, .int 0, .int 0, .int 0, .int 0, .int 0, .int 0])), (a3, .inl (cE, 100, .inr (.inr (.inr (.inr F)))))] F)) (va_Qi (fun (r : Int32) (_ : Unit) => r = 0) (fun _ _ => True) nA) 0 0 nA := by
  refine Met.ofW (cc := cX10_countEvenings) (maxL := 4) (ret := (some .int)) (by decide) rfl ?_
  intro p e s m args below meth c s₁ B hml hv
  obtain ⟨rfl, hE, hP, hK, hC⟩ := hv
  have hx := B.exec
  have hb := B.bytes
  have hr := B.returns
  have hts0 := atoms_spec (ws := (wsp yX10_countEvenings cX10_countEvenings 4 (some .int))) B.pre
  have hts : ∀ w ∈ lw_all, w.before _ s = true := fun w h => hts0 w (List.mem_cons_of_mem _ h)
  have hown : s.vm.findClass "Theatrehouse" = some m.cls := findClass_of_methodNamed B.named
  have hlocks := B.notSynchronized
  have hS : va_S nA s.heap s.heap [] := va_S.rf
  have hP : va_P D classes [(x, .inr (0, [.ref a0, .ref a1, .ref a2, .ref a3, .ref a4, .ref a5, .ref a6, .int 0, .int 0, .int 0, .int 0, .int 0, .int 0, .int 0])), (a3, .inl (cE, 100, .inr (.inr (.inr (.inr F)))))] s.heap := hP
  have hl := lv_entry ([.ref x, .ref q]) (n := 4) (Nat.le_of_ble_eq_true rfl)
  rw [lg_entry_eq]
  generalize (lg_sl ([.ref x, .ref q]) ++ List.replicate (4 - (lg_sl ([.ref x, .ref q])).length) Slot.unset).toArray = ls at hl ⊢
  have hl : lv_has ls 4 [(0, .ref x), (1, .ref q)] := hl
  refine lv_iconst (v := 0) hx hb dX10_countEvenings_0 (by decide) ?_
  refine lv_istore_n (lv' := [(2, .int 0), (0, .ref x), (1, .ref q)]) hx hb dX10_countEvenings_1 rfl hl (by decide) rfl (fun ls hl => ?_)
  refine lv_iconst (v := 0) hx hb dX10_countEvenings_2 (by decide) ?_
  refine lv_istore_n (lv' := [(3, .int 0), (2, .int 0), (0, .ref x), (1, .ref q)]) hx hb dX10_countEvenings_3 rfl hl (by decide) rfl (fun ls hl => ?_)
  refine cnt_loop x a0 a1 a2 a3 a4 a5 a6 cE F q hq hx hb hts hown hK hP hC (fun i ls hl => ?_) 101 0 0 (by decide) (by decide) nI_0.symm ls (lv_sub hl [0, 1, 2, 3] rfl)
  refine lv_iload_n hx hb dX10_countEvenings_32 rfl (lv_at hl 1 rfl) ?_
  refine W.widen (k := 0) (n := 0) (Nat.le_of_ble_eq_true rfl) (Nat.le_of_ble_eq_true rfl) ?_
  exact W.iret (v := 0) hx hb hr (fun t ht hW => ⟨⟨0, (), rfl, rfl, trivial⟩, hS.F ht⟩) hS.2.2 dX10_countEvenings_33

set_option maxHeartbeats 4000000 in
set_option maxRecDepth 100000 in
theorem c_X10_canSell (l : Launch) (z0 : Nat) (D : va_G) (g : Nat → Nat) (x a0 a1 a2 a3 a4 a5 a6 : Nat) (cE : ClassId) (F : Nat → Option Nat) (p0 : Int32) (p1 : Int32) : Met l yX10_canSell (wsp yX10_canSell cX10_canSell 4 (some .boolean)) ({ frames := 0, cells := 0, slots := 0, locals := 0 }) (va_Pc [.ref x, .int p0, .int p1] (PRC z0 D g [(cE, .object "Theatrehouse$Evening")] [(x, .inr (0, [.ref a0, .ref a1, .ref a2, .ref a3, .ref a4, .ref a5, .ref a6, .int 0, .int 0, .int 0, .int 0, .int 0, .int 0, .int 0])), (a3, .inl (cE, 100, .inr (.inr (.inr (.inr F)))))] F)) (va_Qi (fun (r : Int32) (_ : Unit) => r = 0) (fun _ _ => True) nA) 0 0 nA := by
  refine Met.ofW (cc := cX10_canSell) (maxL := 4) (ret := (some .boolean)) (by decide) rfl ?_
  intro p e s m args below meth c s₁ B hml hv
  obtain ⟨rfl, hE, hP, hK, hC⟩ := hv
  have hx := B.exec
  have hb := B.bytes
  have hr := B.returns
  have hts0 := atoms_spec (ws := (wsp yX10_canSell cX10_canSell 4 (some .boolean))) B.pre
  have hts : ∀ w ∈ lw_all, w.before _ s = true := fun w h => hts0 w (List.mem_cons_of_mem _ h)
  have hown : s.vm.findClass "Theatrehouse" = some m.cls := findClass_of_methodNamed B.named
  have hlocks := B.notSynchronized
  have hS : va_S nA s.heap s.heap [] := va_S.rf
  have hP : va_P D classes [(x, .inr (0, [.ref a0, .ref a1, .ref a2, .ref a3, .ref a4, .ref a5, .ref a6, .int 0, .int 0, .int 0, .int 0, .int 0, .int 0, .int 0])), (a3, .inl (cE, 100, .inr (.inr (.inr (.inr F)))))] s.heap := hP
  have hl := lv_entry ([.ref x, .int p0, .int p1]) (n := 4) (Nat.le_of_ble_eq_true rfl)
  rw [lg_entry_eq]
  generalize (lg_sl ([.ref x, .int p0, .int p1]) ++ List.replicate (4 - (lg_sl ([.ref x, .int p0, .int p1])).length) Slot.unset).toArray = ls at hl ⊢
  have hl : lv_has ls 4 [(0, .ref x), (1, .int p0), (2, .int p1)] := hl
  refine lv_iload_n hx hb dX10_canSell_0 rfl (lv_at hl 1 rfl) ?_
  refine lv_if_lt (tgt := 10) hx hb dX10_canSell_1 (by decide) (fun c_1 => ?_) (fun c_1 => ?_)
  · refine lv_iconst (v := 0) hx hb dX10_canSell_10 (by decide) ?_
    refine W.widen (k := 0) (n := 0) (Nat.le_of_ble_eq_true rfl) (Nat.le_of_ble_eq_true rfl) ?_
    exact W.zret (v := 0) hx hb hr (by decide) (fun t ht hW => ⟨⟨0, (), rfl, rfl, trivial⟩, hS.F ht⟩) hS.2.2 dX10_canSell_11
  · refine lv_iload_n hx hb dX10_canSell_4 rfl (lv_at hl 1 rfl) ?_
    refine lv_bipush (v := 99) hx hb dX10_canSell_5 (by decide) ?_
    refine lv_icmp_le (tgt := 12) hx hb dX10_canSell_7 (by decide) (fun c_7 => ?_) (fun c_7 => ?_)
    · obtain ⟨k, hk9, ek⟩ := nI_of2 (M := 99) (n := 99) (by decide) c_1 c_7
      have hk2 : k < 100 := by omega
      refine lv_aload_n hx hb dX10_canSell_12 rfl (lv_at hl 0 rfl) ?_
      refine va_get (D := D) (ci := 0) (v := .ref a3) (C := RX10) (T := TX10) (N := 14) hx hb hts i_X10 hown hK hP 0 rfl rfl 3 (by decide) (hts _ m_362) (fun _ h9 => h9) rfl dX10_canSell_13 ?_
      refine lv_iload_n hx hb dX10_canSell_16 rfl (lv_at hl 1 rfl) ?_
      obtain ⟨y_1, hF9, hP9⟩ := hC k hk2
      have hP := hP.app hP9
      have hP : va_P D classes [(x, .inr (0, [.ref a0, .ref a1, .ref a2, .ref a3, .ref a4, .ref a5, .ref a6, .int 0, .int 0, .int 0, .int 0, .int 0, .int 0, .int 0])), (a3, .inl (cE, 100, .inr (.inr (.inr (.inr F))))), (y_1, .inr (4, [.ref (g 0), .int 0, .int 0]))] _ := hP
      refine va_aldq (i := p0) hx hb hK hP 1 0 rfl rfl (by rw [ek]; exact vp_in_nI hk2 (by decide)) dX10_canSell_17 ?_
      rw [show F (Int32.toNatClampNeg p0) = some y_1 from (by rw [ek, nI_clamp (by omega)]; exact hF9)]
      refine W.eq (g2 := F0 m 18 ls [.ref y_1]) rfl ?_
      refine va_get (D := D) (ci := 4) (v := .ref (g 0)) (C := RX1) (T := TX1) (N := 3) hx hb hts i_X1 hown hK hP 2 rfl rfl 0 (by decide) (hts _ m_347) (fun _ h9 => h9) rfl dX10_canSell_18 ?_
      refine lv_astore_n (lv' := [(3, .ref (g 0)), (0, .ref x), (1, .int p0), (2, .int p1)]) hx hb dX10_canSell_21 rfl hl (by decide) rfl (fun ls hl => ?_)
      refine lv_aload_n hx hb dX10_canSell_22 rfl (lv_at hl 0 rfl) ?_
      refine va_gets hx hb (hE.z nA_z (i := 1) rfl) hS hown (hts _ m_813) (fun _ h9 => h9) dX10_canSell_23 ?_
      refine lv_acmp_eq (rx := some (g 0)) (ry := some (g 1)) (tgt := 40) hx hb dX10_canSell_26 (by decide) (fun h9 => absurd (Option.some.inj h9) hE.x.2.2.2.1) (fun _ => ?_)
      refine lv_aload_n hx hb dX10_canSell_29 rfl (lv_at hl 0 rfl) ?_
      refine va_gets hx hb (hE.z nA_z (i := 2) rfl) hS hown (hts _ m_819) (fun _ h9 => h9) dX10_canSell_30 ?_
      refine lv_acmp_ne (rx := some (g 0)) (ry := some (g 2)) (tgt := 44) hx hb dX10_canSell_33 (by decide) (fun _ => ?_) (fun h9 => absurd (Option.some.inj h9) hE.x.2.2.2.2.1)
      refine lv_iconst (v := 0) hx hb dX10_canSell_44 (by decide) ?_
      refine W.widen (k := 0) (n := 0) (Nat.le_of_ble_eq_true rfl) (Nat.le_of_ble_eq_true rfl) ?_
      exact W.zret (v := 0) hx hb hr (by decide) (fun t ht hW => ⟨⟨0, (), rfl, rfl, trivial⟩, hS.F ht⟩) hS.2.2 dX10_canSell_45
    · refine lv_iconst (v := 0) hx hb dX10_canSell_10 (by decide) ?_
      refine W.widen (k := 0) (n := 0) (Nat.le_of_ble_eq_true rfl) (Nat.le_of_ble_eq_true rfl) ?_
      exact W.zret (v := 0) hx hb hr (by decide) (fun t ht hW => ⟨⟨0, (), rfl, rfl, trivial⟩, hS.F ht⟩) hS.2.2 dX10_canSell_11

set_option maxHeartbeats 4000000 in
set_option maxRecDepth 100000 in
theorem c_X10_soldShare (l : Launch) (hfl : l.stackTraces = false) (z0 : Nat) (D : va_G) (g : Nat → Nat) (x a0 a1 a2 a3 a4 a5 a6 : Nat) (cE : ClassId) (F : Nat → Option Nat) : vx_Met l yX10_soldShare (wsp yX10_soldShare cX10_soldShare 4 (some .float)) ({ frames := 6, cells := 1, slots := 6, locals := 82 }) (va_Pc [.ref x] (PRC z0 D g [(cE, .object "Theatrehouse$Evening")] [(x, .inr (0, [.ref a0, .ref a1, .ref a2, .ref a3, .ref a4, .ref a5, .ref a6, .int 0, .int 0, .int 0, .int 0, .int 0, .int 0, .int 0])), (a3, .inl (cE, 100, .inr (.inr (.inr (.inr F)))))] F)) (va_Qf (fun (r : UInt32) (_ : Unit) => False) (fun _ _ => True) nA) (xE "java/lang/ArithmeticException") 1 6 nA := by
  refine vx_ofW (cc := cX10_soldShare) (maxL := 4) (ret := (some .float)) (by decide) rfl ?_
  intro p e s m args below meth c s₁ B hml htb hv
  obtain ⟨rfl, hE, hP, hK, hC⟩ := hv
  have hx := B.exec
  have hb := B.bytes
  have hr := B.returns
  have hts0 := atoms_spec (ws := (wsp yX10_soldShare cX10_soldShare 4 (some .float))) B.pre
  have hts : ∀ w ∈ lw_all, w.before _ s = true := fun w h => hts0 w (List.mem_cons_of_mem _ h)
  have hown : s.vm.findClass "Theatrehouse" = some m.cls := findClass_of_methodNamed B.named
  have hlocks := B.notSynchronized
  have hS : va_S nA s.heap s.heap [] := va_S.rf
  have hP : va_P D classes [(x, .inr (0, [.ref a0, .ref a1, .ref a2, .ref a3, .ref a4, .ref a5, .ref a6, .int 0, .int 0, .int 0, .int 0, .int 0, .int 0, .int 0])), (a3, .inl (cE, 100, .inr (.inr (.inr (.inr F)))))] s.heap := hP
  have hl := lv_entry ([.ref x]) (n := 4) (Nat.le_of_ble_eq_true rfl)
  rw [lg_entry_eq]
  generalize (lg_sl ([.ref x]) ++ List.replicate (4 - (lg_sl ([.ref x])).length) Slot.unset).toArray = ls at hl ⊢
  have hl : lv_has ls 4 [(0, .ref x)] := hl
  refine lv_aload_n hx hb dX10_soldShare_0 rfl (lv_at hl 0 rfl) ?_
  refine va_gets hx hb (hE.z nA_z (i := 1) rfl) hS hown (hts _ m_813) (fun _ h9 => h9) dX10_soldShare_1 ?_
  have hc_1 := hP.sub (ws' := [(x, .inr (0, [.ref a0, .ref a1, .ref a2, .ref a3, .ref a4, .ref a5, .ref a6, .int 0, .int 0, .int 0, .int 0, .int 0, .int 0, .int 0])), (a3, .inl (cE, 100, .inr (.inr (.inr (.inr F)))))]) [0, 1] rfl
  refine va_calli (va_runV (As := [.ref (g 1)]) (rest := []) ⟨hx, hb, hml, hown, hts⟩ (c_countEvenings l z0 D g x a0 a1 a2 a3 a4 a5 a6 cE F (g 1) hE.x.2.2.2.1) (cwV 1 hts (lw_V m_815 m_817 mp_16 m_1 m_818) rfl rfl rfl (by decide +kernel) ⟨(Nat.le_of_ble_eq_true rfl), (Nat.le_of_ble_eq_true rfl)⟩) ⟨PRC.blind, va_recv hK hP (ci := 0) (q0 := 0) rfl rfl, PRC.pre hE hS nA_z hc_1 hK hC⟩ rfl rfl hl.1 rfl (lv_room (Nat.le_of_ble_eq_true rfl)) dX10_soldShare_4 ⟨(Nat.le_of_ble_eq_true rfl), (Nat.le_of_ble_eq_true rfl)⟩) hS nA_B nA_A (fun r_2 u_3 t H locs ht hvm hw hB hz1 hk1 hS => ?_)
  have hC := hC.old hk1
  have hP := hP.old hk1
  have hP : va_P D classes [(x, .inr (0, [.ref a0, .ref a1, .ref a2, .ref a3, .ref a4, .ref a5, .ref a6, .int 0, .int 0, .int 0, .int 0, .int 0, .int 0, .int 0])), (a3, .inl (cE, 100, .inr (.inr (.inr (.inr F)))))] H := hP
  subst hw
  refine lv_aload_n hx hb dX10_soldShare_7 rfl (lv_at hl 0 rfl) ?_
  refine va_gets hx hb (hE.z nA_z (i := 2) rfl) hS hown (hts _ m_819) (fun _ h9 => h9) dX10_soldShare_8 ?_
  have hc_4 := hP.sub (ws' := [(x, .inr (0, [.ref a0, .ref a1, .ref a2, .ref a3, .ref a4, .ref a5, .ref a6, .int 0, .int 0, .int 0, .int 0, .int 0, .int 0, .int 0])), (a3, .inl (cE, 100, .inr (.inr (.inr (.inr F)))))]) [0, 1] rfl
  refine va_calli (va_runV (As := [.ref (g 2)]) (rest := [.int 0]) ⟨hx, hb, hml, hown, hts⟩ (c_countEvenings l z0 D g x a0 a1 a2 a3 a4 a5 a6 cE F (g 2) hE.x.2.2.2.2.1) (cwV 1 hts (lw_V m_815 m_817 mp_16 m_1 m_818) rfl rfl rfl (by decide +kernel) ⟨(Nat.le_of_ble_eq_true rfl), (Nat.le_of_ble_eq_true rfl)⟩) ⟨PRC.blind, va_recv hK hP (ci := 0) (q0 := 0) rfl rfl, PRC.pre hE hS nA_z hc_4 hK hC⟩ rfl rfl hl.1 rfl (lv_room (Nat.le_of_ble_eq_true rfl)) dX10_soldShare_11 ⟨(Nat.le_of_ble_eq_true rfl), (Nat.le_of_ble_eq_true rfl)⟩) hS nA_B nA_A (fun r_5 u_6 t H locs ht hvm hw hB hz1 hk1 hS => ?_)
  have hC := hC.old hk1
  have hP := hP.old hk1
  have hP : va_P D classes [(x, .inr (0, [.ref a0, .ref a1, .ref a2, .ref a3, .ref a4, .ref a5, .ref a6, .int 0, .int 0, .int 0, .int 0, .int 0, .int 0, .int 0])), (a3, .inl (cE, 100, .inr (.inr (.inr (.inr F)))))] H := hP
  subst hw
  refine lv_iadd hx hb dX10_soldShare_14 ?_
  rw [show (0 + 0 : Int32) = 0 by decide]
  refine lv_aload_n hx hb dX10_soldShare_15 rfl (lv_at hl 0 rfl) ?_
  refine va_gets hx hb (hE.z nA_z (i := 3) rfl) hS hown (hts _ m_966) (fun _ h9 => h9) dX10_soldShare_16 ?_
  have hc_7 := hP.sub (ws' := [(x, .inr (0, [.ref a0, .ref a1, .ref a2, .ref a3, .ref a4, .ref a5, .ref a6, .int 0, .int 0, .int 0, .int 0, .int 0, .int 0, .int 0])), (a3, .inl (cE, 100, .inr (.inr (.inr (.inr F)))))]) [0, 1] rfl
  refine va_calli (va_runV (As := [.ref (g 3)]) (rest := [.int 0]) ⟨hx, hb, hml, hown, hts⟩ (c_countEvenings l z0 D g x a0 a1 a2 a3 a4 a5 a6 cE F (g 3) hE.x.2.2.2.2.2) (cwV 1 hts (lw_V m_815 m_817 mp_16 m_1 m_818) rfl rfl rfl (by decide +kernel) ⟨(Nat.le_of_ble_eq_true rfl), (Nat.le_of_ble_eq_true rfl)⟩) ⟨PRC.blind, va_recv hK hP (ci := 0) (q0 := 0) rfl rfl, PRC.pre hE hS nA_z hc_7 hK hC⟩ rfl rfl hl.1 rfl (lv_room (Nat.le_of_ble_eq_true rfl)) dX10_soldShare_19 ⟨(Nat.le_of_ble_eq_true rfl), (Nat.le_of_ble_eq_true rfl)⟩) hS nA_B nA_A (fun r_8 u_9 t H locs ht hvm hw hB hz1 hk1 hS => ?_)
  have hC := hC.old hk1
  have hP := hP.old hk1
  have hP : va_P D classes [(x, .inr (0, [.ref a0, .ref a1, .ref a2, .ref a3, .ref a4, .ref a5, .ref a6, .int 0, .int 0, .int 0, .int 0, .int 0, .int 0, .int 0])), (a3, .inl (cE, 100, .inr (.inr (.inr (.inr F)))))] H := hP
  subst hw
  refine lv_iadd hx hb dX10_soldShare_22 ?_
  rw [show (0 + 0 : Int32) = 0 by decide]
  refine lv_istore_n (lv' := [(1, .int 0), (0, .ref x)]) hx hb dX10_soldShare_23 rfl hl (by decide) rfl (fun ls hl => ?_)
  refine lv_iload_n hx hb dX10_soldShare_24 rfl (lv_at hl 0 rfl) ?_
  refine lv_if_ne (tgt := 39) hx hb dX10_soldShare_25 (by decide) (fun h9 => absurd (by decide) h9) (fun _ => ?_)
  obtain ⟨sa, hsa⟩ := hE.str (i := 14) rfl
  exact vx_throwSW hx hb hfl (own := "Theatrehouse") (cls := "java/lang/ArithmeticException") (text := "no evenings") (names := ["java/lang/RuntimeException", "java/lang/Exception"]) (ik := 369) (is := 371) (ic := 373) (sa := sa) (A := nA) hown (by decide +kernel) (by decide +kernel) (hts _ m_1100) (hts _ m_62) hsa (lx_hat tha_X10_373 hts hE.ng) thg_X10_373 (hE.U nA_z) (hE.N nA_z) hS (hl.1.trans hml.symm) dX10_soldShare_28 dX10_soldShare_31 dX10_soldShare_32 dX10_soldShare_35 dX10_soldShare_38 (fun x h => (htb x h).elim) (Nat.le_of_ble_eq_true rfl) (Nat.le_of_ble_eq_true rfl) (Nat.le_of_ble_eq_true rfl) (Nat.le_of_ble_eq_true rfl) hlocks (fun t _ h1 h2 => xE.of hS h1 h2) hS.2.2 (Nat.le_of_ble_eq_true rfl) (Nat.le_of_ble_eq_true rfl)

set_option maxHeartbeats 4000000 in
set_option maxRecDepth 100000 in
theorem c_X10_sell_0 (l : Launch) (hfl : l.stackTraces = false) (z0 : Nat) (D : va_G) (g : Nat → Nat) (x a0 a1 a2 a3 a4 a5 a6 : Nat) (p0 : Int32) (p1 : Int32) (h : p1 = 0) : vx_Met l yX10_sell (wsp yX10_sell cX10_sell 6 (some .int)) ({ frames := 6, cells := 1, slots := 6, locals := 82 }) (va_Pc [.ref x, .int p0, .int p1] (PR z0 D g [(x, .inr (0, [.ref a0, .ref a1, .ref a2, .ref a3, .ref a4, .ref a5, .ref a6, .int 0, .int 0, .int 0, .int 0, .int 0, .int 0, .int 0]))])) (va_Qi (fun (r : Int32) (_ : Unit) => False) (fun _ _ => True) nA) (xE "java/lang/IllegalArgumentException") 1 6 nA := by
  refine vx_ofW (cc := cX10_sell) (maxL := 6) (ret := (some .int)) (by decide) rfl ?_
  intro p e s m args below meth c s₁ B hml htb hv
  obtain ⟨rfl, hE, hP⟩ := hv
  have hx := B.exec
  have hb := B.bytes
  have hr := B.returns
  have hts0 := atoms_spec (ws := (wsp yX10_sell cX10_sell 6 (some .int))) B.pre
  have hts : ∀ w ∈ lw_all, w.before _ s = true := fun w h => hts0 w (List.mem_cons_of_mem _ h)
  have hown : s.vm.findClass "Theatrehouse" = some m.cls := findClass_of_methodNamed B.named
  have hlocks := B.notSynchronized
  have hK := hE.K
  have hS : va_S nA s.heap s.heap [] := va_S.rf
  have hP : va_P D classes [(x, .inr (0, [.ref a0, .ref a1, .ref a2, .ref a3, .ref a4, .ref a5, .ref a6, .int 0, .int 0, .int 0, .int 0, .int 0, .int 0, .int 0]))] s.heap := hP
  have hl := lv_entry ([.ref x, .int p0, .int p1]) (n := 6) (Nat.le_of_ble_eq_true rfl)
  rw [lg_entry_eq]
  generalize (lg_sl ([.ref x, .int p0, .int p1]) ++ List.replicate (6 - (lg_sl ([.ref x, .int p0, .int p1])).length) Slot.unset).toArray = ls at hl ⊢
  have hl : lv_has ls 6 [(0, .ref x), (1, .int p0), (2, .int p1)] := hl
  refine lv_iload_n hx hb dX10_sell_0 rfl (lv_at hl 2 rfl) ?_
  refine lv_if_ne (tgt := 14) hx hb dX10_sell_1 (by decide) (fun h9 => absurd h h9) (fun _ => ?_)
  obtain ⟨sa, hsa⟩ := hE.str (i := 4) rfl
  exact vx_throwS hx hb hfl (own := "Theatrehouse") (cls := "java/lang/IllegalArgumentException") (text := "no tickets") (names := ["java/lang/RuntimeException", "java/lang/Exception"]) (ik := 179) (is := 230) (ic := 183) (sa := sa) (A := nA) hown (by decide +kernel) (by decide +kernel) (hts _ m_560) (hts _ m_21) hsa (lx_hat tha_X10_183 hts hE.ng) thg_X10_183 (hE.U nA_z) (hE.N nA_z) hS (hl.1.trans hml.symm) dX10_sell_4 dX10_sell_7 dX10_sell_8 dX10_sell_10 dX10_sell_13 (fun x h => (htb x h).elim) (Nat.le_of_ble_eq_true rfl) (Nat.le_of_ble_eq_true rfl) (Nat.le_of_ble_eq_true rfl) (Nat.le_of_ble_eq_true rfl) hlocks (fun t _ h1 h2 => xE.of hS h1 h2) hS.2.2 (Nat.le_of_ble_eq_true rfl) (Nat.le_of_ble_eq_true rfl)

set_option maxHeartbeats 4000000 in
set_option maxRecDepth 100000 in
theorem c_X10_sell_1 (l : Launch) (hfl : l.stackTraces = false) (z0 : Nat) (D : va_G) (g : Nat → Nat) (x a0 a1 a2 a3 a4 a5 a6 : Nat) (cE : ClassId) (F : Nat → Option Nat) (p0 : Int32) (p1 : Int32) (h : ¬ p1 = 0) : vx_Met l yX10_sell (wsp yX10_sell cX10_sell 6 (some .int)) ({ frames := 6, cells := 1, slots := 6, locals := 82 }) (va_Pc [.ref x, .int p0, .int p1] (PRC z0 D g [(cE, .object "Theatrehouse$Evening")] [(x, .inr (0, [.ref a0, .ref a1, .ref a2, .ref a3, .ref a4, .ref a5, .ref a6, .int 0, .int 0, .int 0, .int 0, .int 0, .int 0, .int 0])), (a3, .inl (cE, 100, .inr (.inr (.inr (.inr F)))))] F)) (va_Qi (fun (r : Int32) (_ : Unit) => False) (fun _ _ => True) nA) (xE "java/util/NoSuchElementException") 1 6 nA := by
  refine vx_ofW (cc := cX10_sell) (maxL := 6) (ret := (some .int)) (by decide) rfl ?_
  intro p e s m args below meth c s₁ B hml htb hv
  obtain ⟨rfl, hE, hP, hK, hC⟩ := hv
  have hx := B.exec
  have hb := B.bytes
  have hr := B.returns
  have hts0 := atoms_spec (ws := (wsp yX10_sell cX10_sell 6 (some .int))) B.pre
  have hts : ∀ w ∈ lw_all, w.before _ s = true := fun w h => hts0 w (List.mem_cons_of_mem _ h)
  have hown : s.vm.findClass "Theatrehouse" = some m.cls := findClass_of_methodNamed B.named
  have hlocks := B.notSynchronized
  have hS : va_S nA s.heap s.heap [] := va_S.rf
  have hP : va_P D classes [(x, .inr (0, [.ref a0, .ref a1, .ref a2, .ref a3, .ref a4, .ref a5, .ref a6, .int 0, .int 0, .int 0, .int 0, .int 0, .int 0, .int 0])), (a3, .inl (cE, 100, .inr (.inr (.inr (.inr F)))))] s.heap := hP
  have hl := lv_entry ([.ref x, .int p0, .int p1]) (n := 6) (Nat.le_of_ble_eq_true rfl)
  rw [lg_entry_eq]
  generalize (lg_sl ([.ref x, .int p0, .int p1]) ++ List.replicate (6 - (lg_sl ([.ref x, .int p0, .int p1])).length) Slot.unset).toArray = ls at hl ⊢
  have hl : lv_has ls 6 [(0, .ref x), (1, .int p0), (2, .int p1)] := hl
  refine lv_iload_n hx hb dX10_sell_0 rfl (lv_at hl 2 rfl) ?_
  refine lv_if_ne (tgt := 14) hx hb dX10_sell_1 (by decide) (fun _ => ?_) (fun h9 => absurd h9 h)
  refine lv_aload_n hx hb dX10_sell_14 rfl (lv_at hl 0 rfl) ?_
  refine lv_iload_n hx hb dX10_sell_15 rfl (lv_at hl 1 rfl) ?_
  refine lv_iload_n hx hb dX10_sell_16 rfl (lv_at hl 2 rfl) ?_
  have hc_1 := hP.sub (ws' := [(x, .inr (0, [.ref a0, .ref a1, .ref a2, .ref a3, .ref a4, .ref a5, .ref a6, .int 0, .int 0, .int 0, .int 0, .int 0, .int 0, .int 0])), (a3, .inl (cE, 100, .inr (.inr (.inr (.inr F)))))]) [0, 1] rfl
  refine va_calli (va_runV (As := [.int p0, .int p1]) (rest := []) ⟨hx, hb, hml, hown, hts⟩ (c_X10_canSell l z0 D g x a0 a1 a2 a3 a4 a5 a6 cE F p0 p1) (cwV 2 hts (lw_V m_830 m_832 mp_17 m_1 m_833) rfl rfl rfl (by decide +kernel) ⟨(Nat.le_of_ble_eq_true rfl), (Nat.le_of_ble_eq_true rfl)⟩) ⟨PRC.blind, va_recv hK hP (ci := 0) (q0 := 0) rfl rfl, PRC.pre hE hS nA_z hc_1 hK hC⟩ rfl rfl hl.1 rfl (lv_room (Nat.le_of_ble_eq_true rfl)) dX10_sell_17 ⟨(Nat.le_of_ble_eq_true rfl), (Nat.le_of_ble_eq_true rfl)⟩) hS nA_B nA_A (fun r_2 u_3 t H locs ht hvm hw hB hz1 hk1 hS => ?_)
  have hC := hC.old hk1
  have hP := hP.old hk1
  have hP : va_P D classes [(x, .inr (0, [.ref a0, .ref a1, .ref a2, .ref a3, .ref a4, .ref a5, .ref a6, .int 0, .int 0, .int 0, .int 0, .int 0, .int 0, .int 0])), (a3, .inl (cE, 100, .inr (.inr (.inr (.inr F)))))] H := hP
  subst hw
  refine lv_if_ne (tgt := 33) hx hb dX10_sell_20 (by decide) (fun h9 => absurd (by decide) h9) (fun _ => ?_)
  obtain ⟨sa, hsa⟩ := hE.str (i := 5) rfl
  exact vx_throwN hx hb hfl (own := "Theatrehouse") (cls := "java/util/NoSuchElementException") (text := "no evening to sell these tickets for") (Y0 := "java/lang/RuntimeException") (ix := 13) (rx := prog_69_method_4_code) (names := ["java/lang/Exception"]) (ik := 235) (is := 237) (ic := 239) (sa := sa) (A := nA) hown (by decide +kernel) (by decide +kernel) (by decide +kernel) (by decide +kernel) (by decide +kernel) (by decide +kernel) (by decide +kernel) (hts _ m_834) (hts _ m_51) hsa (lx_hat tha_X10_239 hts hE.ng) thg_X10_239 (hE.U nA_z) (hE.N nA_z) hS (hl.1.trans hml.symm) dX10_sell_23 dX10_sell_26 dX10_sell_27 dX10_sell_29 dX10_sell_32 (fun x h => (htb x h).elim) (Nat.le_of_ble_eq_true rfl) (Nat.le_of_ble_eq_true rfl) (Nat.le_of_ble_eq_true rfl) (Nat.le_of_ble_eq_true rfl) hlocks (fun t _ h1 h2 => xE.of hS h1 h2) hS.2.2 (Nat.le_of_ble_eq_true rfl) (Nat.le_of_ble_eq_true rfl)

set_option maxHeartbeats 4000000 in
set_option maxRecDepth 100000 in
theorem c_X10_begin (l : Launch) (hfl : l.stackTraces = false) (z0 : Nat) (D : va_G) (g : Nat → Nat) (x a0 a1 a2 a3 a4 a5 a6 : Nat) (cE : ClassId) (F : Nat → Option Nat) : vx_Met l yX10_begin (wsp yX10_begin cX10_begin 5 (some .int)) ({ frames := 6, cells := 1, slots := 6, locals := 82 }) (va_Pc [.ref x] (PRC z0 D g [(cE, .object "Theatrehouse$Evening")] [(x, .inr (0, [.ref a0, .ref a1, .ref a2, .ref a3, .ref a4, .ref a5, .ref a6, .int 0, .int 0, .int 0, .int 0, .int 0, .int 0, .int 0])), (a3, .inl (cE, 100, .inr (.inr (.inr (.inr F)))))] F)) (va_Qi (fun (r : Int32) (_ : Unit) => False) (fun _ _ => True) nA) (xE "java/util/NoSuchElementException") 1 6 nA := by
  refine vx_ofW (cc := cX10_begin) (maxL := 5) (ret := (some .int)) (by decide) rfl ?_
  intro p e s m args below meth c s₁ B hml htb hv
  obtain ⟨rfl, hE, hP, hK, hC⟩ := hv
  have hx := B.exec
  have hb := B.bytes
  have hr := B.returns
  have hts0 := atoms_spec (ws := (wsp yX10_begin cX10_begin 5 (some .int))) B.pre
  have hts : ∀ w ∈ lw_all, w.before _ s = true := fun w h => hts0 w (List.mem_cons_of_mem _ h)
  have hown : s.vm.findClass "Theatrehouse" = some m.cls := findClass_of_methodNamed B.named
  have hlocks := B.notSynchronized
  have hS : va_S nA s.heap s.heap [] := va_S.rf
  have hP : va_P D classes [(x, .inr (0, [.ref a0, .ref a1, .ref a2, .ref a3, .ref a4, .ref a5, .ref a6, .int 0, .int 0, .int 0, .int 0, .int 0, .int 0, .int 0])), (a3, .inl (cE, 100, .inr (.inr (.inr (.inr F)))))] s.heap := hP
  have hl := lv_entry ([.ref x]) (n := 5) (Nat.le_of_ble_eq_true rfl)
  rw [lg_entry_eq]
  generalize (lg_sl ([.ref x]) ++ List.replicate (5 - (lg_sl ([.ref x])).length) Slot.unset).toArray = ls at hl ⊢
  have hl : lv_has ls 5 [(0, .ref x)] := hl
  refine lv_aload_n hx hb dX10_begin_0 rfl (lv_at hl 0 rfl) ?_
  have hc_1 := hP.sub (ws' := [(x, .inr (0, [.ref a0, .ref a1, .ref a2, .ref a3, .ref a4, .ref a5, .ref a6, .int 0, .int 0, .int 0, .int 0, .int 0, .int 0, .int 0]))]) [0] rfl
  refine va_callv (va_runV (As := []) (rest := []) ⟨hx, hb, hml, hown, hts⟩ (c_X10_requireNoShow l z0 D g x a0 a1 a2 a3 a4 a5 a6) (cwV 0 hts (lw_V m_651 m_653 mp_10 m_1 m_654) rfl rfl rfl (by decide +kernel) ⟨(Nat.le_of_ble_eq_true rfl), (Nat.le_of_ble_eq_true rfl)⟩) ⟨PR.blind, va_recv hK hP (ci := 0) (q0 := 0) rfl rfl, PR.pre hE hS nA_z hc_1⟩ rfl rfl hl.1 rfl (lv_room (Nat.le_of_ble_eq_true rfl)) dX10_begin_1 ⟨(Nat.le_of_ble_eq_true rfl), (Nat.le_of_ble_eq_true rfl)⟩) hS nA_B nA_A (fun u_3 t H locs ht hvm hw hB hz1 hk1 hS => ?_)
  have hC := hC.old hk1
  have hP := hP.old hk1
  have hP : va_P D classes [(x, .inr (0, [.ref a0, .ref a1, .ref a2, .ref a3, .ref a4, .ref a5, .ref a6, .int 0, .int 0, .int 0, .int 0, .int 0, .int 0, .int 0])), (a3, .inl (cE, 100, .inr (.inr (.inr (.inr F)))))] H := hP
  refine lv_aload_n hx hb dX10_begin_4 rfl (lv_at hl 0 rfl) ?_
  refine va_get (D := D) (ci := 0) (v := .ref a3) (C := RX10) (T := TX10) (N := 14) hx hb hts i_X10 hown hK hP 0 rfl rfl 3 (by decide) (hts _ m_362) (fun _ h9 => h9) rfl dX10_begin_5 ?_
  refine lv_aload_n hx hb dX10_begin_8 rfl (lv_at hl 0 rfl) ?_
  refine va_get (D := D) (ci := 0) (v := .int 0) (C := RX10) (T := TX10) (N := 14) hx hb hts i_X10 hown hK hP 0 rfl rfl 10 (by decide) (hts _ m_369) (fun _ h9 => h9) rfl dX10_begin_9 ?_
  obtain ⟨y_4, hF9, hP9⟩ := hC 0 (by decide)
  have hP := hP.app hP9
  have hP : va_P D classes [(x, .inr (0, [.ref a0, .ref a1, .ref a2, .ref a3, .ref a4, .ref a5, .ref a6, .int 0, .int 0, .int 0, .int 0, .int 0, .int 0, .int 0])), (a3, .inl (cE, 100, .inr (.inr (.inr (.inr F))))), (y_4, .inr (4, [.ref (g 0), .int 0, .int 0]))] _ := hP
  refine va_aldq (i := 0) hx hb hK hP 1 0 rfl rfl (by unfold vp_in; decide) dX10_begin_12 ?_
  rw [show F (Int32.toNatClampNeg 0) = some y_4 from hF9]
  refine W.eq (g2 := F0 m 13 ls [.ref y_4]) rfl ?_
  refine lv_astore_n (lv' := [(1, .ref y_4), (0, .ref x)]) hx hb dX10_begin_13 rfl hl (by decide) rfl (fun ls hl => ?_)
  refine lv_aload_n hx hb dX10_begin_14 rfl (lv_at hl 0 rfl) ?_
  refine va_get (D := D) (ci := 4) (v := .ref (g 0)) (C := RX1) (T := TX1) (N := 3) hx hb hts i_X1 hown hK hP 2 rfl rfl 0 (by decide) (hts _ m_347) (fun _ h9 => h9) rfl dX10_begin_15 ?_
  refine va_gets hx hb (hE.z nA_z (i := 1) rfl) hS hown (hts _ m_813) (fun _ h9 => h9) dX10_begin_18 ?_
  refine lv_acmp_eq (rx := some (g 0)) (ry := some (g 1)) (tgt := 35) hx hb dX10_begin_21 (by decide) (fun h9 => absurd (Option.some.inj h9) hE.x.2.2.2.1) (fun _ => ?_)
  obtain ⟨sa, hsa⟩ := hE.str (i := 7) rfl
  exact vx_throwNW hx hb hfl (own := "Theatrehouse") (cls := "java/util/NoSuchElementException") (text := "no evening is planned for today") (Y0 := "java/lang/RuntimeException") (ix := 13) (rx := prog_69_method_4_code) (names := ["java/lang/Exception"]) (ik := 235) (is := 257) (ic := 239) (sa := sa) (A := nA) hown (by decide +kernel) (by decide +kernel) (by decide +kernel) (by decide +kernel) (by decide +kernel) (by decide +kernel) (by decide +kernel) (hts _ m_834) (hts _ m_51) hsa (lx_hat tha_X10_239 hts hE.ng) thg_X10_239 (hE.U nA_z) (hE.N nA_z) hS (hl.1.trans hml.symm) dX10_begin_24 dX10_begin_27 dX10_begin_28 dX10_begin_31 dX10_begin_34 (fun x h => (htb x h).elim) (Nat.le_of_ble_eq_true rfl) (Nat.le_of_ble_eq_true rfl) (Nat.le_of_ble_eq_true rfl) (Nat.le_of_ble_eq_true rfl) hlocks (fun t _ h1 h2 => xE.of hS h1 h2) hS.2.2 (Nat.le_of_ble_eq_true rfl) (Nat.le_of_ble_eq_true rfl)
