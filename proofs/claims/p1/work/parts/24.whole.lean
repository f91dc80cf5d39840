theorem dL_law_0 : decode cL_law 0 = .ok (.new 8, 3) := by decide +kernel
theorem dL_law_3 : decode cL_law 3 = .ok (.dup, 1) := by decide +kernel
theorem dL_law_4 : decode cL_law 4 = .ok (.invokespecial 128, 3) := by decide +kernel
theorem dL_law_7 : decode cL_law 7 = .ok (.astore_n 1, 1) := by decide +kernel
theorem dL_law_8 : decode cL_law 8 = .ok (.new 129, 3) := by decide +kernel
theorem dL_law_11 : decode cL_law 11 = .ok (.dup, 1) := by decide +kernel
theorem dL_law_12 : decode cL_law 12 = .ok (.invokespecial 131, 3) := by decide +kernel
theorem dL_law_15 : decode cL_law 15 = .ok (.astore_n 2, 1) := by decide +kernel
theorem dL_law_16 : decode cL_law 16 = .ok (.iconst 1, 1) := by decide +kernel
theorem dL_law_17 : decode cL_law 17 = .ok (.newarray .long, 2) := by decide +kernel
theorem dL_law_19 : decode cL_law 19 = .ok (.astore_n 3, 1) := by decide +kernel
theorem dL_law_20 : decode cL_law 20 = .ok (.iconst 1, 1) := by decide +kernel
theorem dL_law_21 : decode cL_law 21 = .ok (.newarray .double, 2) := by decide +kernel
theorem dL_law_23 : decode cL_law 23 = .ok (.astore 4, 2) := by decide +kernel
theorem dL_law_25 : decode cL_law 25 = .ok (.iconst 0, 1) := by decide +kernel
theorem dL_law_26 : decode cL_law 26 = .ok (.istore 5, 2) := by decide +kernel
theorem dL_law_38 : decode cL_law 38 = .ok (.aload_n 0, 1) := by decide +kernel
theorem dL_law_39 : decode cL_law 39 = .ok (.iload 5, 2) := by decide +kernel
theorem dL_law_41 : decode cL_law 41 = .ok (.iaload, 1) := by decide +kernel
theorem dL_law_42 : decode cL_law 42 = .ok (.bipush 63, 2) := by decide +kernel
theorem dL_law_44 : decode cL_law 44 = .ok (.iand, 1) := by decide +kernel
theorem dL_law_45 : decode cL_law 45 = .ok (.tableswitch 2111 0 34 #[155, 223, 291, 359, 427, 519, 587, 667, 787, 843, 911, 979, 1035, 1048, 1092, 1148, 1204, 1248, 1292, 1348, 1404, 1460, 1516, 1560, 1604, 1655, 1711, 1755, 1799, 1842, 1898, 1954, 1967, 2033, 2098], 155) := by decide +kernel
theorem m_63 : (Cond.classLink "TheatrehouseLaw" 8 "Theatrehouse") ∈ lw_all := lw_in 63 (by decide +kernel) (by decide +kernel)
theorem m_65 : (Cond.methodLink "TheatrehouseLaw" 128 ⟨"Theatrehouse", "<init>", "()V"⟩) ∈ lw_all := lw_in 65 (by decide +kernel) (by decide +kernel)
theorem m_66 : (Cond.instanceMethod ⟨"Theatrehouse", "<init>", "()V"⟩) ∈ lw_all := lw_in 66 (by decide +kernel) (by decide +kernel)
theorem m_67 : (Cond.code ⟨"Theatrehouse", "<init>", "()V"⟩ prog_1_method_1_code 2 (Option.none : Option Jvm.ClassFile.FieldType)) ∈ lw_all := lw_in 67 (by decide +kernel) (by decide +kernel)
theorem m_1111 : (Cond.classLink "TheatrehouseLaw" 129 "TheatrehouseModel") ∈ lw_all := lw_in 1111 (by decide +kernel) (by decide +kernel)
theorem m_1113 : (Cond.methodLink "TheatrehouseLaw" 131 ⟨"TheatrehouseModel", "<init>", "()V"⟩) ∈ lw_all := lw_in 1113 (by decide +kernel) (by decide +kernel)
theorem m_1114 : (Cond.instanceMethod ⟨"TheatrehouseModel", "<init>", "()V"⟩) ∈ lw_all := lw_in 1114 (by decide +kernel) (by decide +kernel)
theorem m_1115 : (Cond.code ⟨"TheatrehouseModel", "<init>", "()V"⟩ prog_13_method_1_code 1 (Option.none : Option Jvm.ClassFile.FieldType)) ∈ lw_all := lw_in 1115 (by decide +kernel) (by decide +kernel)
theorem m_2938 : (Cond.arrayClass Jvm.ClassFile.FieldType.double) ∈ lw_all := lw_in 2938 (by decide +kernel) (by decide +kernel)
theorem not_lt_0 {x : Int32} (h : ¬ x < 1) : ¬ x < 0 := by
  rw [Int32.lt_iff_toInt_lt] at *
  have e1 : (1 : Int32).toInt = 1 := by decide
  have e2 : (0 : Int32).toInt = 0 := by decide
  rw [e1] at h
  rw [e2]
  omega
theorem pass_ok_of {x : Int32} (h1 : ¬ x < 1) (h2 : x ≤ 30) : ¬ x < 0 ∧ ¬ (0 + x) < 0 ∧ (0 + x) ≤ 99 := by
  rw [Int32.zero_add]
  refine ⟨not_lt_0 h1, not_lt_0 h1, ?_⟩
  rw [Int32.le_iff_toInt_le] at *
  have e1 : (30 : Int32).toInt = 30 := by decide
  have e2 : (99 : Int32).toInt = 99 := by decide
  rw [e1] at h2
  rw [e2]
  omega

set_option maxHeartbeats 8000000 in
set_option maxRecDepth 100000 in
/-- YOUR PART: from the entry, for every script of at most 7 ints, the law comes to its end with true ('hflags': the launch's flags, for a law that throws: no stack traces) -/
theorem whole_start {p : Program} {e : Env} {s : State} {m : MethodId} {below : List Frame} {meth : Method} {c : Code} (l : Launch) (hflags : l.flags = flags0) {b L : Nat} {xs : Nat → Int32} (hL : L ≤ 7) (C0 : lw_At p s m meth c b L xs) : W p l e room_1 s m #[Value.ref b] below meth c s.heap [] 0 0 (lw_Z below #[Value.ref b] s) (entryFrame m ([Value.ref b] : List Value).toArray 9) := by
  have hfl : l.stackTraces = false := by unfold Launch.stackTraces; rw [hflags]; decide +kernel
  obtain ⟨hx, hb, hr, hml, hown, hts0, hX, hbl, hlocks, hgv⟩ := id C0
  obtain ⟨D, g, hE⟩ := start_EV hts0 hgv
  obtain ⟨z0, hz⟩ : ∃ z0, s.heap.size = z0 := ⟨_, rfl⟩
  rw [hz] at hE
  have hown : s.vm.findClass "TheatrehouseLaw" = some m.cls := hown
  have hts : ∀ w ∈ lw_all, w.before #[Value.ref b] s = true := fun w h => hts0 w (List.mem_filter.mp h).1
  have hAz : ∀ q, lA z0 q → z0 ≤ q := fun _ h => h
  have hA : ∀ q : Nat, s.heap.size ≤ q → lA z0 q := fun q h => by show z0 ≤ q; rw [← hz]; exact h
  have hsz : z0 ≤ s.heap.size := Nat.le_of_eq hz.symm
  have hbA : ¬ lA z0 b := by show ¬ z0 ≤ b; rw [← hz]; exact Nat.not_le.mpr hbl
  have hS : va_S (lA z0) s.heap s.heap [] := va_S.rf
  have hK : va_K D classes [] s := hE.K
  have hP : va_P D classes [] s.heap := va_nil
  have hD : va_D (lA z0) [] := va_dnil
  have hl := lv_entry ([.ref b]) (n := 9) (Nat.le_of_ble_eq_true rfl)
  rw [lg_entry_eq]
  generalize (lg_sl ([.ref b]) ++ List.replicate (9 - (lg_sl ([.ref b])).length) Slot.unset).toArray = ls at hl ⊢
  have hl : lv_has ls 9 [(0, .ref b)] := hl
  refine va_new (ci := 0) (fs := [.null, .null, .null, .null, .null, .null, .null, .int 0, .int 0, .int 0, .int 0, .int 0, .int 0, .int 0]) (C := RX10) (T := TX10) (N := 14) hx hb hts i_X10 tyX10 tyX10_ok hown (hts _ m_63) (hts _ m_64) (hts _ m_1) hK hP hD hS hA rfl (fun j hj => by rcases (show j = 0 ∨ j = 1 ∨ j = 2 ∨ j = 3 ∨ j = 4 ∨ j = 5 ∨ j = 6 ∨ j = 7 ∨ j = 8 ∨ j = 9 ∨ j = 10 ∨ j = 11 ∨ j = 12 ∨ j = 13 by omega) with rfl | rfl | rfl | rfl | rfl | rfl | rfl | rfl | rfl | rfl | rfl | rfl | rfl | rfl <;> rfl) (Nat.le_of_ble_eq_true rfl) (Nat.le_of_ble_eq_true rfl) dL_law_0 (fun x H hP hD hS => ?_)
  have hP : va_P D classes [(x, .inr (0, [.null, .null, .null, .null, .null, .null, .null, .int 0, .int 0, .int 0, .int 0, .int 0, .int 0, .int 0]))] H := hP
  have hD : va_D (lA z0) [(x, .inr (0, [.null, .null, .null, .null, .null, .null, .null, .int 0, .int 0, .int 0, .int 0, .int 0, .int 0, .int 0]))] := hD
  refine lv_dup hx hb dL_law_3 rfl ?_
  have hc_1 := hP.sub (ws' := [(x, .inr (0, [.null, .null, .null, .null, .null, .null, .null, .int 0, .int 0, .int 0, .int 0, .int 0, .int 0, .int 0]))]) [0] rfl
  have hc_1D := hD.sub (ws' := [(x, .inr (0, [.null, .null, .null, .null, .null, .null, .null, .int 0, .int 0, .int 0, .int 0, .int 0, .int 0, .int 0]))]) [0] (by decide) rfl
  have hc_1F := va_free (wc := [(x, .inr (0, [.null, .null, .null, .null, .null, .null, .null, .int 0, .int 0, .int 0, .int 0, .int 0, .int 0, .int 0]))]) hD hS hA [0] rfl
  refine va_callv (va_runI (As := []) (rest := [.ref x]) ⟨hx, hb, hml, hown, hts⟩ (c_init_House l z0 D g _ x) (cwI 0 hts (lw_I m_67) rfl rfl rfl (hts _ m_1) (hts _ m_65) (hts _ m_66) rfl (by decide +kernel) ⟨(Nat.le_of_ble_eq_true rfl), (Nat.le_of_ble_eq_true rfl)⟩) ⟨PM.blind, PM.pre hE hS hAz hsz hc_1 hc_1D⟩ rfl rfl hl.1 rfl (lv_room (Nat.le_of_ble_eq_true rfl)) dL_law_4 ⟨(Nat.le_of_ble_eq_true rfl), (Nat.le_of_ble_eq_true rfl)⟩) hS (fun q _ h => hc_1F q h) hc_1F (fun u_3 t H locs ht hvm hw hB hz1 hk1 hS => ?_)
  obtain ⟨a0, a1, a2, a3, a4, a5, a6, pp, pm, pw, w1, w2, w3, cP, cM, cW, cE, G0, G1, G2, F, LP, hF0, hF1, hF2, hF3, hK1, hP1, hD1⟩ := hB
  rw [ht] at hP1
  have hK := va_K.moved hvm.symm hK1
  have hP := hP1
  have hD := hD1.weaken (fun _ q _ hq => hc_1F q.1 hq)
  have hP : va_P D classes ([(x, .inr (0, [.ref a0, .ref a1, .ref a2, .ref a3, .ref a4, .ref a5, .ref a6, .int 0, .int 0, .int 0, .int 0, .int 0, .int 0, .int 0])), (a0, .inl (cP, 10, .inr (.inr (.inr (.inr G0))))), (a1, .inl (cM, 6, .inr (.inr (.inr (.inr G1))))), (a2, .inl (cW, 3, .inr (.inr (.inr (.inr G2))))), (a3, .inl (cE, 100, .inr (.inr (.inr (.inr F))))), (pp, .inr (1, [.int 0, .int 0, .int 0, .int 0, .int (-1), .int (-1)])), (pm, .inr (2, [.int 0, .int 0, .int (-1), .int 0, .int 0])), (pw, .inr (3, [.int 0, .int 0, .int 0, .int 0, .ref w1, .ref w2, .ref w3]))] ++ va_pl LP (fun _ => freeE g)) H := hP
  have hD : va_D (lA z0) ([(x, .inr (0, [.ref a0, .ref a1, .ref a2, .ref a3, .ref a4, .ref a5, .ref a6, .int 0, .int 0, .int 0, .int 0, .int 0, .int 0, .int 0])), (a0, .inl (cP, 10, .inr (.inr (.inr (.inr G0))))), (a1, .inl (cM, 6, .inr (.inr (.inr (.inr G1))))), (a2, .inl (cW, 3, .inr (.inr (.inr (.inr G2))))), (a3, .inl (cE, 100, .inr (.inr (.inr (.inr F))))), (pp, .inr (1, [.int 0, .int 0, .int 0, .int 0, .int (-1), .int (-1)])), (pm, .inr (2, [.int 0, .int 0, .int (-1), .int 0, .int 0])), (pw, .inr (3, [.int 0, .int 0, .int 0, .int 0, .ref w1, .ref w2, .ref w3]))] ++ va_pl LP (fun _ => freeE g)) := hD
  have hK : va_K D classes [(cP, .object "Theatrehouse$Person"), (cM, .object "Theatrehouse$Machine"), (cW, .object "Theatrehouse$Work"), (cE, .object "Theatrehouse$Evening")] s := hK
  refine lv_astore_n (lv' := [(1, .ref x), (0, .ref b)]) hx hb dL_law_7 rfl hl (by decide) rfl (fun ls hl => ?_)
  refine va_new (ci := 9) (fs := [.null, .null, .null, .null, .int 0, .null, .null, .null, .null, .null, .null, .int 0, .int 0, .long 0, .int 0]) (C := RX18) (T := TX18) (N := 15) hx hb hts i_X18 tyX18 tyX18_ok hown (hts _ m_1111) (hts _ m_1112) (hts _ m_12) hK hP hD hS hA rfl (fun j hj => by rcases (show j = 0 ∨ j = 1 ∨ j = 2 ∨ j = 3 ∨ j = 4 ∨ j = 5 ∨ j = 6 ∨ j = 7 ∨ j = 8 ∨ j = 9 ∨ j = 10 ∨ j = 11 ∨ j = 12 ∨ j = 13 ∨ j = 14 by omega) with rfl | rfl | rfl | rfl | rfl | rfl | rfl | rfl | rfl | rfl | rfl | rfl | rfl | rfl | rfl <;> rfl) (Nat.le_of_ble_eq_true rfl) (Nat.le_of_ble_eq_true rfl) dL_law_8 (fun mm H hP hD hS => ?_)
  have hP := va_P.swap hP
  have hD := va_D.swap hD
  have hP : va_P D classes ([(x, .inr (0, [.ref a0, .ref a1, .ref a2, .ref a3, .ref a4, .ref a5, .ref a6, .int 0, .int 0, .int 0, .int 0, .int 0, .int 0, .int 0])), (a0, .inl (cP, 10, .inr (.inr (.inr (.inr G0))))), (a1, .inl (cM, 6, .inr (.inr (.inr (.inr G1))))), (a2, .inl (cW, 3, .inr (.inr (.inr (.inr G2))))), (a3, .inl (cE, 100, .inr (.inr (.inr (.inr F))))), (pp, .inr (1, [.int 0, .int 0, .int 0, .int 0, .int (-1), .int (-1)])), (pm, .inr (2, [.int 0, .int 0, .int (-1), .int 0, .int 0])), (pw, .inr (3, [.int 0, .int 0, .int 0, .int 0, .ref w1, .ref w2, .ref w3])), (mm, .inr (9, [.null, .null, .null, .null, .int 0, .null, .null, .null, .null, .null, .null, .int 0, .int 0, .long 0, .int 0]))] ++ va_pl LP (fun _ => freeE g)) H := hP
  have hD : va_D (lA z0) ([(x, .inr (0, [.ref a0, .ref a1, .ref a2, .ref a3, .ref a4, .ref a5, .ref a6, .int 0, .int 0, .int 0, .int 0, .int 0, .int 0, .int 0])), (a0, .inl (cP, 10, .inr (.inr (.inr (.inr G0))))), (a1, .inl (cM, 6, .inr (.inr (.inr (.inr G1))))), (a2, .inl (cW, 3, .inr (.inr (.inr (.inr G2))))), (a3, .inl (cE, 100, .inr (.inr (.inr (.inr F))))), (pp, .inr (1, [.int 0, .int 0, .int 0, .int 0, .int (-1), .int (-1)])), (pm, .inr (2, [.int 0, .int 0, .int (-1), .int 0, .int 0])), (pw, .inr (3, [.int 0, .int 0, .int 0, .int 0, .ref w1, .ref w2, .ref w3])), (mm, .inr (9, [.null, .null, .null, .null, .int 0, .null, .null, .null, .null, .null, .null, .int 0, .int 0, .long 0, .int 0]))] ++ va_pl LP (fun _ => freeE g)) := hD
  refine lv_dup hx hb dL_law_11 rfl ?_
  have hc_4 := hP.sub (ws' := [(mm, .inr (9, [.null, .null, .null, .null, .int 0, .null, .null, .null, .null, .null, .null, .int 0, .int 0, .long 0, .int 0]))]) [8] rfl
  have hc_4D := hD.sub (ws' := [(mm, .inr (9, [.null, .null, .null, .null, .int 0, .null, .null, .null, .null, .null, .null, .int 0, .int 0, .long 0, .int 0]))]) [8] (by decide) rfl
  have hc_4F := va_free (wc := [(mm, .inr (9, [.null, .null, .null, .null, .int 0, .null, .null, .null, .null, .null, .null, .int 0, .int 0, .long 0, .int 0]))]) hD hS hA [8] rfl
  refine va_callv (va_runI (As := []) (rest := [.ref mm]) ⟨hx, hb, hml, hown, hts⟩ (c_init_Ref l z0 D g _ mm) (cwI 0 hts (lw_I m_1115) rfl rfl rfl (hts _ m_12) (hts _ m_1113) (hts _ m_1114) rfl (by decide +kernel) ⟨(Nat.le_of_ble_eq_true rfl), (Nat.le_of_ble_eq_true rfl)⟩) ⟨PM.blind, PM.pre hE hS hAz hsz hc_4 hc_4D⟩ rfl rfl hl.1 rfl (lv_room (Nat.le_of_ble_eq_true rfl)) dL_law_12 ⟨(Nat.le_of_ble_eq_true rfl), (Nat.le_of_ble_eq_true rfl)⟩) hS (fun q _ h => hc_4F q h) hc_4F (fun u_6 t H locs ht hvm hw hB hz1 hk1 hS => ?_)
  obtain ⟨b0, b1, b2, b3, b4, b5, b6, hP1, hD1⟩ := hB
  rw [ht] at hP1
  obtain ⟨hP, hD⟩ := va_joinQ (X := [(x, .inr (0, [.ref a0, .ref a1, .ref a2, .ref a3, .ref a4, .ref a5, .ref a6, .int 0, .int 0, .int 0, .int 0, .int 0, .int 0, .int 0])), (a0, .inl (cP, 10, .inr (.inr (.inr (.inr G0))))), (a1, .inl (cM, 6, .inr (.inr (.inr (.inr G1))))), (a2, .inl (cW, 3, .inr (.inr (.inr (.inr G2))))), (a3, .inl (cE, 100, .inr (.inr (.inr (.inr F))))), (pp, .inr (1, [.int 0, .int 0, .int 0, .int 0, .int (-1), .int (-1)])), (pm, .inr (2, [.int 0, .int 0, .int (-1), .int 0, .int 0])), (pw, .inr (3, [.int 0, .int 0, .int 0, .int 0, .ref w1, .ref w2, .ref w3])), (mm, .inr (9, [.null, .null, .null, .null, .int 0, .null, .null, .null, .null, .null, .null, .int 0, .int 0, .long 0, .int 0]))]) (wr := [(x, .inr (0, [.ref a0, .ref a1, .ref a2, .ref a3, .ref a4, .ref a5, .ref a6, .int 0, .int 0, .int 0, .int 0, .int 0, .int 0, .int 0])), (a0, .inl (cP, 10, .inr (.inr (.inr (.inr G0))))), (a1, .inl (cM, 6, .inr (.inr (.inr (.inr G1))))), (a2, .inl (cW, 3, .inr (.inr (.inr (.inr G2))))), (a3, .inl (cE, 100, .inr (.inr (.inr (.inr F))))), (pp, .inr (1, [.int 0, .int 0, .int 0, .int 0, .int (-1), .int (-1)])), (pm, .inr (2, [.int 0, .int 0, .int (-1), .int 0, .int 0])), (pw, .inr (3, [.int 0, .int 0, .int 0, .int 0, .ref w1, .ref w2, .ref w3]))]) (w1 := [(mm, .inr (9, [.ref b0, .ref b1, .ref b2, .ref b3, .int 0, .null, .null, .ref b4, .null, .ref b5, .ref b6, .int 0, .int 0, .long 0, .int 0])), (b0, .inr (10, [.int 0, .ref (g 4), .int 0])), (b1, .inr (10, [.int 0, .ref (g 4), .int 0])), (b2, .inr (10, [.int 0, .ref (g 4), .int 0])), (b3, .inr (11, [.null, .null, .null, .null, .int 0, .int 0, .null, .null, .null]))]) hP hD [8] [0, 1, 2, 3, 4, 5, 6, 7] rfl rfl (by decide) (by decide) hk1 hc_4F hP1 hD1
  have hP : va_P D classes ([(x, .inr (0, [.ref a0, .ref a1, .ref a2, .ref a3, .ref a4, .ref a5, .ref a6, .int 0, .int 0, .int 0, .int 0, .int 0, .int 0, .int 0])), (a0, .inl (cP, 10, .inr (.inr (.inr (.inr G0))))), (a1, .inl (cM, 6, .inr (.inr (.inr (.inr G1))))), (a2, .inl (cW, 3, .inr (.inr (.inr (.inr G2))))), (a3, .inl (cE, 100, .inr (.inr (.inr (.inr F))))), (pp, .inr (1, [.int 0, .int 0, .int 0, .int 0, .int (-1), .int (-1)])), (pm, .inr (2, [.int 0, .int 0, .int (-1), .int 0, .int 0])), (pw, .inr (3, [.int 0, .int 0, .int 0, .int 0, .ref w1, .ref w2, .ref w3])), (mm, .inr (9, [.ref b0, .ref b1, .ref b2, .ref b3, .int 0, .null, .null, .ref b4, .null, .ref b5, .ref b6, .int 0, .int 0, .long 0, .int 0])), (b0, .inr (10, [.int 0, .ref (g 4), .int 0])), (b1, .inr (10, [.int 0, .ref (g 4), .int 0])), (b2, .inr (10, [.int 0, .ref (g 4), .int 0])), (b3, .inr (11, [.null, .null, .null, .null, .int 0, .int 0, .null, .null, .null]))] ++ va_pl LP (fun _ => freeE g)) H := hP
  have hD : va_D (lA z0) ([(x, .inr (0, [.ref a0, .ref a1, .ref a2, .ref a3, .ref a4, .ref a5, .ref a6, .int 0, .int 0, .int 0, .int 0, .int 0, .int 0, .int 0])), (a0, .inl (cP, 10, .inr (.inr (.inr (.inr G0))))), (a1, .inl (cM, 6, .inr (.inr (.inr (.inr G1))))), (a2, .inl (cW, 3, .inr (.inr (.inr (.inr G2))))), (a3, .inl (cE, 100, .inr (.inr (.inr (.inr F))))), (pp, .inr (1, [.int 0, .int 0, .int 0, .int 0, .int (-1), .int (-1)])), (pm, .inr (2, [.int 0, .int 0, .int (-1), .int 0, .int 0])), (pw, .inr (3, [.int 0, .int 0, .int 0, .int 0, .ref w1, .ref w2, .ref w3])), (mm, .inr (9, [.ref b0, .ref b1, .ref b2, .ref b3, .int 0, .null, .null, .ref b4, .null, .ref b5, .ref b6, .int 0, .int 0, .long 0, .int 0])), (b0, .inr (10, [.int 0, .ref (g 4), .int 0])), (b1, .inr (10, [.int 0, .ref (g 4), .int 0])), (b2, .inr (10, [.int 0, .ref (g 4), .int 0])), (b3, .inr (11, [.null, .null, .null, .null, .int 0, .int 0, .null, .null, .null]))] ++ va_pl LP (fun _ => freeE g)) := hD
  refine lv_astore_n (lv' := [(2, .ref mm), (1, .ref x), (0, .ref b)]) hx hb dL_law_15 rfl hl (by decide) rfl (fun ls hl => ?_)
  refine lv_iconst (v := 1) hx hb dL_law_16 (by decide) ?_
  refine va_newa (atype := .long) (ty := .long) (a0 := (1, .inr (.inl (fun _ => 0)))) hx hb (hts _ m_200) rfl hK hP hD hS hA (fun _ => rfl) (by decide) (by decide) (by decide) (Nat.le_of_ble_eq_true rfl) (Nat.le_of_ble_eq_true rfl) dL_law_17 (fun o cJ H hK hP hD hS => ?_)
  have hP := va_P.swap hP
  have hD := va_D.swap hD
  have hP : va_P D classes ([(x, .inr (0, [.ref a0, .ref a1, .ref a2, .ref a3, .ref a4, .ref a5, .ref a6, .int 0, .int 0, .int 0, .int 0, .int 0, .int 0, .int 0])), (a0, .inl (cP, 10, .inr (.inr (.inr (.inr G0))))), (a1, .inl (cM, 6, .inr (.inr (.inr (.inr G1))))), (a2, .inl (cW, 3, .inr (.inr (.inr (.inr G2))))), (a3, .inl (cE, 100, .inr (.inr (.inr (.inr F))))), (pp, .inr (1, [.int 0, .int 0, .int 0, .int 0, .int (-1), .int (-1)])), (pm, .inr (2, [.int 0, .int 0, .int (-1), .int 0, .int 0])), (pw, .inr (3, [.int 0, .int 0, .int 0, .int 0, .ref w1, .ref w2, .ref w3])), (mm, .inr (9, [.ref b0, .ref b1, .ref b2, .ref b3, .int 0, .null, .null, .ref b4, .null, .ref b5, .ref b6, .int 0, .int 0, .long 0, .int 0])), (b0, .inr (10, [.int 0, .ref (g 4), .int 0])), (b1, .inr (10, [.int 0, .ref (g 4), .int 0])), (b2, .inr (10, [.int 0, .ref (g 4), .int 0])), (b3, .inr (11, [.null, .null, .null, .null, .int 0, .int 0, .null, .null, .null])), (o, .inl (cJ, 1, .inr (.inl (fun _ => 0))))] ++ va_pl LP (fun _ => freeE g)) H := hP
  have hD : va_D (lA z0) ([(x, .inr (0, [.ref a0, .ref a1, .ref a2, .ref a3, .ref a4, .ref a5, .ref a6, .int 0, .int 0, .int 0, .int 0, .int 0, .int 0, .int 0])), (a0, .inl (cP, 10, .inr (.inr (.inr (.inr G0))))), (a1, .inl (cM, 6, .inr (.inr (.inr (.inr G1))))), (a2, .inl (cW, 3, .inr (.inr (.inr (.inr G2))))), (a3, .inl (cE, 100, .inr (.inr (.inr (.inr F))))), (pp, .inr (1, [.int 0, .int 0, .int 0, .int 0, .int (-1), .int (-1)])), (pm, .inr (2, [.int 0, .int 0, .int (-1), .int 0, .int 0])), (pw, .inr (3, [.int 0, .int 0, .int 0, .int 0, .ref w1, .ref w2, .ref w3])), (mm, .inr (9, [.ref b0, .ref b1, .ref b2, .ref b3, .int 0, .null, .null, .ref b4, .null, .ref b5, .ref b6, .int 0, .int 0, .long 0, .int 0])), (b0, .inr (10, [.int 0, .ref (g 4), .int 0])), (b1, .inr (10, [.int 0, .ref (g 4), .int 0])), (b2, .inr (10, [.int 0, .ref (g 4), .int 0])), (b3, .inr (11, [.null, .null, .null, .null, .int 0, .int 0, .null, .null, .null])), (o, .inl (cJ, 1, .inr (.inl (fun _ => 0))))] ++ va_pl LP (fun _ => freeE g)) := hD
  have hK : va_K D classes [(cP, .object "Theatrehouse$Person"), (cM, .object "Theatrehouse$Machine"), (cW, .object "Theatrehouse$Work"), (cE, .object "Theatrehouse$Evening"), (cJ, .long)] s := hK
  refine lv_astore_n (lv' := [(3, .ref o), (2, .ref mm), (1, .ref x), (0, .ref b)]) hx hb dL_law_19 rfl hl (by decide) rfl (fun ls hl => ?_)
  refine lv_iconst (v := 1) hx hb dL_law_20 (by decide) ?_
  refine va_newa (atype := .double) (ty := .double) (a0 := (1, .inr (.inr (.inr (.inl (fun _ => 0)))))) hx hb (hts _ m_2938) rfl hK hP hD hS hA (fun _ => rfl) (by decide) (by decide) (by decide) (Nat.le_of_ble_eq_true rfl) (Nat.le_of_ble_eq_true rfl) dL_law_21 (fun od cD H hK hP hD hS => ?_)
  have hP := va_P.swap hP
  have hD := va_D.swap hD
  have hP : va_P D classes ([(x, .inr (0, [.ref a0, .ref a1, .ref a2, .ref a3, .ref a4, .ref a5, .ref a6, .int 0, .int 0, .int 0, .int 0, .int 0, .int 0, .int 0])), (a0, .inl (cP, 10, .inr (.inr (.inr (.inr G0))))), (a1, .inl (cM, 6, .inr (.inr (.inr (.inr G1))))), (a2, .inl (cW, 3, .inr (.inr (.inr (.inr G2))))), (a3, .inl (cE, 100, .inr (.inr (.inr (.inr F))))), (pp, .inr (1, [.int 0, .int 0, .int 0, .int 0, .int (-1), .int (-1)])), (pm, .inr (2, [.int 0, .int 0, .int (-1), .int 0, .int 0])), (pw, .inr (3, [.int 0, .int 0, .int 0, .int 0, .ref w1, .ref w2, .ref w3])), (mm, .inr (9, [.ref b0, .ref b1, .ref b2, .ref b3, .int 0, .null, .null, .ref b4, .null, .ref b5, .ref b6, .int 0, .int 0, .long 0, .int 0])), (b0, .inr (10, [.int 0, .ref (g 4), .int 0])), (b1, .inr (10, [.int 0, .ref (g 4), .int 0])), (b2, .inr (10, [.int 0, .ref (g 4), .int 0])), (b3, .inr (11, [.null, .null, .null, .null, .int 0, .int 0, .null, .null, .null])), (o, .inl (cJ, 1, .inr (.inl (fun _ => 0)))), (od, .inl (cD, 1, .inr (.inr (.inr (.inl (fun _ => 0))))))] ++ va_pl LP (fun _ => freeE g)) H := hP
  have hD : va_D (lA z0) ([(x, .inr (0, [.ref a0, .ref a1, .ref a2, .ref a3, .ref a4, .ref a5, .ref a6, .int 0, .int 0, .int 0, .int 0, .int 0, .int 0, .int 0])), (a0, .inl (cP, 10, .inr (.inr (.inr (.inr G0))))), (a1, .inl (cM, 6, .inr (.inr (.inr (.inr G1))))), (a2, .inl (cW, 3, .inr (.inr (.inr (.inr G2))))), (a3, .inl (cE, 100, .inr (.inr (.inr (.inr F))))), (pp, .inr (1, [.int 0, .int 0, .int 0, .int 0, .int (-1), .int (-1)])), (pm, .inr (2, [.int 0, .int 0, .int (-1), .int 0, .int 0])), (pw, .inr (3, [.int 0, .int 0, .int 0, .int 0, .ref w1, .ref w2, .ref w3])), (mm, .inr (9, [.ref b0, .ref b1, .ref b2, .ref b3, .int 0, .null, .null, .ref b4, .null, .ref b5, .ref b6, .int 0, .int 0, .long 0, .int 0])), (b0, .inr (10, [.int 0, .ref (g 4), .int 0])), (b1, .inr (10, [.int 0, .ref (g 4), .int 0])), (b2, .inr (10, [.int 0, .ref (g 4), .int 0])), (b3, .inr (11, [.null, .null, .null, .null, .int 0, .int 0, .null, .null, .null])), (o, .inl (cJ, 1, .inr (.inl (fun _ => 0)))), (od, .inl (cD, 1, .inr (.inr (.inr (.inl (fun _ => 0))))))] ++ va_pl LP (fun _ => freeE g)) := hD
  have hK : va_K D classes [(cP, .object "Theatrehouse$Person"), (cM, .object "Theatrehouse$Machine"), (cW, .object "Theatrehouse$Work"), (cE, .object "Theatrehouse$Evening"), (cJ, .long), (cD, .double)] s := hK
  refine lv_astore (lv' := [(4, .ref od), (3, .ref o), (2, .ref mm), (1, .ref x), (0, .ref b)]) hx hb dL_law_23 hl (by decide) rfl (fun ls hl => ?_)
  refine lv_iconst (v := 0) hx hb dL_law_25 (by decide) ?_
  refine lv_istore (lv' := [(5, .int 0), (4, .ref od), (3, .ref o), (2, .ref mm), (1, .ref x), (0, .ref b)]) hx hb dL_law_26 hl (by decide) rfl (fun ls hl => ?_)
  refine lv_iload hx hb dL_law_28 (lv_at hl 0 rfl) ?_
  refine lv_aload_n hx hb dL_law_30 rfl (lv_at hl 5 rfl) ?_
  refine va_slen hx hb hX hbl hbA hS dL_law_31 ?_
  refine lv_bipush (v := 7) hx hb dL_law_32 (by decide) ?_
  refine lv_isub hx hb dL_law_34 ?_
  rcases Nat.lt_or_ge L 7 with h7 | h7
  · refine lv_icmp_gt (tgt := 2162) hx hb dL_law_35 (by decide) (fun _ => ?_) (fun h9 => absurd (show (Int32.ofNat L - 7 : Int32) < 0 from pk_sneg (a := L) (b := 7) (by decide) h7) h9)
    refine lv_iconst (v := 1) hx hb dL_law_2162 (by decide) ?_
    refine va_forget (fun q hq => by rw [hz]; exact hS.2.2 q hq) ?_
    refine W.widen (k := 600006) (n := 7302023) (Nat.le_of_ble_eq_true rfl) (Nat.le_of_ble_eq_true rfl) ?_
    exact lw_ret (d0 := s.drawn) (Drawn.sameBut.refl s.drawn lw_cs) hx hb hr hlocks dL_law_2163
  · have hL7 : L = 7 := by omega
    subst hL7
    refine lv_icmp_gt (tgt := 2162) hx hb dL_law_35 (by decide) (fun h9 => absurd h9 (by decide)) (fun _ => ?_)
    refine lv_aload_n hx hb dL_law_38 rfl (lv_at hl 5 rfl) ?_
    refine lv_iload hx hb dL_law_39 (lv_at hl 0 rfl) ?_
    refine va_sld (i := 0) hx hb hX hbl hbA hS (by unfold vp_in; decide) dL_law_41 ?_
    refine lv_bipush (v := 63) hx hb dL_law_42 (by decide) ?_
    refine lv_iand hx hb dL_law_44 ?_
    obtain ⟨j, hj, ej⟩ := pk_andE (xs (Int32.toNatClampNeg 0)) (m := 63) 6 (by decide)
    rw [ej]
    refine W.widen (k := 199) (n := 4528) (Nat.le_of_ble_eq_true rfl) (Nat.le_of_ble_eq_true rfl) ?_
    rcases Nat.lt_or_ge j 35 with hj2 | hj2
    · rcases (show j = 0 ∨ j = 1 ∨ j = 2 ∨ j = 3 ∨ j = 4 ∨ j = 5 ∨ j = 6 ∨ j = 7 ∨ j = 8 ∨ j = 9 ∨ j = 10 ∨ j = 11 ∨ j = 12 ∨ j = 13 ∨ j = 14 ∨ j = 15 ∨ j = 16 ∨ j = 17 ∨ j = 18 ∨ j = 19 ∨ j = 20 ∨ j = 21 ∨ j = 22 ∨ j = 23 ∨ j = 24 ∨ j = 25 ∨ j = 26 ∨ j = 27 ∨ j = 28 ∨ j = 29 ∨ j = 30 ∨ j = 31 ∨ j = 32 ∨ j = 33 ∨ j = 34 by omega) with rfl | rfl | rfl | rfl | rfl | rfl | rfl | rfl | rfl | rfl | rfl | rfl | rfl | rfl | rfl | rfl | rfl | rfl | rfl | rfl | rfl | rfl | rfl | rfl | rfl | rfl | rfl | rfl | rfl | rfl | rfl | rfl | rfl | rfl | rfl
      · refine lv_tableIn (off := 155) (tgt := 200) hx hb dL_law_45 (by decide) (by decide) (by decide) (by decide) ?_
        by_cases h : (xs (Int32.toNatClampNeg 1)) < 0 ∨ ¬ (xs (Int32.toNatClampNeg 1)) ≤ 99
        · exact case_0_b1 hfl rfl C0 hz hE x a0 a1 a2 a3 a4 a5 a6 pp pm pw w1 w2 w3 mm b0 b1 b2 b3 b4 b5 b6 o od cP cM cW cE cJ cD G0 G1 G2 F LP hF0 hF1 hF2 hF3 hK h H locs hP hD hS ls (lv_sub hl [0, 1, 2, 3, 4, 5] rfl)
        · have h1 : ¬ (xs (Int32.toNatClampNeg 1)) < 0 := fun z => h (Or.inl z)
          have h2 : (xs (Int32.toNatClampNeg 1)) ≤ 99 := Classical.byContradiction fun z => h (Or.inr z)
          by_cases h9 : (xs (Int32.toNatClampNeg 2)) < 1 ∨ ¬ (xs (Int32.toNatClampNeg 2)) ≤ 30
          · exact case_0_b2 hfl rfl C0 hz hE x a0 a1 a2 a3 a4 a5 a6 pp pm pw w1 w2 w3 mm b0 b1 b2 b3 b4 b5 b6 o od cP cM cW cE cJ cD G0 G1 G2 F LP hF0 hF1 hF2 hF3 hK h1 h2 h9 H locs hP hD hS ls (lv_sub hl [0, 1, 2, 3, 4, 5] rfl)
          · have h3 : ¬ (xs (Int32.toNatClampNeg 2)) < 1 := fun z => h9 (Or.inl z)
            have h4 : (xs (Int32.toNatClampNeg 2)) ≤ 30 := Classical.byContradiction fun z => h9 (Or.inr z)
            exact case_0_ok hfl rfl C0 hz hE x a0 a1 a2 a3 a4 a5 a6 pp pm pw w1 w2 w3 mm b0 b1 b2 b3 b4 b5 b6 o od cP cM cW cE cJ cD G0 G1 G2 F LP hF0 hF1 hF2 hF3 hK h1 h2 h3 h4 H locs hP hD hS ls (lv_sub hl [0, 1, 2, 3, 4, 5] rfl)
      · refine lv_tableIn (off := 223) (tgt := 268) hx hb dL_law_45 (by decide) (by decide) (by decide) (by decide) ?_
        exact case_1 hfl rfl C0 hz hE x a0 a1 a2 a3 a4 a5 a6 pp pm pw w1 w2 w3 mm b0 b1 b2 b3 b4 b5 b6 o od cP cM cW cE cJ cD G0 G1 G2 F LP hF0 hF1 hF2 hF3 hK  H locs hP hD hS ls (lv_sub hl [0, 1, 2, 3, 4, 5] rfl)
      · refine lv_tableIn (off := 291) (tgt := 336) hx hb dL_law_45 (by decide) (by decide) (by decide) (by decide) ?_
        exact case_2 hfl rfl C0 hz hE x a0 a1 a2 a3 a4 a5 a6 pp pm pw w1 w2 w3 mm b0 b1 b2 b3 b4 b5 b6 o od cP cM cW cE cJ cD G0 G1 G2 F LP hF0 hF1 hF2 hF3 hK  H locs hP hD hS ls (lv_sub hl [0, 1, 2, 3, 4, 5] rfl)
      · refine lv_tableIn (off := 359) (tgt := 404) hx hb dL_law_45 (by decide) (by decide) (by decide) (by decide) ?_
        by_cases h : (xs (Int32.toNatClampNeg 1)) < 0 ∨ ¬ (xs (Int32.toNatClampNeg 1)) ≤ 4
        · exact case_3_b1 hfl rfl C0 hz hE x a0 a1 a2 a3 a4 a5 a6 pp pm pw w1 w2 w3 mm b0 b1 b2 b3 b4 b5 b6 o od cP cM cW cE cJ cD G0 G1 G2 F LP hF0 hF1 hF2 hF3 hK h H locs hP hD hS ls (lv_sub hl [0, 1, 2, 3, 4, 5] rfl)
        · have h1 : ¬ (xs (Int32.toNatClampNeg 1)) < 0 := fun z => h (Or.inl z)
          have h2 : (xs (Int32.toNatClampNeg 1)) ≤ 4 := Classical.byContradiction fun z => h (Or.inr z)
          by_cases h9 : (xs (Int32.toNatClampNeg 2)) < 0 ∨ ¬ (xs (Int32.toNatClampNeg 2)) ≤ 9
          · exact case_3_b2 hfl rfl C0 hz hE x a0 a1 a2 a3 a4 a5 a6 pp pm pw w1 w2 w3 mm b0 b1 b2 b3 b4 b5 b6 o od cP cM cW cE cJ cD G0 G1 G2 F LP hF0 hF1 hF2 hF3 hK h1 h2 h9 H locs hP hD hS ls (lv_sub hl [0, 1, 2, 3, 4, 5] rfl)
          · have h3 : ¬ (xs (Int32.toNatClampNeg 2)) < 0 := fun z => h9 (Or.inl z)
            have h4 : (xs (Int32.toNatClampNeg 2)) ≤ 9 := Classical.byContradiction fun z => h9 (Or.inr z)
            exact case_3_ok hfl rfl C0 hz hE x a0 a1 a2 a3 a4 a5 a6 pp pm pw w1 w2 w3 mm b0 b1 b2 b3 b4 b5 b6 o od cP cM cW cE cJ cD G0 G1 G2 F LP hF0 hF1 hF2 hF3 hK h1 h2 h3 h4 H locs hP hD hS ls (lv_sub hl [0, 1, 2, 3, 4, 5] rfl)
      · refine lv_tableIn (off := 427) (tgt := 472) hx hb dL_law_45 (by decide) (by decide) (by decide) (by decide) ?_
        exact case_4 hfl rfl C0 hz hE x a0 a1 a2 a3 a4 a5 a6 pp pm pw w1 w2 w3 mm b0 b1 b2 b3 b4 b5 b6 o od cP cM cW cE cJ cD G0 G1 G2 F LP hF0 hF1 hF2 hF3 hK  H locs hP hD hS ls (lv_sub hl [0, 1, 2, 3, 4, 5] rfl)
      · refine lv_tableIn (off := 519) (tgt := 564) hx hb dL_law_45 (by decide) (by decide) (by decide) (by decide) ?_
        by_cases h : (xs (Int32.toNatClampNeg 1)) < 1 ∨ ¬ (xs (Int32.toNatClampNeg 1)) ≤ 5
        · exact case_5_b1 hfl rfl C0 hz hE x a0 a1 a2 a3 a4 a5 a6 pp pm pw w1 w2 w3 mm b0 b1 b2 b3 b4 b5 b6 o od cP cM cW cE cJ cD G0 G1 G2 F LP hF0 hF1 hF2 hF3 hK h H locs hP hD hS ls (lv_sub hl [0, 1, 2, 3, 4, 5] rfl)
        · have h1 : ¬ (xs (Int32.toNatClampNeg 1)) < 1 := fun z => h (Or.inl z)
          have h2 : (xs (Int32.toNatClampNeg 1)) ≤ 5 := Classical.byContradiction fun z => h (Or.inr z)
          by_cases h9 : (xs (Int32.toNatClampNeg 2)) < 1 ∨ ¬ (xs (Int32.toNatClampNeg 2)) ≤ 99
          · exact case_5_b2 hfl rfl C0 hz hE x a0 a1 a2 a3 a4 a5 a6 pp pm pw w1 w2 w3 mm b0 b1 b2 b3 b4 b5 b6 o od cP cM cW cE cJ cD G0 G1 G2 F LP hF0 hF1 hF2 hF3 hK h1 h2 h9 H locs hP hD hS ls (lv_sub hl [0, 1, 2, 3, 4, 5] rfl)
          · have h3 : ¬ (xs (Int32.toNatClampNeg 2)) < 1 := fun z => h9 (Or.inl z)
            have h4 : (xs (Int32.toNatClampNeg 2)) ≤ 99 := Classical.byContradiction fun z => h9 (Or.inr z)
            obtain ⟨k, hk, ek⟩ := nI_of2 (M := 5) (n := 5) (by decide) (not_lt_0 h1) h2
            exact case_5_ok hfl rfl C0 hz hE x a0 a1 a2 a3 a4 a5 a6 pp pm pw w1 w2 w3 mm b0 b1 b2 b3 b4 b5 b6 o od cP cM cW cE cJ cD G0 G1 G2 F LP hF0 hF1 hF2 hF3 hK h1 h2 h3 h4 k hk ek H locs hP hD hS ls (lv_sub hl [0, 1, 2, 3, 4, 5] rfl)
      · refine lv_tableIn (off := 587) (tgt := 632) hx hb dL_law_45 (by decide) (by decide) (by decide) (by decide) ?_
        exact case_6 hfl rfl C0 hz hE x a0 a1 a2 a3 a4 a5 a6 pp pm pw w1 w2 w3 mm b0 b1 b2 b3 b4 b5 b6 o od cP cM cW cE cJ cD G0 G1 G2 F LP hF0 hF1 hF2 hF3 hK  H locs hP hD hS ls (lv_sub hl [0, 1, 2, 3, 4, 5] rfl)
      · refine lv_tableIn (off := 667) (tgt := 712) hx hb dL_law_45 (by decide) (by decide) (by decide) (by decide) ?_
        exact case_7 hfl rfl C0 hz hE x a0 a1 a2 a3 a4 a5 a6 pp pm pw w1 w2 w3 mm b0 b1 b2 b3 b4 b5 b6 o od cP cM cW cE cJ cD G0 G1 G2 F LP hF0 hF1 hF2 hF3 hK  H locs hP hD hS ls (lv_sub hl [0, 1, 2, 3, 4, 5] rfl)
      · refine lv_tableIn (off := 787) (tgt := 832) hx hb dL_law_45 (by decide) (by decide) (by decide) (by decide) ?_
        exact case_8 hfl rfl C0 hz hE x a0 a1 a2 a3 a4 a5 a6 pp pm pw w1 w2 w3 mm b0 b1 b2 b3 b4 b5 b6 o od cP cM cW cE cJ cD G0 G1 G2 F LP hF0 hF1 hF2 hF3 hK  H locs hP hD hS ls (lv_sub hl [0, 1, 2, 3, 4, 5] rfl)
      · refine lv_tableIn (off := 843) (tgt := 888) hx hb dL_law_45 (by decide) (by decide) (by decide) (by decide) ?_
        exact case_9 hfl rfl C0 hz hE x a0 a1 a2 a3 a4 a5 a6 pp pm pw w1 w2 w3 mm b0 b1 b2 b3 b4 b5 b6 o od cP cM cW cE cJ cD G0 G1 G2 F LP hF0 hF1 hF2 hF3 hK  H locs hP hD hS ls (lv_sub hl [0, 1, 2, 3, 4, 5] rfl)
      · refine lv_tableIn (off := 911) (tgt := 956) hx hb dL_law_45 (by decide) (by decide) (by decide) (by decide) ?_
        by_cases h : (xs (Int32.toNatClampNeg 2)) = 0
        · exact case_10_0 hfl rfl C0 hz hE x a0 a1 a2 a3 a4 a5 a6 pp pm pw w1 w2 w3 mm b0 b1 b2 b3 b4 b5 b6 o od cP cM cW cE cJ cD G0 G1 G2 F LP hF0 hF1 hF2 hF3 hK h H locs hP hD hS ls (lv_sub hl [0, 1, 2, 3, 4, 5] rfl)
        · exact case_10_1 hfl rfl C0 hz hE x a0 a1 a2 a3 a4 a5 a6 pp pm pw w1 w2 w3 mm b0 b1 b2 b3 b4 b5 b6 o od cP cM cW cE cJ cD G0 G1 G2 F LP hF0 hF1 hF2 hF3 hK h H locs hP hD hS ls (lv_sub hl [0, 1, 2, 3, 4, 5] rfl)
      · refine lv_tableIn (off := 979) (tgt := 1024) hx hb dL_law_45 (by decide) (by decide) (by decide) (by decide) ?_
        by_cases h : (xs (Int32.toNatClampNeg 1)) < 1 ∨ ¬ (xs (Int32.toNatClampNeg 1)) ≤ 30
        · exact case_11_bad hfl rfl C0 hz hE x a0 a1 a2 a3 a4 a5 a6 pp pm pw w1 w2 w3 mm b0 b1 b2 b3 b4 b5 b6 o od cP cM cW cE cJ cD G0 G1 G2 F LP hF0 hF1 hF2 hF3 hK h H locs hP hD hS ls (lv_sub hl [0, 1, 2, 3, 4, 5] rfl)
        · have h1 : ¬ (xs (Int32.toNatClampNeg 1)) < 1 := fun z => h (Or.inl z)
          have h2 : (xs (Int32.toNatClampNeg 1)) ≤ 30 := Classical.byContradiction fun z => h (Or.inr z)
          obtain ⟨h0, h4⟩ := pass_ok_of h1 h2
          obtain ⟨d, hd, ed⟩ := nI_of2 (M := 30) (n := 30) (by decide) h0 h2
          obtain ⟨h3, h5⟩ := h4
          exact case_11_ok hfl rfl C0 hz hE x a0 a1 a2 a3 a4 a5 a6 pp pm pw w1 w2 w3 mm b0 b1 b2 b3 b4 b5 b6 o od cP cM cW cE cJ cD G0 G1 G2 F LP hF0 hF1 hF2 hF3 hK d hd ed h1 h2 h3 h5 H locs hP hD hS ls (lv_sub hl [0, 1, 2, 3, 4, 5] rfl)
      · refine lv_tableIn (off := 1035) (tgt := 1080) hx hb dL_law_45 (by decide) (by decide) (by decide) (by decide) ?_
        exact case_12 hfl rfl C0 hz hE x a0 a1 a2 a3 a4 a5 a6 pp pm pw w1 w2 w3 mm b0 b1 b2 b3 b4 b5 b6 o od cP cM cW cE cJ cD G0 G1 G2 F LP hF0 hF1 hF2 hF3 hK  H locs hP hD hS ls (lv_sub hl [0, 1, 2, 3, 4, 5] rfl)
      · refine lv_tableIn (off := 1048) (tgt := 1093) hx hb dL_law_45 (by decide) (by decide) (by decide) (by decide) ?_
        exact case_13 hfl rfl C0 hz hE x a0 a1 a2 a3 a4 a5 a6 pp pm pw w1 w2 w3 mm b0 b1 b2 b3 b4 b5 b6 o od cP cM cW cE cJ cD G0 G1 G2 F LP hF0 hF1 hF2 hF3 hK  H locs hP hD hS ls (lv_sub hl [0, 1, 2, 3, 4, 5] rfl)
      · refine lv_tableIn (off := 1092) (tgt := 1137) hx hb dL_law_45 (by decide) (by decide) (by decide) (by decide) ?_
        exact case_14 hfl rfl C0 hz hE x a0 a1 a2 a3 a4 a5 a6 pp pm pw w1 w2 w3 mm b0 b1 b2 b3 b4 b5 b6 o od cP cM cW cE cJ cD G0 G1 G2 F LP hF0 hF1 hF2 hF3 hK  H locs hP hD hS ls (lv_sub hl [0, 1, 2, 3, 4, 5] rfl)
      · refine lv_tableIn (off := 1148) (tgt := 1193) hx hb dL_law_45 (by decide) (by decide) (by decide) (by decide) ?_
        exact case_15 hfl rfl C0 hz hE x a0 a1 a2 a3 a4 a5 a6 pp pm pw w1 w2 w3 mm b0 b1 b2 b3 b4 b5 b6 o od cP cM cW cE cJ cD G0 G1 G2 F LP hF0 hF1 hF2 hF3 hK  H locs hP hD hS ls (lv_sub hl [0, 1, 2, 3, 4, 5] rfl)
      · refine lv_tableIn (off := 1204) (tgt := 1249) hx hb dL_law_45 (by decide) (by decide) (by decide) (by decide) ?_
        exact case_16 hfl rfl C0 hz hE x a0 a1 a2 a3 a4 a5 a6 pp pm pw w1 w2 w3 mm b0 b1 b2 b3 b4 b5 b6 o od cP cM cW cE cJ cD G0 G1 G2 F LP hF0 hF1 hF2 hF3 hK  H locs hP hD hS ls (lv_sub hl [0, 1, 2, 3, 4, 5] rfl)
      · refine lv_tableIn (off := 1248) (tgt := 1293) hx hb dL_law_45 (by decide) (by decide) (by decide) (by decide) ?_
        exact case_17 hfl rfl C0 hz hE x a0 a1 a2 a3 a4 a5 a6 pp pm pw w1 w2 w3 mm b0 b1 b2 b3 b4 b5 b6 o od cP cM cW cE cJ cD G0 G1 G2 F LP hF0 hF1 hF2 hF3 hK  H locs hP hD hS ls (lv_sub hl [0, 1, 2, 3, 4, 5] rfl)
      · refine lv_tableIn (off := 1292) (tgt := 1337) hx hb dL_law_45 (by decide) (by decide) (by decide) (by decide) ?_
        exact case_18 hfl rfl C0 hz hE x a0 a1 a2 a3 a4 a5 a6 pp pm pw w1 w2 w3 mm b0 b1 b2 b3 b4 b5 b6 o od cP cM cW cE cJ cD G0 G1 G2 F LP hF0 hF1 hF2 hF3 hK  H locs hP hD hS ls (lv_sub hl [0, 1, 2, 3, 4, 5] rfl)
      · refine lv_tableIn (off := 1348) (tgt := 1393) hx hb dL_law_45 (by decide) (by decide) (by decide) (by decide) ?_
        exact case_19 hfl rfl C0 hz hE x a0 a1 a2 a3 a4 a5 a6 pp pm pw w1 w2 w3 mm b0 b1 b2 b3 b4 b5 b6 o od cP cM cW cE cJ cD G0 G1 G2 F LP hF0 hF1 hF2 hF3 hK  H locs hP hD hS ls (lv_sub hl [0, 1, 2, 3, 4, 5] rfl)
      · refine lv_tableIn (off := 1404) (tgt := 1449) hx hb dL_law_45 (by decide) (by decide) (by decide) (by decide) ?_
        exact case_20 hfl rfl C0 hz hE x a0 a1 a2 a3 a4 a5 a6 pp pm pw w1 w2 w3 mm b0 b1 b2 b3 b4 b5 b6 o od cP cM cW cE cJ cD G0 G1 G2 F LP hF0 hF1 hF2 hF3 hK  H locs hP hD hS ls (lv_sub hl [0, 1, 2, 3, 4, 5] rfl)
      · refine lv_tableIn (off := 1460) (tgt := 1505) hx hb dL_law_45 (by decide) (by decide) (by decide) (by decide) ?_
        exact case_21 hfl rfl C0 hz hE x a0 a1 a2 a3 a4 a5 a6 pp pm pw w1 w2 w3 mm b0 b1 b2 b3 b4 b5 b6 o od cP cM cW cE cJ cD G0 G1 G2 F LP hF0 hF1 hF2 hF3 hK  H locs hP hD hS ls (lv_sub hl [0, 1, 2, 3, 4, 5] rfl)
      · refine lv_tableIn (off := 1516) (tgt := 1561) hx hb dL_law_45 (by decide) (by decide) (by decide) (by decide) ?_
        exact case_22 hfl rfl C0 hz hE x a0 a1 a2 a3 a4 a5 a6 pp pm pw w1 w2 w3 mm b0 b1 b2 b3 b4 b5 b6 o od cP cM cW cE cJ cD G0 G1 G2 F LP hF0 hF1 hF2 hF3 hK  H locs hP hD hS ls (lv_sub hl [0, 1, 2, 3, 4, 5] rfl)
      · refine lv_tableIn (off := 1560) (tgt := 1605) hx hb dL_law_45 (by decide) (by decide) (by decide) (by decide) ?_
        exact case_23 hfl rfl C0 hz hE x a0 a1 a2 a3 a4 a5 a6 pp pm pw w1 w2 w3 mm b0 b1 b2 b3 b4 b5 b6 o od cP cM cW cE cJ cD G0 G1 G2 F LP hF0 hF1 hF2 hF3 hK  H locs hP hD hS ls (lv_sub hl [0, 1, 2, 3, 4, 5] rfl)
      · refine lv_tableIn (off := 1604) (tgt := 1649) hx hb dL_law_45 (by decide) (by decide) (by decide) (by decide) ?_
        exact case_24 hfl rfl C0 hz hE x a0 a1 a2 a3 a4 a5 a6 pp pm pw w1 w2 w3 mm b0 b1 b2 b3 b4 b5 b6 o od cP cM cW cE cJ cD G0 G1 G2 F LP hF0 hF1 hF2 hF3 hK  H locs hP hD hS ls (lv_sub hl [0, 1, 2, 3, 4, 5] rfl)
      · refine lv_tableIn (off := 1655) (tgt := 1700) hx hb dL_law_45 (by decide) (by decide) (by decide) (by decide) ?_
        exact case_25 hfl rfl C0 hz hE x a0 a1 a2 a3 a4 a5 a6 pp pm pw w1 w2 w3 mm b0 b1 b2 b3 b4 b5 b6 o od cP cM cW cE cJ cD G0 G1 G2 F LP hF0 hF1 hF2 hF3 hK  H locs hP hD hS ls (lv_sub hl [0, 1, 2, 3, 4, 5] rfl)
      · refine lv_tableIn (off := 1711) (tgt := 1756) hx hb dL_law_45 (by decide) (by decide) (by decide) (by decide) ?_
        exact case_26 hfl rfl C0 hz hE x a0 a1 a2 a3 a4 a5 a6 pp pm pw w1 w2 w3 mm b0 b1 b2 b3 b4 b5 b6 o od cP cM cW cE cJ cD G0 G1 G2 F LP hF0 hF1 hF2 hF3 hK  H locs hP hD hS ls (lv_sub hl [0, 1, 2, 3, 4, 5] rfl)
      · refine lv_tableIn (off := 1755) (tgt := 1800) hx hb dL_law_45 (by decide) (by decide) (by decide) (by decide) ?_
        exact case_27 hfl rfl C0 hz hE x a0 a1 a2 a3 a4 a5 a6 pp pm pw w1 w2 w3 mm b0 b1 b2 b3 b4 b5 b6 o od cP cM cW cE cJ cD G0 G1 G2 F LP hF0 hF1 hF2 hF3 hK  H locs hP hD hS ls (lv_sub hl [0, 1, 2, 3, 4, 5] rfl)
      · refine lv_tableIn (off := 1799) (tgt := 1844) hx hb dL_law_45 (by decide) (by decide) (by decide) (by decide) ?_
        exact case_28 hfl rfl C0 hz hE x a0 a1 a2 a3 a4 a5 a6 pp pm pw w1 w2 w3 mm b0 b1 b2 b3 b4 b5 b6 o od cP cM cW cE cJ cD G0 G1 G2 F LP hF0 hF1 hF2 hF3 hK  H locs hP hD hS ls (lv_sub hl [0, 1, 2, 3, 4, 5] rfl)
      · refine lv_tableIn (off := 1842) (tgt := 1887) hx hb dL_law_45 (by decide) (by decide) (by decide) (by decide) ?_
        exact case_29 hfl rfl C0 hz hE x a0 a1 a2 a3 a4 a5 a6 pp pm pw w1 w2 w3 mm b0 b1 b2 b3 b4 b5 b6 o od cP cM cW cE cJ cD G0 G1 G2 F LP hF0 hF1 hF2 hF3 hK  H locs hP hD hS ls (lv_sub hl [0, 1, 2, 3, 4, 5] rfl)
      · refine lv_tableIn (off := 1898) (tgt := 1943) hx hb dL_law_45 (by decide) (by decide) (by decide) (by decide) ?_
        exact case_30 hfl rfl C0 hz hE x a0 a1 a2 a3 a4 a5 a6 pp pm pw w1 w2 w3 mm b0 b1 b2 b3 b4 b5 b6 o od cP cM cW cE cJ cD G0 G1 G2 F LP hF0 hF1 hF2 hF3 hK  H locs hP hD hS ls (lv_sub hl [0, 1, 2, 3, 4, 5] rfl)
      · refine lv_tableIn (off := 1954) (tgt := 1999) hx hb dL_law_45 (by decide) (by decide) (by decide) (by decide) ?_
        exact case_31 hfl rfl C0 hz hE x a0 a1 a2 a3 a4 a5 a6 pp pm pw w1 w2 w3 mm b0 b1 b2 b3 b4 b5 b6 o od cP cM cW cE cJ cD G0 G1 G2 F LP hF0 hF1 hF2 hF3 hK  H locs hP hD hS ls (lv_sub hl [0, 1, 2, 3, 4, 5] rfl)
      · refine lv_tableIn (off := 1967) (tgt := 2012) hx hb dL_law_45 (by decide) (by decide) (by decide) (by decide) ?_
        exact case_32 hfl rfl C0 hz hE x a0 a1 a2 a3 a4 a5 a6 pp pm pw w1 w2 w3 mm b0 b1 b2 b3 b4 b5 b6 o od cP cM cW cE cJ cD G0 G1 G2 F LP hF0 hF1 hF2 hF3 hK  H locs hP hD hS ls (lv_sub hl [0, 1, 2, 3, 4, 5] rfl)
      · refine lv_tableIn (off := 2033) (tgt := 2078) hx hb dL_law_45 (by decide) (by decide) (by decide) (by decide) ?_
        exact case_33 hfl rfl C0 hz hE x a0 a1 a2 a3 a4 a5 a6 pp pm pw w1 w2 w3 mm b0 b1 b2 b3 b4 b5 b6 o od cP cM cW cE cJ cD G0 G1 G2 F LP hF0 hF1 hF2 hF3 hK  H locs hP hD hS ls (lv_sub hl [0, 1, 2, 3, 4, 5] rfl)
      · refine lv_tableIn (off := 2098) (tgt := 2143) hx hb dL_law_45 (by decide) (by decide) (by decide) (by decide) ?_
        exact case_34 hfl rfl C0 hz hE x a0 a1 a2 a3 a4 a5 a6 pp pm pw w1 w2 w3 mm b0 b1 b2 b3 b4 b5 b6 o od cP cM cW cE cJ cD G0 G1 G2 F LP hF0 hF1 hF2 hF3 hK  H locs hP hD hS ls (lv_sub hl [0, 1, 2, 3, 4, 5] rfl)
    · refine lv_tableOut (tgt := 2156) hx hb dL_law_45 (Or.inr (by rw [nI_toInt (by omega)]; omega)) (by decide) ?_
      exact law_tail rfl C0 hz (Nat.le_of_ble_eq_true rfl) (Nat.le_of_ble_eq_true rfl) hS (lv_sub hl [0, 5] rfl)
