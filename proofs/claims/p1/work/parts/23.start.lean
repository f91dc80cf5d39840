theorem m_64 : (Cond.instantiable "Theatrehouse" 14) ∈ lw_all := lw_in 64 (by decide +kernel) (by decide +kernel)
theorem m_1112 : (Cond.instantiable "TheatrehouseModel" 15) ∈ lw_all := lw_in 1112 (by decide +kernel) (by decide +kernel)
theorem ne_of {A : Array Value} {s : State} {t u : Term} {a b : Nat} (h : (Cond.not (.eq t u)).before A s = true) (h1 : t.eval A s none [] s = some (.ref a)) (h2 : u.eval A s none [] s = some (.ref b)) : a ≠ b := by
  intro e
  subst e
  simp [Cond.before, Cond.holds, Cond.value, h1, h2] at h
theorem ex_of {A : Array Value} {s : State} {t : Term} {cls : String} (h : (Cond.exactly t cls).before A s = true) : ∃ a : Nat, t.eval A s none [] s = some (.ref a) := by
  obtain ⟨a, c, cell, k, h1, -⟩ := Cond.exactly_spec (args := A) (first := s) (o := none) (s := s) (idx := []) h
  exact ⟨a, h1⟩
theorem int_of {A : Array Value} {s : State} {t : Term} {v : Int32} (h : (Cond.eq t (.int v)).before A s = true) : t.eval A s none [] s = some (.int v) := by
  obtain ⟨y, h1, h2⟩ := Cond.eq_one (args := A) (first := s) (o := none) (s := s) (idx := []) h
  have h3 : (Term.int v).eval A s none [] s = some (.int v) := rfl
  rw [h3] at h2
  rw [h1, ← Option.some.inj h2]
theorem str_of {A : Array Value} {s : State} {own tx : String} {k : Nat} (h1 : (Cond.stringRef own k tx).before A s = true) (h2 : (Cond.exactly (.string own k) "java/lang/String").before A s = true) : ∃ a, vk_R own k tx a s := by
  obtain ⟨a, h⟩ := ex_of h2
  refine ⟨a, ?_, ?_⟩
  · first | exact va_any rfl h1 | (have h3 := h1; simp only [Cond.before, Cond.holds, Cond.value] at h3 ⊢; exact h3)
  · first | exact h | (have h3 := h; simp only [Term.eval] at h3 ⊢; exact h3)
abbrev lw_pre : Cond := Jvm.Cond.and given_1 narrow_1
theorem strs_ok : strs.all (fun q => decide (Cond.stringRef q.1 q.2.1 q.2.2 ∈ lw_tbl) && decide (Cond.exactly (.string q.1 q.2.1) "java/lang/String" ∈ flatC lw_pre)) = true := by decide +kernel
theorem fws_in : fws.all (fun q => decide (Cond.declares q.2.1 ∈ lw_tbl) && decide (Cond.interfaceMethod q.2.1.cls q.2.1.cls q.2.1.name q.2.1.desc ∈ lw_tbl) && decide (Cond.publicMethod q.2.2 ∈ lw_tbl) && decide (Cond.unhidden q.1 q.2.1.name q.2.1.desc ∈ lw_tbl) && decide (Cond.castable q.1 q.2.1.cls ∈ lw_tbl)) = true := by decide +kernel
theorem aos_in : aos.all (fun C => decide (Cond.arrayOver (.object C) ∈ lw_tbl)) = true := by decide +kernel
theorem ncs_in : ncs.all (fun q => decide (Cond.not (.castable q.1 q.2) ∈ flatC lw_pre)) = true := by decide +kernel

theorem in_X10 : Cond.instantiable RX10 14 ∈ lw_all := m_64
theorem in_X4 : Cond.instantiable RX4 6 ∈ lw_all := m_277
theorem in_X2 : Cond.instantiable RX2 5 ∈ lw_all := m_307
theorem in_X9 : Cond.instantiable RX9 7 ∈ lw_all := m_87
theorem in_X1 : Cond.instantiable RX1 3 ∈ lw_all := m_339
theorem in_X6 : Cond.instantiable RX6 10 ∈ lw_all := m_80
theorem in_X5 : Cond.instantiable RX5 13 ∈ lw_all := m_202
theorem in_X8 : Cond.instantiable RX8 5 ∈ lw_all := m_256
theorem in_X0 : Cond.instantiable RX0 5 ∈ lw_all := m_94
theorem in_X18 : Cond.instantiable RX18 15 ∈ lw_all := m_1112
theorem in_Jx4a65c : Cond.instantiable RJx4a65c 3 ∈ lw_all := m_1118
theorem in_X28 : Cond.instantiable RX28 9 ∈ lw_all := m_1147
theorem in_X15 : Cond.instantiable RX15 6 ∈ lw_all := m_1253
theorem in_X14 : Cond.instantiable RX14 5 ∈ lw_all := m_1405
theorem in_X17 : Cond.instantiable RX17 5 ∈ lw_all := m_1444
theorem in_Jx35411 : Cond.instantiable RJx35411 4 ∈ lw_all := m_1929
theorem in_X27 : Cond.instantiable RX27 1 ∈ lw_all := m_1909
theorem in_X26 : Cond.instantiable RX26 4 ∈ lw_all := m_1954
theorem in_J6 : Cond.instantiable RJ6 1 ∈ lw_all := m_1533

set_option maxHeartbeats 4000000 in
set_option maxRecDepth 100000 in
theorem start_EV {s : State} {b : Nat} (hts0 : ∀ w ∈ lw_tbl, w.before #[Value.ref b] s = true) (hgv : lw_pre.before #[Value.ref b] s = true) : ∃ (D : va_G) (g : Nat → Nat), EV s.heap.size D g s s.heap := by
  have hs := flat_of_before _ hgv
  have hts : ∀ w ∈ lw_all, w.before #[Value.ref b] s = true := fun w h => hts0 w (List.mem_filter.mp h).1
  have hA : ∀ a : Nat, a < s.heap.size → ¬ (s.heap.size ≤ a) := fun a h => Nat.not_le.mpr h
  obtain ⟨c0, iS0, hKn0⟩ := u_known (C := RX10) (T := TX10) (N := 14) (n := 14) hts i_X10 (hts _ in_X10)
  obtain ⟨c1, iS1, hKn1⟩ := u_known (C := RX4) (T := TX4) (N := 6) (n := 6) hts i_X4 (hts _ in_X4)
  obtain ⟨c2, iS2, hKn2⟩ := u_known (C := RX2) (T := TX2) (N := 5) (n := 5) hts i_X2 (hts _ in_X2)
  obtain ⟨c3, iS3, hKn3⟩ := u_known (C := RX9) (T := TX9) (N := 7) (n := 7) hts i_X9 (hts _ in_X9)
  obtain ⟨c4, iS4, hKn4⟩ := u_known (C := RX1) (T := TX1) (N := 3) (n := 3) hts i_X1 (hts _ in_X1)
  obtain ⟨c5, iS5, hKn5⟩ := u_known (C := RX6) (T := TX6) (N := 10) (n := 10) hts i_X6 (hts _ in_X6)
  obtain ⟨c6, iS6, hKn6⟩ := u_known (C := RX5) (T := TX5) (N := 13) (n := 13) hts i_X5 (hts _ in_X5)
  obtain ⟨c7, iS7, hKn7⟩ := u_known (C := RX8) (T := TX8) (N := 5) (n := 5) hts i_X8 (hts _ in_X8)
  obtain ⟨c8, iS8, hKn8⟩ := u_known (C := RX0) (T := TX0) (N := 5) (n := 5) hts i_X0 (hts _ in_X0)
  obtain ⟨c9, iS9, hKn9⟩ := u_known (C := RX18) (T := TX18) (N := 15) (n := 15) hts i_X18 (hts _ in_X18)
  obtain ⟨c10, iS10, hKn10⟩ := u_known (C := RJx4a65c) (T := TJx4a65c) (N := 3) (n := 3) hts i_Jx4a65c (hts _ in_Jx4a65c)
  obtain ⟨c11, iS11, hKn11⟩ := u_known (C := RX28) (T := TX28) (N := 9) (n := 9) hts i_X28 (hts _ in_X28)
  obtain ⟨c12, iS12, hKn12⟩ := u_known (C := RX15) (T := TX15) (N := 6) (n := 6) hts i_X15 (hts _ in_X15)
  obtain ⟨c13, iS13, hKn13⟩ := u_known (C := RX14) (T := TX14) (N := 5) (n := 5) hts i_X14 (hts _ in_X14)
  obtain ⟨c14, iS14, hKn14⟩ := u_known (C := RX17) (T := TX17) (N := 5) (n := 5) hts i_X17 (hts _ in_X17)
  obtain ⟨c15, iS15, hKn15⟩ := u_known (C := RJx35411) (T := TJx35411) (N := 4) (n := 4) hts i_Jx35411 (hts _ in_Jx35411)
  obtain ⟨c16, iS16, hKn16⟩ := u_known (C := RX27) (T := TX27) (N := 1) (n := 1) hts i_X27 (hts _ in_X27)
  obtain ⟨c17, iS17, hKn17⟩ := u_known (C := RX26) (T := TX26) (N := 4) (n := 4) hts i_X26 (hts _ in_X26)
  obtain ⟨c18, iS18, hKn18⟩ := u_known (C := RJ6) (T := TJ6) (N := 1) (n := 1) hts i_J6 (hts _ in_J6)
  have hK : va_K ((fun k => ([c0, c1, c2, c3, c4, c5, c6, c7, c8, c9, c10, c11, c12, c13, c14, c15, c16, c17, c18] : List ClassId).getD k c0), (fun k => ([iS0, iS1, iS2, iS3, iS4, iS5, iS6, iS7, iS8, iS9, iS10, iS11, iS12, iS13, iS14, iS15, iS16, iS17, iS18] : List (Nat → Nat)).getD k iS0)) classes [] s := by
    refine ⟨?_, fun k q h => by simp at h⟩
    intro k q hq
    match k, hq with
      | 0, hq => cases hq; exact hKn0
      | 1, hq => cases hq; exact hKn1
      | 2, hq => cases hq; exact hKn2
      | 3, hq => cases hq; exact hKn3
      | 4, hq => cases hq; exact hKn4
      | 5, hq => cases hq; exact hKn5
      | 6, hq => cases hq; exact hKn6
      | 7, hq => cases hq; exact hKn7
      | 8, hq => cases hq; exact hKn8
      | 9, hq => cases hq; exact hKn9
      | 10, hq => cases hq; exact hKn10
      | 11, hq => cases hq; exact hKn11
      | 12, hq => cases hq; exact hKn12
      | 13, hq => cases hq; exact hKn13
      | 14, hq => cases hq; exact hKn14
      | 15, hq => cases hq; exact hKn15
      | 16, hq => cases hq; exact hKn16
      | 17, hq => cases hq; exact hKn17
      | 18, hq => cases hq; exact hKn18
      | k + 19, hq => simp [classes] at hq
  obtain ⟨fA, hfA⟩ := ex_of (hs (.exactly (.static "Theatrehouse$Status" "FREE" "LTheatrehouse$Status;") "Theatrehouse$Status") (by decide +kernel))
  obtain ⟨pA, hpA⟩ := ex_of (hs (.exactly (.static "Theatrehouse$Status" "PLANNED" "LTheatrehouse$Status;") "Theatrehouse$Status") (by decide +kernel))
  obtain ⟨oA, hoA⟩ := ex_of (hs (.exactly (.static "Theatrehouse$Status" "ON" "LTheatrehouse$Status;") "Theatrehouse$Status") (by decide +kernel))
  obtain ⟨nA9, hnA⟩ := ex_of (hs (.exactly (.static "Theatrehouse$Status" "ENDED" "LTheatrehouse$Status;") "Theatrehouse$Status") (by decide +kernel))
  obtain ⟨eA, heA, heT⟩ := va_Tof (N := 0) (f := fun _ => .null) (A := fun q => s.heap.size ≤ q) (by decide) (hs (.arrayOf (.static "java/util/ArrayList" "DEFAULTCAPACITY_EMPTY_ELEMENTDATA" "[Ljava/lang/Object;") (.object "java/lang/Object")) (by decide +kernel)) (int_of (hs (.eq (.length (.static "java/util/ArrayList" "DEFAULTCAPACITY_EMPTY_ELEMENTDATA" "[Ljava/lang/Object;")) (.int 0)) (by decide +kernel))) (fun j hj => absurd hj (Nat.not_lt_zero j)) hA
  have hic := int_of (hs (.eq (.length (.static "java/lang/Integer$IntegerCache" "cache" "[Ljava/lang/Integer;")) (.int 256)) (by decide +kernel))
  obtain ⟨ad, hC, hel⟩ := vb_Cof (st := (.static "java/lang/Integer$IntegerCache" "cache" "[Ljava/lang/Integer;")) rfl hic (hs (.all (.static "java/lang/Integer$IntegerCache" "cache" "[Ljava/lang/Integer;") (.and (.exactly (.elem (.static "java/lang/Integer$IntegerCache" "cache" "[Ljava/lang/Integer;") (.index 0)) "java/lang/Integer") (.eq (.field (.elem (.static "java/lang/Integer$IntegerCache" "cache" "[Ljava/lang/Integer;") (.index 0)) "java/lang/Integer" "value" "I") (.sub (.index 0) (.int 128))))) (by decide +kernel)) hA
  obtain ⟨cA9, hcA, hcT⟩ := va_Tof (N := 256) (f := fun j => .ref (ad j)) (A := fun q => s.heap.size ≤ q) (by decide) (hs (.arrayOf (.static "java/lang/Integer$IntegerCache" "cache" "[Ljava/lang/Integer;") (.object "java/lang/Integer")) (by decide +kernel)) hic hel hA
  have hhi := int_of (hs (.eq (.static "java/lang/Integer$IntegerCache" "high" "I") (.int 127)) (by decide +kernel))
  refine ⟨_, (fun i => if i < 100 then ([fA, pA, oA, nA9, eA, cA9] : List Nat).getD i 0 else ad (i - 100)), hK, ?_, ?_, ?_, ?_, ?_, ?_, ?_, ?_, ?_⟩
  · exact vx_Zqof (hts0 (.laysStatic Bundle.tN "UNASSIGNED_STACK" Bundle.steD) (by decide +kernel)) (hts0 (.initialized Bundle.tN) (by decide +kernel)) (hs (.isRef (.static Bundle.tN "UNASSIGNED_STACK" Bundle.steD)) (by decide +kernel)) hA
  · exact vx_Zqof (hts0 (.laysStatic Bundle.tN "SUPPRESSED_SENTINEL" Bundle.listD) (by decide +kernel)) (hts0 (.initialized Bundle.tN) (by decide +kernel)) (hs (.isRef (.static Bundle.tN "SUPPRESSED_SENTINEL" Bundle.listD)) (by decide +kernel)) hA
  · intro q hq
    have h9 := List.all_eq_true.mp strs_ok q hq
    simp only [Bool.and_eq_true, decide_eq_true_eq] at h9
    exact str_of (hts0 _ h9.1) (hs _ h9.2)
  · exact fun w hw => va_Nw.of (ng_tab (List.mem_filter.mp hw).2) (hts0 w (List.mem_filter.mp hw).1)
  · intro q hq
    have h9 := List.all_eq_true.mp fws_in q hq
    simp only [Bool.and_eq_true, decide_eq_true_eq] at h9
    exact va_Fw.of (hts0 _ h9.1.1.1.1) (hts0 _ h9.1.1.1.2) (hts0 _ h9.1.1.2) (hts0 _ h9.1.2) (hts0 _ h9.2)
  · intro C hC9
    have h9 := List.all_eq_true.mp aos_in C hC9
    exact va_AO.of (hts0 _ (of_decide_eq_true h9))
  · intro q hq
    have h9 := List.all_eq_true.mp ncs_in q hq
    exact va_Nc.of (hs _ (of_decide_eq_true h9))
  · intro q hq
    simp only [zs, List.mem_cons, List.not_mem_nil, or_false] at hq
    rcases hq with rfl | rfl | rfl | rfl | rfl | rfl | rfl
    · exact va_Zof (hts0 (.laysStatic "Theatrehouse$Status" "FREE" "LTheatrehouse$Status;") (by decide +kernel)) (hts0 (.initialized "Theatrehouse$Status") (by decide +kernel)) hfA hA
    · exact va_Zof (hts0 (.laysStatic "Theatrehouse$Status" "PLANNED" "LTheatrehouse$Status;") (by decide +kernel)) (hts0 (.initialized "Theatrehouse$Status") (by decide +kernel)) hpA hA
    · exact va_Zof (hts0 (.laysStatic "Theatrehouse$Status" "ON" "LTheatrehouse$Status;") (by decide +kernel)) (hts0 (.initialized "Theatrehouse$Status") (by decide +kernel)) hoA hA
    · exact va_Zof (hts0 (.laysStatic "Theatrehouse$Status" "ENDED" "LTheatrehouse$Status;") (by decide +kernel)) (hts0 (.initialized "Theatrehouse$Status") (by decide +kernel)) hnA hA
    · exact va_Zof (hts0 (.laysStatic "java/util/ArrayList" "DEFAULTCAPACITY_EMPTY_ELEMENTDATA" "[Ljava/lang/Object;") (by decide +kernel)) (hts0 (.initialized "java/util/ArrayList") (by decide +kernel)) heA hA
    · exact va_Zof (hts0 (.laysStatic "java/lang/Integer$IntegerCache" "cache" "[Ljava/lang/Integer;") (by decide +kernel)) (hts0 (.initialized "java/lang/Integer$IntegerCache") (by decide +kernel)) hcA hA
    · exact va_Zof (hts0 (.laysStatic "java/lang/Integer$IntegerCache" "high" "I") (by decide +kernel)) (hts0 (.initialized "java/lang/Integer$IntegerCache") (by decide +kernel)) hhi hA
  · refine ⟨heT, ?_, ?_, ?_, ?_, ?_⟩
    · have e : (fun j : Nat => Value.ref ((fun i => if i < 100 then ([fA, pA, oA, nA9, eA, cA9] : List Nat).getD i 0 else ad (i - 100)) (100 + j))) = (fun j => Value.ref (ad j)) := by
        funext j
        show Value.ref (if 100 + j < 100 then _ else ad (100 + j - 100)) = _
        rw [if_neg (by omega), Nat.add_sub_cancel_left]
      show va_T (.object "java/lang/Integer") cA9 256 (fun j : Nat => Value.ref ((fun i => if i < 100 then ([fA, pA, oA, nA9, eA, cA9] : List Nat).getD i 0 else ad (i - 100)) (100 + j))) _ s s.heap
      rw [e]
      exact hcT
    · intro j hj
      show va_O "java/lang/Integer" (if 100 + j < 100 then _ else ad (100 + j - 100)) _ s s.heap
      rw [if_neg (by omega), Nat.add_sub_cancel_left]
      exact hC.1 j hj
    · exact ne_of (hs (.not (.eq (.static "Theatrehouse$Status" "FREE" "LTheatrehouse$Status;") (.static "Theatrehouse$Status" "PLANNED" "LTheatrehouse$Status;"))) (by decide +kernel)) hfA hpA
    · exact ne_of (hs (.not (.eq (.static "Theatrehouse$Status" "FREE" "LTheatrehouse$Status;") (.static "Theatrehouse$Status" "ON" "LTheatrehouse$Status;"))) (by decide +kernel)) hfA hoA
    · exact ne_of (hs (.not (.eq (.static "Theatrehouse$Status" "FREE" "LTheatrehouse$Status;") (.static "Theatrehouse$Status" "ENDED" "LTheatrehouse$Status;"))) (by decide +kernel)) hfA hnA
