/-! words of the tables, in two lists: those that hold in every later state, and those that need a lemma for it -/
def lw_all : List Cond := lw_tbl.filter goodWord
theorem lw_in {w : Cond} (i : Nat) (h : tables_1[i]? = some w) (g : goodWord w = true) : w ∈ lw_all :=
  List.mem_filter.mpr ⟨List.mem_append_right _ (List.mem_of_getElem? h), g⟩
theorem lw_inp {w : Cond} (i : Nat) (h : (k2_sels lw_privs)[i]? = some w) (g : goodWord w = true) : w ∈ lw_all :=
  List.mem_filter.mpr ⟨List.mem_append_left _ (List.mem_of_getElem? h), g⟩
def ng_ok : Cond → Bool
  | .castable .. => true
  | .declares _ => true
  | .fieldLinkNest .. => true
  | .methodLinkNest .. => true
  | _ => false
def lw_ng : List Cond := lw_tbl.filter ng_ok
theorem lw_inn {w : Cond} (i : Nat) (h : tables_1[i]? = some w) (g : ng_ok w = true) : w ∈ lw_ng :=
  List.mem_filter.mpr ⟨List.mem_append_right _ (List.mem_of_getElem? h), g⟩
theorem ng_tab {w : Cond} (hw : ng_ok w = true) : w.onTables = true := by
  cases w <;> first | rfl | (simp [ng_ok] at hw)
theorem ng_warm {w : Cond} {s U : State} (hw : ng_ok w = true) (hW : s.WarmedH U.vm) (h : va_Nw w s) : va_Nw w U := by
  cases w <;> first | exact va_Nw.warmC hW h | exact va_Nw.warmD hW h | exact va_Nw.warmF hW h | exact va_Nw.warmM hW h | (simp [ng_ok] at hw)
abbrev wsp (y : MethodName) (c : ByteArray) (n : Nat) (r : Option FieldType) : List Cond := Cond.code y c n r :: lw_all
abbrev wspW (y : MethodName) (c : ByteArray) (n : Nat) (r : Option FieldType) (hh : List (Nat × Nat × Nat × Nat)) : List Cond := Cond.codeWith y c n r hh :: lw_all
theorem lw_good : ∀ w ∈ lw_all, (w.onTables && w.keeps) = true ∨ ∃ ty, w = .arrayClass ty := fun _ h => good_of_word (List.mem_filter.mp h).2
theorem lw_G {L : List Cond} (h : ∀ w ∈ L, w ∈ lw_all) : GoodIn lw_all L := fun w hw => ⟨h w hw, lw_good w (h w hw)⟩
theorem lw_V {own C : String} {idx n : Nat} {y : MethodName} {cc : ByteArray} {r : Option FieldType} (i1 : Cond.methodLink own idx y ∈ lw_all) (i2 : Cond.instanceMethod y ∈ lw_all) (i3 : Cond.selects C y y ∈ lw_all) (i4 : Cond.initialized C ∈ lw_all) (i5 : Cond.code y cc n r ∈ lw_all) : GoodIn lw_all (wsV own idx C y (wsp y cc n r)) := lw_G (fun w hw => by
  simp only [wsV, wsp, List.cons_append, List.nil_append, List.mem_cons] at hw
  rcases hw with rfl | rfl | rfl | rfl | rfl | hw <;> assumption)
theorem lw_S {own : String} {idx n : Nat} {y : MethodName} {cc : ByteArray} {r : Option FieldType} (i1 : Cond.methodLink own idx y ∈ lw_all) (i2 : Cond.static y ∈ lw_all) (i4 : Cond.initialized y.cls ∈ lw_all) (i5 : Cond.code y cc n r ∈ lw_all) : GoodIn lw_all (va_wsS own idx y (wsp y cc n r)) := lw_G (fun w hw => by
  simp only [va_wsS, wsp, List.cons_append, List.nil_append, List.mem_cons] at hw
  rcases hw with rfl | rfl | rfl | rfl | hw <;> assumption)
theorem lw_SW {own : String} {idx n : Nat} {y : MethodName} {cc : ByteArray} {r : Option FieldType} {hh : List (Nat × Nat × Nat × Nat)} (i1 : Cond.methodLink own idx y ∈ lw_all) (i2 : Cond.static y ∈ lw_all) (i4 : Cond.initialized y.cls ∈ lw_all) (i5 : Cond.codeWith y cc n r hh ∈ lw_all) : GoodIn lw_all (va_wsS own idx y (wspW y cc n r hh)) := lw_G (fun w hw => by
  simp only [va_wsS, wspW, List.cons_append, List.nil_append, List.mem_cons] at hw
  rcases hw with rfl | rfl | rfl | rfl | hw <;> assumption)
theorem lw_F {own C : String} {idx n : Nat} {x y : MethodName} {cc : ByteArray} {r : Option FieldType} (i1 : Cond.methodLink own idx x ∈ lw_all) (i3 : Cond.selects C x y ∈ lw_all) (i2 : Cond.instanceMethod y ∈ lw_all) (i4 : Cond.initialized y.cls ∈ lw_all) (i5 : Cond.code y cc n r ∈ lw_all) : GoodIn lw_all (va_wsF own idx C x y (wsp y cc n r)) := lw_G (fun w hw => by
  simp only [va_wsF, wsp, List.cons_append, List.nil_append, List.mem_cons] at hw
  rcases hw with rfl | rfl | rfl | rfl | rfl | hw <;> assumption)
theorem lw_I {n : Nat} {y : MethodName} {cc : ByteArray} {r : Option FieldType} (i5 : Cond.code y cc n r ∈ lw_all) : GoodIn lw_all (wsp y cc n r) := lw_G (fun w hw => by
  rcases List.mem_cons.mp hw with rfl | hw <;> assumption)
/-- a list of words: each stands in the tables, and in one of the two lists -/
theorem lx_hat {args : Array Value} {s : State} {L : List Cond} (h : L.all (fun w => decide (w ∈ lw_tbl) && (goodWord w || ng_ok w)) = true) (hts : ∀ w ∈ lw_all, w.before args s = true) (hng : ∀ w ∈ lw_ng, va_Nw w s) : ∀ w ∈ L, w.before args s = true := by
  intro w hw
  have h1 := List.all_eq_true.mp h w hw
  simp only [Bool.and_eq_true, decide_eq_true_eq, Bool.or_eq_true] at h1
  obtain ⟨h2, h3 | h3⟩ := h1
  · exact hts w (List.mem_filter.mpr ⟨h2, h3⟩)
  · exact va_Nw.use (ng_tab h3) (hng w (List.mem_filter.mpr ⟨h2, h3⟩))
/-! what all methods take as given: the tables' classes, the statics that a throw reads, the texts, the links that aren't in lw_all, the constants -/
abbrev classes : List vw_C := [(RX10, TX10, 14), (RX4, TX4, 6), (RX2, TX2, 5), (RX9, TX9, 7), (RX1, TX1, 3), (RX6, TX6, 10), (RX5, TX5, 13), (RX8, TX8, 5), (RX0, TX0, 5), (RX18, TX18, 15), (RJx4a65c, TJx4a65c, 3), (RX28, TX28, 9), (RX15, TX15, 6), (RX14, TX14, 5), (RX17, TX17, 5), (RJx35411, TJx35411, 4), (RX27, TX27, 1), (RX26, TX26, 4), (RJ6, TJ6, 1)]
def strs : List (String × Nat × String) := [("Theatrehouse", 143, "no such role"), ("Theatrehouse", 154, "the person has another role of this work"), ("Theatrehouse", 181, "a cue that must be done ahead has no lower number"), ("Theatrehouse", 215, "there is an evening on this day"), ("Theatrehouse", 230, "no tickets"), ("Theatrehouse", 237, "no evening to sell these tickets for"), ("Theatrehouse", 245, "more than all or fewer than no tickets"), ("Theatrehouse", 257, "no evening is planned for today"), ("Theatrehouse", 287, "the cue cannot be done now"), ("Theatrehouse", 305, "no cue was done"), ("Theatrehouse", 326, "the role has no singer"), ("Theatrehouse", 347, "there is no order"), ("Theatrehouse", 352, "the order has no such index"), ("Theatrehouse", 357, "there is an order"), ("Theatrehouse", 371, "no evenings"), ("Theatrehouse", 374, "no evening has ended"), ("Theatrehouse", 390, "a number is out of range"), ("Theatrehouse", 394, "there is no room for one more"), ("Theatrehouse", 397, "both are the same"), ("Theatrehouse", 403, "no such person"), ("Theatrehouse", 405, "no such machine"), ("Theatrehouse", 407, "no such work"), ("Theatrehouse", 409, "no such cue"), ("Theatrehouse", 411, "no evening is on"), ("Theatrehouse", 413, "an evening is on"), ("Theatrehouse", 415, "too many states can come up")]
def fws : List (String × MethodName × MethodName) := [("java/util/ArrayList", ⟨"java/util/List", "size", "()I"⟩, ⟨"java/util/ArrayList", "size", "()I"⟩), ("java/util/ArrayList", ⟨"java/util/List", "add", "(Ljava/lang/Object;)Z"⟩, ⟨"java/util/ArrayList", "add", "(Ljava/lang/Object;)Z"⟩), ("java/util/ArrayList", ⟨"java/util/List", "iterator", "()Ljava/util/Iterator;"⟩, ⟨"java/util/ArrayList", "iterator", "()Ljava/util/Iterator;"⟩), ("java/util/ArrayList$Itr", ⟨"java/util/Iterator", "hasNext", "()Z"⟩, ⟨"java/util/ArrayList$Itr", "hasNext", "()Z"⟩), ("java/util/TreeMap$Values", ⟨"java/util/Collection", "iterator", "()Ljava/util/Iterator;"⟩, ⟨"java/util/TreeMap$Values", "iterator", "()Ljava/util/Iterator;"⟩), ("java/util/TreeMap$ValueIterator", ⟨"java/util/Iterator", "hasNext", "()Z"⟩, ⟨"java/util/TreeMap$PrivateEntryIterator", "hasNext", "()Z"⟩)]
def aos : List String := ["Theatrehouse$Person", "Theatrehouse$Machine", "Theatrehouse$Work", "Theatrehouse$Evening", "Theatrehouse$Cue", "java/lang/Object"]
def ncs : List (String × String) := [("java/util/NoSuchElementException", "java/lang/IllegalArgumentException"), ("java/util/NoSuchElementException", "java/lang/IllegalStateException")]
def zs (g : Nat → Nat) : List (String × String × String × Value) := [("Theatrehouse$Status", "FREE", "LTheatrehouse$Status;", .ref (g 0)), ("Theatrehouse$Status", "PLANNED", "LTheatrehouse$Status;", .ref (g 1)), ("Theatrehouse$Status", "ON", "LTheatrehouse$Status;", .ref (g 2)), ("Theatrehouse$Status", "ENDED", "LTheatrehouse$Status;", .ref (g 3)), ("java/util/ArrayList", "DEFAULTCAPACITY_EMPTY_ELEMENTDATA", "[Ljava/lang/Object;", .ref (g 4)), ("java/lang/Integer$IntegerCache", "cache", "[Ljava/lang/Integer;", .ref (g 5)), ("java/lang/Integer$IntegerCache", "high", "I", .int 127)]
theorem fws_ok : ∀ q ∈ fws, q.2.1.cls ≠ "java/lang/invoke/MethodHandle" ∧ q.2.1.cls ≠ "java/lang/invoke/VarHandle" := by decide
def EX (z0 : Nat) (g : Nat → Nat) (U : State) (H : Heap) : Prop := va_T (.object "java/lang/Object") (g 4) 0 (fun _ => .null) (fun q => z0 ≤ q) U H ∧ va_T (.object "java/lang/Integer") (g 5) 256 (fun j => .ref (g (100 + j))) (fun q => z0 ≤ q) U H ∧ (∀ j : Nat, j < 256 → va_O "java/lang/Integer" (g (100 + j)) (fun q => z0 ≤ q) U H) ∧ g 0 ≠ g 1 ∧ g 0 ≠ g 2 ∧ g 0 ≠ g 3
def EV (z0 : Nat) (D : va_G) (g : Nat → Nat) (U : State) (H : Heap) : Prop :=
  va_K D classes [] U ∧ vx_Zq Bundle.tN "UNASSIGNED_STACK" Bundle.steD (fun q => z0 ≤ q) U H ∧ vx_Zq Bundle.tN "SUPPRESSED_SENTINEL" Bundle.listD (fun q => z0 ≤ q) U H ∧ (∀ q ∈ strs, ∃ a, vk_R q.1 q.2.1 q.2.2 a U) ∧ (∀ w ∈ lw_ng, va_Nw w U) ∧ (∀ q ∈ fws, va_Fw q.1 q.2.1 q.2.2 U) ∧ (∀ C ∈ aos, va_AO C U) ∧ (∀ q ∈ ncs, va_Nc q.1 q.2 U) ∧ (∀ q ∈ zs g, va_Z q.1 q.2.1 q.2.2.1 q.2.2.2 (fun q => z0 ≤ q) U H) ∧ EX z0 g U H
theorem EX.moved {z0 : Nat} {g : Nat → Nat} {u U : State} {H : Heap} (hv : u.vm.Alike U.vm) (h : EX z0 g u H) : EX z0 g U H := ⟨va_T.moved hv h.1, va_T.moved hv h.2.1, fun j hj => va_O.moved hv (h.2.2.1 j hj), h.2.2.2⟩
theorem EX.kept {z0 : Nat} {g : Nat → Nat} {U : State} {H H1 : Heap} (h : EX z0 g U H) (hk : ∀ a : Nat, a < H.size → ¬ (z0 ≤ a) → H1[a]? = H[a]?) : EX z0 g U H1 := ⟨h.1.kept hk, h.2.1.kept hk, fun j hj => (h.2.2.1 j hj).kept hk, h.2.2.2⟩
theorem EV.warm {z0 : Nat} {D : va_G} {g : Nat → Nat} {A : Nat → Prop} {s U : State} {H : Heap} {locs : List Loc} (h : EV z0 D g s s.heap) (hS : va_S A s.heap H locs) (hA : ∀ q, A q → z0 ≤ q) (hU : U.heap = H) (hW : s.WarmedH U.vm) : EV z0 D g U U.heap := by
  obtain ⟨h1, h2, h3, h4, h5, h6, h7, h8, h9, h10⟩ := h
  have hk : ∀ a : Nat, a < s.heap.size → ¬ (z0 ≤ a) → U.heap[a]? = s.heap[a]? := fun a ha hz => by rw [hU]; exact hS.2.1 a ha (fun q => hz (hA a q))
  refine ⟨va_K.moved hW.alike h1, (vx_Zq.moved hW.alike h2).kept hk, (vx_Zq.moved hW.alike h3).kept hk, fun q hq => ?_, fun w hw => ng_warm (List.mem_filter.mp hw).2 hW (h5 w hw), fun q hq => va_Fw.moved (fws_ok q hq) hW.alike (h6 q hq), fun C hC => va_AO.moved hW.alike (h7 C hC), fun q hq => va_Nc.moved hW.alike (h8 q hq), fun q hq => (va_Z.moved hW.alike (h9 q hq)).kept hk, (EX.moved hW.alike h10).kept hk⟩
  obtain ⟨a, ha⟩ := h4 q hq
  exact ⟨a, vk_R.warm hW ha⟩
theorem EV.blind {z0 : Nat} {D : va_G} {g : Nat → Nat} {U : State} {j : JFrame} {mk : MethodId} {a : Array Value} (h : EV z0 D g U U.heap) : EV z0 D g (U.calling j mk a) (U.calling j mk a).heap := by
  obtain ⟨h1, h2, h3, h4, h5, h6, h7, h8, h9, h10⟩ := h
  have hv : U.vm.Alike (U.calling j mk a).vm := Vm.Alike.refl U.vm
  refine ⟨va_K.moved hv h1, vx_Zq.moved hv h2, vx_Zq.moved hv h3, fun q hq => ?_, fun w hw => va_Nw.same (u := U) (U := U.calling j mk a) (ng_tab (List.mem_filter.mp hw).2) rfl (h5 w hw), fun q hq => va_Fw.moved (fws_ok q hq) hv (h6 q hq), fun C hC => va_AO.moved hv (h7 C hC), fun q hq => va_Nc.moved hv (h8 q hq), fun q hq => va_Z.moved hv (h9 q hq), EX.moved hv h10⟩
  obtain ⟨x, hx⟩ := h4 q hq
  exact ⟨x, vk_R.same rfl hx⟩
theorem EV.K {z0 : Nat} {D : va_G} {g : Nat → Nat} {U : State} {H : Heap} (h : EV z0 D g U H) : va_K D classes [] U := h.1
theorem EV.ng {z0 : Nat} {D : va_G} {g : Nat → Nat} {U : State} {H : Heap} (h : EV z0 D g U H) : ∀ w ∈ lw_ng, va_Nw w U := h.2.2.2.2.1
theorem EV.str {z0 : Nat} {D : va_G} {g : Nat → Nat} {U : State} {H : Heap} (h : EV z0 D g U H) {q : String × Nat × String} (i : Nat) (hi : strs[i]? = some q) : ∃ a, vk_R q.1 q.2.1 q.2.2 a U := h.2.2.2.1 q (List.mem_of_getElem? hi)
theorem EV.fw {z0 : Nat} {D : va_G} {g : Nat → Nat} {U : State} {H : Heap} (h : EV z0 D g U H) {q : String × MethodName × MethodName} (i : Nat) (hi : fws[i]? = some q) : va_Fw q.1 q.2.1 q.2.2 U := h.2.2.2.2.2.1 q (List.mem_of_getElem? hi)
theorem EV.ao {z0 : Nat} {D : va_G} {g : Nat → Nat} {U : State} {H : Heap} (h : EV z0 D g U H) {C : String} (i : Nat) (hi : aos[i]? = some C) : va_AO C U := h.2.2.2.2.2.2.1 C (List.mem_of_getElem? hi)
theorem EV.nc {z0 : Nat} {D : va_G} {g : Nat → Nat} {U : State} {H : Heap} (h : EV z0 D g U H) {q : String × String} (i : Nat) (hi : ncs[i]? = some q) : va_Nc q.1 q.2 U := h.2.2.2.2.2.2.2.1 q (List.mem_of_getElem? hi)
theorem EV.z {z0 : Nat} {D : va_G} {g : Nat → Nat} {U : State} {H : Heap} {A : Nat → Prop} (h : EV z0 D g U H) (hA : ∀ q, A q → z0 ≤ q) {q : String × String × String × Value} (i : Nat) (hi : (zs g)[i]? = some q) : va_Z q.1 q.2.1 q.2.2.1 q.2.2.2 A U H := (h.2.2.2.2.2.2.2.2.1 q (List.mem_of_getElem? hi)).narrow hA
theorem EV.U {z0 : Nat} {D : va_G} {g : Nat → Nat} {U : State} {H : Heap} {A : Nat → Prop} (h : EV z0 D g U H) (hA : ∀ q, A q → z0 ≤ q) : vx_Zq Bundle.tN "UNASSIGNED_STACK" Bundle.steD A U H := h.2.1.narrow hA
theorem EV.N {z0 : Nat} {D : va_G} {g : Nat → Nat} {U : State} {H : Heap} {A : Nat → Prop} (h : EV z0 D g U H) (hA : ∀ q, A q → z0 ≤ q) : vx_Zq Bundle.tN "SUPPRESSED_SENTINEL" Bundle.listD A U H := h.2.2.1.narrow hA
/-- nothing old is changed -/
abbrev nA : Nat → Prop := fun _ => False
theorem nA_z {z0 : Nat} : ∀ q, nA q → z0 ≤ q := fun _ h => h.elim
theorem nA_A {A0 : Nat → Prop} : ∀ q, nA q → A0 q := fun _ h => h.elim
theorem nA_B {A0 : Nat → Prop} {n : Nat} : ∀ q, q < n → nA q → A0 q := fun _ _ h => h.elim
/-- a method's start: one that changes nothing old; one that changes its own cells ws and those from sz on -/
def PR (z0 : Nat) (D : va_G) (g : Nat → Nat) (ws : va_W) (U : State) : Prop := EV z0 D g U U.heap ∧ va_P D classes ws U.heap
theorem PR.blind {av : List Value} {z0 : Nat} {D : va_G} {g : Nat → Nat} {ws : va_W} : FrameBlind (va_Pc av (PR z0 D g ws)) := fun _ _ _ _ h => ⟨h.1, h.2.1.blind, h.2.2⟩
theorem PR.pre {z0 : Nat} {D : va_G} {g : Nat → Nat} {A : Nat → Prop} {s : State} {H : Heap} {locs : List Loc} {wc : va_W} {av : List Value} (h : EV z0 D g s s.heap) (hS : va_S A s.heap H locs) (hA : ∀ q, A q → z0 ≤ q) (hP : va_P D classes wc H) : ∀ U : State, U.heap = H → s.WarmedH U.vm → va_Pc av (PR z0 D g wc) av.toArray U := fun U hU hW => ⟨rfl, h.warm hS hA hU hW, by rw [hU]; exact hP⟩
def PM (z0 : Nat) (D : va_G) (g : Nat → Nat) (sz : Nat) (ws : va_W) (U : State) : Prop := U.heap.size = sz ∧ z0 ≤ sz ∧ EV z0 D g U U.heap ∧ va_P D classes ws U.heap ∧ va_D (fun q => z0 ≤ q) ws
theorem PM.blind {av : List Value} {z0 sz : Nat} {D : va_G} {g : Nat → Nat} {ws : va_W} : FrameBlind (va_Pc av (PM z0 D g sz ws)) := fun _ _ _ _ h => ⟨h.1, h.2.1, h.2.2.1, h.2.2.2.1.blind, h.2.2.2.2⟩
theorem PM.pre {z0 : Nat} {D : va_G} {g : Nat → Nat} {A : Nat → Prop} {s : State} {H : Heap} {locs : List Loc} {wc : va_W} {av : List Value} (h : EV z0 D g s s.heap) (hS : va_S A s.heap H locs) (hA : ∀ q, A q → z0 ≤ q) (hz : z0 ≤ s.heap.size) (hP : va_P D classes wc H) (hD : va_D A wc) : ∀ U : State, U.heap = H → s.WarmedH U.vm → va_Pc av (PM z0 D g H.size wc) av.toArray U := fun U hU hW => ⟨rfl, by rw [hU], Nat.le_trans hz hS.1, h.warm hS hA hU hW, by rw [hU]; exact hP, hD.weaken (fun _ q _ hq => hA q.1 hq)⟩
theorem vaA_z {z0 sz : Nat} {ws : va_W} (hz : z0 ≤ sz) (hD : va_D (fun q => z0 ≤ q) ws) : ∀ q, va_A ws sz q → z0 ≤ q := fun q h => by
  rcases h with ⟨k, e, hk⟩ | h
  · exact hD.2 k (q, e) hk
  · exact Nat.le_trans hz h
/-- E is thrown, nothing old is changed -/
def xE (E : String) : String → State → State → Prop := vx_X (fun (_ : Unit) => True) (fun E' _ _ => E' = E) nA
theorem xE.of {s t : State} {H : Heap} {locs : List Loc} {E : String} (hS : va_S nA s.heap H locs) (h1 : H.size ≤ t.heap.size) (h2 : ∀ q : Nat, q < H.size → t.heap[q]? = H[q]?) : xE E E s t := ⟨(), trivial, rfl, Nat.le_trans hS.1 h1, fun q hq _ => by rw [h2 q (Nat.lt_of_lt_of_le hq hS.1)]; exact hS.2.1 q hq (fun h => h)⟩
theorem xE.of2 {s t : State} {H : Heap} {locs : List Loc} {E : String} (hS : va_S nA s.heap H locs) (h : t.heap = H) : xE E E s t := xE.of hS (by rw [h]; exact Nat.le_refl _) (fun _ _ => by rw [h])
/-- nothing but exceptions that are caught inside -/
abbrev xN : String → State → State → Prop := fun _ _ _ => False
/-- no answer, for a method that always throws -/
theorem va_P.old {D : va_G} {cl : List vw_C} {ws : va_W} {H H1 : Heap} (h : va_P D cl ws H) (hk : ∀ q : Nat, q < H.size → ¬ nA q → H1[q]? = H[q]?) : va_P D cl ws H1 := h.kept (fun k q hq => hk q.1 ((h k q hq).lt) (fun z => z))
theorem EV.x {z0 : Nat} {D : va_G} {g : Nat → Nat} {U : State} {H : Heap} (h : EV z0 D g U H) : EX z0 g U H := h.2.2.2.2.2.2.2.2.2
theorem EV.el {z0 : Nat} {D : va_G} {g : Nat → Nat} {U : State} {H : Heap} {A : Nat → Prop} (h : EV z0 D g U H) (hA : ∀ q, A q → z0 ≤ q) : va_T (.object "java/lang/Object") (g 4) 0 (fun _ => .null) A U H := h.x.1.narrow hA
theorem EV.ic {z0 : Nat} {D : va_G} {g : Nat → Nat} {U : State} {H : Heap} {A : Nat → Prop} (h : EV z0 D g U H) (hA : ∀ q, A q → z0 ≤ q) : va_T (.object "java/lang/Integer") (g 5) 256 (fun j => .ref (g (100 + j))) A U H := h.x.2.1.narrow hA
theorem EV.io {z0 : Nat} {D : va_G} {g : Nat → Nat} {U : State} {H : Heap} {A : Nat → Prop} (h : EV z0 D g U H) (hA : ∀ q, A q → z0 ≤ q) (j : Nat) (hj : j < 256) : va_O "java/lang/Integer" (g (100 + j)) A U H := (h.x.2.2.1 j hj).narrow hA
/-- an object of a class, seen from one state or another -/
theorem O_new {s t : State} {H : Heap} {E : String} {a : Nat} (h : ∃ cell : Cell, H[a]? = some cell ∧ cell.vm.isStatics = false ∧ s.vm.findClass E = some cell.cls) (ht : t.heap = H) (hv : s.vm.Alike t.vm) : va_O E a nA t t.heap := by
  obtain ⟨cell, h1, h2, h3⟩ := h
  exact ⟨cell, by rw [ht]; exact h1, h2, by rw [hv.findClass]; exact h3, fun z => z⟩
theorem O_old {s t : State} {H : Heap} {E : String} {a : Nat} {A : Nat → Prop} {locs : List Loc} (h : va_O E a A s s.heap) (hS : va_S A s.heap H locs) (ht : t.heap = H) (hv : s.vm.Alike t.vm) : va_O E a nA t t.heap := by
  obtain ⟨cell, h1, h2, h3, h4⟩ := h
  exact ⟨cell, by rw [ht, hS.2.1 a (Array.getElem?_eq_some_iff.mp h1).1 h4]; exact h1, h2, by rw [hv.findClass]; exact h3, fun z => z⟩
theorem O_back {s t : State} {H : Heap} {E : String} {a : Nat} (h : va_O E a nA t t.heap) (ht : t.heap = H) (hv : s.vm.Alike t.vm) : va_O E a nA s H := by rw [← ht]; exact va_O.moved hv.symm h
theorem O_old2 {s : State} {H H1 : Heap} {E : String} {a : Nat} (h : va_O E a nA s H) (hk : ∀ q : Nat, q < H.size → ¬ nA q → H1[q]? = H[q]?) : va_O E a nA s H1 := h.kept hk
theorem O_is {s : State} {H : Heap} {E : String} {a : Nat} (h : va_O E a nA s H) : ∃ cell : Cell, H[a]? = some cell ∧ cell.vm.isStatics = false ∧ s.vm.findClass E = some cell.cls := by
  obtain ⟨cell, h1, h2, h3, -⟩ := h
  exact ⟨cell, h1, h2, h3⟩
/-- .. and the key of a map: a method that reads, given an Integer k -/
def PRO (z0 : Nat) (D : va_G) (g : Nat → Nat) (ws : va_W) (k : Nat) (U : State) : Prop := PR z0 D g ws U ∧ va_O "java/lang/Integer" k nA U U.heap
theorem PRO.blind {av : List Value} {z0 k : Nat} {D : va_G} {g : Nat → Nat} {ws : va_W} : FrameBlind (va_Pc av (PRO z0 D g ws k)) := fun _ U _ _ h => ⟨h.1, ⟨h.2.1.1.blind, h.2.1.2⟩, va_O.moved (u := U) (Vm.Alike.refl U.vm) h.2.2⟩
theorem PRO.pre {z0 k : Nat} {D : va_G} {g : Nat → Nat} {A : Nat → Prop} {s : State} {H : Heap} {locs : List Loc} {wc : va_W} {av : List Value} (h : EV z0 D g s s.heap) (hS : va_S A s.heap H locs) (hA : ∀ q, A q → z0 ≤ q) (hP : va_P D classes wc H) (hO : va_O "java/lang/Integer" k nA s H) : ∀ U : State, U.heap = H → s.WarmedH U.vm → va_Pc av (PRO z0 D g wc k) av.toArray U := fun U hU hW => ⟨rfl, ⟨h.warm hS hA hU hW, by rw [hU]; exact hP⟩, by rw [hU]; exact va_O.moved hW.alike hO⟩
/-- .. and the calendar: all its days hold an evening that nobody planned -/
abbrev freeE (g : Nat → Nat) : va_E := .inr (4, [.ref (g 0), .int 0, .int 0])
def CAL (D : va_G) (g : Nat → Nat) (F : Nat → Option Nat) (H : Heap) : Prop := ∀ k : Nat, k < 100 → ∃ y : Nat, F k = some y ∧ va_P D classes [(y, freeE g)] H
theorem CAL.old {D : va_G} {g : Nat → Nat} {F : Nat → Option Nat} {H H1 : Heap} (h : CAL D g F H) (hk : ∀ q : Nat, q < H.size → ¬ nA q → H1[q]? = H[q]?) : CAL D g F H1 := fun k hk2 => by
  obtain ⟨y, h1, h2⟩ := h k hk2
  exact ⟨y, h1, h2.old hk⟩
def PRC (z0 : Nat) (D : va_G) (g : Nat → Nat) (tys : List (ClassId × FieldType)) (ws : va_W) (F : Nat → Option Nat) (U : State) : Prop := EV z0 D g U U.heap ∧ va_P D classes ws U.heap ∧ va_K D classes tys U ∧ CAL D g F U.heap
theorem PRC.blind {av : List Value} {z0 : Nat} {D : va_G} {g : Nat → Nat} {tys : List (ClassId × FieldType)} {ws : va_W} {F : Nat → Option Nat} : FrameBlind (va_Pc av (PRC z0 D g tys ws F)) := fun _ U _ _ h => ⟨h.1, h.2.1.blind, h.2.2.1, va_K.moved (u := U) (Vm.Alike.refl U.vm) h.2.2.2.1, h.2.2.2.2⟩
theorem PRC.pre {z0 : Nat} {D : va_G} {g : Nat → Nat} {A : Nat → Prop} {s : State} {H : Heap} {locs : List Loc} {tys : List (ClassId × FieldType)} {wc : va_W} {av : List Value} {F : Nat → Option Nat} (h : EV z0 D g s s.heap) (hS : va_S A s.heap H locs) (hA : ∀ q, A q → z0 ≤ q) (hP : va_P D classes wc H) (hK : va_K D classes tys s) (hC : CAL D g F H) : ∀ U : State, U.heap = H → s.WarmedH U.vm → va_Pc av (PRC z0 D g tys wc F) av.toArray U := fun U hU hW => ⟨rfl, h.warm hS hA hU hW, by rw [hU]; exact hP, va_K.moved hW.alike hK, by rw [hU]; exact hC⟩
/-- one that changes its own cells, arrays among them (and knows the calendar) -/
def PMT (z0 : Nat) (D : va_G) (g : Nat → Nat) (tys : List (ClassId × FieldType)) (sz : Nat) (ws : va_W) (X : Heap → Prop) (U : State) : Prop := PM z0 D g sz ws U ∧ va_K D classes tys U ∧ X U.heap
theorem PMT.blind {av : List Value} {z0 sz : Nat} {D : va_G} {g : Nat → Nat} {tys : List (ClassId × FieldType)} {ws : va_W} {X : Heap → Prop} : FrameBlind (va_Pc av (PMT z0 D g tys sz ws X)) := fun _ U _ _ h => ⟨h.1, ⟨h.2.1.1, h.2.1.2.1, h.2.1.2.2.1.blind, h.2.1.2.2.2⟩, va_K.moved (u := U) (Vm.Alike.refl U.vm) h.2.2.1, h.2.2.2⟩
theorem PMT.pre {z0 : Nat} {D : va_G} {g : Nat → Nat} {A : Nat → Prop} {s : State} {H : Heap} {locs : List Loc} {tys : List (ClassId × FieldType)} {wc : va_W} {av : List Value} {X : Heap → Prop} (h : EV z0 D g s s.heap) (hS : va_S A s.heap H locs) (hA : ∀ q, A q → z0 ≤ q) (hz : z0 ≤ s.heap.size) (hP : va_P D classes wc H) (hD : va_D A wc) (hK : va_K D classes tys s) (hX : X H) : ∀ U : State, U.heap = H → s.WarmedH U.vm → va_Pc av (PMT z0 D g tys H.size wc X) av.toArray U := fun U hU hW => ⟨rfl, ⟨by rw [hU], Nat.le_trans hz hS.1, h.warm hS hA hU hW, by rw [hU]; exact hP, hD.weaken (fun _ q _ hq => hA q.1 hq)⟩, va_K.moved hW.alike hK, by rw [hU]; exact hX⟩
