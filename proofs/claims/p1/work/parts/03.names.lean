/-! printed by TURN (claim/NAMES.whole.lean.txt), the rows that are used: names, fields, decode rows -/
def RX10 : String := "Theatrehouse"
def RX0 : String := "Theatrehouse$Cue"
def RX1 : String := "Theatrehouse$Evening"
def RX2 : String := "Theatrehouse$Machine"
def RX4 : String := "Theatrehouse$Person"
def RX5 : String := "Theatrehouse$Search"
def RX6 : String := "Theatrehouse$Show"
def RX8 : String := "Theatrehouse$Trial"
def RX9 : String := "Theatrehouse$Work"
def RL : String := "TheatrehouseLaw"
def RX18 : String := "TheatrehouseModel"
def RX14 : String := "TheatrehouseModel$Machine"
def RX15 : String := "TheatrehouseModel$Person"
def RX17 : String := "TheatrehouseModel$Work"
def RJ6 : String := "java/lang/Integer"
def RJx4a65c : String := "java/util/ArrayList"
def RJx35411 : String := "java/util/ArrayList$Itr"
def RX28 : String := "java/util/TreeMap"
def RX26 : String := "java/util/TreeMap$ValueIterator"
def RX27 : String := "java/util/TreeMap$Values"
def TX10 : u_T := fun k => match k with
  | 0 => ("Theatrehouse", "people", "[LTheatrehouse$Person;", true)
  | 1 => ("Theatrehouse", "machines", "[LTheatrehouse$Machine;", true)
  | 2 => ("Theatrehouse", "works", "[LTheatrehouse$Work;", true)
  | 3 => ("Theatrehouse", "calendar", "[LTheatrehouse$Evening;", true)
  | 4 => ("Theatrehouse", "show", "LTheatrehouse$Show;", true)
  | 5 => ("Theatrehouse", "search", "LTheatrehouse$Search;", true)
  | 6 => ("Theatrehouse", "trial", "LTheatrehouse$Trial;", true)
  | 7 => ("Theatrehouse", "peopleCount", "I", false)
  | 8 => ("Theatrehouse", "machineCount", "I", false)
  | 9 => ("Theatrehouse", "workCount", "I", false)
  | 10 => ("Theatrehouse", "today", "I", false)
  | 11 => ("Theatrehouse", "showIsOn", "Z", false)
  | 12 => ("Theatrehouse", "endedCount", "I", false)
  | _ => ("Theatrehouse", "endedMinutes", "I", false)
def tyX10 : Nat → FieldType := fun k => match k with
  | 0 => .array (.object "Theatrehouse$Person")
  | 1 => .array (.object "Theatrehouse$Machine")
  | 2 => .array (.object "Theatrehouse$Work")
  | 3 => .array (.object "Theatrehouse$Evening")
  | 4 => .object "Theatrehouse$Show"
  | 5 => .object "Theatrehouse$Search"
  | 6 => .object "Theatrehouse$Trial"
  | 7 => .int
  | 8 => .int
  | 9 => .int
  | 10 => .int
  | 11 => .boolean
  | 12 => .int
  | _ => .int
theorem nmX10 : ∀ a, a < 14 → ∀ b, b < 14 → a ≠ b → (TX10 a).2.1 ≠ (TX10 b).2.1 := by decide +kernel
theorem tyX10_ok : ∀ k, k < 14 → parseFieldDescriptor (TX10 k).2.2.1 = some (tyX10 k) := by decide +kernel
def TX4 : u_T := fun k => match k with
  | 0 => ("Theatrehouse$Person", "fee", "I", false)
  | 1 => ("Theatrehouse$Person", "greatestVoice", "I", false)
  | 2 => ("Theatrehouse$Person", "voice", "I", false)
  | 3 => ("Theatrehouse$Person", "voiceSung", "I", false)
  | 4 => ("Theatrehouse$Person", "cover", "I", false)
  | _ => ("Theatrehouse$Person", "lastIllDay", "I", false)
def tyX4 : Nat → FieldType := fun k => match k with
  | 0 => .int
  | 1 => .int
  | 2 => .int
  | 3 => .int
  | 4 => .int
  | _ => .int
theorem nmX4 : ∀ a, a < 6 → ∀ b, b < 6 → a ≠ b → (TX4 a).2.1 ≠ (TX4 b).2.1 := by decide +kernel
theorem tyX4_ok : ∀ k, k < 6 → parseFieldDescriptor (TX4 k).2.2.1 = some (tyX4 k) := by decide +kernel
def TX2 : u_T := fun k => match k with
  | 0 => ("Theatrehouse$Machine", "zone", "I", false)
  | 1 => ("Theatrehouse$Machine", "limit", "I", false)
  | 2 => ("Theatrehouse$Machine", "other", "I", false)
  | 3 => ("Theatrehouse$Machine", "low", "I", false)
  | _ => ("Theatrehouse$Machine", "high", "I", false)
def tyX2 : Nat → FieldType := fun k => match k with
  | 0 => .int
  | 1 => .int
  | 2 => .int
  | 3 => .int
  | _ => .int
theorem nmX2 : ∀ a, a < 5 → ∀ b, b < 5 → a ≠ b → (TX2 a).2.1 ≠ (TX2 b).2.1 := by decide +kernel
theorem tyX2_ok : ∀ k, k < 5 → parseFieldDescriptor (TX2 k).2.2.1 = some (tyX2 k) := by decide +kernel
def TX9 : u_T := fun k => match k with
  | 0 => ("Theatrehouse$Work", "roles", "I", false)
  | 1 => ("Theatrehouse$Work", "price", "I", false)
  | 2 => ("Theatrehouse$Work", "balance", "I", false)
  | 3 => ("Theatrehouse$Work", "cueCount", "I", false)
  | 4 => ("Theatrehouse$Work", "cueRows", "[LTheatrehouse$Cue;", true)
  | 5 => ("Theatrehouse$Work", "persons", "[I", true)
  | _ => ("Theatrehouse$Work", "roleWasSet", "[Z", true)
def tyX9 : Nat → FieldType := fun k => match k with
  | 0 => .int
  | 1 => .int
  | 2 => .int
  | 3 => .int
  | 4 => .array (.object "Theatrehouse$Cue")
  | 5 => .array .int
  | _ => .array .boolean
theorem nmX9 : ∀ a, a < 7 → ∀ b, b < 7 → a ≠ b → (TX9 a).2.1 ≠ (TX9 b).2.1 := by decide +kernel
theorem tyX9_ok : ∀ k, k < 7 → parseFieldDescriptor (TX9 k).2.2.1 = some (tyX9 k) := by decide +kernel
def TX1 : u_T := fun k => match k with
  | 0 => ("Theatrehouse$Evening", "status", "LTheatrehouse$Status;", false)
  | 1 => ("Theatrehouse$Evening", "work", "I", false)
  | _ => ("Theatrehouse$Evening", "sold", "I", false)
def tyX1 : Nat → FieldType := fun k => match k with
  | 0 => .object "Theatrehouse$Status"
  | 1 => .int
  | _ => .int
theorem nmX1 : ∀ a, a < 3 → ∀ b, b < 3 → a ≠ b → (TX1 a).2.1 ≠ (TX1 b).2.1 := by decide +kernel
theorem tyX1_ok : ∀ k, k < 3 → parseFieldDescriptor (TX1 k).2.2.1 = some (tyX1 k) := by decide +kernel
def TX6 : u_T := fun k => match k with
  | 0 => ("Theatrehouse$Show", "machines", "[LTheatrehouse$Machine;", false)
  | 1 => ("Theatrehouse$Show", "work", "LTheatrehouse$Work;", false)
  | 2 => ("Theatrehouse$Show", "singers", "[I", true)
  | 3 => ("Theatrehouse$Show", "slots", "[I", true)
  | 4 => ("Theatrehouse$Show", "firstVoices", "[I", true)
  | 5 => ("Theatrehouse$Show", "now", "J", false)
  | 6 => ("Theatrehouse$Show", "statesBefore", "[J", true)
  | 7 => ("Theatrehouse$Show", "doneCues", "[I", true)
  | 8 => ("Theatrehouse$Show", "doneCount", "I", false)
  | _ => ("Theatrehouse$Show", "minutesTaken", "I", false)
def tyX6 : Nat → FieldType := fun k => match k with
  | 0 => .array (.object "Theatrehouse$Machine")
  | 1 => .object "Theatrehouse$Work"
  | 2 => .array .int
  | 3 => .array .int
  | 4 => .array .int
  | 5 => .long
  | 6 => .array .long
  | 7 => .array .int
  | 8 => .int
  | _ => .int
theorem nmX6 : ∀ a, a < 10 → ∀ b, b < 10 → a ≠ b → (TX6 a).2.1 ≠ (TX6 b).2.1 := by decide +kernel
theorem tyX6_ok : ∀ k, k < 10 → parseFieldDescriptor (TX6 k).2.2.1 = some (tyX6 k) := by decide +kernel
def TX5 : u_T := fun k => match k with
  | 0 => ("Theatrehouse$Search", "states", "[J", true)
  | 1 => ("Theatrehouse$Search", "nextStates", "[I", true)
  | 2 => ("Theatrehouse$Search", "lengths", "[I", true)
  | 3 => ("Theatrehouse$Search", "orderCounts", "[J", true)
  | 4 => ("Theatrehouse$Search", "row", "[I", true)
  | 5 => ("Theatrehouse$Search", "size", "I", false)
  | 6 => ("Theatrehouse$Search", "cueCount", "I", false)
  | 7 => ("Theatrehouse$Search", "leftCount", "I", false)
  | 8 => ("Theatrehouse$Search", "rowLength", "I", false)
  | 9 => ("Theatrehouse$Search", "rowEnd", "J", false)
  | 10 => ("Theatrehouse$Search", "hasTooMany", "Z", false)
  | 11 => ("Theatrehouse$Search", "layer", "I", false)
  | _ => ("Theatrehouse$Search", "isExplored", "Z", false)
def tyX5 : Nat → FieldType := fun k => match k with
  | 0 => .array .long
  | 1 => .array .int
  | 2 => .array .int
  | 3 => .array .long
  | 4 => .array .int
  | 5 => .int
  | 6 => .int
  | 7 => .int
  | 8 => .int
  | 9 => .long
  | 10 => .boolean
  | 11 => .int
  | _ => .boolean
theorem nmX5 : ∀ a, a < 13 → ∀ b, b < 13 → a ≠ b → (TX5 a).2.1 ≠ (TX5 b).2.1 := by decide +kernel
theorem tyX5_ok : ∀ k, k < 13 → parseFieldDescriptor (TX5 k).2.2.1 = some (tyX5 k) := by decide +kernel
def TX8 : u_T := fun k => match k with
  | 0 => ("Theatrehouse$Trial", "row", "[I", true)
  | 1 => ("Theatrehouse$Trial", "firstOrder", "[I", true)
  | 2 => ("Theatrehouse$Trial", "leftCount", "I", false)
  | 3 => ("Theatrehouse$Trial", "longest", "I", false)
  | _ => ("Theatrehouse$Trial", "orderCount", "J", false)
def tyX8 : Nat → FieldType := fun k => match k with
  | 0 => .array .int
  | 1 => .array .int
  | 2 => .int
  | 3 => .int
  | _ => .long
theorem nmX8 : ∀ a, a < 5 → ∀ b, b < 5 → a ≠ b → (TX8 a).2.1 ≠ (TX8 b).2.1 := by decide +kernel
theorem tyX8_ok : ∀ k, k < 5 → parseFieldDescriptor (TX8 k).2.2.1 = some (tyX8 k) := by decide +kernel
def TX0 : u_T := fun k => match k with
  | 0 => ("Theatrehouse$Cue", "kind", "C", false)
  | 1 => ("Theatrehouse$Cue", "a", "I", false)
  | 2 => ("Theatrehouse$Cue", "b", "I", false)
  | 3 => ("Theatrehouse$Cue", "minutes", "I", false)
  | _ => ("Theatrehouse$Cue", "needs", "I", false)
def tyX0 : Nat → FieldType := fun k => match k with
  | 0 => .char
  | 1 => .int
  | 2 => .int
  | 3 => .int
  | _ => .int
theorem nmX0 : ∀ a, a < 5 → ∀ b, b < 5 → a ≠ b → (TX0 a).2.1 ≠ (TX0 b).2.1 := by decide +kernel
theorem tyX0_ok : ∀ k, k < 5 → parseFieldDescriptor (TX0 k).2.2.1 = some (tyX0 k) := by decide +kernel
def TX18 : u_T := fun k => match k with
  | 0 => ("TheatrehouseModel", "people", "Ljava/util/List;", true)
  | 1 => ("TheatrehouseModel", "machines", "Ljava/util/List;", true)
  | 2 => ("TheatrehouseModel", "works", "Ljava/util/List;", true)
  | 3 => ("TheatrehouseModel", "evenings", "Ljava/util/TreeMap;", true)
  | 4 => ("TheatrehouseModel", "day", "I", false)
  | 5 => ("TheatrehouseModel", "on", "LTheatrehouseModel$Evening;", false)
  | 6 => ("TheatrehouseModel", "work", "LTheatrehouseModel$Work;", false)
  | 7 => ("TheatrehouseModel", "singers", "[I", false)
  | 8 => ("TheatrehouseModel", "stage", "LTheatrehouseModel$Stage;", false)
  | 9 => ("TheatrehouseModel", "before", "Ljava/util/List;", true)
  | 10 => ("TheatrehouseModel", "performed", "Ljava/util/List;", true)
  | 11 => ("TheatrehouseModel", "minutes", "I", false)
  | 12 => ("TheatrehouseModel", "ended", "I", false)
  | 13 => ("TheatrehouseModel", "endedMinutes", "J", false)
  | _ => ("TheatrehouseModel", "thrown", "I", false)
def tyX18 : Nat → FieldType := fun k => match k with
  | 0 => .object "java/util/List"
  | 1 => .object "java/util/List"
  | 2 => .object "java/util/List"
  | 3 => .object "java/util/TreeMap"
  | 4 => .int
  | 5 => .object "TheatrehouseModel$Evening"
  | 6 => .object "TheatrehouseModel$Work"
  | 7 => .array .int
  | 8 => .object "TheatrehouseModel$Stage"
  | 9 => .object "java/util/List"
  | 10 => .object "java/util/List"
  | 11 => .int
  | 12 => .int
  | 13 => .long
  | _ => .int
theorem nmX18 : ∀ a, a < 15 → ∀ b, b < 15 → a ≠ b → (TX18 a).2.1 ≠ (TX18 b).2.1 := by decide +kernel
theorem tyX18_ok : ∀ k, k < 15 → parseFieldDescriptor (TX18 k).2.2.1 = some (tyX18 k) := by decide +kernel
def TJx4a65c : u_T := fun k => match k with
  | 0 => ("java/util/AbstractList", "modCount", "I", false)
  | 1 => ("java/util/ArrayList", "elementData", "[Ljava/lang/Object;", false)
  | _ => ("java/util/ArrayList", "size", "I", false)
def tyJx4a65c : Nat → FieldType := fun k => match k with
  | 0 => .int
  | 1 => .array (.object "java/lang/Object")
  | _ => .int
theorem nmJx4a65c : ∀ a, a < 3 → ∀ b, b < 3 → a ≠ b → (TJx4a65c a).2.1 ≠ (TJx4a65c b).2.1 := by decide +kernel
theorem tyJx4a65c_ok : ∀ k, k < 3 → parseFieldDescriptor (TJx4a65c k).2.2.1 = some (tyJx4a65c k) := by decide +kernel
def TX28 : u_T := fun k => match k with
  | 0 => ("java/util/AbstractMap", "keySet", "Ljava/util/Set;", false)
  | 1 => ("java/util/AbstractMap", "values", "Ljava/util/Collection;", false)
  | 2 => ("java/util/TreeMap", "comparator", "Ljava/util/Comparator;", true)
  | 3 => ("java/util/TreeMap", "root", "Ljava/util/TreeMap$Entry;", false)
  | 4 => ("java/util/TreeMap", "size", "I", false)
  | 5 => ("java/util/TreeMap", "modCount", "I", false)
  | 6 => ("java/util/TreeMap", "entrySet", "Ljava/util/TreeMap$EntrySet;", false)
  | 7 => ("java/util/TreeMap", "navigableKeySet", "Ljava/util/TreeMap$KeySet;", false)
  | _ => ("java/util/TreeMap", "descendingMap", "Ljava/util/NavigableMap;", false)
def tyX28 : Nat → FieldType := fun k => match k with
  | 0 => .object "java/util/Set"
  | 1 => .object "java/util/Collection"
  | 2 => .object "java/util/Comparator"
  | 3 => .object "java/util/TreeMap$Entry"
  | 4 => .int
  | 5 => .int
  | 6 => .object "java/util/TreeMap$EntrySet"
  | 7 => .object "java/util/TreeMap$KeySet"
  | _ => .object "java/util/NavigableMap"
theorem nmX28 : ∀ a, a < 9 → ∀ b, b < 9 → a ≠ b → (TX28 a).2.1 ≠ (TX28 b).2.1 := by decide +kernel
theorem tyX28_ok : ∀ k, k < 9 → parseFieldDescriptor (TX28 k).2.2.1 = some (tyX28 k) := by decide +kernel
def TX15 : u_T := fun k => match k with
  | 0 => ("TheatrehouseModel$Person", "fee", "I", true)
  | 1 => ("TheatrehouseModel$Person", "most", "I", true)
  | 2 => ("TheatrehouseModel$Person", "voice", "I", false)
  | 3 => ("TheatrehouseModel$Person", "cover", "I", false)
  | 4 => ("TheatrehouseModel$Person", "ill", "I", false)
  | _ => ("TheatrehouseModel$Person", "sung", "I", false)
def tyX15 : Nat → FieldType := fun k => match k with
  | 0 => .int
  | 1 => .int
  | 2 => .int
  | 3 => .int
  | 4 => .int
  | _ => .int
theorem nmX15 : ∀ a, a < 6 → ∀ b, b < 6 → a ≠ b → (TX15 a).2.1 ≠ (TX15 b).2.1 := by decide +kernel
theorem tyX15_ok : ∀ k, k < 6 → parseFieldDescriptor (TX15 k).2.2.1 = some (tyX15 k) := by decide +kernel
def TX14 : u_T := fun k => match k with
  | 0 => ("TheatrehouseModel$Machine", "zone", "I", true)
  | 1 => ("TheatrehouseModel$Machine", "limit", "I", true)
  | 2 => ("TheatrehouseModel$Machine", "other", "I", false)
  | 3 => ("TheatrehouseModel$Machine", "low", "I", false)
  | _ => ("TheatrehouseModel$Machine", "high", "I", false)
def tyX14 : Nat → FieldType := fun k => match k with
  | 0 => .int
  | 1 => .int
  | 2 => .int
  | 3 => .int
  | _ => .int
theorem nmX14 : ∀ a, a < 5 → ∀ b, b < 5 → a ≠ b → (TX14 a).2.1 ≠ (TX14 b).2.1 := by decide +kernel
theorem tyX14_ok : ∀ k, k < 5 → parseFieldDescriptor (TX14 k).2.2.1 = some (tyX14 k) := by decide +kernel
def TX17 : u_T := fun k => match k with
  | 0 => ("TheatrehouseModel$Work", "people", "[I", true)
  | 1 => ("TheatrehouseModel$Work", "isSet", "[Z", true)
  | 2 => ("TheatrehouseModel$Work", "price", "I", true)
  | 3 => ("TheatrehouseModel$Work", "cues", "Ljava/util/List;", true)
  | _ => ("TheatrehouseModel$Work", "balance", "I", false)
def tyX17 : Nat → FieldType := fun k => match k with
  | 0 => .array .int
  | 1 => .array .boolean
  | 2 => .int
  | 3 => .object "java/util/List"
  | _ => .int
theorem nmX17 : ∀ a, a < 5 → ∀ b, b < 5 → a ≠ b → (TX17 a).2.1 ≠ (TX17 b).2.1 := by decide +kernel
theorem tyX17_ok : ∀ k, k < 5 → parseFieldDescriptor (TX17 k).2.2.1 = some (tyX17 k) := by decide +kernel
def TJx35411 : u_T := fun k => match k with
  | 0 => ("java/util/ArrayList$Itr", "cursor", "I", false)
  | 1 => ("java/util/ArrayList$Itr", "lastRet", "I", false)
  | 2 => ("java/util/ArrayList$Itr", "expectedModCount", "I", false)
  | _ => ("java/util/ArrayList$Itr", "this$0", "Ljava/util/ArrayList;", true)
def tyJx35411 : Nat → FieldType := fun k => match k with
  | 0 => .int
  | 1 => .int
  | 2 => .int
  | _ => .object "java/util/ArrayList"
theorem nmJx35411 : ∀ a, a < 4 → ∀ b, b < 4 → a ≠ b → (TJx35411 a).2.1 ≠ (TJx35411 b).2.1 := by decide +kernel
theorem tyJx35411_ok : ∀ k, k < 4 → parseFieldDescriptor (TJx35411 k).2.2.1 = some (tyJx35411 k) := by decide +kernel
def TX27 : u_T := fun k => match k with
  | _ => ("java/util/TreeMap$Values", "this$0", "Ljava/util/TreeMap;", true)
def tyX27 : Nat → FieldType := fun k => match k with
  | _ => .object "java/util/TreeMap"
theorem nmX27 : ∀ a, a < 1 → ∀ b, b < 1 → a ≠ b → (TX27 a).2.1 ≠ (TX27 b).2.1 := by decide +kernel
theorem tyX27_ok : ∀ k, k < 1 → parseFieldDescriptor (TX27 k).2.2.1 = some (tyX27 k) := by decide +kernel
def TX26 : u_T := fun k => match k with
  | 0 => ("java/util/TreeMap$PrivateEntryIterator", "next", "Ljava/util/TreeMap$Entry;", false)
  | 1 => ("java/util/TreeMap$PrivateEntryIterator", "lastReturned", "Ljava/util/TreeMap$Entry;", false)
  | 2 => ("java/util/TreeMap$PrivateEntryIterator", "expectedModCount", "I", false)
  | _ => ("java/util/TreeMap$PrivateEntryIterator", "this$0", "Ljava/util/TreeMap;", true)
def tyX26 : Nat → FieldType := fun k => match k with
  | 0 => .object "java/util/TreeMap$Entry"
  | 1 => .object "java/util/TreeMap$Entry"
  | 2 => .int
  | _ => .object "java/util/TreeMap"
theorem nmX26 : ∀ a, a < 4 → ∀ b, b < 4 → a ≠ b → (TX26 a).2.1 ≠ (TX26 b).2.1 := by decide +kernel
theorem tyX26_ok : ∀ k, k < 4 → parseFieldDescriptor (TX26 k).2.2.1 = some (tyX26 k) := by decide +kernel
def TJ6 : u_T := fun k => match k with
  | _ => ("java/lang/Integer", "value", "I", true)
def tyJ6 : Nat → FieldType := fun k => match k with
  | _ => .int
theorem nmJ6 : ∀ a, a < 1 → ∀ b, b < 1 → a ≠ b → (TJ6 a).2.1 ≠ (TJ6 b).2.1 := by decide +kernel
theorem tyJ6_ok : ∀ k, k < 1 → parseFieldDescriptor (TJ6 k).2.2.1 = some (tyJ6 k) := by decide +kernel
abbrev cJx4a65c_size_8abf5 : ByteArray := prog_55_method_8_code
def yJx4a65c_size_8abf5 : MethodName := ⟨RJx4a65c, "size", "()I"⟩
abbrev cL_addCue : ByteArray := method_10_code
def yL_addCue : MethodName := ⟨RL, "addCue", "(LTheatrehouse;ICIIII[J)I"⟩
abbrev cL_balance : ByteArray := method_31_code
def yL_balance : MethodName := ⟨RL, "balance", "(LTheatrehouse;I[J)I"⟩
abbrev cL_cues : ByteArray := method_11_code
def yL_cues : MethodName := ⟨RL, "cues", "(LTheatrehouse;I[J)I"⟩
abbrev cL_end : ByteArray := method_19_code
def yL_end : MethodName := ⟨RL, "end", "(LTheatrehouse;[J)I"⟩
abbrev cL_fallIll : ByteArray := method_5_code
def yL_fallIll : MethodName := ⟨RL, "fallIll", "(LTheatrehouse;II[J)I"⟩
abbrev cL_farthest : ByteArray := method_28_code
def yL_farthest : MethodName := ⟨RL, "farthest", "(LTheatrehouse;[J)I"⟩
abbrev cL_hasOrder : ByteArray := method_26_code
def yL_hasOrder : MethodName := ⟨RL, "hasOrder", "(LTheatrehouse;[J)I"⟩
abbrev cL_meanMinutes : ByteArray := method_34_code
def yL_meanMinutes : MethodName := ⟨RL, "meanMinutes", "(LTheatrehouse;[D)I"⟩
abbrev cL_minutes : ByteArray := method_24_code
def yL_minutes : MethodName := ⟨RL, "minutes", "(LTheatrehouse;[J)I"⟩
abbrev cL_obstacle : ByteArray := method_17_code
def yL_obstacle : MethodName := ⟨RL, "obstacle", "(LTheatrehouse;I[J)I"⟩
abbrev cL_orderAt : ByteArray := method_27_code
def yL_orderAt : MethodName := ⟨RL, "orderAt", "(LTheatrehouse;I[J)I"⟩
abbrev cL_orders : ByteArray := method_30_code
def yL_orders : MethodName := ⟨RL, "orders", "(LTheatrehouse;[J)I"⟩
abbrev cL_perform : ByteArray := method_16_code
def yL_perform : MethodName := ⟨RL, "perform", "(LTheatrehouse;I[J)I"⟩
abbrev cL_place : ByteArray := method_23_code
def yL_place : MethodName := ⟨RL, "place", "(LTheatrehouse;I[J)I"⟩
abbrev cL_plan : ByteArray := method_12_code
def yL_plan : MethodName := ⟨RL, "plan", "(LTheatrehouse;II[J)I"⟩
abbrev cL_setCover : ByteArray := method_4_code
def yL_setCover : MethodName := ⟨RL, "setCover", "(LTheatrehouse;II[J)I"⟩
abbrev cL_setInterlock : ByteArray := method_7_code
def yL_setInterlock : MethodName := ⟨RL, "setInterlock", "(LTheatrehouse;IIII[J)I"⟩
abbrev cL_setRole : ByteArray := method_9_code
def yL_setRole : MethodName := ⟨RL, "setRole", "(LTheatrehouse;III[J)I"⟩
abbrev cL_singer : ByteArray := method_20_code
def yL_singer : MethodName := ⟨RL, "singer", "(LTheatrehouse;I[J)I"⟩
abbrev cL_states : ByteArray := method_25_code
def yL_states : MethodName := ⟨RL, "states", "(LTheatrehouse;[J)I"⟩
abbrev cL_stuck : ByteArray := method_29_code
def yL_stuck : MethodName := ⟨RL, "stuck", "(LTheatrehouse;[J)I"⟩
abbrev cL_sung : ByteArray := method_32_code
def yL_sung : MethodName := ⟨RL, "sung", "(LTheatrehouse;I[J)I"⟩
abbrev cL_takeBack : ByteArray := method_18_code
def yL_takeBack : MethodName := ⟨RL, "takeBack", "(LTheatrehouse;[J)I"⟩
abbrev cL_voice : ByteArray := method_22_code
def yL_voice : MethodName := ⟨RL, "voice", "(LTheatrehouse;I[J)I"⟩
abbrev cL_zone : ByteArray := method_21_code
def yL_zone : MethodName := ⟨RL, "zone", "(LTheatrehouse;I[J)I"⟩
abbrev cX10_addCue : ByteArray := prog_1_method_9_code
def yX10_addCue : MethodName := ⟨RX10, "addCue", "(ICIIII)I"⟩
abbrev cX10_balance : ByteArray := prog_1_method_31_code
def yX10_balance : MethodName := ⟨RX10, "balance", "(I)I"⟩
abbrev cX10_cues : ByteArray := prog_1_method_10_code
def yX10_cues : MethodName := ⟨RX10, "cues", "(I)I"⟩
abbrev cX10_day : ByteArray := prog_1_method_14_code
def yX10_day : MethodName := ⟨RX10, "day", "()I"⟩
abbrev cX10_end : ByteArray := prog_1_method_19_code
def yX10_end : MethodName := ⟨RX10, "end", "()I"⟩
abbrev cX10_evenings : ByteArray := prog_1_method_33_code
def yX10_evenings : MethodName := ⟨RX10, "evenings", "()I"⟩
abbrev cX10_fallIll : ByteArray := prog_1_method_4_code
def yX10_fallIll : MethodName := ⟨RX10, "fallIll", "(II)I"⟩
abbrev cX10_farthest : ByteArray := prog_1_method_28_code
def yX10_farthest : MethodName := ⟨RX10, "farthest", "()I"⟩
abbrev cX10_hasOrder : ByteArray := prog_1_method_26_code
def yX10_hasOrder : MethodName := ⟨RX10, "hasOrder", "()Z"⟩
abbrev cX10_isConsistent : ByteArray := prog_1_method_36_code
def yX10_isConsistent : MethodName := ⟨RX10, "isConsistent", "()Z"⟩
abbrev cX10_isPerson : ByteArray := prog_1_method_47_code
def yX10_isPerson : MethodName := ⟨RX10, "isPerson", "(I)Z"⟩
abbrev cX10_meanMinutes : ByteArray := prog_1_method_35_code
def yX10_meanMinutes : MethodName := ⟨RX10, "meanMinutes", "()D"⟩
abbrev cX10_minutes : ByteArray := prog_1_method_24_code
def yX10_minutes : MethodName := ⟨RX10, "minutes", "()I"⟩
abbrev cX10_obstacle : ByteArray := prog_1_method_17_code
def yX10_obstacle : MethodName := ⟨RX10, "obstacle", "(I)C"⟩
abbrev cX10_orderAt : ByteArray := prog_1_method_27_code
def yX10_orderAt : MethodName := ⟨RX10, "orderAt", "(I)I"⟩
abbrev cX10_orders : ByteArray := prog_1_method_30_code
def yX10_orders : MethodName := ⟨RX10, "orders", "()J"⟩
abbrev cX10_perform : ByteArray := prog_1_method_16_code
def yX10_perform : MethodName := ⟨RX10, "perform", "(I)I"⟩
abbrev cX10_place : ByteArray := prog_1_method_23_code
def yX10_place : MethodName := ⟨RX10, "place", "(I)I"⟩
abbrev cX10_plan : ByteArray := prog_1_method_11_code
def yX10_plan : MethodName := ⟨RX10, "plan", "(II)I"⟩
abbrev cX10_requireMachine : ByteArray := prog_1_method_41_code
def yX10_requireMachine : MethodName := ⟨RX10, "requireMachine", "(I)V"⟩
abbrev cX10_requireNoShow : ByteArray := prog_1_method_45_code
def yX10_requireNoShow : MethodName := ⟨RX10, "requireNoShow", "()V"⟩
abbrev cX10_requirePerson : ByteArray := prog_1_method_40_code
def yX10_requirePerson : MethodName := ⟨RX10, "requirePerson", "(I)V"⟩
abbrev cX10_requireRange : ByteArray := prog_1_method_37_code
def yX10_requireRange : MethodName := ⟨RX10, "requireRange", "(III)V"⟩
abbrev cX10_requireRoom : ByteArray := prog_1_method_38_code
def yX10_requireRoom : MethodName := ⟨RX10, "requireRoom", "(II)V"⟩
abbrev cX10_requireShow : ByteArray := prog_1_method_44_code
def yX10_requireShow : MethodName := ⟨RX10, "requireShow", "()V"⟩
abbrev cX10_requireToldOrders : ByteArray := prog_1_method_46_code
def yX10_requireToldOrders : MethodName := ⟨RX10, "requireToldOrders", "()V"⟩
abbrev cX10_requireWork : ByteArray := prog_1_method_42_code
def yX10_requireWork : MethodName := ⟨RX10, "requireWork", "(I)V"⟩
abbrev cX10_setCover : ByteArray := prog_1_method_3_code
def yX10_setCover : MethodName := ⟨RX10, "setCover", "(II)I"⟩
abbrev cX10_setInterlock : ByteArray := prog_1_method_6_code
def yX10_setInterlock : MethodName := ⟨RX10, "setInterlock", "(IIII)I"⟩
abbrev cX10_setRole : ByteArray := prog_1_method_8_code
def yX10_setRole : MethodName := ⟨RX10, "setRole", "(III)I"⟩
abbrev cX10_singer : ByteArray := prog_1_method_20_code
def yX10_singer : MethodName := ⟨RX10, "singer", "(I)I"⟩
abbrev cX10_states : ByteArray := prog_1_method_25_code
def yX10_states : MethodName := ⟨RX10, "states", "()I"⟩
abbrev cX10_stuck : ByteArray := prog_1_method_29_code
def yX10_stuck : MethodName := ⟨RX10, "stuck", "()I"⟩
abbrev cX10_sung : ByteArray := prog_1_method_32_code
def yX10_sung : MethodName := ⟨RX10, "sung", "(I)I"⟩
abbrev cX10_takeBack : ByteArray := prog_1_method_18_code
def yX10_takeBack : MethodName := ⟨RX10, "takeBack", "()I"⟩
abbrev cX10_voice : ByteArray := prog_1_method_22_code
def yX10_voice : MethodName := ⟨RX10, "voice", "(I)I"⟩
abbrev cX10_zone : ByteArray := prog_1_method_21_code
def yX10_zone : MethodName := ⟨RX10, "zone", "(I)I"⟩
abbrev cX18_addCue : ByteArray := prog_13_method_15_code
def yX18_addCue : MethodName := ⟨RX18, "addCue", "(ICIIII)I"⟩
abbrev cX18_balance : ByteArray := prog_13_method_46_code
def yX18_balance : MethodName := ⟨RX18, "balance", "(I)I"⟩
abbrev cX18_cues : ByteArray := prog_13_method_16_code
def yX18_cues : MethodName := ⟨RX18, "cues", "(I)I"⟩
abbrev cX18_day : ByteArray := prog_13_method_20_code
def yX18_day : MethodName := ⟨RX18, "day", "()I"⟩
abbrev cX18_end : ByteArray := prog_13_method_33_code
def yX18_end : MethodName := ⟨RX18, "end", "()I"⟩
abbrev cX18_evenings : ByteArray := prog_13_method_48_code
def yX18_evenings : MethodName := ⟨RX18, "evenings", "()I"⟩
abbrev cX18_fallIll : ByteArray := prog_13_method_9_code
def yX18_fallIll : MethodName := ⟨RX18, "fallIll", "(II)I"⟩
abbrev cX18_farthest : ByteArray := prog_13_method_43_code
def yX18_farthest : MethodName := ⟨RX18, "farthest", "()I"⟩
abbrev cX18_hasOrder : ByteArray := prog_13_method_41_code
def yX18_hasOrder : MethodName := ⟨RX18, "hasOrder", "()Z"⟩
abbrev cX18_in : ByteArray := prog_13_method_3_code
def yX18_in : MethodName := ⟨RX18, "in", "(JJJ)Z"⟩
abbrev cX18_isConsistent : ByteArray := prog_13_method_51_code
def yX18_isConsistent : MethodName := ⟨RX18, "isConsistent", "()Z"⟩
abbrev cX18_isMachine : ByteArray := prog_13_method_5_code
def yX18_isMachine : MethodName := ⟨RX18, "isMachine", "(I)Z"⟩
abbrev cX18_isOn : ByteArray := prog_13_method_27_code
def yX18_isOn : MethodName := ⟨RX18, "isOn", "(I)Z"⟩
abbrev cX18_isPerson : ByteArray := prog_13_method_4_code
def yX18_isPerson : MethodName := ⟨RX18, "isPerson", "(I)Z"⟩
abbrev cX18_isWork : ByteArray := prog_13_method_6_code
def yX18_isWork : MethodName := ⟨RX18, "isWork", "(I)Z"⟩
abbrev cX18_levels : ByteArray := prog_13_method_39_code
def yX18_levels : MethodName := ⟨RX18, "levels", "()LTheatrehouseModel$Levels;"⟩
abbrev cX18_meanMinutes : ByteArray := prog_13_method_50_code
def yX18_meanMinutes : MethodName := ⟨RX18, "meanMinutes", "()D"⟩
abbrev cX18_minutes : ByteArray := prog_13_method_38_code
def yX18_minutes : MethodName := ⟨RX18, "minutes", "()I"⟩
abbrev cX18_obstacle_ : ByteArray := prog_13_method_31_code
def yX18_obstacle_ : MethodName := ⟨RX18, "obstacle", "(I)C"⟩
abbrev cX18_orderAt : ByteArray := prog_13_method_42_code
def yX18_orderAt : MethodName := ⟨RX18, "orderAt", "(I)I"⟩
abbrev cX18_orders : ByteArray := prog_13_method_45_code
def yX18_orders : MethodName := ⟨RX18, "orders", "()J"⟩
abbrev cX18_perform : ByteArray := prog_13_method_30_code
def yX18_perform : MethodName := ⟨RX18, "perform", "(I)I"⟩
abbrev cX18_place : ByteArray := prog_13_method_37_code
def yX18_place : MethodName := ⟨RX18, "place", "(I)I"⟩
abbrev cX18_plan : ByteArray := prog_13_method_17_code
def yX18_plan : MethodName := ⟨RX18, "plan", "(II)I"⟩
abbrev cX18_setCover : ByteArray := prog_13_method_8_code
def yX18_setCover : MethodName := ⟨RX18, "setCover", "(II)I"⟩
abbrev cX18_setInterlock : ByteArray := prog_13_method_11_code
def yX18_setInterlock : MethodName := ⟨RX18, "setInterlock", "(IIII)I"⟩
abbrev cX18_setRole : ByteArray := prog_13_method_13_code
def yX18_setRole : MethodName := ⟨RX18, "setRole", "(III)I"⟩
abbrev cX18_singer : ByteArray := prog_13_method_34_code
def yX18_singer : MethodName := ⟨RX18, "singer", "(I)I"⟩
abbrev cX18_states : ByteArray := prog_13_method_40_code
def yX18_states : MethodName := ⟨RX18, "states", "()I"⟩
abbrev cX18_stuck : ByteArray := prog_13_method_44_code
def yX18_stuck : MethodName := ⟨RX18, "stuck", "()I"⟩
abbrev cX18_sung : ByteArray := prog_13_method_47_code
def yX18_sung : MethodName := ⟨RX18, "sung", "(I)I"⟩
abbrev cX18_takeBack : ByteArray := prog_13_method_32_code
def yX18_takeBack : MethodName := ⟨RX18, "takeBack", "()I"⟩
abbrev cX18_voice : ByteArray := prog_13_method_36_code
def yX18_voice : MethodName := ⟨RX18, "voice", "(I)I"⟩
abbrev cX18_zone : ByteArray := prog_13_method_35_code
def yX18_zone : MethodName := ⟨RX18, "zone", "(I)I"⟩
