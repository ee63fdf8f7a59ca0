def F_Mixture : u_T := fun k => match k with
  | 0 => ("HazardTables$Mixture", "numbers", "[I", true)
  | 1 => ("HazardTables$Mixture", "rows", "[I", true)
  | 2 => ("HazardTables$Mixture", "large", "[Z", true)
  | 3 => ("HazardTables$Mixture", "size", "I", false)
  | _ => ("HazardTables$Mixture", "nextStep", "I", false)
def t_Mixture : Nat → FieldType := fun k => match k with
  | 0 => .array .int
  | 1 => .array .int
  | 2 => .array .boolean
  | 3 => .int
  | _ => .int
theorem n_Mixture : ∀ a, a < 5 → ∀ b, b < 5 → a ≠ b → (F_Mixture a).2.1 ≠ (F_Mixture b).2.1 := by decide +kernel
theorem t_Mixture_ok : ∀ k, k < 5 → parseFieldDescriptor (F_Mixture k).2.2.1 = some (t_Mixture k) := by decide +kernel
theorem hinA_Mixture : ∀ w ∈ u_ws "HazardTables$Mixture" F_Mixture 5, w ∈ WA := List.forall_mem_cons.mpr ⟨wd_127, List.forall_mem_cons.mpr ⟨wd_129, List.forall_mem_cons.mpr ⟨wd_131, List.forall_mem_cons.mpr ⟨wd_133, List.forall_mem_cons.mpr ⟨wd_135, fun _ h => absurd h List.not_mem_nil⟩⟩⟩⟩⟩
def F_Reader : u_T := fun k => match k with
  | 0 => ("HazardTables$Reader", "tape", "[I", true)
  | 1 => ("HazardTables$Reader", "length", "I", false)
  | 2 => ("HazardTables$Reader", "at", "I", false)
  | 3 => ("HazardTables$Reader", "value", "I", false)
  | _ => ("HazardTables$Reader", "wrongAt", "I", false)
def t_Reader : Nat → FieldType := fun k => match k with
  | 0 => .array .int
  | 1 => .int
  | 2 => .int
  | 3 => .int
  | _ => .int
theorem n_Reader : ∀ a, a < 5 → ∀ b, b < 5 → a ≠ b → (F_Reader a).2.1 ≠ (F_Reader b).2.1 := by decide +kernel
theorem t_Reader_ok : ∀ k, k < 5 → parseFieldDescriptor (F_Reader k).2.2.1 = some (t_Reader k) := by decide +kernel
theorem hinA_Reader : ∀ w ∈ u_ws "HazardTables$Reader" F_Reader 5, w ∈ WA := List.forall_mem_cons.mpr ⟨wd_77, List.forall_mem_cons.mpr ⟨wd_79, List.forall_mem_cons.mpr ⟨wd_81, List.forall_mem_cons.mpr ⟨wd_83, List.forall_mem_cons.mpr ⟨wd_85, fun _ h => absurd h List.not_mem_nil⟩⟩⟩⟩⟩
def F_Speller : u_T := fun k => match k with
  | 0 => ("HazardTables$Speller", "word", "[I", true)
  | 1 => ("HazardTables$Speller", "edits", "[I", true)
  | 2 => ("HazardTables$Speller", "numbers", "[I", true)
  | 3 => ("HazardTables$Speller", "distances", "[I", true)
  | 4 => ("HazardTables$Speller", "letters", "I", false)
  | _ => ("HazardTables$Speller", "count", "I", false)
def t_Speller : Nat → FieldType := fun k => match k with
  | 0 => .array .int
  | 1 => .array .int
  | 2 => .array .int
  | 3 => .array .int
  | 4 => .int
  | _ => .int
theorem n_Speller : ∀ a, a < 6 → ∀ b, b < 6 → a ≠ b → (F_Speller a).2.1 ≠ (F_Speller b).2.1 := by decide +kernel
theorem t_Speller_ok : ∀ k, k < 6 → parseFieldDescriptor (F_Speller k).2.2.1 = some (t_Speller k) := by decide +kernel
theorem hinA_Speller : ∀ w ∈ u_ws "HazardTables$Speller" F_Speller 6, w ∈ WA := List.forall_mem_cons.mpr ⟨wd_101, List.forall_mem_cons.mpr ⟨wd_103, List.forall_mem_cons.mpr ⟨wd_105, List.forall_mem_cons.mpr ⟨wd_107, List.forall_mem_cons.mpr ⟨wd_109, List.forall_mem_cons.mpr ⟨wd_111, fun _ h => absurd h List.not_mem_nil⟩⟩⟩⟩⟩⟩
def F_Surroundings : u_T := fun k => match k with
  | 0 => ("HazardTables$Surroundings", "buildingX", "[I", true)
  | 1 => ("HazardTables$Surroundings", "buildingY", "[I", true)
  | 2 => ("HazardTables$Surroundings", "fresh", "[I", true)
  | 3 => ("HazardTables$Surroundings", "buildings", "I", false)
  | 4 => ("HazardTables$Surroundings", "freshOnes", "I", false)
  | 5 => ("HazardTables$Surroundings", "windX", "I", false)
  | 6 => ("HazardTables$Surroundings", "windY", "I", false)
  | _ => ("HazardTables$Surroundings", "day", "Z", false)
def t_Surroundings : Nat → FieldType := fun k => match k with
  | 0 => .array .int
  | 1 => .array .int
  | 2 => .array .int
  | 3 => .int
  | 4 => .int
  | 5 => .int
  | 6 => .int
  | _ => .boolean
theorem n_Surroundings : ∀ a, a < 8 → ∀ b, b < 8 → a ≠ b → (F_Surroundings a).2.1 ≠ (F_Surroundings b).2.1 := by decide +kernel
theorem t_Surroundings_ok : ∀ k, k < 8 → parseFieldDescriptor (F_Surroundings k).2.2.1 = some (t_Surroundings k) := by decide +kernel
theorem hinA_Surroundings : ∀ w ∈ u_ws "HazardTables$Surroundings" F_Surroundings 8, w ∈ WA := List.forall_mem_cons.mpr ⟨wd_155, List.forall_mem_cons.mpr ⟨wd_157, List.forall_mem_cons.mpr ⟨wd_159, List.forall_mem_cons.mpr ⟨wd_161, List.forall_mem_cons.mpr ⟨wd_163, List.forall_mem_cons.mpr ⟨wd_165, List.forall_mem_cons.mpr ⟨wd_167, List.forall_mem_cons.mpr ⟨wd_169, fun _ h => absurd h List.not_mem_nil⟩⟩⟩⟩⟩⟩⟩⟩
def F_Table : u_T := fun k => match k with
  | 0 => ("HazardTables$Table", "numbers", "[I", true)
  | 1 => ("HazardTables$Table", "cells", "[I", true)
  | 2 => ("HazardTables$Table", "nameLengths", "[I", true)
  | 3 => ("HazardTables$Table", "nameLetters", "[B", true)
  | 4 => ("HazardTables$Table", "materials", "I", false)
  | _ => ("HazardTables$Table", "hasGeneralRow", "Z", false)
def t_Table : Nat → FieldType := fun k => match k with
  | 0 => .array .int
  | 1 => .array .int
  | 2 => .array .int
  | 3 => .array .byte
  | 4 => .int
  | _ => .boolean
theorem n_Table : ∀ a, a < 6 → ∀ b, b < 6 → a ≠ b → (F_Table a).2.1 ≠ (F_Table b).2.1 := by decide +kernel
theorem t_Table_ok : ∀ k, k < 6 → parseFieldDescriptor (F_Table k).2.2.1 = some (t_Table k) := by decide +kernel
theorem hinA_Table : ∀ w ∈ u_ws "HazardTables$Table" F_Table 6, w ∈ WA := List.forall_mem_cons.mpr ⟨wd_189, List.forall_mem_cons.mpr ⟨wd_191, List.forall_mem_cons.mpr ⟨wd_193, List.forall_mem_cons.mpr ⟨wd_195, List.forall_mem_cons.mpr ⟨wd_197, List.forall_mem_cons.mpr ⟨wd_199, fun _ h => absurd h List.not_mem_nil⟩⟩⟩⟩⟩⟩
def F_HT : u_T := fun k => match k with
  | 0 => ("HazardTables", "reader", "LHazardTables$Reader;", true)
  | 1 => ("HazardTables", "speller", "LHazardTables$Speller;", true)
  | 2 => ("HazardTables", "parts", "LHazardTables$Mixture;", true)
  | 3 => ("HazardTables", "around", "LHazardTables$Surroundings;", true)
  | 4 => ("HazardTables", "marks", "[I", true)
  | 5 => ("HazardTables", "table", "LHazardTables$Table;", false)
  | _ => ("HazardTables", "spare", "LHazardTables$Table;", false)
def t_HT : Nat → FieldType := fun k => match k with
  | 0 => .object "HazardTables$Reader"
  | 1 => .object "HazardTables$Speller"
  | 2 => .object "HazardTables$Mixture"
  | 3 => .object "HazardTables$Surroundings"
  | 4 => .array .int
  | 5 => .object "HazardTables$Table"
  | _ => .object "HazardTables$Table"
theorem n_HT : ∀ a, a < 7 → ∀ b, b < 7 → a ≠ b → (F_HT a).2.1 ≠ (F_HT b).2.1 := by decide +kernel
theorem t_HT_ok : ∀ k, k < 7 → parseFieldDescriptor (F_HT k).2.2.1 = some (t_HT k) := by decide +kernel
theorem hinA_HT : ∀ w ∈ u_ws "HazardTables" F_HT 7, w ∈ WA := List.forall_mem_cons.mpr ⟨wd_210, List.forall_mem_cons.mpr ⟨wd_212, List.forall_mem_cons.mpr ⟨wd_214, List.forall_mem_cons.mpr ⟨wd_216, List.forall_mem_cons.mpr ⟨wd_218, List.forall_mem_cons.mpr ⟨wd_220, List.forall_mem_cons.mpr ⟨wd_222, fun _ h => absurd h List.not_mem_nil⟩⟩⟩⟩⟩⟩⟩
def F_Model : u_T := fun k => match k with
  | 0 => ("HazardTablesModel", "thrown", "I", false)
  | 1 => ("HazardTablesModel", "taped", "I", false)
  | 2 => ("HazardTablesModel", "tape", "[I", true)
  | 3 => ("HazardTablesModel", "place", "I", false)
  | 4 => ("HazardTablesModel", "materials", "I", false)
  | 5 => ("HazardTablesModel", "general", "Z", false)
  | 6 => ("HazardTablesModel", "row", "[I", true)
  | 7 => ("HazardTablesModel", "newMaterials", "I", false)
  | 8 => ("HazardTablesModel", "newGeneral", "Z", false)
  | 9 => ("HazardTablesModel", "fresh", "[I", true)
  | 10 => ("HazardTablesModel", "at", "I", false)
  | 11 => ("HazardTablesModel", "wrong", "I", false)
  | 12 => ("HazardTablesModel", "parts", "I", false)
  | 13 => ("HazardTablesModel", "part", "[I", true)
  | 14 => ("HazardTablesModel", "amount", "[I", true)
  | 15 => ("HazardTablesModel", "index", "[I", true)
  | 16 => ("HazardTablesModel", "windX", "I", false)
  | 17 => ("HazardTablesModel", "windY", "I", false)
  | 18 => ("HazardTablesModel", "day", "Z", false)
  | 19 => ("HazardTablesModel", "buildings", "I", false)
  | 20 => ("HazardTablesModel", "buildingX", "[I", true)
  | 21 => ("HazardTablesModel", "buildingY", "[I", true)
  | 22 => ("HazardTablesModel", "was", "[Z", true)
  | 23 => ("HazardTablesModel", "freshOnes", "I", false)
  | 24 => ("HazardTablesModel", "freshOne", "[I", true)
  | 25 => ("HazardTablesModel", "next", "I", false)
  | 26 => ("HazardTablesModel", "marks", "[I", true)
  | 27 => ("HazardTablesModel", "said", "I", false)
  | 28 => ("HazardTablesModel", "word", "[I", true)
  | _ => ("HazardTablesModel", "table", "[I", true)
def t_Model : Nat → FieldType := fun k => match k with
  | 0 => .int
  | 1 => .int
  | 2 => .array .int
  | 3 => .int
  | 4 => .int
  | 5 => .boolean
  | 6 => .array .int
  | 7 => .int
  | 8 => .boolean
  | 9 => .array .int
  | 10 => .int
  | 11 => .int
  | 12 => .int
  | 13 => .array .int
  | 14 => .array .int
  | 15 => .array .int
  | 16 => .int
  | 17 => .int
  | 18 => .boolean
  | 19 => .int
  | 20 => .array .int
  | 21 => .array .int
  | 22 => .array .boolean
  | 23 => .int
  | 24 => .array .int
  | 25 => .int
  | 26 => .array .int
  | 27 => .int
  | 28 => .array .int
  | _ => .array .int
theorem n_Model : ∀ a, a < 30 → ∀ b, b < 30 → a ≠ b → (F_Model a).2.1 ≠ (F_Model b).2.1 := by decide +kernel
theorem t_Model_ok : ∀ k, k < 30 → parseFieldDescriptor (F_Model k).2.2.1 = some (t_Model k) := by decide +kernel
theorem hinA_Model : ∀ w ∈ u_ws "HazardTablesModel" F_Model 30, w ∈ WA := List.forall_mem_cons.mpr ⟨wd_773, List.forall_mem_cons.mpr ⟨wd_775, List.forall_mem_cons.mpr ⟨wd_777, List.forall_mem_cons.mpr ⟨wd_779, List.forall_mem_cons.mpr ⟨wd_781, List.forall_mem_cons.mpr ⟨wd_783, List.forall_mem_cons.mpr ⟨wd_785, List.forall_mem_cons.mpr ⟨wd_787, List.forall_mem_cons.mpr ⟨wd_789, List.forall_mem_cons.mpr ⟨wd_791, List.forall_mem_cons.mpr ⟨wd_793, List.forall_mem_cons.mpr ⟨wd_795, List.forall_mem_cons.mpr ⟨wd_797, List.forall_mem_cons.mpr ⟨wd_799, List.forall_mem_cons.mpr ⟨wd_801, List.forall_mem_cons.mpr ⟨wd_803, List.forall_mem_cons.mpr ⟨wd_805, List.forall_mem_cons.mpr ⟨wd_807, List.forall_mem_cons.mpr ⟨wd_809, List.forall_mem_cons.mpr ⟨wd_811, List.forall_mem_cons.mpr ⟨wd_813, List.forall_mem_cons.mpr ⟨wd_815, List.forall_mem_cons.mpr ⟨wd_817, List.forall_mem_cons.mpr ⟨wd_819, List.forall_mem_cons.mpr ⟨wd_821, List.forall_mem_cons.mpr ⟨wd_823, List.forall_mem_cons.mpr ⟨wd_825, List.forall_mem_cons.mpr ⟨wd_827, List.forall_mem_cons.mpr ⟨wd_829, List.forall_mem_cons.mpr ⟨wd_831, fun _ h => absurd h List.not_mem_nil⟩⟩⟩⟩⟩⟩⟩⟩⟩⟩⟩⟩⟩⟩⟩⟩⟩⟩⟩⟩⟩⟩⟩⟩⟩⟩⟩⟩⟩⟩
abbrev vwCl : List vw_C := [("HazardTables$Mixture", F_Mixture, 5), ("HazardTables$Reader", F_Reader, 5), ("HazardTables$Speller", F_Speller, 6), ("HazardTables$Surroundings", F_Surroundings, 8), ("HazardTables$Table", F_Table, 6), ("HazardTables", F_HT, 7), ("HazardTablesModel", F_Model, 30)]
def nwAll (U : State) : Prop := va_Nw (Jvm.Cond.methodLinkNest "HazardTables$Reader" (22 : Nat) ({ cls := "HazardTables", name := "byteOf", desc := "(JI)I" } : Jvm.MethodName) "HazardTables") U ∧ va_Nw (Jvm.Cond.methodLinkNest "HazardTables$Reader" (119 : Nat) ({ cls := "HazardTables", name := "isDigit", desc := "(I)Z" } : Jvm.MethodName) "HazardTables") U ∧ va_Nw (Jvm.Cond.methodLinkNest "HazardTables$Reader" (101 : Nat) ({ cls := "HazardTables", name := "isLetter", desc := "(I)Z" } : Jvm.MethodName) "HazardTables") U ∧ va_Nw (Jvm.Cond.methodLinkNest "HazardTables$Speller" (33 : Nat) ({ cls := "HazardTables", name := "byteOf", desc := "(JI)I" } : Jvm.MethodName) "HazardTables") U
theorem nwAll_warm {s U : State} (hW : s.WarmedH U.vm) (h : nwAll s) : nwAll U := ⟨va_Nw.warmM hW h.1, va_Nw.warmM hW h.2.1, va_Nw.warmM hW h.2.2.1, va_Nw.warmM hW h.2.2.2⟩
theorem nwAll_same {u U : State} (hv : u.vm = U.vm) (h : nwAll u) : nwAll U := ⟨va_Nw.same rfl hv h.1, va_Nw.same rfl hv h.2.1, va_Nw.same rfl hv h.2.2.1, va_Nw.same rfl hv h.2.2.2⟩
