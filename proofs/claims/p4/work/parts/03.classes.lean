def F_Mixture : u_T := fun k => match k with
  | 0 => ("HazardTables$Mixture", "numbers", "[I", true)
  | 1 => ("HazardTables$Mixture", "rows", "[I", true)
  | 2 => ("HazardTables$Mixture", "large", "[Z", true)
  | 3 => ("HazardTables$Mixture", "size", "I", false)
  | _ => ("HazardTables$Mixture", "nextStep", "I", false)
def t_Mixture : Nat → FieldType := fun k => match k with
  | 0 => .array .int
  | 1 => .array .int
  | 2 => .array .boolean
  | 3 => .int
  | _ => .int
theorem n_Mixture : ∀ a, a < 5 → ∀ b, b < 5 → a ≠ b → (F_Mixture a).2.1 ≠ (F_Mixture b).2.1 := by decide +kernel
theorem t_Mixture_ok : ∀ k, k < 5 → parseFieldDescriptor (F_Mixture k).2.2.1 = some (t_Mixture k) := by decide +kernel
theorem hinA_Mixture : ∀ w ∈ u_ws "HazardTables$Mixture" F_Mixture 5, w ∈ WA := List.forall_mem_cons.mpr ⟨wd_128, List.forall_mem_cons.mpr ⟨wd_130, List.forall_mem_cons.mpr ⟨wd_132, List.forall_mem_cons.mpr ⟨wd_134, List.forall_mem_cons.mpr ⟨wd_136, fun _ h => absurd h List.not_mem_nil⟩⟩⟩⟩⟩
def F_Reader : u_T := fun k => match k with
  | 0 => ("HazardTables$Reader", "tape", "[I", true)
  | 1 => ("HazardTables$Reader", "length", "I", false)
  | 2 => ("HazardTables$Reader", "at", "I", false)
  | 3 => ("HazardTables$Reader", "value", "I", false)
  | _ => ("HazardTables$Reader", "wrongAt", "I", false)
def t_Reader : Nat → FieldType := fun k => match k with
  | 0 => .array .int
  | 1 => .int
  | 2 => .int
  | 3 => .int
  | _ => .int
theorem n_Reader : ∀ a, a < 5 → ∀ b, b < 5 → a ≠ b → (F_Reader a).2.1 ≠ (F_Reader b).2.1 := by decide +kernel
theorem t_Reader_ok : ∀ k, k < 5 → parseFieldDescriptor (F_Reader k).2.2.1 = some (t_Reader k) := by decide +kernel
theorem hinA_Reader : ∀ w ∈ u_ws "HazardTables$Reader" F_Reader 5, w ∈ WA := List.forall_mem_cons.mpr ⟨wd_78, List.forall_mem_cons.mpr ⟨wd_80, List.forall_mem_cons.mpr ⟨wd_82, List.forall_mem_cons.mpr ⟨wd_84, List.forall_mem_cons.mpr ⟨wd_86, fun _ h => absurd h List.not_mem_nil⟩⟩⟩⟩⟩
def F_Speller : u_T := fun k => match k with
  | 0 => ("HazardTables$Speller", "word", "[I", true)
  | 1 => ("HazardTables$Speller", "edits", "[I", true)
  | 2 => ("HazardTables$Speller", "numbers", "[I", true)
  | 3 => ("HazardTables$Speller", "distances", "[I", true)
  | 4 => ("HazardTables$Speller", "letters", "I", false)
  | _ => ("HazardTables$Speller", "count", "I", false)
def t_Speller : Nat → FieldType := fun k => match k with
  | 0 => .array .int
  | 1 => .array .int
  | 2 => .array .int
  | 3 => .array .int
  | 4 => .int
  | _ => .int
theorem n_Speller : ∀ a, a < 6 → ∀ b, b < 6 → a ≠ b → (F_Speller a).2.1 ≠ (F_Speller b).2.1 := by decide +kernel
theorem t_Speller_ok : ∀ k, k < 6 → parseFieldDescriptor (F_Speller k).2.2.1 = some (t_Speller k) := by decide +kernel
theorem hinA_Speller : ∀ w ∈ u_ws "HazardTables$Speller" F_Speller 6, w ∈ WA := List.forall_mem_cons.mpr ⟨wd_102, List.forall_mem_cons.mpr ⟨wd_104, List.forall_mem_cons.mpr ⟨wd_106, List.forall_mem_cons.mpr ⟨wd_108, List.forall_mem_cons.mpr ⟨wd_110, List.forall_mem_cons.mpr ⟨wd_112, fun _ h => absurd h List.not_mem_nil⟩⟩⟩⟩⟩⟩
def F_Surroundings : u_T := fun k => match k with
  | 0 => ("HazardTables$Surroundings", "buildingX", "[I", true)
  | 1 => ("HazardTables$Surroundings", "buildingY", "[I", true)
  | 2 => ("HazardTables$Surroundings", "fresh", "[I", true)
  | 3 => ("HazardTables$Surroundings", "buildings", "I", false)
  | 4 => ("HazardTables$Surroundings", "freshOnes", "I", false)
  | 5 => ("HazardTables$Surroundings", "windX", "I", false)
  | 6 => ("HazardTables$Surroundings", "windY", "I", false)
  | _ => ("HazardTables$Surroundings", "day", "Z", false)
def t_Surroundings : Nat → FieldType := fun k => match k with
  | 0 => .array .int
  | 1 => .array .int
  | 2 => .array .int
  | 3 => .int
  | 4 => .int
  | 5 => .int
  | 6 => .int
  | _ => .boolean
theorem n_Surroundings : ∀ a, a < 8 → ∀ b, b < 8 → a ≠ b → (F_Surroundings a).2.1 ≠ (F_Surroundings b).2.1 := by decide +kernel
theorem t_Surroundings_ok : ∀ k, k < 8 → parseFieldDescriptor (F_Surroundings k).2.2.1 = some (t_Surroundings k) := by decide +kernel
theorem hinA_Surroundings : ∀ w ∈ u_ws "HazardTables$Surroundings" F_Surroundings 8, w ∈ WA := List.forall_mem_cons.mpr ⟨wd_156, List.forall_mem_cons.mpr ⟨wd_158, List.forall_mem_cons.mpr ⟨wd_160, List.forall_mem_cons.mpr ⟨wd_162, List.forall_mem_cons.mpr ⟨wd_164, List.forall_mem_cons.mpr ⟨wd_166, List.forall_mem_cons.mpr ⟨wd_168, List.forall_mem_cons.mpr ⟨wd_170, fun _ h => absurd h List.not_mem_nil⟩⟩⟩⟩⟩⟩⟩⟩
def F_Table : u_T := fun k => match k with
  | 0 => ("HazardTables$Table", "numbers", "[I", true)
  | 1 => ("HazardTables$Table", "cells", "[I", true)
  | 2 => ("HazardTables$Table", "nameLengths", "[I", true)
  | 3 => ("HazardTables$Table", "nameLetters", "[B", true)
  | 4 => ("HazardTables$Table", "materials", "I", false)
  | _ => ("HazardTables$Table", "hasGeneralRow", "Z", false)
def t_Table : Nat → FieldType := fun k => match k with
  | 0 => .array .int
  | 1 => .array .int
  | 2 => .array .int
  | 3 => .array .byte
  | 4 => .int
  | _ => .boolean
theorem n_Table : ∀ a, a < 6 → ∀ b, b < 6 → a ≠ b → (F_Table a).2.1 ≠ (F_Table b).2.1 := by decide +kernel
theorem t_Table_ok : ∀ k, k < 6 → parseFieldDescriptor (F_Table k).2.2.1 = some (t_Table k) := by decide +kernel
theorem hinA_Table : ∀ w ∈ u_ws "HazardTables$Table" F_Table 6, w ∈ WA := List.forall_mem_cons.mpr ⟨wd_190, List.forall_mem_cons.mpr ⟨wd_192, List.forall_mem_cons.mpr ⟨wd_194, List.forall_mem_cons.mpr ⟨wd_196, List.forall_mem_cons.mpr ⟨wd_198, List.forall_mem_cons.mpr ⟨wd_200, fun _ h => absurd h List.not_mem_nil⟩⟩⟩⟩⟩⟩
def F_HT : u_T := fun k => match k with
  | 0 => ("HazardTables", "reader", "LHazardTables$Reader;", true)
  | 1 => ("HazardTables", "speller", "LHazardTables$Speller;", true)
  | 2 => ("HazardTables", "parts", "LHazardTables$Mixture;", true)
  | 3 => ("HazardTables", "around", "LHazardTables$Surroundings;", true)
  | 4 => ("HazardTables", "marks", "[I", true)
  | 5 => ("HazardTables", "table", "LHazardTables$Table;", false)
  | _ => ("HazardTables", "spare", "LHazardTables$Table;", false)
def t_HT : Nat → FieldType := fun k => match k with
  | 0 => .object "HazardTables$Reader"
  | 1 => .object "HazardTables$Speller"
  | 2 => .object "HazardTables$Mixture"
  | 3 => .object "HazardTables$Surroundings"
  | 4 => .array .int
  | 5 => .object "HazardTables$Table"
  | _ => .object "HazardTables$Table"
theorem n_HT : ∀ a, a < 7 → ∀ b, b < 7 → a ≠ b → (F_HT a).2.1 ≠ (F_HT b).2.1 := by decide +kernel
theorem t_HT_ok : ∀ k, k < 7 → parseFieldDescriptor (F_HT k).2.2.1 = some (t_HT k) := by decide +kernel
theorem hinA_HT : ∀ w ∈ u_ws "HazardTables" F_HT 7, w ∈ WA := List.forall_mem_cons.mpr ⟨wd_211, List.forall_mem_cons.mpr ⟨wd_213, List.forall_mem_cons.mpr ⟨wd_215, List.forall_mem_cons.mpr ⟨wd_217, List.forall_mem_cons.mpr ⟨wd_219, List.forall_mem_cons.mpr ⟨wd_221, List.forall_mem_cons.mpr ⟨wd_223, fun _ h => absurd h List.not_mem_nil⟩⟩⟩⟩⟩⟩⟩
def F_Model : u_T := fun k => match k with
  | 0 => ("HazardTablesModel", "thrown", "I", false)
  | 1 => ("HazardTablesModel", "taped", "I", false)
  | 2 => ("HazardTablesModel", "tape", "[I", true)
  | 3 => ("HazardTablesModel", "place", "I", false)
  | 4 => ("HazardTablesModel", "materials", "I", false)
  | 5 => ("HazardTablesModel", "general", "Z", false)
  | 6 => ("HazardTablesModel", "row", "[I", true)
  | 7 => ("HazardTablesModel", "newMaterials", "I", false)
  | 8 => ("HazardTablesModel", "newGeneral", "Z", false)
  | 9 => ("HazardTablesModel", "fresh", "[I", true)
  | 10 => ("HazardTablesModel", "at", "I", false)
  | 11 => ("HazardTablesModel", "wrong", "I", false)
  | 12 => ("HazardTablesModel", "parts", "I", false)
  | 13 => ("HazardTablesModel", "part", "[I", true)
  | 14 => ("HazardTablesModel", "amount", "[I", true)
  | 15 => ("HazardTablesModel", "index", "[I", true)
  | 16 => ("HazardTablesModel", "windX", "I", false)
  | 17 => ("HazardTablesModel", "windY", "I", false)
  | 18 => ("HazardTablesModel", "day", "Z", false)
  | 19 => ("HazardTablesModel", "buildings", "I", false)
  | 20 => ("HazardTablesModel", "buildingX", "[I", true)
  | 21 => ("HazardTablesModel", "buildingY", "[I", true)
  | 22 => ("HazardTablesModel", "was", "[Z", true)
  | 23 => ("HazardTablesModel", "freshOnes", "I", false)
  | 24 => ("HazardTablesModel", "freshOne", "[I", true)
  | 25 => ("HazardTablesModel", "next", "I", false)
  | 26 => ("HazardTablesModel", "marks", "[I", true)
  | 27 => ("HazardTablesModel", "said", "I", false)
  | 28 => ("HazardTablesModel", "word", "[I", true)
  | _ => ("HazardTablesModel", "table", "[I", true)
def t_Model : Nat → FieldType := fun k => match k with
  | 0 => .int
  | 1 => .int
  | 2 => .array .int
  | 3 => .int
  | 4 => .int
  | 5 => .boolean
  | 6 => .array .int
  | 7 => .int
  | 8 => .boolean
  | 9 => .array .int
  | 10 => .int
  | 11 => .int
  | 12 => .int
  | 13 => .array .int
  | 14 => .array .int
  | 15 => .array .int
  | 16 => .int
  | 17 => .int
  | 18 => .boolean
  | 19 => .int
  | 20 => .array .int
  | 21 => .array .int
  | 22 => .array .boolean
  | 23 => .int
  | 24 => .array .int
  | 25 => .int
  | 26 => .array .int
  | 27 => .int
  | 28 => .array .int
  | _ => .array .int
theorem n_Model : ∀ a, a < 30 → ∀ b, b < 30 → a ≠ b → (F_Model a).2.1 ≠ (F_Model b).2.1 := by decide +kernel
theorem t_Model_ok : ∀ k, k < 30 → parseFieldDescriptor (F_Model k).2.2.1 = some (t_Model k) := by decide +kernel
theorem hinA_Model : ∀ w ∈ u_ws "HazardTablesModel" F_Model 30, w ∈ WA := List.forall_mem_cons.mpr ⟨wd_778, List.forall_mem_cons.mpr ⟨wd_780, List.forall_mem_cons.mpr ⟨wd_782, List.forall_mem_cons.mpr ⟨wd_784, List.forall_mem_cons.mpr ⟨wd_786, List.forall_mem_cons.mpr ⟨wd_788, List.forall_mem_cons.mpr ⟨wd_790, List.forall_mem_cons.mpr ⟨wd_792, List.forall_mem_cons.mpr ⟨wd_794, List.forall_mem_cons.mpr ⟨wd_796, List.forall_mem_cons.mpr ⟨wd_798, List.forall_mem_cons.mpr ⟨wd_800, List.forall_mem_cons.mpr ⟨wd_802, List.forall_mem_cons.mpr ⟨wd_804, List.forall_mem_cons.mpr ⟨wd_806, List.forall_mem_cons.mpr ⟨wd_808, List.forall_mem_cons.mpr ⟨wd_810, List.forall_mem_cons.mpr ⟨wd_812, List.forall_mem_cons.mpr ⟨wd_814, List.forall_mem_cons.mpr ⟨wd_816, List.forall_mem_cons.mpr ⟨wd_818, List.forall_mem_cons.mpr ⟨wd_820, List.forall_mem_cons.mpr ⟨wd_822, List.forall_mem_cons.mpr ⟨wd_824, List.forall_mem_cons.mpr ⟨wd_826, List.forall_mem_cons.mpr ⟨wd_828, List.forall_mem_cons.mpr ⟨wd_830, List.forall_mem_cons.mpr ⟨wd_832, List.forall_mem_cons.mpr ⟨wd_834, List.forall_mem_cons.mpr ⟨wd_836, fun _ h => absurd h List.not_mem_nil⟩⟩⟩⟩⟩⟩⟩⟩⟩⟩⟩⟩⟩⟩⟩⟩⟩⟩⟩⟩⟩⟩⟩⟩⟩⟩⟩⟩⟩⟩
abbrev vwCl : List vw_C := [("HazardTables$Mixture", F_Mixture, 5), ("HazardTables$Reader", F_Reader, 5), ("HazardTables$Speller", F_Speller, 6), ("HazardTables$Surroundings", F_Surroundings, 8), ("HazardTables$Table", F_Table, 6), ("HazardTables", F_HT, 7), ("HazardTablesModel", F_Model, 30)]
def nwAll (U : State) : Prop := va_Nw (Jvm.Cond.methodLinkNest "HazardTables$Reader" (22 : Nat) ({ cls := "HazardTables", name := "byteOf", desc := "(JI)I" } : Jvm.MethodName) "HazardTables") U ∧ va_Nw (Jvm.Cond.methodLinkNest "HazardTables$Reader" (119 : Nat) ({ cls := "HazardTables", name := "isDigit", desc := "(I)Z" } : Jvm.MethodName) "HazardTables") U ∧ va_Nw (Jvm.Cond.methodLinkNest "HazardTables$Reader" (101 : Nat) ({ cls := "HazardTables", name := "isLetter", desc := "(I)Z" } : Jvm.MethodName) "HazardTables") U ∧ va_Nw (Jvm.Cond.methodLinkNest "HazardTables$Speller" (33 : Nat) ({ cls := "HazardTables", name := "byteOf", desc := "(JI)I" } : Jvm.MethodName) "HazardTables") U
theorem nwAll_warm {s U : State} (hW : s.WarmedH U.vm) (h : nwAll s) : nwAll U := ⟨va_Nw.warmM hW h.1, va_Nw.warmM hW h.2.1, va_Nw.warmM hW h.2.2.1, va_Nw.warmM hW h.2.2.2⟩
theorem nwAll_same {u U : State} (hv : u.vm = U.vm) (h : nwAll u) : nwAll U := ⟨va_Nw.same rfl hv h.1, va_Nw.same rfl hv h.2.1, va_Nw.same rfl hv h.2.2.1, va_Nw.same rfl hv h.2.2.2⟩
