def xn (k : Nat) : String := match k with
  | 0 => "java/lang/IllegalArgumentException"
  | 1 => "java/lang/IndexOutOfBoundsException"
  | 2 => "java/lang/IllegalStateException"
  | _ => "java/lang/UnsupportedOperationException"
def xch : List String := ["java/lang/RuntimeException", "java/lang/Exception"]
def strL : List (Nat × String) := [(53, "n is not 1 .. 8"), (64, "a text has at most 400 bytes"), (77, "the text is wrong"), (103, "no such material"), (106, "no such what"), (116, "no word of 1 .. 8 letters a .. z"), (118, "the table has no materials"), (131, "i is below 0"), (133, "not in the table, and there is no general row"), (140, "the number or the amount is out of range"), (146, "a mixture has at most 8 parts"), (154, "the mixture is empty"), (178, "the point is out of range"), (181, "there are at most 40 buildings"), (185, "the wind is out of range"), (187, "a wind blows some way"), (210, "a step is 1 .. 6"), (215, "not the next step, or the mixture is empty"), (220, "no such kind"), (222, "a mark is not below 0")]
def xB : List Cond := [.declares ⟨"java/lang/RuntimeException", "<init>", "(Ljava/lang/String;)V"⟩, .declares ⟨"java/lang/Exception", "<init>", "(Ljava/lang/String;)V"⟩, .declares ⟨"java/lang/Throwable", "<init>", "(Ljava/lang/String;)V"⟩, .castable "java/lang/IllegalArgumentException" "java/lang/IllegalArgumentException", .castable "java/lang/IndexOutOfBoundsException" "java/lang/IndexOutOfBoundsException", .castable "java/lang/IllegalStateException" "java/lang/IllegalStateException", .castable "java/lang/UnsupportedOperationException" "java/lang/UnsupportedOperationException"]
theorem xB_tab : ∀ w ∈ xB, w.onTables = true := by decide
def xAll (A : Nat → Prop) (U : State) : Prop := vx_Zq Bundle.tN "UNASSIGNED_STACK" Bundle.steD A U U.heap ∧ vx_Zq Bundle.tN "SUPPRESSED_SENTINEL" Bundle.listD A U U.heap ∧ (∀ p ∈ strL, ∃ sa, vk_R "HazardTables" p.1 p.2 sa U) ∧ (∀ w ∈ xB, va_Nw w U)
abbrev xPc (D : va_G) (wc : va_W) (tysC : List (ClassId × FieldType)) (sz : Nat) (av : List Value) : Array Value → State → Prop := va_Pc av (fun U => U.heap.size = sz ∧ va_P D vwCl wc U.heap ∧ va_K D vwCl tysC U ∧ va_D (fun _ => True) wc ∧ nwAll U ∧ xAll (va_A wc sz) U)
theorem cl_thrown {D : va_G} {ws : va_W} {A : Nat → Prop} {s t : State} {H : Heap} {locs : List Loc} (hP : va_P D vwCl ws H) (hS : va_S A s.heap H locs) (hz : H.size ≤ t.heap.size) (hk : ∀ q : Nat, q < H.size → t.heap[q]? = H[q]?) : va_P D vwCl ws t.heap ∧ va_F A s t :=
  ⟨hP.kept (fun k q hq => hk q.1 (va_at.lt (hP k q hq))), ⟨Nat.le_trans hS.1 hz, fun q h1 h2 => (hk q (Nat.lt_of_lt_of_le h1 hS.1)).trans (hS.2.1 q h1 h2)⟩⟩
set_option maxRecDepth 100000 in
theorem x_in_55 : ∀ w ∈ (vx_atS "HazardTables" 55 "java/lang/IndexOutOfBoundsException" xch).filter goodWord, w ∈ WA := by decide +kernel
set_option maxRecDepth 100000 in
theorem x_nb_55 : ∀ w ∈ (vx_atS "HazardTables" 55 "java/lang/IndexOutOfBoundsException" xch).filter (fun w => !goodWord w), w ∈ xB := by decide +kernel
set_option maxRecDepth 100000 in
theorem x_good_55 : ∀ w ∈ Cond.classLink "HazardTables" 51 "java/lang/IndexOutOfBoundsException" :: Cond.initialized "java/lang/IndexOutOfBoundsException" :: (vx_atS "HazardTables" 55 "java/lang/IndexOutOfBoundsException" xch), vx_ot w = true := by decide +kernel
theorem x_hat_55 {x : Cond} {A : Nat → Prop} {args : Array Value} {s : State} (hts : ∀ w ∈ x :: WA, w.before args s = true) (hX : xAll A s) : ∀ w ∈ (vx_atS "HazardTables" 55 "java/lang/IndexOutOfBoundsException" xch), w.before args s = true := by
  intro w hw
  by_cases hg : goodWord w = true
  · exact hts w (List.mem_cons_of_mem _ (x_in_55 w (List.mem_filter.mpr ⟨hw, hg⟩)))
  · have hb := x_nb_55 w (List.mem_filter.mpr ⟨hw, by simp [hg]⟩)
    exact va_Nw.use (xB_tab w hb) (hX.2.2.2 w hb)
set_option maxRecDepth 100000 in
theorem x_in_66 : ∀ w ∈ (vx_atS "HazardTables" 66 "java/lang/UnsupportedOperationException" xch).filter goodWord, w ∈ WA := by decide +kernel
set_option maxRecDepth 100000 in
theorem x_nb_66 : ∀ w ∈ (vx_atS "HazardTables" 66 "java/lang/UnsupportedOperationException" xch).filter (fun w => !goodWord w), w ∈ xB := by decide +kernel
set_option maxRecDepth 100000 in
theorem x_good_66 : ∀ w ∈ Cond.classLink "HazardTables" 62 "java/lang/UnsupportedOperationException" :: Cond.initialized "java/lang/UnsupportedOperationException" :: (vx_atS "HazardTables" 66 "java/lang/UnsupportedOperationException" xch), vx_ot w = true := by decide +kernel
theorem x_hat_66 {x : Cond} {A : Nat → Prop} {args : Array Value} {s : State} (hts : ∀ w ∈ x :: WA, w.before args s = true) (hX : xAll A s) : ∀ w ∈ (vx_atS "HazardTables" 66 "java/lang/UnsupportedOperationException" xch), w.before args s = true := by
  intro w hw
  by_cases hg : goodWord w = true
  · exact hts w (List.mem_cons_of_mem _ (x_in_66 w (List.mem_filter.mpr ⟨hw, hg⟩)))
  · have hb := x_nb_66 w (List.mem_filter.mpr ⟨hw, by simp [hg]⟩)
    exact va_Nw.use (xB_tab w hb) (hX.2.2.2 w hb)
set_option maxRecDepth 100000 in
theorem x_in_79 : ∀ w ∈ (vx_atS "HazardTables" 79 "java/lang/IllegalStateException" xch).filter goodWord, w ∈ WA := by decide +kernel
set_option maxRecDepth 100000 in
theorem x_nb_79 : ∀ w ∈ (vx_atS "HazardTables" 79 "java/lang/IllegalStateException" xch).filter (fun w => !goodWord w), w ∈ xB := by decide +kernel
set_option maxRecDepth 100000 in
theorem x_good_79 : ∀ w ∈ Cond.classLink "HazardTables" 75 "java/lang/IllegalStateException" :: Cond.initialized "java/lang/IllegalStateException" :: (vx_atS "HazardTables" 79 "java/lang/IllegalStateException" xch), vx_ot w = true := by decide +kernel
theorem x_hat_79 {x : Cond} {A : Nat → Prop} {args : Array Value} {s : State} (hts : ∀ w ∈ x :: WA, w.before args s = true) (hX : xAll A s) : ∀ w ∈ (vx_atS "HazardTables" 79 "java/lang/IllegalStateException" xch), w.before args s = true := by
  intro w hw
  by_cases hg : goodWord w = true
  · exact hts w (List.mem_cons_of_mem _ (x_in_79 w (List.mem_filter.mpr ⟨hw, hg⟩)))
  · have hb := x_nb_79 w (List.mem_filter.mpr ⟨hw, by simp [hg]⟩)
    exact va_Nw.use (xB_tab w hb) (hX.2.2.2 w hb)
set_option maxRecDepth 100000 in
theorem x_in_105 : ∀ w ∈ (vx_atS "HazardTables" 105 "java/lang/IllegalArgumentException" xch).filter goodWord, w ∈ WA := by decide +kernel
set_option maxRecDepth 100000 in
theorem x_nb_105 : ∀ w ∈ (vx_atS "HazardTables" 105 "java/lang/IllegalArgumentException" xch).filter (fun w => !goodWord w), w ∈ xB := by decide +kernel
set_option maxRecDepth 100000 in
theorem x_good_105 : ∀ w ∈ Cond.classLink "HazardTables" 101 "java/lang/IllegalArgumentException" :: Cond.initialized "java/lang/IllegalArgumentException" :: (vx_atS "HazardTables" 105 "java/lang/IllegalArgumentException" xch), vx_ot w = true := by decide +kernel
theorem x_hat_105 {x : Cond} {A : Nat → Prop} {args : Array Value} {s : State} (hts : ∀ w ∈ x :: WA, w.before args s = true) (hX : xAll A s) : ∀ w ∈ (vx_atS "HazardTables" 105 "java/lang/IllegalArgumentException" xch), w.before args s = true := by
  intro w hw
  by_cases hg : goodWord w = true
  · exact hts w (List.mem_cons_of_mem _ (x_in_105 w (List.mem_filter.mpr ⟨hw, hg⟩)))
  · have hb := x_nb_105 w (List.mem_filter.mpr ⟨hw, by simp [hg]⟩)
    exact va_Nw.use (xB_tab w hb) (hX.2.2.2 w hb)
