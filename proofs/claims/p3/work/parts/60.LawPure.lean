set_option maxHeartbeats 4000000 in
set_option maxRecDepth 100000 in
theorem lc_0 {L : Nat} {xs : Nat → Int32} {k : SHT → SReader → SSpeller → SMixture → SSurroundings → STable → STable → SOut → SModel → Int32 → Option Bool} {ht : SHT} {rd : SReader} {sp : SSpeller} {mx : SMixture} {ar : SSurroundings} {tb tc : STable} {ot : SOut} {md : SModel} {y4 : Int32} (h1 : inb (y4 + (1 : Int32)) L) (h2 : inb (y4 + (2 : Int32)) L) (h3 : inb (y4 + (3 : Int32)) L) (hI : hz_invAll ht rd sp mx ar tb md) (hk : ∀ ht rd sp mx ar tb tc ot md, hz_invAll ht rd sp mx ar tb md → k ht rd sp mx ar tb tc ot md (y4 + (4 : Int32)) = some true) : f_Law_case_120 L xs k ht rd sp mx ar tb tc ot md y4 = some true := by
  unfold f_Law_case_120
  obtain ⟨g1, g2, g3, g4, g5, g6, g7, g8, r9, rfl, hA, hT, hX, hW, hM, hS⟩ := hI
  obtain ⟨k9, ot9, rd9, th9, b9, g29, e1, e2, ⟨q1, q2⟩, hA9⟩ := hz_op_sign (ht := ht) (ot := ot) (g1 := g1) (g3 := g3) (r := (g4, g5, g6, g7, g8, r9)) (x := ((((xs (y4 + (1 : Int32)).toNatClampNeg).toInt64) <<< ((32 : Int32).toInt64 &&& 63)) ||| (((xs (y4 + (2 : Int32)).toNatClampNeg).toInt64) &&& (4294967295 : Int64)))) (n := (xs (y4 + (3 : Int32)).toNatClampNeg)) hA
  rw [if_pos h1, if_pos h2, if_pos h3, e1, Option.bind_some, if_pos h1, if_pos h2, if_pos h3, e2, Option.bind_some]
  exact hk _ _ _ _ _ _ _ _ _ ⟨(th9, g1.2), g29, g3, g4, g5, g6, g7, g8, r9, rfl, hA9, hT, hX, hW, hM, hS⟩
set_option maxHeartbeats 4000000 in
set_option maxRecDepth 100000 in
theorem lc_1 {L : Nat} {xs : Nat → Int32} {k : SHT → SReader → SSpeller → SMixture → SSurroundings → STable → STable → SOut → SModel → Int32 → Option Bool} {ht : SHT} {rd : SReader} {sp : SSpeller} {mx : SMixture} {ar : SSurroundings} {tb tc : STable} {ot : SOut} {md : SModel} {y4 : Int32} (h1 : inb (y4 + (1 : Int32)) L) (h2 : inb (y4 + (2 : Int32)) L) (h3 : inb (y4 + (3 : Int32)) L) (hI : hz_invAll ht rd sp mx ar tb md) (hk : ∀ ht rd sp mx ar tb tc ot md, hz_invAll ht rd sp mx ar tb md → k ht rd sp mx ar tb tc ot md (y4 + (4 : Int32)) = some true) : f_Law_case_192 L xs k ht rd sp mx ar tb tc ot md y4 = some true := by
  unfold f_Law_case_192
  obtain ⟨g1, g2, g3, g4, g5, g6, g7, g8, r9, rfl, hA, hT, hX, hW, hM, hS⟩ := hI
  have hS0 := hS
  obtain ⟨wd, e, sn, sd, lt, cnt, said, T, rfl, rfl, hsaid, hsr⟩ := hS0
  rcases hz_op_read (ht := ht) (ot := ot) (sp := (wd, e, sn, sd, lt, cnt)) (tc := tc) (g1 := g1) (g3 := g3) (g4 := g4) (r6 := g6) (r7 := g7) (r8 := g8) (r9 := (hz_nI said, wd, T)) hA hX with ⟨ot9, rd9, tc9, pl, g29, g39, e1, e2, hA9⟩ | ⟨ot9, b9, rd9, tc9, mx9, pl, g29, g39, g49, g59, e1, e2, q2, hA9, hT9, hX9⟩
  · rw [e1, Option.bind_some, if_neg (show ¬ (false = true) by decide), e2, Option.bind_some]
    simp only [f_Model_thrown, Option.bind_some]
    rw [if_pos (show hz_nI 1 = 1 from rfl), if_neg (show ¬ ((1 : Int32) = 0) by decide)]
    exact hk _ _ _ _ _ _ _ _ _ ⟨(hz_nI 1, pl), g29, g39, g4, g5, g6, g7, g8, (hz_nI said, wd, T), rfl, hA9, hT, hX, hW, hM, hS⟩
  · rw [e1, Option.bind_some, if_pos rfl, e2, Option.bind_some]
    simp only [f_Model_thrown, Option.bind_some]
    rw [if_pos (show hz_nI 0 = 0 from rfl), if_pos trivial, if_pos hz_o_inb, if_pos q2]
    exact hk _ _ _ _ _ _ _ _ _ ⟨(hz_nI 0, pl), g29, g39, g49, g59, g6, g7, g8, (hz_nI 0, wd, T), rfl, hA9, hT9, hX9, hW, hM, ⟨wd, e, sn, sd, lt, 0, 0, T, rfl, rfl, by omega, Or.inl ⟨rfl, rfl⟩⟩⟩
set_option maxHeartbeats 4000000 in
set_option maxRecDepth 100000 in
theorem lc_2 {L : Nat} {xs : Nat → Int32} {k : SHT → SReader → SSpeller → SMixture → SSurroundings → STable → STable → SOut → SModel → Int32 → Option Bool} {ht : SHT} {rd : SReader} {sp : SSpeller} {mx : SMixture} {ar : SSurroundings} {tb tc : STable} {ot : SOut} {md : SModel} {y4 : Int32} (h1 : inb (y4 + (1 : Int32)) L) (h2 : inb (y4 + (2 : Int32)) L) (h3 : inb (y4 + (3 : Int32)) L) (hI : hz_invAll ht rd sp mx ar tb md) (hk : ∀ ht rd sp mx ar tb tc ot md, hz_invAll ht rd sp mx ar tb md → k ht rd sp mx ar tb tc ot md (y4 + (4 : Int32)) = some true) : f_Law_case_236 L xs k ht rd sp mx ar tb tc ot md y4 = some true := by
  unfold f_Law_case_236
  obtain ⟨g1, g2, g3, g4, g5, g6, g7, g8, r9, rfl, hA, hT, hX, hW, hM, hS⟩ := hI
  have e1 : f_HT_place ht rd = some rd.2.2.2.2 := rfl
  have e2 : f_Model_place (g1, g2, g3, g4, g5, g6, g7, g8, r9) = some (g1.2, ((0, g1.2), g2, g3, g4, g5, g6, g7, g8, r9)) := rfl
  rw [e1, Option.bind_some, e2, Option.bind_some]
  exact hk _ _ _ _ _ _ _ _ _ ⟨(0, g1.2), g2, g3, g4, g5, g6, g7, g8, r9, rfl, hA, hT, hX, hW, hM, hS⟩
set_option maxHeartbeats 4000000 in
set_option maxRecDepth 100000 in
theorem lc_3 {L : Nat} {xs : Nat → Int32} {k : SHT → SReader → SSpeller → SMixture → SSurroundings → STable → STable → SOut → SModel → Int32 → Option Bool} {ht : SHT} {rd : SReader} {sp : SSpeller} {mx : SMixture} {ar : SSurroundings} {tb tc : STable} {ot : SOut} {md : SModel} {y4 : Int32} (h1 : inb (y4 + (1 : Int32)) L) (h2 : inb (y4 + (2 : Int32)) L) (h3 : inb (y4 + (3 : Int32)) L) (hI : hz_invAll ht rd sp mx ar tb md) (hk : ∀ ht rd sp mx ar tb tc ot md, hz_invAll ht rd sp mx ar tb md → k ht rd sp mx ar tb tc ot md (y4 + (4 : Int32)) = some true) : f_Law_case_249 L xs k ht rd sp mx ar tb tc ot md y4 = some true := by
  unfold f_Law_case_249
  obtain ⟨g1, g2, g3, g4, g5, g6, g7, g8, r9, rfl, hA, hT, hX, hW, hM, hS⟩ := hI
  obtain ⟨k9, ot9, th9, b9, e1, e2, ⟨q1, q2⟩⟩ := hz_op_material (ht := ht) (ot := ot) (g1 := g1) (g2 := g2) (g3 := g3) (g5 := g5) (r := (g6, g7, g8, r9)) (x := (xs (y4 + (1 : Int32)).toNatClampNeg)) (y := (xs (y4 + (2 : Int32)).toNatClampNeg)) hT
  rw [if_pos h1, if_pos h2, e1, Option.bind_some, if_pos h1, if_pos h2, e2, Option.bind_some]
  exact hk _ _ _ _ _ _ _ _ _ ⟨(th9, g1.2), g2, g3, g4, g5, g6, g7, g8, r9, rfl, hA, hT, hX, hW, hM, hS⟩
set_option maxHeartbeats 4000000 in
set_option maxRecDepth 100000 in
theorem lc_4 {L : Nat} {xs : Nat → Int32} {k : SHT → SReader → SSpeller → SMixture → SSurroundings → STable → STable → SOut → SModel → Int32 → Option Bool} {ht : SHT} {rd : SReader} {sp : SSpeller} {mx : SMixture} {ar : SSurroundings} {tb tc : STable} {ot : SOut} {md : SModel} {y4 : Int32} (h1 : inb (y4 + (1 : Int32)) L) (h2 : inb (y4 + (2 : Int32)) L) (h3 : inb (y4 + (3 : Int32)) L) (hI : hz_invAll ht rd sp mx ar tb md) (hk : ∀ ht rd sp mx ar tb tc ot md, hz_invAll ht rd sp mx ar tb md → k ht rd sp mx ar tb tc ot md (y4 + (4 : Int32)) = some true) : f_Law_case_289 L xs k ht rd sp mx ar tb tc ot md y4 = some true := by
  unfold f_Law_case_289
  obtain ⟨g1, g2, g3, g4, g5, g6, g7, g8, r9, rfl, hA, hT, hX, hW, hM, hS⟩ := hI
  obtain ⟨k9, ot9, sp9, th9, b9, r99, e1, e2, ⟨q1, q2⟩, hS9⟩ := hz_op_say (ht := ht) (ot := ot) (g1 := g1) (g2 := g2) (g3 := g3) (g5 := g5) (g6 := g6) (g7 := g7) (g8 := g8) (x := ((((xs (y4 + (1 : Int32)).toNatClampNeg).toInt64) <<< ((32 : Int32).toInt64 &&& 63)) ||| (((xs (y4 + (2 : Int32)).toNatClampNeg).toInt64) &&& (4294967295 : Int64)))) (n := (xs (y4 + (3 : Int32)).toNatClampNeg)) hT hS
  rw [if_pos h1, if_pos h2, if_pos h3, e1, Option.bind_some, if_pos h1, if_pos h2, if_pos h3, e2, Option.bind_some]
  exact hk _ _ _ _ _ _ _ _ _ ⟨(th9, g1.2), g2, g3, g4, g5, g6, g7, g8, r99, rfl, hA, hT, hX, hW, hM, hS9⟩
set_option maxHeartbeats 4000000 in
set_option maxRecDepth 100000 in
theorem lc_5 {L : Nat} {xs : Nat → Int32} {k : SHT → SReader → SSpeller → SMixture → SSurroundings → STable → STable → SOut → SModel → Int32 → Option Bool} {ht : SHT} {rd : SReader} {sp : SSpeller} {mx : SMixture} {ar : SSurroundings} {tb tc : STable} {ot : SOut} {md : SModel} {y4 : Int32} (h1 : inb (y4 + (1 : Int32)) L) (h2 : inb (y4 + (2 : Int32)) L) (h3 : inb (y4 + (3 : Int32)) L) (hI : hz_invAll ht rd sp mx ar tb md) (hk : ∀ ht rd sp mx ar tb tc ot md, hz_invAll ht rd sp mx ar tb md → k ht rd sp mx ar tb tc ot md (y4 + (4 : Int32)) = some true) : f_Law_case_361 L xs k ht rd sp mx ar tb tc ot md y4 = some true := by
  unfold f_Law_case_361
  obtain ⟨g1, g2, g3, g4, g5, g6, g7, g8, r9, rfl, hA, hT, hX, hW, hM, hS⟩ := hI
  obtain ⟨k9, ot9, th9, b9, r99, e1, e2, ⟨q1, q2⟩, hS9⟩ := hz_op_near (ht := ht) (ot := ot) (g1 := g1) (g2 := g2) (g3 := g3) (g5 := g5) (g6 := g6) (g7 := g7) (g8 := g8) (x := (xs (y4 + (1 : Int32)).toNatClampNeg)) hT hS
  rw [if_pos h1, e1, Option.bind_some, if_pos h1, e2, Option.bind_some]
  exact hk _ _ _ _ _ _ _ _ _ ⟨(th9, g1.2), g2, g3, g4, g5, g6, g7, g8, r99, rfl, hA, hT, hX, hW, hM, hS9⟩
set_option maxHeartbeats 4000000 in
set_option maxRecDepth 100000 in
theorem lc_6 {L : Nat} {xs : Nat → Int32} {k : SHT → SReader → SSpeller → SMixture → SSurroundings → STable → STable → SOut → SModel → Int32 → Option Bool} {ht : SHT} {rd : SReader} {sp : SSpeller} {mx : SMixture} {ar : SSurroundings} {tb tc : STable} {ot : SOut} {md : SModel} {y4 : Int32} (h1 : inb (y4 + (1 : Int32)) L) (h2 : inb (y4 + (2 : Int32)) L) (h3 : inb (y4 + (3 : Int32)) L) (hI : hz_invAll ht rd sp mx ar tb md) (hk : ∀ ht rd sp mx ar tb tc ot md, hz_invAll ht rd sp mx ar tb md → k ht rd sp mx ar tb tc ot md (y4 + (4 : Int32)) = some true) : f_Law_case_389 L xs k ht rd sp mx ar tb tc ot md y4 = some true := by
  unfold f_Law_case_389
  obtain ⟨g1, g2, g3, g4, g5, g6, g7, g8, r9, rfl, hA, hT, hX, hW, hM, hS⟩ := hI
  obtain ⟨k9, ot9, mx9, th9, b9, g59, e1, e2, ⟨q1, q2⟩, hX9⟩ := hz_op_add (ht := ht) (ot := ot) (g1 := g1) (g2 := g2) (g3 := g3) (r := (g6, g7, g8, r9)) (x := (xs (y4 + (1 : Int32)).toNatClampNeg)) (y := (xs (y4 + (2 : Int32)).toNatClampNeg)) hT hX
  rw [if_pos h1, if_pos h2, e1, Option.bind_some, if_pos h1, if_pos h2, e2, Option.bind_some]
  exact hk _ _ _ _ _ _ _ _ _ ⟨(th9, g1.2), g2, g3, g4, g59, g6, g7, g8, r9, rfl, hA, hT, hX9, hW, hM, hS⟩
set_option maxHeartbeats 4000000 in
set_option maxRecDepth 100000 in
theorem lc_7 {L : Nat} {xs : Nat → Int32} {k : SHT → SReader → SSpeller → SMixture → SSurroundings → STable → STable → SOut → SModel → Int32 → Option Bool} {ht : SHT} {rd : SReader} {sp : SSpeller} {mx : SMixture} {ar : SSurroundings} {tb tc : STable} {ot : SOut} {md : SModel} {y4 : Int32} (h1 : inb (y4 + (1 : Int32)) L) (h2 : inb (y4 + (2 : Int32)) L) (h3 : inb (y4 + (3 : Int32)) L) (hI : hz_invAll ht rd sp mx ar tb md) (hk : ∀ ht rd sp mx ar tb tc ot md, hz_invAll ht rd sp mx ar tb md → k ht rd sp mx ar tb tc ot md (y4 + (4 : Int32)) = some true) : f_Law_case_429 L xs k ht rd sp mx ar tb tc ot md y4 = some true := by
  unfold f_Law_case_429
  obtain ⟨g1, g2, g3, g4, g5, g6, g7, g8, r9, rfl, hA, hT, hX, hW, hM, hS⟩ := hI
  obtain ⟨mx9, g59, th9, e1, e2, hX9⟩ := hz_op_clear (ht := ht) (g1 := g1) (g2 := g2) (g3 := g3) (g4 := g4) (r := (g6, g7, g8, r9)) hX
  rw [e1, Option.bind_some, e2, Option.bind_some]
  exact hk _ _ _ _ _ _ _ _ _ ⟨(th9, g1.2), g2, g3, g4, g59, g6, g7, g8, r9, rfl, hA, hT, hX9, hW, hM, hS⟩
set_option maxHeartbeats 4000000 in
set_option maxRecDepth 100000 in
theorem lc_8 {L : Nat} {xs : Nat → Int32} {k : SHT → SReader → SSpeller → SMixture → SSurroundings → STable → STable → SOut → SModel → Int32 → Option Bool} {ht : SHT} {rd : SReader} {sp : SSpeller} {mx : SMixture} {ar : SSurroundings} {tb tc : STable} {ot : SOut} {md : SModel} {y4 : Int32} (h1 : inb (y4 + (1 : Int32)) L) (h2 : inb (y4 + (2 : Int32)) L) (h3 : inb (y4 + (3 : Int32)) L) (hI : hz_invAll ht rd sp mx ar tb md) (hk : ∀ ht rd sp mx ar tb tc ot md, hz_invAll ht rd sp mx ar tb md → k ht rd sp mx ar tb tc ot md (y4 + (4 : Int32)) = some true) : f_Law_case_440 L xs k ht rd sp mx ar tb tc ot md y4 = some true := by
  unfold f_Law_case_440
  obtain ⟨g1, g2, g3, g4, g5, g6, g7, g8, r9, rfl, hA, hT, hX, hW, hM, hS⟩ := hI
  obtain ⟨k9, ot9, th9, b9, e1, e2, ⟨q1, q2⟩⟩ := hz_op_mixture (ht := ht) (ot := ot) (g1 := g1) (g2 := g2) (g3 := g3) (r := (g6, g7, g8, r9)) (x := (xs (y4 + (1 : Int32)).toNatClampNeg)) hT hX
  rw [if_pos h1, e1, Option.bind_some, if_pos h1, e2, Option.bind_some]
  exact hk _ _ _ _ _ _ _ _ _ ⟨(th9, g1.2), g2, g3, g4, g5, g6, g7, g8, r9, rfl, hA, hT, hX, hW, hM, hS⟩
set_option maxHeartbeats 4000000 in
set_option maxRecDepth 100000 in
theorem lc_9 {L : Nat} {xs : Nat → Int32} {k : SHT → SReader → SSpeller → SMixture → SSurroundings → STable → STable → SOut → SModel → Int32 → Option Bool} {ht : SHT} {rd : SReader} {sp : SSpeller} {mx : SMixture} {ar : SSurroundings} {tb tc : STable} {ot : SOut} {md : SModel} {y4 : Int32} (h1 : inb (y4 + (1 : Int32)) L) (h2 : inb (y4 + (2 : Int32)) L) (h3 : inb (y4 + (3 : Int32)) L) (hI : hz_invAll ht rd sp mx ar tb md) (hk : ∀ ht rd sp mx ar tb tc ot md, hz_invAll ht rd sp mx ar tb md → k ht rd sp mx ar tb tc ot md (y4 + (4 : Int32)) = some true) : f_Law_case_468 L xs k ht rd sp mx ar tb tc ot md y4 = some true := by
  unfold f_Law_case_468
  obtain ⟨g1, g2, g3, g4, g5, g6, g7, g8, r9, rfl, hA, hT, hX, hW, hM, hS⟩ := hI
  obtain ⟨k9, ot9, th9, b9, e1, e2, ⟨q1, q2⟩⟩ := hz_op_strict (ht := ht) (ot := ot) (g1 := g1) (g2 := g2) (g3 := g3) (r := (g6, g7, g8, r9)) (x := (xs (y4 + (1 : Int32)).toNatClampNeg)) hT hX
  rw [if_pos h1, e1, Option.bind_some, if_pos h1, e2, Option.bind_some]
  exact hk _ _ _ _ _ _ _ _ _ ⟨(th9, g1.2), g2, g3, g4, g5, g6, g7, g8, r9, rfl, hA, hT, hX, hW, hM, hS⟩
set_option maxHeartbeats 4000000 in
set_option maxRecDepth 100000 in
theorem lc_10 {L : Nat} {xs : Nat → Int32} {k : SHT → SReader → SSpeller → SMixture → SSurroundings → STable → STable → SOut → SModel → Int32 → Option Bool} {ht : SHT} {rd : SReader} {sp : SSpeller} {mx : SMixture} {ar : SSurroundings} {tb tc : STable} {ot : SOut} {md : SModel} {y4 : Int32} (h1 : inb (y4 + (1 : Int32)) L) (h2 : inb (y4 + (2 : Int32)) L) (h3 : inb (y4 + (3 : Int32)) L) (hI : hz_invAll ht rd sp mx ar tb md) (hk : ∀ ht rd sp mx ar tb tc ot md, hz_invAll ht rd sp mx ar tb md → k ht rd sp mx ar tb tc ot md (y4 + (4 : Int32)) = some true) : f_Law_case_496 L xs k ht rd sp mx ar tb tc ot md y4 = some true := by
  unfold f_Law_case_496
  obtain ⟨g1, g2, g3, g4, g5, g6, g7, g8, r9, rfl, hA, hT, hX, hW, hM, hS⟩ := hI
  obtain ⟨k9, ot9, ar9, th9, b9, g79, e1, e2, ⟨q1, q2⟩, hW9⟩ := hz_op_building (ht := ht) (ot := ot) (g1 := g1) (g2 := g2) (g3 := g3) (g4 := g4) (g5 := g5) (r := (g8, r9)) (x := (xs (y4 + (1 : Int32)).toNatClampNeg)) (y := (xs (y4 + (2 : Int32)).toNatClampNeg)) hW
  rw [if_pos h1, if_pos h2, e1, Option.bind_some, if_pos h1, if_pos h2, e2, Option.bind_some]
  exact hk _ _ _ _ _ _ _ _ _ ⟨(th9, g1.2), g2, g3, g4, g5, g6, g79, g8, r9, rfl, hA, hT, hX, hW9, hM, hS⟩
set_option maxHeartbeats 4000000 in
set_option maxRecDepth 100000 in
theorem lc_11 {L : Nat} {xs : Nat → Int32} {k : SHT → SReader → SSpeller → SMixture → SSurroundings → STable → STable → SOut → SModel → Int32 → Option Bool} {ht : SHT} {rd : SReader} {sp : SSpeller} {mx : SMixture} {ar : SSurroundings} {tb tc : STable} {ot : SOut} {md : SModel} {y4 : Int32} (h1 : inb (y4 + (1 : Int32)) L) (h2 : inb (y4 + (2 : Int32)) L) (h3 : inb (y4 + (3 : Int32)) L) (hI : hz_invAll ht rd sp mx ar tb md) (hk : ∀ ht rd sp mx ar tb tc ot md, hz_invAll ht rd sp mx ar tb md → k ht rd sp mx ar tb tc ot md (y4 + (4 : Int32)) = some true) : f_Law_case_536 L xs k ht rd sp mx ar tb tc ot md y4 = some true := by
  unfold f_Law_case_536
  obtain ⟨g1, g2, g3, g4, g5, g6, g7, g8, r9, rfl, hA, hT, hX, hW, hM, hS⟩ := hI
  by_cases hd : (xs (y4 + (3 : Int32)).toNatClampNeg) = 0
  · obtain ⟨k9, ot9, ar9, th9, b9, g69, g79, e1, e2, ⟨q1, q2⟩, hW9⟩ := hz_op_wind (ht := ht) (ot := ot) (g1 := g1) (g2 := g2) (g3 := g3) (r := (g8, r9)) (x := (xs (y4 + (1 : Int32)).toNatClampNeg)) (y := (xs (y4 + (2 : Int32)).toNatClampNeg)) (day := false) hT hX hW
    rw [if_pos h1, if_pos h2, if_pos h3, if_pos hd, e1, Option.bind_some, if_pos h1, if_pos h2, if_pos h3, e2, Option.bind_some]
    exact hk _ _ _ _ _ _ _ _ _ ⟨(th9, g1.2), g2, g3, g4, g5, g69, g79, g8, r9, rfl, hA, hT, hX, hW9, hM, hS⟩
  · obtain ⟨k9, ot9, ar9, th9, b9, g69, g79, e1, e2, ⟨q1, q2⟩, hW9⟩ := hz_op_wind (ht := ht) (ot := ot) (g1 := g1) (g2 := g2) (g3 := g3) (r := (g8, r9)) (x := (xs (y4 + (1 : Int32)).toNatClampNeg)) (y := (xs (y4 + (2 : Int32)).toNatClampNeg)) (day := true) hT hX hW
    rw [if_pos h1, if_pos h2, if_pos h3, if_neg hd, e1, Option.bind_some, if_pos h1, if_pos h2, if_pos h3, e2, Option.bind_some]
    exact hk _ _ _ _ _ _ _ _ _ ⟨(th9, g1.2), g2, g3, g4, g5, g69, g79, g8, r9, rfl, hA, hT, hX, hW9, hM, hS⟩
set_option maxHeartbeats 4000000 in
set_option maxRecDepth 100000 in
theorem lc_12 {L : Nat} {xs : Nat → Int32} {k : SHT → SReader → SSpeller → SMixture → SSurroundings → STable → STable → SOut → SModel → Int32 → Option Bool} {ht : SHT} {rd : SReader} {sp : SSpeller} {mx : SMixture} {ar : SSurroundings} {tb tc : STable} {ot : SOut} {md : SModel} {y4 : Int32} (h1 : inb (y4 + (1 : Int32)) L) (h2 : inb (y4 + (2 : Int32)) L) (h3 : inb (y4 + (3 : Int32)) L) (hI : hz_invAll ht rd sp mx ar tb md) (hk : ∀ ht rd sp mx ar tb tc ot md, hz_invAll ht rd sp mx ar tb md → k ht rd sp mx ar tb tc ot md (y4 + (4 : Int32)) = some true) : f_Law_case_604 L xs k ht rd sp mx ar tb tc ot md y4 = some true := by
  unfold f_Law_case_604
  obtain ⟨g1, g2, g3, g4, g5, g6, g7, g8, r9, rfl, hA, hT, hX, hW, hM, hS⟩ := hI
  obtain ⟨k9, ot9, th9, b9, e1, e2, ⟨q1, q2⟩⟩ := hz_op_fresh (ht := ht) (ot := ot) (g1 := g1) (g2 := g2) (g3 := g3) (g4 := g4) (g5 := g5) (r := (g8, r9)) (x := (xs (y4 + (1 : Int32)).toNatClampNeg)) hW
  rw [if_pos h1, e1, Option.bind_some, if_pos h1, e2, Option.bind_some]
  exact hk _ _ _ _ _ _ _ _ _ ⟨(th9, g1.2), g2, g3, g4, g5, g6, g7, g8, r9, rfl, hA, hT, hX, hW, hM, hS⟩
set_option maxHeartbeats 4000000 in
set_option maxRecDepth 100000 in
theorem lc_13 {L : Nat} {xs : Nat → Int32} {k : SHT → SReader → SSpeller → SMixture → SSurroundings → STable → STable → SOut → SModel → Int32 → Option Bool} {ht : SHT} {rd : SReader} {sp : SSpeller} {mx : SMixture} {ar : SSurroundings} {tb tc : STable} {ot : SOut} {md : SModel} {y4 : Int32} (h1 : inb (y4 + (1 : Int32)) L) (h2 : inb (y4 + (2 : Int32)) L) (h3 : inb (y4 + (3 : Int32)) L) (hI : hz_invAll ht rd sp mx ar tb md) (hk : ∀ ht rd sp mx ar tb tc ot md, hz_invAll ht rd sp mx ar tb md → k ht rd sp mx ar tb tc ot md (y4 + (4 : Int32)) = some true) : f_Law_case_632 L xs k ht rd sp mx ar tb tc ot md y4 = some true := by
  unfold f_Law_case_632
  obtain ⟨g1, g2, g3, g4, g5, g6, g7, g8, r9, rfl, hA, hT, hX, hW, hM, hS⟩ := hI
  obtain ⟨k9, ot9, th9, b9, e1, e2, ⟨q1, q2⟩⟩ := hz_op_in (ht := ht) (ot := ot) (g1 := g1) (g2 := g2) (g3 := g3) (r := (g8, r9)) (x := (xs (y4 + (1 : Int32)).toNatClampNeg)) (y := (xs (y4 + (2 : Int32)).toNatClampNeg)) hT hX hW
  rw [if_pos h1, if_pos h2, e1, Option.bind_some, if_pos h1, if_pos h2, e2, Option.bind_some]
  exact hk _ _ _ _ _ _ _ _ _ ⟨(th9, g1.2), g2, g3, g4, g5, g6, g7, g8, r9, rfl, hA, hT, hX, hW, hM, hS⟩
set_option maxHeartbeats 4000000 in
set_option maxRecDepth 100000 in
theorem lc_14 {L : Nat} {xs : Nat → Int32} {k : SHT → SReader → SSpeller → SMixture → SSurroundings → STable → STable → SOut → SModel → Int32 → Option Bool} {ht : SHT} {rd : SReader} {sp : SSpeller} {mx : SMixture} {ar : SSurroundings} {tb tc : STable} {ot : SOut} {md : SModel} {y4 : Int32} (h1 : inb (y4 + (1 : Int32)) L) (h2 : inb (y4 + (2 : Int32)) L) (h3 : inb (y4 + (3 : Int32)) L) (hI : hz_invAll ht rd sp mx ar tb md) (hk : ∀ ht rd sp mx ar tb tc ot md, hz_invAll ht rd sp mx ar tb md → k ht rd sp mx ar tb tc ot md (y4 + (4 : Int32)) = some true) : f_Law_case_672 L xs k ht rd sp mx ar tb tc ot md y4 = some true := by
  unfold f_Law_case_672
  obtain ⟨g1, g2, g3, g4, g5, g6, g7, g8, r9, rfl, hA, hT, hX, hW, hM, hS⟩ := hI
  obtain ⟨k9, ot9, mx9, th9, b9, g59, e1, e2, ⟨q1, q2⟩, hX9⟩ := hz_op_step (ht := ht) (ot := ot) (g1 := g1) (g2 := g2) (g3 := g3) (r := (g6, g7, g8, r9)) (x := (xs (y4 + (1 : Int32)).toNatClampNeg)) hT hX
  rw [if_pos h1, e1, Option.bind_some, if_pos h1, e2, Option.bind_some]
  exact hk _ _ _ _ _ _ _ _ _ ⟨(th9, g1.2), g2, g3, g4, g59, g6, g7, g8, r9, rfl, hA, hT, hX9, hW, hM, hS⟩
set_option maxHeartbeats 4000000 in
set_option maxRecDepth 100000 in
theorem lc_15 {L : Nat} {xs : Nat → Int32} {k : SHT → SReader → SSpeller → SMixture → SSurroundings → STable → STable → SOut → SModel → Int32 → Option Bool} {ht : SHT} {rd : SReader} {sp : SSpeller} {mx : SMixture} {ar : SSurroundings} {tb tc : STable} {ot : SOut} {md : SModel} {y4 : Int32} (h1 : inb (y4 + (1 : Int32)) L) (h2 : inb (y4 + (2 : Int32)) L) (h3 : inb (y4 + (3 : Int32)) L) (hI : hz_invAll ht rd sp mx ar tb md) (hk : ∀ ht rd sp mx ar tb tc ot md, hz_invAll ht rd sp mx ar tb md → k ht rd sp mx ar tb tc ot md (y4 + (4 : Int32)) = some true) : f_Law_case_700 L xs k ht rd sp mx ar tb tc ot md y4 = some true := by
  unfold f_Law_case_700
  obtain ⟨g1, g2, g3, g4, g5, g6, g7, g8, r9, rfl, hA, hT, hX, hW, hM, hS⟩ := hI
  obtain ⟨k9, ht9, th9, g89, e1, e2, q1, hM9⟩ := hz_op_mark (g1 := g1) (g2 := g2) (g3 := g3) (g4 := g4) (g5 := g5) (g6 := g6) (g7 := g7) (r := r9) (x := (xs (y4 + (1 : Int32)).toNatClampNeg)) (y := (xs (y4 + (2 : Int32)).toNatClampNeg)) hM
  rw [if_pos h1, if_pos h2, e1, Option.bind_some, if_pos h1, if_pos h2, e2, Option.bind_some]
  exact hk _ _ _ _ _ _ _ _ _ ⟨(th9, g1.2), g2, g3, g4, g5, g6, g7, g89, r9, rfl, hA, hT, hX, hW, hM9, hS⟩
set_option maxHeartbeats 4000000 in
set_option maxRecDepth 100000 in
theorem lc_16 {L : Nat} {xs : Nat → Int32} {k : SHT → SReader → SSpeller → SMixture → SSurroundings → STable → STable → SOut → SModel → Int32 → Option Bool} {ht : SHT} {rd : SReader} {sp : SSpeller} {mx : SMixture} {ar : SSurroundings} {tb tc : STable} {ot : SOut} {md : SModel} {y4 : Int32} (h1 : inb (y4 + (1 : Int32)) L) (h2 : inb (y4 + (2 : Int32)) L) (h3 : inb (y4 + (3 : Int32)) L) (hI : hz_invAll ht rd sp mx ar tb md) (hk : ∀ ht rd sp mx ar tb tc ot md, hz_invAll ht rd sp mx ar tb md → k ht rd sp mx ar tb tc ot md (y4 + (4 : Int32)) = some true) : f_Law_case_737 L xs k ht rd sp mx ar tb tc ot md y4 = some true := by
  unfold f_Law_case_737
  obtain ⟨g1, g2, g3, g4, g5, g6, g7, g8, r9, rfl, hA, hT, hX, hW, hM, hS⟩ := hI
  obtain ⟨k9, ot9, th9, b9, e1, e2, ⟨q1, q2⟩⟩ := hz_op_over (ht := ht) (ot := ot) (g1 := g1) (g2 := g2) (g3 := g3) (g4 := g4) (g5 := g5) (g6 := g6) (g7 := g7) (r := r9) (x := (xs (y4 + (1 : Int32)).toNatClampNeg)) (y := (xs (y4 + (2 : Int32)).toNatClampNeg)) hM
  rw [if_pos h1, if_pos h2, e1, Option.bind_some, if_pos h1, if_pos h2, e2, Option.bind_some]
  exact hk _ _ _ _ _ _ _ _ _ ⟨(th9, g1.2), g2, g3, g4, g5, g6, g7, g8, r9, rfl, hA, hT, hX, hW, hM, hS⟩
set_option maxHeartbeats 4000000 in
set_option maxRecDepth 100000 in
theorem lc_99 {L : Nat} {xs : Nat → Int32} {k : SHT → SReader → SSpeller → SMixture → SSurroundings → STable → STable → SOut → SModel → Int32 → Option Bool} {ht : SHT} {rd : SReader} {sp : SSpeller} {mx : SMixture} {ar : SSurroundings} {tb tc : STable} {ot : SOut} {md : SModel} {y4 : Int32} (h1 : inb (y4 + (1 : Int32)) L) (h2 : inb (y4 + (2 : Int32)) L) (h3 : inb (y4 + (3 : Int32)) L) (hI : hz_invAll ht rd sp mx ar tb md) (hk : ∀ ht rd sp mx ar tb tc ot md, hz_invAll ht rd sp mx ar tb md → k ht rd sp mx ar tb tc ot md (y4 + (4 : Int32)) = some true) : f_Law_case_777 L xs k ht rd sp mx ar tb tc ot md y4 = some true := by
  unfold f_Law_case_777
  exact hk _ _ _ _ _ _ _ _ _ hI
