abbrev hz_R8 : Type := ((Nat → Int32)) × (Int32 × (Nat → Int32) × (Nat → Int32))
set_option maxRecDepth 100000 in
theorem hz_p_noPoint (x y : Int32) : f_HT_isNoPoint x y = some (!(hz_inR x (-10000) 10000 && hz_inR y (-10000) 10000)) := by
  unfold f_HT_isNoPoint
  rw [hz_p_isOutside, Option.bind_some, hz_p_isOutside, Option.bind_some]
  cases hz_inR x (-10000) 10000 <;> cases hz_inR y (-10000) 10000 <;> rfl
set_option maxRecDepth 100000 in
theorem hz_q_isPoint (x y : Int32) : f_Model_isPoint x y = some (hz_inR x (-10000) 10000 && hz_inR y (-10000) 10000) := by
  unfold f_Model_isPoint
  rw [hz_q_within, Option.bind_some, hz_q_within, Option.bind_some]
  cases hz_inR x (-10000) 10000 <;> cases hz_inR y (-10000) 10000 <;> rfl
set_option maxRecDepth 100000 in
theorem hz_op_building {ht : SHT} {ot : SOut} {ar : SSurroundings} {g1 : Int32 × Int32} {g2 : hz_M2} {g3 : hz_M3} {g4 : hz_M3} {g5 : hz_M5} {g6 : Int32 × Int32 × Bool} {g7 : hz_M7} {r : hz_R8} {x y : Int32} (hW : hz_invW ar g6 g7) :
    ∃ k ot' ar' th b g7', f_Law_building ht ot ar x y = some (k, ot', ar') ∧ f_Model_building (g1, g2, g3, g4, g5, g6, g7, r) x y = some (b, ((th, g1.2), g2, g3, g4, g5, g6, g7', r)) ∧ hz_ans k ot' th b.toInt64 ∧ hz_invW ar' g6 g7' := by
  have hW0 := hW
  obtain ⟨bx, by9, fs, was, B, F, ox, oy, oday, rfl, rfl, rfl, hB, hF, hbd, ho⟩ := hW
  have m1 : (-10000 : Int32).toInt = -10000 := by decide
  have p1 : (10000 : Int32).toInt = 10000 := by decide
  cases hp : (hz_inR x (-10000) 10000 && hz_inR y (-10000) 10000)
  · refine ⟨1, ot, _, hz_nI 1, hz_nI 0, _, ?_, ?_, ⟨rfl, fun h => absurd h (by decide)⟩, hW0⟩
    · unfold f_Law_building f_HT_building
      rw [hz_p_noPoint, hp, Option.bind_some, if_neg (show ¬ (bI (!false) = 0) by decide), Option.bind_some, Sum.elim_inr, if_pos rfl]
    · unfold f_Model_building f_Model_building_20
      rw [hz_q_isPoint, hp, Option.bind_some, hz_goes1, hz_goes1, Option.bind_some, if_pos (show bI false = 0 from rfl), hz_nI_lit, hz_nI_lit]
      split <;> rfl
  · by_cases c40 : B = 40
    · subst c40
      refine ⟨2, ot, _, hz_nI 2, hz_nI 0, _, ?_, ?_, ⟨rfl, fun h => absurd h (by decide)⟩, hW0⟩
      · unfold f_Law_building f_HT_building f_Surroundings_isFull
        rw [hz_p_noPoint, hp, Option.bind_some, if_pos (show bI (!true) = 0 from rfl), if_neg (show ¬ (hz_nI 40 < 40) by decide), Option.bind_some, if_neg (show ¬ (bI true = 0) by decide), Option.bind_some, Sum.elim_inr, if_neg (show ¬ ((3 : Nat) = 1) by decide), if_pos rfl]
      · unfold f_Model_building f_Model_building_20
        rw [hz_q_isPoint, hp, Option.bind_some, if_pos (show (40 : Int32) ≤ hz_nI 40 by decide), hz_goes2, Option.bind_some, if_pos (show bI false = 0 from rfl), hz_nI_lit]
    · have hnl : ¬ ((40 : Int32) ≤ hz_nI B) := by rw [hz_nI_lit, hz_nI_le (by omega) (by omega)]; omega
      have eH : f_HT_building ht (bx, by9, fs, hz_nI B, hz_nI F, ox, oy, oday) x y = some (.inl (hz_nI B, (upd bx B x, upd by9 B y, fs, hz_nI (B + 1), hz_nI F, ox, oy, oday))) := by
        unfold f_HT_building f_Surroundings_append f_Surroundings_isFull
        rw [hz_p_noPoint, hp, Option.bind_some, if_pos (show bI (!true) = 0 from rfl)]
        simp (disch := omega) only [hz_nI_lit, hz_nI_add, hz_nI_mul, hz_nI_lt, hz_nI_le, hz_nI_inj, hz_nI_sub, hz_nI_nat, hz_nI_inb, hz_nI_pred, hz_nI_m1_lt, hz_nI_lt_m1, hz_nI_m1_le, hz_nI_le_m1, hz_nI_eq_m1, hz_nI_m1_eq, hz_bI0, if_pos, if_neg, if_true, if_false, Option.bind_some, Prod.eta, reduceCtorEq, Nat.add_sub_cancel]
      refine ⟨0, vp_updL ot (0 : Int32).toNatClampNeg (hz_nI B).toInt64, (upd bx B x, upd by9 B y, fs, hz_nI (B + 1), hz_nI F, ox, oy, oday), hz_nI 0, hz_nI B, (hz_nI (B + 1), upd bx B x, upd by9 B y, was, hz_nI F, fs), ?_, ?_, ⟨rfl, fun _ => hz_o_eq ot _⟩, upd bx B x, upd by9 B y, fs, was, B + 1, F, ox, oy, oday, rfl, rfl, rfl, by omega, hF, ?_, ho⟩
      · unfold f_Law_building
        rw [eH, Option.bind_some, Sum.elim_inl, if_pos hz_o_inb]
      · unfold f_Model_building f_Model_building_20
        rw [hz_q_isPoint, hp, Option.bind_some, if_neg hnl, hz_goesT, Option.bind_some, if_neg (show ¬ (bI true = 0) by decide)]
        simp (disch := omega) only [hz_nI_lit, hz_nI_add, hz_nI_mul, hz_nI_lt, hz_nI_le, hz_nI_inj, hz_nI_sub, hz_nI_nat, hz_nI_inb, hz_nI_pred, hz_nI_m1_lt, hz_nI_lt_m1, hz_nI_m1_le, hz_nI_le_m1, hz_nI_eq_m1, hz_nI_m1_eq, hz_bI0, if_pos, if_neg, if_true, if_false, Option.bind_some, Prod.eta, reduceCtorEq, Nat.add_sub_cancel]
      · intro i hi
        by_cases hiB : i = B
        · subst hiB
          rw [hz_upd_eq, hz_upd_eq]
          simp only [Bool.and_eq_true] at hp
          exact ⟨(hz_inR_sq m1 p1).mp hp.1, (hz_inR_sq m1 p1).mp hp.2⟩
        · rw [hz_upd_ne hiB, hz_upd_ne hiB]
          exact hbd i (by omega)
set_option maxRecDepth 100000 in
theorem hz_op_fresh {ht : SHT} {ot : SOut} {ar : SSurroundings} {g1 : Int32 × Int32} {g2 : hz_M2} {g3 : hz_M3} {g4 : hz_M3} {g5 : hz_M5} {g6 : Int32 × Int32 × Bool} {g7 : hz_M7} {r : hz_R8} {x : Int32} (hW : hz_invW ar g6 g7) :
    ∃ k ot' th b, f_Law_fresh ht ot ar x = some (k, ot') ∧ f_Model_fresh (g1, g2, g3, g4, g5, g6, g7, r) x = some (b, ((th, g1.2), g2, g3, g4, g5, g6, g7, r)) ∧ hz_ans k ot' th b.toInt64 := by
  obtain ⟨bx, by9, fs, was, B, F, ox, oy, oday, rfl, rfl, rfl, hB, hF, hbd, ho⟩ := hW
  by_cases c : x < 0
  · refine ⟨1, ot, hz_nI 1, hz_nI 0, ?_, ?_, rfl, fun h => absurd h (by decide)⟩
    · unfold f_Law_fresh f_HT_fresh
      rw [if_neg (by rw [Int32.not_le]; exact c), Option.bind_some, Sum.elim_inr, if_pos rfl]
    · unfold f_Model_fresh f_Model_fresh_10
      rw [if_pos c, hz_goes1, Option.bind_some, if_pos (show bI false = 0 from rfl), hz_nI_lit]
  · obtain ⟨m, hm, rfl, _⟩ := hz_nI_of (x := x) (by rw [Int32.lt_iff_toInt_lt] at c; simp only [show (0 : Int32).toInt = 0 by decide] at c; omega)
    have fin : ∀ v, f_Surroundings_freshOne (bx, by9, fs, hz_nI B, hz_nI F, ox, oy, oday) (hz_nI m) = some v → f_Model_fresh (g1, g2, g3, g4, g5, (ox, oy, oday), (hz_nI B, bx, by9, was, hz_nI F, fs), r) (hz_nI m) = some (v, ((hz_nI 0, g1.2), g2, g3, g4, g5, (ox, oy, oday), (hz_nI B, bx, by9, was, hz_nI F, fs), r)) → ∃ k ot' th b, f_Law_fresh ht ot (bx, by9, fs, hz_nI B, hz_nI F, ox, oy, oday) (hz_nI m) = some (k, ot') ∧ f_Model_fresh (g1, g2, g3, g4, g5, (ox, oy, oday), (hz_nI B, bx, by9, was, hz_nI F, fs), r) (hz_nI m) = some (b, ((th, g1.2), g2, g3, g4, g5, (ox, oy, oday), (hz_nI B, bx, by9, was, hz_nI F, fs), r)) ∧ hz_ans k ot' th b.toInt64 := by
      intro v eC eM
      refine ⟨0, vp_updL ot (0 : Int32).toNatClampNeg v.toInt64, hz_nI 0, v, ?_, eM, rfl, fun _ => hz_o_eq ot _⟩
      unfold f_Law_fresh f_HT_fresh
      rw [if_pos (by rw [← Int32.not_lt]; exact c), eC, Option.bind_some, Option.bind_some, Sum.elim_inl, if_pos hz_o_inb]
    have eM0 : f_Model_fresh (g1, g2, g3, g4, g5, (ox, oy, oday), (hz_nI B, bx, by9, was, hz_nI F, fs), r) (hz_nI m) = (if hz_nI F ≤ hz_nI m then some (-1, ((hz_nI 0, g1.2), g2, g3, g4, g5, (ox, oy, oday), (hz_nI B, bx, by9, was, hz_nI F, fs), r)) else if inb (hz_nI m) 40 then some (fs (hz_nI m).toNatClampNeg, ((hz_nI 0, g1.2), g2, g3, g4, g5, (ox, oy, oday), (hz_nI B, bx, by9, was, hz_nI F, fs), r)) else none) := by
      unfold f_Model_fresh f_Model_fresh_10
      rw [if_neg c, hz_goesT, Option.bind_some, if_neg (show ¬ (bI true = 0) by decide)]
    by_cases cF : F ≤ m
    · refine fin (-hz_nI 1) ?_ ?_
      · unfold f_Surroundings_freshOne
        simp (disch := omega) only [hz_nI_lit, hz_nI_add, hz_nI_mul, hz_nI_lt, hz_nI_le, hz_nI_inj, hz_nI_sub, hz_nI_nat, hz_nI_inb, hz_nI_pred, hz_nI_m1_lt, hz_nI_lt_m1, hz_nI_m1_le, hz_nI_le_m1, hz_nI_eq_m1, hz_nI_m1_eq, hz_bI0, if_pos, if_neg, if_true, if_false, Option.bind_some, Prod.eta, reduceCtorEq]
      · rw [eM0]
        simp (disch := omega) only [hz_nI_lit, hz_nI_add, hz_nI_mul, hz_nI_lt, hz_nI_le, hz_nI_inj, hz_nI_sub, hz_nI_nat, hz_nI_inb, hz_nI_pred, hz_nI_m1_lt, hz_nI_lt_m1, hz_nI_m1_le, hz_nI_le_m1, hz_nI_eq_m1, hz_nI_m1_eq, hz_bI0, if_pos, if_neg, if_true, if_false, Option.bind_some, Prod.eta, reduceCtorEq]
    · refine fin (fs m) ?_ ?_
      · unfold f_Surroundings_freshOne
        simp (disch := omega) only [hz_nI_lit, hz_nI_add, hz_nI_mul, hz_nI_lt, hz_nI_le, hz_nI_inj, hz_nI_sub, hz_nI_nat, hz_nI_inb, hz_nI_pred, hz_nI_m1_lt, hz_nI_lt_m1, hz_nI_m1_le, hz_nI_le_m1, hz_nI_eq_m1, hz_nI_m1_eq, hz_bI0, if_pos, if_neg, if_true, if_false, Option.bind_some, Prod.eta, reduceCtorEq]
      · rw [eM0]
        simp (disch := omega) only [hz_nI_lit, hz_nI_add, hz_nI_mul, hz_nI_lt, hz_nI_le, hz_nI_inj, hz_nI_sub, hz_nI_nat, hz_nI_inb, hz_nI_pred, hz_nI_m1_lt, hz_nI_lt_m1, hz_nI_m1_le, hz_nI_le_m1, hz_nI_eq_m1, hz_nI_m1_eq, hz_bI0, if_pos, if_neg, if_true, if_false, Option.bind_some, Prod.eta, reduceCtorEq]
set_option maxRecDepth 100000 in
theorem hz_o_eq01 (ot : SOut) (b : Bool) : lg_cmp (vp_updL ot (0 : Int32).toNatClampNeg (if b = true then (1 : Int64) else 0) (0 : Int32).toNatClampNeg) (if b = true then (1 : Int64) else 0) = 0 := by
  unfold vp_updL
  rw [if_pos rfl]
  exact hz_cmp_self _
set_option maxRecDepth 100000 in
theorem hz_op_in {ht : SHT} {ot : SOut} {mx : SMixture} {ar : SSurroundings} {tb : STable} {g1 : Int32 × Int32} {g2 : hz_M2} {g3 : hz_M3} {g4 : hz_M3} {g5 : hz_M5} {g6 : Int32 × Int32 × Bool} {g7 : hz_M7} {r : hz_R8} {x y : Int32} (hT : hz_invT tb g4) (hX : hz_invX mx tb.2.1 g4.2.2 g5) (hW : hz_invW ar g6 g7) :
    ∃ k ot' th b, f_Law_in ht ot mx ar tb x y = some (k, ot') ∧ f_Model_in (g1, g2, g3, g4, g5, g6, g7, r) x y = some (b, ((th, g1.2), g2, g3, g4, g5, g6, g7, r)) ∧ hz_ans k ot' th (if b = true then (1 : Int64) else 0) := by
  obtain ⟨t1, t2, t3, t4, M, gen, row, rfl, rfl, hM, hT⟩ := hT
  obtain ⟨mn, mr, ml, pt, am, ix, P, nx, rfl, rfl, hP, hmn, hR, hl, hn1, hn6, hs⟩ := hX
  have hR : hz_prtR t2 row mr ix P := hR
  have hI := hz_ixR_of hR
  have hD := hz_disR_of hR
  obtain ⟨bx, by9, fs, was, B, F, ox, oy, oday, rfl, rfl, rfl, hB, hF, hbd, ho⟩ := hW
  have m1 : (-10000 : Int32).toInt = -10000 := by decide
  have p1 : (10000 : Int32).toInt = 10000 := by decide
  cases hp : (hz_inR x (-10000) 10000 && hz_inR y (-10000) 10000)
  · refine ⟨1, ot, hz_nI 1, false, ?_, ?_, rfl, fun h => absurd h (by decide)⟩
    · unfold f_Law_in f_HT_in
      rw [hz_p_noPoint, hp, Option.bind_some, if_neg (show ¬ (bI (!false) = 0) by decide), Option.bind_some, Sum.elim_inr, if_pos rfl]
    · unfold f_Model_in f_Model_in_18
      rw [hz_q_isPoint, hp, Option.bind_some, hz_goes1, hz_goes1, Option.bind_some, if_pos (show bI false = 0 from rfl)]
      split <;> rfl
  · by_cases c0 : P = 0
    · subst c0
      refine ⟨2, ot, hz_nI 2, false, ?_, ?_, rfl, fun h => absurd h (by decide)⟩
      · unfold f_Law_in f_HT_in
        rw [hz_p_noPoint, hp, Option.bind_some, if_pos (show bI (!true) = 0 from rfl), if_pos (show hz_nI 0 = 0 from rfl), Option.bind_some, Sum.elim_inr, if_neg (show ¬ ((2 : Nat) = 1) by decide), if_pos rfl]
      · unfold f_Model_in f_Model_in_18
        rw [hz_q_isPoint, hp, Option.bind_some, if_pos (show hz_nI 0 ≤ 0 by decide), hz_goes2, Option.bind_some, if_pos (show bI false = 0 from rfl)]
    · have hne : ¬ hz_nI P = 0 := by rw [hz_nI_lit, hz_nI_inj (by omega) (by omega)]; exact c0
      have hnl : ¬ hz_nI P ≤ 0 := by rw [hz_nI_lit, hz_nI_le (by omega) (by omega)]; omega
      have hb : hz_bOk x y := by
        simp only [Bool.and_eq_true] at hp
        exact ⟨(hz_inR_sq m1 p1).mp hp.1, (hz_inR_sq m1 p1).mp hp.2⟩
      have eD := hz_p_dist (mn := mn) (nx := hz_nI nx) (t1 := t1) (t3 := t3) (t4 := t4) (t5 := hz_nI M) (t6 := gen) (day := oday) hP hR hl
      have e1 := hz_p_cov (am := am) (day := oday) hD ho hb
      have e2 := hz_q_isIn (g1 := (hz_nI 0, g1.2)) (g2 := g2) (g3 := g3) (m0 := hz_nI M) (ge := gen) (row := row) (pt := pt) (am := am) (nx := hz_nI nx) (day := oday) (r := ((hz_nI B, bx, by9, was, hz_nI F, fs), r)) hP hI hD ho hb
      generalize hz_isI P row ix am ox oy oday x y = v at *
      have eH : f_HT_in ht (mn, mr, ml, hz_nI P, hz_nI nx) (bx, by9, fs, hz_nI B, hz_nI F, ox, oy, oday) (t1, t2, t3, t4, hz_nI M, gen) x y = some (.inl v) := by
        unfold f_HT_in f_Surroundings_covers
        rw [hz_p_noPoint, hp, Option.bind_some, if_pos (show bI (!true) = 0 from rfl), if_neg hne, eD, Option.bind_some, e1, Option.bind_some, Option.bind_some]
      refine ⟨0, vp_updL ot (0 : Int32).toNatClampNeg (if v = true then (1 : Int64) else 0), hz_nI 0, v, ?_, ?_, rfl, fun _ => hz_o_eq01 ot v⟩
      · unfold f_Law_in
        rw [eH, Option.bind_some, Sum.elim_inl]
        cases v
        · rw [if_pos (show bI false = 0 from rfl), if_pos hz_o_inb]; rfl
        · rw [if_neg (show ¬ (bI true = 0) by decide), if_pos hz_o_inb]; rfl
      · unfold f_Model_in f_Model_in_18
        rw [hz_q_isPoint, hp, Option.bind_some, if_neg hnl, hz_goesT, Option.bind_some, if_neg (show ¬ (bI true = 0) by decide), e2, Option.bind_some]
        cases v
        · rw [if_pos (show bI false = 0 from rfl)]
        · rw [if_neg (show ¬ (bI true = 0) by decide)]
set_option maxRecDepth 100000 in
def hz_invM (ht : SHT) (g8 : Nat → Int32) : Prop := ∀ i, i < 5 → ht i = g8 i
abbrev hz_R9 : Type := Int32 × (Nat → Int32) × (Nat → Int32)
set_option maxRecDepth 100000 in
theorem hz_op_mark {ht : SHT} {g1 : Int32 × Int32} {g2 : hz_M2} {g3 : hz_M3} {g4 : hz_M3} {g5 : hz_M5} {g6 : Int32 × Int32 × Bool} {g7 : hz_M7} {g8 : Nat → Int32} {r : hz_R9} {x y : Int32} (hM : hz_invM ht g8) :
    ∃ k ht' th g8', f_Law_mark ht x y = some (k, ht') ∧ f_Model_mark (g1, g2, g3, g4, g5, g6, g7, g8, r) x y = some ((th, g1.2), g2, g3, g4, g5, g6, g7, g8', r) ∧ th = k ∧ hz_invM ht' g8' := by
  unfold f_Law_mark f_HT_mark f_Model_mark
  rw [hz_q_within, Option.bind_some]
  cases h1 : hz_inR x 0 4
  · refine ⟨1, ht, hz_nI 1, g8, ?_, ?_, rfl, hM⟩
    · unfold hz_inR at h1
      simp only [decide_eq_false_iff_not, Int32.le_iff_toInt_le, show (0 : Int32).toInt = 0 by decide, show (4 : Int32).toInt = 4 by decide] at h1
      by_cases c1 : x < 0
      · rw [if_pos c1, Option.bind_some, Sum.elim_inr, if_pos rfl]
      · rw [if_neg c1, if_neg (by rw [Int32.lt_iff_toInt_lt] at c1 ⊢; simp only [show (0 : Int32).toInt = 0 by decide, show (5 : Int32).toInt = 5 by decide] at *; omega), Option.bind_some, Sum.elim_inr, if_pos rfl]
    · rw [hz_goes1, hz_goes1, Option.bind_some, if_pos (show bI false = 0 from rfl)]
      split <;> rfl
  · obtain ⟨d, d1, d2, rfl⟩ := hz_inR_eq (x := x) (f := 0) (t := 4) (by omega) (by omega) h1
    by_cases cy : y < 0
    · refine ⟨2, ht, hz_nI 2, g8, ?_, ?_, rfl, hM⟩
      · have : ¬ ((0 : Int32) ≤ y) := by rw [Int32.not_le]; exact cy
        rw [if_neg (show ¬ (hz_nI d < 0) by rw [hz_nI_lit, hz_nI_lt (by omega) (by omega)]; omega), if_pos (show hz_nI d < 5 by rw [hz_nI_lit, hz_nI_lt (by omega) (by omega)]; omega), if_neg this, Option.bind_some, Sum.elim_inr, if_neg (show ¬ ((1 : Nat) = 0) by decide), if_pos rfl]
      · rw [if_pos cy, hz_goes2, Option.bind_some, if_pos (show bI false = 0 from rfl)]
    · refine ⟨0, upd ht d y, hz_nI 0, upd g8 d y, ?_, ?_, rfl, ?_⟩
      · have : (0 : Int32) ≤ y := by rw [← Int32.not_lt]; exact cy
        have eH : (if hz_nI d < 0 then (some (Sum.inr (0, ht)) : Option (SHT ⊕ (Nat × SHT))) else if hz_nI d < (5 : Int32) then if (0 : Int32) ≤ y then if inb (hz_nI d) 5 then some (Sum.inl (upd ht (hz_nI d).toNatClampNeg y)) else none else some (Sum.inr (1, ht)) else some (Sum.inr (0, ht))) = some (Sum.inl (upd ht d y)) := by
          rw [if_neg (show ¬ (hz_nI d < 0) by rw [hz_nI_lit, hz_nI_lt (by omega) (by omega)]; omega), if_pos (show hz_nI d < 5 by rw [hz_nI_lit, hz_nI_lt (by omega) (by omega)]; omega), if_pos this]
          simp (disch := omega) only [hz_nI_lit, hz_nI_add, hz_nI_mul, hz_nI_lt, hz_nI_le, hz_nI_inj, hz_nI_sub, hz_nI_nat, hz_nI_inb, hz_nI_pred, hz_nI_m1_lt, hz_nI_lt_m1, hz_nI_m1_le, hz_nI_le_m1, hz_nI_eq_m1, hz_nI_m1_eq, hz_bI0, if_pos, if_neg, if_true, if_false, Option.bind_some, Prod.eta, reduceCtorEq]
        rw [eH, Option.bind_some, Sum.elim_inl]
      · rw [if_neg cy, hz_goesT, Option.bind_some, if_neg (show ¬ (bI true = 0) by decide)]
        simp (disch := omega) only [hz_nI_lit, hz_nI_add, hz_nI_mul, hz_nI_lt, hz_nI_le, hz_nI_inj, hz_nI_sub, hz_nI_nat, hz_nI_inb, hz_nI_pred, hz_nI_m1_lt, hz_nI_lt_m1, hz_nI_m1_le, hz_nI_le_m1, hz_nI_eq_m1, hz_nI_m1_eq, hz_bI0, if_pos, if_neg, if_true, if_false, Option.bind_some, Prod.eta, reduceCtorEq]
      · intro i hi
        by_cases hid : i = d
        · subst hid; rw [hz_upd_eq, hz_upd_eq]
        · rw [hz_upd_ne hid, hz_upd_ne hid]; exact hM i hi
set_option maxRecDepth 100000 in
theorem hz_op_over {ht : SHT} {ot : SOut} {g1 : Int32 × Int32} {g2 : hz_M2} {g3 : hz_M3} {g4 : hz_M3} {g5 : hz_M5} {g6 : Int32 × Int32 × Bool} {g7 : hz_M7} {g8 : Nat → Int32} {r : hz_R9} {x y : Int32} (hM : hz_invM ht g8) :
    ∃ k ot' th b, f_Law_over ht ot x y = some (k, ot') ∧ f_Model_over (g1, g2, g3, g4, g5, g6, g7, g8, r) x y = some (b, ((th, g1.2), g2, g3, g4, g5, g6, g7, g8, r)) ∧ hz_ans k ot' th (if b = true then (1 : Int64) else 0) := by
  cases h1 : hz_inR x 0 4
  · refine ⟨1, ot, hz_nI 1, false, ?_, ?_, rfl, fun h => absurd h (by decide)⟩
    · have eH : f_HT_over ht x y = some (.inr (0, ())) := by
        unfold f_HT_over
        unfold hz_inR at h1
        simp only [decide_eq_false_iff_not, Int32.le_iff_toInt_le, show (0 : Int32).toInt = 0 by decide, show (4 : Int32).toInt = 4 by decide] at h1
        by_cases c1 : x < 0
        · rw [if_pos c1]
        · rw [if_neg c1, if_neg (by rw [Int32.lt_iff_toInt_lt] at c1 ⊢; simp only [show (0 : Int32).toInt = 0 by decide, show (5 : Int32).toInt = 5 by decide] at *; omega)]
      unfold f_Law_over
      rw [eH, Option.bind_some, Sum.elim_inr, if_pos rfl]
    · unfold f_Model_over
      rw [hz_q_within, h1, Option.bind_some, hz_goes1, Option.bind_some, if_pos (show bI false = 0 from rfl)]
  · obtain ⟨d, d1, d2, rfl⟩ := hz_inR_eq (x := x) (f := 0) (t := 4) (by omega) (by omega) h1
    have hd := hM d (by omega)
    have eH : f_HT_over ht (hz_nI d) y = some (.inl (decide (¬ y < ht d))) := by
      unfold f_HT_over
      by_cases c : y < ht d
      · simp (disch := omega) only [hz_nI_lit, hz_nI_add, hz_nI_mul, hz_nI_lt, hz_nI_le, hz_nI_inj, hz_nI_sub, hz_nI_nat, hz_nI_inb, hz_nI_pred, hz_nI_m1_lt, hz_nI_lt_m1, hz_nI_m1_le, hz_nI_le_m1, hz_nI_eq_m1, hz_nI_m1_eq, hz_bI0, if_pos, if_neg, if_true, if_false, Option.bind_some, Prod.eta, reduceCtorEq, c, not_true_eq_false, decide_false]
      · simp (disch := omega) only [hz_nI_lit, hz_nI_add, hz_nI_mul, hz_nI_lt, hz_nI_le, hz_nI_inj, hz_nI_sub, hz_nI_nat, hz_nI_inb, hz_nI_pred, hz_nI_m1_lt, hz_nI_lt_m1, hz_nI_m1_le, hz_nI_le_m1, hz_nI_eq_m1, hz_nI_m1_eq, hz_bI0, if_pos, if_neg, if_true, if_false, Option.bind_some, Prod.eta, reduceCtorEq, c, not_false_eq_true, decide_true]
    have eM : f_Model_over (g1, g2, g3, g4, g5, g6, g7, g8, r) (hz_nI d) y = some (decide (¬ y < ht d), ((hz_nI 0, g1.2), g2, g3, g4, g5, g6, g7, g8, r)) := by
      unfold f_Model_over
      rw [hz_q_within, h1, Option.bind_some, hz_goesT, Option.bind_some, if_neg (show ¬ (bI true = 0) by decide), hd]
      by_cases c : y < g8 d
      · simp (disch := omega) only [hz_nI_lit, hz_nI_add, hz_nI_mul, hz_nI_lt, hz_nI_le, hz_nI_inj, hz_nI_sub, hz_nI_nat, hz_nI_inb, hz_nI_pred, hz_nI_m1_lt, hz_nI_lt_m1, hz_nI_m1_le, hz_nI_le_m1, hz_nI_eq_m1, hz_nI_m1_eq, hz_bI0, if_pos, if_neg, if_true, if_false, Option.bind_some, Prod.eta, reduceCtorEq, c, not_true_eq_false, decide_false]
      · simp (disch := omega) only [hz_nI_lit, hz_nI_add, hz_nI_mul, hz_nI_lt, hz_nI_le, hz_nI_inj, hz_nI_sub, hz_nI_nat, hz_nI_inb, hz_nI_pred, hz_nI_m1_lt, hz_nI_lt_m1, hz_nI_m1_le, hz_nI_le_m1, hz_nI_eq_m1, hz_nI_m1_eq, hz_bI0, if_pos, if_neg, if_true, if_false, Option.bind_some, Prod.eta, reduceCtorEq, c, not_false_eq_true, decide_true]
    generalize decide (¬ y < ht d) = v at *
    refine ⟨0, vp_updL ot (0 : Int32).toNatClampNeg (if v = true then (1 : Int64) else 0), hz_nI 0, v, ?_, eM, rfl, fun _ => hz_o_eq01 ot v⟩
    unfold f_Law_over
    rw [eH, Option.bind_some, Sum.elim_inl]
    cases v
    · rw [if_pos (show bI false = 0 from rfl), if_pos hz_o_inb]; rfl
    · rw [if_neg (show ¬ (bI true = 0) by decide), if_pos hz_o_inb]; rfl
