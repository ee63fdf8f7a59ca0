set_option maxRecDepth 100000 in
theorem hz_q_find_2 {g1 : Int32 × Int32} {g2 : hz_M2} {g3 : hz_M3} {M : Nat} {gen : Bool} {row : Nat → Int32} {g5 : hz_M5} {r : hz_MQ9} {x : Int32} (hM : M ≤ 12) : ∀ j n k, k + j = M → j < n → f_Model_find_2 n (g1, g2, g3, (hz_nI M, gen, row), g5, r) x (hz_nI k) = some (hz_ixI (hz_fndT (fun k => row (k * 43)) x j k) 0)
  | 0, n + 1, k, h1, h2 => by
    rw [f_Model_find_2]
    simp only [hz_fndT, hz_ixI]
    simp (disch := omega) only [hz_nI_lit, hz_nI_add, hz_nI_mul, hz_nI_lt, hz_nI_le, hz_nI_inj, hz_nI_sub, hz_nI_nat, hz_nI_inb, hz_nI_pred, hz_nI_m1_lt, hz_nI_lt_m1, hz_nI_m1_le, hz_nI_le_m1, hz_nI_eq_m1, hz_nI_m1_eq, hz_bI0, if_pos, if_neg, if_true, if_false, Option.bind_some, Prod.eta, reduceCtorEq]
  | j + 1, n + 1, k, h1, h2 => by
    have ih := hz_q_find_2 (g1 := g1) (g2 := g2) (g3 := g3) (gen := gen) (row := row) (g5 := g5) (r := r) (x := x) hM j n (k + 1) (by omega) (by omega)
    rw [f_Model_find_2]
    unfold hz_fndT
    by_cases c : row (k * 43) = x
    · rw [if_pos c]
      simp only [hz_ixI]
      simp (disch := omega) only [hz_nI_lit, hz_nI_add, hz_nI_mul, hz_nI_lt, hz_nI_le, hz_nI_inj, hz_nI_sub, hz_nI_nat, hz_nI_inb, hz_nI_pred, hz_nI_m1_lt, hz_nI_lt_m1, hz_nI_m1_le, hz_nI_le_m1, hz_nI_eq_m1, hz_nI_m1_eq, hz_bI0, if_pos, if_neg, if_true, if_false, Option.bind_some, Prod.eta, reduceCtorEq, c, Nat.add_zero]
    · rw [if_neg c, ← ih]
      simp (disch := omega) only [hz_nI_lit, hz_nI_add, hz_nI_mul, hz_nI_lt, hz_nI_le, hz_nI_inj, hz_nI_sub, hz_nI_nat, hz_nI_inb, hz_nI_pred, hz_nI_m1_lt, hz_nI_lt_m1, hz_nI_m1_le, hz_nI_le_m1, hz_nI_eq_m1, hz_nI_m1_eq, hz_bI0, if_pos, if_neg, if_true, if_false, Option.bind_some, Prod.eta, reduceCtorEq, c, Nat.add_zero]
set_option maxRecDepth 100000 in
theorem hz_q_find {g1 : Int32 × Int32} {g2 : hz_M2} {g3 : hz_M3} {M : Nat} {gen : Bool} {row : Nat → Int32} {g5 : hz_M5} {r : hz_MQ9} {x : Int32} (hM : M ≤ 12) : f_Model_find (g1, g2, g3, (hz_nI M, gen, row), g5, r) x = some (hz_ixI (hz_fndT (fun k => row (k * 43)) x M 0) 0) := by
  unfold f_Model_find
  exact hz_q_find_2 hM M 4096 0 (by omega) (by omega)
set_option maxRecDepth 100000 in
theorem hz_tab_num {t1 t2 t3 t4 row : Nat → Int32} {M : Nat} {gen : Bool} {x : Int32} (hT : hz_tabR t1 t2 t3 t4 row M gen) : hz_fndT (fun k => t1 (k + 1)) x M 0 = hz_fndT (fun k => row (k * 43)) x M 0 := hz_fndT_congr M 0 (fun i _ hi => by
  obtain ⟨⟨v9, _, _, h3, h4⟩, _⟩ := hT.1 i (by omega)
  show t1 (i + 1) = row (i * 43)
  rw [h3, h4])
set_option maxRecDepth 100000 in
theorem hz_p_others {t1 t2 t3 t4 : Nat → Int32} {t5 : Int32} {gen : Bool} : f_Table_rowOfOthers (t1, t2, t3, t4, t5, gen) = some (if gen = true then hz_nI 0 else -hz_nI 1) := by
  unfold f_Table_rowOfOthers
  cases gen <;> rfl
set_option maxRecDepth 100000 in
theorem hz_op_material {ht : SHT} {ot : SOut} {tb : STable} {g1 : Int32 × Int32} {g2 : hz_M2} {g3 : hz_M3} {g4 : hz_M3} {g5 : hz_M5} {r : hz_MQ9} {x y : Int32} (hT : hz_invT tb g4) :
    ∃ k ot' th b, f_Law_material ht ot tb x y = some (k, ot') ∧ f_Model_material (g1, g2, g3, g4, g5, r) x y = some (b, ((th, g1.2), g2, g3, g4, g5, r)) ∧ hz_ans k ot' th b.toInt64 := by
  obtain ⟨t1, t2, t3, t4, M, gen, row, rfl, rfl, hM, hT⟩ := hT
  have main : ∀ c k, c ≤ 12 → k ≤ 12 → hz_cellsR t2 row c (k * 43) → f_HT_material ht (t1, t2, t3, t4, hz_nI M, gen) x y = f_HT_material_22 ht (t1, t2, t3, t4, hz_nI M, gen) y (hz_nI c) → f_Model_material (g1, g2, g3, (hz_nI M, gen, row), g5, r) x y = f_Model_material_25 (g1, g2, g3, (hz_nI M, gen, row), g5, r) y (hz_nI k) → ∃ k ot' th b, f_Law_material ht ot (t1, t2, t3, t4, hz_nI M, gen) x y = some (k, ot') ∧ f_Model_material (g1, g2, g3, (hz_nI M, gen, row), g5, r) x y = some (b, ((th, g1.2), g2, g3, (hz_nI M, gen, row), g5, r)) ∧ hz_ans k ot' th b.toInt64 := by
    intro c k hc hk hcel eC eM
    cases h1 : hz_inR y 0 8
    · refine ⟨1, ot, 1, 0, ?_, ?_, rfl, fun h => absurd h (by decide)⟩
      · unfold f_Law_material
        rw [eC]
        have : f_HT_material_22 ht (t1, t2, t3, t4, hz_nI M, gen) y (hz_nI c) = some (.inr (0, ())) := by
          unfold f_HT_material_22
          rw [if_neg (show ¬ (hz_nI c = -1) by rw [show (-1 : Int32) = -hz_nI 1 from rfl, hz_nI_eq_m1 (by omega)]; exact id)]
          unfold hz_inR at h1
          simp only [decide_eq_false_iff_not, Int32.lt_iff_toInt_lt, Int32.le_iff_toInt_le, show (0 : Int32).toInt = 0 by decide, show (8 : Int32).toInt = 8 by decide] at h1
          by_cases c1 : y < 0
          · rw [if_pos c1]
          · rw [if_neg c1, if_neg (by rw [Int32.lt_iff_toInt_lt] at c1 ⊢; simp only [show (0 : Int32).toInt = 0 by decide, show (9 : Int32).toInt = 9 by decide] at *; omega)]
        rw [this, Option.bind_some, Sum.elim_inr, if_pos rfl]
      · rw [eM]
        unfold f_Model_material_25 f_Model_material_45 f_Model_material_46
        rw [if_neg (show ¬ (hz_nI k < 0) by rw [hz_nI_lit, hz_nI_lt (by omega) (by omega)]; omega), hz_q_within, h1, Option.bind_some, if_pos (show bI false = 0 from rfl), hz_goes1, Option.bind_some, if_pos (show bI false = 0 from rfl), hz_nI_lit, hz_nI_lit]
    · obtain ⟨d, d1, d2, rfl⟩ := hz_inR_eq (x := y) (f := 0) (t := 8) (by omega) (by omega) h1
      refine ⟨0, vp_updL ot (0 : Int32).toNatClampNeg (t2 (c * 9 + d)).toInt64, 0, t2 (c * 9 + d), ?_, ?_, rfl, fun _ => hz_o_eq ot _⟩
      · unfold f_Law_material
        rw [eC]
        have : f_HT_material_22 ht (t1, t2, t3, t4, hz_nI M, gen) (hz_nI d) (hz_nI c) = some (.inl (t2 (c * 9 + d))) := by
          unfold f_HT_material_22
          simp (disch := omega) only [hz_nI_lit, hz_nI_add, hz_nI_mul, hz_nI_lt, hz_nI_le, hz_nI_inj, hz_nI_sub, hz_nI_nat, hz_nI_inb, hz_nI_pred, hz_nI_m1_lt, hz_nI_lt_m1, hz_nI_m1_le, hz_nI_le_m1, hz_nI_eq_m1, hz_nI_m1_eq, hz_bI0, if_pos, if_neg, if_true, if_false, Option.bind_some, Prod.eta, reduceCtorEq, hz_p_cell hc (show d < 9 by omega)]
        rw [this, Option.bind_some]
        simp only [Sum.elim_inl]
        rw [if_pos hz_o_inb]
      · rw [eM, hcel.1 d (by omega)]
        unfold f_Model_material_25 f_Model_material_45 f_Model_material_46
        rw [if_neg (show ¬ (hz_nI k < 0) by rw [hz_nI_lit, hz_nI_lt (by omega) (by omega)]; omega), hz_q_within, h1, Option.bind_some, if_neg (show ¬ (bI true = 0) by decide), hz_goesT, Option.bind_some, if_neg (show ¬ (bI true = 0) by decide)]
        by_cases c3 : 3 ≤ d
        · by_cases c7 : 7 ≤ d
          · by_cases c8 : d = 7
            · subst c8
              simp (disch := omega) only [hz_nI_lit, hz_nI_add, hz_nI_mul, hz_nI_lt, hz_nI_le, hz_nI_inj, hz_nI_sub, hz_nI_nat, hz_nI_inb, hz_nI_pred, hz_nI_m1_lt, hz_nI_lt_m1, hz_nI_m1_le, hz_nI_le_m1, hz_nI_eq_m1, hz_nI_m1_eq, hz_bI0, if_pos, if_neg, if_true, if_false, Option.bind_some, Prod.eta, reduceCtorEq]
            · have : d = 8 := by omega
              subst this
              simp (disch := omega) only [hz_nI_lit, hz_nI_add, hz_nI_mul, hz_nI_lt, hz_nI_le, hz_nI_inj, hz_nI_sub, hz_nI_nat, hz_nI_inb, hz_nI_pred, hz_nI_m1_lt, hz_nI_lt_m1, hz_nI_m1_le, hz_nI_le_m1, hz_nI_eq_m1, hz_nI_m1_eq, hz_bI0, if_pos, if_neg, if_true, if_false, Option.bind_some, Prod.eta, reduceCtorEq]
          · simp (disch := omega) only [hz_nI_lit, hz_nI_add, hz_nI_mul, hz_nI_lt, hz_nI_le, hz_nI_inj, hz_nI_sub, hz_nI_nat, hz_nI_inb, hz_nI_pred, hz_nI_m1_lt, hz_nI_lt_m1, hz_nI_m1_le, hz_nI_le_m1, hz_nI_eq_m1, hz_nI_m1_eq, hz_bI0, if_pos, if_neg, if_true, if_false, Option.bind_some, Prod.eta, reduceCtorEq, show 4 + d - 3 = 1 + d by omega]
            rw [show k * 43 + (1 + d) = k * 43 + 1 + d by omega]
        · simp (disch := omega) only [hz_nI_lit, hz_nI_add, hz_nI_mul, hz_nI_lt, hz_nI_le, hz_nI_inj, hz_nI_sub, hz_nI_nat, hz_nI_inb, hz_nI_pred, hz_nI_m1_lt, hz_nI_lt_m1, hz_nI_m1_le, hz_nI_le_m1, hz_nI_eq_m1, hz_nI_m1_eq, hz_bI0, if_pos, if_neg, if_true, if_false, Option.bind_some, Prod.eta, reduceCtorEq]
          rw [show k * 43 + (1 + d) = k * 43 + 1 + d by omega]
  have refuse : f_HT_material ht (t1, t2, t3, t4, hz_nI M, gen) x y = f_HT_material_22 ht (t1, t2, t3, t4, hz_nI M, gen) y (-hz_nI 1) → f_Model_material (g1, g2, g3, (hz_nI M, gen, row), g5, r) x y = f_Model_material_25 (g1, g2, g3, (hz_nI M, gen, row), g5, r) y (-hz_nI 1) → ∃ k ot' th b, f_Law_material ht ot (t1, t2, t3, t4, hz_nI M, gen) x y = some (k, ot') ∧ f_Model_material (g1, g2, g3, (hz_nI M, gen, row), g5, r) x y = some (b, ((th, g1.2), g2, g3, (hz_nI M, gen, row), g5, r)) ∧ hz_ans k ot' th b.toInt64 := by
    intro eC eM
    refine ⟨1, ot, 1, 0, ?_, ?_, rfl, fun h => absurd h (by decide)⟩
    · unfold f_Law_material
      rw [eC]
      unfold f_HT_material_22
      rw [if_pos (show -hz_nI 1 = -1 from rfl), Option.bind_some, Sum.elim_inr, if_pos rfl]
    · rw [eM]
      unfold f_Model_material_25 f_Model_material_45 f_Model_material_46
      rw [if_pos (show -hz_nI 1 < (0 : Int32) by decide), hz_goes1, Option.bind_some, if_pos (show bI false = 0 from rfl), hz_nI_lit, hz_nI_lit]
  by_cases c0 : x = 0
  · cases gen
    · refine refuse ?_ ?_
      · unfold f_HT_material; rw [if_pos c0, hz_p_others, Option.bind_some, if_neg (by decide)]
      · unfold f_Model_material; rw [if_pos c0, if_pos (show bI false = 0 from rfl), hz_nI_lit]
    · refine main 0 12 (by omega) (by omega) (hT.2.2 rfl) ?_ ?_
      · unfold f_HT_material; rw [if_pos c0, hz_p_others, Option.bind_some, if_pos rfl]
      · unfold f_Model_material; rw [if_pos c0, if_neg (show ¬ (bI true = 0) by decide), hz_nI_lit]
  · have eC : f_HT_material ht (t1, t2, t3, t4, hz_nI M, gen) x y = f_HT_material_22 ht (t1, t2, t3, t4, hz_nI M, gen) y (hz_ixI (hz_fndT (fun k => row (k * 43)) x M 0) 1) := by
      unfold f_HT_material; rw [if_neg c0, hz_p_rowOf hM, hz_tab_num hT, Option.bind_some]
    have eM : f_Model_material (g1, g2, g3, (hz_nI M, gen, row), g5, r) x y = f_Model_material_25 (g1, g2, g3, (hz_nI M, gen, row), g5, r) y (hz_ixI (hz_fndT (fun k => row (k * 43)) x M 0) 0) := by
      unfold f_Model_material; rw [if_neg c0, hz_q_find hM, Option.bind_some]
    cases hf : hz_fndT (fun k => row (k * 43)) x M 0 with
    | none =>
      rw [hf] at eC eM
      exact refuse eC eM
    | some q =>
      have hq := hz_fndT_some M 0 q hf
      rw [hf] at eC eM
      exact main (q + 1) q (by omega) (by omega) (hT.1 q (by omega)).2.1 eC eM
set_option maxRecDepth 100000 in
theorem hz_op_strict {ht : SHT} {ot : SOut} {mx : SMixture} {tb : STable} {g1 : Int32 × Int32} {g2 : hz_M2} {g3 : hz_M3} {g4 : hz_M3} {g5 : hz_M5} {r : hz_MQ9} {x : Int32} (hT : hz_invT tb g4) (hX : hz_invX mx tb.2.1 g4.2.2 g5) :
    ∃ k ot' th b, f_Law_strict ht ot mx tb x = some (k, ot') ∧ f_Model_strict (g1, g2, g3, g4, g5, r) x = some (b, ((th, g1.2), g2, g3, g4, g5, r)) ∧ hz_ans k ot' th b.toInt64 := by
  obtain ⟨t1, t2, t3, t4, M, gen, row, rfl, rfl, hM, hT⟩ := hT
  obtain ⟨mn, mr, ml, pt, am, ix, P, nx, rfl, rfl, hP, hmn, hR, hl, hn1, hn6, hs⟩ := hX
  have hR : hz_prtR t2 row mr ix P := hR
  have hI := hz_ixR_of hR
  by_cases c : x < 0
  · refine ⟨1, ot, 1, 0, ?_, ?_, rfl, fun h => absurd h (by decide)⟩
    · unfold f_Law_strict f_HT_strict
      rw [if_neg (by rw [Int32.not_le]; exact c)]
      rfl
    · unfold f_Model_strict f_Model_strict_10
      rw [if_pos c, hz_goes1, Option.bind_some, if_pos (show bI false = 0 from rfl)]
      rfl
  · obtain ⟨m, hm, rfl, _⟩ := hz_nI_of (x := x) (by rw [Int32.lt_iff_toInt_lt] at c; simp only [show (0 : Int32).toInt = 0 by decide] at c; omega)
    have e1 := hz_p_strictest (mn := mn) (ml := ml) (nx := hz_nI nx) (t1 := t1) (t3 := t3) (t4 := t4) (t5 := hz_nI M) (t6 := gen) hm hP hR
    have e2 := hz_q_strict_24 (g1 := (hz_nI 0, g1.2)) (g2 := g2) (g3 := g3) (m0 := hz_nI M) (ge := gen) (row := row) (pt := pt) (am := am) (nx := hz_nI nx) (r := r) hP hI P 4096 0 m (by omega) (by omega) hm
    rw [hz_ixG_congr hmn] at e1
    refine ⟨0, vp_updL ot (0 : Int32).toNatClampNeg (hz_ixG pt (hz_strT (fun i => hz_pD row ix i 1) (hz_maxT (fun i => hz_pD row ix i 1) P 0 (hz_nI 0)) P 0 m)).toInt64, 0, _, ?_, ?_, rfl, fun _ => hz_o_eq ot _⟩
    · unfold f_Law_strict f_HT_strict
      rw [if_pos (by rw [← Int32.not_lt]; exact c), e1, Option.bind_some, Option.bind_some]
      simp only [Sum.elim_inl]
      rw [if_pos hz_o_inb]
    · unfold f_Model_strict f_Model_strict_10
      rw [if_neg c, hz_goesT, Option.bind_some, if_neg (show ¬ (bI true = 0) by decide)]
      exact e2
set_option maxRecDepth 100000 in
theorem hz_op_clear {ht : SHT} {mx : SMixture} {t2 row : Nat → Int32} {g1 : Int32 × Int32} {g2 : hz_M2} {g3 : hz_M3} {g4 : hz_M3} {g5 : hz_M5} {r : hz_MQ9} (hX : hz_invX mx t2 row g5) :
    ∃ mx' g5' th, f_HT_clear ht mx = some mx' ∧ f_Model_clear (g1, g2, g3, g4, g5, r) = some ((th, g1.2), g2, g3, g4, g5', r) ∧ hz_invX mx' t2 row g5' := by
  obtain ⟨mn, mr, ml, pt, am, ix, P, nx, rfl, rfl, hP, hmn, hR, hl, hn1, hn6, hs⟩ := hX
  exact ⟨_, _, _, rfl, rfl, mn, mr, ml, pt, am, ix, 0, 1, rfl, rfl, by omega, fun i hi => by omega, fun i hi => by omega, fun i hi => by omega, by omega, by omega, Or.inl (by omega)⟩
