set_option maxRecDepth 100000 in
theorem hz_maxT_succ (f : Nat → Int32) : ∀ n i b, hz_maxT f (n + 1) i b = if hz_maxT f n i b < f (i + n) then f (i + n) else hz_maxT f n i b
  | 0, i, b => rfl
  | n + 1, i, b => by
    have := hz_maxT_succ f n (i + 1) (if b < f i then f i else b)
    rw [hz_maxT, this, show i + 1 + n = i + (n + 1) by omega]
    rfl
set_option maxRecDepth 100000 in
theorem hz_maxT_congr {f g : Nat → Int32} : ∀ n i b, (∀ j, i ≤ j → j < i + n → f j = g j) → hz_maxT f n i b = hz_maxT g n i b
  | 0, i, b, h => rfl
  | n + 1, i, b, h => by
    unfold hz_maxT
    rw [h i (by omega) (by omega), hz_maxT_congr n (i + 1) _ (fun j h1 h2 => h j (by omega) (by omega))]
set_option maxRecDepth 100000 in
theorem hz_op_step {ht : SHT} {ot : SOut} {mx : SMixture} {tb : STable} {g1 : Int32 × Int32} {g2 : hz_M2} {g3 : hz_M3} {g4 : hz_M3} {g5 : hz_M5} {r : hz_MQ9} {x : Int32} (hT : hz_invT tb g4) (hX : hz_invX mx tb.2.1 g4.2.2 g5) :
    ∃ k ot' mx' th b g5', f_Law_step ht ot mx tb x = some (k, ot', mx') ∧ f_Model_step (g1, g2, g3, g4, g5, r) x = some (b, ((th, g1.2), g2, g3, g4, g5', r)) ∧ hz_ans k ot' th b.toInt64 ∧ hz_invX mx' tb.2.1 g4.2.2 g5' := by
  have hX0 := hX
  obtain ⟨t1, t2, t3, t4, M, gen, row, rfl, rfl, hM, hT⟩ := hT
  obtain ⟨mn, mr, ml, pt, am, ix, P, nx, rfl, rfl, hP, hmn, hR, hl, hn1, hn6, hs⟩ := hX
  have hR : hz_prtR t2 row mr ix P := hR
  have hI := hz_ixR_of hR
  have ref : ∀ k9 : Nat, (k9 = 1 ∨ k9 = 2) → f_HT_step ht (mn, mr, ml, hz_nI P, hz_nI nx) (t1, t2, t3, t4, hz_nI M, gen) x = some (.inr (k9, (mn, mr, ml, hz_nI P, hz_nI nx))) → f_Model_step (g1, g2, g3, (hz_nI M, gen, row), (hz_nI P, pt, am, ix, hz_nI nx), r) x = some (hz_nI 0, ((hz_nI k9, g1.2), g2, g3, (hz_nI M, gen, row), (hz_nI P, pt, am, ix, hz_nI nx), r)) → ∃ k ot' mx' th b g5', f_Law_step ht ot (mn, mr, ml, hz_nI P, hz_nI nx) (t1, t2, t3, t4, hz_nI M, gen) x = some (k, ot', mx') ∧ f_Model_step (g1, g2, g3, (hz_nI M, gen, row), (hz_nI P, pt, am, ix, hz_nI nx), r) x = some (b, ((th, g1.2), g2, g3, (hz_nI M, gen, row), g5', r)) ∧ hz_ans k ot' th b.toInt64 ∧ hz_invX mx' t2 row g5' := by
    intro k9 hk eC eM
    rcases hk with rfl | rfl
    · refine ⟨1, ot, _, hz_nI 1, _, _, ?_, eM, ⟨rfl, fun h => absurd h (by decide)⟩, hX0⟩
      unfold f_Law_step
      rw [eC, Option.bind_some, Sum.elim_inr, if_pos rfl]
    · refine ⟨2, ot, _, hz_nI 2, _, _, ?_, eM, ⟨rfl, fun h => absurd h (by decide)⟩, hX0⟩
      unfold f_Law_step
      rw [eC, Option.bind_some, Sum.elim_inr, if_neg (show ¬ ((2 : Nat) = 1) by decide), if_pos rfl]
  cases h1 : hz_inR x 1 6
  · refine ref 1 (Or.inl rfl) ?_ ?_
    · unfold f_HT_step
      rw [hz_p_isOutside, h1, Option.bind_some, if_neg (show ¬ (bI (!false) = 0) by decide)]
    · unfold f_Model_step f_Model_step_27 f_Model_step_28
      rw [hz_q_within, h1, Option.bind_some, hz_goes1, hz_goes1, Option.bind_some, if_pos (show bI false = 0 from rfl), hz_nI_lit]
      split
      · rfl
      · split <;> rfl
  · by_cases hP0 : P = 0
    · subst hP0
      refine ref 2 (Or.inr rfl) ?_ ?_
      · unfold f_HT_step
        rw [hz_p_isOutside, h1, Option.bind_some, if_pos (show bI (!true) = 0 from rfl), if_pos (show hz_nI 0 = 0 from rfl)]
      · unfold f_Model_step f_Model_step_27 f_Model_step_28
        rw [hz_q_within, h1, Option.bind_some, if_pos (show hz_nI 0 ≤ 0 by decide), hz_goes2, Option.bind_some, if_pos (show bI false = 0 from rfl), hz_nI_lit]
    · have hne : ¬ hz_nI P = 0 := by rw [hz_nI_lit, hz_nI_inj (by omega) (by omega)]; exact hP0
      have hnl : ¬ hz_nI P ≤ 0 := by rw [hz_nI_lit, hz_nI_le (by omega) (by omega)]; omega
      by_cases cx : x = hz_nI nx
      · subst cx
        have eS := hz_p_strict (mn := mn) (ml := ml) (nx := hz_nI nx) (t1 := t1) (t3 := t3) (t4 := t4) (t5 := hz_nI M) (t6 := gen) hP hR
        have fS := hz_q_strict (g1 := (hz_nI 0, g1.2)) (g2 := g2) (g3 := g3) (m0 := hz_nI M) (ge := gen) (row := row) (pt := pt) (am := am) (nx := hz_nI nx) (r := r) hP hI
        have hs : nx ≤ 3 ∨ hz_nI 5 ≤ hz_maxT (fun i => hz_pD row ix i 1) P 0 (hz_nI 0) := hs
        generalize hS : hz_maxT (fun i => hz_pD row ix i 1) P 0 (hz_nI 0) = S at *
        have fin : ∀ n', 1 ≤ n' → n' ≤ 6 → (n' ≤ 3 ∨ hz_nI 5 ≤ S) → f_Mixture_goOn (mn, mr, ml, hz_nI P, hz_nI nx) (t1, t2, t3, t4, hz_nI M, gen) = some (hz_nI n', (mn, mr, ml, hz_nI P, hz_nI n')) → f_Model_step (g1, g2, g3, (hz_nI M, gen, row), (hz_nI P, pt, am, ix, hz_nI nx), r) (hz_nI nx) = some (hz_nI n', ((hz_nI 0, g1.2), g2, g3, (hz_nI M, gen, row), (hz_nI P, pt, am, ix, hz_nI n'), r)) → ∃ k ot' mx' th b g5', f_Law_step ht ot (mn, mr, ml, hz_nI P, hz_nI nx) (t1, t2, t3, t4, hz_nI M, gen) (hz_nI nx) = some (k, ot', mx') ∧ f_Model_step (g1, g2, g3, (hz_nI M, gen, row), (hz_nI P, pt, am, ix, hz_nI nx), r) (hz_nI nx) = some (b, ((th, g1.2), g2, g3, (hz_nI M, gen, row), g5', r)) ∧ hz_ans k ot' th b.toInt64 ∧ hz_invX mx' t2 row g5' := by
          intro n' hn1' hn6' hn' eC eM
          refine ⟨0, vp_updL ot (0 : Int32).toNatClampNeg (hz_nI n').toInt64, (mn, mr, ml, hz_nI P, hz_nI n'), hz_nI 0, hz_nI n', _, ?_, eM, ⟨rfl, fun _ => hz_o_eq ot _⟩, mn, mr, ml, pt, am, ix, P, n', rfl, rfl, hP, hmn, hR, hl, hn1', hn6', ?_⟩
          · unfold f_Law_step f_HT_step
            rw [hz_p_isOutside, h1, Option.bind_some, if_pos (show bI (!true) = 0 from rfl), if_neg hne, if_pos rfl, eC, Option.bind_some, Option.bind_some, Sum.elim_inl, if_pos hz_o_inb]
          · rw [hS]; exact hn'
        have eM0 : f_Model_step (g1, g2, g3, (hz_nI M, gen, row), (hz_nI P, pt, am, ix, hz_nI nx), r) (hz_nI nx) = if (5 : Int32) ≤ S then f_Model_step_53 ((hz_nI 0, g1.2), g2, g3, (hz_nI M, gen, row), (hz_nI P, pt, am, ix, hz_nI nx), r) (hz_nI nx) (hz_nI nx) 6 else f_Model_step_53 ((hz_nI 0, g1.2), g2, g3, (hz_nI M, gen, row), (hz_nI P, pt, am, ix, hz_nI nx), r) (hz_nI nx) (hz_nI nx) 3 := by
          unfold f_Model_step f_Model_step_28
          rw [hz_q_within, h1, Option.bind_some, if_neg hnl, if_pos rfl, hz_goesT, Option.bind_some, if_neg (show ¬ (bI true = 0) by decide), fS, Option.bind_some]
        by_cases c5 : (5 : Int32) ≤ S
        · by_cases c6 : nx = 6
          · subst c6
            refine fin 1 (by omega) (by omega) (Or.inl (by omega)) ?_ ?_
            · unfold f_Mixture_goOn f_Mixture_goOn_15
              rw [eS, Option.bind_some, if_pos c5, if_pos (show (6 : Int32) ≤ hz_nI 6 by decide)]
              rfl
            · rw [eM0, if_pos c5]
              unfold f_Model_step_53
              rw [if_pos (show hz_nI 6 = 6 from rfl)]
              rfl
          · refine fin (nx + 1) (by omega) (by omega) (Or.inr c5) ?_ ?_
            · unfold f_Mixture_goOn f_Mixture_goOn_15
              rw [eS, Option.bind_some, if_pos c5]
              simp (disch := omega) only [hz_nI_lit, hz_nI_add, hz_nI_mul, hz_nI_lt, hz_nI_le, hz_nI_inj, hz_nI_sub, hz_nI_nat, hz_nI_inb, hz_nI_pred, hz_nI_m1_lt, hz_nI_lt_m1, hz_nI_m1_le, hz_nI_le_m1, hz_nI_eq_m1, hz_nI_m1_eq, hz_bI0, if_pos, if_neg, if_true, if_false, Option.bind_some, Prod.eta, reduceCtorEq]
            · rw [eM0, if_pos c5]
              unfold f_Model_step_53
              simp (disch := omega) only [hz_nI_lit, hz_nI_add, hz_nI_mul, hz_nI_lt, hz_nI_le, hz_nI_inj, hz_nI_sub, hz_nI_nat, hz_nI_inb, hz_nI_pred, hz_nI_m1_lt, hz_nI_lt_m1, hz_nI_m1_le, hz_nI_le_m1, hz_nI_eq_m1, hz_nI_m1_eq, hz_bI0, if_pos, if_neg, if_true, if_false, Option.bind_some, Prod.eta, reduceCtorEq]
        · have hn3 : nx ≤ 3 := hs.resolve_right c5
          by_cases c6 : nx = 3
          · subst c6
            refine fin 1 (by omega) (by omega) (Or.inl (by omega)) ?_ ?_
            · unfold f_Mixture_goOn f_Mixture_goOn_15
              rw [eS, Option.bind_some, if_neg c5, if_pos (show (3 : Int32) ≤ hz_nI 3 by decide)]
              rfl
            · rw [eM0, if_neg c5]
              unfold f_Model_step_53
              rw [if_pos (show hz_nI 3 = 3 from rfl)]
              rfl
          · refine fin (nx + 1) (by omega) (by omega) (Or.inl (by omega)) ?_ ?_
            · unfold f_Mixture_goOn f_Mixture_goOn_15
              rw [eS, Option.bind_some, if_neg c5]
              simp (disch := omega) only [hz_nI_lit, hz_nI_add, hz_nI_mul, hz_nI_lt, hz_nI_le, hz_nI_inj, hz_nI_sub, hz_nI_nat, hz_nI_inb, hz_nI_pred, hz_nI_m1_lt, hz_nI_lt_m1, hz_nI_m1_le, hz_nI_le_m1, hz_nI_eq_m1, hz_nI_m1_eq, hz_bI0, if_pos, if_neg, if_true, if_false, Option.bind_some, Prod.eta, reduceCtorEq]
            · rw [eM0, if_neg c5]
              unfold f_Model_step_53
              simp (disch := omega) only [hz_nI_lit, hz_nI_add, hz_nI_mul, hz_nI_lt, hz_nI_le, hz_nI_inj, hz_nI_sub, hz_nI_nat, hz_nI_inb, hz_nI_pred, hz_nI_m1_lt, hz_nI_lt_m1, hz_nI_m1_le, hz_nI_le_m1, hz_nI_eq_m1, hz_nI_m1_eq, hz_bI0, if_pos, if_neg, if_true, if_false, Option.bind_some, Prod.eta, reduceCtorEq]
      · refine ref 2 (Or.inr rfl) ?_ ?_
        · unfold f_HT_step
          rw [hz_p_isOutside, h1, Option.bind_some, if_pos (show bI (!true) = 0 from rfl), if_neg hne, if_neg cx]
        · unfold f_Model_step f_Model_step_27 f_Model_step_28
          rw [hz_q_within, h1, Option.bind_some, if_neg hnl, if_neg cx, hz_goes2, Option.bind_some, if_pos (show bI false = 0 from rfl), hz_nI_lit]
set_option maxRecDepth 100000 in
theorem hz_prtR_upd {t2 row mr ix : Nat → Int32} {P c k : Nat} (h : hz_prtR t2 row mr ix P) (hc : c ≤ 12) (hk : k ≤ 12) (hcel : hz_cellsR t2 row c (k * 43)) : hz_prtR t2 row (upd mr P (hz_nI c)) (upd ix P (hz_nI k)) (P + 1) := by
  intro i hi
  by_cases hiP : i = P
  · subst hiP
    exact ⟨c, k, hc, hk, hz_upd_eq _ _ _, hz_upd_eq _ _ _, hcel⟩
  · obtain ⟨c', k', h1, h2, h3, h4, h5⟩ := h i (by omega)
    exact ⟨c', k', h1, h2, by rw [hz_upd_ne hiP, h3], by rw [hz_upd_ne hiP, h4], h5⟩
set_option maxRecDepth 100000 in
theorem hz_op_add {ht : SHT} {ot : SOut} {mx : SMixture} {tb : STable} {g1 : Int32 × Int32} {g2 : hz_M2} {g3 : hz_M3} {g4 : hz_M3} {g5 : hz_M5} {r : hz_MQ9} {x y : Int32} (hT : hz_invT tb g4) (hX : hz_invX mx tb.2.1 g4.2.2 g5) :
    ∃ k ot' mx' th b g5', f_Law_add ht ot mx tb x y = some (k, ot', mx') ∧ f_Model_add (g1, g2, g3, g4, g5, r) x y = some (b, ((th, g1.2), g2, g3, g4, g5', r)) ∧ hz_ans k ot' th b.toInt64 ∧ hz_invX mx' tb.2.1 g4.2.2 g5' := by
  have hX0 := hX
  obtain ⟨t1, t2, t3, t4, M, gen, row, rfl, rfl, hM, hT⟩ := hT
  obtain ⟨mn, mr, ml, pt, am, ix, P, nx, rfl, rfl, hP, hmn, hR, hl, hn1, hn6, hs⟩ := hX
  have hR : hz_prtR t2 row mr ix P := hR
  have hs : nx ≤ 3 ∨ hz_nI 5 ≤ hz_maxT (fun i => hz_pD row ix i 1) P 0 (hz_nI 0) := hs
  have ref : ∀ k9 j9 : Nat, (k9 = 0 ∧ j9 = 1 ∨ k9 = 1 ∧ j9 = 2 ∨ k9 = 3 ∧ j9 = 3) → f_HT_add ht (mn, mr, ml, hz_nI P, hz_nI nx) (t1, t2, t3, t4, hz_nI M, gen) x y = some (.inr (k9, (mn, mr, ml, hz_nI P, hz_nI nx))) → f_Model_add (g1, g2, g3, (hz_nI M, gen, row), (hz_nI P, pt, am, ix, hz_nI nx), r) x y = some (hz_nI 0, ((hz_nI j9, g1.2), g2, g3, (hz_nI M, gen, row), (hz_nI P, pt, am, ix, hz_nI nx), r)) → ∃ k ot' mx' th b g5', f_Law_add ht ot (mn, mr, ml, hz_nI P, hz_nI nx) (t1, t2, t3, t4, hz_nI M, gen) x y = some (k, ot', mx') ∧ f_Model_add (g1, g2, g3, (hz_nI M, gen, row), (hz_nI P, pt, am, ix, hz_nI nx), r) x y = some (b, ((th, g1.2), g2, g3, (hz_nI M, gen, row), g5', r)) ∧ hz_ans k ot' th b.toInt64 ∧ hz_invX mx' t2 row g5' := by
    intro k9 j9 hk eC eM
    rcases hk with ⟨rfl, rfl⟩ | ⟨rfl, rfl⟩ | ⟨rfl, rfl⟩
    · refine ⟨1, ot, _, hz_nI 1, _, _, ?_, eM, ⟨rfl, fun h => absurd h (by decide)⟩, hX0⟩
      unfold f_Law_add
      rw [eC, Option.bind_some, Sum.elim_inr, if_pos rfl]
    · refine ⟨2, ot, _, hz_nI 2, _, _, ?_, eM, ⟨rfl, fun h => absurd h (by decide)⟩, hX0⟩
      unfold f_Law_add
      rw [eC, Option.bind_some, Sum.elim_inr, if_neg (show ¬ ((1 : Nat) = 0) by decide), if_pos rfl]
    · refine ⟨3, ot, _, hz_nI 3, _, _, ?_, eM, ⟨rfl, fun h => absurd h (by decide)⟩, hX0⟩
      unfold f_Law_add
      rw [eC, Option.bind_some, Sum.elim_inr, if_neg (show ¬ ((3 : Nat) = 0) by decide), if_neg (show ¬ ((3 : Nat) = 1) by decide), if_pos rfl]
  have main : ∀ c k, c ≤ 12 → k ≤ 12 → hz_cellsR t2 row c (k * 43) → f_HT_add ht (mn, mr, ml, hz_nI P, hz_nI nx) (t1, t2, t3, t4, hz_nI M, gen) x y = f_HT_add_22 ht (mn, mr, ml, hz_nI P, hz_nI nx) (t1, t2, t3, t4, hz_nI M, gen) x y (hz_nI c) → f_Model_add (g1, g2, g3, (hz_nI M, gen, row), (hz_nI P, pt, am, ix, hz_nI nx), r) x y = f_Model_add_20 (g1, g2, g3, (hz_nI M, gen, row), (hz_nI P, pt, am, ix, hz_nI nx), r) x y (hz_nI k) → ∃ k ot' mx' th b g5', f_Law_add ht ot (mn, mr, ml, hz_nI P, hz_nI nx) (t1, t2, t3, t4, hz_nI M, gen) x y = some (k, ot', mx') ∧ f_Model_add (g1, g2, g3, (hz_nI M, gen, row), (hz_nI P, pt, am, ix, hz_nI nx), r) x y = some (b, ((th, g1.2), g2, g3, (hz_nI M, gen, row), g5', r)) ∧ hz_ans k ot' th b.toInt64 ∧ hz_invX mx' t2 row g5' := by
    intro c k hc hk hcel eC eM
    have eC' : f_HT_add ht (mn, mr, ml, hz_nI P, hz_nI nx) (t1, t2, t3, t4, hz_nI M, gen) x y = (if bI (!hz_inR x 1 9999) = 0 then (if bI (!hz_inR y 1 100000) = 0 then Option.bind (f_Mixture_isFull (mn, mr, ml, hz_nI P, hz_nI nx)) fun u9 => (if bI u9 = 0 then Option.bind (f_Mixture_append (mn, mr, ml, hz_nI P, hz_nI nx) (t1, t2, t3, t4, hz_nI M, gen) x (hz_nI c) y) fun u11 => some (.inl (u11.1, u11.2)) else some (.inr (3, (mn, mr, ml, hz_nI P, hz_nI nx)))) else some (.inr (1, (mn, mr, ml, hz_nI P, hz_nI nx)))) else some (.inr (1, (mn, mr, ml, hz_nI P, hz_nI nx)))) := by
      rw [eC]
      unfold f_HT_add_22
      rw [if_neg (show ¬ (hz_nI c = -1) by rw [show (-1 : Int32) = -hz_nI 1 from rfl, hz_nI_eq_m1 (by omega)]; exact id), hz_p_isOutside, Option.bind_some, hz_p_isOutside, Option.bind_some]
    have eM' : f_Model_add (g1, g2, g3, (hz_nI M, gen, row), (hz_nI P, pt, am, ix, hz_nI nx), r) x y = (if bI (hz_inR x 1 9999) = 0 then f_Model_add_56 (g1, g2, g3, (hz_nI M, gen, row), (hz_nI P, pt, am, ix, hz_nI nx), r) x y (hz_nI k) true false else if bI (hz_inR y 1 100000) = 0 then f_Model_add_56 (g1, g2, g3, (hz_nI M, gen, row), (hz_nI P, pt, am, ix, hz_nI nx), r) x y (hz_nI k) true false else f_Model_add_56 (g1, g2, g3, (hz_nI M, gen, row), (hz_nI P, pt, am, ix, hz_nI nx), r) x y (hz_nI k) true true) := by
      rw [eM]
      unfold f_Model_add_20 f_Model_add_30 f_Model_add_55
      rw [if_neg (show ¬ (hz_nI k < 0) by rw [hz_nI_lit, hz_nI_lt (by omega) (by omega)]; omega), hz_q_within, Option.bind_some, hz_q_within, Option.bind_some]
    have r56 : f_Model_add_56 (g1, g2, g3, (hz_nI M, gen, row), (hz_nI P, pt, am, ix, hz_nI nx), r) x y (hz_nI k) true false = some (hz_nI 0, ((hz_nI 2, g1.2), g2, g3, (hz_nI M, gen, row), (hz_nI P, pt, am, ix, hz_nI nx), r)) := by
      unfold f_Model_add_56 f_Model_add_70
      rw [hz_goes2, hz_goes2, Option.bind_some, if_pos (show bI false = 0 from rfl)]
      split <;> rfl
    cases hx : hz_inR x 1 9999
    · refine ref 1 2 (Or.inr (Or.inl ⟨rfl, rfl⟩)) ?_ ?_
      · rw [eC', hx, if_neg (show ¬ (bI (!false) = 0) by decide)]
      · rw [eM', hx, if_pos (show bI false = 0 from rfl), r56]
    · cases hy : hz_inR y 1 100000
      · refine ref 1 2 (Or.inr (Or.inl ⟨rfl, rfl⟩)) ?_ ?_
        · rw [eC', hx, hy, if_pos (show bI (!true) = 0 from rfl), if_neg (show ¬ (bI (!false) = 0) by decide)]
        · rw [eM', hx, hy, if_neg (show ¬ (bI true = 0) by decide), if_pos (show bI false = 0 from rfl), r56]
      · rw [hx, hy, if_pos (show bI (!true) = 0 from rfl), if_pos (show bI (!true) = 0 from rfl)] at eC'
        rw [hx, hy, if_neg (show ¬ (bI true = 0) by decide), if_neg (show ¬ (bI true = 0) by decide)] at eM'
        by_cases c8 : P = 8
        · subst c8
          refine ref 3 3 (Or.inr (Or.inr ⟨rfl, rfl⟩)) ?_ ?_
          · rw [eC']
            unfold f_Mixture_isFull
            rw [if_neg (show ¬ (hz_nI 8 < 8) by decide), Option.bind_some, if_neg (show ¬ (bI true = 0) by decide)]
          · rw [eM']
            unfold f_Model_add_56 f_Model_add_70
            rw [if_pos (show (8 : Int32) ≤ hz_nI 8 by decide), hz_goes3, Option.bind_some, if_pos (show bI false = 0 from rfl), hz_nI_lit]
        · have hfull : f_Mixture_isFull (mn, mr, ml, hz_nI P, hz_nI nx) = some false := by
            unfold f_Mixture_isFull
            simp (disch := omega) only [hz_nI_lit, hz_nI_add, hz_nI_mul, hz_nI_lt, hz_nI_le, hz_nI_inj, hz_nI_sub, hz_nI_nat, hz_nI_inb, hz_nI_pred, hz_nI_m1_lt, hz_nI_lt_m1, hz_nI_m1_le, hz_nI_le_m1, hz_nI_eq_m1, hz_nI_m1_eq, hz_bI0, if_pos, if_neg, if_true, if_false, Option.bind_some, Prod.eta, reduceCtorEq]
          have hR1 := hz_prtR_upd hR hc hk hcel
          have hI1 := hz_ixR_of hR1
          have hbef := fun (ml' : Nat → Int32) => hz_p_before (mn := upd mn P x) (ml := ml') (nx := hz_nI nx) (sz := hz_nI (P + 1)) (t1 := t1) (t3 := t3) (t4 := t4) (t5 := hz_nI M) (t6 := gen) (show P + 1 ≤ 8 by omega) hR1 (show P < P + 1 by omega)
          have e124 := hz_q_add_124 (g1 := (hz_nI 0, g1.2)) (g2 := g2) (g3 := g3) (m0 := hz_nI M) (ge := gen) (row := row) (pt := upd pt P x) (am := upd am P y) (nx := hz_nI nx) (r := r) (show P + 1 ≤ 8 by omega) hI1 P 4096 0 (hz_nI 0) (by omega) (by omega)
          have eA : ∃ ml', f_Mixture_append (mn, mr, ml, hz_nI P, hz_nI nx) (t1, t2, t3, t4, hz_nI M, gen) x (hz_nI c) y = some (hz_cntT (fun i => hz_ctr row (upd ix P (hz_nI k)) i P) P 0 (hz_nI 0), (upd mn P x, upd mr P (hz_nI c), ml', hz_nI (P + 1), hz_nI nx)) ∧ hz_larR ml' (upd am P y) (P + 1) := by
            by_cases c2 : y ≤ hz_nI 200
            · refine ⟨upd ml P (bI false), ?_, ?_⟩
              · unfold f_Mixture_append f_Mixture_append_49
                rw [hfull]
                simp (disch := omega) only [hz_nI_lit, hz_nI_add, hz_nI_mul, hz_nI_lt, hz_nI_le, hz_nI_inj, hz_nI_sub, hz_nI_nat, hz_nI_inb, hz_nI_pred, hz_nI_m1_lt, hz_nI_lt_m1, hz_nI_m1_le, hz_nI_le_m1, hz_nI_eq_m1, hz_nI_m1_eq, hz_bI0, if_pos, if_neg, if_true, if_false, Option.bind_some, Prod.eta, reduceCtorEq, c2, hz_nar_b, Nat.add_sub_cancel, hbef]
              · intro i hi
                by_cases hiP : i = P
                · subst hiP
                  rw [hz_upd_eq, hz_upd_eq]
                  exact ⟨fun _ => c2, fun _ => rfl⟩
                · rw [hz_upd_ne hiP, hz_upd_ne hiP]
                  exact hl i (by omega)
            · refine ⟨upd ml P (bI true), ?_, ?_⟩
              · unfold f_Mixture_append f_Mixture_append_49
                rw [hfull]
                simp (disch := omega) only [hz_nI_lit, hz_nI_add, hz_nI_mul, hz_nI_lt, hz_nI_le, hz_nI_inj, hz_nI_sub, hz_nI_nat, hz_nI_inb, hz_nI_pred, hz_nI_m1_lt, hz_nI_lt_m1, hz_nI_m1_le, hz_nI_le_m1, hz_nI_eq_m1, hz_nI_m1_eq, hz_bI0, if_pos, if_neg, if_true, if_false, Option.bind_some, Prod.eta, reduceCtorEq, c2, hz_nar_b, Nat.add_sub_cancel, hbef]
              · intro i hi
                by_cases hiP : i = P
                · subst hiP
                  rw [hz_upd_eq, hz_upd_eq]
                  exact ⟨fun h => absurd h (by decide), fun h => absurd h c2⟩
                · rw [hz_upd_ne hiP, hz_upd_ne hiP]
                  exact hl i (by omega)
          obtain ⟨ml', eA, hl'⟩ := eA
          refine ⟨0, vp_updL ot (0 : Int32).toNatClampNeg (hz_cntT (fun i => hz_ctr row (upd ix P (hz_nI k)) i P) P 0 (hz_nI 0)).toInt64, (upd mn P x, upd mr P (hz_nI c), ml', hz_nI (P + 1), hz_nI nx), hz_nI 0, hz_cntT (fun i => hz_ctr row (upd ix P (hz_nI k)) i P) P 0 (hz_nI 0), (hz_nI (P + 1), upd pt P x, upd am P y, upd ix P (hz_nI k), hz_nI nx), ?_, ?_, ⟨rfl, fun _ => hz_o_eq ot _⟩, upd mn P x, upd mr P (hz_nI c), ml', upd pt P x, upd am P y, upd ix P (hz_nI k), P + 1, nx, rfl, rfl, by omega, ?_, hR1, hl', hn1, hn6, ?_⟩
          · unfold f_Law_add
            rw [eC', hfull, Option.bind_some, if_pos (show bI false = 0 from rfl), eA, Option.bind_some, Option.bind_some, Sum.elim_inl, if_pos hz_o_inb]
          · rw [eM']
            unfold f_Model_add_56 f_Model_add_70
            rw [if_neg (show ¬ ((8 : Int32) ≤ hz_nI P) by rw [hz_nI_lit, hz_nI_le (by omega) (by omega)]; omega), hz_goesT, Option.bind_some, if_neg (show ¬ (bI true = 0) by decide)]
            simp (disch := omega) only [hz_nI_lit, hz_nI_add, hz_nI_mul, hz_nI_lt, hz_nI_le, hz_nI_inj, hz_nI_sub, hz_nI_nat, hz_nI_inb, hz_nI_pred, hz_nI_m1_lt, hz_nI_lt_m1, hz_nI_m1_le, hz_nI_le_m1, hz_nI_eq_m1, hz_nI_m1_eq, hz_bI0, if_pos, if_neg, if_true, if_false, Option.bind_some, Prod.eta, reduceCtorEq]
            exact e124
          · intro i hi
            by_cases hiP : i = P
            · subst hiP; rw [hz_upd_eq, hz_upd_eq]
            · rw [hz_upd_ne hiP, hz_upd_ne hiP]; exact hmn i (by omega)
          · rcases hs with h | h
            · exact Or.inl h
            · refine Or.inr ?_
              have e : hz_maxT (fun i => hz_pD row (upd ix P (hz_nI k)) i 1) P 0 (hz_nI 0) = hz_maxT (fun i => hz_pD row ix i 1) P 0 (hz_nI 0) := hz_maxT_congr P 0 _ (fun j _ hj => by
                show hz_pD row (upd ix P (hz_nI k)) j 1 = hz_pD row ix j 1
                unfold hz_pD; rw [hz_upd_ne (by omega)])
              show hz_nI 5 ≤ hz_maxT (fun i => hz_pD row (upd ix P (hz_nI k)) i 1) (P + 1) 0 (hz_nI 0)
              rw [hz_maxT_succ, e]
              split
              · rename_i h9
                exact Int32.le_of_lt (Int32.lt_of_le_of_lt h h9)
              · exact h
  have refuse : f_HT_add ht (mn, mr, ml, hz_nI P, hz_nI nx) (t1, t2, t3, t4, hz_nI M, gen) x y = f_HT_add_22 ht (mn, mr, ml, hz_nI P, hz_nI nx) (t1, t2, t3, t4, hz_nI M, gen) x y (-hz_nI 1) → f_Model_add (g1, g2, g3, (hz_nI M, gen, row), (hz_nI P, pt, am, ix, hz_nI nx), r) x y = f_Model_add_20 (g1, g2, g3, (hz_nI M, gen, row), (hz_nI P, pt, am, ix, hz_nI nx), r) x y (-hz_nI 1) → ∃ k ot' mx' th b g5', f_Law_add ht ot (mn, mr, ml, hz_nI P, hz_nI nx) (t1, t2, t3, t4, hz_nI M, gen) x y = some (k, ot', mx') ∧ f_Model_add (g1, g2, g3, (hz_nI M, gen, row), (hz_nI P, pt, am, ix, hz_nI nx), r) x y = some (b, ((th, g1.2), g2, g3, (hz_nI M, gen, row), g5', r)) ∧ hz_ans k ot' th b.toInt64 ∧ hz_invX mx' t2 row g5' := by
    intro eC eM
    refine ref 0 1 (Or.inl ⟨rfl, rfl⟩) ?_ ?_
    · rw [eC]
      unfold f_HT_add_22
      rw [if_pos (show -hz_nI 1 = -1 from rfl)]
    · have r56 : ∀ b2, f_Model_add_56 (g1, g2, g3, (hz_nI M, gen, row), (hz_nI P, pt, am, ix, hz_nI nx), r) x y (-hz_nI 1) false b2 = some (hz_nI 0, ((hz_nI 1, g1.2), g2, g3, (hz_nI M, gen, row), (hz_nI P, pt, am, ix, hz_nI nx), r)) := by
        intro b2
        unfold f_Model_add_56 f_Model_add_70
        rw [hz_goes1, hz_goes1, Option.bind_some, if_pos (show bI false = 0 from rfl)]
        split <;> rfl
      rw [eM]
      unfold f_Model_add_20 f_Model_add_30 f_Model_add_55
      rw [if_pos (show -hz_nI 1 < (0 : Int32) by decide), hz_q_within, Option.bind_some, hz_q_within, Option.bind_some, r56, r56]
      split
      · rfl
      · split <;> rfl
  have eC : f_HT_add ht (mn, mr, ml, hz_nI P, hz_nI nx) (t1, t2, t3, t4, hz_nI M, gen) x y = if hz_ixI (hz_fndT (fun k => row (k * 43)) x M 0) 1 = -1 then f_HT_add_22 ht (mn, mr, ml, hz_nI P, hz_nI nx) (t1, t2, t3, t4, hz_nI M, gen) x y (if gen = true then hz_nI 0 else -hz_nI 1) else f_HT_add_22 ht (mn, mr, ml, hz_nI P, hz_nI nx) (t1, t2, t3, t4, hz_nI M, gen) x y (hz_ixI (hz_fndT (fun k => row (k * 43)) x M 0) 1) := by
    unfold f_HT_add
    rw [hz_p_rowOf hM, hz_tab_num hT, Option.bind_some, hz_p_others, Option.bind_some]
  have eM : f_Model_add (g1, g2, g3, (hz_nI M, gen, row), (hz_nI P, pt, am, ix, hz_nI nx), r) x y = if 0 ≤ hz_ixI (hz_fndT (fun k => row (k * 43)) x M 0) 0 then f_Model_add_20 (g1, g2, g3, (hz_nI M, gen, row), (hz_nI P, pt, am, ix, hz_nI nx), r) x y (hz_ixI (hz_fndT (fun k => row (k * 43)) x M 0) 0) else if bI gen = 0 then f_Model_add_20 (g1, g2, g3, (hz_nI M, gen, row), (hz_nI P, pt, am, ix, hz_nI nx), r) x y (hz_ixI (hz_fndT (fun k => row (k * 43)) x M 0) 0) else f_Model_add_20 (g1, g2, g3, (hz_nI M, gen, row), (hz_nI P, pt, am, ix, hz_nI nx), r) x y 12 := by
    unfold f_Model_add
    rw [hz_q_find hM, Option.bind_some]
  cases hf : hz_fndT (fun k => row (k * 43)) x M 0 with
  | none =>
    rw [hf] at eC eM
    rw [if_pos (show hz_ixI none 1 = -1 from rfl)] at eC
    rw [if_neg (show ¬ ((0 : Int32) ≤ hz_ixI none 0) by decide)] at eM
    cases gen with
    | false =>
      rw [if_neg (by decide)] at eC
      rw [if_pos (show bI false = 0 from rfl)] at eM
      exact refuse eC eM
    | true =>
      rw [if_pos rfl] at eC
      rw [if_neg (show ¬ (bI true = 0) by decide)] at eM
      exact main 0 12 (by omega) (by omega) (hT.2.2 rfl) eC eM
  | some q =>
    have hq := hz_fndT_some M 0 q hf
    rw [hf] at eC eM
    rw [if_neg (show ¬ (hz_ixI (some q) 1 = -1) by rw [show (-1 : Int32) = -hz_nI 1 from rfl]; simp only [hz_ixI]; rw [hz_nI_eq_m1 (by omega)]; exact id)] at eC
    rw [if_pos (show (0 : Int32) ≤ hz_ixI (some q) 0 by simp only [hz_ixI]; rw [hz_nI_lit, hz_nI_le (by omega) (by omega)]; omega)] at eM
    exact main (q + 1) q (by omega) (by omega) (hT.1 q (by omega)).2.1 eC eM
