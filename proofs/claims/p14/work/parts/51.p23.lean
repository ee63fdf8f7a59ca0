set_option maxRecDepth 100000 in
noncomputable def hz_isI (P : Nat) (row ix am : Nat → Int32) (wx wy : Int32) (day : Bool) (x y : Int32) : Bool := if P = 0 then false else hz_isP wx wy x y (hz_maxT (hz_dT row ix am day) P 0 (hz_nI 0)).toNatClampNeg
set_option maxRecDepth 100000 in
def hz_wOk (wx wy : Int32) : Prop := hz_sqR wx 100 ∧ hz_sqR wy 100 ∧ ¬ (wx = 0 ∧ wy = 0)
set_option maxRecDepth 100000 in
def hz_bOk (x y : Int32) : Prop := hz_sqR x 10000 ∧ hz_sqR y 10000
set_option maxRecDepth 100000 in
theorem hz_p_cov {P : Nat} {row ix am : Nat → Int32} {wx wy x y : Int32} {day : Bool} (hD : hz_disR row ix P) (hw : hz_wOk wx wy) (hb : hz_bOk x y) : f_Surroundings_reaches wx wy (hz_maxT (hz_dT row ix am day) P 0 (-hz_nI 1)) x y = some (hz_isI P row ix am wx wy day x y) := by
  unfold hz_isI
  by_cases c : P = 0
  · subst c
    rw [if_pos rfl]
    exact hz_p_reachesN
  · rw [if_neg c, hz_dist_m1 hD (by omega)]
    obtain ⟨d, d1, d2⟩ := hz_dist_rng (am := am) (day := day) hD
    rw [d2, hz_nI_nat (by omega)]
    exact hz_p_reaches hw.1 hw.2.1 hb.1 hb.2 d1
abbrev hz_MR7 : Type := (Int32 × (Nat → Int32) × (Nat → Int32) × (Nat → Int32) × Int32 × (Nat → Int32)) × ((Nat → Int32)) × (Int32 × (Nat → Int32) × (Nat → Int32))
set_option maxRecDepth 100000 in
theorem hz_q_isIn {g1 : Int32 × Int32} {g2 : hz_M2} {g3 : hz_M3} {m0 nx : Int32} {ge : Bool} {row pt am ix : Nat → Int32} {wx wy x y : Int32} {day : Bool} {r : hz_MR7} {P : Nat} (hP : P ≤ 8) (hR : hz_ixR ix P) (hD : hz_disR row ix P) (hw : hz_wOk wx wy) (hb : hz_bOk x y) : f_Model_isIn (g1, g2, g3, (m0, ge, row), (hz_nI P, pt, am, ix, nx), (wx, wy, day), r) x y = some (hz_isI P row ix am wx wy day x y) := by
  unfold f_Model_isIn hz_isI
  by_cases c : P = 0
  · subst c
    rw [if_pos rfl, if_pos (show hz_nI 0 = 0 from rfl)]
  · rw [if_neg c, if_neg (show ¬ (hz_nI P = 0) by rw [hz_nI_lit, hz_nI_inj (by omega) (by omega)]; exact c)]
    obtain ⟨d, d1, d2⟩ := hz_dist_rng (am := am) (day := day) hD
    have e := hz_q_dist (g1 := g1) (g2 := g2) (g3 := g3) (m0 := m0) (ge := ge) (day := day) (row := row) (pt := pt) (am := am) (nx := nx) (r := ((wx, wy, day), r)) hP hR
    rw [d2] at e ⊢
    rw [hz_nI_nat (by omega)]
    have h19 := fun hp => hz_q_isIn_19 hw.1 hw.2.1 hb.1 hb.2 d1 hw.2.2 hp e
    by_cases cx : x = 0
    · by_cases cy : y = 0
      · rw [if_pos cx, if_pos cy, cx, cy]
        unfold hz_isP
        rw [decide_eq_true]
        have z0 : (0 : Int32).toInt = 0 := by decide
        rw [z0]
        have := Int.mul_self_le_mul_self (a := 0) (b := (d : Int)) (by omega) (by omega)
        exact ⟨by omega, by omega, by omega⟩
      · rw [if_pos cx, if_neg cy]
        exact h19 (fun h => cy h.2)
    · rw [if_neg cx]
      exact h19 (fun h => cx h.1)
set_option maxRecDepth 100000 in
def hz_frT (a b : Nat → Bool) : Nat → Nat → Nat → (Nat → Int32) → Nat × (Nat → Int32)
  | 0, i, F, fs => (F, fs)
  | n + 1, i, F, fs => if a i = true ∧ b i = false then hz_frT a b n (i + 1) (F + 1) (upd fs F (hz_nI i)) else hz_frT a b n (i + 1) F fs
set_option maxRecDepth 100000 in
theorem hz_frT_bd (a b : Nat → Bool) : ∀ n i F fs, F ≤ i → (hz_frT a b n i F fs).1 ≤ i + n
  | 0, i, F, fs, h => h
  | n + 1, i, F, fs, h => by
    unfold hz_frT
    split
    · have := hz_frT_bd a b n (i + 1) (F + 1) (upd fs F (hz_nI i)) (by omega); omega
    · have := hz_frT_bd a b n (i + 1) F fs (by omega); omega
set_option maxRecDepth 100000 in
theorem hz_p_gather_8 {P : Nat} {row ix am bx by9 : Nat → Int32} {wx wy ox oy : Int32} {day oday : Bool} {B : Nat} (hD : hz_disR row ix P) (hw : hz_wOk wx wy) (ho : hz_wOk ox oy) (hB : B ≤ 40) (hbd : ∀ i, i < B → hz_bOk (bx i) (by9 i)) : ∀ k n i F fs, B = i + k → k < n → F ≤ i →
    f_Surroundings_gather_8 n (bx, by9, fs, hz_nI B, hz_nI F, ox, oy, oday) wx wy (hz_maxT (hz_dT row ix am day) P 0 (-hz_nI 1)) (hz_maxT (hz_dT row ix am oday) P 0 (-hz_nI 1)) (hz_nI i) = some (bx, by9, (hz_frT (fun i => hz_isI P row ix am wx wy day (bx i) (by9 i)) (fun i => hz_isI P row ix am ox oy oday (bx i) (by9 i)) k i F fs).2, hz_nI B, hz_nI (hz_frT (fun i => hz_isI P row ix am wx wy day (bx i) (by9 i)) (fun i => hz_isI P row ix am ox oy oday (bx i) (by9 i)) k i F fs).1, ox, oy, oday)
  | 0, n + 1, i, F, fs, h1, h2, h3 => by
    rw [f_Surroundings_gather_8]
    simp only [hz_frT]
    simp (disch := omega) only [hz_nI_lit, hz_nI_add, hz_nI_mul, hz_nI_lt, hz_nI_le, hz_nI_inj, hz_nI_sub, hz_nI_nat, hz_nI_inb, hz_nI_pred, hz_nI_m1_lt, hz_nI_lt_m1, hz_nI_m1_le, hz_nI_le_m1, hz_nI_eq_m1, hz_nI_m1_eq, hz_bI0, if_pos, if_neg, if_true, if_false, Option.bind_some, Prod.eta, reduceCtorEq]
  | k + 1, n + 1, i, F, fs, h1, h2, h3 => by
    have ih := fun F fs => hz_p_gather_8 (am := am) (day := day) (oday := oday) hD hw ho hB hbd k n (i + 1) F fs (by omega) (by omega)
    have e1 := hz_p_cov (am := am) (day := day) hD hw (hbd i (by omega))
    have e2 := hz_p_cov (am := am) (day := oday) hD ho (hbd i (by omega))
    rw [f_Surroundings_gather_8]
    unfold hz_frT f_Surroundings_covers
    cases c1 : hz_isI P row ix am wx wy day (bx i) (by9 i)
    · rw [c1] at e1
      have e := ih F fs (by omega)
      simp (disch := omega) only [hz_nI_lit, hz_nI_add, hz_nI_mul, hz_nI_lt, hz_nI_le, hz_nI_inj, hz_nI_sub, hz_nI_nat, hz_nI_inb, hz_nI_pred, hz_nI_m1_lt, hz_nI_lt_m1, hz_nI_m1_le, hz_nI_le_m1, hz_nI_eq_m1, hz_nI_m1_eq, hz_bI0, if_pos, if_neg, if_true, if_false, Option.bind_some, Prod.eta, reduceCtorEq, e1, Bool.false_eq_true, false_and]
      exact e
    · rw [c1] at e1
      cases c2 : hz_isI P row ix am ox oy oday (bx i) (by9 i)
      · rw [c2] at e2
        have e := ih (F + 1) (upd fs F (hz_nI i)) (by omega)
        simp (disch := omega) only [hz_nI_lit, hz_nI_add, hz_nI_mul, hz_nI_lt, hz_nI_le, hz_nI_inj, hz_nI_sub, hz_nI_nat, hz_nI_inb, hz_nI_pred, hz_nI_m1_lt, hz_nI_lt_m1, hz_nI_m1_le, hz_nI_le_m1, hz_nI_eq_m1, hz_nI_m1_eq, hz_bI0, if_pos, if_neg, if_true, if_false, Option.bind_some, Prod.eta, reduceCtorEq, e1, e2, Bool.true_eq_false, and_self]
        exact e
      · rw [c2] at e2
        have e := ih F fs (by omega)
        simp (disch := omega) only [hz_nI_lit, hz_nI_add, hz_nI_mul, hz_nI_lt, hz_nI_le, hz_nI_inj, hz_nI_sub, hz_nI_nat, hz_nI_inb, hz_nI_pred, hz_nI_m1_lt, hz_nI_lt_m1, hz_nI_m1_le, hz_nI_le_m1, hz_nI_eq_m1, hz_nI_m1_eq, hz_bI0, if_pos, if_neg, if_true, if_false, Option.bind_some, Prod.eta, reduceCtorEq, e1, e2, Bool.true_eq_false, and_false]
        exact e
set_option maxRecDepth 100000 in
theorem hz_q_wind_112 {g1 : Int32 × Int32} {g2 : hz_M2} {g3 : hz_M3} {m0 nx : Int32} {ge : Bool} {row pt am ix bx by9 was : Nat → Int32} {wx wy : Int32} {day : Bool} {r : ((Nat → Int32)) × (Int32 × (Nat → Int32) × (Nat → Int32))} {P B : Nat} {b : Nat → Bool} (hP : P ≤ 8) (hR : hz_ixR ix P) (hD : hz_disR row ix P) (hw : hz_wOk wx wy) (hB : B ≤ 40) (hbd : ∀ i, i < B → hz_bOk (bx i) (by9 i)) (hwas : ∀ i, i < B → was i = bI (b i)) : ∀ k n i F fs, B = i + k → k < n → F ≤ i →
    f_Model_wind_112 n (g1, g2, g3, (m0, ge, row), (hz_nI P, pt, am, ix, nx), (wx, wy, day), (hz_nI B, bx, by9, was, hz_nI F, fs), r) (hz_nI i) = some (hz_nI (hz_frT (fun i => hz_isI P row ix am wx wy day (bx i) (by9 i)) b k i F fs).1, (g1, g2, g3, (m0, ge, row), (hz_nI P, pt, am, ix, nx), (wx, wy, day), (hz_nI B, bx, by9, was, hz_nI (hz_frT (fun i => hz_isI P row ix am wx wy day (bx i) (by9 i)) b k i F fs).1, (hz_frT (fun i => hz_isI P row ix am wx wy day (bx i) (by9 i)) b k i F fs).2), r))
  | 0, n + 1, i, F, fs, h1, h2, h3 => by
    rw [f_Model_wind_112]
    simp only [hz_frT]
    simp (disch := omega) only [hz_nI_lit, hz_nI_add, hz_nI_mul, hz_nI_lt, hz_nI_le, hz_nI_inj, hz_nI_sub, hz_nI_nat, hz_nI_inb, hz_nI_pred, hz_nI_m1_lt, hz_nI_lt_m1, hz_nI_m1_le, hz_nI_le_m1, hz_nI_eq_m1, hz_nI_m1_eq, hz_bI0, if_pos, if_neg, if_true, if_false, Option.bind_some, Prod.eta, reduceCtorEq]
  | k + 1, n + 1, i, F, fs, h1, h2, h3 => by
    have ih := fun F fs => hz_q_wind_112 (g1 := g1) (g2 := g2) (g3 := g3) (m0 := m0) (ge := ge) (pt := pt) (am := am) (nx := nx) (day := day) (r := r) (b := b) hP hR hD hw hB hbd hwas k n (i + 1) F fs (by omega) (by omega)
    have e1 := hz_q_isIn (g1 := g1) (g2 := g2) (g3 := g3) (m0 := m0) (ge := ge) (pt := pt) (am := am) (nx := nx) (day := day) (r := ((hz_nI B, bx, by9, was, hz_nI F, fs), r)) hP hR hD hw (hbd i (by omega))
    have e2 := hwas i (by omega)
    rw [f_Model_wind_112]
    unfold hz_frT
    cases c2 : b i
    · rw [c2] at e2
      cases c1 : hz_isI P row ix am wx wy day (bx i) (by9 i)
      · rw [c1] at e1
        have e := ih F fs (by omega)
        simp (disch := omega) only [hz_nI_lit, hz_nI_add, hz_nI_mul, hz_nI_lt, hz_nI_le, hz_nI_inj, hz_nI_sub, hz_nI_nat, hz_nI_inb, hz_nI_pred, hz_nI_m1_lt, hz_nI_lt_m1, hz_nI_m1_le, hz_nI_le_m1, hz_nI_eq_m1, hz_nI_m1_eq, hz_bI0, if_pos, if_neg, if_true, if_false, Option.bind_some, Prod.eta, reduceCtorEq, e1, e2, Bool.false_eq_true, false_and]
        exact e
      · rw [c1] at e1
        have e := ih (F + 1) (upd fs F (hz_nI i)) (by omega)
        simp (disch := omega) only [hz_nI_lit, hz_nI_add, hz_nI_mul, hz_nI_lt, hz_nI_le, hz_nI_inj, hz_nI_sub, hz_nI_nat, hz_nI_inb, hz_nI_pred, hz_nI_m1_lt, hz_nI_lt_m1, hz_nI_m1_le, hz_nI_le_m1, hz_nI_eq_m1, hz_nI_m1_eq, hz_bI0, if_pos, if_neg, if_true, if_false, Option.bind_some, Prod.eta, reduceCtorEq, e1, e2, Bool.true_eq_false, and_self]
        exact e
    · rw [c2] at e2
      have e := ih F fs (by omega)
      simp (disch := omega) only [hz_nI_lit, hz_nI_add, hz_nI_mul, hz_nI_lt, hz_nI_le, hz_nI_inj, hz_nI_sub, hz_nI_nat, hz_nI_inb, hz_nI_pred, hz_nI_m1_lt, hz_nI_lt_m1, hz_nI_m1_le, hz_nI_le_m1, hz_nI_eq_m1, hz_nI_m1_eq, hz_bI0, if_pos, if_neg, if_true, if_false, Option.bind_some, Prod.eta, reduceCtorEq, e2, Bool.true_eq_false, and_false]
      exact e
set_option maxRecDepth 100000 in
theorem hz_q_wind_49 {g1 : Int32 × Int32} {g2 : hz_M2} {g3 : hz_M3} {m0 nx F : Int32} {ge : Bool} {row pt am ix bx by9 fs : Nat → Int32} {wx wy ox oy : Int32} {day oday : Bool} {r : ((Nat → Int32)) × (Int32 × (Nat → Int32) × (Nat → Int32))} {P B : Nat} (hP : P ≤ 8) (hR : hz_ixR ix P) (hD : hz_disR row ix P) (ho : hz_wOk ox oy) (hB : B ≤ 40) (hbd : ∀ i, i < B → hz_bOk (bx i) (by9 i)) : ∀ k n i was, B = i + k → k < n → (∀ j, j < i → was j = bI (hz_isI P row ix am ox oy oday (bx j) (by9 j))) →
    ∃ was', (∀ j, j < B → was' j = bI (hz_isI P row ix am ox oy oday (bx j) (by9 j))) ∧ f_Model_wind_49 n (g1, g2, g3, (m0, ge, row), (hz_nI P, pt, am, ix, nx), (ox, oy, oday), (hz_nI B, bx, by9, was, F, fs), r) wx wy day (hz_nI i) = f_Model_wind_112 4096 (g1, g2, g3, (m0, ge, row), (hz_nI P, pt, am, ix, nx), (wx, wy, day), (hz_nI B, bx, by9, was', hz_nI 0, fs), r) (hz_nI 0)
  | 0, n + 1, i, was, h1, h2, h3 => by
    refine ⟨was, fun j hj => h3 j (by omega), ?_⟩
    rw [f_Model_wind_49, if_pos (show hz_nI B ≤ hz_nI i by rw [hz_nI_le (by omega) (by omega)]; omega), hz_nI_lit]
  | k + 1, n + 1, i, was, h1, h2, h3 => by
    have e1 := hz_q_isIn (g1 := g1) (g2 := g2) (g3 := g3) (m0 := m0) (ge := ge) (pt := pt) (am := am) (nx := nx) (day := oday) (r := ((hz_nI B, bx, by9, was, F, fs), r)) hP hR hD ho (hbd i (by omega))
    obtain ⟨was', h4, h5⟩ := hz_q_wind_49 (g1 := g1) (g2 := g2) (g3 := g3) (m0 := m0) (nx := nx) (F := F) (ge := ge) (pt := pt) (am := am) (fs := fs) (wx := wx) (wy := wy) (day := day) (oday := oday) (r := r) hP hR hD ho hB hbd k n (i + 1) (upd was i (bI (hz_isI P row ix am ox oy oday (bx i) (by9 i)))) (by omega) (by omega) (fun j hj => by
      by_cases hji : j = i
      · subst hji; rw [hz_upd_eq]
      · rw [hz_upd_ne hji]; exact h3 j (by omega))
    refine ⟨was', h4, ?_⟩
    rw [f_Model_wind_49]
    simp (disch := omega) only [hz_nI_lit, hz_nI_add, hz_nI_mul, hz_nI_lt, hz_nI_le, hz_nI_inj, hz_nI_sub, hz_nI_nat, hz_nI_inb, hz_nI_pred, hz_nI_m1_lt, hz_nI_lt_m1, hz_nI_m1_le, hz_nI_le_m1, hz_nI_eq_m1, hz_nI_m1_eq, hz_bI0, if_pos, if_neg, if_true, if_false, Option.bind_some, Prod.eta, reduceCtorEq, e1, hz_nar_b]
    exact h5
abbrev hz_M7 : Type := Int32 × (Nat → Int32) × (Nat → Int32) × (Nat → Int32) × Int32 × (Nat → Int32)
set_option maxRecDepth 100000 in
def hz_invW (ar : SSurroundings) (g6 : Int32 × Int32 × Bool) (g7 : hz_M7) : Prop := ∃ bx by9 fs was B F wx wy day, ar = (bx, by9, fs, hz_nI B, hz_nI F, wx, wy, day) ∧ g6 = (wx, wy, day) ∧ g7 = (hz_nI B, bx, by9, was, hz_nI F, fs) ∧ B ≤ 40 ∧ F ≤ 40 ∧ (∀ i, i < B → hz_bOk (bx i) (by9 i)) ∧ hz_wOk wx wy
set_option maxRecDepth 100000 in
theorem hz_inR_sq {x : Int32} {a b : Int32} {K : Int} (ha : a.toInt = -K) (hb : b.toInt = K) : hz_inR x a b = true ↔ hz_sqR x K := by
  unfold hz_inR hz_sqR
  rw [decide_eq_true_eq, Int32.le_iff_toInt_le, Int32.le_iff_toInt_le, ha, hb]
set_option maxRecDepth 100000 in
theorem hz_op_wind {ht : SHT} {ot : SOut} {mx : SMixture} {ar : SSurroundings} {tb : STable} {g1 : Int32 × Int32} {g2 : hz_M2} {g3 : hz_M3} {g4 : hz_M3} {g5 : hz_M5} {g6 : Int32 × Int32 × Bool} {g7 : hz_M7} {r : ((Nat → Int32)) × (Int32 × (Nat → Int32) × (Nat → Int32))} {x y : Int32} {day : Bool} (hT : hz_invT tb g4) (hX : hz_invX mx tb.2.1 g4.2.2 g5) (hW : hz_invW ar g6 g7) :
    ∃ k ot' ar' th b g6' g7', f_Law_wind ht ot mx ar tb x y day = some (k, ot', ar') ∧ f_Model_wind (g1, g2, g3, g4, g5, g6, g7, r) x y day = some (b, ((th, g1.2), g2, g3, g4, g5, g6', g7', r)) ∧ hz_ans k ot' th b.toInt64 ∧ hz_invW ar' g6' g7' := by
  have hW0 := hW
  obtain ⟨t1, t2, t3, t4, M, gen, row, rfl, rfl, hM, hT⟩ := hT
  obtain ⟨mn, mr, ml, pt, am, ix, P, nx, rfl, rfl, hP, hmn, hR, hl, hn1, hn6, hs⟩ := hX
  have hR : hz_prtR t2 row mr ix P := hR
  have hI := hz_ixR_of hR
  have hD := hz_disR_of hR
  obtain ⟨bx, by9, fs, was, B, F, ox, oy, oday, rfl, rfl, rfl, hB, hF, hbd, ho⟩ := hW
  have m100 : (-100 : Int32).toInt = -100 := by decide
  have p100 : (100 : Int32).toInt = 100 := by decide
  have ref : f_HT_wind ht (mn, mr, ml, hz_nI P, hz_nI nx) (bx, by9, fs, hz_nI B, hz_nI F, ox, oy, oday) (t1, t2, t3, t4, hz_nI M, gen) x y day = some (.inr (1, (bx, by9, fs, hz_nI B, hz_nI F, ox, oy, oday))) → f_Model_wind (g1, g2, g3, (hz_nI M, gen, row), (hz_nI P, pt, am, ix, hz_nI nx), (ox, oy, oday), (hz_nI B, bx, by9, was, hz_nI F, fs), r) x y day = f_Model_wind_35 (g1, g2, g3, (hz_nI M, gen, row), (hz_nI P, pt, am, ix, hz_nI nx), (ox, oy, oday), (hz_nI B, bx, by9, was, hz_nI F, fs), r) x y day → ∃ k ot' ar' th b g6' g7', f_Law_wind ht ot (mn, mr, ml, hz_nI P, hz_nI nx) (bx, by9, fs, hz_nI B, hz_nI F, ox, oy, oday) (t1, t2, t3, t4, hz_nI M, gen) x y day = some (k, ot', ar') ∧ f_Model_wind (g1, g2, g3, (hz_nI M, gen, row), (hz_nI P, pt, am, ix, hz_nI nx), (ox, oy, oday), (hz_nI B, bx, by9, was, hz_nI F, fs), r) x y day = some (b, ((th, g1.2), g2, g3, (hz_nI M, gen, row), (hz_nI P, pt, am, ix, hz_nI nx), g6', g7', r)) ∧ hz_ans k ot' th b.toInt64 ∧ hz_invW ar' g6' g7' := by
    intro eC eM
    refine ⟨1, ot, _, hz_nI 1, hz_nI 0, _, _, ?_, ?_, ⟨rfl, fun h => absurd h (by decide)⟩, hW0⟩
    · unfold f_Law_wind
      rw [eC, Option.bind_some, Sum.elim_inr, if_pos rfl]
    · rw [eM]
      unfold f_Model_wind_35
      rw [hz_goes1, Option.bind_some, if_pos (show bI false = 0 from rfl), hz_nI_lit]
  have eC0 : f_HT_wind ht (mn, mr, ml, hz_nI P, hz_nI nx) (bx, by9, fs, hz_nI B, hz_nI F, ox, oy, oday) (t1, t2, t3, t4, hz_nI M, gen) x y day = (if bI (!hz_inR x (-100) 100) = 0 then (if bI (!hz_inR y (-100) 100) = 0 then (if x = 0 then (if y = 0 then some (.inr (1, (bx, by9, fs, hz_nI B, hz_nI F, ox, oy, oday))) else f_HT_wind_50 ht (mn, mr, ml, hz_nI P, hz_nI nx) (bx, by9, fs, hz_nI B, hz_nI F, ox, oy, oday) (t1, t2, t3, t4, hz_nI M, gen) x y day) else f_HT_wind_50 ht (mn, mr, ml, hz_nI P, hz_nI nx) (bx, by9, fs, hz_nI B, hz_nI F, ox, oy, oday) (t1, t2, t3, t4, hz_nI M, gen) x y day) else some (.inr (1, (bx, by9, fs, hz_nI B, hz_nI F, ox, oy, oday)))) else some (.inr (1, (bx, by9, fs, hz_nI B, hz_nI F, ox, oy, oday)))) := by
    unfold f_HT_wind
    rw [hz_p_isOutside, Option.bind_some, hz_p_isOutside, Option.bind_some]
  have eM0 : f_Model_wind (g1, g2, g3, (hz_nI M, gen, row), (hz_nI P, pt, am, ix, hz_nI nx), (ox, oy, oday), (hz_nI B, bx, by9, was, hz_nI F, fs), r) x y day = (if bI (hz_inR x (-100) 100) = 0 then f_Model_wind_35 (g1, g2, g3, (hz_nI M, gen, row), (hz_nI P, pt, am, ix, hz_nI nx), (ox, oy, oday), (hz_nI B, bx, by9, was, hz_nI F, fs), r) x y day else if bI (hz_inR y (-100) 100) = 0 then f_Model_wind_35 (g1, g2, g3, (hz_nI M, gen, row), (hz_nI P, pt, am, ix, hz_nI nx), (ox, oy, oday), (hz_nI B, bx, by9, was, hz_nI F, fs), r) x y day else if x = 0 then (if y = 0 then f_Model_wind_35 (g1, g2, g3, (hz_nI M, gen, row), (hz_nI P, pt, am, ix, hz_nI nx), (ox, oy, oday), (hz_nI B, bx, by9, was, hz_nI F, fs), r) x y day else f_Model_wind_31 (g1, g2, g3, (hz_nI M, gen, row), (hz_nI P, pt, am, ix, hz_nI nx), (ox, oy, oday), (hz_nI B, bx, by9, was, hz_nI F, fs), r) x y day) else f_Model_wind_31 (g1, g2, g3, (hz_nI M, gen, row), (hz_nI P, pt, am, ix, hz_nI nx), (ox, oy, oday), (hz_nI B, bx, by9, was, hz_nI F, fs), r) x y day) := by
    unfold f_Model_wind
    rw [hz_q_within, Option.bind_some, hz_q_within, Option.bind_some]
  cases hx : hz_inR x (-100) 100
  · refine ref ?_ ?_
    · rw [eC0, hx, if_neg (show ¬ (bI (!false) = 0) by decide)]
    · rw [eM0, hx, if_pos (show bI false = 0 from rfl)]
  · cases hy : hz_inR y (-100) 100
    · refine ref ?_ ?_
      · rw [eC0, hx, hy, if_pos (show bI (!true) = 0 from rfl), if_neg (show ¬ (bI (!false) = 0) by decide)]
      · rw [eM0, hx, hy, if_neg (show ¬ (bI true = 0) by decide), if_pos (show bI false = 0 from rfl)]
    · rw [hx, hy, if_pos (show bI (!true) = 0 from rfl), if_pos (show bI (!true) = 0 from rfl)] at eC0
      rw [hx, hy, if_neg (show ¬ (bI true = 0) by decide), if_neg (show ¬ (bI true = 0) by decide)] at eM0
      by_cases c0 : x = 0 ∧ y = 0
      · rw [if_pos c0.1, if_pos c0.2] at eC0 eM0
        exact ref eC0 eM0
      · have hw : hz_wOk x y := ⟨(hz_inR_sq m100 p100).mp hx, (hz_inR_sq m100 p100).mp hy, c0⟩
        have eC : f_HT_wind ht (mn, mr, ml, hz_nI P, hz_nI nx) (bx, by9, fs, hz_nI B, hz_nI F, ox, oy, oday) (t1, t2, t3, t4, hz_nI M, gen) x y day = f_HT_wind_50 ht (mn, mr, ml, hz_nI P, hz_nI nx) (bx, by9, fs, hz_nI B, hz_nI F, ox, oy, oday) (t1, t2, t3, t4, hz_nI M, gen) x y day := by
          rw [eC0]
          by_cases cx : x = 0
          · rw [if_pos cx, if_neg (fun h => c0 ⟨cx, h⟩)]
          · rw [if_neg cx]
        have eM : f_Model_wind (g1, g2, g3, (hz_nI M, gen, row), (hz_nI P, pt, am, ix, hz_nI nx), (ox, oy, oday), (hz_nI B, bx, by9, was, hz_nI F, fs), r) x y day = f_Model_wind_31 (g1, g2, g3, (hz_nI M, gen, row), (hz_nI P, pt, am, ix, hz_nI nx), (ox, oy, oday), (hz_nI B, bx, by9, was, hz_nI F, fs), r) x y day := by
          rw [eM0]
          by_cases cx : x = 0
          · rw [if_pos cx, if_neg (fun h => c0 ⟨cx, h⟩)]
          · rw [if_neg cx]
        have eD := fun d => hz_p_dist (mn := mn) (nx := hz_nI nx) (t1 := t1) (t3 := t3) (t4 := t4) (t5 := hz_nI M) (t6 := gen) (day := d) hP hR hl
        have eG := hz_p_gather_8 (am := am) (day := day) (oday := oday) (bx := bx) (by9 := by9) hD hw ho hB hbd B 4096 0 0 fs (by omega) (by omega) (by omega)
        obtain ⟨was', hwas, e49⟩ := hz_q_wind_49 (g1 := (hz_nI 0, g1.2)) (g2 := g2) (g3 := g3) (m0 := hz_nI M) (nx := hz_nI nx) (F := hz_nI F) (ge := gen) (row := row) (pt := pt) (am := am) (fs := fs) (wx := x) (wy := y) (day := day) (oday := oday) (r := r) hP hI hD ho hB hbd B 4096 0 was (by omega) (by omega) (fun j hj => by omega)
        have e112 := hz_q_wind_112 (g1 := (hz_nI 0, g1.2)) (g2 := g2) (g3 := g3) (m0 := hz_nI M) (ge := gen) (row := row) (pt := pt) (am := am) (nx := hz_nI nx) (day := day) (r := r) hP hI hD hw hB hbd hwas B 4096 0 0 fs (by omega) (by omega) (by omega)
        have hbd9 := hz_frT_bd (fun i => hz_isI P row ix am x y day (bx i) (by9 i)) (fun i => hz_isI P row ix am ox oy oday (bx i) (by9 i)) B 0 0 fs (by omega)
        generalize hq : hz_frT (fun i => hz_isI P row ix am x y day (bx i) (by9 i)) (fun i => hz_isI P row ix am ox oy oday (bx i) (by9 i)) B 0 0 fs = q at *
        refine ⟨0, vp_updL ot (0 : Int32).toNatClampNeg (hz_nI q.1).toInt64, (bx, by9, q.2, hz_nI B, hz_nI q.1, x, y, day), hz_nI 0, hz_nI q.1, (x, y, day), (hz_nI B, bx, by9, was', hz_nI q.1, q.2), ?_, ?_, ⟨rfl, fun _ => hz_o_eq ot _⟩, bx, by9, q.2, was', B, q.1, x, y, day, rfl, rfl, rfl, hB, by omega, hbd, hw⟩
        · have eH : f_HT_wind_50 ht (mn, mr, ml, hz_nI P, hz_nI nx) (bx, by9, fs, hz_nI B, hz_nI F, ox, oy, oday) (t1, t2, t3, t4, hz_nI M, gen) x y day = some (.inl (hz_nI q.1, (bx, by9, q.2, hz_nI B, hz_nI q.1, x, y, day))) := by
            unfold f_HT_wind_50 f_Surroundings_gather f_Surroundings_turn
            rw [eD, Option.bind_some, eD, Option.bind_some, hz_nI_lit, eG, Option.bind_some, Option.bind_some]
          unfold f_Law_wind
          rw [eC, eH, Option.bind_some, Sum.elim_inl, if_pos hz_o_inb]
        · rw [eM]
          unfold f_Model_wind_31
          rw [hz_goesT, Option.bind_some, if_neg (show ¬ (bI true = 0) by decide)]
          exact e49.trans e112
