set_option maxRecDepth 100000 in
theorem hz_bI_t : bI true = hz_nI 1 := rfl
set_option maxRecDepth 100000 in
theorem hz_bI_f : bI false = hz_nI 0 := rfl
set_option maxRecDepth 100000 in
def hz_prtR (t2 row mr ix : Nat → Int32) (P : Nat) : Prop := ∀ i, i < P → ∃ c k, c ≤ 12 ∧ k ≤ 12 ∧ mr i = hz_nI c ∧ ix i = hz_nI k ∧ hz_cellsR t2 row c (k * 43)
set_option maxRecDepth 100000 in
def hz_pD (row ix : Nat → Int32) (i j : Nat) : Int32 := row ((ix i).toNatClampNeg * 43 + 1 + j)
set_option maxRecDepth 100000 in
theorem hz_pD_eq {row ix : Nat → Int32} {i j k : Nat} (h : ix i = hz_nI k) (hk : k ≤ 12) : hz_pD row ix i j = row (k * 43 + 1 + j) := by
  unfold hz_pD; rw [h, hz_nI_nat (by omega)]
set_option maxRecDepth 100000 in
theorem hz_p_cell {t1 t2 t3 t4 : Nat → Int32} {t5 : Int32} {t6 : Bool} {c j : Nat} (hc : c ≤ 12) (hj : j < 9) : f_Table_cell (t1, t2, t3, t4, t5, t6) (hz_nI c) (hz_nI j) = some (t2 (c * 9 + j)) := by
  unfold f_Table_cell
  simp (disch := omega) only [hz_nI_lit, hz_nI_add, hz_nI_mul, hz_nI_lt, hz_nI_le, hz_nI_inj, hz_nI_sub, hz_nI_nat, hz_nI_inb, hz_nI_pred, hz_nI_m1_lt, hz_nI_lt_m1, hz_nI_m1_le, hz_nI_le_m1, hz_nI_eq_m1, hz_nI_m1_eq, hz_bI0, if_pos, if_neg, if_true, if_false, Option.bind_some, Prod.eta, reduceCtorEq]
set_option maxRecDepth 100000 in
theorem hz_p_row {mn mr ml : Nat → Int32} {sz nx : Int32} {i : Nat} (hi : i < 8) : f_Mixture_row (mn, mr, ml, sz, nx) (hz_nI i) = some (mr i) := by
  unfold f_Mixture_row
  simp (disch := omega) only [hz_nI_lit, hz_nI_add, hz_nI_mul, hz_nI_lt, hz_nI_le, hz_nI_inj, hz_nI_sub, hz_nI_nat, hz_nI_inb, hz_nI_pred, hz_nI_m1_lt, hz_nI_lt_m1, hz_nI_m1_le, hz_nI_le_m1, hz_nI_eq_m1, hz_nI_m1_eq, hz_bI0, if_pos, if_neg, if_true, if_false, Option.bind_some, Prod.eta, reduceCtorEq]
set_option maxRecDepth 100000 in
theorem hz_p_pcell {t1 t2 t3 t4 row mr ix : Nat → Int32} {t5 : Int32} {t6 : Bool} {P i j : Nat} (hR : hz_prtR t2 row mr ix P) (hi : i < P) (hj : j < 9) : f_Table_cell (t1, t2, t3, t4, t5, t6) (mr i) (hz_nI j) = some (hz_pD row ix i j) := by
  obtain ⟨c, k, h1, h2, h3, h4, h5⟩ := hR i hi
  rw [h3, hz_p_cell h1 hj, hz_pD_eq h4 h2, h5.1 j hj]
set_option maxRecDepth 100000 in
def hz_maxT (f : Nat → Int32) : Nat → Nat → Int32 → Int32
  | 0, i, b => b
  | n + 1, i, b => hz_maxT f n (i + 1) (if b < f i then f i else b)
set_option maxRecDepth 100000 in
def hz_orT (f : Nat → Int32) : Nat → Nat → Int32 → Int32
  | 0, i, b => b
  | n + 1, i, b => hz_orT f n (i + 1) (b ||| f i)
set_option maxRecDepth 100000 in
theorem hz_p_strict_4 {mn mr ml t1 t2 t3 t4 row ix : Nat → Int32} {nx t5 : Int32} {t6 : Bool} {P : Nat} (hP : P ≤ 8) (hR : hz_prtR t2 row mr ix P) : ∀ k n i b, P = i + k → k < n → f_Mixture_strictness_4 n (mn, mr, ml, hz_nI P, nx) (t1, t2, t3, t4, t5, t6) b (hz_nI i) = some (hz_maxT (fun i => hz_pD row ix i 1) k i b)
  | 0, n + 1, i, b, h1, h2 => by
    rw [f_Mixture_strictness_4]
    simp (disch := omega) only [hz_nI_lit, hz_nI_add, hz_nI_mul, hz_nI_lt, hz_nI_le, hz_nI_inj, hz_nI_sub, hz_nI_nat, hz_nI_inb, hz_nI_pred, hz_nI_m1_lt, hz_nI_lt_m1, hz_nI_m1_le, hz_nI_le_m1, hz_nI_eq_m1, hz_nI_m1_eq, hz_bI0, if_pos, if_neg, if_true, if_false, Option.bind_some, Prod.eta, reduceCtorEq, hz_maxT]
  | k + 1, n + 1, i, b, h1, h2 => by
    have ih := fun b => hz_p_strict_4 (mn := mn) (ml := ml) (nx := nx) (t1 := t1) (t3 := t3) (t4 := t4) (t5 := t5) (t6 := t6) hP hR k n (i + 1) b (by omega) (by omega)
    have e := hz_p_pcell (t1 := t1) (t3 := t3) (t4 := t4) (t5 := t5) (t6 := t6) hR (show i < P by omega) (show 1 < 9 by omega)
    rw [f_Mixture_strictness_4, hz_p_row (show i < 8 by omega), Option.bind_some]
    simp (disch := omega) only [hz_nI_lit, hz_nI_add, hz_nI_mul, hz_nI_lt, hz_nI_le, hz_nI_inj, hz_nI_sub, hz_nI_nat, hz_nI_inb, hz_nI_pred, hz_nI_m1_lt, hz_nI_lt_m1, hz_nI_m1_le, hz_nI_le_m1, hz_nI_eq_m1, hz_nI_m1_eq, hz_bI0, if_pos, if_neg, if_true, if_false, Option.bind_some, Prod.eta, reduceCtorEq, e]
    exact ih _
set_option maxRecDepth 100000 in
theorem hz_p_strict {mn mr ml t1 t2 t3 t4 row ix : Nat → Int32} {nx t5 : Int32} {t6 : Bool} {P : Nat} (hP : P ≤ 8) (hR : hz_prtR t2 row mr ix P) : f_Mixture_strictness (mn, mr, ml, hz_nI P, nx) (t1, t2, t3, t4, t5, t6) = some (hz_maxT (fun i => hz_pD row ix i 1) P 0 (hz_nI 0)) := by
  unfold f_Mixture_strictness
  exact hz_p_strict_4 hP hR P 4096 0 _ (by omega) (by omega)
set_option maxRecDepth 100000 in
theorem hz_p_gear_4 {mn mr ml t1 t2 t3 t4 row ix : Nat → Int32} {nx t5 : Int32} {t6 : Bool} {P : Nat} (hP : P ≤ 8) (hR : hz_prtR t2 row mr ix P) : ∀ k n i b, P = i + k → k < n → f_Mixture_gear_4 n (mn, mr, ml, hz_nI P, nx) (t1, t2, t3, t4, t5, t6) b (hz_nI i) = some (hz_orT (fun i => hz_pD row ix i 2) k i b)
  | 0, n + 1, i, b, h1, h2 => by
    rw [f_Mixture_gear_4]
    simp (disch := omega) only [hz_nI_lit, hz_nI_add, hz_nI_mul, hz_nI_lt, hz_nI_le, hz_nI_inj, hz_nI_sub, hz_nI_nat, hz_nI_inb, hz_nI_pred, hz_nI_m1_lt, hz_nI_lt_m1, hz_nI_m1_le, hz_nI_le_m1, hz_nI_eq_m1, hz_nI_m1_eq, hz_bI0, if_pos, if_neg, if_true, if_false, Option.bind_some, Prod.eta, reduceCtorEq, hz_orT]
  | k + 1, n + 1, i, b, h1, h2 => by
    have ih := fun b => hz_p_gear_4 (mn := mn) (ml := ml) (nx := nx) (t1 := t1) (t3 := t3) (t4 := t4) (t5 := t5) (t6 := t6) hP hR k n (i + 1) b (by omega) (by omega)
    have e := hz_p_pcell (t1 := t1) (t3 := t3) (t4 := t4) (t5 := t5) (t6 := t6) hR (show i < P by omega) (show 2 < 9 by omega)
    rw [f_Mixture_gear_4, hz_p_row (show i < 8 by omega), Option.bind_some]
    simp (disch := omega) only [hz_nI_lit, hz_nI_add, hz_nI_mul, hz_nI_lt, hz_nI_le, hz_nI_inj, hz_nI_sub, hz_nI_nat, hz_nI_inb, hz_nI_pred, hz_nI_m1_lt, hz_nI_lt_m1, hz_nI_m1_le, hz_nI_le_m1, hz_nI_eq_m1, hz_nI_m1_eq, hz_bI0, if_pos, if_neg, if_true, if_false, Option.bind_some, Prod.eta, reduceCtorEq, e]
    exact ih _
set_option maxRecDepth 100000 in
theorem hz_p_gear {mn mr ml t1 t2 t3 t4 row ix : Nat → Int32} {nx t5 : Int32} {t6 : Bool} {P : Nat} (hP : P ≤ 8) (hR : hz_prtR t2 row mr ix P) : f_Mixture_gear (mn, mr, ml, hz_nI P, nx) (t1, t2, t3, t4, t5, t6) = some (hz_orT (fun i => hz_pD row ix i 2) P 0 (hz_nI 0)) := by
  unfold f_Mixture_gear
  exact hz_p_gear_4 hP hR P 4096 0 _ (by omega) (by omega)
set_option maxRecDepth 100000 in
def hz_dT (row ix am : Nat → Int32) (day : Bool) (i : Nat) : Int32 := hz_pD row ix i (3 + (if am i ≤ hz_nI 200 then 0 else 2) + (if day = true then 0 else 1))
set_option maxRecDepth 100000 in
def hz_larR (ml am : Nat → Int32) (P : Nat) : Prop := ∀ i, i < P → (ml i = hz_nI 0 ↔ am i ≤ hz_nI 200)
set_option maxRecDepth 100000 in
theorem hz_p_dist_5 {mn mr ml t1 t2 t3 t4 row ix am : Nat → Int32} {nx t5 : Int32} {t6 day : Bool} {P : Nat} (hP : P ≤ 8) (hR : hz_prtR t2 row mr ix P) (hl : hz_larR ml am P) : ∀ k n i b, P = i + k → k < n → f_Mixture_distance_5 n (mn, mr, ml, hz_nI P, nx) (t1, t2, t3, t4, t5, t6) day b (hz_nI i) = some (hz_maxT (hz_dT row ix am day) k i b)
  | 0, n + 1, i, b, h1, h2 => by
    rw [f_Mixture_distance_5]
    simp (disch := omega) only [hz_nI_lit, hz_nI_add, hz_nI_mul, hz_nI_lt, hz_nI_le, hz_nI_inj, hz_nI_sub, hz_nI_nat, hz_nI_inb, hz_nI_pred, hz_nI_m1_lt, hz_nI_lt_m1, hz_nI_m1_le, hz_nI_le_m1, hz_nI_eq_m1, hz_nI_m1_eq, hz_bI0, if_pos, if_neg, if_true, if_false, Option.bind_some, Prod.eta, reduceCtorEq, hz_maxT]
  | k + 1, n + 1, i, b, h1, h2 => by
    have ih := fun b => hz_p_dist_5 (mn := mn) (nx := nx) (t1 := t1) (t3 := t3) (t4 := t4) (t5 := t5) (t6 := t6) (day := day) hP hR hl k n (i + 1) b (by omega) (by omega)
    have e := fun j (hj : j < 9) => hz_p_pcell (t1 := t1) (t3 := t3) (t4 := t4) (t5 := t5) (t6 := t6) hR (show i < P by omega) hj
    rw [f_Mixture_distance_5]
    unfold f_Mixture_distance_37 f_Mixture_distance_47 hz_maxT hz_dT
    rw [hz_p_row (show i < 8 by omega)]
    have hi := hl i (by omega)
    cases day
    · by_cases c : am i ≤ hz_nI 200
      · simp (disch := omega) only [hz_nI_lit, hz_nI_add, hz_nI_mul, hz_nI_lt, hz_nI_le, hz_nI_inj, hz_nI_sub, hz_nI_nat, hz_nI_inb, hz_nI_pred, hz_nI_m1_lt, hz_nI_lt_m1, hz_nI_m1_le, hz_nI_le_m1, hz_nI_eq_m1, hz_nI_m1_eq, hz_bI0, if_pos, if_neg, if_true, if_false, Option.bind_some, Prod.eta, reduceCtorEq, hi.mpr c, c, hz_bI_t, e (3 + 0 + 1) (by omega), Bool.false_eq_true]
        exact ih _
      · have c2 : ¬ ml i = hz_nI 0 := fun h => c (hi.mp h)
        simp (disch := omega) only [hz_nI_lit, hz_nI_add, hz_nI_mul, hz_nI_lt, hz_nI_le, hz_nI_inj, hz_nI_sub, hz_nI_nat, hz_nI_inb, hz_nI_pred, hz_nI_m1_lt, hz_nI_lt_m1, hz_nI_m1_le, hz_nI_le_m1, hz_nI_eq_m1, hz_nI_m1_eq, hz_bI0, if_pos, if_neg, if_true, if_false, Option.bind_some, Prod.eta, reduceCtorEq, c2, c, hz_bI_t, e (3 + 2 + 1) (by omega), Bool.false_eq_true]
        exact ih _
    · by_cases c : am i ≤ hz_nI 200
      · simp (disch := omega) only [hz_nI_lit, hz_nI_add, hz_nI_mul, hz_nI_lt, hz_nI_le, hz_nI_inj, hz_nI_sub, hz_nI_nat, hz_nI_inb, hz_nI_pred, hz_nI_m1_lt, hz_nI_lt_m1, hz_nI_m1_le, hz_nI_le_m1, hz_nI_eq_m1, hz_nI_m1_eq, hz_bI0, if_pos, if_neg, if_true, if_false, Option.bind_some, Prod.eta, reduceCtorEq, hi.mpr c, c, hz_bI_f, e (3 + 0 + 0) (by omega), Bool.true_eq_false]
        exact ih _
      · have c2 : ¬ ml i = hz_nI 0 := fun h => c (hi.mp h)
        simp (disch := omega) only [hz_nI_lit, hz_nI_add, hz_nI_mul, hz_nI_lt, hz_nI_le, hz_nI_inj, hz_nI_sub, hz_nI_nat, hz_nI_inb, hz_nI_pred, hz_nI_m1_lt, hz_nI_lt_m1, hz_nI_m1_le, hz_nI_le_m1, hz_nI_eq_m1, hz_nI_m1_eq, hz_bI0, if_pos, if_neg, if_true, if_false, Option.bind_some, Prod.eta, reduceCtorEq, c2, c, hz_bI_f, e (3 + 2 + 0) (by omega), Bool.true_eq_false]
        exact ih _
set_option maxRecDepth 100000 in
theorem hz_p_dist {mn mr ml t1 t2 t3 t4 row ix am : Nat → Int32} {nx t5 : Int32} {t6 day : Bool} {P : Nat} (hP : P ≤ 8) (hR : hz_prtR t2 row mr ix P) (hl : hz_larR ml am P) : f_Mixture_distance (mn, mr, ml, hz_nI P, nx) (t1, t2, t3, t4, t5, t6) day = some (hz_maxT (hz_dT row ix am day) P 0 (-hz_nI 1)) := by
  unfold f_Mixture_distance
  exact hz_p_dist_5 hP hR hl P 4096 0 _ (by omega) (by omega)
abbrev hz_MQ9 : Type := (Int32 × Int32 × Bool) × (Int32 × (Nat → Int32) × (Nat → Int32) × (Nat → Int32) × Int32 × (Nat → Int32)) × ((Nat → Int32)) × (Int32 × (Nat → Int32) × (Nat → Int32))
abbrev hz_M2 : Type := Int32 × (Nat → Int32) × Int32 × Int32
set_option maxRecDepth 100000 in
def hz_ixR (ix : Nat → Int32) (P : Nat) : Prop := ∀ i, i < P → ∃ k, k ≤ 12 ∧ ix i = hz_nI k
set_option maxRecDepth 100000 in
theorem hz_ixR_of {t2 row mr ix : Nat → Int32} {P : Nat} (h : hz_prtR t2 row mr ix P) : hz_ixR ix P := fun i hi => by
  obtain ⟨c, k, h1, h2, h3, h4, h5⟩ := h i hi
  exact ⟨k, h2, h4⟩
set_option maxRecDepth 100000 in
theorem hz_q_strict_4 {g1 : Int32 × Int32} {g2 : hz_M2} {g3 : hz_M3} {m0 nx : Int32} {ge : Bool} {row pt am ix : Nat → Int32} {r : hz_MQ9} {P : Nat} (hP : P ≤ 8) (hR : hz_ixR ix P) : ∀ k n i b, P = i + k → k < n → f_Model_strictness_4 n (g1, g2, g3, (m0, ge, row), (hz_nI P, pt, am, ix, nx), r) b (hz_nI i) = some (hz_maxT (fun i => hz_pD row ix i 1) k i b)
  | 0, n + 1, i, b, h1, h2 => by
    rw [f_Model_strictness_4]
    simp (disch := omega) only [hz_nI_lit, hz_nI_add, hz_nI_mul, hz_nI_lt, hz_nI_le, hz_nI_inj, hz_nI_sub, hz_nI_nat, hz_nI_inb, hz_nI_pred, hz_nI_m1_lt, hz_nI_lt_m1, hz_nI_m1_le, hz_nI_le_m1, hz_nI_eq_m1, hz_nI_m1_eq, hz_bI0, if_pos, if_neg, if_true, if_false, Option.bind_some, Prod.eta, reduceCtorEq, hz_maxT]
  | k + 1, n + 1, i, b, h1, h2 => by
    have ih := fun b => hz_q_strict_4 (g1 := g1) (g2 := g2) (g3 := g3) (m0 := m0) (ge := ge) (row := row) (pt := pt) (am := am) (nx := nx) (r := r) hP hR k n (i + 1) b (by omega) (by omega)
    obtain ⟨q, q1, q2⟩ := hR i (by omega)
    have e : row (q * 43 + 2) = hz_pD row ix i 1 := by rw [hz_pD_eq q2 q1]
    rw [f_Model_strictness_4]
    unfold hz_maxT
    by_cases c : b < hz_pD row ix i 1
    · have c' : ¬ hz_pD row ix i 1 ≤ b := by rw [Int32.not_le]; exact c
      simp (disch := omega) only [hz_nI_lit, hz_nI_add, hz_nI_mul, hz_nI_lt, hz_nI_le, hz_nI_inj, hz_nI_sub, hz_nI_nat, hz_nI_inb, hz_nI_pred, hz_nI_m1_lt, hz_nI_lt_m1, hz_nI_m1_le, hz_nI_le_m1, hz_nI_eq_m1, hz_nI_m1_eq, hz_bI0, if_pos, if_neg, if_true, if_false, Option.bind_some, Prod.eta, reduceCtorEq, q2, e, c, c']
      exact ih _
    · have c' : hz_pD row ix i 1 ≤ b := by rw [← Int32.not_lt]; exact c
      simp (disch := omega) only [hz_nI_lit, hz_nI_add, hz_nI_mul, hz_nI_lt, hz_nI_le, hz_nI_inj, hz_nI_sub, hz_nI_nat, hz_nI_inb, hz_nI_pred, hz_nI_m1_lt, hz_nI_lt_m1, hz_nI_m1_le, hz_nI_le_m1, hz_nI_eq_m1, hz_nI_m1_eq, hz_bI0, if_pos, if_neg, if_true, if_false, Option.bind_some, Prod.eta, reduceCtorEq, q2, e, c, c']
      exact ih _
set_option maxRecDepth 100000 in
theorem hz_q_strict {g1 : Int32 × Int32} {g2 : hz_M2} {g3 : hz_M3} {m0 nx : Int32} {ge : Bool} {row pt am ix : Nat → Int32} {r : hz_MQ9} {P : Nat} (hP : P ≤ 8) (hR : hz_ixR ix P) : f_Model_strictness (g1, g2, g3, (m0, ge, row), (hz_nI P, pt, am, ix, nx), r) = some (hz_maxT (fun i => hz_pD row ix i 1) P 0 (hz_nI 0)) := by
  unfold f_Model_strictness
  exact hz_q_strict_4 hP hR P 4096 0 _ (by omega) (by omega)
set_option maxRecDepth 100000 in
theorem hz_q_dist_4 {g1 : Int32 × Int32} {g2 : hz_M2} {g3 : hz_M3} {m0 nx : Int32} {ge day : Bool} {row pt am ix : Nat → Int32} {r : hz_MQ9} {P : Nat} (hP : P ≤ 8) (hR : hz_ixR ix P) : ∀ k n i b, P = i + k → k < n → f_Model_distance_4 n (g1, g2, g3, (m0, ge, row), (hz_nI P, pt, am, ix, nx), r) day b (hz_nI i) = some (hz_maxT (hz_dT row ix am day) k i b)
  | 0, n + 1, i, b, h1, h2 => by
    rw [f_Model_distance_4]
    simp (disch := omega) only [hz_nI_lit, hz_nI_add, hz_nI_mul, hz_nI_lt, hz_nI_le, hz_nI_inj, hz_nI_sub, hz_nI_nat, hz_nI_inb, hz_nI_pred, hz_nI_m1_lt, hz_nI_lt_m1, hz_nI_m1_le, hz_nI_le_m1, hz_nI_eq_m1, hz_nI_m1_eq, hz_bI0, if_pos, if_neg, if_true, if_false, Option.bind_some, Prod.eta, reduceCtorEq, hz_maxT]
  | k + 1, n + 1, i, b, h1, h2 => by
    have ih := fun b => hz_q_dist_4 (g1 := g1) (g2 := g2) (g3 := g3) (m0 := m0) (ge := ge) (day := day) (row := row) (pt := pt) (am := am) (nx := nx) (r := r) hP hR k n (i + 1) b (by omega) (by omega)
    obtain ⟨q, q1, q2⟩ := hR i (by omega)
    rw [f_Model_distance_4]
    unfold f_Model_distance_44 f_Model_distance_54 hz_maxT
    have e : hz_dT row ix am day i = row (q * 43 + 1 + (3 + (if am i ≤ hz_nI 200 then 0 else 2) + (if day = true then 0 else 1))) := by unfold hz_dT; rw [hz_pD_eq q2 q1]
    have e9 : (if b < hz_dT row ix am day i then hz_dT row ix am day i else b) = if hz_dT row ix am day i ≤ b then b else hz_dT row ix am day i := by
      by_cases c : b < hz_dT row ix am day i
      · rw [if_pos c, if_neg (by rw [Int32.not_le]; exact c)]
      · rw [if_neg c, if_pos (by rw [← Int32.not_lt]; exact c)]
    rw [e9]
    have ih1 := ih b
    have ih2 := ih (hz_dT row ix am day i)
    rw [e] at ih2 ⊢
    cases day
    · by_cases c : am i ≤ hz_nI 200
      · simp only [c, if_true, Bool.false_eq_true, if_false] at ih2 ⊢
        simp (disch := omega) only [hz_nI_lit, hz_nI_add, hz_nI_mul, hz_nI_lt, hz_nI_le, hz_nI_inj, hz_nI_sub, hz_nI_nat, hz_nI_inb, hz_nI_pred, hz_nI_m1_lt, hz_nI_lt_m1, hz_nI_m1_le, hz_nI_le_m1, hz_nI_eq_m1, hz_nI_m1_eq, hz_bI0, if_pos, if_neg, if_true, if_false, Option.bind_some, Prod.eta, reduceCtorEq, q2, c, hz_bI_t, Bool.false_eq_true]
        rw [show q * 43 + 4 + 0 + 1 = q * 43 + 1 + (3 + 0 + 1) by omega]
        split
        · exact ih1
        · exact ih2
      · simp only [c, if_true, Bool.false_eq_true, if_false] at ih2 ⊢
        simp (disch := omega) only [hz_nI_lit, hz_nI_add, hz_nI_mul, hz_nI_lt, hz_nI_le, hz_nI_inj, hz_nI_sub, hz_nI_nat, hz_nI_inb, hz_nI_pred, hz_nI_m1_lt, hz_nI_lt_m1, hz_nI_m1_le, hz_nI_le_m1, hz_nI_eq_m1, hz_nI_m1_eq, hz_bI0, if_pos, if_neg, if_true, if_false, Option.bind_some, Prod.eta, reduceCtorEq, q2, c, hz_bI_t, Bool.false_eq_true]
        rw [show q * 43 + 4 + 2 + 1 = q * 43 + 1 + (3 + 2 + 1) by omega]
        split
        · exact ih1
        · exact ih2
    · by_cases c : am i ≤ hz_nI 200
      · simp only [c, if_true, Bool.true_eq_false, if_false] at ih2 ⊢
        simp (disch := omega) only [hz_nI_lit, hz_nI_add, hz_nI_mul, hz_nI_lt, hz_nI_le, hz_nI_inj, hz_nI_sub, hz_nI_nat, hz_nI_inb, hz_nI_pred, hz_nI_m1_lt, hz_nI_lt_m1, hz_nI_m1_le, hz_nI_le_m1, hz_nI_eq_m1, hz_nI_m1_eq, hz_bI0, if_pos, if_neg, if_true, if_false, Option.bind_some, Prod.eta, reduceCtorEq, q2, c, hz_bI_f, Bool.true_eq_false]
        rw [show q * 43 + 4 + 0 + 0 = q * 43 + 1 + (3 + 0 + 0) by omega]
        split
        · exact ih1
        · exact ih2
      · simp only [c, if_true, Bool.true_eq_false, if_false] at ih2 ⊢
        simp (disch := omega) only [hz_nI_lit, hz_nI_add, hz_nI_mul, hz_nI_lt, hz_nI_le, hz_nI_inj, hz_nI_sub, hz_nI_nat, hz_nI_inb, hz_nI_pred, hz_nI_m1_lt, hz_nI_lt_m1, hz_nI_m1_le, hz_nI_le_m1, hz_nI_eq_m1, hz_nI_m1_eq, hz_bI0, if_pos, if_neg, if_true, if_false, Option.bind_some, Prod.eta, reduceCtorEq, q2, c, hz_bI_f, Bool.true_eq_false]
        rw [show q * 43 + 4 + 2 + 0 = q * 43 + 1 + (3 + 2 + 0) by omega]
        split
        · exact ih1
        · exact ih2
set_option maxRecDepth 100000 in
theorem hz_q_dist {g1 : Int32 × Int32} {g2 : hz_M2} {g3 : hz_M3} {m0 nx : Int32} {ge day : Bool} {row pt am ix : Nat → Int32} {r : hz_MQ9} {P : Nat} (hP : P ≤ 8) (hR : hz_ixR ix P) : f_Model_distance (g1, g2, g3, (m0, ge, row), (hz_nI P, pt, am, ix, nx), r) day = some (hz_maxT (hz_dT row ix am day) P 0 (hz_nI 0)) := by
  unfold f_Model_distance
  exact hz_q_dist_4 hP hR P 4096 0 _ (by omega) (by omega)
