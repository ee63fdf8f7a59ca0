set_option maxRecDepth 100000 in
theorem hz_maxT_rng {f : Nat → Int32} {D : Nat} (hD : D < 2147483648) : ∀ n a b, (∀ i, a ≤ i → i < a + n → ∃ d, d ≤ D ∧ f i = hz_nI d) → (∃ d, d ≤ D ∧ b = hz_nI d) → ∃ d, d ≤ D ∧ hz_maxT f n a b = hz_nI d
  | 0, a, b, h1, h2 => h2
  | n + 1, a, b, h1, h2 => by
    unfold hz_maxT
    refine hz_maxT_rng hD n (a + 1) _ (fun i hi1 hi2 => h1 i (by omega) (by omega)) ?_
    split
    · exact h1 a (by omega) (by omega)
    · exact h2
set_option maxRecDepth 100000 in
theorem hz_maxT_m1 {f : Nat → Int32} {n a d : Nat} (hn : 1 ≤ n) (hd : d < 2147483648) (h : f a = hz_nI d) : hz_maxT f n a (-hz_nI 1) = hz_maxT f n a (hz_nI 0) := by
  obtain ⟨k, rfl⟩ : ∃ k, n = k + 1 := ⟨n - 1, by omega⟩
  unfold hz_maxT
  rw [h]
  congr 1
  simp only [hz_nI_m1_lt hd, if_true, hz_nI_lt (show 0 < 2147483648 by omega) hd]
  by_cases c : 0 < d
  · simp only [c, if_true]
  · have : d = 0 := by omega
    subst this
    split <;> rfl
set_option maxRecDepth 100000 in
def hz_disR (row ix : Nat → Int32) (P : Nat) : Prop := ∀ i, i < P → ∀ j, j < 4 → ∃ d, d ≤ 9999 ∧ hz_pD row ix i (3 + j) = hz_nI d
set_option maxRecDepth 100000 in
theorem hz_disR_of {t2 row mr ix : Nat → Int32} {P : Nat} (h : hz_prtR t2 row mr ix P) : hz_disR row ix P := fun i hi j hj => by
  obtain ⟨c, k, h1, h2, h3, h4, h5⟩ := h i hi
  obtain ⟨d, d1, d2⟩ := h5.2 j hj
  exact ⟨d, d1, by rw [hz_pD_eq h4 h2, ← d2]; congr 1; omega⟩
set_option maxRecDepth 100000 in
theorem hz_dT_rng {row ix am : Nat → Int32} {P i : Nat} {day : Bool} (h : hz_disR row ix P) (hi : i < P) : ∃ d, d ≤ 9999 ∧ hz_dT row ix am day i = hz_nI d := by
  unfold hz_dT
  rw [Nat.add_assoc]
  exact h i hi _ (by split <;> split <;> omega)
set_option maxRecDepth 100000 in
theorem hz_dist_rng {row ix am : Nat → Int32} {P : Nat} {day : Bool} (h : hz_disR row ix P) : ∃ d, d ≤ 9999 ∧ hz_maxT (hz_dT row ix am day) P 0 (hz_nI 0) = hz_nI d :=
  hz_maxT_rng (by omega) P 0 _ (fun i _ hi => hz_dT_rng h (by omega)) ⟨0, by omega, rfl⟩
set_option maxRecDepth 100000 in
theorem hz_dist_m1 {row ix am : Nat → Int32} {P : Nat} {day : Bool} (h : hz_disR row ix P) (hP : 1 ≤ P) : hz_maxT (hz_dT row ix am day) P 0 (-hz_nI 1) = hz_maxT (hz_dT row ix am day) P 0 (hz_nI 0) := by
  obtain ⟨d, d1, d2⟩ := hz_dT_rng (am := am) (day := day) h (show 0 < P by omega)
  exact hz_maxT_m1 hP (by omega) d2
set_option maxRecDepth 100000 in
def hz_hib (b c : Int32) : Bool := decide ((b >>> (c &&& hz_nI 31)) &&& hz_nI 1 = hz_nI 1)
set_option maxRecDepth 100000 in
theorem hz_p_hib (b c : Int32) : f_Table_hasInBits b c = some (hz_hib b c) := by
  unfold f_Table_hasInBits hz_hib
  simp only [hz_nI_lit]
  by_cases h : b >>> (c &&& hz_nI 31) &&& hz_nI 1 = hz_nI 1
  · simp only [h, if_true, decide_true]
  · simp only [h, if_false, decide_false]
set_option maxRecDepth 100000 in
def hz_ctr (row ix : Nat → Int32) (i j : Nat) : Bool := hz_hib (hz_pD row ix i 7) (hz_pD row ix j 0) || hz_hib (hz_pD row ix j 7) (hz_pD row ix i 0)
set_option maxRecDepth 100000 in
theorem hz_ctr_comm (row ix : Nat → Int32) (i j : Nat) : hz_ctr row ix i j = hz_ctr row ix j i := Bool.or_comm _ _
set_option maxRecDepth 100000 in
theorem hz_p_ctr {t1 t2 t3 t4 row mr ix : Nat → Int32} {t5 : Int32} {t6 : Bool} {P i j : Nat} (hR : hz_prtR t2 row mr ix P) (hi : i < P) (hj : j < P) : f_Table_contradict (t1, t2, t3, t4, t5, t6) (mr i) (mr j) = some (hz_ctr row ix i j) := by
  have e := fun q (hq : q < P) c (hc : c < 9) => hz_p_pcell (t1 := t1) (t3 := t3) (t4 := t4) (t5 := t5) (t6 := t6) hR hq hc
  unfold f_Table_contradict hz_ctr
  simp only [hz_nI_lit, e i hi 7 (by omega), e j hj 0 (by omega), e j hj 7 (by omega), e i hi 0 (by omega), Option.bind_some, hz_p_hib, hz_bI0]
  cases hz_hib (hz_pD row ix i 7) (hz_pD row ix j 0) <;> cases hz_hib (hz_pD row ix j 7) (hz_pD row ix i 0) <;> rfl
set_option maxRecDepth 100000 in
theorem hz_q_ctr {g1 : Int32 × Int32} {g2 : hz_M2} {g3 : hz_M3} {m0 nx sz : Int32} {ge : Bool} {row pt am ix : Nat → Int32} {r : hz_MQ9} {P i j : Nat} (hP : P ≤ 8) (hR : hz_ixR ix P) (hi : i < P) (hj : j < P) : f_Model_contradict (g1, g2, g3, (m0, ge, row), (sz, pt, am, ix, nx), r) (hz_nI i) (hz_nI j) = some (hz_ctr row ix i j) := by
  obtain ⟨a, a1, a2⟩ := hR i hi
  obtain ⟨b, b1, b2⟩ := hR j hj
  unfold f_Model_contradict hz_ctr hz_hib
  rw [hz_pD_eq a2 a1, hz_pD_eq a2 a1, hz_pD_eq b2 b1, hz_pD_eq b2 b1]
  simp (disch := omega) only [hz_nI_lit, hz_nI_add, hz_nI_mul, hz_nI_lt, hz_nI_le, hz_nI_inj, hz_nI_sub, hz_nI_nat, hz_nI_inb, hz_nI_pred, hz_nI_m1_lt, hz_nI_lt_m1, hz_nI_m1_le, hz_nI_le_m1, hz_nI_eq_m1, hz_nI_m1_eq, hz_bI0, if_pos, if_neg, if_true, if_false, Option.bind_some, Prod.eta, reduceCtorEq, a2, b2]
  rw [show a * 43 + 1 + 7 = a * 43 + 8 by omega, show b * 43 + 1 + 0 = b * 43 + 1 by omega, show b * 43 + 1 + 7 = b * 43 + 8 by omega, show a * 43 + 1 + 0 = a * 43 + 1 by omega]
  by_cases h1 : row (a * 43 + 8) >>> (row (b * 43 + 1) &&& hz_nI 31) &&& hz_nI 1 = hz_nI 1
  · simp only [h1, if_true, decide_true, Bool.true_or]
  · simp only [h1, if_false, decide_false, Bool.false_or]
    by_cases h2 : row (b * 43 + 8) >>> (row (a * 43 + 1) &&& hz_nI 31) &&& hz_nI 1 = hz_nI 1
    · simp only [h2, if_true, decide_true]
    · simp only [h2, if_false, decide_false]
set_option maxRecDepth 100000 in
def hz_cntT (g : Nat → Bool) : Nat → Nat → Int32 → Int32
  | 0, i, b => b
  | n + 1, i, b => hz_cntT g n (i + 1) (if g i = true then b + hz_nI 1 else b)
set_option maxRecDepth 100000 in
theorem hz_cntT_add (g : Nat → Bool) : ∀ n i b, hz_cntT g n i b = b + hz_cntT g n i (hz_nI 0)
  | 0, i, b => by
    simp only [hz_cntT]
    exact (Int32.add_zero b).symm
  | n + 1, i, b => by
    unfold hz_cntT
    rw [hz_cntT_add g n (i + 1) (if g i = true then b + hz_nI 1 else b), hz_cntT_add g n (i + 1) (if g i = true then hz_nI 0 + hz_nI 1 else hz_nI 0)]
    cases g i
    · simp only [Bool.false_eq_true, if_false]
      rw [← Int32.add_assoc, show b + hz_nI 0 = b from Int32.add_zero b]
    · simp only [if_true]
      rw [← Int32.add_assoc, hz_nI_add, Nat.zero_add]
set_option maxRecDepth 100000 in
theorem hz_cntT_congr {g h : Nat → Bool} : ∀ n i b, (∀ j, i ≤ j → j < i + n → g j = h j) → hz_cntT g n i b = hz_cntT h n i b
  | 0, i, b, e => rfl
  | n + 1, i, b, e => by
    unfold hz_cntT
    rw [e i (by omega) (by omega), hz_cntT_congr n (i + 1) _ (fun j h1 h2 => e j (by omega) (by omega))]
set_option maxRecDepth 100000 in
theorem hz_p_before_5 {mn mr ml t1 t2 t3 t4 row ix : Nat → Int32} {nx t5 sz : Int32} {t6 : Bool} {P p : Nat} (hP : P ≤ 8) (hR : hz_prtR t2 row mr ix P) (hp : p < P) : ∀ k n i b, p = i + k → k < n → f_Mixture_contradictedBefore_5 n (mn, mr, ml, sz, nx) (t1, t2, t3, t4, t5, t6) (hz_nI p) b (hz_nI i) = some (hz_cntT (fun i => hz_ctr row ix i p) k i b)
  | 0, n + 1, i, b, h1, h2 => by
    rw [f_Mixture_contradictedBefore_5]
    simp (disch := omega) only [hz_nI_lit, hz_nI_add, hz_nI_mul, hz_nI_lt, hz_nI_le, hz_nI_inj, hz_nI_sub, hz_nI_nat, hz_nI_inb, hz_nI_pred, hz_nI_m1_lt, hz_nI_lt_m1, hz_nI_m1_le, hz_nI_le_m1, hz_nI_eq_m1, hz_nI_m1_eq, hz_bI0, if_pos, if_neg, if_true, if_false, Option.bind_some, Prod.eta, reduceCtorEq, hz_cntT]
  | k + 1, n + 1, i, b, h1, h2 => by
    have ih := fun b => hz_p_before_5 (mn := mn) (ml := ml) (nx := nx) (sz := sz) (t1 := t1) (t3 := t3) (t4 := t4) (t5 := t5) (t6 := t6) hP hR hp k n (i + 1) b (by omega) (by omega)
    rw [f_Mixture_contradictedBefore_5, hz_p_row (show i < 8 by omega), Option.bind_some, hz_p_row (show p < 8 by omega), Option.bind_some, hz_p_ctr hR (show i < P by omega) hp, Option.bind_some]
    unfold hz_cntT
    cases h : hz_ctr row ix i p
    · simp (disch := omega) only [hz_nI_lit, hz_nI_add, hz_nI_mul, hz_nI_lt, hz_nI_le, hz_nI_inj, hz_nI_sub, hz_nI_nat, hz_nI_inb, hz_nI_pred, hz_nI_m1_lt, hz_nI_lt_m1, hz_nI_m1_le, hz_nI_le_m1, hz_nI_eq_m1, hz_nI_m1_eq, hz_bI0, if_pos, if_neg, if_true, if_false, Option.bind_some, Prod.eta, reduceCtorEq, Bool.false_eq_true]
      exact ih _
    · simp (disch := omega) only [hz_nI_lit, hz_nI_add, hz_nI_mul, hz_nI_lt, hz_nI_le, hz_nI_inj, hz_nI_sub, hz_nI_nat, hz_nI_inb, hz_nI_pred, hz_nI_m1_lt, hz_nI_lt_m1, hz_nI_m1_le, hz_nI_le_m1, hz_nI_eq_m1, hz_nI_m1_eq, hz_bI0, if_pos, if_neg, if_true, if_false, Option.bind_some, Prod.eta, reduceCtorEq, Bool.true_eq_false]
      exact ih _
set_option maxRecDepth 100000 in
theorem hz_p_before {mn mr ml t1 t2 t3 t4 row ix : Nat → Int32} {nx t5 sz : Int32} {t6 : Bool} {P p : Nat} (hP : P ≤ 8) (hR : hz_prtR t2 row mr ix P) (hp : p < P) : f_Mixture_contradictedBefore (mn, mr, ml, sz, nx) (t1, t2, t3, t4, t5, t6) (hz_nI p) = some (hz_cntT (fun i => hz_ctr row ix i p) p 0 (hz_nI 0)) := by
  unfold f_Mixture_contradictedBefore
  exact hz_p_before_5 hP hR hp p 4096 0 _ (by omega) (by omega)
set_option maxRecDepth 100000 in
def hz_pairsT (row ix : Nat → Int32) : Nat → Nat → Int32 → Int32
  | 0, p, b => b
  | n + 1, p, b => hz_pairsT row ix n (p + 1) (hz_cntT (fun q => hz_ctr row ix q p) p 0 b)
set_option maxRecDepth 100000 in
theorem hz_p_pairs_4 {mn mr ml t1 t2 t3 t4 row ix : Nat → Int32} {nx t5 : Int32} {t6 : Bool} {P : Nat} (hP : P ≤ 8) (hR : hz_prtR t2 row mr ix P) : ∀ k n i b, P = i + k → k < n → f_Mixture_contradictingPairs_4 n (mn, mr, ml, hz_nI P, nx) (t1, t2, t3, t4, t5, t6) b (hz_nI i) = some (hz_pairsT row ix k i b)
  | 0, n + 1, i, b, h1, h2 => by
    rw [f_Mixture_contradictingPairs_4]
    simp (disch := omega) only [hz_nI_lit, hz_nI_add, hz_nI_mul, hz_nI_lt, hz_nI_le, hz_nI_inj, hz_nI_sub, hz_nI_nat, hz_nI_inb, hz_nI_pred, hz_nI_m1_lt, hz_nI_lt_m1, hz_nI_m1_le, hz_nI_le_m1, hz_nI_eq_m1, hz_nI_m1_eq, hz_bI0, if_pos, if_neg, if_true, if_false, Option.bind_some, Prod.eta, reduceCtorEq, hz_pairsT]
  | k + 1, n + 1, i, b, h1, h2 => by
    have ih := fun b => hz_p_pairs_4 (mn := mn) (ml := ml) (nx := nx) (t1 := t1) (t3 := t3) (t4 := t4) (t5 := t5) (t6 := t6) hP hR k n (i + 1) b (by omega) (by omega)
    rw [f_Mixture_contradictingPairs_4, hz_p_before hP hR (show i < P by omega), Option.bind_some]
    unfold hz_pairsT
    rw [hz_cntT_add _ i 0 b]
    simp (disch := omega) only [hz_nI_lit, hz_nI_add, hz_nI_mul, hz_nI_lt, hz_nI_le, hz_nI_inj, hz_nI_sub, hz_nI_nat, hz_nI_inb, hz_nI_pred, hz_nI_m1_lt, hz_nI_lt_m1, hz_nI_m1_le, hz_nI_le_m1, hz_nI_eq_m1, hz_nI_m1_eq, hz_bI0, if_pos, if_neg, if_true, if_false, Option.bind_some, Prod.eta, reduceCtorEq]
    exact ih _
set_option maxRecDepth 100000 in
theorem hz_p_pairs {mn mr ml t1 t2 t3 t4 row ix : Nat → Int32} {nx t5 : Int32} {t6 : Bool} {P : Nat} (hP : P ≤ 8) (hR : hz_prtR t2 row mr ix P) : f_Mixture_contradictingPairs (mn, mr, ml, hz_nI P, nx) (t1, t2, t3, t4, t5, t6) = some (hz_pairsT row ix P 0 (hz_nI 0)) := by
  unfold f_Mixture_contradictingPairs
  exact hz_p_pairs_4 hP hR P 4096 0 _ (by omega) (by omega)
set_option maxRecDepth 100000 in
theorem hz_q_add_124 {g1 : Int32 × Int32} {g2 : hz_M2} {g3 : hz_M3} {m0 nx : Int32} {ge : Bool} {row pt am ix : Nat → Int32} {r : hz_MQ9} {p : Nat} (hP : p + 1 ≤ 8) (hR : hz_ixR ix (p + 1)) : ∀ k n i b, p = i + k → k < n → f_Model_add_124 n (g1, g2, g3, (m0, ge, row), (hz_nI (p + 1), pt, am, ix, nx), r) b (hz_nI i) = some (hz_cntT (fun i => hz_ctr row ix i p) k i b, (g1, g2, g3, (m0, ge, row), (hz_nI (p + 1), pt, am, ix, nx), r))
  | 0, n + 1, i, b, h1, h2 => by
    rw [f_Model_add_124]
    simp (disch := omega) only [hz_nI_lit, hz_nI_add, hz_nI_mul, hz_nI_lt, hz_nI_le, hz_nI_inj, hz_nI_sub, hz_nI_nat, hz_nI_inb, hz_nI_pred, hz_nI_m1_lt, hz_nI_lt_m1, hz_nI_m1_le, hz_nI_le_m1, hz_nI_eq_m1, hz_nI_m1_eq, hz_bI0, if_pos, if_neg, if_true, if_false, Option.bind_some, Prod.eta, reduceCtorEq, hz_cntT, Nat.add_sub_cancel]
  | k + 1, n + 1, i, b, h1, h2 => by
    have ih := fun b => hz_q_add_124 (g1 := g1) (g2 := g2) (g3 := g3) (m0 := m0) (ge := ge) (row := row) (pt := pt) (am := am) (nx := nx) (r := r) hP hR k n (i + 1) b (by omega) (by omega)
    rw [f_Model_add_124]
    unfold hz_cntT
    have e := hz_q_ctr (g1 := g1) (g2 := g2) (g3 := g3) (m0 := m0) (ge := ge) (row := row) (pt := pt) (am := am) (nx := nx) (sz := hz_nI (p + 1)) (r := r) hP hR (show i < p + 1 by omega) (show p < p + 1 by omega)
    cases h : hz_ctr row ix i p
    · rw [h] at e
      simp (disch := omega) only [hz_nI_lit, hz_nI_add, hz_nI_mul, hz_nI_lt, hz_nI_le, hz_nI_inj, hz_nI_sub, hz_nI_nat, hz_nI_inb, hz_nI_pred, hz_nI_m1_lt, hz_nI_lt_m1, hz_nI_m1_le, hz_nI_le_m1, hz_nI_eq_m1, hz_nI_m1_eq, hz_bI0, if_pos, if_neg, if_true, if_false, Option.bind_some, Prod.eta, reduceCtorEq, Nat.add_sub_cancel, e, Bool.false_eq_true]
      exact ih _
    · rw [h] at e
      simp (disch := omega) only [hz_nI_lit, hz_nI_add, hz_nI_mul, hz_nI_lt, hz_nI_le, hz_nI_inj, hz_nI_sub, hz_nI_nat, hz_nI_inb, hz_nI_pred, hz_nI_m1_lt, hz_nI_lt_m1, hz_nI_m1_le, hz_nI_le_m1, hz_nI_eq_m1, hz_nI_m1_eq, hz_bI0, if_pos, if_neg, if_true, if_false, Option.bind_some, Prod.eta, reduceCtorEq, Nat.add_sub_cancel, e, Bool.true_eq_false]
      exact ih _
set_option maxRecDepth 100000 in
theorem hz_q_mix_67 {k9 : SModel → Int32 → Int32 → Int32 → Int32 → Option (Int32 × SModel)} {g1 : Int32 × Int32} {g2 : hz_M2} {g3 : hz_M3} {m0 nx sz y1 y2 : Int32} {ge : Bool} {row pt am ix : Nat → Int32} {r : hz_MQ9} {P p : Nat} (hP : P ≤ 8) (hR : hz_ixR ix P) (hp : p < P) : ∀ k n i b, p = i + k → k < n → f_Model_mixture_67 k9 n (g1, g2, g3, (m0, ge, row), (sz, pt, am, ix, nx), r) y1 y2 b (hz_nI p) (hz_nI i) = k9 (g1, g2, g3, (m0, ge, row), (sz, pt, am, ix, nx), r) y1 y2 (hz_cntT (fun q => hz_ctr row ix q p) k i b) (hz_nI (p + 1))
  | 0, n + 1, i, b, h1, h2 => by
    rw [f_Model_mixture_67]
    simp (disch := omega) only [hz_nI_lit, hz_nI_add, hz_nI_mul, hz_nI_lt, hz_nI_le, hz_nI_inj, hz_nI_sub, hz_nI_nat, hz_nI_inb, hz_nI_pred, hz_nI_m1_lt, hz_nI_lt_m1, hz_nI_m1_le, hz_nI_le_m1, hz_nI_eq_m1, hz_nI_m1_eq, hz_bI0, if_pos, if_neg, if_true, if_false, Option.bind_some, Prod.eta, reduceCtorEq, hz_cntT]
  | k + 1, n + 1, i, b, h1, h2 => by
    have ih := fun b => hz_q_mix_67 (k9 := k9) (g1 := g1) (g2 := g2) (g3 := g3) (m0 := m0) (ge := ge) (row := row) (pt := pt) (am := am) (nx := nx) (sz := sz) (y1 := y1) (y2 := y2) (r := r) hP hR hp k n (i + 1) b (by omega) (by omega)
    rw [f_Model_mixture_67, hz_q_ctr hP hR hp (show i < P by omega), Option.bind_some, hz_ctr_comm]
    unfold hz_cntT
    cases h : hz_ctr row ix i p
    · simp (disch := omega) only [hz_nI_lit, hz_nI_add, hz_nI_mul, hz_nI_lt, hz_nI_le, hz_nI_inj, hz_nI_sub, hz_nI_nat, hz_nI_inb, hz_nI_pred, hz_nI_m1_lt, hz_nI_lt_m1, hz_nI_m1_le, hz_nI_le_m1, hz_nI_eq_m1, hz_nI_m1_eq, hz_bI0, if_pos, if_neg, if_true, if_false, Option.bind_some, Prod.eta, reduceCtorEq, Bool.false_eq_true]
      exact ih _
    · simp (disch := omega) only [hz_nI_lit, hz_nI_add, hz_nI_mul, hz_nI_lt, hz_nI_le, hz_nI_inj, hz_nI_sub, hz_nI_nat, hz_nI_inb, hz_nI_pred, hz_nI_m1_lt, hz_nI_lt_m1, hz_nI_m1_le, hz_nI_le_m1, hz_nI_eq_m1, hz_nI_m1_eq, hz_bI0, if_pos, if_neg, if_true, if_false, Option.bind_some, Prod.eta, reduceCtorEq, Bool.true_eq_false]
      exact ih _
set_option maxRecDepth 100000 in
noncomputable def hz_mixF (md : SModel) (y1 gear pairs : Int32) : Option (Int32 × SModel) :=
  (if y1 = 0 then
    (Option.bind (f_Model_strictness md) fun u13 => (some (u13, md)))
   else
    (if y1 = (1 : Int32) then
      (some (gear, md))
     else
      (if (4 : Int32) ≤ y1 then
        (if y1 = (4 : Int32) then
          (some (md.2.2.2.2.1.1, md))
         else
          (some (pairs, md)))
       else
        (if y1 = (2 : Int32) then
          (Option.bind (f_Model_distance md true) fun u12 => (some (u12, md)))
         else
          (Option.bind (f_Model_distance md false) fun u11 => (some (u11, md)))))))
set_option maxRecDepth 100000 in
theorem hz_q_mix_35 {g1 : Int32 × Int32} {g2 : hz_M2} {g3 : hz_M3} {m0 nx y1 : Int32} {ge : Bool} {row pt am ix : Nat → Int32} {r : hz_MQ9} {P : Nat} (hP : P ≤ 8) (hR : hz_ixR ix P) : ∀ k n i b c, P = i + k → k < n → f_Model_mixture_35 n (g1, g2, g3, (m0, ge, row), (hz_nI P, pt, am, ix, nx), r) y1 b c (hz_nI i) = hz_mixF (g1, g2, g3, (m0, ge, row), (hz_nI P, pt, am, ix, nx), r) y1 (hz_orT (fun i => hz_pD row ix i 2) k i b) (hz_pairsT row ix k i c)
  | 0, n + 1, i, b, c, h1, h2 => by
    rw [f_Model_mixture_35]
    have : (hz_nI P ≤ hz_nI i) = True := by rw [hz_nI_le (by omega) (by omega)]; simp only [eq_iff_iff, iff_true]; omega
    simp only [this, if_true]
    rfl
  | k + 1, n + 1, i, b, c, h1, h2 => by
    have ih := fun b c => hz_q_mix_35 (g1 := g1) (g2 := g2) (g3 := g3) (m0 := m0) (ge := ge) (row := row) (pt := pt) (am := am) (nx := nx) (y1 := y1) (r := r) hP hR k n (i + 1) b c (by omega) (by omega)
    obtain ⟨q, q1, q2⟩ := hR i (by omega)
    have e : row (q * 43 + 3) = hz_pD row ix i 2 := by rw [hz_pD_eq q2 q1]
    rw [f_Model_mixture_35]
    unfold hz_orT hz_pairsT
    have e9 := fun b => hz_q_mix_67 (k9 := f_Model_mixture_35 n) (g1 := g1) (g2 := g2) (g3 := g3) (m0 := m0) (ge := ge) (row := row) (pt := pt) (am := am) (nx := nx) (sz := hz_nI P) (y1 := y1) (y2 := b) (r := r) hP hR (show i < P by omega) i 4096 0 c (by omega) (by omega)
    simp (disch := omega) only [hz_nI_lit, hz_nI_add, hz_nI_mul, hz_nI_lt, hz_nI_le, hz_nI_inj, hz_nI_sub, hz_nI_nat, hz_nI_inb, hz_nI_pred, hz_nI_m1_lt, hz_nI_lt_m1, hz_nI_m1_le, hz_nI_le_m1, hz_nI_eq_m1, hz_nI_m1_eq, hz_bI0, if_pos, if_neg, if_true, if_false, Option.bind_some, Prod.eta, reduceCtorEq, q2, e, e9, ih]
set_option maxRecDepth 100000 in
def hz_strT (f : Nat → Int32) (s : Int32) : Nat → Nat → Nat → Option Nat
  | 0, p, l => none
  | n + 1, p, l => if f p = s then (if l = 0 then some p else hz_strT f s n (p + 1) (l - 1)) else hz_strT f s n (p + 1) l
set_option maxRecDepth 100000 in
def hz_ixG (g : Nat → Int32) (o : Option Nat) : Int32 := match o with
  | some q => g q
  | none => -hz_nI 1
set_option maxRecDepth 100000 in
theorem hz_p_strictest_12 {mn mr ml t1 t2 t3 t4 row ix : Nat → Int32} {nx t5 s : Int32} {t6 : Bool} {P m : Nat} (hm : m < 2147483648) (hP : P ≤ 8) (hR : hz_prtR t2 row mr ix P) : ∀ k n i b, P = i + k → k < n → b ≤ i → b ≤ m → f_Mixture_strictest_12 n (mn, mr, ml, hz_nI P, nx) (t1, t2, t3, t4, t5, t6) (hz_nI m) s (hz_nI b) (hz_nI i) = some (hz_ixG mn (hz_strT (fun i => hz_pD row ix i 1) s k i (m - b)))
  | 0, n + 1, i, b, h1, h2, h3, h4 => by
    rw [f_Mixture_strictest_12]
    simp (disch := omega) only [hz_nI_lit, hz_nI_add, hz_nI_mul, hz_nI_lt, hz_nI_le, hz_nI_inj, hz_nI_sub, hz_nI_nat, hz_nI_inb, hz_nI_pred, hz_nI_m1_lt, hz_nI_lt_m1, hz_nI_m1_le, hz_nI_le_m1, hz_nI_eq_m1, hz_nI_m1_eq, hz_bI0, if_pos, if_neg, if_true, if_false, Option.bind_some, Prod.eta, reduceCtorEq, hz_strT, hz_ixG]
  | k + 1, n + 1, i, b, h1, h2, h3, h4 => by
    have ih := fun b => hz_p_strictest_12 (mn := mn) (ml := ml) (nx := nx) (s := s) (t1 := t1) (t3 := t3) (t4 := t4) (t5 := t5) (t6 := t6) hm hP hR k n (i + 1) b (by omega) (by omega)
    have e := hz_p_pcell (t1 := t1) (t3 := t3) (t4 := t4) (t5 := t5) (t6 := t6) hR (show i < P by omega) (show 1 < 9 by omega)
    rw [f_Mixture_strictest_12, hz_p_row (show i < 8 by omega), Option.bind_some]
    unfold hz_strT
    by_cases c1 : hz_pD row ix i 1 = s
    · by_cases c2 : b = m
      · subst c2
        simp (disch := omega) only [hz_nI_lit, hz_nI_add, hz_nI_mul, hz_nI_lt, hz_nI_le, hz_nI_inj, hz_nI_sub, hz_nI_nat, hz_nI_inb, hz_nI_pred, hz_nI_m1_lt, hz_nI_lt_m1, hz_nI_m1_le, hz_nI_le_m1, hz_nI_eq_m1, hz_nI_m1_eq, hz_bI0, if_pos, if_neg, if_true, if_false, Option.bind_some, Prod.eta, reduceCtorEq, e, c1, Nat.sub_self, hz_ixG]
      · have e2 := ih (b + 1) (by omega) (by omega)
        rw [show m - (b + 1) = m - b - 1 by omega] at e2
        simp (disch := omega) only [hz_nI_lit, hz_nI_add, hz_nI_mul, hz_nI_lt, hz_nI_le, hz_nI_inj, hz_nI_sub, hz_nI_nat, hz_nI_inb, hz_nI_pred, hz_nI_m1_lt, hz_nI_lt_m1, hz_nI_m1_le, hz_nI_le_m1, hz_nI_eq_m1, hz_nI_m1_eq, hz_bI0, if_pos, if_neg, if_true, if_false, Option.bind_some, Prod.eta, reduceCtorEq, e, c1, c2]
        exact e2
    · have e2 := ih b (by omega) (by omega)
      simp (disch := omega) only [hz_nI_lit, hz_nI_add, hz_nI_mul, hz_nI_lt, hz_nI_le, hz_nI_inj, hz_nI_sub, hz_nI_nat, hz_nI_inb, hz_nI_pred, hz_nI_m1_lt, hz_nI_lt_m1, hz_nI_m1_le, hz_nI_le_m1, hz_nI_eq_m1, hz_nI_m1_eq, hz_bI0, if_pos, if_neg, if_true, if_false, Option.bind_some, Prod.eta, reduceCtorEq, e, c1]
      exact e2
set_option maxRecDepth 100000 in
theorem hz_p_strictest {mn mr ml t1 t2 t3 t4 row ix : Nat → Int32} {nx t5 : Int32} {t6 : Bool} {P m : Nat} (hm : m < 2147483648) (hP : P ≤ 8) (hR : hz_prtR t2 row mr ix P) : f_Mixture_strictest (mn, mr, ml, hz_nI P, nx) (t1, t2, t3, t4, t5, t6) (hz_nI m) = some (hz_ixG mn (hz_strT (fun i => hz_pD row ix i 1) (hz_maxT (fun i => hz_pD row ix i 1) P 0 (hz_nI 0)) P 0 m)) := by
  unfold f_Mixture_strictest
  rw [hz_p_strict hP hR, Option.bind_some]
  exact hz_p_strictest_12 hm hP hR P 4096 0 0 (by omega) (by omega) (by omega) (by omega)
set_option maxRecDepth 100000 in
theorem hz_q_strict_24 {g1 : Int32 × Int32} {g2 : hz_M2} {g3 : hz_M3} {m0 nx : Int32} {ge : Bool} {row pt am ix : Nat → Int32} {r : hz_MQ9} {P : Nat} (hP : P ≤ 8) (hR : hz_ixR ix P) : ∀ k n i l, P = i + k → k < n → l < 2147483648 → f_Model_strict_24 n (g1, g2, g3, (m0, ge, row), (hz_nI P, pt, am, ix, nx), r) (hz_nI l) (hz_nI i) = some (hz_ixG pt (hz_strT (fun i => hz_pD row ix i 1) (hz_maxT (fun i => hz_pD row ix i 1) P 0 (hz_nI 0)) k i l), (g1, g2, g3, (m0, ge, row), (hz_nI P, pt, am, ix, nx), r))
  | 0, n + 1, i, l, h1, h2, h3 => by
    rw [f_Model_strict_24]
    simp (disch := omega) only [hz_nI_lit, hz_nI_add, hz_nI_mul, hz_nI_lt, hz_nI_le, hz_nI_inj, hz_nI_sub, hz_nI_nat, hz_nI_inb, hz_nI_pred, hz_nI_m1_lt, hz_nI_lt_m1, hz_nI_m1_le, hz_nI_le_m1, hz_nI_eq_m1, hz_nI_m1_eq, hz_bI0, if_pos, if_neg, if_true, if_false, Option.bind_some, Prod.eta, reduceCtorEq, hz_strT, hz_ixG]
  | k + 1, n + 1, i, l, h1, h2, h3 => by
    have ih := fun l => hz_q_strict_24 (g1 := g1) (g2 := g2) (g3 := g3) (m0 := m0) (ge := ge) (row := row) (pt := pt) (am := am) (nx := nx) (r := r) hP hR k n (i + 1) l (by omega) (by omega)
    obtain ⟨q, q1, q2⟩ := hR i (by omega)
    have e : row (q * 43 + 2) = hz_pD row ix i 1 := by rw [hz_pD_eq q2 q1]
    have e8 := hz_q_strict (g1 := g1) (g2 := g2) (g3 := g3) (m0 := m0) (ge := ge) (row := row) (pt := pt) (am := am) (nx := nx) (r := r) hP hR
    rw [f_Model_strict_24]
    unfold hz_strT
    generalize hz_maxT (fun i => hz_pD row ix i 1) P 0 (hz_nI 0) = s at *
    by_cases c1 : hz_pD row ix i 1 = s
    · by_cases c2 : l = 0
      · subst c2
        simp (disch := omega) only [hz_nI_lit, hz_nI_add, hz_nI_mul, hz_nI_lt, hz_nI_le, hz_nI_inj, hz_nI_sub, hz_nI_nat, hz_nI_inb, hz_nI_pred, hz_nI_m1_lt, hz_nI_lt_m1, hz_nI_m1_le, hz_nI_le_m1, hz_nI_eq_m1, hz_nI_m1_eq, hz_bI0, if_pos, if_neg, if_true, if_false, Option.bind_some, Prod.eta, reduceCtorEq, q2, e, e8, c1, hz_ixG]
      · have e2 := ih (l - 1) (by omega)
        simp (disch := omega) only [hz_nI_lit, hz_nI_add, hz_nI_mul, hz_nI_lt, hz_nI_le, hz_nI_inj, hz_nI_sub, hz_nI_nat, hz_nI_inb, hz_nI_pred, hz_nI_m1_lt, hz_nI_lt_m1, hz_nI_m1_le, hz_nI_le_m1, hz_nI_eq_m1, hz_nI_m1_eq, hz_bI0, if_pos, if_neg, if_true, if_false, Option.bind_some, Prod.eta, reduceCtorEq, q2, e, e8, c1, c2]
        exact e2
    · have e2 := ih l (by omega)
      simp (disch := omega) only [hz_nI_lit, hz_nI_add, hz_nI_mul, hz_nI_lt, hz_nI_le, hz_nI_inj, hz_nI_sub, hz_nI_nat, hz_nI_inb, hz_nI_pred, hz_nI_m1_lt, hz_nI_lt_m1, hz_nI_m1_le, hz_nI_le_m1, hz_nI_eq_m1, hz_nI_m1_eq, hz_bI0, if_pos, if_neg, if_true, if_false, Option.bind_some, Prod.eta, reduceCtorEq, q2, e, e8, c1]
      exact e2
