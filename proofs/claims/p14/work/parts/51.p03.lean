set_option maxRecDepth 100000 in
theorem hz_numT_stop (tp : Nat → Int32) (L : Nat) : ∀ n v a, (hz_numT tp L n v a).2 < a + n → hz_dg (hz_hereT tp L (hz_numT tp L n v a).2) = false
  | 0, v, a, h => by simp only [hz_numT] at h; omega
  | n + 1, v, a, h => by
    unfold hz_numT at *
    by_cases c : hz_dg (hz_hereT tp L a) = true
    · simp only [c, if_true] at *
      exact hz_numT_stop tp L n _ _ (by omega)
    · have c' : hz_dg (hz_hereT tp L a) = false := by simpa using c
      rw [if_neg c]
      exact c'
set_option maxRecDepth 100000 in
theorem hz_q_num_34 {g1 : Int32 × Int32} {tp : Nat → Int32} {L : Nat} {g3 : hz_M3} {r : hz_MR} {lo hi : Int32} (hL : L ≤ 400) : ∀ k n v a d, 4 = d + k → k < n → a ≤ L → 1 ≤ d → 1 ≤ v → v < 10 ^ d →
    f_Model_number_34 n (g1, (hz_nI L, tp, hz_nI a, -hz_nI 1), g3, r) lo hi (hz_nI v) (hz_nI d) = f_Model_number_92 (g1, (hz_nI L, tp, hz_nI (hz_numT tp L k v a).2, -hz_nI 1), g3, r) lo hi (hz_nI (hz_numT tp L k v a).1) (hz_nI (d + ((hz_numT tp L k v a).2 - a)))
  | 0, n + 1, v, a, d, h1, h2, h3, h4, h5, h6 => by
    rw [f_Model_number_34, hz_q_isDigit hL h3]
    simp only [hz_numT, Nat.sub_self, Nat.add_zero]
    cases c : hz_dg (hz_hereT tp L a)
    · simp (disch := omega) only [hz_nI_lit, hz_nI_add, hz_nI_mul, hz_nI_lt, hz_nI_le, hz_nI_inj, hz_nI_sub, hz_nI_nat, hz_nI_inb, hz_nI_pred, hz_nI_m1_lt, hz_nI_lt_m1, hz_nI_m1_le, hz_nI_le_m1, hz_nI_eq_m1, hz_nI_m1_eq, hz_bI0, if_pos, if_neg, if_true, if_false, Option.bind_some, Prod.eta, reduceCtorEq]
    · simp (disch := omega) only [hz_nI_lit, hz_nI_add, hz_nI_mul, hz_nI_lt, hz_nI_le, hz_nI_inj, hz_nI_sub, hz_nI_nat, hz_nI_inb, hz_nI_pred, hz_nI_m1_lt, hz_nI_lt_m1, hz_nI_m1_le, hz_nI_le_m1, hz_nI_eq_m1, hz_nI_m1_eq, hz_bI0, if_pos, if_neg, if_true, if_false, Option.bind_some, Prod.eta, reduceCtorEq, Bool.true_eq_false]
  | k + 1, n + 1, v, a, d, h1, h2, h3, h4, h5, h6 => by
    rw [f_Model_number_34, hz_q_isDigit hL h3]
    have hp := hz_p10_le (d := d) (by omega)
    unfold hz_numT
    cases c : hz_dg (hz_hereT tp L a)
    · simp (disch := omega) only [hz_nI_lit, hz_nI_add, hz_nI_mul, hz_nI_lt, hz_nI_le, hz_nI_inj, hz_nI_sub, hz_nI_nat, hz_nI_inb, hz_nI_pred, hz_nI_m1_lt, hz_nI_lt_m1, hz_nI_m1_le, hz_nI_le_m1, hz_nI_eq_m1, hz_nI_m1_eq, hz_bI0, if_pos, if_neg, if_true, if_false, Option.bind_some, Prod.eta, reduceCtorEq, Bool.false_eq_true, Nat.sub_self, Nat.add_zero]
    · have hl := hz_hereT_lt rfl (hz_dg_ne c).1
      obtain ⟨e1, e2⟩ := hz_dg_eq c
      have ih := hz_q_num_34 (g1 := g1) (tp := tp) (g3 := g3) (r := r) (lo := lo) (hi := hi) hL k n (v * 10 + hz_dv (hz_hereT tp L a)) (a + 1) (d + 1) (by omega) (by omega) (by omega) (by omega) (by omega) (by rw [Nat.pow_succ]; omega)
      have hb := hz_numT_bd tp L k (v * 10 + hz_dv (hz_hereT tp L a)) (a + 1) hl
      rw [show d + 1 + ((hz_numT tp L k (v * 10 + hz_dv (hz_hereT tp L a)) (a + 1)).2 - (a + 1)) = d + ((hz_numT tp L k (v * 10 + hz_dv (hz_hereT tp L a)) (a + 1)).2 - a) by omega] at ih
      have e3 : hz_nI (10 * v) + hz_hereT tp L a - hz_nI 48 = hz_nI (v * 10 + hz_dv (hz_hereT tp L a)) := by
        generalize hx : hz_hereT tp L a = x at *
        rw [e1]
        simp (disch := omega) only [hz_nI_lit, hz_nI_add, hz_nI_mul, hz_nI_lt, hz_nI_le, hz_nI_inj, hz_nI_sub, hz_nI_nat, hz_nI_inb, hz_nI_pred, hz_nI_m1_lt, hz_nI_lt_m1, hz_nI_m1_le, hz_nI_le_m1, hz_nI_eq_m1, hz_nI_m1_eq, hz_bI0, if_pos, if_neg, if_true, if_false, Option.bind_some, Prod.eta, reduceCtorEq]
        rw [← e1]
        congr 1; omega
      unfold f_Model_number_63
      rw [hz_q_here hL h3]
      simp (disch := omega) only [hz_nI_lit, hz_nI_add, hz_nI_mul, hz_nI_lt, hz_nI_le, hz_nI_inj, hz_nI_sub, hz_nI_nat, hz_nI_inb, hz_nI_pred, hz_nI_m1_lt, hz_nI_lt_m1, hz_nI_m1_le, hz_nI_le_m1, hz_nI_eq_m1, hz_nI_m1_eq, hz_bI0, if_pos, if_neg, if_true, if_false, Option.bind_some, Prod.eta, reduceCtorEq, Bool.true_eq_false, e3]
      exact ih
set_option maxRecDepth 100000 in
theorem hz_q_num_92 {g1 : Int32 × Int32} {tp : Nat → Int32} {L lo hi v a d : Nat} {g3 : hz_M3} {r : hz_MR} (hL : L ≤ 400) (ha : a ≤ L) (ha1 : 1 ≤ a) (hlo : lo ≤ v) (hl1 : lo ≤ 1) (hh : hi ≤ 9999) (hv : v < 10000) (hd : d ≤ 4) :
    (v ≤ hi → (d = 4 ∧ hz_dg (hz_hereT tp L a) = true) → f_Model_number_92 (g1, (hz_nI L, tp, hz_nI a, -hz_nI 1), g3, r) (hz_nI lo) (hz_nI hi) (hz_nI v) (hz_nI d) = some (hz_nI lo, (g1, (hz_nI L, tp, hz_nI a, hz_nI a), g3, r))) ∧
    (v ≤ hi → ¬ (d = 4 ∧ hz_dg (hz_hereT tp L a) = true) → f_Model_number_92 (g1, (hz_nI L, tp, hz_nI a, -hz_nI 1), g3, r) (hz_nI lo) (hz_nI hi) (hz_nI v) (hz_nI d) = some (hz_nI v, (g1, (hz_nI L, tp, hz_nI a, -hz_nI 1), g3, r))) ∧
    (¬ v ≤ hi → f_Model_number_92 (g1, (hz_nI L, tp, hz_nI a, -hz_nI 1), g3, r) (hz_nI lo) (hz_nI hi) (hz_nI v) (hz_nI d) = some (hz_nI lo, (g1, (hz_nI L, tp, hz_nI a, hz_nI (a - 1)), g3, r))) := by
  unfold f_Model_number_92 f_Model_number_111
  refine ⟨fun h1 h2 => ?_, fun h1 h2 => ?_, fun h1 => ?_⟩
  · rw [hz_q_isDigit hL ha, h2.2, h2.1]
    have : hz_inR (hz_nI v) (hz_nI lo) (hz_nI hi) = true := by unfold hz_inR; simp (disch := omega) only [hz_nI_lit, hz_nI_add, hz_nI_mul, hz_nI_lt, hz_nI_le, hz_nI_inj, hz_nI_sub, hz_nI_nat, hz_nI_inb, hz_nI_pred, hz_nI_m1_lt, hz_nI_lt_m1, hz_nI_m1_le, hz_nI_le_m1, hz_nI_eq_m1, hz_nI_m1_eq, hz_bI0, if_pos, if_neg, if_true, if_false, Option.bind_some, Prod.eta, reduceCtorEq]; simp only [decide_eq_true_eq]; omega
    simp (disch := omega) only [hz_nI_lit, hz_nI_add, hz_nI_mul, hz_nI_lt, hz_nI_le, hz_nI_inj, hz_nI_sub, hz_nI_nat, hz_nI_inb, hz_nI_pred, hz_nI_m1_lt, hz_nI_lt_m1, hz_nI_m1_le, hz_nI_le_m1, hz_nI_eq_m1, hz_nI_m1_eq, hz_bI0, if_pos, if_neg, if_true, if_false, Option.bind_some, Prod.eta, reduceCtorEq, hz_q_within, this, Bool.true_eq_false, hz_q_fail]
  · rw [hz_q_isDigit hL ha]
    have : hz_inR (hz_nI v) (hz_nI lo) (hz_nI hi) = true := by unfold hz_inR; simp (disch := omega) only [hz_nI_lit, hz_nI_add, hz_nI_mul, hz_nI_lt, hz_nI_le, hz_nI_inj, hz_nI_sub, hz_nI_nat, hz_nI_inb, hz_nI_pred, hz_nI_m1_lt, hz_nI_lt_m1, hz_nI_m1_le, hz_nI_le_m1, hz_nI_eq_m1, hz_nI_m1_eq, hz_bI0, if_pos, if_neg, if_true, if_false, Option.bind_some, Prod.eta, reduceCtorEq]; simp only [decide_eq_true_eq]; omega
    by_cases c : d = 4
    · have c2 : hz_dg (hz_hereT tp L a) = false := by simpa using fun h => h2 ⟨c, h⟩
      simp (disch := omega) only [hz_nI_lit, hz_nI_add, hz_nI_mul, hz_nI_lt, hz_nI_le, hz_nI_inj, hz_nI_sub, hz_nI_nat, hz_nI_inb, hz_nI_pred, hz_nI_m1_lt, hz_nI_lt_m1, hz_nI_m1_le, hz_nI_le_m1, hz_nI_eq_m1, hz_nI_m1_eq, hz_bI0, if_pos, if_neg, if_true, if_false, Option.bind_some, Prod.eta, reduceCtorEq, hz_q_within, this, Bool.true_eq_false, hz_q_fail, c, c2]
    · simp (disch := omega) only [hz_nI_lit, hz_nI_add, hz_nI_mul, hz_nI_lt, hz_nI_le, hz_nI_inj, hz_nI_sub, hz_nI_nat, hz_nI_inb, hz_nI_pred, hz_nI_m1_lt, hz_nI_lt_m1, hz_nI_m1_le, hz_nI_le_m1, hz_nI_eq_m1, hz_nI_m1_eq, hz_bI0, if_pos, if_neg, if_true, if_false, Option.bind_some, Prod.eta, reduceCtorEq, hz_q_within, this, Bool.true_eq_false, hz_q_fail, c]
  · have : hz_inR (hz_nI v) (hz_nI lo) (hz_nI hi) = false := by unfold hz_inR; simp (disch := omega) only [hz_nI_lit, hz_nI_add, hz_nI_mul, hz_nI_lt, hz_nI_le, hz_nI_inj, hz_nI_sub, hz_nI_nat, hz_nI_inb, hz_nI_pred, hz_nI_m1_lt, hz_nI_lt_m1, hz_nI_m1_le, hz_nI_le_m1, hz_nI_eq_m1, hz_nI_m1_eq, hz_bI0, if_pos, if_neg, if_true, if_false, Option.bind_some, Prod.eta, reduceCtorEq]; simp only [decide_eq_false_iff_not]; omega
    have hx : ∀ y, f_Model_isDigit (g1, (hz_nI L, tp, hz_nI a, y), g3, r) = some (hz_dg (hz_hereT tp L a)) := fun y => hz_q_isDigit hL ha
    cases c : hz_dg (hz_hereT tp L a)
    · simp (disch := omega) only [hz_nI_lit, hz_nI_add, hz_nI_mul, hz_nI_lt, hz_nI_le, hz_nI_inj, hz_nI_sub, hz_nI_nat, hz_nI_inb, hz_nI_pred, hz_nI_m1_lt, hz_nI_lt_m1, hz_nI_m1_le, hz_nI_le_m1, hz_nI_eq_m1, hz_nI_m1_eq, hz_bI0, if_pos, if_neg, if_true, if_false, Option.bind_some, Prod.eta, reduceCtorEq, hz_q_within, this, hz_q_fail, hx, c, hz_q_failW]
      split <;> rfl
    · simp (disch := omega) only [hz_nI_lit, hz_nI_add, hz_nI_mul, hz_nI_lt, hz_nI_le, hz_nI_inj, hz_nI_sub, hz_nI_nat, hz_nI_inb, hz_nI_pred, hz_nI_m1_lt, hz_nI_lt_m1, hz_nI_m1_le, hz_nI_le_m1, hz_nI_eq_m1, hz_nI_m1_eq, hz_bI0, if_pos, if_neg, if_true, if_false, Option.bind_some, Prod.eta, reduceCtorEq, hz_q_within, this, hz_q_fail, hx, c, hz_q_failW, Bool.true_eq_false]
      split <;> rfl
set_option maxRecDepth 100000 in
theorem hz_q_num {g1 : Int32 × Int32} {tp : Nat → Int32} {L lo hi a : Nat} {g3 : hz_M3} {r : hz_MR} (hL : L ≤ 400) (hlo : lo ≤ 1) (hh : hi ≤ 9999) (ha : a ≤ L) :
    (∀ p, hz_numS tp L lo hi a = .inl p → ∃ b, b ≤ L ∧ f_Model_number (g1, (hz_nI L, tp, hz_nI a, -hz_nI 1), g3, r) (hz_nI lo) (hz_nI hi) = some (hz_nI lo, (g1, (hz_nI L, tp, hz_nI b, hz_nI p), g3, r))) ∧
    (∀ n b, hz_numS tp L lo hi a = .inr (n, b) → f_Model_number (g1, (hz_nI L, tp, hz_nI a, -hz_nI 1), g3, r) (hz_nI lo) (hz_nI hi) = some (hz_nI n, (g1, (hz_nI L, tp, hz_nI b, -hz_nI 1), g3, r)) ∨
      (hz_dg (hz_hereT tp L b) = true ∧ f_Model_number (g1, (hz_nI L, tp, hz_nI a, -hz_nI 1), g3, r) (hz_nI lo) (hz_nI hi) = some (hz_nI lo, (g1, (hz_nI L, tp, hz_nI b, hz_nI b), g3, r)))) := by
  have hs := hz_skp_bd (tp := tp) ha
  unfold f_Model_number hz_numS
  rw [hz_q_see hL ha]
  generalize hz_skp tp L a = s at *
  cases c : hz_dg (hz_hereT tp L s)
  · have e : ∃ b, b ≤ L ∧ f_Model_number_34 4096 (g1, (hz_nI L, tp, hz_nI s, hz_nI s), g3, r) (hz_nI lo) (hz_nI hi) (hz_nI 0) (hz_nI 0) = some (hz_nI lo, (g1, (hz_nI L, tp, hz_nI b, hz_nI s), g3, r)) := by
      refine ⟨s, hs.2, ?_⟩
      rw [f_Model_number_34]
      unfold f_Model_number_92 f_Model_number_111
      cases c9 : hz_inR (hz_nI 0) (hz_nI lo) (hz_nI hi)
      · simp (disch := omega) only [hz_nI_lit, hz_nI_add, hz_nI_mul, hz_nI_lt, hz_nI_le, hz_nI_inj, hz_nI_sub, hz_nI_nat, hz_nI_inb, hz_nI_pred, hz_nI_m1_lt, hz_nI_lt_m1, hz_nI_m1_le, hz_nI_le_m1, hz_nI_eq_m1, hz_nI_m1_eq, hz_bI0, if_pos, if_neg, if_true, if_false, Option.bind_some, Prod.eta, reduceCtorEq, hz_q_within, c9, hz_q_failW]
      · simp (disch := omega) only [hz_nI_lit, hz_nI_add, hz_nI_mul, hz_nI_lt, hz_nI_le, hz_nI_inj, hz_nI_sub, hz_nI_nat, hz_nI_inb, hz_nI_pred, hz_nI_m1_lt, hz_nI_lt_m1, hz_nI_m1_le, hz_nI_le_m1, hz_nI_eq_m1, hz_nI_m1_eq, hz_bI0, if_pos, if_neg, if_true, if_false, Option.bind_some, Prod.eta, reduceCtorEq, hz_q_within, c9, hz_q_failW, Bool.true_eq_false]
    obtain ⟨b, hb, e⟩ := e
    simp (disch := omega) only [hz_nI_lit, hz_nI_add, hz_nI_mul, hz_nI_lt, hz_nI_le, hz_nI_inj, hz_nI_sub, hz_nI_nat, hz_nI_inb, hz_nI_pred, hz_nI_m1_lt, hz_nI_lt_m1, hz_nI_m1_le, hz_nI_le_m1, hz_nI_eq_m1, hz_nI_m1_eq, hz_bI0, if_pos, if_neg, if_true, if_false, Option.bind_some, Prod.eta, reduceCtorEq, hz_q_isDigit hL hs.2, c, hz_q_fail, Bool.false_eq_true]
    exact ⟨fun p h => by cases h; exact ⟨b, hb, e⟩, fun n b h => (nomatch h)⟩
  · have hl := hz_hereT_lt rfl (hz_dg_ne c).1
    obtain ⟨e1, e2⟩ := hz_dg_eq c
    have e3 : hz_nI 0 + hz_hereT tp L s - hz_nI 48 = hz_nI (hz_dv (hz_hereT tp L s)) := by
      generalize hx : hz_hereT tp L s = x at *
      rw [e1]
      simp (disch := omega) only [hz_nI_lit, hz_nI_add, hz_nI_mul, hz_nI_lt, hz_nI_le, hz_nI_inj, hz_nI_sub, hz_nI_nat, hz_nI_inb, hz_nI_pred, hz_nI_m1_lt, hz_nI_lt_m1, hz_nI_m1_le, hz_nI_le_m1, hz_nI_eq_m1, hz_nI_m1_eq, hz_bI0, if_pos, if_neg, if_true, if_false, Option.bind_some, Prod.eta, reduceCtorEq]
      rw [← e1]
      congr 1; omega
    by_cases c2 : hz_hereT tp L s = hz_nI 48
    · have e0 : hz_dv (hz_hereT tp L s) = 0 := by rw [c2]; unfold hz_dv; rw [hz_nI_nat (by omega)]
      have e4 : f_Model_number_34 4096 (g1, (hz_nI L, tp, hz_nI s, -hz_nI 1), g3, r) (hz_nI lo) (hz_nI hi) (hz_nI 0) (hz_nI 0) = f_Model_number_92 (g1, (hz_nI L, tp, hz_nI (s + 1), -hz_nI 1), g3, r) (hz_nI lo) (hz_nI hi) (hz_nI 0) (hz_nI 1) := by
        rw [f_Model_number_34]
        unfold f_Model_number_63
        rw [hz_q_isDigit hL hs.2, hz_q_here hL hs.2]
        simp (disch := omega) only [hz_nI_lit, hz_nI_add, hz_nI_mul, hz_nI_lt, hz_nI_le, hz_nI_inj, hz_nI_sub, hz_nI_nat, hz_nI_inb, hz_nI_pred, hz_nI_m1_lt, hz_nI_lt_m1, hz_nI_m1_le, hz_nI_le_m1, hz_nI_eq_m1, hz_nI_m1_eq, hz_bI0, if_pos, if_neg, if_true, if_false, Option.bind_some, Prod.eta, reduceCtorEq, c, Bool.true_eq_false, Nat.mul_zero, e3, e0]
        rw [f_Model_number_34, hz_q_isDigit hL hl]
        cases c5 : hz_dg (hz_hereT tp L (s + 1))
        · simp (disch := omega) only [hz_nI_lit, hz_nI_add, hz_nI_mul, hz_nI_lt, hz_nI_le, hz_nI_inj, hz_nI_sub, hz_nI_nat, hz_nI_inb, hz_nI_pred, hz_nI_m1_lt, hz_nI_lt_m1, hz_nI_m1_le, hz_nI_le_m1, hz_nI_eq_m1, hz_nI_m1_eq, hz_bI0, if_pos, if_neg, if_true, if_false, Option.bind_some, Prod.eta, reduceCtorEq]
        · simp (disch := omega) only [hz_nI_lit, hz_nI_add, hz_nI_mul, hz_nI_lt, hz_nI_le, hz_nI_inj, hz_nI_sub, hz_nI_nat, hz_nI_inb, hz_nI_pred, hz_nI_m1_lt, hz_nI_lt_m1, hz_nI_m1_le, hz_nI_le_m1, hz_nI_eq_m1, hz_nI_m1_eq, hz_bI0, if_pos, if_neg, if_true, if_false, Option.bind_some, Prod.eta, reduceCtorEq, Bool.true_eq_false]
      have e5 : hz_numT tp L 1 0 s = (0, s + 1) := by
        simp only [hz_numT, c, if_true, e0, Nat.zero_mul, Nat.zero_add]
      by_cases c3 : 0 < lo
      · have e6 : f_Model_number_92 (g1, (hz_nI L, tp, hz_nI (s + 1), -hz_nI 1), g3, r) (hz_nI lo) (hz_nI hi) (hz_nI 0) (hz_nI 1) = some (hz_nI lo, (g1, (hz_nI L, tp, hz_nI (s + 1), hz_nI s), g3, r)) := by
          have : hz_inR (hz_nI 0) (hz_nI lo) (hz_nI hi) = false := by unfold hz_inR; simp (disch := omega) only [hz_nI_lit, hz_nI_add, hz_nI_mul, hz_nI_lt, hz_nI_le, hz_nI_inj, hz_nI_sub, hz_nI_nat, hz_nI_inb, hz_nI_pred, hz_nI_m1_lt, hz_nI_lt_m1, hz_nI_m1_le, hz_nI_le_m1, hz_nI_eq_m1, hz_nI_m1_eq, hz_bI0, if_pos, if_neg, if_true, if_false, Option.bind_some, Prod.eta, reduceCtorEq]; simp only [decide_eq_false_iff_not]; omega
          unfold f_Model_number_92 f_Model_number_111
          simp (disch := omega) only [hz_nI_lit, hz_nI_add, hz_nI_mul, hz_nI_lt, hz_nI_le, hz_nI_inj, hz_nI_sub, hz_nI_nat, hz_nI_inb, hz_nI_pred, hz_nI_m1_lt, hz_nI_lt_m1, hz_nI_m1_le, hz_nI_le_m1, hz_nI_eq_m1, hz_nI_m1_eq, hz_bI0, if_pos, if_neg, if_true, if_false, Option.bind_some, Prod.eta, reduceCtorEq, hz_q_within, this, hz_q_fail, Nat.add_sub_cancel]
        simp (disch := omega) only [hz_nI_lit, hz_nI_add, hz_nI_mul, hz_nI_lt, hz_nI_le, hz_nI_inj, hz_nI_sub, hz_nI_nat, hz_nI_inb, hz_nI_pred, hz_nI_m1_lt, hz_nI_lt_m1, hz_nI_m1_le, hz_nI_le_m1, hz_nI_eq_m1, hz_nI_m1_eq, hz_bI0, if_pos, if_neg, if_true, if_false, Option.bind_some, Prod.eta, reduceCtorEq, hz_q_isDigit hL hs.2, c, c2, c3, Bool.true_eq_false, e4, e6, and_self]
        exact ⟨fun p h => by cases h; exact ⟨s + 1, hl, rfl⟩, fun n b h => (nomatch h)⟩
      · have h9 := (hz_q_num_92 (g1 := g1) (tp := tp) (g3 := g3) (r := r) (lo := lo) (hi := hi) (v := 0) (d := 1) hL (show s + 1 ≤ L from hl) (by omega) (by omega) hlo hh (by omega) (by omega)).2.1 (by omega) (by omega)
        simp (disch := omega) only [hz_nI_lit, hz_nI_add, hz_nI_mul, hz_nI_lt, hz_nI_le, hz_nI_inj, hz_nI_sub, hz_nI_nat, hz_nI_inb, hz_nI_pred, hz_nI_m1_lt, hz_nI_lt_m1, hz_nI_m1_le, hz_nI_le_m1, hz_nI_eq_m1, hz_nI_m1_eq, hz_bI0, if_pos, if_neg, if_true, if_false, Option.bind_some, Prod.eta, reduceCtorEq, hz_q_isDigit hL hs.2, c, c2, c3, Bool.true_eq_false, e4, h9, and_false, e5]
        exact ⟨fun p h => (nomatch h), fun n b h => by cases h; exact Or.inl rfl⟩
    · have h1 : 1 ≤ hz_dv (hz_hereT tp L s) := by
        rcases Nat.eq_zero_or_pos (hz_dv (hz_hereT tp L s)) with h0 | h0
        · rw [h0] at e1; exact absurd e1 c2
        · omega
      have e4 : f_Model_number_34 4096 (g1, (hz_nI L, tp, hz_nI s, -hz_nI 1), g3, r) (hz_nI lo) (hz_nI hi) (hz_nI 0) (hz_nI 0) = f_Model_number_34 4095 (g1, (hz_nI L, tp, hz_nI (s + 1), -hz_nI 1), g3, r) (hz_nI lo) (hz_nI hi) (hz_nI (hz_dv (hz_hereT tp L s))) (hz_nI 1) := by
        rw [f_Model_number_34]
        unfold f_Model_number_63
        rw [hz_q_isDigit hL hs.2, hz_q_here hL hs.2]
        simp (disch := omega) only [hz_nI_lit, hz_nI_add, hz_nI_mul, hz_nI_lt, hz_nI_le, hz_nI_inj, hz_nI_sub, hz_nI_nat, hz_nI_inb, hz_nI_pred, hz_nI_m1_lt, hz_nI_lt_m1, hz_nI_m1_le, hz_nI_le_m1, hz_nI_eq_m1, hz_nI_m1_eq, hz_bI0, if_pos, if_neg, if_true, if_false, Option.bind_some, Prod.eta, reduceCtorEq, c, Bool.true_eq_false, Nat.mul_zero, e3]
      rw [hz_q_num_34 hL 3 4095 _ (s + 1) 1 (by omega) (by omega) hl (by omega) h1 (by omega)] at e4
      have e5 : hz_numT tp L 4 0 s = hz_numT tp L 3 (hz_dv (hz_hereT tp L s)) (s + 1) := by
        rw [hz_numT, if_pos c, Nat.zero_mul, Nat.zero_add]
      have hb := hz_numT_bd tp L 3 (hz_dv (hz_hereT tp L s)) (s + 1) hl
      have hst := hz_numT_stop tp L 3 (hz_dv (hz_hereT tp L s)) (s + 1)
      rw [← e5] at e4 hb hst
      have h9 := hz_q_num_92 (g1 := g1) (tp := tp) (g3 := g3) (r := r) (lo := lo) (hi := hi) (v := (hz_numT tp L 4 0 s).1) (d := 1 + ((hz_numT tp L 4 0 s).2 - (s + 1))) hL hb.2.1 (by omega) (by omega) hlo hh (by omega) (by omega)
      rw [← e4] at h9
      simp only [c, c2, if_true, if_false, false_and, hz_q_isDigit hL hs.2, Option.bind_some, hz_nI_lit, hz_bI0, Bool.true_eq_false, hz_nI_m1_lt (show 0 < 2147483648 by omega)]
      generalize hz_numT tp L 4 0 s = q at *
      by_cases c3 : q.1 ≤ hi
      · simp only [c3, if_true]
        refine ⟨fun p h => (nomatch h), fun n b h => ?_⟩
        have hq := Sum.inr.inj h
        rw [hq] at h9 hst
        by_cases c4 : 1 + (b - (s + 1)) = 4 ∧ hz_dg (hz_hereT tp L b) = true
        · exact Or.inr ⟨c4.2, h9.1 (by rw [hq] at c3; exact c3) c4⟩
        · exact Or.inl (h9.2.1 (by rw [hq] at c3; exact c3) c4)
      · simp only [c3, if_false]
        exact ⟨fun p h => by cases h; exact ⟨_, hb.2.1, h9.2.2 c3⟩, fun n b h => (nomatch h)⟩
set_option maxRecDepth 100000 in
theorem hz_q_numW {g1 : Int32 × Int32} {l a lo hi : Int32} {p : Nat} (hp : p ≤ 400) {tp : Nat → Int32} {g3 : hz_M3} {r : hz_MR} : f_Model_number (g1, (l, tp, a, hz_nI p), g3, r) lo hi = some (lo, (g1, (l, tp, a, hz_nI p), g3, r)) := by
  unfold f_Model_number
  simp (disch := omega) only [hz_nI_lit, hz_nI_add, hz_nI_mul, hz_nI_lt, hz_nI_le, hz_nI_inj, hz_nI_sub, hz_nI_nat, hz_nI_inb, hz_nI_pred, hz_nI_m1_lt, hz_nI_lt_m1, hz_nI_m1_le, hz_nI_le_m1, hz_nI_eq_m1, hz_nI_m1_eq, hz_bI0, if_pos, if_neg, if_true, if_false, Option.bind_some, Prod.eta, reduceCtorEq]
