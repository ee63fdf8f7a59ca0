set_option maxRecDepth 100000 in
theorem hz_q_name_26 {g1 : Int32 × Int32} {tp : Nat → Int32} {L s m kk : Nat} {nm : Int32} {ng : Bool} {fr : Nat → Int32} {r : hz_MR} (hL : L ≤ 400) (hk : kk + 10 < 559) : ∀ k n i, 10 = i + k → k < n → s + i ≤ L →
    f_Model_name_26 n (g1, (hz_nI L, tp, hz_nI (s + i), -hz_nI 1), (nm, ng, hz_wrT fr (kk + 1) tp s i), r) (hz_nI m) (hz_nI kk) (hz_nI i) =
      if hz_hereT tp L (s + i + hz_letC tp L k (s + i)) = hz_nI 34 then f_Model_name_101 (g1, (hz_nI L, tp, hz_nI (s + i + hz_letC tp L k (s + i)), -hz_nI 1), (nm, ng, hz_wrT fr (kk + 1) tp s (i + hz_letC tp L k (s + i))), r) (hz_nI m) (hz_nI kk) (hz_nI (i + hz_letC tp L k (s + i)))
      else some (g1, (hz_nI L, tp, hz_nI (s + i + hz_letC tp L k (s + i)), hz_nI (s + i + hz_letC tp L k (s + i))), (nm, ng, hz_wrT fr (kk + 1) tp s (i + hz_letC tp L k (s + i))), r)
  | 0, n + 1, i, h1, h2, h3 => by
    rw [f_Model_name_26, hz_q_here hL h3]
    simp only [hz_letC, Nat.add_zero]
    by_cases c : hz_hereT tp L (s + i) = hz_nI 34
    · simp (disch := omega) only [hz_nI_lit, hz_nI_add, hz_nI_mul, hz_nI_lt, hz_nI_le, hz_nI_inj, hz_nI_sub, hz_nI_nat, hz_nI_inb, hz_nI_pred, hz_nI_m1_lt, hz_nI_lt_m1, hz_nI_m1_le, hz_nI_le_m1, hz_nI_eq_m1, hz_nI_m1_eq, hz_bI0, if_pos, if_neg, if_true, if_false, Option.bind_some, Prod.eta, reduceCtorEq, c]
    · cases c2 : hz_inR (hz_hereT tp L (s + i)) (hz_nI 97) (hz_nI 122)
      · simp (disch := omega) only [hz_nI_lit, hz_nI_add, hz_nI_mul, hz_nI_lt, hz_nI_le, hz_nI_inj, hz_nI_sub, hz_nI_nat, hz_nI_inb, hz_nI_pred, hz_nI_m1_lt, hz_nI_lt_m1, hz_nI_m1_le, hz_nI_le_m1, hz_nI_eq_m1, hz_nI_m1_eq, hz_bI0, if_pos, if_neg, if_true, if_false, Option.bind_some, Prod.eta, reduceCtorEq, c, hz_q_within, c2, hz_q_fail]
      · have : i = 10 := by omega
        subst this
        simp (disch := omega) only [hz_nI_lit, hz_nI_add, hz_nI_mul, hz_nI_lt, hz_nI_le, hz_nI_inj, hz_nI_sub, hz_nI_nat, hz_nI_inb, hz_nI_pred, hz_nI_m1_lt, hz_nI_lt_m1, hz_nI_m1_le, hz_nI_le_m1, hz_nI_eq_m1, hz_nI_m1_eq, hz_bI0, if_pos, if_neg, if_true, if_false, Option.bind_some, Prod.eta, reduceCtorEq, c, hz_q_within, c2, hz_q_fail, Bool.true_eq_false]
  | k + 1, n + 1, i, h1, h2, h3 => by
    rw [f_Model_name_26, hz_q_here hL h3]
    unfold hz_letC
    by_cases c0 : hz_inR (hz_hereT tp L (s + i)) (hz_nI 97) (hz_nI 122) = true
    · have hl := hz_inR_lt (by omega) (by omega) c0
      have ih := hz_q_name_26 (g1 := g1) (tp := tp) (s := s) (m := m) (nm := nm) (ng := ng) (fr := fr) (r := r) hL hk k n (i + 1) (by omega) (by omega) (by omega)
      have e1 : hz_hereT tp L (s + i) = tp (s + i) := by unfold hz_hereT; rw [if_pos hl]
      rw [← hz_wrT_succ, ← e1, show s + (i + 1) = s + i + 1 by omega] at ih
      rw [if_pos c0, show s + i + (hz_letC tp L k (s + i + 1) + 1) = s + i + 1 + hz_letC tp L k (s + i + 1) by omega, show i + (hz_letC tp L k (s + i + 1) + 1) = i + 1 + hz_letC tp L k (s + i + 1) by omega, ← ih]
      obtain ⟨d, d1, d2, d3⟩ := hz_inR_eq (by omega) (by omega) c0
      have c1 : ¬ hz_hereT tp L (s + i) = hz_nI 34 := by rw [d3]; simp (disch := omega) only [hz_nI_lit, hz_nI_add, hz_nI_mul, hz_nI_lt, hz_nI_le, hz_nI_inj, hz_nI_sub, hz_nI_nat, hz_nI_inb, hz_nI_pred, hz_nI_m1_lt, hz_nI_lt_m1, hz_nI_m1_le, hz_nI_le_m1, hz_nI_eq_m1, hz_nI_m1_eq, hz_bI0, if_pos, if_neg, if_true, if_false, Option.bind_some, Prod.eta, reduceCtorEq]; omega
      simp (disch := omega) only [hz_nI_lit, hz_nI_add, hz_nI_mul, hz_nI_lt, hz_nI_le, hz_nI_inj, hz_nI_sub, hz_nI_nat, hz_nI_inb, hz_nI_pred, hz_nI_m1_lt, hz_nI_lt_m1, hz_nI_m1_le, hz_nI_le_m1, hz_nI_eq_m1, hz_nI_m1_eq, hz_bI0, if_pos, if_neg, if_true, if_false, Option.bind_some, Prod.eta, reduceCtorEq, c1, hz_q_within, c0, Bool.true_eq_false]
    · have c0' : hz_inR (hz_hereT tp L (s + i)) (hz_nI 97) (hz_nI 122) = false := by simpa using c0
      rw [if_neg c0]
      simp only [Nat.add_zero]
      by_cases c : hz_hereT tp L (s + i) = hz_nI 34
      · simp (disch := omega) only [hz_nI_lit, hz_nI_add, hz_nI_mul, hz_nI_lt, hz_nI_le, hz_nI_inj, hz_nI_sub, hz_nI_nat, hz_nI_inb, hz_nI_pred, hz_nI_m1_lt, hz_nI_lt_m1, hz_nI_m1_le, hz_nI_le_m1, hz_nI_eq_m1, hz_nI_m1_eq, hz_bI0, if_pos, if_neg, if_true, if_false, Option.bind_some, Prod.eta, reduceCtorEq, c]
      · simp (disch := omega) only [hz_nI_lit, hz_nI_add, hz_nI_mul, hz_nI_lt, hz_nI_le, hz_nI_inj, hz_nI_sub, hz_nI_nat, hz_nI_inb, hz_nI_pred, hz_nI_m1_lt, hz_nI_lt_m1, hz_nI_m1_le, hz_nI_le_m1, hz_nI_eq_m1, hz_nI_m1_eq, hz_bI0, if_pos, if_neg, if_true, if_false, Option.bind_some, Prod.eta, reduceCtorEq, c, hz_q_within, c0', hz_q_fail]
set_option maxRecDepth 100000 in
theorem hz_q_name {g1 : Int32 × Int32} {tp : Nat → Int32} {L a m cnt : Nat} {nm : Int32} {ng : Bool} {fr : Nat → Int32} {r : hz_MR} (hL : L ≤ 400) (ha : a ≤ L) (hm : m ≤ 516) (hc : cnt < 3) (hcnt : fr (m + 9) = hz_nI cnt) :
    (∀ p, hz_nameS tp L a = .inl p → ∃ b fr', f_Model_name (g1, (hz_nI L, tp, hz_nI a, -hz_nI 1), (nm, ng, fr), r) (hz_nI m) = some (g1, (hz_nI L, tp, hz_nI b, hz_nI p), (nm, ng, fr'), r)) ∧
    (∀ s k, hz_nameS tp L a = .inr (s, k) → f_Model_name (g1, (hz_nI L, tp, hz_nI a, -hz_nI 1), (nm, ng, fr), r) (hz_nI m) = some (g1, (hz_nI L, tp, hz_nI (s + k + 1), -hz_nI 1), (nm, ng, upd (upd (hz_wrT fr (m + 10 + 11 * cnt + 1) tp s k) (m + 10 + 11 * cnt) (hz_nI k)) (m + 9) (hz_nI (cnt + 1))), r)) := by
  unfold f_Model_name hz_nameS
  rw [hz_nI_lit, hz_q_take hL ha]
  have hs := hz_skp_bd (tp := tp) ha
  by_cases c0 : hz_hereT tp L (hz_skp tp L a) = hz_nI 34
  · have hl := hz_hereT_lt c0 (by decide)
    rw [if_pos c0, if_pos c0]
    have e := hz_q_name_26 (g1 := g1) (tp := tp) (m := m) (nm := nm) (ng := ng) (fr := fr) (r := r) (kk := m + 10 + 11 * cnt) (s := hz_skp tp L a + 1) hL (by omega) 10 4096 0 (by omega) (by omega) hl
    rw [hz_wrT_zero, Nat.zero_add, Nat.add_zero] at e
    have hb := hz_letC_bd tp L 10 (hz_skp tp L a + 1) hl
    simp (disch := omega) only [hz_nI_lit, hz_nI_add, hz_nI_mul, hz_nI_lt, hz_nI_le, hz_nI_inj, hz_nI_sub, hz_nI_nat, hz_nI_inb, hz_nI_pred, hz_nI_m1_lt, hz_nI_lt_m1, hz_nI_m1_le, hz_nI_le_m1, hz_nI_eq_m1, hz_nI_m1_eq, hz_bI0, if_pos, if_neg, if_true, if_false, Option.bind_some, Prod.eta, reduceCtorEq, hcnt]
    rw [e]
    unfold f_Model_name_101 f_Model_name_113
    generalize hz_letC tp L 10 (hz_skp tp L a + 1) = k at *
    by_cases c2 : hz_hereT tp L (hz_skp tp L a + 1 + k) = hz_nI 34
    · by_cases c1 : k = 0
      · rw [if_pos (Or.inl c1)]
        refine ⟨fun p h => ?_, fun s k h => (nomatch h)⟩
        rw [← Sum.inl.inj h]
        subst c1
        simp only [Nat.add_zero] at c2 ⊢
        simp (disch := omega) only [hz_nI_lit, hz_nI_add, hz_nI_mul, hz_nI_lt, hz_nI_le, hz_nI_inj, hz_nI_sub, hz_nI_nat, hz_nI_inb, hz_nI_pred, hz_nI_m1_lt, hz_nI_lt_m1, hz_nI_m1_le, hz_nI_le_m1, hz_nI_eq_m1, hz_nI_m1_eq, hz_bI0, if_pos, if_neg, if_true, if_false, Option.bind_some, Prod.eta, reduceCtorEq, c2, hz_q_fail]
        exact ⟨_, _, rfl⟩
      · rw [if_neg (by intro h; exact h.elim c1 (fun h => h c2))]
        refine ⟨fun p h => (nomatch h), fun s k h => ?_⟩
        cases h
        have e5 : upd (hz_wrT fr (m + 10 + 11 * cnt + 1) tp (hz_skp tp L a + 1) k) (m + 10 + 11 * cnt) (hz_nI k) (m + 9) = hz_nI cnt := by
          unfold upd hz_wrT
          rw [if_neg (by omega), if_neg (by omega), hcnt]
        simp (disch := omega) only [hz_nI_lit, hz_nI_add, hz_nI_mul, hz_nI_lt, hz_nI_le, hz_nI_inj, hz_nI_sub, hz_nI_nat, hz_nI_inb, hz_nI_pred, hz_nI_m1_lt, hz_nI_lt_m1, hz_nI_m1_le, hz_nI_le_m1, hz_nI_eq_m1, hz_nI_m1_eq, hz_bI0, if_pos, if_neg, if_true, if_false, Option.bind_some, Prod.eta, reduceCtorEq, c1, c2, e5]
    · rw [if_pos (Or.inr c2)]
      refine ⟨fun p h => ?_, fun s k h => (nomatch h)⟩
      rw [← Sum.inl.inj h]
      rw [if_neg c2]
      exact ⟨_, _, rfl⟩
  · rw [if_neg c0, if_neg c0]
    refine ⟨fun p h => ?_, fun s k h => (nomatch h)⟩
    rw [← Sum.inl.inj h]
    refine ⟨hz_skp tp L a, fr, ?_⟩
    simp (disch := omega) only [hz_nI_lit, hz_nI_add, hz_nI_mul, hz_nI_lt, hz_nI_le, hz_nI_inj, hz_nI_sub, hz_nI_nat, hz_nI_inb, hz_nI_pred, hz_nI_m1_lt, hz_nI_lt_m1, hz_nI_m1_le, hz_nI_le_m1, hz_nI_eq_m1, hz_nI_m1_eq, hz_bI0, if_pos, if_neg, if_true, if_false, Option.bind_some, Prod.eta, reduceCtorEq, hcnt]
    rw [f_Model_name_26]
    unfold f_Model_name_101 f_Model_name_113
    simp (disch := omega) only [hz_nI_lit, hz_nI_add, hz_nI_mul, hz_nI_lt, hz_nI_le, hz_nI_inj, hz_nI_sub, hz_nI_nat, hz_nI_inb, hz_nI_pred, hz_nI_m1_lt, hz_nI_lt_m1, hz_nI_m1_le, hz_nI_le_m1, hz_nI_eq_m1, hz_nI_m1_eq, hz_bI0, if_pos, if_neg, if_true, if_false, Option.bind_some, Prod.eta, reduceCtorEq, hz_q_failW (show hz_skp tp L a ≤ 400 by omega)]
