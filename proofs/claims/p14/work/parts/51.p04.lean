set_option maxRecDepth 100000 in
def hz_riseT (tp : Nat → Int32) (L t z : Nat) : Nat → Nat → Int32 → Nat → Int32 × Nat
  | 0, lo, b, a => (b, a)
  | n + 1, lo, b, a => if hz_inR (hz_hereT tp L (hz_skp tp L a)) (hz_nI lo) (hz_nI t) = true then hz_riseT tp L t z n ((hz_hereT tp L (hz_skp tp L a)).toNatClampNeg + 1) (b ||| (hz_nI 1 <<< ((hz_hereT tp L (hz_skp tp L a) - hz_nI z) &&& hz_nI 31))) (hz_skp tp L a + 1) else (b, a)
set_option maxRecDepth 100000 in
def hz_riseS (tp : Nat → Int32) (L f t z most a : Nat) : Nat ⊕ (Int32 × Nat) :=
  if hz_inR (hz_hereT tp L (hz_skp tp L a)) (hz_nI f) (hz_nI t) = true then .inr (hz_riseT tp L t z most f (hz_nI 0) a) else .inl (hz_skp tp L a)
set_option maxRecDepth 100000 in
theorem hz_inR_eq {x : Int32} {f t : Nat} (hf : f < 2147483648) (ht : t < 2147483648) (h : hz_inR x (hz_nI f) (hz_nI t) = true) : ∃ d, f ≤ d ∧ d ≤ t ∧ x = hz_nI d := by
  unfold hz_inR at h
  simp only [decide_eq_true_eq, Int32.le_iff_toInt_le, hz_nI_toInt hf, hz_nI_toInt ht] at h
  obtain ⟨n, h1, h2, h3⟩ := hz_nI_of (x := x) (by omega)
  exact ⟨n, by omega, by omega, h2⟩
set_option maxRecDepth 100000 in
theorem hz_inR_nI {d f t : Nat} (hd : d < 2147483648) (hf : f < 2147483648) (ht : t < 2147483648) : hz_inR (hz_nI d) (hz_nI f) (hz_nI t) = decide (f ≤ d ∧ d ≤ t) := by
  unfold hz_inR; simp only [hz_nI_le hf hd, hz_nI_le hd ht]
set_option maxRecDepth 100000 in
theorem hz_inR_lt {tp : Nat → Int32} {L a f t : Nat} (hf : f < 2147483648) (ht : t < 2147483648) (h : hz_inR (hz_hereT tp L a) (hz_nI f) (hz_nI t) = true) : a < L := by
  obtain ⟨d, h1, h2, h3⟩ := hz_inR_eq hf ht h
  exact hz_hereT_lt h3 (by simp (disch := omega) only [hz_nI_lit, hz_nI_add, hz_nI_mul, hz_nI_lt, hz_nI_le, hz_nI_inj, hz_nI_sub, hz_nI_nat, hz_nI_inb, hz_nI_pred, hz_nI_m1_lt, hz_nI_lt_m1, hz_nI_m1_le, hz_nI_le_m1, hz_nI_eq_m1, hz_nI_m1_eq, hz_bI0, if_pos, if_neg, if_true, if_false, Option.bind_some, Prod.eta, reduceCtorEq, ne_eq, not_false_eq_true])
set_option maxRecDepth 100000 in
theorem hz_riseT_bd (tp : Nat → Int32) (L t z : Nat) (ht : t ≤ 127) : ∀ n lo b a, lo ≤ 128 → a ≤ L → a ≤ (hz_riseT tp L t z n lo b a).2 ∧ (hz_riseT tp L t z n lo b a).2 ≤ L
  | 0, lo, b, a, h1, h2 => by simp only [hz_riseT]; omega
  | n + 1, lo, b, a, h1, h2 => by
    unfold hz_riseT
    by_cases c : hz_inR (hz_hereT tp L (hz_skp tp L a)) (hz_nI lo) (hz_nI t) = true
    · rw [if_pos c]
      have hl := hz_inR_lt (by omega) (by omega) c
      have hs := hz_skp_bd (tp := tp) h2
      obtain ⟨d, e1, e2, e3⟩ := hz_inR_eq (by omega) (by omega) c
      have := hz_riseT_bd tp L t z ht n ((hz_hereT tp L (hz_skp tp L a)).toNatClampNeg + 1) (b ||| (hz_nI 1 <<< ((hz_hereT tp L (hz_skp tp L a) - hz_nI z) &&& hz_nI 31))) (hz_skp tp L a + 1) (by rw [e3, hz_nI_nat (by omega)]; omega) hl
      omega
    · rw [if_neg c]; exact ⟨Nat.le_refl _, h2⟩
set_option maxRecDepth 100000 in
theorem hz_riseS_bd {tp : Nat → Int32} {L f t z most a : Nat} (hf : f ≤ 127) (ht : t ≤ 127) (hm : 1 ≤ most) (ha : a ≤ L) :
    (∀ p, hz_riseS tp L f t z most a = .inl p → p ≤ L) ∧ (∀ b c, hz_riseS tp L f t z most a = .inr (b, c) → a < c ∧ c ≤ L) := by
  have hs := hz_skp_bd (tp := tp) ha
  unfold hz_riseS
  by_cases c : hz_inR (hz_hereT tp L (hz_skp tp L a)) (hz_nI f) (hz_nI t) = true
  · rw [if_pos c]
    refine ⟨fun p h => (nomatch h), fun b d h => ?_⟩
    have e := Sum.inr.inj h
    cases most with
    | zero => omega
    | succ n =>
      unfold hz_riseT at e
      rw [if_pos c] at e
      have hl := hz_inR_lt (by omega) (by omega) c
      obtain ⟨d, e1, e2, e3⟩ := hz_inR_eq (by omega) (by omega) c
      have hb := hz_riseT_bd tp L t z ht n ((hz_hereT tp L (hz_skp tp L a)).toNatClampNeg + 1) (hz_nI 0 ||| (hz_nI 1 <<< ((hz_hereT tp L (hz_skp tp L a) - hz_nI z) &&& hz_nI 31))) (hz_skp tp L a + 1) (by rw [e3, hz_nI_nat (by omega)]; omega) hl
      rw [e] at hb
      dsimp only at hb
      omega
  · rw [if_neg c]
    exact ⟨fun p h => by cases h; exact hs.2, fun b d h => (nomatch h)⟩
set_option maxRecDepth 100000 in
theorem hz_p_rise_17 {tp : Nat → Int32} {L t z most : Nat} {w : Int32} (hL : L ≤ 400) (ht : t ≤ 127) (hm : most ≤ 100) : ∀ k n a lo b m, most = m + k → k < n → a ≤ L → lo ≤ 128 →
    f_Reader_readRising_17 n (tp, hz_nI L, hz_nI (hz_skp tp L a), b, w) (hz_nI t) (hz_nI most) (hz_nI z) (hz_nI lo) (hz_nI m) (hz_hereT tp L (hz_skp tp L a)) = (if m = 0 ∧ ¬ (1 ≤ k ∧ hz_inR (hz_hereT tp L (hz_skp tp L a)) (hz_nI lo) (hz_nI t) = true) then f_Reader_readRising_80 (tp, hz_nI L, hz_nI (hz_skp tp L a), b, w) (hz_nI 0) else some (true, (tp, hz_nI L, hz_nI (hz_skp tp L (hz_riseT tp L t z k lo b a).2), (hz_riseT tp L t z k lo b a).1, w)))
  | 0, n + 1, a, lo, b, m, h1, h2, h3, h4 => by
    rw [f_Reader_readRising_17]
    by_cases c : m = 0
    · subst c
      simp only [hz_riseT]
      simp (disch := omega) only [hz_nI_lit, hz_nI_add, hz_nI_mul, hz_nI_lt, hz_nI_le, hz_nI_inj, hz_nI_sub, hz_nI_nat, hz_nI_inb, hz_nI_pred, hz_nI_m1_lt, hz_nI_lt_m1, hz_nI_m1_le, hz_nI_le_m1, hz_nI_eq_m1, hz_nI_m1_eq, hz_bI0, if_pos, if_neg, if_true, if_false, Option.bind_some, Prod.eta, reduceCtorEq, show ¬ (1 ≤ 0) by omega, false_and, not_false_eq_true, and_self]
    · simp only [c, false_and, if_false, hz_riseT]
      unfold f_Reader_readRising_80
      simp (disch := omega) only [hz_nI_lit, hz_nI_add, hz_nI_mul, hz_nI_lt, hz_nI_le, hz_nI_inj, hz_nI_sub, hz_nI_nat, hz_nI_inb, hz_nI_pred, hz_nI_m1_lt, hz_nI_lt_m1, hz_nI_m1_le, hz_nI_le_m1, hz_nI_eq_m1, hz_nI_m1_eq, hz_bI0, if_pos, if_neg, if_true, if_false, Option.bind_some, Prod.eta, reduceCtorEq]
  | k + 1, n + 1, a, lo, b, m, h1, h2, h3, h4 => by
    rw [f_Reader_readRising_17]
    unfold hz_riseT
    have hs := hz_skp_bd (tp := tp) h3
    by_cases c : hz_inR (hz_hereT tp L (hz_skp tp L a)) (hz_nI lo) (hz_nI t) = true
    · have hl := hz_inR_lt (by omega) (by omega) c
      obtain ⟨d, e1, e2, e3⟩ := hz_inR_eq (by omega) (by omega) c
      simp only [c, if_true, show 1 ≤ k + 1 by omega, and_self, not_true_eq_false, and_false, if_false]
      have ih := hz_p_rise_17 (tp := tp) (z := z) (w := w) hL ht hm k n (hz_skp tp L a + 1) (d + 1) (b ||| (hz_nI 1 <<< ((hz_hereT tp L (hz_skp tp L a) - hz_nI z) &&& hz_nI 31))) (m + 1) (by omega) (by omega) hl (by omega)
      rw [if_neg (by omega)] at ih
      have hpk : ∀ bb, f_Reader_peek (tp, hz_nI L, hz_nI (hz_skp tp L a + 1), bb, w) = some (hz_hereT tp L (hz_skp tp L (hz_skp tp L a + 1)), (tp, hz_nI L, hz_nI (hz_skp tp L (hz_skp tp L a + 1)), bb, w)) := fun bb => hz_p_peek hL hl
      rw [e3] at ih ⊢
      simp (disch := omega) only [hz_nI_lit, hz_nI_add, hz_nI_mul, hz_nI_lt, hz_nI_le, hz_nI_inj, hz_nI_sub, hz_nI_nat, hz_nI_inb, hz_nI_pred, hz_nI_m1_lt, hz_nI_lt_m1, hz_nI_m1_le, hz_nI_le_m1, hz_nI_eq_m1, hz_nI_m1_eq, hz_bI0, if_pos, if_neg, if_true, if_false, Option.bind_some, Prod.eta, reduceCtorEq, hpk]
      exact ih
    · have hc : hz_nI t < hz_hereT tp L (hz_skp tp L a) ∨ hz_hereT tp L (hz_skp tp L a) < hz_nI lo := by
        unfold hz_inR at c
        simp only [decide_eq_true_eq, Int32.lt_iff_toInt_lt, Int32.le_iff_toInt_le] at c ⊢
        omega
      simp only [c, Bool.false_eq_true, if_false, and_false, not_false_eq_true, and_true]
      have e9 : (if m = 0 then f_Reader_readRising_80 (tp, hz_nI L, hz_nI (hz_skp tp L a), b, w) (hz_nI 0) else some (true, (tp, hz_nI L, hz_nI (hz_skp tp L a), b, w))) = f_Reader_readRising_80 (tp, hz_nI L, hz_nI (hz_skp tp L a), b, w) (hz_nI m) := by
        by_cases c2 : m = 0
        · rw [if_pos c2, c2]
        · rw [if_neg c2]; unfold f_Reader_readRising_80; simp (disch := omega) only [hz_nI_lit, hz_nI_add, hz_nI_mul, hz_nI_lt, hz_nI_le, hz_nI_inj, hz_nI_sub, hz_nI_nat, hz_nI_inb, hz_nI_pred, hz_nI_m1_lt, hz_nI_lt_m1, hz_nI_m1_le, hz_nI_le_m1, hz_nI_eq_m1, hz_nI_m1_eq, hz_bI0, if_pos, if_neg, if_true, if_false, Option.bind_some, Prod.eta, reduceCtorEq]
      rw [e9]
      by_cases c3 : hz_hereT tp L (hz_skp tp L a) < hz_nI lo
      · simp (disch := omega) only [hz_nI_lit, hz_nI_add, hz_nI_mul, hz_nI_lt, hz_nI_le, hz_nI_inj, hz_nI_sub, hz_nI_nat, hz_nI_inb, hz_nI_pred, hz_nI_m1_lt, hz_nI_lt_m1, hz_nI_m1_le, hz_nI_le_m1, hz_nI_eq_m1, hz_nI_m1_eq, hz_bI0, if_pos, if_neg, if_true, if_false, Option.bind_some, Prod.eta, reduceCtorEq, c3]
      · have c4 := hc.resolve_right c3
        simp (disch := omega) only [hz_nI_lit, hz_nI_add, hz_nI_mul, hz_nI_lt, hz_nI_le, hz_nI_inj, hz_nI_sub, hz_nI_nat, hz_nI_inb, hz_nI_pred, hz_nI_m1_lt, hz_nI_lt_m1, hz_nI_m1_le, hz_nI_le_m1, hz_nI_eq_m1, hz_nI_m1_eq, hz_bI0, if_pos, if_neg, if_true, if_false, Option.bind_some, Prod.eta, reduceCtorEq, c3, c4]
set_option maxRecDepth 100000 in
theorem hz_p_rise {tp : Nat → Int32} {L f t z most a : Nat} {v w : Int32} (hL : L ≤ 400) (hf : f ≤ 127) (ht : t ≤ 127) (hm1 : 1 ≤ most) (hm : most ≤ 100) (ha : a ≤ L) :
    (∀ p, hz_riseS tp L f t z most a = .inl p → f_Reader_readRising (tp, hz_nI L, hz_nI a, v, w) (hz_nI f) (hz_nI t) (hz_nI most) (hz_nI z) = some (false, (tp, hz_nI L, hz_nI p, hz_nI 0, hz_nI p))) ∧
    (∀ b c, hz_riseS tp L f t z most a = .inr (b, c) → f_Reader_readRising (tp, hz_nI L, hz_nI a, v, w) (hz_nI f) (hz_nI t) (hz_nI most) (hz_nI z) = some (true, (tp, hz_nI L, hz_nI (hz_skp tp L c), b, w))) := by
  unfold f_Reader_readRising hz_riseS
  rw [hz_p_peek hL ha]
  simp only [Option.bind_some, hz_nI_lit]
  rw [hz_p_rise_17 hL ht hm most 4096 a f (hz_nI 0) 0 (by omega) (by omega) ha (by omega)]
  by_cases c : hz_inR (hz_hereT tp L (hz_skp tp L a)) (hz_nI f) (hz_nI t) = true
  · simp only [c, if_true, hm1, and_self, not_true_eq_false, and_false, if_false]
    exact ⟨fun p h => (nomatch h), fun b d h => by rw [Sum.inr.inj h]⟩
  · simp only [c, Bool.false_eq_true, if_false, and_false, not_false_eq_true, and_true, if_true]
    refine ⟨fun p h => ?_, fun b d h => (nomatch h)⟩
    rw [← Sum.inl.inj h]
    unfold f_Reader_readRising_80 f_Reader_wrong
    simp (disch := omega) only [hz_nI_lit, hz_nI_add, hz_nI_mul, hz_nI_lt, hz_nI_le, hz_nI_inj, hz_nI_sub, hz_nI_nat, hz_nI_inb, hz_nI_pred, hz_nI_m1_lt, hz_nI_lt_m1, hz_nI_m1_le, hz_nI_le_m1, hz_nI_eq_m1, hz_nI_m1_eq, hz_bI0, if_pos, if_neg, if_true, if_false, Option.bind_some, Prod.eta, reduceCtorEq]
set_option maxRecDepth 100000 in
theorem hz_q_rise_11 {g1 : Int32 × Int32} {tp : Nat → Int32} {L f t most : Nat} {g3 : hz_M3} {r : hz_MR} (hL : L ≤ 400) (hf1 : 1 ≤ f) (hf : f ≤ 127) (ht : t ≤ 127) (hm : most ≤ 100) : ∀ k n a l b m, most = m + k → k < n → a ≤ L → 1 ≤ m → f ≤ l + 1 → l ≤ 127 →
    (∃ a1, (a1 = (hz_riseT tp L t f k (l + 1) b a).2 ∨ a1 = hz_skp tp L (hz_riseT tp L t f k (l + 1) b a).2) ∧ f_Model_rising_11 n (g1, (hz_nI L, tp, hz_nI a, -hz_nI 1), g3, r) (hz_nI f) (hz_nI t) (hz_nI most) b (hz_nI l) (hz_nI m) = some ((hz_riseT tp L t f k (l + 1) b a).1, (g1, (hz_nI L, tp, hz_nI a1, -hz_nI 1), g3, r))) ∨
    (hz_inR (hz_hereT tp L (hz_skp tp L (hz_riseT tp L t f k (l + 1) b a).2)) (hz_nI f) (hz_nI t) = true ∧ ∃ b1, f_Model_rising_11 n (g1, (hz_nI L, tp, hz_nI a, -hz_nI 1), g3, r) (hz_nI f) (hz_nI t) (hz_nI most) b (hz_nI l) (hz_nI m) = some (b1, (g1, (hz_nI L, tp, hz_nI (hz_skp tp L (hz_riseT tp L t f k (l + 1) b a).2), hz_nI (hz_skp tp L (hz_riseT tp L t f k (l + 1) b a).2)), g3, r)))
  | 0, n + 1, a, l, b, m, h1, h2, h3, h4, h5, h6 => by
    rw [f_Model_rising_11]
    refine Or.inl ⟨a, Or.inl rfl, ?_⟩
    simp only [hz_riseT]
    simp (disch := omega) only [hz_nI_lit, hz_nI_add, hz_nI_mul, hz_nI_lt, hz_nI_le, hz_nI_inj, hz_nI_sub, hz_nI_nat, hz_nI_inb, hz_nI_pred, hz_nI_m1_lt, hz_nI_lt_m1, hz_nI_m1_le, hz_nI_le_m1, hz_nI_eq_m1, hz_nI_m1_eq, hz_bI0, if_pos, if_neg, if_true, if_false, Option.bind_some, Prod.eta, reduceCtorEq]
  | k + 1, n + 1, a, l, b, m, h1, h2, h3, h4, h5, h6 => by
    rw [f_Model_rising_11]
    unfold hz_riseT f_Model_rising_41 f_Model_rising_64 f_Model_rising_72
    have hs := hz_skp_bd (tp := tp) h3
    rw [hz_q_see hL h3]
    by_cases c0 : hz_inR (hz_hereT tp L (hz_skp tp L a)) (hz_nI f) (hz_nI t) = true
    · have hl := hz_inR_lt (by omega) (by omega) c0
      obtain ⟨d, e1, e2, e3⟩ := hz_inR_eq (by omega) (by omega) c0
      by_cases c : hz_inR (hz_hereT tp L (hz_skp tp L a)) (hz_nI (l + 1)) (hz_nI t) = true
      · have hd : l < d := by
          rw [e3, hz_inR_nI (by omega) (by omega) (by omega)] at c
          simp only [decide_eq_true_eq] at c
          omega
        have ih := hz_q_rise_11 (g1 := g1) (tp := tp) (g3 := g3) (r := r) hL hf1 hf ht hm k n (hz_skp tp L a + 1) d (b ||| (hz_nI 1 <<< ((hz_hereT tp L (hz_skp tp L a) - hz_nI f) &&& hz_nI 31))) (m + 1) (by omega) (by omega) hl (by omega) (by omega) (by omega)
        simp only [c, if_true]
        simp (disch := omega) only [hz_nI_lit, hz_nI_add, hz_nI_mul, hz_nI_lt, hz_nI_le, hz_nI_inj, hz_nI_sub, hz_nI_nat, hz_nI_inb, hz_nI_pred, hz_nI_m1_lt, hz_nI_lt_m1, hz_nI_m1_le, hz_nI_le_m1, hz_nI_eq_m1, hz_nI_m1_eq, hz_bI0, if_pos, if_neg, if_true, if_false, Option.bind_some, Prod.eta, reduceCtorEq, hz_q_see hL hs.2, hz_q_within, c0, Bool.true_eq_false, hz_skp_skp]
        rw [e3] at ih ⊢
        simp (disch := omega) only [hz_nI_lit, hz_nI_add, hz_nI_mul, hz_nI_lt, hz_nI_le, hz_nI_inj, hz_nI_sub, hz_nI_nat, hz_nI_inb, hz_nI_pred, hz_nI_m1_lt, hz_nI_lt_m1, hz_nI_m1_le, hz_nI_le_m1, hz_nI_eq_m1, hz_nI_m1_eq, hz_bI0, if_pos, if_neg, if_true, if_false, Option.bind_some, Prod.eta, reduceCtorEq]
        simp (disch := omega) only [hz_nI_lit, hz_nI_add, hz_nI_mul, hz_nI_lt, hz_nI_le, hz_nI_inj, hz_nI_sub, hz_nI_nat, hz_nI_inb, hz_nI_pred, hz_nI_m1_lt, hz_nI_lt_m1, hz_nI_m1_le, hz_nI_le_m1, hz_nI_eq_m1, hz_nI_m1_eq, hz_bI0, if_pos, if_neg, if_true, if_false, Option.bind_some, Prod.eta, reduceCtorEq] at ih
        exact ih
      · have hd : d ≤ l := by
          rw [e3, hz_inR_nI (by omega) (by omega) (by omega)] at c
          simp only [decide_eq_true_eq] at c
          omega
        simp only [c, Bool.false_eq_true, if_false]
        refine Or.inr ⟨c0, b, ?_⟩
        simp (disch := omega) only [hz_nI_lit, hz_nI_add, hz_nI_mul, hz_nI_lt, hz_nI_le, hz_nI_inj, hz_nI_sub, hz_nI_nat, hz_nI_inb, hz_nI_pred, hz_nI_m1_lt, hz_nI_lt_m1, hz_nI_m1_le, hz_nI_le_m1, hz_nI_eq_m1, hz_nI_m1_eq, hz_bI0, if_pos, if_neg, if_true, if_false, Option.bind_some, Prod.eta, reduceCtorEq, hz_q_see hL hs.2, hz_q_within, c0, Bool.true_eq_false, hz_skp_skp]
        rw [e3]
        simp (disch := omega) only [hz_nI_lit, hz_nI_add, hz_nI_mul, hz_nI_lt, hz_nI_le, hz_nI_inj, hz_nI_sub, hz_nI_nat, hz_nI_inb, hz_nI_pred, hz_nI_m1_lt, hz_nI_lt_m1, hz_nI_m1_le, hz_nI_le_m1, hz_nI_eq_m1, hz_nI_m1_eq, hz_bI0, if_pos, if_neg, if_true, if_false, Option.bind_some, Prod.eta, reduceCtorEq, hz_q_fail]
    · have c : ¬ hz_inR (hz_hereT tp L (hz_skp tp L a)) (hz_nI (l + 1)) (hz_nI t) = true := by
        intro h
        obtain ⟨d, e1, e2, e3⟩ := hz_inR_eq (by omega) (by omega) h
        rw [e3, hz_inR_nI (by omega) (by omega) (by omega)] at c0
        simp only [decide_eq_true_eq] at c0
        omega
      simp only [c, Bool.false_eq_true, if_false]
      refine Or.inl ⟨hz_skp tp L a, Or.inr rfl, ?_⟩
      have c0' : hz_inR (hz_hereT tp L (hz_skp tp L a)) (hz_nI f) (hz_nI t) = false := by simpa using c0
      simp (disch := omega) only [hz_nI_lit, hz_nI_add, hz_nI_mul, hz_nI_lt, hz_nI_le, hz_nI_inj, hz_nI_sub, hz_nI_nat, hz_nI_inb, hz_nI_pred, hz_nI_m1_lt, hz_nI_lt_m1, hz_nI_m1_le, hz_nI_le_m1, hz_nI_eq_m1, hz_nI_m1_eq, hz_bI0, if_pos, if_neg, if_true, if_false, Option.bind_some, Prod.eta, reduceCtorEq, hz_q_within, c0']
