set_option maxRecDepth 100000 in
theorem hz_q_rise {g1 : Int32 × Int32} {tp : Nat → Int32} {L f t most a : Nat} {g3 : hz_M3} {r : hz_MR} (hL : L ≤ 400) (hf1 : 1 ≤ f) (hf : f ≤ 127) (ht : t ≤ 127) (hm1 : 1 ≤ most) (hm : most ≤ 100) (ha : a ≤ L) :
    (∀ p, hz_riseS tp L f t f most a = .inl p → f_Model_rising (g1, (hz_nI L, tp, hz_nI a, -hz_nI 1), g3, r) (hz_nI f) (hz_nI t) (hz_nI most) = some (hz_nI 0, (g1, (hz_nI L, tp, hz_nI p, hz_nI p), g3, r))) ∧
    (∀ b c, hz_riseS tp L f t f most a = .inr (b, c) → (∃ a1, (a1 = c ∨ a1 = hz_skp tp L c) ∧ f_Model_rising (g1, (hz_nI L, tp, hz_nI a, -hz_nI 1), g3, r) (hz_nI f) (hz_nI t) (hz_nI most) = some (b, (g1, (hz_nI L, tp, hz_nI a1, -hz_nI 1), g3, r))) ∨
      (hz_inR (hz_hereT tp L (hz_skp tp L c)) (hz_nI f) (hz_nI t) = true ∧ ∃ b1, f_Model_rising (g1, (hz_nI L, tp, hz_nI a, -hz_nI 1), g3, r) (hz_nI f) (hz_nI t) (hz_nI most) = some (b1, (g1, (hz_nI L, tp, hz_nI (hz_skp tp L c), hz_nI (hz_skp tp L c)), g3, r)))) := by
  have hs := hz_skp_bd (tp := tp) ha
  unfold f_Model_rising hz_riseS
  rw [f_Model_rising_11]
  unfold f_Model_rising_41 f_Model_rising_64 f_Model_rising_72
  rw [hz_q_see hL ha]
  by_cases c : hz_inR (hz_hereT tp L (hz_skp tp L a)) (hz_nI f) (hz_nI t) = true
  · have hl := hz_inR_lt (by omega) (by omega) c
    obtain ⟨d, e1, e2, e3⟩ := hz_inR_eq (by omega) (by omega) c
    refine ⟨fun p h => by rw [if_pos c] at h; exact (nomatch h), fun b q h => ?_⟩
    rw [if_pos c] at h
    have e := Sum.inr.inj h
    obtain ⟨k, rfl⟩ : ∃ k, most = k + 1 := ⟨most - 1, by omega⟩
    unfold hz_riseT at e
    rw [if_pos c, e3, hz_nI_nat (by omega)] at e
    have ih := hz_q_rise_11 (g1 := g1) (tp := tp) (g3 := g3) (r := r) (t := t) hL hf1 hf ht hm k 4095 (hz_skp tp L a + 1) d (hz_nI 0 ||| (hz_nI 1 <<< ((hz_nI d - hz_nI f) &&& hz_nI 31))) 1 (by omega) (by omega) hl (by omega) (by omega) (by omega)
    rw [e] at ih
    simp (disch := omega) only [hz_nI_lit, hz_nI_add, hz_nI_mul, hz_nI_lt, hz_nI_le, hz_nI_inj, hz_nI_sub, hz_nI_nat, hz_nI_inb, hz_nI_pred, hz_nI_m1_lt, hz_nI_lt_m1, hz_nI_m1_le, hz_nI_le_m1, hz_nI_eq_m1, hz_nI_m1_eq, hz_bI0, if_pos, if_neg, if_true, if_false, Option.bind_some, Prod.eta, reduceCtorEq, hz_q_within, c, Bool.true_eq_false]
    rw [e3]
    simp (disch := omega) only [hz_nI_lit, hz_nI_add, hz_nI_mul, hz_nI_lt, hz_nI_le, hz_nI_inj, hz_nI_sub, hz_nI_nat, hz_nI_inb, hz_nI_pred, hz_nI_m1_lt, hz_nI_lt_m1, hz_nI_m1_le, hz_nI_le_m1, hz_nI_eq_m1, hz_nI_m1_eq, hz_bI0, if_pos, if_neg, if_true, if_false, Option.bind_some, Prod.eta, reduceCtorEq]
    simp (disch := omega) only [hz_nI_lit, hz_nI_add, hz_nI_mul, hz_nI_lt, hz_nI_le, hz_nI_inj, hz_nI_sub, hz_nI_nat, hz_nI_inb, hz_nI_pred, hz_nI_m1_lt, hz_nI_lt_m1, hz_nI_m1_le, hz_nI_le_m1, hz_nI_eq_m1, hz_nI_m1_eq, hz_bI0, if_pos, if_neg, if_true, if_false, Option.bind_some, Prod.eta, reduceCtorEq] at ih
    exact ih
  · have c' : hz_inR (hz_hereT tp L (hz_skp tp L a)) (hz_nI f) (hz_nI t) = false := by simpa using c
    refine ⟨fun p h => ?_, fun b q h => by rw [if_neg c] at h; exact (nomatch h)⟩
    rw [if_neg c] at h
    rw [← Sum.inl.inj h]
    simp (disch := omega) only [hz_nI_lit, hz_nI_add, hz_nI_mul, hz_nI_lt, hz_nI_le, hz_nI_inj, hz_nI_sub, hz_nI_nat, hz_nI_inb, hz_nI_pred, hz_nI_m1_lt, hz_nI_lt_m1, hz_nI_m1_le, hz_nI_le_m1, hz_nI_eq_m1, hz_nI_m1_eq, hz_bI0, if_pos, if_neg, if_true, if_false, Option.bind_some, Prod.eta, reduceCtorEq, hz_q_within, c', hz_q_fail]
set_option maxRecDepth 100000 in
theorem hz_q_riseW {g1 : Int32 × Int32} {l a f t most : Int32} {p : Nat} (hp : p ≤ 400) {tp : Nat → Int32} {g3 : hz_M3} {r : hz_MR} : f_Model_rising (g1, (l, tp, a, hz_nI p), g3, r) f t most = some (hz_nI 0, (g1, (l, tp, a, hz_nI p), g3, r)) := by
  unfold f_Model_rising
  rw [f_Model_rising_11]
  simp (disch := omega) only [hz_nI_lit, hz_nI_add, hz_nI_mul, hz_nI_lt, hz_nI_le, hz_nI_inj, hz_nI_sub, hz_nI_nat, hz_nI_inb, hz_nI_pred, hz_nI_m1_lt, hz_nI_lt_m1, hz_nI_m1_le, hz_nI_le_m1, hz_nI_eq_m1, hz_nI_m1_eq, hz_bI0, if_pos, if_neg, if_true, if_false, Option.bind_some, Prod.eta, reduceCtorEq]
set_option maxRecDepth 100000 in
theorem hz_shl_or (x y : Int32) : (x ||| y) <<< (hz_nI 1 &&& hz_nI 31) = (x <<< (hz_nI 1 &&& hz_nI 31)) ||| (y <<< (hz_nI 1 &&& hz_nI 31)) := by
  apply Int32.toBitVec_inj.mp
  simp only [Int32.toBitVec_shiftLeft, Int32.toBitVec_or]
  exact BitVec.shiftLeft_or_distrib ..
set_option maxRecDepth 100000 in
theorem hz_shl_9 : ∀ e : Fin 9, (hz_nI 1 <<< ((hz_nI (49 + e.val) - hz_nI 49) &&& hz_nI 31)) <<< (hz_nI 1 &&& hz_nI 31) = hz_nI 1 <<< ((hz_nI (49 + e.val) - hz_nI 48) &&& hz_nI 31) := by decide
set_option maxRecDepth 100000 in
theorem hz_riseT_shl (tp : Nat → Int32) (L : Nat) : ∀ n lo b a, 49 ≤ lo → lo ≤ 128 → hz_riseT tp L 57 48 n lo (b <<< (hz_nI 1 &&& hz_nI 31)) a = ((hz_riseT tp L 57 49 n lo b a).1 <<< (hz_nI 1 &&& hz_nI 31), (hz_riseT tp L 57 49 n lo b a).2)
  | 0, lo, b, a, h1, h2 => rfl
  | n + 1, lo, b, a, h1, h2 => by
    unfold hz_riseT
    by_cases c : hz_inR (hz_hereT tp L (hz_skp tp L a)) (hz_nI lo) (hz_nI 57) = true
    · obtain ⟨d, e1, e2, e3⟩ := hz_inR_eq (by omega) (by omega) c
      rw [if_pos c, if_pos c, e3]
      have e := hz_shl_9 ⟨d - 49, by omega⟩
      simp only [show 49 + (d - 49) = d by omega] at e
      rw [← e, ← hz_shl_or]
      exact hz_riseT_shl tp L n _ _ _ (by rw [hz_nI_nat (by omega)]; omega) (by rw [hz_nI_nat (by omega)]; omega)
    · rw [if_neg c, if_neg c]
set_option maxRecDepth 100000 in
theorem hz_riseS_shl (tp : Nat → Int32) (L a : Nat) : (∀ p, hz_riseS tp L 49 57 49 3 a = .inl p → hz_riseS tp L 49 57 48 3 a = .inl p) ∧ (∀ b c, hz_riseS tp L 49 57 49 3 a = .inr (b, c) → hz_riseS tp L 49 57 48 3 a = .inr (b <<< (hz_nI 1 &&& hz_nI 31), c)) := by
  unfold hz_riseS
  by_cases c : hz_inR (hz_hereT tp L (hz_skp tp L a)) (hz_nI 49) (hz_nI 57) = true
  · rw [if_pos c, if_pos c]
    refine ⟨fun p h => (nomatch h), fun b d h => ?_⟩
    have e := hz_riseT_shl tp L 3 49 (hz_nI 0) a (by omega) (by omega)
    rw [Sum.inr.inj h, show hz_nI 0 <<< (hz_nI 1 &&& hz_nI 31) = hz_nI 0 by decide] at e
    rw [e]
  · rw [if_neg c, if_neg c]
    exact ⟨fun p h => h, fun b d h => (nomatch h)⟩
