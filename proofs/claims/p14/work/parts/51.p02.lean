set_option maxRecDepth 100000 in
theorem hz_numT_bd (tp : Nat → Int32) (L : Nat) : ∀ n v a, a ≤ L → a ≤ (hz_numT tp L n v a).2 ∧ (hz_numT tp L n v a).2 ≤ L ∧ (hz_numT tp L n v a).2 ≤ a + n ∧ v ≤ (hz_numT tp L n v a).1 ∧ (hz_numT tp L n v a).1 < (v + 1) * 10 ^ n
  | 0, v, a, h => by simp only [hz_numT]; omega
  | n + 1, v, a, h => by
    unfold hz_numT
    by_cases c : hz_dg (hz_hereT tp L a) = true
    · rw [if_pos c]
      have hl := hz_hereT_lt rfl (hz_dg_ne c).1
      have := hz_numT_bd tp L n (v * 10 + hz_dv (hz_hereT tp L a)) (a + 1) hl
      have h9 := (hz_dg_eq c).2
      refine ⟨by omega, by omega, by omega, by omega, ?_⟩
      have e : (v * 10 + hz_dv (hz_hereT tp L a) + 1) * 10 ^ n ≤ ((v + 1) * 10) * 10 ^ n := Nat.mul_le_mul_right _ (by omega)
      rw [Nat.pow_succ, Nat.mul_comm (10 ^ n) 10, ← Nat.mul_assoc]
      omega
    · rw [if_neg c]
      refine ⟨by omega, by omega, by omega, by omega, ?_⟩
      have : 1 ≤ 10 ^ (n + 1) := Nat.pow_pos (by omega)
      have e : (v + 1) * 1 ≤ (v + 1) * 10 ^ (n + 1) := Nat.mul_le_mul_left _ this
      show v < _
      omega
set_option maxRecDepth 100000 in
theorem hz_p10_le {d : Nat} (h : d ≤ 4) : 10 ^ d ≤ 10000 := by
  have : 10 ^ d ≤ 10 ^ 4 := Nat.pow_le_pow_right (by omega) h
  omega
set_option maxRecDepth 100000 in
theorem hz_p_num_104 {tp : Nat → Int32} {L a v hi : Nat} {w : Int32} (ha : 1 ≤ a) (hv : v < 100000) (hh : hi ≤ 9999) : f_Reader_readNumber_104 (tp, hz_nI L, hz_nI a, hz_nI v, w) (hz_nI hi) = if v ≤ hi then some (true, (tp, hz_nI L, hz_nI a, hz_nI v, w)) else some (false, (tp, hz_nI L, hz_nI a, hz_nI v, hz_nI (a - 1))) := by
  unfold f_Reader_readNumber_104 f_Reader_wrong
  simp (disch := omega) only [hz_nI_lit, hz_nI_add, hz_nI_mul, hz_nI_lt, hz_nI_le, hz_nI_inj, hz_nI_sub, hz_nI_nat, hz_nI_inb, hz_nI_pred, hz_nI_m1_lt, hz_nI_lt_m1, hz_nI_m1_le, hz_nI_le_m1, hz_nI_eq_m1, hz_nI_m1_eq, hz_bI0, if_pos, if_neg, if_true, if_false, Option.bind_some, Prod.eta, reduceCtorEq]
set_option maxRecDepth 100000 in
theorem hz_p_num_52 {tp : Nat → Int32} {L hi m : Nat} {w : Int32} (hL : L ≤ 400) (hm : m ≤ 4) : ∀ k n v a d, m = d + k → k < n → a ≤ L → v < 10 ^ d → f_Reader_readNumber_52 n (tp, hz_nI L, hz_nI a, hz_nI v, w) (hz_nI hi) (hz_nI m) (hz_nI d) = f_Reader_readNumber_104 (tp, hz_nI L, hz_nI (hz_numT tp L k v a).2, hz_nI (hz_numT tp L k v a).1, w) (hz_nI hi)
  | 0, n + 1, v, a, d, h1, h2, h3, h4 => by
    rw [f_Reader_readNumber_52]
    simp (disch := omega) only [hz_nI_lit, hz_nI_add, hz_nI_mul, hz_nI_lt, hz_nI_le, hz_nI_inj, hz_nI_sub, hz_nI_nat, hz_nI_inb, hz_nI_pred, hz_nI_m1_lt, hz_nI_lt_m1, hz_nI_m1_le, hz_nI_le_m1, hz_nI_eq_m1, hz_nI_m1_eq, hz_bI0, if_pos, if_neg, if_true, if_false, Option.bind_some, Prod.eta, reduceCtorEq, hz_numT]
  | k + 1, n + 1, v, a, d, h1, h2, h3, h4 => by
    rw [f_Reader_readNumber_52, hz_p_byteHere hL h3]
    have hp := hz_p10_le (d := d) (by omega)
    unfold hz_numT
    by_cases c : hz_dg (hz_hereT tp L a) = true
    · have hl := hz_hereT_lt rfl (hz_dg_ne c).1
      obtain ⟨e1, e2⟩ := hz_dg_eq c
      have ih := hz_p_num_52 (tp := tp) (hi := hi) (w := w) hL hm k n (v * 10 + hz_dv (hz_hereT tp L a)) (a + 1) (d + 1) (by omega) (by omega) (by omega) (by rw [Nat.pow_succ]; omega)
      rw [if_pos c, ← ih]
      have e3 : hz_nI (v * 10) + hz_hereT tp L a - hz_nI 48 = hz_nI (v * 10 + hz_dv (hz_hereT tp L a)) := by
        generalize hx : hz_hereT tp L a = x at *
        rw [e1]
        simp (disch := omega) only [hz_nI_lit, hz_nI_add, hz_nI_mul, hz_nI_lt, hz_nI_le, hz_nI_inj, hz_nI_sub, hz_nI_nat, hz_nI_inb, hz_nI_pred, hz_nI_m1_lt, hz_nI_lt_m1, hz_nI_m1_le, hz_nI_le_m1, hz_nI_eq_m1, hz_nI_m1_eq, hz_bI0, if_pos, if_neg, if_true, if_false, Option.bind_some, Prod.eta, reduceCtorEq]
        rw [← e1]
        congr 1; omega
      simp (disch := omega) only [hz_nI_lit, hz_nI_add, hz_nI_mul, hz_nI_lt, hz_nI_le, hz_nI_inj, hz_nI_sub, hz_nI_nat, hz_nI_inb, hz_nI_pred, hz_nI_m1_lt, hz_nI_lt_m1, hz_nI_m1_le, hz_nI_le_m1, hz_nI_eq_m1, hz_nI_m1_eq, hz_bI0, if_pos, if_neg, if_true, if_false, Option.bind_some, Prod.eta, reduceCtorEq, hz_p_isDigit, c, e3, Bool.true_eq_false]
    · have c' : hz_dg (hz_hereT tp L a) = false := by simpa using c
      rw [if_neg c]
      simp (disch := omega) only [hz_nI_lit, hz_nI_add, hz_nI_mul, hz_nI_lt, hz_nI_le, hz_nI_inj, hz_nI_sub, hz_nI_nat, hz_nI_inb, hz_nI_pred, hz_nI_m1_lt, hz_nI_lt_m1, hz_nI_m1_le, hz_nI_le_m1, hz_nI_eq_m1, hz_nI_m1_eq, hz_bI0, if_pos, if_neg, if_true, if_false, Option.bind_some, Prod.eta, reduceCtorEq, hz_p_isDigit, c']
set_option maxRecDepth 100000 in
def hz_numS (tp : Nat → Int32) (L lo hi a : Nat) : Nat ⊕ (Nat × Nat) :=
  if hz_dg (hz_hereT tp L (hz_skp tp L a)) = true then
    if hz_hereT tp L (hz_skp tp L a) = hz_nI 48 ∧ 0 < lo then .inl (hz_skp tp L a)
    else if (hz_numT tp L (if hz_hereT tp L (hz_skp tp L a) = hz_nI 48 then 1 else 4) 0 (hz_skp tp L a)).1 ≤ hi then .inr (hz_numT tp L (if hz_hereT tp L (hz_skp tp L a) = hz_nI 48 then 1 else 4) 0 (hz_skp tp L a))
    else .inl ((hz_numT tp L (if hz_hereT tp L (hz_skp tp L a) = hz_nI 48 then 1 else 4) 0 (hz_skp tp L a)).2 - 1)
  else .inl (hz_skp tp L a)
set_option maxRecDepth 100000 in
theorem hz_numT_one {tp : Nat → Int32} {L n v a : Nat} (h : hz_dg (hz_hereT tp L a) = true) (hn : 1 ≤ n) (ha : a ≤ L) : a + 1 ≤ (hz_numT tp L n v a).2 ∧ (hz_hereT tp L a ≠ hz_nI 48 → 1 ≤ (hz_numT tp L n v a).1) := by
  cases n with
  | zero => omega
  | succ n =>
    unfold hz_numT
    rw [if_pos h]
    have hl := hz_hereT_lt rfl (hz_dg_ne h).1
    have := hz_numT_bd tp L n (v * 10 + hz_dv (hz_hereT tp L a)) (a + 1) hl
    refine ⟨by omega, fun hx => ?_⟩
    have : 1 ≤ hz_dv (hz_hereT tp L a) := by
      obtain ⟨e1, e2⟩ := hz_dg_eq h
      rcases Nat.eq_zero_or_pos (hz_dv (hz_hereT tp L a)) with h0 | h0
      · rw [h0] at e1; exact absurd e1 hx
      · omega
    omega
set_option maxRecDepth 100000 in
theorem hz_numS_bd {tp : Nat → Int32} {L lo hi a : Nat} (hlo : lo ≤ 1) (ha : a ≤ L) :
    (∀ p, hz_numS tp L lo hi a = .inl p → p ≤ L) ∧ (∀ v b, hz_numS tp L lo hi a = .inr (v, b) → a < b ∧ b ≤ L ∧ lo ≤ v ∧ v ≤ hi) := by
  have hs := hz_skp_bd (tp := tp) ha
  unfold hz_numS
  generalize hz_skp tp L a = s at *
  by_cases c : hz_dg (hz_hereT tp L s) = true
  · simp only [c, if_true]
    by_cases c1 : hz_hereT tp L s = hz_nI 48 ∧ 0 < lo
    · simp only [c1, and_self, if_true]
      exact ⟨fun p h => by cases h; omega, fun v b h => nomatch h⟩
    · rw [if_neg c1]
      generalize hk : (if hz_hereT tp L s = hz_nI 48 then 1 else 4) = k
      have hk1 : 1 ≤ k := by rw [← hk]; split <;> omega
      have h1 := hz_numT_one (v := 0) c hk1 hs.2
      have h2 := hz_numT_bd tp L k 0 s hs.2
      have h3 : lo ≤ (hz_numT tp L k 0 s).1 := by
        by_cases c2 : hz_hereT tp L s = hz_nI 48
        · have : ¬ 0 < lo := fun h => c1 ⟨c2, h⟩
          omega
        · have := h1.2 c2; omega
      generalize hz_numT tp L k 0 s = q at *
      split
      · exact ⟨fun p h => (nomatch h), fun v b h => by cases h; dsimp only at *; omega⟩
      · exact ⟨fun p h => by cases h; omega, fun v b h => (nomatch h)⟩
  · rw [if_neg c]
    exact ⟨fun p h => by cases h; omega, fun v b h => nomatch h⟩
set_option maxRecDepth 100000 in
theorem hz_p_num {tp : Nat → Int32} {L lo hi a : Nat} {v w : Int32} (hL : L ≤ 400) (hlo : lo ≤ 1) (hh : hi ≤ 9999) (ha : a ≤ L) :
    (∀ p, hz_numS tp L lo hi a = .inl p → ∃ b x, b ≤ L ∧ f_Reader_readNumber (tp, hz_nI L, hz_nI a, v, w) (hz_nI lo) (hz_nI hi) = some (false, (tp, hz_nI L, hz_nI b, x, hz_nI p))) ∧
    (∀ n b, hz_numS tp L lo hi a = .inr (n, b) → f_Reader_readNumber (tp, hz_nI L, hz_nI a, v, w) (hz_nI lo) (hz_nI hi) = some (true, (tp, hz_nI L, hz_nI b, hz_nI n, w))) := by
  have hs := hz_skp_bd (tp := tp) ha
  unfold f_Reader_readNumber hz_numS
  rw [hz_p_peek hL ha]
  generalize hz_skp tp L a = s at *
  by_cases c : hz_dg (hz_hereT tp L s) = true
  · simp only [c, if_true, Option.bind_some, hz_p_isDigit, hz_nI_lit, hz_bI0, Bool.true_eq_false, if_false]
    have hr : ∀ k, 1 ≤ k → k ≤ 4 → f_Reader_readNumber_52 4096 (tp, hz_nI L, hz_nI s, hz_nI 0, w) (hz_nI hi) (hz_nI k) (hz_nI 0) = if (hz_numT tp L k 0 s).1 ≤ hi then some (true, (tp, hz_nI L, hz_nI (hz_numT tp L k 0 s).2, hz_nI (hz_numT tp L k 0 s).1, w)) else some (false, (tp, hz_nI L, hz_nI (hz_numT tp L k 0 s).2, hz_nI (hz_numT tp L k 0 s).1, hz_nI ((hz_numT tp L k 0 s).2 - 1))) := by
      intro k hk1 hk4
      rw [hz_p_num_52 hL hk4 k 4096 0 s 0 (by omega) (by omega) hs.2 (by omega)]
      have h1 := hz_numT_one (v := 0) c hk1 hs.2
      have h2 := hz_numT_bd tp L k 0 s hs.2
      have h3 := hz_p10_le hk4
      rw [hz_p_num_104 (by omega) (by omega) hh]
    have h31 : f_Reader_readNumber_31 (tp, hz_nI L, hz_nI s, v, w) (hz_nI hi) (hz_hereT tp L s) = f_Reader_readNumber_52 4096 (tp, hz_nI L, hz_nI s, hz_nI 0, w) (hz_nI hi) (hz_nI (if hz_hereT tp L s = hz_nI 48 then 1 else 4)) (hz_nI 0) := by
      unfold f_Reader_readNumber_31
      by_cases c2 : hz_hereT tp L s = hz_nI 48
      · simp only [hz_nI_lit, c2, if_true]
      · simp only [hz_nI_lit, c2, if_false]
    have h31' := h31.trans (hr (if hz_hereT tp L s = hz_nI 48 then 1 else 4) (by split <;> omega) (by split <;> omega))
    have h4 := hz_numT_bd tp L (if hz_hereT tp L s = hz_nI 48 then 1 else 4) 0 s hs.2
    generalize hk : (if hz_hereT tp L s = hz_nI 48 then 1 else 4) = k at *
    have hfin : (∀ p, (if (hz_numT tp L k 0 s).1 ≤ hi then Sum.inr (hz_numT tp L k 0 s) else Sum.inl ((hz_numT tp L k 0 s).2 - 1) : Nat ⊕ (Nat × Nat)) = .inl p → ∃ b x, b ≤ L ∧ f_Reader_readNumber_31 (tp, hz_nI L, hz_nI s, v, w) (hz_nI hi) (hz_hereT tp L s) = some (false, (tp, hz_nI L, hz_nI b, x, hz_nI p))) ∧
        (∀ n b, (if (hz_numT tp L k 0 s).1 ≤ hi then Sum.inr (hz_numT tp L k 0 s) else Sum.inl ((hz_numT tp L k 0 s).2 - 1) : Nat ⊕ (Nat × Nat)) = .inr (n, b) → f_Reader_readNumber_31 (tp, hz_nI L, hz_nI s, v, w) (hz_nI hi) (hz_hereT tp L s) = some (true, (tp, hz_nI L, hz_nI b, hz_nI n, w))) := by
      rw [h31']
      by_cases c3 : (hz_numT tp L k 0 s).1 ≤ hi
      · simp only [c3, if_true]
        exact ⟨fun p h => (nomatch h), fun n b h => by rw [Sum.inr.inj h]⟩
      · simp only [c3, if_false]
        exact ⟨fun p h => by cases h; exact ⟨_, _, h4.2.1, rfl⟩, fun n b h => (nomatch h)⟩
    by_cases c2 : hz_hereT tp L s = hz_nI 48
    · by_cases c3 : 0 < lo
      · unfold f_Reader_wrong
        simp (disch := omega) only [hz_nI_lit, hz_nI_add, hz_nI_mul, hz_nI_lt, hz_nI_le, hz_nI_inj, hz_nI_sub, hz_nI_nat, hz_nI_inb, hz_nI_pred, hz_nI_m1_lt, hz_nI_lt_m1, hz_nI_m1_le, hz_nI_le_m1, hz_nI_eq_m1, hz_nI_m1_eq, hz_bI0, if_pos, if_neg, if_true, if_false, Option.bind_some, Prod.eta, reduceCtorEq, c2, c3, and_self]
        exact ⟨fun p h => by cases h; exact ⟨s, v, hs.2, rfl⟩, fun n b h => (nomatch h)⟩
      · rw [if_neg (fun h => c3 h.2)]
        simp only [c2, hz_nI_le (show lo < 2147483648 by omega) (show 0 < 2147483648 by omega), show lo ≤ 0 by omega, if_true] at hfin ⊢
        exact hfin
    · rw [if_neg (fun h => c2 h.1)]
      simp only [c2, if_false] at hfin ⊢
      exact hfin
  · have c' : hz_dg (hz_hereT tp L s) = false := by simpa using c
    rw [if_neg c]
    unfold f_Reader_wrong
    simp (disch := omega) only [hz_nI_lit, hz_nI_add, hz_nI_mul, hz_nI_lt, hz_nI_le, hz_nI_inj, hz_nI_sub, hz_nI_nat, hz_nI_inb, hz_nI_pred, hz_nI_m1_lt, hz_nI_lt_m1, hz_nI_m1_le, hz_nI_le_m1, hz_nI_eq_m1, hz_nI_m1_eq, hz_bI0, if_pos, if_neg, if_true, if_false, Option.bind_some, Prod.eta, reduceCtorEq, hz_p_isDigit, c']
    exact ⟨fun p h => by cases h; exact ⟨s, v, hs.2, rfl⟩, fun n b h => (nomatch h)⟩
