set_option maxRecDepth 100000 in
def hz_hereT (tp : Nat → Int32) (L a : Nat) : Int32 := if a < L then tp a else -1
set_option maxRecDepth 100000 in
def hz_skipT (tp : Nat → Int32) (L : Nat) : Nat → Nat → Nat
  | 0, a => a
  | n + 1, a => if a < L then (if tp a = 32 then hz_skipT tp L n (a + 1) else a) else a
set_option maxRecDepth 100000 in
def hz_skp (tp : Nat → Int32) (L a : Nat) : Nat := hz_skipT tp L (L - a) a
set_option maxRecDepth 100000 in
theorem hz_skipT_bd (tp : Nat → Int32) (L : Nat) : ∀ n a, a ≤ L → a ≤ hz_skipT tp L n a ∧ hz_skipT tp L n a ≤ L
  | 0, a, h => ⟨Nat.le_refl _, h⟩
  | n + 1, a, h => by
    unfold hz_skipT
    split
    · split
      · have := hz_skipT_bd tp L n (a + 1) (by omega); omega
      · omega
    · omega
set_option maxRecDepth 100000 in
theorem hz_skp_bd {tp : Nat → Int32} {L a : Nat} (h : a ≤ L) : a ≤ hz_skp tp L a ∧ hz_skp tp L a ≤ L := hz_skipT_bd tp L _ a h
set_option maxRecDepth 100000 in
theorem hz_skp_no {tp : Nat → Int32} {L a : Nat} (h : hz_hereT tp L a ≠ 32) : hz_skp tp L a = a := by
  unfold hz_skp
  cases hn : L - a with
  | zero => rfl
  | succ n =>
    unfold hz_skipT hz_hereT at *
    have : a < L := by omega
    simp only [this, if_true] at *
    rw [if_neg h]
set_option maxRecDepth 100000 in
theorem hz_skp_yes {tp : Nat → Int32} {L a : Nat} (h : hz_hereT tp L a = 32) : a < L ∧ hz_skp tp L a = hz_skp tp L (a + 1) := by
  have h1 : a < L := by
    unfold hz_hereT at h
    by_cases c : a < L
    · exact c
    · rw [if_neg c] at h; exact absurd h (by decide)
  refine ⟨h1, ?_⟩
  unfold hz_skp
  rw [show L - a = (L - (a + 1)) + 1 by omega]
  rw [hz_skipT, if_pos h1]
  unfold hz_hereT at h
  rw [if_pos h1] at h
  rw [if_pos h]
set_option maxRecDepth 100000 in
theorem hz_skp_ne (tp : Nat → Int32) (L : Nat) : ∀ n a, L - a ≤ n → hz_hereT tp L (hz_skp tp L a) ≠ 32
  | 0, a, h => by
    have : ¬ a < L := by omega
    have h0 : hz_hereT tp L a = -1 := by unfold hz_hereT; rw [if_neg this]
    rw [hz_skp_no (by rw [h0]; decide), h0]; decide
  | n + 1, a, h => by
    by_cases c : hz_hereT tp L a = 32
    · rw [(hz_skp_yes c).2]; exact hz_skp_ne tp L n (a + 1) (by omega)
    · rw [hz_skp_no c]; exact c
set_option maxRecDepth 100000 in
theorem hz_skp_skp (tp : Nat → Int32) (L a : Nat) : hz_skp tp L (hz_skp tp L a) = hz_skp tp L a := hz_skp_no (hz_skp_ne tp L _ a (Nat.le_refl _))
set_option maxRecDepth 100000 in
theorem hz_p_byteHere {tp : Nat → Int32} {L a : Nat} {v w : Int32} (hL : L ≤ 400) (ha : a ≤ L) : f_Reader_byteHere (tp, hz_nI L, hz_nI a, v, w) = some (hz_hereT tp L a) := by
  unfold f_Reader_byteHere hz_hereT
  by_cases c : a < L
  · simp (disch := omega) only [hz_nI_lit, hz_nI_add, hz_nI_mul, hz_nI_lt, hz_nI_le, hz_nI_inj, hz_nI_sub, hz_nI_nat, hz_nI_inb, hz_nI_pred, hz_nI_m1_lt, hz_nI_lt_m1, hz_nI_m1_le, hz_nI_le_m1, hz_nI_eq_m1, hz_nI_m1_eq, hz_bI0, if_pos, if_neg, if_true, if_false, Option.bind_some, Prod.eta, reduceCtorEq, c]
  · simp (disch := omega) only [hz_nI_lit, hz_nI_add, hz_nI_mul, hz_nI_lt, hz_nI_le, hz_nI_inj, hz_nI_sub, hz_nI_nat, hz_nI_inb, hz_nI_pred, hz_nI_m1_lt, hz_nI_lt_m1, hz_nI_m1_le, hz_nI_le_m1, hz_nI_eq_m1, hz_nI_m1_eq, hz_bI0, if_pos, if_neg, if_true, if_false, Option.bind_some, Prod.eta, reduceCtorEq, c]
set_option maxRecDepth 100000 in
theorem hz_p_peek_0 {tp : Nat → Int32} {L : Nat} {v w : Int32} (hL : L ≤ 400) : ∀ n a, a ≤ L → L - a < n → f_Reader_peek_0 n (tp, hz_nI L, hz_nI a, v, w) = some (hz_hereT tp L (hz_skp tp L a), (tp, hz_nI L, hz_nI (hz_skp tp L a), v, w))
  | 0, a, h, hn => absurd hn (Nat.not_lt_zero _)
  | n + 1, a, h, hn => by
    rw [f_Reader_peek_0]
    have e48 : f_Reader_peek_48 (tp, hz_nI L, hz_nI a, v, w) = some (hz_hereT tp L a, (tp, hz_nI L, hz_nI a, v, w)) := by
      unfold f_Reader_peek_48 hz_hereT
      by_cases c : a < L
      · simp (disch := omega) only [hz_nI_lit, hz_nI_add, hz_nI_mul, hz_nI_lt, hz_nI_le, hz_nI_inj, hz_nI_sub, hz_nI_nat, hz_nI_inb, hz_nI_pred, hz_nI_m1_lt, hz_nI_lt_m1, hz_nI_m1_le, hz_nI_le_m1, hz_nI_eq_m1, hz_nI_m1_eq, hz_bI0, if_pos, if_neg, if_true, if_false, Option.bind_some, Prod.eta, reduceCtorEq, c]
      · simp (disch := omega) only [hz_nI_lit, hz_nI_add, hz_nI_mul, hz_nI_lt, hz_nI_le, hz_nI_inj, hz_nI_sub, hz_nI_nat, hz_nI_inb, hz_nI_pred, hz_nI_m1_lt, hz_nI_lt_m1, hz_nI_m1_le, hz_nI_le_m1, hz_nI_eq_m1, hz_nI_m1_eq, hz_bI0, if_pos, if_neg, if_true, if_false, Option.bind_some, Prod.eta, reduceCtorEq, c]
    by_cases c : a < L
    · by_cases c2 : tp a = 32
      · have hh : hz_hereT tp L a = 32 := by unfold hz_hereT; rw [if_pos c]; exact c2
        have := hz_p_peek_0 (tp := tp) (v := v) (w := w) hL n (a + 1) (by omega) (by omega)
        rw [← (hz_skp_yes hh).2] at this
        rw [← this]
        have c2' : tp a = hz_nI 32 := c2
        simp (disch := omega) only [hz_nI_lit, hz_nI_add, hz_nI_mul, hz_nI_lt, hz_nI_le, hz_nI_inj, hz_nI_sub, hz_nI_nat, hz_nI_inb, hz_nI_pred, hz_nI_m1_lt, hz_nI_lt_m1, hz_nI_m1_le, hz_nI_le_m1, hz_nI_eq_m1, hz_nI_m1_eq, hz_bI0, if_pos, if_neg, if_true, if_false, Option.bind_some, Prod.eta, reduceCtorEq, c, c2']
      · have hh : hz_hereT tp L a ≠ 32 := by unfold hz_hereT; rw [if_pos c]; exact c2
        have c2' : ¬ tp a = hz_nI 32 := c2
        rw [hz_skp_no hh, ← e48]
        simp (disch := omega) only [hz_nI_lit, hz_nI_add, hz_nI_mul, hz_nI_lt, hz_nI_le, hz_nI_inj, hz_nI_sub, hz_nI_nat, hz_nI_inb, hz_nI_pred, hz_nI_m1_lt, hz_nI_lt_m1, hz_nI_m1_le, hz_nI_le_m1, hz_nI_eq_m1, hz_nI_m1_eq, hz_bI0, if_pos, if_neg, if_true, if_false, Option.bind_some, Prod.eta, reduceCtorEq, c, c2']
    · have hh : hz_hereT tp L a ≠ 32 := by unfold hz_hereT; rw [if_neg c]; decide
      rw [hz_skp_no hh, ← e48]
      simp (disch := omega) only [hz_nI_lit, hz_nI_add, hz_nI_mul, hz_nI_lt, hz_nI_le, hz_nI_inj, hz_nI_sub, hz_nI_nat, hz_nI_inb, hz_nI_pred, hz_nI_m1_lt, hz_nI_lt_m1, hz_nI_m1_le, hz_nI_le_m1, hz_nI_eq_m1, hz_nI_m1_eq, hz_bI0, if_pos, if_neg, if_true, if_false, Option.bind_some, Prod.eta, reduceCtorEq, c]
set_option maxRecDepth 100000 in
theorem hz_p_peek {tp : Nat → Int32} {L a : Nat} {v w : Int32} (hL : L ≤ 400) (ha : a ≤ L) : f_Reader_peek (tp, hz_nI L, hz_nI a, v, w) = some (hz_hereT tp L (hz_skp tp L a), (tp, hz_nI L, hz_nI (hz_skp tp L a), v, w)) := by
  unfold f_Reader_peek
  exact hz_p_peek_0 hL 4096 a ha (by omega)
set_option maxRecDepth 100000 in
theorem hz_hereT_lt {tp : Nat → Int32} {L a : Nat} {c : Int32} (h : hz_hereT tp L a = c) (hc : c ≠ -hz_nI 1) : a < L := by
  unfold hz_hereT at h
  by_cases c : a < L
  · exact c
  · rw [if_neg c] at h; exact absurd h.symm hc
abbrev hz_M3 : Type := Int32 × Bool × (Nat → Int32)
abbrev hz_MR : Type := (Int32 × Bool × (Nat → Int32)) × (Int32 × (Nat → Int32) × (Nat → Int32) × (Nat → Int32) × Int32) × (Int32 × Int32 × Bool) × (Int32 × (Nat → Int32) × (Nat → Int32) × (Nat → Int32) × Int32 × (Nat → Int32)) × ((Nat → Int32)) × (Int32 × (Nat → Int32) × (Nat → Int32))
set_option maxRecDepth 100000 in
theorem hz_q_here {g1 : Int32 × Int32} {tp : Nat → Int32} {L a : Nat} {w : Int32} {g3 : hz_M3} {r : hz_MR} (hL : L ≤ 400) (ha : a ≤ L) : f_Model_here (g1, (hz_nI L, tp, hz_nI a, w), g3, r) = some (hz_hereT tp L a) := by
  unfold f_Model_here hz_hereT
  by_cases c : a < L
  · simp (disch := omega) only [hz_nI_lit, hz_nI_add, hz_nI_mul, hz_nI_lt, hz_nI_le, hz_nI_inj, hz_nI_sub, hz_nI_nat, hz_nI_inb, hz_nI_pred, hz_nI_m1_lt, hz_nI_lt_m1, hz_nI_m1_le, hz_nI_le_m1, hz_nI_eq_m1, hz_nI_m1_eq, hz_bI0, if_pos, if_neg, if_true, if_false, Option.bind_some, Prod.eta, reduceCtorEq, c]
  · simp (disch := omega) only [hz_nI_lit, hz_nI_add, hz_nI_mul, hz_nI_lt, hz_nI_le, hz_nI_inj, hz_nI_sub, hz_nI_nat, hz_nI_inb, hz_nI_pred, hz_nI_m1_lt, hz_nI_lt_m1, hz_nI_m1_le, hz_nI_le_m1, hz_nI_eq_m1, hz_nI_m1_eq, hz_bI0, if_pos, if_neg, if_true, if_false, Option.bind_some, Prod.eta, reduceCtorEq, c]
set_option maxRecDepth 100000 in
theorem hz_q_see_0 {g1 : Int32 × Int32} {tp : Nat → Int32} {L : Nat} {w : Int32} {g3 : hz_M3} {r : hz_MR} (hL : L ≤ 400) : ∀ n a, a ≤ L → L - a < n → f_Model_see_0 n (g1, (hz_nI L, tp, hz_nI a, w), g3, r) = some (hz_hereT tp L (hz_skp tp L a), (g1, (hz_nI L, tp, hz_nI (hz_skp tp L a), w), g3, r))
  | 0, a, h, hn => absurd hn (Nat.not_lt_zero _)
  | n + 1, a, h, hn => by
    rw [f_Model_see_0, hz_q_here hL h]
    by_cases c : hz_hereT tp L a = hz_nI 32
    · have := hz_q_see_0 (g1 := g1) (tp := tp) (w := w) (g3 := g3) (r := r) hL n (a + 1) (by have := (hz_skp_yes c).1; omega) (by have := (hz_skp_yes c).1; omega)
      rw [← (hz_skp_yes c).2] at this
      rw [← this]
      simp (disch := omega) only [hz_nI_lit, hz_nI_add, hz_nI_mul, hz_nI_lt, hz_nI_le, hz_nI_inj, hz_nI_sub, hz_nI_nat, hz_nI_inb, hz_nI_pred, hz_nI_m1_lt, hz_nI_lt_m1, hz_nI_m1_le, hz_nI_le_m1, hz_nI_eq_m1, hz_nI_m1_eq, hz_bI0, if_pos, if_neg, if_true, if_false, Option.bind_some, Prod.eta, reduceCtorEq, c]
    · rw [hz_skp_no c]
      simp (disch := omega) only [hz_nI_lit, hz_nI_add, hz_nI_mul, hz_nI_lt, hz_nI_le, hz_nI_inj, hz_nI_sub, hz_nI_nat, hz_nI_inb, hz_nI_pred, hz_nI_m1_lt, hz_nI_lt_m1, hz_nI_m1_le, hz_nI_le_m1, hz_nI_eq_m1, hz_nI_m1_eq, hz_bI0, if_pos, if_neg, if_true, if_false, Option.bind_some, Prod.eta, reduceCtorEq, c]
set_option maxRecDepth 100000 in
theorem hz_q_see {g1 : Int32 × Int32} {tp : Nat → Int32} {L a : Nat} {w : Int32} {g3 : hz_M3} {r : hz_MR} (hL : L ≤ 400) (ha : a ≤ L) : f_Model_see (g1, (hz_nI L, tp, hz_nI a, w), g3, r) = some (hz_hereT tp L (hz_skp tp L a), (g1, (hz_nI L, tp, hz_nI (hz_skp tp L a), w), g3, r)) := by
  unfold f_Model_see
  exact hz_q_see_0 hL 4096 a ha (by omega)
set_option maxRecDepth 100000 in
theorem hz_q_fail {g1 : Int32 × Int32} {l a x : Int32} {tp : Nat → Int32} {g3 : hz_M3} {r : hz_MR} : f_Model_fail (g1, (l, tp, a, -hz_nI 1), g3, r) x = some (g1, (l, tp, a, x), g3, r) := by
  unfold f_Model_fail
  simp (disch := omega) only [hz_nI_lit, hz_nI_add, hz_nI_mul, hz_nI_lt, hz_nI_le, hz_nI_inj, hz_nI_sub, hz_nI_nat, hz_nI_inb, hz_nI_pred, hz_nI_m1_lt, hz_nI_lt_m1, hz_nI_m1_le, hz_nI_le_m1, hz_nI_eq_m1, hz_nI_m1_eq, hz_bI0, if_pos, if_neg, if_true, if_false, Option.bind_some, Prod.eta, reduceCtorEq]
set_option maxRecDepth 100000 in
theorem hz_q_failW {g1 : Int32 × Int32} {l a x : Int32} {p : Nat} (hp : p ≤ 400) {tp : Nat → Int32} {g3 : hz_M3} {r : hz_MR} : f_Model_fail (g1, (l, tp, a, hz_nI p), g3, r) x = some (g1, (l, tp, a, hz_nI p), g3, r) := by
  unfold f_Model_fail
  simp (disch := omega) only [hz_nI_lit, hz_nI_add, hz_nI_mul, hz_nI_lt, hz_nI_le, hz_nI_inj, hz_nI_sub, hz_nI_nat, hz_nI_inb, hz_nI_pred, hz_nI_m1_lt, hz_nI_lt_m1, hz_nI_m1_le, hz_nI_le_m1, hz_nI_eq_m1, hz_nI_m1_eq, hz_bI0, if_pos, if_neg, if_true, if_false, Option.bind_some, Prod.eta, reduceCtorEq]
set_option maxRecDepth 100000 in
theorem hz_p_take {tp : Nat → Int32} {L a : Nat} {v w c : Int32} (hL : L ≤ 400) (ha : a ≤ L) : f_Reader_take (tp, hz_nI L, hz_nI a, v, w) c = if hz_hereT tp L (hz_skp tp L a) = c then some (true, (tp, hz_nI L, hz_nI (hz_skp tp L a + 1), v, w)) else some (false, (tp, hz_nI L, hz_nI (hz_skp tp L a), v, hz_nI (hz_skp tp L a))) := by
  unfold f_Reader_take f_Reader_wrong
  rw [hz_p_peek hL ha]
  simp (disch := omega) only [hz_nI_lit, hz_nI_add, hz_nI_mul, hz_nI_lt, hz_nI_le, hz_nI_inj, hz_nI_sub, hz_nI_nat, hz_nI_inb, hz_nI_pred, hz_nI_m1_lt, hz_nI_lt_m1, hz_nI_m1_le, hz_nI_le_m1, hz_nI_eq_m1, hz_nI_m1_eq, hz_bI0, if_pos, if_neg, if_true, if_false, Option.bind_some, Prod.eta, reduceCtorEq]
set_option maxRecDepth 100000 in
theorem hz_q_take {g1 : Int32 × Int32} {tp : Nat → Int32} {L a : Nat} {c : Int32} {g3 : hz_M3} {r : hz_MR} (hL : L ≤ 400) (ha : a ≤ L) : f_Model_take (g1, (hz_nI L, tp, hz_nI a, -hz_nI 1), g3, r) c = if hz_hereT tp L (hz_skp tp L a) = c then some (g1, (hz_nI L, tp, hz_nI (hz_skp tp L a + 1), -hz_nI 1), g3, r) else some (g1, (hz_nI L, tp, hz_nI (hz_skp tp L a), hz_nI (hz_skp tp L a)), g3, r) := by
  unfold f_Model_take
  rw [hz_q_see hL ha]
  simp (disch := omega) only [hz_nI_lit, hz_nI_add, hz_nI_mul, hz_nI_lt, hz_nI_le, hz_nI_inj, hz_nI_sub, hz_nI_nat, hz_nI_inb, hz_nI_pred, hz_nI_m1_lt, hz_nI_lt_m1, hz_nI_m1_le, hz_nI_le_m1, hz_nI_eq_m1, hz_nI_m1_eq, hz_bI0, if_pos, if_neg, if_true, if_false, Option.bind_some, Prod.eta, reduceCtorEq, hz_q_fail]
set_option maxRecDepth 100000 in
theorem hz_q_takeW {g1 : Int32 × Int32} {l a c : Int32} {p : Nat} (hp : p ≤ 400) {tp : Nat → Int32} {g3 : hz_M3} {r : hz_MR} : f_Model_take (g1, (l, tp, a, hz_nI p), g3, r) c = some (g1, (l, tp, a, hz_nI p), g3, r) := by
  unfold f_Model_take
  simp (disch := omega) only [hz_nI_lit, hz_nI_add, hz_nI_mul, hz_nI_lt, hz_nI_le, hz_nI_inj, hz_nI_sub, hz_nI_nat, hz_nI_inb, hz_nI_pred, hz_nI_m1_lt, hz_nI_lt_m1, hz_nI_m1_le, hz_nI_le_m1, hz_nI_eq_m1, hz_nI_m1_eq, hz_bI0, if_pos, if_neg, if_true, if_false, Option.bind_some, Prod.eta, reduceCtorEq]
set_option maxRecDepth 100000 in
def hz_dg (x : Int32) : Bool := decide (hz_nI 48 ≤ x ∧ x ≤ hz_nI 57)
set_option maxRecDepth 100000 in
def hz_inR (x a b : Int32) : Bool := decide (a ≤ x ∧ x ≤ b)
set_option maxRecDepth 100000 in
theorem hz_p_isDigit (x : Int32) : f_HT_isDigit x = some (hz_dg x) := by
  unfold f_HT_isDigit hz_dg
  simp only [Int32.lt_iff_toInt_lt, Int32.le_iff_toInt_le, hz_nI_lit]
  split
  · simp only [Option.some.injEq, Bool.false_eq, decide_eq_false_iff_not]; omega
  · split
    · simp only [Option.some.injEq, Bool.false_eq, decide_eq_false_iff_not]; omega
    · simp only [Option.some.injEq, Bool.true_eq, decide_eq_true_eq]; omega
set_option maxRecDepth 100000 in
theorem hz_q_within (x a b : Int32) : f_Model_within x a b = some (hz_inR x a b) := by
  unfold f_Model_within hz_inR
  simp only [Int32.lt_iff_toInt_lt, Int32.le_iff_toInt_le]
  split
  · simp only [Option.some.injEq, Bool.false_eq, decide_eq_false_iff_not]; omega
  · split
    · simp only [Option.some.injEq, Bool.false_eq, decide_eq_false_iff_not]; omega
    · simp only [Option.some.injEq, Bool.true_eq, decide_eq_true_eq]; omega
set_option maxRecDepth 100000 in
theorem hz_q_isDigit {g1 : Int32 × Int32} {tp : Nat → Int32} {L a : Nat} {w : Int32} {g3 : hz_M3} {r : hz_MR} (hL : L ≤ 400) (ha : a ≤ L) : f_Model_isDigit (g1, (hz_nI L, tp, hz_nI a, w), g3, r) = some (hz_dg (hz_hereT tp L a)) := by
  unfold f_Model_isDigit
  rw [hz_q_here hL ha, Option.bind_some, hz_q_within, Option.bind_some]
  rfl
set_option maxRecDepth 100000 in
def hz_dv (x : Int32) : Nat := x.toNatClampNeg - 48
set_option maxRecDepth 100000 in
theorem hz_dg_eq {x : Int32} (h : hz_dg x = true) : x = hz_nI (48 + hz_dv x) ∧ hz_dv x ≤ 9 := by
  unfold hz_dg at h
  simp only [decide_eq_true_eq, Int32.le_iff_toInt_le, hz_nI_toInt (show 48 < 2147483648 by omega), hz_nI_toInt (show 57 < 2147483648 by omega)] at h
  obtain ⟨n, h1, h2, h3⟩ := hz_nI_of (x := x) (by omega)
  unfold hz_dv
  rw [h2, hz_nI_nat h1]
  refine ⟨?_, by omega⟩
  rw [show 48 + (n - 48) = n by omega]
set_option maxRecDepth 100000 in
theorem hz_dg_ne {x : Int32} (h : hz_dg x = true) : x ≠ -hz_nI 1 ∧ x ≠ hz_nI 32 ∧ x ≠ hz_nI 34 ∧ x ≠ hz_nI 44 ∧ x ≠ hz_nI 59 ∧ x ≠ hz_nI 103 ∧ x ≠ hz_nI 120 ∧ x ≠ hz_nI 114 ∧ x ≠ hz_nI 64 := by
  obtain ⟨h1, h2⟩ := hz_dg_eq h
  generalize hz_dv x = d at *
  subst h1
  simp (disch := omega) only [hz_nI_lit, hz_nI_add, hz_nI_mul, hz_nI_lt, hz_nI_le, hz_nI_inj, hz_nI_sub, hz_nI_nat, hz_nI_inb, hz_nI_pred, hz_nI_m1_lt, hz_nI_lt_m1, hz_nI_m1_le, hz_nI_le_m1, hz_nI_eq_m1, hz_nI_m1_eq, hz_bI0, if_pos, if_neg, if_true, if_false, Option.bind_some, Prod.eta, reduceCtorEq, ne_eq, not_false_eq_true, true_and, and_true]
  omega
set_option maxRecDepth 100000 in
def hz_numT (tp : Nat → Int32) (L : Nat) : Nat → Nat → Nat → Nat × Nat
  | 0, v, a => (v, a)
  | n + 1, v, a => if hz_dg (hz_hereT tp L a) = true then hz_numT tp L n (v * 10 + hz_dv (hz_hereT tp L a)) (a + 1) else (v, a)
