set_option maxRecDepth 100000 in
def hz_nI (n : Nat) : Int32 := Int32.ofNat n
set_option maxRecDepth 100000 in
theorem hz_nI_lit (n : Nat) : @OfNat.ofNat Int32 n Int32.instOfNat = hz_nI (@OfNat.ofNat Nat n (instOfNatNat n)) := rfl
set_option maxRecDepth 100000 in
theorem hz_nI_toInt {n : Nat} (h : n < 2147483648) : (hz_nI n).toInt = n := by
  unfold hz_nI; rw [Int32.toInt_ofNat_of_lt h]
set_option maxRecDepth 100000 in
theorem hz_nI_lt {a b : Nat} (ha : a < 2147483648) (hb : b < 2147483648) : (hz_nI a < hz_nI b) = (a < b) := by
  rw [Int32.lt_iff_toInt_lt, hz_nI_toInt ha, hz_nI_toInt hb]; simp only [eq_iff_iff]; omega
set_option maxRecDepth 100000 in
theorem hz_nI_le {a b : Nat} (ha : a < 2147483648) (hb : b < 2147483648) : (hz_nI a ≤ hz_nI b) = (a ≤ b) := by
  rw [Int32.le_iff_toInt_le, hz_nI_toInt ha, hz_nI_toInt hb]; simp only [eq_iff_iff]; omega
set_option maxRecDepth 100000 in
theorem hz_nI_inj {a b : Nat} (ha : a < 2147483648) (hb : b < 2147483648) : (hz_nI a = hz_nI b) = (a = b) := by
  rw [← Int32.toInt_inj, hz_nI_toInt ha, hz_nI_toInt hb]; simp only [eq_iff_iff]; omega
set_option maxRecDepth 100000 in
theorem hz_nI_add (a b : Nat) : hz_nI a + hz_nI b = hz_nI (a + b) := (Int32.ofNat_add a b).symm
set_option maxRecDepth 100000 in
theorem hz_nI_mul (a b : Nat) : hz_nI a * hz_nI b = hz_nI (a * b) := (Int32.ofNat_mul a b).symm
set_option maxRecDepth 100000 in
theorem hz_nI_sub {a b : Nat} (h : b ≤ a) : hz_nI a - hz_nI b = hz_nI (a - b) := by
  unfold hz_nI; rw [← Int32.ofNat_sub _ _ h]
set_option maxRecDepth 100000 in
theorem hz_nI_nat {a : Nat} (h : a < 2147483648) : (hz_nI a).toNatClampNeg = a := by
  unfold Int32.toNatClampNeg; rw [hz_nI_toInt h]; omega
set_option maxRecDepth 100000 in
theorem hz_nI_pred {a : Nat} (h : 1 ≤ a) : hz_nI a + -hz_nI 1 = hz_nI (a - 1) := by
  have : hz_nI a + -hz_nI 1 = hz_nI a - hz_nI 1 := (Int32.sub_eq_add_neg ..).symm
  rw [this, hz_nI_sub h]
set_option maxRecDepth 100000 in
theorem hz_nI_inb {a n : Nat} (h : a < 2147483648) : inb (hz_nI a) n = (a < n) := by
  unfold inb; rw [hz_nI_lit, hz_nI_lt h (by omega), hz_nI_nat h]; simp only [eq_iff_iff]; omega
set_option maxRecDepth 100000 in
theorem hz_nI_m1 : (-hz_nI 1).toInt = -1 := by decide
set_option maxRecDepth 100000 in
theorem hz_nI_m1_lt {a : Nat} (h : a < 2147483648) : (-hz_nI 1 < hz_nI a) = True := by
  rw [Int32.lt_iff_toInt_lt, hz_nI_m1, hz_nI_toInt h]; simp only [eq_iff_iff, iff_true]; omega
set_option maxRecDepth 100000 in
theorem hz_nI_lt_m1 {a : Nat} (h : a < 2147483648) : (hz_nI a < -hz_nI 1) = False := by
  rw [Int32.lt_iff_toInt_lt, hz_nI_m1, hz_nI_toInt h]; simp only [eq_iff_iff, iff_false]; omega
set_option maxRecDepth 100000 in
theorem hz_nI_m1_le {a : Nat} (h : a < 2147483648) : (-hz_nI 1 ≤ hz_nI a) = True := by
  rw [Int32.le_iff_toInt_le, hz_nI_m1, hz_nI_toInt h]; simp only [eq_iff_iff, iff_true]; omega
set_option maxRecDepth 100000 in
theorem hz_nI_le_m1 {a : Nat} (h : a < 2147483648) : (hz_nI a ≤ -hz_nI 1) = False := by
  rw [Int32.le_iff_toInt_le, hz_nI_m1, hz_nI_toInt h]; simp only [eq_iff_iff, iff_false]; omega
set_option maxRecDepth 100000 in
theorem hz_nI_eq_m1 {a : Nat} (h : a < 2147483648) : (hz_nI a = -hz_nI 1) = False := by
  rw [← Int32.toInt_inj, hz_nI_m1, hz_nI_toInt h]; simp only [eq_iff_iff, iff_false]; omega
set_option maxRecDepth 100000 in
theorem hz_nI_m1_eq {a : Nat} (h : a < 2147483648) : (-hz_nI 1 = hz_nI a) = False := by
  rw [← Int32.toInt_inj, hz_nI_m1, hz_nI_toInt h]; simp only [eq_iff_iff, iff_false]; omega
set_option maxRecDepth 100000 in
theorem hz_bI0 (b : Bool) : (bI b = hz_nI 0) = (b = false) := by cases b <;> decide
set_option maxRecDepth 100000 in
theorem hz_nI_of {x : Int32} (h : 0 ≤ x.toInt) : ∃ n : Nat, n < 2147483648 ∧ x = hz_nI n ∧ x.toInt = n := by
  refine ⟨x.toInt.toNat, ?_, ?_, ?_⟩
  · have := x.toInt_lt; omega
  · rw [← Int32.toInt_inj, hz_nI_toInt (by have := x.toInt_lt; omega)]; omega
  · omega
set_option maxRecDepth 100000 in
theorem hz_nar_by (x : Int32) : vp_nar .byte x = x.toInt8.toInt32 := vp_nar_byte x
set_option maxRecDepth 100000 in
theorem hz_nar_b (b : Bool) : vp_nar .boolean (bI b) = bI b := by unfold vp_nar; rw [nar_bI]
set_option maxRecDepth 100000 in
def hz_hereT (tp : Nat → Int32) (L a : Nat) : Int32 := if a < L then tp a else -1
set_option maxRecDepth 100000 in
def hz_skipT (tp : Nat → Int32) (L : Nat) : Nat → Nat → Nat
  | 0, a => a
  | n + 1, a => if a < L then (if tp a = 32 then hz_skipT tp L n (a + 1) else a) else a
set_option maxRecDepth 100000 in
def hz_skp (tp : Nat → Int32) (L a : Nat) : Nat := hz_skipT tp L (L - a) a
set_option maxRecDepth 100000 in
theorem hz_skipT_bd (tp : Nat → Int32) (L : Nat) : ∀ n a, a ≤ L → a ≤ hz_skipT tp L n a ∧ hz_skipT tp L n a ≤ L
  | 0, a, h => ⟨Nat.le_refl _, h⟩
  | n + 1, a, h => by
    unfold hz_skipT
    split
    · split
      · have := hz_skipT_bd tp L n (a + 1) (by omega); omega
      · omega
    · omega
set_option maxRecDepth 100000 in
theorem hz_skp_bd {tp : Nat → Int32} {L a : Nat} (h : a ≤ L) : a ≤ hz_skp tp L a ∧ hz_skp tp L a ≤ L := hz_skipT_bd tp L _ a h
set_option maxRecDepth 100000 in
theorem hz_skp_no {tp : Nat → Int32} {L a : Nat} (h : hz_hereT tp L a ≠ 32) : hz_skp tp L a = a := by
  unfold hz_skp
  cases hn : L - a with
  | zero => rfl
  | succ n =>
    unfold hz_skipT hz_hereT at *
    have : a < L := by omega
    simp only [this, if_true] at *
    rw [if_neg h]
set_option maxRecDepth 100000 in
theorem hz_skp_yes {tp : Nat → Int32} {L a : Nat} (h : hz_hereT tp L a = 32) : a < L ∧ hz_skp tp L a = hz_skp tp L (a + 1) := by
  have h1 : a < L := by
    unfold hz_hereT at h
    by_cases c : a < L
    · exact c
    · rw [if_neg c] at h; exact absurd h (by decide)
  refine ⟨h1, ?_⟩
  unfold hz_skp
  rw [show L - a = (L - (a + 1)) + 1 by omega]
  rw [hz_skipT, if_pos h1]
  unfold hz_hereT at h
  rw [if_pos h1] at h
  rw [if_pos h]
set_option maxRecDepth 100000 in
theorem hz_skp_ne (tp : Nat → Int32) (L : Nat) : ∀ n a, L - a ≤ n → hz_hereT tp L (hz_skp tp L a) ≠ 32
  | 0, a, h => by
    have : ¬ a < L := by omega
    have h0 : hz_hereT tp L a = -1 := by unfold hz_hereT; rw [if_neg this]
    rw [hz_skp_no (by rw [h0]; decide), h0]; decide
  | n + 1, a, h => by
    by_cases c : hz_hereT tp L a = 32
    · rw [(hz_skp_yes c).2]; exact hz_skp_ne tp L n (a + 1) (by omega)
    · rw [hz_skp_no c]; exact c
set_option maxRecDepth 100000 in
theorem hz_skp_skp (tp : Nat → Int32) (L a : Nat) : hz_skp tp L (hz_skp tp L a) = hz_skp tp L a := hz_skp_no (hz_skp_ne tp L _ a (Nat.le_refl _))
set_option maxRecDepth 100000 in
theorem hz_p_byteHere {tp : Nat → Int32} {L a : Nat} {v w : Int32} (hL : L ≤ 400) (ha : a ≤ L) : f_Reader_byteHere (tp, hz_nI L, hz_nI a, v, w) = some (hz_hereT tp L a) := by
  unfold f_Reader_byteHere hz_hereT
  by_cases c : a < L
  · simp (disch := omega) only [hz_nI_lit, hz_nI_add, hz_nI_mul, hz_nI_lt, hz_nI_le, hz_nI_inj, hz_nI_sub, hz_nI_nat, hz_nI_inb, hz_nI_pred, hz_nI_m1_lt, hz_nI_lt_m1, hz_nI_m1_le, hz_nI_le_m1, hz_nI_eq_m1, hz_nI_m1_eq, hz_bI0, if_pos, if_neg, if_true, if_false, Option.bind_some, Prod.eta, reduceCtorEq, c]
  · simp (disch := omega) only [hz_nI_lit, hz_nI_add, hz_nI_mul, hz_nI_lt, hz_nI_le, hz_nI_inj, hz_nI_sub, hz_nI_nat, hz_nI_inb, hz_nI_pred, hz_nI_m1_lt, hz_nI_lt_m1, hz_nI_m1_le, hz_nI_le_m1, hz_nI_eq_m1, hz_nI_m1_eq, hz_bI0, if_pos, if_neg, if_true, if_false, Option.bind_some, Prod.eta, reduceCtorEq, c]
set_option maxRecDepth 100000 in
theorem hz_p_peek_0 {tp : Nat → Int32} {L : Nat} {v w : Int32} (hL : L ≤ 400) : ∀ n a, a ≤ L → L - a < n → f_Reader_peek_0 n (tp, hz_nI L, hz_nI a, v, w) = some (hz_hereT tp L (hz_skp tp L a), (tp, hz_nI L, hz_nI (hz_skp tp L a), v, w))
  | 0, a, h, hn => absurd hn (Nat.not_lt_zero _)
  | n + 1, a, h, hn => by
    rw [f_Reader_peek_0]
    have e48 : f_Reader_peek_48 (tp, hz_nI L, hz_nI a, v, w) = some (hz_hereT tp L a, (tp, hz_nI L, hz_nI a, v, w)) := by
      unfold f_Reader_peek_48 hz_hereT
      by_cases c : a < L
      · simp (disch := omega) only [hz_nI_lit, hz_nI_add, hz_nI_mul, hz_nI_lt, hz_nI_le, hz_nI_inj, hz_nI_sub, hz_nI_nat, hz_nI_inb, hz_nI_pred, hz_nI_m1_lt, hz_nI_lt_m1, hz_nI_m1_le, hz_nI_le_m1, hz_nI_eq_m1, hz_nI_m1_eq, hz_bI0, if_pos, if_neg, if_true, if_false, Option.bind_some, Prod.eta, reduceCtorEq, c]
      · simp (disch := omega) only [hz_nI_lit, hz_nI_add, hz_nI_mul, hz_nI_lt, hz_nI_le, hz_nI_inj, hz_nI_sub, hz_nI_nat, hz_nI_inb, hz_nI_pred, hz_nI_m1_lt, hz_nI_lt_m1, hz_nI_m1_le, hz_nI_le_m1, hz_nI_eq_m1, hz_nI_m1_eq, hz_bI0, if_pos, if_neg, if_true, if_false, Option.bind_some, Prod.eta, reduceCtorEq, c]
    by_cases c : a < L
    · by_cases c2 : tp a = 32
      · have hh : hz_hereT tp L a = 32 := by unfold hz_hereT; rw [if_pos c]; exact c2
        have := hz_p_peek_0 (tp := tp) (v := v) (w := w) hL n (a + 1) (by omega) (by omega)
        rw [← (hz_skp_yes hh).2] at this
        rw [← this]
        have c2' : tp a = hz_nI 32 := c2
        simp (disch := omega) only [hz_nI_lit, hz_nI_add, hz_nI_mul, hz_nI_lt, hz_nI_le, hz_nI_inj, hz_nI_sub, hz_nI_nat, hz_nI_inb, hz_nI_pred, hz_nI_m1_lt, hz_nI_lt_m1, hz_nI_m1_le, hz_nI_le_m1, hz_nI_eq_m1, hz_nI_m1_eq, hz_bI0, if_pos, if_neg, if_true, if_false, Option.bind_some, Prod.eta, reduceCtorEq, c, c2']
      · have hh : hz_hereT tp L a ≠ 32 := by unfold hz_hereT; rw [if_pos c]; exact c2
        have c2' : ¬ tp a = hz_nI 32 := c2
        rw [hz_skp_no hh, ← e48]
        simp (disch := omega) only [hz_nI_lit, hz_nI_add, hz_nI_mul, hz_nI_lt, hz_nI_le, hz_nI_inj, hz_nI_sub, hz_nI_nat, hz_nI_inb, hz_nI_pred, hz_nI_m1_lt, hz_nI_lt_m1, hz_nI_m1_le, hz_nI_le_m1, hz_nI_eq_m1, hz_nI_m1_eq, hz_bI0, if_pos, if_neg, if_true, if_false, Option.bind_some, Prod.eta, reduceCtorEq, c, c2']
    · have hh : hz_hereT tp L a ≠ 32 := by unfold hz_hereT; rw [if_neg c]; decide
      rw [hz_skp_no hh, ← e48]
      simp (disch := omega) only [hz_nI_lit, hz_nI_add, hz_nI_mul, hz_nI_lt, hz_nI_le, hz_nI_inj, hz_nI_sub, hz_nI_nat, hz_nI_inb, hz_nI_pred, hz_nI_m1_lt, hz_nI_lt_m1, hz_nI_m1_le, hz_nI_le_m1, hz_nI_eq_m1, hz_nI_m1_eq, hz_bI0, if_pos, if_neg, if_true, if_false, Option.bind_some, Prod.eta, reduceCtorEq, c]
set_option maxRecDepth 100000 in
theorem hz_p_peek {tp : Nat → Int32} {L a : Nat} {v w : Int32} (hL : L ≤ 400) (ha : a ≤ L) : f_Reader_peek (tp, hz_nI L, hz_nI a, v, w) = some (hz_hereT tp L (hz_skp tp L a), (tp, hz_nI L, hz_nI (hz_skp tp L a), v, w)) := by
  unfold f_Reader_peek
  exact hz_p_peek_0 hL 4096 a ha (by omega)
set_option maxRecDepth 100000 in
theorem hz_hereT_lt {tp : Nat → Int32} {L a : Nat} {c : Int32} (h : hz_hereT tp L a = c) (hc : c ≠ -hz_nI 1) : a < L := by
  unfold hz_hereT at h
  by_cases c : a < L
  · exact c
  · rw [if_neg c] at h; exact absurd h.symm hc
abbrev hz_M3 : Type := Int32 × Bool × (Nat → Int32)
abbrev hz_MR : Type := (Int32 × Bool × (Nat → Int32)) × (Int32 × (Nat → Int32) × (Nat → Int32) × (Nat → Int32) × Int32) × (Int32 × Int32 × Bool) × (Int32 × (Nat → Int32) × (Nat → Int32) × (Nat → Int32) × Int32 × (Nat → Int32)) × ((Nat → Int32)) × (Int32 × (Nat → Int32) × (Nat → Int32))
set_option maxRecDepth 100000 in
theorem hz_q_here {g1 : Int32 × Int32} {tp : Nat → Int32} {L a : Nat} {w : Int32} {g3 : hz_M3} {r : hz_MR} (hL : L ≤ 400) (ha : a ≤ L) : f_Model_here (g1, (hz_nI L, tp, hz_nI a, w), g3, r) = some (hz_hereT tp L a) := by
  unfold f_Model_here hz_hereT
  by_cases c : a < L
  · simp (disch := omega) only [hz_nI_lit, hz_nI_add, hz_nI_mul, hz_nI_lt, hz_nI_le, hz_nI_inj, hz_nI_sub, hz_nI_nat, hz_nI_inb, hz_nI_pred, hz_nI_m1_lt, hz_nI_lt_m1, hz_nI_m1_le, hz_nI_le_m1, hz_nI_eq_m1, hz_nI_m1_eq, hz_bI0, if_pos, if_neg, if_true, if_false, Option.bind_some, Prod.eta, reduceCtorEq, c]
  · simp (disch := omega) only [hz_nI_lit, hz_nI_add, hz_nI_mul, hz_nI_lt, hz_nI_le, hz_nI_inj, hz_nI_sub, hz_nI_nat, hz_nI_inb, hz_nI_pred, hz_nI_m1_lt, hz_nI_lt_m1, hz_nI_m1_le, hz_nI_le_m1, hz_nI_eq_m1, hz_nI_m1_eq, hz_bI0, if_pos, if_neg, if_true, if_false, Option.bind_some, Prod.eta, reduceCtorEq, c]
set_option maxRecDepth 100000 in
theorem hz_q_see_0 {g1 : Int32 × Int32} {tp : Nat → Int32} {L : Nat} {w : Int32} {g3 : hz_M3} {r : hz_MR} (hL : L ≤ 400) : ∀ n a, a ≤ L → L - a < n → f_Model_see_0 n (g1, (hz_nI L, tp, hz_nI a, w), g3, r) = some (hz_hereT tp L (hz_skp tp L a), (g1, (hz_nI L, tp, hz_nI (hz_skp tp L a), w), g3, r))
  | 0, a, h, hn => absurd hn (Nat.not_lt_zero _)
  | n + 1, a, h, hn => by
    rw [f_Model_see_0, hz_q_here hL h]
    by_cases c : hz_hereT tp L a = hz_nI 32
    · have := hz_q_see_0 (g1 := g1) (tp := tp) (w := w) (g3 := g3) (r := r) hL n (a + 1) (by have := (hz_skp_yes c).1; omega) (by have := (hz_skp_yes c).1; omega)
      rw [← (hz_skp_yes c).2] at this
      rw [← this]
      simp (disch := omega) only [hz_nI_lit, hz_nI_add, hz_nI_mul, hz_nI_lt, hz_nI_le, hz_nI_inj, hz_nI_sub, hz_nI_nat, hz_nI_inb, hz_nI_pred, hz_nI_m1_lt, hz_nI_lt_m1, hz_nI_m1_le, hz_nI_le_m1, hz_nI_eq_m1, hz_nI_m1_eq, hz_bI0, if_pos, if_neg, if_true, if_false, Option.bind_some, Prod.eta, reduceCtorEq, c]
    · rw [hz_skp_no c]
      simp (disch := omega) only [hz_nI_lit, hz_nI_add, hz_nI_mul, hz_nI_lt, hz_nI_le, hz_nI_inj, hz_nI_sub, hz_nI_nat, hz_nI_inb, hz_nI_pred, hz_nI_m1_lt, hz_nI_lt_m1, hz_nI_m1_le, hz_nI_le_m1, hz_nI_eq_m1, hz_nI_m1_eq, hz_bI0, if_pos, if_neg, if_true, if_false, Option.bind_some, Prod.eta, reduceCtorEq, c]
set_option maxRecDepth 100000 in
theorem hz_q_see {g1 : Int32 × Int32} {tp : Nat → Int32} {L a : Nat} {w : Int32} {g3 : hz_M3} {r : hz_MR} (hL : L ≤ 400) (ha : a ≤ L) : f_Model_see (g1, (hz_nI L, tp, hz_nI a, w), g3, r) = some (hz_hereT tp L (hz_skp tp L a), (g1, (hz_nI L, tp, hz_nI (hz_skp tp L a), w), g3, r)) := by
  unfold f_Model_see
  exact hz_q_see_0 hL 4096 a ha (by omega)
set_option maxRecDepth 100000 in
theorem hz_q_fail {g1 : Int32 × Int32} {l a x : Int32} {tp : Nat → Int32} {g3 : hz_M3} {r : hz_MR} : f_Model_fail (g1, (l, tp, a, -hz_nI 1), g3, r) x = some (g1, (l, tp, a, x), g3, r) := by
  unfold f_Model_fail
  simp (disch := omega) only [hz_nI_lit, hz_nI_add, hz_nI_mul, hz_nI_lt, hz_nI_le, hz_nI_inj, hz_nI_sub, hz_nI_nat, hz_nI_inb, hz_nI_pred, hz_nI_m1_lt, hz_nI_lt_m1, hz_nI_m1_le, hz_nI_le_m1, hz_nI_eq_m1, hz_nI_m1_eq, hz_bI0, if_pos, if_neg, if_true, if_false, Option.bind_some, Prod.eta, reduceCtorEq]
set_option maxRecDepth 100000 in
theorem hz_q_failW {g1 : Int32 × Int32} {l a x : Int32} {p : Nat} (hp : p ≤ 400) {tp : Nat → Int32} {g3 : hz_M3} {r : hz_MR} : f_Model_fail (g1, (l, tp, a, hz_nI p), g3, r) x = some (g1, (l, tp, a, hz_nI p), g3, r) := by
  unfold f_Model_fail
  simp (disch := omega) only [hz_nI_lit, hz_nI_add, hz_nI_mul, hz_nI_lt, hz_nI_le, hz_nI_inj, hz_nI_sub, hz_nI_nat, hz_nI_inb, hz_nI_pred, hz_nI_m1_lt, hz_nI_lt_m1, hz_nI_m1_le, hz_nI_le_m1, hz_nI_eq_m1, hz_nI_m1_eq, hz_bI0, if_pos, if_neg, if_true, if_false, Option.bind_some, Prod.eta, reduceCtorEq]
set_option maxRecDepth 100000 in
theorem hz_p_take {tp : Nat → Int32} {L a : Nat} {v w c : Int32} (hL : L ≤ 400) (ha : a ≤ L) : f_Reader_take (tp, hz_nI L, hz_nI a, v, w) c = if hz_hereT tp L (hz_skp tp L a) = c then some (true, (tp, hz_nI L, hz_nI (hz_skp tp L a + 1), v, w)) else some (false, (tp, hz_nI L, hz_nI (hz_skp tp L a), v, hz_nI (hz_skp tp L a))) := by
  unfold f_Reader_take f_Reader_wrong
  rw [hz_p_peek hL ha]
  simp (disch := omega) only [hz_nI_lit, hz_nI_add, hz_nI_mul, hz_nI_lt, hz_nI_le, hz_nI_inj, hz_nI_sub, hz_nI_nat, hz_nI_inb, hz_nI_pred, hz_nI_m1_lt, hz_nI_lt_m1, hz_nI_m1_le, hz_nI_le_m1, hz_nI_eq_m1, hz_nI_m1_eq, hz_bI0, if_pos, if_neg, if_true, if_false, Option.bind_some, Prod.eta, reduceCtorEq]
set_option maxRecDepth 100000 in
theorem hz_q_take {g1 : Int32 × Int32} {tp : Nat → Int32} {L a : Nat} {c : Int32} {g3 : hz_M3} {r : hz_MR} (hL : L ≤ 400) (ha : a ≤ L) : f_Model_take (g1, (hz_nI L, tp, hz_nI a, -hz_nI 1), g3, r) c = if hz_hereT tp L (hz_skp tp L a) = c then some (g1, (hz_nI L, tp, hz_nI (hz_skp tp L a + 1), -hz_nI 1), g3, r) else some (g1, (hz_nI L, tp, hz_nI (hz_skp tp L a), hz_nI (hz_skp tp L a)), g3, r) := by
  unfold f_Model_take
  rw [hz_q_see hL ha]
  simp (disch := omega) only [hz_nI_lit, hz_nI_add, hz_nI_mul, hz_nI_lt, hz_nI_le, hz_nI_inj, hz_nI_sub, hz_nI_nat, hz_nI_inb, hz_nI_pred, hz_nI_m1_lt, hz_nI_lt_m1, hz_nI_m1_le, hz_nI_le_m1, hz_nI_eq_m1, hz_nI_m1_eq, hz_bI0, if_pos, if_neg, if_true, if_false, Option.bind_some, Prod.eta, reduceCtorEq, hz_q_fail]
set_option maxRecDepth 100000 in
theorem hz_q_takeW {g1 : Int32 × Int32} {l a c : Int32} {p : Nat} (hp : p ≤ 400) {tp : Nat → Int32} {g3 : hz_M3} {r : hz_MR} : f_Model_take (g1, (l, tp, a, hz_nI p), g3, r) c = some (g1, (l, tp, a, hz_nI p), g3, r) := by
  unfold f_Model_take
  simp (disch := omega) only [hz_nI_lit, hz_nI_add, hz_nI_mul, hz_nI_lt, hz_nI_le, hz_nI_inj, hz_nI_sub, hz_nI_nat, hz_nI_inb, hz_nI_pred, hz_nI_m1_lt, hz_nI_lt_m1, hz_nI_m1_le, hz_nI_le_m1, hz_nI_eq_m1, hz_nI_m1_eq, hz_bI0, if_pos, if_neg, if_true, if_false, Option.bind_some, Prod.eta, reduceCtorEq]
set_option maxRecDepth 100000 in
def hz_dg (x : Int32) : Bool := decide (hz_nI 48 ≤ x ∧ x ≤ hz_nI 57)
set_option maxRecDepth 100000 in
def hz_inR (x a b : Int32) : Bool := decide (a ≤ x ∧ x ≤ b)
set_option maxRecDepth 100000 in
theorem hz_p_isDigit (x : Int32) : f_HT_isDigit x = some (hz_dg x) := by
  unfold f_HT_isDigit hz_dg
  simp only [Int32.lt_iff_toInt_lt, Int32.le_iff_toInt_le, hz_nI_lit]
  split
  · simp only [Option.some.injEq, Bool.false_eq, decide_eq_false_iff_not]; omega
  · split
    · simp only [Option.some.injEq, Bool.false_eq, decide_eq_false_iff_not]; omega
    · simp only [Option.some.injEq, Bool.true_eq, decide_eq_true_eq]; omega
set_option maxRecDepth 100000 in
theorem hz_q_within (x a b : Int32) : f_Model_within x a b = some (hz_inR x a b) := by
  unfold f_Model_within hz_inR
  simp only [Int32.lt_iff_toInt_lt, Int32.le_iff_toInt_le]
  split
  · simp only [Option.some.injEq, Bool.false_eq, decide_eq_false_iff_not]; omega
  · split
    · simp only [Option.some.injEq, Bool.false_eq, decide_eq_false_iff_not]; omega
    · simp only [Option.some.injEq, Bool.true_eq, decide_eq_true_eq]; omega
set_option maxRecDepth 100000 in
theorem hz_q_isDigit {g1 : Int32 × Int32} {tp : Nat → Int32} {L a : Nat} {w : Int32} {g3 : hz_M3} {r : hz_MR} (hL : L ≤ 400) (ha : a ≤ L) : f_Model_isDigit (g1, (hz_nI L, tp, hz_nI a, w), g3, r) = some (hz_dg (hz_hereT tp L a)) := by
  unfold f_Model_isDigit
  rw [hz_q_here hL ha, Option.bind_some, hz_q_within, Option.bind_some]
  rfl
set_option maxRecDepth 100000 in
def hz_dv (x : Int32) : Nat := x.toNatClampNeg - 48
set_option maxRecDepth 100000 in
theorem hz_dg_eq {x : Int32} (h : hz_dg x = true) : x = hz_nI (48 + hz_dv x) ∧ hz_dv x ≤ 9 := by
  unfold hz_dg at h
  simp only [decide_eq_true_eq, Int32.le_iff_toInt_le, hz_nI_toInt (show 48 < 2147483648 by omega), hz_nI_toInt (show 57 < 2147483648 by omega)] at h
  obtain ⟨n, h1, h2, h3⟩ := hz_nI_of (x := x) (by omega)
  unfold hz_dv
  rw [h2, hz_nI_nat h1]
  refine ⟨?_, by omega⟩
  rw [show 48 + (n - 48) = n by omega]
set_option maxRecDepth 100000 in
theorem hz_dg_ne {x : Int32} (h : hz_dg x = true) : x ≠ -hz_nI 1 ∧ x ≠ hz_nI 32 ∧ x ≠ hz_nI 34 ∧ x ≠ hz_nI 44 ∧ x ≠ hz_nI 59 ∧ x ≠ hz_nI 103 ∧ x ≠ hz_nI 120 ∧ x ≠ hz_nI 114 ∧ x ≠ hz_nI 64 := by
  obtain ⟨h1, h2⟩ := hz_dg_eq h
  generalize hz_dv x = d at *
  subst h1
  simp (disch := omega) only [hz_nI_lit, hz_nI_add, hz_nI_mul, hz_nI_lt, hz_nI_le, hz_nI_inj, hz_nI_sub, hz_nI_nat, hz_nI_inb, hz_nI_pred, hz_nI_m1_lt, hz_nI_lt_m1, hz_nI_m1_le, hz_nI_le_m1, hz_nI_eq_m1, hz_nI_m1_eq, hz_bI0, if_pos, if_neg, if_true, if_false, Option.bind_some, Prod.eta, reduceCtorEq, ne_eq, not_false_eq_true, true_and, and_true]
  omega
set_option maxRecDepth 100000 in
def hz_numT (tp : Nat → Int32) (L : Nat) : Nat → Nat → Nat → Nat × Nat
  | 0, v, a => (v, a)
  | n + 1, v, a => if hz_dg (hz_hereT tp L a) = true then hz_numT tp L n (v * 10 + hz_dv (hz_hereT tp L a)) (a + 1) else (v, a)
set_option maxRecDepth 100000 in
theorem hz_numT_bd (tp : Nat → Int32) (L : Nat) : ∀ n v a, a ≤ L → a ≤ (hz_numT tp L n v a).2 ∧ (hz_numT tp L n v a).2 ≤ L ∧ (hz_numT tp L n v a).2 ≤ a + n ∧ v ≤ (hz_numT tp L n v a).1 ∧ (hz_numT tp L n v a).1 < (v + 1) * 10 ^ n
  | 0, v, a, h => by simp only [hz_numT]; omega
  | n + 1, v, a, h => by
    unfold hz_numT
    by_cases c : hz_dg (hz_hereT tp L a) = true
    · rw [if_pos c]
      have hl := hz_hereT_lt rfl (hz_dg_ne c).1
      have := hz_numT_bd tp L n (v * 10 + hz_dv (hz_hereT tp L a)) (a + 1) hl
      have h9 := (hz_dg_eq c).2
      refine ⟨by omega, by omega, by omega, by omega, ?_⟩
      have e : (v * 10 + hz_dv (hz_hereT tp L a) + 1) * 10 ^ n ≤ ((v + 1) * 10) * 10 ^ n := Nat.mul_le_mul_right _ (by omega)
      rw [Nat.pow_succ, Nat.mul_comm (10 ^ n) 10, ← Nat.mul_assoc]
      omega
    · rw [if_neg c]
      refine ⟨by omega, by omega, by omega, by omega, ?_⟩
      have : 1 ≤ 10 ^ (n + 1) := Nat.pow_pos (by omega)
      have e : (v + 1) * 1 ≤ (v + 1) * 10 ^ (n + 1) := Nat.mul_le_mul_left _ this
      show v < _
      omega
set_option maxRecDepth 100000 in
theorem hz_p10_le {d : Nat} (h : d ≤ 4) : 10 ^ d ≤ 10000 := by
  have : 10 ^ d ≤ 10 ^ 4 := Nat.pow_le_pow_right (by omega) h
  omega
set_option maxRecDepth 100000 in
theorem hz_p_num_104 {tp : Nat → Int32} {L a v hi : Nat} {w : Int32} (ha : 1 ≤ a) (hv : v < 100000) (hh : hi ≤ 9999) : f_Reader_readNumber_104 (tp, hz_nI L, hz_nI a, hz_nI v, w) (hz_nI hi) = if v ≤ hi then some (true, (tp, hz_nI L, hz_nI a, hz_nI v, w)) else some (false, (tp, hz_nI L, hz_nI a, hz_nI v, hz_nI (a - 1))) := by
  unfold f_Reader_readNumber_104 f_Reader_wrong
  simp (disch := omega) only [hz_nI_lit, hz_nI_add, hz_nI_mul, hz_nI_lt, hz_nI_le, hz_nI_inj, hz_nI_sub, hz_nI_nat, hz_nI_inb, hz_nI_pred, hz_nI_m1_lt, hz_nI_lt_m1, hz_nI_m1_le, hz_nI_le_m1, hz_nI_eq_m1, hz_nI_m1_eq, hz_bI0, if_pos, if_neg, if_true, if_false, Option.bind_some, Prod.eta, reduceCtorEq]
set_option maxRecDepth 100000 in
theorem hz_p_num_52 {tp : Nat → Int32} {L hi m : Nat} {w : Int32} (hL : L ≤ 400) (hm : m ≤ 4) : ∀ k n v a d, m = d + k → k < n → a ≤ L → v < 10 ^ d → f_Reader_readNumber_52 n (tp, hz_nI L, hz_nI a, hz_nI v, w) (hz_nI hi) (hz_nI m) (hz_nI d) = f_Reader_readNumber_104 (tp, hz_nI L, hz_nI (hz_numT tp L k v a).2, hz_nI (hz_numT tp L k v a).1, w) (hz_nI hi)
  | 0, n + 1, v, a, d, h1, h2, h3, h4 => by
    rw [f_Reader_readNumber_52]
    simp (disch := omega) only [hz_nI_lit, hz_nI_add, hz_nI_mul, hz_nI_lt, hz_nI_le, hz_nI_inj, hz_nI_sub, hz_nI_nat, hz_nI_inb, hz_nI_pred, hz_nI_m1_lt, hz_nI_lt_m1, hz_nI_m1_le, hz_nI_le_m1, hz_nI_eq_m1, hz_nI_m1_eq, hz_bI0, if_pos, if_neg, if_true, if_false, Option.bind_some, Prod.eta, reduceCtorEq, hz_numT]
  | k + 1, n + 1, v, a, d, h1, h2, h3, h4 => by
    rw [f_Reader_readNumber_52, hz_p_byteHere hL h3]
    have hp := hz_p10_le (d := d) (by omega)
    unfold hz_numT
    by_cases c : hz_dg (hz_hereT tp L a) = true
    · have hl := hz_hereT_lt rfl (hz_dg_ne c).1
      obtain ⟨e1, e2⟩ := hz_dg_eq c
      have ih := hz_p_num_52 (tp := tp) (hi := hi) (w := w) hL hm k n (v * 10 + hz_dv (hz_hereT tp L a)) (a + 1) (d + 1) (by omega) (by omega) (by omega) (by rw [Nat.pow_succ]; omega)
      rw [if_pos c, ← ih]
      have e3 : hz_nI (v * 10) + hz_hereT tp L a - hz_nI 48 = hz_nI (v * 10 + hz_dv (hz_hereT tp L a)) := by
        generalize hx : hz_hereT tp L a = x at *
        rw [e1]
        simp (disch := omega) only [hz_nI_lit, hz_nI_add, hz_nI_mul, hz_nI_lt, hz_nI_le, hz_nI_inj, hz_nI_sub, hz_nI_nat, hz_nI_inb, hz_nI_pred, hz_nI_m1_lt, hz_nI_lt_m1, hz_nI_m1_le, hz_nI_le_m1, hz_nI_eq_m1, hz_nI_m1_eq, hz_bI0, if_pos, if_neg, if_true, if_false, Option.bind_some, Prod.eta, reduceCtorEq]
        rw [← e1]
        congr 1; omega
      simp (disch := omega) only [hz_nI_lit, hz_nI_add, hz_nI_mul, hz_nI_lt, hz_nI_le, hz_nI_inj, hz_nI_sub, hz_nI_nat, hz_nI_inb, hz_nI_pred, hz_nI_m1_lt, hz_nI_lt_m1, hz_nI_m1_le, hz_nI_le_m1, hz_nI_eq_m1, hz_nI_m1_eq, hz_bI0, if_pos, if_neg, if_true, if_false, Option.bind_some, Prod.eta, reduceCtorEq, hz_p_isDigit, c, e3, Bool.true_eq_false]
    · have c' : hz_dg (hz_hereT tp L a) = false := by simpa using c
      rw [if_neg c]
      simp (disch := omega) only [hz_nI_lit, hz_nI_add, hz_nI_mul, hz_nI_lt, hz_nI_le, hz_nI_inj, hz_nI_sub, hz_nI_nat, hz_nI_inb, hz_nI_pred, hz_nI_m1_lt, hz_nI_lt_m1, hz_nI_m1_le, hz_nI_le_m1, hz_nI_eq_m1, hz_nI_m1_eq, hz_bI0, if_pos, if_neg, if_true, if_false, Option.bind_some, Prod.eta, reduceCtorEq, hz_p_isDigit, c']
set_option maxRecDepth 100000 in
def hz_numS (tp : Nat → Int32) (L lo hi a : Nat) : Nat ⊕ (Nat × Nat) :=
  if hz_dg (hz_hereT tp L (hz_skp tp L a)) = true then
    if hz_hereT tp L (hz_skp tp L a) = hz_nI 48 ∧ 0 < lo then .inl (hz_skp tp L a)
    else if (hz_numT tp L (if hz_hereT tp L (hz_skp tp L a) = hz_nI 48 then 1 else 4) 0 (hz_skp tp L a)).1 ≤ hi then .inr (hz_numT tp L (if hz_hereT tp L (hz_skp tp L a) = hz_nI 48 then 1 else 4) 0 (hz_skp tp L a))
    else .inl ((hz_numT tp L (if hz_hereT tp L (hz_skp tp L a) = hz_nI 48 then 1 else 4) 0 (hz_skp tp L a)).2 - 1)
  else .inl (hz_skp tp L a)
set_option maxRecDepth 100000 in
theorem hz_numT_one {tp : Nat → Int32} {L n v a : Nat} (h : hz_dg (hz_hereT tp L a) = true) (hn : 1 ≤ n) (ha : a ≤ L) : a + 1 ≤ (hz_numT tp L n v a).2 ∧ (hz_hereT tp L a ≠ hz_nI 48 → 1 ≤ (hz_numT tp L n v a).1) := by
  cases n with
  | zero => omega
  | succ n =>
    unfold hz_numT
    rw [if_pos h]
    have hl := hz_hereT_lt rfl (hz_dg_ne h).1
    have := hz_numT_bd tp L n (v * 10 + hz_dv (hz_hereT tp L a)) (a + 1) hl
    refine ⟨by omega, fun hx => ?_⟩
    have : 1 ≤ hz_dv (hz_hereT tp L a) := by
      obtain ⟨e1, e2⟩ := hz_dg_eq h
      rcases Nat.eq_zero_or_pos (hz_dv (hz_hereT tp L a)) with h0 | h0
      · rw [h0] at e1; exact absurd e1 hx
      · omega
    omega
set_option maxRecDepth 100000 in
theorem hz_numS_bd {tp : Nat → Int32} {L lo hi a : Nat} (hlo : lo ≤ 1) (ha : a ≤ L) :
    (∀ p, hz_numS tp L lo hi a = .inl p → p ≤ L) ∧ (∀ v b, hz_numS tp L lo hi a = .inr (v, b) → a < b ∧ b ≤ L ∧ lo ≤ v ∧ v ≤ hi) := by
  have hs := hz_skp_bd (tp := tp) ha
  unfold hz_numS
  generalize hz_skp tp L a = s at *
  by_cases c : hz_dg (hz_hereT tp L s) = true
  · simp only [c, if_true]
    by_cases c1 : hz_hereT tp L s = hz_nI 48 ∧ 0 < lo
    · simp only [c1, and_self, if_true]
      exact ⟨fun p h => by cases h; omega, fun v b h => nomatch h⟩
    · rw [if_neg c1]
      generalize hk : (if hz_hereT tp L s = hz_nI 48 then 1 else 4) = k
      have hk1 : 1 ≤ k := by rw [← hk]; split <;> omega
      have h1 := hz_numT_one (v := 0) c hk1 hs.2
      have h2 := hz_numT_bd tp L k 0 s hs.2
      have h3 : lo ≤ (hz_numT tp L k 0 s).1 := by
        by_cases c2 : hz_hereT tp L s = hz_nI 48
        · have : ¬ 0 < lo := fun h => c1 ⟨c2, h⟩
          omega
        · have := h1.2 c2; omega
      generalize hz_numT tp L k 0 s = q at *
      split
      · exact ⟨fun p h => (nomatch h), fun v b h => by cases h; dsimp only at *; omega⟩
      · exact ⟨fun p h => by cases h; omega, fun v b h => (nomatch h)⟩
  · rw [if_neg c]
    exact ⟨fun p h => by cases h; omega, fun v b h => nomatch h⟩
set_option maxRecDepth 100000 in
theorem hz_p_num {tp : Nat → Int32} {L lo hi a : Nat} {v w : Int32} (hL : L ≤ 400) (hlo : lo ≤ 1) (hh : hi ≤ 9999) (ha : a ≤ L) :
    (∀ p, hz_numS tp L lo hi a = .inl p → ∃ b x, b ≤ L ∧ f_Reader_readNumber (tp, hz_nI L, hz_nI a, v, w) (hz_nI lo) (hz_nI hi) = some (false, (tp, hz_nI L, hz_nI b, x, hz_nI p))) ∧
    (∀ n b, hz_numS tp L lo hi a = .inr (n, b) → f_Reader_readNumber (tp, hz_nI L, hz_nI a, v, w) (hz_nI lo) (hz_nI hi) = some (true, (tp, hz_nI L, hz_nI b, hz_nI n, w))) := by
  have hs := hz_skp_bd (tp := tp) ha
  unfold f_Reader_readNumber hz_numS
  rw [hz_p_peek hL ha]
  generalize hz_skp tp L a = s at *
  by_cases c : hz_dg (hz_hereT tp L s) = true
  · simp only [c, if_true, Option.bind_some, hz_p_isDigit, hz_nI_lit, hz_bI0, Bool.true_eq_false, if_false]
    have hr : ∀ k, 1 ≤ k → k ≤ 4 → f_Reader_readNumber_52 4096 (tp, hz_nI L, hz_nI s, hz_nI 0, w) (hz_nI hi) (hz_nI k) (hz_nI 0) = if (hz_numT tp L k 0 s).1 ≤ hi then some (true, (tp, hz_nI L, hz_nI (hz_numT tp L k 0 s).2, hz_nI (hz_numT tp L k 0 s).1, w)) else some (false, (tp, hz_nI L, hz_nI (hz_numT tp L k 0 s).2, hz_nI (hz_numT tp L k 0 s).1, hz_nI ((hz_numT tp L k 0 s).2 - 1))) := by
      intro k hk1 hk4
      rw [hz_p_num_52 hL hk4 k 4096 0 s 0 (by omega) (by omega) hs.2 (by omega)]
      have h1 := hz_numT_one (v := 0) c hk1 hs.2
      have h2 := hz_numT_bd tp L k 0 s hs.2
      have h3 := hz_p10_le hk4
      rw [hz_p_num_104 (by omega) (by omega) hh]
    have h31 : f_Reader_readNumber_31 (tp, hz_nI L, hz_nI s, v, w) (hz_nI hi) (hz_hereT tp L s) = f_Reader_readNumber_52 4096 (tp, hz_nI L, hz_nI s, hz_nI 0, w) (hz_nI hi) (hz_nI (if hz_hereT tp L s = hz_nI 48 then 1 else 4)) (hz_nI 0) := by
      unfold f_Reader_readNumber_31
      by_cases c2 : hz_hereT tp L s = hz_nI 48
      · simp only [hz_nI_lit, c2, if_true]
      · simp only [hz_nI_lit, c2, if_false]
    have h31' := h31.trans (hr (if hz_hereT tp L s = hz_nI 48 then 1 else 4) (by split <;> omega) (by split <;> omega))
    have h4 := hz_numT_bd tp L (if hz_hereT tp L s = hz_nI 48 then 1 else 4) 0 s hs.2
    generalize hk : (if hz_hereT tp L s = hz_nI 48 then 1 else 4) = k at *
    have hfin : (∀ p, (if (hz_numT tp L k 0 s).1 ≤ hi then Sum.inr (hz_numT tp L k 0 s) else Sum.inl ((hz_numT tp L k 0 s).2 - 1) : Nat ⊕ (Nat × Nat)) = .inl p → ∃ b x, b ≤ L ∧ f_Reader_readNumber_31 (tp, hz_nI L, hz_nI s, v, w) (hz_nI hi) (hz_hereT tp L s) = some (false, (tp, hz_nI L, hz_nI b, x, hz_nI p))) ∧
        (∀ n b, (if (hz_numT tp L k 0 s).1 ≤ hi then Sum.inr (hz_numT tp L k 0 s) else Sum.inl ((hz_numT tp L k 0 s).2 - 1) : Nat ⊕ (Nat × Nat)) = .inr (n, b) → f_Reader_readNumber_31 (tp, hz_nI L, hz_nI s, v, w) (hz_nI hi) (hz_hereT tp L s) = some (true, (tp, hz_nI L, hz_nI b, hz_nI n, w))) := by
      rw [h31']
      by_cases c3 : (hz_numT tp L k 0 s).1 ≤ hi
      · simp only [c3, if_true]
        exact ⟨fun p h => (nomatch h), fun n b h => by rw [Sum.inr.inj h]⟩
      · simp only [c3, if_false]
        exact ⟨fun p h => by cases h; exact ⟨_, _, h4.2.1, rfl⟩, fun n b h => (nomatch h)⟩
    by_cases c2 : hz_hereT tp L s = hz_nI 48
    · by_cases c3 : 0 < lo
      · unfold f_Reader_wrong
        simp (disch := omega) only [hz_nI_lit, hz_nI_add, hz_nI_mul, hz_nI_lt, hz_nI_le, hz_nI_inj, hz_nI_sub, hz_nI_nat, hz_nI_inb, hz_nI_pred, hz_nI_m1_lt, hz_nI_lt_m1, hz_nI_m1_le, hz_nI_le_m1, hz_nI_eq_m1, hz_nI_m1_eq, hz_bI0, if_pos, if_neg, if_true, if_false, Option.bind_some, Prod.eta, reduceCtorEq, c2, c3, and_self]
        exact ⟨fun p h => by cases h; exact ⟨s, v, hs.2, rfl⟩, fun n b h => (nomatch h)⟩
      · rw [if_neg (fun h => c3 h.2)]
        simp only [c2, hz_nI_le (show lo < 2147483648 by omega) (show 0 < 2147483648 by omega), show lo ≤ 0 by omega, if_true] at hfin ⊢
        exact hfin
    · rw [if_neg (fun h => c2 h.1)]
      simp only [c2, if_false] at hfin ⊢
      exact hfin
  · have c' : hz_dg (hz_hereT tp L s) = false := by simpa using c
    rw [if_neg c]
    unfold f_Reader_wrong
    simp (disch := omega) only [hz_nI_lit, hz_nI_add, hz_nI_mul, hz_nI_lt, hz_nI_le, hz_nI_inj, hz_nI_sub, hz_nI_nat, hz_nI_inb, hz_nI_pred, hz_nI_m1_lt, hz_nI_lt_m1, hz_nI_m1_le, hz_nI_le_m1, hz_nI_eq_m1, hz_nI_m1_eq, hz_bI0, if_pos, if_neg, if_true, if_false, Option.bind_some, Prod.eta, reduceCtorEq, hz_p_isDigit, c']
    exact ⟨fun p h => by cases h; exact ⟨s, v, hs.2, rfl⟩, fun n b h => (nomatch h)⟩
set_option maxRecDepth 100000 in
theorem hz_numT_stop (tp : Nat → Int32) (L : Nat) : ∀ n v a, (hz_numT tp L n v a).2 < a + n → hz_dg (hz_hereT tp L (hz_numT tp L n v a).2) = false
  | 0, v, a, h => by simp only [hz_numT] at h; omega
  | n + 1, v, a, h => by
    unfold hz_numT at *
    by_cases c : hz_dg (hz_hereT tp L a) = true
    · simp only [c, if_true] at *
      exact hz_numT_stop tp L n _ _ (by omega)
    · have c' : hz_dg (hz_hereT tp L a) = false := by simpa using c
      rw [if_neg c]
      exact c'
set_option maxRecDepth 100000 in
theorem hz_q_num_34 {g1 : Int32 × Int32} {tp : Nat → Int32} {L : Nat} {g3 : hz_M3} {r : hz_MR} {lo hi : Int32} (hL : L ≤ 400) : ∀ k n v a d, 4 = d + k → k < n → a ≤ L → 1 ≤ d → 1 ≤ v → v < 10 ^ d →
    f_Model_number_34 n (g1, (hz_nI L, tp, hz_nI a, -hz_nI 1), g3, r) lo hi (hz_nI v) (hz_nI d) = f_Model_number_92 (g1, (hz_nI L, tp, hz_nI (hz_numT tp L k v a).2, -hz_nI 1), g3, r) lo hi (hz_nI (hz_numT tp L k v a).1) (hz_nI (d + ((hz_numT tp L k v a).2 - a)))
  | 0, n + 1, v, a, d, h1, h2, h3, h4, h5, h6 => by
    rw [f_Model_number_34, hz_q_isDigit hL h3]
    simp only [hz_numT, Nat.sub_self, Nat.add_zero]
    cases c : hz_dg (hz_hereT tp L a)
    · simp (disch := omega) only [hz_nI_lit, hz_nI_add, hz_nI_mul, hz_nI_lt, hz_nI_le, hz_nI_inj, hz_nI_sub, hz_nI_nat, hz_nI_inb, hz_nI_pred, hz_nI_m1_lt, hz_nI_lt_m1, hz_nI_m1_le, hz_nI_le_m1, hz_nI_eq_m1, hz_nI_m1_eq, hz_bI0, if_pos, if_neg, if_true, if_false, Option.bind_some, Prod.eta, reduceCtorEq]
    · simp (disch := omega) only [hz_nI_lit, hz_nI_add, hz_nI_mul, hz_nI_lt, hz_nI_le, hz_nI_inj, hz_nI_sub, hz_nI_nat, hz_nI_inb, hz_nI_pred, hz_nI_m1_lt, hz_nI_lt_m1, hz_nI_m1_le, hz_nI_le_m1, hz_nI_eq_m1, hz_nI_m1_eq, hz_bI0, if_pos, if_neg, if_true, if_false, Option.bind_some, Prod.eta, reduceCtorEq, Bool.true_eq_false]
  | k + 1, n + 1, v, a, d, h1, h2, h3, h4, h5, h6 => by
    rw [f_Model_number_34, hz_q_isDigit hL h3]
    have hp := hz_p10_le (d := d) (by omega)
    unfold hz_numT
    cases c : hz_dg (hz_hereT tp L a)
    · simp (disch := omega) only [hz_nI_lit, hz_nI_add, hz_nI_mul, hz_nI_lt, hz_nI_le, hz_nI_inj, hz_nI_sub, hz_nI_nat, hz_nI_inb, hz_nI_pred, hz_nI_m1_lt, hz_nI_lt_m1, hz_nI_m1_le, hz_nI_le_m1, hz_nI_eq_m1, hz_nI_m1_eq, hz_bI0, if_pos, if_neg, if_true, if_false, Option.bind_some, Prod.eta, reduceCtorEq, Bool.false_eq_true, Nat.sub_self, Nat.add_zero]
    · have hl := hz_hereT_lt rfl (hz_dg_ne c).1
      obtain ⟨e1, e2⟩ := hz_dg_eq c
      have ih := hz_q_num_34 (g1 := g1) (tp := tp) (g3 := g3) (r := r) (lo := lo) (hi := hi) hL k n (v * 10 + hz_dv (hz_hereT tp L a)) (a + 1) (d + 1) (by omega) (by omega) (by omega) (by omega) (by omega) (by rw [Nat.pow_succ]; omega)
      have hb := hz_numT_bd tp L k (v * 10 + hz_dv (hz_hereT tp L a)) (a + 1) hl
      rw [show d + 1 + ((hz_numT tp L k (v * 10 + hz_dv (hz_hereT tp L a)) (a + 1)).2 - (a + 1)) = d + ((hz_numT tp L k (v * 10 + hz_dv (hz_hereT tp L a)) (a + 1)).2 - a) by omega] at ih
      have e3 : hz_nI (10 * v) + hz_hereT tp L a - hz_nI 48 = hz_nI (v * 10 + hz_dv (hz_hereT tp L a)) := by
        generalize hx : hz_hereT tp L a = x at *
        rw [e1]
        simp (disch := omega) only [hz_nI_lit, hz_nI_add, hz_nI_mul, hz_nI_lt, hz_nI_le, hz_nI_inj, hz_nI_sub, hz_nI_nat, hz_nI_inb, hz_nI_pred, hz_nI_m1_lt, hz_nI_lt_m1, hz_nI_m1_le, hz_nI_le_m1, hz_nI_eq_m1, hz_nI_m1_eq, hz_bI0, if_pos, if_neg, if_true, if_false, Option.bind_some, Prod.eta, reduceCtorEq]
        rw [← e1]
        congr 1; omega
      unfold f_Model_number_63
      rw [hz_q_here hL h3]
      simp (disch := omega) only [hz_nI_lit, hz_nI_add, hz_nI_mul, hz_nI_lt, hz_nI_le, hz_nI_inj, hz_nI_sub, hz_nI_nat, hz_nI_inb, hz_nI_pred, hz_nI_m1_lt, hz_nI_lt_m1, hz_nI_m1_le, hz_nI_le_m1, hz_nI_eq_m1, hz_nI_m1_eq, hz_bI0, if_pos, if_neg, if_true, if_false, Option.bind_some, Prod.eta, reduceCtorEq, Bool.true_eq_false, e3]
      exact ih
set_option maxRecDepth 100000 in
theorem hz_q_num_92 {g1 : Int32 × Int32} {tp : Nat → Int32} {L lo hi v a d : Nat} {g3 : hz_M3} {r : hz_MR} (hL : L ≤ 400) (ha : a ≤ L) (ha1 : 1 ≤ a) (hlo : lo ≤ v) (hl1 : lo ≤ 1) (hh : hi ≤ 9999) (hv : v < 10000) (hd : d ≤ 4) :
    (v ≤ hi → (d = 4 ∧ hz_dg (hz_hereT tp L a) = true) → f_Model_number_92 (g1, (hz_nI L, tp, hz_nI a, -hz_nI 1), g3, r) (hz_nI lo) (hz_nI hi) (hz_nI v) (hz_nI d) = some (hz_nI lo, (g1, (hz_nI L, tp, hz_nI a, hz_nI a), g3, r))) ∧
    (v ≤ hi → ¬ (d = 4 ∧ hz_dg (hz_hereT tp L a) = true) → f_Model_number_92 (g1, (hz_nI L, tp, hz_nI a, -hz_nI 1), g3, r) (hz_nI lo) (hz_nI hi) (hz_nI v) (hz_nI d) = some (hz_nI v, (g1, (hz_nI L, tp, hz_nI a, -hz_nI 1), g3, r))) ∧
    (¬ v ≤ hi → f_Model_number_92 (g1, (hz_nI L, tp, hz_nI a, -hz_nI 1), g3, r) (hz_nI lo) (hz_nI hi) (hz_nI v) (hz_nI d) = some (hz_nI lo, (g1, (hz_nI L, tp, hz_nI a, hz_nI (a - 1)), g3, r))) := by
  unfold f_Model_number_92 f_Model_number_111
  refine ⟨fun h1 h2 => ?_, fun h1 h2 => ?_, fun h1 => ?_⟩
  · rw [hz_q_isDigit hL ha, h2.2, h2.1]
    have : hz_inR (hz_nI v) (hz_nI lo) (hz_nI hi) = true := by unfold hz_inR; simp (disch := omega) only [hz_nI_lit, hz_nI_add, hz_nI_mul, hz_nI_lt, hz_nI_le, hz_nI_inj, hz_nI_sub, hz_nI_nat, hz_nI_inb, hz_nI_pred, hz_nI_m1_lt, hz_nI_lt_m1, hz_nI_m1_le, hz_nI_le_m1, hz_nI_eq_m1, hz_nI_m1_eq, hz_bI0, if_pos, if_neg, if_true, if_false, Option.bind_some, Prod.eta, reduceCtorEq]; simp only [decide_eq_true_eq]; omega
    simp (disch := omega) only [hz_nI_lit, hz_nI_add, hz_nI_mul, hz_nI_lt, hz_nI_le, hz_nI_inj, hz_nI_sub, hz_nI_nat, hz_nI_inb, hz_nI_pred, hz_nI_m1_lt, hz_nI_lt_m1, hz_nI_m1_le, hz_nI_le_m1, hz_nI_eq_m1, hz_nI_m1_eq, hz_bI0, if_pos, if_neg, if_true, if_false, Option.bind_some, Prod.eta, reduceCtorEq, hz_q_within, this, Bool.true_eq_false, hz_q_fail]
  · rw [hz_q_isDigit hL ha]
    have : hz_inR (hz_nI v) (hz_nI lo) (hz_nI hi) = true := by unfold hz_inR; simp (disch := omega) only [hz_nI_lit, hz_nI_add, hz_nI_mul, hz_nI_lt, hz_nI_le, hz_nI_inj, hz_nI_sub, hz_nI_nat, hz_nI_inb, hz_nI_pred, hz_nI_m1_lt, hz_nI_lt_m1, hz_nI_m1_le, hz_nI_le_m1, hz_nI_eq_m1, hz_nI_m1_eq, hz_bI0, if_pos, if_neg, if_true, if_false, Option.bind_some, Prod.eta, reduceCtorEq]; simp only [decide_eq_true_eq]; omega
    by_cases c : d = 4
    · have c2 : hz_dg (hz_hereT tp L a) = false := by simpa using fun h => h2 ⟨c, h⟩
      simp (disch := omega) only [hz_nI_lit, hz_nI_add, hz_nI_mul, hz_nI_lt, hz_nI_le, hz_nI_inj, hz_nI_sub, hz_nI_nat, hz_nI_inb, hz_nI_pred, hz_nI_m1_lt, hz_nI_lt_m1, hz_nI_m1_le, hz_nI_le_m1, hz_nI_eq_m1, hz_nI_m1_eq, hz_bI0, if_pos, if_neg, if_true, if_false, Option.bind_some, Prod.eta, reduceCtorEq, hz_q_within, this, Bool.true_eq_false, hz_q_fail, c, c2]
    · simp (disch := omega) only [hz_nI_lit, hz_nI_add, hz_nI_mul, hz_nI_lt, hz_nI_le, hz_nI_inj, hz_nI_sub, hz_nI_nat, hz_nI_inb, hz_nI_pred, hz_nI_m1_lt, hz_nI_lt_m1, hz_nI_m1_le, hz_nI_le_m1, hz_nI_eq_m1, hz_nI_m1_eq, hz_bI0, if_pos, if_neg, if_true, if_false, Option.bind_some, Prod.eta, reduceCtorEq, hz_q_within, this, Bool.true_eq_false, hz_q_fail, c]
  · have : hz_inR (hz_nI v) (hz_nI lo) (hz_nI hi) = false := by unfold hz_inR; simp (disch := omega) only [hz_nI_lit, hz_nI_add, hz_nI_mul, hz_nI_lt, hz_nI_le, hz_nI_inj, hz_nI_sub, hz_nI_nat, hz_nI_inb, hz_nI_pred, hz_nI_m1_lt, hz_nI_lt_m1, hz_nI_m1_le, hz_nI_le_m1, hz_nI_eq_m1, hz_nI_m1_eq, hz_bI0, if_pos, if_neg, if_true, if_false, Option.bind_some, Prod.eta, reduceCtorEq]; simp only [decide_eq_false_iff_not]; omega
    have hx : ∀ y, f_Model_isDigit (g1, (hz_nI L, tp, hz_nI a, y), g3, r) = some (hz_dg (hz_hereT tp L a)) := fun y => hz_q_isDigit hL ha
    cases c : hz_dg (hz_hereT tp L a)
    · simp (disch := omega) only [hz_nI_lit, hz_nI_add, hz_nI_mul, hz_nI_lt, hz_nI_le, hz_nI_inj, hz_nI_sub, hz_nI_nat, hz_nI_inb, hz_nI_pred, hz_nI_m1_lt, hz_nI_lt_m1, hz_nI_m1_le, hz_nI_le_m1, hz_nI_eq_m1, hz_nI_m1_eq, hz_bI0, if_pos, if_neg, if_true, if_false, Option.bind_some, Prod.eta, reduceCtorEq, hz_q_within, this, hz_q_fail, hx, c, hz_q_failW]
      split <;> rfl
    · simp (disch := omega) only [hz_nI_lit, hz_nI_add, hz_nI_mul, hz_nI_lt, hz_nI_le, hz_nI_inj, hz_nI_sub, hz_nI_nat, hz_nI_inb, hz_nI_pred, hz_nI_m1_lt, hz_nI_lt_m1, hz_nI_m1_le, hz_nI_le_m1, hz_nI_eq_m1, hz_nI_m1_eq, hz_bI0, if_pos, if_neg, if_true, if_false, Option.bind_some, Prod.eta, reduceCtorEq, hz_q_within, this, hz_q_fail, hx, c, hz_q_failW, Bool.true_eq_false]
      split <;> rfl
set_option maxRecDepth 100000 in
theorem hz_q_num {g1 : Int32 × Int32} {tp : Nat → Int32} {L lo hi a : Nat} {g3 : hz_M3} {r : hz_MR} (hL : L ≤ 400) (hlo : lo ≤ 1) (hh : hi ≤ 9999) (ha : a ≤ L) :
    (∀ p, hz_numS tp L lo hi a = .inl p → ∃ b, b ≤ L ∧ f_Model_number (g1, (hz_nI L, tp, hz_nI a, -hz_nI 1), g3, r) (hz_nI lo) (hz_nI hi) = some (hz_nI lo, (g1, (hz_nI L, tp, hz_nI b, hz_nI p), g3, r))) ∧
    (∀ n b, hz_numS tp L lo hi a = .inr (n, b) → f_Model_number (g1, (hz_nI L, tp, hz_nI a, -hz_nI 1), g3, r) (hz_nI lo) (hz_nI hi) = some (hz_nI n, (g1, (hz_nI L, tp, hz_nI b, -hz_nI 1), g3, r)) ∨
      (hz_dg (hz_hereT tp L b) = true ∧ f_Model_number (g1, (hz_nI L, tp, hz_nI a, -hz_nI 1), g3, r) (hz_nI lo) (hz_nI hi) = some (hz_nI lo, (g1, (hz_nI L, tp, hz_nI b, hz_nI b), g3, r)))) := by
  have hs := hz_skp_bd (tp := tp) ha
  unfold f_Model_number hz_numS
  rw [hz_q_see hL ha]
  generalize hz_skp tp L a = s at *
  cases c : hz_dg (hz_hereT tp L s)
  · have e : ∃ b, b ≤ L ∧ f_Model_number_34 4096 (g1, (hz_nI L, tp, hz_nI s, hz_nI s), g3, r) (hz_nI lo) (hz_nI hi) (hz_nI 0) (hz_nI 0) = some (hz_nI lo, (g1, (hz_nI L, tp, hz_nI b, hz_nI s), g3, r)) := by
      refine ⟨s, hs.2, ?_⟩
      rw [f_Model_number_34]
      unfold f_Model_number_92 f_Model_number_111
      cases c9 : hz_inR (hz_nI 0) (hz_nI lo) (hz_nI hi)
      · simp (disch := omega) only [hz_nI_lit, hz_nI_add, hz_nI_mul, hz_nI_lt, hz_nI_le, hz_nI_inj, hz_nI_sub, hz_nI_nat, hz_nI_inb, hz_nI_pred, hz_nI_m1_lt, hz_nI_lt_m1, hz_nI_m1_le, hz_nI_le_m1, hz_nI_eq_m1, hz_nI_m1_eq, hz_bI0, if_pos, if_neg, if_true, if_false, Option.bind_some, Prod.eta, reduceCtorEq, hz_q_within, c9, hz_q_failW]
      · simp (disch := omega) only [hz_nI_lit, hz_nI_add, hz_nI_mul, hz_nI_lt, hz_nI_le, hz_nI_inj, hz_nI_sub, hz_nI_nat, hz_nI_inb, hz_nI_pred, hz_nI_m1_lt, hz_nI_lt_m1, hz_nI_m1_le, hz_nI_le_m1, hz_nI_eq_m1, hz_nI_m1_eq, hz_bI0, if_pos, if_neg, if_true, if_false, Option.bind_some, Prod.eta, reduceCtorEq, hz_q_within, c9, hz_q_failW, Bool.true_eq_false]
    obtain ⟨b, hb, e⟩ := e
    simp (disch := omega) only [hz_nI_lit, hz_nI_add, hz_nI_mul, hz_nI_lt, hz_nI_le, hz_nI_inj, hz_nI_sub, hz_nI_nat, hz_nI_inb, hz_nI_pred, hz_nI_m1_lt, hz_nI_lt_m1, hz_nI_m1_le, hz_nI_le_m1, hz_nI_eq_m1, hz_nI_m1_eq, hz_bI0, if_pos, if_neg, if_true, if_false, Option.bind_some, Prod.eta, reduceCtorEq, hz_q_isDigit hL hs.2, c, hz_q_fail, Bool.false_eq_true]
    exact ⟨fun p h => by cases h; exact ⟨b, hb, e⟩, fun n b h => (nomatch h)⟩
  · have hl := hz_hereT_lt rfl (hz_dg_ne c).1
    obtain ⟨e1, e2⟩ := hz_dg_eq c
    have e3 : hz_nI 0 + hz_hereT tp L s - hz_nI 48 = hz_nI (hz_dv (hz_hereT tp L s)) := by
      generalize hx : hz_hereT tp L s = x at *
      rw [e1]
      simp (disch := omega) only [hz_nI_lit, hz_nI_add, hz_nI_mul, hz_nI_lt, hz_nI_le, hz_nI_inj, hz_nI_sub, hz_nI_nat, hz_nI_inb, hz_nI_pred, hz_nI_m1_lt, hz_nI_lt_m1, hz_nI_m1_le, hz_nI_le_m1, hz_nI_eq_m1, hz_nI_m1_eq, hz_bI0, if_pos, if_neg, if_true, if_false, Option.bind_some, Prod.eta, reduceCtorEq]
      rw [← e1]
      congr 1; omega
    by_cases c2 : hz_hereT tp L s = hz_nI 48
    · have e0 : hz_dv (hz_hereT tp L s) = 0 := by rw [c2]; unfold hz_dv; rw [hz_nI_nat (by omega)]
      have e4 : f_Model_number_34 4096 (g1, (hz_nI L, tp, hz_nI s, -hz_nI 1), g3, r) (hz_nI lo) (hz_nI hi) (hz_nI 0) (hz_nI 0) = f_Model_number_92 (g1, (hz_nI L, tp, hz_nI (s + 1), -hz_nI 1), g3, r) (hz_nI lo) (hz_nI hi) (hz_nI 0) (hz_nI 1) := by
        rw [f_Model_number_34]
        unfold f_Model_number_63
        rw [hz_q_isDigit hL hs.2, hz_q_here hL hs.2]
        simp (disch := omega) only [hz_nI_lit, hz_nI_add, hz_nI_mul, hz_nI_lt, hz_nI_le, hz_nI_inj, hz_nI_sub, hz_nI_nat, hz_nI_inb, hz_nI_pred, hz_nI_m1_lt, hz_nI_lt_m1, hz_nI_m1_le, hz_nI_le_m1, hz_nI_eq_m1, hz_nI_m1_eq, hz_bI0, if_pos, if_neg, if_true, if_false, Option.bind_some, Prod.eta, reduceCtorEq, c, Bool.true_eq_false, Nat.mul_zero, e3, e0]
        rw [f_Model_number_34, hz_q_isDigit hL hl]
        cases c5 : hz_dg (hz_hereT tp L (s + 1))
        · simp (disch := omega) only [hz_nI_lit, hz_nI_add, hz_nI_mul, hz_nI_lt, hz_nI_le, hz_nI_inj, hz_nI_sub, hz_nI_nat, hz_nI_inb, hz_nI_pred, hz_nI_m1_lt, hz_nI_lt_m1, hz_nI_m1_le, hz_nI_le_m1, hz_nI_eq_m1, hz_nI_m1_eq, hz_bI0, if_pos, if_neg, if_true, if_false, Option.bind_some, Prod.eta, reduceCtorEq]
        · simp (disch := omega) only [hz_nI_lit, hz_nI_add, hz_nI_mul, hz_nI_lt, hz_nI_le, hz_nI_inj, hz_nI_sub, hz_nI_nat, hz_nI_inb, hz_nI_pred, hz_nI_m1_lt, hz_nI_lt_m1, hz_nI_m1_le, hz_nI_le_m1, hz_nI_eq_m1, hz_nI_m1_eq, hz_bI0, if_pos, if_neg, if_true, if_false, Option.bind_some, Prod.eta, reduceCtorEq, Bool.true_eq_false]
      have e5 : hz_numT tp L 1 0 s = (0, s + 1) := by
        simp only [hz_numT, c, if_true, e0, Nat.zero_mul, Nat.zero_add]
      by_cases c3 : 0 < lo
      · have e6 : f_Model_number_92 (g1, (hz_nI L, tp, hz_nI (s + 1), -hz_nI 1), g3, r) (hz_nI lo) (hz_nI hi) (hz_nI 0) (hz_nI 1) = some (hz_nI lo, (g1, (hz_nI L, tp, hz_nI (s + 1), hz_nI s), g3, r)) := by
          have : hz_inR (hz_nI 0) (hz_nI lo) (hz_nI hi) = false := by unfold hz_inR; simp (disch := omega) only [hz_nI_lit, hz_nI_add, hz_nI_mul, hz_nI_lt, hz_nI_le, hz_nI_inj, hz_nI_sub, hz_nI_nat, hz_nI_inb, hz_nI_pred, hz_nI_m1_lt, hz_nI_lt_m1, hz_nI_m1_le, hz_nI_le_m1, hz_nI_eq_m1, hz_nI_m1_eq, hz_bI0, if_pos, if_neg, if_true, if_false, Option.bind_some, Prod.eta, reduceCtorEq]; simp only [decide_eq_false_iff_not]; omega
          unfold f_Model_number_92 f_Model_number_111
          simp (disch := omega) only [hz_nI_lit, hz_nI_add, hz_nI_mul, hz_nI_lt, hz_nI_le, hz_nI_inj, hz_nI_sub, hz_nI_nat, hz_nI_inb, hz_nI_pred, hz_nI_m1_lt, hz_nI_lt_m1, hz_nI_m1_le, hz_nI_le_m1, hz_nI_eq_m1, hz_nI_m1_eq, hz_bI0, if_pos, if_neg, if_true, if_false, Option.bind_some, Prod.eta, reduceCtorEq, hz_q_within, this, hz_q_fail, Nat.add_sub_cancel]
        simp (disch := omega) only [hz_nI_lit, hz_nI_add, hz_nI_mul, hz_nI_lt, hz_nI_le, hz_nI_inj, hz_nI_sub, hz_nI_nat, hz_nI_inb, hz_nI_pred, hz_nI_m1_lt, hz_nI_lt_m1, hz_nI_m1_le, hz_nI_le_m1, hz_nI_eq_m1, hz_nI_m1_eq, hz_bI0, if_pos, if_neg, if_true, if_false, Option.bind_some, Prod.eta, reduceCtorEq, hz_q_isDigit hL hs.2, c, c2, c3, Bool.true_eq_false, e4, e6, and_self]
        exact ⟨fun p h => by cases h; exact ⟨s + 1, hl, rfl⟩, fun n b h => (nomatch h)⟩
      · have h9 := (hz_q_num_92 (g1 := g1) (tp := tp) (g3 := g3) (r := r) (lo := lo) (hi := hi) (v := 0) (d := 1) hL (show s + 1 ≤ L from hl) (by omega) (by omega) hlo hh (by omega) (by omega)).2.1 (by omega) (by omega)
        simp (disch := omega) only [hz_nI_lit, hz_nI_add, hz_nI_mul, hz_nI_lt, hz_nI_le, hz_nI_inj, hz_nI_sub, hz_nI_nat, hz_nI_inb, hz_nI_pred, hz_nI_m1_lt, hz_nI_lt_m1, hz_nI_m1_le, hz_nI_le_m1, hz_nI_eq_m1, hz_nI_m1_eq, hz_bI0, if_pos, if_neg, if_true, if_false, Option.bind_some, Prod.eta, reduceCtorEq, hz_q_isDigit hL hs.2, c, c2, c3, Bool.true_eq_false, e4, h9, and_false, e5]
        exact ⟨fun p h => (nomatch h), fun n b h => by cases h; exact Or.inl rfl⟩
    · have h1 : 1 ≤ hz_dv (hz_hereT tp L s) := by
        rcases Nat.eq_zero_or_pos (hz_dv (hz_hereT tp L s)) with h0 | h0
        · rw [h0] at e1; exact absurd e1 c2
        · omega
      have e4 : f_Model_number_34 4096 (g1, (hz_nI L, tp, hz_nI s, -hz_nI 1), g3, r) (hz_nI lo) (hz_nI hi) (hz_nI 0) (hz_nI 0) = f_Model_number_34 4095 (g1, (hz_nI L, tp, hz_nI (s + 1), -hz_nI 1), g3, r) (hz_nI lo) (hz_nI hi) (hz_nI (hz_dv (hz_hereT tp L s))) (hz_nI 1) := by
        rw [f_Model_number_34]
        unfold f_Model_number_63
        rw [hz_q_isDigit hL hs.2, hz_q_here hL hs.2]
        simp (disch := omega) only [hz_nI_lit, hz_nI_add, hz_nI_mul, hz_nI_lt, hz_nI_le, hz_nI_inj, hz_nI_sub, hz_nI_nat, hz_nI_inb, hz_nI_pred, hz_nI_m1_lt, hz_nI_lt_m1, hz_nI_m1_le, hz_nI_le_m1, hz_nI_eq_m1, hz_nI_m1_eq, hz_bI0, if_pos, if_neg, if_true, if_false, Option.bind_some, Prod.eta, reduceCtorEq, c, Bool.true_eq_false, Nat.mul_zero, e3]
      rw [hz_q_num_34 hL 3 4095 _ (s + 1) 1 (by omega) (by omega) hl (by omega) h1 (by omega)] at e4
      have e5 : hz_numT tp L 4 0 s = hz_numT tp L 3 (hz_dv (hz_hereT tp L s)) (s + 1) := by
        rw [hz_numT, if_pos c, Nat.zero_mul, Nat.zero_add]
      have hb := hz_numT_bd tp L 3 (hz_dv (hz_hereT tp L s)) (s + 1) hl
      have hst := hz_numT_stop tp L 3 (hz_dv (hz_hereT tp L s)) (s + 1)
      rw [← e5] at e4 hb hst
      have h9 := hz_q_num_92 (g1 := g1) (tp := tp) (g3 := g3) (r := r) (lo := lo) (hi := hi) (v := (hz_numT tp L 4 0 s).1) (d := 1 + ((hz_numT tp L 4 0 s).2 - (s + 1))) hL hb.2.1 (by omega) (by omega) hlo hh (by omega) (by omega)
      rw [← e4] at h9
      simp only [c, c2, if_true, if_false, false_and, hz_q_isDigit hL hs.2, Option.bind_some, hz_nI_lit, hz_bI0, Bool.true_eq_false, hz_nI_m1_lt (show 0 < 2147483648 by omega)]
      generalize hz_numT tp L 4 0 s = q at *
      by_cases c3 : q.1 ≤ hi
      · simp only [c3, if_true]
        refine ⟨fun p h => (nomatch h), fun n b h => ?_⟩
        have hq := Sum.inr.inj h
        rw [hq] at h9 hst
        by_cases c4 : 1 + (b - (s + 1)) = 4 ∧ hz_dg (hz_hereT tp L b) = true
        · exact Or.inr ⟨c4.2, h9.1 (by rw [hq] at c3; exact c3) c4⟩
        · exact Or.inl (h9.2.1 (by rw [hq] at c3; exact c3) c4)
      · simp only [c3, if_false]
        exact ⟨fun p h => by cases h; exact ⟨_, hb.2.1, h9.2.2 c3⟩, fun n b h => (nomatch h)⟩
set_option maxRecDepth 100000 in
theorem hz_q_numW {g1 : Int32 × Int32} {l a lo hi : Int32} {p : Nat} (hp : p ≤ 400) {tp : Nat → Int32} {g3 : hz_M3} {r : hz_MR} : f_Model_number (g1, (l, tp, a, hz_nI p), g3, r) lo hi = some (lo, (g1, (l, tp, a, hz_nI p), g3, r)) := by
  unfold f_Model_number
  simp (disch := omega) only [hz_nI_lit, hz_nI_add, hz_nI_mul, hz_nI_lt, hz_nI_le, hz_nI_inj, hz_nI_sub, hz_nI_nat, hz_nI_inb, hz_nI_pred, hz_nI_m1_lt, hz_nI_lt_m1, hz_nI_m1_le, hz_nI_le_m1, hz_nI_eq_m1, hz_nI_m1_eq, hz_bI0, if_pos, if_neg, if_true, if_false, Option.bind_some, Prod.eta, reduceCtorEq]
set_option maxRecDepth 100000 in
def hz_riseT (tp : Nat → Int32) (L t z : Nat) : Nat → Nat → Int32 → Nat → Int32 × Nat
  | 0, lo, b, a => (b, a)
  | n + 1, lo, b, a => if hz_inR (hz_hereT tp L (hz_skp tp L a)) (hz_nI lo) (hz_nI t) = true then hz_riseT tp L t z n ((hz_hereT tp L (hz_skp tp L a)).toNatClampNeg + 1) (b ||| (hz_nI 1 <<< ((hz_hereT tp L (hz_skp tp L a) - hz_nI z) &&& hz_nI 31))) (hz_skp tp L a + 1) else (b, a)
set_option maxRecDepth 100000 in
def hz_riseS (tp : Nat → Int32) (L f t z most a : Nat) : Nat ⊕ (Int32 × Nat) :=
  if hz_inR (hz_hereT tp L (hz_skp tp L a)) (hz_nI f) (hz_nI t) = true then .inr (hz_riseT tp L t z most f (hz_nI 0) a) else .inl (hz_skp tp L a)
set_option maxRecDepth 100000 in
theorem hz_inR_eq {x : Int32} {f t : Nat} (hf : f < 2147483648) (ht : t < 2147483648) (h : hz_inR x (hz_nI f) (hz_nI t) = true) : ∃ d, f ≤ d ∧ d ≤ t ∧ x = hz_nI d := by
  unfold hz_inR at h
  simp only [decide_eq_true_eq, Int32.le_iff_toInt_le, hz_nI_toInt hf, hz_nI_toInt ht] at h
  obtain ⟨n, h1, h2, h3⟩ := hz_nI_of (x := x) (by omega)
  exact ⟨n, by omega, by omega, h2⟩
set_option maxRecDepth 100000 in
theorem hz_inR_nI {d f t : Nat} (hd : d < 2147483648) (hf : f < 2147483648) (ht : t < 2147483648) : hz_inR (hz_nI d) (hz_nI f) (hz_nI t) = decide (f ≤ d ∧ d ≤ t) := by
  unfold hz_inR; simp only [hz_nI_le hf hd, hz_nI_le hd ht]
set_option maxRecDepth 100000 in
theorem hz_inR_lt {tp : Nat → Int32} {L a f t : Nat} (hf : f < 2147483648) (ht : t < 2147483648) (h : hz_inR (hz_hereT tp L a) (hz_nI f) (hz_nI t) = true) : a < L := by
  obtain ⟨d, h1, h2, h3⟩ := hz_inR_eq hf ht h
  exact hz_hereT_lt h3 (by simp (disch := omega) only [hz_nI_lit, hz_nI_add, hz_nI_mul, hz_nI_lt, hz_nI_le, hz_nI_inj, hz_nI_sub, hz_nI_nat, hz_nI_inb, hz_nI_pred, hz_nI_m1_lt, hz_nI_lt_m1, hz_nI_m1_le, hz_nI_le_m1, hz_nI_eq_m1, hz_nI_m1_eq, hz_bI0, if_pos, if_neg, if_true, if_false, Option.bind_some, Prod.eta, reduceCtorEq, ne_eq, not_false_eq_true])
set_option maxRecDepth 100000 in
theorem hz_riseT_bd (tp : Nat → Int32) (L t z : Nat) (ht : t ≤ 127) : ∀ n lo b a, lo ≤ 128 → a ≤ L → a ≤ (hz_riseT tp L t z n lo b a).2 ∧ (hz_riseT tp L t z n lo b a).2 ≤ L
  | 0, lo, b, a, h1, h2 => by simp only [hz_riseT]; omega
  | n + 1, lo, b, a, h1, h2 => by
    unfold hz_riseT
    by_cases c : hz_inR (hz_hereT tp L (hz_skp tp L a)) (hz_nI lo) (hz_nI t) = true
    · rw [if_pos c]
      have hl := hz_inR_lt (by omega) (by omega) c
      have hs := hz_skp_bd (tp := tp) h2
      obtain ⟨d, e1, e2, e3⟩ := hz_inR_eq (by omega) (by omega) c
      have := hz_riseT_bd tp L t z ht n ((hz_hereT tp L (hz_skp tp L a)).toNatClampNeg + 1) (b ||| (hz_nI 1 <<< ((hz_hereT tp L (hz_skp tp L a) - hz_nI z) &&& hz_nI 31))) (hz_skp tp L a + 1) (by rw [e3, hz_nI_nat (by omega)]; omega) hl
      omega
    · rw [if_neg c]; exact ⟨Nat.le_refl _, h2⟩
set_option maxRecDepth 100000 in
theorem hz_riseS_bd {tp : Nat → Int32} {L f t z most a : Nat} (hf : f ≤ 127) (ht : t ≤ 127) (hm : 1 ≤ most) (ha : a ≤ L) :
    (∀ p, hz_riseS tp L f t z most a = .inl p → p ≤ L) ∧ (∀ b c, hz_riseS tp L f t z most a = .inr (b, c) → a < c ∧ c ≤ L) := by
  have hs := hz_skp_bd (tp := tp) ha
  unfold hz_riseS
  by_cases c : hz_inR (hz_hereT tp L (hz_skp tp L a)) (hz_nI f) (hz_nI t) = true
  · rw [if_pos c]
    refine ⟨fun p h => (nomatch h), fun b d h => ?_⟩
    have e := Sum.inr.inj h
    cases most with
    | zero => omega
    | succ n =>
      unfold hz_riseT at e
      rw [if_pos c] at e
      have hl := hz_inR_lt (by omega) (by omega) c
      obtain ⟨d, e1, e2, e3⟩ := hz_inR_eq (by omega) (by omega) c
      have hb := hz_riseT_bd tp L t z ht n ((hz_hereT tp L (hz_skp tp L a)).toNatClampNeg + 1) (hz_nI 0 ||| (hz_nI 1 <<< ((hz_hereT tp L (hz_skp tp L a) - hz_nI z) &&& hz_nI 31))) (hz_skp tp L a + 1) (by rw [e3, hz_nI_nat (by omega)]; omega) hl
      rw [e] at hb
      dsimp only at hb
      omega
  · rw [if_neg c]
    exact ⟨fun p h => by cases h; exact hs.2, fun b d h => (nomatch h)⟩
set_option maxRecDepth 100000 in
theorem hz_p_rise_17 {tp : Nat → Int32} {L t z most : Nat} {w : Int32} (hL : L ≤ 400) (ht : t ≤ 127) (hm : most ≤ 100) : ∀ k n a lo b m, most = m + k → k < n → a ≤ L → lo ≤ 128 →
    f_Reader_readRising_17 n (tp, hz_nI L, hz_nI (hz_skp tp L a), b, w) (hz_nI t) (hz_nI most) (hz_nI z) (hz_nI lo) (hz_nI m) (hz_hereT tp L (hz_skp tp L a)) = (if m = 0 ∧ ¬ (1 ≤ k ∧ hz_inR (hz_hereT tp L (hz_skp tp L a)) (hz_nI lo) (hz_nI t) = true) then f_Reader_readRising_80 (tp, hz_nI L, hz_nI (hz_skp tp L a), b, w) (hz_nI 0) else some (true, (tp, hz_nI L, hz_nI (hz_skp tp L (hz_riseT tp L t z k lo b a).2), (hz_riseT tp L t z k lo b a).1, w)))
  | 0, n + 1, a, lo, b, m, h1, h2, h3, h4 => by
    rw [f_Reader_readRising_17]
    by_cases c : m = 0
    · subst c
      simp only [hz_riseT]
      simp (disch := omega) only [hz_nI_lit, hz_nI_add, hz_nI_mul, hz_nI_lt, hz_nI_le, hz_nI_inj, hz_nI_sub, hz_nI_nat, hz_nI_inb, hz_nI_pred, hz_nI_m1_lt, hz_nI_lt_m1, hz_nI_m1_le, hz_nI_le_m1, hz_nI_eq_m1, hz_nI_m1_eq, hz_bI0, if_pos, if_neg, if_true, if_false, Option.bind_some, Prod.eta, reduceCtorEq, show ¬ (1 ≤ 0) by omega, false_and, not_false_eq_true, and_self]
    · simp only [c, false_and, if_false, hz_riseT]
      unfold f_Reader_readRising_80
      simp (disch := omega) only [hz_nI_lit, hz_nI_add, hz_nI_mul, hz_nI_lt, hz_nI_le, hz_nI_inj, hz_nI_sub, hz_nI_nat, hz_nI_inb, hz_nI_pred, hz_nI_m1_lt, hz_nI_lt_m1, hz_nI_m1_le, hz_nI_le_m1, hz_nI_eq_m1, hz_nI_m1_eq, hz_bI0, if_pos, if_neg, if_true, if_false, Option.bind_some, Prod.eta, reduceCtorEq]
  | k + 1, n + 1, a, lo, b, m, h1, h2, h3, h4 => by
    rw [f_Reader_readRising_17]
    unfold hz_riseT
    have hs := hz_skp_bd (tp := tp) h3
    by_cases c : hz_inR (hz_hereT tp L (hz_skp tp L a)) (hz_nI lo) (hz_nI t) = true
    · have hl := hz_inR_lt (by omega) (by omega) c
      obtain ⟨d, e1, e2, e3⟩ := hz_inR_eq (by omega) (by omega) c
      simp only [c, if_true, show 1 ≤ k + 1 by omega, and_self, not_true_eq_false, and_false, if_false]
      have ih := hz_p_rise_17 (tp := tp) (z := z) (w := w) hL ht hm k n (hz_skp tp L a + 1) (d + 1) (b ||| (hz_nI 1 <<< ((hz_hereT tp L (hz_skp tp L a) - hz_nI z) &&& hz_nI 31))) (m + 1) (by omega) (by omega) hl (by omega)
      rw [if_neg (by omega)] at ih
      have hpk : ∀ bb, f_Reader_peek (tp, hz_nI L, hz_nI (hz_skp tp L a + 1), bb, w) = some (hz_hereT tp L (hz_skp tp L (hz_skp tp L a + 1)), (tp, hz_nI L, hz_nI (hz_skp tp L (hz_skp tp L a + 1)), bb, w)) := fun bb => hz_p_peek hL hl
      rw [e3] at ih ⊢
      simp (disch := omega) only [hz_nI_lit, hz_nI_add, hz_nI_mul, hz_nI_lt, hz_nI_le, hz_nI_inj, hz_nI_sub, hz_nI_nat, hz_nI_inb, hz_nI_pred, hz_nI_m1_lt, hz_nI_lt_m1, hz_nI_m1_le, hz_nI_le_m1, hz_nI_eq_m1, hz_nI_m1_eq, hz_bI0, if_pos, if_neg, if_true, if_false, Option.bind_some, Prod.eta, reduceCtorEq, hpk]
      exact ih
    · have hc : hz_nI t < hz_hereT tp L (hz_skp tp L a) ∨ hz_hereT tp L (hz_skp tp L a) < hz_nI lo := by
        unfold hz_inR at c
        simp only [decide_eq_true_eq, Int32.lt_iff_toInt_lt, Int32.le_iff_toInt_le] at c ⊢
        omega
      simp only [c, Bool.false_eq_true, if_false, and_false, not_false_eq_true, and_true]
      have e9 : (if m = 0 then f_Reader_readRising_80 (tp, hz_nI L, hz_nI (hz_skp tp L a), b, w) (hz_nI 0) else some (true, (tp, hz_nI L, hz_nI (hz_skp tp L a), b, w))) = f_Reader_readRising_80 (tp, hz_nI L, hz_nI (hz_skp tp L a), b, w) (hz_nI m) := by
        by_cases c2 : m = 0
        · rw [if_pos c2, c2]
        · rw [if_neg c2]; unfold f_Reader_readRising_80; simp (disch := omega) only [hz_nI_lit, hz_nI_add, hz_nI_mul, hz_nI_lt, hz_nI_le, hz_nI_inj, hz_nI_sub, hz_nI_nat, hz_nI_inb, hz_nI_pred, hz_nI_m1_lt, hz_nI_lt_m1, hz_nI_m1_le, hz_nI_le_m1, hz_nI_eq_m1, hz_nI_m1_eq, hz_bI0, if_pos, if_neg, if_true, if_false, Option.bind_some, Prod.eta, reduceCtorEq]
      rw [e9]
      by_cases c3 : hz_hereT tp L (hz_skp tp L a) < hz_nI lo
      · simp (disch := omega) only [hz_nI_lit, hz_nI_add, hz_nI_mul, hz_nI_lt, hz_nI_le, hz_nI_inj, hz_nI_sub, hz_nI_nat, hz_nI_inb, hz_nI_pred, hz_nI_m1_lt, hz_nI_lt_m1, hz_nI_m1_le, hz_nI_le_m1, hz_nI_eq_m1, hz_nI_m1_eq, hz_bI0, if_pos, if_neg, if_true, if_false, Option.bind_some, Prod.eta, reduceCtorEq, c3]
      · have c4 := hc.resolve_right c3
        simp (disch := omega) only [hz_nI_lit, hz_nI_add, hz_nI_mul, hz_nI_lt, hz_nI_le, hz_nI_inj, hz_nI_sub, hz_nI_nat, hz_nI_inb, hz_nI_pred, hz_nI_m1_lt, hz_nI_lt_m1, hz_nI_m1_le, hz_nI_le_m1, hz_nI_eq_m1, hz_nI_m1_eq, hz_bI0, if_pos, if_neg, if_true, if_false, Option.bind_some, Prod.eta, reduceCtorEq, c3, c4]
set_option maxRecDepth 100000 in
theorem hz_p_rise {tp : Nat → Int32} {L f t z most a : Nat} {v w : Int32} (hL : L ≤ 400) (hf : f ≤ 127) (ht : t ≤ 127) (hm1 : 1 ≤ most) (hm : most ≤ 100) (ha : a ≤ L) :
    (∀ p, hz_riseS tp L f t z most a = .inl p → f_Reader_readRising (tp, hz_nI L, hz_nI a, v, w) (hz_nI f) (hz_nI t) (hz_nI most) (hz_nI z) = some (false, (tp, hz_nI L, hz_nI p, hz_nI 0, hz_nI p))) ∧
    (∀ b c, hz_riseS tp L f t z most a = .inr (b, c) → f_Reader_readRising (tp, hz_nI L, hz_nI a, v, w) (hz_nI f) (hz_nI t) (hz_nI most) (hz_nI z) = some (true, (tp, hz_nI L, hz_nI (hz_skp tp L c), b, w))) := by
  unfold f_Reader_readRising hz_riseS
  rw [hz_p_peek hL ha]
  simp only [Option.bind_some, hz_nI_lit]
  rw [hz_p_rise_17 hL ht hm most 4096 a f (hz_nI 0) 0 (by omega) (by omega) ha (by omega)]
  by_cases c : hz_inR (hz_hereT tp L (hz_skp tp L a)) (hz_nI f) (hz_nI t) = true
  · simp only [c, if_true, hm1, and_self, not_true_eq_false, and_false, if_false]
    exact ⟨fun p h => (nomatch h), fun b d h => by rw [Sum.inr.inj h]⟩
  · simp only [c, Bool.false_eq_true, if_false, and_false, not_false_eq_true, and_true, if_true]
    refine ⟨fun p h => ?_, fun b d h => (nomatch h)⟩
    rw [← Sum.inl.inj h]
    unfold f_Reader_readRising_80 f_Reader_wrong
    simp (disch := omega) only [hz_nI_lit, hz_nI_add, hz_nI_mul, hz_nI_lt, hz_nI_le, hz_nI_inj, hz_nI_sub, hz_nI_nat, hz_nI_inb, hz_nI_pred, hz_nI_m1_lt, hz_nI_lt_m1, hz_nI_m1_le, hz_nI_le_m1, hz_nI_eq_m1, hz_nI_m1_eq, hz_bI0, if_pos, if_neg, if_true, if_false, Option.bind_some, Prod.eta, reduceCtorEq]
set_option maxRecDepth 100000 in
theorem hz_q_rise_11 {g1 : Int32 × Int32} {tp : Nat → Int32} {L f t most : Nat} {g3 : hz_M3} {r : hz_MR} (hL : L ≤ 400) (hf1 : 1 ≤ f) (hf : f ≤ 127) (ht : t ≤ 127) (hm : most ≤ 100) : ∀ k n a l b m, most = m + k → k < n → a ≤ L → 1 ≤ m → f ≤ l + 1 → l ≤ 127 →
    (∃ a1, (a1 = (hz_riseT tp L t f k (l + 1) b a).2 ∨ a1 = hz_skp tp L (hz_riseT tp L t f k (l + 1) b a).2) ∧ f_Model_rising_11 n (g1, (hz_nI L, tp, hz_nI a, -hz_nI 1), g3, r) (hz_nI f) (hz_nI t) (hz_nI most) b (hz_nI l) (hz_nI m) = some ((hz_riseT tp L t f k (l + 1) b a).1, (g1, (hz_nI L, tp, hz_nI a1, -hz_nI 1), g3, r))) ∨
    (hz_inR (hz_hereT tp L (hz_skp tp L (hz_riseT tp L t f k (l + 1) b a).2)) (hz_nI f) (hz_nI t) = true ∧ ∃ b1, f_Model_rising_11 n (g1, (hz_nI L, tp, hz_nI a, -hz_nI 1), g3, r) (hz_nI f) (hz_nI t) (hz_nI most) b (hz_nI l) (hz_nI m) = some (b1, (g1, (hz_nI L, tp, hz_nI (hz_skp tp L (hz_riseT tp L t f k (l + 1) b a).2), hz_nI (hz_skp tp L (hz_riseT tp L t f k (l + 1) b a).2)), g3, r)))
  | 0, n + 1, a, l, b, m, h1, h2, h3, h4, h5, h6 => by
    rw [f_Model_rising_11]
    refine Or.inl ⟨a, Or.inl rfl, ?_⟩
    simp only [hz_riseT]
    simp (disch := omega) only [hz_nI_lit, hz_nI_add, hz_nI_mul, hz_nI_lt, hz_nI_le, hz_nI_inj, hz_nI_sub, hz_nI_nat, hz_nI_inb, hz_nI_pred, hz_nI_m1_lt, hz_nI_lt_m1, hz_nI_m1_le, hz_nI_le_m1, hz_nI_eq_m1, hz_nI_m1_eq, hz_bI0, if_pos, if_neg, if_true, if_false, Option.bind_some, Prod.eta, reduceCtorEq]
  | k + 1, n + 1, a, l, b, m, h1, h2, h3, h4, h5, h6 => by
    rw [f_Model_rising_11]
    unfold hz_riseT f_Model_rising_41 f_Model_rising_64 f_Model_rising_72
    have hs := hz_skp_bd (tp := tp) h3
    rw [hz_q_see hL h3]
    by_cases c0 : hz_inR (hz_hereT tp L (hz_skp tp L a)) (hz_nI f) (hz_nI t) = true
    · have hl := hz_inR_lt (by omega) (by omega) c0
      obtain ⟨d, e1, e2, e3⟩ := hz_inR_eq (by omega) (by omega) c0
      by_cases c : hz_inR (hz_hereT tp L (hz_skp tp L a)) (hz_nI (l + 1)) (hz_nI t) = true
      · have hd : l < d := by
          rw [e3, hz_inR_nI (by omega) (by omega) (by omega)] at c
          simp only [decide_eq_true_eq] at c
          omega
        have ih := hz_q_rise_11 (g1 := g1) (tp := tp) (g3 := g3) (r := r) hL hf1 hf ht hm k n (hz_skp tp L a + 1) d (b ||| (hz_nI 1 <<< ((hz_hereT tp L (hz_skp tp L a) - hz_nI f) &&& hz_nI 31))) (m + 1) (by omega) (by omega) hl (by omega) (by omega) (by omega)
        simp only [c, if_true]
        simp (disch := omega) only [hz_nI_lit, hz_nI_add, hz_nI_mul, hz_nI_lt, hz_nI_le, hz_nI_inj, hz_nI_sub, hz_nI_nat, hz_nI_inb, hz_nI_pred, hz_nI_m1_lt, hz_nI_lt_m1, hz_nI_m1_le, hz_nI_le_m1, hz_nI_eq_m1, hz_nI_m1_eq, hz_bI0, if_pos, if_neg, if_true, if_false, Option.bind_some, Prod.eta, reduceCtorEq, hz_q_see hL hs.2, hz_q_within, c0, Bool.true_eq_false, hz_skp_skp]
        rw [e3] at ih ⊢
        simp (disch := omega) only [hz_nI_lit, hz_nI_add, hz_nI_mul, hz_nI_lt, hz_nI_le, hz_nI_inj, hz_nI_sub, hz_nI_nat, hz_nI_inb, hz_nI_pred, hz_nI_m1_lt, hz_nI_lt_m1, hz_nI_m1_le, hz_nI_le_m1, hz_nI_eq_m1, hz_nI_m1_eq, hz_bI0, if_pos, if_neg, if_true, if_false, Option.bind_some, Prod.eta, reduceCtorEq]
        simp (disch := omega) only [hz_nI_lit, hz_nI_add, hz_nI_mul, hz_nI_lt, hz_nI_le, hz_nI_inj, hz_nI_sub, hz_nI_nat, hz_nI_inb, hz_nI_pred, hz_nI_m1_lt, hz_nI_lt_m1, hz_nI_m1_le, hz_nI_le_m1, hz_nI_eq_m1, hz_nI_m1_eq, hz_bI0, if_pos, if_neg, if_true, if_false, Option.bind_some, Prod.eta, reduceCtorEq] at ih
        exact ih
      · have hd : d ≤ l := by
          rw [e3, hz_inR_nI (by omega) (by omega) (by omega)] at c
          simp only [decide_eq_true_eq] at c
          omega
        simp only [c, Bool.false_eq_true, if_false]
        refine Or.inr ⟨c0, b, ?_⟩
        simp (disch := omega) only [hz_nI_lit, hz_nI_add, hz_nI_mul, hz_nI_lt, hz_nI_le, hz_nI_inj, hz_nI_sub, hz_nI_nat, hz_nI_inb, hz_nI_pred, hz_nI_m1_lt, hz_nI_lt_m1, hz_nI_m1_le, hz_nI_le_m1, hz_nI_eq_m1, hz_nI_m1_eq, hz_bI0, if_pos, if_neg, if_true, if_false, Option.bind_some, Prod.eta, reduceCtorEq, hz_q_see hL hs.2, hz_q_within, c0, Bool.true_eq_false, hz_skp_skp]
        rw [e3]
        simp (disch := omega) only [hz_nI_lit, hz_nI_add, hz_nI_mul, hz_nI_lt, hz_nI_le, hz_nI_inj, hz_nI_sub, hz_nI_nat, hz_nI_inb, hz_nI_pred, hz_nI_m1_lt, hz_nI_lt_m1, hz_nI_m1_le, hz_nI_le_m1, hz_nI_eq_m1, hz_nI_m1_eq, hz_bI0, if_pos, if_neg, if_true, if_false, Option.bind_some, Prod.eta, reduceCtorEq, hz_q_fail]
    · have c : ¬ hz_inR (hz_hereT tp L (hz_skp tp L a)) (hz_nI (l + 1)) (hz_nI t) = true := by
        intro h
        obtain ⟨d, e1, e2, e3⟩ := hz_inR_eq (by omega) (by omega) h
        rw [e3, hz_inR_nI (by omega) (by omega) (by omega)] at c0
        simp only [decide_eq_true_eq] at c0
        omega
      simp only [c, Bool.false_eq_true, if_false]
      refine Or.inl ⟨hz_skp tp L a, Or.inr rfl, ?_⟩
      have c0' : hz_inR (hz_hereT tp L (hz_skp tp L a)) (hz_nI f) (hz_nI t) = false := by simpa using c0
      simp (disch := omega) only [hz_nI_lit, hz_nI_add, hz_nI_mul, hz_nI_lt, hz_nI_le, hz_nI_inj, hz_nI_sub, hz_nI_nat, hz_nI_inb, hz_nI_pred, hz_nI_m1_lt, hz_nI_lt_m1, hz_nI_m1_le, hz_nI_le_m1, hz_nI_eq_m1, hz_nI_m1_eq, hz_bI0, if_pos, if_neg, if_true, if_false, Option.bind_some, Prod.eta, reduceCtorEq, hz_q_within, c0']
set_option maxRecDepth 100000 in
theorem hz_q_rise {g1 : Int32 × Int32} {tp : Nat → Int32} {L f t most a : Nat} {g3 : hz_M3} {r : hz_MR} (hL : L ≤ 400) (hf1 : 1 ≤ f) (hf : f ≤ 127) (ht : t ≤ 127) (hm1 : 1 ≤ most) (hm : most ≤ 100) (ha : a ≤ L) :
    (∀ p, hz_riseS tp L f t f most a = .inl p → f_Model_rising (g1, (hz_nI L, tp, hz_nI a, -hz_nI 1), g3, r) (hz_nI f) (hz_nI t) (hz_nI most) = some (hz_nI 0, (g1, (hz_nI L, tp, hz_nI p, hz_nI p), g3, r))) ∧
    (∀ b c, hz_riseS tp L f t f most a = .inr (b, c) → (∃ a1, (a1 = c ∨ a1 = hz_skp tp L c) ∧ f_Model_rising (g1, (hz_nI L, tp, hz_nI a, -hz_nI 1), g3, r) (hz_nI f) (hz_nI t) (hz_nI most) = some (b, (g1, (hz_nI L, tp, hz_nI a1, -hz_nI 1), g3, r))) ∨
      (hz_inR (hz_hereT tp L (hz_skp tp L c)) (hz_nI f) (hz_nI t) = true ∧ ∃ b1, f_Model_rising (g1, (hz_nI L, tp, hz_nI a, -hz_nI 1), g3, r) (hz_nI f) (hz_nI t) (hz_nI most) = some (b1, (g1, (hz_nI L, tp, hz_nI (hz_skp tp L c), hz_nI (hz_skp tp L c)), g3, r)))) := by
  have hs := hz_skp_bd (tp := tp) ha
  unfold f_Model_rising hz_riseS
  rw [f_Model_rising_11]
  unfold f_Model_rising_41 f_Model_rising_64 f_Model_rising_72
  rw [hz_q_see hL ha]
  by_cases c : hz_inR (hz_hereT tp L (hz_skp tp L a)) (hz_nI f) (hz_nI t) = true
  · have hl := hz_inR_lt (by omega) (by omega) c
    obtain ⟨d, e1, e2, e3⟩ := hz_inR_eq (by omega) (by omega) c
    refine ⟨fun p h => by rw [if_pos c] at h; exact (nomatch h), fun b q h => ?_⟩
    rw [if_pos c] at h
    have e := Sum.inr.inj h
    obtain ⟨k, rfl⟩ : ∃ k, most = k + 1 := ⟨most - 1, by omega⟩
    unfold hz_riseT at e
    rw [if_pos c, e3, hz_nI_nat (by omega)] at e
    have ih := hz_q_rise_11 (g1 := g1) (tp := tp) (g3 := g3) (r := r) (t := t) hL hf1 hf ht hm k 4095 (hz_skp tp L a + 1) d (hz_nI 0 ||| (hz_nI 1 <<< ((hz_nI d - hz_nI f) &&& hz_nI 31))) 1 (by omega) (by omega) hl (by omega) (by omega) (by omega)
    rw [e] at ih
    simp (disch := omega) only [hz_nI_lit, hz_nI_add, hz_nI_mul, hz_nI_lt, hz_nI_le, hz_nI_inj, hz_nI_sub, hz_nI_nat, hz_nI_inb, hz_nI_pred, hz_nI_m1_lt, hz_nI_lt_m1, hz_nI_m1_le, hz_nI_le_m1, hz_nI_eq_m1, hz_nI_m1_eq, hz_bI0, if_pos, if_neg, if_true, if_false, Option.bind_some, Prod.eta, reduceCtorEq, hz_q_within, c, Bool.true_eq_false]
    rw [e3]
    simp (disch := omega) only [hz_nI_lit, hz_nI_add, hz_nI_mul, hz_nI_lt, hz_nI_le, hz_nI_inj, hz_nI_sub, hz_nI_nat, hz_nI_inb, hz_nI_pred, hz_nI_m1_lt, hz_nI_lt_m1, hz_nI_m1_le, hz_nI_le_m1, hz_nI_eq_m1, hz_nI_m1_eq, hz_bI0, if_pos, if_neg, if_true, if_false, Option.bind_some, Prod.eta, reduceCtorEq]
    simp (disch := omega) only [hz_nI_lit, hz_nI_add, hz_nI_mul, hz_nI_lt, hz_nI_le, hz_nI_inj, hz_nI_sub, hz_nI_nat, hz_nI_inb, hz_nI_pred, hz_nI_m1_lt, hz_nI_lt_m1, hz_nI_m1_le, hz_nI_le_m1, hz_nI_eq_m1, hz_nI_m1_eq, hz_bI0, if_pos, if_neg, if_true, if_false, Option.bind_some, Prod.eta, reduceCtorEq] at ih
    exact ih
  · have c' : hz_inR (hz_hereT tp L (hz_skp tp L a)) (hz_nI f) (hz_nI t) = false := by simpa using c
    refine ⟨fun p h => ?_, fun b q h => by rw [if_neg c] at h; exact (nomatch h)⟩
    rw [if_neg c] at h
    rw [← Sum.inl.inj h]
    simp (disch := omega) only [hz_nI_lit, hz_nI_add, hz_nI_mul, hz_nI_lt, hz_nI_le, hz_nI_inj, hz_nI_sub, hz_nI_nat, hz_nI_inb, hz_nI_pred, hz_nI_m1_lt, hz_nI_lt_m1, hz_nI_m1_le, hz_nI_le_m1, hz_nI_eq_m1, hz_nI_m1_eq, hz_bI0, if_pos, if_neg, if_true, if_false, Option.bind_some, Prod.eta, reduceCtorEq, hz_q_within, c', hz_q_fail]
set_option maxRecDepth 100000 in
theorem hz_q_riseW {g1 : Int32 × Int32} {l a f t most : Int32} {p : Nat} (hp : p ≤ 400) {tp : Nat → Int32} {g3 : hz_M3} {r : hz_MR} : f_Model_rising (g1, (l, tp, a, hz_nI p), g3, r) f t most = some (hz_nI 0, (g1, (l, tp, a, hz_nI p), g3, r)) := by
  unfold f_Model_rising
  rw [f_Model_rising_11]
  simp (disch := omega) only [hz_nI_lit, hz_nI_add, hz_nI_mul, hz_nI_lt, hz_nI_le, hz_nI_inj, hz_nI_sub, hz_nI_nat, hz_nI_inb, hz_nI_pred, hz_nI_m1_lt, hz_nI_lt_m1, hz_nI_m1_le, hz_nI_le_m1, hz_nI_eq_m1, hz_nI_m1_eq, hz_bI0, if_pos, if_neg, if_true, if_false, Option.bind_some, Prod.eta, reduceCtorEq]
set_option maxRecDepth 100000 in
theorem hz_shl_or (x y : Int32) : (x ||| y) <<< (hz_nI 1 &&& hz_nI 31) = (x <<< (hz_nI 1 &&& hz_nI 31)) ||| (y <<< (hz_nI 1 &&& hz_nI 31)) := by
  apply Int32.toBitVec_inj.mp
  simp only [Int32.toBitVec_shiftLeft, Int32.toBitVec_or]
  exact BitVec.shiftLeft_or_distrib ..
set_option maxRecDepth 100000 in
theorem hz_shl_9 : ∀ e : Fin 9, (hz_nI 1 <<< ((hz_nI (49 + e.val) - hz_nI 49) &&& hz_nI 31)) <<< (hz_nI 1 &&& hz_nI 31) = hz_nI 1 <<< ((hz_nI (49 + e.val) - hz_nI 48) &&& hz_nI 31) := by decide
set_option maxRecDepth 100000 in
theorem hz_riseT_shl (tp : Nat → Int32) (L : Nat) : ∀ n lo b a, 49 ≤ lo → lo ≤ 128 → hz_riseT tp L 57 48 n lo (b <<< (hz_nI 1 &&& hz_nI 31)) a = ((hz_riseT tp L 57 49 n lo b a).1 <<< (hz_nI 1 &&& hz_nI 31), (hz_riseT tp L 57 49 n lo b a).2)
  | 0, lo, b, a, h1, h2 => rfl
  | n + 1, lo, b, a, h1, h2 => by
    unfold hz_riseT
    by_cases c : hz_inR (hz_hereT tp L (hz_skp tp L a)) (hz_nI lo) (hz_nI 57) = true
    · obtain ⟨d, e1, e2, e3⟩ := hz_inR_eq (by omega) (by omega) c
      rw [if_pos c, if_pos c, e3]
      have e := hz_shl_9 ⟨d - 49, by omega⟩
      simp only [show 49 + (d - 49) = d by omega] at e
      rw [← e, ← hz_shl_or]
      exact hz_riseT_shl tp L n _ _ _ (by rw [hz_nI_nat (by omega)]; omega) (by rw [hz_nI_nat (by omega)]; omega)
    · rw [if_neg c, if_neg c]
set_option maxRecDepth 100000 in
theorem hz_riseS_shl (tp : Nat → Int32) (L a : Nat) : (∀ p, hz_riseS tp L 49 57 49 3 a = .inl p → hz_riseS tp L 49 57 48 3 a = .inl p) ∧ (∀ b c, hz_riseS tp L 49 57 49 3 a = .inr (b, c) → hz_riseS tp L 49 57 48 3 a = .inr (b <<< (hz_nI 1 &&& hz_nI 31), c)) := by
  unfold hz_riseS
  by_cases c : hz_inR (hz_hereT tp L (hz_skp tp L a)) (hz_nI 49) (hz_nI 57) = true
  · rw [if_pos c, if_pos c]
    refine ⟨fun p h => (nomatch h), fun b d h => ?_⟩
    have e := hz_riseT_shl tp L 3 49 (hz_nI 0) a (by omega) (by omega)
    rw [Sum.inr.inj h, show hz_nI 0 <<< (hz_nI 1 &&& hz_nI 31) = hz_nI 0 by decide] at e
    rw [e]
  · rw [if_neg c, if_neg c]
    exact ⟨fun p h => h, fun b d h => (nomatch h)⟩
set_option maxRecDepth 100000 in
def hz_wrT (f : Nat → Int32) (b : Nat) (g : Nat → Int32) (s k : Nat) : Nat → Int32 := fun j => if b ≤ j ∧ j < b + k then g (s + (j - b)) else f j
set_option maxRecDepth 100000 in
theorem hz_wrT_zero (f : Nat → Int32) (b : Nat) (g : Nat → Int32) (s : Nat) : hz_wrT f b g s 0 = f := by
  funext j; unfold hz_wrT; rw [if_neg (by omega)]
set_option maxRecDepth 100000 in
theorem hz_wrT_succ (f : Nat → Int32) (b : Nat) (g : Nat → Int32) (s k : Nat) : upd (hz_wrT f b g s k) (b + k) (g (s + k)) = hz_wrT f b g s (k + 1) := by
  funext j; unfold upd hz_wrT
  by_cases h : j = b + k
  · subst h
    rw [if_pos rfl, if_pos (by omega), show s + (b + k - b) = s + k by omega]
  · rw [if_neg h]
    by_cases h2 : b ≤ j ∧ j < b + k
    · rw [if_pos h2, if_pos (by omega)]
    · rw [if_neg h2, if_neg (by omega)]
set_option maxRecDepth 100000 in
def hz_letC (tp : Nat → Int32) (L : Nat) : Nat → Nat → Nat
  | 0, a => 0
  | n + 1, a => if hz_inR (hz_hereT tp L a) (hz_nI 97) (hz_nI 122) = true then hz_letC tp L n (a + 1) + 1 else 0
set_option maxRecDepth 100000 in
theorem hz_letC_bd (tp : Nat → Int32) (L : Nat) : ∀ n a, a ≤ L → hz_letC tp L n a ≤ n ∧ a + hz_letC tp L n a ≤ L
  | 0, a, h => by simp only [hz_letC]; omega
  | n + 1, a, h => by
    unfold hz_letC
    by_cases c : hz_inR (hz_hereT tp L a) (hz_nI 97) (hz_nI 122) = true
    · rw [if_pos c]
      have := hz_letC_bd tp L n (a + 1) (hz_inR_lt (by omega) (by omega) c)
      omega
    · rw [if_neg c]; omega
set_option maxRecDepth 100000 in
def hz_nameS (tp : Nat → Int32) (L a : Nat) : Nat ⊕ (Nat × Nat) :=
  if hz_hereT tp L (hz_skp tp L a) = hz_nI 34 then
    if hz_letC tp L 10 (hz_skp tp L a + 1) = 0 ∨ ¬ hz_hereT tp L (hz_skp tp L a + 1 + hz_letC tp L 10 (hz_skp tp L a + 1)) = hz_nI 34 then .inl (hz_skp tp L a + 1 + hz_letC tp L 10 (hz_skp tp L a + 1))
    else .inr (hz_skp tp L a + 1, hz_letC tp L 10 (hz_skp tp L a + 1))
  else .inl (hz_skp tp L a)
set_option maxRecDepth 100000 in
theorem hz_nameS_bd {tp : Nat → Int32} {L a : Nat} (ha : a ≤ L) : (∀ p, hz_nameS tp L a = .inl p → p ≤ L) ∧ (∀ s k, hz_nameS tp L a = .inr (s, k) → a < s ∧ s + k < L ∧ 1 ≤ k ∧ k ≤ 10) := by
  have hs := hz_skp_bd (tp := tp) ha
  unfold hz_nameS
  by_cases c : hz_hereT tp L (hz_skp tp L a) = hz_nI 34
  · rw [if_pos c]
    have hl := hz_hereT_lt c (by decide)
    have hb := hz_letC_bd tp L 10 (hz_skp tp L a + 1) hl
    by_cases c2 : hz_letC tp L 10 (hz_skp tp L a + 1) = 0 ∨ ¬ hz_hereT tp L (hz_skp tp L a + 1 + hz_letC tp L 10 (hz_skp tp L a + 1)) = hz_nI 34
    · rw [if_pos c2]
      exact ⟨fun p h => by cases h; omega, fun s k h => (nomatch h)⟩
    · rw [if_neg c2]
      refine ⟨fun p h => (nomatch h), fun s k h => ?_⟩
      have h3 : hz_hereT tp L (hz_skp tp L a + 1 + hz_letC tp L 10 (hz_skp tp L a + 1)) = hz_nI 34 := Decidable.byContradiction fun h => c2 (Or.inr h)
      have hl2 := hz_hereT_lt h3 (by decide)
      have h4 : hz_letC tp L 10 (hz_skp tp L a + 1) ≠ 0 := fun h => c2 (Or.inl h)
      cases h
      omega
  · rw [if_neg c]
    exact ⟨fun p h => by cases h; omega, fun s k h => (nomatch h)⟩
set_option maxRecDepth 100000 in
def hz_isLt (x : Int32) : Bool := hz_inR x (hz_nI 97) (hz_nI 122)
set_option maxRecDepth 100000 in
theorem hz_p_isLetter (x : Int32) : f_HT_isLetter x = some (hz_isLt x) := by
  unfold f_HT_isLetter hz_isLt hz_inR
  simp only [Int32.lt_iff_toInt_lt, Int32.le_iff_toInt_le, hz_nI_lit]
  split
  · simp only [Option.some.injEq, Bool.false_eq, decide_eq_false_iff_not]; omega
  · split
    · simp only [Option.some.injEq, Bool.false_eq, decide_eq_false_iff_not]; omega
    · simp only [Option.some.injEq, Bool.true_eq, decide_eq_true_eq]; omega
set_option maxRecDepth 100000 in
theorem hz_byte_26 : ∀ e : Fin 26, (hz_nI (97 + e.val)).toInt8.toInt32.toInt8.toInt32 = hz_nI (97 + e.val) := by decide
set_option maxRecDepth 100000 in
theorem hz_nar_letter {x : Int32} (h : hz_inR x (hz_nI 97) (hz_nI 122) = true) : vp_nar .byte x.toInt8.toInt32 = x := by
  obtain ⟨d, e1, e2, e3⟩ := hz_inR_eq (by omega) (by omega) h
  have e := hz_byte_26 ⟨d - 97, by omega⟩
  simp only [show 97 + (d - 97) = d by omega] at e
  rw [e3, hz_nar_by]
  exact e
set_option maxRecDepth 100000 in
theorem hz_p_setNameLetter {t1 t2 t3 t4 : Nat → Int32} {t5 : Int32} {t6 : Bool} {c nm i : Nat} {x : Int32} (hc : c ≤ 12) (hn : nm < 3) (hi : i < 10) (hx : hz_inR x (hz_nI 97) (hz_nI 122) = true) :
    f_Table_setNameLetter (t1, t2, t3, t4, t5, t6) (hz_nI c) (hz_nI nm) (hz_nI i) x = some (t1, t2, t3, upd t4 ((c * 3 + nm) * 10 + i) x, t5, t6) := by
  unfold f_Table_setNameLetter
  rw [hz_nar_letter hx]
  simp (disch := omega) only [hz_nI_lit, hz_nI_add, hz_nI_mul, hz_nI_lt, hz_nI_le, hz_nI_inj, hz_nI_sub, hz_nI_nat, hz_nI_inb, hz_nI_pred, hz_nI_m1_lt, hz_nI_lt_m1, hz_nI_m1_le, hz_nI_le_m1, hz_nI_eq_m1, hz_nI_m1_eq, hz_bI0, if_pos, if_neg, if_true, if_false, Option.bind_some, Prod.eta, reduceCtorEq]
set_option maxRecDepth 100000 in
theorem hz_p_name_14 {tp : Nat → Int32} {L c nm s : Nat} {v w t5 : Int32} {t1 t2 t3 lt : Nat → Int32} {t6 : Bool} (hL : L ≤ 400) (hc : c ≤ 12) (hn : nm < 3) : ∀ k n i, 10 = i + k → k < n → s + i ≤ L →
    f_Reader_readName_14 n (tp, hz_nI L, hz_nI (s + i), v, w) (t1, t2, t3, hz_wrT lt ((c * 3 + nm) * 10) tp s i, t5, t6) (hz_nI c) (hz_nI nm) (hz_nI i) = f_Reader_readName_59 (tp, hz_nI L, hz_nI (s + i + hz_letC tp L k (s + i)), v, w) (t1, t2, t3, hz_wrT lt ((c * 3 + nm) * 10) tp s (i + hz_letC tp L k (s + i)), t5, t6) (hz_nI c) (hz_nI nm) (hz_nI (i + hz_letC tp L k (s + i)))
  | 0, n + 1, i, h1, h2, h3 => by
    rw [f_Reader_readName_14]
    simp only [hz_letC, Nat.add_zero]
    simp (disch := omega) only [hz_nI_lit, hz_nI_add, hz_nI_mul, hz_nI_lt, hz_nI_le, hz_nI_inj, hz_nI_sub, hz_nI_nat, hz_nI_inb, hz_nI_pred, hz_nI_m1_lt, hz_nI_lt_m1, hz_nI_m1_le, hz_nI_le_m1, hz_nI_eq_m1, hz_nI_m1_eq, hz_bI0, if_pos, if_neg, if_true, if_false, Option.bind_some, Prod.eta, reduceCtorEq]
  | k + 1, n + 1, i, h1, h2, h3 => by
    rw [f_Reader_readName_14, hz_p_byteHere hL h3]
    unfold hz_letC
    by_cases c0 : hz_inR (hz_hereT tp L (s + i)) (hz_nI 97) (hz_nI 122) = true
    · have hl := hz_inR_lt (by omega) (by omega) c0
      have ih := hz_p_name_14 (tp := tp) (v := v) (w := w) (t1 := t1) (t2 := t2) (t3 := t3) (t5 := t5) (t6 := t6) (lt := lt) hL hc hn k n (i + 1) (by omega) (by omega) (show s + (i + 1) ≤ L by omega)
      have e1 : hz_hereT tp L (s + i) = tp (s + i) := by unfold hz_hereT; rw [if_pos hl]
      rw [← hz_wrT_succ, ← e1, show s + (i + 1) = s + i + 1 by omega] at ih
      rw [if_pos c0, show s + i + (hz_letC tp L k (s + i + 1) + 1) = s + i + 1 + hz_letC tp L k (s + i + 1) by omega, show i + (hz_letC tp L k (s + i + 1) + 1) = i + 1 + hz_letC tp L k (s + i + 1) by omega, ← ih]
      have c1 : hz_isLt (hz_hereT tp L (s + i)) = true := c0
      simp (disch := omega) only [hz_nI_lit, hz_nI_add, hz_nI_mul, hz_nI_lt, hz_nI_le, hz_nI_inj, hz_nI_sub, hz_nI_nat, hz_nI_inb, hz_nI_pred, hz_nI_m1_lt, hz_nI_lt_m1, hz_nI_m1_le, hz_nI_le_m1, hz_nI_eq_m1, hz_nI_m1_eq, hz_bI0, if_pos, if_neg, if_true, if_false, Option.bind_some, Prod.eta, reduceCtorEq, hz_p_isLetter, c1, Bool.true_eq_false, hz_p_setNameLetter hc hn (show i < 10 by omega) c0]
    · have c1 : hz_isLt (hz_hereT tp L (s + i)) = false := by unfold hz_isLt; simpa using c0
      rw [if_neg c0, Nat.add_zero, Nat.add_zero]
      simp (disch := omega) only [hz_nI_lit, hz_nI_add, hz_nI_mul, hz_nI_lt, hz_nI_le, hz_nI_inj, hz_nI_sub, hz_nI_nat, hz_nI_inb, hz_nI_pred, hz_nI_m1_lt, hz_nI_lt_m1, hz_nI_m1_le, hz_nI_le_m1, hz_nI_eq_m1, hz_nI_m1_eq, hz_bI0, if_pos, if_neg, if_true, if_false, Option.bind_some, Prod.eta, reduceCtorEq, hz_p_isLetter, c1]
set_option maxRecDepth 100000 in
theorem hz_p_setCell {t1 t2 t3 t4 : Nat → Int32} {t5 : Int32} {t6 : Bool} {c j : Nat} {x : Int32} (hc : c ≤ 12) (hj : j < 9) :
    f_Table_setCell (t1, t2, t3, t4, t5, t6) (hz_nI c) (hz_nI j) x = some (t1, upd t2 (c * 9 + j) x, t3, t4, t5, t6) := by
  unfold f_Table_setCell
  simp (disch := omega) only [hz_nI_lit, hz_nI_add, hz_nI_mul, hz_nI_lt, hz_nI_le, hz_nI_inj, hz_nI_sub, hz_nI_nat, hz_nI_inb, hz_nI_pred, hz_nI_m1_lt, hz_nI_lt_m1, hz_nI_m1_le, hz_nI_le_m1, hz_nI_eq_m1, hz_nI_m1_eq, hz_bI0, if_pos, if_neg, if_true, if_false, Option.bind_some, Prod.eta, reduceCtorEq]
set_option maxRecDepth 100000 in
theorem hz_p_endName {t1 t2 t3 t4 : Nat → Int32} {t5 : Int32} {t6 : Bool} {c nm : Nat} {x : Int32} (hc : c ≤ 12) (hn : nm < 3) :
    f_Table_endName (t1, t2, t3, t4, t5, t6) (hz_nI c) (hz_nI nm) x = some (t1, upd t2 (c * 9 + 8) (hz_nI (nm + 1)), upd t3 (c * 3 + nm) x, t4, t5, t6) := by
  unfold f_Table_endName
  simp (disch := omega) only [hz_nI_lit, hz_nI_add, hz_nI_mul, hz_nI_lt, hz_nI_le, hz_nI_inj, hz_nI_sub, hz_nI_nat, hz_nI_inb, hz_nI_pred, hz_nI_m1_lt, hz_nI_lt_m1, hz_nI_m1_le, hz_nI_le_m1, hz_nI_eq_m1, hz_nI_m1_eq, hz_bI0, if_pos, if_neg, if_true, if_false, Option.bind_some, Prod.eta, reduceCtorEq, hz_p_setCell hc (show 8 < 9 by omega)]
set_option maxRecDepth 100000 in
theorem hz_p_name {tp : Nat → Int32} {L a c nm : Nat} {v w t5 : Int32} {t1 t2 t3 lt : Nat → Int32} {t6 : Bool} (hL : L ≤ 400) (ha : a ≤ L) (hc : c ≤ 12) (hn : nm < 3) :
    (∀ p, hz_nameS tp L a = .inl p → ∃ b x tb, f_Reader_readName (tp, hz_nI L, hz_nI a, v, w) (t1, t2, t3, lt, t5, t6) (hz_nI c) (hz_nI nm) = some (false, (tp, hz_nI L, hz_nI b, x, hz_nI p), tb)) ∧
    (∀ s k, hz_nameS tp L a = .inr (s, k) → f_Reader_readName (tp, hz_nI L, hz_nI a, v, w) (t1, t2, t3, lt, t5, t6) (hz_nI c) (hz_nI nm) = some (true, (tp, hz_nI L, hz_nI (s + k + 1), v, w), (t1, upd t2 (c * 9 + 8) (hz_nI (nm + 1)), upd t3 (c * 3 + nm) (hz_nI k), hz_wrT lt ((c * 3 + nm) * 10) tp s k, t5, t6))) := by
  unfold f_Reader_readName hz_nameS
  rw [hz_nI_lit, hz_p_take hL ha]
  have hs := hz_skp_bd (tp := tp) ha
  by_cases c0 : hz_hereT tp L (hz_skp tp L a) = hz_nI 34
  · have hl := hz_hereT_lt c0 (by decide)
    rw [if_pos c0, if_pos c0]
    have e := hz_p_name_14 (tp := tp) (v := v) (w := w) (t1 := t1) (t2 := t2) (t3 := t3) (t5 := t5) (t6 := t6) (lt := lt) (s := hz_skp tp L a + 1) hL hc hn 10 4096 0 (by omega) (by omega) hl
    rw [hz_wrT_zero, Nat.zero_add, Nat.add_zero] at e
    simp only [Option.bind_some, hz_nI_lit, hz_bI0, Bool.true_eq_false, if_false]
    rw [e]
    have hb := hz_letC_bd tp L 10 (hz_skp tp L a + 1) hl
    unfold f_Reader_readName_59 f_Reader_wrong
    rw [hz_p_byteHere hL hb.2]
    generalize hz_letC tp L 10 (hz_skp tp L a + 1) = k at *
    by_cases c1 : k = 0
    · rw [if_pos (Or.inl c1)]
      refine ⟨fun p h => ?_, fun s k h => (nomatch h)⟩
      rw [← Sum.inl.inj h]
      simp (disch := omega) only [hz_nI_lit, hz_nI_add, hz_nI_mul, hz_nI_lt, hz_nI_le, hz_nI_inj, hz_nI_sub, hz_nI_nat, hz_nI_inb, hz_nI_pred, hz_nI_m1_lt, hz_nI_lt_m1, hz_nI_m1_le, hz_nI_le_m1, hz_nI_eq_m1, hz_nI_m1_eq, hz_bI0, if_pos, if_neg, if_true, if_false, Option.bind_some, Prod.eta, reduceCtorEq, c1]
      exact ⟨_, _, _, rfl⟩
    · by_cases c2 : hz_hereT tp L (hz_skp tp L a + 1 + k) = hz_nI 34
      · rw [if_neg (by intro h; exact h.elim c1 (fun h => h c2))]
        refine ⟨fun p h => (nomatch h), fun s k h => ?_⟩
        cases h
        simp (disch := omega) only [hz_nI_lit, hz_nI_add, hz_nI_mul, hz_nI_lt, hz_nI_le, hz_nI_inj, hz_nI_sub, hz_nI_nat, hz_nI_inb, hz_nI_pred, hz_nI_m1_lt, hz_nI_lt_m1, hz_nI_m1_le, hz_nI_le_m1, hz_nI_eq_m1, hz_nI_m1_eq, hz_bI0, if_pos, if_neg, if_true, if_false, Option.bind_some, Prod.eta, reduceCtorEq, c1, c2, hz_p_endName hc hn]
      · rw [if_pos (Or.inr c2)]
        refine ⟨fun p h => ?_, fun s k h => (nomatch h)⟩
        rw [← Sum.inl.inj h]
        simp (disch := omega) only [hz_nI_lit, hz_nI_add, hz_nI_mul, hz_nI_lt, hz_nI_le, hz_nI_inj, hz_nI_sub, hz_nI_nat, hz_nI_inb, hz_nI_pred, hz_nI_m1_lt, hz_nI_lt_m1, hz_nI_m1_le, hz_nI_le_m1, hz_nI_eq_m1, hz_nI_m1_eq, hz_bI0, if_pos, if_neg, if_true, if_false, Option.bind_some, Prod.eta, reduceCtorEq, c1, c2]
        exact ⟨_, _, _, rfl⟩
  · rw [if_neg c0, if_neg c0]
    refine ⟨fun p h => ?_, fun s k h => (nomatch h)⟩
    rw [← Sum.inl.inj h]
    simp (disch := omega) only [hz_nI_lit, hz_nI_add, hz_nI_mul, hz_nI_lt, hz_nI_le, hz_nI_inj, hz_nI_sub, hz_nI_nat, hz_nI_inb, hz_nI_pred, hz_nI_m1_lt, hz_nI_lt_m1, hz_nI_m1_le, hz_nI_le_m1, hz_nI_eq_m1, hz_nI_m1_eq, hz_bI0, if_pos, if_neg, if_true, if_false, Option.bind_some, Prod.eta, reduceCtorEq]
    exact ⟨_, _, _, rfl⟩
set_option maxRecDepth 100000 in
theorem hz_q_name_26 {g1 : Int32 × Int32} {tp : Nat → Int32} {L s m kk : Nat} {nm : Int32} {ng : Bool} {fr : Nat → Int32} {r : hz_MR} (hL : L ≤ 400) (hk : kk + 10 < 559) : ∀ k n i, 10 = i + k → k < n → s + i ≤ L →
    f_Model_name_26 n (g1, (hz_nI L, tp, hz_nI (s + i), -hz_nI 1), (nm, ng, hz_wrT fr (kk + 1) tp s i), r) (hz_nI m) (hz_nI kk) (hz_nI i) =
      if hz_hereT tp L (s + i + hz_letC tp L k (s + i)) = hz_nI 34 then f_Model_name_101 (g1, (hz_nI L, tp, hz_nI (s + i + hz_letC tp L k (s + i)), -hz_nI 1), (nm, ng, hz_wrT fr (kk + 1) tp s (i + hz_letC tp L k (s + i))), r) (hz_nI m) (hz_nI kk) (hz_nI (i + hz_letC tp L k (s + i)))
      else some (g1, (hz_nI L, tp, hz_nI (s + i + hz_letC tp L k (s + i)), hz_nI (s + i + hz_letC tp L k (s + i))), (nm, ng, hz_wrT fr (kk + 1) tp s (i + hz_letC tp L k (s + i))), r)
  | 0, n + 1, i, h1, h2, h3 => by
    rw [f_Model_name_26, hz_q_here hL h3]
    simp only [hz_letC, Nat.add_zero]
    by_cases c : hz_hereT tp L (s + i) = hz_nI 34
    · simp (disch := omega) only [hz_nI_lit, hz_nI_add, hz_nI_mul, hz_nI_lt, hz_nI_le, hz_nI_inj, hz_nI_sub, hz_nI_nat, hz_nI_inb, hz_nI_pred, hz_nI_m1_lt, hz_nI_lt_m1, hz_nI_m1_le, hz_nI_le_m1, hz_nI_eq_m1, hz_nI_m1_eq, hz_bI0, if_pos, if_neg, if_true, if_false, Option.bind_some, Prod.eta, reduceCtorEq, c]
    · cases c2 : hz_inR (hz_hereT tp L (s + i)) (hz_nI 97) (hz_nI 122)
      · simp (disch := omega) only [hz_nI_lit, hz_nI_add, hz_nI_mul, hz_nI_lt, hz_nI_le, hz_nI_inj, hz_nI_sub, hz_nI_nat, hz_nI_inb, hz_nI_pred, hz_nI_m1_lt, hz_nI_lt_m1, hz_nI_m1_le, hz_nI_le_m1, hz_nI_eq_m1, hz_nI_m1_eq, hz_bI0, if_pos, if_neg, if_true, if_false, Option.bind_some, Prod.eta, reduceCtorEq, c, hz_q_within, c2, hz_q_fail]
      · have : i = 10 := by omega
        subst this
        simp (disch := omega) only [hz_nI_lit, hz_nI_add, hz_nI_mul, hz_nI_lt, hz_nI_le, hz_nI_inj, hz_nI_sub, hz_nI_nat, hz_nI_inb, hz_nI_pred, hz_nI_m1_lt, hz_nI_lt_m1, hz_nI_m1_le, hz_nI_le_m1, hz_nI_eq_m1, hz_nI_m1_eq, hz_bI0, if_pos, if_neg, if_true, if_false, Option.bind_some, Prod.eta, reduceCtorEq, c, hz_q_within, c2, hz_q_fail, Bool.true_eq_false]
  | k + 1, n + 1, i, h1, h2, h3 => by
    rw [f_Model_name_26, hz_q_here hL h3]
    unfold hz_letC
    by_cases c0 : hz_inR (hz_hereT tp L (s + i)) (hz_nI 97) (hz_nI 122) = true
    · have hl := hz_inR_lt (by omega) (by omega) c0
      have ih := hz_q_name_26 (g1 := g1) (tp := tp) (s := s) (m := m) (nm := nm) (ng := ng) (fr := fr) (r := r) hL hk k n (i + 1) (by omega) (by omega) (by omega)
      have e1 : hz_hereT tp L (s + i) = tp (s + i) := by unfold hz_hereT; rw [if_pos hl]
      rw [← hz_wrT_succ, ← e1, show s + (i + 1) = s + i + 1 by omega] at ih
      rw [if_pos c0, show s + i + (hz_letC tp L k (s + i + 1) + 1) = s + i + 1 + hz_letC tp L k (s + i + 1) by omega, show i + (hz_letC tp L k (s + i + 1) + 1) = i + 1 + hz_letC tp L k (s + i + 1) by omega, ← ih]
      obtain ⟨d, d1, d2, d3⟩ := hz_inR_eq (by omega) (by omega) c0
      have c1 : ¬ hz_hereT tp L (s + i) = hz_nI 34 := by rw [d3]; simp (disch := omega) only [hz_nI_lit, hz_nI_add, hz_nI_mul, hz_nI_lt, hz_nI_le, hz_nI_inj, hz_nI_sub, hz_nI_nat, hz_nI_inb, hz_nI_pred, hz_nI_m1_lt, hz_nI_lt_m1, hz_nI_m1_le, hz_nI_le_m1, hz_nI_eq_m1, hz_nI_m1_eq, hz_bI0, if_pos, if_neg, if_true, if_false, Option.bind_some, Prod.eta, reduceCtorEq]; omega
      simp (disch := omega) only [hz_nI_lit, hz_nI_add, hz_nI_mul, hz_nI_lt, hz_nI_le, hz_nI_inj, hz_nI_sub, hz_nI_nat, hz_nI_inb, hz_nI_pred, hz_nI_m1_lt, hz_nI_lt_m1, hz_nI_m1_le, hz_nI_le_m1, hz_nI_eq_m1, hz_nI_m1_eq, hz_bI0, if_pos, if_neg, if_true, if_false, Option.bind_some, Prod.eta, reduceCtorEq, c1, hz_q_within, c0, Bool.true_eq_false]
    · have c0' : hz_inR (hz_hereT tp L (s + i)) (hz_nI 97) (hz_nI 122) = false := by simpa using c0
      rw [if_neg c0]
      simp only [Nat.add_zero]
      by_cases c : hz_hereT tp L (s + i) = hz_nI 34
      · simp (disch := omega) only [hz_nI_lit, hz_nI_add, hz_nI_mul, hz_nI_lt, hz_nI_le, hz_nI_inj, hz_nI_sub, hz_nI_nat, hz_nI_inb, hz_nI_pred, hz_nI_m1_lt, hz_nI_lt_m1, hz_nI_m1_le, hz_nI_le_m1, hz_nI_eq_m1, hz_nI_m1_eq, hz_bI0, if_pos, if_neg, if_true, if_false, Option.bind_some, Prod.eta, reduceCtorEq, c]
      · simp (disch := omega) only [hz_nI_lit, hz_nI_add, hz_nI_mul, hz_nI_lt, hz_nI_le, hz_nI_inj, hz_nI_sub, hz_nI_nat, hz_nI_inb, hz_nI_pred, hz_nI_m1_lt, hz_nI_lt_m1, hz_nI_m1_le, hz_nI_le_m1, hz_nI_eq_m1, hz_nI_m1_eq, hz_bI0, if_pos, if_neg, if_true, if_false, Option.bind_some, Prod.eta, reduceCtorEq, c, hz_q_within, c0', hz_q_fail]
set_option maxRecDepth 100000 in
theorem hz_q_name {g1 : Int32 × Int32} {tp : Nat → Int32} {L a m cnt : Nat} {nm : Int32} {ng : Bool} {fr : Nat → Int32} {r : hz_MR} (hL : L ≤ 400) (ha : a ≤ L) (hm : m ≤ 516) (hc : cnt < 3) (hcnt : fr (m + 9) = hz_nI cnt) :
    (∀ p, hz_nameS tp L a = .inl p → ∃ b fr', f_Model_name (g1, (hz_nI L, tp, hz_nI a, -hz_nI 1), (nm, ng, fr), r) (hz_nI m) = some (g1, (hz_nI L, tp, hz_nI b, hz_nI p), (nm, ng, fr'), r)) ∧
    (∀ s k, hz_nameS tp L a = .inr (s, k) → f_Model_name (g1, (hz_nI L, tp, hz_nI a, -hz_nI 1), (nm, ng, fr), r) (hz_nI m) = some (g1, (hz_nI L, tp, hz_nI (s + k + 1), -hz_nI 1), (nm, ng, upd (upd (hz_wrT fr (m + 10 + 11 * cnt + 1) tp s k) (m + 10 + 11 * cnt) (hz_nI k)) (m + 9) (hz_nI (cnt + 1))), r)) := by
  unfold f_Model_name hz_nameS
  rw [hz_nI_lit, hz_q_take hL ha]
  have hs := hz_skp_bd (tp := tp) ha
  by_cases c0 : hz_hereT tp L (hz_skp tp L a) = hz_nI 34
  · have hl := hz_hereT_lt c0 (by decide)
    rw [if_pos c0, if_pos c0]
    have e := hz_q_name_26 (g1 := g1) (tp := tp) (m := m) (nm := nm) (ng := ng) (fr := fr) (r := r) (kk := m + 10 + 11 * cnt) (s := hz_skp tp L a + 1) hL (by omega) 10 4096 0 (by omega) (by omega) hl
    rw [hz_wrT_zero, Nat.zero_add, Nat.add_zero] at e
    have hb := hz_letC_bd tp L 10 (hz_skp tp L a + 1) hl
    simp (disch := omega) only [hz_nI_lit, hz_nI_add, hz_nI_mul, hz_nI_lt, hz_nI_le, hz_nI_inj, hz_nI_sub, hz_nI_nat, hz_nI_inb, hz_nI_pred, hz_nI_m1_lt, hz_nI_lt_m1, hz_nI_m1_le, hz_nI_le_m1, hz_nI_eq_m1, hz_nI_m1_eq, hz_bI0, if_pos, if_neg, if_true, if_false, Option.bind_some, Prod.eta, reduceCtorEq, hcnt]
    rw [e]
    unfold f_Model_name_101 f_Model_name_113
    generalize hz_letC tp L 10 (hz_skp tp L a + 1) = k at *
    by_cases c2 : hz_hereT tp L (hz_skp tp L a + 1 + k) = hz_nI 34
    · by_cases c1 : k = 0
      · rw [if_pos (Or.inl c1)]
        refine ⟨fun p h => ?_, fun s k h => (nomatch h)⟩
        rw [← Sum.inl.inj h]
        subst c1
        simp only [Nat.add_zero] at c2 ⊢
        simp (disch := omega) only [hz_nI_lit, hz_nI_add, hz_nI_mul, hz_nI_lt, hz_nI_le, hz_nI_inj, hz_nI_sub, hz_nI_nat, hz_nI_inb, hz_nI_pred, hz_nI_m1_lt, hz_nI_lt_m1, hz_nI_m1_le, hz_nI_le_m1, hz_nI_eq_m1, hz_nI_m1_eq, hz_bI0, if_pos, if_neg, if_true, if_false, Option.bind_some, Prod.eta, reduceCtorEq, c2, hz_q_fail]
        exact ⟨_, _, rfl⟩
      · rw [if_neg (by intro h; exact h.elim c1 (fun h => h c2))]
        refine ⟨fun p h => (nomatch h), fun s k h => ?_⟩
        cases h
        have e5 : upd (hz_wrT fr (m + 10 + 11 * cnt + 1) tp (hz_skp tp L a + 1) k) (m + 10 + 11 * cnt) (hz_nI k) (m + 9) = hz_nI cnt := by
          unfold upd hz_wrT
          rw [if_neg (by omega), if_neg (by omega), hcnt]
        simp (disch := omega) only [hz_nI_lit, hz_nI_add, hz_nI_mul, hz_nI_lt, hz_nI_le, hz_nI_inj, hz_nI_sub, hz_nI_nat, hz_nI_inb, hz_nI_pred, hz_nI_m1_lt, hz_nI_lt_m1, hz_nI_m1_le, hz_nI_le_m1, hz_nI_eq_m1, hz_nI_m1_eq, hz_bI0, if_pos, if_neg, if_true, if_false, Option.bind_some, Prod.eta, reduceCtorEq, c1, c2, e5]
    · rw [if_pos (Or.inr c2)]
      refine ⟨fun p h => ?_, fun s k h => (nomatch h)⟩
      rw [← Sum.inl.inj h]
      rw [if_neg c2]
      exact ⟨_, _, rfl⟩
  · rw [if_neg c0, if_neg c0]
    refine ⟨fun p h => ?_, fun s k h => (nomatch h)⟩
    rw [← Sum.inl.inj h]
    refine ⟨hz_skp tp L a, fr, ?_⟩
    simp (disch := omega) only [hz_nI_lit, hz_nI_add, hz_nI_mul, hz_nI_lt, hz_nI_le, hz_nI_inj, hz_nI_sub, hz_nI_nat, hz_nI_inb, hz_nI_pred, hz_nI_m1_lt, hz_nI_lt_m1, hz_nI_m1_le, hz_nI_le_m1, hz_nI_eq_m1, hz_nI_m1_eq, hz_bI0, if_pos, if_neg, if_true, if_false, Option.bind_some, Prod.eta, reduceCtorEq, hcnt]
    rw [f_Model_name_26]
    unfold f_Model_name_101 f_Model_name_113
    simp (disch := omega) only [hz_nI_lit, hz_nI_add, hz_nI_mul, hz_nI_lt, hz_nI_le, hz_nI_inj, hz_nI_sub, hz_nI_nat, hz_nI_inb, hz_nI_pred, hz_nI_m1_lt, hz_nI_lt_m1, hz_nI_m1_le, hz_nI_le_m1, hz_nI_eq_m1, hz_nI_m1_eq, hz_bI0, if_pos, if_neg, if_true, if_false, Option.bind_some, Prod.eta, reduceCtorEq, hz_q_failW (show hz_skp tp L a ≤ 400 by omega)]
set_option maxRecDepth 100000 in
theorem hz_q_name_26W {g1 : Int32 × Int32} {l a : Int32} {p n : Nat} {m kk : Int32} (hp : p ≤ 400) {tp : Nat → Int32} {g3 : hz_M3} {r : hz_MR} : f_Model_name_26 (n + 1) (g1, (l, tp, a, hz_nI p), g3, r) m kk (hz_nI 0) = some (g1, (l, tp, a, hz_nI p), g3, r) := by
  rw [f_Model_name_26]
  unfold f_Model_name_101 f_Model_name_113
  simp (disch := omega) only [hz_nI_lit, hz_nI_add, hz_nI_mul, hz_nI_lt, hz_nI_le, hz_nI_inj, hz_nI_sub, hz_nI_nat, hz_nI_inb, hz_nI_pred, hz_nI_m1_lt, hz_nI_lt_m1, hz_nI_m1_le, hz_nI_le_m1, hz_nI_eq_m1, hz_nI_m1_eq, hz_bI0, if_pos, if_neg, if_true, if_false, Option.bind_some, Prod.eta, reduceCtorEq, hz_q_failW hp]
set_option maxRecDepth 100000 in
theorem hz_q_nameW {g1 : Int32 × Int32} {l a : Int32} {p m : Nat} (hp : p ≤ 400) (hm : m ≤ 516) {tp : Nat → Int32} {g3 : hz_M3} {r : hz_MR} : f_Model_name (g1, (l, tp, a, hz_nI p), g3, r) (hz_nI m) = some (g1, (l, tp, a, hz_nI p), g3, r) := by
  unfold f_Model_name
  rw [hz_nI_lit, hz_q_takeW hp, Option.bind_some]
  have e : ∀ m kk : Int32, f_Model_name_26 4096 (g1, (l, tp, a, hz_nI p), g3, r) m kk (hz_nI 0) = some (g1, (l, tp, a, hz_nI p), g3, r) := fun m kk => hz_q_name_26W (n := 4095) hp
  simp (disch := omega) only [hz_nI_lit, hz_nI_add, hz_nI_mul, hz_nI_lt, hz_nI_le, hz_nI_inj, hz_nI_sub, hz_nI_nat, hz_nI_inb, hz_nI_pred, hz_nI_m1_lt, hz_nI_lt_m1, hz_nI_m1_le, hz_nI_le_m1, hz_nI_eq_m1, hz_nI_m1_eq, hz_bI0, if_pos, if_neg, if_true, if_false, Option.bind_some, Prod.eta, reduceCtorEq, e]
set_option maxRecDepth 100000 in
theorem hz_p_takeD {tp : Nat → Int32} {L a : Nat} {v w c : Int32} (hL : L ≤ 400) (ha : a ≤ L) (hd : hz_dg (hz_hereT tp L a) = true) (hc : hz_dg c = false) : f_Reader_take (tp, hz_nI L, hz_nI a, v, w) c = some (false, (tp, hz_nI L, hz_nI a, v, hz_nI a)) := by
  rw [hz_p_take hL ha, hz_skp_no (hz_dg_ne hd).2.1, if_neg (fun h => by rw [h, hc] at hd; exact absurd hd (by decide))]
set_option maxRecDepth 100000 in
def hz_oF (tp : Nat → Int32) (L : Nat) (g1 : Int32 × Int32) (nm : Int32) (ng : Bool) (r : hz_MR) (C : Option (Bool × SReader × STable)) (M : Option SModel) : Prop :=
  ∃ p b x tb' b1 fr', p ≤ L ∧ C = some (false, (tp, hz_nI L, b, x, hz_nI p), tb') ∧ M = some (g1, (hz_nI L, tp, b1, hz_nI p), (nm, ng, fr'), r)
set_option maxRecDepth 100000 in
theorem hz_q_due_52W {g1 : Int32 × Int32} {l a : Int32} {p m : Nat} (hp : p ≤ 400) (hm : m ≤ 516) {tp : Nat → Int32} {nm : Int32} {ng : Bool} {r : hz_MR} : ∀ k i n fr, 4 = i + k → k < n → ∃ fr', f_Model_due_52 n (g1, (l, tp, a, hz_nI p), (nm, ng, fr), r) (hz_nI m) (hz_nI i) = some (g1, (l, tp, a, hz_nI p), (nm, ng, fr'), r)
  | 0, i, n + 1, fr, h1, h2 => by
    refine ⟨fr, ?_⟩
    rw [f_Model_due_52]
    simp (disch := omega) only [hz_nI_lit, hz_nI_add, hz_nI_mul, hz_nI_lt, hz_nI_le, hz_nI_inj, hz_nI_sub, hz_nI_nat, hz_nI_inb, hz_nI_pred, hz_nI_m1_lt, hz_nI_lt_m1, hz_nI_m1_le, hz_nI_le_m1, hz_nI_eq_m1, hz_nI_m1_eq, hz_bI0, if_pos, if_neg, if_true, if_false, Option.bind_some, Prod.eta, reduceCtorEq]
  | k + 1, i, n + 1, fr, h1, h2 => by
    obtain ⟨fr', e⟩ := hz_q_due_52W (g1 := g1) (l := l) (a := a) hp hm (tp := tp) (nm := nm) (ng := ng) (r := r) k (i + 1) n (upd fr (m + 4 + i) (hz_nI 0)) (by omega) (by omega)
    refine ⟨fr', ?_⟩
    rw [f_Model_due_52]
    unfold f_Model_due_67
    by_cases c : i = 0
    · subst c
      simp (disch := omega) only [hz_nI_lit, hz_nI_add, hz_nI_mul, hz_nI_lt, hz_nI_le, hz_nI_inj, hz_nI_sub, hz_nI_nat, hz_nI_inb, hz_nI_pred, hz_nI_m1_lt, hz_nI_lt_m1, hz_nI_m1_le, hz_nI_le_m1, hz_nI_eq_m1, hz_nI_m1_eq, hz_bI0, if_pos, if_neg, if_true, if_false, Option.bind_some, Prod.eta, reduceCtorEq, hz_q_numW hp, hz_q_takeW hp]
      exact e
    · simp (disch := omega) only [hz_nI_lit, hz_nI_add, hz_nI_mul, hz_nI_lt, hz_nI_le, hz_nI_inj, hz_nI_sub, hz_nI_nat, hz_nI_inb, hz_nI_pred, hz_nI_m1_lt, hz_nI_lt_m1, hz_nI_m1_le, hz_nI_le_m1, hz_nI_eq_m1, hz_nI_m1_eq, hz_bI0, if_pos, if_neg, if_true, if_false, Option.bind_some, Prod.eta, reduceCtorEq, hz_q_numW hp, hz_q_takeW hp]
      exact e
set_option maxRecDepth 100000 in
def hz_oD (tp : Nat → Int32) (L : Nat) (w : Int32) (t1 t2 t3 t4 : Nat → Int32) (t5 : Int32) (t6 : Bool) (g1 : Int32 × Int32) (nm : Int32) (ng : Bool) (fr : Nat → Int32) (r : hz_MR) (c m i a : Nat) (C : Option (Bool × SReader × STable)) (M : Option SModel) : Prop :=
  hz_oF tp L g1 nm ng r C M ∨
  ∃ b x t2', a ≤ b ∧ b ≤ L ∧ C = some (true, (tp, hz_nI L, hz_nI b, x, w), (t1, t2', t3, t4, t5, t6)) ∧
    ((∃ fr', M = some (g1, (hz_nI L, tp, hz_nI b, -hz_nI 1), (nm, ng, fr'), r) ∧ (∀ j, i ≤ j → j < 4 → ∃ d, d ≤ 9999 ∧ t2' (c * 9 + 3 + j) = hz_nI d ∧ fr' (m + 4 + j) = hz_nI d) ∧ (∀ q, ¬ (c * 9 + 3 + i ≤ q ∧ q < c * 9 + 7) → t2' q = t2 q) ∧ (∀ q, ¬ (m + 4 + i ≤ q ∧ q < m + 8) → fr' q = fr q)) ∨
     (hz_dg (hz_hereT tp L b) = true ∧ ∃ fr', M = some (g1, (hz_nI L, tp, hz_nI b, hz_nI b), (nm, ng, fr'), r)))
set_option maxRecDepth 100000 in
theorem hz_pq_dist {tp : Nat → Int32} {L : Nat} {w : Int32} {t1 t3 t4 : Nat → Int32} {t5 : Int32} {t6 : Bool} {g1 : Int32 × Int32} {nm : Int32} {ng : Bool} {r : hz_MR} {c m : Nat} (hL : L ≤ 400) (hc : c ≤ 12) (hm : m ≤ 516) :
    ∀ k i n1 n2 a x t2 fr, 4 = i + k → 1 ≤ i → k < n1 → k < n2 → a ≤ L → hz_oD tp L w t1 t2 t3 t4 t5 t6 g1 nm ng fr r c m i a (f_Reader_readDue_68 n1 (tp, hz_nI L, hz_nI a, x, w) (t1, t2, t3, t4, t5, t6) (hz_nI c) (hz_nI i)) (f_Model_due_52 n2 (g1, (hz_nI L, tp, hz_nI a, -hz_nI 1), (nm, ng, fr), r) (hz_nI m) (hz_nI i)) := by
  intro k
  induction k with
  | zero =>
    intro i n1 n2 a x t2 fr h1 h2 h3 h4 h5
    obtain ⟨n1, rfl⟩ : ∃ n', n1 = n' + 1 := ⟨n1 - 1, by omega⟩
    obtain ⟨n2, rfl⟩ : ∃ n', n2 = n' + 1 := ⟨n2 - 1, by omega⟩
    rw [f_Reader_readDue_68, f_Model_due_52]
    refine Or.inr ⟨a, x, t2, Nat.le_refl _, h5, ?_, Or.inl ⟨fr, ?_, fun j _ _ => by omega, fun _ _ => rfl, fun _ _ => rfl⟩⟩
    · simp (disch := omega) only [hz_nI_lit, hz_nI_add, hz_nI_mul, hz_nI_lt, hz_nI_le, hz_nI_inj, hz_nI_sub, hz_nI_nat, hz_nI_inb, hz_nI_pred, hz_nI_m1_lt, hz_nI_lt_m1, hz_nI_m1_le, hz_nI_le_m1, hz_nI_eq_m1, hz_nI_m1_eq, hz_bI0, if_pos, if_neg, if_true, if_false, Option.bind_some, Prod.eta, reduceCtorEq]
    · simp (disch := omega) only [hz_nI_lit, hz_nI_add, hz_nI_mul, hz_nI_lt, hz_nI_le, hz_nI_inj, hz_nI_sub, hz_nI_nat, hz_nI_inb, hz_nI_pred, hz_nI_m1_lt, hz_nI_lt_m1, hz_nI_m1_le, hz_nI_le_m1, hz_nI_eq_m1, hz_nI_m1_eq, hz_bI0, if_pos, if_neg, if_true, if_false, Option.bind_some, Prod.eta, reduceCtorEq]
  | succ k ihk =>
    intro i n1 n2 a x t2 fr h1 h2 h3 h4 h5
    obtain ⟨n1, rfl⟩ : ∃ n', n1 = n' + 1 := ⟨n1 - 1, by omega⟩
    obtain ⟨n2, rfl⟩ : ∃ n', n2 = n' + 1 := ⟨n2 - 1, by omega⟩
    have hs := hz_skp_bd (tp := tp) h5
    have eC : f_Reader_readDue_68 (n1 + 1) (tp, hz_nI L, hz_nI a, x, w) (t1, t2, t3, t4, t5, t6) (hz_nI c) (hz_nI i) = f_Reader_readDue_85 (f_Reader_readDue_68 n1) (tp, hz_nI L, hz_nI a, x, w) (t1, t2, t3, t4, t5, t6) (hz_nI c) (hz_nI i) (hz_nI 44) := by
      rw [f_Reader_readDue_68]; simp (disch := omega) only [hz_nI_lit, hz_nI_add, hz_nI_mul, hz_nI_lt, hz_nI_le, hz_nI_inj, hz_nI_sub, hz_nI_nat, hz_nI_inb, hz_nI_pred, hz_nI_m1_lt, hz_nI_lt_m1, hz_nI_m1_le, hz_nI_le_m1, hz_nI_eq_m1, hz_nI_m1_eq, hz_bI0, if_pos, if_neg, if_true, if_false, Option.bind_some, Prod.eta, reduceCtorEq]
    have eM : f_Model_due_52 (n2 + 1) (g1, (hz_nI L, tp, hz_nI a, -hz_nI 1), (nm, ng, fr), r) (hz_nI m) (hz_nI i) = Option.bind (f_Model_take (g1, (hz_nI L, tp, hz_nI a, -hz_nI 1), (nm, ng, fr), r) (hz_nI 44)) fun u => f_Model_due_67 (f_Model_due_52 n2) u (hz_nI m) (hz_nI i) := by
      rw [f_Model_due_52]; simp (disch := omega) only [hz_nI_lit, hz_nI_add, hz_nI_mul, hz_nI_lt, hz_nI_le, hz_nI_inj, hz_nI_sub, hz_nI_nat, hz_nI_inb, hz_nI_pred, hz_nI_m1_lt, hz_nI_lt_m1, hz_nI_m1_le, hz_nI_le_m1, hz_nI_eq_m1, hz_nI_m1_eq, hz_bI0, if_pos, if_neg, if_true, if_false, Option.bind_some, Prod.eta, reduceCtorEq]
    rw [eC, eM]
    unfold f_Reader_readDue_85 f_Model_due_67
    rw [hz_p_take hL h5, hz_q_take hL h5]
    by_cases c0 : hz_hereT tp L (hz_skp tp L a) = hz_nI 44
    · have hl := hz_hereT_lt c0 (by decide)
      rw [if_pos c0, if_pos c0]
      simp only [Option.bind_some, hz_nI_lit, hz_bI0, Bool.true_eq_false, if_false]
      have hN := hz_p_num (tp := tp) (v := x) (w := w) (lo := 0) (hi := 9999) hL (by omega) (by omega) (show hz_skp tp L a + 1 ≤ L from hl)
      have hQ := hz_q_num (g1 := g1) (tp := tp) (g3 := (nm, ng, fr)) (r := r) (lo := 0) (hi := 9999) hL (by omega) (by omega) (show hz_skp tp L a + 1 ≤ L from hl)
      have hB := hz_numS_bd (tp := tp) (lo := 0) (hi := 9999) (by omega) (show hz_skp tp L a + 1 ≤ L from hl)
      cases hq : hz_numS tp L 0 9999 (hz_skp tp L a + 1) with
      | inl p =>
        obtain ⟨b, y, hb, e1⟩ := hN.1 p hq
        obtain ⟨b1, hb1, e2⟩ := hQ.1 p hq
        have hpL := hB.1 p hq
        obtain ⟨fr', e3⟩ := hz_q_due_52W (g1 := g1) (l := hz_nI L) (a := hz_nI b1) (show p ≤ 400 by omega) hm (tp := tp) (nm := nm) (ng := ng) (r := r) k (i + 1) n2 (upd fr (m + 4 + i) (hz_nI 0)) (by omega) (by omega)
        rw [e1, e2]
        simp (disch := omega) only [hz_nI_lit, hz_nI_add, hz_nI_mul, hz_nI_lt, hz_nI_le, hz_nI_inj, hz_nI_sub, hz_nI_nat, hz_nI_inb, hz_nI_pred, hz_nI_m1_lt, hz_nI_lt_m1, hz_nI_m1_le, hz_nI_le_m1, hz_nI_eq_m1, hz_nI_m1_eq, hz_bI0, if_pos, if_neg, if_true, if_false, Option.bind_some, Prod.eta, reduceCtorEq]
        rw [e3]
        exact Or.inl ⟨p, _, _, _, _, fr', hpL, rfl, rfl⟩
      | inr z =>
        obtain ⟨v, b⟩ := z
        have e1 := hN.2 v b hq
        have hb := hB.2 v b hq
        have e1' : (f_Reader_readNumber (tp, hz_nI L, hz_nI (hz_skp tp L a + 1), x, w) (hz_nI 0) (hz_nI 9999)).bind (fun u15 => if u15.fst = false then some (false, u15.snd, t1, t2, t3, t4, t5, t6) else (f_Table_setCell (t1, t2, t3, t4, t5, t6) (hz_nI c) (hz_nI 3 + hz_nI i) u15.snd.snd.snd.snd.fst).bind fun u17 => f_Reader_readDue_68 n1 u15.snd u17 (hz_nI c) (hz_nI i + hz_nI 1)) = f_Reader_readDue_68 n1 (tp, hz_nI L, hz_nI b, hz_nI v, w) (t1, upd t2 (c * 9 + 3 + i) (hz_nI v), t3, t4, t5, t6) (hz_nI c) (hz_nI (i + 1)) := by
          rw [e1]
          simp (disch := omega) only [hz_nI_lit, hz_nI_add, hz_nI_mul, hz_nI_lt, hz_nI_le, hz_nI_inj, hz_nI_sub, hz_nI_nat, hz_nI_inb, hz_nI_pred, hz_nI_m1_lt, hz_nI_lt_m1, hz_nI_m1_le, hz_nI_le_m1, hz_nI_eq_m1, hz_nI_m1_eq, hz_bI0, if_pos, if_neg, if_true, if_false, Option.bind_some, Prod.eta, reduceCtorEq, Bool.true_eq_false]
          rw [hz_p_setCell hc (show 3 + i < 9 by omega)]
          rw [show c * 9 + (3 + i) = c * 9 + 3 + i by omega]
          rfl
        rw [e1']
        rcases hQ.2 v b hq with e2 | ⟨hd, e2⟩
        · rw [e2]
          simp (disch := omega) only [hz_nI_lit, hz_nI_add, hz_nI_mul, hz_nI_lt, hz_nI_le, hz_nI_inj, hz_nI_sub, hz_nI_nat, hz_nI_inb, hz_nI_pred, hz_nI_m1_lt, hz_nI_lt_m1, hz_nI_m1_le, hz_nI_le_m1, hz_nI_eq_m1, hz_nI_m1_eq, hz_bI0, if_pos, if_neg, if_true, if_false, Option.bind_some, Prod.eta, reduceCtorEq]
          have ih := ihk (i + 1) n1 n2 b (hz_nI v) (upd t2 (c * 9 + 3 + i) (hz_nI v)) (upd fr (m + 4 + i) (hz_nI v)) (by omega) (by omega) (by omega) (by omega) hb.2.1
          rcases ih with ih | ⟨b2, x2, t2', i1, i2, i3, i4⟩
          · exact Or.inl ih
          · refine Or.inr ⟨b2, x2, t2', by omega, i2, i3, ?_⟩
            rcases i4 with ⟨fr', j1, j2, j3, j4⟩ | i4
            · refine Or.inl ⟨fr', j1, fun j hj1 hj2 => ?_, fun q hq => ?_, fun q hq => ?_⟩
              · by_cases hji : j = i
                · subst hji
                  refine ⟨v, hb.2.2.2, ?_, ?_⟩
                  · rw [j3 _ (by omega)]; unfold upd; rw [if_pos rfl]
                  · rw [j4 _ (by omega)]; unfold upd; rw [if_pos rfl]
                · exact j2 j (by omega) hj2
              · rw [j3 q (by omega)]; unfold upd; rw [if_neg (by omega)]
              · rw [j4 q (by omega)]; unfold upd; rw [if_neg (by omega)]
            · exact Or.inr i4
        · rw [e2]
          simp (disch := omega) only [hz_nI_lit, hz_nI_add, hz_nI_mul, hz_nI_lt, hz_nI_le, hz_nI_inj, hz_nI_sub, hz_nI_nat, hz_nI_inb, hz_nI_pred, hz_nI_m1_lt, hz_nI_lt_m1, hz_nI_m1_le, hz_nI_le_m1, hz_nI_eq_m1, hz_nI_m1_eq, hz_bI0, if_pos, if_neg, if_true, if_false, Option.bind_some, Prod.eta, reduceCtorEq]
          obtain ⟨fr', e3⟩ := hz_q_due_52W (g1 := g1) (l := hz_nI L) (a := hz_nI b) (show b ≤ 400 by omega) hm (tp := tp) (nm := nm) (ng := ng) (r := r) k (i + 1) n2 (upd fr (m + 4 + i) (hz_nI 0)) (by omega) (by omega)
          rw [e3]
          by_cases hk : k = 0
          · subst hk
            obtain ⟨n1', rfl⟩ : ∃ n', n1 = n' + 1 := ⟨n1 - 1, by omega⟩
            rw [f_Reader_readDue_68]
            have : i = 3 := by omega
            subst this
            simp (disch := omega) only [hz_nI_lit, hz_nI_add, hz_nI_mul, hz_nI_lt, hz_nI_le, hz_nI_inj, hz_nI_sub, hz_nI_nat, hz_nI_inb, hz_nI_pred, hz_nI_m1_lt, hz_nI_lt_m1, hz_nI_m1_le, hz_nI_le_m1, hz_nI_eq_m1, hz_nI_m1_eq, hz_bI0, if_pos, if_neg, if_true, if_false, Option.bind_some, Prod.eta, reduceCtorEq]
            exact Or.inr ⟨b, _, _, by omega, hb.2.1, rfl, Or.inr ⟨hd, fr', rfl⟩⟩
          · obtain ⟨n1', rfl⟩ : ∃ n', n1 = n' + 1 := ⟨n1 - 1, by omega⟩
            rw [f_Reader_readDue_68]
            unfold f_Reader_readDue_85
            have e5 : f_Reader_take (tp, hz_nI L, hz_nI b, hz_nI v, w) (hz_nI 44) = some (false, (tp, hz_nI L, hz_nI b, hz_nI v, hz_nI b)) := hz_p_takeD hL hb.2.1 hd (by decide)
            simp (disch := omega) only [hz_nI_lit, hz_nI_add, hz_nI_mul, hz_nI_lt, hz_nI_le, hz_nI_inj, hz_nI_sub, hz_nI_nat, hz_nI_inb, hz_nI_pred, hz_nI_m1_lt, hz_nI_lt_m1, hz_nI_m1_le, hz_nI_le_m1, hz_nI_eq_m1, hz_nI_m1_eq, hz_bI0, if_pos, if_neg, if_true, if_false, Option.bind_some, Prod.eta, reduceCtorEq, e5]
            exact Or.inl ⟨b, _, _, _, _, fr', hb.2.1, rfl, rfl⟩
    · rw [if_neg c0, if_neg c0]
      simp only [Option.bind_some, hz_nI_lit, hz_bI0, if_true]
      obtain ⟨fr', e3⟩ := hz_q_due_52W (g1 := g1) (l := hz_nI L) (a := hz_nI (hz_skp tp L a)) (show hz_skp tp L a ≤ 400 by omega) hm (tp := tp) (nm := nm) (ng := ng) (r := r) k (i + 1) n2 (upd fr (m + 4 + i) (hz_nI 0)) (by omega) (by omega)
      rw [hz_q_numW (show hz_skp tp L a ≤ 400 by omega)]
      simp (disch := omega) only [hz_nI_lit, hz_nI_add, hz_nI_mul, hz_nI_lt, hz_nI_le, hz_nI_inj, hz_nI_sub, hz_nI_nat, hz_nI_inb, hz_nI_pred, hz_nI_m1_lt, hz_nI_lt_m1, hz_nI_m1_le, hz_nI_le_m1, hz_nI_eq_m1, hz_nI_m1_eq, hz_bI0, if_pos, if_neg, if_true, if_false, Option.bind_some, Prod.eta, reduceCtorEq]
      rw [e3]
      exact Or.inl ⟨_, _, _, _, _, fr', hs.2, rfl, rfl⟩
set_option maxRecDepth 100000 in
theorem hz_eC_68 {n : Nat} {rd : SReader} {tb : STable} {c : Int32} : f_Reader_readDue_68 (n + 1) rd tb c (hz_nI 0) = f_Reader_readDue_85 (f_Reader_readDue_68 n) rd tb c (hz_nI 0) (hz_nI 64) := by
  rw [f_Reader_readDue_68]; simp (disch := omega) only [hz_nI_lit, hz_nI_add, hz_nI_mul, hz_nI_lt, hz_nI_le, hz_nI_inj, hz_nI_sub, hz_nI_nat, hz_nI_inb, hz_nI_pred, hz_nI_m1_lt, hz_nI_lt_m1, hz_nI_m1_le, hz_nI_le_m1, hz_nI_eq_m1, hz_nI_m1_eq, hz_bI0, if_pos, if_neg, if_true, if_false, Option.bind_some, Prod.eta, reduceCtorEq]
set_option maxRecDepth 100000 in
theorem hz_eM_52 {n : Nat} {md : SModel} {m : Int32} : f_Model_due_52 (n + 1) md m (hz_nI 0) = f_Model_due_67 (f_Model_due_52 n) md m (hz_nI 0) := by
  rw [f_Model_due_52]; simp (disch := omega) only [hz_nI_lit, hz_nI_add, hz_nI_mul, hz_nI_lt, hz_nI_le, hz_nI_inj, hz_nI_sub, hz_nI_nat, hz_nI_inb, hz_nI_pred, hz_nI_m1_lt, hz_nI_lt_m1, hz_nI_m1_le, hz_nI_le_m1, hz_nI_eq_m1, hz_nI_m1_eq, hz_bI0, if_pos, if_neg, if_true, if_false, Option.bind_some, Prod.eta, reduceCtorEq]
set_option maxRecDepth 100000 in
theorem hz_pq_d0 {tp : Nat → Int32} {L : Nat} {w : Int32} {t1 t3 t4 : Nat → Int32} {t5 : Int32} {t6 : Bool} {g1 : Int32 × Int32} {nm : Int32} {ng : Bool} {r : hz_MR} {c m a a1 n1 n2 : Nat} {x : Int32} {t2 fr : Nat → Int32} (hL : L ≤ 400) (hc : c ≤ 12) (hm : m ≤ 516) (ha : a ≤ L) (ha1 : a1 ≤ L) (hsk : hz_skp tp L a1 = hz_skp tp L a) (hn1 : 3 < n1) (hn2 : 3 < n2) :
    hz_oD tp L w t1 t2 t3 t4 t5 t6 g1 nm ng fr r c m 0 a (f_Reader_readDue_68 (n1 + 1) (tp, hz_nI L, hz_nI a, x, w) (t1, t2, t3, t4, t5, t6) (hz_nI c) (hz_nI 0)) (Option.bind (f_Model_take (g1, (hz_nI L, tp, hz_nI a1, -hz_nI 1), (nm, ng, fr), r) (hz_nI 64)) fun u => f_Model_due_52 (n2 + 1) u (hz_nI m) (hz_nI 0)) := by
  have hs := hz_skp_bd (tp := tp) ha
  rw [hz_eC_68]
  simp only [hz_eM_52]
  unfold f_Reader_readDue_85 f_Model_due_67
  rw [hz_p_take hL ha, hz_q_take hL ha1, hsk]
  by_cases c0 : hz_hereT tp L (hz_skp tp L a) = hz_nI 64
  · have hl := hz_hereT_lt c0 (by decide)
    rw [if_pos c0, if_pos c0]
    simp only [Option.bind_some, hz_nI_lit, hz_bI0, Bool.true_eq_false, if_false]
    have hN := hz_p_num (tp := tp) (v := x) (w := w) (lo := 0) (hi := 9999) hL (by omega) (by omega) (show hz_skp tp L a + 1 ≤ L from hl)
    have hQ := hz_q_num (g1 := g1) (tp := tp) (g3 := (nm, ng, fr)) (r := r) (lo := 0) (hi := 9999) hL (by omega) (by omega) (show hz_skp tp L a + 1 ≤ L from hl)
    have hB := hz_numS_bd (tp := tp) (lo := 0) (hi := 9999) (by omega) (show hz_skp tp L a + 1 ≤ L from hl)
    cases hq : hz_numS tp L 0 9999 (hz_skp tp L a + 1) with
    | inl p =>
      obtain ⟨b, y, hb, e1⟩ := hN.1 p hq
      obtain ⟨b1, hb1, e2⟩ := hQ.1 p hq
      have hpL := hB.1 p hq
      obtain ⟨fr', e3⟩ := hz_q_due_52W (g1 := g1) (l := hz_nI L) (a := hz_nI b1) (show p ≤ 400 by omega) hm (tp := tp) (nm := nm) (ng := ng) (r := r) 3 1 n2 (upd fr (m + 4 + 0) (hz_nI 0)) (by omega) (by omega)
      rw [e1, e2]
      simp (disch := omega) only [hz_nI_lit, hz_nI_add, hz_nI_mul, hz_nI_lt, hz_nI_le, hz_nI_inj, hz_nI_sub, hz_nI_nat, hz_nI_inb, hz_nI_pred, hz_nI_m1_lt, hz_nI_lt_m1, hz_nI_m1_le, hz_nI_le_m1, hz_nI_eq_m1, hz_nI_m1_eq, hz_bI0, if_pos, if_neg, if_true, if_false, Option.bind_some, Prod.eta, reduceCtorEq]
      rw [e3]
      exact Or.inl ⟨p, _, _, _, _, fr', hpL, rfl, rfl⟩
    | inr z =>
      obtain ⟨v, b⟩ := z
      have e1 := hN.2 v b hq
      have hb := hB.2 v b hq
      rw [e1]
      have e9 : f_Table_setCell (t1, t2, t3, t4, t5, t6) (hz_nI c) (hz_nI (3 + 0)) (hz_nI v) = some (t1, upd t2 (c * 9 + 3) (hz_nI v), t3, t4, t5, t6) := hz_p_setCell hc (show 3 + 0 < 9 by omega)
      rcases hQ.2 v b hq with e2 | ⟨hd, e2⟩
      · rw [e2]
        simp (disch := omega) only [hz_nI_lit, hz_nI_add, hz_nI_mul, hz_nI_lt, hz_nI_le, hz_nI_inj, hz_nI_sub, hz_nI_nat, hz_nI_inb, hz_nI_pred, hz_nI_m1_lt, hz_nI_lt_m1, hz_nI_m1_le, hz_nI_le_m1, hz_nI_eq_m1, hz_nI_m1_eq, hz_bI0, if_pos, if_neg, if_true, if_false, Option.bind_some, Prod.eta, reduceCtorEq, Bool.true_eq_false, e9]
        have ih := hz_pq_dist (tp := tp) (w := w) (t1 := t1) (t3 := t3) (t4 := t4) (t5 := t5) (t6 := t6) (g1 := g1) (nm := nm) (ng := ng) (r := r) hL hc hm 3 1 n1 n2 b (hz_nI v) (upd t2 (c * 9 + 3) (hz_nI v)) (upd fr (m + 4 + 0) (hz_nI v)) (by omega) (by omega) (by omega) (by omega) hb.2.1
        rcases ih with ih | ⟨b2, x2, t2', i1, i2, i3, i4⟩
        · exact Or.inl ih
        · refine Or.inr ⟨b2, x2, t2', by omega, i2, i3, ?_⟩
          rcases i4 with ⟨fr', j1, j2, j3, j4⟩ | i4
          · refine Or.inl ⟨fr', j1, fun j hj1 hj2 => ?_, fun q hq => ?_, fun q hq => ?_⟩
            · by_cases hji : j = 0
              · subst hji
                refine ⟨v, hb.2.2.2, ?_, ?_⟩
                · rw [j3 _ (by omega)]; unfold upd; rw [if_pos rfl]
                · rw [j4 _ (by omega)]; unfold upd; rw [if_pos rfl]
              · exact j2 j (by omega) hj2
            · rw [j3 q (by omega)]; unfold upd; rw [if_neg (by omega)]
            · rw [j4 q (by omega)]; unfold upd; rw [if_neg (by omega)]
          · exact Or.inr i4
      · rw [e2]
        obtain ⟨fr', e3⟩ := hz_q_due_52W (g1 := g1) (l := hz_nI L) (a := hz_nI b) (show b ≤ 400 by omega) hm (tp := tp) (nm := nm) (ng := ng) (r := r) 3 1 n2 (upd fr (m + 4 + 0) (hz_nI 0)) (by omega) (by omega)
        obtain ⟨n1', rfl⟩ : ∃ n', n1 = n' + 1 := ⟨n1 - 1, by omega⟩
        have e5 : f_Reader_take (tp, hz_nI L, hz_nI b, hz_nI v, w) (hz_nI 44) = some (false, (tp, hz_nI L, hz_nI b, hz_nI v, hz_nI b)) := hz_p_takeD hL hb.2.1 hd (by decide)
        have e6 : ∀ t2', f_Reader_readDue_68 (n1' + 1) (tp, hz_nI L, hz_nI b, hz_nI v, w) (t1, t2', t3, t4, t5, t6) (hz_nI c) (hz_nI (0 + 1)) = some (false, (tp, hz_nI L, hz_nI b, hz_nI v, hz_nI b), (t1, t2', t3, t4, t5, t6)) := by
          intro t2'
          rw [f_Reader_readDue_68]
          unfold f_Reader_readDue_85
          simp (disch := omega) only [hz_nI_lit, hz_nI_add, hz_nI_mul, hz_nI_lt, hz_nI_le, hz_nI_inj, hz_nI_sub, hz_nI_nat, hz_nI_inb, hz_nI_pred, hz_nI_m1_lt, hz_nI_lt_m1, hz_nI_m1_le, hz_nI_le_m1, hz_nI_eq_m1, hz_nI_m1_eq, hz_bI0, if_pos, if_neg, if_true, if_false, Option.bind_some, Prod.eta, reduceCtorEq, e5]
        simp (disch := omega) only [hz_nI_lit, hz_nI_add, hz_nI_mul, hz_nI_lt, hz_nI_le, hz_nI_inj, hz_nI_sub, hz_nI_nat, hz_nI_inb, hz_nI_pred, hz_nI_m1_lt, hz_nI_lt_m1, hz_nI_m1_le, hz_nI_le_m1, hz_nI_eq_m1, hz_nI_m1_eq, hz_bI0, if_pos, if_neg, if_true, if_false, Option.bind_some, Prod.eta, reduceCtorEq, Bool.true_eq_false, e9]
        rw [e3, e6]
        exact Or.inl ⟨b, _, _, _, _, fr', hb.2.1, rfl, rfl⟩
  · rw [if_neg c0, if_neg c0]
    simp only [Option.bind_some, hz_nI_lit, hz_bI0, if_true]
    obtain ⟨fr', e3⟩ := hz_q_due_52W (g1 := g1) (l := hz_nI L) (a := hz_nI (hz_skp tp L a)) (show hz_skp tp L a ≤ 400 by omega) hm (tp := tp) (nm := nm) (ng := ng) (r := r) 3 1 n2 (upd fr (m + 4 + 0) (hz_nI 0)) (by omega) (by omega)
    rw [hz_q_numW (show hz_skp tp L a ≤ 400 by omega)]
    simp (disch := omega) only [hz_nI_lit, hz_nI_add, hz_nI_mul, hz_nI_lt, hz_nI_le, hz_nI_inj, hz_nI_sub, hz_nI_nat, hz_nI_inb, hz_nI_pred, hz_nI_m1_lt, hz_nI_lt_m1, hz_nI_m1_le, hz_nI_le_m1, hz_nI_eq_m1, hz_nI_m1_eq, hz_bI0, if_pos, if_neg, if_true, if_false, Option.bind_some, Prod.eta, reduceCtorEq]
    rw [e3]
    exact Or.inl ⟨_, _, _, _, _, fr', hs.2, rfl, rfl⟩
set_option maxRecDepth 100000 in
theorem hz_q_due_tailW {g1 : Int32 × Int32} {l a : Int32} {p m : Nat} (hp : p ≤ 400) (hm : m ≤ 516) {tp : Nat → Int32} {nm : Int32} {ng : Bool} {fr : Nat → Int32} {r : hz_MR} : ∃ fr', f_Model_due_52 4096 (g1, (l, tp, a, hz_nI p), (nm, ng, fr), r) (hz_nI m) (hz_nI 0) = some (g1, (l, tp, a, hz_nI p), (nm, ng, fr'), r) :=
  hz_q_due_52W hp hm 4 0 4096 fr (by omega) (by omega)
set_option maxRecDepth 100000 in
def hz_oDue (tp : Nat → Int32) (L : Nat) (w : Int32) (t1 t2 t3 t4 : Nat → Int32) (t5 : Int32) (t6 : Bool) (g1 : Int32 × Int32) (nm : Int32) (ng : Bool) (fr : Nat → Int32) (r : hz_MR) (c m a : Nat) (C : Option (Bool × SReader × STable)) (M : Option SModel) : Prop :=
  hz_oF tp L g1 nm ng r C M ∨
  ∃ b x t2', a ≤ b ∧ b ≤ L ∧ C = some (true, (tp, hz_nI L, hz_nI b, x, w), (t1, t2', t3, t4, t5, t6)) ∧
    ((∃ fr', M = some (g1, (hz_nI L, tp, hz_nI b, -hz_nI 1), (nm, ng, fr'), r) ∧ t2' (c * 9 + 1) = fr' (m + 2) ∧ t2' (c * 9 + 2) = fr' (m + 3) ∧ (∀ j, j < 4 → ∃ d, d ≤ 9999 ∧ t2' (c * 9 + 3 + j) = hz_nI d ∧ fr' (m + 4 + j) = hz_nI d) ∧ (∀ q, ¬ (c * 9 + 1 ≤ q ∧ q < c * 9 + 7) → t2' q = t2 q) ∧ (∀ q, ¬ (m + 2 ≤ q ∧ q < m + 8) → fr' q = fr q)) ∨
     (hz_dg (hz_hereT tp L b) = true ∧ ∃ fr', M = some (g1, (hz_nI L, tp, hz_nI b, hz_nI b), (nm, ng, fr'), r)))
set_option maxRecDepth 100000 in
theorem hz_q_dueW {g1 : Int32 × Int32} {l a : Int32} {p m : Nat} (hp : p ≤ 400) (hm : m ≤ 516) {tp : Nat → Int32} {nm : Int32} {ng : Bool} {fr : Nat → Int32} {r : hz_MR} : ∃ fr', f_Model_due (g1, (l, tp, a, hz_nI p), (nm, ng, fr), r) (hz_nI m) = some (g1, (l, tp, a, hz_nI p), (nm, ng, fr'), r) := by
  obtain ⟨fr', e⟩ := hz_q_due_tailW (g1 := g1) (l := l) (a := a) hp hm (tp := tp) (nm := nm) (ng := ng) (fr := upd (upd fr (m + 2) (hz_nI 0)) (m + 3) (hz_nI 0)) (r := r)
  refine ⟨fr', ?_⟩
  unfold f_Model_due
  simp (disch := omega) only [hz_nI_lit, hz_nI_add, hz_nI_mul, hz_nI_lt, hz_nI_le, hz_nI_inj, hz_nI_sub, hz_nI_nat, hz_nI_inb, hz_nI_pred, hz_nI_m1_lt, hz_nI_lt_m1, hz_nI_m1_le, hz_nI_le_m1, hz_nI_eq_m1, hz_nI_m1_eq, hz_bI0, if_pos, if_neg, if_true, if_false, Option.bind_some, Prod.eta, reduceCtorEq, hz_q_takeW hp, hz_q_numW hp, hz_q_riseW hp]
  exact e
set_option maxRecDepth 100000 in
theorem hz_pq_due {tp : Nat → Int32} {L : Nat} {w : Int32} {t1 t2 t3 t4 : Nat → Int32} {t5 : Int32} {t6 : Bool} {g1 : Int32 × Int32} {nm : Int32} {ng : Bool} {fr : Nat → Int32} {r : hz_MR} {c m a : Nat} {x : Int32} (hL : L ≤ 400) (hc : c ≤ 12) (hm : m ≤ 516) (ha : a ≤ L) :
    hz_oDue tp L w t1 t2 t3 t4 t5 t6 g1 nm ng fr r c m a (f_Reader_readDue (tp, hz_nI L, hz_nI a, x, w) (t1, t2, t3, t4, t5, t6) (hz_nI c)) (f_Model_due (g1, (hz_nI L, tp, hz_nI a, -hz_nI 1), (nm, ng, fr), r) (hz_nI m)) := by
  have hs := hz_skp_bd (tp := tp) ha
  unfold f_Reader_readDue f_Model_due
  simp (disch := omega) only [hz_nI_lit, hz_nI_add, hz_nI_inb, if_pos, hz_nI_nat]
  rw [hz_p_take hL ha, hz_q_take hL ha]
  by_cases c0 : hz_hereT tp L (hz_skp tp L a) = hz_nI 114
  · have hl := hz_hereT_lt c0 (by decide)
    rw [if_pos c0, if_pos c0]
    simp only [Option.bind_some, hz_bI0, Bool.true_eq_false, if_false]
    have hN := hz_p_num (tp := tp) (v := x) (w := w) (lo := 0) (hi := 9) hL (by omega) (by omega) (show hz_skp tp L a + 1 ≤ L from hl)
    have hQ := hz_q_num (g1 := g1) (tp := tp) (g3 := (nm, ng, fr)) (r := r) (lo := 0) (hi := 9) hL (by omega) (by omega) (show hz_skp tp L a + 1 ≤ L from hl)
    have hB := hz_numS_bd (tp := tp) (lo := 0) (hi := 9) (by omega) (show hz_skp tp L a + 1 ≤ L from hl)
    have tailW : ∀ {a' : Int32} {p : Nat} {f1 : Nat → Int32}, p ≤ 400 → ∃ fr', (Option.bind (f_Model_take (g1, (hz_nI L, tp, a', hz_nI p), (nm, ng, f1), r) (hz_nI 103)) fun u4 => Option.bind (f_Model_rising u4 (hz_nI 97) (hz_nI 104) (hz_nI 4)) fun u5 => Option.bind (f_Model_take (u5.2.1, u5.2.2.1, (u5.2.2.2.1.1, u5.2.2.2.1.2.1, upd u5.2.2.2.1.2.2 (m + 3) u5.1), u5.2.2.2.2.1, u5.2.2.2.2.2.1, u5.2.2.2.2.2.2.1, u5.2.2.2.2.2.2.2.1, u5.2.2.2.2.2.2.2.2.1, u5.2.2.2.2.2.2.2.2.2) (hz_nI 64)) fun u7 => f_Model_due_52 4096 u7 (hz_nI m) (hz_nI 0)) = some (g1, (hz_nI L, tp, a', hz_nI p), (nm, ng, fr'), r) := by
      intro a' p f1 hp
      obtain ⟨fr', e⟩ := hz_q_due_tailW (g1 := g1) (l := hz_nI L) (a := a') hp hm (tp := tp) (nm := nm) (ng := ng) (fr := upd f1 (m + 3) (hz_nI 0)) (r := r)
      refine ⟨fr', ?_⟩
      simp (disch := omega) only [hz_nI_lit, hz_nI_add, hz_nI_mul, hz_nI_lt, hz_nI_le, hz_nI_inj, hz_nI_sub, hz_nI_nat, hz_nI_inb, hz_nI_pred, hz_nI_m1_lt, hz_nI_lt_m1, hz_nI_m1_le, hz_nI_le_m1, hz_nI_eq_m1, hz_nI_m1_eq, hz_bI0, if_pos, if_neg, if_true, if_false, Option.bind_some, Prod.eta, reduceCtorEq, hz_q_takeW hp, hz_q_riseW hp]
      exact e
    cases hq : hz_numS tp L 0 9 (hz_skp tp L a + 1) with
    | inl p =>
      obtain ⟨b, y, hb, e1⟩ := hN.1 p hq
      obtain ⟨b1, hb1, e2⟩ := hQ.1 p hq
      have hpL := hB.1 p hq
      obtain ⟨fr', e3⟩ := tailW (a' := hz_nI b1) (p := p) (f1 := upd fr (m + 2) (hz_nI 0)) (by omega)
      rw [e1, e2]
      simp only [Option.bind_some, if_true, Prod.eta]
      rw [e3]
      exact Or.inl ⟨p, _, _, _, _, fr', hpL, rfl, rfl⟩
    | inr z =>
      obtain ⟨v, b⟩ := z
      have e1 := hN.2 v b hq
      have hb := hB.2 v b hq
      rw [e1]
      have e9 : f_Table_setCell (t1, t2, t3, t4, t5, t6) (hz_nI c) (hz_nI 1) (hz_nI v) = some (t1, upd t2 (c * 9 + 1) (hz_nI v), t3, t4, t5, t6) := hz_p_setCell hc (show 1 < 9 by omega)
      simp only [Option.bind_some, Bool.true_eq_false, if_false, e9]
      rcases hQ.2 v b hq with e2 | ⟨hd, e2⟩
      · rw [e2]
        simp only [Option.bind_some, Prod.eta]
        have hsb := hz_skp_bd (tp := tp) hb.2.1
        rw [hz_p_take hL hb.2.1, hz_q_take hL hb.2.1]
        by_cases c1 : hz_hereT tp L (hz_skp tp L b) = hz_nI 103
        · have hl1 := hz_hereT_lt c1 (by decide)
          rw [if_pos c1, if_pos c1]
          simp only [Option.bind_some, Bool.true_eq_false, if_false]
          have hN2 := hz_p_rise (tp := tp) (v := hz_nI v) (w := w) (f := 97) (t := 104) (z := 97) (most := 4) hL (by omega) (by omega) (by omega) (by omega) (show hz_skp tp L b + 1 ≤ L from hl1)
          have hQ2 := hz_q_rise (g1 := g1) (tp := tp) (g3 := (nm, ng, upd fr (m + 2) (hz_nI v))) (r := r) (f := 97) (t := 104) (most := 4) hL (by omega) (by omega) (by omega) (by omega) (by omega) (show hz_skp tp L b + 1 ≤ L from hl1)
          have hB2 := hz_riseS_bd (tp := tp) (f := 97) (t := 104) (z := 97) (most := 4) (by omega) (by omega) (by omega) (show hz_skp tp L b + 1 ≤ L from hl1)
          have tailW2 : ∀ {a' : Int32} {p : Nat} {f1 : Nat → Int32}, p ≤ 400 → ∃ fr', (Option.bind (f_Model_take (g1, (hz_nI L, tp, a', hz_nI p), (nm, ng, f1), r) (hz_nI 64)) fun u7 => f_Model_due_52 4096 u7 (hz_nI m) (hz_nI 0)) = some (g1, (hz_nI L, tp, a', hz_nI p), (nm, ng, fr'), r) := by
            intro a' p f1 hp
            obtain ⟨fr', e⟩ := hz_q_due_tailW (g1 := g1) (l := hz_nI L) (a := a') hp hm (tp := tp) (nm := nm) (ng := ng) (fr := f1) (r := r)
            exact ⟨fr', by rw [hz_q_takeW hp, Option.bind_some]; exact e⟩
          cases hq2 : hz_riseS tp L 97 104 97 4 (hz_skp tp L b + 1) with
          | inl p =>
            have hpL := hB2.1 p hq2
            obtain ⟨fr', e3⟩ := tailW2 (a' := hz_nI p) (p := p) (f1 := upd (upd fr (m + 2) (hz_nI v)) (m + 3) (hz_nI 0)) (by omega)
            rw [hN2.1 p hq2, hQ2.1 p hq2]
            simp only [Option.bind_some, if_true, Prod.eta]
            rw [e3]
            exact Or.inl ⟨p, _, _, _, _, fr', hpL, rfl, rfl⟩
          | inr z =>
            obtain ⟨bt, d⟩ := z
            have hd2 := hB2.2 bt d hq2
            have hsd := hz_skp_bd (tp := tp) hd2.2
            have e10 : f_Table_setCell (t1, upd t2 (c * 9 + 1) (hz_nI v), t3, t4, t5, t6) (hz_nI c) (hz_nI 2) bt = some (t1, upd (upd t2 (c * 9 + 1) (hz_nI v)) (c * 9 + 2) bt, t3, t4, t5, t6) := hz_p_setCell hc (show 2 < 9 by omega)
            rw [hN2.2 bt d hq2]
            simp only [Option.bind_some, Bool.true_eq_false, if_false, e10]
            rcases hQ2.2 bt d hq2 with ⟨a1, h1, e2⟩ | ⟨hd, b1, e2⟩
            · rw [e2]
              simp only [Option.bind_some, Prod.eta]
              have hsk : hz_skp tp L a1 = hz_skp tp L (hz_skp tp L d) := by
                rw [hz_skp_skp]
                rcases h1 with rfl | rfl
                · rfl
                · rw [hz_skp_skp]
              have ha1 : a1 ≤ L := by rcases h1 with rfl | rfl <;> omega
              have ih := hz_pq_d0 (tp := tp) (w := w) (t1 := t1) (t3 := t3) (t4 := t4) (t5 := t5) (t6 := t6) (g1 := g1) (nm := nm) (ng := ng) (r := r) (c := c) (m := m) (a := hz_skp tp L d) (a1 := a1) (n1 := 4095) (n2 := 4095) (x := bt) (t2 := upd (upd t2 (c * 9 + 1) (hz_nI v)) (c * 9 + 2) bt) (fr := upd (upd fr (m + 2) (hz_nI v)) (m + 3) bt) hL hc hm hsd.2 ha1 hsk (by omega) (by omega)
              rcases ih with ih | ⟨b2, x2, t2', i1, i2, i3, i4⟩
              · exact Or.inl ih
              · refine Or.inr ⟨b2, x2, t2', by omega, i2, i3, ?_⟩
                rcases i4 with ⟨fr', j1, j2, j3, j4⟩ | i4
                · refine Or.inl ⟨fr', j1, ?_, ?_, fun j hj => j2 j (by omega) hj, fun q hq => ?_, fun q hq => ?_⟩
                  · rw [j3 _ (by omega), j4 _ (by omega)]; unfold upd
                    rw [if_neg (by omega), if_pos rfl, if_neg (by omega), if_pos rfl]
                  · rw [j3 _ (by omega), j4 _ (by omega)]; unfold upd
                    rw [if_pos rfl, if_pos rfl]
                  · rw [j3 q (by omega)]; unfold upd; rw [if_neg (by omega), if_neg (by omega)]
                  · rw [j4 q (by omega)]; unfold upd; rw [if_neg (by omega), if_neg (by omega)]
                · exact Or.inr i4
            · rw [e2]
              obtain ⟨fr', e3⟩ := tailW2 (a' := hz_nI (hz_skp tp L d)) (p := hz_skp tp L d) (f1 := upd (upd fr (m + 2) (hz_nI v)) (m + 3) b1) (by omega)
              simp only [Option.bind_some, Prod.eta]
              rw [e3]
              obtain ⟨d9, f1, f2, f3⟩ := hz_inR_eq (by omega) (by omega) hd
              have e11 : f_Reader_readDue_68 4096 (tp, hz_nI L, hz_nI (hz_skp tp L d), bt, w) (t1, upd (upd t2 (c * 9 + 1) (hz_nI v)) (c * 9 + 2) bt, t3, t4, t5, t6) (hz_nI c) (hz_nI 0) = some (false, (tp, hz_nI L, hz_nI (hz_skp tp L d), bt, hz_nI (hz_skp tp L d)), (t1, upd (upd t2 (c * 9 + 1) (hz_nI v)) (c * 9 + 2) bt, t3, t4, t5, t6)) := by
                refine (hz_eC_68 (n := 4095)).trans ?_
                unfold f_Reader_readDue_85
                rw [hz_p_take hL hsd.2, hz_skp_skp, if_neg (by rw [f3]; simp (disch := omega) only [hz_nI_lit, hz_nI_add, hz_nI_mul, hz_nI_lt, hz_nI_le, hz_nI_inj, hz_nI_sub, hz_nI_nat, hz_nI_inb, hz_nI_pred, hz_nI_m1_lt, hz_nI_lt_m1, hz_nI_m1_le, hz_nI_le_m1, hz_nI_eq_m1, hz_nI_m1_eq, hz_bI0, if_pos, if_neg, if_true, if_false, Option.bind_some, Prod.eta, reduceCtorEq]; omega)]
                simp (disch := omega) only [hz_nI_lit, hz_nI_add, hz_nI_mul, hz_nI_lt, hz_nI_le, hz_nI_inj, hz_nI_sub, hz_nI_nat, hz_nI_inb, hz_nI_pred, hz_nI_m1_lt, hz_nI_lt_m1, hz_nI_m1_le, hz_nI_le_m1, hz_nI_eq_m1, hz_nI_m1_eq, hz_bI0, if_pos, if_neg, if_true, if_false, Option.bind_some, Prod.eta, reduceCtorEq]
              rw [e11]
              exact Or.inl ⟨_, _, _, _, _, fr', hsd.2, rfl, rfl⟩
        · rw [if_neg c1, if_neg c1]
          obtain ⟨fr', e3⟩ := tailW (a' := hz_nI (hz_skp tp L b)) (p := hz_skp tp L b) (f1 := upd fr (m + 2) (hz_nI v)) (by omega)
          rw [hz_q_takeW (show hz_skp tp L b ≤ 400 by omega)] at e3
          simp only [Option.bind_some, if_true] at e3 ⊢
          rw [e3]
          exact Or.inl ⟨_, _, _, _, _, fr', hsb.2, rfl, rfl⟩
      · rw [e2]
        obtain ⟨fr', e3⟩ := tailW (a' := hz_nI b) (p := b) (f1 := upd fr (m + 2) (hz_nI 0)) (by omega)
        simp only [Option.bind_some, Prod.eta]
        rw [e3, hz_p_takeD hL hb.2.1 hd (by decide)]
        simp only [Option.bind_some, if_true]
        exact Or.inl ⟨b, _, _, _, _, fr', hb.2.1, rfl, rfl⟩
  · rw [if_neg c0, if_neg c0]
    obtain ⟨fr', e3⟩ := hz_q_dueW (g1 := g1) (l := hz_nI L) (a := hz_nI (hz_skp tp L a)) (show hz_skp tp L a ≤ 400 by omega) hm (tp := tp) (nm := nm) (ng := ng) (fr := fr) (r := r)
    unfold f_Model_due at e3
    simp (disch := omega) only [hz_nI_lit, hz_nI_add, hz_nI_inb, if_pos, hz_nI_nat] at e3
    rw [hz_q_takeW (show hz_skp tp L a ≤ 400 by omega)] at e3
    simp only [Option.bind_some, hz_bI0, if_true] at e3 ⊢
    rw [e3]
    exact Or.inl ⟨_, _, _, _, _, fr', hs.2, rfl, rfl⟩
set_option maxRecDepth 100000 in
noncomputable def hz_chC (rd : SReader) (tb : STable) : Option (Bool × SReader × STable) :=
  (Option.bind (f_Reader_readClass rd tb tb.2.2.2.2.1) fun u7 =>
    (if (bI u7.1) = 0 then
      (some (false, u7.2.1, u7.2.2))
     else
      (Option.bind (f_Reader_readDue u7.2.1 u7.2.2 u7.2.2.2.2.2.2.1) fun u9 =>
        (if (bI u9.1) = 0 then
          (some (false, u9.2.1, u9.2.2))
         else
          (Option.bind (f_Reader_readOtherClasses u9.2.1 u9.2.2 u9.2.2.2.2.2.2.1) fun u11 =>
            (if (bI u11.1) = 0 then
              (some (false, u11.2.1, u11.2.2))
             else
              (Option.bind (f_Reader_take u11.2.1 (59 : Int32)) fun u13 =>
                (if (bI u13.1) = 0 then
                  (some (false, u13.2, u11.2.2))
                 else
                  (some (true, u13.2, u11.2.2))))))))))
set_option maxRecDepth 100000 in
theorem hz_q_229W {g1 : Int32 × Int32} {l a : Int32} {p : Nat} (hp : p ≤ 400) {tp : Nat → Int32} {nm : Int32} {ng : Bool} {fr : Nat → Int32} {r : hz_MR} : f_Model_materialRow_229 (g1, (l, tp, a, hz_nI p), (nm, ng, fr), r) = some (g1, (l, tp, a, hz_nI p), (nm + hz_nI 1, ng, fr), r) := by
  unfold f_Model_materialRow_229
  rw [hz_q_takeW hp]
  simp only [Option.bind_some, hz_nI_lit, Prod.eta]
set_option maxRecDepth 100000 in
theorem hz_q_147W {g1 : Int32 × Int32} {l a : Int32} {p m : Nat} (hp : p ≤ 400) (hm : m ≤ 516) {tp : Nat → Int32} {nm : Int32} {ng : Bool} {fr : Nat → Int32} {r : hz_MR} : ∃ fr', f_Model_materialRow_147 (g1, (l, tp, a, hz_nI p), (nm, ng, fr), r) (hz_nI m) = some (g1, (l, tp, a, hz_nI p), (nm + hz_nI 1, ng, fr'), r) := by
  obtain ⟨fr', e⟩ := hz_q_dueW (g1 := g1) (l := l) (a := a) hp hm (tp := tp) (nm := nm) (ng := ng) (fr := upd fr (m + 1) (hz_nI 1)) (r := r)
  refine ⟨upd fr' (m + 8) (hz_nI 0), ?_⟩
  unfold f_Model_materialRow_147
  simp (disch := omega) only [hz_nI_lit, hz_nI_add, hz_nI_mul, hz_nI_lt, hz_nI_le, hz_nI_inj, hz_nI_sub, hz_nI_nat, hz_nI_inb, hz_nI_pred, hz_nI_m1_lt, hz_nI_lt_m1, hz_nI_m1_le, hz_nI_le_m1, hz_nI_eq_m1, hz_nI_m1_eq, hz_bI0, if_pos, if_neg, if_true, if_false, Option.bind_some, Prod.eta, reduceCtorEq, hz_q_takeW hp, hz_q_numW hp, e, hz_q_229W hp]
set_option maxRecDepth 100000 in
def hz_oTail (tp : Nat → Int32) (L : Nat) (w : Int32) (t1 t2 t3 t4 : Nat → Int32) (t6 : Bool) (g1 : Int32 × Int32) (nm : Int32) (ng : Bool) (fr : Nat → Int32) (r : hz_MR) (c m a : Nat) (C : Option (Bool × SReader × STable)) (M : Option SModel) : Prop :=
  hz_oF tp L g1 (nm + hz_nI 1) ng r C M ∨
  ∃ b x t2' fr', a ≤ b ∧ b ≤ L ∧ C = some (true, (tp, hz_nI L, hz_nI b, x, w), (t1, t2', t3, t4, hz_nI c, t6)) ∧ M = some (g1, (hz_nI L, tp, hz_nI b, -hz_nI 1), (nm + hz_nI 1, ng, fr'), r) ∧
    t2' (c * 9 + 0) = fr' (m + 1) ∧ t2' (c * 9 + 1) = fr' (m + 2) ∧ t2' (c * 9 + 2) = fr' (m + 3) ∧ (∀ j, j < 4 → ∃ d, d ≤ 9999 ∧ t2' (c * 9 + 3 + j) = hz_nI d ∧ fr' (m + 4 + j) = hz_nI d) ∧ t2' (c * 9 + 7) = fr' (m + 8) ∧
    (∀ q, ¬ (c * 9 ≤ q ∧ q < c * 9 + 8) → t2' q = t2 q) ∧ (∀ q, ¬ (m + 1 ≤ q ∧ q < m + 9) → fr' q = fr q)
set_option maxRecDepth 100000 in
theorem hz_upd_eq (f : Nat → Int32) (k : Nat) (x : Int32) : upd f k x k = x := if_pos rfl
set_option maxRecDepth 100000 in
theorem hz_upd_ne {f : Nat → Int32} {k j : Nat} {x : Int32} (h : j ≠ k) : upd f k x j = f j := if_neg h
set_option maxRecDepth 100000 in
theorem hz_pq_tail {tp : Nat → Int32} {L : Nat} {w : Int32} {t1 t2 t3 t4 : Nat → Int32} {t6 : Bool} {g1 : Int32 × Int32} {nm : Int32} {ng : Bool} {fr : Nat → Int32} {r : hz_MR} {c m a : Nat} {x : Int32} (hL : L ≤ 400) (hc : c ≤ 12) (hm : m ≤ 516) (ha : a ≤ L) (h7 : t2 (c * 9 + 7) = hz_nI 0) :
    hz_oTail tp L w t1 t2 t3 t4 t6 g1 nm ng fr r c m a (hz_chC (tp, hz_nI L, hz_nI a, x, w) (t1, t2, t3, t4, hz_nI c, t6)) (f_Model_materialRow_147 (g1, (hz_nI L, tp, hz_nI a, -hz_nI 1), (nm, ng, fr), r) (hz_nI m)) := by
  have hs := hz_skp_bd (tp := tp) ha
  by_cases c0 : hz_hereT tp L (hz_skp tp L a) = hz_nI 99
  · have hl := hz_hereT_lt c0 (by decide)
    have hN := hz_p_num (tp := tp) (v := x) (w := w) (lo := 1) (hi := 9) hL (by omega) (by omega) (show hz_skp tp L a + 1 ≤ L from hl)
    have hQ := hz_q_num (g1 := g1) (tp := tp) (g3 := (nm, ng, fr)) (r := r) (lo := 1) (hi := 9) hL (by omega) (by omega) (show hz_skp tp L a + 1 ≤ L from hl)
    have hB := hz_numS_bd (tp := tp) (lo := 1) (hi := 9) (by omega) (show hz_skp tp L a + 1 ≤ L from hl)
    have tailW : ∀ {a' : Int32} {p : Nat} {f1 : Nat → Int32}, p ≤ 400 → ∃ fr', (Option.bind (f_Model_due (g1, (hz_nI L, tp, a', hz_nI p), (nm, ng, f1), r) (hz_nI m)) fun u21 => (if 0 ≤ u21.2.1.2.2.2 then (f_Model_materialRow_229 (u21.1, u21.2.1, (u21.2.2.1.1, u21.2.2.1.2.1, upd u21.2.2.1.2.2 (m + 8) (hz_nI 0)), u21.2.2.2)) else none)) = some (g1, (hz_nI L, tp, a', hz_nI p), (nm + hz_nI 1, ng, fr'), r) := by
      intro a' p f1 hp
      obtain ⟨fr', e⟩ := hz_q_dueW (g1 := g1) (l := hz_nI L) (a := a') hp hm (tp := tp) (nm := nm) (ng := ng) (fr := f1) (r := r)
      refine ⟨upd fr' (m + 8) (hz_nI 0), ?_⟩
      simp (disch := omega) only [hz_nI_lit, hz_nI_add, hz_nI_mul, hz_nI_lt, hz_nI_le, hz_nI_inj, hz_nI_sub, hz_nI_nat, hz_nI_inb, hz_nI_pred, hz_nI_m1_lt, hz_nI_lt_m1, hz_nI_m1_le, hz_nI_le_m1, hz_nI_eq_m1, hz_nI_m1_eq, hz_bI0, if_pos, if_neg, if_true, if_false, Option.bind_some, Prod.eta, reduceCtorEq, e, hz_q_229W hp]
    cases hq : hz_numS tp L 1 9 (hz_skp tp L a + 1) with
    | inl p =>
      obtain ⟨b, y, hb, e1⟩ := hN.1 p hq
      obtain ⟨b1, hb1, e2⟩ := hQ.1 p hq
      have hpL := hB.1 p hq
      have eC : hz_chC (tp, hz_nI L, hz_nI a, x, w) (t1, t2, t3, t4, hz_nI c, t6) = some (false, (tp, hz_nI L, hz_nI b, y, hz_nI p), (t1, t2, t3, t4, hz_nI c, t6)) := by
        unfold hz_chC f_Reader_readClass
        simp only [hz_nI_lit]
        rw [hz_p_take hL ha, if_pos c0]
        simp only [Option.bind_some, hz_bI0, Bool.true_eq_false, if_false]
        rw [e1]
        simp only [Option.bind_some, hz_bI0, if_true]
      obtain ⟨fr', eD⟩ := hz_q_dueW (g1 := g1) (l := hz_nI L) (a := hz_nI b1) (show p ≤ 400 by omega) hm (tp := tp) (nm := nm) (ng := ng) (fr := upd fr (m + 1) (hz_nI 1)) (r := r)
      have eM : f_Model_materialRow_147 (g1, (hz_nI L, tp, hz_nI a, -hz_nI 1), (nm, ng, fr), r) (hz_nI m) = some (g1, (hz_nI L, tp, hz_nI b1, hz_nI p), (nm + hz_nI 1, ng, upd fr' (m + 8) (hz_nI 0)), r) := by
        unfold f_Model_materialRow_147
        simp (disch := omega) only [hz_nI_lit, hz_nI_add, hz_nI_mul, hz_nI_lt, hz_nI_le, hz_nI_inj, hz_nI_sub, hz_nI_nat, hz_nI_inb, hz_nI_pred, hz_nI_m1_lt, hz_nI_lt_m1, hz_nI_m1_le, hz_nI_le_m1, hz_nI_eq_m1, hz_nI_m1_eq, hz_bI0, if_pos, if_neg, if_true, if_false, Option.bind_some, Prod.eta, reduceCtorEq, hz_q_take hL ha, c0, e2, eD, hz_q_229W (show p ≤ 400 by omega)]
      rw [eC, eM]
      exact Or.inl ⟨p, _, _, _, _, _, hpL, rfl, rfl⟩
    | inr z =>
      obtain ⟨v, b⟩ := z
      have e1 := hN.2 v b hq
      have hb := hB.2 v b hq
      have e9 : f_Table_setCell (t1, t2, t3, t4, hz_nI c, t6) (hz_nI c) (hz_nI 0) (hz_nI v) = some (t1, upd t2 (c * 9 + 0) (hz_nI v), t3, t4, hz_nI c, t6) := hz_p_setCell hc (show 0 < 9 by omega)
      have eC0 : f_Reader_readClass (tp, hz_nI L, hz_nI a, x, w) (t1, t2, t3, t4, hz_nI c, t6) (hz_nI c) = some (true, (tp, hz_nI L, hz_nI b, hz_nI v, w), (t1, upd t2 (c * 9 + 0) (hz_nI v), t3, t4, hz_nI c, t6)) := by
        unfold f_Reader_readClass
        simp only [hz_nI_lit]
        rw [hz_p_take hL ha, if_pos c0]
        simp only [Option.bind_some, hz_bI0, Bool.true_eq_false, if_false]
        rw [e1]
        simp only [Option.bind_some, hz_bI0, Bool.true_eq_false, if_false, e9]
      rcases hQ.2 v b hq with e2 | ⟨hd, e2⟩
      · have hDue := hz_pq_due (tp := tp) (w := w) (t1 := t1) (t2 := upd t2 (c * 9 + 0) (hz_nI v)) (t3 := t3) (t4 := t4) (t5 := hz_nI c) (t6 := t6) (g1 := g1) (nm := nm) (ng := ng) (fr := upd fr (m + 1) (hz_nI v)) (r := r) (c := c) (m := m) (a := b) (x := hz_nI v) hL hc hm hb.2.1
        rcases hDue with ⟨p, b3, x3, tb3, b4, fr3, k1, k2, k3⟩ | ⟨b3, x3, t2', k1, k2, k3, k4⟩
        · have eC : hz_chC (tp, hz_nI L, hz_nI a, x, w) (t1, t2, t3, t4, hz_nI c, t6) = some (false, (tp, hz_nI L, b3, x3, hz_nI p), tb3) := by
            unfold hz_chC
            rw [eC0]
            simp only [Option.bind_some, hz_nI_lit, hz_bI0, Bool.true_eq_false, if_false]
            rw [k2]
            simp only [Option.bind_some, if_true, hz_bI0]
          have eM : f_Model_materialRow_147 (g1, (hz_nI L, tp, hz_nI a, -hz_nI 1), (nm, ng, fr), r) (hz_nI m) = some (g1, (hz_nI L, tp, b4, hz_nI p), (nm + hz_nI 1, ng, upd fr3 (m + 8) (hz_nI 0)), r) := by
            unfold f_Model_materialRow_147
            simp (disch := omega) only [hz_nI_lit, hz_nI_add, hz_nI_mul, hz_nI_lt, hz_nI_le, hz_nI_inj, hz_nI_sub, hz_nI_nat, hz_nI_inb, hz_nI_pred, hz_nI_m1_lt, hz_nI_lt_m1, hz_nI_m1_le, hz_nI_le_m1, hz_nI_eq_m1, hz_nI_m1_eq, hz_bI0, if_pos, if_neg, if_true, if_false, Option.bind_some, Prod.eta, reduceCtorEq, hz_q_take hL ha, c0, e2, k3, hz_q_229W (show p ≤ 400 by omega)]
          rw [eC, eM]
          exact Or.inl ⟨p, _, _, _, _, _, k1, rfl, rfl⟩
        · have hsb := hz_skp_bd (tp := tp) k2
          rcases k4 with ⟨fr3, l1, l2, l3, l4, l5, l6⟩ | ⟨hd, fr3, l1⟩
          · by_cases cx : hz_hereT tp L (hz_skp tp L b3) = hz_nI 120
            · have hlx := hz_hereT_lt cx (by decide)
              have hN2 := hz_p_rise (tp := tp) (v := x3) (w := w) (f := 49) (t := 57) (z := 48) (most := 3) hL (by omega) (by omega) (by omega) (by omega) (show hz_skp tp L b3 + 1 ≤ L from hlx)
              have hQ2 := hz_q_rise (g1 := g1) (tp := tp) (g3 := (nm, ng, upd fr3 (m + 8) (hz_nI 0))) (r := r) (f := 49) (t := 57) (most := 3) hL (by omega) (by omega) (by omega) (by omega) (by omega) (show hz_skp tp L b3 + 1 ≤ L from hlx)
              have hB2 := hz_riseS_bd (tp := tp) (f := 49) (t := 57) (z := 49) (most := 3) (by omega) (by omega) (by omega) (show hz_skp tp L b3 + 1 ≤ L from hlx)
              have hSh := hz_riseS_shl tp L (hz_skp tp L b3 + 1)
              cases hq2 : hz_riseS tp L 49 57 49 3 (hz_skp tp L b3 + 1) with
              | inl p =>
                have hpL := hB2.1 p hq2
                have eC : hz_chC (tp, hz_nI L, hz_nI a, x, w) (t1, t2, t3, t4, hz_nI c, t6) = some (false, (tp, hz_nI L, hz_nI p, hz_nI 0, hz_nI p), (t1, t2', t3, t4, hz_nI c, t6)) := by
                  unfold hz_chC
                  rw [eC0]
                  simp only [Option.bind_some, hz_nI_lit, hz_bI0, Bool.true_eq_false, if_false]
                  rw [k3]
                  simp only [Option.bind_some, hz_bI0, Bool.true_eq_false, if_false]
                  unfold f_Reader_readOtherClasses
                  rw [hz_p_peek hL k2]
                  simp only [Option.bind_some, hz_nI_lit, cx, if_true, hz_nI_add]
                  rw [hN2.1 p (hSh.1 p hq2)]
                  simp only [Option.bind_some, hz_bI0, if_true]
                have eM : f_Model_materialRow_147 (g1, (hz_nI L, tp, hz_nI a, -hz_nI 1), (nm, ng, fr), r) (hz_nI m) = some (g1, (hz_nI L, tp, hz_nI p, hz_nI p), (nm + hz_nI 1, ng, upd (upd fr3 (m + 8) (hz_nI 0)) (m + 8) (hz_nI 0 <<< (hz_nI 1 &&& hz_nI 31))), r) := by
                  unfold f_Model_materialRow_147
                  simp (disch := omega) only [hz_nI_lit, hz_nI_add, hz_nI_mul, hz_nI_lt, hz_nI_le, hz_nI_inj, hz_nI_sub, hz_nI_nat, hz_nI_inb, hz_nI_pred, hz_nI_m1_lt, hz_nI_lt_m1, hz_nI_m1_le, hz_nI_le_m1, hz_nI_eq_m1, hz_nI_m1_eq, hz_bI0, if_pos, if_neg, if_true, if_false, Option.bind_some, Prod.eta, reduceCtorEq, hz_q_take hL ha, c0, e2, l1, hz_q_see hL k2, cx, hQ2.1 p hq2, hz_q_229W (show p ≤ 400 by omega)]
                rw [eC, eM]
                exact Or.inl ⟨p, _, _, _, _, _, hpL, rfl, rfl⟩
              | inr z =>
                obtain ⟨bt, d⟩ := z
                have hd2 := hB2.2 bt d hq2
                have hsd := hz_skp_bd (tp := tp) hd2.2
                have e10 : f_Table_setCell (t1, t2', t3, t4, hz_nI c, t6) (hz_nI c) (hz_nI 7) (bt <<< (hz_nI 1 &&& hz_nI 31)) = some (t1, upd t2' (c * 9 + 7) (bt <<< (hz_nI 1 &&& hz_nI 31)), t3, t4, hz_nI c, t6) := hz_p_setCell hc (show 7 < 9 by omega)
                have eC1 : hz_chC (tp, hz_nI L, hz_nI a, x, w) (t1, t2, t3, t4, hz_nI c, t6) = Option.bind (f_Reader_take (tp, hz_nI L, hz_nI (hz_skp tp L d), bt <<< (hz_nI 1 &&& hz_nI 31), w) (hz_nI 59)) fun u13 => if u13.1 = false then some (false, u13.2, (t1, upd t2' (c * 9 + 7) (bt <<< (hz_nI 1 &&& hz_nI 31)), t3, t4, hz_nI c, t6)) else some (true, u13.2, (t1, upd t2' (c * 9 + 7) (bt <<< (hz_nI 1 &&& hz_nI 31)), t3, t4, hz_nI c, t6)) := by
                  unfold hz_chC
                  rw [eC0]
                  simp only [Option.bind_some, hz_nI_lit, hz_bI0, Bool.true_eq_false, if_false]
                  rw [k3]
                  simp only [Option.bind_some, hz_bI0, Bool.true_eq_false, if_false]
                  unfold f_Reader_readOtherClasses
                  rw [hz_p_peek hL k2]
                  simp only [Option.bind_some, hz_nI_lit, cx, if_true, hz_nI_add]
                  rw [hN2.2 _ _ (hSh.2 bt d hq2)]
                  simp only [Option.bind_some, hz_bI0, Bool.true_eq_false, if_false, e10]
                rw [eC1, hz_p_take hL hsd.2, hz_skp_skp]
                rcases hQ2.2 bt d hq2 with ⟨a1, h1, e3⟩ | ⟨hd, b1, e3⟩
                · have ha1 : a1 ≤ L := by rcases h1 with rfl | rfl <;> omega
                  have hsk : hz_skp tp L a1 = hz_skp tp L d := by
                    rcases h1 with rfl | rfl
                    · rfl
                    · rw [hz_skp_skp]
                  have eM1 : f_Model_materialRow_147 (g1, (hz_nI L, tp, hz_nI a, -hz_nI 1), (nm, ng, fr), r) (hz_nI m) = f_Model_materialRow_229 (g1, (hz_nI L, tp, hz_nI a1, -hz_nI 1), (nm, ng, upd (upd fr3 (m + 8) (hz_nI 0)) (m + 8) (bt <<< (hz_nI 1 &&& hz_nI 31))), r) := by
                    unfold f_Model_materialRow_147
                    simp (disch := omega) only [hz_nI_lit, hz_nI_add, hz_nI_mul, hz_nI_lt, hz_nI_le, hz_nI_inj, hz_nI_sub, hz_nI_nat, hz_nI_inb, hz_nI_pred, hz_nI_m1_lt, hz_nI_lt_m1, hz_nI_m1_le, hz_nI_le_m1, hz_nI_eq_m1, hz_nI_m1_eq, hz_bI0, if_pos, if_neg, if_true, if_false, Option.bind_some, Prod.eta, reduceCtorEq, hz_q_take hL ha, c0, e2, l1, hz_q_see hL k2, cx, e3]
                  rw [eM1]
                  unfold f_Model_materialRow_229
                  simp only [hz_nI_lit]
                  rw [hz_q_take hL ha1, hsk]
                  by_cases c5 : hz_hereT tp L (hz_skp tp L d) = hz_nI 59
                  · have hl5 := hz_hereT_lt c5 (by decide)
                    rw [if_pos c5, if_pos c5]
                    simp only [Option.bind_some, Bool.true_eq_false, if_false, Prod.eta]
                    refine Or.inr ⟨_, _, _, _, ?_, hl5, rfl, rfl, ?_, ?_, ?_, ?_, ?_, ?_, ?_⟩
                    · omega
                    · rw [hz_upd_ne (by omega), hz_upd_ne (by omega), hz_upd_ne (by omega), l5 _ (by omega), l6 _ (by omega), hz_upd_eq, hz_upd_eq]
                    · rw [hz_upd_ne (by omega), hz_upd_ne (by omega), hz_upd_ne (by omega), l2]
                    · rw [hz_upd_ne (by omega), hz_upd_ne (by omega), hz_upd_ne (by omega), l3]
                    · intro j hj
                      rw [hz_upd_ne (by omega), hz_upd_ne (by omega), hz_upd_ne (by omega)]
                      exact l4 j hj
                    · rw [hz_upd_eq, hz_upd_eq]
                    · intro q hq
                      rw [hz_upd_ne (by omega), l5 _ (by omega), hz_upd_ne (by omega)]
                    · intro q hq
                      rw [hz_upd_ne (by omega), hz_upd_ne (by omega), l6 _ (by omega), hz_upd_ne (by omega)]
                  · rw [if_neg c5, if_neg c5]
                    simp only [Option.bind_some, if_true, Prod.eta]
                    exact Or.inl ⟨_, _, _, _, _, _, hsd.2, rfl, rfl⟩
                · have eM1 : f_Model_materialRow_147 (g1, (hz_nI L, tp, hz_nI a, -hz_nI 1), (nm, ng, fr), r) (hz_nI m) = some (g1, (hz_nI L, tp, hz_nI (hz_skp tp L d), hz_nI (hz_skp tp L d)), (nm + hz_nI 1, ng, upd (upd fr3 (m + 8) (hz_nI 0)) (m + 8) (b1 <<< (hz_nI 1 &&& hz_nI 31))), r) := by
                    unfold f_Model_materialRow_147
                    simp (disch := omega) only [hz_nI_lit, hz_nI_add, hz_nI_mul, hz_nI_lt, hz_nI_le, hz_nI_inj, hz_nI_sub, hz_nI_nat, hz_nI_inb, hz_nI_pred, hz_nI_m1_lt, hz_nI_lt_m1, hz_nI_m1_le, hz_nI_le_m1, hz_nI_eq_m1, hz_nI_m1_eq, hz_bI0, if_pos, if_neg, if_true, if_false, Option.bind_some, Prod.eta, reduceCtorEq, hz_q_take hL ha, c0, e2, l1, hz_q_see hL k2, cx, e3, hz_q_229W (show hz_skp tp L d ≤ 400 by omega)]
                  rw [eM1]
                  obtain ⟨d9, f1, f2, f3⟩ := hz_inR_eq (by omega) (by omega) hd
                  rw [if_neg (by rw [f3]; simp (disch := omega) only [hz_nI_lit, hz_nI_add, hz_nI_mul, hz_nI_lt, hz_nI_le, hz_nI_inj, hz_nI_sub, hz_nI_nat, hz_nI_inb, hz_nI_pred, hz_nI_m1_lt, hz_nI_lt_m1, hz_nI_m1_le, hz_nI_le_m1, hz_nI_eq_m1, hz_nI_m1_eq, hz_bI0, if_pos, if_neg, if_true, if_false, Option.bind_some, Prod.eta, reduceCtorEq]; omega)]
                  simp only [Option.bind_some, if_true]
                  exact Or.inl ⟨_, _, _, _, _, _, hsd.2, rfl, rfl⟩
            · have eC1 : hz_chC (tp, hz_nI L, hz_nI a, x, w) (t1, t2, t3, t4, hz_nI c, t6) = Option.bind (f_Reader_take (tp, hz_nI L, hz_nI (hz_skp tp L b3), x3, w) (hz_nI 59)) fun u13 => if u13.1 = false then some (false, u13.2, (t1, t2', t3, t4, hz_nI c, t6)) else some (true, u13.2, (t1, t2', t3, t4, hz_nI c, t6)) := by
                unfold hz_chC
                rw [eC0]
                simp only [Option.bind_some, hz_nI_lit, hz_bI0, Bool.true_eq_false, if_false]
                rw [k3]
                simp only [Option.bind_some, hz_bI0, Bool.true_eq_false, if_false]
                unfold f_Reader_readOtherClasses
                rw [hz_p_peek hL k2]
                simp only [Option.bind_some, hz_nI_lit, cx, if_false, Bool.true_eq_false, hz_bI0]
              have eM1 : f_Model_materialRow_147 (g1, (hz_nI L, tp, hz_nI a, -hz_nI 1), (nm, ng, fr), r) (hz_nI m) = f_Model_materialRow_229 (g1, (hz_nI L, tp, hz_nI (hz_skp tp L b3), -hz_nI 1), (nm, ng, upd fr3 (m + 8) (hz_nI 0)), r) := by
                unfold f_Model_materialRow_147
                simp (disch := omega) only [hz_nI_lit, hz_nI_add, hz_nI_mul, hz_nI_lt, hz_nI_le, hz_nI_inj, hz_nI_sub, hz_nI_nat, hz_nI_inb, hz_nI_pred, hz_nI_m1_lt, hz_nI_lt_m1, hz_nI_m1_le, hz_nI_le_m1, hz_nI_eq_m1, hz_nI_m1_eq, hz_bI0, if_pos, if_neg, if_true, if_false, Option.bind_some, Prod.eta, reduceCtorEq, hz_q_take hL ha, c0, e2, l1, hz_q_see hL k2, cx]
              rw [eC1, eM1, hz_p_take hL hsb.2]
              unfold f_Model_materialRow_229
              simp only [hz_nI_lit]
              rw [hz_q_take hL hsb.2, hz_skp_skp]
              by_cases c5 : hz_hereT tp L (hz_skp tp L b3) = hz_nI 59
              · have hl5 := hz_hereT_lt c5 (by decide)
                rw [if_pos c5, if_pos c5]
                simp only [Option.bind_some, Bool.true_eq_false, if_false, Prod.eta]
                refine Or.inr ⟨_, _, _, _, ?_, hl5, rfl, rfl, ?_, ?_, ?_, ?_, ?_, ?_, ?_⟩
                · omega
                · rw [hz_upd_ne (by omega), l5 _ (by omega), l6 _ (by omega), hz_upd_eq, hz_upd_eq]
                · rw [hz_upd_ne (by omega), l2]
                · rw [hz_upd_ne (by omega), l3]
                · intro j hj
                  rw [hz_upd_ne (by omega)]
                  exact l4 j hj
                · rw [hz_upd_eq, l5 _ (by omega), hz_upd_ne (by omega), h7]
                · intro q hq
                  rw [l5 _ (by omega), hz_upd_ne (by omega)]
                · intro q hq
                  rw [hz_upd_ne (by omega), l6 _ (by omega), hz_upd_ne (by omega)]
              · rw [if_neg c5, if_neg c5]
                simp only [Option.bind_some, if_true, Prod.eta]
                exact Or.inl ⟨_, _, _, _, _, _, hsb.2, rfl, rfl⟩
          · have cx : hz_hereT tp L (hz_skp tp L b3) ≠ hz_nI 120 := by rw [hz_skp_no (hz_dg_ne hd).2.1]; exact (hz_dg_ne hd).2.2.2.2.2.2.1
            have eC1 : hz_chC (tp, hz_nI L, hz_nI a, x, w) (t1, t2, t3, t4, hz_nI c, t6) = some (false, (tp, hz_nI L, hz_nI b3, x3, hz_nI b3), (t1, t2', t3, t4, hz_nI c, t6)) := by
              unfold hz_chC
              rw [eC0]
              simp only [Option.bind_some, hz_nI_lit, hz_bI0, Bool.true_eq_false, if_false]
              rw [k3]
              simp only [Option.bind_some, hz_bI0, Bool.true_eq_false, if_false]
              unfold f_Reader_readOtherClasses
              rw [hz_p_peek hL k2]
              simp only [Option.bind_some, hz_nI_lit, cx, if_false, Bool.true_eq_false, hz_bI0]
              rw [hz_skp_no (hz_dg_ne hd).2.1, hz_p_takeD hL k2 hd (by decide)]
              simp only [Option.bind_some, if_true]
            have eM1 : f_Model_materialRow_147 (g1, (hz_nI L, tp, hz_nI a, -hz_nI 1), (nm, ng, fr), r) (hz_nI m) = some (g1, (hz_nI L, tp, hz_nI b3, hz_nI b3), (nm + hz_nI 1, ng, upd fr3 (m + 8) (hz_nI 0)), r) := by
              unfold f_Model_materialRow_147
              simp (disch := omega) only [hz_nI_lit, hz_nI_add, hz_nI_mul, hz_nI_lt, hz_nI_le, hz_nI_inj, hz_nI_sub, hz_nI_nat, hz_nI_inb, hz_nI_pred, hz_nI_m1_lt, hz_nI_lt_m1, hz_nI_m1_le, hz_nI_le_m1, hz_nI_eq_m1, hz_nI_m1_eq, hz_bI0, if_pos, if_neg, if_true, if_false, Option.bind_some, Prod.eta, reduceCtorEq, hz_q_take hL ha, c0, e2, l1, hz_q_229W (show b3 ≤ 400 by omega)]
            rw [eC1, eM1]
            exact Or.inl ⟨_, _, _, _, _, _, k2, rfl, rfl⟩
      · have eC : hz_chC (tp, hz_nI L, hz_nI a, x, w) (t1, t2, t3, t4, hz_nI c, t6) = some (false, (tp, hz_nI L, hz_nI b, hz_nI v, hz_nI b), (t1, upd t2 (c * 9 + 0) (hz_nI v), t3, t4, hz_nI c, t6)) := by
          unfold hz_chC
          rw [eC0]
          simp only [Option.bind_some, hz_nI_lit, hz_bI0, Bool.true_eq_false, if_false]
          unfold f_Reader_readDue
          simp only [hz_nI_lit]
          rw [hz_p_takeD hL hb.2.1 hd (by decide)]
          simp only [Option.bind_some, if_true, hz_bI0]
        obtain ⟨fr', eD⟩ := hz_q_dueW (g1 := g1) (l := hz_nI L) (a := hz_nI b) (show b ≤ 400 by omega) hm (tp := tp) (nm := nm) (ng := ng) (fr := upd fr (m + 1) (hz_nI 1)) (r := r)
        have eM : f_Model_materialRow_147 (g1, (hz_nI L, tp, hz_nI a, -hz_nI 1), (nm, ng, fr), r) (hz_nI m) = some (g1, (hz_nI L, tp, hz_nI b, hz_nI b), (nm + hz_nI 1, ng, upd fr' (m + 8) (hz_nI 0)), r) := by
          unfold f_Model_materialRow_147
          simp (disch := omega) only [hz_nI_lit, hz_nI_add, hz_nI_mul, hz_nI_lt, hz_nI_le, hz_nI_inj, hz_nI_sub, hz_nI_nat, hz_nI_inb, hz_nI_pred, hz_nI_m1_lt, hz_nI_lt_m1, hz_nI_m1_le, hz_nI_le_m1, hz_nI_eq_m1, hz_nI_m1_eq, hz_bI0, if_pos, if_neg, if_true, if_false, Option.bind_some, Prod.eta, reduceCtorEq, hz_q_take hL ha, c0, e2, eD, hz_q_229W (show b ≤ 400 by omega)]
        rw [eC, eM]
        exact Or.inl ⟨_, _, _, _, _, _, hb.2.1, rfl, rfl⟩
  · have eC : hz_chC (tp, hz_nI L, hz_nI a, x, w) (t1, t2, t3, t4, hz_nI c, t6) = some (false, (tp, hz_nI L, hz_nI (hz_skp tp L a), x, hz_nI (hz_skp tp L a)), (t1, t2, t3, t4, hz_nI c, t6)) := by
      unfold hz_chC f_Reader_readClass
      simp only [hz_nI_lit]
      rw [hz_p_take hL ha, if_neg c0]
      simp only [Option.bind_some, hz_bI0, if_true]
    obtain ⟨fr', eD⟩ := hz_q_dueW (g1 := g1) (l := hz_nI L) (a := hz_nI (hz_skp tp L a)) (show hz_skp tp L a ≤ 400 by omega) hm (tp := tp) (nm := nm) (ng := ng) (fr := upd fr (m + 1) (hz_nI 1)) (r := r)
    have eM : f_Model_materialRow_147 (g1, (hz_nI L, tp, hz_nI a, -hz_nI 1), (nm, ng, fr), r) (hz_nI m) = some (g1, (hz_nI L, tp, hz_nI (hz_skp tp L a), hz_nI (hz_skp tp L a)), (nm + hz_nI 1, ng, upd fr' (m + 8) (hz_nI 0)), r) := by
      unfold f_Model_materialRow_147
      simp (disch := omega) only [hz_nI_lit, hz_nI_add, hz_nI_mul, hz_nI_lt, hz_nI_le, hz_nI_inj, hz_nI_sub, hz_nI_nat, hz_nI_inb, hz_nI_pred, hz_nI_m1_lt, hz_nI_lt_m1, hz_nI_m1_le, hz_nI_le_m1, hz_nI_eq_m1, hz_nI_m1_eq, hz_bI0, if_pos, if_neg, if_true, if_false, Option.bind_some, Prod.eta, reduceCtorEq, hz_q_take hL ha, c0, hz_q_numW (show hz_skp tp L a ≤ 400 by omega), eD, hz_q_229W (show hz_skp tp L a ≤ 400 by omega)]
    rw [eC, eM]
    exact Or.inl ⟨_, _, _, _, _, _, hs.2, rfl, rfl⟩
set_option maxRecDepth 100000 in
def hz_nameR (t3 t4 fr : Nat → Int32) (c m n : Nat) : Prop := ∃ len, 1 ≤ len ∧ len ≤ 10 ∧ t3 (c * 3 + n) = hz_nI len ∧ fr (m + 10 + 11 * n) = hz_nI len ∧ ∀ i, i < len → t4 ((c * 3 + n) * 10 + i) = fr (m + 11 + 11 * n + i)
set_option maxRecDepth 100000 in
theorem hz_nameR_keep {t3 t4 fr t3' t4' fr' : Nat → Int32} {c m n : Nat} (h : hz_nameR t3 t4 fr c m n) (h3 : t3' (c * 3 + n) = t3 (c * 3 + n)) (h4 : ∀ i, i < 10 → t4' ((c * 3 + n) * 10 + i) = t4 ((c * 3 + n) * 10 + i)) (hf : ∀ i, i < 11 → fr' (m + 10 + 11 * n + i) = fr (m + 10 + 11 * n + i)) : hz_nameR t3' t4' fr' c m n := by
  obtain ⟨len, l1, l2, l3, l4, l5⟩ := h
  refine ⟨len, l1, l2, h3.trans l3, (hf 0 (by omega)).trans l4, fun i hi => ?_⟩
  rw [h4 i (by omega), l5 i hi, show m + 11 + 11 * n + i = m + 10 + 11 * n + (i + 1) by omega, hf (i + 1) (by omega)]
set_option maxRecDepth 100000 in
def hz_oNam (tp : Nat → Int32) (L : Nat) (w : Int32) (t1 t2 t3 t4 : Nat → Int32) (t5 : Int32) (t6 : Bool) (g1 : Int32 × Int32) (nm : Int32) (ng : Bool) (fr : Nat → Int32) (r : hz_MR) (c m i a : Nat) (C : Option (Bool × SReader × STable)) (M : Option SModel) : Prop :=
  (∃ p b x tb' b1 fr', p ≤ L ∧ C = some (false, (tp, hz_nI L, b, x, hz_nI p), tb') ∧ M = f_Model_materialRow_147 (g1, (hz_nI L, tp, b1, hz_nI p), (nm, ng, fr'), r) (hz_nI m)) ∨
  ∃ b x t2' t3' t4' fr' many, a ≤ b ∧ b ≤ L ∧ C = some (true, (tp, hz_nI L, hz_nI b, x, w), (t1, t2', t3', t4', t5, t6)) ∧ M = f_Model_materialRow_147 (g1, (hz_nI L, tp, hz_nI b, -hz_nI 1), (nm, ng, fr'), r) (hz_nI m) ∧
    i < many ∧ many ≤ 3 ∧ t2' (c * 9 + 8) = hz_nI many ∧ fr' (m + 9) = hz_nI many ∧ (∀ n, i ≤ n → n < many → hz_nameR t3' t4' fr' c m n) ∧
    (∀ q, q ≠ c * 9 + 8 → t2' q = t2 q) ∧ (∀ q, ¬ (c * 3 + i ≤ q ∧ q < c * 3 + 3) → t3' q = t3 q) ∧ (∀ q, ¬ ((c * 3 + i) * 10 ≤ q ∧ q < (c * 3 + 3) * 10) → t4' q = t4 q) ∧ (∀ q, q ≠ m + 9 → ¬ (m + 10 + 11 * i ≤ q ∧ q < m + 43) → fr' q = fr q)
set_option maxRecDepth 100000 in
theorem hz_q_110W {g1 : Int32 × Int32} {l a : Int32} {p n : Nat} {m : Int32} (hp : p ≤ 400) {tp : Nat → Int32} {g3 : hz_M3} {r : hz_MR} : f_Model_materialRow_110 (n + 1) (g1, (l, tp, a, hz_nI p), g3, r) m = f_Model_materialRow_147 (g1, (l, tp, a, hz_nI p), g3, r) m := by
  rw [f_Model_materialRow_110]
  simp (disch := omega) only [hz_nI_lit, hz_nI_add, hz_nI_mul, hz_nI_lt, hz_nI_le, hz_nI_inj, hz_nI_sub, hz_nI_nat, hz_nI_inb, hz_nI_pred, hz_nI_m1_lt, hz_nI_lt_m1, hz_nI_m1_le, hz_nI_le_m1, hz_nI_eq_m1, hz_nI_m1_eq, hz_bI0, if_pos, if_neg, if_true, if_false, Option.bind_some, Prod.eta, reduceCtorEq]
set_option maxRecDepth 100000 in
theorem hz_wrT_in {f g : Nat → Int32} {b s k j : Nat} (h : j < k) : hz_wrT f b g s k (b + j) = g (s + j) := by
  unfold hz_wrT; rw [if_pos (by omega), show b + j - b = j by omega]
set_option maxRecDepth 100000 in
theorem hz_wrT_out {f g : Nat → Int32} {b s k j : Nat} (h : ¬ (b ≤ j ∧ j < b + k)) : hz_wrT f b g s k j = f j := if_neg h
set_option maxRecDepth 100000 in
theorem hz_pq_names {tp : Nat → Int32} {L : Nat} {w : Int32} {t1 : Nat → Int32} {t5 : Int32} {t6 : Bool} {g1 : Int32 × Int32} {nm : Int32} {ng : Bool} {r : hz_MR} {c m : Nat} (hL : L ≤ 400) (hc : c ≤ 12) (hm : m ≤ 516) :
    ∀ k i n1 n2 a x t2 t3 t4 fr, 3 = i + (k + 1) → k < n1 → k < n2 → a ≤ L → fr (m + 9) = hz_nI i → hz_oNam tp L w t1 t2 t3 t4 t5 t6 g1 nm ng fr r c m i a (f_Reader_readNames_2 n1 (tp, hz_nI L, hz_nI a, x, w) (t1, t2, t3, t4, t5, t6) (hz_nI c) (hz_nI i)) (Option.bind (f_Model_name (g1, (hz_nI L, tp, hz_nI a, -hz_nI 1), (nm, ng, fr), r) (hz_nI m)) fun u => f_Model_materialRow_110 n2 u (hz_nI m)) := by
  intro k
  induction k with
  | zero =>
    intro i n1 n2 a x t2 t3 t4 fr h1 h2 h3 h4 h5
    obtain ⟨n1, rfl⟩ : ∃ n', n1 = n' + 1 := ⟨n1 - 1, by omega⟩
    obtain ⟨n2, rfl⟩ : ∃ n', n2 = n' + 1 := ⟨n2 - 1, by omega⟩
    have hi : i = 2 := by omega
    subst hi
    have hN := hz_p_name (tp := tp) (v := x) (w := w) (t1 := t1) (t2 := t2) (t3 := t3) (lt := t4) (t5 := t5) (t6 := t6) (c := c) (nm := 2) hL h4 hc (by omega)
    have hQ := hz_q_name (g1 := g1) (tp := tp) (m := m) (nm := nm) (ng := ng) (fr := fr) (r := r) hL h4 hm (by omega) h5
    have hB := hz_nameS_bd (tp := tp) h4
    rw [f_Reader_readNames_2]
    cases hq : hz_nameS tp L a with
    | inl p =>
      obtain ⟨b, y, tb', e1⟩ := hN.1 p hq
      obtain ⟨b1, fr', e2⟩ := hQ.1 p hq
      have hpL := hB.1 p hq
      rw [e1, e2]
      simp only [Option.bind_some, hz_nI_lit, hz_bI0, if_true]
      rw [hz_q_110W (show p ≤ 400 by omega)]
      exact Or.inl ⟨p, _, _, _, _, _, hpL, rfl, rfl⟩
    | inr z =>
      obtain ⟨s, l⟩ := z
      have hb := hB.2 s l hq
      rw [hN.2 s l hq, hQ.2 s l hq]
      have e3 : f_Model_materialRow_110 (n2 + 1) (g1, (hz_nI L, tp, hz_nI (s + l + 1), -hz_nI 1), (nm, ng, upd (upd (hz_wrT fr (m + 10 + 11 * 2 + 1) tp s l) (m + 10 + 11 * 2) (hz_nI l)) (m + 9) (hz_nI (2 + 1))), r) (hz_nI m) = f_Model_materialRow_147 (g1, (hz_nI L, tp, hz_nI (s + l + 1), -hz_nI 1), (nm, ng, upd (upd (hz_wrT fr (m + 10 + 11 * 2 + 1) tp s l) (m + 10 + 11 * 2) (hz_nI l)) (m + 9) (hz_nI (2 + 1))), r) (hz_nI m) := by
        rw [f_Model_materialRow_110]
        simp (disch := omega) only [hz_nI_lit, hz_nI_add, hz_nI_mul, hz_nI_lt, hz_nI_le, hz_nI_inj, hz_nI_sub, hz_nI_nat, hz_nI_inb, hz_nI_pred, hz_nI_m1_lt, hz_nI_lt_m1, hz_nI_m1_le, hz_nI_le_m1, hz_nI_eq_m1, hz_nI_m1_eq, hz_bI0, if_pos, if_neg, if_true, if_false, Option.bind_some, Prod.eta, reduceCtorEq, hz_upd_eq]
      simp only [Option.bind_some]
      rw [e3]
      simp (disch := omega) only [hz_nI_lit, hz_nI_add, hz_nI_mul, hz_nI_lt, hz_nI_le, hz_nI_inj, hz_nI_sub, hz_nI_nat, hz_nI_inb, hz_nI_pred, hz_nI_m1_lt, hz_nI_lt_m1, hz_nI_m1_le, hz_nI_le_m1, hz_nI_eq_m1, hz_nI_m1_eq, hz_bI0, if_pos, if_neg, if_true, if_false, Option.bind_some, Prod.eta, reduceCtorEq, Bool.true_eq_false]
      refine Or.inr ⟨s + l + 1, _, _, _, _, _, 3, by omega, by omega, rfl, rfl, by omega, by omega, hz_upd_eq _ _ _, hz_upd_eq _ _ _, ?_, fun q hq => hz_upd_ne hq, fun q hq => hz_upd_ne (by omega), fun q hq => hz_wrT_out (by omega), fun q hq1 hq2 => ?_⟩
      · intro n hn1 hn2
        have : n = 2 := by omega
        subst this
        refine ⟨l, hb.2.2.1, hb.2.2.2, hz_upd_eq _ _ _, ?_, fun i hi => ?_⟩
        · rw [hz_upd_ne (by omega), hz_upd_eq]
        · rw [hz_wrT_in hi, hz_upd_ne (by omega), hz_upd_ne (by omega), show m + 11 + 11 * 2 + i = m + 10 + 11 * 2 + 1 + i by omega, hz_wrT_in hi]
      · rw [hz_upd_ne hq1, hz_upd_ne (by omega), hz_wrT_out (by omega)]
  | succ k ih =>
    intro i n1 n2 a x t2 t3 t4 fr h1 h2 h3 h4 h5
    obtain ⟨n1, rfl⟩ : ∃ n', n1 = n' + 1 := ⟨n1 - 1, by omega⟩
    obtain ⟨n2, rfl⟩ : ∃ n', n2 = n' + 1 := ⟨n2 - 1, by omega⟩
    have hN := hz_p_name (tp := tp) (v := x) (w := w) (t1 := t1) (t2 := t2) (t3 := t3) (lt := t4) (t5 := t5) (t6 := t6) (c := c) (nm := i) hL h4 hc (by omega)
    have hQ := hz_q_name (g1 := g1) (tp := tp) (m := m) (nm := nm) (ng := ng) (fr := fr) (r := r) hL h4 hm (by omega) h5
    have hB := hz_nameS_bd (tp := tp) h4
    rw [f_Reader_readNames_2]
    cases hq : hz_nameS tp L a with
    | inl p =>
      obtain ⟨b, y, tb', e1⟩ := hN.1 p hq
      obtain ⟨b1, fr', e2⟩ := hQ.1 p hq
      have hpL := hB.1 p hq
      rw [e1, e2]
      simp only [Option.bind_some, hz_nI_lit, hz_bI0, if_true]
      rw [hz_q_110W (show p ≤ 400 by omega)]
      exact Or.inl ⟨p, _, _, _, _, _, hpL, rfl, rfl⟩
    | inr z =>
      obtain ⟨s, l⟩ := z
      have hb := hB.2 s l hq
      have hs := hz_skp_bd (tp := tp) (show s + l + 1 ≤ L by omega)
      rw [hN.2 s l hq, hQ.2 s l hq]
      generalize hfr : upd (upd (hz_wrT fr (m + 10 + 11 * i + 1) tp s l) (m + 10 + 11 * i) (hz_nI l)) (m + 9) (hz_nI (i + 1)) = fr1
      have hf9 : fr1 (m + 9) = hz_nI (i + 1) := by rw [← hfr]; exact hz_upd_eq _ _ _
      have hfo : ∀ q, q ≠ m + 9 → ¬ (m + 10 + 11 * i ≤ q ∧ q < m + 43) → fr1 q = fr q := by
        intro q hq1 hq2
        rw [← hfr, hz_upd_ne hq1, hz_upd_ne (by omega), hz_wrT_out (by omega)]
      have hnR : hz_nameR (upd t3 (c * 3 + i) (hz_nI l)) (hz_wrT t4 ((c * 3 + i) * 10) tp s l) fr1 c m i := by
        refine ⟨l, hb.2.2.1, hb.2.2.2, hz_upd_eq _ _ _, ?_, fun j hj => ?_⟩
        · rw [← hfr, hz_upd_ne (by omega), hz_upd_eq]
        · rw [hz_wrT_in hj, ← hfr, hz_upd_ne (by omega), hz_upd_ne (by omega), show m + 11 + 11 * i + j = m + 10 + 11 * i + 1 + j by omega, hz_wrT_in hj]
      by_cases c3 : hz_hereT tp L (hz_skp tp L (s + l + 1)) = hz_nI 34
      · have ih' := ih (i + 1) n1 n2 (hz_skp tp L (s + l + 1)) x (upd t2 (c * 9 + 8) (hz_nI (i + 1))) (upd t3 (c * 3 + i) (hz_nI l)) (hz_wrT t4 ((c * 3 + i) * 10) tp s l) fr1 (by omega) (by omega) (by omega) hs.2 hf9
        have e3 : f_Model_materialRow_110 (n2 + 1) (g1, (hz_nI L, tp, hz_nI (s + l + 1), -hz_nI 1), (nm, ng, fr1), r) (hz_nI m) = Option.bind (f_Model_name (g1, (hz_nI L, tp, hz_nI (hz_skp tp L (s + l + 1)), -hz_nI 1), (nm, ng, fr1), r) (hz_nI m)) fun u => f_Model_materialRow_110 n2 u (hz_nI m) := by
          rw [f_Model_materialRow_110]
          simp (disch := omega) only [hz_nI_lit, hz_nI_add, hz_nI_mul, hz_nI_lt, hz_nI_le, hz_nI_inj, hz_nI_sub, hz_nI_nat, hz_nI_inb, hz_nI_pred, hz_nI_m1_lt, hz_nI_lt_m1, hz_nI_m1_le, hz_nI_le_m1, hz_nI_eq_m1, hz_nI_m1_eq, hz_bI0, if_pos, if_neg, if_true, if_false, Option.bind_some, Prod.eta, reduceCtorEq, hf9, hz_q_see hL (show s + l + 1 ≤ L by omega), c3]
        simp only [Option.bind_some]
        rw [e3]
        simp (disch := omega) only [hz_nI_lit, hz_nI_add, hz_nI_mul, hz_nI_lt, hz_nI_le, hz_nI_inj, hz_nI_sub, hz_nI_nat, hz_nI_inb, hz_nI_pred, hz_nI_m1_lt, hz_nI_lt_m1, hz_nI_m1_le, hz_nI_le_m1, hz_nI_eq_m1, hz_nI_m1_eq, hz_bI0, if_pos, if_neg, if_true, if_false, Option.bind_some, Prod.eta, reduceCtorEq, Bool.true_eq_false, hz_p_peek hL (show s + l + 1 ≤ L by omega), c3]
        rcases ih' with ⟨p, b, y, tb', b1, fr', j1, j2, j3⟩ | ⟨b, y, t2', t3', t4', fr', many, j1, j2, j3, j4, j5, j6, j7, j8, j9, j10, j11, j12, j13⟩
        · exact Or.inl ⟨p, b, y, tb', b1, fr', j1, j2, j3⟩
        · refine Or.inr ⟨b, y, t2', t3', t4', fr', many, by omega, j2, j3, j4, by omega, j6, j7, j8, ?_, fun q hq => ?_, fun q hq => ?_, fun q hq => ?_, fun q hq1 hq2 => ?_⟩
          · intro n hn1 hn2
            by_cases hni : n = i
            · subst hni
              exact hz_nameR_keep hnR (j11 _ (by omega)) (fun j hj => j12 _ (by omega)) (fun j hj => j13 _ (by omega) (by omega))
            · exact j9 n (by omega) hn2
          · rw [j10 q hq, hz_upd_ne hq]
          · rw [j11 q (by omega), hz_upd_ne (by omega)]
          · rw [j12 q (by omega), hz_wrT_out (by omega)]
          · rw [j13 q hq1 (by omega), hfo q hq1 (by omega)]
      · have e3 : f_Model_materialRow_110 (n2 + 1) (g1, (hz_nI L, tp, hz_nI (s + l + 1), -hz_nI 1), (nm, ng, fr1), r) (hz_nI m) = f_Model_materialRow_147 (g1, (hz_nI L, tp, hz_nI (hz_skp tp L (s + l + 1)), -hz_nI 1), (nm, ng, fr1), r) (hz_nI m) := by
          rw [f_Model_materialRow_110]
          simp (disch := omega) only [hz_nI_lit, hz_nI_add, hz_nI_mul, hz_nI_lt, hz_nI_le, hz_nI_inj, hz_nI_sub, hz_nI_nat, hz_nI_inb, hz_nI_pred, hz_nI_m1_lt, hz_nI_lt_m1, hz_nI_m1_le, hz_nI_le_m1, hz_nI_eq_m1, hz_nI_m1_eq, hz_bI0, if_pos, if_neg, if_true, if_false, Option.bind_some, Prod.eta, reduceCtorEq, hf9, hz_q_see hL (show s + l + 1 ≤ L by omega), c3]
        simp only [Option.bind_some]
        rw [e3]
        simp (disch := omega) only [hz_nI_lit, hz_nI_add, hz_nI_mul, hz_nI_lt, hz_nI_le, hz_nI_inj, hz_nI_sub, hz_nI_nat, hz_nI_inb, hz_nI_pred, hz_nI_m1_lt, hz_nI_lt_m1, hz_nI_m1_le, hz_nI_le_m1, hz_nI_eq_m1, hz_nI_m1_eq, hz_bI0, if_pos, if_neg, if_true, if_false, Option.bind_some, Prod.eta, reduceCtorEq, Bool.true_eq_false, hz_p_peek hL (show s + l + 1 ≤ L by omega), c3]
        refine Or.inr ⟨hz_skp tp L (s + l + 1), _, _, _, _, _, i + 1, by omega, by omega, rfl, rfl, by omega, by omega, hz_upd_eq _ _ _, hf9, ?_, fun q hq => hz_upd_ne hq, fun q hq => hz_upd_ne (by omega), fun q hq => hz_wrT_out (by omega), fun q hq1 hq2 => hfo q hq1 hq2⟩
        intro n hn1 hn2
        have : n = i := by omega
        subst this
        exact hnR
set_option maxRecDepth 100000 in
def hz_fndT (f : Nat → Int32) (x : Int32) : Nat → Nat → Option Nat
  | 0, k => none
  | n + 1, k => if f k = x then some k else hz_fndT f x n (k + 1)
set_option maxRecDepth 100000 in
theorem hz_fndT_congr {f g : Nat → Int32} {x : Int32} : ∀ n k, (∀ i, k ≤ i → i < k + n → f i = g i) → hz_fndT f x n k = hz_fndT g x n k
  | 0, k, h => rfl
  | n + 1, k, h => by
    unfold hz_fndT
    rw [h k (by omega) (by omega), hz_fndT_congr n (k + 1) (fun i h1 h2 => h i (by omega) (by omega))]
set_option maxRecDepth 100000 in
theorem hz_fndT_none {f : Nat → Int32} {x : Int32} : ∀ n k, hz_fndT f x n k = none → ∀ i, k ≤ i → i < k + n → f i ≠ x
  | 0, k, h, i, h1, h2 => by omega
  | n + 1, k, h, i, h1, h2 => by
    unfold hz_fndT at h
    by_cases c : f k = x
    · rw [if_pos c] at h; exact absurd h (by simp)
    · rw [if_neg c] at h
      by_cases hi : i = k
      · subst hi; exact c
      · exact hz_fndT_none n (k + 1) h i (by omega) (by omega)
set_option maxRecDepth 100000 in
theorem hz_fndT_some {f : Nat → Int32} {x : Int32} : ∀ n k q, hz_fndT f x n k = some q → k ≤ q ∧ q < k + n ∧ f q = x
  | 0, k, q, h => by simp [hz_fndT] at h
  | n + 1, k, q, h => by
    unfold hz_fndT at h
    by_cases c : f k = x
    · rw [if_pos c] at h; cases h; exact ⟨Nat.le_refl _, by omega, c⟩
    · rw [if_neg c] at h
      have := hz_fndT_some n (k + 1) q h
      exact ⟨by omega, by omega, this.2.2⟩
set_option maxRecDepth 100000 in
def hz_ixI (o : Option Nat) (d : Nat) : Int32 := match o with
  | some q => hz_nI (q + d)
  | none => -hz_nI 1
set_option maxRecDepth 100000 in
theorem hz_p_rowOf_2 {t1 t2 t3 t4 : Nat → Int32} {M : Nat} {t6 : Bool} {x : Int32} (hM : M ≤ 12) : ∀ j n k, k + j = M → j < n → f_Table_rowOf_2 n (t1, t2, t3, t4, hz_nI M, t6) x (hz_nI (k + 1)) = some (hz_ixI (hz_fndT (fun k => t1 (k + 1)) x j k) 1)
  | 0, n + 1, k, h1, h2 => by
    rw [f_Table_rowOf_2]
    simp only [hz_fndT, hz_ixI]
    simp (disch := omega) only [hz_nI_lit, hz_nI_add, hz_nI_mul, hz_nI_lt, hz_nI_le, hz_nI_inj, hz_nI_sub, hz_nI_nat, hz_nI_inb, hz_nI_pred, hz_nI_m1_lt, hz_nI_lt_m1, hz_nI_m1_le, hz_nI_le_m1, hz_nI_eq_m1, hz_nI_m1_eq, hz_bI0, if_pos, if_neg, if_true, if_false, Option.bind_some, Prod.eta, reduceCtorEq]
  | j + 1, n + 1, k, h1, h2 => by
    have ih := hz_p_rowOf_2 (t1 := t1) (t2 := t2) (t3 := t3) (t4 := t4) (t6 := t6) (x := x) hM j n (k + 1) (by omega) (by omega)
    rw [f_Table_rowOf_2]
    unfold hz_fndT
    by_cases c : t1 (k + 1) = x
    · rw [if_pos c]
      simp only [hz_ixI]
      simp (disch := omega) only [hz_nI_lit, hz_nI_add, hz_nI_mul, hz_nI_lt, hz_nI_le, hz_nI_inj, hz_nI_sub, hz_nI_nat, hz_nI_inb, hz_nI_pred, hz_nI_m1_lt, hz_nI_lt_m1, hz_nI_m1_le, hz_nI_le_m1, hz_nI_eq_m1, hz_nI_m1_eq, hz_bI0, if_pos, if_neg, if_true, if_false, Option.bind_some, Prod.eta, reduceCtorEq, c]
    · rw [if_neg c, ← ih]
      simp (disch := omega) only [hz_nI_lit, hz_nI_add, hz_nI_mul, hz_nI_lt, hz_nI_le, hz_nI_inj, hz_nI_sub, hz_nI_nat, hz_nI_inb, hz_nI_pred, hz_nI_m1_lt, hz_nI_lt_m1, hz_nI_m1_le, hz_nI_le_m1, hz_nI_eq_m1, hz_nI_m1_eq, hz_bI0, if_pos, if_neg, if_true, if_false, Option.bind_some, Prod.eta, reduceCtorEq, c]
set_option maxRecDepth 100000 in
theorem hz_p_rowOf {t1 t2 t3 t4 : Nat → Int32} {M : Nat} {t6 : Bool} {x : Int32} (hM : M ≤ 12) : f_Table_rowOf (t1, t2, t3, t4, hz_nI M, t6) x = some (hz_ixI (hz_fndT (fun k => t1 (k + 1)) x M 0) 1) := by
  unfold f_Table_rowOf
  exact hz_p_rowOf_2 hM M 4096 0 (by omega) (by omega)
set_option maxRecDepth 100000 in
theorem hz_q_39W {g1 : Int32 × Int32} {l a : Int32} {p M : Nat} {y1 y2 : Int32} (hp : p ≤ 400) (hM : M ≤ 12) {tp : Nat → Int32} {ng : Bool} {fr : Nat → Int32} {r : hz_MR} : ∀ j n k, k + j = M → j < n → f_Model_materialRow_39 n (g1, (l, tp, a, hz_nI p), (hz_nI M, ng, fr), r) y1 y2 (hz_nI k) = some (g1, (l, tp, a, hz_nI p), (hz_nI M, ng, fr), r)
  | 0, n + 1, k, h1, h2 => by
    rw [f_Model_materialRow_39]
    simp (disch := omega) only [hz_nI_lit, hz_nI_add, hz_nI_mul, hz_nI_lt, hz_nI_le, hz_nI_inj, hz_nI_sub, hz_nI_nat, hz_nI_inb, hz_nI_pred, hz_nI_m1_lt, hz_nI_lt_m1, hz_nI_m1_le, hz_nI_le_m1, hz_nI_eq_m1, hz_nI_m1_eq, hz_bI0, if_pos, if_neg, if_true, if_false, Option.bind_some, Prod.eta, reduceCtorEq]
  | j + 1, n + 1, k, h1, h2 => by
    have ih := hz_q_39W (g1 := g1) (l := l) (a := a) (y1 := y1) (y2 := y2) hp hM (tp := tp) (ng := ng) (fr := fr) (r := r) j n (k + 1) (by omega) (by omega)
    rw [f_Model_materialRow_39]
    by_cases c : fr (k * 43 + 0) = y2
    · simp (disch := omega) only [hz_nI_lit, hz_nI_add, hz_nI_mul, hz_nI_lt, hz_nI_le, hz_nI_inj, hz_nI_sub, hz_nI_nat, hz_nI_inb, hz_nI_pred, hz_nI_m1_lt, hz_nI_lt_m1, hz_nI_m1_le, hz_nI_le_m1, hz_nI_eq_m1, hz_nI_m1_eq, hz_bI0, if_pos, if_neg, if_true, if_false, Option.bind_some, Prod.eta, reduceCtorEq, c, hz_q_failW hp]
      exact ih
    · simp (disch := omega) only [hz_nI_lit, hz_nI_add, hz_nI_mul, hz_nI_lt, hz_nI_le, hz_nI_inj, hz_nI_sub, hz_nI_nat, hz_nI_inb, hz_nI_pred, hz_nI_m1_lt, hz_nI_lt_m1, hz_nI_m1_le, hz_nI_le_m1, hz_nI_eq_m1, hz_nI_m1_eq, hz_bI0, if_pos, if_neg, if_true, if_false, Option.bind_some, Prod.eta, reduceCtorEq, c, hz_q_failW hp]
      exact ih
set_option maxRecDepth 100000 in
theorem hz_q_39 {g1 : Int32 × Int32} {tp : Nat → Int32} {L a M m : Nat} {y2 : Int32} (hm : m ≤ 516) (hL : L ≤ 400) (ha : a ≤ L) (ha1 : 1 ≤ a) (hM : M ≤ 12) {ng : Bool} {fr : Nat → Int32} {r : hz_MR} : ∀ j n k, k + j = M → j < n →
    (hz_fndT (fun k => fr (k * 43)) y2 j k ≠ none → f_Model_materialRow_39 n (g1, (hz_nI L, tp, hz_nI a, -hz_nI 1), (hz_nI M, ng, fr), r) (hz_nI m) y2 (hz_nI k) = some (g1, (hz_nI L, tp, hz_nI a, hz_nI (a - 1)), (hz_nI M, ng, fr), r)) ∧
    (hz_fndT (fun k => fr (k * 43)) y2 j k = none → f_Model_materialRow_39 n (g1, (hz_nI L, tp, hz_nI a, -hz_nI 1), (hz_nI M, ng, fr), r) (hz_nI m) y2 (hz_nI k) = Option.bind (f_Model_name (g1, (hz_nI L, tp, hz_nI a, -hz_nI 1), (hz_nI M, ng, upd (upd fr m y2) (m + 9) (hz_nI 0)), r) (hz_nI m)) fun u8 => f_Model_materialRow_110 4096 u8 (hz_nI m))
  | 0, n + 1, k, h1, h2 => by
    refine ⟨fun h => absurd rfl h, fun _ => ?_⟩
    rw [f_Model_materialRow_39]
    simp (disch := omega) only [hz_nI_lit, hz_nI_add, hz_nI_mul, hz_nI_lt, hz_nI_le, hz_nI_inj, hz_nI_sub, hz_nI_nat, hz_nI_inb, hz_nI_pred, hz_nI_m1_lt, hz_nI_lt_m1, hz_nI_m1_le, hz_nI_le_m1, hz_nI_eq_m1, hz_nI_m1_eq, hz_bI0, if_pos, if_neg, if_true, if_false, Option.bind_some, Prod.eta, reduceCtorEq, Nat.add_zero]
  | j + 1, n + 1, k, h1, h2 => by
    have ih := hz_q_39 (g1 := g1) (tp := tp) (m := m) (y2 := y2) hm hL ha ha1 hM (ng := ng) (fr := fr) (r := r) j n (k + 1) (by omega) (by omega)
    rw [f_Model_materialRow_39]
    unfold hz_fndT
    by_cases c : fr (k * 43) = y2
    · refine ⟨fun _ => ?_, fun h => by simp only [c, if_true] at h; exact absurd h (by simp)⟩
      have e := hz_q_39W (g1 := g1) (l := hz_nI L) (a := hz_nI a) (p := a - 1) (y1 := hz_nI m) (y2 := y2) (by omega) hM (tp := tp) (ng := ng) (fr := fr) (r := r) j n (k + 1) (by omega) (by omega)
      simp (disch := omega) only [hz_nI_lit, hz_nI_add, hz_nI_mul, hz_nI_lt, hz_nI_le, hz_nI_inj, hz_nI_sub, hz_nI_nat, hz_nI_inb, hz_nI_pred, hz_nI_m1_lt, hz_nI_lt_m1, hz_nI_m1_le, hz_nI_le_m1, hz_nI_eq_m1, hz_nI_m1_eq, hz_bI0, if_pos, if_neg, if_true, if_false, Option.bind_some, Prod.eta, reduceCtorEq, Nat.add_zero, c, hz_q_fail]
      exact e
    · simp only [c, if_false]
      simp (disch := omega) only [hz_nI_lit, hz_nI_add, hz_nI_mul, hz_nI_lt, hz_nI_le, hz_nI_inj, hz_nI_sub, hz_nI_nat, hz_nI_inb, hz_nI_pred, hz_nI_m1_lt, hz_nI_lt_m1, hz_nI_m1_le, hz_nI_le_m1, hz_nI_eq_m1, hz_nI_m1_eq, hz_bI0, if_pos, if_neg, if_true, if_false, Option.bind_some, Prod.eta, reduceCtorEq, Nat.add_zero, c]
      exact ih
set_option maxRecDepth 100000 in
def hz_cellsR (t2 fr : Nat → Int32) (c m : Nat) : Prop := (∀ j, j < 9 → t2 (c * 9 + j) = fr (m + 1 + j)) ∧ (∀ j, j < 4 → ∃ d, d ≤ 9999 ∧ fr (m + 4 + j) = hz_nI d)
set_option maxRecDepth 100000 in
def hz_matR (t1 t2 t3 t4 fr : Nat → Int32) (c m : Nat) : Prop := (∃ v, 1 ≤ v ∧ v ≤ 9999 ∧ t1 c = hz_nI v ∧ fr m = hz_nI v) ∧ hz_cellsR t2 fr c m ∧ (∃ many, 1 ≤ many ∧ many ≤ 3 ∧ fr (m + 9) = hz_nI many ∧ ∀ n, n < many → hz_nameR t3 t4 fr c m n)
set_option maxRecDepth 100000 in
def hz_tabR (t1 t2 t3 t4 fr : Nat → Int32) (M : Nat) (gen : Bool) : Prop := (∀ k, k < M → hz_matR t1 t2 t3 t4 fr (k + 1) (k * 43)) ∧ (∀ i j, i < j → j < M → fr (i * 43) ≠ fr (j * 43)) ∧ (gen = true → hz_cellsR t2 fr 0 516)
set_option maxRecDepth 100000 in
def hz_zerR (t2 : Nat → Int32) (M : Nat) : Prop := (∀ c, M < c → c ≤ 12 → t2 (c * 9 + 7) = hz_nI 0) ∧ t2 0 = hz_nI 0 ∧ t2 7 = hz_nI 0 ∧ t2 8 = hz_nI 0
set_option maxRecDepth 100000 in
theorem hz_cellsR_keep {t2 fr t2' fr' : Nat → Int32} {c m : Nat} (h : hz_cellsR t2 fr c m) (h2 : ∀ q, c * 9 ≤ q → q < c * 9 + 9 → t2' q = t2 q) (hf : ∀ q, m ≤ q → q < m + 43 → fr' q = fr q) : hz_cellsR t2' fr' c m :=
  ⟨fun j hj => by rw [h2 _ (by omega) (by omega), hf _ (by omega) (by omega), h.1 j hj], fun j hj => by
    obtain ⟨d, h3, h4⟩ := h.2 j hj
    exact ⟨d, h3, by rw [hf _ (by omega) (by omega), h4]⟩⟩
set_option maxRecDepth 100000 in
theorem hz_matR_keep {t1 t2 t3 t4 fr t1' t2' t3' t4' fr' : Nat → Int32} {c m : Nat} (h : hz_matR t1 t2 t3 t4 fr c m) (h1 : t1' c = t1 c) (h2 : ∀ q, c * 9 ≤ q → q < c * 9 + 9 → t2' q = t2 q) (h3 : ∀ q, c * 3 ≤ q → q < c * 3 + 3 → t3' q = t3 q) (h4 : ∀ q, c * 30 ≤ q → q < c * 30 + 30 → t4' q = t4 q) (hf : ∀ q, m ≤ q → q < m + 43 → fr' q = fr q) : hz_matR t1' t2' t3' t4' fr' c m := by
  obtain ⟨⟨v, v1, v2, v3, v4⟩, hc, many, m1, m2, m3, m4⟩ := h
  refine ⟨⟨v, v1, v2, h1.trans v3, (hf m (by omega) (by omega)).trans v4⟩, hz_cellsR_keep hc h2 hf, many, m1, m2, (hf _ (by omega) (by omega)).trans m3, fun n hn => ?_⟩
  exact hz_nameR_keep (m4 n hn) (h3 _ (by omega) (by omega)) (fun i hi => h4 _ (by omega) (by omega)) (fun i hi => hf _ (by omega) (by omega))
set_option maxRecDepth 100000 in
noncomputable def hz_matC (rd : SReader) (tb : STable) : Option (Bool × SReader × STable) :=
  (Option.bind (f_Reader_startMaterial rd tb) fun u3 =>
    (if (bI u3.1) = 0 then
      (some (false, u3.2.1, u3.2.2))
     else
      (Option.bind (f_Reader_readNames u3.2.1 u3.2.2 u3.2.2.2.2.2.2.1) fun u5 =>
        (if (bI u5.1) = 0 then
          (some (false, u5.2.1, u5.2.2))
         else
          hz_chC u5.2.1 u5.2.2))))
set_option maxRecDepth 100000 in
def hz_oRow (tp : Nat → Int32) (L : Nat) (g1 : Int32 × Int32) (r : hz_MR) (a : Nat) (C : Option (Bool × SReader × STable)) (M9 : Option SModel) : Prop :=
  (∃ p q b x tb' b1 nm' ng' fr', p ≤ L ∧ q ≤ L ∧ C = some (false, (tp, hz_nI L, b, x, hz_nI p), tb') ∧ M9 = some (g1, (hz_nI L, tp, b1, hz_nI q), (nm', ng', fr'), r)) ∨
  (∃ b x t1 t2 t3 t4 M gen fr, a < b ∧ b ≤ L ∧ M ≤ 12 ∧ C = some (true, (tp, hz_nI L, hz_nI b, x, -hz_nI 1), (t1, t2, t3, t4, hz_nI M, gen)) ∧ M9 = some (g1, (hz_nI L, tp, hz_nI b, -hz_nI 1), (hz_nI M, gen, fr), r) ∧ hz_tabR t1 t2 t3 t4 fr M gen ∧ hz_zerR t2 M)
set_option maxRecDepth 100000 in
theorem hz_p_start {tp : Nat → Int32} {L a M : Nat} {t1 t2 t3 t4 : Nat → Int32} {gen : Bool} {x w : Int32} (hM : M < 12) : f_Reader_startMaterial (tp, hz_nI L, hz_nI a, x, w) (t1, t2, t3, t4, hz_nI M, gen) = Option.bind (f_Reader_readNumber (tp, hz_nI L, hz_nI (a + 1), x, w) (hz_nI 1) (hz_nI 9999)) fun u3 => if u3.1 = false then some (false, u3.2, (t1, t2, t3, t4, hz_nI M, gen)) else Option.bind (f_Table_rowOf (t1, t2, t3, t4, hz_nI M, gen) u3.2.2.2.2.1) fun u5 => if u5 = -hz_nI 1 then some (true, u3.2, (upd t1 (M + 1) u3.2.2.2.2.1, t2, t3, t4, hz_nI (M + 1), gen)) else some (false, (u3.2.1, u3.2.2.1, u3.2.2.2.1, u3.2.2.2.2.1, u3.2.2.2.1 - hz_nI 1), (t1, t2, t3, t4, hz_nI M, gen)) := by
  unfold f_Reader_startMaterial f_Table_isFull f_Table_append f_Table_isFull f_Reader_wrong
  simp (disch := omega) only [hz_nI_lit, hz_nI_add, hz_nI_mul, hz_nI_lt, hz_nI_le, hz_nI_inj, hz_nI_sub, hz_nI_nat, hz_nI_inb, hz_nI_pred, hz_nI_m1_lt, hz_nI_lt_m1, hz_nI_m1_le, hz_nI_le_m1, hz_nI_eq_m1, hz_nI_m1_eq, hz_bI0, if_pos, if_neg, if_true, if_false, Option.bind_some, Prod.eta, reduceCtorEq]
set_option maxRecDepth 100000 in
theorem hz_eC_names {n : Nat} {rd rd' : SReader} {tb tb' : STable} {c i : Int32} (h : f_Reader_readName rd tb c i = some (false, rd', tb')) : f_Reader_readNames_2 (n + 1) rd tb c i = some (false, rd', tb') := by
  rw [f_Reader_readNames_2, h]
  simp only [Option.bind_some, hz_nI_lit, hz_bI0, if_true]
set_option maxRecDepth 100000 in
theorem hz_matC_dup {tp : Nat → Int32} {L a b v M q : Nat} {t1 t2 t3 t4 : Nat → Int32} {gen : Bool} {x w : Int32} (hM : M < 12) (hb : 1 ≤ b) (e1 : f_Reader_readNumber (tp, hz_nI L, hz_nI (a + 1), x, w) (hz_nI 1) (hz_nI 9999) = some (true, (tp, hz_nI L, hz_nI b, hz_nI v, w))) (hf : hz_fndT (fun k => t1 (k + 1)) (hz_nI v) M 0 = some q) : hz_matC (tp, hz_nI L, hz_nI a, x, w) (t1, t2, t3, t4, hz_nI M, gen) = some (false, (tp, hz_nI L, hz_nI b, hz_nI v, hz_nI (b - 1)), (t1, t2, t3, t4, hz_nI M, gen)) := by
  have hq9 := hz_fndT_some M 0 q hf
  have e5 : ¬ hz_ixI (some q) 1 = -hz_nI 1 := by simp only [hz_ixI]; rw [hz_nI_eq_m1 (by omega)]; exact id
  have e6 : f_Reader_startMaterial (tp, hz_nI L, hz_nI a, x, w) (t1, t2, t3, t4, hz_nI M, gen) = some (false, (tp, hz_nI L, hz_nI b, hz_nI v, hz_nI (b - 1)), (t1, t2, t3, t4, hz_nI M, gen)) := by
    rw [hz_p_start hM, e1, Option.bind_some, if_neg (show ¬ (true = false) by decide), hz_p_rowOf (Nat.le_of_lt hM), hf, Option.bind_some, if_neg e5]
    rw [hz_nI_sub hb]
  unfold hz_matC
  rw [e6, Option.bind_some, if_pos (show bI false = 0 from rfl)]
set_option maxRecDepth 100000 in
theorem hz_matC_new {tp : Nat → Int32} {L a b v M : Nat} {t1 t2 t3 t4 : Nat → Int32} {gen : Bool} {x w : Int32} (hM : M < 12) (e1 : f_Reader_readNumber (tp, hz_nI L, hz_nI (a + 1), x, w) (hz_nI 1) (hz_nI 9999) = some (true, (tp, hz_nI L, hz_nI b, hz_nI v, w))) (hf : hz_fndT (fun k => t1 (k + 1)) (hz_nI v) M 0 = none) : hz_matC (tp, hz_nI L, hz_nI a, x, w) (t1, t2, t3, t4, hz_nI M, gen) = Option.bind (f_Reader_readNames_2 4096 (tp, hz_nI L, hz_nI b, hz_nI v, w) (upd t1 (M + 1) (hz_nI v), t2, t3, t4, hz_nI (M + 1), gen) (hz_nI (M + 1)) (hz_nI 0)) fun u5 => if bI u5.1 = 0 then some (false, u5.2.1, u5.2.2) else hz_chC u5.2.1 u5.2.2 := by
  have e6 : f_Reader_startMaterial (tp, hz_nI L, hz_nI a, x, w) (t1, t2, t3, t4, hz_nI M, gen) = some (true, (tp, hz_nI L, hz_nI b, hz_nI v, w), (upd t1 (M + 1) (hz_nI v), t2, t3, t4, hz_nI (M + 1), gen)) := by
    rw [hz_p_start hM, e1, Option.bind_some, if_neg (show ¬ (true = false) by decide), hz_p_rowOf (Nat.le_of_lt hM), hf, Option.bind_some, if_pos (show hz_ixI none 1 = -hz_nI 1 from rfl)]
  unfold hz_matC
  rw [e6, Option.bind_some, if_neg (show ¬ (bI true = 0) by decide)]
  unfold f_Reader_readNames
  rw [hz_nI_lit]
set_option maxRecDepth 100000 in
theorem hz_pq_mat {tp : Nat → Int32} {L : Nat} {t1 t2 t3 t4 : Nat → Int32} {gen : Bool} {g1 : Int32 × Int32} {fr : Nat → Int32} {r : hz_MR} {M a : Nat} {x : Int32} (hL : L ≤ 400) (ha : a < L) (hM : M ≤ 12) (hT : hz_tabR t1 t2 t3 t4 fr M gen) (hZ : hz_zerR t2 M) :
    hz_oRow tp L g1 r a (hz_matC (tp, hz_nI L, hz_nI a, x, -hz_nI 1) (t1, t2, t3, t4, hz_nI M, gen)) (f_Model_materialRow (g1, (hz_nI L, tp, hz_nI (a + 1), -hz_nI 1), (hz_nI M, gen, fr), r)) := by
  by_cases c12 : M = 12
  · subst c12
    have eC : hz_matC (tp, hz_nI L, hz_nI a, x, -hz_nI 1) (t1, t2, t3, t4, hz_nI 12, gen) = some (false, (tp, hz_nI L, hz_nI a, x, hz_nI a), (t1, t2, t3, t4, hz_nI 12, gen)) := by
      unfold hz_matC f_Reader_startMaterial f_Table_isFull f_Reader_wrong
      simp (disch := omega) only [hz_nI_lit, hz_nI_add, hz_nI_mul, hz_nI_lt, hz_nI_le, hz_nI_inj, hz_nI_sub, hz_nI_nat, hz_nI_inb, hz_nI_pred, hz_nI_m1_lt, hz_nI_lt_m1, hz_nI_m1_le, hz_nI_le_m1, hz_nI_eq_m1, hz_nI_m1_eq, hz_bI0, if_pos, if_neg, if_true, if_false, Option.bind_some, Prod.eta, reduceCtorEq, Bool.true_eq_false]
    have eM : f_Model_materialRow (g1, (hz_nI L, tp, hz_nI (a + 1), -hz_nI 1), (hz_nI 12, gen, fr), r) = some (g1, (hz_nI L, tp, hz_nI (a + 1), hz_nI a), (hz_nI 12, gen, fr), r) := by
      unfold f_Model_materialRow
      simp (disch := omega) only [hz_nI_lit, hz_nI_add, hz_nI_mul, hz_nI_lt, hz_nI_le, hz_nI_inj, hz_nI_sub, hz_nI_nat, hz_nI_inb, hz_nI_pred, hz_nI_m1_lt, hz_nI_lt_m1, hz_nI_m1_le, hz_nI_le_m1, hz_nI_eq_m1, hz_nI_m1_eq, hz_bI0, if_pos, if_neg, if_true, if_false, Option.bind_some, Prod.eta, reduceCtorEq, hz_q_fail, Nat.add_sub_cancel]
    rw [eC, eM]
    exact Or.inl ⟨a, a, _, _, _, _, _, _, _, by omega, by omega, rfl, rfl⟩
  · have hM' : M < 12 := by omega
    have hm : M * 43 ≤ 516 := by omega
    have hN := hz_p_num (tp := tp) (v := x) (w := -hz_nI 1) (lo := 1) (hi := 9999) hL (by omega) (by omega) (show a + 1 ≤ L from ha)
    have hQ := hz_q_num (g1 := g1) (tp := tp) (g3 := (hz_nI M, gen, fr)) (r := r) (lo := 1) (hi := 9999) hL (by omega) (by omega) (show a + 1 ≤ L from ha)
    have hB := hz_numS_bd (tp := tp) (lo := 1) (hi := 9999) (by omega) (show a + 1 ≤ L from ha)
    have eM0 : f_Model_materialRow (g1, (hz_nI L, tp, hz_nI (a + 1), -hz_nI 1), (hz_nI M, gen, fr), r) = Option.bind (f_Model_number (g1, (hz_nI L, tp, hz_nI (a + 1), -hz_nI 1), (hz_nI M, gen, fr), r) (hz_nI 1) (hz_nI 9999)) fun u2 => f_Model_materialRow_39 4096 u2.2 (hz_nI (M * 43)) u2.1 (hz_nI 0) := by
      unfold f_Model_materialRow
      simp (disch := omega) only [hz_nI_lit, hz_nI_add, hz_nI_mul, hz_nI_lt, hz_nI_le, hz_nI_inj, hz_nI_sub, hz_nI_nat, hz_nI_inb, hz_nI_pred, hz_nI_m1_lt, hz_nI_lt_m1, hz_nI_m1_le, hz_nI_le_m1, hz_nI_eq_m1, hz_nI_m1_eq, hz_bI0, if_pos, if_neg, if_true, if_false, Option.bind_some, Prod.eta, reduceCtorEq]
    rw [eM0]
    cases hq : hz_numS tp L 1 9999 (a + 1) with
    | inl p =>
      obtain ⟨b, y, hb, e1⟩ := hN.1 p hq
      obtain ⟨b1, hb1, e2⟩ := hQ.1 p hq
      have hpL := hB.1 p hq
      unfold hz_matC
      rw [hz_p_start hM', e1, e2, Option.bind_some, Option.bind_some, if_pos rfl, Option.bind_some]
      rw [if_pos (show bI false = 0 from rfl)]
      rw [hz_q_39W (show p ≤ 400 by omega) hM M 4096 0 (by omega) (by omega)]
      exact Or.inl ⟨p, p, _, _, _, _, _, _, _, hpL, hpL, rfl, rfl⟩
    | inr z =>
      obtain ⟨v, b⟩ := z
      have hb := hB.2 v b hq
      have e1 := hN.2 v b hq
      have hcg : hz_fndT (fun k => t1 (k + 1)) (hz_nI v) M 0 = hz_fndT (fun k => fr (k * 43)) (hz_nI v) M 0 := hz_fndT_congr M 0 (fun i _ hi => by
        obtain ⟨⟨v9, _, _, h3, h4⟩, _⟩ := hT.1 i (by omega)
        show t1 (i + 1) = fr (i * 43)
        rw [h3, h4])
      cases hf : hz_fndT (fun k => fr (k * 43)) (hz_nI v) M 0 with
      | some q =>
        rw [hz_matC_dup hM' (by omega) e1 (hcg.trans hf)]
        rcases hQ.2 v b hq with e2 | ⟨hd, e2⟩
        · have e6 := (hz_q_39 (g1 := g1) (tp := tp) (m := M * 43) (y2 := hz_nI v) hm hL hb.2.1 (by omega) hM (ng := gen) (fr := fr) (r := r) M 4096 0 (by omega) (by omega)).1 (by rw [hf]; simp)
          rw [e2, Option.bind_some, e6]
          exact Or.inl ⟨b - 1, b - 1, _, _, _, _, _, _, _, by omega, by omega, rfl, rfl⟩
        · rw [e2, Option.bind_some]
          rw [hz_q_39W (show b ≤ 400 by omega) hM M 4096 0 (by omega) (by omega)]
          exact Or.inl ⟨b - 1, b, _, _, _, _, _, _, _, by omega, hb.2.1, rfl, rfl⟩
      | none =>
        rw [hz_matC_new hM' e1 (hcg.trans hf)]
        rcases hQ.2 v b hq with e2 | ⟨hd, e2⟩
        · have e6 := (hz_q_39 (g1 := g1) (tp := tp) (m := M * 43) (y2 := hz_nI v) hm hL hb.2.1 (by omega) hM (ng := gen) (fr := fr) (r := r) M 4096 0 (by omega) (by omega)).2 hf
          rw [e2, Option.bind_some, e6]
          have hNm := hz_pq_names (tp := tp) (w := -hz_nI 1) (t1 := upd t1 (M + 1) (hz_nI v)) (t5 := hz_nI (M + 1)) (t6 := gen) (g1 := g1) (nm := hz_nI M) (ng := gen) (r := r) (c := M + 1) (m := M * 43) hL (by omega) hm 2 0 4096 4096 b (hz_nI v) t2 t3 t4 (upd (upd fr (M * 43) (hz_nI v)) (M * 43 + 9) (hz_nI 0)) (by omega) (by omega) (by omega) hb.2.1 (hz_upd_eq _ _ _)
          rcases hNm with ⟨p, b2, y, tb', b1, fr', j1, j2, j3⟩ | ⟨b2, y, t2', t3', t4', fr', many, j1, j2, j3, j4, j5, j6, j7, j8, j9, j10, j11, j12, j13⟩
          · rw [j2, j3]
            obtain ⟨fr9, e7⟩ := hz_q_147W (g1 := g1) (l := hz_nI L) (a := b1) (show p ≤ 400 by omega) hm (tp := tp) (nm := hz_nI M) (ng := gen) (fr := fr') (r := r)
            rw [e7, Option.bind_some, if_pos (show bI false = 0 from rfl)]
            exact Or.inl ⟨p, p, _, _, _, _, _, _, _, j1, j1, rfl, rfl⟩
          · rw [j3, j4, Option.bind_some, if_neg (show ¬ (bI true = 0) by decide)]
            have h7 : t2' ((M + 1) * 9 + 7) = hz_nI 0 := by rw [j10 _ (by omega)]; exact hZ.1 (M + 1) (by omega) (by omega)
            have hTl := hz_pq_tail (tp := tp) (w := -hz_nI 1) (t1 := upd t1 (M + 1) (hz_nI v)) (t2 := t2') (t3 := t3') (t4 := t4') (t6 := gen) (g1 := g1) (nm := hz_nI M) (ng := gen) (fr := fr') (r := r) (c := M + 1) (m := M * 43) (a := b2) (x := y) hL (by omega) hm j2 h7
            rcases hTl with ⟨p, b3, x3, tb3, b4, fr3, k1, k2, k3⟩ | ⟨b3, x3, t2'', fr'', k1, k2, k3, k4, l0, l1, l2, l3, l7, lf, lg⟩
            · rw [k2, k3]
              exact Or.inl ⟨p, p, _, _, _, _, _, _, _, k1, k1, rfl, rfl⟩
            · rw [k3, k4, hz_nI_add]
              have hfr : ∀ q, ¬ (M * 43 ≤ q ∧ q < M * 43 + 43) → fr'' q = fr q := by
                intro q hq
                rw [lg q (by omega), j13 q (by omega) (by omega), hz_upd_ne (by omega), hz_upd_ne (by omega)]
              have ht2 : ∀ q, ¬ ((M + 1) * 9 ≤ q ∧ q < (M + 1) * 9 + 9) → t2'' q = t2 q := by
                intro q hq
                rw [lf q (by omega), j10 q (by omega)]
              have hfm : fr'' (M * 43) = hz_nI v := by rw [lg _ (by omega), j13 _ (by omega) (by omega), hz_upd_ne (by omega), hz_upd_eq]
              refine Or.inr ⟨b3, x3, _, _, _, _, M + 1, gen, fr'', by omega, k2, by omega, rfl, rfl, ⟨?_, ?_, ?_⟩, ?_⟩
              · intro k hk
                by_cases hkM : k = M
                · subst hkM
                  refine ⟨⟨v, hb.2.2.1, hb.2.2.2, hz_upd_eq _ _ _, hfm⟩, ⟨?_, ?_⟩, many, by omega, j6, ?_, ?_⟩
                  · intro j hj
                    rcases (by omega : j = 0 ∨ j = 1 ∨ j = 2 ∨ (3 ≤ j ∧ j < 7) ∨ j = 7 ∨ j = 8) with rfl | rfl | rfl | h | rfl | rfl
                    · exact l0
                    · exact l1
                    · exact l2
                    · obtain ⟨d, d1, d2, d3⟩ := l3 (j - 3) (by omega)
                      rw [show (k + 1) * 9 + 3 + (j - 3) = (k + 1) * 9 + j by omega] at d2
                      rw [show k * 43 + 4 + (j - 3) = k * 43 + 1 + j by omega] at d3
                      rw [d2, d3]
                    · exact l7
                    · rw [lf _ (by omega), j7, show k * 43 + 1 + 8 = k * 43 + 9 by omega, lg _ (by omega), j8]
                  · intro j hj
                    obtain ⟨d, d1, d2, d3⟩ := l3 j hj
                    exact ⟨d, d1, d3⟩
                  · rw [lg _ (by omega), j8]
                  · intro n hn
                    exact hz_nameR_keep (j9 n (by omega) hn) rfl (fun i hi => rfl) (fun i hi => lg _ (by omega))
                · exact hz_matR_keep (hT.1 k (by omega)) (hz_upd_ne (by omega)) (fun q h1 h2 => ht2 q (by omega)) (fun q h1 h2 => j11 q (by omega)) (fun q h1 h2 => j12 q (by omega)) (fun q h1 h2 => hfr q (by omega))
              · intro i j hij hj
                by_cases hjM : j = M
                · subst hjM
                  rw [hfm, hfr _ (by omega)]
                  exact hz_fndT_none j 0 hf i (by omega) (by omega)
                · rw [hfr _ (by omega), hfr _ (by omega)]
                  exact hT.2.1 i j hij (by omega)
              · intro hg
                exact hz_cellsR_keep (hT.2.2 hg) (fun q h1 h2 => ht2 q (by omega)) (fun q h1 h2 => hfr q (by omega))
              · refine ⟨fun c h1 h2 => ?_, ?_, ?_, ?_⟩
                · rw [ht2 _ (by omega)]; exact hZ.1 c (by omega) h2
                · rw [ht2 _ (by omega)]; exact hZ.2.1
                · rw [ht2 _ (by omega)]; exact hZ.2.2.1
                · rw [ht2 _ (by omega)]; exact hZ.2.2.2
        · rw [e2, Option.bind_some]
          rw [hz_q_39W (show b ≤ 400 by omega) hM M 4096 0 (by omega) (by omega)]
          have e7 : hz_nameS tp L b = .inl b := by
            unfold hz_nameS
            rw [hz_skp_no (hz_dg_ne hd).2.1, if_neg (hz_dg_ne hd).2.2.1]
          obtain ⟨b9, y9, tb9, e8⟩ := (hz_p_name (tp := tp) (v := hz_nI v) (w := -hz_nI 1) (t1 := upd t1 (M + 1) (hz_nI v)) (t2 := t2) (t3 := t3) (lt := t4) (t5 := hz_nI (M + 1)) (t6 := gen) (c := M + 1) (nm := 0) hL hb.2.1 (by omega) (by omega)).1 b e7
          rw [hz_eC_names e8, Option.bind_some, if_pos (show bI false = 0 from rfl)]
          exact Or.inl ⟨b, b, _, _, _, _, _, _, _, hb.2.1, hb.2.1, rfl, rfl⟩
set_option maxRecDepth 100000 in
noncomputable def hz_genC (rd : SReader) (tb : STable) : Option (Bool × SReader × STable) :=
  (Option.bind (f_Reader_startGeneralRow rd tb) fun u16 =>
    (if (bI u16.1) = 0 then
      (some (false, u16.2.1, u16.2.2))
     else
      (Option.bind (f_Reader_readDue u16.2.1 u16.2.2 (0 : Int32)) fun u18 =>
        (if (bI u18.1) = 0 then
          (some (false, u18.2.1, u18.2.2))
         else
          (Option.bind (f_Reader_take u18.2.1 (59 : Int32)) fun u20 =>
            (if (bI u20.1) = 0 then
              (some (false, u20.2, u18.2.2))
             else
              (some (true, u20.2, u18.2.2))))))))
set_option maxRecDepth 100000 in
theorem hz_pq_gen {tp : Nat → Int32} {L : Nat} {t1 t2 t3 t4 : Nat → Int32} {gen : Bool} {g1 : Int32 × Int32} {fr : Nat → Int32} {r : hz_MR} {M a : Nat} {x : Int32} (hL : L ≤ 400) (ha : a < L) (hM : M ≤ 12) (hT : hz_tabR t1 t2 t3 t4 fr M gen) (hZ : hz_zerR t2 M) :
    hz_oRow tp L g1 r a (hz_genC (tp, hz_nI L, hz_nI a, x, -hz_nI 1) (t1, t2, t3, t4, hz_nI M, gen)) (f_Model_generalRow (g1, (hz_nI L, tp, hz_nI (a + 1), -hz_nI 1), (hz_nI M, gen, fr), r)) := by
  generalize hf0 : upd (upd (upd (upd fr 516 (hz_nI 0)) 517 (hz_nI 0)) 524 (hz_nI 0)) 525 (hz_nI 0) = fr0
  have e21 : ∀ {l b w9 : Int32} {g : Bool}, f_Model_generalRow_21 (g1, (l, tp, b, w9), (hz_nI M, g, fr), r) (hz_nI 516) = Option.bind (f_Model_due (g1, (l, tp, b, w9), (hz_nI M, true, fr0), r) (hz_nI 516)) fun u7 => f_Model_take u7 (hz_nI 59) := by
    intro l b w9 g
    unfold f_Model_generalRow_21
    rw [← hf0]
    simp (disch := omega) only [hz_nI_lit, hz_nI_add, hz_nI_mul, hz_nI_lt, hz_nI_le, hz_nI_inj, hz_nI_sub, hz_nI_nat, hz_nI_inb, hz_nI_pred, hz_nI_m1_lt, hz_nI_lt_m1, hz_nI_m1_le, hz_nI_le_m1, hz_nI_eq_m1, hz_nI_m1_eq, hz_bI0, if_pos, if_neg, if_true, if_false, Option.bind_some, Prod.eta, reduceCtorEq]
    simp only [Option.bind_fun_some]
  cases gen with
  | true =>
    have eC : hz_genC (tp, hz_nI L, hz_nI a, x, -hz_nI 1) (t1, t2, t3, t4, hz_nI M, true) = some (false, (tp, hz_nI L, hz_nI a, x, hz_nI a), (t1, t2, t3, t4, hz_nI M, true)) := by
      unfold hz_genC f_Reader_startGeneralRow f_Reader_wrong
      simp (disch := omega) only [hz_nI_lit, hz_nI_add, hz_nI_mul, hz_nI_lt, hz_nI_le, hz_nI_inj, hz_nI_sub, hz_nI_nat, hz_nI_inb, hz_nI_pred, hz_nI_m1_lt, hz_nI_lt_m1, hz_nI_m1_le, hz_nI_le_m1, hz_nI_eq_m1, hz_nI_m1_eq, hz_bI0, if_pos, if_neg, if_true, if_false, Option.bind_some, Prod.eta, reduceCtorEq, Bool.true_eq_false]
    obtain ⟨fr', e⟩ := hz_q_dueW (g1 := g1) (l := hz_nI L) (a := hz_nI (a + 1)) (show a ≤ 400 by omega) (show 516 ≤ 516 by omega) (tp := tp) (nm := hz_nI M) (ng := true) (fr := fr0) (r := r)
    have eM : f_Model_generalRow (g1, (hz_nI L, tp, hz_nI (a + 1), -hz_nI 1), (hz_nI M, true, fr), r) = some (g1, (hz_nI L, tp, hz_nI (a + 1), hz_nI a), (hz_nI M, true, fr'), r) := by
      unfold f_Model_generalRow
      simp (disch := omega) only [hz_nI_lit, hz_nI_add, hz_nI_mul, hz_nI_lt, hz_nI_le, hz_nI_inj, hz_nI_sub, hz_nI_nat, hz_nI_inb, hz_nI_pred, hz_nI_m1_lt, hz_nI_lt_m1, hz_nI_m1_le, hz_nI_le_m1, hz_nI_eq_m1, hz_nI_m1_eq, hz_bI0, if_pos, if_neg, if_true, if_false, Option.bind_some, Prod.eta, reduceCtorEq, hz_q_fail, Nat.add_sub_cancel, Bool.true_eq_false, e21, e, hz_q_takeW (show a ≤ 400 by omega)]
    rw [eC, eM]
    exact Or.inl ⟨a, a, _, _, _, _, _, _, _, by omega, by omega, rfl, rfl⟩
  | false =>
    have hD := hz_pq_due (tp := tp) (w := -hz_nI 1) (t1 := t1) (t2 := t2) (t3 := t3) (t4 := t4) (t5 := hz_nI M) (t6 := true) (g1 := g1) (nm := hz_nI M) (ng := true) (fr := fr0) (r := r) (c := 0) (m := 516) (a := a + 1) (x := x) hL (by omega) (by omega) ha
    have hD0 : (0 : Int32) = hz_nI 0 := rfl
    have eC0 : f_Reader_startGeneralRow (tp, hz_nI L, hz_nI a, x, -hz_nI 1) (t1, t2, t3, t4, hz_nI M, false) = some (true, (tp, hz_nI L, hz_nI (a + 1), x, -hz_nI 1), (t1, t2, t3, t4, hz_nI M, true)) := by
      unfold f_Reader_startGeneralRow
      simp (disch := omega) only [hz_nI_lit, hz_nI_add, hz_nI_mul, hz_nI_lt, hz_nI_le, hz_nI_inj, hz_nI_sub, hz_nI_nat, hz_nI_inb, hz_nI_pred, hz_nI_m1_lt, hz_nI_lt_m1, hz_nI_m1_le, hz_nI_le_m1, hz_nI_eq_m1, hz_nI_m1_eq, hz_bI0, if_pos, if_neg, if_true, if_false, Option.bind_some, Prod.eta, reduceCtorEq]
    have eM0 : f_Model_generalRow (g1, (hz_nI L, tp, hz_nI (a + 1), -hz_nI 1), (hz_nI M, false, fr), r) = Option.bind (f_Model_due (g1, (hz_nI L, tp, hz_nI (a + 1), -hz_nI 1), (hz_nI M, true, fr0), r) (hz_nI 516)) fun u7 => f_Model_take u7 (hz_nI 59) := by
      unfold f_Model_generalRow
      simp (disch := omega) only [hz_nI_lit, hz_nI_add, hz_nI_mul, hz_nI_lt, hz_nI_le, hz_nI_inj, hz_nI_sub, hz_nI_nat, hz_nI_inb, hz_nI_pred, hz_nI_m1_lt, hz_nI_lt_m1, hz_nI_m1_le, hz_nI_le_m1, hz_nI_eq_m1, hz_nI_m1_eq, hz_bI0, if_pos, if_neg, if_true, if_false, Option.bind_some, Prod.eta, reduceCtorEq, e21]
    rw [eM0]
    unfold hz_genC
    rw [eC0, Option.bind_some, if_neg (show ¬ (bI true = 0) by decide)]
    show hz_oRow tp L g1 r a (Option.bind (f_Reader_readDue (tp, hz_nI L, hz_nI (a + 1), x, -hz_nI 1) (t1, t2, t3, t4, hz_nI M, true) (hz_nI 0)) fun u18 => if bI u18.1 = 0 then some (false, u18.2.1, u18.2.2) else Option.bind (f_Reader_take u18.2.1 (hz_nI 59)) fun u20 => if bI u20.1 = 0 then some (false, u20.2, u18.2.2) else some (true, u20.2, u18.2.2)) _
    rcases hD with ⟨p, b3, x3, tb3, b4, fr3, k1, k2, k3⟩ | ⟨b3, x3, t2', k1, k2, k3, k4⟩
    · rw [k2, k3, Option.bind_some, Option.bind_some, if_pos (show bI false = 0 from rfl), hz_q_takeW (show p ≤ 400 by omega)]
      exact Or.inl ⟨p, p, _, _, _, _, _, _, _, k1, k1, rfl, rfl⟩
    · have hsb := hz_skp_bd (tp := tp) k2
      rw [k3, Option.bind_some, if_neg (show ¬ (bI true = 0) by decide)]
      rcases k4 with ⟨fr3, l1, l2, l3, l4, l5, l6⟩ | ⟨hd, fr3, l1⟩
      · rw [l1, Option.bind_some, hz_p_take hL k2, hz_q_take hL k2]
        by_cases c5 : hz_hereT tp L (hz_skp tp L b3) = hz_nI 59
        · have hl5 := hz_hereT_lt c5 (by decide)
          rw [if_pos c5, if_pos c5, Option.bind_some, if_neg (show ¬ (bI true = 0) by decide)]
          have hfo : ∀ q, q < 516 → fr3 q = fr q := by
            intro q hq
            rw [l6 q (by omega), ← hf0, hz_upd_ne (by omega), hz_upd_ne (by omega), hz_upd_ne (by omega), hz_upd_ne (by omega)]
          have hto : ∀ q, 7 ≤ q → t2' q = t2 q := fun q hq => l5 q (by omega)
          refine Or.inr ⟨hz_skp tp L b3 + 1, x3, _, _, _, _, M, true, fr3, by omega, hl5, hM, rfl, rfl, ⟨?_, ?_, ?_⟩, ?_⟩
          · intro k hk
            exact hz_matR_keep (hT.1 k hk) rfl (fun q h1 h2 => hto q (by omega)) (fun _ _ _ => rfl) (fun _ _ _ => rfl) (fun q h1 h2 => hfo q (by omega))
          · intro i j hij hj
            rw [hfo _ (by omega), hfo _ (by omega)]
            exact hT.2.1 i j hij hj
          · intro _
            refine ⟨?_, ?_⟩
            · intro j hj
              rcases (by omega : j = 0 ∨ j = 1 ∨ j = 2 ∨ (3 ≤ j ∧ j < 7) ∨ j = 7 ∨ j = 8) with rfl | rfl | rfl | h | rfl | rfl
              · rw [l5 _ (by omega), l6 _ (by omega), ← hf0, hz_upd_ne (by omega), hz_upd_ne (by omega), hz_upd_eq]; exact hZ.2.1
              · exact l2
              · exact l3
              · obtain ⟨d, d1, d2, d3⟩ := l4 (j - 3) (by omega)
                rw [show 0 * 9 + 3 + (j - 3) = 0 * 9 + j by omega] at d2
                rw [show 516 + 4 + (j - 3) = 516 + 1 + j by omega] at d3
                rw [d2, d3]
              · rw [l5 _ (by omega), l6 _ (by omega), ← hf0, hz_upd_ne (by omega), hz_upd_eq]; exact hZ.2.2.1
              · rw [l5 _ (by omega), l6 _ (by omega), ← hf0, hz_upd_eq]; exact hZ.2.2.2
            · intro j hj
              obtain ⟨d, d1, d2, d3⟩ := l4 j hj
              exact ⟨d, d1, d3⟩
          · refine ⟨fun c h1 h2 => ?_, ?_, ?_, ?_⟩
            · rw [hto _ (by omega)]; exact hZ.1 c h1 h2
            · rw [l5 _ (by omega)]; exact hZ.2.1
            · rw [hto _ (by omega)]; exact hZ.2.2.1
            · rw [hto _ (by omega)]; exact hZ.2.2.2
        · rw [if_neg c5, if_neg c5, Option.bind_some, if_pos (show bI false = 0 from rfl)]
          exact Or.inl ⟨hz_skp tp L b3, hz_skp tp L b3, _, _, _, _, _, _, _, hsb.2, hsb.2, rfl, rfl⟩
      · rw [l1, Option.bind_some, hz_p_takeD hL k2 hd (by decide), hz_q_takeW (show b3 ≤ 400 by omega), Option.bind_some, if_pos (show bI false = 0 from rfl)]
        exact Or.inl ⟨b3, b3, _, _, _, _, _, _, _, k2, k2, rfl, rfl⟩
set_option maxRecDepth 100000 in
theorem hz_readRow_eq (rd : SReader) (tb : STable) : f_Reader_readRow rd tb = Option.bind (f_Reader_peek rd) fun u1 => if u1.1 = 109 then hz_matC u1.2 tb else if u1.1 = 122 then hz_genC u1.2 tb else Option.bind (f_Reader_wrong u1.2 u1.2.2.2.1) fun u22 => some (u22.1, u22.2, tb) := rfl
