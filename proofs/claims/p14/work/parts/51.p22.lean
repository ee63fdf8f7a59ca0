set_option maxRecDepth 100000 in
theorem hz_j_add {x y : Int32} (h1 : -2147483648 ≤ x.toInt + y.toInt) (h2 : x.toInt + y.toInt < 2147483648) : (x + y).toInt = x.toInt + y.toInt := by
  rw [Int32.toInt_add]
  simp only [Int.bmod_def]
  split <;> omega
set_option maxRecDepth 100000 in
theorem hz_j_sub {x y : Int32} (h1 : -2147483648 ≤ x.toInt - y.toInt) (h2 : x.toInt - y.toInt < 2147483648) : (x - y).toInt = x.toInt - y.toInt := by
  rw [Int32.toInt_sub]
  simp only [Int.bmod_def]
  split <;> omega
set_option maxRecDepth 100000 in
theorem hz_j_mul {x y : Int32} (h1 : -2147483648 ≤ x.toInt * y.toInt) (h2 : x.toInt * y.toInt < 2147483648) : (x * y).toInt = x.toInt * y.toInt := by
  rw [Int32.toInt_mul]
  generalize x.toInt * y.toInt = z at *
  simp only [Int.bmod_def]
  split <;> omega
set_option maxRecDepth 100000 in
theorem hz_k_add {x y : Int64} (h1 : -9223372036854775808 ≤ x.toInt + y.toInt) (h2 : x.toInt + y.toInt < 9223372036854775808) : (x + y).toInt = x.toInt + y.toInt := by
  rw [Int64.toInt_add]
  simp only [Int.bmod_def]
  split <;> omega
set_option maxRecDepth 100000 in
theorem hz_k_mul {x y : Int64} (h1 : -9223372036854775808 ≤ x.toInt * y.toInt) (h2 : x.toInt * y.toInt < 9223372036854775808) : (x * y).toInt = x.toInt * y.toInt := by
  rw [Int64.toInt_mul]
  generalize x.toInt * y.toInt = z at *
  simp only [Int.bmod_def]
  split <;> omega
set_option maxRecDepth 100000 in
theorem hz_mulb {a b A B : Int} (h1 : -A ≤ a ∧ a ≤ A) (h3 : -B ≤ b ∧ b ≤ B) : -(A * B) ≤ a * b ∧ a * b ≤ A * B := by
  have hA : a.natAbs ≤ A.toNat := by omega
  have hB : b.natAbs ≤ B.toNat := by omega
  have h := Nat.mul_le_mul hA hB
  rw [← Int.natAbs_mul] at h
  have e : ((A.toNat * B.toNat : Nat) : Int) = A * B := by
    rw [Int.natCast_mul, Int.toNat_of_nonneg (by omega), Int.toNat_of_nonneg (by omega)]
  omega
abbrev hz_pin (a b x y d : Int) : Prop := x * x + y * y ≤ d * d ∧ (a * y - b * x ≤ a * x + b * y ∧ -(a * y - b * x) ≤ a * x + b * y)
set_option maxRecDepth 100000 in
theorem hz_pin_iff {a b x y d : Int} (hw : ¬ (a = 0 ∧ b = 0)) (hp : ¬ (x = 0 ∧ y = 0)) : hz_pin a b x y d ↔ (x * x + y * y ≤ d * d ∧ 0 < a * x + b * y ∧ (x * x + y * y) * (a * a + b * b) ≤ 2 * (a * x + b * y) * (a * x + b * y)) := by
  have idn : (a * x + b * y) * (a * x + b * y) + (a * y - b * x) * (a * y - b * x) = (x * x + y * y) * (a * a + b * b) := by grind
  have sq : ∀ z : Int, z ≠ 0 → 0 < z * z := fun z hz => by
    rcases Int.lt_or_gt_of_ne hz with h | h
    · exact Int.mul_pos_of_neg_of_neg h h
    · exact Int.mul_pos h h
  have sq0 : ∀ z : Int, 0 ≤ z * z := fun z => by
    by_cases h : z = 0
    · rw [h]; decide
    · exact Int.le_of_lt (sq z h)
  have hF : 0 < x * x + y * y := by
    by_cases h : x = 0
    · have := sq y (fun h2 => hp ⟨h, h2⟩); have := sq0 x; omega
    · have := sq x h; have := sq0 y; omega
  have hW : 0 < a * a + b * b := by
    by_cases h : a = 0
    · have := sq b (fun h2 => hw ⟨h, h2⟩); have := sq0 a; omega
    · have := sq a h; have := sq0 b; omega
  have hFW := Int.mul_pos hF hW
  have e2 : 2 * (a * x + b * y) * (a * x + b * y) = 2 * ((a * x + b * y) * (a * x + b * y)) := by grind
  rw [e2]
  unfold hz_pin
  generalize a * x + b * y = p at *
  generalize a * y - b * x = q at *
  generalize (x * x + y * y) * (a * a + b * b) = R at *
  constructor
  · rintro ⟨h1, h2, h3⟩
    have hp0 : p ≠ 0 := by
      intro h
      subst h
      have : q = 0 := by omega
      subst this
      omega
    refine ⟨h1, by omega, ?_⟩
    have : q * q ≤ p * p := by
      rcases Int.le_total 0 q with h | h
      · exact Int.mul_self_le_mul_self h h2
      · have := Int.mul_self_le_mul_self (a := -q) (b := p) (by omega) h3
        rw [Int.neg_mul_neg] at this
        exact this
    omega
  · rintro ⟨h1, h2, h3⟩
    refine ⟨h1, ?_, ?_⟩
    · rcases Int.lt_or_le p q with h | h
      · have := Int.mul_self_lt_mul_self (Int.le_of_lt h2) h
        omega
      · exact h
    · rcases Int.lt_or_le p (-q) with h | h
      · have := Int.mul_self_lt_mul_self (Int.le_of_lt h2) h
        rw [Int.neg_mul_neg] at this
        omega
      · exact h
set_option maxRecDepth 100000 in
def hz_sqR (x : Int32) (K : Int) : Prop := -K ≤ x.toInt ∧ x.toInt ≤ K
set_option maxRecDepth 100000 in
noncomputable def hz_isP (wx wy x y : Int32) (dd : Nat) : Bool := decide (hz_pin wx.toInt wy.toInt x.toInt y.toInt dd)
set_option maxRecDepth 100000 in
theorem hz_p_reaches {wx wy x y : Int32} {dd : Nat} (h1 : hz_sqR wx 100) (h2 : hz_sqR wy 100) (h3 : hz_sqR x 10000) (h4 : hz_sqR y 10000) (hd : dd ≤ 9999) : f_Surroundings_reaches wx wy (hz_nI dd) x y = some (hz_isP wx wy x y dd) := by
  have a1 := hz_mulb h3 h3
  have a2 := hz_mulb h4 h4
  have a3 := hz_mulb h1 h3
  have a4 := hz_mulb h2 h4
  have a5 := hz_mulb h1 h4
  have a6 := hz_mulb h2 h3
  have hdt := hz_nI_toInt (show dd < 2147483648 by omega)
  have a7 := hz_mulb (a := (dd : Int)) (b := (dd : Int)) (A := 9999) (B := 9999) ⟨by omega, by omega⟩ ⟨by omega, by omega⟩
  have b1 : (x * x).toInt = x.toInt * x.toInt := hz_j_mul (by omega) (by omega)
  have b2 : (y * y).toInt = y.toInt * y.toInt := hz_j_mul (by omega) (by omega)
  have b3 : (wx * x).toInt = wx.toInt * x.toInt := hz_j_mul (by omega) (by omega)
  have b4 : (wy * y).toInt = wy.toInt * y.toInt := hz_j_mul (by omega) (by omega)
  have b5 : (wx * y).toInt = wx.toInt * y.toInt := hz_j_mul (by omega) (by omega)
  have b6 : (wy * x).toInt = wy.toInt * x.toInt := hz_j_mul (by omega) (by omega)
  have b7 : (hz_nI dd * hz_nI dd).toInt = (dd : Int) * dd := by rw [hz_j_mul (by rw [hdt]; omega) (by rw [hdt]; omega), hdt]
  have c1 : (x * x + y * y).toInt = x.toInt * x.toInt + y.toInt * y.toInt := by rw [hz_j_add (by rw [b1, b2]; omega) (by rw [b1, b2]; omega), b1, b2]
  have c2 : (wx * x + wy * y).toInt = wx.toInt * x.toInt + wy.toInt * y.toInt := by rw [hz_j_add (by rw [b3, b4]; omega) (by rw [b3, b4]; omega), b3, b4]
  have c3 : (wx * y - wy * x).toInt = wx.toInt * y.toInt - wy.toInt * x.toInt := by rw [hz_j_sub (by rw [b5, b6]; omega) (by rw [b5, b6]; omega), b5, b6]
  have z0 : (0 : Int32).toInt = 0 := by decide
  have c4 : (0 - (wx * y - wy * x)).toInt = -(wx.toInt * y.toInt - wy.toInt * x.toInt) := by rw [hz_j_sub (by rw [c3, z0]; omega) (by rw [c3, z0]; omega), c3, z0]; omega
  unfold f_Surroundings_reaches hz_isP
  rw [if_neg (show ¬ (hz_nI dd < 0) by rw [hz_nI_lit, hz_nI_lt (by omega) (by omega)]; omega)]
  by_cases k1 : x.toInt * x.toInt + y.toInt * y.toInt ≤ (dd : Int) * dd
  · rw [if_pos (by rw [Int32.le_iff_toInt_le, c1, b7]; exact k1)]
    have e9 : ∀ b : Bool, (b = true ↔ hz_pin wx.toInt wy.toInt x.toInt y.toInt dd) → some b = some (decide (hz_pin wx.toInt wy.toInt x.toInt y.toInt dd)) := by
      intro b hb
      cases b
      · rw [decide_eq_false (fun h => absurd (hb.mpr h) (by decide))]
      · rw [decide_eq_true (hb.mp rfl)]
    have hr : (wx * x + wy * y < (if 0 ≤ wx * y - wy * x then wx * y - wy * x else 0 - (wx * y - wy * x))) ↔ ¬ hz_pin wx.toInt wy.toInt x.toInt y.toInt dd := by
      unfold hz_pin
      by_cases k2 : 0 ≤ wx * y - wy * x
      · rw [if_pos k2, Int32.lt_iff_toInt_lt, c2, c3]
        rw [Int32.le_iff_toInt_le, c3, z0] at k2
        omega
      · rw [if_neg k2, Int32.lt_iff_toInt_lt, c2, c4]
        rw [Int32.le_iff_toInt_le, c3, z0] at k2
        omega
    by_cases k3 : hz_pin wx.toInt wy.toInt x.toInt y.toInt dd
    · rw [if_neg (fun h => hr.mp h k3)]
      exact e9 true ⟨fun _ => k3, fun _ => rfl⟩
    · rw [if_pos (hr.mpr k3)]
      exact e9 false ⟨fun h => absurd h (by decide), fun h => absurd h k3⟩
  · rw [if_neg (by rw [Int32.le_iff_toInt_le, c1, b7]; exact k1), decide_eq_false (fun h => k1 h.1)]
set_option maxRecDepth 100000 in
theorem hz_p_reachesN {wx wy x y : Int32} : f_Surroundings_reaches wx wy (-hz_nI 1) x y = some false := by
  unfold f_Surroundings_reaches
  rw [if_pos (show -hz_nI 1 < (0 : Int32) by decide)]
set_option maxRecDepth 100000 in
theorem hz_c_pos (a b : Int64) : (0 < lg_cmp a b) ↔ b.toInt < a.toInt := by
  unfold lg_cmp
  rw [← Int64.lt_iff_toInt_lt]
  by_cases h : a > b
  · rw [if_pos h]; exact ⟨fun _ => h, fun _ => by decide⟩
  · rw [if_neg h]
    refine ⟨fun h2 => ?_, fun h2 => absurd h2 h⟩
    split at h2 <;> exact absurd h2 (by decide)
set_option maxRecDepth 100000 in
theorem hz_c_neg (a b : Int64) : (lg_cmp a b < 0) ↔ a.toInt < b.toInt := by
  unfold lg_cmp
  by_cases h : a > b
  · rw [if_pos h]
    have h' := Int64.lt_iff_toInt_lt.mp h
    exact ⟨fun h2 => absurd h2 (by decide), fun h2 => by omega⟩
  · rw [if_neg h]
    have h' : ¬ b.toInt < a.toInt := fun h9 => h (Int64.lt_iff_toInt_lt.mpr h9)
    by_cases h3 : a = b
    · subst h3
      rw [if_pos rfl]
      exact ⟨fun h2 => absurd h2 (by decide), fun h2 => by omega⟩
    · rw [if_neg h3]
      refine ⟨fun _ => ?_, fun _ => by decide⟩
      have : a.toInt ≠ b.toInt := fun h9 => h3 (Int64.toInt_inj.mp h9)
      omega
set_option maxRecDepth 100000 in
theorem hz_c_le (a b : Int64) : (lg_cmp a b ≤ 0) ↔ a.toInt ≤ b.toInt := by
  rw [← Int32.not_lt, hz_c_pos]; omega
set_option maxRecDepth 100000 in
theorem hz_q_isIn_19 {g1 : Int32 × Int32} {g2 : hz_M2} {g3 : hz_M3} {g4 : hz_M3} {g5 : hz_M5} {wx wy x y : Int32} {day : Bool} {r : (Int32 × (Nat → Int32) × (Nat → Int32) × (Nat → Int32) × Int32 × (Nat → Int32)) × ((Nat → Int32)) × (Int32 × (Nat → Int32) × (Nat → Int32))} {dd : Nat} (h1 : hz_sqR wx 100) (h2 : hz_sqR wy 100) (h3 : hz_sqR x 10000) (h4 : hz_sqR y 10000) (hd : dd ≤ 9999) (hw : ¬ (wx = 0 ∧ wy = 0)) (hp : ¬ (x = 0 ∧ y = 0)) (e : f_Model_distance (g1, g2, g3, g4, g5, (wx, wy, day), r) day = some (hz_nI dd)) : f_Model_isIn_19 (g1, g2, g3, g4, g5, (wx, wy, day), r) x y = some (hz_isP wx wy x y dd) := by
  have a1 := hz_mulb h3 h3
  have a2 := hz_mulb h4 h4
  have a3 := hz_mulb h3 h1
  have a4 := hz_mulb h4 h2
  have a5 := hz_mulb h1 h1
  have a6 := hz_mulb h2 h2
  have hdt := hz_nI_toInt (show dd < 2147483648 by omega)
  have a7 := hz_mulb (a := (dd : Int)) (b := (dd : Int)) (A := 9999) (B := 9999) ⟨by omega, by omega⟩ ⟨by omega, by omega⟩
  have t : ∀ z : Int32, z.toInt64.toInt = z.toInt := fun z => Int32.toInt_toInt64 z
  have b1 : (x.toInt64 * x.toInt64).toInt = x.toInt * x.toInt := by rw [hz_k_mul (by rw [t]; omega) (by rw [t]; omega), t]
  have b2 : (y.toInt64 * y.toInt64).toInt = y.toInt * y.toInt := by rw [hz_k_mul (by rw [t]; omega) (by rw [t]; omega), t]
  have b3 : (x.toInt64 * wx.toInt64).toInt = x.toInt * wx.toInt := by rw [hz_k_mul (by rw [t, t]; omega) (by rw [t, t]; omega), t, t]
  have b4 : (y.toInt64 * wy.toInt64).toInt = y.toInt * wy.toInt := by rw [hz_k_mul (by rw [t, t]; omega) (by rw [t, t]; omega), t, t]
  have b5 : (wx.toInt64 * wx.toInt64).toInt = wx.toInt * wx.toInt := by rw [hz_k_mul (by rw [t]; omega) (by rw [t]; omega), t]
  have b6 : (wy.toInt64 * wy.toInt64).toInt = wy.toInt * wy.toInt := by rw [hz_k_mul (by rw [t]; omega) (by rw [t]; omega), t]
  have b7 : ((hz_nI dd).toInt64 * (hz_nI dd).toInt64).toInt = (dd : Int) * dd := by rw [hz_k_mul (by rw [t, hdt]; omega) (by rw [t, hdt]; omega), t, hdt]
  have c1 : (x.toInt64 * x.toInt64 + y.toInt64 * y.toInt64).toInt = x.toInt * x.toInt + y.toInt * y.toInt := by rw [hz_k_add (by rw [b1, b2]; omega) (by rw [b1, b2]; omega), b1, b2]
  have c2 : (x.toInt64 * wx.toInt64 + y.toInt64 * wy.toInt64).toInt = wx.toInt * x.toInt + wy.toInt * y.toInt := by
    rw [hz_k_add (by rw [b3, b4]; omega) (by rw [b3, b4]; omega), b3, b4, Int.mul_comm x.toInt, Int.mul_comm y.toInt]
  have c3 : (wx.toInt64 * wx.toInt64 + wy.toInt64 * wy.toInt64).toInt = wx.toInt * wx.toInt + wy.toInt * wy.toInt := by rw [hz_k_add (by rw [b5, b6]; omega) (by rw [b5, b6]; omega), b5, b6]
  rw [Int.mul_comm y.toInt] at a4
  have hpr : -2000000 ≤ wx.toInt * x.toInt + wy.toInt * y.toInt ∧ wx.toInt * x.toInt + wy.toInt * y.toInt ≤ 2000000 := by
    rw [Int.mul_comm x.toInt] at a3
    omega
  have two : (2 : Int64).toInt = 2 := by decide
  have d1 : ((2 : Int64) * (x.toInt64 * wx.toInt64 + y.toInt64 * wy.toInt64)).toInt = 2 * (wx.toInt * x.toInt + wy.toInt * y.toInt) := by rw [hz_k_mul (by rw [c2, two]; omega) (by rw [c2, two]; omega), c2, two]
  have m1 := hz_mulb (a := 2 * (wx.toInt * x.toInt + wy.toInt * y.toInt)) (b := wx.toInt * x.toInt + wy.toInt * y.toInt) (A := 4000000) (B := 2000000) ⟨by omega, by omega⟩ hpr
  have d2 : ((2 : Int64) * (x.toInt64 * wx.toInt64 + y.toInt64 * wy.toInt64) * (x.toInt64 * wx.toInt64 + y.toInt64 * wy.toInt64)).toInt = 2 * (wx.toInt * x.toInt + wy.toInt * y.toInt) * (wx.toInt * x.toInt + wy.toInt * y.toInt) := by rw [hz_k_mul (by rw [d1, c2]; omega) (by rw [d1, c2]; omega), d1, c2]
  have m2 := hz_mulb (a := x.toInt * x.toInt + y.toInt * y.toInt) (b := wx.toInt * wx.toInt + wy.toInt * wy.toInt) (A := 200000000) (B := 20000) ⟨by omega, by omega⟩ ⟨by omega, by omega⟩
  have d3 : ((x.toInt64 * x.toInt64 + y.toInt64 * y.toInt64) * (wx.toInt64 * wx.toInt64 + wy.toInt64 * wy.toInt64)).toInt = (x.toInt * x.toInt + y.toInt * y.toInt) * (wx.toInt * wx.toInt + wy.toInt * wy.toInt) := by rw [hz_k_mul (by rw [c1, c3]; omega) (by rw [c1, c3]; omega), c1, c3]
  have zI : ∀ z : Int32, z.toInt = 0 → z = 0 := fun z hz => Int32.toInt_inj.mp (hz.trans (by decide))
  have hiff := hz_pin_iff (a := wx.toInt) (b := wy.toInt) (x := x.toInt) (y := y.toInt) (d := dd) (fun h => hw ⟨zI _ h.1, zI _ h.2⟩) (fun h => hp ⟨zI _ h.1, zI _ h.2⟩)
  have z64 : (0 : Int64).toInt = 0 := by decide
  unfold f_Model_isIn_19 hz_isP
  rw [e, Option.bind_some]
  by_cases k1 : x.toInt * x.toInt + y.toInt * y.toInt ≤ (dd : Int) * dd
  · rw [if_neg (by rw [hz_c_pos, c1, b7]; omega)]
    by_cases k2 : 0 < wx.toInt * x.toInt + wy.toInt * y.toInt
    · rw [if_neg (by rw [hz_c_le, c2, z64]; omega)]
      by_cases k3 : (x.toInt * x.toInt + y.toInt * y.toInt) * (wx.toInt * wx.toInt + wy.toInt * wy.toInt) ≤ 2 * (wx.toInt * x.toInt + wy.toInt * y.toInt) * (wx.toInt * x.toInt + wy.toInt * y.toInt)
      · rw [if_neg (by rw [hz_c_neg, d2, d3]; omega), decide_eq_true (hiff.mpr ⟨k1, k2, k3⟩)]
      · rw [if_pos (by rw [hz_c_neg, d2, d3]; omega), decide_eq_false (fun h => k3 (hiff.mp h).2.2)]
    · rw [if_pos (by rw [hz_c_le, c2, z64]; omega), decide_eq_false (fun h => k2 (hiff.mp h).2.1)]
  · rw [if_pos (by rw [hz_c_pos, c1, b7]; omega), decide_eq_false (fun h => k1 h.1)]
