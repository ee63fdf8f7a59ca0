set_option maxRecDepth 100000 in
def hz_nI (n : Nat) : Int32 := Int32.ofNat n
set_option maxRecDepth 100000 in
theorem hz_nI_lit (n : Nat) : @OfNat.ofNat Int32 n Int32.instOfNat = hz_nI (@OfNat.ofNat Nat n (instOfNatNat n)) := rfl
set_option maxRecDepth 100000 in
theorem hz_nI_toInt {n : Nat} (h : n < 2147483648) : (hz_nI n).toInt = n := by
  unfold hz_nI; rw [Int32.toInt_ofNat_of_lt h]
set_option maxRecDepth 100000 in
theorem hz_nI_lt {a b : Nat} (ha : a < 2147483648) (hb : b < 2147483648) : (hz_nI a < hz_nI b) = (a < b) := by
  rw [Int32.lt_iff_toInt_lt, hz_nI_toInt ha, hz_nI_toInt hb]; simp only [eq_iff_iff]; omega
set_option maxRecDepth 100000 in
theorem hz_nI_le {a b : Nat} (ha : a < 2147483648) (hb : b < 2147483648) : (hz_nI a ≤ hz_nI b) = (a ≤ b) := by
  rw [Int32.le_iff_toInt_le, hz_nI_toInt ha, hz_nI_toInt hb]; simp only [eq_iff_iff]; omega
set_option maxRecDepth 100000 in
theorem hz_nI_inj {a b : Nat} (ha : a < 2147483648) (hb : b < 2147483648) : (hz_nI a = hz_nI b) = (a = b) := by
  rw [← Int32.toInt_inj, hz_nI_toInt ha, hz_nI_toInt hb]; simp only [eq_iff_iff]; omega
set_option maxRecDepth 100000 in
theorem hz_nI_add (a b : Nat) : hz_nI a + hz_nI b = hz_nI (a + b) := (Int32.ofNat_add a b).symm
set_option maxRecDepth 100000 in
theorem hz_nI_mul (a b : Nat) : hz_nI a * hz_nI b = hz_nI (a * b) := (Int32.ofNat_mul a b).symm
set_option maxRecDepth 100000 in
theorem hz_nI_sub {a b : Nat} (h : b ≤ a) : hz_nI a - hz_nI b = hz_nI (a - b) := by
  unfold hz_nI; rw [← Int32.ofNat_sub _ _ h]
set_option maxRecDepth 100000 in
theorem hz_nI_nat {a : Nat} (h : a < 2147483648) : (hz_nI a).toNatClampNeg = a := by
  unfold Int32.toNatClampNeg; rw [hz_nI_toInt h]; omega
set_option maxRecDepth 100000 in
theorem hz_nI_pred {a : Nat} (h : 1 ≤ a) : hz_nI a + -hz_nI 1 = hz_nI (a - 1) := by
  have : hz_nI a + -hz_nI 1 = hz_nI a - hz_nI 1 := (Int32.sub_eq_add_neg ..).symm
  rw [this, hz_nI_sub h]
set_option maxRecDepth 100000 in
theorem hz_nI_inb {a n : Nat} (h : a < 2147483648) : inb (hz_nI a) n = (a < n) := by
  unfold inb; rw [hz_nI_lit, hz_nI_lt h (by omega), hz_nI_nat h]; simp only [eq_iff_iff]; omega
set_option maxRecDepth 100000 in
theorem hz_nI_m1 : (-hz_nI 1).toInt = -1 := by decide
set_option maxRecDepth 100000 in
theorem hz_nI_m1_lt {a : Nat} (h : a < 2147483648) : (-hz_nI 1 < hz_nI a) = True := by
  rw [Int32.lt_iff_toInt_lt, hz_nI_m1, hz_nI_toInt h]; simp only [eq_iff_iff, iff_true]; omega
set_option maxRecDepth 100000 in
theorem hz_nI_lt_m1 {a : Nat} (h : a < 2147483648) : (hz_nI a < -hz_nI 1) = False := by
  rw [Int32.lt_iff_toInt_lt, hz_nI_m1, hz_nI_toInt h]; simp only [eq_iff_iff, iff_false]; omega
set_option maxRecDepth 100000 in
theorem hz_nI_m1_le {a : Nat} (h : a < 2147483648) : (-hz_nI 1 ≤ hz_nI a) = True := by
  rw [Int32.le_iff_toInt_le, hz_nI_m1, hz_nI_toInt h]; simp only [eq_iff_iff, iff_true]; omega
set_option maxRecDepth 100000 in
theorem hz_nI_le_m1 {a : Nat} (h : a < 2147483648) : (hz_nI a ≤ -hz_nI 1) = False := by
  rw [Int32.le_iff_toInt_le, hz_nI_m1, hz_nI_toInt h]; simp only [eq_iff_iff, iff_false]; omega
set_option maxRecDepth 100000 in
theorem hz_nI_eq_m1 {a : Nat} (h : a < 2147483648) : (hz_nI a = -hz_nI 1) = False := by
  rw [← Int32.toInt_inj, hz_nI_m1, hz_nI_toInt h]; simp only [eq_iff_iff, iff_false]; omega
set_option maxRecDepth 100000 in
theorem hz_nI_m1_eq {a : Nat} (h : a < 2147483648) : (-hz_nI 1 = hz_nI a) = False := by
  rw [← Int32.toInt_inj, hz_nI_m1, hz_nI_toInt h]; simp only [eq_iff_iff, iff_false]; omega
set_option maxRecDepth 100000 in
theorem hz_bI0 (b : Bool) : (bI b = hz_nI 0) = (b = false) := by cases b <;> decide
set_option maxRecDepth 100000 in
theorem hz_nI_of {x : Int32} (h : 0 ≤ x.toInt) : ∃ n : Nat, n < 2147483648 ∧ x = hz_nI n ∧ x.toInt = n := by
  refine ⟨x.toInt.toNat, ?_, ?_, ?_⟩
  · have := x.toInt_lt; omega
  · rw [← Int32.toInt_inj, hz_nI_toInt (by have := x.toInt_lt; omega)]; omega
  · omega
set_option maxRecDepth 100000 in
theorem hz_nar_by (x : Int32) : vp_nar .byte x = x.toInt8.toInt32 := vp_nar_byte x
set_option maxRecDepth 100000 in
theorem hz_nar_b (b : Bool) : vp_nar .boolean (bI b) = bI b := by unfold vp_nar; rw [nar_bI]
