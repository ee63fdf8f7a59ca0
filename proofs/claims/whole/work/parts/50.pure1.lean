/-! pure rows: numbers as integers -/
theorem i_add {x y : Int32} (h1 : -2147483648 ≤ x.toInt + y.toInt) (h2 : x.toInt + y.toInt < 2147483648) : (x + y).toInt = x.toInt + y.toInt := by
  rw [Int32.toInt_add]
  simp only [Int.bmod_def]
  split <;> omega
theorem i_sub {x y : Int32} (h1 : -2147483648 ≤ x.toInt - y.toInt) (h2 : x.toInt - y.toInt < 2147483648) : (x - y).toInt = x.toInt - y.toInt := by
  rw [Int32.toInt_sub]
  simp only [Int.bmod_def]
  split <;> omega
theorem i_mul {x y : Int32} (h1 : -2147483648 ≤ x.toInt * y.toInt) (h2 : x.toInt * y.toInt < 2147483648) : (x * y).toInt = x.toInt * y.toInt := by
  rw [Int32.toInt_mul]
  generalize x.toInt * y.toInt = z at *
  simp only [Int.bmod_def]
  split <;> omega
theorem i_lt (x y : Int32) : x < y ↔ x.toInt < y.toInt := Int32.lt_iff_toInt_lt
theorem i_le (x y : Int32) : x ≤ y ↔ x.toInt ≤ y.toInt := Int32.le_iff_toInt_le
theorem i_eq (x y : Int32) : x = y ↔ x.toInt = y.toInt := Int32.toInt_inj.symm
theorem i_0 : (0 : Int32).toInt = 0 := by decide
theorem i_1 : (1 : Int32).toInt = 1 := by decide
theorem i_m1 : (-1 : Int32).toInt = -1 := by decide
theorem i_400 : (400 : Int32).toInt = 400 := by decide
theorem inb_iff {x : Int32} {n : Nat} : inb x n ↔ 0 ≤ x.toInt ∧ x.toInt < n := vp_in_iff
theorem bI_0 (b : Bool) : (bI b = 0) ↔ b = false := by cases b <;> decide
/-- the reader's numbers in their ranges -/
def rdI (rd : SReader) : Prop := 0 ≤ rd.2.1.toInt ∧ rd.2.1.toInt ≤ 400 ∧ 0 ≤ rd.2.2.1.toInt ∧ rd.2.2.1.toInt ≤ 400
theorem t_Reader_peek_48 (rd : SReader) (h : rdI rd) : ∃ r, f_Reader_peek_48 rd = some (r, rd) := by
  obtain ⟨h1, h2, h3, h4⟩ := h
  unfold f_Reader_peek_48
  by_cases c1 : rd.2.1 ≤ rd.2.2.1
  · exact ⟨_, if_pos c1⟩
  · rw [if_neg c1]
    by_cases c2 : (400 : Int32) ≤ rd.2.2.1
    · exact ⟨_, if_pos c2⟩
    · rw [if_neg c2]
      rw [i_le] at c1
      rw [if_pos (inb_iff.mpr ⟨h3, by omega⟩)]
      exact ⟨_, rfl⟩
theorem t_Reader_peek_0 : ∀ (n : Nat) (rd : SReader), rdI rd → 400 - rd.2.2.1.toInt < n → ∃ r rd', f_Reader_peek_0 n rd = some (r, rd') ∧ rdI rd' := by
  intro n
  induction n with
  | zero => intro rd h hn; obtain ⟨h1, h2, h3, h4⟩ := h; omega
  | succ n ih =>
    intro rd h hn
    have hh := h
    obtain ⟨h1, h2, h3, h4⟩ := h
    rw [f_Reader_peek_0]
    obtain ⟨r0, e0⟩ := t_Reader_peek_48 rd hh
    by_cases c1 : rd.2.1 ≤ rd.2.2.1
    · rw [if_pos c1]; exact ⟨_, _, e0, hh⟩
    · rw [if_neg c1]
      by_cases c2 : (400 : Int32) ≤ rd.2.2.1
      · rw [if_pos c2]; exact ⟨_, _, e0, hh⟩
      · rw [if_neg c2]
        rw [i_le] at c1
        rw [if_pos (inb_iff.mpr ⟨h3, by omega⟩)]
        by_cases c3 : rd.1 rd.2.2.1.toNatClampNeg = 32
        · rw [if_pos c3]
          have e1 : (rd.2.2.1 + 1).toInt = rd.2.2.1.toInt + 1 := by rw [i_add] <;> simp only [i_1] <;> omega
          exact ih _ ⟨h1, h2, by show 0 ≤ (rd.2.2.1 + 1).toInt; omega, by show (rd.2.2.1 + 1).toInt ≤ 400; omega⟩ (by show 400 - (rd.2.2.1 + 1).toInt < n; omega)
        · rw [if_neg c3]; exact ⟨_, _, e0, hh⟩
theorem t_Reader_peek (rd : SReader) (h : rdI rd) : ∃ r rd', f_Reader_peek rd = some (r, rd') ∧ rdI rd' := by
  unfold f_Reader_peek
  exact t_Reader_peek_0 4096 rd h (by obtain ⟨h1, h2, h3, h4⟩ := h; omega)
