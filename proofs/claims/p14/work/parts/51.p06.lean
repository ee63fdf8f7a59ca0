set_option maxRecDepth 100000 in
def hz_wrT (f : Nat → Int32) (b : Nat) (g : Nat → Int32) (s k : Nat) : Nat → Int32 := fun j => if b ≤ j ∧ j < b + k then g (s + (j - b)) else f j
set_option maxRecDepth 100000 in
theorem hz_wrT_zero (f : Nat → Int32) (b : Nat) (g : Nat → Int32) (s : Nat) : hz_wrT f b g s 0 = f := by
  funext j; unfold hz_wrT; rw [if_neg (by omega)]
set_option maxRecDepth 100000 in
theorem hz_wrT_succ (f : Nat → Int32) (b : Nat) (g : Nat → Int32) (s k : Nat) : upd (hz_wrT f b g s k) (b + k) (g (s + k)) = hz_wrT f b g s (k + 1) := by
  funext j; unfold upd hz_wrT
  by_cases h : j = b + k
  · subst h
    rw [if_pos rfl, if_pos (by omega), show s + (b + k - b) = s + k by omega]
  · rw [if_neg h]
    by_cases h2 : b ≤ j ∧ j < b + k
    · rw [if_pos h2, if_pos (by omega)]
    · rw [if_neg h2, if_neg (by omega)]
set_option maxRecDepth 100000 in
def hz_letC (tp : Nat → Int32) (L : Nat) : Nat → Nat → Nat
  | 0, a => 0
  | n + 1, a => if hz_inR (hz_hereT tp L a) (hz_nI 97) (hz_nI 122) = true then hz_letC tp L n (a + 1) + 1 else 0
set_option maxRecDepth 100000 in
theorem hz_letC_bd (tp : Nat → Int32) (L : Nat) : ∀ n a, a ≤ L → hz_letC tp L n a ≤ n ∧ a + hz_letC tp L n a ≤ L
  | 0, a, h => by simp only [hz_letC]; omega
  | n + 1, a, h => by
    unfold hz_letC
    by_cases c : hz_inR (hz_hereT tp L a) (hz_nI 97) (hz_nI 122) = true
    · rw [if_pos c]
      have := hz_letC_bd tp L n (a + 1) (hz_inR_lt (by omega) (by omega) c)
      omega
    · rw [if_neg c]; omega
set_option maxRecDepth 100000 in
def hz_nameS (tp : Nat → Int32) (L a : Nat) : Nat ⊕ (Nat × Nat) :=
  if hz_hereT tp L (hz_skp tp L a) = hz_nI 34 then
    if hz_letC tp L 10 (hz_skp tp L a + 1) = 0 ∨ ¬ hz_hereT tp L (hz_skp tp L a + 1 + hz_letC tp L 10 (hz_skp tp L a + 1)) = hz_nI 34 then .inl (hz_skp tp L a + 1 + hz_letC tp L 10 (hz_skp tp L a + 1))
    else .inr (hz_skp tp L a + 1, hz_letC tp L 10 (hz_skp tp L a + 1))
  else .inl (hz_skp tp L a)
set_option maxRecDepth 100000 in
theorem hz_nameS_bd {tp : Nat → Int32} {L a : Nat} (ha : a ≤ L) : (∀ p, hz_nameS tp L a = .inl p → p ≤ L) ∧ (∀ s k, hz_nameS tp L a = .inr (s, k) → a < s ∧ s + k < L ∧ 1 ≤ k ∧ k ≤ 10) := by
  have hs := hz_skp_bd (tp := tp) ha
  unfold hz_nameS
  by_cases c : hz_hereT tp L (hz_skp tp L a) = hz_nI 34
  · rw [if_pos c]
    have hl := hz_hereT_lt c (by decide)
    have hb := hz_letC_bd tp L 10 (hz_skp tp L a + 1) hl
    by_cases c2 : hz_letC tp L 10 (hz_skp tp L a + 1) = 0 ∨ ¬ hz_hereT tp L (hz_skp tp L a + 1 + hz_letC tp L 10 (hz_skp tp L a + 1)) = hz_nI 34
    · rw [if_pos c2]
      exact ⟨fun p h => by cases h; omega, fun s k h => (nomatch h)⟩
    · rw [if_neg c2]
      refine ⟨fun p h => (nomatch h), fun s k h => ?_⟩
      have h3 : hz_hereT tp L (hz_skp tp L a + 1 + hz_letC tp L 10 (hz_skp tp L a + 1)) = hz_nI 34 := Decidable.byContradiction fun h => c2 (Or.inr h)
      have hl2 := hz_hereT_lt h3 (by decide)
      have h4 : hz_letC tp L 10 (hz_skp tp L a + 1) ≠ 0 := fun h => c2 (Or.inl h)
      cases h
      omega
  · rw [if_neg c]
    exact ⟨fun p h => by cases h; omega, fun s k h => (nomatch h)⟩
set_option maxRecDepth 100000 in
def hz_isLt (x : Int32) : Bool := hz_inR x (hz_nI 97) (hz_nI 122)
set_option maxRecDepth 100000 in
theorem hz_p_isLetter (x : Int32) : f_HT_isLetter x = some (hz_isLt x) := by
  unfold f_HT_isLetter hz_isLt hz_inR
  simp only [Int32.lt_iff_toInt_lt, Int32.le_iff_toInt_le, hz_nI_lit]
  split
  · simp only [Option.some.injEq, Bool.false_eq, decide_eq_false_iff_not]; omega
  · split
    · simp only [Option.some.injEq, Bool.false_eq, decide_eq_false_iff_not]; omega
    · simp only [Option.some.injEq, Bool.true_eq, decide_eq_true_eq]; omega
set_option maxRecDepth 100000 in
theorem hz_byte_26 : ∀ e : Fin 26, (hz_nI (97 + e.val)).toInt8.toInt32.toInt8.toInt32 = hz_nI (97 + e.val) := by decide
set_option maxRecDepth 100000 in
theorem hz_nar_letter {x : Int32} (h : hz_inR x (hz_nI 97) (hz_nI 122) = true) : vp_nar .byte x.toInt8.toInt32 = x := by
  obtain ⟨d, e1, e2, e3⟩ := hz_inR_eq (by omega) (by omega) h
  have e := hz_byte_26 ⟨d - 97, by omega⟩
  simp only [show 97 + (d - 97) = d by omega] at e
  rw [e3, hz_nar_by]
  exact e
set_option maxRecDepth 100000 in
theorem hz_p_setNameLetter {t1 t2 t3 t4 : Nat → Int32} {t5 : Int32} {t6 : Bool} {c nm i : Nat} {x : Int32} (hc : c ≤ 12) (hn : nm < 3) (hi : i < 10) (hx : hz_inR x (hz_nI 97) (hz_nI 122) = true) :
    f_Table_setNameLetter (t1, t2, t3, t4, t5, t6) (hz_nI c) (hz_nI nm) (hz_nI i) x = some (t1, t2, t3, upd t4 ((c * 3 + nm) * 10 + i) x, t5, t6) := by
  unfold f_Table_setNameLetter
  rw [hz_nar_letter hx]
  simp (disch := omega) only [hz_nI_lit, hz_nI_add, hz_nI_mul, hz_nI_lt, hz_nI_le, hz_nI_inj, hz_nI_sub, hz_nI_nat, hz_nI_inb, hz_nI_pred, hz_nI_m1_lt, hz_nI_lt_m1, hz_nI_m1_le, hz_nI_le_m1, hz_nI_eq_m1, hz_nI_m1_eq, hz_bI0, if_pos, if_neg, if_true, if_false, Option.bind_some, Prod.eta, reduceCtorEq]
set_option maxRecDepth 100000 in
theorem hz_p_name_14 {tp : Nat → Int32} {L c nm s : Nat} {v w t5 : Int32} {t1 t2 t3 lt : Nat → Int32} {t6 : Bool} (hL : L ≤ 400) (hc : c ≤ 12) (hn : nm < 3) : ∀ k n i, 10 = i + k → k < n → s + i ≤ L →
    f_Reader_readName_14 n (tp, hz_nI L, hz_nI (s + i), v, w) (t1, t2, t3, hz_wrT lt ((c * 3 + nm) * 10) tp s i, t5, t6) (hz_nI c) (hz_nI nm) (hz_nI i) = f_Reader_readName_59 (tp, hz_nI L, hz_nI (s + i + hz_letC tp L k (s + i)), v, w) (t1, t2, t3, hz_wrT lt ((c * 3 + nm) * 10) tp s (i + hz_letC tp L k (s + i)), t5, t6) (hz_nI c) (hz_nI nm) (hz_nI (i + hz_letC tp L k (s + i)))
  | 0, n + 1, i, h1, h2, h3 => by
    rw [f_Reader_readName_14]
    simp only [hz_letC, Nat.add_zero]
    simp (disch := omega) only [hz_nI_lit, hz_nI_add, hz_nI_mul, hz_nI_lt, hz_nI_le, hz_nI_inj, hz_nI_sub, hz_nI_nat, hz_nI_inb, hz_nI_pred, hz_nI_m1_lt, hz_nI_lt_m1, hz_nI_m1_le, hz_nI_le_m1, hz_nI_eq_m1, hz_nI_m1_eq, hz_bI0, if_pos, if_neg, if_true, if_false, Option.bind_some, Prod.eta, reduceCtorEq]
  | k + 1, n + 1, i, h1, h2, h3 => by
    rw [f_Reader_readName_14, hz_p_byteHere hL h3]
    unfold hz_letC
    by_cases c0 : hz_inR (hz_hereT tp L (s + i)) (hz_nI 97) (hz_nI 122) = true
    · have hl := hz_inR_lt (by omega) (by omega) c0
      have ih := hz_p_name_14 (tp := tp) (v := v) (w := w) (t1 := t1) (t2 := t2) (t3 := t3) (t5 := t5) (t6 := t6) (lt := lt) hL hc hn k n (i + 1) (by omega) (by omega) (show s + (i + 1) ≤ L by omega)
      have e1 : hz_hereT tp L (s + i) = tp (s + i) := by unfold hz_hereT; rw [if_pos hl]
      rw [← hz_wrT_succ, ← e1, show s + (i + 1) = s + i + 1 by omega] at ih
      rw [if_pos c0, show s + i + (hz_letC tp L k (s + i + 1) + 1) = s + i + 1 + hz_letC tp L k (s + i + 1) by omega, show i + (hz_letC tp L k (s + i + 1) + 1) = i + 1 + hz_letC tp L k (s + i + 1) by omega, ← ih]
      have c1 : hz_isLt (hz_hereT tp L (s + i)) = true := c0
      simp (disch := omega) only [hz_nI_lit, hz_nI_add, hz_nI_mul, hz_nI_lt, hz_nI_le, hz_nI_inj, hz_nI_sub, hz_nI_nat, hz_nI_inb, hz_nI_pred, hz_nI_m1_lt, hz_nI_lt_m1, hz_nI_m1_le, hz_nI_le_m1, hz_nI_eq_m1, hz_nI_m1_eq, hz_bI0, if_pos, if_neg, if_true, if_false, Option.bind_some, Prod.eta, reduceCtorEq, hz_p_isLetter, c1, Bool.true_eq_false, hz_p_setNameLetter hc hn (show i < 10 by omega) c0]
    · have c1 : hz_isLt (hz_hereT tp L (s + i)) = false := by unfold hz_isLt; simpa using c0
      rw [if_neg c0, Nat.add_zero, Nat.add_zero]
      simp (disch := omega) only [hz_nI_lit, hz_nI_add, hz_nI_mul, hz_nI_lt, hz_nI_le, hz_nI_inj, hz_nI_sub, hz_nI_nat, hz_nI_inb, hz_nI_pred, hz_nI_m1_lt, hz_nI_lt_m1, hz_nI_m1_le, hz_nI_le_m1, hz_nI_eq_m1, hz_nI_m1_eq, hz_bI0, if_pos, if_neg, if_true, if_false, Option.bind_some, Prod.eta, reduceCtorEq, hz_p_isLetter, c1]
set_option maxRecDepth 100000 in
theorem hz_p_setCell {t1 t2 t3 t4 : Nat → Int32} {t5 : Int32} {t6 : Bool} {c j : Nat} {x : Int32} (hc : c ≤ 12) (hj : j < 9) :
    f_Table_setCell (t1, t2, t3, t4, t5, t6) (hz_nI c) (hz_nI j) x = some (t1, upd t2 (c * 9 + j) x, t3, t4, t5, t6) := by
  unfold f_Table_setCell
  simp (disch := omega) only [hz_nI_lit, hz_nI_add, hz_nI_mul, hz_nI_lt, hz_nI_le, hz_nI_inj, hz_nI_sub, hz_nI_nat, hz_nI_inb, hz_nI_pred, hz_nI_m1_lt, hz_nI_lt_m1, hz_nI_m1_le, hz_nI_le_m1, hz_nI_eq_m1, hz_nI_m1_eq, hz_bI0, if_pos, if_neg, if_true, if_false, Option.bind_some, Prod.eta, reduceCtorEq]
set_option maxRecDepth 100000 in
theorem hz_p_endName {t1 t2 t3 t4 : Nat → Int32} {t5 : Int32} {t6 : Bool} {c nm : Nat} {x : Int32} (hc : c ≤ 12) (hn : nm < 3) :
    f_Table_endName (t1, t2, t3, t4, t5, t6) (hz_nI c) (hz_nI nm) x = some (t1, upd t2 (c * 9 + 8) (hz_nI (nm + 1)), upd t3 (c * 3 + nm) x, t4, t5, t6) := by
  unfold f_Table_endName
  simp (disch := omega) only [hz_nI_lit, hz_nI_add, hz_nI_mul, hz_nI_lt, hz_nI_le, hz_nI_inj, hz_nI_sub, hz_nI_nat, hz_nI_inb, hz_nI_pred, hz_nI_m1_lt, hz_nI_lt_m1, hz_nI_m1_le, hz_nI_le_m1, hz_nI_eq_m1, hz_nI_m1_eq, hz_bI0, if_pos, if_neg, if_true, if_false, Option.bind_some, Prod.eta, reduceCtorEq, hz_p_setCell hc (show 8 < 9 by omega)]
set_option maxRecDepth 100000 in
theorem hz_p_name {tp : Nat → Int32} {L a c nm : Nat} {v w t5 : Int32} {t1 t2 t3 lt : Nat → Int32} {t6 : Bool} (hL : L ≤ 400) (ha : a ≤ L) (hc : c ≤ 12) (hn : nm < 3) :
    (∀ p, hz_nameS tp L a = .inl p → ∃ b x tb, f_Reader_readName (tp, hz_nI L, hz_nI a, v, w) (t1, t2, t3, lt, t5, t6) (hz_nI c) (hz_nI nm) = some (false, (tp, hz_nI L, hz_nI b, x, hz_nI p), tb)) ∧
    (∀ s k, hz_nameS tp L a = .inr (s, k) → f_Reader_readName (tp, hz_nI L, hz_nI a, v, w) (t1, t2, t3, lt, t5, t6) (hz_nI c) (hz_nI nm) = some (true, (tp, hz_nI L, hz_nI (s + k + 1), v, w), (t1, upd t2 (c * 9 + 8) (hz_nI (nm + 1)), upd t3 (c * 3 + nm) (hz_nI k), hz_wrT lt ((c * 3 + nm) * 10) tp s k, t5, t6))) := by
  unfold f_Reader_readName hz_nameS
  rw [hz_nI_lit, hz_p_take hL ha]
  have hs := hz_skp_bd (tp := tp) ha
  by_cases c0 : hz_hereT tp L (hz_skp tp L a) = hz_nI 34
  · have hl := hz_hereT_lt c0 (by decide)
    rw [if_pos c0, if_pos c0]
    have e := hz_p_name_14 (tp := tp) (v := v) (w := w) (t1 := t1) (t2 := t2) (t3 := t3) (t5 := t5) (t6 := t6) (lt := lt) (s := hz_skp tp L a + 1) hL hc hn 10 4096 0 (by omega) (by omega) hl
    rw [hz_wrT_zero, Nat.zero_add, Nat.add_zero] at e
    simp only [Option.bind_some, hz_nI_lit, hz_bI0, Bool.true_eq_false, if_false]
    rw [e]
    have hb := hz_letC_bd tp L 10 (hz_skp tp L a + 1) hl
    unfold f_Reader_readName_59 f_Reader_wrong
    rw [hz_p_byteHere hL hb.2]
    generalize hz_letC tp L 10 (hz_skp tp L a + 1) = k at *
    by_cases c1 : k = 0
    · rw [if_pos (Or.inl c1)]
      refine ⟨fun p h => ?_, fun s k h => (nomatch h)⟩
      rw [← Sum.inl.inj h]
      simp (disch := omega) only [hz_nI_lit, hz_nI_add, hz_nI_mul, hz_nI_lt, hz_nI_le, hz_nI_inj, hz_nI_sub, hz_nI_nat, hz_nI_inb, hz_nI_pred, hz_nI_m1_lt, hz_nI_lt_m1, hz_nI_m1_le, hz_nI_le_m1, hz_nI_eq_m1, hz_nI_m1_eq, hz_bI0, if_pos, if_neg, if_true, if_false, Option.bind_some, Prod.eta, reduceCtorEq, c1]
      exact ⟨_, _, _, rfl⟩
    · by_cases c2 : hz_hereT tp L (hz_skp tp L a + 1 + k) = hz_nI 34
      · rw [if_neg (by intro h; exact h.elim c1 (fun h => h c2))]
        refine ⟨fun p h => (nomatch h), fun s k h => ?_⟩
        cases h
        simp (disch := omega) only [hz_nI_lit, hz_nI_add, hz_nI_mul, hz_nI_lt, hz_nI_le, hz_nI_inj, hz_nI_sub, hz_nI_nat, hz_nI_inb, hz_nI_pred, hz_nI_m1_lt, hz_nI_lt_m1, hz_nI_m1_le, hz_nI_le_m1, hz_nI_eq_m1, hz_nI_m1_eq, hz_bI0, if_pos, if_neg, if_true, if_false, Option.bind_some, Prod.eta, reduceCtorEq, c1, c2, hz_p_endName hc hn]
      · rw [if_pos (Or.inr c2)]
        refine ⟨fun p h => ?_, fun s k h => (nomatch h)⟩
        rw [← Sum.inl.inj h]
        simp (disch := omega) only [hz_nI_lit, hz_nI_add, hz_nI_mul, hz_nI_lt, hz_nI_le, hz_nI_inj, hz_nI_sub, hz_nI_nat, hz_nI_inb, hz_nI_pred, hz_nI_m1_lt, hz_nI_lt_m1, hz_nI_m1_le, hz_nI_le_m1, hz_nI_eq_m1, hz_nI_m1_eq, hz_bI0, if_pos, if_neg, if_true, if_false, Option.bind_some, Prod.eta, reduceCtorEq, c1, c2]
        exact ⟨_, _, _, rfl⟩
  · rw [if_neg c0, if_neg c0]
    refine ⟨fun p h => ?_, fun s k h => (nomatch h)⟩
    rw [← Sum.inl.inj h]
    simp (disch := omega) only [hz_nI_lit, hz_nI_add, hz_nI_mul, hz_nI_lt, hz_nI_le, hz_nI_inj, hz_nI_sub, hz_nI_nat, hz_nI_inb, hz_nI_pred, hz_nI_m1_lt, hz_nI_lt_m1, hz_nI_m1_le, hz_nI_le_m1, hz_nI_eq_m1, hz_nI_m1_eq, hz_bI0, if_pos, if_neg, if_true, if_false, Option.bind_some, Prod.eta, reduceCtorEq]
    exact ⟨_, _, _, rfl⟩
