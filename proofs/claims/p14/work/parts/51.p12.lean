set_option maxRecDepth 100000 in
def hz_nameR (t3 t4 fr : Nat → Int32) (c m n : Nat) : Prop := ∃ len, 1 ≤ len ∧ len ≤ 10 ∧ t3 (c * 3 + n) = hz_nI len ∧ fr (m + 10 + 11 * n) = hz_nI len ∧ ∀ i, i < len → t4 ((c * 3 + n) * 10 + i) = fr (m + 11 + 11 * n + i)
set_option maxRecDepth 100000 in
theorem hz_nameR_keep {t3 t4 fr t3' t4' fr' : Nat → Int32} {c m n : Nat} (h : hz_nameR t3 t4 fr c m n) (h3 : t3' (c * 3 + n) = t3 (c * 3 + n)) (h4 : ∀ i, i < 10 → t4' ((c * 3 + n) * 10 + i) = t4 ((c * 3 + n) * 10 + i)) (hf : ∀ i, i < 11 → fr' (m + 10 + 11 * n + i) = fr (m + 10 + 11 * n + i)) : hz_nameR t3' t4' fr' c m n := by
  obtain ⟨len, l1, l2, l3, l4, l5⟩ := h
  refine ⟨len, l1, l2, h3.trans l3, (hf 0 (by omega)).trans l4, fun i hi => ?_⟩
  rw [h4 i (by omega), l5 i hi, show m + 11 + 11 * n + i = m + 10 + 11 * n + (i + 1) by omega, hf (i + 1) (by omega)]
set_option maxRecDepth 100000 in
def hz_oNam (tp : Nat → Int32) (L : Nat) (w : Int32) (t1 t2 t3 t4 : Nat → Int32) (t5 : Int32) (t6 : Bool) (g1 : Int32 × Int32) (nm : Int32) (ng : Bool) (fr : Nat → Int32) (r : hz_MR) (c m i a : Nat) (C : Option (Bool × SReader × STable)) (M : Option SModel) : Prop :=
  (∃ p b x tb' b1 fr', p ≤ L ∧ C = some (false, (tp, hz_nI L, b, x, hz_nI p), tb') ∧ M = f_Model_materialRow_147 (g1, (hz_nI L, tp, b1, hz_nI p), (nm, ng, fr'), r) (hz_nI m)) ∨
  ∃ b x t2' t3' t4' fr' many, a ≤ b ∧ b ≤ L ∧ C = some (true, (tp, hz_nI L, hz_nI b, x, w), (t1, t2', t3', t4', t5, t6)) ∧ M = f_Model_materialRow_147 (g1, (hz_nI L, tp, hz_nI b, -hz_nI 1), (nm, ng, fr'), r) (hz_nI m) ∧
    i < many ∧ many ≤ 3 ∧ t2' (c * 9 + 8) = hz_nI many ∧ fr' (m + 9) = hz_nI many ∧ (∀ n, i ≤ n → n < many → hz_nameR t3' t4' fr' c m n) ∧
    (∀ q, q ≠ c * 9 + 8 → t2' q = t2 q) ∧ (∀ q, ¬ (c * 3 + i ≤ q ∧ q < c * 3 + 3) → t3' q = t3 q) ∧ (∀ q, ¬ ((c * 3 + i) * 10 ≤ q ∧ q < (c * 3 + 3) * 10) → t4' q = t4 q) ∧ (∀ q, q ≠ m + 9 → ¬ (m + 10 + 11 * i ≤ q ∧ q < m + 43) → fr' q = fr q)
set_option maxRecDepth 100000 in
theorem hz_q_110W {g1 : Int32 × Int32} {l a : Int32} {p n : Nat} {m : Int32} (hp : p ≤ 400) {tp : Nat → Int32} {g3 : hz_M3} {r : hz_MR} : f_Model_materialRow_110 (n + 1) (g1, (l, tp, a, hz_nI p), g3, r) m = f_Model_materialRow_147 (g1, (l, tp, a, hz_nI p), g3, r) m := by
  rw [f_Model_materialRow_110]
  simp (disch := omega) only [hz_nI_lit, hz_nI_add, hz_nI_mul, hz_nI_lt, hz_nI_le, hz_nI_inj, hz_nI_sub, hz_nI_nat, hz_nI_inb, hz_nI_pred, hz_nI_m1_lt, hz_nI_lt_m1, hz_nI_m1_le, hz_nI_le_m1, hz_nI_eq_m1, hz_nI_m1_eq, hz_bI0, if_pos, if_neg, if_true, if_false, Option.bind_some, Prod.eta, reduceCtorEq]
set_option maxRecDepth 100000 in
theorem hz_wrT_in {f g : Nat → Int32} {b s k j : Nat} (h : j < k) : hz_wrT f b g s k (b + j) = g (s + j) := by
  unfold hz_wrT; rw [if_pos (by omega), show b + j - b = j by omega]
set_option maxRecDepth 100000 in
theorem hz_wrT_out {f g : Nat → Int32} {b s k j : Nat} (h : ¬ (b ≤ j ∧ j < b + k)) : hz_wrT f b g s k j = f j := if_neg h
set_option maxRecDepth 100000 in
theorem hz_pq_names {tp : Nat → Int32} {L : Nat} {w : Int32} {t1 : Nat → Int32} {t5 : Int32} {t6 : Bool} {g1 : Int32 × Int32} {nm : Int32} {ng : Bool} {r : hz_MR} {c m : Nat} (hL : L ≤ 400) (hc : c ≤ 12) (hm : m ≤ 516) :
    ∀ k i n1 n2 a x t2 t3 t4 fr, 3 = i + (k + 1) → k < n1 → k < n2 → a ≤ L → fr (m + 9) = hz_nI i → hz_oNam tp L w t1 t2 t3 t4 t5 t6 g1 nm ng fr r c m i a (f_Reader_readNames_2 n1 (tp, hz_nI L, hz_nI a, x, w) (t1, t2, t3, t4, t5, t6) (hz_nI c) (hz_nI i)) (Option.bind (f_Model_name (g1, (hz_nI L, tp, hz_nI a, -hz_nI 1), (nm, ng, fr), r) (hz_nI m)) fun u => f_Model_materialRow_110 n2 u (hz_nI m)) := by
  intro k
  induction k with
  | zero =>
    intro i n1 n2 a x t2 t3 t4 fr h1 h2 h3 h4 h5
    obtain ⟨n1, rfl⟩ : ∃ n', n1 = n' + 1 := ⟨n1 - 1, by omega⟩
    obtain ⟨n2, rfl⟩ : ∃ n', n2 = n' + 1 := ⟨n2 - 1, by omega⟩
    have hi : i = 2 := by omega
    subst hi
    have hN := hz_p_name (tp := tp) (v := x) (w := w) (t1 := t1) (t2 := t2) (t3 := t3) (lt := t4) (t5 := t5) (t6 := t6) (c := c) (nm := 2) hL h4 hc (by omega)
    have hQ := hz_q_name (g1 := g1) (tp := tp) (m := m) (nm := nm) (ng := ng) (fr := fr) (r := r) hL h4 hm (by omega) h5
    have hB := hz_nameS_bd (tp := tp) h4
    rw [f_Reader_readNames_2]
    cases hq : hz_nameS tp L a with
    | inl p =>
      obtain ⟨b, y, tb', e1⟩ := hN.1 p hq
      obtain ⟨b1, fr', e2⟩ := hQ.1 p hq
      have hpL := hB.1 p hq
      rw [e1, e2]
      simp only [Option.bind_some, hz_nI_lit, hz_bI0, if_true]
      rw [hz_q_110W (show p ≤ 400 by omega)]
      exact Or.inl ⟨p, _, _, _, _, _, hpL, rfl, rfl⟩
    | inr z =>
      obtain ⟨s, l⟩ := z
      have hb := hB.2 s l hq
      rw [hN.2 s l hq, hQ.2 s l hq]
      have e3 : f_Model_materialRow_110 (n2 + 1) (g1, (hz_nI L, tp, hz_nI (s + l + 1), -hz_nI 1), (nm, ng, upd (upd (hz_wrT fr (m + 10 + 11 * 2 + 1) tp s l) (m + 10 + 11 * 2) (hz_nI l)) (m + 9) (hz_nI (2 + 1))), r) (hz_nI m) = f_Model_materialRow_147 (g1, (hz_nI L, tp, hz_nI (s + l + 1), -hz_nI 1), (nm, ng, upd (upd (hz_wrT fr (m + 10 + 11 * 2 + 1) tp s l) (m + 10 + 11 * 2) (hz_nI l)) (m + 9) (hz_nI (2 + 1))), r) (hz_nI m) := by
        rw [f_Model_materialRow_110]
        simp (disch := omega) only [hz_nI_lit, hz_nI_add, hz_nI_mul, hz_nI_lt, hz_nI_le, hz_nI_inj, hz_nI_sub, hz_nI_nat, hz_nI_inb, hz_nI_pred, hz_nI_m1_lt, hz_nI_lt_m1, hz_nI_m1_le, hz_nI_le_m1, hz_nI_eq_m1, hz_nI_m1_eq, hz_bI0, if_pos, if_neg, if_true, if_false, Option.bind_some, Prod.eta, reduceCtorEq, hz_upd_eq]
      simp only [Option.bind_some]
      rw [e3]
      simp (disch := omega) only [hz_nI_lit, hz_nI_add, hz_nI_mul, hz_nI_lt, hz_nI_le, hz_nI_inj, hz_nI_sub, hz_nI_nat, hz_nI_inb, hz_nI_pred, hz_nI_m1_lt, hz_nI_lt_m1, hz_nI_m1_le, hz_nI_le_m1, hz_nI_eq_m1, hz_nI_m1_eq, hz_bI0, if_pos, if_neg, if_true, if_false, Option.bind_some, Prod.eta, reduceCtorEq, Bool.true_eq_false]
      refine Or.inr ⟨s + l + 1, _, _, _, _, _, 3, by omega, by omega, rfl, rfl, by omega, by omega, hz_upd_eq _ _ _, hz_upd_eq _ _ _, ?_, fun q hq => hz_upd_ne hq, fun q hq => hz_upd_ne (by omega), fun q hq => hz_wrT_out (by omega), fun q hq1 hq2 => ?_⟩
      · intro n hn1 hn2
        have : n = 2 := by omega
        subst this
        refine ⟨l, hb.2.2.1, hb.2.2.2, hz_upd_eq _ _ _, ?_, fun i hi => ?_⟩
        · rw [hz_upd_ne (by omega), hz_upd_eq]
        · rw [hz_wrT_in hi, hz_upd_ne (by omega), hz_upd_ne (by omega), show m + 11 + 11 * 2 + i = m + 10 + 11 * 2 + 1 + i by omega, hz_wrT_in hi]
      · rw [hz_upd_ne hq1, hz_upd_ne (by omega), hz_wrT_out (by omega)]
  | succ k ih =>
    intro i n1 n2 a x t2 t3 t4 fr h1 h2 h3 h4 h5
    obtain ⟨n1, rfl⟩ : ∃ n', n1 = n' + 1 := ⟨n1 - 1, by omega⟩
    obtain ⟨n2, rfl⟩ : ∃ n', n2 = n' + 1 := ⟨n2 - 1, by omega⟩
    have hN := hz_p_name (tp := tp) (v := x) (w := w) (t1 := t1) (t2 := t2) (t3 := t3) (lt := t4) (t5 := t5) (t6 := t6) (c := c) (nm := i) hL h4 hc (by omega)
    have hQ := hz_q_name (g1 := g1) (tp := tp) (m := m) (nm := nm) (ng := ng) (fr := fr) (r := r) hL h4 hm (by omega) h5
    have hB := hz_nameS_bd (tp := tp) h4
    rw [f_Reader_readNames_2]
    cases hq : hz_nameS tp L a with
    | inl p =>
      obtain ⟨b, y, tb', e1⟩ := hN.1 p hq
      obtain ⟨b1, fr', e2⟩ := hQ.1 p hq
      have hpL := hB.1 p hq
      rw [e1, e2]
      simp only [Option.bind_some, hz_nI_lit, hz_bI0, if_true]
      rw [hz_q_110W (show p ≤ 400 by omega)]
      exact Or.inl ⟨p, _, _, _, _, _, hpL, rfl, rfl⟩
    | inr z =>
      obtain ⟨s, l⟩ := z
      have hb := hB.2 s l hq
      have hs := hz_skp_bd (tp := tp) (show s + l + 1 ≤ L by omega)
      rw [hN.2 s l hq, hQ.2 s l hq]
      generalize hfr : upd (upd (hz_wrT fr (m + 10 + 11 * i + 1) tp s l) (m + 10 + 11 * i) (hz_nI l)) (m + 9) (hz_nI (i + 1)) = fr1
      have hf9 : fr1 (m + 9) = hz_nI (i + 1) := by rw [← hfr]; exact hz_upd_eq _ _ _
      have hfo : ∀ q, q ≠ m + 9 → ¬ (m + 10 + 11 * i ≤ q ∧ q < m + 43) → fr1 q = fr q := by
        intro q hq1 hq2
        rw [← hfr, hz_upd_ne hq1, hz_upd_ne (by omega), hz_wrT_out (by omega)]
      have hnR : hz_nameR (upd t3 (c * 3 + i) (hz_nI l)) (hz_wrT t4 ((c * 3 + i) * 10) tp s l) fr1 c m i := by
        refine ⟨l, hb.2.2.1, hb.2.2.2, hz_upd_eq _ _ _, ?_, fun j hj => ?_⟩
        · rw [← hfr, hz_upd_ne (by omega), hz_upd_eq]
        · rw [hz_wrT_in hj, ← hfr, hz_upd_ne (by omega), hz_upd_ne (by omega), show m + 11 + 11 * i + j = m + 10 + 11 * i + 1 + j by omega, hz_wrT_in hj]
      by_cases c3 : hz_hereT tp L (hz_skp tp L (s + l + 1)) = hz_nI 34
      · have ih' := ih (i + 1) n1 n2 (hz_skp tp L (s + l + 1)) x (upd t2 (c * 9 + 8) (hz_nI (i + 1))) (upd t3 (c * 3 + i) (hz_nI l)) (hz_wrT t4 ((c * 3 + i) * 10) tp s l) fr1 (by omega) (by omega) (by omega) hs.2 hf9
        have e3 : f_Model_materialRow_110 (n2 + 1) (g1, (hz_nI L, tp, hz_nI (s + l + 1), -hz_nI 1), (nm, ng, fr1), r) (hz_nI m) = Option.bind (f_Model_name (g1, (hz_nI L, tp, hz_nI (hz_skp tp L (s + l + 1)), -hz_nI 1), (nm, ng, fr1), r) (hz_nI m)) fun u => f_Model_materialRow_110 n2 u (hz_nI m) := by
          rw [f_Model_materialRow_110]
          simp (disch := omega) only [hz_nI_lit, hz_nI_add, hz_nI_mul, hz_nI_lt, hz_nI_le, hz_nI_inj, hz_nI_sub, hz_nI_nat, hz_nI_inb, hz_nI_pred, hz_nI_m1_lt, hz_nI_lt_m1, hz_nI_m1_le, hz_nI_le_m1, hz_nI_eq_m1, hz_nI_m1_eq, hz_bI0, if_pos, if_neg, if_true, if_false, Option.bind_some, Prod.eta, reduceCtorEq, hf9, hz_q_see hL (show s + l + 1 ≤ L by omega), c3]
        simp only [Option.bind_some]
        rw [e3]
        simp (disch := omega) only [hz_nI_lit, hz_nI_add, hz_nI_mul, hz_nI_lt, hz_nI_le, hz_nI_inj, hz_nI_sub, hz_nI_nat, hz_nI_inb, hz_nI_pred, hz_nI_m1_lt, hz_nI_lt_m1, hz_nI_m1_le, hz_nI_le_m1, hz_nI_eq_m1, hz_nI_m1_eq, hz_bI0, if_pos, if_neg, if_true, if_false, Option.bind_some, Prod.eta, reduceCtorEq, Bool.true_eq_false, hz_p_peek hL (show s + l + 1 ≤ L by omega), c3]
        rcases ih' with ⟨p, b, y, tb', b1, fr', j1, j2, j3⟩ | ⟨b, y, t2', t3', t4', fr', many, j1, j2, j3, j4, j5, j6, j7, j8, j9, j10, j11, j12, j13⟩
        · exact Or.inl ⟨p, b, y, tb', b1, fr', j1, j2, j3⟩
        · refine Or.inr ⟨b, y, t2', t3', t4', fr', many, by omega, j2, j3, j4, by omega, j6, j7, j8, ?_, fun q hq => ?_, fun q hq => ?_, fun q hq => ?_, fun q hq1 hq2 => ?_⟩
          · intro n hn1 hn2
            by_cases hni : n = i
            · subst hni
              exact hz_nameR_keep hnR (j11 _ (by omega)) (fun j hj => j12 _ (by omega)) (fun j hj => j13 _ (by omega) (by omega))
            · exact j9 n (by omega) hn2
          · rw [j10 q hq, hz_upd_ne hq]
          · rw [j11 q (by omega), hz_upd_ne (by omega)]
          · rw [j12 q (by omega), hz_wrT_out (by omega)]
          · rw [j13 q hq1 (by omega), hfo q hq1 (by omega)]
      · have e3 : f_Model_materialRow_110 (n2 + 1) (g1, (hz_nI L, tp, hz_nI (s + l + 1), -hz_nI 1), (nm, ng, fr1), r) (hz_nI m) = f_Model_materialRow_147 (g1, (hz_nI L, tp, hz_nI (hz_skp tp L (s + l + 1)), -hz_nI 1), (nm, ng, fr1), r) (hz_nI m) := by
          rw [f_Model_materialRow_110]
          simp (disch := omega) only [hz_nI_lit, hz_nI_add, hz_nI_mul, hz_nI_lt, hz_nI_le, hz_nI_inj, hz_nI_sub, hz_nI_nat, hz_nI_inb, hz_nI_pred, hz_nI_m1_lt, hz_nI_lt_m1, hz_nI_m1_le, hz_nI_le_m1, hz_nI_eq_m1, hz_nI_m1_eq, hz_bI0, if_pos, if_neg, if_true, if_false, Option.bind_some, Prod.eta, reduceCtorEq, hf9, hz_q_see hL (show s + l + 1 ≤ L by omega), c3]
        simp only [Option.bind_some]
        rw [e3]
        simp (disch := omega) only [hz_nI_lit, hz_nI_add, hz_nI_mul, hz_nI_lt, hz_nI_le, hz_nI_inj, hz_nI_sub, hz_nI_nat, hz_nI_inb, hz_nI_pred, hz_nI_m1_lt, hz_nI_lt_m1, hz_nI_m1_le, hz_nI_le_m1, hz_nI_eq_m1, hz_nI_m1_eq, hz_bI0, if_pos, if_neg, if_true, if_false, Option.bind_some, Prod.eta, reduceCtorEq, Bool.true_eq_false, hz_p_peek hL (show s + l + 1 ≤ L by omega), c3]
        refine Or.inr ⟨hz_skp tp L (s + l + 1), _, _, _, _, _, i + 1, by omega, by omega, rfl, rfl, by omega, by omega, hz_upd_eq _ _ _, hf9, ?_, fun q hq => hz_upd_ne hq, fun q hq => hz_upd_ne (by omega), fun q hq => hz_wrT_out (by omega), fun q hq1 hq2 => hfo q hq1 hq2⟩
        intro n hn1 hn2
        have : n = i := by omega
        subst this
        exact hnR
