set_option maxRecDepth 100000 in
def hz_cpT (f g : Nat → Int32) (k : Nat) : Nat → Int32 := fun j => if j < k then f j else g j
set_option maxRecDepth 100000 in
theorem hz_cpT_zero (f g : Nat → Int32) : hz_cpT f g 0 = g := by funext j; unfold hz_cpT; rw [if_neg (by omega)]
set_option maxRecDepth 100000 in
theorem hz_cpT_succ (f g : Nat → Int32) (k : Nat) : upd (hz_cpT f g k) k (f k) = hz_cpT f g (k + 1) := by
  funext j; unfold upd hz_cpT
  by_cases h : j = k
  · subst h; rw [if_pos rfl, if_pos (by omega)]
  · rw [if_neg h]
    by_cases h2 : j < k
    · rw [if_pos h2, if_pos (by omega)]
    · rw [if_neg h2, if_neg (by omega)]
set_option maxRecDepth 100000 in
theorem hz_p_removeAll_12 {t1 t2 t3 t4 : Nat → Int32} {t5 : Int32} {t6 : Bool} : ∀ k n i, 117 = i + k → k < n → f_Table_removeAll_12 n (t1, hz_cpT (fun _ => hz_nI 0) t2 i, t3, t4, t5, t6) (hz_nI i) = some (t1, hz_cpT (fun _ => hz_nI 0) t2 117, t3, t4, t5, t6)
  | 0, n + 1, i, h1, h2 => by
    have : i = 117 := by omega
    subst this
    rw [f_Table_removeAll_12]
    simp (disch := omega) only [hz_nI_lit, hz_nI_add, hz_nI_mul, hz_nI_lt, hz_nI_le, hz_nI_inj, hz_nI_sub, hz_nI_nat, hz_nI_inb, hz_nI_pred, hz_nI_m1_lt, hz_nI_lt_m1, hz_nI_m1_le, hz_nI_le_m1, hz_nI_eq_m1, hz_nI_m1_eq, hz_bI0, if_pos, if_neg, if_true, if_false, Option.bind_some, Prod.eta, reduceCtorEq]
  | k + 1, n + 1, i, h1, h2 => by
    have ih := hz_p_removeAll_12 (t1 := t1) (t2 := t2) (t3 := t3) (t4 := t4) (t5 := t5) (t6 := t6) k n (i + 1) (by omega) (by omega)
    rw [← hz_cpT_succ] at ih
    rw [f_Table_removeAll_12]
    simp (disch := omega) only [hz_nI_lit, hz_nI_add, hz_nI_mul, hz_nI_lt, hz_nI_le, hz_nI_inj, hz_nI_sub, hz_nI_nat, hz_nI_inb, hz_nI_pred, hz_nI_m1_lt, hz_nI_lt_m1, hz_nI_m1_le, hz_nI_le_m1, hz_nI_eq_m1, hz_nI_m1_eq, hz_bI0, if_pos, if_neg, if_true, if_false, Option.bind_some, Prod.eta, reduceCtorEq]
    exact ih
set_option maxRecDepth 100000 in
theorem hz_p_removeAll {t1 t2 t3 t4 : Nat → Int32} {t5 : Int32} {t6 : Bool} : f_Table_removeAll (t1, t2, t3, t4, t5, t6) = some (t1, hz_cpT (fun _ => hz_nI 0) t2 117, t3, t4, hz_nI 0, false) := by
  unfold f_Table_removeAll
  have := hz_p_removeAll_12 (t1 := t1) (t2 := t2) (t3 := t3) (t4 := t4) (t5 := hz_nI 0) (t6 := false) 117 4096 0 (by omega) (by omega)
  rw [hz_cpT_zero] at this
  exact this
set_option maxRecDepth 100000 in
def hz_oRead (tp : Nat → Int32) (L : Nat) (g1 : Int32 × Int32) (r : hz_MR) (C : Option (Bool × SReader × STable)) (M9 : Option (Int32 × SModel)) : Prop :=
  (∃ p q b x tb' b1 nm' ng' fr', p ≤ L ∧ q ≤ L ∧ C = some (false, (tp, hz_nI 0, b, x, hz_nI p), tb') ∧ M9 = f_Model_read_88 (g1, (hz_nI L, tp, b1, hz_nI q), (nm', ng', fr'), r)) ∨
  (∃ b x b1 t1 t2 t3 t4 M gen fr, M ≤ 12 ∧ C = some (true, (tp, hz_nI 0, b, x, -hz_nI 1), (t1, t2, t3, t4, hz_nI M, gen)) ∧ M9 = f_Model_read_88 (g1, (hz_nI L, tp, b1, -hz_nI 1), (hz_nI M, gen, fr), r) ∧ hz_tabR t1 t2 t3 t4 fr M gen)
set_option maxRecDepth 100000 in
theorem hz_p_fillF {n i : Nat} {tp : Nat → Int32} {l b x w : Int32} {tb : STable} : f_Reader_fill_18 (n + 1) (tp, l, b, x, w) tb false (hz_nI i) = some (false, (tp, hz_nI 0, b, x, w), tb) := by
  rw [f_Reader_fill_18]
  split
  · rfl
  · rfl
set_option maxRecDepth 100000 in
theorem hz_q_readF {n q : Nat} {g1 : Int32 × Int32} {l b : Int32} {tp : Nat → Int32} {g3 : hz_M3} {r : hz_MR} (hq : q ≤ 400) : f_Model_read_20 (n + 1) (g1, (l, tp, b, hz_nI q), g3, r) = f_Model_read_88 (g1, (l, tp, b, hz_nI q), g3, r) := by
  rw [f_Model_read_20]
  simp (disch := omega) only [hz_nI_lit, hz_nI_add, hz_nI_mul, hz_nI_lt, hz_nI_le, hz_nI_inj, hz_nI_sub, hz_nI_nat, hz_nI_inb, hz_nI_pred, hz_nI_m1_lt, hz_nI_lt_m1, hz_nI_m1_le, hz_nI_le_m1, hz_nI_eq_m1, hz_nI_m1_eq, hz_bI0, if_pos, if_neg, if_true, if_false, Option.bind_some, Prod.eta, reduceCtorEq]
set_option maxRecDepth 100000 in
theorem hz_p_fill_1 {n a i L : Nat} {tp : Nat → Int32} {x : Int32} {tb : STable} (hL : L ≤ 400) (ha : a ≤ L) (hi : i < 400) : f_Reader_fill_18 (n + 1) (tp, hz_nI L, hz_nI a, x, -hz_nI 1) tb true (hz_nI i) = if hz_hereT tp L (hz_skp tp L a) = -hz_nI 1 then some (true, (tp, hz_nI 0, hz_nI (hz_skp tp L a), x, -hz_nI 1), tb) else Option.bind (f_Reader_readRow (tp, hz_nI L, hz_nI (hz_skp tp L a), x, -hz_nI 1) tb) fun u6 => f_Reader_fill_18 n u6.2.1 u6.2.2 u6.1 (hz_nI (i + 1)) := by
  rw [f_Reader_fill_18, hz_p_peek hL ha]
  simp (disch := omega) only [hz_nI_lit, hz_nI_add, hz_nI_mul, hz_nI_lt, hz_nI_le, hz_nI_inj, hz_nI_sub, hz_nI_nat, hz_nI_inb, hz_nI_pred, hz_nI_m1_lt, hz_nI_lt_m1, hz_nI_m1_le, hz_nI_le_m1, hz_nI_eq_m1, hz_nI_m1_eq, hz_bI0, if_pos, if_neg, if_true, if_false, Option.bind_some, Prod.eta, reduceCtorEq, Bool.true_eq_false]
set_option maxRecDepth 100000 in
theorem hz_q_read_1 {n a L : Nat} {g1 : Int32 × Int32} {tp : Nat → Int32} {g3 : hz_M3} {r : hz_MR} (hL : L ≤ 400) (ha : a ≤ L) : f_Model_read_20 (n + 1) (g1, (hz_nI L, tp, hz_nI a, -hz_nI 1), g3, r) = if hz_hereT tp L (hz_skp tp L a) < hz_nI 0 then f_Model_read_88 (g1, (hz_nI L, tp, hz_nI (hz_skp tp L a), -hz_nI 1), g3, r) else if hz_hereT tp L (hz_skp tp L a) = hz_nI 109 then Option.bind (f_Model_materialRow (g1, (hz_nI L, tp, hz_nI (hz_skp tp L a + 1), -hz_nI 1), g3, r)) fun u => f_Model_read_20 n u else if hz_hereT tp L (hz_skp tp L a) = hz_nI 122 then Option.bind (f_Model_generalRow (g1, (hz_nI L, tp, hz_nI (hz_skp tp L a + 1), -hz_nI 1), g3, r)) fun u => f_Model_read_20 n u else Option.bind (f_Model_fail (g1, (hz_nI L, tp, hz_nI (hz_skp tp L a + 1), -hz_nI 1), g3, r) (hz_nI (hz_skp tp L a))) fun u => f_Model_read_20 n u := by
  have hs := hz_skp_bd (tp := tp) ha
  rw [f_Model_read_20, hz_q_see hL ha]
  simp (disch := omega) only [hz_nI_lit, hz_nI_add, hz_nI_mul, hz_nI_lt, hz_nI_le, hz_nI_inj, hz_nI_sub, hz_nI_nat, hz_nI_inb, hz_nI_pred, hz_nI_m1_lt, hz_nI_lt_m1, hz_nI_m1_le, hz_nI_le_m1, hz_nI_eq_m1, hz_nI_m1_eq, hz_bI0, if_pos, if_neg, if_true, if_false, Option.bind_some, Prod.eta, reduceCtorEq, hz_q_here hL hs.2, Nat.add_sub_cancel]
set_option maxRecDepth 100000 in
theorem hz_pq_fill {tp : Nat → Int32} {L : Nat} {g1 : Int32 × Int32} {r : hz_MR} (hL : L ≤ 400) (h8 : ∀ i, ∃ d, d ≤ 255 ∧ tp i = hz_nI d) : ∀ k n1 n2 a i x t1 t2 t3 t4 M gen fr, L - a ≤ k → i ≤ a → a ≤ L → k + 1 < n1 → k + 1 < n2 → M ≤ 12 → hz_tabR t1 t2 t3 t4 fr M gen → hz_zerR t2 M →
    hz_oRead tp L g1 r (f_Reader_fill_18 n1 (tp, hz_nI L, hz_nI a, x, -hz_nI 1) (t1, t2, t3, t4, hz_nI M, gen) true (hz_nI i)) (f_Model_read_20 n2 (g1, (hz_nI L, tp, hz_nI a, -hz_nI 1), (hz_nI M, gen, fr), r)) := by
  intro k
  induction k with
  | zero =>
    intro n1 n2 a i x t1 t2 t3 t4 M gen fr h1 h2 h3 h4 h5 h6 h7 h9
    obtain ⟨n1, rfl⟩ : ∃ n', n1 = n' + 1 := ⟨n1 - 1, by omega⟩
    obtain ⟨n2, rfl⟩ : ∃ n', n2 = n' + 1 := ⟨n2 - 1, by omega⟩
    have hs := hz_skp_bd (tp := tp) h3
    have hsa : hz_skp tp L a = a := by omega
    have hh : hz_hereT tp L a = -hz_nI 1 := by unfold hz_hereT; rw [if_neg (by omega)]; rfl
    rw [hz_q_read_1 hL h3, hsa, hh, if_pos (show -hz_nI 1 < hz_nI 0 by decide)]
    by_cases c4 : i < 400
    · rw [hz_p_fill_1 hL h3 c4, hsa, hh, if_pos rfl]
      exact Or.inr ⟨_, _, _, _, _, _, _, _, _, _, h6, rfl, rfl, h7⟩
    · rw [f_Reader_fill_18]
      simp (disch := omega) only [hz_nI_lit, hz_nI_add, hz_nI_mul, hz_nI_lt, hz_nI_le, hz_nI_inj, hz_nI_sub, hz_nI_nat, hz_nI_inb, hz_nI_pred, hz_nI_m1_lt, hz_nI_lt_m1, hz_nI_m1_le, hz_nI_le_m1, hz_nI_eq_m1, hz_nI_m1_eq, hz_bI0, if_pos, if_neg, if_true, if_false, Option.bind_some, Prod.eta, reduceCtorEq]
      exact Or.inr ⟨_, _, _, _, _, _, _, _, _, _, h6, rfl, rfl, h7⟩
  | succ k ih =>
    intro n1 n2 a i x t1 t2 t3 t4 M gen fr h1 h2 h3 h4 h5 h6 h7 h9
    obtain ⟨n1, rfl⟩ : ∃ n', n1 = n' + 1 := ⟨n1 - 1, by omega⟩
    obtain ⟨n2, rfl⟩ : ∃ n', n2 = n' + 1 := ⟨n2 - 1, by omega⟩
    have hs := hz_skp_bd (tp := tp) h3
    by_cases cL : a = L
    · exact ih (n1 + 1) (n2 + 1) a i x t1 t2 t3 t4 M gen fr (by omega) h2 h3 (by omega) (by omega) h6 h7 h9
    · rw [hz_q_read_1 hL h3, hz_p_fill_1 hL h3 (by omega)]
      by_cases c1 : hz_skp tp L a = L
      · have hh : hz_hereT tp L (hz_skp tp L a) = -hz_nI 1 := by unfold hz_hereT; rw [if_neg (by omega)]; rfl
        rw [hh, if_pos rfl, if_pos (show -hz_nI 1 < hz_nI 0 by decide)]
        exact Or.inr ⟨_, _, _, _, _, _, _, _, _, _, h6, rfl, rfl, h7⟩
      · have hlt : hz_skp tp L a < L := by omega
        obtain ⟨d, hd1, hd2⟩ := h8 (hz_skp tp L a)
        have hh : hz_hereT tp L (hz_skp tp L a) = hz_nI d := by unfold hz_hereT; rw [if_pos hlt]; exact hd2
        have hne : hz_hereT tp L (hz_skp tp L a) ≠ -hz_nI 1 := by rw [hh, ne_eq, hz_nI_eq_m1 (by omega)]; exact id
        have hnl : ¬ hz_hereT tp L (hz_skp tp L a) < hz_nI 0 := by rw [hh, hz_nI_lt (by omega) (by omega)]; omega
        rw [if_neg hne, if_neg hnl, hz_readRow_eq, hz_p_peek hL hs.2, hz_skp_skp, Option.bind_some]
        have fin : ∀ {C M9}, hz_oRow tp L g1 r (hz_skp tp L a) C M9 → hz_oRead tp L g1 r (Option.bind C fun u6 => f_Reader_fill_18 n1 u6.2.1 u6.2.2 u6.1 (hz_nI (i + 1))) (Option.bind M9 fun u => f_Model_read_20 n2 u) := by
          intro C M9 ho
          obtain ⟨n1, rfl⟩ : ∃ n', n1 = n' + 1 := ⟨n1 - 1, by omega⟩
          obtain ⟨n2, rfl⟩ : ∃ n', n2 = n' + 1 := ⟨n2 - 1, by omega⟩
          rcases ho with ⟨p, q, b, y, tb', b1, nm', ng', fr', k1, k2, k3, k4⟩ | ⟨b, y, t1', t2', t3', t4', M', gen', fr', k1, k2, k3, k4, k5, k6, k7⟩
          · rw [k3, k4, Option.bind_some, Option.bind_some]
            rw [hz_q_readF (show q ≤ 400 by omega)]
            refine Or.inl ⟨p, q, b, y, tb', b1, nm', ng', fr', k1, k2, hz_p_fillF, rfl⟩
          · rw [k4, k5, Option.bind_some, Option.bind_some]
            exact ih (n1 + 1) (n2 + 1) b (i + 1) y t1' t2' t3' t4' M' gen' fr' (by omega) (by omega) k2 (by omega) (by omega) k3 k6 k7
        by_cases c109 : hz_hereT tp L (hz_skp tp L a) = hz_nI 109
        · rw [if_pos c109, if_pos (show hz_hereT tp L (hz_skp tp L a) = 109 from c109)]
          exact fin (hz_pq_mat hL hlt h6 h7 h9)
        · by_cases c122 : hz_hereT tp L (hz_skp tp L a) = hz_nI 122
          · rw [if_neg c109, if_pos c122, if_neg (show ¬ hz_hereT tp L (hz_skp tp L a) = 109 from c109), if_pos (show hz_hereT tp L (hz_skp tp L a) = 122 from c122)]
            exact fin (hz_pq_gen hL hlt h6 h7 h9)
          · rw [if_neg c109, if_neg c122, if_neg (show ¬ hz_hereT tp L (hz_skp tp L a) = 109 from c109), if_neg (show ¬ hz_hereT tp L (hz_skp tp L a) = 122 from c122)]
            exact fin (Or.inl ⟨hz_skp tp L a, hz_skp tp L a, _, _, _, _, _, _, _, hs.2, hs.2, rfl, hz_q_fail⟩)
set_option maxRecDepth 100000 in
theorem hz_q_read_126 {g1 : Int32 × Int32} {g2 : Int32 × (Nat → Int32) × Int32 × Int32} {nm m0 : Int32} {ng ge0 : Bool} {fr row : Nat → Int32} {p0 nx sd : Int32} {pt am ix wd tbl : Nat → Int32} {r6 : Int32 × Int32 × Bool} {r7 : Int32 × (Nat → Int32) × (Nat → Int32) × (Nat → Int32) × Int32 × (Nat → Int32)} {r8 : Nat → Int32} : ∀ k n i, 559 = i + k → k < n →
    f_Model_read_126 n (g1, g2, (nm, ng, fr), (m0, ge0, hz_cpT fr row i), (p0, pt, am, ix, nx), r6, r7, r8, (sd, wd, tbl)) (hz_nI i) = some (nm, ((hz_nI 0, g1.2), g2, (nm, ng, fr), (nm, ng, hz_cpT fr row 559), (hz_nI 0, pt, am, ix, hz_nI 1), r6, r7, r8, (hz_nI 0, wd, tbl)))
  | 0, n + 1, i, h1, h2 => by
    have : i = 559 := by omega
    subst this
    rw [f_Model_read_126]
    unfold f_Model_clear
    simp (disch := omega) only [hz_nI_lit, hz_nI_add, hz_nI_mul, hz_nI_lt, hz_nI_le, hz_nI_inj, hz_nI_sub, hz_nI_nat, hz_nI_inb, hz_nI_pred, hz_nI_m1_lt, hz_nI_lt_m1, hz_nI_m1_le, hz_nI_le_m1, hz_nI_eq_m1, hz_nI_m1_eq, hz_bI0, if_pos, if_neg, if_true, if_false, Option.bind_some, Prod.eta, reduceCtorEq]
  | k + 1, n + 1, i, h1, h2 => by
    have ih := hz_q_read_126 (g1 := g1) (g2 := g2) (nm := nm) (m0 := m0) (ng := ng) (ge0 := ge0) (fr := fr) (row := row) (p0 := p0) (nx := nx) (sd := sd) (pt := pt) (am := am) (ix := ix) (wd := wd) (tbl := tbl) (r6 := r6) (r7 := r7) (r8 := r8) k n (i + 1) (by omega) (by omega)
    rw [← hz_cpT_succ] at ih
    rw [f_Model_read_126]
    simp (disch := omega) only [hz_nI_lit, hz_nI_add, hz_nI_mul, hz_nI_lt, hz_nI_le, hz_nI_inj, hz_nI_sub, hz_nI_nat, hz_nI_inb, hz_nI_pred, hz_nI_m1_lt, hz_nI_lt_m1, hz_nI_m1_le, hz_nI_le_m1, hz_nI_eq_m1, hz_nI_m1_eq, hz_bI0, if_pos, if_neg, if_true, if_false, Option.bind_some, Prod.eta, reduceCtorEq]
    exact ih
