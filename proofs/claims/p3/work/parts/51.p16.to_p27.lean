set_option maxRecDepth 100000 in
def hz_cpT (f g : Nat → Int32) (k : Nat) : Nat → Int32 := fun j => if j < k then f j else g j
set_option maxRecDepth 100000 in
theorem hz_cpT_zero (f g : Nat → Int32) : hz_cpT f g 0 = g := by funext j; unfold hz_cpT; rw [if_neg (by omega)]
set_option maxRecDepth 100000 in
theorem hz_cpT_succ (f g : Nat → Int32) (k : Nat) : upd (hz_cpT f g k) k (f k) = hz_cpT f g (k + 1) := by
  funext j; unfold upd hz_cpT
  by_cases h : j = k
  · subst h; rw [if_pos rfl, if_pos (by omega)]
  · rw [if_neg h]
    by_cases h2 : j < k
    · rw [if_pos h2, if_pos (by omega)]
    · rw [if_neg h2, if_neg (by omega)]
set_option maxRecDepth 100000 in
theorem hz_p_removeAll_12 {t1 t2 t3 t4 : Nat → Int32} {t5 : Int32} {t6 : Bool} : ∀ k n i, 117 = i + k → k < n → f_Table_removeAll_12 n (t1, hz_cpT (fun _ => hz_nI 0) t2 i, t3, t4, t5, t6) (hz_nI i) = some (t1, hz_cpT (fun _ => hz_nI 0) t2 117, t3, t4, t5, t6)
  | 0, n + 1, i, h1, h2 => by
    have : i = 117 := by omega
    subst this
    rw [f_Table_removeAll_12]
    simp (disch := omega) only [hz_nI_lit, hz_nI_add, hz_nI_mul, hz_nI_lt, hz_nI_le, hz_nI_inj, hz_nI_sub, hz_nI_nat, hz_nI_inb, hz_nI_pred, hz_nI_m1_lt, hz_nI_lt_m1, hz_nI_m1_le, hz_nI_le_m1, hz_nI_eq_m1, hz_nI_m1_eq, hz_bI0, if_pos, if_neg, if_true, if_false, Option.bind_some, Prod.eta, reduceCtorEq]
  | k + 1, n + 1, i, h1, h2 => by
    have ih := hz_p_removeAll_12 (t1 := t1) (t2 := t2) (t3 := t3) (t4 := t4) (t5 := t5) (t6 := t6) k n (i + 1) (by omega) (by omega)
    rw [← hz_cpT_succ] at ih
    rw [f_Table_removeAll_12]
    simp (disch := omega) only [hz_nI_lit, hz_nI_add, hz_nI_mul, hz_nI_lt, hz_nI_le, hz_nI_inj, hz_nI_sub, hz_nI_nat, hz_nI_inb, hz_nI_pred, hz_nI_m1_lt, hz_nI_lt_m1, hz_nI_m1_le, hz_nI_le_m1, hz_nI_eq_m1, hz_nI_m1_eq, hz_bI0, if_pos, if_neg, if_true, if_false, Option.bind_some, Prod.eta, reduceCtorEq]
    exact ih
set_option maxRecDepth 100000 in
theorem hz_p_removeAll {t1 t2 t3 t4 : Nat → Int32} {t5 : Int32} {t6 : Bool} : f_Table_removeAll (t1, t2, t3, t4, t5, t6) = some (t1, hz_cpT (fun _ => hz_nI 0) t2 117, t3, t4, hz_nI 0, false) := by
  unfold f_Table_removeAll
  have := hz_p_removeAll_12 (t1 := t1) (t2 := t2) (t3 := t3) (t4 := t4) (t5 := hz_nI 0) (t6 := false) 117 4096 0 (by omega) (by omega)
  rw [hz_cpT_zero] at this
  exact this
set_option maxRecDepth 100000 in
def hz_oRead (tp : Nat → Int32) (L : Nat) (g1 : Int32 × Int32) (r : hz_MR) (C : Option (Bool × SReader × STable)) (M9 : Option (Int32 × SModel)) : Prop :=
  (∃ p q b x tb' b1 nm' ng' fr', p ≤ L ∧ q ≤ L ∧ C = some (false, (tp, hz_nI 0, b, x, hz_nI p), tb') ∧ M9 = f_Model_read_88 (g1, (hz_nI L, tp, b1, hz_nI q), (nm', ng', fr'), r)) ∨
  (∃ b x b1 t1 t2 t3 t4 M gen fr, M ≤ 12 ∧ C = some (true, (tp, hz_nI 0, b, x, -hz_nI 1), (t1, t2, t3, t4, hz_nI M, gen)) ∧ M9 = f_Model_read_88 (g1, (hz_nI L, tp, b1, -hz_nI 1), (hz_nI M, gen, fr), r) ∧ hz_tabR t1 t2 t3 t4 fr M gen)
set_option maxRecDepth 100000 in
theorem hz_p_fillF {n i : Nat} {tp : Nat → Int32} {l b x w : Int32} {tb : STable} : f_Reader_fill_18 (n + 1) (tp, l, b, x, w) tb false (hz_nI i) = some (false, (tp, hz_nI 0, b, x, w), tb) := by
  rw [f_Reader_fill_18]
  split
  · rfl
  · rfl
set_option maxRecDepth 100000 in
theorem hz_q_readF {n q : Nat} {g1 : Int32 × Int32} {l b : Int32} {tp : Nat → Int32} {g3 : hz_M3} {r : hz_MR} (hq : q ≤ 400) : f_Model_read_20 (n + 1) (g1, (l, tp, b, hz_nI q), g3, r) = f_Model_read_88 (g1, (l, tp, b, hz_nI q), g3, r) := by
  rw [f_Model_read_20]
  simp (disch := omega) only [hz_nI_lit, hz_nI_add, hz_nI_mul, hz_nI_lt, hz_nI_le, hz_nI_inj, hz_nI_sub, hz_nI_nat, hz_nI_inb, hz_nI_pred, hz_nI_m1_lt, hz_nI_lt_m1, hz_nI_m1_le, hz_nI_le_m1, hz_nI_eq_m1, hz_nI_m1_eq, hz_bI0, if_pos, if_neg, if_true, if_false, Option.bind_some, Prod.eta, reduceCtorEq]
set_option maxRecDepth 100000 in
theorem hz_p_fill_1 {n a i L : Nat} {tp : Nat → Int32} {x : Int32} {tb : STable} (hL : L ≤ 400) (ha : a ≤ L) (hi : i < 400) : f_Reader_fill_18 (n + 1) (tp, hz_nI L, hz_nI a, x, -hz_nI 1) tb true (hz_nI i) = if hz_hereT tp L (hz_skp tp L a) = -hz_nI 1 then some (true, (tp, hz_nI 0, hz_nI (hz_skp tp L a), x, -hz_nI 1), tb) else Option.bind (f_Reader_readRow (tp, hz_nI L, hz_nI (hz_skp tp L a), x, -hz_nI 1) tb) fun u6 => f_Reader_fill_18 n u6.2.1 u6.2.2 u6.1 (hz_nI (i + 1)) := by
  rw [f_Reader_fill_18, hz_p_peek hL ha]
  simp (disch := omega) only [hz_nI_lit, hz_nI_add, hz_nI_mul, hz_nI_lt, hz_nI_le, hz_nI_inj, hz_nI_sub, hz_nI_nat, hz_nI_inb, hz_nI_pred, hz_nI_m1_lt, hz_nI_lt_m1, hz_nI_m1_le, hz_nI_le_m1, hz_nI_eq_m1, hz_nI_m1_eq, hz_bI0, if_pos, if_neg, if_true, if_false, Option.bind_some, Prod.eta, reduceCtorEq, Bool.true_eq_false]
set_option maxRecDepth 100000 in
theorem hz_q_read_1 {n a L : Nat} {g1 : Int32 × Int32} {tp : Nat → Int32} {g3 : hz_M3} {r : hz_MR} (hL : L ≤ 400) (ha : a ≤ L) : f_Model_read_20 (n + 1) (g1, (hz_nI L, tp, hz_nI a, -hz_nI 1), g3, r) = if hz_hereT tp L (hz_skp tp L a) < hz_nI 0 then f_Model_read_88 (g1, (hz_nI L, tp, hz_nI (hz_skp tp L a), -hz_nI 1), g3, r) else if hz_hereT tp L (hz_skp tp L a) = hz_nI 109 then Option.bind (f_Model_materialRow (g1, (hz_nI L, tp, hz_nI (hz_skp tp L a + 1), -hz_nI 1), g3, r)) fun u => f_Model_read_20 n u else if hz_hereT tp L (hz_skp tp L a) = hz_nI 122 then Option.bind (f_Model_generalRow (g1, (hz_nI L, tp, hz_nI (hz_skp tp L a + 1), -hz_nI 1), g3, r)) fun u => f_Model_read_20 n u else Option.bind (f_Model_fail (g1, (hz_nI L, tp, hz_nI (hz_skp tp L a + 1), -hz_nI 1), g3, r) (hz_nI (hz_skp tp L a))) fun u => f_Model_read_20 n u := by
  have hs := hz_skp_bd (tp := tp) ha
  rw [f_Model_read_20, hz_q_see hL ha]
  simp (disch := omega) only [hz_nI_lit, hz_nI_add, hz_nI_mul, hz_nI_lt, hz_nI_le, hz_nI_inj, hz_nI_sub, hz_nI_nat, hz_nI_inb, hz_nI_pred, hz_nI_m1_lt, hz_nI_lt_m1, hz_nI_m1_le, hz_nI_le_m1, hz_nI_eq_m1, hz_nI_m1_eq, hz_bI0, if_pos, if_neg, if_true, if_false, Option.bind_some, Prod.eta, reduceCtorEq, hz_q_here hL hs.2, Nat.add_sub_cancel]
set_option maxRecDepth 100000 in
theorem hz_pq_fill {tp : Nat → Int32} {L : Nat} {g1 : Int32 × Int32} {r : hz_MR} (hL : L ≤ 400) (h8 : ∀ i, ∃ d, d ≤ 255 ∧ tp i = hz_nI d) : ∀ k n1 n2 a i x t1 t2 t3 t4 M gen fr, L - a ≤ k → i ≤ a → a ≤ L → k + 1 < n1 → k + 1 < n2 → M ≤ 12 → hz_tabR t1 t2 t3 t4 fr M gen → hz_zerR t2 M →
    hz_oRead tp L g1 r (f_Reader_fill_18 n1 (tp, hz_nI L, hz_nI a, x, -hz_nI 1) (t1, t2, t3, t4, hz_nI M, gen) true (hz_nI i)) (f_Model_read_20 n2 (g1, (hz_nI L, tp, hz_nI a, -hz_nI 1), (hz_nI M, gen, fr), r)) := by
  intro k
  induction k with
  | zero =>
    intro n1 n2 a i x t1 t2 t3 t4 M gen fr h1 h2 h3 h4 h5 h6 h7 h9
    obtain ⟨n1, rfl⟩ : ∃ n', n1 = n' + 1 := ⟨n1 - 1, by omega⟩
    obtain ⟨n2, rfl⟩ : ∃ n', n2 = n' + 1 := ⟨n2 - 1, by omega⟩
    have hs := hz_skp_bd (tp := tp) h3
    have hsa : hz_skp tp L a = a := by omega
    have hh : hz_hereT tp L a = -hz_nI 1 := by unfold hz_hereT; rw [if_neg (by omega)]; rfl
    rw [hz_q_read_1 hL h3, hsa, hh, if_pos (show -hz_nI 1 < hz_nI 0 by decide)]
    by_cases c4 : i < 400
    · rw [hz_p_fill_1 hL h3 c4, hsa, hh, if_pos rfl]
      exact Or.inr ⟨_, _, _, _, _, _, _, _, _, _, h6, rfl, rfl, h7⟩
    · rw [f_Reader_fill_18]
      simp (disch := omega) only [hz_nI_lit, hz_nI_add, hz_nI_mul, hz_nI_lt, hz_nI_le, hz_nI_inj, hz_nI_sub, hz_nI_nat, hz_nI_inb, hz_nI_pred, hz_nI_m1_lt, hz_nI_lt_m1, hz_nI_m1_le, hz_nI_le_m1, hz_nI_eq_m1, hz_nI_m1_eq, hz_bI0, if_pos, if_neg, if_true, if_false, Option.bind_some, Prod.eta, reduceCtorEq]
      exact Or.inr ⟨_, _, _, _, _, _, _, _, _, _, h6, rfl, rfl, h7⟩
  | succ k ih =>
    intro n1 n2 a i x t1 t2 t3 t4 M gen fr h1 h2 h3 h4 h5 h6 h7 h9
    obtain ⟨n1, rfl⟩ : ∃ n', n1 = n' + 1 := ⟨n1 - 1, by omega⟩
    obtain ⟨n2, rfl⟩ : ∃ n', n2 = n' + 1 := ⟨n2 - 1, by omega⟩
    have hs := hz_skp_bd (tp := tp) h3
    by_cases cL : a = L
    · exact ih (n1 + 1) (n2 + 1) a i x t1 t2 t3 t4 M gen fr (by omega) h2 h3 (by omega) (by omega) h6 h7 h9
    · rw [hz_q_read_1 hL h3, hz_p_fill_1 hL h3 (by omega)]
      by_cases c1 : hz_skp tp L a = L
      · have hh : hz_hereT tp L (hz_skp tp L a) = -hz_nI 1 := by unfold hz_hereT; rw [if_neg (by omega)]; rfl
        rw [hh, if_pos rfl, if_pos (show -hz_nI 1 < hz_nI 0 by decide)]
        exact Or.inr ⟨_, _, _, _, _, _, _, _, _, _, h6, rfl, rfl, h7⟩
      · have hlt : hz_skp tp L a < L := by omega
        obtain ⟨d, hd1, hd2⟩ := h8 (hz_skp tp L a)
        have hh : hz_hereT tp L (hz_skp tp L a) = hz_nI d := by unfold hz_hereT; rw [if_pos hlt]; exact hd2
        have hne : hz_hereT tp L (hz_skp tp L a) ≠ -hz_nI 1 := by rw [hh, ne_eq, hz_nI_eq_m1 (by omega)]; exact id
        have hnl : ¬ hz_hereT tp L (hz_skp tp L a) < hz_nI 0 := by rw [hh, hz_nI_lt (by omega) (by omega)]; omega
        rw [if_neg hne, if_neg hnl, hz_readRow_eq, hz_p_peek hL hs.2, hz_skp_skp, Option.bind_some]
        have fin : ∀ {C M9}, hz_oRow tp L g1 r (hz_skp tp L a) C M9 → hz_oRead tp L g1 r (Option.bind C fun u6 => f_Reader_fill_18 n1 u6.2.1 u6.2.2 u6.1 (hz_nI (i + 1))) (Option.bind M9 fun u => f_Model_read_20 n2 u) := by
          intro C M9 ho
          obtain ⟨n1, rfl⟩ : ∃ n', n1 = n' + 1 := ⟨n1 - 1, by omega⟩
          obtain ⟨n2, rfl⟩ : ∃ n', n2 = n' + 1 := ⟨n2 - 1, by omega⟩
          rcases ho with ⟨p, q, b, y, tb', b1, nm', ng', fr', k1, k2, k3, k4⟩ | ⟨b, y, t1', t2', t3', t4', M', gen', fr', k1, k2, k3, k4, k5, k6, k7⟩
          · rw [k3, k4, Option.bind_some, Option.bind_some]
            rw [hz_q_readF (show q ≤ 400 by omega)]
            refine Or.inl ⟨p, q, b, y, tb', b1, nm', ng', fr', k1, k2, hz_p_fillF, rfl⟩
          · rw [k4, k5, Option.bind_some, Option.bind_some]
            exact ih (n1 + 1) (n2 + 1) b (i + 1) y t1' t2' t3' t4' M' gen' fr' (by omega) (by omega) k2 (by omega) (by omega) k3 k6 k7
        by_cases c109 : hz_hereT tp L (hz_skp tp L a) = hz_nI 109
        · rw [if_pos c109, if_pos (show hz_hereT tp L (hz_skp tp L a) = 109 from c109)]
          exact fin (hz_pq_mat hL hlt h6 h7 h9)
        · by_cases c122 : hz_hereT tp L (hz_skp tp L a) = hz_nI 122
          · rw [if_neg c109, if_pos c122, if_neg (show ¬ hz_hereT tp L (hz_skp tp L a) = 109 from c109), if_pos (show hz_hereT tp L (hz_skp tp L a) = 122 from c122)]
            exact fin (hz_pq_gen hL hlt h6 h7 h9)
          · rw [if_neg c109, if_neg c122, if_neg (show ¬ hz_hereT tp L (hz_skp tp L a) = 109 from c109), if_neg (show ¬ hz_hereT tp L (hz_skp tp L a) = 122 from c122)]
            exact fin (Or.inl ⟨hz_skp tp L a, hz_skp tp L a, _, _, _, _, _, _, _, hs.2, hs.2, rfl, hz_q_fail⟩)
set_option maxRecDepth 100000 in
theorem hz_q_read_126 {g1 : Int32 × Int32} {g2 : Int32 × (Nat → Int32) × Int32 × Int32} {nm m0 : Int32} {ng ge0 : Bool} {fr row : Nat → Int32} {p0 nx sd : Int32} {pt am ix wd tbl : Nat → Int32} {r6 : Int32 × Int32 × Bool} {r7 : Int32 × (Nat → Int32) × (Nat → Int32) × (Nat → Int32) × Int32 × (Nat → Int32)} {r8 : Nat → Int32} : ∀ k n i, 559 = i + k → k < n →
    f_Model_read_126 n (g1, g2, (nm, ng, fr), (m0, ge0, hz_cpT fr row i), (p0, pt, am, ix, nx), r6, r7, r8, (sd, wd, tbl)) (hz_nI i) = some (nm, ((hz_nI 0, g1.2), g2, (nm, ng, fr), (nm, ng, hz_cpT fr row 559), (hz_nI 0, pt, am, ix, hz_nI 1), r6, r7, r8, (hz_nI 0, wd, tbl)))
  | 0, n + 1, i, h1, h2 => by
    have : i = 559 := by omega
    subst this
    rw [f_Model_read_126]
    unfold f_Model_clear
    simp (disch := omega) only [hz_nI_lit, hz_nI_add, hz_nI_mul, hz_nI_lt, hz_nI_le, hz_nI_inj, hz_nI_sub, hz_nI_nat, hz_nI_inb, hz_nI_pred, hz_nI_m1_lt, hz_nI_lt_m1, hz_nI_m1_le, hz_nI_le_m1, hz_nI_eq_m1, hz_nI_m1_eq, hz_bI0, if_pos, if_neg, if_true, if_false, Option.bind_some, Prod.eta, reduceCtorEq]
  | k + 1, n + 1, i, h1, h2 => by
    have ih := hz_q_read_126 (g1 := g1) (g2 := g2) (nm := nm) (m0 := m0) (ng := ng) (ge0 := ge0) (fr := fr) (row := row) (p0 := p0) (nx := nx) (sd := sd) (pt := pt) (am := am) (ix := ix) (wd := wd) (tbl := tbl) (r6 := r6) (r7 := r7) (r8 := r8) k n (i + 1) (by omega) (by omega)
    rw [← hz_cpT_succ] at ih
    rw [f_Model_read_126]
    simp (disch := omega) only [hz_nI_lit, hz_nI_add, hz_nI_mul, hz_nI_lt, hz_nI_le, hz_nI_inj, hz_nI_sub, hz_nI_nat, hz_nI_inb, hz_nI_pred, hz_nI_m1_lt, hz_nI_lt_m1, hz_nI_m1_le, hz_nI_le_m1, hz_nI_eq_m1, hz_nI_m1_eq, hz_bI0, if_pos, if_neg, if_true, if_false, Option.bind_some, Prod.eta, reduceCtorEq]
    exact ih
set_option maxRecDepth 100000 in
theorem hz_bI_t : bI true = hz_nI 1 := rfl
set_option maxRecDepth 100000 in
theorem hz_bI_f : bI false = hz_nI 0 := rfl
set_option maxRecDepth 100000 in
def hz_prtR (t2 row mr ix : Nat → Int32) (P : Nat) : Prop := ∀ i, i < P → ∃ c k, c ≤ 12 ∧ k ≤ 12 ∧ mr i = hz_nI c ∧ ix i = hz_nI k ∧ hz_cellsR t2 row c (k * 43)
set_option maxRecDepth 100000 in
def hz_pD (row ix : Nat → Int32) (i j : Nat) : Int32 := row ((ix i).toNatClampNeg * 43 + 1 + j)
set_option maxRecDepth 100000 in
theorem hz_pD_eq {row ix : Nat → Int32} {i j k : Nat} (h : ix i = hz_nI k) (hk : k ≤ 12) : hz_pD row ix i j = row (k * 43 + 1 + j) := by
  unfold hz_pD; rw [h, hz_nI_nat (by omega)]
set_option maxRecDepth 100000 in
theorem hz_p_cell {t1 t2 t3 t4 : Nat → Int32} {t5 : Int32} {t6 : Bool} {c j : Nat} (hc : c ≤ 12) (hj : j < 9) : f_Table_cell (t1, t2, t3, t4, t5, t6) (hz_nI c) (hz_nI j) = some (t2 (c * 9 + j)) := by
  unfold f_Table_cell
  simp (disch := omega) only [hz_nI_lit, hz_nI_add, hz_nI_mul, hz_nI_lt, hz_nI_le, hz_nI_inj, hz_nI_sub, hz_nI_nat, hz_nI_inb, hz_nI_pred, hz_nI_m1_lt, hz_nI_lt_m1, hz_nI_m1_le, hz_nI_le_m1, hz_nI_eq_m1, hz_nI_m1_eq, hz_bI0, if_pos, if_neg, if_true, if_false, Option.bind_some, Prod.eta, reduceCtorEq]
set_option maxRecDepth 100000 in
theorem hz_p_row {mn mr ml : Nat → Int32} {sz nx : Int32} {i : Nat} (hi : i < 8) : f_Mixture_row (mn, mr, ml, sz, nx) (hz_nI i) = some (mr i) := by
  unfold f_Mixture_row
  simp (disch := omega) only [hz_nI_lit, hz_nI_add, hz_nI_mul, hz_nI_lt, hz_nI_le, hz_nI_inj, hz_nI_sub, hz_nI_nat, hz_nI_inb, hz_nI_pred, hz_nI_m1_lt, hz_nI_lt_m1, hz_nI_m1_le, hz_nI_le_m1, hz_nI_eq_m1, hz_nI_m1_eq, hz_bI0, if_pos, if_neg, if_true, if_false, Option.bind_some, Prod.eta, reduceCtorEq]
set_option maxRecDepth 100000 in
theorem hz_p_pcell {t1 t2 t3 t4 row mr ix : Nat → Int32} {t5 : Int32} {t6 : Bool} {P i j : Nat} (hR : hz_prtR t2 row mr ix P) (hi : i < P) (hj : j < 9) : f_Table_cell (t1, t2, t3, t4, t5, t6) (mr i) (hz_nI j) = some (hz_pD row ix i j) := by
  obtain ⟨c, k, h1, h2, h3, h4, h5⟩ := hR i hi
  rw [h3, hz_p_cell h1 hj, hz_pD_eq h4 h2, h5.1 j hj]
set_option maxRecDepth 100000 in
def hz_maxT (f : Nat → Int32) : Nat → Nat → Int32 → Int32
  | 0, i, b => b
  | n + 1, i, b => hz_maxT f n (i + 1) (if b < f i then f i else b)
set_option maxRecDepth 100000 in
def hz_orT (f : Nat → Int32) : Nat → Nat → Int32 → Int32
  | 0, i, b => b
  | n + 1, i, b => hz_orT f n (i + 1) (b ||| f i)
set_option maxRecDepth 100000 in
theorem hz_p_strict_4 {mn mr ml t1 t2 t3 t4 row ix : Nat → Int32} {nx t5 : Int32} {t6 : Bool} {P : Nat} (hP : P ≤ 8) (hR : hz_prtR t2 row mr ix P) : ∀ k n i b, P = i + k → k < n → f_Mixture_strictness_4 n (mn, mr, ml, hz_nI P, nx) (t1, t2, t3, t4, t5, t6) b (hz_nI i) = some (hz_maxT (fun i => hz_pD row ix i 1) k i b)
  | 0, n + 1, i, b, h1, h2 => by
    rw [f_Mixture_strictness_4]
    simp (disch := omega) only [hz_nI_lit, hz_nI_add, hz_nI_mul, hz_nI_lt, hz_nI_le, hz_nI_inj, hz_nI_sub, hz_nI_nat, hz_nI_inb, hz_nI_pred, hz_nI_m1_lt, hz_nI_lt_m1, hz_nI_m1_le, hz_nI_le_m1, hz_nI_eq_m1, hz_nI_m1_eq, hz_bI0, if_pos, if_neg, if_true, if_false, Option.bind_some, Prod.eta, reduceCtorEq, hz_maxT]
  | k + 1, n + 1, i, b, h1, h2 => by
    have ih := fun b => hz_p_strict_4 (mn := mn) (ml := ml) (nx := nx) (t1 := t1) (t3 := t3) (t4 := t4) (t5 := t5) (t6 := t6) hP hR k n (i + 1) b (by omega) (by omega)
    have e := hz_p_pcell (t1 := t1) (t3 := t3) (t4 := t4) (t5 := t5) (t6 := t6) hR (show i < P by omega) (show 1 < 9 by omega)
    rw [f_Mixture_strictness_4, hz_p_row (show i < 8 by omega), Option.bind_some]
    simp (disch := omega) only [hz_nI_lit, hz_nI_add, hz_nI_mul, hz_nI_lt, hz_nI_le, hz_nI_inj, hz_nI_sub, hz_nI_nat, hz_nI_inb, hz_nI_pred, hz_nI_m1_lt, hz_nI_lt_m1, hz_nI_m1_le, hz_nI_le_m1, hz_nI_eq_m1, hz_nI_m1_eq, hz_bI0, if_pos, if_neg, if_true, if_false, Option.bind_some, Prod.eta, reduceCtorEq, e]
    exact ih _
set_option maxRecDepth 100000 in
theorem hz_p_strict {mn mr ml t1 t2 t3 t4 row ix : Nat → Int32} {nx t5 : Int32} {t6 : Bool} {P : Nat} (hP : P ≤ 8) (hR : hz_prtR t2 row mr ix P) : f_Mixture_strictness (mn, mr, ml, hz_nI P, nx) (t1, t2, t3, t4, t5, t6) = some (hz_maxT (fun i => hz_pD row ix i 1) P 0 (hz_nI 0)) := by
  unfold f_Mixture_strictness
  exact hz_p_strict_4 hP hR P 4096 0 _ (by omega) (by omega)
set_option maxRecDepth 100000 in
theorem hz_p_gear_4 {mn mr ml t1 t2 t3 t4 row ix : Nat → Int32} {nx t5 : Int32} {t6 : Bool} {P : Nat} (hP : P ≤ 8) (hR : hz_prtR t2 row mr ix P) : ∀ k n i b, P = i + k → k < n → f_Mixture_gear_4 n (mn, mr, ml, hz_nI P, nx) (t1, t2, t3, t4, t5, t6) b (hz_nI i) = some (hz_orT (fun i => hz_pD row ix i 2) k i b)
  | 0, n + 1, i, b, h1, h2 => by
    rw [f_Mixture_gear_4]
    simp (disch := omega) only [hz_nI_lit, hz_nI_add, hz_nI_mul, hz_nI_lt, hz_nI_le, hz_nI_inj, hz_nI_sub, hz_nI_nat, hz_nI_inb, hz_nI_pred, hz_nI_m1_lt, hz_nI_lt_m1, hz_nI_m1_le, hz_nI_le_m1, hz_nI_eq_m1, hz_nI_m1_eq, hz_bI0, if_pos, if_neg, if_true, if_false, Option.bind_some, Prod.eta, reduceCtorEq, hz_orT]
  | k + 1, n + 1, i, b, h1, h2 => by
    have ih := fun b => hz_p_gear_4 (mn := mn) (ml := ml) (nx := nx) (t1 := t1) (t3 := t3) (t4 := t4) (t5 := t5) (t6 := t6) hP hR k n (i + 1) b (by omega) (by omega)
    have e := hz_p_pcell (t1 := t1) (t3 := t3) (t4 := t4) (t5 := t5) (t6 := t6) hR (show i < P by omega) (show 2 < 9 by omega)
    rw [f_Mixture_gear_4, hz_p_row (show i < 8 by omega), Option.bind_some]
    simp (disch := omega) only [hz_nI_lit, hz_nI_add, hz_nI_mul, hz_nI_lt, hz_nI_le, hz_nI_inj, hz_nI_sub, hz_nI_nat, hz_nI_inb, hz_nI_pred, hz_nI_m1_lt, hz_nI_lt_m1, hz_nI_m1_le, hz_nI_le_m1, hz_nI_eq_m1, hz_nI_m1_eq, hz_bI0, if_pos, if_neg, if_true, if_false, Option.bind_some, Prod.eta, reduceCtorEq, e]
    exact ih _
set_option maxRecDepth 100000 in
theorem hz_p_gear {mn mr ml t1 t2 t3 t4 row ix : Nat → Int32} {nx t5 : Int32} {t6 : Bool} {P : Nat} (hP : P ≤ 8) (hR : hz_prtR t2 row mr ix P) : f_Mixture_gear (mn, mr, ml, hz_nI P, nx) (t1, t2, t3, t4, t5, t6) = some (hz_orT (fun i => hz_pD row ix i 2) P 0 (hz_nI 0)) := by
  unfold f_Mixture_gear
  exact hz_p_gear_4 hP hR P 4096 0 _ (by omega) (by omega)
set_option maxRecDepth 100000 in
def hz_dT (row ix am : Nat → Int32) (day : Bool) (i : Nat) : Int32 := hz_pD row ix i (3 + (if am i ≤ hz_nI 200 then 0 else 2) + (if day = true then 0 else 1))
set_option maxRecDepth 100000 in
def hz_larR (ml am : Nat → Int32) (P : Nat) : Prop := ∀ i, i < P → (ml i = hz_nI 0 ↔ am i ≤ hz_nI 200)
set_option maxRecDepth 100000 in
theorem hz_p_dist_5 {mn mr ml t1 t2 t3 t4 row ix am : Nat → Int32} {nx t5 : Int32} {t6 day : Bool} {P : Nat} (hP : P ≤ 8) (hR : hz_prtR t2 row mr ix P) (hl : hz_larR ml am P) : ∀ k n i b, P = i + k → k < n → f_Mixture_distance_5 n (mn, mr, ml, hz_nI P, nx) (t1, t2, t3, t4, t5, t6) day b (hz_nI i) = some (hz_maxT (hz_dT row ix am day) k i b)
  | 0, n + 1, i, b, h1, h2 => by
    rw [f_Mixture_distance_5]
    simp (disch := omega) only [hz_nI_lit, hz_nI_add, hz_nI_mul, hz_nI_lt, hz_nI_le, hz_nI_inj, hz_nI_sub, hz_nI_nat, hz_nI_inb, hz_nI_pred, hz_nI_m1_lt, hz_nI_lt_m1, hz_nI_m1_le, hz_nI_le_m1, hz_nI_eq_m1, hz_nI_m1_eq, hz_bI0, if_pos, if_neg, if_true, if_false, Option.bind_some, Prod.eta, reduceCtorEq, hz_maxT]
  | k + 1, n + 1, i, b, h1, h2 => by
    have ih := fun b => hz_p_dist_5 (mn := mn) (nx := nx) (t1 := t1) (t3 := t3) (t4 := t4) (t5 := t5) (t6 := t6) (day := day) hP hR hl k n (i + 1) b (by omega) (by omega)
    have e := fun j (hj : j < 9) => hz_p_pcell (t1 := t1) (t3 := t3) (t4 := t4) (t5 := t5) (t6 := t6) hR (show i < P by omega) hj
    rw [f_Mixture_distance_5]
    unfold f_Mixture_distance_37 f_Mixture_distance_47 hz_maxT hz_dT
    rw [hz_p_row (show i < 8 by omega)]
    have hi := hl i (by omega)
    cases day
    · by_cases c : am i ≤ hz_nI 200
      · simp (disch := omega) only [hz_nI_lit, hz_nI_add, hz_nI_mul, hz_nI_lt, hz_nI_le, hz_nI_inj, hz_nI_sub, hz_nI_nat, hz_nI_inb, hz_nI_pred, hz_nI_m1_lt, hz_nI_lt_m1, hz_nI_m1_le, hz_nI_le_m1, hz_nI_eq_m1, hz_nI_m1_eq, hz_bI0, if_pos, if_neg, if_true, if_false, Option.bind_some, Prod.eta, reduceCtorEq, hi.mpr c, c, hz_bI_t, e (3 + 0 + 1) (by omega), Bool.false_eq_true]
        exact ih _
      · have c2 : ¬ ml i = hz_nI 0 := fun h => c (hi.mp h)
        simp (disch := omega) only [hz_nI_lit, hz_nI_add, hz_nI_mul, hz_nI_lt, hz_nI_le, hz_nI_inj, hz_nI_sub, hz_nI_nat, hz_nI_inb, hz_nI_pred, hz_nI_m1_lt, hz_nI_lt_m1, hz_nI_m1_le, hz_nI_le_m1, hz_nI_eq_m1, hz_nI_m1_eq, hz_bI0, if_pos, if_neg, if_true, if_false, Option.bind_some, Prod.eta, reduceCtorEq, c2, c, hz_bI_t, e (3 + 2 + 1) (by omega), Bool.false_eq_true]
        exact ih _
    · by_cases c : am i ≤ hz_nI 200
      · simp (disch := omega) only [hz_nI_lit, hz_nI_add, hz_nI_mul, hz_nI_lt, hz_nI_le, hz_nI_inj, hz_nI_sub, hz_nI_nat, hz_nI_inb, hz_nI_pred, hz_nI_m1_lt, hz_nI_lt_m1, hz_nI_m1_le, hz_nI_le_m1, hz_nI_eq_m1, hz_nI_m1_eq, hz_bI0, if_pos, if_neg, if_true, if_false, Option.bind_some, Prod.eta, reduceCtorEq, hi.mpr c, c, hz_bI_f, e (3 + 0 + 0) (by omega), Bool.true_eq_false]
        exact ih _
      · have c2 : ¬ ml i = hz_nI 0 := fun h => c (hi.mp h)
        simp (disch := omega) only [hz_nI_lit, hz_nI_add, hz_nI_mul, hz_nI_lt, hz_nI_le, hz_nI_inj, hz_nI_sub, hz_nI_nat, hz_nI_inb, hz_nI_pred, hz_nI_m1_lt, hz_nI_lt_m1, hz_nI_m1_le, hz_nI_le_m1, hz_nI_eq_m1, hz_nI_m1_eq, hz_bI0, if_pos, if_neg, if_true, if_false, Option.bind_some, Prod.eta, reduceCtorEq, c2, c, hz_bI_f, e (3 + 2 + 0) (by omega), Bool.true_eq_false]
        exact ih _
set_option maxRecDepth 100000 in
theorem hz_p_dist {mn mr ml t1 t2 t3 t4 row ix am : Nat → Int32} {nx t5 : Int32} {t6 day : Bool} {P : Nat} (hP : P ≤ 8) (hR : hz_prtR t2 row mr ix P) (hl : hz_larR ml am P) : f_Mixture_distance (mn, mr, ml, hz_nI P, nx) (t1, t2, t3, t4, t5, t6) day = some (hz_maxT (hz_dT row ix am day) P 0 (-hz_nI 1)) := by
  unfold f_Mixture_distance
  exact hz_p_dist_5 hP hR hl P 4096 0 _ (by omega) (by omega)
abbrev hz_MQ9 : Type := (Int32 × Int32 × Bool) × (Int32 × (Nat → Int32) × (Nat → Int32) × (Nat → Int32) × Int32 × (Nat → Int32)) × ((Nat → Int32)) × (Int32 × (Nat → Int32) × (Nat → Int32))
abbrev hz_M2 : Type := Int32 × (Nat → Int32) × Int32 × Int32
set_option maxRecDepth 100000 in
def hz_ixR (ix : Nat → Int32) (P : Nat) : Prop := ∀ i, i < P → ∃ k, k ≤ 12 ∧ ix i = hz_nI k
set_option maxRecDepth 100000 in
theorem hz_ixR_of {t2 row mr ix : Nat → Int32} {P : Nat} (h : hz_prtR t2 row mr ix P) : hz_ixR ix P := fun i hi => by
  obtain ⟨c, k, h1, h2, h3, h4, h5⟩ := h i hi
  exact ⟨k, h2, h4⟩
set_option maxRecDepth 100000 in
theorem hz_q_strict_4 {g1 : Int32 × Int32} {g2 : hz_M2} {g3 : hz_M3} {m0 nx : Int32} {ge : Bool} {row pt am ix : Nat → Int32} {r : hz_MQ9} {P : Nat} (hP : P ≤ 8) (hR : hz_ixR ix P) : ∀ k n i b, P = i + k → k < n → f_Model_strictness_4 n (g1, g2, g3, (m0, ge, row), (hz_nI P, pt, am, ix, nx), r) b (hz_nI i) = some (hz_maxT (fun i => hz_pD row ix i 1) k i b)
  | 0, n + 1, i, b, h1, h2 => by
    rw [f_Model_strictness_4]
    simp (disch := omega) only [hz_nI_lit, hz_nI_add, hz_nI_mul, hz_nI_lt, hz_nI_le, hz_nI_inj, hz_nI_sub, hz_nI_nat, hz_nI_inb, hz_nI_pred, hz_nI_m1_lt, hz_nI_lt_m1, hz_nI_m1_le, hz_nI_le_m1, hz_nI_eq_m1, hz_nI_m1_eq, hz_bI0, if_pos, if_neg, if_true, if_false, Option.bind_some, Prod.eta, reduceCtorEq, hz_maxT]
  | k + 1, n + 1, i, b, h1, h2 => by
    have ih := fun b => hz_q_strict_4 (g1 := g1) (g2 := g2) (g3 := g3) (m0 := m0) (ge := ge) (row := row) (pt := pt) (am := am) (nx := nx) (r := r) hP hR k n (i + 1) b (by omega) (by omega)
    obtain ⟨q, q1, q2⟩ := hR i (by omega)
    have e : row (q * 43 + 2) = hz_pD row ix i 1 := by rw [hz_pD_eq q2 q1]
    rw [f_Model_strictness_4]
    unfold hz_maxT
    by_cases c : b < hz_pD row ix i 1
    · have c' : ¬ hz_pD row ix i 1 ≤ b := by rw [Int32.not_le]; exact c
      simp (disch := omega) only [hz_nI_lit, hz_nI_add, hz_nI_mul, hz_nI_lt, hz_nI_le, hz_nI_inj, hz_nI_sub, hz_nI_nat, hz_nI_inb, hz_nI_pred, hz_nI_m1_lt, hz_nI_lt_m1, hz_nI_m1_le, hz_nI_le_m1, hz_nI_eq_m1, hz_nI_m1_eq, hz_bI0, if_pos, if_neg, if_true, if_false, Option.bind_some, Prod.eta, reduceCtorEq, q2, e, c, c']
      exact ih _
    · have c' : hz_pD row ix i 1 ≤ b := by rw [← Int32.not_lt]; exact c
      simp (disch := omega) only [hz_nI_lit, hz_nI_add, hz_nI_mul, hz_nI_lt, hz_nI_le, hz_nI_inj, hz_nI_sub, hz_nI_nat, hz_nI_inb, hz_nI_pred, hz_nI_m1_lt, hz_nI_lt_m1, hz_nI_m1_le, hz_nI_le_m1, hz_nI_eq_m1, hz_nI_m1_eq, hz_bI0, if_pos, if_neg, if_true, if_false, Option.bind_some, Prod.eta, reduceCtorEq, q2, e, c, c']
      exact ih _
set_option maxRecDepth 100000 in
theorem hz_q_strict {g1 : Int32 × Int32} {g2 : hz_M2} {g3 : hz_M3} {m0 nx : Int32} {ge : Bool} {row pt am ix : Nat → Int32} {r : hz_MQ9} {P : Nat} (hP : P ≤ 8) (hR : hz_ixR ix P) : f_Model_strictness (g1, g2, g3, (m0, ge, row), (hz_nI P, pt, am, ix, nx), r) = some (hz_maxT (fun i => hz_pD row ix i 1) P 0 (hz_nI 0)) := by
  unfold f_Model_strictness
  exact hz_q_strict_4 hP hR P 4096 0 _ (by omega) (by omega)
set_option maxRecDepth 100000 in
theorem hz_q_dist_4 {g1 : Int32 × Int32} {g2 : hz_M2} {g3 : hz_M3} {m0 nx : Int32} {ge day : Bool} {row pt am ix : Nat → Int32} {r : hz_MQ9} {P : Nat} (hP : P ≤ 8) (hR : hz_ixR ix P) : ∀ k n i b, P = i + k → k < n → f_Model_distance_4 n (g1, g2, g3, (m0, ge, row), (hz_nI P, pt, am, ix, nx), r) day b (hz_nI i) = some (hz_maxT (hz_dT row ix am day) k i b)
  | 0, n + 1, i, b, h1, h2 => by
    rw [f_Model_distance_4]
    simp (disch := omega) only [hz_nI_lit, hz_nI_add, hz_nI_mul, hz_nI_lt, hz_nI_le, hz_nI_inj, hz_nI_sub, hz_nI_nat, hz_nI_inb, hz_nI_pred, hz_nI_m1_lt, hz_nI_lt_m1, hz_nI_m1_le, hz_nI_le_m1, hz_nI_eq_m1, hz_nI_m1_eq, hz_bI0, if_pos, if_neg, if_true, if_false, Option.bind_some, Prod.eta, reduceCtorEq, hz_maxT]
  | k + 1, n + 1, i, b, h1, h2 => by
    have ih := fun b => hz_q_dist_4 (g1 := g1) (g2 := g2) (g3 := g3) (m0 := m0) (ge := ge) (day := day) (row := row) (pt := pt) (am := am) (nx := nx) (r := r) hP hR k n (i + 1) b (by omega) (by omega)
    obtain ⟨q, q1, q2⟩ := hR i (by omega)
    rw [f_Model_distance_4]
    unfold f_Model_distance_44 f_Model_distance_54 hz_maxT
    have e : hz_dT row ix am day i = row (q * 43 + 1 + (3 + (if am i ≤ hz_nI 200 then 0 else 2) + (if day = true then 0 else 1))) := by unfold hz_dT; rw [hz_pD_eq q2 q1]
    have e9 : (if b < hz_dT row ix am day i then hz_dT row ix am day i else b) = if hz_dT row ix am day i ≤ b then b else hz_dT row ix am day i := by
      by_cases c : b < hz_dT row ix am day i
      · rw [if_pos c, if_neg (by rw [Int32.not_le]; exact c)]
      · rw [if_neg c, if_pos (by rw [← Int32.not_lt]; exact c)]
    rw [e9]
    have ih1 := ih b
    have ih2 := ih (hz_dT row ix am day i)
    rw [e] at ih2 ⊢
    cases day
    · by_cases c : am i ≤ hz_nI 200
      · simp only [c, if_true, Bool.false_eq_true, if_false] at ih2 ⊢
        simp (disch := omega) only [hz_nI_lit, hz_nI_add, hz_nI_mul, hz_nI_lt, hz_nI_le, hz_nI_inj, hz_nI_sub, hz_nI_nat, hz_nI_inb, hz_nI_pred, hz_nI_m1_lt, hz_nI_lt_m1, hz_nI_m1_le, hz_nI_le_m1, hz_nI_eq_m1, hz_nI_m1_eq, hz_bI0, if_pos, if_neg, if_true, if_false, Option.bind_some, Prod.eta, reduceCtorEq, q2, c, hz_bI_t, Bool.false_eq_true]
        rw [show q * 43 + 4 + 0 + 1 = q * 43 + 1 + (3 + 0 + 1) by omega]
        split
        · exact ih1
        · exact ih2
      · simp only [c, if_true, Bool.false_eq_true, if_false] at ih2 ⊢
        simp (disch := omega) only [hz_nI_lit, hz_nI_add, hz_nI_mul, hz_nI_lt, hz_nI_le, hz_nI_inj, hz_nI_sub, hz_nI_nat, hz_nI_inb, hz_nI_pred, hz_nI_m1_lt, hz_nI_lt_m1, hz_nI_m1_le, hz_nI_le_m1, hz_nI_eq_m1, hz_nI_m1_eq, hz_bI0, if_pos, if_neg, if_true, if_false, Option.bind_some, Prod.eta, reduceCtorEq, q2, c, hz_bI_t, Bool.false_eq_true]
        rw [show q * 43 + 4 + 2 + 1 = q * 43 + 1 + (3 + 2 + 1) by omega]
        split
        · exact ih1
        · exact ih2
    · by_cases c : am i ≤ hz_nI 200
      · simp only [c, if_true, Bool.true_eq_false, if_false] at ih2 ⊢
        simp (disch := omega) only [hz_nI_lit, hz_nI_add, hz_nI_mul, hz_nI_lt, hz_nI_le, hz_nI_inj, hz_nI_sub, hz_nI_nat, hz_nI_inb, hz_nI_pred, hz_nI_m1_lt, hz_nI_lt_m1, hz_nI_m1_le, hz_nI_le_m1, hz_nI_eq_m1, hz_nI_m1_eq, hz_bI0, if_pos, if_neg, if_true, if_false, Option.bind_some, Prod.eta, reduceCtorEq, q2, c, hz_bI_f, Bool.true_eq_false]
        rw [show q * 43 + 4 + 0 + 0 = q * 43 + 1 + (3 + 0 + 0) by omega]
        split
        · exact ih1
        · exact ih2
      · simp only [c, if_true, Bool.true_eq_false, if_false] at ih2 ⊢
        simp (disch := omega) only [hz_nI_lit, hz_nI_add, hz_nI_mul, hz_nI_lt, hz_nI_le, hz_nI_inj, hz_nI_sub, hz_nI_nat, hz_nI_inb, hz_nI_pred, hz_nI_m1_lt, hz_nI_lt_m1, hz_nI_m1_le, hz_nI_le_m1, hz_nI_eq_m1, hz_nI_m1_eq, hz_bI0, if_pos, if_neg, if_true, if_false, Option.bind_some, Prod.eta, reduceCtorEq, q2, c, hz_bI_f, Bool.true_eq_false]
        rw [show q * 43 + 4 + 2 + 0 = q * 43 + 1 + (3 + 2 + 0) by omega]
        split
        · exact ih1
        · exact ih2
set_option maxRecDepth 100000 in
theorem hz_q_dist {g1 : Int32 × Int32} {g2 : hz_M2} {g3 : hz_M3} {m0 nx : Int32} {ge day : Bool} {row pt am ix : Nat → Int32} {r : hz_MQ9} {P : Nat} (hP : P ≤ 8) (hR : hz_ixR ix P) : f_Model_distance (g1, g2, g3, (m0, ge, row), (hz_nI P, pt, am, ix, nx), r) day = some (hz_maxT (hz_dT row ix am day) P 0 (hz_nI 0)) := by
  unfold f_Model_distance
  exact hz_q_dist_4 hP hR P 4096 0 _ (by omega) (by omega)
set_option maxRecDepth 100000 in
theorem hz_maxT_rng {f : Nat → Int32} {D : Nat} (hD : D < 2147483648) : ∀ n a b, (∀ i, a ≤ i → i < a + n → ∃ d, d ≤ D ∧ f i = hz_nI d) → (∃ d, d ≤ D ∧ b = hz_nI d) → ∃ d, d ≤ D ∧ hz_maxT f n a b = hz_nI d
  | 0, a, b, h1, h2 => h2
  | n + 1, a, b, h1, h2 => by
    unfold hz_maxT
    refine hz_maxT_rng hD n (a + 1) _ (fun i hi1 hi2 => h1 i (by omega) (by omega)) ?_
    split
    · exact h1 a (by omega) (by omega)
    · exact h2
set_option maxRecDepth 100000 in
theorem hz_maxT_m1 {f : Nat → Int32} {n a d : Nat} (hn : 1 ≤ n) (hd : d < 2147483648) (h : f a = hz_nI d) : hz_maxT f n a (-hz_nI 1) = hz_maxT f n a (hz_nI 0) := by
  obtain ⟨k, rfl⟩ : ∃ k, n = k + 1 := ⟨n - 1, by omega⟩
  unfold hz_maxT
  rw [h]
  congr 1
  simp only [hz_nI_m1_lt hd, if_true, hz_nI_lt (show 0 < 2147483648 by omega) hd]
  by_cases c : 0 < d
  · simp only [c, if_true]
  · have : d = 0 := by omega
    subst this
    split <;> rfl
set_option maxRecDepth 100000 in
def hz_disR (row ix : Nat → Int32) (P : Nat) : Prop := ∀ i, i < P → ∀ j, j < 4 → ∃ d, d ≤ 9999 ∧ hz_pD row ix i (3 + j) = hz_nI d
set_option maxRecDepth 100000 in
theorem hz_disR_of {t2 row mr ix : Nat → Int32} {P : Nat} (h : hz_prtR t2 row mr ix P) : hz_disR row ix P := fun i hi j hj => by
  obtain ⟨c, k, h1, h2, h3, h4, h5⟩ := h i hi
  obtain ⟨d, d1, d2⟩ := h5.2 j hj
  exact ⟨d, d1, by rw [hz_pD_eq h4 h2, ← d2]; congr 1; omega⟩
set_option maxRecDepth 100000 in
theorem hz_dT_rng {row ix am : Nat → Int32} {P i : Nat} {day : Bool} (h : hz_disR row ix P) (hi : i < P) : ∃ d, d ≤ 9999 ∧ hz_dT row ix am day i = hz_nI d := by
  unfold hz_dT
  rw [Nat.add_assoc]
  exact h i hi _ (by split <;> split <;> omega)
set_option maxRecDepth 100000 in
theorem hz_dist_rng {row ix am : Nat → Int32} {P : Nat} {day : Bool} (h : hz_disR row ix P) : ∃ d, d ≤ 9999 ∧ hz_maxT (hz_dT row ix am day) P 0 (hz_nI 0) = hz_nI d :=
  hz_maxT_rng (by omega) P 0 _ (fun i _ hi => hz_dT_rng h (by omega)) ⟨0, by omega, rfl⟩
set_option maxRecDepth 100000 in
theorem hz_dist_m1 {row ix am : Nat → Int32} {P : Nat} {day : Bool} (h : hz_disR row ix P) (hP : 1 ≤ P) : hz_maxT (hz_dT row ix am day) P 0 (-hz_nI 1) = hz_maxT (hz_dT row ix am day) P 0 (hz_nI 0) := by
  obtain ⟨d, d1, d2⟩ := hz_dT_rng (am := am) (day := day) h (show 0 < P by omega)
  exact hz_maxT_m1 hP (by omega) d2
set_option maxRecDepth 100000 in
def hz_hib (b c : Int32) : Bool := decide ((b >>> (c &&& hz_nI 31)) &&& hz_nI 1 = hz_nI 1)
set_option maxRecDepth 100000 in
theorem hz_p_hib (b c : Int32) : f_Table_hasInBits b c = some (hz_hib b c) := by
  unfold f_Table_hasInBits hz_hib
  simp only [hz_nI_lit]
  by_cases h : b >>> (c &&& hz_nI 31) &&& hz_nI 1 = hz_nI 1
  · simp only [h, if_true, decide_true]
  · simp only [h, if_false, decide_false]
set_option maxRecDepth 100000 in
def hz_ctr (row ix : Nat → Int32) (i j : Nat) : Bool := hz_hib (hz_pD row ix i 7) (hz_pD row ix j 0) || hz_hib (hz_pD row ix j 7) (hz_pD row ix i 0)
set_option maxRecDepth 100000 in
theorem hz_ctr_comm (row ix : Nat → Int32) (i j : Nat) : hz_ctr row ix i j = hz_ctr row ix j i := Bool.or_comm _ _
set_option maxRecDepth 100000 in
theorem hz_p_ctr {t1 t2 t3 t4 row mr ix : Nat → Int32} {t5 : Int32} {t6 : Bool} {P i j : Nat} (hR : hz_prtR t2 row mr ix P) (hi : i < P) (hj : j < P) : f_Table_contradict (t1, t2, t3, t4, t5, t6) (mr i) (mr j) = some (hz_ctr row ix i j) := by
  have e := fun q (hq : q < P) c (hc : c < 9) => hz_p_pcell (t1 := t1) (t3 := t3) (t4 := t4) (t5 := t5) (t6 := t6) hR hq hc
  unfold f_Table_contradict hz_ctr
  simp only [hz_nI_lit, e i hi 7 (by omega), e j hj 0 (by omega), e j hj 7 (by omega), e i hi 0 (by omega), Option.bind_some, hz_p_hib, hz_bI0]
  cases hz_hib (hz_pD row ix i 7) (hz_pD row ix j 0) <;> cases hz_hib (hz_pD row ix j 7) (hz_pD row ix i 0) <;> rfl
set_option maxRecDepth 100000 in
theorem hz_q_ctr {g1 : Int32 × Int32} {g2 : hz_M2} {g3 : hz_M3} {m0 nx sz : Int32} {ge : Bool} {row pt am ix : Nat → Int32} {r : hz_MQ9} {P i j : Nat} (hP : P ≤ 8) (hR : hz_ixR ix P) (hi : i < P) (hj : j < P) : f_Model_contradict (g1, g2, g3, (m0, ge, row), (sz, pt, am, ix, nx), r) (hz_nI i) (hz_nI j) = some (hz_ctr row ix i j) := by
  obtain ⟨a, a1, a2⟩ := hR i hi
  obtain ⟨b, b1, b2⟩ := hR j hj
  unfold f_Model_contradict hz_ctr hz_hib
  rw [hz_pD_eq a2 a1, hz_pD_eq a2 a1, hz_pD_eq b2 b1, hz_pD_eq b2 b1]
  simp (disch := omega) only [hz_nI_lit, hz_nI_add, hz_nI_mul, hz_nI_lt, hz_nI_le, hz_nI_inj, hz_nI_sub, hz_nI_nat, hz_nI_inb, hz_nI_pred, hz_nI_m1_lt, hz_nI_lt_m1, hz_nI_m1_le, hz_nI_le_m1, hz_nI_eq_m1, hz_nI_m1_eq, hz_bI0, if_pos, if_neg, if_true, if_false, Option.bind_some, Prod.eta, reduceCtorEq, a2, b2]
  rw [show a * 43 + 1 + 7 = a * 43 + 8 by omega, show b * 43 + 1 + 0 = b * 43 + 1 by omega, show b * 43 + 1 + 7 = b * 43 + 8 by omega, show a * 43 + 1 + 0 = a * 43 + 1 by omega]
  by_cases h1 : row (a * 43 + 8) >>> (row (b * 43 + 1) &&& hz_nI 31) &&& hz_nI 1 = hz_nI 1
  · simp only [h1, if_true, decide_true, Bool.true_or]
  · simp only [h1, if_false, decide_false, Bool.false_or]
    by_cases h2 : row (b * 43 + 8) >>> (row (a * 43 + 1) &&& hz_nI 31) &&& hz_nI 1 = hz_nI 1
    · simp only [h2, if_true, decide_true]
    · simp only [h2, if_false, decide_false]
set_option maxRecDepth 100000 in
def hz_cntT (g : Nat → Bool) : Nat → Nat → Int32 → Int32
  | 0, i, b => b
  | n + 1, i, b => hz_cntT g n (i + 1) (if g i = true then b + hz_nI 1 else b)
set_option maxRecDepth 100000 in
theorem hz_cntT_add (g : Nat → Bool) : ∀ n i b, hz_cntT g n i b = b + hz_cntT g n i (hz_nI 0)
  | 0, i, b => by
    simp only [hz_cntT]
    exact (Int32.add_zero b).symm
  | n + 1, i, b => by
    unfold hz_cntT
    rw [hz_cntT_add g n (i + 1) (if g i = true then b + hz_nI 1 else b), hz_cntT_add g n (i + 1) (if g i = true then hz_nI 0 + hz_nI 1 else hz_nI 0)]
    cases g i
    · simp only [Bool.false_eq_true, if_false]
      rw [← Int32.add_assoc, show b + hz_nI 0 = b from Int32.add_zero b]
    · simp only [if_true]
      rw [← Int32.add_assoc, hz_nI_add, Nat.zero_add]
set_option maxRecDepth 100000 in
theorem hz_cntT_congr {g h : Nat → Bool} : ∀ n i b, (∀ j, i ≤ j → j < i + n → g j = h j) → hz_cntT g n i b = hz_cntT h n i b
  | 0, i, b, e => rfl
  | n + 1, i, b, e => by
    unfold hz_cntT
    rw [e i (by omega) (by omega), hz_cntT_congr n (i + 1) _ (fun j h1 h2 => e j (by omega) (by omega))]
set_option maxRecDepth 100000 in
theorem hz_p_before_5 {mn mr ml t1 t2 t3 t4 row ix : Nat → Int32} {nx t5 sz : Int32} {t6 : Bool} {P p : Nat} (hP : P ≤ 8) (hR : hz_prtR t2 row mr ix P) (hp : p < P) : ∀ k n i b, p = i + k → k < n → f_Mixture_contradictedBefore_5 n (mn, mr, ml, sz, nx) (t1, t2, t3, t4, t5, t6) (hz_nI p) b (hz_nI i) = some (hz_cntT (fun i => hz_ctr row ix i p) k i b)
  | 0, n + 1, i, b, h1, h2 => by
    rw [f_Mixture_contradictedBefore_5]
    simp (disch := omega) only [hz_nI_lit, hz_nI_add, hz_nI_mul, hz_nI_lt, hz_nI_le, hz_nI_inj, hz_nI_sub, hz_nI_nat, hz_nI_inb, hz_nI_pred, hz_nI_m1_lt, hz_nI_lt_m1, hz_nI_m1_le, hz_nI_le_m1, hz_nI_eq_m1, hz_nI_m1_eq, hz_bI0, if_pos, if_neg, if_true, if_false, Option.bind_some, Prod.eta, reduceCtorEq, hz_cntT]
  | k + 1, n + 1, i, b, h1, h2 => by
    have ih := fun b => hz_p_before_5 (mn := mn) (ml := ml) (nx := nx) (sz := sz) (t1 := t1) (t3 := t3) (t4 := t4) (t5 := t5) (t6 := t6) hP hR hp k n (i + 1) b (by omega) (by omega)
    rw [f_Mixture_contradictedBefore_5, hz_p_row (show i < 8 by omega), Option.bind_some, hz_p_row (show p < 8 by omega), Option.bind_some, hz_p_ctr hR (show i < P by omega) hp, Option.bind_some]
    unfold hz_cntT
    cases h : hz_ctr row ix i p
    · simp (disch := omega) only [hz_nI_lit, hz_nI_add, hz_nI_mul, hz_nI_lt, hz_nI_le, hz_nI_inj, hz_nI_sub, hz_nI_nat, hz_nI_inb, hz_nI_pred, hz_nI_m1_lt, hz_nI_lt_m1, hz_nI_m1_le, hz_nI_le_m1, hz_nI_eq_m1, hz_nI_m1_eq, hz_bI0, if_pos, if_neg, if_true, if_false, Option.bind_some, Prod.eta, reduceCtorEq, Bool.false_eq_true]
      exact ih _
    · simp (disch := omega) only [hz_nI_lit, hz_nI_add, hz_nI_mul, hz_nI_lt, hz_nI_le, hz_nI_inj, hz_nI_sub, hz_nI_nat, hz_nI_inb, hz_nI_pred, hz_nI_m1_lt, hz_nI_lt_m1, hz_nI_m1_le, hz_nI_le_m1, hz_nI_eq_m1, hz_nI_m1_eq, hz_bI0, if_pos, if_neg, if_true, if_false, Option.bind_some, Prod.eta, reduceCtorEq, Bool.true_eq_false]
      exact ih _
set_option maxRecDepth 100000 in
theorem hz_p_before {mn mr ml t1 t2 t3 t4 row ix : Nat → Int32} {nx t5 sz : Int32} {t6 : Bool} {P p : Nat} (hP : P ≤ 8) (hR : hz_prtR t2 row mr ix P) (hp : p < P) : f_Mixture_contradictedBefore (mn, mr, ml, sz, nx) (t1, t2, t3, t4, t5, t6) (hz_nI p) = some (hz_cntT (fun i => hz_ctr row ix i p) p 0 (hz_nI 0)) := by
  unfold f_Mixture_contradictedBefore
  exact hz_p_before_5 hP hR hp p 4096 0 _ (by omega) (by omega)
set_option maxRecDepth 100000 in
def hz_pairsT (row ix : Nat → Int32) : Nat → Nat → Int32 → Int32
  | 0, p, b => b
  | n + 1, p, b => hz_pairsT row ix n (p + 1) (hz_cntT (fun q => hz_ctr row ix q p) p 0 b)
set_option maxRecDepth 100000 in
theorem hz_p_pairs_4 {mn mr ml t1 t2 t3 t4 row ix : Nat → Int32} {nx t5 : Int32} {t6 : Bool} {P : Nat} (hP : P ≤ 8) (hR : hz_prtR t2 row mr ix P) : ∀ k n i b, P = i + k → k < n → f_Mixture_contradictingPairs_4 n (mn, mr, ml, hz_nI P, nx) (t1, t2, t3, t4, t5, t6) b (hz_nI i) = some (hz_pairsT row ix k i b)
  | 0, n + 1, i, b, h1, h2 => by
    rw [f_Mixture_contradictingPairs_4]
    simp (disch := omega) only [hz_nI_lit, hz_nI_add, hz_nI_mul, hz_nI_lt, hz_nI_le, hz_nI_inj, hz_nI_sub, hz_nI_nat, hz_nI_inb, hz_nI_pred, hz_nI_m1_lt, hz_nI_lt_m1, hz_nI_m1_le, hz_nI_le_m1, hz_nI_eq_m1, hz_nI_m1_eq, hz_bI0, if_pos, if_neg, if_true, if_false, Option.bind_some, Prod.eta, reduceCtorEq, hz_pairsT]
  | k + 1, n + 1, i, b, h1, h2 => by
    have ih := fun b => hz_p_pairs_4 (mn := mn) (ml := ml) (nx := nx) (t1 := t1) (t3 := t3) (t4 := t4) (t5 := t5) (t6 := t6) hP hR k n (i + 1) b (by omega) (by omega)
    rw [f_Mixture_contradictingPairs_4, hz_p_before hP hR (show i < P by omega), Option.bind_some]
    unfold hz_pairsT
    rw [hz_cntT_add _ i 0 b]
    simp (disch := omega) only [hz_nI_lit, hz_nI_add, hz_nI_mul, hz_nI_lt, hz_nI_le, hz_nI_inj, hz_nI_sub, hz_nI_nat, hz_nI_inb, hz_nI_pred, hz_nI_m1_lt, hz_nI_lt_m1, hz_nI_m1_le, hz_nI_le_m1, hz_nI_eq_m1, hz_nI_m1_eq, hz_bI0, if_pos, if_neg, if_true, if_false, Option.bind_some, Prod.eta, reduceCtorEq]
    exact ih _
set_option maxRecDepth 100000 in
theorem hz_p_pairs {mn mr ml t1 t2 t3 t4 row ix : Nat → Int32} {nx t5 : Int32} {t6 : Bool} {P : Nat} (hP : P ≤ 8) (hR : hz_prtR t2 row mr ix P) : f_Mixture_contradictingPairs (mn, mr, ml, hz_nI P, nx) (t1, t2, t3, t4, t5, t6) = some (hz_pairsT row ix P 0 (hz_nI 0)) := by
  unfold f_Mixture_contradictingPairs
  exact hz_p_pairs_4 hP hR P 4096 0 _ (by omega) (by omega)
set_option maxRecDepth 100000 in
theorem hz_q_add_124 {g1 : Int32 × Int32} {g2 : hz_M2} {g3 : hz_M3} {m0 nx : Int32} {ge : Bool} {row pt am ix : Nat → Int32} {r : hz_MQ9} {p : Nat} (hP : p + 1 ≤ 8) (hR : hz_ixR ix (p + 1)) : ∀ k n i b, p = i + k → k < n → f_Model_add_124 n (g1, g2, g3, (m0, ge, row), (hz_nI (p + 1), pt, am, ix, nx), r) b (hz_nI i) = some (hz_cntT (fun i => hz_ctr row ix i p) k i b, (g1, g2, g3, (m0, ge, row), (hz_nI (p + 1), pt, am, ix, nx), r))
  | 0, n + 1, i, b, h1, h2 => by
    rw [f_Model_add_124]
    simp (disch := omega) only [hz_nI_lit, hz_nI_add, hz_nI_mul, hz_nI_lt, hz_nI_le, hz_nI_inj, hz_nI_sub, hz_nI_nat, hz_nI_inb, hz_nI_pred, hz_nI_m1_lt, hz_nI_lt_m1, hz_nI_m1_le, hz_nI_le_m1, hz_nI_eq_m1, hz_nI_m1_eq, hz_bI0, if_pos, if_neg, if_true, if_false, Option.bind_some, Prod.eta, reduceCtorEq, hz_cntT, Nat.add_sub_cancel]
  | k + 1, n + 1, i, b, h1, h2 => by
    have ih := fun b => hz_q_add_124 (g1 := g1) (g2 := g2) (g3 := g3) (m0 := m0) (ge := ge) (row := row) (pt := pt) (am := am) (nx := nx) (r := r) hP hR k n (i + 1) b (by omega) (by omega)
    rw [f_Model_add_124]
    unfold hz_cntT
    have e := hz_q_ctr (g1 := g1) (g2 := g2) (g3 := g3) (m0 := m0) (ge := ge) (row := row) (pt := pt) (am := am) (nx := nx) (sz := hz_nI (p + 1)) (r := r) hP hR (show i < p + 1 by omega) (show p < p + 1 by omega)
    cases h : hz_ctr row ix i p
    · rw [h] at e
      simp (disch := omega) only [hz_nI_lit, hz_nI_add, hz_nI_mul, hz_nI_lt, hz_nI_le, hz_nI_inj, hz_nI_sub, hz_nI_nat, hz_nI_inb, hz_nI_pred, hz_nI_m1_lt, hz_nI_lt_m1, hz_nI_m1_le, hz_nI_le_m1, hz_nI_eq_m1, hz_nI_m1_eq, hz_bI0, if_pos, if_neg, if_true, if_false, Option.bind_some, Prod.eta, reduceCtorEq, Nat.add_sub_cancel, e, Bool.false_eq_true]
      exact ih _
    · rw [h] at e
      simp (disch := omega) only [hz_nI_lit, hz_nI_add, hz_nI_mul, hz_nI_lt, hz_nI_le, hz_nI_inj, hz_nI_sub, hz_nI_nat, hz_nI_inb, hz_nI_pred, hz_nI_m1_lt, hz_nI_lt_m1, hz_nI_m1_le, hz_nI_le_m1, hz_nI_eq_m1, hz_nI_m1_eq, hz_bI0, if_pos, if_neg, if_true, if_false, Option.bind_some, Prod.eta, reduceCtorEq, Nat.add_sub_cancel, e, Bool.true_eq_false]
      exact ih _
set_option maxRecDepth 100000 in
theorem hz_q_mix_67 {k9 : SModel → Int32 → Int32 → Int32 → Int32 → Option (Int32 × SModel)} {g1 : Int32 × Int32} {g2 : hz_M2} {g3 : hz_M3} {m0 nx sz y1 y2 : Int32} {ge : Bool} {row pt am ix : Nat → Int32} {r : hz_MQ9} {P p : Nat} (hP : P ≤ 8) (hR : hz_ixR ix P) (hp : p < P) : ∀ k n i b, p = i + k → k < n → f_Model_mixture_67 k9 n (g1, g2, g3, (m0, ge, row), (sz, pt, am, ix, nx), r) y1 y2 b (hz_nI p) (hz_nI i) = k9 (g1, g2, g3, (m0, ge, row), (sz, pt, am, ix, nx), r) y1 y2 (hz_cntT (fun q => hz_ctr row ix q p) k i b) (hz_nI (p + 1))
  | 0, n + 1, i, b, h1, h2 => by
    rw [f_Model_mixture_67]
    simp (disch := omega) only [hz_nI_lit, hz_nI_add, hz_nI_mul, hz_nI_lt, hz_nI_le, hz_nI_inj, hz_nI_sub, hz_nI_nat, hz_nI_inb, hz_nI_pred, hz_nI_m1_lt, hz_nI_lt_m1, hz_nI_m1_le, hz_nI_le_m1, hz_nI_eq_m1, hz_nI_m1_eq, hz_bI0, if_pos, if_neg, if_true, if_false, Option.bind_some, Prod.eta, reduceCtorEq, hz_cntT]
  | k + 1, n + 1, i, b, h1, h2 => by
    have ih := fun b => hz_q_mix_67 (k9 := k9) (g1 := g1) (g2 := g2) (g3 := g3) (m0 := m0) (ge := ge) (row := row) (pt := pt) (am := am) (nx := nx) (sz := sz) (y1 := y1) (y2 := y2) (r := r) hP hR hp k n (i + 1) b (by omega) (by omega)
    rw [f_Model_mixture_67, hz_q_ctr hP hR hp (show i < P by omega), Option.bind_some, hz_ctr_comm]
    unfold hz_cntT
    cases h : hz_ctr row ix i p
    · simp (disch := omega) only [hz_nI_lit, hz_nI_add, hz_nI_mul, hz_nI_lt, hz_nI_le, hz_nI_inj, hz_nI_sub, hz_nI_nat, hz_nI_inb, hz_nI_pred, hz_nI_m1_lt, hz_nI_lt_m1, hz_nI_m1_le, hz_nI_le_m1, hz_nI_eq_m1, hz_nI_m1_eq, hz_bI0, if_pos, if_neg, if_true, if_false, Option.bind_some, Prod.eta, reduceCtorEq, Bool.false_eq_true]
      exact ih _
    · simp (disch := omega) only [hz_nI_lit, hz_nI_add, hz_nI_mul, hz_nI_lt, hz_nI_le, hz_nI_inj, hz_nI_sub, hz_nI_nat, hz_nI_inb, hz_nI_pred, hz_nI_m1_lt, hz_nI_lt_m1, hz_nI_m1_le, hz_nI_le_m1, hz_nI_eq_m1, hz_nI_m1_eq, hz_bI0, if_pos, if_neg, if_true, if_false, Option.bind_some, Prod.eta, reduceCtorEq, Bool.true_eq_false]
      exact ih _
set_option maxRecDepth 100000 in
noncomputable def hz_mixF (md : SModel) (y1 gear pairs : Int32) : Option (Int32 × SModel) :=
  (if y1 = 0 then
    (Option.bind (f_Model_strictness md) fun u13 => (some (u13, md)))
   else
    (if y1 = (1 : Int32) then
      (some (gear, md))
     else
      (if (4 : Int32) ≤ y1 then
        (if y1 = (4 : Int32) then
          (some (md.2.2.2.2.1.1, md))
         else
          (some (pairs, md)))
       else
        (if y1 = (2 : Int32) then
          (Option.bind (f_Model_distance md true) fun u12 => (some (u12, md)))
         else
          (Option.bind (f_Model_distance md false) fun u11 => (some (u11, md)))))))
set_option maxRecDepth 100000 in
theorem hz_q_mix_35 {g1 : Int32 × Int32} {g2 : hz_M2} {g3 : hz_M3} {m0 nx y1 : Int32} {ge : Bool} {row pt am ix : Nat → Int32} {r : hz_MQ9} {P : Nat} (hP : P ≤ 8) (hR : hz_ixR ix P) : ∀ k n i b c, P = i + k → k < n → f_Model_mixture_35 n (g1, g2, g3, (m0, ge, row), (hz_nI P, pt, am, ix, nx), r) y1 b c (hz_nI i) = hz_mixF (g1, g2, g3, (m0, ge, row), (hz_nI P, pt, am, ix, nx), r) y1 (hz_orT (fun i => hz_pD row ix i 2) k i b) (hz_pairsT row ix k i c)
  | 0, n + 1, i, b, c, h1, h2 => by
    rw [f_Model_mixture_35]
    have : (hz_nI P ≤ hz_nI i) = True := by rw [hz_nI_le (by omega) (by omega)]; simp only [eq_iff_iff, iff_true]; omega
    simp only [this, if_true]
    rfl
  | k + 1, n + 1, i, b, c, h1, h2 => by
    have ih := fun b c => hz_q_mix_35 (g1 := g1) (g2 := g2) (g3 := g3) (m0 := m0) (ge := ge) (row := row) (pt := pt) (am := am) (nx := nx) (y1 := y1) (r := r) hP hR k n (i + 1) b c (by omega) (by omega)
    obtain ⟨q, q1, q2⟩ := hR i (by omega)
    have e : row (q * 43 + 3) = hz_pD row ix i 2 := by rw [hz_pD_eq q2 q1]
    rw [f_Model_mixture_35]
    unfold hz_orT hz_pairsT
    have e9 := fun b => hz_q_mix_67 (k9 := f_Model_mixture_35 n) (g1 := g1) (g2 := g2) (g3 := g3) (m0 := m0) (ge := ge) (row := row) (pt := pt) (am := am) (nx := nx) (sz := hz_nI P) (y1 := y1) (y2 := b) (r := r) hP hR (show i < P by omega) i 4096 0 c (by omega) (by omega)
    simp (disch := omega) only [hz_nI_lit, hz_nI_add, hz_nI_mul, hz_nI_lt, hz_nI_le, hz_nI_inj, hz_nI_sub, hz_nI_nat, hz_nI_inb, hz_nI_pred, hz_nI_m1_lt, hz_nI_lt_m1, hz_nI_m1_le, hz_nI_le_m1, hz_nI_eq_m1, hz_nI_m1_eq, hz_bI0, if_pos, if_neg, if_true, if_false, Option.bind_some, Prod.eta, reduceCtorEq, q2, e, e9, ih]
set_option maxRecDepth 100000 in
def hz_strT (f : Nat → Int32) (s : Int32) : Nat → Nat → Nat → Option Nat
  | 0, p, l => none
  | n + 1, p, l => if f p = s then (if l = 0 then some p else hz_strT f s n (p + 1) (l - 1)) else hz_strT f s n (p + 1) l
set_option maxRecDepth 100000 in
def hz_ixG (g : Nat → Int32) (o : Option Nat) : Int32 := match o with
  | some q => g q
  | none => -hz_nI 1
set_option maxRecDepth 100000 in
theorem hz_p_strictest_12 {mn mr ml t1 t2 t3 t4 row ix : Nat → Int32} {nx t5 s : Int32} {t6 : Bool} {P m : Nat} (hm : m < 2147483648) (hP : P ≤ 8) (hR : hz_prtR t2 row mr ix P) : ∀ k n i b, P = i + k → k < n → b ≤ i → b ≤ m → f_Mixture_strictest_12 n (mn, mr, ml, hz_nI P, nx) (t1, t2, t3, t4, t5, t6) (hz_nI m) s (hz_nI b) (hz_nI i) = some (hz_ixG mn (hz_strT (fun i => hz_pD row ix i 1) s k i (m - b)))
  | 0, n + 1, i, b, h1, h2, h3, h4 => by
    rw [f_Mixture_strictest_12]
    simp (disch := omega) only [hz_nI_lit, hz_nI_add, hz_nI_mul, hz_nI_lt, hz_nI_le, hz_nI_inj, hz_nI_sub, hz_nI_nat, hz_nI_inb, hz_nI_pred, hz_nI_m1_lt, hz_nI_lt_m1, hz_nI_m1_le, hz_nI_le_m1, hz_nI_eq_m1, hz_nI_m1_eq, hz_bI0, if_pos, if_neg, if_true, if_false, Option.bind_some, Prod.eta, reduceCtorEq, hz_strT, hz_ixG]
  | k + 1, n + 1, i, b, h1, h2, h3, h4 => by
    have ih := fun b => hz_p_strictest_12 (mn := mn) (ml := ml) (nx := nx) (s := s) (t1 := t1) (t3 := t3) (t4 := t4) (t5 := t5) (t6 := t6) hm hP hR k n (i + 1) b (by omega) (by omega)
    have e := hz_p_pcell (t1 := t1) (t3 := t3) (t4 := t4) (t5 := t5) (t6 := t6) hR (show i < P by omega) (show 1 < 9 by omega)
    rw [f_Mixture_strictest_12, hz_p_row (show i < 8 by omega), Option.bind_some]
    unfold hz_strT
    by_cases c1 : hz_pD row ix i 1 = s
    · by_cases c2 : b = m
      · subst c2
        simp (disch := omega) only [hz_nI_lit, hz_nI_add, hz_nI_mul, hz_nI_lt, hz_nI_le, hz_nI_inj, hz_nI_sub, hz_nI_nat, hz_nI_inb, hz_nI_pred, hz_nI_m1_lt, hz_nI_lt_m1, hz_nI_m1_le, hz_nI_le_m1, hz_nI_eq_m1, hz_nI_m1_eq, hz_bI0, if_pos, if_neg, if_true, if_false, Option.bind_some, Prod.eta, reduceCtorEq, e, c1, Nat.sub_self, hz_ixG]
      · have e2 := ih (b + 1) (by omega) (by omega)
        rw [show m - (b + 1) = m - b - 1 by omega] at e2
        simp (disch := omega) only [hz_nI_lit, hz_nI_add, hz_nI_mul, hz_nI_lt, hz_nI_le, hz_nI_inj, hz_nI_sub, hz_nI_nat, hz_nI_inb, hz_nI_pred, hz_nI_m1_lt, hz_nI_lt_m1, hz_nI_m1_le, hz_nI_le_m1, hz_nI_eq_m1, hz_nI_m1_eq, hz_bI0, if_pos, if_neg, if_true, if_false, Option.bind_some, Prod.eta, reduceCtorEq, e, c1, c2]
        exact e2
    · have e2 := ih b (by omega) (by omega)
      simp (disch := omega) only [hz_nI_lit, hz_nI_add, hz_nI_mul, hz_nI_lt, hz_nI_le, hz_nI_inj, hz_nI_sub, hz_nI_nat, hz_nI_inb, hz_nI_pred, hz_nI_m1_lt, hz_nI_lt_m1, hz_nI_m1_le, hz_nI_le_m1, hz_nI_eq_m1, hz_nI_m1_eq, hz_bI0, if_pos, if_neg, if_true, if_false, Option.bind_some, Prod.eta, reduceCtorEq, e, c1]
      exact e2
set_option maxRecDepth 100000 in
theorem hz_p_strictest {mn mr ml t1 t2 t3 t4 row ix : Nat → Int32} {nx t5 : Int32} {t6 : Bool} {P m : Nat} (hm : m < 2147483648) (hP : P ≤ 8) (hR : hz_prtR t2 row mr ix P) : f_Mixture_strictest (mn, mr, ml, hz_nI P, nx) (t1, t2, t3, t4, t5, t6) (hz_nI m) = some (hz_ixG mn (hz_strT (fun i => hz_pD row ix i 1) (hz_maxT (fun i => hz_pD row ix i 1) P 0 (hz_nI 0)) P 0 m)) := by
  unfold f_Mixture_strictest
  rw [hz_p_strict hP hR, Option.bind_some]
  exact hz_p_strictest_12 hm hP hR P 4096 0 0 (by omega) (by omega) (by omega) (by omega)
set_option maxRecDepth 100000 in
theorem hz_q_strict_24 {g1 : Int32 × Int32} {g2 : hz_M2} {g3 : hz_M3} {m0 nx : Int32} {ge : Bool} {row pt am ix : Nat → Int32} {r : hz_MQ9} {P : Nat} (hP : P ≤ 8) (hR : hz_ixR ix P) : ∀ k n i l, P = i + k → k < n → l < 2147483648 → f_Model_strict_24 n (g1, g2, g3, (m0, ge, row), (hz_nI P, pt, am, ix, nx), r) (hz_nI l) (hz_nI i) = some (hz_ixG pt (hz_strT (fun i => hz_pD row ix i 1) (hz_maxT (fun i => hz_pD row ix i 1) P 0 (hz_nI 0)) k i l), (g1, g2, g3, (m0, ge, row), (hz_nI P, pt, am, ix, nx), r))
  | 0, n + 1, i, l, h1, h2, h3 => by
    rw [f_Model_strict_24]
    simp (disch := omega) only [hz_nI_lit, hz_nI_add, hz_nI_mul, hz_nI_lt, hz_nI_le, hz_nI_inj, hz_nI_sub, hz_nI_nat, hz_nI_inb, hz_nI_pred, hz_nI_m1_lt, hz_nI_lt_m1, hz_nI_m1_le, hz_nI_le_m1, hz_nI_eq_m1, hz_nI_m1_eq, hz_bI0, if_pos, if_neg, if_true, if_false, Option.bind_some, Prod.eta, reduceCtorEq, hz_strT, hz_ixG]
  | k + 1, n + 1, i, l, h1, h2, h3 => by
    have ih := fun l => hz_q_strict_24 (g1 := g1) (g2 := g2) (g3 := g3) (m0 := m0) (ge := ge) (row := row) (pt := pt) (am := am) (nx := nx) (r := r) hP hR k n (i + 1) l (by omega) (by omega)
    obtain ⟨q, q1, q2⟩ := hR i (by omega)
    have e : row (q * 43 + 2) = hz_pD row ix i 1 := by rw [hz_pD_eq q2 q1]
    have e8 := hz_q_strict (g1 := g1) (g2 := g2) (g3 := g3) (m0 := m0) (ge := ge) (row := row) (pt := pt) (am := am) (nx := nx) (r := r) hP hR
    rw [f_Model_strict_24]
    unfold hz_strT
    generalize hz_maxT (fun i => hz_pD row ix i 1) P 0 (hz_nI 0) = s at *
    by_cases c1 : hz_pD row ix i 1 = s
    · by_cases c2 : l = 0
      · subst c2
        simp (disch := omega) only [hz_nI_lit, hz_nI_add, hz_nI_mul, hz_nI_lt, hz_nI_le, hz_nI_inj, hz_nI_sub, hz_nI_nat, hz_nI_inb, hz_nI_pred, hz_nI_m1_lt, hz_nI_lt_m1, hz_nI_m1_le, hz_nI_le_m1, hz_nI_eq_m1, hz_nI_m1_eq, hz_bI0, if_pos, if_neg, if_true, if_false, Option.bind_some, Prod.eta, reduceCtorEq, q2, e, e8, c1, hz_ixG]
      · have e2 := ih (l - 1) (by omega)
        simp (disch := omega) only [hz_nI_lit, hz_nI_add, hz_nI_mul, hz_nI_lt, hz_nI_le, hz_nI_inj, hz_nI_sub, hz_nI_nat, hz_nI_inb, hz_nI_pred, hz_nI_m1_lt, hz_nI_lt_m1, hz_nI_m1_le, hz_nI_le_m1, hz_nI_eq_m1, hz_nI_m1_eq, hz_bI0, if_pos, if_neg, if_true, if_false, Option.bind_some, Prod.eta, reduceCtorEq, q2, e, e8, c1, c2]
        exact e2
    · have e2 := ih l (by omega)
      simp (disch := omega) only [hz_nI_lit, hz_nI_add, hz_nI_mul, hz_nI_lt, hz_nI_le, hz_nI_inj, hz_nI_sub, hz_nI_nat, hz_nI_inb, hz_nI_pred, hz_nI_m1_lt, hz_nI_lt_m1, hz_nI_m1_le, hz_nI_le_m1, hz_nI_eq_m1, hz_nI_m1_eq, hz_bI0, if_pos, if_neg, if_true, if_false, Option.bind_some, Prod.eta, reduceCtorEq, q2, e, e8, c1]
      exact e2
abbrev hz_MG : Type := hz_M2 × hz_M3 × hz_MR
set_option maxRecDepth 100000 in
theorem hz_goesT {g1 : Int32 × Int32} {R : hz_MG} : f_Model_goes (g1, R) true true true = some (true, ((hz_nI 0, g1.2), R)) := by
  unfold f_Model_goes
  simp (disch := omega) only [hz_nI_lit, hz_nI_add, hz_nI_mul, hz_nI_lt, hz_nI_le, hz_nI_inj, hz_nI_sub, hz_nI_nat, hz_nI_inb, hz_nI_pred, hz_nI_m1_lt, hz_nI_lt_m1, hz_nI_m1_le, hz_nI_le_m1, hz_nI_eq_m1, hz_nI_m1_eq, hz_bI0, if_pos, if_neg, if_true, if_false, Option.bind_some, Prod.eta, reduceCtorEq, Bool.true_eq_false]
set_option maxRecDepth 100000 in
theorem hz_goes1 {g1 : Int32 × Int32} {R : hz_MG} {b c : Bool} : f_Model_goes (g1, R) false b c = some (false, ((hz_nI 1, g1.2), R)) := by
  unfold f_Model_goes
  simp (disch := omega) only [hz_nI_lit, hz_nI_add, hz_nI_mul, hz_nI_lt, hz_nI_le, hz_nI_inj, hz_nI_sub, hz_nI_nat, hz_nI_inb, hz_nI_pred, hz_nI_m1_lt, hz_nI_lt_m1, hz_nI_m1_le, hz_nI_le_m1, hz_nI_eq_m1, hz_nI_m1_eq, hz_bI0, if_pos, if_neg, if_true, if_false, Option.bind_some, Prod.eta, reduceCtorEq, Bool.true_eq_false]
set_option maxRecDepth 100000 in
theorem hz_goes2 {g1 : Int32 × Int32} {R : hz_MG} {c : Bool} : f_Model_goes (g1, R) true false c = some (false, ((hz_nI 2, g1.2), R)) := by
  unfold f_Model_goes
  simp (disch := omega) only [hz_nI_lit, hz_nI_add, hz_nI_mul, hz_nI_lt, hz_nI_le, hz_nI_inj, hz_nI_sub, hz_nI_nat, hz_nI_inb, hz_nI_pred, hz_nI_m1_lt, hz_nI_lt_m1, hz_nI_m1_le, hz_nI_le_m1, hz_nI_eq_m1, hz_nI_m1_eq, hz_bI0, if_pos, if_neg, if_true, if_false, Option.bind_some, Prod.eta, reduceCtorEq, Bool.true_eq_false]
set_option maxRecDepth 100000 in
theorem hz_goes3 {g1 : Int32 × Int32} {R : hz_MG} : f_Model_goes (g1, R) true true false = some (false, ((hz_nI 3, g1.2), R)) := by
  unfold f_Model_goes
  simp (disch := omega) only [hz_nI_lit, hz_nI_add, hz_nI_mul, hz_nI_lt, hz_nI_le, hz_nI_inj, hz_nI_sub, hz_nI_nat, hz_nI_inb, hz_nI_pred, hz_nI_m1_lt, hz_nI_lt_m1, hz_nI_m1_le, hz_nI_le_m1, hz_nI_eq_m1, hz_nI_m1_eq, hz_bI0, if_pos, if_neg, if_true, if_false, Option.bind_some, Prod.eta, reduceCtorEq, Bool.true_eq_false]
set_option maxRecDepth 100000 in
theorem hz_p_isOutside (x a b : Int32) : f_HT_isOutside x a b = some (!hz_inR x a b) := by
  unfold f_HT_isOutside hz_inR
  simp only [Int32.lt_iff_toInt_lt, Int32.le_iff_toInt_le]
  split
  · simp only [Option.some.injEq, Bool.true_eq, Bool.not_eq_true', decide_eq_false_iff_not]; omega
  · split
    · simp only [Option.some.injEq, Bool.false_eq, Bool.not_eq_false', decide_eq_true_eq]; omega
    · simp only [Option.some.injEq, Bool.true_eq, Bool.not_eq_true', decide_eq_false_iff_not]; omega
set_option maxRecDepth 100000 in
theorem hz_o_inb : inb (0 : Int32) 1 := by decide
set_option maxRecDepth 100000 in
theorem hz_o_0 : (0 : Int32).toNatClampNeg = 0 := by decide
set_option maxRecDepth 100000 in
theorem hz_cmp_self (x : Int64) : lg_cmp x x = 0 := by
  unfold lg_cmp
  rw [if_neg (by simp), if_pos rfl]
set_option maxRecDepth 100000 in
theorem hz_o_eq (ot : SOut) (x : Int32) : lg_cmp (vp_updL ot (0 : Int32).toNatClampNeg x.toInt64 (0 : Int32).toNatClampNeg) x.toInt64 = 0 := by
  unfold vp_updL
  rw [if_pos rfl]
  exact hz_cmp_self _
set_option maxRecDepth 100000 in
def hz_ans (k : Int32) (ot' : SOut) (th : Int32) (b : Int64) : Prop := th = k ∧ (k = 0 → lg_cmp (ot' (0 : Int32).toNatClampNeg) b = 0)
set_option maxRecDepth 100000 in
def hz_invA (rd : SReader) (g2 : hz_M2) : Prop := ∃ tp L ra rv rw a2 w2, rd = (tp, hz_nI L, ra, rv, rw) ∧ g2 = (hz_nI L, tp, a2, w2) ∧ L ≤ 400 ∧ ∀ i, ∃ d, d ≤ 255 ∧ tp i = hz_nI d
set_option maxRecDepth 100000 in
def hz_invT (tb : STable) (g4 : hz_M3) : Prop := ∃ t1 t2 t3 t4 M gen row, tb = (t1, t2, t3, t4, hz_nI M, gen) ∧ g4 = (hz_nI M, gen, row) ∧ M ≤ 12 ∧ hz_tabR t1 t2 t3 t4 row M gen
abbrev hz_M5 : Type := Int32 × (Nat → Int32) × (Nat → Int32) × (Nat → Int32) × Int32
set_option maxRecDepth 100000 in
def hz_invX (mx : SMixture) (t2 row : Nat → Int32) (g5 : hz_M5) : Prop := ∃ mn mr ml pt am ix P nx, mx = (mn, mr, ml, hz_nI P, hz_nI nx) ∧ g5 = (hz_nI P, pt, am, ix, hz_nI nx) ∧ P ≤ 8 ∧ (∀ i, i < P → mn i = pt i) ∧ hz_prtR t2 row mr ix P ∧ hz_larR ml am P ∧ 1 ≤ nx ∧ nx ≤ 6 ∧ (nx ≤ 3 ∨ hz_nI 5 ≤ hz_maxT (fun i => hz_pD row ix i 1) P 0 (hz_nI 0))
set_option maxRecDepth 100000 in
theorem hz_ixG_congr {f g : Nat → Int32} {h : Nat → Int32} {s : Int32} {P l : Nat} (e : ∀ i, i < P → f i = g i) : hz_ixG f (hz_strT h s P 0 l) = hz_ixG g (hz_strT h s P 0 l) := by
  have key : ∀ n p l q, hz_strT h s n p l = some q → q < p + n := by
    intro n
    induction n with
    | zero => intro p l q hq; simp [hz_strT] at hq
    | succ n ih =>
      intro p l q hq
      unfold hz_strT at hq
      split at hq
      · split at hq
        · cases hq; omega
        · have := ih _ _ _ hq; omega
      · have := ih _ _ _ hq; omega
  cases hq : hz_strT h s P 0 l with
  | none => rfl
  | some q => exact e q (by have := key P 0 l q hq; omega)
set_option maxRecDepth 100000 in
theorem hz_op_mixture {ht : SHT} {ot : SOut} {mx : SMixture} {tb : STable} {g1 : Int32 × Int32} {g2 : hz_M2} {g3 : hz_M3} {g4 : hz_M3} {g5 : hz_M5} {r : hz_MQ9} {x : Int32} (hT : hz_invT tb g4) (hX : hz_invX mx tb.2.1 g4.2.2 g5) :
    ∃ k ot' th b, f_Law_mixture ht ot mx tb x = some (k, ot') ∧ f_Model_mixture (g1, g2, g3, g4, g5, r) x = some (b, ((th, g1.2), g2, g3, g4, g5, r)) ∧ hz_ans k ot' th b.toInt64 := by
  obtain ⟨t1, t2, t3, t4, M, gen, row, rfl, rfl, hM, hT⟩ := hT
  obtain ⟨mn, mr, ml, pt, am, ix, P, nx, rfl, rfl, hP, hmn, hR, hl, hn1, hn6, hs⟩ := hX
  have hR : hz_prtR t2 row mr ix P := hR
  have hI := hz_ixR_of hR
  unfold f_Law_mixture f_HT_mixture f_Model_mixture f_Model_mixture_19
  rw [hz_p_isOutside, hz_q_within]
  cases h1 : hz_inR x 0 5
  · refine ⟨1, ot, 1, 0, ?_, ?_, rfl, fun h => absurd h (by decide)⟩
    · rfl
    · simp only [Option.bind_some, hz_goes1]
      split <;> rfl
  · by_cases hP0 : P = 0
    · subst hP0
      refine ⟨2, ot, 2, 0, ?_, ?_, rfl, fun h => absurd h (by decide)⟩
      · rfl
      · simp only [Option.bind_some, hz_goes2]
        rfl
    · have hne : ¬ hz_nI P = hz_nI 0 := by rw [hz_nI_inj (by omega) (by omega)]; exact hP0
      have hnl : ¬ hz_nI P ≤ hz_nI 0 := by rw [hz_nI_le (by omega) (by omega)]; omega
      have hD := hz_disR_of hR
      have e35 := hz_q_mix_35 (g1 := (hz_nI 0, g1.2)) (g2 := g2) (g3 := g3) (m0 := hz_nI M) (ge := gen) (row := row) (pt := pt) (am := am) (nx := hz_nI nx) (y1 := x) (r := r) hP hI P 4096 0 (hz_nI 0) (hz_nI 0) (by omega) (by omega)
      have hfin : ∀ v, (Option.bind (some v) fun u5 => some (Sum.inl u5 : Int32 ⊕ (Nat × Unit))) = some (.inl v) := fun v => rfl
      have goal : ∀ v : Int32, f_HT_mixture ht (mn, mr, ml, hz_nI P, hz_nI nx) (t1, t2, t3, t4, hz_nI M, gen) x = some (.inl v) → hz_mixF ((hz_nI 0, g1.2), g2, g3, (hz_nI M, gen, row), (hz_nI P, pt, am, ix, hz_nI nx), r) x (hz_orT (fun i => hz_pD row ix i 2) P 0 (hz_nI 0)) (hz_pairsT row ix P 0 (hz_nI 0)) = some (v, ((hz_nI 0, g1.2), g2, g3, (hz_nI M, gen, row), (hz_nI P, pt, am, ix, hz_nI nx), r)) → ∃ k ot' th b, f_Law_mixture ht ot (mn, mr, ml, hz_nI P, hz_nI nx) (t1, t2, t3, t4, hz_nI M, gen) x = some (k, ot') ∧ f_Model_mixture (g1, g2, g3, (hz_nI M, gen, row), (hz_nI P, pt, am, ix, hz_nI nx), r) x = some (b, ((th, g1.2), g2, g3, (hz_nI M, gen, row), (hz_nI P, pt, am, ix, hz_nI nx), r)) ∧ hz_ans k ot' th b.toInt64 := by
        intro v hC hQ
        refine ⟨0, vp_updL ot (0 : Int32).toNatClampNeg v.toInt64, 0, v, ?_, ?_, rfl, fun _ => hz_o_eq ot v⟩
        · unfold f_Law_mixture
          rw [hC, Option.bind_some]
          simp only [Sum.elim_inl]
          rw [if_pos hz_o_inb]
        · unfold f_Model_mixture f_Model_mixture_19
          rw [hz_q_within, h1, Option.bind_some, if_neg (show ¬ (hz_nI P ≤ 0) from hnl), hz_goesT, Option.bind_some, if_neg (show ¬ (bI true = 0) by decide)]
          exact e35.trans hQ
      have hx := hz_inR_eq (x := x) (f := 0) (t := 5) (by omega) (by omega) h1
      obtain ⟨d, d1, d2, rfl⟩ := hx
      have hC0 : ∀ v, (if hz_nI d = (0 : Int32) then (Option.bind (f_Mixture_strictness (mn, mr, ml, hz_nI P, hz_nI nx) (t1, t2, t3, t4, hz_nI M, gen)) fun u5 => some (Sum.inl u5 : Int32 ⊕ (Nat × Unit))) else if hz_nI d = (1 : Int32) then (Option.bind (f_Mixture_gear (mn, mr, ml, hz_nI P, hz_nI nx) (t1, t2, t3, t4, hz_nI M, gen)) fun u7 => some (.inl u7)) else if hz_nI d = (2 : Int32) then (Option.bind (f_Mixture_distance (mn, mr, ml, hz_nI P, hz_nI nx) (t1, t2, t3, t4, hz_nI M, gen) true) fun u9 => some (.inl u9)) else if hz_nI d = (3 : Int32) then (Option.bind (f_Mixture_distance (mn, mr, ml, hz_nI P, hz_nI nx) (t1, t2, t3, t4, hz_nI M, gen) false) fun u11 => some (.inl u11)) else if hz_nI d = (4 : Int32) then some (.inl (hz_nI P)) else (Option.bind (f_Mixture_contradictingPairs (mn, mr, ml, hz_nI P, hz_nI nx) (t1, t2, t3, t4, hz_nI M, gen)) fun u13 => some (.inl u13))) = some (.inl v) → f_HT_mixture ht (mn, mr, ml, hz_nI P, hz_nI nx) (t1, t2, t3, t4, hz_nI M, gen) (hz_nI d) = some (.inl v) := by
        intro v hv
        unfold f_HT_mixture
        rw [hz_p_isOutside, h1, Option.bind_some, if_pos (show bI (!true) = 0 from rfl), if_neg (show ¬ (hz_nI P = 0) from hne)]
        exact hv
      have eS := hz_p_strict (mn := mn) (ml := ml) (nx := hz_nI nx) (t1 := t1) (t3 := t3) (t4 := t4) (t5 := hz_nI M) (t6 := gen) hP hR
      have eG := hz_p_gear (mn := mn) (ml := ml) (nx := hz_nI nx) (t1 := t1) (t3 := t3) (t4 := t4) (t5 := hz_nI M) (t6 := gen) hP hR
      have eD := fun day => hz_p_dist (mn := mn) (nx := hz_nI nx) (t1 := t1) (t3 := t3) (t4 := t4) (t5 := hz_nI M) (t6 := gen) (day := day) hP hR hl
      have eP := hz_p_pairs (mn := mn) (ml := ml) (nx := hz_nI nx) (t1 := t1) (t3 := t3) (t4 := t4) (t5 := hz_nI M) (t6 := gen) hP hR
      have fS := hz_q_strict (g1 := (hz_nI 0, g1.2)) (g2 := g2) (g3 := g3) (m0 := hz_nI M) (ge := gen) (row := row) (pt := pt) (am := am) (nx := hz_nI nx) (r := r) hP hI
      have fD := fun day => hz_q_dist (g1 := (hz_nI 0, g1.2)) (g2 := g2) (g3 := g3) (m0 := hz_nI M) (ge := gen) (day := day) (row := row) (pt := pt) (am := am) (nx := hz_nI nx) (r := r) hP hI
      have hm1 := fun day => hz_dist_m1 (am := am) (day := day) hD (show 1 ≤ P by omega)
      rcases (by omega : d = 0 ∨ d = 1 ∨ d = 2 ∨ d = 3 ∨ d = 4 ∨ d = 5) with rfl | rfl | rfl | rfl | rfl | rfl
      · refine goal (hz_maxT (fun i => hz_pD row ix i 1) P 0 (hz_nI 0)) (hC0 (hz_maxT (fun i => hz_pD row ix i 1) P 0 (hz_nI 0)) ?_) ?_
        · rw [if_pos (show hz_nI 0 = 0 from rfl), eS]; rfl
        · unfold hz_mixF; rw [if_pos (show hz_nI 0 = 0 from rfl), fS]; rfl
      · refine goal (hz_orT (fun i => hz_pD row ix i 2) P 0 (hz_nI 0)) (hC0 (hz_orT (fun i => hz_pD row ix i 2) P 0 (hz_nI 0)) ?_) ?_
        · rw [if_neg (by decide), if_pos (show hz_nI 1 = 1 from rfl), eG]; rfl
        · unfold hz_mixF; rw [if_neg (by decide), if_pos (show hz_nI 1 = 1 from rfl)]
      · refine goal (hz_maxT (hz_dT row ix am true) P 0 (hz_nI 0)) (hC0 (hz_maxT (hz_dT row ix am true) P 0 (hz_nI 0)) ?_) ?_
        · rw [if_neg (by decide), if_neg (by decide), if_pos (show hz_nI 2 = 2 from rfl), eD, hm1]; rfl
        · unfold hz_mixF; rw [if_neg (by decide), if_neg (by decide), if_neg (by decide), if_pos (show hz_nI 2 = 2 from rfl), fD]; rfl
      · refine goal (hz_maxT (hz_dT row ix am false) P 0 (hz_nI 0)) (hC0 (hz_maxT (hz_dT row ix am false) P 0 (hz_nI 0)) ?_) ?_
        · rw [if_neg (by decide), if_neg (by decide), if_neg (by decide), if_pos (show hz_nI 3 = 3 from rfl), eD, hm1]; rfl
        · unfold hz_mixF; rw [if_neg (by decide), if_neg (by decide), if_neg (by decide), if_neg (by decide), fD]; rfl
      · refine goal (hz_nI P) (hC0 (hz_nI P) ?_) ?_
        · rw [if_neg (by decide), if_neg (by decide), if_neg (by decide), if_neg (by decide), if_pos (show hz_nI 4 = 4 from rfl)]
        · unfold hz_mixF; rw [if_neg (by decide), if_neg (by decide), if_pos (show (4 : Int32) ≤ hz_nI 4 by decide), if_pos (show hz_nI 4 = 4 from rfl)]
      · refine goal (hz_pairsT row ix P 0 (hz_nI 0)) (hC0 (hz_pairsT row ix P 0 (hz_nI 0)) ?_) ?_
        · rw [if_neg (by decide), if_neg (by decide), if_neg (by decide), if_neg (by decide), if_neg (by decide), eP]; rfl
        · unfold hz_mixF; rw [if_neg (by decide), if_neg (by decide), if_pos (show (4 : Int32) ≤ hz_nI 5 by decide), if_neg (by decide)]
set_option maxRecDepth 100000 in
theorem hz_q_find_2 {g1 : Int32 × Int32} {g2 : hz_M2} {g3 : hz_M3} {M : Nat} {gen : Bool} {row : Nat → Int32} {g5 : hz_M5} {r : hz_MQ9} {x : Int32} (hM : M ≤ 12) : ∀ j n k, k + j = M → j < n → f_Model_find_2 n (g1, g2, g3, (hz_nI M, gen, row), g5, r) x (hz_nI k) = some (hz_ixI (hz_fndT (fun k => row (k * 43)) x j k) 0)
  | 0, n + 1, k, h1, h2 => by
    rw [f_Model_find_2]
    simp only [hz_fndT, hz_ixI]
    simp (disch := omega) only [hz_nI_lit, hz_nI_add, hz_nI_mul, hz_nI_lt, hz_nI_le, hz_nI_inj, hz_nI_sub, hz_nI_nat, hz_nI_inb, hz_nI_pred, hz_nI_m1_lt, hz_nI_lt_m1, hz_nI_m1_le, hz_nI_le_m1, hz_nI_eq_m1, hz_nI_m1_eq, hz_bI0, if_pos, if_neg, if_true, if_false, Option.bind_some, Prod.eta, reduceCtorEq]
  | j + 1, n + 1, k, h1, h2 => by
    have ih := hz_q_find_2 (g1 := g1) (g2 := g2) (g3 := g3) (gen := gen) (row := row) (g5 := g5) (r := r) (x := x) hM j n (k + 1) (by omega) (by omega)
    rw [f_Model_find_2]
    unfold hz_fndT
    by_cases c : row (k * 43) = x
    · rw [if_pos c]
      simp only [hz_ixI]
      simp (disch := omega) only [hz_nI_lit, hz_nI_add, hz_nI_mul, hz_nI_lt, hz_nI_le, hz_nI_inj, hz_nI_sub, hz_nI_nat, hz_nI_inb, hz_nI_pred, hz_nI_m1_lt, hz_nI_lt_m1, hz_nI_m1_le, hz_nI_le_m1, hz_nI_eq_m1, hz_nI_m1_eq, hz_bI0, if_pos, if_neg, if_true, if_false, Option.bind_some, Prod.eta, reduceCtorEq, c, Nat.add_zero]
    · rw [if_neg c, ← ih]
      simp (disch := omega) only [hz_nI_lit, hz_nI_add, hz_nI_mul, hz_nI_lt, hz_nI_le, hz_nI_inj, hz_nI_sub, hz_nI_nat, hz_nI_inb, hz_nI_pred, hz_nI_m1_lt, hz_nI_lt_m1, hz_nI_m1_le, hz_nI_le_m1, hz_nI_eq_m1, hz_nI_m1_eq, hz_bI0, if_pos, if_neg, if_true, if_false, Option.bind_some, Prod.eta, reduceCtorEq, c, Nat.add_zero]
set_option maxRecDepth 100000 in
theorem hz_q_find {g1 : Int32 × Int32} {g2 : hz_M2} {g3 : hz_M3} {M : Nat} {gen : Bool} {row : Nat → Int32} {g5 : hz_M5} {r : hz_MQ9} {x : Int32} (hM : M ≤ 12) : f_Model_find (g1, g2, g3, (hz_nI M, gen, row), g5, r) x = some (hz_ixI (hz_fndT (fun k => row (k * 43)) x M 0) 0) := by
  unfold f_Model_find
  exact hz_q_find_2 hM M 4096 0 (by omega) (by omega)
set_option maxRecDepth 100000 in
theorem hz_tab_num {t1 t2 t3 t4 row : Nat → Int32} {M : Nat} {gen : Bool} {x : Int32} (hT : hz_tabR t1 t2 t3 t4 row M gen) : hz_fndT (fun k => t1 (k + 1)) x M 0 = hz_fndT (fun k => row (k * 43)) x M 0 := hz_fndT_congr M 0 (fun i _ hi => by
  obtain ⟨⟨v9, _, _, h3, h4⟩, _⟩ := hT.1 i (by omega)
  show t1 (i + 1) = row (i * 43)
  rw [h3, h4])
set_option maxRecDepth 100000 in
theorem hz_p_others {t1 t2 t3 t4 : Nat → Int32} {t5 : Int32} {gen : Bool} : f_Table_rowOfOthers (t1, t2, t3, t4, t5, gen) = some (if gen = true then hz_nI 0 else -hz_nI 1) := by
  unfold f_Table_rowOfOthers
  cases gen <;> rfl
set_option maxRecDepth 100000 in
theorem hz_op_material {ht : SHT} {ot : SOut} {tb : STable} {g1 : Int32 × Int32} {g2 : hz_M2} {g3 : hz_M3} {g4 : hz_M3} {g5 : hz_M5} {r : hz_MQ9} {x y : Int32} (hT : hz_invT tb g4) :
    ∃ k ot' th b, f_Law_material ht ot tb x y = some (k, ot') ∧ f_Model_material (g1, g2, g3, g4, g5, r) x y = some (b, ((th, g1.2), g2, g3, g4, g5, r)) ∧ hz_ans k ot' th b.toInt64 := by
  obtain ⟨t1, t2, t3, t4, M, gen, row, rfl, rfl, hM, hT⟩ := hT
  have main : ∀ c k, c ≤ 12 → k ≤ 12 → hz_cellsR t2 row c (k * 43) → f_HT_material ht (t1, t2, t3, t4, hz_nI M, gen) x y = f_HT_material_22 ht (t1, t2, t3, t4, hz_nI M, gen) y (hz_nI c) → f_Model_material (g1, g2, g3, (hz_nI M, gen, row), g5, r) x y = f_Model_material_25 (g1, g2, g3, (hz_nI M, gen, row), g5, r) y (hz_nI k) → ∃ k ot' th b, f_Law_material ht ot (t1, t2, t3, t4, hz_nI M, gen) x y = some (k, ot') ∧ f_Model_material (g1, g2, g3, (hz_nI M, gen, row), g5, r) x y = some (b, ((th, g1.2), g2, g3, (hz_nI M, gen, row), g5, r)) ∧ hz_ans k ot' th b.toInt64 := by
    intro c k hc hk hcel eC eM
    cases h1 : hz_inR y 0 8
    · refine ⟨1, ot, 1, 0, ?_, ?_, rfl, fun h => absurd h (by decide)⟩
      · unfold f_Law_material
        rw [eC]
        have : f_HT_material_22 ht (t1, t2, t3, t4, hz_nI M, gen) y (hz_nI c) = some (.inr (0, ())) := by
          unfold f_HT_material_22
          rw [if_neg (show ¬ (hz_nI c = -1) by rw [show (-1 : Int32) = -hz_nI 1 from rfl, hz_nI_eq_m1 (by omega)]; exact id)]
          unfold hz_inR at h1
          simp only [decide_eq_false_iff_not, Int32.lt_iff_toInt_lt, Int32.le_iff_toInt_le, show (0 : Int32).toInt = 0 by decide, show (8 : Int32).toInt = 8 by decide] at h1
          by_cases c1 : y < 0
          · rw [if_pos c1]
          · rw [if_neg c1, if_neg (by rw [Int32.lt_iff_toInt_lt] at c1 ⊢; simp only [show (0 : Int32).toInt = 0 by decide, show (9 : Int32).toInt = 9 by decide] at *; omega)]
        rw [this, Option.bind_some, Sum.elim_inr, if_pos rfl]
      · rw [eM]
        unfold f_Model_material_25 f_Model_material_45 f_Model_material_46
        rw [if_neg (show ¬ (hz_nI k < 0) by rw [hz_nI_lit, hz_nI_lt (by omega) (by omega)]; omega), hz_q_within, h1, Option.bind_some, if_pos (show bI false = 0 from rfl), hz_goes1, Option.bind_some, if_pos (show bI false = 0 from rfl), hz_nI_lit, hz_nI_lit]
    · obtain ⟨d, d1, d2, rfl⟩ := hz_inR_eq (x := y) (f := 0) (t := 8) (by omega) (by omega) h1
      refine ⟨0, vp_updL ot (0 : Int32).toNatClampNeg (t2 (c * 9 + d)).toInt64, 0, t2 (c * 9 + d), ?_, ?_, rfl, fun _ => hz_o_eq ot _⟩
      · unfold f_Law_material
        rw [eC]
        have : f_HT_material_22 ht (t1, t2, t3, t4, hz_nI M, gen) (hz_nI d) (hz_nI c) = some (.inl (t2 (c * 9 + d))) := by
          unfold f_HT_material_22
          simp (disch := omega) only [hz_nI_lit, hz_nI_add, hz_nI_mul, hz_nI_lt, hz_nI_le, hz_nI_inj, hz_nI_sub, hz_nI_nat, hz_nI_inb, hz_nI_pred, hz_nI_m1_lt, hz_nI_lt_m1, hz_nI_m1_le, hz_nI_le_m1, hz_nI_eq_m1, hz_nI_m1_eq, hz_bI0, if_pos, if_neg, if_true, if_false, Option.bind_some, Prod.eta, reduceCtorEq, hz_p_cell hc (show d < 9 by omega)]
        rw [this, Option.bind_some]
        simp only [Sum.elim_inl]
        rw [if_pos hz_o_inb]
      · rw [eM, hcel.1 d (by omega)]
        unfold f_Model_material_25 f_Model_material_45 f_Model_material_46
        rw [if_neg (show ¬ (hz_nI k < 0) by rw [hz_nI_lit, hz_nI_lt (by omega) (by omega)]; omega), hz_q_within, h1, Option.bind_some, if_neg (show ¬ (bI true = 0) by decide), hz_goesT, Option.bind_some, if_neg (show ¬ (bI true = 0) by decide)]
        by_cases c3 : 3 ≤ d
        · by_cases c7 : 7 ≤ d
          · by_cases c8 : d = 7
            · subst c8
              simp (disch := omega) only [hz_nI_lit, hz_nI_add, hz_nI_mul, hz_nI_lt, hz_nI_le, hz_nI_inj, hz_nI_sub, hz_nI_nat, hz_nI_inb, hz_nI_pred, hz_nI_m1_lt, hz_nI_lt_m1, hz_nI_m1_le, hz_nI_le_m1, hz_nI_eq_m1, hz_nI_m1_eq, hz_bI0, if_pos, if_neg, if_true, if_false, Option.bind_some, Prod.eta, reduceCtorEq]
            · have : d = 8 := by omega
              subst this
              simp (disch := omega) only [hz_nI_lit, hz_nI_add, hz_nI_mul, hz_nI_lt, hz_nI_le, hz_nI_inj, hz_nI_sub, hz_nI_nat, hz_nI_inb, hz_nI_pred, hz_nI_m1_lt, hz_nI_lt_m1, hz_nI_m1_le, hz_nI_le_m1, hz_nI_eq_m1, hz_nI_m1_eq, hz_bI0, if_pos, if_neg, if_true, if_false, Option.bind_some, Prod.eta, reduceCtorEq]
          · simp (disch := omega) only [hz_nI_lit, hz_nI_add, hz_nI_mul, hz_nI_lt, hz_nI_le, hz_nI_inj, hz_nI_sub, hz_nI_nat, hz_nI_inb, hz_nI_pred, hz_nI_m1_lt, hz_nI_lt_m1, hz_nI_m1_le, hz_nI_le_m1, hz_nI_eq_m1, hz_nI_m1_eq, hz_bI0, if_pos, if_neg, if_true, if_false, Option.bind_some, Prod.eta, reduceCtorEq, show 4 + d - 3 = 1 + d by omega]
            rw [show k * 43 + (1 + d) = k * 43 + 1 + d by omega]
        · simp (disch := omega) only [hz_nI_lit, hz_nI_add, hz_nI_mul, hz_nI_lt, hz_nI_le, hz_nI_inj, hz_nI_sub, hz_nI_nat, hz_nI_inb, hz_nI_pred, hz_nI_m1_lt, hz_nI_lt_m1, hz_nI_m1_le, hz_nI_le_m1, hz_nI_eq_m1, hz_nI_m1_eq, hz_bI0, if_pos, if_neg, if_true, if_false, Option.bind_some, Prod.eta, reduceCtorEq]
          rw [show k * 43 + (1 + d) = k * 43 + 1 + d by omega]
  have refuse : f_HT_material ht (t1, t2, t3, t4, hz_nI M, gen) x y = f_HT_material_22 ht (t1, t2, t3, t4, hz_nI M, gen) y (-hz_nI 1) → f_Model_material (g1, g2, g3, (hz_nI M, gen, row), g5, r) x y = f_Model_material_25 (g1, g2, g3, (hz_nI M, gen, row), g5, r) y (-hz_nI 1) → ∃ k ot' th b, f_Law_material ht ot (t1, t2, t3, t4, hz_nI M, gen) x y = some (k, ot') ∧ f_Model_material (g1, g2, g3, (hz_nI M, gen, row), g5, r) x y = some (b, ((th, g1.2), g2, g3, (hz_nI M, gen, row), g5, r)) ∧ hz_ans k ot' th b.toInt64 := by
    intro eC eM
    refine ⟨1, ot, 1, 0, ?_, ?_, rfl, fun h => absurd h (by decide)⟩
    · unfold f_Law_material
      rw [eC]
      unfold f_HT_material_22
      rw [if_pos (show -hz_nI 1 = -1 from rfl), Option.bind_some, Sum.elim_inr, if_pos rfl]
    · rw [eM]
      unfold f_Model_material_25 f_Model_material_45 f_Model_material_46
      rw [if_pos (show -hz_nI 1 < (0 : Int32) by decide), hz_goes1, Option.bind_some, if_pos (show bI false = 0 from rfl), hz_nI_lit, hz_nI_lit]
  by_cases c0 : x = 0
  · cases gen
    · refine refuse ?_ ?_
      · unfold f_HT_material; rw [if_pos c0, hz_p_others, Option.bind_some, if_neg (by decide)]
      · unfold f_Model_material; rw [if_pos c0, if_pos (show bI false = 0 from rfl), hz_nI_lit]
    · refine main 0 12 (by omega) (by omega) (hT.2.2 rfl) ?_ ?_
      · unfold f_HT_material; rw [if_pos c0, hz_p_others, Option.bind_some, if_pos rfl]
      · unfold f_Model_material; rw [if_pos c0, if_neg (show ¬ (bI true = 0) by decide), hz_nI_lit]
  · have eC : f_HT_material ht (t1, t2, t3, t4, hz_nI M, gen) x y = f_HT_material_22 ht (t1, t2, t3, t4, hz_nI M, gen) y (hz_ixI (hz_fndT (fun k => row (k * 43)) x M 0) 1) := by
      unfold f_HT_material; rw [if_neg c0, hz_p_rowOf hM, hz_tab_num hT, Option.bind_some]
    have eM : f_Model_material (g1, g2, g3, (hz_nI M, gen, row), g5, r) x y = f_Model_material_25 (g1, g2, g3, (hz_nI M, gen, row), g5, r) y (hz_ixI (hz_fndT (fun k => row (k * 43)) x M 0) 0) := by
      unfold f_Model_material; rw [if_neg c0, hz_q_find hM, Option.bind_some]
    cases hf : hz_fndT (fun k => row (k * 43)) x M 0 with
    | none =>
      rw [hf] at eC eM
      exact refuse eC eM
    | some q =>
      have hq := hz_fndT_some M 0 q hf
      rw [hf] at eC eM
      exact main (q + 1) q (by omega) (by omega) (hT.1 q (by omega)).2.1 eC eM
set_option maxRecDepth 100000 in
theorem hz_op_strict {ht : SHT} {ot : SOut} {mx : SMixture} {tb : STable} {g1 : Int32 × Int32} {g2 : hz_M2} {g3 : hz_M3} {g4 : hz_M3} {g5 : hz_M5} {r : hz_MQ9} {x : Int32} (hT : hz_invT tb g4) (hX : hz_invX mx tb.2.1 g4.2.2 g5) :
    ∃ k ot' th b, f_Law_strict ht ot mx tb x = some (k, ot') ∧ f_Model_strict (g1, g2, g3, g4, g5, r) x = some (b, ((th, g1.2), g2, g3, g4, g5, r)) ∧ hz_ans k ot' th b.toInt64 := by
  obtain ⟨t1, t2, t3, t4, M, gen, row, rfl, rfl, hM, hT⟩ := hT
  obtain ⟨mn, mr, ml, pt, am, ix, P, nx, rfl, rfl, hP, hmn, hR, hl, hn1, hn6, hs⟩ := hX
  have hR : hz_prtR t2 row mr ix P := hR
  have hI := hz_ixR_of hR
  by_cases c : x < 0
  · refine ⟨1, ot, 1, 0, ?_, ?_, rfl, fun h => absurd h (by decide)⟩
    · unfold f_Law_strict f_HT_strict
      rw [if_neg (by rw [Int32.not_le]; exact c)]
      rfl
    · unfold f_Model_strict f_Model_strict_10
      rw [if_pos c, hz_goes1, Option.bind_some, if_pos (show bI false = 0 from rfl)]
      rfl
  · obtain ⟨m, hm, rfl, _⟩ := hz_nI_of (x := x) (by rw [Int32.lt_iff_toInt_lt] at c; simp only [show (0 : Int32).toInt = 0 by decide] at c; omega)
    have e1 := hz_p_strictest (mn := mn) (ml := ml) (nx := hz_nI nx) (t1 := t1) (t3 := t3) (t4 := t4) (t5 := hz_nI M) (t6 := gen) hm hP hR
    have e2 := hz_q_strict_24 (g1 := (hz_nI 0, g1.2)) (g2 := g2) (g3 := g3) (m0 := hz_nI M) (ge := gen) (row := row) (pt := pt) (am := am) (nx := hz_nI nx) (r := r) hP hI P 4096 0 m (by omega) (by omega) hm
    rw [hz_ixG_congr hmn] at e1
    refine ⟨0, vp_updL ot (0 : Int32).toNatClampNeg (hz_ixG pt (hz_strT (fun i => hz_pD row ix i 1) (hz_maxT (fun i => hz_pD row ix i 1) P 0 (hz_nI 0)) P 0 m)).toInt64, 0, _, ?_, ?_, rfl, fun _ => hz_o_eq ot _⟩
    · unfold f_Law_strict f_HT_strict
      rw [if_pos (by rw [← Int32.not_lt]; exact c), e1, Option.bind_some, Option.bind_some]
      simp only [Sum.elim_inl]
      rw [if_pos hz_o_inb]
    · unfold f_Model_strict f_Model_strict_10
      rw [if_neg c, hz_goesT, Option.bind_some, if_neg (show ¬ (bI true = 0) by decide)]
      exact e2
set_option maxRecDepth 100000 in
theorem hz_op_clear {ht : SHT} {mx : SMixture} {t2 row : Nat → Int32} {g1 : Int32 × Int32} {g2 : hz_M2} {g3 : hz_M3} {g4 : hz_M3} {g5 : hz_M5} {r : hz_MQ9} (hX : hz_invX mx t2 row g5) :
    ∃ mx' g5' th, f_HT_clear ht mx = some mx' ∧ f_Model_clear (g1, g2, g3, g4, g5, r) = some ((th, g1.2), g2, g3, g4, g5', r) ∧ hz_invX mx' t2 row g5' := by
  obtain ⟨mn, mr, ml, pt, am, ix, P, nx, rfl, rfl, hP, hmn, hR, hl, hn1, hn6, hs⟩ := hX
  exact ⟨_, _, _, rfl, rfl, mn, mr, ml, pt, am, ix, 0, 1, rfl, rfl, by omega, fun i hi => by omega, fun i hi => by omega, fun i hi => by omega, by omega, by omega, Or.inl (by omega)⟩
set_option maxRecDepth 100000 in
theorem hz_maxT_succ (f : Nat → Int32) : ∀ n i b, hz_maxT f (n + 1) i b = if hz_maxT f n i b < f (i + n) then f (i + n) else hz_maxT f n i b
  | 0, i, b => rfl
  | n + 1, i, b => by
    have := hz_maxT_succ f n (i + 1) (if b < f i then f i else b)
    rw [hz_maxT, this, show i + 1 + n = i + (n + 1) by omega]
    rfl
set_option maxRecDepth 100000 in
theorem hz_maxT_congr {f g : Nat → Int32} : ∀ n i b, (∀ j, i ≤ j → j < i + n → f j = g j) → hz_maxT f n i b = hz_maxT g n i b
  | 0, i, b, h => rfl
  | n + 1, i, b, h => by
    unfold hz_maxT
    rw [h i (by omega) (by omega), hz_maxT_congr n (i + 1) _ (fun j h1 h2 => h j (by omega) (by omega))]
set_option maxRecDepth 100000 in
theorem hz_op_step {ht : SHT} {ot : SOut} {mx : SMixture} {tb : STable} {g1 : Int32 × Int32} {g2 : hz_M2} {g3 : hz_M3} {g4 : hz_M3} {g5 : hz_M5} {r : hz_MQ9} {x : Int32} (hT : hz_invT tb g4) (hX : hz_invX mx tb.2.1 g4.2.2 g5) :
    ∃ k ot' mx' th b g5', f_Law_step ht ot mx tb x = some (k, ot', mx') ∧ f_Model_step (g1, g2, g3, g4, g5, r) x = some (b, ((th, g1.2), g2, g3, g4, g5', r)) ∧ hz_ans k ot' th b.toInt64 ∧ hz_invX mx' tb.2.1 g4.2.2 g5' := by
  have hX0 := hX
  obtain ⟨t1, t2, t3, t4, M, gen, row, rfl, rfl, hM, hT⟩ := hT
  obtain ⟨mn, mr, ml, pt, am, ix, P, nx, rfl, rfl, hP, hmn, hR, hl, hn1, hn6, hs⟩ := hX
  have hR : hz_prtR t2 row mr ix P := hR
  have hI := hz_ixR_of hR
  have ref : ∀ k9 : Nat, (k9 = 1 ∨ k9 = 2) → f_HT_step ht (mn, mr, ml, hz_nI P, hz_nI nx) (t1, t2, t3, t4, hz_nI M, gen) x = some (.inr (k9, (mn, mr, ml, hz_nI P, hz_nI nx))) → f_Model_step (g1, g2, g3, (hz_nI M, gen, row), (hz_nI P, pt, am, ix, hz_nI nx), r) x = some (hz_nI 0, ((hz_nI k9, g1.2), g2, g3, (hz_nI M, gen, row), (hz_nI P, pt, am, ix, hz_nI nx), r)) → ∃ k ot' mx' th b g5', f_Law_step ht ot (mn, mr, ml, hz_nI P, hz_nI nx) (t1, t2, t3, t4, hz_nI M, gen) x = some (k, ot', mx') ∧ f_Model_step (g1, g2, g3, (hz_nI M, gen, row), (hz_nI P, pt, am, ix, hz_nI nx), r) x = some (b, ((th, g1.2), g2, g3, (hz_nI M, gen, row), g5', r)) ∧ hz_ans k ot' th b.toInt64 ∧ hz_invX mx' t2 row g5' := by
    intro k9 hk eC eM
    rcases hk with rfl | rfl
    · refine ⟨1, ot, _, hz_nI 1, _, _, ?_, eM, ⟨rfl, fun h => absurd h (by decide)⟩, hX0⟩
      unfold f_Law_step
      rw [eC, Option.bind_some, Sum.elim_inr, if_pos rfl]
    · refine ⟨2, ot, _, hz_nI 2, _, _, ?_, eM, ⟨rfl, fun h => absurd h (by decide)⟩, hX0⟩
      unfold f_Law_step
      rw [eC, Option.bind_some, Sum.elim_inr, if_neg (show ¬ ((2 : Nat) = 1) by decide), if_pos rfl]
  cases h1 : hz_inR x 1 6
  · refine ref 1 (Or.inl rfl) ?_ ?_
    · unfold f_HT_step
      rw [hz_p_isOutside, h1, Option.bind_some, if_neg (show ¬ (bI (!false) = 0) by decide)]
    · unfold f_Model_step f_Model_step_27 f_Model_step_28
      rw [hz_q_within, h1, Option.bind_some, hz_goes1, hz_goes1, Option.bind_some, if_pos (show bI false = 0 from rfl), hz_nI_lit]
      split
      · rfl
      · split <;> rfl
  · by_cases hP0 : P = 0
    · subst hP0
      refine ref 2 (Or.inr rfl) ?_ ?_
      · unfold f_HT_step
        rw [hz_p_isOutside, h1, Option.bind_some, if_pos (show bI (!true) = 0 from rfl), if_pos (show hz_nI 0 = 0 from rfl)]
      · unfold f_Model_step f_Model_step_27 f_Model_step_28
        rw [hz_q_within, h1, Option.bind_some, if_pos (show hz_nI 0 ≤ 0 by decide), hz_goes2, Option.bind_some, if_pos (show bI false = 0 from rfl), hz_nI_lit]
    · have hne : ¬ hz_nI P = 0 := by rw [hz_nI_lit, hz_nI_inj (by omega) (by omega)]; exact hP0
      have hnl : ¬ hz_nI P ≤ 0 := by rw [hz_nI_lit, hz_nI_le (by omega) (by omega)]; omega
      by_cases cx : x = hz_nI nx
      · subst cx
        have eS := hz_p_strict (mn := mn) (ml := ml) (nx := hz_nI nx) (t1 := t1) (t3 := t3) (t4 := t4) (t5 := hz_nI M) (t6 := gen) hP hR
        have fS := hz_q_strict (g1 := (hz_nI 0, g1.2)) (g2 := g2) (g3 := g3) (m0 := hz_nI M) (ge := gen) (row := row) (pt := pt) (am := am) (nx := hz_nI nx) (r := r) hP hI
        have hs : nx ≤ 3 ∨ hz_nI 5 ≤ hz_maxT (fun i => hz_pD row ix i 1) P 0 (hz_nI 0) := hs
        generalize hS : hz_maxT (fun i => hz_pD row ix i 1) P 0 (hz_nI 0) = S at *
        have fin : ∀ n', 1 ≤ n' → n' ≤ 6 → (n' ≤ 3 ∨ hz_nI 5 ≤ S) → f_Mixture_goOn (mn, mr, ml, hz_nI P, hz_nI nx) (t1, t2, t3, t4, hz_nI M, gen) = some (hz_nI n', (mn, mr, ml, hz_nI P, hz_nI n')) → f_Model_step (g1, g2, g3, (hz_nI M, gen, row), (hz_nI P, pt, am, ix, hz_nI nx), r) (hz_nI nx) = some (hz_nI n', ((hz_nI 0, g1.2), g2, g3, (hz_nI M, gen, row), (hz_nI P, pt, am, ix, hz_nI n'), r)) → ∃ k ot' mx' th b g5', f_Law_step ht ot (mn, mr, ml, hz_nI P, hz_nI nx) (t1, t2, t3, t4, hz_nI M, gen) (hz_nI nx) = some (k, ot', mx') ∧ f_Model_step (g1, g2, g3, (hz_nI M, gen, row), (hz_nI P, pt, am, ix, hz_nI nx), r) (hz_nI nx) = some (b, ((th, g1.2), g2, g3, (hz_nI M, gen, row), g5', r)) ∧ hz_ans k ot' th b.toInt64 ∧ hz_invX mx' t2 row g5' := by
          intro n' hn1' hn6' hn' eC eM
          refine ⟨0, vp_updL ot (0 : Int32).toNatClampNeg (hz_nI n').toInt64, (mn, mr, ml, hz_nI P, hz_nI n'), hz_nI 0, hz_nI n', _, ?_, eM, ⟨rfl, fun _ => hz_o_eq ot _⟩, mn, mr, ml, pt, am, ix, P, n', rfl, rfl, hP, hmn, hR, hl, hn1', hn6', ?_⟩
          · unfold f_Law_step f_HT_step
            rw [hz_p_isOutside, h1, Option.bind_some, if_pos (show bI (!true) = 0 from rfl), if_neg hne, if_pos rfl, eC, Option.bind_some, Option.bind_some, Sum.elim_inl, if_pos hz_o_inb]
          · rw [hS]; exact hn'
        have eM0 : f_Model_step (g1, g2, g3, (hz_nI M, gen, row), (hz_nI P, pt, am, ix, hz_nI nx), r) (hz_nI nx) = if (5 : Int32) ≤ S then f_Model_step_53 ((hz_nI 0, g1.2), g2, g3, (hz_nI M, gen, row), (hz_nI P, pt, am, ix, hz_nI nx), r) (hz_nI nx) (hz_nI nx) 6 else f_Model_step_53 ((hz_nI 0, g1.2), g2, g3, (hz_nI M, gen, row), (hz_nI P, pt, am, ix, hz_nI nx), r) (hz_nI nx) (hz_nI nx) 3 := by
          unfold f_Model_step f_Model_step_28
          rw [hz_q_within, h1, Option.bind_some, if_neg hnl, if_pos rfl, hz_goesT, Option.bind_some, if_neg (show ¬ (bI true = 0) by decide), fS, Option.bind_some]
        by_cases c5 : (5 : Int32) ≤ S
        · by_cases c6 : nx = 6
          · subst c6
            refine fin 1 (by omega) (by omega) (Or.inl (by omega)) ?_ ?_
            · unfold f_Mixture_goOn f_Mixture_goOn_15
              rw [eS, Option.bind_some, if_pos c5, if_pos (show (6 : Int32) ≤ hz_nI 6 by decide)]
              rfl
            · rw [eM0, if_pos c5]
              unfold f_Model_step_53
              rw [if_pos (show hz_nI 6 = 6 from rfl)]
              rfl
          · refine fin (nx + 1) (by omega) (by omega) (Or.inr c5) ?_ ?_
            · unfold f_Mixture_goOn f_Mixture_goOn_15
              rw [eS, Option.bind_some, if_pos c5]
              simp (disch := omega) only [hz_nI_lit, hz_nI_add, hz_nI_mul, hz_nI_lt, hz_nI_le, hz_nI_inj, hz_nI_sub, hz_nI_nat, hz_nI_inb, hz_nI_pred, hz_nI_m1_lt, hz_nI_lt_m1, hz_nI_m1_le, hz_nI_le_m1, hz_nI_eq_m1, hz_nI_m1_eq, hz_bI0, if_pos, if_neg, if_true, if_false, Option.bind_some, Prod.eta, reduceCtorEq]
            · rw [eM0, if_pos c5]
              unfold f_Model_step_53
              simp (disch := omega) only [hz_nI_lit, hz_nI_add, hz_nI_mul, hz_nI_lt, hz_nI_le, hz_nI_inj, hz_nI_sub, hz_nI_nat, hz_nI_inb, hz_nI_pred, hz_nI_m1_lt, hz_nI_lt_m1, hz_nI_m1_le, hz_nI_le_m1, hz_nI_eq_m1, hz_nI_m1_eq, hz_bI0, if_pos, if_neg, if_true, if_false, Option.bind_some, Prod.eta, reduceCtorEq]
        · have hn3 : nx ≤ 3 := hs.resolve_right c5
          by_cases c6 : nx = 3
          · subst c6
            refine fin 1 (by omega) (by omega) (Or.inl (by omega)) ?_ ?_
            · unfold f_Mixture_goOn f_Mixture_goOn_15
              rw [eS, Option.bind_some, if_neg c5, if_pos (show (3 : Int32) ≤ hz_nI 3 by decide)]
              rfl
            · rw [eM0, if_neg c5]
              unfold f_Model_step_53
              rw [if_pos (show hz_nI 3 = 3 from rfl)]
              rfl
          · refine fin (nx + 1) (by omega) (by omega) (Or.inl (by omega)) ?_ ?_
            · unfold f_Mixture_goOn f_Mixture_goOn_15
              rw [eS, Option.bind_some, if_neg c5]
              simp (disch := omega) only [hz_nI_lit, hz_nI_add, hz_nI_mul, hz_nI_lt, hz_nI_le, hz_nI_inj, hz_nI_sub, hz_nI_nat, hz_nI_inb, hz_nI_pred, hz_nI_m1_lt, hz_nI_lt_m1, hz_nI_m1_le, hz_nI_le_m1, hz_nI_eq_m1, hz_nI_m1_eq, hz_bI0, if_pos, if_neg, if_true, if_false, Option.bind_some, Prod.eta, reduceCtorEq]
            · rw [eM0, if_neg c5]
              unfold f_Model_step_53
              simp (disch := omega) only [hz_nI_lit, hz_nI_add, hz_nI_mul, hz_nI_lt, hz_nI_le, hz_nI_inj, hz_nI_sub, hz_nI_nat, hz_nI_inb, hz_nI_pred, hz_nI_m1_lt, hz_nI_lt_m1, hz_nI_m1_le, hz_nI_le_m1, hz_nI_eq_m1, hz_nI_m1_eq, hz_bI0, if_pos, if_neg, if_true, if_false, Option.bind_some, Prod.eta, reduceCtorEq]
      · refine ref 2 (Or.inr rfl) ?_ ?_
        · unfold f_HT_step
          rw [hz_p_isOutside, h1, Option.bind_some, if_pos (show bI (!true) = 0 from rfl), if_neg hne, if_neg cx]
        · unfold f_Model_step f_Model_step_27 f_Model_step_28
          rw [hz_q_within, h1, Option.bind_some, if_neg hnl, if_neg cx, hz_goes2, Option.bind_some, if_pos (show bI false = 0 from rfl), hz_nI_lit]
set_option maxRecDepth 100000 in
theorem hz_prtR_upd {t2 row mr ix : Nat → Int32} {P c k : Nat} (h : hz_prtR t2 row mr ix P) (hc : c ≤ 12) (hk : k ≤ 12) (hcel : hz_cellsR t2 row c (k * 43)) : hz_prtR t2 row (upd mr P (hz_nI c)) (upd ix P (hz_nI k)) (P + 1) := by
  intro i hi
  by_cases hiP : i = P
  · subst hiP
    exact ⟨c, k, hc, hk, hz_upd_eq _ _ _, hz_upd_eq _ _ _, hcel⟩
  · obtain ⟨c', k', h1, h2, h3, h4, h5⟩ := h i (by omega)
    exact ⟨c', k', h1, h2, by rw [hz_upd_ne hiP, h3], by rw [hz_upd_ne hiP, h4], h5⟩
set_option maxRecDepth 100000 in
theorem hz_op_add {ht : SHT} {ot : SOut} {mx : SMixture} {tb : STable} {g1 : Int32 × Int32} {g2 : hz_M2} {g3 : hz_M3} {g4 : hz_M3} {g5 : hz_M5} {r : hz_MQ9} {x y : Int32} (hT : hz_invT tb g4) (hX : hz_invX mx tb.2.1 g4.2.2 g5) :
    ∃ k ot' mx' th b g5', f_Law_add ht ot mx tb x y = some (k, ot', mx') ∧ f_Model_add (g1, g2, g3, g4, g5, r) x y = some (b, ((th, g1.2), g2, g3, g4, g5', r)) ∧ hz_ans k ot' th b.toInt64 ∧ hz_invX mx' tb.2.1 g4.2.2 g5' := by
  have hX0 := hX
  obtain ⟨t1, t2, t3, t4, M, gen, row, rfl, rfl, hM, hT⟩ := hT
  obtain ⟨mn, mr, ml, pt, am, ix, P, nx, rfl, rfl, hP, hmn, hR, hl, hn1, hn6, hs⟩ := hX
  have hR : hz_prtR t2 row mr ix P := hR
  have hs : nx ≤ 3 ∨ hz_nI 5 ≤ hz_maxT (fun i => hz_pD row ix i 1) P 0 (hz_nI 0) := hs
  have ref : ∀ k9 j9 : Nat, (k9 = 0 ∧ j9 = 1 ∨ k9 = 1 ∧ j9 = 2 ∨ k9 = 3 ∧ j9 = 3) → f_HT_add ht (mn, mr, ml, hz_nI P, hz_nI nx) (t1, t2, t3, t4, hz_nI M, gen) x y = some (.inr (k9, (mn, mr, ml, hz_nI P, hz_nI nx))) → f_Model_add (g1, g2, g3, (hz_nI M, gen, row), (hz_nI P, pt, am, ix, hz_nI nx), r) x y = some (hz_nI 0, ((hz_nI j9, g1.2), g2, g3, (hz_nI M, gen, row), (hz_nI P, pt, am, ix, hz_nI nx), r)) → ∃ k ot' mx' th b g5', f_Law_add ht ot (mn, mr, ml, hz_nI P, hz_nI nx) (t1, t2, t3, t4, hz_nI M, gen) x y = some (k, ot', mx') ∧ f_Model_add (g1, g2, g3, (hz_nI M, gen, row), (hz_nI P, pt, am, ix, hz_nI nx), r) x y = some (b, ((th, g1.2), g2, g3, (hz_nI M, gen, row), g5', r)) ∧ hz_ans k ot' th b.toInt64 ∧ hz_invX mx' t2 row g5' := by
    intro k9 j9 hk eC eM
    rcases hk with ⟨rfl, rfl⟩ | ⟨rfl, rfl⟩ | ⟨rfl, rfl⟩
    · refine ⟨1, ot, _, hz_nI 1, _, _, ?_, eM, ⟨rfl, fun h => absurd h (by decide)⟩, hX0⟩
      unfold f_Law_add
      rw [eC, Option.bind_some, Sum.elim_inr, if_pos rfl]
    · refine ⟨2, ot, _, hz_nI 2, _, _, ?_, eM, ⟨rfl, fun h => absurd h (by decide)⟩, hX0⟩
      unfold f_Law_add
      rw [eC, Option.bind_some, Sum.elim_inr, if_neg (show ¬ ((1 : Nat) = 0) by decide), if_pos rfl]
    · refine ⟨3, ot, _, hz_nI 3, _, _, ?_, eM, ⟨rfl, fun h => absurd h (by decide)⟩, hX0⟩
      unfold f_Law_add
      rw [eC, Option.bind_some, Sum.elim_inr, if_neg (show ¬ ((3 : Nat) = 0) by decide), if_neg (show ¬ ((3 : Nat) = 1) by decide), if_pos rfl]
  have main : ∀ c k, c ≤ 12 → k ≤ 12 → hz_cellsR t2 row c (k * 43) → f_HT_add ht (mn, mr, ml, hz_nI P, hz_nI nx) (t1, t2, t3, t4, hz_nI M, gen) x y = f_HT_add_22 ht (mn, mr, ml, hz_nI P, hz_nI nx) (t1, t2, t3, t4, hz_nI M, gen) x y (hz_nI c) → f_Model_add (g1, g2, g3, (hz_nI M, gen, row), (hz_nI P, pt, am, ix, hz_nI nx), r) x y = f_Model_add_20 (g1, g2, g3, (hz_nI M, gen, row), (hz_nI P, pt, am, ix, hz_nI nx), r) x y (hz_nI k) → ∃ k ot' mx' th b g5', f_Law_add ht ot (mn, mr, ml, hz_nI P, hz_nI nx) (t1, t2, t3, t4, hz_nI M, gen) x y = some (k, ot', mx') ∧ f_Model_add (g1, g2, g3, (hz_nI M, gen, row), (hz_nI P, pt, am, ix, hz_nI nx), r) x y = some (b, ((th, g1.2), g2, g3, (hz_nI M, gen, row), g5', r)) ∧ hz_ans k ot' th b.toInt64 ∧ hz_invX mx' t2 row g5' := by
    intro c k hc hk hcel eC eM
    have eC' : f_HT_add ht (mn, mr, ml, hz_nI P, hz_nI nx) (t1, t2, t3, t4, hz_nI M, gen) x y = (if bI (!hz_inR x 1 9999) = 0 then (if bI (!hz_inR y 1 100000) = 0 then Option.bind (f_Mixture_isFull (mn, mr, ml, hz_nI P, hz_nI nx)) fun u9 => (if bI u9 = 0 then Option.bind (f_Mixture_append (mn, mr, ml, hz_nI P, hz_nI nx) (t1, t2, t3, t4, hz_nI M, gen) x (hz_nI c) y) fun u11 => some (.inl (u11.1, u11.2)) else some (.inr (3, (mn, mr, ml, hz_nI P, hz_nI nx)))) else some (.inr (1, (mn, mr, ml, hz_nI P, hz_nI nx)))) else some (.inr (1, (mn, mr, ml, hz_nI P, hz_nI nx)))) := by
      rw [eC]
      unfold f_HT_add_22
      rw [if_neg (show ¬ (hz_nI c = -1) by rw [show (-1 : Int32) = -hz_nI 1 from rfl, hz_nI_eq_m1 (by omega)]; exact id), hz_p_isOutside, Option.bind_some, hz_p_isOutside, Option.bind_some]
    have eM' : f_Model_add (g1, g2, g3, (hz_nI M, gen, row), (hz_nI P, pt, am, ix, hz_nI nx), r) x y = (if bI (hz_inR x 1 9999) = 0 then f_Model_add_56 (g1, g2, g3, (hz_nI M, gen, row), (hz_nI P, pt, am, ix, hz_nI nx), r) x y (hz_nI k) true false else if bI (hz_inR y 1 100000) = 0 then f_Model_add_56 (g1, g2, g3, (hz_nI M, gen, row), (hz_nI P, pt, am, ix, hz_nI nx), r) x y (hz_nI k) true false else f_Model_add_56 (g1, g2, g3, (hz_nI M, gen, row), (hz_nI P, pt, am, ix, hz_nI nx), r) x y (hz_nI k) true true) := by
      rw [eM]
      unfold f_Model_add_20 f_Model_add_30 f_Model_add_55
      rw [if_neg (show ¬ (hz_nI k < 0) by rw [hz_nI_lit, hz_nI_lt (by omega) (by omega)]; omega), hz_q_within, Option.bind_some, hz_q_within, Option.bind_some]
    have r56 : f_Model_add_56 (g1, g2, g3, (hz_nI M, gen, row), (hz_nI P, pt, am, ix, hz_nI nx), r) x y (hz_nI k) true false = some (hz_nI 0, ((hz_nI 2, g1.2), g2, g3, (hz_nI M, gen, row), (hz_nI P, pt, am, ix, hz_nI nx), r)) := by
      unfold f_Model_add_56 f_Model_add_70
      rw [hz_goes2, hz_goes2, Option.bind_some, if_pos (show bI false = 0 from rfl)]
      split <;> rfl
    cases hx : hz_inR x 1 9999
    · refine ref 1 2 (Or.inr (Or.inl ⟨rfl, rfl⟩)) ?_ ?_
      · rw [eC', hx, if_neg (show ¬ (bI (!false) = 0) by decide)]
      · rw [eM', hx, if_pos (show bI false = 0 from rfl), r56]
    · cases hy : hz_inR y 1 100000
      · refine ref 1 2 (Or.inr (Or.inl ⟨rfl, rfl⟩)) ?_ ?_
        · rw [eC', hx, hy, if_pos (show bI (!true) = 0 from rfl), if_neg (show ¬ (bI (!false) = 0) by decide)]
        · rw [eM', hx, hy, if_neg (show ¬ (bI true = 0) by decide), if_pos (show bI false = 0 from rfl), r56]
      · rw [hx, hy, if_pos (show bI (!true) = 0 from rfl), if_pos (show bI (!true) = 0 from rfl)] at eC'
        rw [hx, hy, if_neg (show ¬ (bI true = 0) by decide), if_neg (show ¬ (bI true = 0) by decide)] at eM'
        by_cases c8 : P = 8
        · subst c8
          refine ref 3 3 (Or.inr (Or.inr ⟨rfl, rfl⟩)) ?_ ?_
          · rw [eC']
            unfold f_Mixture_isFull
            rw [if_neg (show ¬ (hz_nI 8 < 8) by decide), Option.bind_some, if_neg (show ¬ (bI true = 0) by decide)]
          · rw [eM']
            unfold f_Model_add_56 f_Model_add_70
            rw [if_pos (show (8 : Int32) ≤ hz_nI 8 by decide), hz_goes3, Option.bind_some, if_pos (show bI false = 0 from rfl), hz_nI_lit]
        · have hfull : f_Mixture_isFull (mn, mr, ml, hz_nI P, hz_nI nx) = some false := by
            unfold f_Mixture_isFull
            simp (disch := omega) only [hz_nI_lit, hz_nI_add, hz_nI_mul, hz_nI_lt, hz_nI_le, hz_nI_inj, hz_nI_sub, hz_nI_nat, hz_nI_inb, hz_nI_pred, hz_nI_m1_lt, hz_nI_lt_m1, hz_nI_m1_le, hz_nI_le_m1, hz_nI_eq_m1, hz_nI_m1_eq, hz_bI0, if_pos, if_neg, if_true, if_false, Option.bind_some, Prod.eta, reduceCtorEq]
          have hR1 := hz_prtR_upd hR hc hk hcel
          have hI1 := hz_ixR_of hR1
          have hbef := fun (ml' : Nat → Int32) => hz_p_before (mn := upd mn P x) (ml := ml') (nx := hz_nI nx) (sz := hz_nI (P + 1)) (t1 := t1) (t3 := t3) (t4 := t4) (t5 := hz_nI M) (t6 := gen) (show P + 1 ≤ 8 by omega) hR1 (show P < P + 1 by omega)
          have e124 := hz_q_add_124 (g1 := (hz_nI 0, g1.2)) (g2 := g2) (g3 := g3) (m0 := hz_nI M) (ge := gen) (row := row) (pt := upd pt P x) (am := upd am P y) (nx := hz_nI nx) (r := r) (show P + 1 ≤ 8 by omega) hI1 P 4096 0 (hz_nI 0) (by omega) (by omega)
          have eA : ∃ ml', f_Mixture_append (mn, mr, ml, hz_nI P, hz_nI nx) (t1, t2, t3, t4, hz_nI M, gen) x (hz_nI c) y = some (hz_cntT (fun i => hz_ctr row (upd ix P (hz_nI k)) i P) P 0 (hz_nI 0), (upd mn P x, upd mr P (hz_nI c), ml', hz_nI (P + 1), hz_nI nx)) ∧ hz_larR ml' (upd am P y) (P + 1) := by
            by_cases c2 : y ≤ hz_nI 200
            · refine ⟨upd ml P (bI false), ?_, ?_⟩
              · unfold f_Mixture_append f_Mixture_append_49
                rw [hfull]
                simp (disch := omega) only [hz_nI_lit, hz_nI_add, hz_nI_mul, hz_nI_lt, hz_nI_le, hz_nI_inj, hz_nI_sub, hz_nI_nat, hz_nI_inb, hz_nI_pred, hz_nI_m1_lt, hz_nI_lt_m1, hz_nI_m1_le, hz_nI_le_m1, hz_nI_eq_m1, hz_nI_m1_eq, hz_bI0, if_pos, if_neg, if_true, if_false, Option.bind_some, Prod.eta, reduceCtorEq, c2, hz_nar_b, Nat.add_sub_cancel, hbef]
              · intro i hi
                by_cases hiP : i = P
                · subst hiP
                  rw [hz_upd_eq, hz_upd_eq]
                  exact ⟨fun _ => c2, fun _ => rfl⟩
                · rw [hz_upd_ne hiP, hz_upd_ne hiP]
                  exact hl i (by omega)
            · refine ⟨upd ml P (bI true), ?_, ?_⟩
              · unfold f_Mixture_append f_Mixture_append_49
                rw [hfull]
                simp (disch := omega) only [hz_nI_lit, hz_nI_add, hz_nI_mul, hz_nI_lt, hz_nI_le, hz_nI_inj, hz_nI_sub, hz_nI_nat, hz_nI_inb, hz_nI_pred, hz_nI_m1_lt, hz_nI_lt_m1, hz_nI_m1_le, hz_nI_le_m1, hz_nI_eq_m1, hz_nI_m1_eq, hz_bI0, if_pos, if_neg, if_true, if_false, Option.bind_some, Prod.eta, reduceCtorEq, c2, hz_nar_b, Nat.add_sub_cancel, hbef]
              · intro i hi
                by_cases hiP : i = P
                · subst hiP
                  rw [hz_upd_eq, hz_upd_eq]
                  exact ⟨fun h => absurd h (by decide), fun h => absurd h c2⟩
                · rw [hz_upd_ne hiP, hz_upd_ne hiP]
                  exact hl i (by omega)
          obtain ⟨ml', eA, hl'⟩ := eA
          refine ⟨0, vp_updL ot (0 : Int32).toNatClampNeg (hz_cntT (fun i => hz_ctr row (upd ix P (hz_nI k)) i P) P 0 (hz_nI 0)).toInt64, (upd mn P x, upd mr P (hz_nI c), ml', hz_nI (P + 1), hz_nI nx), hz_nI 0, hz_cntT (fun i => hz_ctr row (upd ix P (hz_nI k)) i P) P 0 (hz_nI 0), (hz_nI (P + 1), upd pt P x, upd am P y, upd ix P (hz_nI k), hz_nI nx), ?_, ?_, ⟨rfl, fun _ => hz_o_eq ot _⟩, upd mn P x, upd mr P (hz_nI c), ml', upd pt P x, upd am P y, upd ix P (hz_nI k), P + 1, nx, rfl, rfl, by omega, ?_, hR1, hl', hn1, hn6, ?_⟩
          · unfold f_Law_add
            rw [eC', hfull, Option.bind_some, if_pos (show bI false = 0 from rfl), eA, Option.bind_some, Option.bind_some, Sum.elim_inl, if_pos hz_o_inb]
          · rw [eM']
            unfold f_Model_add_56 f_Model_add_70
            rw [if_neg (show ¬ ((8 : Int32) ≤ hz_nI P) by rw [hz_nI_lit, hz_nI_le (by omega) (by omega)]; omega), hz_goesT, Option.bind_some, if_neg (show ¬ (bI true = 0) by decide)]
            simp (disch := omega) only [hz_nI_lit, hz_nI_add, hz_nI_mul, hz_nI_lt, hz_nI_le, hz_nI_inj, hz_nI_sub, hz_nI_nat, hz_nI_inb, hz_nI_pred, hz_nI_m1_lt, hz_nI_lt_m1, hz_nI_m1_le, hz_nI_le_m1, hz_nI_eq_m1, hz_nI_m1_eq, hz_bI0, if_pos, if_neg, if_true, if_false, Option.bind_some, Prod.eta, reduceCtorEq]
            exact e124
          · intro i hi
            by_cases hiP : i = P
            · subst hiP; rw [hz_upd_eq, hz_upd_eq]
            · rw [hz_upd_ne hiP, hz_upd_ne hiP]; exact hmn i (by omega)
          · rcases hs with h | h
            · exact Or.inl h
            · refine Or.inr ?_
              have e : hz_maxT (fun i => hz_pD row (upd ix P (hz_nI k)) i 1) P 0 (hz_nI 0) = hz_maxT (fun i => hz_pD row ix i 1) P 0 (hz_nI 0) := hz_maxT_congr P 0 _ (fun j _ hj => by
                show hz_pD row (upd ix P (hz_nI k)) j 1 = hz_pD row ix j 1
                unfold hz_pD; rw [hz_upd_ne (by omega)])
              show hz_nI 5 ≤ hz_maxT (fun i => hz_pD row (upd ix P (hz_nI k)) i 1) (P + 1) 0 (hz_nI 0)
              rw [hz_maxT_succ, e]
              split
              · rename_i h9
                exact Int32.le_of_lt (Int32.lt_of_le_of_lt h h9)
              · exact h
  have refuse : f_HT_add ht (mn, mr, ml, hz_nI P, hz_nI nx) (t1, t2, t3, t4, hz_nI M, gen) x y = f_HT_add_22 ht (mn, mr, ml, hz_nI P, hz_nI nx) (t1, t2, t3, t4, hz_nI M, gen) x y (-hz_nI 1) → f_Model_add (g1, g2, g3, (hz_nI M, gen, row), (hz_nI P, pt, am, ix, hz_nI nx), r) x y = f_Model_add_20 (g1, g2, g3, (hz_nI M, gen, row), (hz_nI P, pt, am, ix, hz_nI nx), r) x y (-hz_nI 1) → ∃ k ot' mx' th b g5', f_Law_add ht ot (mn, mr, ml, hz_nI P, hz_nI nx) (t1, t2, t3, t4, hz_nI M, gen) x y = some (k, ot', mx') ∧ f_Model_add (g1, g2, g3, (hz_nI M, gen, row), (hz_nI P, pt, am, ix, hz_nI nx), r) x y = some (b, ((th, g1.2), g2, g3, (hz_nI M, gen, row), g5', r)) ∧ hz_ans k ot' th b.toInt64 ∧ hz_invX mx' t2 row g5' := by
    intro eC eM
    refine ref 0 1 (Or.inl ⟨rfl, rfl⟩) ?_ ?_
    · rw [eC]
      unfold f_HT_add_22
      rw [if_pos (show -hz_nI 1 = -1 from rfl)]
    · have r56 : ∀ b2, f_Model_add_56 (g1, g2, g3, (hz_nI M, gen, row), (hz_nI P, pt, am, ix, hz_nI nx), r) x y (-hz_nI 1) false b2 = some (hz_nI 0, ((hz_nI 1, g1.2), g2, g3, (hz_nI M, gen, row), (hz_nI P, pt, am, ix, hz_nI nx), r)) := by
        intro b2
        unfold f_Model_add_56 f_Model_add_70
        rw [hz_goes1, hz_goes1, Option.bind_some, if_pos (show bI false = 0 from rfl)]
        split <;> rfl
      rw [eM]
      unfold f_Model_add_20 f_Model_add_30 f_Model_add_55
      rw [if_pos (show -hz_nI 1 < (0 : Int32) by decide), hz_q_within, Option.bind_some, hz_q_within, Option.bind_some, r56, r56]
      split
      · rfl
      · split <;> rfl
  have eC : f_HT_add ht (mn, mr, ml, hz_nI P, hz_nI nx) (t1, t2, t3, t4, hz_nI M, gen) x y = if hz_ixI (hz_fndT (fun k => row (k * 43)) x M 0) 1 = -1 then f_HT_add_22 ht (mn, mr, ml, hz_nI P, hz_nI nx) (t1, t2, t3, t4, hz_nI M, gen) x y (if gen = true then hz_nI 0 else -hz_nI 1) else f_HT_add_22 ht (mn, mr, ml, hz_nI P, hz_nI nx) (t1, t2, t3, t4, hz_nI M, gen) x y (hz_ixI (hz_fndT (fun k => row (k * 43)) x M 0) 1) := by
    unfold f_HT_add
    rw [hz_p_rowOf hM, hz_tab_num hT, Option.bind_some, hz_p_others, Option.bind_some]
  have eM : f_Model_add (g1, g2, g3, (hz_nI M, gen, row), (hz_nI P, pt, am, ix, hz_nI nx), r) x y = if 0 ≤ hz_ixI (hz_fndT (fun k => row (k * 43)) x M 0) 0 then f_Model_add_20 (g1, g2, g3, (hz_nI M, gen, row), (hz_nI P, pt, am, ix, hz_nI nx), r) x y (hz_ixI (hz_fndT (fun k => row (k * 43)) x M 0) 0) else if bI gen = 0 then f_Model_add_20 (g1, g2, g3, (hz_nI M, gen, row), (hz_nI P, pt, am, ix, hz_nI nx), r) x y (hz_ixI (hz_fndT (fun k => row (k * 43)) x M 0) 0) else f_Model_add_20 (g1, g2, g3, (hz_nI M, gen, row), (hz_nI P, pt, am, ix, hz_nI nx), r) x y 12 := by
    unfold f_Model_add
    rw [hz_q_find hM, Option.bind_some]
  cases hf : hz_fndT (fun k => row (k * 43)) x M 0 with
  | none =>
    rw [hf] at eC eM
    rw [if_pos (show hz_ixI none 1 = -1 from rfl)] at eC
    rw [if_neg (show ¬ ((0 : Int32) ≤ hz_ixI none 0) by decide)] at eM
    cases gen with
    | false =>
      rw [if_neg (by decide)] at eC
      rw [if_pos (show bI false = 0 from rfl)] at eM
      exact refuse eC eM
    | true =>
      rw [if_pos rfl] at eC
      rw [if_neg (show ¬ (bI true = 0) by decide)] at eM
      exact main 0 12 (by omega) (by omega) (hT.2.2 rfl) eC eM
  | some q =>
    have hq := hz_fndT_some M 0 q hf
    rw [hf] at eC eM
    rw [if_neg (show ¬ (hz_ixI (some q) 1 = -1) by rw [show (-1 : Int32) = -hz_nI 1 from rfl]; simp only [hz_ixI]; rw [hz_nI_eq_m1 (by omega)]; exact id)] at eC
    rw [if_pos (show (0 : Int32) ≤ hz_ixI (some q) 0 by simp only [hz_ixI]; rw [hz_nI_lit, hz_nI_le (by omega) (by omega)]; omega)] at eM
    exact main (q + 1) q (by omega) (by omega) (hT.1 q (by omega)).2.1 eC eM
set_option maxRecDepth 100000 in
theorem hz_j_add {x y : Int32} (h1 : -2147483648 ≤ x.toInt + y.toInt) (h2 : x.toInt + y.toInt < 2147483648) : (x + y).toInt = x.toInt + y.toInt := by
  rw [Int32.toInt_add]
  simp only [Int.bmod_def]
  split <;> omega
set_option maxRecDepth 100000 in
theorem hz_j_sub {x y : Int32} (h1 : -2147483648 ≤ x.toInt - y.toInt) (h2 : x.toInt - y.toInt < 2147483648) : (x - y).toInt = x.toInt - y.toInt := by
  rw [Int32.toInt_sub]
  simp only [Int.bmod_def]
  split <;> omega
set_option maxRecDepth 100000 in
theorem hz_j_mul {x y : Int32} (h1 : -2147483648 ≤ x.toInt * y.toInt) (h2 : x.toInt * y.toInt < 2147483648) : (x * y).toInt = x.toInt * y.toInt := by
  rw [Int32.toInt_mul]
  generalize x.toInt * y.toInt = z at *
  simp only [Int.bmod_def]
  split <;> omega
set_option maxRecDepth 100000 in
theorem hz_k_add {x y : Int64} (h1 : -9223372036854775808 ≤ x.toInt + y.toInt) (h2 : x.toInt + y.toInt < 9223372036854775808) : (x + y).toInt = x.toInt + y.toInt := by
  rw [Int64.toInt_add]
  simp only [Int.bmod_def]
  split <;> omega
set_option maxRecDepth 100000 in
theorem hz_k_mul {x y : Int64} (h1 : -9223372036854775808 ≤ x.toInt * y.toInt) (h2 : x.toInt * y.toInt < 9223372036854775808) : (x * y).toInt = x.toInt * y.toInt := by
  rw [Int64.toInt_mul]
  generalize x.toInt * y.toInt = z at *
  simp only [Int.bmod_def]
  split <;> omega
set_option maxRecDepth 100000 in
theorem hz_mulb {a b A B : Int} (h1 : -A ≤ a ∧ a ≤ A) (h3 : -B ≤ b ∧ b ≤ B) : -(A * B) ≤ a * b ∧ a * b ≤ A * B := by
  have hA : a.natAbs ≤ A.toNat := by omega
  have hB : b.natAbs ≤ B.toNat := by omega
  have h := Nat.mul_le_mul hA hB
  rw [← Int.natAbs_mul] at h
  have e : ((A.toNat * B.toNat : Nat) : Int) = A * B := by
    rw [Int.natCast_mul, Int.toNat_of_nonneg (by omega), Int.toNat_of_nonneg (by omega)]
  omega
abbrev hz_pin (a b x y d : Int) : Prop := x * x + y * y ≤ d * d ∧ (a * y - b * x ≤ a * x + b * y ∧ -(a * y - b * x) ≤ a * x + b * y)
set_option maxRecDepth 100000 in
theorem hz_pin_iff {a b x y d : Int} (hw : ¬ (a = 0 ∧ b = 0)) (hp : ¬ (x = 0 ∧ y = 0)) : hz_pin a b x y d ↔ (x * x + y * y ≤ d * d ∧ 0 < a * x + b * y ∧ (x * x + y * y) * (a * a + b * b) ≤ 2 * (a * x + b * y) * (a * x + b * y)) := by
  have idn : (a * x + b * y) * (a * x + b * y) + (a * y - b * x) * (a * y - b * x) = (x * x + y * y) * (a * a + b * b) := by grind
  have sq : ∀ z : Int, z ≠ 0 → 0 < z * z := fun z hz => by
    rcases Int.lt_or_gt_of_ne hz with h | h
    · exact Int.mul_pos_of_neg_of_neg h h
    · exact Int.mul_pos h h
  have sq0 : ∀ z : Int, 0 ≤ z * z := fun z => by
    by_cases h : z = 0
    · rw [h]; decide
    · exact Int.le_of_lt (sq z h)
  have hF : 0 < x * x + y * y := by
    by_cases h : x = 0
    · have := sq y (fun h2 => hp ⟨h, h2⟩); have := sq0 x; omega
    · have := sq x h; have := sq0 y; omega
  have hW : 0 < a * a + b * b := by
    by_cases h : a = 0
    · have := sq b (fun h2 => hw ⟨h, h2⟩); have := sq0 a; omega
    · have := sq a h; have := sq0 b; omega
  have hFW := Int.mul_pos hF hW
  have e2 : 2 * (a * x + b * y) * (a * x + b * y) = 2 * ((a * x + b * y) * (a * x + b * y)) := by grind
  rw [e2]
  unfold hz_pin
  generalize a * x + b * y = p at *
  generalize a * y - b * x = q at *
  generalize (x * x + y * y) * (a * a + b * b) = R at *
  constructor
  · rintro ⟨h1, h2, h3⟩
    have hp0 : p ≠ 0 := by
      intro h
      subst h
      have : q = 0 := by omega
      subst this
      omega
    refine ⟨h1, by omega, ?_⟩
    have : q * q ≤ p * p := by
      rcases Int.le_total 0 q with h | h
      · exact Int.mul_self_le_mul_self h h2
      · have := Int.mul_self_le_mul_self (a := -q) (b := p) (by omega) h3
        rw [Int.neg_mul_neg] at this
        exact this
    omega
  · rintro ⟨h1, h2, h3⟩
    refine ⟨h1, ?_, ?_⟩
    · rcases Int.lt_or_le p q with h | h
      · have := Int.mul_self_lt_mul_self (Int.le_of_lt h2) h
        omega
      · exact h
    · rcases Int.lt_or_le p (-q) with h | h
      · have := Int.mul_self_lt_mul_self (Int.le_of_lt h2) h
        rw [Int.neg_mul_neg] at this
        omega
      · exact h
set_option maxRecDepth 100000 in
def hz_sqR (x : Int32) (K : Int) : Prop := -K ≤ x.toInt ∧ x.toInt ≤ K
set_option maxRecDepth 100000 in
noncomputable def hz_isP (wx wy x y : Int32) (dd : Nat) : Bool := decide (hz_pin wx.toInt wy.toInt x.toInt y.toInt dd)
set_option maxRecDepth 100000 in
theorem hz_p_reaches {wx wy x y : Int32} {dd : Nat} (h1 : hz_sqR wx 100) (h2 : hz_sqR wy 100) (h3 : hz_sqR x 10000) (h4 : hz_sqR y 10000) (hd : dd ≤ 9999) : f_Surroundings_reaches wx wy (hz_nI dd) x y = some (hz_isP wx wy x y dd) := by
  have a1 := hz_mulb h3 h3
  have a2 := hz_mulb h4 h4
  have a3 := hz_mulb h1 h3
  have a4 := hz_mulb h2 h4
  have a5 := hz_mulb h1 h4
  have a6 := hz_mulb h2 h3
  have hdt := hz_nI_toInt (show dd < 2147483648 by omega)
  have a7 := hz_mulb (a := (dd : Int)) (b := (dd : Int)) (A := 9999) (B := 9999) ⟨by omega, by omega⟩ ⟨by omega, by omega⟩
  have b1 : (x * x).toInt = x.toInt * x.toInt := hz_j_mul (by omega) (by omega)
  have b2 : (y * y).toInt = y.toInt * y.toInt := hz_j_mul (by omega) (by omega)
  have b3 : (wx * x).toInt = wx.toInt * x.toInt := hz_j_mul (by omega) (by omega)
  have b4 : (wy * y).toInt = wy.toInt * y.toInt := hz_j_mul (by omega) (by omega)
  have b5 : (wx * y).toInt = wx.toInt * y.toInt := hz_j_mul (by omega) (by omega)
  have b6 : (wy * x).toInt = wy.toInt * x.toInt := hz_j_mul (by omega) (by omega)
  have b7 : (hz_nI dd * hz_nI dd).toInt = (dd : Int) * dd := by rw [hz_j_mul (by rw [hdt]; omega) (by rw [hdt]; omega), hdt]
  have c1 : (x * x + y * y).toInt = x.toInt * x.toInt + y.toInt * y.toInt := by rw [hz_j_add (by rw [b1, b2]; omega) (by rw [b1, b2]; omega), b1, b2]
  have c2 : (wx * x + wy * y).toInt = wx.toInt * x.toInt + wy.toInt * y.toInt := by rw [hz_j_add (by rw [b3, b4]; omega) (by rw [b3, b4]; omega), b3, b4]
  have c3 : (wx * y - wy * x).toInt = wx.toInt * y.toInt - wy.toInt * x.toInt := by rw [hz_j_sub (by rw [b5, b6]; omega) (by rw [b5, b6]; omega), b5, b6]
  have z0 : (0 : Int32).toInt = 0 := by decide
  have c4 : (0 - (wx * y - wy * x)).toInt = -(wx.toInt * y.toInt - wy.toInt * x.toInt) := by rw [hz_j_sub (by rw [c3, z0]; omega) (by rw [c3, z0]; omega), c3, z0]; omega
  unfold f_Surroundings_reaches hz_isP
  rw [if_neg (show ¬ (hz_nI dd < 0) by rw [hz_nI_lit, hz_nI_lt (by omega) (by omega)]; omega)]
  by_cases k1 : x.toInt * x.toInt + y.toInt * y.toInt ≤ (dd : Int) * dd
  · rw [if_pos (by rw [Int32.le_iff_toInt_le, c1, b7]; exact k1)]
    have e9 : ∀ b : Bool, (b = true ↔ hz_pin wx.toInt wy.toInt x.toInt y.toInt dd) → some b = some (decide (hz_pin wx.toInt wy.toInt x.toInt y.toInt dd)) := by
      intro b hb
      cases b
      · rw [decide_eq_false (fun h => absurd (hb.mpr h) (by decide))]
      · rw [decide_eq_true (hb.mp rfl)]
    have hr : (wx * x + wy * y < (if 0 ≤ wx * y - wy * x then wx * y - wy * x else 0 - (wx * y - wy * x))) ↔ ¬ hz_pin wx.toInt wy.toInt x.toInt y.toInt dd := by
      unfold hz_pin
      by_cases k2 : 0 ≤ wx * y - wy * x
      · rw [if_pos k2, Int32.lt_iff_toInt_lt, c2, c3]
        rw [Int32.le_iff_toInt_le, c3, z0] at k2
        omega
      · rw [if_neg k2, Int32.lt_iff_toInt_lt, c2, c4]
        rw [Int32.le_iff_toInt_le, c3, z0] at k2
        omega
    by_cases k3 : hz_pin wx.toInt wy.toInt x.toInt y.toInt dd
    · rw [if_neg (fun h => hr.mp h k3)]
      exact e9 true ⟨fun _ => k3, fun _ => rfl⟩
    · rw [if_pos (hr.mpr k3)]
      exact e9 false ⟨fun h => absurd h (by decide), fun h => absurd h k3⟩
  · rw [if_neg (by rw [Int32.le_iff_toInt_le, c1, b7]; exact k1), decide_eq_false (fun h => k1 h.1)]
set_option maxRecDepth 100000 in
theorem hz_p_reachesN {wx wy x y : Int32} : f_Surroundings_reaches wx wy (-hz_nI 1) x y = some false := by
  unfold f_Surroundings_reaches
  rw [if_pos (show -hz_nI 1 < (0 : Int32) by decide)]
set_option maxRecDepth 100000 in
theorem hz_c_pos (a b : Int64) : (0 < lg_cmp a b) ↔ b.toInt < a.toInt := by
  unfold lg_cmp
  rw [← Int64.lt_iff_toInt_lt]
  by_cases h : a > b
  · rw [if_pos h]; exact ⟨fun _ => h, fun _ => by decide⟩
  · rw [if_neg h]
    refine ⟨fun h2 => ?_, fun h2 => absurd h2 h⟩
    split at h2 <;> exact absurd h2 (by decide)
set_option maxRecDepth 100000 in
theorem hz_c_neg (a b : Int64) : (lg_cmp a b < 0) ↔ a.toInt < b.toInt := by
  unfold lg_cmp
  by_cases h : a > b
  · rw [if_pos h]
    have h' := Int64.lt_iff_toInt_lt.mp h
    exact ⟨fun h2 => absurd h2 (by decide), fun h2 => by omega⟩
  · rw [if_neg h]
    have h' : ¬ b.toInt < a.toInt := fun h9 => h (Int64.lt_iff_toInt_lt.mpr h9)
    by_cases h3 : a = b
    · subst h3
      rw [if_pos rfl]
      exact ⟨fun h2 => absurd h2 (by decide), fun h2 => by omega⟩
    · rw [if_neg h3]
      refine ⟨fun _ => ?_, fun _ => by decide⟩
      have : a.toInt ≠ b.toInt := fun h9 => h3 (Int64.toInt_inj.mp h9)
      omega
set_option maxRecDepth 100000 in
theorem hz_c_le (a b : Int64) : (lg_cmp a b ≤ 0) ↔ a.toInt ≤ b.toInt := by
  rw [← Int32.not_lt, hz_c_pos]; omega
set_option maxRecDepth 100000 in
theorem hz_q_isIn_19 {g1 : Int32 × Int32} {g2 : hz_M2} {g3 : hz_M3} {g4 : hz_M3} {g5 : hz_M5} {wx wy x y : Int32} {day : Bool} {r : (Int32 × (Nat → Int32) × (Nat → Int32) × (Nat → Int32) × Int32 × (Nat → Int32)) × ((Nat → Int32)) × (Int32 × (Nat → Int32) × (Nat → Int32))} {dd : Nat} (h1 : hz_sqR wx 100) (h2 : hz_sqR wy 100) (h3 : hz_sqR x 10000) (h4 : hz_sqR y 10000) (hd : dd ≤ 9999) (hw : ¬ (wx = 0 ∧ wy = 0)) (hp : ¬ (x = 0 ∧ y = 0)) (e : f_Model_distance (g1, g2, g3, g4, g5, (wx, wy, day), r) day = some (hz_nI dd)) : f_Model_isIn_19 (g1, g2, g3, g4, g5, (wx, wy, day), r) x y = some (hz_isP wx wy x y dd) := by
  have a1 := hz_mulb h3 h3
  have a2 := hz_mulb h4 h4
  have a3 := hz_mulb h3 h1
  have a4 := hz_mulb h4 h2
  have a5 := hz_mulb h1 h1
  have a6 := hz_mulb h2 h2
  have hdt := hz_nI_toInt (show dd < 2147483648 by omega)
  have a7 := hz_mulb (a := (dd : Int)) (b := (dd : Int)) (A := 9999) (B := 9999) ⟨by omega, by omega⟩ ⟨by omega, by omega⟩
  have t : ∀ z : Int32, z.toInt64.toInt = z.toInt := fun z => Int32.toInt_toInt64 z
  have b1 : (x.toInt64 * x.toInt64).toInt = x.toInt * x.toInt := by rw [hz_k_mul (by rw [t]; omega) (by rw [t]; omega), t]
  have b2 : (y.toInt64 * y.toInt64).toInt = y.toInt * y.toInt := by rw [hz_k_mul (by rw [t]; omega) (by rw [t]; omega), t]
  have b3 : (x.toInt64 * wx.toInt64).toInt = x.toInt * wx.toInt := by rw [hz_k_mul (by rw [t, t]; omega) (by rw [t, t]; omega), t, t]
  have b4 : (y.toInt64 * wy.toInt64).toInt = y.toInt * wy.toInt := by rw [hz_k_mul (by rw [t, t]; omega) (by rw [t, t]; omega), t, t]
  have b5 : (wx.toInt64 * wx.toInt64).toInt = wx.toInt * wx.toInt := by rw [hz_k_mul (by rw [t]; omega) (by rw [t]; omega), t]
  have b6 : (wy.toInt64 * wy.toInt64).toInt = wy.toInt * wy.toInt := by rw [hz_k_mul (by rw [t]; omega) (by rw [t]; omega), t]
  have b7 : ((hz_nI dd).toInt64 * (hz_nI dd).toInt64).toInt = (dd : Int) * dd := by rw [hz_k_mul (by rw [t, hdt]; omega) (by rw [t, hdt]; omega), t, hdt]
  have c1 : (x.toInt64 * x.toInt64 + y.toInt64 * y.toInt64).toInt = x.toInt * x.toInt + y.toInt * y.toInt := by rw [hz_k_add (by rw [b1, b2]; omega) (by rw [b1, b2]; omega), b1, b2]
  have c2 : (x.toInt64 * wx.toInt64 + y.toInt64 * wy.toInt64).toInt = wx.toInt * x.toInt + wy.toInt * y.toInt := by
    rw [hz_k_add (by rw [b3, b4]; omega) (by rw [b3, b4]; omega), b3, b4, Int.mul_comm x.toInt, Int.mul_comm y.toInt]
  have c3 : (wx.toInt64 * wx.toInt64 + wy.toInt64 * wy.toInt64).toInt = wx.toInt * wx.toInt + wy.toInt * wy.toInt := by rw [hz_k_add (by rw [b5, b6]; omega) (by rw [b5, b6]; omega), b5, b6]
  rw [Int.mul_comm y.toInt] at a4
  have hpr : -2000000 ≤ wx.toInt * x.toInt + wy.toInt * y.toInt ∧ wx.toInt * x.toInt + wy.toInt * y.toInt ≤ 2000000 := by
    rw [Int.mul_comm x.toInt] at a3
    omega
  have two : (2 : Int64).toInt = 2 := by decide
  have d1 : ((2 : Int64) * (x.toInt64 * wx.toInt64 + y.toInt64 * wy.toInt64)).toInt = 2 * (wx.toInt * x.toInt + wy.toInt * y.toInt) := by rw [hz_k_mul (by rw [c2, two]; omega) (by rw [c2, two]; omega), c2, two]
  have m1 := hz_mulb (a := 2 * (wx.toInt * x.toInt + wy.toInt * y.toInt)) (b := wx.toInt * x.toInt + wy.toInt * y.toInt) (A := 4000000) (B := 2000000) ⟨by omega, by omega⟩ hpr
  have d2 : ((2 : Int64) * (x.toInt64 * wx.toInt64 + y.toInt64 * wy.toInt64) * (x.toInt64 * wx.toInt64 + y.toInt64 * wy.toInt64)).toInt = 2 * (wx.toInt * x.toInt + wy.toInt * y.toInt) * (wx.toInt * x.toInt + wy.toInt * y.toInt) := by rw [hz_k_mul (by rw [d1, c2]; omega) (by rw [d1, c2]; omega), d1, c2]
  have m2 := hz_mulb (a := x.toInt * x.toInt + y.toInt * y.toInt) (b := wx.toInt * wx.toInt + wy.toInt * wy.toInt) (A := 200000000) (B := 20000) ⟨by omega, by omega⟩ ⟨by omega, by omega⟩
  have d3 : ((x.toInt64 * x.toInt64 + y.toInt64 * y.toInt64) * (wx.toInt64 * wx.toInt64 + wy.toInt64 * wy.toInt64)).toInt = (x.toInt * x.toInt + y.toInt * y.toInt) * (wx.toInt * wx.toInt + wy.toInt * wy.toInt) := by rw [hz_k_mul (by rw [c1, c3]; omega) (by rw [c1, c3]; omega), c1, c3]
  have zI : ∀ z : Int32, z.toInt = 0 → z = 0 := fun z hz => Int32.toInt_inj.mp (hz.trans (by decide))
  have hiff := hz_pin_iff (a := wx.toInt) (b := wy.toInt) (x := x.toInt) (y := y.toInt) (d := dd) (fun h => hw ⟨zI _ h.1, zI _ h.2⟩) (fun h => hp ⟨zI _ h.1, zI _ h.2⟩)
  have z64 : (0 : Int64).toInt = 0 := by decide
  unfold f_Model_isIn_19 hz_isP
  rw [e, Option.bind_some]
  by_cases k1 : x.toInt * x.toInt + y.toInt * y.toInt ≤ (dd : Int) * dd
  · rw [if_neg (by rw [hz_c_pos, c1, b7]; omega)]
    by_cases k2 : 0 < wx.toInt * x.toInt + wy.toInt * y.toInt
    · rw [if_neg (by rw [hz_c_le, c2, z64]; omega)]
      by_cases k3 : (x.toInt * x.toInt + y.toInt * y.toInt) * (wx.toInt * wx.toInt + wy.toInt * wy.toInt) ≤ 2 * (wx.toInt * x.toInt + wy.toInt * y.toInt) * (wx.toInt * x.toInt + wy.toInt * y.toInt)
      · rw [if_neg (by rw [hz_c_neg, d2, d3]; omega), decide_eq_true (hiff.mpr ⟨k1, k2, k3⟩)]
      · rw [if_pos (by rw [hz_c_neg, d2, d3]; omega), decide_eq_false (fun h => k3 (hiff.mp h).2.2)]
    · rw [if_pos (by rw [hz_c_le, c2, z64]; omega), decide_eq_false (fun h => k2 (hiff.mp h).2.1)]
  · rw [if_pos (by rw [hz_c_pos, c1, b7]; omega), decide_eq_false (fun h => k1 h.1)]
set_option maxRecDepth 100000 in
noncomputable def hz_isI (P : Nat) (row ix am : Nat → Int32) (wx wy : Int32) (day : Bool) (x y : Int32) : Bool := if P = 0 then false else hz_isP wx wy x y (hz_maxT (hz_dT row ix am day) P 0 (hz_nI 0)).toNatClampNeg
set_option maxRecDepth 100000 in
def hz_wOk (wx wy : Int32) : Prop := hz_sqR wx 100 ∧ hz_sqR wy 100 ∧ ¬ (wx = 0 ∧ wy = 0)
set_option maxRecDepth 100000 in
def hz_bOk (x y : Int32) : Prop := hz_sqR x 10000 ∧ hz_sqR y 10000
set_option maxRecDepth 100000 in
theorem hz_p_cov {P : Nat} {row ix am : Nat → Int32} {wx wy x y : Int32} {day : Bool} (hD : hz_disR row ix P) (hw : hz_wOk wx wy) (hb : hz_bOk x y) : f_Surroundings_reaches wx wy (hz_maxT (hz_dT row ix am day) P 0 (-hz_nI 1)) x y = some (hz_isI P row ix am wx wy day x y) := by
  unfold hz_isI
  by_cases c : P = 0
  · subst c
    rw [if_pos rfl]
    exact hz_p_reachesN
  · rw [if_neg c, hz_dist_m1 hD (by omega)]
    obtain ⟨d, d1, d2⟩ := hz_dist_rng (am := am) (day := day) hD
    rw [d2, hz_nI_nat (by omega)]
    exact hz_p_reaches hw.1 hw.2.1 hb.1 hb.2 d1
abbrev hz_MR7 : Type := (Int32 × (Nat → Int32) × (Nat → Int32) × (Nat → Int32) × Int32 × (Nat → Int32)) × ((Nat → Int32)) × (Int32 × (Nat → Int32) × (Nat → Int32))
set_option maxRecDepth 100000 in
theorem hz_q_isIn {g1 : Int32 × Int32} {g2 : hz_M2} {g3 : hz_M3} {m0 nx : Int32} {ge : Bool} {row pt am ix : Nat → Int32} {wx wy x y : Int32} {day : Bool} {r : hz_MR7} {P : Nat} (hP : P ≤ 8) (hR : hz_ixR ix P) (hD : hz_disR row ix P) (hw : hz_wOk wx wy) (hb : hz_bOk x y) : f_Model_isIn (g1, g2, g3, (m0, ge, row), (hz_nI P, pt, am, ix, nx), (wx, wy, day), r) x y = some (hz_isI P row ix am wx wy day x y) := by
  unfold f_Model_isIn hz_isI
  by_cases c : P = 0
  · subst c
    rw [if_pos rfl, if_pos (show hz_nI 0 = 0 from rfl)]
  · rw [if_neg c, if_neg (show ¬ (hz_nI P = 0) by rw [hz_nI_lit, hz_nI_inj (by omega) (by omega)]; exact c)]
    obtain ⟨d, d1, d2⟩ := hz_dist_rng (am := am) (day := day) hD
    have e := hz_q_dist (g1 := g1) (g2 := g2) (g3 := g3) (m0 := m0) (ge := ge) (day := day) (row := row) (pt := pt) (am := am) (nx := nx) (r := ((wx, wy, day), r)) hP hR
    rw [d2] at e ⊢
    rw [hz_nI_nat (by omega)]
    have h19 := fun hp => hz_q_isIn_19 hw.1 hw.2.1 hb.1 hb.2 d1 hw.2.2 hp e
    by_cases cx : x = 0
    · by_cases cy : y = 0
      · rw [if_pos cx, if_pos cy, cx, cy]
        unfold hz_isP
        rw [decide_eq_true]
        have z0 : (0 : Int32).toInt = 0 := by decide
        rw [z0]
        have := Int.mul_self_le_mul_self (a := 0) (b := (d : Int)) (by omega) (by omega)
        exact ⟨by omega, by omega, by omega⟩
      · rw [if_pos cx, if_neg cy]
        exact h19 (fun h => cy h.2)
    · rw [if_neg cx]
      exact h19 (fun h => cx h.1)
set_option maxRecDepth 100000 in
def hz_frT (a b : Nat → Bool) : Nat → Nat → Nat → (Nat → Int32) → Nat × (Nat → Int32)
  | 0, i, F, fs => (F, fs)
  | n + 1, i, F, fs => if a i = true ∧ b i = false then hz_frT a b n (i + 1) (F + 1) (upd fs F (hz_nI i)) else hz_frT a b n (i + 1) F fs
set_option maxRecDepth 100000 in
theorem hz_frT_bd (a b : Nat → Bool) : ∀ n i F fs, F ≤ i → (hz_frT a b n i F fs).1 ≤ i + n
  | 0, i, F, fs, h => h
  | n + 1, i, F, fs, h => by
    unfold hz_frT
    split
    · have := hz_frT_bd a b n (i + 1) (F + 1) (upd fs F (hz_nI i)) (by omega); omega
    · have := hz_frT_bd a b n (i + 1) F fs (by omega); omega
set_option maxRecDepth 100000 in
theorem hz_p_gather_8 {P : Nat} {row ix am bx by9 : Nat → Int32} {wx wy ox oy : Int32} {day oday : Bool} {B : Nat} (hD : hz_disR row ix P) (hw : hz_wOk wx wy) (ho : hz_wOk ox oy) (hB : B ≤ 40) (hbd : ∀ i, i < B → hz_bOk (bx i) (by9 i)) : ∀ k n i F fs, B = i + k → k < n → F ≤ i →
    f_Surroundings_gather_8 n (bx, by9, fs, hz_nI B, hz_nI F, ox, oy, oday) wx wy (hz_maxT (hz_dT row ix am day) P 0 (-hz_nI 1)) (hz_maxT (hz_dT row ix am oday) P 0 (-hz_nI 1)) (hz_nI i) = some (bx, by9, (hz_frT (fun i => hz_isI P row ix am wx wy day (bx i) (by9 i)) (fun i => hz_isI P row ix am ox oy oday (bx i) (by9 i)) k i F fs).2, hz_nI B, hz_nI (hz_frT (fun i => hz_isI P row ix am wx wy day (bx i) (by9 i)) (fun i => hz_isI P row ix am ox oy oday (bx i) (by9 i)) k i F fs).1, ox, oy, oday)
  | 0, n + 1, i, F, fs, h1, h2, h3 => by
    rw [f_Surroundings_gather_8]
    simp only [hz_frT]
    simp (disch := omega) only [hz_nI_lit, hz_nI_add, hz_nI_mul, hz_nI_lt, hz_nI_le, hz_nI_inj, hz_nI_sub, hz_nI_nat, hz_nI_inb, hz_nI_pred, hz_nI_m1_lt, hz_nI_lt_m1, hz_nI_m1_le, hz_nI_le_m1, hz_nI_eq_m1, hz_nI_m1_eq, hz_bI0, if_pos, if_neg, if_true, if_false, Option.bind_some, Prod.eta, reduceCtorEq]
  | k + 1, n + 1, i, F, fs, h1, h2, h3 => by
    have ih := fun F fs => hz_p_gather_8 (am := am) (day := day) (oday := oday) hD hw ho hB hbd k n (i + 1) F fs (by omega) (by omega)
    have e1 := hz_p_cov (am := am) (day := day) hD hw (hbd i (by omega))
    have e2 := hz_p_cov (am := am) (day := oday) hD ho (hbd i (by omega))
    rw [f_Surroundings_gather_8]
    unfold hz_frT f_Surroundings_covers
    cases c1 : hz_isI P row ix am wx wy day (bx i) (by9 i)
    · rw [c1] at e1
      have e := ih F fs (by omega)
      simp (disch := omega) only [hz_nI_lit, hz_nI_add, hz_nI_mul, hz_nI_lt, hz_nI_le, hz_nI_inj, hz_nI_sub, hz_nI_nat, hz_nI_inb, hz_nI_pred, hz_nI_m1_lt, hz_nI_lt_m1, hz_nI_m1_le, hz_nI_le_m1, hz_nI_eq_m1, hz_nI_m1_eq, hz_bI0, if_pos, if_neg, if_true, if_false, Option.bind_some, Prod.eta, reduceCtorEq, e1, Bool.false_eq_true, false_and]
      exact e
    · rw [c1] at e1
      cases c2 : hz_isI P row ix am ox oy oday (bx i) (by9 i)
      · rw [c2] at e2
        have e := ih (F + 1) (upd fs F (hz_nI i)) (by omega)
        simp (disch := omega) only [hz_nI_lit, hz_nI_add, hz_nI_mul, hz_nI_lt, hz_nI_le, hz_nI_inj, hz_nI_sub, hz_nI_nat, hz_nI_inb, hz_nI_pred, hz_nI_m1_lt, hz_nI_lt_m1, hz_nI_m1_le, hz_nI_le_m1, hz_nI_eq_m1, hz_nI_m1_eq, hz_bI0, if_pos, if_neg, if_true, if_false, Option.bind_some, Prod.eta, reduceCtorEq, e1, e2, Bool.true_eq_false, and_self]
        exact e
      · rw [c2] at e2
        have e := ih F fs (by omega)
        simp (disch := omega) only [hz_nI_lit, hz_nI_add, hz_nI_mul, hz_nI_lt, hz_nI_le, hz_nI_inj, hz_nI_sub, hz_nI_nat, hz_nI_inb, hz_nI_pred, hz_nI_m1_lt, hz_nI_lt_m1, hz_nI_m1_le, hz_nI_le_m1, hz_nI_eq_m1, hz_nI_m1_eq, hz_bI0, if_pos, if_neg, if_true, if_false, Option.bind_some, Prod.eta, reduceCtorEq, e1, e2, Bool.true_eq_false, and_false]
        exact e
set_option maxRecDepth 100000 in
theorem hz_q_wind_112 {g1 : Int32 × Int32} {g2 : hz_M2} {g3 : hz_M3} {m0 nx : Int32} {ge : Bool} {row pt am ix bx by9 was : Nat → Int32} {wx wy : Int32} {day : Bool} {r : ((Nat → Int32)) × (Int32 × (Nat → Int32) × (Nat → Int32))} {P B : Nat} {b : Nat → Bool} (hP : P ≤ 8) (hR : hz_ixR ix P) (hD : hz_disR row ix P) (hw : hz_wOk wx wy) (hB : B ≤ 40) (hbd : ∀ i, i < B → hz_bOk (bx i) (by9 i)) (hwas : ∀ i, i < B → was i = bI (b i)) : ∀ k n i F fs, B = i + k → k < n → F ≤ i →
    f_Model_wind_112 n (g1, g2, g3, (m0, ge, row), (hz_nI P, pt, am, ix, nx), (wx, wy, day), (hz_nI B, bx, by9, was, hz_nI F, fs), r) (hz_nI i) = some (hz_nI (hz_frT (fun i => hz_isI P row ix am wx wy day (bx i) (by9 i)) b k i F fs).1, (g1, g2, g3, (m0, ge, row), (hz_nI P, pt, am, ix, nx), (wx, wy, day), (hz_nI B, bx, by9, was, hz_nI (hz_frT (fun i => hz_isI P row ix am wx wy day (bx i) (by9 i)) b k i F fs).1, (hz_frT (fun i => hz_isI P row ix am wx wy day (bx i) (by9 i)) b k i F fs).2), r))
  | 0, n + 1, i, F, fs, h1, h2, h3 => by
    rw [f_Model_wind_112]
    simp only [hz_frT]
    simp (disch := omega) only [hz_nI_lit, hz_nI_add, hz_nI_mul, hz_nI_lt, hz_nI_le, hz_nI_inj, hz_nI_sub, hz_nI_nat, hz_nI_inb, hz_nI_pred, hz_nI_m1_lt, hz_nI_lt_m1, hz_nI_m1_le, hz_nI_le_m1, hz_nI_eq_m1, hz_nI_m1_eq, hz_bI0, if_pos, if_neg, if_true, if_false, Option.bind_some, Prod.eta, reduceCtorEq]
  | k + 1, n + 1, i, F, fs, h1, h2, h3 => by
    have ih := fun F fs => hz_q_wind_112 (g1 := g1) (g2 := g2) (g3 := g3) (m0 := m0) (ge := ge) (pt := pt) (am := am) (nx := nx) (day := day) (r := r) (b := b) hP hR hD hw hB hbd hwas k n (i + 1) F fs (by omega) (by omega)
    have e1 := hz_q_isIn (g1 := g1) (g2 := g2) (g3 := g3) (m0 := m0) (ge := ge) (pt := pt) (am := am) (nx := nx) (day := day) (r := ((hz_nI B, bx, by9, was, hz_nI F, fs), r)) hP hR hD hw (hbd i (by omega))
    have e2 := hwas i (by omega)
    rw [f_Model_wind_112]
    unfold hz_frT
    cases c2 : b i
    · rw [c2] at e2
      cases c1 : hz_isI P row ix am wx wy day (bx i) (by9 i)
      · rw [c1] at e1
        have e := ih F fs (by omega)
        simp (disch := omega) only [hz_nI_lit, hz_nI_add, hz_nI_mul, hz_nI_lt, hz_nI_le, hz_nI_inj, hz_nI_sub, hz_nI_nat, hz_nI_inb, hz_nI_pred, hz_nI_m1_lt, hz_nI_lt_m1, hz_nI_m1_le, hz_nI_le_m1, hz_nI_eq_m1, hz_nI_m1_eq, hz_bI0, if_pos, if_neg, if_true, if_false, Option.bind_some, Prod.eta, reduceCtorEq, e1, e2, Bool.false_eq_true, false_and]
        exact e
      · rw [c1] at e1
        have e := ih (F + 1) (upd fs F (hz_nI i)) (by omega)
        simp (disch := omega) only [hz_nI_lit, hz_nI_add, hz_nI_mul, hz_nI_lt, hz_nI_le, hz_nI_inj, hz_nI_sub, hz_nI_nat, hz_nI_inb, hz_nI_pred, hz_nI_m1_lt, hz_nI_lt_m1, hz_nI_m1_le, hz_nI_le_m1, hz_nI_eq_m1, hz_nI_m1_eq, hz_bI0, if_pos, if_neg, if_true, if_false, Option.bind_some, Prod.eta, reduceCtorEq, e1, e2, Bool.true_eq_false, and_self]
        exact e
    · rw [c2] at e2
      have e := ih F fs (by omega)
      simp (disch := omega) only [hz_nI_lit, hz_nI_add, hz_nI_mul, hz_nI_lt, hz_nI_le, hz_nI_inj, hz_nI_sub, hz_nI_nat, hz_nI_inb, hz_nI_pred, hz_nI_m1_lt, hz_nI_lt_m1, hz_nI_m1_le, hz_nI_le_m1, hz_nI_eq_m1, hz_nI_m1_eq, hz_bI0, if_pos, if_neg, if_true, if_false, Option.bind_some, Prod.eta, reduceCtorEq, e2, Bool.true_eq_false, and_false]
      exact e
set_option maxRecDepth 100000 in
theorem hz_q_wind_49 {g1 : Int32 × Int32} {g2 : hz_M2} {g3 : hz_M3} {m0 nx F : Int32} {ge : Bool} {row pt am ix bx by9 fs : Nat → Int32} {wx wy ox oy : Int32} {day oday : Bool} {r : ((Nat → Int32)) × (Int32 × (Nat → Int32) × (Nat → Int32))} {P B : Nat} (hP : P ≤ 8) (hR : hz_ixR ix P) (hD : hz_disR row ix P) (ho : hz_wOk ox oy) (hB : B ≤ 40) (hbd : ∀ i, i < B → hz_bOk (bx i) (by9 i)) : ∀ k n i was, B = i + k → k < n → (∀ j, j < i → was j = bI (hz_isI P row ix am ox oy oday (bx j) (by9 j))) →
    ∃ was', (∀ j, j < B → was' j = bI (hz_isI P row ix am ox oy oday (bx j) (by9 j))) ∧ f_Model_wind_49 n (g1, g2, g3, (m0, ge, row), (hz_nI P, pt, am, ix, nx), (ox, oy, oday), (hz_nI B, bx, by9, was, F, fs), r) wx wy day (hz_nI i) = f_Model_wind_112 4096 (g1, g2, g3, (m0, ge, row), (hz_nI P, pt, am, ix, nx), (wx, wy, day), (hz_nI B, bx, by9, was', hz_nI 0, fs), r) (hz_nI 0)
  | 0, n + 1, i, was, h1, h2, h3 => by
    refine ⟨was, fun j hj => h3 j (by omega), ?_⟩
    rw [f_Model_wind_49, if_pos (show hz_nI B ≤ hz_nI i by rw [hz_nI_le (by omega) (by omega)]; omega), hz_nI_lit]
  | k + 1, n + 1, i, was, h1, h2, h3 => by
    have e1 := hz_q_isIn (g1 := g1) (g2 := g2) (g3 := g3) (m0 := m0) (ge := ge) (pt := pt) (am := am) (nx := nx) (day := oday) (r := ((hz_nI B, bx, by9, was, F, fs), r)) hP hR hD ho (hbd i (by omega))
    obtain ⟨was', h4, h5⟩ := hz_q_wind_49 (g1 := g1) (g2 := g2) (g3 := g3) (m0 := m0) (nx := nx) (F := F) (ge := ge) (pt := pt) (am := am) (fs := fs) (wx := wx) (wy := wy) (day := day) (oday := oday) (r := r) hP hR hD ho hB hbd k n (i + 1) (upd was i (bI (hz_isI P row ix am ox oy oday (bx i) (by9 i)))) (by omega) (by omega) (fun j hj => by
      by_cases hji : j = i
      · subst hji; rw [hz_upd_eq]
      · rw [hz_upd_ne hji]; exact h3 j (by omega))
    refine ⟨was', h4, ?_⟩
    rw [f_Model_wind_49]
    simp (disch := omega) only [hz_nI_lit, hz_nI_add, hz_nI_mul, hz_nI_lt, hz_nI_le, hz_nI_inj, hz_nI_sub, hz_nI_nat, hz_nI_inb, hz_nI_pred, hz_nI_m1_lt, hz_nI_lt_m1, hz_nI_m1_le, hz_nI_le_m1, hz_nI_eq_m1, hz_nI_m1_eq, hz_bI0, if_pos, if_neg, if_true, if_false, Option.bind_some, Prod.eta, reduceCtorEq, e1, hz_nar_b]
    exact h5
abbrev hz_M7 : Type := Int32 × (Nat → Int32) × (Nat → Int32) × (Nat → Int32) × Int32 × (Nat → Int32)
set_option maxRecDepth 100000 in
def hz_invW (ar : SSurroundings) (g6 : Int32 × Int32 × Bool) (g7 : hz_M7) : Prop := ∃ bx by9 fs was B F wx wy day, ar = (bx, by9, fs, hz_nI B, hz_nI F, wx, wy, day) ∧ g6 = (wx, wy, day) ∧ g7 = (hz_nI B, bx, by9, was, hz_nI F, fs) ∧ B ≤ 40 ∧ F ≤ 40 ∧ (∀ i, i < B → hz_bOk (bx i) (by9 i)) ∧ hz_wOk wx wy
set_option maxRecDepth 100000 in
theorem hz_inR_sq {x : Int32} {a b : Int32} {K : Int} (ha : a.toInt = -K) (hb : b.toInt = K) : hz_inR x a b = true ↔ hz_sqR x K := by
  unfold hz_inR hz_sqR
  rw [decide_eq_true_eq, Int32.le_iff_toInt_le, Int32.le_iff_toInt_le, ha, hb]
set_option maxRecDepth 100000 in
theorem hz_op_wind {ht : SHT} {ot : SOut} {mx : SMixture} {ar : SSurroundings} {tb : STable} {g1 : Int32 × Int32} {g2 : hz_M2} {g3 : hz_M3} {g4 : hz_M3} {g5 : hz_M5} {g6 : Int32 × Int32 × Bool} {g7 : hz_M7} {r : ((Nat → Int32)) × (Int32 × (Nat → Int32) × (Nat → Int32))} {x y : Int32} {day : Bool} (hT : hz_invT tb g4) (hX : hz_invX mx tb.2.1 g4.2.2 g5) (hW : hz_invW ar g6 g7) :
    ∃ k ot' ar' th b g6' g7', f_Law_wind ht ot mx ar tb x y day = some (k, ot', ar') ∧ f_Model_wind (g1, g2, g3, g4, g5, g6, g7, r) x y day = some (b, ((th, g1.2), g2, g3, g4, g5, g6', g7', r)) ∧ hz_ans k ot' th b.toInt64 ∧ hz_invW ar' g6' g7' := by
  have hW0 := hW
  obtain ⟨t1, t2, t3, t4, M, gen, row, rfl, rfl, hM, hT⟩ := hT
  obtain ⟨mn, mr, ml, pt, am, ix, P, nx, rfl, rfl, hP, hmn, hR, hl, hn1, hn6, hs⟩ := hX
  have hR : hz_prtR t2 row mr ix P := hR
  have hI := hz_ixR_of hR
  have hD := hz_disR_of hR
  obtain ⟨bx, by9, fs, was, B, F, ox, oy, oday, rfl, rfl, rfl, hB, hF, hbd, ho⟩ := hW
  have m100 : (-100 : Int32).toInt = -100 := by decide
  have p100 : (100 : Int32).toInt = 100 := by decide
  have ref : f_HT_wind ht (mn, mr, ml, hz_nI P, hz_nI nx) (bx, by9, fs, hz_nI B, hz_nI F, ox, oy, oday) (t1, t2, t3, t4, hz_nI M, gen) x y day = some (.inr (1, (bx, by9, fs, hz_nI B, hz_nI F, ox, oy, oday))) → f_Model_wind (g1, g2, g3, (hz_nI M, gen, row), (hz_nI P, pt, am, ix, hz_nI nx), (ox, oy, oday), (hz_nI B, bx, by9, was, hz_nI F, fs), r) x y day = f_Model_wind_35 (g1, g2, g3, (hz_nI M, gen, row), (hz_nI P, pt, am, ix, hz_nI nx), (ox, oy, oday), (hz_nI B, bx, by9, was, hz_nI F, fs), r) x y day → ∃ k ot' ar' th b g6' g7', f_Law_wind ht ot (mn, mr, ml, hz_nI P, hz_nI nx) (bx, by9, fs, hz_nI B, hz_nI F, ox, oy, oday) (t1, t2, t3, t4, hz_nI M, gen) x y day = some (k, ot', ar') ∧ f_Model_wind (g1, g2, g3, (hz_nI M, gen, row), (hz_nI P, pt, am, ix, hz_nI nx), (ox, oy, oday), (hz_nI B, bx, by9, was, hz_nI F, fs), r) x y day = some (b, ((th, g1.2), g2, g3, (hz_nI M, gen, row), (hz_nI P, pt, am, ix, hz_nI nx), g6', g7', r)) ∧ hz_ans k ot' th b.toInt64 ∧ hz_invW ar' g6' g7' := by
    intro eC eM
    refine ⟨1, ot, _, hz_nI 1, hz_nI 0, _, _, ?_, ?_, ⟨rfl, fun h => absurd h (by decide)⟩, hW0⟩
    · unfold f_Law_wind
      rw [eC, Option.bind_some, Sum.elim_inr, if_pos rfl]
    · rw [eM]
      unfold f_Model_wind_35
      rw [hz_goes1, Option.bind_some, if_pos (show bI false = 0 from rfl), hz_nI_lit]
  have eC0 : f_HT_wind ht (mn, mr, ml, hz_nI P, hz_nI nx) (bx, by9, fs, hz_nI B, hz_nI F, ox, oy, oday) (t1, t2, t3, t4, hz_nI M, gen) x y day = (if bI (!hz_inR x (-100) 100) = 0 then (if bI (!hz_inR y (-100) 100) = 0 then (if x = 0 then (if y = 0 then some (.inr (1, (bx, by9, fs, hz_nI B, hz_nI F, ox, oy, oday))) else f_HT_wind_50 ht (mn, mr, ml, hz_nI P, hz_nI nx) (bx, by9, fs, hz_nI B, hz_nI F, ox, oy, oday) (t1, t2, t3, t4, hz_nI M, gen) x y day) else f_HT_wind_50 ht (mn, mr, ml, hz_nI P, hz_nI nx) (bx, by9, fs, hz_nI B, hz_nI F, ox, oy, oday) (t1, t2, t3, t4, hz_nI M, gen) x y day) else some (.inr (1, (bx, by9, fs, hz_nI B, hz_nI F, ox, oy, oday)))) else some (.inr (1, (bx, by9, fs, hz_nI B, hz_nI F, ox, oy, oday)))) := by
    unfold f_HT_wind
    rw [hz_p_isOutside, Option.bind_some, hz_p_isOutside, Option.bind_some]
  have eM0 : f_Model_wind (g1, g2, g3, (hz_nI M, gen, row), (hz_nI P, pt, am, ix, hz_nI nx), (ox, oy, oday), (hz_nI B, bx, by9, was, hz_nI F, fs), r) x y day = (if bI (hz_inR x (-100) 100) = 0 then f_Model_wind_35 (g1, g2, g3, (hz_nI M, gen, row), (hz_nI P, pt, am, ix, hz_nI nx), (ox, oy, oday), (hz_nI B, bx, by9, was, hz_nI F, fs), r) x y day else if bI (hz_inR y (-100) 100) = 0 then f_Model_wind_35 (g1, g2, g3, (hz_nI M, gen, row), (hz_nI P, pt, am, ix, hz_nI nx), (ox, oy, oday), (hz_nI B, bx, by9, was, hz_nI F, fs), r) x y day else if x = 0 then (if y = 0 then f_Model_wind_35 (g1, g2, g3, (hz_nI M, gen, row), (hz_nI P, pt, am, ix, hz_nI nx), (ox, oy, oday), (hz_nI B, bx, by9, was, hz_nI F, fs), r) x y day else f_Model_wind_31 (g1, g2, g3, (hz_nI M, gen, row), (hz_nI P, pt, am, ix, hz_nI nx), (ox, oy, oday), (hz_nI B, bx, by9, was, hz_nI F, fs), r) x y day) else f_Model_wind_31 (g1, g2, g3, (hz_nI M, gen, row), (hz_nI P, pt, am, ix, hz_nI nx), (ox, oy, oday), (hz_nI B, bx, by9, was, hz_nI F, fs), r) x y day) := by
    unfold f_Model_wind
    rw [hz_q_within, Option.bind_some, hz_q_within, Option.bind_some]
  cases hx : hz_inR x (-100) 100
  · refine ref ?_ ?_
    · rw [eC0, hx, if_neg (show ¬ (bI (!false) = 0) by decide)]
    · rw [eM0, hx, if_pos (show bI false = 0 from rfl)]
  · cases hy : hz_inR y (-100) 100
    · refine ref ?_ ?_
      · rw [eC0, hx, hy, if_pos (show bI (!true) = 0 from rfl), if_neg (show ¬ (bI (!false) = 0) by decide)]
      · rw [eM0, hx, hy, if_neg (show ¬ (bI true = 0) by decide), if_pos (show bI false = 0 from rfl)]
    · rw [hx, hy, if_pos (show bI (!true) = 0 from rfl), if_pos (show bI (!true) = 0 from rfl)] at eC0
      rw [hx, hy, if_neg (show ¬ (bI true = 0) by decide), if_neg (show ¬ (bI true = 0) by decide)] at eM0
      by_cases c0 : x = 0 ∧ y = 0
      · rw [if_pos c0.1, if_pos c0.2] at eC0 eM0
        exact ref eC0 eM0
      · have hw : hz_wOk x y := ⟨(hz_inR_sq m100 p100).mp hx, (hz_inR_sq m100 p100).mp hy, c0⟩
        have eC : f_HT_wind ht (mn, mr, ml, hz_nI P, hz_nI nx) (bx, by9, fs, hz_nI B, hz_nI F, ox, oy, oday) (t1, t2, t3, t4, hz_nI M, gen) x y day = f_HT_wind_50 ht (mn, mr, ml, hz_nI P, hz_nI nx) (bx, by9, fs, hz_nI B, hz_nI F, ox, oy, oday) (t1, t2, t3, t4, hz_nI M, gen) x y day := by
          rw [eC0]
          by_cases cx : x = 0
          · rw [if_pos cx, if_neg (fun h => c0 ⟨cx, h⟩)]
          · rw [if_neg cx]
        have eM : f_Model_wind (g1, g2, g3, (hz_nI M, gen, row), (hz_nI P, pt, am, ix, hz_nI nx), (ox, oy, oday), (hz_nI B, bx, by9, was, hz_nI F, fs), r) x y day = f_Model_wind_31 (g1, g2, g3, (hz_nI M, gen, row), (hz_nI P, pt, am, ix, hz_nI nx), (ox, oy, oday), (hz_nI B, bx, by9, was, hz_nI F, fs), r) x y day := by
          rw [eM0]
          by_cases cx : x = 0
          · rw [if_pos cx, if_neg (fun h => c0 ⟨cx, h⟩)]
          · rw [if_neg cx]
        have eD := fun d => hz_p_dist (mn := mn) (nx := hz_nI nx) (t1 := t1) (t3 := t3) (t4 := t4) (t5 := hz_nI M) (t6 := gen) (day := d) hP hR hl
        have eG := hz_p_gather_8 (am := am) (day := day) (oday := oday) (bx := bx) (by9 := by9) hD hw ho hB hbd B 4096 0 0 fs (by omega) (by omega) (by omega)
        obtain ⟨was', hwas, e49⟩ := hz_q_wind_49 (g1 := (hz_nI 0, g1.2)) (g2 := g2) (g3 := g3) (m0 := hz_nI M) (nx := hz_nI nx) (F := hz_nI F) (ge := gen) (row := row) (pt := pt) (am := am) (fs := fs) (wx := x) (wy := y) (day := day) (oday := oday) (r := r) hP hI hD ho hB hbd B 4096 0 was (by omega) (by omega) (fun j hj => by omega)
        have e112 := hz_q_wind_112 (g1 := (hz_nI 0, g1.2)) (g2 := g2) (g3 := g3) (m0 := hz_nI M) (ge := gen) (row := row) (pt := pt) (am := am) (nx := hz_nI nx) (day := day) (r := r) hP hI hD hw hB hbd hwas B 4096 0 0 fs (by omega) (by omega) (by omega)
        have hbd9 := hz_frT_bd (fun i => hz_isI P row ix am x y day (bx i) (by9 i)) (fun i => hz_isI P row ix am ox oy oday (bx i) (by9 i)) B 0 0 fs (by omega)
        generalize hq : hz_frT (fun i => hz_isI P row ix am x y day (bx i) (by9 i)) (fun i => hz_isI P row ix am ox oy oday (bx i) (by9 i)) B 0 0 fs = q at *
        refine ⟨0, vp_updL ot (0 : Int32).toNatClampNeg (hz_nI q.1).toInt64, (bx, by9, q.2, hz_nI B, hz_nI q.1, x, y, day), hz_nI 0, hz_nI q.1, (x, y, day), (hz_nI B, bx, by9, was', hz_nI q.1, q.2), ?_, ?_, ⟨rfl, fun _ => hz_o_eq ot _⟩, bx, by9, q.2, was', B, q.1, x, y, day, rfl, rfl, rfl, hB, by omega, hbd, hw⟩
        · have eH : f_HT_wind_50 ht (mn, mr, ml, hz_nI P, hz_nI nx) (bx, by9, fs, hz_nI B, hz_nI F, ox, oy, oday) (t1, t2, t3, t4, hz_nI M, gen) x y day = some (.inl (hz_nI q.1, (bx, by9, q.2, hz_nI B, hz_nI q.1, x, y, day))) := by
            unfold f_HT_wind_50 f_Surroundings_gather f_Surroundings_turn
            rw [eD, Option.bind_some, eD, Option.bind_some, hz_nI_lit, eG, Option.bind_some, Option.bind_some]
          unfold f_Law_wind
          rw [eC, eH, Option.bind_some, Sum.elim_inl, if_pos hz_o_inb]
        · rw [eM]
          unfold f_Model_wind_31
          rw [hz_goesT, Option.bind_some, if_neg (show ¬ (bI true = 0) by decide)]
          exact e49.trans e112
abbrev hz_R8 : Type := ((Nat → Int32)) × (Int32 × (Nat → Int32) × (Nat → Int32))
set_option maxRecDepth 100000 in
theorem hz_p_noPoint (x y : Int32) : f_HT_isNoPoint x y = some (!(hz_inR x (-10000) 10000 && hz_inR y (-10000) 10000)) := by
  unfold f_HT_isNoPoint
  rw [hz_p_isOutside, Option.bind_some, hz_p_isOutside, Option.bind_some]
  cases hz_inR x (-10000) 10000 <;> cases hz_inR y (-10000) 10000 <;> rfl
set_option maxRecDepth 100000 in
theorem hz_q_isPoint (x y : Int32) : f_Model_isPoint x y = some (hz_inR x (-10000) 10000 && hz_inR y (-10000) 10000) := by
  unfold f_Model_isPoint
  rw [hz_q_within, Option.bind_some, hz_q_within, Option.bind_some]
  cases hz_inR x (-10000) 10000 <;> cases hz_inR y (-10000) 10000 <;> rfl
set_option maxRecDepth 100000 in
theorem hz_op_building {ht : SHT} {ot : SOut} {ar : SSurroundings} {g1 : Int32 × Int32} {g2 : hz_M2} {g3 : hz_M3} {g4 : hz_M3} {g5 : hz_M5} {g6 : Int32 × Int32 × Bool} {g7 : hz_M7} {r : hz_R8} {x y : Int32} (hW : hz_invW ar g6 g7) :
    ∃ k ot' ar' th b g7', f_Law_building ht ot ar x y = some (k, ot', ar') ∧ f_Model_building (g1, g2, g3, g4, g5, g6, g7, r) x y = some (b, ((th, g1.2), g2, g3, g4, g5, g6, g7', r)) ∧ hz_ans k ot' th b.toInt64 ∧ hz_invW ar' g6 g7' := by
  have hW0 := hW
  obtain ⟨bx, by9, fs, was, B, F, ox, oy, oday, rfl, rfl, rfl, hB, hF, hbd, ho⟩ := hW
  have m1 : (-10000 : Int32).toInt = -10000 := by decide
  have p1 : (10000 : Int32).toInt = 10000 := by decide
  cases hp : (hz_inR x (-10000) 10000 && hz_inR y (-10000) 10000)
  · refine ⟨1, ot, _, hz_nI 1, hz_nI 0, _, ?_, ?_, ⟨rfl, fun h => absurd h (by decide)⟩, hW0⟩
    · unfold f_Law_building f_HT_building
      rw [hz_p_noPoint, hp, Option.bind_some, if_neg (show ¬ (bI (!false) = 0) by decide), Option.bind_some, Sum.elim_inr, if_pos rfl]
    · unfold f_Model_building f_Model_building_20
      rw [hz_q_isPoint, hp, Option.bind_some, hz_goes1, hz_goes1, Option.bind_some, if_pos (show bI false = 0 from rfl), hz_nI_lit, hz_nI_lit]
      split <;> rfl
  · by_cases c40 : B = 40
    · subst c40
      refine ⟨2, ot, _, hz_nI 2, hz_nI 0, _, ?_, ?_, ⟨rfl, fun h => absurd h (by decide)⟩, hW0⟩
      · unfold f_Law_building f_HT_building f_Surroundings_isFull
        rw [hz_p_noPoint, hp, Option.bind_some, if_pos (show bI (!true) = 0 from rfl), if_neg (show ¬ (hz_nI 40 < 40) by decide), Option.bind_some, if_neg (show ¬ (bI true = 0) by decide), Option.bind_some, Sum.elim_inr, if_neg (show ¬ ((3 : Nat) = 1) by decide), if_pos rfl]
      · unfold f_Model_building f_Model_building_20
        rw [hz_q_isPoint, hp, Option.bind_some, if_pos (show (40 : Int32) ≤ hz_nI 40 by decide), hz_goes2, Option.bind_some, if_pos (show bI false = 0 from rfl), hz_nI_lit]
    · have hnl : ¬ ((40 : Int32) ≤ hz_nI B) := by rw [hz_nI_lit, hz_nI_le (by omega) (by omega)]; omega
      have eH : f_HT_building ht (bx, by9, fs, hz_nI B, hz_nI F, ox, oy, oday) x y = some (.inl (hz_nI B, (upd bx B x, upd by9 B y, fs, hz_nI (B + 1), hz_nI F, ox, oy, oday))) := by
        unfold f_HT_building f_Surroundings_append f_Surroundings_isFull
        rw [hz_p_noPoint, hp, Option.bind_some, if_pos (show bI (!true) = 0 from rfl)]
        simp (disch := omega) only [hz_nI_lit, hz_nI_add, hz_nI_mul, hz_nI_lt, hz_nI_le, hz_nI_inj, hz_nI_sub, hz_nI_nat, hz_nI_inb, hz_nI_pred, hz_nI_m1_lt, hz_nI_lt_m1, hz_nI_m1_le, hz_nI_le_m1, hz_nI_eq_m1, hz_nI_m1_eq, hz_bI0, if_pos, if_neg, if_true, if_false, Option.bind_some, Prod.eta, reduceCtorEq, Nat.add_sub_cancel]
      refine ⟨0, vp_updL ot (0 : Int32).toNatClampNeg (hz_nI B).toInt64, (upd bx B x, upd by9 B y, fs, hz_nI (B + 1), hz_nI F, ox, oy, oday), hz_nI 0, hz_nI B, (hz_nI (B + 1), upd bx B x, upd by9 B y, was, hz_nI F, fs), ?_, ?_, ⟨rfl, fun _ => hz_o_eq ot _⟩, upd bx B x, upd by9 B y, fs, was, B + 1, F, ox, oy, oday, rfl, rfl, rfl, by omega, hF, ?_, ho⟩
      · unfold f_Law_building
        rw [eH, Option.bind_some, Sum.elim_inl, if_pos hz_o_inb]
      · unfold f_Model_building f_Model_building_20
        rw [hz_q_isPoint, hp, Option.bind_some, if_neg hnl, hz_goesT, Option.bind_some, if_neg (show ¬ (bI true = 0) by decide)]
        simp (disch := omega) only [hz_nI_lit, hz_nI_add, hz_nI_mul, hz_nI_lt, hz_nI_le, hz_nI_inj, hz_nI_sub, hz_nI_nat, hz_nI_inb, hz_nI_pred, hz_nI_m1_lt, hz_nI_lt_m1, hz_nI_m1_le, hz_nI_le_m1, hz_nI_eq_m1, hz_nI_m1_eq, hz_bI0, if_pos, if_neg, if_true, if_false, Option.bind_some, Prod.eta, reduceCtorEq, Nat.add_sub_cancel]
      · intro i hi
        by_cases hiB : i = B
        · subst hiB
          rw [hz_upd_eq, hz_upd_eq]
          simp only [Bool.and_eq_true] at hp
          exact ⟨(hz_inR_sq m1 p1).mp hp.1, (hz_inR_sq m1 p1).mp hp.2⟩
        · rw [hz_upd_ne hiB, hz_upd_ne hiB]
          exact hbd i (by omega)
set_option maxRecDepth 100000 in
theorem hz_op_fresh {ht : SHT} {ot : SOut} {ar : SSurroundings} {g1 : Int32 × Int32} {g2 : hz_M2} {g3 : hz_M3} {g4 : hz_M3} {g5 : hz_M5} {g6 : Int32 × Int32 × Bool} {g7 : hz_M7} {r : hz_R8} {x : Int32} (hW : hz_invW ar g6 g7) :
    ∃ k ot' th b, f_Law_fresh ht ot ar x = some (k, ot') ∧ f_Model_fresh (g1, g2, g3, g4, g5, g6, g7, r) x = some (b, ((th, g1.2), g2, g3, g4, g5, g6, g7, r)) ∧ hz_ans k ot' th b.toInt64 := by
  obtain ⟨bx, by9, fs, was, B, F, ox, oy, oday, rfl, rfl, rfl, hB, hF, hbd, ho⟩ := hW
  by_cases c : x < 0
  · refine ⟨1, ot, hz_nI 1, hz_nI 0, ?_, ?_, rfl, fun h => absurd h (by decide)⟩
    · unfold f_Law_fresh f_HT_fresh
      rw [if_neg (by rw [Int32.not_le]; exact c), Option.bind_some, Sum.elim_inr, if_pos rfl]
    · unfold f_Model_fresh f_Model_fresh_10
      rw [if_pos c, hz_goes1, Option.bind_some, if_pos (show bI false = 0 from rfl), hz_nI_lit]
  · obtain ⟨m, hm, rfl, _⟩ := hz_nI_of (x := x) (by rw [Int32.lt_iff_toInt_lt] at c; simp only [show (0 : Int32).toInt = 0 by decide] at c; omega)
    have fin : ∀ v, f_Surroundings_freshOne (bx, by9, fs, hz_nI B, hz_nI F, ox, oy, oday) (hz_nI m) = some v → f_Model_fresh (g1, g2, g3, g4, g5, (ox, oy, oday), (hz_nI B, bx, by9, was, hz_nI F, fs), r) (hz_nI m) = some (v, ((hz_nI 0, g1.2), g2, g3, g4, g5, (ox, oy, oday), (hz_nI B, bx, by9, was, hz_nI F, fs), r)) → ∃ k ot' th b, f_Law_fresh ht ot (bx, by9, fs, hz_nI B, hz_nI F, ox, oy, oday) (hz_nI m) = some (k, ot') ∧ f_Model_fresh (g1, g2, g3, g4, g5, (ox, oy, oday), (hz_nI B, bx, by9, was, hz_nI F, fs), r) (hz_nI m) = some (b, ((th, g1.2), g2, g3, g4, g5, (ox, oy, oday), (hz_nI B, bx, by9, was, hz_nI F, fs), r)) ∧ hz_ans k ot' th b.toInt64 := by
      intro v eC eM
      refine ⟨0, vp_updL ot (0 : Int32).toNatClampNeg v.toInt64, hz_nI 0, v, ?_, eM, rfl, fun _ => hz_o_eq ot _⟩
      unfold f_Law_fresh f_HT_fresh
      rw [if_pos (by rw [← Int32.not_lt]; exact c), eC, Option.bind_some, Option.bind_some, Sum.elim_inl, if_pos hz_o_inb]
    have eM0 : f_Model_fresh (g1, g2, g3, g4, g5, (ox, oy, oday), (hz_nI B, bx, by9, was, hz_nI F, fs), r) (hz_nI m) = (if hz_nI F ≤ hz_nI m then some (-1, ((hz_nI 0, g1.2), g2, g3, g4, g5, (ox, oy, oday), (hz_nI B, bx, by9, was, hz_nI F, fs), r)) else if inb (hz_nI m) 40 then some (fs (hz_nI m).toNatClampNeg, ((hz_nI 0, g1.2), g2, g3, g4, g5, (ox, oy, oday), (hz_nI B, bx, by9, was, hz_nI F, fs), r)) else none) := by
      unfold f_Model_fresh f_Model_fresh_10
      rw [if_neg c, hz_goesT, Option.bind_some, if_neg (show ¬ (bI true = 0) by decide)]
    by_cases cF : F ≤ m
    · refine fin (-hz_nI 1) ?_ ?_
      · unfold f_Surroundings_freshOne
        simp (disch := omega) only [hz_nI_lit, hz_nI_add, hz_nI_mul, hz_nI_lt, hz_nI_le, hz_nI_inj, hz_nI_sub, hz_nI_nat, hz_nI_inb, hz_nI_pred, hz_nI_m1_lt, hz_nI_lt_m1, hz_nI_m1_le, hz_nI_le_m1, hz_nI_eq_m1, hz_nI_m1_eq, hz_bI0, if_pos, if_neg, if_true, if_false, Option.bind_some, Prod.eta, reduceCtorEq]
      · rw [eM0]
        simp (disch := omega) only [hz_nI_lit, hz_nI_add, hz_nI_mul, hz_nI_lt, hz_nI_le, hz_nI_inj, hz_nI_sub, hz_nI_nat, hz_nI_inb, hz_nI_pred, hz_nI_m1_lt, hz_nI_lt_m1, hz_nI_m1_le, hz_nI_le_m1, hz_nI_eq_m1, hz_nI_m1_eq, hz_bI0, if_pos, if_neg, if_true, if_false, Option.bind_some, Prod.eta, reduceCtorEq]
    · refine fin (fs m) ?_ ?_
      · unfold f_Surroundings_freshOne
        simp (disch := omega) only [hz_nI_lit, hz_nI_add, hz_nI_mul, hz_nI_lt, hz_nI_le, hz_nI_inj, hz_nI_sub, hz_nI_nat, hz_nI_inb, hz_nI_pred, hz_nI_m1_lt, hz_nI_lt_m1, hz_nI_m1_le, hz_nI_le_m1, hz_nI_eq_m1, hz_nI_m1_eq, hz_bI0, if_pos, if_neg, if_true, if_false, Option.bind_some, Prod.eta, reduceCtorEq]
      · rw [eM0]
        simp (disch := omega) only [hz_nI_lit, hz_nI_add, hz_nI_mul, hz_nI_lt, hz_nI_le, hz_nI_inj, hz_nI_sub, hz_nI_nat, hz_nI_inb, hz_nI_pred, hz_nI_m1_lt, hz_nI_lt_m1, hz_nI_m1_le, hz_nI_le_m1, hz_nI_eq_m1, hz_nI_m1_eq, hz_bI0, if_pos, if_neg, if_true, if_false, Option.bind_some, Prod.eta, reduceCtorEq]
set_option maxRecDepth 100000 in
theorem hz_o_eq01 (ot : SOut) (b : Bool) : lg_cmp (vp_updL ot (0 : Int32).toNatClampNeg (if b = true then (1 : Int64) else 0) (0 : Int32).toNatClampNeg) (if b = true then (1 : Int64) else 0) = 0 := by
  unfold vp_updL
  rw [if_pos rfl]
  exact hz_cmp_self _
set_option maxRecDepth 100000 in
theorem hz_op_in {ht : SHT} {ot : SOut} {mx : SMixture} {ar : SSurroundings} {tb : STable} {g1 : Int32 × Int32} {g2 : hz_M2} {g3 : hz_M3} {g4 : hz_M3} {g5 : hz_M5} {g6 : Int32 × Int32 × Bool} {g7 : hz_M7} {r : hz_R8} {x y : Int32} (hT : hz_invT tb g4) (hX : hz_invX mx tb.2.1 g4.2.2 g5) (hW : hz_invW ar g6 g7) :
    ∃ k ot' th b, f_Law_in ht ot mx ar tb x y = some (k, ot') ∧ f_Model_in (g1, g2, g3, g4, g5, g6, g7, r) x y = some (b, ((th, g1.2), g2, g3, g4, g5, g6, g7, r)) ∧ hz_ans k ot' th (if b = true then (1 : Int64) else 0) := by
  obtain ⟨t1, t2, t3, t4, M, gen, row, rfl, rfl, hM, hT⟩ := hT
  obtain ⟨mn, mr, ml, pt, am, ix, P, nx, rfl, rfl, hP, hmn, hR, hl, hn1, hn6, hs⟩ := hX
  have hR : hz_prtR t2 row mr ix P := hR
  have hI := hz_ixR_of hR
  have hD := hz_disR_of hR
  obtain ⟨bx, by9, fs, was, B, F, ox, oy, oday, rfl, rfl, rfl, hB, hF, hbd, ho⟩ := hW
  have m1 : (-10000 : Int32).toInt = -10000 := by decide
  have p1 : (10000 : Int32).toInt = 10000 := by decide
  cases hp : (hz_inR x (-10000) 10000 && hz_inR y (-10000) 10000)
  · refine ⟨1, ot, hz_nI 1, false, ?_, ?_, rfl, fun h => absurd h (by decide)⟩
    · unfold f_Law_in f_HT_in
      rw [hz_p_noPoint, hp, Option.bind_some, if_neg (show ¬ (bI (!false) = 0) by decide), Option.bind_some, Sum.elim_inr, if_pos rfl]
    · unfold f_Model_in f_Model_in_18
      rw [hz_q_isPoint, hp, Option.bind_some, hz_goes1, hz_goes1, Option.bind_some, if_pos (show bI false = 0 from rfl)]
      split <;> rfl
  · by_cases c0 : P = 0
    · subst c0
      refine ⟨2, ot, hz_nI 2, false, ?_, ?_, rfl, fun h => absurd h (by decide)⟩
      · unfold f_Law_in f_HT_in
        rw [hz_p_noPoint, hp, Option.bind_some, if_pos (show bI (!true) = 0 from rfl), if_pos (show hz_nI 0 = 0 from rfl), Option.bind_some, Sum.elim_inr, if_neg (show ¬ ((2 : Nat) = 1) by decide), if_pos rfl]
      · unfold f_Model_in f_Model_in_18
        rw [hz_q_isPoint, hp, Option.bind_some, if_pos (show hz_nI 0 ≤ 0 by decide), hz_goes2, Option.bind_some, if_pos (show bI false = 0 from rfl)]
    · have hne : ¬ hz_nI P = 0 := by rw [hz_nI_lit, hz_nI_inj (by omega) (by omega)]; exact c0
      have hnl : ¬ hz_nI P ≤ 0 := by rw [hz_nI_lit, hz_nI_le (by omega) (by omega)]; omega
      have hb : hz_bOk x y := by
        simp only [Bool.and_eq_true] at hp
        exact ⟨(hz_inR_sq m1 p1).mp hp.1, (hz_inR_sq m1 p1).mp hp.2⟩
      have eD := hz_p_dist (mn := mn) (nx := hz_nI nx) (t1 := t1) (t3 := t3) (t4 := t4) (t5 := hz_nI M) (t6 := gen) (day := oday) hP hR hl
      have e1 := hz_p_cov (am := am) (day := oday) hD ho hb
      have e2 := hz_q_isIn (g1 := (hz_nI 0, g1.2)) (g2 := g2) (g3 := g3) (m0 := hz_nI M) (ge := gen) (row := row) (pt := pt) (am := am) (nx := hz_nI nx) (day := oday) (r := ((hz_nI B, bx, by9, was, hz_nI F, fs), r)) hP hI hD ho hb
      generalize hz_isI P row ix am ox oy oday x y = v at *
      have eH : f_HT_in ht (mn, mr, ml, hz_nI P, hz_nI nx) (bx, by9, fs, hz_nI B, hz_nI F, ox, oy, oday) (t1, t2, t3, t4, hz_nI M, gen) x y = some (.inl v) := by
        unfold f_HT_in f_Surroundings_covers
        rw [hz_p_noPoint, hp, Option.bind_some, if_pos (show bI (!true) = 0 from rfl), if_neg hne, eD, Option.bind_some, e1, Option.bind_some, Option.bind_some]
      refine ⟨0, vp_updL ot (0 : Int32).toNatClampNeg (if v = true then (1 : Int64) else 0), hz_nI 0, v, ?_, ?_, rfl, fun _ => hz_o_eq01 ot v⟩
      · unfold f_Law_in
        rw [eH, Option.bind_some, Sum.elim_inl]
        cases v
        · rw [if_pos (show bI false = 0 from rfl), if_pos hz_o_inb]; rfl
        · rw [if_neg (show ¬ (bI true = 0) by decide), if_pos hz_o_inb]; rfl
      · unfold f_Model_in f_Model_in_18
        rw [hz_q_isPoint, hp, Option.bind_some, if_neg hnl, hz_goesT, Option.bind_some, if_neg (show ¬ (bI true = 0) by decide), e2, Option.bind_some]
        cases v
        · rw [if_pos (show bI false = 0 from rfl)]
        · rw [if_neg (show ¬ (bI true = 0) by decide)]
set_option maxRecDepth 100000 in
def hz_invM (ht : SHT) (g8 : Nat → Int32) : Prop := ∀ i, i < 5 → ht i = g8 i
abbrev hz_R9 : Type := Int32 × (Nat → Int32) × (Nat → Int32)
set_option maxRecDepth 100000 in
theorem hz_op_mark {ht : SHT} {g1 : Int32 × Int32} {g2 : hz_M2} {g3 : hz_M3} {g4 : hz_M3} {g5 : hz_M5} {g6 : Int32 × Int32 × Bool} {g7 : hz_M7} {g8 : Nat → Int32} {r : hz_R9} {x y : Int32} (hM : hz_invM ht g8) :
    ∃ k ht' th g8', f_Law_mark ht x y = some (k, ht') ∧ f_Model_mark (g1, g2, g3, g4, g5, g6, g7, g8, r) x y = some ((th, g1.2), g2, g3, g4, g5, g6, g7, g8', r) ∧ th = k ∧ hz_invM ht' g8' := by
  unfold f_Law_mark f_HT_mark f_Model_mark
  rw [hz_q_within, Option.bind_some]
  cases h1 : hz_inR x 0 4
  · refine ⟨1, ht, hz_nI 1, g8, ?_, ?_, rfl, hM⟩
    · unfold hz_inR at h1
      simp only [decide_eq_false_iff_not, Int32.le_iff_toInt_le, show (0 : Int32).toInt = 0 by decide, show (4 : Int32).toInt = 4 by decide] at h1
      by_cases c1 : x < 0
      · rw [if_pos c1, Option.bind_some, Sum.elim_inr, if_pos rfl]
      · rw [if_neg c1, if_neg (by rw [Int32.lt_iff_toInt_lt] at c1 ⊢; simp only [show (0 : Int32).toInt = 0 by decide, show (5 : Int32).toInt = 5 by decide] at *; omega), Option.bind_some, Sum.elim_inr, if_pos rfl]
    · rw [hz_goes1, hz_goes1, Option.bind_some, if_pos (show bI false = 0 from rfl)]
      split <;> rfl
  · obtain ⟨d, d1, d2, rfl⟩ := hz_inR_eq (x := x) (f := 0) (t := 4) (by omega) (by omega) h1
    by_cases cy : y < 0
    · refine ⟨2, ht, hz_nI 2, g8, ?_, ?_, rfl, hM⟩
      · have : ¬ ((0 : Int32) ≤ y) := by rw [Int32.not_le]; exact cy
        rw [if_neg (show ¬ (hz_nI d < 0) by rw [hz_nI_lit, hz_nI_lt (by omega) (by omega)]; omega), if_pos (show hz_nI d < 5 by rw [hz_nI_lit, hz_nI_lt (by omega) (by omega)]; omega), if_neg this, Option.bind_some, Sum.elim_inr, if_neg (show ¬ ((1 : Nat) = 0) by decide), if_pos rfl]
      · rw [if_pos cy, hz_goes2, Option.bind_some, if_pos (show bI false = 0 from rfl)]
    · refine ⟨0, upd ht d y, hz_nI 0, upd g8 d y, ?_, ?_, rfl, ?_⟩
      · have : (0 : Int32) ≤ y := by rw [← Int32.not_lt]; exact cy
        have eH : (if hz_nI d < 0 then (some (Sum.inr (0, ht)) : Option (SHT ⊕ (Nat × SHT))) else if hz_nI d < (5 : Int32) then if (0 : Int32) ≤ y then if inb (hz_nI d) 5 then some (Sum.inl (upd ht (hz_nI d).toNatClampNeg y)) else none else some (Sum.inr (1, ht)) else some (Sum.inr (0, ht))) = some (Sum.inl (upd ht d y)) := by
          rw [if_neg (show ¬ (hz_nI d < 0) by rw [hz_nI_lit, hz_nI_lt (by omega) (by omega)]; omega), if_pos (show hz_nI d < 5 by rw [hz_nI_lit, hz_nI_lt (by omega) (by omega)]; omega), if_pos this]
          simp (disch := omega) only [hz_nI_lit, hz_nI_add, hz_nI_mul, hz_nI_lt, hz_nI_le, hz_nI_inj, hz_nI_sub, hz_nI_nat, hz_nI_inb, hz_nI_pred, hz_nI_m1_lt, hz_nI_lt_m1, hz_nI_m1_le, hz_nI_le_m1, hz_nI_eq_m1, hz_nI_m1_eq, hz_bI0, if_pos, if_neg, if_true, if_false, Option.bind_some, Prod.eta, reduceCtorEq]
        rw [eH, Option.bind_some, Sum.elim_inl]
      · rw [if_neg cy, hz_goesT, Option.bind_some, if_neg (show ¬ (bI true = 0) by decide)]
        simp (disch := omega) only [hz_nI_lit, hz_nI_add, hz_nI_mul, hz_nI_lt, hz_nI_le, hz_nI_inj, hz_nI_sub, hz_nI_nat, hz_nI_inb, hz_nI_pred, hz_nI_m1_lt, hz_nI_lt_m1, hz_nI_m1_le, hz_nI_le_m1, hz_nI_eq_m1, hz_nI_m1_eq, hz_bI0, if_pos, if_neg, if_true, if_false, Option.bind_some, Prod.eta, reduceCtorEq]
      · intro i hi
        by_cases hid : i = d
        · subst hid; rw [hz_upd_eq, hz_upd_eq]
        · rw [hz_upd_ne hid, hz_upd_ne hid]; exact hM i hi
set_option maxRecDepth 100000 in
theorem hz_op_over {ht : SHT} {ot : SOut} {g1 : Int32 × Int32} {g2 : hz_M2} {g3 : hz_M3} {g4 : hz_M3} {g5 : hz_M5} {g6 : Int32 × Int32 × Bool} {g7 : hz_M7} {g8 : Nat → Int32} {r : hz_R9} {x y : Int32} (hM : hz_invM ht g8) :
    ∃ k ot' th b, f_Law_over ht ot x y = some (k, ot') ∧ f_Model_over (g1, g2, g3, g4, g5, g6, g7, g8, r) x y = some (b, ((th, g1.2), g2, g3, g4, g5, g6, g7, g8, r)) ∧ hz_ans k ot' th (if b = true then (1 : Int64) else 0) := by
  cases h1 : hz_inR x 0 4
  · refine ⟨1, ot, hz_nI 1, false, ?_, ?_, rfl, fun h => absurd h (by decide)⟩
    · have eH : f_HT_over ht x y = some (.inr (0, ())) := by
        unfold f_HT_over
        unfold hz_inR at h1
        simp only [decide_eq_false_iff_not, Int32.le_iff_toInt_le, show (0 : Int32).toInt = 0 by decide, show (4 : Int32).toInt = 4 by decide] at h1
        by_cases c1 : x < 0
        · rw [if_pos c1]
        · rw [if_neg c1, if_neg (by rw [Int32.lt_iff_toInt_lt] at c1 ⊢; simp only [show (0 : Int32).toInt = 0 by decide, show (5 : Int32).toInt = 5 by decide] at *; omega)]
      unfold f_Law_over
      rw [eH, Option.bind_some, Sum.elim_inr, if_pos rfl]
    · unfold f_Model_over
      rw [hz_q_within, h1, Option.bind_some, hz_goes1, Option.bind_some, if_pos (show bI false = 0 from rfl)]
  · obtain ⟨d, d1, d2, rfl⟩ := hz_inR_eq (x := x) (f := 0) (t := 4) (by omega) (by omega) h1
    have hd := hM d (by omega)
    have eH : f_HT_over ht (hz_nI d) y = some (.inl (decide (¬ y < ht d))) := by
      unfold f_HT_over
      by_cases c : y < ht d
      · simp (disch := omega) only [hz_nI_lit, hz_nI_add, hz_nI_mul, hz_nI_lt, hz_nI_le, hz_nI_inj, hz_nI_sub, hz_nI_nat, hz_nI_inb, hz_nI_pred, hz_nI_m1_lt, hz_nI_lt_m1, hz_nI_m1_le, hz_nI_le_m1, hz_nI_eq_m1, hz_nI_m1_eq, hz_bI0, if_pos, if_neg, if_true, if_false, Option.bind_some, Prod.eta, reduceCtorEq, c, not_true_eq_false, decide_false]
      · simp (disch := omega) only [hz_nI_lit, hz_nI_add, hz_nI_mul, hz_nI_lt, hz_nI_le, hz_nI_inj, hz_nI_sub, hz_nI_nat, hz_nI_inb, hz_nI_pred, hz_nI_m1_lt, hz_nI_lt_m1, hz_nI_m1_le, hz_nI_le_m1, hz_nI_eq_m1, hz_nI_m1_eq, hz_bI0, if_pos, if_neg, if_true, if_false, Option.bind_some, Prod.eta, reduceCtorEq, c, not_false_eq_true, decide_true]
    have eM : f_Model_over (g1, g2, g3, g4, g5, g6, g7, g8, r) (hz_nI d) y = some (decide (¬ y < ht d), ((hz_nI 0, g1.2), g2, g3, g4, g5, g6, g7, g8, r)) := by
      unfold f_Model_over
      rw [hz_q_within, h1, Option.bind_some, hz_goesT, Option.bind_some, if_neg (show ¬ (bI true = 0) by decide), hd]
      by_cases c : y < g8 d
      · simp (disch := omega) only [hz_nI_lit, hz_nI_add, hz_nI_mul, hz_nI_lt, hz_nI_le, hz_nI_inj, hz_nI_sub, hz_nI_nat, hz_nI_inb, hz_nI_pred, hz_nI_m1_lt, hz_nI_lt_m1, hz_nI_m1_le, hz_nI_le_m1, hz_nI_eq_m1, hz_nI_m1_eq, hz_bI0, if_pos, if_neg, if_true, if_false, Option.bind_some, Prod.eta, reduceCtorEq, c, not_true_eq_false, decide_false]
      · simp (disch := omega) only [hz_nI_lit, hz_nI_add, hz_nI_mul, hz_nI_lt, hz_nI_le, hz_nI_inj, hz_nI_sub, hz_nI_nat, hz_nI_inb, hz_nI_pred, hz_nI_m1_lt, hz_nI_lt_m1, hz_nI_m1_le, hz_nI_le_m1, hz_nI_eq_m1, hz_nI_m1_eq, hz_bI0, if_pos, if_neg, if_true, if_false, Option.bind_some, Prod.eta, reduceCtorEq, c, not_false_eq_true, decide_true]
    generalize decide (¬ y < ht d) = v at *
    refine ⟨0, vp_updL ot (0 : Int32).toNatClampNeg (if v = true then (1 : Int64) else 0), hz_nI 0, v, ?_, eM, rfl, fun _ => hz_o_eq01 ot v⟩
    unfold f_Law_over
    rw [eH, Option.bind_some, Sum.elim_inl]
    cases v
    · rw [if_pos (show bI false = 0 from rfl), if_pos hz_o_inb]; rfl
    · rw [if_neg (show ¬ (bI true = 0) by decide), if_pos hz_o_inb]; rfl
set_option maxRecDepth 100000 in
theorem hz_bv255 (i : Nat) : (255#32).getLsbD i = decide (i < 8) := by
  by_cases h : i < 32
  · have : ∀ j : Fin 32, (255#32).getLsbD j.val = decide (j.val < 8) := by decide
    exact this ⟨i, h⟩
  · rw [BitVec.getLsbD_of_ge _ _ (by omega), decide_eq_false (by omega)]
set_option maxRecDepth 100000 in
theorem hz_bvk (v : BitVec 64) (n : Nat) (hn : n ≤ 56) : (v >>> n).signExtend 32 &&& 255#32 = (v.sshiftRight n).signExtend 32 &&& 255#32 := by
  rw [BitVec.signExtend_eq_setWidth_of_le _ (by omega), BitVec.signExtend_eq_setWidth_of_le _ (by omega)]
  apply BitVec.eq_of_getLsbD_eq
  intro i hi
  rw [BitVec.getLsbD_and, BitVec.getLsbD_and, hz_bv255]
  by_cases h8 : i < 8
  · rw [decide_eq_true h8, Bool.and_true, Bool.and_true, BitVec.getLsbD_setWidth, BitVec.getLsbD_setWidth, BitVec.getLsbD_ushiftRight, BitVec.getLsbD_sshiftRight]
    have h1 : n + i < 64 := by omega
    simp only [h1, if_true]
    rw [decide_eq_false (show ¬ (64 ≤ i) by omega), Bool.not_false, Bool.true_and]
  · rw [decide_eq_false h8, Bool.and_false, Bool.and_false]
set_option maxRecDepth 100000 in
theorem hz_bk1 : ∀ k : Fin 8, ((((8 : Int32) * hz_nI k.val).toInt64.toUInt64 &&& Int64.toUInt64 63).toBitVec % 64).toNat = 8 * k.val := by decide
set_option maxRecDepth 100000 in
theorem hz_bk2 : ∀ k : Fin 8, ((((8 : Int32) * hz_nI k.val).toInt64 &&& 63).toBitVec.smod 64).toNat = 8 * k.val := by decide
set_option maxRecDepth 100000 in
def hz_byt (x : Int64) (k : Nat) : Int32 := ((x >>> (((8 : Int32) * hz_nI k).toInt64 &&& 63)).toInt32) &&& (255 : Int32)
set_option maxRecDepth 100000 in
theorem hz_p_byte (x : Int64) (k : Nat) (hk : k < 8) : f_HT_byteOf x (hz_nI k) = some (hz_byt x k) := by
  unfold f_HT_byteOf hz_byt
  congr 1
  apply Int32.toBitVec_inj.mp
  rw [Int32.toBitVec_and, Int32.toBitVec_and, Int64.toBitVec_toInt32, Int64.toBitVec_toInt32, UInt64.toBitVec_toInt64, UInt64.toBitVec_shiftRight, Int64.toBitVec_shiftRight, BitVec.ushiftRight_eq', BitVec.sshiftRight_eq', hz_bk1 ⟨k, hk⟩, hz_bk2 ⟨k, hk⟩]
  exact hz_bvk x.toBitVec (8 * k) (by omega)
set_option maxRecDepth 100000 in
theorem hz_byt_rng (x : Int64) (k : Nat) : ∃ d, d ≤ 255 ∧ hz_byt x k = hz_nI d := by
  unfold hz_byt
  generalize (x >>> (((8 : Int32) * hz_nI k).toInt64 &&& 63)).toInt32 = z
  refine ⟨(z.toBitVec &&& 255#32).toNat, ?_, ?_⟩
  · rw [BitVec.toNat_and]
    exact Nat.le_trans (Nat.and_le_right) (by decide)
  · apply Int32.toBitVec_inj.mp
    rw [Int32.toBitVec_and]
    show _ = BitVec.ofNat 32 _
    rw [BitVec.ofNat_toNat, BitVec.setWidth_eq]
    rfl
set_option maxRecDepth 100000 in
theorem hz_pq_sign {g1 : Int32 × Int32} {a2 w2 ra rv rw9 : Int32} {g3 : hz_M3} {r : hz_MR} {x : Int64} : ∀ j n1 n2 L tp, j ≤ 8 → L + j ≤ 400 → j < n1 → j < n2 → (∀ i, ∃ d, d ≤ 255 ∧ tp i = hz_nI d) →
    ∃ tp', (∀ i, ∃ d, d ≤ 255 ∧ tp' i = hz_nI d) ∧ f_Reader_append_5 n1 (tp, hz_nI L, ra, rv, rw9) x (hz_nI j - hz_nI 1) = some (hz_nI (L + j), (tp', hz_nI (L + j), ra, rv, rw9)) ∧ f_Model_sign_39 n2 (g1, (hz_nI L, tp, a2, w2), g3, r) x (hz_nI j - hz_nI 1) = some (hz_nI (L + j), (g1, (hz_nI (L + j), tp', a2, w2), g3, r)) := by
  intro j
  induction j with
  | zero =>
    intro n1 n2 L tp h1 h2 h3 h4 h5
    obtain ⟨n1, rfl⟩ : ∃ n', n1 = n' + 1 := ⟨n1 - 1, by omega⟩
    obtain ⟨n2, rfl⟩ : ∃ n', n2 = n' + 1 := ⟨n2 - 1, by omega⟩
    refine ⟨tp, h5, ?_, ?_⟩
    · rw [f_Reader_append_5, if_pos (show hz_nI 0 - hz_nI 1 < 0 by decide), Nat.add_zero]
    · rw [f_Model_sign_39, if_pos (show hz_nI 0 - hz_nI 1 < 0 by decide), Nat.add_zero]
  | succ j ih =>
    intro n1 n2 L tp h1 h2 h3 h4 h5
    obtain ⟨n1, rfl⟩ : ∃ n', n1 = n' + 1 := ⟨n1 - 1, by omega⟩
    obtain ⟨n2, rfl⟩ : ∃ n', n2 = n' + 1 := ⟨n2 - 1, by omega⟩
    obtain ⟨tp', i1, i2, i3⟩ := ih n1 n2 (L + 1) (upd tp L (hz_byt x j)) (by omega) (by omega) (by omega) (by omega) (fun i => by
      by_cases h : i = L
      · subst h; rw [hz_upd_eq]; exact hz_byt_rng x j
      · rw [hz_upd_ne h]; exact h5 i)
    rw [show L + 1 + j = L + (j + 1) by omega] at i2 i3
    have e1 : hz_nI (j + 1) - hz_nI 1 = hz_nI j := by rw [hz_nI_sub (by omega), Nat.add_sub_cancel]
    have e2 : hz_nI j + -hz_nI 1 = hz_nI j - hz_nI 1 := (Int32.sub_eq_add_neg ..).symm
    refine ⟨tp', i1, ?_, ?_⟩
    · rw [f_Reader_append_5, e1, hz_p_byte x j (by omega), Option.bind_some, if_neg (show ¬ (hz_nI j < 0) by rw [hz_nI_lit, hz_nI_lt (by omega) (by omega)]; omega), if_neg (show ¬ ((400 : Int32) ≤ hz_nI L) by rw [hz_nI_lit, hz_nI_le (by omega) (by omega)]; omega), if_pos (show inb (hz_nI L) 400 by rw [hz_nI_inb (by omega)]; omega), hz_nI_nat (by omega), hz_nI_lit, hz_nI_add, e2]
      exact i2
    · rw [f_Model_sign_39, e1, if_neg (show ¬ (hz_nI j < 0) by rw [hz_nI_lit, hz_nI_lt (by omega) (by omega)]; omega), if_pos (show inb (hz_nI L) 400 by rw [hz_nI_inb (by omega)]; omega), hz_nI_nat (by omega)]
      show f_Model_sign_39 n2 (g1, (hz_nI L + hz_nI 1, upd tp L (hz_byt x j), a2, w2), g3, r) x (hz_nI j + -hz_nI 1) = _
      rw [hz_nI_add, e2]
      exact i3
set_option maxRecDepth 100000 in
theorem hz_op_sign {ht : SHT} {ot : SOut} {rd : SReader} {g1 : Int32 × Int32} {g2 : hz_M2} {g3 : hz_M3} {r : hz_MR} {x : Int64} {n : Int32} (hA : hz_invA rd g2) :
    ∃ k ot' rd' th b g2', f_Law_sign ht ot rd x n = some (k, ot', rd') ∧ f_Model_sign (g1, g2, g3, r) x n = some (b, ((th, g1.2), g2', g3, r)) ∧ hz_ans k ot' th b.toInt64 ∧ hz_invA rd' g2' := by
  have hA0 := hA
  obtain ⟨tp, L, ra, rv, rw9, a2, w2, rfl, rfl, hL, h8⟩ := hA
  cases h1 : hz_inR n 1 8
  · refine ⟨1, ot, _, hz_nI 1, hz_nI 0, _, ?_, ?_, ⟨rfl, fun h => absurd h (by decide)⟩, hA0⟩
    · have eH : f_HT_sign ht (tp, hz_nI L, ra, rv, rw9) x n = some (.inr (1, (tp, hz_nI L, ra, rv, rw9))) := by
        unfold f_HT_sign
        unfold hz_inR at h1
        simp only [decide_eq_false_iff_not, Int32.le_iff_toInt_le, show (1 : Int32).toInt = 1 by decide, show (8 : Int32).toInt = 8 by decide] at h1
        by_cases c1 : n < 1
        · rw [if_pos c1]
        · rw [if_neg c1, if_neg (by rw [Int32.lt_iff_toInt_lt] at c1; rw [Int32.le_iff_toInt_le]; simp only [show (1 : Int32).toInt = 1 by decide, show (8 : Int32).toInt = 8 by decide] at *; omega)]
      unfold f_Law_sign
      rw [eH, Option.bind_some, Sum.elim_inr, if_pos rfl]
    · unfold f_Model_sign f_Model_sign_25
      rw [hz_q_within, h1, Option.bind_some, hz_goes1, hz_goes1, Option.bind_some, if_pos (show bI false = 0 from rfl), hz_nI_lit]
      split <;> rfl
  · obtain ⟨j, j1, j2, rfl⟩ := hz_inR_eq (x := n) (f := 1) (t := 8) (by omega) (by omega) h1
    by_cases cr : L + j ≤ 400
    · obtain ⟨tp', k1, k2, k3⟩ := hz_pq_sign (g1 := (hz_nI 0, g1.2)) (a2 := a2) (w2 := w2) (ra := ra) (rv := rv) (rw9 := rw9) (g3 := g3) (r := r) (x := x) j 4096 4096 L tp (by omega) cr (by omega) (by omega) h8
      refine ⟨0, vp_updL ot (0 : Int32).toNatClampNeg (hz_nI (L + j)).toInt64, (tp', hz_nI (L + j), ra, rv, rw9), hz_nI 0, hz_nI (L + j), (hz_nI (L + j), tp', a2, w2), ?_, ?_, ⟨rfl, fun _ => hz_o_eq ot _⟩, tp', L + j, ra, rv, rw9, a2, w2, rfl, rfl, cr, k1⟩
      · have eH : f_HT_sign ht (tp, hz_nI L, ra, rv, rw9) x (hz_nI j) = some (.inl (hz_nI (L + j), (tp', hz_nI (L + j), ra, rv, rw9))) := by
          unfold f_HT_sign f_Reader_hasRoomFor f_Reader_append
          simp (disch := omega) only [hz_nI_lit, hz_nI_add, hz_nI_mul, hz_nI_lt, hz_nI_le, hz_nI_inj, hz_nI_sub, hz_nI_nat, hz_nI_inb, hz_nI_pred, hz_nI_m1_lt, hz_nI_lt_m1, hz_nI_m1_le, hz_nI_le_m1, hz_nI_eq_m1, hz_nI_m1_eq, hz_bI0, if_pos, if_neg, if_true, if_false, Option.bind_some, Prod.eta, reduceCtorEq, Bool.true_eq_false]
          have k2' := k2
          rw [hz_nI_sub (by omega)] at k2'
          rw [k2', Option.bind_some]
        unfold f_Law_sign
        rw [eH, Option.bind_some, Sum.elim_inl, if_pos hz_o_inb]
      · unfold f_Model_sign f_Model_sign_25
        rw [hz_q_within, h1, Option.bind_some, hz_nI_add, if_neg (show ¬ ((400 : Int32) < hz_nI (L + j)) by rw [hz_nI_lit, hz_nI_lt (by omega) (by omega)]; omega), hz_goesT, Option.bind_some, if_neg (show ¬ (bI true = 0) by decide)]
        exact k3
    · refine ⟨2, ot, _, hz_nI 2, hz_nI 0, _, ?_, ?_, ⟨rfl, fun h => absurd h (by decide)⟩, hA0⟩
      · have eH : f_HT_sign ht (tp, hz_nI L, ra, rv, rw9) x (hz_nI j) = some (.inr (3, (tp, hz_nI L, ra, rv, rw9))) := by
          unfold f_HT_sign f_Reader_hasRoomFor
          simp (disch := omega) only [hz_nI_lit, hz_nI_add, hz_nI_mul, hz_nI_lt, hz_nI_le, hz_nI_inj, hz_nI_sub, hz_nI_nat, hz_nI_inb, hz_nI_pred, hz_nI_m1_lt, hz_nI_lt_m1, hz_nI_m1_le, hz_nI_le_m1, hz_nI_eq_m1, hz_nI_m1_eq, hz_bI0, if_pos, if_neg, if_true, if_false, Option.bind_some, Prod.eta, reduceCtorEq]
        unfold f_Law_sign
        rw [eH, Option.bind_some, Sum.elim_inr, if_neg (show ¬ ((3 : Nat) = 1) by decide), if_pos rfl]
      · unfold f_Model_sign f_Model_sign_25
        rw [hz_q_within, h1, Option.bind_some, hz_nI_add, if_pos (show (400 : Int32) < hz_nI (L + j) by rw [hz_nI_lit, hz_nI_lt (by omega) (by omega)]; omega), hz_goes2, Option.bind_some, if_pos (show bI false = 0 from rfl), hz_nI_lit]
set_option maxRecDepth 100000 in
theorem hz_tab_cp {t1 t2 t3 t4 fr row : Nat → Int32} {M : Nat} {gen : Bool} (hM : M ≤ 12) (h : hz_tabR t1 t2 t3 t4 fr M gen) : hz_tabR t1 t2 t3 t4 (hz_cpT fr row 559) M gen := by
  have e : ∀ q, q < 559 → hz_cpT fr row 559 q = fr q := fun q hq => if_pos hq
  refine ⟨fun k hk => ?_, fun i j hij hj => ?_, fun hg => ?_⟩
  · exact hz_matR_keep (h.1 k hk) rfl (fun _ _ _ => rfl) (fun _ _ _ => rfl) (fun _ _ _ => rfl) (fun q h1 h2 => e q (by omega))
  · rw [e _ (by omega), e _ (by omega)]; exact h.2.1 i j hij hj
  · exact hz_cellsR_keep (h.2.2 hg) (fun _ _ _ => rfl) (fun q h1 h2 => e q (by omega))
set_option maxRecDepth 100000 in
theorem hz_op_read {ht : SHT} {ot : SOut} {rd : SReader} {sp : SSpeller} {mx : SMixture} {tc : STable} {t2 row : Nat → Int32} {g1 : Int32 × Int32} {g2 : hz_M2} {g3 : hz_M3} {g4 : hz_M3} {g5 : hz_M5} {r6 : Int32 × Int32 × Bool} {r7 : hz_M7} {r8 : Nat → Int32} {r9 : hz_R9} (hA : hz_invA rd g2) (hX : hz_invX mx t2 row g5) :
    (∃ ot' rd' tc' pl g2' g3', f_Law_read ht ot rd sp mx tc = some (1, ht, ot', rd', sp, mx, tc', false) ∧ f_Model_read (g1, g2, g3, g4, g5, r6, r7, r8, r9) = some (hz_nI 0, ((hz_nI 1, pl), g2', g3', g4, g5, r6, r7, r8, r9)) ∧ hz_invA rd' g2') ∨
    (∃ ot' b rd' tc' mx' pl g2' g3' g4' g5', f_Law_read ht ot rd sp mx tc = some (0, ht, ot', rd', (sp.1, sp.2.1, sp.2.2.1, sp.2.2.2.1, sp.2.2.2.2.1, 0), mx', tc', true) ∧ f_Model_read (g1, g2, g3, g4, g5, r6, r7, r8, r9) = some (b, ((hz_nI 0, pl), g2', g3', g4', g5', r6, r7, r8, (hz_nI 0, r9.2.1, r9.2.2))) ∧ lg_cmp (ot' (0 : Int32).toNatClampNeg) b.toInt64 = 0 ∧ hz_invA rd' g2' ∧ hz_invT tc' g4' ∧ hz_invX mx' tc'.2.1 g4'.2.2 g5') := by
  obtain ⟨tp, L, ra, rv, rw9, a2, w2, rfl, rfl, hL, h8⟩ := hA
  obtain ⟨mn, mr, ml, pt, am, ix, P, nx, rfl, rfl, hP, hmn, hR, hl, hn1, hn6, hs⟩ := hX
  obtain ⟨s1, s2, s3, s4, s5, s6⟩ := tc
  obtain ⟨nm, ng, fr⟩ := g3
  obtain ⟨m0, ge0, row0⟩ := g4
  obtain ⟨sd, wd, tbl⟩ := r9
  have hfill := hz_pq_fill (tp := tp) (g1 := g1) (r := ((m0, ge0, row0), (hz_nI P, pt, am, ix, hz_nI nx), r6, r7, r8, (sd, wd, tbl))) hL h8 400 4096 4096 0 0 rv s1 (hz_cpT (fun _ => hz_nI 0) s2 117) s3 s4 0 false fr (by omega) (by omega) (by omega) (by omega) (by omega) (by omega) ⟨fun k hk => by omega, fun i j hij hj => by omega, fun h => absurd h (by decide)⟩ ⟨fun c h1 h2 => if_pos (by omega), if_pos (by omega), if_pos (by omega), if_pos (by omega)⟩
  have eF : f_Reader_fill (tp, hz_nI L, ra, rv, rw9) (s1, s2, s3, s4, s5, s6) = f_Reader_fill_18 4096 (tp, hz_nI L, hz_nI 0, rv, -hz_nI 1) (s1, hz_cpT (fun _ => hz_nI 0) s2 117, s3, s4, hz_nI 0, false) true (hz_nI 0) := by
    unfold f_Reader_fill
    rw [hz_p_removeAll, Option.bind_some]
    rfl
  have eM : f_Model_read (g1, (hz_nI L, tp, a2, w2), (nm, ng, fr), (m0, ge0, row0), (hz_nI P, pt, am, ix, hz_nI nx), r6, r7, r8, (sd, wd, tbl)) = f_Model_read_20 4096 (g1, (hz_nI L, tp, hz_nI 0, -hz_nI 1), (hz_nI 0, false, fr), ((m0, ge0, row0), (hz_nI P, pt, am, ix, hz_nI nx), r6, r7, r8, (sd, wd, tbl))) := by
    unfold f_Model_read
    rfl
  rw [eM]
  unfold f_Law_read f_HT_read
  rw [eF]
  rcases hfill with ⟨p, q, b, x, tb', b1, nm', ng', fr', k1, k2, k3, k4⟩ | ⟨b, x, b1, t1, t2', t3, t4, M, gen, fr', k1, k2, k3, k4⟩
  · rw [k3, k4]
    refine Or.inl ⟨ot, (tp, hz_nI 0, b, x, hz_nI p), tb', hz_nI q, (hz_nI 0, tp, b1, hz_nI q), (nm', ng', fr'), ?_, ?_, tp, 0, b, x, hz_nI p, b1, hz_nI q, rfl, rfl, by omega, h8⟩
    · rw [Option.bind_some, if_pos (show bI false = 0 from rfl), Option.bind_some, Sum.elim_inr, if_pos rfl]
    · unfold f_Model_read_88
      rw [if_pos (show (0 : Int32) ≤ hz_nI q by rw [hz_nI_lit, hz_nI_le (by omega) (by omega)]; omega), hz_goes1, Option.bind_some, if_pos (show bI false = 0 from rfl)]
      rfl
  · rw [k2, k3]
    have e126 := hz_q_read_126 (g1 := (hz_nI 0, -hz_nI 1)) (g2 := (hz_nI 0, tp, b1, -hz_nI 1)) (nm := hz_nI M) (m0 := m0) (ng := gen) (ge0 := ge0) (fr := fr') (row := row0) (p0 := hz_nI P) (nx := hz_nI nx) (sd := sd) (pt := pt) (am := am) (ix := ix) (wd := wd) (tbl := tbl) (r6 := r6) (r7 := r7) (r8 := r8) 559 4096 0 (by omega) (by omega)
    rw [hz_cpT_zero] at e126
    refine Or.inr ⟨vp_updL ot (0 : Int32).toNatClampNeg (hz_nI M).toInt64, hz_nI M, (tp, hz_nI 0, b, x, -hz_nI 1), (t1, t2', t3, t4, hz_nI M, gen), (mn, mr, ml, hz_nI 0, hz_nI 1), -hz_nI 1, (hz_nI 0, tp, b1, -hz_nI 1), (hz_nI M, gen, fr'), (hz_nI M, gen, hz_cpT fr' row0 559), (hz_nI 0, pt, am, ix, hz_nI 1), ?_, ?_, hz_o_eq ot _, ⟨tp, 0, b, x, -hz_nI 1, b1, -hz_nI 1, rfl, rfl, by omega, h8⟩, ⟨t1, t2', t3, t4, M, gen, hz_cpT fr' row0 559, rfl, rfl, k1, hz_tab_cp k1 k4⟩, mn, mr, ml, pt, am, ix, 0, 1, rfl, rfl, by omega, fun i hi => by omega, fun i hi => by omega, fun i hi => by omega, by omega, by omega, Or.inl (by omega)⟩
    · rw [Option.bind_some, if_neg (show ¬ (bI true = 0) by decide)]
      unfold f_Mixture_removeAll f_Speller_forget
      rw [Option.bind_some, Option.bind_some, Option.bind_some, Sum.elim_inl, if_pos hz_o_inb]
      rfl
    · unfold f_Model_read_88
      rw [if_neg (show ¬ ((0 : Int32) ≤ -hz_nI 1) by decide), hz_goesT, Option.bind_some, if_neg (show ¬ (bI true = 0) by decide)]
      exact e126
set_option maxRecDepth 100000 in
def hz_levS (w s : Nat → Int32) (i : Nat) (p : Nat → Nat) : Nat → Nat
  | 0 => i + 1
  | j + 1 => min (p j + (if w i = s j then 0 else 1)) (min (p (j + 1)) (hz_levS w s i p j) + 1)
set_option maxRecDepth 100000 in
def hz_lev (w s : Nat → Int32) : Nat → Nat → Nat
  | 0 => fun j => j
  | i + 1 => hz_levS w s i (hz_lev w s i)
set_option maxRecDepth 100000 in
theorem hz_lev_z (w s : Nat → Int32) (i : Nat) : hz_lev w s i 0 = i := by cases i <;> rfl
set_option maxRecDepth 100000 in
theorem hz_lev_s (w s : Nat → Int32) (i j : Nat) : hz_lev w s (i + 1) (j + 1) = min (hz_lev w s i j + (if w i = s j then 0 else 1)) (min (hz_lev w s i (j + 1)) (hz_lev w s (i + 1) j) + 1) := rfl
set_option maxRecDepth 100000 in
theorem hz_lev_bd (w s : Nat → Int32) (i : Nat) : ∀ j, hz_lev w s i j ≤ i + j := by
  cases i with
  | zero => intro j; exact Nat.le_of_eq (Nat.zero_add j).symm
  | succ i =>
    intro j
    induction j with
    | zero => exact Nat.le_refl _
    | succ j ih => rw [hz_lev_s]; omega
set_option maxRecDepth 100000 in
theorem hz_lev_congr {w s w' s' : Nat → Int32} : ∀ i j, (∀ a, a < i → w a = w' a) → (∀ b, b < j → s b = s' b) → hz_lev w s i j = hz_lev w' s' i j := by
  intro i
  induction i with
  | zero => intro j _ _; rfl
  | succ i ih =>
    intro j hw hs
    induction j with
    | zero => rfl
    | succ j jh =>
      rw [hz_lev_s, hz_lev_s, hw i (by omega), hs j (by omega), ih j (fun a ha => hw a (by omega)) (fun b hb => hs b (by omega)), ih (j + 1) (fun a ha => hw a (by omega)) hs, jh (fun b hb => hs b (by omega))]
set_option maxRecDepth 100000 in
theorem hz_q_least {a b : Nat} (ha : a < 2147483648) (hb : b < 2147483648) : f_Model_least (hz_nI a) (hz_nI b) = some (hz_nI (min a b)) := by
  unfold f_Model_least
  by_cases c : b ≤ a
  · rw [if_pos (by rw [hz_nI_le hb ha]; exact c), Nat.min_eq_right c]
  · rw [if_neg (by rw [hz_nI_le hb ha]; exact c), Nat.min_eq_left (by omega)]
set_option maxRecDepth 100000 in
theorem hz_i_min {a b : Nat} (ha : a < 2147483648) (hb : b < 2147483648) : (if hz_nI a < hz_nI b then hz_nI a else hz_nI b) = hz_nI (min a b) := by
  by_cases c : a < b
  · rw [if_pos (by rw [hz_nI_lt ha hb]; exact c), Nat.min_eq_left (by omega)]
  · rw [if_neg (by rw [hz_nI_lt ha hb]; exact c), Nat.min_eq_right (by omega)]
abbrev hz_G7 : Type := hz_M7
set_option maxRecDepth 100000 in
theorem hz_q_apart_20 {k9 : SModel → Int32 → Int32 → Int32 → Option (Int32 × SModel)} {g1 : Int32 × Int32} {g2 : hz_M2} {g3 : hz_M3} {m0 : Int32} {ge : Bool} {row : Nat → Int32} {g5 : hz_M5} {g6 : Int32 × Int32 × Bool} {g7 : hz_M7} {g8 wd : Nat → Int32} {m n k i : Nat} (hm : m ≤ 8) (hn : n ≤ 10) (hk : k + 10 < 559) (hi : i ≤ m) : ∀ c f j T, n + 1 = j + c → c < f →
    (∀ a b, a < i → b ≤ n → T (a * 11 + b) = hz_nI (hz_lev wd (fun q => row (k + 1 + q)) a b)) → (∀ b, b < j → T (i * 11 + b) = hz_nI (hz_lev wd (fun q => row (k + 1 + q)) i b)) →
    ∃ T', (∀ a b, a < i + 1 → b ≤ n → T' (a * 11 + b) = hz_nI (hz_lev wd (fun q => row (k + 1 + q)) a b)) ∧ f_Model_apart_20 k9 f (g1, g2, g3, (m0, ge, row), g5, g6, g7, g8, (hz_nI m, wd, T)) (hz_nI k) (hz_nI n) (hz_nI i) (hz_nI j) = k9 (g1, g2, g3, (m0, ge, row), g5, g6, g7, g8, (hz_nI m, wd, T')) (hz_nI k) (hz_nI n) (hz_nI (i + 1)) := by
  intro c
  induction c with
  | zero =>
    intro f j T h1 h2 h3 h4
    obtain ⟨f, rfl⟩ : ∃ f', f = f' + 1 := ⟨f - 1, by omega⟩
    refine ⟨T, fun a b ha hb => ?_, ?_⟩
    · by_cases hai : a = i
      · subst hai; exact h4 b (by omega)
      · exact h3 a b (by omega) hb
    · rw [f_Model_apart_20]
      simp (disch := omega) only [hz_nI_lit, hz_nI_add, hz_nI_mul, hz_nI_lt, hz_nI_le, hz_nI_inj, hz_nI_sub, hz_nI_nat, hz_nI_inb, hz_nI_pred, hz_nI_m1_lt, hz_nI_lt_m1, hz_nI_m1_le, hz_nI_le_m1, hz_nI_eq_m1, hz_nI_m1_eq, hz_bI0, if_pos, if_neg, if_true, if_false, Option.bind_some, Prod.eta, reduceCtorEq]
  | succ c ih =>
    intro f j T h1 h2 h3 h4
    obtain ⟨f, rfl⟩ : ∃ f', f = f' + 1 := ⟨f - 1, by omega⟩
    obtain ⟨T', k1, k2⟩ := ih f (j + 1) (upd T (i * 11 + j) (hz_nI (hz_lev wd (fun q => row (k + 1 + q)) i j))) (by omega) (by omega) (fun a b ha hb => by rw [hz_upd_ne (by omega)]; exact h3 a b ha hb) (fun b hb => by
      by_cases hbj : b = j
      · subst hbj; exact hz_upd_eq _ _ _
      · rw [hz_upd_ne (by omega)]; exact h4 b (by omega))
    refine ⟨T', k1, ?_⟩
    rw [← k2, f_Model_apart_20]
    unfold f_Model_apart_82 f_Model_apart_125
    by_cases ci : i = 0
    · subst ci
      rw [show hz_lev wd (fun q => row (k + 1 + q)) 0 j = 0 + j from (Nat.zero_add j).symm]
      simp (disch := omega) only [hz_nI_lit, hz_nI_add, hz_nI_mul, hz_nI_lt, hz_nI_le, hz_nI_inj, hz_nI_sub, hz_nI_nat, hz_nI_inb, hz_nI_pred, hz_nI_m1_lt, hz_nI_lt_m1, hz_nI_m1_le, hz_nI_le_m1, hz_nI_eq_m1, hz_nI_m1_eq, hz_bI0, if_pos, if_neg, if_true, if_false, Option.bind_some, Prod.eta, reduceCtorEq]
    · by_cases cj : j = 0
      · subst cj
        rw [show hz_lev wd (fun q => row (k + 1 + q)) i 0 = i + 0 from hz_lev_z _ _ _]
        simp (disch := omega) only [hz_nI_lit, hz_nI_add, hz_nI_mul, hz_nI_lt, hz_nI_le, hz_nI_inj, hz_nI_sub, hz_nI_nat, hz_nI_inb, hz_nI_pred, hz_nI_m1_lt, hz_nI_lt_m1, hz_nI_m1_le, hz_nI_le_m1, hz_nI_eq_m1, hz_nI_m1_eq, hz_bI0, if_pos, if_neg, if_true, if_false, Option.bind_some, Prod.eta, reduceCtorEq]
      · obtain ⟨i', rfl⟩ : ∃ i', i = i' + 1 := ⟨i - 1, by omega⟩
        obtain ⟨j', rfl⟩ : ∃ j', j = j' + 1 := ⟨j - 1, by omega⟩
        have e1 := h3 i' j' (by omega) (by omega)
        have e2 := h3 i' (j' + 1) (by omega) (by omega)
        have e3 := h4 j' (by omega)
        have b1 := hz_lev_bd wd (fun q => row (k + 1 + q)) i' j'
        have b2 := hz_lev_bd wd (fun q => row (k + 1 + q)) i' (j' + 1)
        have b3 := hz_lev_bd wd (fun q => row (k + 1 + q)) (i' + 1) j'
        rw [hz_lev_s]
        generalize hz_lev wd (fun q => row (k + 1 + q)) i' j' = x1 at *
        generalize hz_lev wd (fun q => row (k + 1 + q)) i' (j' + 1) = x2 at *
        generalize hz_lev wd (fun q => row (k + 1 + q)) (i' + 1) j' = x3 at *
        have l1 := hz_q_least (a := x2) (b := x3) (by omega) (by omega)
        have l2 := hz_q_least (a := x1 + 0) (b := min x2 x3 + 1) (by omega) (by omega)
        have l3 := hz_q_least (a := x1 + 1) (b := min x2 x3 + 1) (by omega) (by omega)
        have p1 : i' * 11 + (j' + 1) - 1 = i' * 11 + j' := by omega
        have p2 : (i' + 1) * 11 + (j' + 1) - 1 = (i' + 1) * 11 + j' := by omega
        have p3 : k + (j' + 1) = k + 1 + j' := by omega
        by_cases cw : wd i' = row (k + 1 + j')
        · rw [if_pos cw]
          simp (disch := omega) only [hz_nI_lit, hz_nI_add, hz_nI_mul, hz_nI_lt, hz_nI_le, hz_nI_inj, hz_nI_sub, hz_nI_nat, hz_nI_inb, hz_nI_pred, hz_nI_m1_lt, hz_nI_lt_m1, hz_nI_m1_le, hz_nI_le_m1, hz_nI_eq_m1, hz_nI_m1_eq, hz_bI0, if_pos, if_neg, if_true, if_false, Option.bind_some, Prod.eta, reduceCtorEq, Nat.add_sub_cancel, p1, p2, p3, cw, e1, e2, e3, l1, hz_bI_f, l2]
        · rw [if_neg cw]
          simp (disch := omega) only [hz_nI_lit, hz_nI_add, hz_nI_mul, hz_nI_lt, hz_nI_le, hz_nI_inj, hz_nI_sub, hz_nI_nat, hz_nI_inb, hz_nI_pred, hz_nI_m1_lt, hz_nI_lt_m1, hz_nI_m1_le, hz_nI_le_m1, hz_nI_eq_m1, hz_nI_m1_eq, hz_bI0, if_pos, if_neg, if_true, if_false, Option.bind_some, Prod.eta, reduceCtorEq, Nat.add_sub_cancel, p1, p2, p3, cw, e1, e2, e3, l1, hz_bI_t, l3]
set_option maxRecDepth 100000 in
theorem hz_q_apart_9 {g1 : Int32 × Int32} {g2 : hz_M2} {g3 : hz_M3} {m0 : Int32} {ge : Bool} {row : Nat → Int32} {g5 : hz_M5} {g6 : Int32 × Int32 × Bool} {g7 : hz_M7} {g8 wd : Nat → Int32} {m n k : Nat} (hm : m ≤ 8) (hn : n ≤ 10) (hk : k + 10 < 559) : ∀ c f i T, m + 1 = i + c → c < f →
    (∀ a b, a < i → b ≤ n → T (a * 11 + b) = hz_nI (hz_lev wd (fun q => row (k + 1 + q)) a b)) →
    ∃ T', f_Model_apart_9 f (g1, g2, g3, (m0, ge, row), g5, g6, g7, g8, (hz_nI m, wd, T)) (hz_nI k) (hz_nI n) (hz_nI i) = some (hz_nI (hz_lev wd (fun q => row (k + 1 + q)) m n), (g1, g2, g3, (m0, ge, row), g5, g6, g7, g8, (hz_nI m, wd, T'))) := by
  intro c
  induction c with
  | zero =>
    intro f i T h1 h2 h3
    obtain ⟨f, rfl⟩ : ∃ f', f = f' + 1 := ⟨f - 1, by omega⟩
    refine ⟨T, ?_⟩
    rw [f_Model_apart_9]
    have e := h3 m n (by omega) (by omega)
    simp (disch := omega) only [hz_nI_lit, hz_nI_add, hz_nI_mul, hz_nI_lt, hz_nI_le, hz_nI_inj, hz_nI_sub, hz_nI_nat, hz_nI_inb, hz_nI_pred, hz_nI_m1_lt, hz_nI_lt_m1, hz_nI_m1_le, hz_nI_le_m1, hz_nI_eq_m1, hz_nI_m1_eq, hz_bI0, if_pos, if_neg, if_true, if_false, Option.bind_some, Prod.eta, reduceCtorEq, e]
  | succ c ih =>
    intro f i T h1 h2 h3
    obtain ⟨f, rfl⟩ : ∃ f', f = f' + 1 := ⟨f - 1, by omega⟩
    obtain ⟨T1, k1, k2⟩ := hz_q_apart_20 (k9 := f_Model_apart_9 f) (g1 := g1) (g2 := g2) (g3 := g3) (m0 := m0) (ge := ge) (row := row) (g5 := g5) (g6 := g6) (g7 := g7) (g8 := g8) (wd := wd) hm hn hk (show i ≤ m by omega) (n + 1) 4096 0 T (by omega) (by omega) h3 (fun b hb => by omega)
    obtain ⟨T', k3⟩ := ih f (i + 1) T1 (by omega) (by omega) k1
    refine ⟨T', ?_⟩
    rw [f_Model_apart_9, if_neg (show ¬ (hz_nI m < hz_nI i) by rw [hz_nI_lt (by omega) (by omega)]; omega), hz_nI_lit]
    rw [k2, k3]
set_option maxRecDepth 100000 in
theorem hz_q_apart {g1 : Int32 × Int32} {g2 : hz_M2} {g3 : hz_M3} {m0 : Int32} {ge : Bool} {row : Nat → Int32} {g5 : hz_M5} {g6 : Int32 × Int32 × Bool} {g7 : hz_M7} {g8 wd T : Nat → Int32} {m n k : Nat} (hm : m ≤ 8) (hn : n ≤ 10) (hk : k + 10 < 559) (hr : row k = hz_nI n) :
    ∃ T', f_Model_apart (g1, g2, g3, (m0, ge, row), g5, g6, g7, g8, (hz_nI m, wd, T)) (hz_nI k) = some (hz_nI (hz_lev wd (fun q => row (k + 1 + q)) m n), (g1, g2, g3, (m0, ge, row), g5, g6, g7, g8, (hz_nI m, wd, T'))) := by
  obtain ⟨T', e⟩ := hz_q_apart_9 (g1 := g1) (g2 := g2) (g3 := g3) (m0 := m0) (ge := ge) (row := row) (g5 := g5) (g6 := g6) (g7 := g7) (g8 := g8) (wd := wd) hm hn hk (m + 1) 4096 0 T (by omega) (by omega) (fun a b ha => by omega)
  refine ⟨T', ?_⟩
  unfold f_Model_apart
  rw [if_pos (show inb (hz_nI k) 559 by rw [hz_nI_inb (by omega)]; omega), hz_nI_nat (by omega), hz_nI_lit]
  show f_Model_apart_9 4096 (g1, g2, g3, (m0, ge, row), g5, g6, g7, g8, (hz_nI m, wd, T)) (hz_nI k) (row k) (hz_nI 0) = _
  rw [hr]
  exact e
set_option maxRecDepth 100000 in
theorem hz_p_addL_17 {wd s sn sd : Nat → Int32} {cnt : Int32} {m i : Nat} (hm : m ≤ 8) (hi : i < 10) : ∀ c n j e, m + 1 = j + c → 1 ≤ j → c < n → (∀ q, q < j → e q = hz_nI (hz_lev wd s q (i + 1))) → (∀ q, j ≤ q → q ≤ m → e q = hz_nI (hz_lev wd s q i)) →
    ∃ e', (∀ q, q ≤ m → e' q = hz_nI (hz_lev wd s q (i + 1))) ∧ f_Speller_addLetter_17 n (wd, e, sn, sd, hz_nI m, cnt) (s i) (hz_nI (hz_lev wd s (j - 1) i)) (hz_nI j) = some (wd, e', sn, sd, hz_nI m, cnt) := by
  intro c
  induction c with
  | zero =>
    intro n j e h1 h2 h3 h4 h5
    obtain ⟨n, rfl⟩ : ∃ n', n = n' + 1 := ⟨n - 1, by omega⟩
    refine ⟨e, fun q hq => h4 q (by omega), ?_⟩
    rw [f_Speller_addLetter_17]
    simp (disch := omega) only [hz_nI_lit, hz_nI_add, hz_nI_mul, hz_nI_lt, hz_nI_le, hz_nI_inj, hz_nI_sub, hz_nI_nat, hz_nI_inb, hz_nI_pred, hz_nI_m1_lt, hz_nI_lt_m1, hz_nI_m1_le, hz_nI_le_m1, hz_nI_eq_m1, hz_nI_m1_eq, hz_bI0, if_pos, if_neg, if_true, if_false, Option.bind_some, Prod.eta, reduceCtorEq]
  | succ c ih =>
    intro n j e h1 h2 h3 h4 h5
    obtain ⟨n, rfl⟩ : ∃ n', n = n' + 1 := ⟨n - 1, by omega⟩
    obtain ⟨j', rfl⟩ : ∃ j', j = j' + 1 := ⟨j - 1, by omega⟩
    obtain ⟨e', k1, k2⟩ := ih n (j' + 1 + 1) (upd e (j' + 1) (hz_nI (hz_lev wd s (j' + 1) (i + 1)))) (by omega) (by omega) (by omega) (fun q hq => by
      by_cases hqj : q = j' + 1
      · subst hqj; exact hz_upd_eq _ _ _
      · rw [hz_upd_ne hqj]; exact h4 q (by omega)) (fun q hq1 hq2 => by rw [hz_upd_ne (by omega)]; exact h5 q (by omega) hq2)
    rw [Nat.add_sub_cancel] at k2
    refine ⟨e', k1, ?_⟩
    rw [← k2, f_Speller_addLetter_17]
    unfold f_Speller_addLetter_55
    have e1 := h4 j' (by omega)
    have e2 := h5 (j' + 1) (by omega) (by omega)
    have b1 := hz_lev_bd wd s j' (i + 1)
    have b2 := hz_lev_bd wd s (j' + 1) i
    have b3 := hz_lev_bd wd s j' i
    rw [Nat.add_sub_cancel, hz_lev_s]
    generalize hz_lev wd s j' (i + 1) = x1 at *
    generalize hz_lev wd s (j' + 1) i = x2 at *
    generalize hz_lev wd s j' i = x3 at *
    have l1 := hz_i_min (a := x2) (b := x1) (by omega) (by omega)
    have l2 := hz_i_min (a := 1 + min x2 x1) (b := x3 + 0) (by omega) (by omega)
    have l3 := hz_i_min (a := 1 + min x2 x1) (b := x3 + 1) (by omega) (by omega)
    by_cases cw : wd j' = s i
    · rw [if_pos cw]
      have q : min (1 + min x2 x1) (x3 + 0) = min (x3 + 0) (min x1 x2 + 1) := by omega
      rw [q] at l2
      simp (disch := omega) only [hz_nI_lit, hz_nI_lt (show m < 2147483648 by omega) (show j' + 1 < 2147483648 by omega), show ¬ (m < j' + 1) by omega, hz_nI_le (show 9 < 2147483648 by omega) (show j' + 1 < 2147483648 by omega), show ¬ (9 ≤ j' + 1) by omega, hz_nI_sub, Nat.add_sub_cancel, hz_nI_inb, if_pos, hz_nI_nat, cw, if_true, if_false, e1, e2, l1, hz_nI_add, hz_bI_f, l2]
    · rw [if_neg cw]
      have q : min (1 + min x2 x1) (x3 + 1) = min (x3 + 1) (min x1 x2 + 1) := by omega
      rw [q] at l3
      simp (disch := omega) only [hz_nI_lit, hz_nI_lt (show m < 2147483648 by omega) (show j' + 1 < 2147483648 by omega), show ¬ (m < j' + 1) by omega, hz_nI_le (show 9 < 2147483648 by omega) (show j' + 1 < 2147483648 by omega), show ¬ (9 ≤ j' + 1) by omega, hz_nI_sub, Nat.add_sub_cancel, hz_nI_inb, if_pos, hz_nI_nat, cw, if_true, if_false, e1, e2, l1, hz_nI_add, hz_bI_t, l3]
set_option maxRecDepth 100000 in
theorem hz_p_addLetter {wd s sn sd e : Nat → Int32} {cnt : Int32} {m i : Nat} (hm : m ≤ 8) (hi : i < 10) (he : ∀ q, q ≤ m → e q = hz_nI (hz_lev wd s q i)) :
    ∃ e', (∀ q, q ≤ m → e' q = hz_nI (hz_lev wd s q (i + 1))) ∧ f_Speller_addLetter (wd, e, sn, sd, hz_nI m, cnt) (s i) (hz_nI (i + 1)) = some (wd, e', sn, sd, hz_nI m, cnt) := by
  obtain ⟨e', k1, k2⟩ := hz_p_addL_17 (wd := wd) (s := s) (sn := sn) (sd := sd) (cnt := cnt) hm hi m 4096 1 (upd e 0 (hz_nI (i + 1))) (by omega) (by omega) (by omega) (fun q hq => by
    have : q = 0 := by omega
    subst this
    exact hz_upd_eq _ _ _) (fun q h1 h2 => by rw [hz_upd_ne (by omega)]; exact he q h2)
  refine ⟨e', k1, ?_⟩
  unfold f_Speller_addLetter
  have e0 := he 0 (by omega)
  rw [if_pos (show inb (0 : Int32) 9 by decide), if_pos (show inb (0 : Int32) 9 by decide)]
  show f_Speller_addLetter_17 4096 (wd, upd e 0 (hz_nI (i + 1)), sn, sd, hz_nI m, cnt) (s i) (e 0) (hz_nI 1) = _
  rw [e0]
  exact k2
set_option maxRecDepth 100000 in
theorem hz_p_nameLetter {t1 t2 t3 t4 : Nat → Int32} {t5 : Int32} {t6 : Bool} {c nm i : Nat} (hc : c ≤ 12) (hn : nm < 3) (hi : i < 10) : f_Table_nameLetter (t1, t2, t3, t4, t5, t6) (hz_nI c) (hz_nI nm) (hz_nI i) = some (t4 ((c * 3 + nm) * 10 + i)) := by
  unfold f_Table_nameLetter
  simp (disch := omega) only [hz_nI_lit, hz_nI_add, hz_nI_mul, hz_nI_lt, hz_nI_le, hz_nI_inj, hz_nI_sub, hz_nI_nat, hz_nI_inb, hz_nI_pred, hz_nI_m1_lt, hz_nI_lt_m1, hz_nI_m1_le, hz_nI_le_m1, hz_nI_eq_m1, hz_nI_m1_eq, hz_bI0, if_pos, if_neg, if_true, if_false, Option.bind_some, Prod.eta, reduceCtorEq]
set_option maxRecDepth 100000 in
theorem hz_p_edits_48 {wd sn sd t1 t2 t3 t4 : Nat → Int32} {cnt t5 : Int32} {t6 : Bool} {m c nm len : Nat} (hm : m ≤ 8) (hl : len ≤ 10) (hc : c ≤ 12) (hn : nm < 3) : ∀ k n i e, len = i + k → k < n → (∀ q, q ≤ m → e q = hz_nI (hz_lev wd (fun q => t4 ((c * 3 + nm) * 10 + q)) q i)) →
    ∃ e', f_Speller_editsTo_48 n (wd, e, sn, sd, hz_nI m, cnt) (t1, t2, t3, t4, t5, t6) (hz_nI c) (hz_nI nm) (hz_nI len) (hz_nI (i + 1)) = some (hz_nI (hz_lev wd (fun q => t4 ((c * 3 + nm) * 10 + q)) m len), (wd, e', sn, sd, hz_nI m, cnt)) := by
  intro k
  induction k with
  | zero =>
    intro n i e h1 h2 h3
    obtain ⟨n, rfl⟩ : ∃ n', n = n' + 1 := ⟨n - 1, by omega⟩
    have : i = len := by omega
    subst this
    refine ⟨e, ?_⟩
    rw [f_Speller_editsTo_48]
    have e1 := h3 m (by omega)
    simp (disch := omega) only [hz_nI_lit, hz_nI_add, hz_nI_mul, hz_nI_lt, hz_nI_le, hz_nI_inj, hz_nI_sub, hz_nI_nat, hz_nI_inb, hz_nI_pred, hz_nI_m1_lt, hz_nI_lt_m1, hz_nI_m1_le, hz_nI_le_m1, hz_nI_eq_m1, hz_nI_m1_eq, hz_bI0, if_pos, if_neg, if_true, if_false, Option.bind_some, Prod.eta, reduceCtorEq, e1]
  | succ k ih =>
    intro n i e h1 h2 h3
    obtain ⟨n, rfl⟩ : ∃ n', n = n' + 1 := ⟨n - 1, by omega⟩
    obtain ⟨e1, k1, k2⟩ := hz_p_addLetter (sn := sn) (sd := sd) (cnt := cnt) hm (show i < 10 by omega) h3
    obtain ⟨e', k3⟩ := ih n (i + 1) e1 (by omega) (by omega) k1
    refine ⟨e', ?_⟩
    rw [f_Speller_editsTo_48, if_neg (show ¬ (hz_nI len < hz_nI (i + 1)) by rw [hz_nI_lt (by omega) (by omega)]; omega), hz_nI_lit, hz_nI_sub (show 1 ≤ i + 1 by omega), Nat.add_sub_cancel, hz_p_nameLetter hc hn (show i < 10 by omega), Option.bind_some]
    have k2' : f_Speller_addLetter (wd, e, sn, sd, hz_nI m, cnt) (t4 ((c * 3 + nm) * 10 + i)) (hz_nI (i + 1)) = some (wd, e1, sn, sd, hz_nI m, cnt) := k2
    rw [k2', Option.bind_some, hz_nI_add]
    exact k3
set_option maxRecDepth 100000 in
theorem hz_p_nameLength {t1 t2 t3 t4 : Nat → Int32} {t5 : Int32} {t6 : Bool} {c nm : Nat} (hc : c ≤ 12) (hn : nm < 3) : f_Table_nameLength (t1, t2, t3, t4, t5, t6) (hz_nI c) (hz_nI nm) = some (t3 (c * 3 + nm)) := by
  unfold f_Table_nameLength
  simp (disch := omega) only [hz_nI_lit, hz_nI_add, hz_nI_mul, hz_nI_lt, hz_nI_le, hz_nI_inj, hz_nI_sub, hz_nI_nat, hz_nI_inb, hz_nI_pred, hz_nI_m1_lt, hz_nI_lt_m1, hz_nI_m1_le, hz_nI_le_m1, hz_nI_eq_m1, hz_nI_m1_eq, hz_bI0, if_pos, if_neg, if_true, if_false, Option.bind_some, Prod.eta, reduceCtorEq]
set_option maxRecDepth 100000 in
theorem hz_p_edits_3 {wd sn sd t1 t2 t3 t4 : Nat → Int32} {cnt t5 : Int32} {t6 : Bool} {m c nm len : Nat} (hm : m ≤ 8) (hl : len ≤ 10) (hc : c ≤ 12) (hn : nm < 3) (h3 : t3 (c * 3 + nm) = hz_nI len) : ∀ k n j e, m + 1 = j + k → k < n → (∀ q, q < j → e q = hz_nI q) →
    ∃ e', f_Speller_editsTo_3 n (wd, e, sn, sd, hz_nI m, cnt) (t1, t2, t3, t4, t5, t6) (hz_nI c) (hz_nI nm) (hz_nI j) = some (hz_nI (hz_lev wd (fun q => t4 ((c * 3 + nm) * 10 + q)) m len), (wd, e', sn, sd, hz_nI m, cnt)) := by
  intro k
  induction k with
  | zero =>
    intro n j e h1 h2 h4
    obtain ⟨n, rfl⟩ : ∃ n', n = n' + 1 := ⟨n - 1, by omega⟩
    obtain ⟨e', k1⟩ := hz_p_edits_48 (wd := wd) (sn := sn) (sd := sd) (t1 := t1) (t2 := t2) (t3 := t3) (t4 := t4) (cnt := cnt) (t5 := t5) (t6 := t6) (c := c) (nm := nm) hm hl hc hn len 4096 0 e (by omega) (by omega) (fun q hq => by rw [hz_lev_z]; exact h4 q (by omega))
    refine ⟨e', ?_⟩
    rw [f_Speller_editsTo_3, if_pos (show hz_nI m < hz_nI j by rw [hz_nI_lt (by omega) (by omega)]; omega), hz_p_nameLength hc hn, Option.bind_some, h3, hz_nI_lit]
    exact k1
  | succ k ih =>
    intro n j e h1 h2 h4
    obtain ⟨n, rfl⟩ : ∃ n', n = n' + 1 := ⟨n - 1, by omega⟩
    obtain ⟨e', k1⟩ := ih n (j + 1) (upd e j (hz_nI j)) (by omega) (by omega) (fun q hq => by
      by_cases hqj : q = j
      · subst hqj; exact hz_upd_eq _ _ _
      · rw [hz_upd_ne hqj]; exact h4 q (by omega))
    refine ⟨e', ?_⟩
    rw [f_Speller_editsTo_3, if_neg (show ¬ (hz_nI m < hz_nI j) by rw [hz_nI_lt (by omega) (by omega)]; omega), if_neg (show ¬ ((9 : Int32) ≤ hz_nI j) by rw [hz_nI_lit, hz_nI_le (by omega) (by omega)]; omega), if_pos (show inb (hz_nI j) 9 by rw [hz_nI_inb (by omega)]; omega), hz_nI_nat (by omega), hz_nI_lit, hz_nI_add]
    exact k1
set_option maxRecDepth 100000 in
theorem hz_p_editsTo {wd sn sd e t1 t2 t3 t4 : Nat → Int32} {cnt t5 : Int32} {t6 : Bool} {m c nm len : Nat} (hm : m ≤ 8) (hl : len ≤ 10) (hc : c ≤ 12) (hn : nm < 3) (h3 : t3 (c * 3 + nm) = hz_nI len) :
    ∃ e', f_Speller_editsTo (wd, e, sn, sd, hz_nI m, cnt) (t1, t2, t3, t4, t5, t6) (hz_nI c) (hz_nI nm) = some (hz_nI (hz_lev wd (fun q => t4 ((c * 3 + nm) * 10 + q)) m len), (wd, e', sn, sd, hz_nI m, cnt)) := by
  obtain ⟨e', k1⟩ := hz_p_edits_3 (wd := wd) (sn := sn) (sd := sd) (t1 := t1) (t2 := t2) (t4 := t4) (cnt := cnt) (t5 := t5) (t6 := t6) hm hl hc hn h3 (m + 1) 4096 0 e (by omega) (by omega) (fun q hq => by omega)
  exact ⟨e', by unfold f_Speller_editsTo; rw [hz_nI_lit]; exact k1⟩
set_option maxRecDepth 100000 in
def hz_nl (row wd : Nat → Int32) (m k n : Nat) : Nat := hz_lev wd (fun q => row (k * 43 + 10 + 11 * n + 1 + q)) m (row (k * 43 + 10 + 11 * n)).toNatClampNeg
set_option maxRecDepth 100000 in
def hz_mnT (f : Nat → Nat) : Nat → Nat → Nat → Nat
  | 0, i, b => b
  | n + 1, i, b => hz_mnT f n (i + 1) (min b (f i))
set_option maxRecDepth 100000 in
def hz_nrm (row wd : Nat → Int32) (m k : Nat) : Nat := hz_mnT (hz_nl row wd m k) (row (k * 43 + 9)).toNatClampNeg 0 99
set_option maxRecDepth 100000 in
theorem hz_mnT_bd (f : Nat → Nat) : ∀ n i b, hz_mnT f n i b ≤ b
  | 0, i, b => Nat.le_refl _
  | n + 1, i, b => by
    unfold hz_mnT
    have := hz_mnT_bd f n (i + 1) (min b (f i))
    omega
set_option maxRecDepth 100000 in
theorem hz_nl_eq {row wd : Nat → Int32} {m k n len : Nat} (h : row (k * 43 + 10 + 11 * n) = hz_nI len) (hl : len ≤ 10) : hz_nl row wd m k n = hz_lev wd (fun q => row (k * 43 + 10 + 11 * n + 1 + q)) m len := by
  unfold hz_nl; rw [h, hz_nI_nat (by omega)]
set_option maxRecDepth 100000 in
theorem hz_q_nearest_5 {g1 : Int32 × Int32} {g2 : hz_M2} {g3 : hz_M3} {m0 : Int32} {ge : Bool} {row : Nat → Int32} {g5 : hz_M5} {g6 : Int32 × Int32 × Bool} {g7 : hz_M7} {g8 wd t3 t4 : Nat → Int32} {m k many c : Nat} (hm : m ≤ 8) (hk : k < 12) (h3 : many ≤ 3) (hr : row (k * 43 + 9) = hz_nI many) (hN : ∀ n, n < many → hz_nameR t3 t4 row c (k * 43) n) : ∀ j f i b T, many = i + j → j < f → b ≤ 99 →
    ∃ T', f_Model_nearest_5 f (g1, g2, g3, (m0, ge, row), g5, g6, g7, g8, (hz_nI m, wd, T)) (hz_nI k) (hz_nI b) (hz_nI i) = some (hz_nI (hz_mnT (hz_nl row wd m k) j i b), (g1, g2, g3, (m0, ge, row), g5, g6, g7, g8, (hz_nI m, wd, T'))) := by
  intro j
  induction j with
  | zero =>
    intro f i b T h1 h2 hb
    obtain ⟨f, rfl⟩ : ∃ f', f = f' + 1 := ⟨f - 1, by omega⟩
    refine ⟨T, ?_⟩
    rw [f_Model_nearest_5]
    simp only [hz_mnT]
    simp (disch := omega) only [hz_nI_lit, hz_nI_add, hz_nI_mul, hz_nI_lt, hz_nI_le, hz_nI_inj, hz_nI_sub, hz_nI_nat, hz_nI_inb, hz_nI_pred, hz_nI_m1_lt, hz_nI_lt_m1, hz_nI_m1_le, hz_nI_le_m1, hz_nI_eq_m1, hz_nI_m1_eq, hz_bI0, if_pos, if_neg, if_true, if_false, Option.bind_some, Prod.eta, reduceCtorEq, hr]
  | succ j ih =>
    intro f i b T h1 h2 hb
    obtain ⟨f, rfl⟩ : ∃ f', f = f' + 1 := ⟨f - 1, by omega⟩
    obtain ⟨len, l1, l2, l3, l4, l5⟩ := hN i (by omega)
    obtain ⟨T1, e1⟩ := hz_q_apart (g1 := g1) (g2 := g2) (g3 := g3) (m0 := m0) (ge := ge) (row := row) (g5 := g5) (g6 := g6) (g7 := g7) (g8 := g8) (wd := wd) (T := T) hm l2 (show k * 43 + 10 + 11 * i + 10 < 559 by omega) l4
    rw [← hz_nl_eq l4 l2] at e1
    have hbd := hz_lev_bd wd (fun q => row (k * 43 + 10 + 11 * i + 1 + q)) m len
    rw [← hz_nl_eq l4 l2] at hbd
    obtain ⟨T', e2⟩ := ih f (i + 1) (min b (hz_nl row wd m k i)) T1 (by omega) (by omega) (by omega)
    refine ⟨T', ?_⟩
    rw [f_Model_nearest_5]
    unfold hz_mnT
    have e3 := hz_q_least (a := b) (b := hz_nl row wd m k i) (by omega) (by omega)
    simp (disch := omega) only [hz_nI_lit, hz_nI_add, hz_nI_mul, hz_nI_lt, hz_nI_le, hz_nI_inj, hz_nI_sub, hz_nI_nat, hz_nI_inb, hz_nI_pred, hz_nI_m1_lt, hz_nI_lt_m1, hz_nI_m1_le, hz_nI_le_m1, hz_nI_eq_m1, hz_nI_m1_eq, hz_bI0, if_pos, if_neg, if_true, if_false, Option.bind_some, Prod.eta, reduceCtorEq, hr, e1, e3]
    exact e2
set_option maxRecDepth 100000 in
theorem hz_q_nearest {g1 : Int32 × Int32} {g2 : hz_M2} {g3 : hz_M3} {m0 : Int32} {ge : Bool} {row : Nat → Int32} {g5 : hz_M5} {g6 : Int32 × Int32 × Bool} {g7 : hz_M7} {g8 wd T t1 t2 t3 t4 : Nat → Int32} {m k M : Nat} {gen : Bool} (hm : m ≤ 8) (hM : M ≤ 12) (hk : k < M) (hT : hz_tabR t1 t2 t3 t4 row M gen) :
    ∃ T', f_Model_nearest (g1, g2, g3, (m0, ge, row), g5, g6, g7, g8, (hz_nI m, wd, T)) (hz_nI k) = some (hz_nI (hz_nrm row wd m k), (g1, g2, g3, (m0, ge, row), g5, g6, g7, g8, (hz_nI m, wd, T'))) := by
  obtain ⟨_, _, many, m1, m2, m3, m4⟩ := hT.1 k hk
  obtain ⟨T', e⟩ := hz_q_nearest_5 (g1 := g1) (g2 := g2) (g3 := g3) (m0 := m0) (ge := ge) (row := row) (g5 := g5) (g6 := g6) (g7 := g7) (g8 := g8) (wd := wd) hm (show k < 12 by omega) m2 m3 m4 many 4096 0 99 T (by omega) (by omega) (by omega)
  refine ⟨T', ?_⟩
  unfold f_Model_nearest hz_nrm
  rw [m3, hz_nI_nat (by omega)]
  exact e
set_option maxRecDepth 100000 in
theorem hz_p_dist_11 {wd sn sd t1 t2 t3 t4 row : Nat → Int32} {cnt t5 : Int32} {t6 : Bool} {m k many : Nat} (hm : m ≤ 8) (hk : k < 12) (h3 : many ≤ 3) (hr : t2 ((k + 1) * 9 + 8) = hz_nI many) (hN : ∀ n, n < many → hz_nameR t3 t4 row (k + 1) (k * 43) n) : ∀ j f i b e, many = i + j → j < f → b ≤ 99 →
    ∃ e', f_Speller_distanceTo_11 f (wd, e, sn, sd, hz_nI m, cnt) (t1, t2, t3, t4, t5, t6) (hz_nI (k + 1)) (hz_nI b) (hz_nI i) = some (hz_nI (hz_mnT (hz_nl row wd m k) j i b), (wd, e', sn, sd, hz_nI m, cnt)) := by
  intro j
  induction j with
  | zero =>
    intro f i b e h1 h2 hb
    obtain ⟨f, rfl⟩ : ∃ f', f = f' + 1 := ⟨f - 1, by omega⟩
    refine ⟨e, ?_⟩
    rw [f_Speller_distanceTo_11, hz_nI_lit, hz_p_cell (by omega) (by omega), Option.bind_some, hr, if_pos (show hz_nI many ≤ hz_nI i by rw [hz_nI_le (by omega) (by omega)]; omega)]
    rfl
  | succ j ih =>
    intro f i b e h1 h2 hb
    obtain ⟨f, rfl⟩ : ∃ f', f = f' + 1 := ⟨f - 1, by omega⟩
    obtain ⟨len, l1, l2, l3, l4, l5⟩ := hN i (by omega)
    obtain ⟨e1, k1⟩ := hz_p_editsTo (wd := wd) (sn := sn) (sd := sd) (e := e) (t1 := t1) (t2 := t2) (t4 := t4) (cnt := cnt) (t5 := t5) (t6 := t6) hm l2 (show k + 1 ≤ 12 by omega) (show i < 3 by omega) l3
    have hnl : hz_lev wd (fun q => t4 (((k + 1) * 3 + i) * 10 + q)) m len = hz_nl row wd m k i := by
      rw [hz_nl_eq l4 l2]
      refine hz_lev_congr m len (fun _ _ => rfl) (fun q hq => ?_)
      show t4 (((k + 1) * 3 + i) * 10 + q) = row (k * 43 + 10 + 11 * i + 1 + q)
      rw [l5 q hq]
      congr 1; omega
    have hbd := hz_lev_bd wd (fun q => t4 (((k + 1) * 3 + i) * 10 + q)) m len
    rw [hnl] at k1 hbd
    obtain ⟨e', k2⟩ := ih f (i + 1) (min b (hz_nl row wd m k i)) e1 (by omega) (by omega) (by omega)
    refine ⟨e', ?_⟩
    rw [f_Speller_distanceTo_11, hz_nI_lit, hz_p_cell (by omega) (by omega), Option.bind_some, hr, if_neg (show ¬ (hz_nI many ≤ hz_nI i) by rw [hz_nI_le (by omega) (by omega)]; omega), k1, Option.bind_some]
    show f_Speller_distanceTo_11 f (wd, e1, sn, sd, hz_nI m, cnt) (t1, t2, t3, t4, t5, t6) (hz_nI (k + 1)) (if hz_nI (hz_nl row wd m k i) < hz_nI b then hz_nI (hz_nl row wd m k i) else hz_nI b) (hz_nI i + hz_nI 1) = _
    rw [hz_i_min (by omega) (by omega), Nat.min_comm, hz_nI_add]
    exact k2
set_option maxRecDepth 100000 in
theorem hz_p_distanceTo {wd sn sd e t1 t2 t3 t4 row : Nat → Int32} {cnt t5 : Int32} {t6 gen : Bool} {m k M : Nat} (hm : m ≤ 8) (hM : M ≤ 12) (hk : k < M) (hT : hz_tabR t1 t2 t3 t4 row M gen) :
    ∃ e', f_Speller_distanceTo (wd, e, sn, sd, hz_nI m, cnt) (t1, t2, t3, t4, t5, t6) (hz_nI (k + 1)) = some (hz_nI (hz_nrm row wd m k), (wd, e', sn, sd, hz_nI m, cnt)) := by
  obtain ⟨_, hc, many, m1, m2, m3, m4⟩ := hT.1 k hk
  have hr : t2 ((k + 1) * 9 + 8) = hz_nI many := by rw [hc.1 8 (by omega)]; exact m3
  obtain ⟨len, l1, l2, l3, l4, l5⟩ := m4 0 (by omega)
  obtain ⟨e1, k1⟩ := hz_p_editsTo (wd := wd) (sn := sn) (sd := sd) (e := e) (t1 := t1) (t2 := t2) (t4 := t4) (cnt := cnt) (t5 := t5) (t6 := t6) hm l2 (show k + 1 ≤ 12 by omega) (show 0 < 3 by omega) l3
  have hnl : hz_lev wd (fun q => t4 (((k + 1) * 3 + 0) * 10 + q)) m len = hz_nl row wd m k 0 := by
    rw [hz_nl_eq l4 l2]
    refine hz_lev_congr m len (fun _ _ => rfl) (fun q hq => ?_)
    show t4 (((k + 1) * 3 + 0) * 10 + q) = row (k * 43 + 10 + 11 * 0 + 1 + q)
    rw [l5 q hq]
  have hbd := hz_lev_bd wd (fun q => t4 (((k + 1) * 3 + 0) * 10 + q)) m len
  rw [hnl] at k1 hbd
  obtain ⟨e', k2⟩ := hz_p_dist_11 (wd := wd) (sn := sn) (sd := sd) (t1 := t1) (t2 := t2) (row := row) (cnt := cnt) (t5 := t5) (t6 := t6) hm (show k < 12 by omega) m2 hr m4 (many - 1) 4096 1 (hz_nl row wd m k 0) e1 (by omega) (by omega) (by omega)
  refine ⟨e', ?_⟩
  unfold f_Speller_distanceTo hz_nrm
  rw [hz_nI_lit, hz_nI_lit, k1, Option.bind_some, m3, hz_nI_nat (by omega)]
  have : hz_mnT (hz_nl row wd m k) many 0 99 = hz_mnT (hz_nl row wd m k) (many - 1) 1 (hz_nl row wd m k 0) := by
    obtain ⟨q, rfl⟩ : ∃ q, many = q + 1 := ⟨many - 1, by omega⟩
    rw [hz_mnT, Nat.add_sub_cancel, Nat.min_eq_right (by omega)]
  rw [this]
  exact k2
