set_option maxRecDepth 100000 in
theorem hz_p_addLetter {wd s sn sd e : Nat → Int32} {cnt : Int32} {m i : Nat} (hm : m ≤ 8) (hi : i < 10) (he : ∀ q, q ≤ m → e q = hz_nI (hz_lev wd s q i)) :
    ∃ e', (∀ q, q ≤ m → e' q = hz_nI (hz_lev wd s q (i + 1))) ∧ f_Speller_addLetter (wd, e, sn, sd, hz_nI m, cnt) (s i) (hz_nI (i + 1)) = some (wd, e', sn, sd, hz_nI m, cnt) := by
  obtain ⟨e', k1, k2⟩ := hz_p_addL_17 (wd := wd) (s := s) (sn := sn) (sd := sd) (cnt := cnt) hm hi m 4096 1 (upd e 0 (hz_nI (i + 1))) (by omega) (by omega) (by omega) (fun q hq => by
    have : q = 0 := by omega
    subst this
    exact hz_upd_eq _ _ _) (fun q h1 h2 => by rw [hz_upd_ne (by omega)]; exact he q h2)
  refine ⟨e', k1, ?_⟩
  unfold f_Speller_addLetter
  have e0 := he 0 (by omega)
  rw [if_pos (show inb (0 : Int32) 9 by decide), if_pos (show inb (0 : Int32) 9 by decide)]
  show f_Speller_addLetter_17 4096 (wd, upd e 0 (hz_nI (i + 1)), sn, sd, hz_nI m, cnt) (s i) (e 0) (hz_nI 1) = _
  rw [e0]
  exact k2
set_option maxRecDepth 100000 in
theorem hz_p_nameLetter {t1 t2 t3 t4 : Nat → Int32} {t5 : Int32} {t6 : Bool} {c nm i : Nat} (hc : c ≤ 12) (hn : nm < 3) (hi : i < 10) : f_Table_nameLetter (t1, t2, t3, t4, t5, t6) (hz_nI c) (hz_nI nm) (hz_nI i) = some (t4 ((c * 3 + nm) * 10 + i)) := by
  unfold f_Table_nameLetter
  simp (disch := omega) only [hz_nI_lit, hz_nI_add, hz_nI_mul, hz_nI_lt, hz_nI_le, hz_nI_inj, hz_nI_sub, hz_nI_nat, hz_nI_inb, hz_nI_pred, hz_nI_m1_lt, hz_nI_lt_m1, hz_nI_m1_le, hz_nI_le_m1, hz_nI_eq_m1, hz_nI_m1_eq, hz_bI0, if_pos, if_neg, if_true, if_false, Option.bind_some, Prod.eta, reduceCtorEq]
set_option maxRecDepth 100000 in
theorem hz_p_edits_48 {wd sn sd t1 t2 t3 t4 : Nat → Int32} {cnt t5 : Int32} {t6 : Bool} {m c nm len : Nat} (hm : m ≤ 8) (hl : len ≤ 10) (hc : c ≤ 12) (hn : nm < 3) : ∀ k n i e, len = i + k → k < n → (∀ q, q ≤ m → e q = hz_nI (hz_lev wd (fun q => t4 ((c * 3 + nm) * 10 + q)) q i)) →
    ∃ e', f_Speller_editsTo_48 n (wd, e, sn, sd, hz_nI m, cnt) (t1, t2, t3, t4, t5, t6) (hz_nI c) (hz_nI nm) (hz_nI len) (hz_nI (i + 1)) = some (hz_nI (hz_lev wd (fun q => t4 ((c * 3 + nm) * 10 + q)) m len), (wd, e', sn, sd, hz_nI m, cnt)) := by
  intro k
  induction k with
  | zero =>
    intro n i e h1 h2 h3
    obtain ⟨n, rfl⟩ : ∃ n', n = n' + 1 := ⟨n - 1, by omega⟩
    have : i = len := by omega
    subst this
    refine ⟨e, ?_⟩
    rw [f_Speller_editsTo_48]
    have e1 := h3 m (by omega)
    simp (disch := omega) only [hz_nI_lit, hz_nI_add, hz_nI_mul, hz_nI_lt, hz_nI_le, hz_nI_inj, hz_nI_sub, hz_nI_nat, hz_nI_inb, hz_nI_pred, hz_nI_m1_lt, hz_nI_lt_m1, hz_nI_m1_le, hz_nI_le_m1, hz_nI_eq_m1, hz_nI_m1_eq, hz_bI0, if_pos, if_neg, if_true, if_false, Option.bind_some, Prod.eta, reduceCtorEq, e1]
  | succ k ih =>
    intro n i e h1 h2 h3
    obtain ⟨n, rfl⟩ : ∃ n', n = n' + 1 := ⟨n - 1, by omega⟩
    obtain ⟨e1, k1, k2⟩ := hz_p_addLetter (sn := sn) (sd := sd) (cnt := cnt) hm (show i < 10 by omega) h3
    obtain ⟨e', k3⟩ := ih n (i + 1) e1 (by omega) (by omega) k1
    refine ⟨e', ?_⟩
    rw [f_Speller_editsTo_48, if_neg (show ¬ (hz_nI len < hz_nI (i + 1)) by rw [hz_nI_lt (by omega) (by omega)]; omega), hz_nI_lit, hz_nI_sub (show 1 ≤ i + 1 by omega), Nat.add_sub_cancel, hz_p_nameLetter hc hn (show i < 10 by omega), Option.bind_some]
    have k2' : f_Speller_addLetter (wd, e, sn, sd, hz_nI m, cnt) (t4 ((c * 3 + nm) * 10 + i)) (hz_nI (i + 1)) = some (wd, e1, sn, sd, hz_nI m, cnt) := k2
    rw [k2', Option.bind_some, hz_nI_add]
    exact k3
set_option maxRecDepth 100000 in
theorem hz_p_nameLength {t1 t2 t3 t4 : Nat → Int32} {t5 : Int32} {t6 : Bool} {c nm : Nat} (hc : c ≤ 12) (hn : nm < 3) : f_Table_nameLength (t1, t2, t3, t4, t5, t6) (hz_nI c) (hz_nI nm) = some (t3 (c * 3 + nm)) := by
  unfold f_Table_nameLength
  simp (disch := omega) only [hz_nI_lit, hz_nI_add, hz_nI_mul, hz_nI_lt, hz_nI_le, hz_nI_inj, hz_nI_sub, hz_nI_nat, hz_nI_inb, hz_nI_pred, hz_nI_m1_lt, hz_nI_lt_m1, hz_nI_m1_le, hz_nI_le_m1, hz_nI_eq_m1, hz_nI_m1_eq, hz_bI0, if_pos, if_neg, if_true, if_false, Option.bind_some, Prod.eta, reduceCtorEq]
set_option maxRecDepth 100000 in
theorem hz_p_edits_3 {wd sn sd t1 t2 t3 t4 : Nat → Int32} {cnt t5 : Int32} {t6 : Bool} {m c nm len : Nat} (hm : m ≤ 8) (hl : len ≤ 10) (hc : c ≤ 12) (hn : nm < 3) (h3 : t3 (c * 3 + nm) = hz_nI len) : ∀ k n j e, m + 1 = j + k → k < n → (∀ q, q < j → e q = hz_nI q) →
    ∃ e', f_Speller_editsTo_3 n (wd, e, sn, sd, hz_nI m, cnt) (t1, t2, t3, t4, t5, t6) (hz_nI c) (hz_nI nm) (hz_nI j) = some (hz_nI (hz_lev wd (fun q => t4 ((c * 3 + nm) * 10 + q)) m len), (wd, e', sn, sd, hz_nI m, cnt)) := by
  intro k
  induction k with
  | zero =>
    intro n j e h1 h2 h4
    obtain ⟨n, rfl⟩ : ∃ n', n = n' + 1 := ⟨n - 1, by omega⟩
    obtain ⟨e', k1⟩ := hz_p_edits_48 (wd := wd) (sn := sn) (sd := sd) (t1 := t1) (t2 := t2) (t3 := t3) (t4 := t4) (cnt := cnt) (t5 := t5) (t6 := t6) (c := c) (nm := nm) hm hl hc hn len 4096 0 e (by omega) (by omega) (fun q hq => by rw [hz_lev_z]; exact h4 q (by omega))
    refine ⟨e', ?_⟩
    rw [f_Speller_editsTo_3, if_pos (show hz_nI m < hz_nI j by rw [hz_nI_lt (by omega) (by omega)]; omega), hz_p_nameLength hc hn, Option.bind_some, h3, hz_nI_lit]
    exact k1
  | succ k ih =>
    intro n j e h1 h2 h4
    obtain ⟨n, rfl⟩ : ∃ n', n = n' + 1 := ⟨n - 1, by omega⟩
    obtain ⟨e', k1⟩ := ih n (j + 1) (upd e j (hz_nI j)) (by omega) (by omega) (fun q hq => by
      by_cases hqj : q = j
      · subst hqj; exact hz_upd_eq _ _ _
      · rw [hz_upd_ne hqj]; exact h4 q (by omega))
    refine ⟨e', ?_⟩
    rw [f_Speller_editsTo_3, if_neg (show ¬ (hz_nI m < hz_nI j) by rw [hz_nI_lt (by omega) (by omega)]; omega), if_neg (show ¬ ((9 : Int32) ≤ hz_nI j) by rw [hz_nI_lit, hz_nI_le (by omega) (by omega)]; omega), if_pos (show inb (hz_nI j) 9 by rw [hz_nI_inb (by omega)]; omega), hz_nI_nat (by omega), hz_nI_lit, hz_nI_add]
    exact k1
set_option maxRecDepth 100000 in
theorem hz_p_editsTo {wd sn sd e t1 t2 t3 t4 : Nat → Int32} {cnt t5 : Int32} {t6 : Bool} {m c nm len : Nat} (hm : m ≤ 8) (hl : len ≤ 10) (hc : c ≤ 12) (hn : nm < 3) (h3 : t3 (c * 3 + nm) = hz_nI len) :
    ∃ e', f_Speller_editsTo (wd, e, sn, sd, hz_nI m, cnt) (t1, t2, t3, t4, t5, t6) (hz_nI c) (hz_nI nm) = some (hz_nI (hz_lev wd (fun q => t4 ((c * 3 + nm) * 10 + q)) m len), (wd, e', sn, sd, hz_nI m, cnt)) := by
  obtain ⟨e', k1⟩ := hz_p_edits_3 (wd := wd) (sn := sn) (sd := sd) (t1 := t1) (t2 := t2) (t4 := t4) (cnt := cnt) (t5 := t5) (t6 := t6) hm hl hc hn h3 (m + 1) 4096 0 e (by omega) (by omega) (fun q hq => by omega)
  exact ⟨e', by unfold f_Speller_editsTo; rw [hz_nI_lit]; exact k1⟩
set_option maxRecDepth 100000 in
def hz_nl (row wd : Nat → Int32) (m k n : Nat) : Nat := hz_lev wd (fun q => row (k * 43 + 10 + 11 * n + 1 + q)) m (row (k * 43 + 10 + 11 * n)).toNatClampNeg
set_option maxRecDepth 100000 in
def hz_mnT (f : Nat → Nat) : Nat → Nat → Nat → Nat
  | 0, i, b => b
  | n + 1, i, b => hz_mnT f n (i + 1) (min b (f i))
set_option maxRecDepth 100000 in
def hz_nrm (row wd : Nat → Int32) (m k : Nat) : Nat := hz_mnT (hz_nl row wd m k) (row (k * 43 + 9)).toNatClampNeg 0 99
set_option maxRecDepth 100000 in
theorem hz_mnT_bd (f : Nat → Nat) : ∀ n i b, hz_mnT f n i b ≤ b
  | 0, i, b => Nat.le_refl _
  | n + 1, i, b => by
    unfold hz_mnT
    have := hz_mnT_bd f n (i + 1) (min b (f i))
    omega
set_option maxRecDepth 100000 in
theorem hz_nl_eq {row wd : Nat → Int32} {m k n len : Nat} (h : row (k * 43 + 10 + 11 * n) = hz_nI len) (hl : len ≤ 10) : hz_nl row wd m k n = hz_lev wd (fun q => row (k * 43 + 10 + 11 * n + 1 + q)) m len := by
  unfold hz_nl; rw [h, hz_nI_nat (by omega)]
set_option maxRecDepth 100000 in
theorem hz_q_nearest_5 {g1 : Int32 × Int32} {g2 : hz_M2} {g3 : hz_M3} {m0 : Int32} {ge : Bool} {row : Nat → Int32} {g5 : hz_M5} {g6 : Int32 × Int32 × Bool} {g7 : hz_M7} {g8 wd t3 t4 : Nat → Int32} {m k many c : Nat} (hm : m ≤ 8) (hk : k < 12) (h3 : many ≤ 3) (hr : row (k * 43 + 9) = hz_nI many) (hN : ∀ n, n < many → hz_nameR t3 t4 row c (k * 43) n) : ∀ j f i b T, many = i + j → j < f → b ≤ 99 →
    ∃ T', f_Model_nearest_5 f (g1, g2, g3, (m0, ge, row), g5, g6, g7, g8, (hz_nI m, wd, T)) (hz_nI k) (hz_nI b) (hz_nI i) = some (hz_nI (hz_mnT (hz_nl row wd m k) j i b), (g1, g2, g3, (m0, ge, row), g5, g6, g7, g8, (hz_nI m, wd, T'))) := by
  intro j
  induction j with
  | zero =>
    intro f i b T h1 h2 hb
    obtain ⟨f, rfl⟩ : ∃ f', f = f' + 1 := ⟨f - 1, by omega⟩
    refine ⟨T, ?_⟩
    rw [f_Model_nearest_5]
    simp only [hz_mnT]
    simp (disch := omega) only [hz_nI_lit, hz_nI_add, hz_nI_mul, hz_nI_lt, hz_nI_le, hz_nI_inj, hz_nI_sub, hz_nI_nat, hz_nI_inb, hz_nI_pred, hz_nI_m1_lt, hz_nI_lt_m1, hz_nI_m1_le, hz_nI_le_m1, hz_nI_eq_m1, hz_nI_m1_eq, hz_bI0, if_pos, if_neg, if_true, if_false, Option.bind_some, Prod.eta, reduceCtorEq, hr]
  | succ j ih =>
    intro f i b T h1 h2 hb
    obtain ⟨f, rfl⟩ : ∃ f', f = f' + 1 := ⟨f - 1, by omega⟩
    obtain ⟨len, l1, l2, l3, l4, l5⟩ := hN i (by omega)
    obtain ⟨T1, e1⟩ := hz_q_apart (g1 := g1) (g2 := g2) (g3 := g3) (m0 := m0) (ge := ge) (row := row) (g5 := g5) (g6 := g6) (g7 := g7) (g8 := g8) (wd := wd) (T := T) hm l2 (show k * 43 + 10 + 11 * i + 10 < 559 by omega) l4
    rw [← hz_nl_eq l4 l2] at e1
    have hbd := hz_lev_bd wd (fun q => row (k * 43 + 10 + 11 * i + 1 + q)) m len
    rw [← hz_nl_eq l4 l2] at hbd
    obtain ⟨T', e2⟩ := ih f (i + 1) (min b (hz_nl row wd m k i)) T1 (by omega) (by omega) (by omega)
    refine ⟨T', ?_⟩
    rw [f_Model_nearest_5]
    unfold hz_mnT
    have e3 := hz_q_least (a := b) (b := hz_nl row wd m k i) (by omega) (by omega)
    simp (disch := omega) only [hz_nI_lit, hz_nI_add, hz_nI_mul, hz_nI_lt, hz_nI_le, hz_nI_inj, hz_nI_sub, hz_nI_nat, hz_nI_inb, hz_nI_pred, hz_nI_m1_lt, hz_nI_lt_m1, hz_nI_m1_le, hz_nI_le_m1, hz_nI_eq_m1, hz_nI_m1_eq, hz_bI0, if_pos, if_neg, if_true, if_false, Option.bind_some, Prod.eta, reduceCtorEq, hr, e1, e3]
    exact e2
set_option maxRecDepth 100000 in
theorem hz_q_nearest {g1 : Int32 × Int32} {g2 : hz_M2} {g3 : hz_M3} {m0 : Int32} {ge : Bool} {row : Nat → Int32} {g5 : hz_M5} {g6 : Int32 × Int32 × Bool} {g7 : hz_M7} {g8 wd T t1 t2 t3 t4 : Nat → Int32} {m k M : Nat} {gen : Bool} (hm : m ≤ 8) (hM : M ≤ 12) (hk : k < M) (hT : hz_tabR t1 t2 t3 t4 row M gen) :
    ∃ T', f_Model_nearest (g1, g2, g3, (m0, ge, row), g5, g6, g7, g8, (hz_nI m, wd, T)) (hz_nI k) = some (hz_nI (hz_nrm row wd m k), (g1, g2, g3, (m0, ge, row), g5, g6, g7, g8, (hz_nI m, wd, T'))) := by
  obtain ⟨_, _, many, m1, m2, m3, m4⟩ := hT.1 k hk
  obtain ⟨T', e⟩ := hz_q_nearest_5 (g1 := g1) (g2 := g2) (g3 := g3) (m0 := m0) (ge := ge) (row := row) (g5 := g5) (g6 := g6) (g7 := g7) (g8 := g8) (wd := wd) hm (show k < 12 by omega) m2 m3 m4 many 4096 0 99 T (by omega) (by omega) (by omega)
  refine ⟨T', ?_⟩
  unfold f_Model_nearest hz_nrm
  rw [m3, hz_nI_nat (by omega)]
  exact e
set_option maxRecDepth 100000 in
theorem hz_p_dist_11 {wd sn sd t1 t2 t3 t4 row : Nat → Int32} {cnt t5 : Int32} {t6 : Bool} {m k many : Nat} (hm : m ≤ 8) (hk : k < 12) (h3 : many ≤ 3) (hr : t2 ((k + 1) * 9 + 8) = hz_nI many) (hN : ∀ n, n < many → hz_nameR t3 t4 row (k + 1) (k * 43) n) : ∀ j f i b e, many = i + j → j < f → b ≤ 99 →
    ∃ e', f_Speller_distanceTo_11 f (wd, e, sn, sd, hz_nI m, cnt) (t1, t2, t3, t4, t5, t6) (hz_nI (k + 1)) (hz_nI b) (hz_nI i) = some (hz_nI (hz_mnT (hz_nl row wd m k) j i b), (wd, e', sn, sd, hz_nI m, cnt)) := by
  intro j
  induction j with
  | zero =>
    intro f i b e h1 h2 hb
    obtain ⟨f, rfl⟩ : ∃ f', f = f' + 1 := ⟨f - 1, by omega⟩
    refine ⟨e, ?_⟩
    rw [f_Speller_distanceTo_11, hz_nI_lit, hz_p_cell (by omega) (by omega), Option.bind_some, hr, if_pos (show hz_nI many ≤ hz_nI i by rw [hz_nI_le (by omega) (by omega)]; omega)]
    rfl
  | succ j ih =>
    intro f i b e h1 h2 hb
    obtain ⟨f, rfl⟩ : ∃ f', f = f' + 1 := ⟨f - 1, by omega⟩
    obtain ⟨len, l1, l2, l3, l4, l5⟩ := hN i (by omega)
    obtain ⟨e1, k1⟩ := hz_p_editsTo (wd := wd) (sn := sn) (sd := sd) (e := e) (t1 := t1) (t2 := t2) (t4 := t4) (cnt := cnt) (t5 := t5) (t6 := t6) hm l2 (show k + 1 ≤ 12 by omega) (show i < 3 by omega) l3
    have hnl : hz_lev wd (fun q => t4 (((k + 1) * 3 + i) * 10 + q)) m len = hz_nl row wd m k i := by
      rw [hz_nl_eq l4 l2]
      refine hz_lev_congr m len (fun _ _ => rfl) (fun q hq => ?_)
      show t4 (((k + 1) * 3 + i) * 10 + q) = row (k * 43 + 10 + 11 * i + 1 + q)
      rw [l5 q hq]
      congr 1; omega
    have hbd := hz_lev_bd wd (fun q => t4 (((k + 1) * 3 + i) * 10 + q)) m len
    rw [hnl] at k1 hbd
    obtain ⟨e', k2⟩ := ih f (i + 1) (min b (hz_nl row wd m k i)) e1 (by omega) (by omega) (by omega)
    refine ⟨e', ?_⟩
    rw [f_Speller_distanceTo_11, hz_nI_lit, hz_p_cell (by omega) (by omega), Option.bind_some, hr, if_neg (show ¬ (hz_nI many ≤ hz_nI i) by rw [hz_nI_le (by omega) (by omega)]; omega), k1, Option.bind_some]
    show f_Speller_distanceTo_11 f (wd, e1, sn, sd, hz_nI m, cnt) (t1, t2, t3, t4, t5, t6) (hz_nI (k + 1)) (if hz_nI (hz_nl row wd m k i) < hz_nI b then hz_nI (hz_nl row wd m k i) else hz_nI b) (hz_nI i + hz_nI 1) = _
    rw [hz_i_min (by omega) (by omega), Nat.min_comm, hz_nI_add]
    exact k2
set_option maxRecDepth 100000 in
theorem hz_p_distanceTo {wd sn sd e t1 t2 t3 t4 row : Nat → Int32} {cnt t5 : Int32} {t6 gen : Bool} {m k M : Nat} (hm : m ≤ 8) (hM : M ≤ 12) (hk : k < M) (hT : hz_tabR t1 t2 t3 t4 row M gen) :
    ∃ e', f_Speller_distanceTo (wd, e, sn, sd, hz_nI m, cnt) (t1, t2, t3, t4, t5, t6) (hz_nI (k + 1)) = some (hz_nI (hz_nrm row wd m k), (wd, e', sn, sd, hz_nI m, cnt)) := by
  obtain ⟨_, hc, many, m1, m2, m3, m4⟩ := hT.1 k hk
  have hr : t2 ((k + 1) * 9 + 8) = hz_nI many := by rw [hc.1 8 (by omega)]; exact m3
  obtain ⟨len, l1, l2, l3, l4, l5⟩ := m4 0 (by omega)
  obtain ⟨e1, k1⟩ := hz_p_editsTo (wd := wd) (sn := sn) (sd := sd) (e := e) (t1 := t1) (t2 := t2) (t4 := t4) (cnt := cnt) (t5 := t5) (t6 := t6) hm l2 (show k + 1 ≤ 12 by omega) (show 0 < 3 by omega) l3
  have hnl : hz_lev wd (fun q => t4 (((k + 1) * 3 + 0) * 10 + q)) m len = hz_nl row wd m k 0 := by
    rw [hz_nl_eq l4 l2]
    refine hz_lev_congr m len (fun _ _ => rfl) (fun q hq => ?_)
    show t4 (((k + 1) * 3 + 0) * 10 + q) = row (k * 43 + 10 + 11 * 0 + 1 + q)
    rw [l5 q hq]
  have hbd := hz_lev_bd wd (fun q => t4 (((k + 1) * 3 + 0) * 10 + q)) m len
  rw [hnl] at k1 hbd
  obtain ⟨e', k2⟩ := hz_p_dist_11 (wd := wd) (sn := sn) (sd := sd) (t1 := t1) (t2 := t2) (row := row) (cnt := cnt) (t5 := t5) (t6 := t6) hm (show k < 12 by omega) m2 hr m4 (many - 1) 4096 1 (hz_nl row wd m k 0) e1 (by omega) (by omega) (by omega)
  refine ⟨e', ?_⟩
  unfold f_Speller_distanceTo hz_nrm
  rw [hz_nI_lit, hz_nI_lit, k1, Option.bind_some, m3, hz_nI_nat (by omega)]
  have : hz_mnT (hz_nl row wd m k) many 0 99 = hz_mnT (hz_nl row wd m k) (many - 1) 1 (hz_nl row wd m k 0) := by
    obtain ⟨q, rfl⟩ : ∃ q, many = q + 1 := ⟨many - 1, by omega⟩
    rw [hz_mnT, Nat.add_sub_cancel, Nat.min_eq_right (by omega)]
  rw [this]
  exact k2
