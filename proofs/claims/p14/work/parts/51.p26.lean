set_option maxRecDepth 100000 in
def hz_levS (w s : Nat → Int32) (i : Nat) (p : Nat → Nat) : Nat → Nat
  | 0 => i + 1
  | j + 1 => min (p j + (if w i = s j then 0 else 1)) (min (p (j + 1)) (hz_levS w s i p j) + 1)
set_option maxRecDepth 100000 in
def hz_lev (w s : Nat → Int32) : Nat → Nat → Nat
  | 0 => fun j => j
  | i + 1 => hz_levS w s i (hz_lev w s i)
set_option maxRecDepth 100000 in
theorem hz_lev_z (w s : Nat → Int32) (i : Nat) : hz_lev w s i 0 = i := by cases i <;> rfl
set_option maxRecDepth 100000 in
theorem hz_lev_s (w s : Nat → Int32) (i j : Nat) : hz_lev w s (i + 1) (j + 1) = min (hz_lev w s i j + (if w i = s j then 0 else 1)) (min (hz_lev w s i (j + 1)) (hz_lev w s (i + 1) j) + 1) := rfl
set_option maxRecDepth 100000 in
theorem hz_lev_bd (w s : Nat → Int32) (i : Nat) : ∀ j, hz_lev w s i j ≤ i + j := by
  cases i with
  | zero => intro j; exact Nat.le_of_eq (Nat.zero_add j).symm
  | succ i =>
    intro j
    induction j with
    | zero => exact Nat.le_refl _
    | succ j ih => rw [hz_lev_s]; omega
set_option maxRecDepth 100000 in
theorem hz_lev_congr {w s w' s' : Nat → Int32} : ∀ i j, (∀ a, a < i → w a = w' a) → (∀ b, b < j → s b = s' b) → hz_lev w s i j = hz_lev w' s' i j := by
  intro i
  induction i with
  | zero => intro j _ _; rfl
  | succ i ih =>
    intro j hw hs
    induction j with
    | zero => rfl
    | succ j jh =>
      rw [hz_lev_s, hz_lev_s, hw i (by omega), hs j (by omega), ih j (fun a ha => hw a (by omega)) (fun b hb => hs b (by omega)), ih (j + 1) (fun a ha => hw a (by omega)) hs, jh (fun b hb => hs b (by omega))]
set_option maxRecDepth 100000 in
theorem hz_q_least {a b : Nat} (ha : a < 2147483648) (hb : b < 2147483648) : f_Model_least (hz_nI a) (hz_nI b) = some (hz_nI (min a b)) := by
  unfold f_Model_least
  by_cases c : b ≤ a
  · rw [if_pos (by rw [hz_nI_le hb ha]; exact c), Nat.min_eq_right c]
  · rw [if_neg (by rw [hz_nI_le hb ha]; exact c), Nat.min_eq_left (by omega)]
set_option maxRecDepth 100000 in
theorem hz_i_min {a b : Nat} (ha : a < 2147483648) (hb : b < 2147483648) : (if hz_nI a < hz_nI b then hz_nI a else hz_nI b) = hz_nI (min a b) := by
  by_cases c : a < b
  · rw [if_pos (by rw [hz_nI_lt ha hb]; exact c), Nat.min_eq_left (by omega)]
  · rw [if_neg (by rw [hz_nI_lt ha hb]; exact c), Nat.min_eq_right (by omega)]
abbrev hz_G7 : Type := hz_M7
set_option maxRecDepth 100000 in
theorem hz_q_apart_20 {k9 : SModel → Int32 → Int32 → Int32 → Option (Int32 × SModel)} {g1 : Int32 × Int32} {g2 : hz_M2} {g3 : hz_M3} {m0 : Int32} {ge : Bool} {row : Nat → Int32} {g5 : hz_M5} {g6 : Int32 × Int32 × Bool} {g7 : hz_M7} {g8 wd : Nat → Int32} {m n k i : Nat} (hm : m ≤ 8) (hn : n ≤ 10) (hk : k + 10 < 559) (hi : i ≤ m) : ∀ c f j T, n + 1 = j + c → c < f →
    (∀ a b, a < i → b ≤ n → T (a * 11 + b) = hz_nI (hz_lev wd (fun q => row (k + 1 + q)) a b)) → (∀ b, b < j → T (i * 11 + b) = hz_nI (hz_lev wd (fun q => row (k + 1 + q)) i b)) →
    ∃ T', (∀ a b, a < i + 1 → b ≤ n → T' (a * 11 + b) = hz_nI (hz_lev wd (fun q => row (k + 1 + q)) a b)) ∧ f_Model_apart_20 k9 f (g1, g2, g3, (m0, ge, row), g5, g6, g7, g8, (hz_nI m, wd, T)) (hz_nI k) (hz_nI n) (hz_nI i) (hz_nI j) = k9 (g1, g2, g3, (m0, ge, row), g5, g6, g7, g8, (hz_nI m, wd, T')) (hz_nI k) (hz_nI n) (hz_nI (i + 1)) := by
  intro c
  induction c with
  | zero =>
    intro f j T h1 h2 h3 h4
    obtain ⟨f, rfl⟩ : ∃ f', f = f' + 1 := ⟨f - 1, by omega⟩
    refine ⟨T, fun a b ha hb => ?_, ?_⟩
    · by_cases hai : a = i
      · subst hai; exact h4 b (by omega)
      · exact h3 a b (by omega) hb
    · rw [f_Model_apart_20]
      simp (disch := omega) only [hz_nI_lit, hz_nI_add, hz_nI_mul, hz_nI_lt, hz_nI_le, hz_nI_inj, hz_nI_sub, hz_nI_nat, hz_nI_inb, hz_nI_pred, hz_nI_m1_lt, hz_nI_lt_m1, hz_nI_m1_le, hz_nI_le_m1, hz_nI_eq_m1, hz_nI_m1_eq, hz_bI0, if_pos, if_neg, if_true, if_false, Option.bind_some, Prod.eta, reduceCtorEq]
  | succ c ih =>
    intro f j T h1 h2 h3 h4
    obtain ⟨f, rfl⟩ : ∃ f', f = f' + 1 := ⟨f - 1, by omega⟩
    obtain ⟨T', k1, k2⟩ := ih f (j + 1) (upd T (i * 11 + j) (hz_nI (hz_lev wd (fun q => row (k + 1 + q)) i j))) (by omega) (by omega) (fun a b ha hb => by rw [hz_upd_ne (by omega)]; exact h3 a b ha hb) (fun b hb => by
      by_cases hbj : b = j
      · subst hbj; exact hz_upd_eq _ _ _
      · rw [hz_upd_ne (by omega)]; exact h4 b (by omega))
    refine ⟨T', k1, ?_⟩
    rw [← k2, f_Model_apart_20]
    unfold f_Model_apart_82 f_Model_apart_125
    by_cases ci : i = 0
    · subst ci
      rw [show hz_lev wd (fun q => row (k + 1 + q)) 0 j = 0 + j from (Nat.zero_add j).symm]
      simp (disch := omega) only [hz_nI_lit, hz_nI_add, hz_nI_mul, hz_nI_lt, hz_nI_le, hz_nI_inj, hz_nI_sub, hz_nI_nat, hz_nI_inb, hz_nI_pred, hz_nI_m1_lt, hz_nI_lt_m1, hz_nI_m1_le, hz_nI_le_m1, hz_nI_eq_m1, hz_nI_m1_eq, hz_bI0, if_pos, if_neg, if_true, if_false, Option.bind_some, Prod.eta, reduceCtorEq]
    · by_cases cj : j = 0
      · subst cj
        rw [show hz_lev wd (fun q => row (k + 1 + q)) i 0 = i + 0 from hz_lev_z _ _ _]
        simp (disch := omega) only [hz_nI_lit, hz_nI_add, hz_nI_mul, hz_nI_lt, hz_nI_le, hz_nI_inj, hz_nI_sub, hz_nI_nat, hz_nI_inb, hz_nI_pred, hz_nI_m1_lt, hz_nI_lt_m1, hz_nI_m1_le, hz_nI_le_m1, hz_nI_eq_m1, hz_nI_m1_eq, hz_bI0, if_pos, if_neg, if_true, if_false, Option.bind_some, Prod.eta, reduceCtorEq]
      · obtain ⟨i', rfl⟩ : ∃ i', i = i' + 1 := ⟨i - 1, by omega⟩
        obtain ⟨j', rfl⟩ : ∃ j', j = j' + 1 := ⟨j - 1, by omega⟩
        have e1 := h3 i' j' (by omega) (by omega)
        have e2 := h3 i' (j' + 1) (by omega) (by omega)
        have e3 := h4 j' (by omega)
        have b1 := hz_lev_bd wd (fun q => row (k + 1 + q)) i' j'
        have b2 := hz_lev_bd wd (fun q => row (k + 1 + q)) i' (j' + 1)
        have b3 := hz_lev_bd wd (fun q => row (k + 1 + q)) (i' + 1) j'
        rw [hz_lev_s]
        generalize hz_lev wd (fun q => row (k + 1 + q)) i' j' = x1 at *
        generalize hz_lev wd (fun q => row (k + 1 + q)) i' (j' + 1) = x2 at *
        generalize hz_lev wd (fun q => row (k + 1 + q)) (i' + 1) j' = x3 at *
        have l1 := hz_q_least (a := x2) (b := x3) (by omega) (by omega)
        have l2 := hz_q_least (a := x1 + 0) (b := min x2 x3 + 1) (by omega) (by omega)
        have l3 := hz_q_least (a := x1 + 1) (b := min x2 x3 + 1) (by omega) (by omega)
        have p1 : i' * 11 + (j' + 1) - 1 = i' * 11 + j' := by omega
        have p2 : (i' + 1) * 11 + (j' + 1) - 1 = (i' + 1) * 11 + j' := by omega
        have p3 : k + (j' + 1) = k + 1 + j' := by omega
        by_cases cw : wd i' = row (k + 1 + j')
        · rw [if_pos cw]
          simp (disch := omega) only [hz_nI_lit, hz_nI_add, hz_nI_mul, hz_nI_lt, hz_nI_le, hz_nI_inj, hz_nI_sub, hz_nI_nat, hz_nI_inb, hz_nI_pred, hz_nI_m1_lt, hz_nI_lt_m1, hz_nI_m1_le, hz_nI_le_m1, hz_nI_eq_m1, hz_nI_m1_eq, hz_bI0, if_pos, if_neg, if_true, if_false, Option.bind_some, Prod.eta, reduceCtorEq, Nat.add_sub_cancel, p1, p2, p3, cw, e1, e2, e3, l1, hz_bI_f, l2]
        · rw [if_neg cw]
          simp (disch := omega) only [hz_nI_lit, hz_nI_add, hz_nI_mul, hz_nI_lt, hz_nI_le, hz_nI_inj, hz_nI_sub, hz_nI_nat, hz_nI_inb, hz_nI_pred, hz_nI_m1_lt, hz_nI_lt_m1, hz_nI_m1_le, hz_nI_le_m1, hz_nI_eq_m1, hz_nI_m1_eq, hz_bI0, if_pos, if_neg, if_true, if_false, Option.bind_some, Prod.eta, reduceCtorEq, Nat.add_sub_cancel, p1, p2, p3, cw, e1, e2, e3, l1, hz_bI_t, l3]
set_option maxRecDepth 100000 in
theorem hz_q_apart_9 {g1 : Int32 × Int32} {g2 : hz_M2} {g3 : hz_M3} {m0 : Int32} {ge : Bool} {row : Nat → Int32} {g5 : hz_M5} {g6 : Int32 × Int32 × Bool} {g7 : hz_M7} {g8 wd : Nat → Int32} {m n k : Nat} (hm : m ≤ 8) (hn : n ≤ 10) (hk : k + 10 < 559) : ∀ c f i T, m + 1 = i + c → c < f →
    (∀ a b, a < i → b ≤ n → T (a * 11 + b) = hz_nI (hz_lev wd (fun q => row (k + 1 + q)) a b)) →
    ∃ T', f_Model_apart_9 f (g1, g2, g3, (m0, ge, row), g5, g6, g7, g8, (hz_nI m, wd, T)) (hz_nI k) (hz_nI n) (hz_nI i) = some (hz_nI (hz_lev wd (fun q => row (k + 1 + q)) m n), (g1, g2, g3, (m0, ge, row), g5, g6, g7, g8, (hz_nI m, wd, T'))) := by
  intro c
  induction c with
  | zero =>
    intro f i T h1 h2 h3
    obtain ⟨f, rfl⟩ : ∃ f', f = f' + 1 := ⟨f - 1, by omega⟩
    refine ⟨T, ?_⟩
    rw [f_Model_apart_9]
    have e := h3 m n (by omega) (by omega)
    simp (disch := omega) only [hz_nI_lit, hz_nI_add, hz_nI_mul, hz_nI_lt, hz_nI_le, hz_nI_inj, hz_nI_sub, hz_nI_nat, hz_nI_inb, hz_nI_pred, hz_nI_m1_lt, hz_nI_lt_m1, hz_nI_m1_le, hz_nI_le_m1, hz_nI_eq_m1, hz_nI_m1_eq, hz_bI0, if_pos, if_neg, if_true, if_false, Option.bind_some, Prod.eta, reduceCtorEq, e]
  | succ c ih =>
    intro f i T h1 h2 h3
    obtain ⟨f, rfl⟩ : ∃ f', f = f' + 1 := ⟨f - 1, by omega⟩
    obtain ⟨T1, k1, k2⟩ := hz_q_apart_20 (k9 := f_Model_apart_9 f) (g1 := g1) (g2 := g2) (g3 := g3) (m0 := m0) (ge := ge) (row := row) (g5 := g5) (g6 := g6) (g7 := g7) (g8 := g8) (wd := wd) hm hn hk (show i ≤ m by omega) (n + 1) 4096 0 T (by omega) (by omega) h3 (fun b hb => by omega)
    obtain ⟨T', k3⟩ := ih f (i + 1) T1 (by omega) (by omega) k1
    refine ⟨T', ?_⟩
    rw [f_Model_apart_9, if_neg (show ¬ (hz_nI m < hz_nI i) by rw [hz_nI_lt (by omega) (by omega)]; omega), hz_nI_lit]
    rw [k2, k3]
set_option maxRecDepth 100000 in
theorem hz_q_apart {g1 : Int32 × Int32} {g2 : hz_M2} {g3 : hz_M3} {m0 : Int32} {ge : Bool} {row : Nat → Int32} {g5 : hz_M5} {g6 : Int32 × Int32 × Bool} {g7 : hz_M7} {g8 wd T : Nat → Int32} {m n k : Nat} (hm : m ≤ 8) (hn : n ≤ 10) (hk : k + 10 < 559) (hr : row k = hz_nI n) :
    ∃ T', f_Model_apart (g1, g2, g3, (m0, ge, row), g5, g6, g7, g8, (hz_nI m, wd, T)) (hz_nI k) = some (hz_nI (hz_lev wd (fun q => row (k + 1 + q)) m n), (g1, g2, g3, (m0, ge, row), g5, g6, g7, g8, (hz_nI m, wd, T'))) := by
  obtain ⟨T', e⟩ := hz_q_apart_9 (g1 := g1) (g2 := g2) (g3 := g3) (m0 := m0) (ge := ge) (row := row) (g5 := g5) (g6 := g6) (g7 := g7) (g8 := g8) (wd := wd) hm hn hk (m + 1) 4096 0 T (by omega) (by omega) (fun a b ha => by omega)
  refine ⟨T', ?_⟩
  unfold f_Model_apart
  rw [if_pos (show inb (hz_nI k) 559 by rw [hz_nI_inb (by omega)]; omega), hz_nI_nat (by omega), hz_nI_lit]
  show f_Model_apart_9 4096 (g1, g2, g3, (m0, ge, row), g5, g6, g7, g8, (hz_nI m, wd, T)) (hz_nI k) (row k) (hz_nI 0) = _
  rw [hr]
  exact e
set_option maxRecDepth 100000 in
theorem hz_p_addL_17 {wd s sn sd : Nat → Int32} {cnt : Int32} {m i : Nat} (hm : m ≤ 8) (hi : i < 10) : ∀ c n j e, m + 1 = j + c → 1 ≤ j → c < n → (∀ q, q < j → e q = hz_nI (hz_lev wd s q (i + 1))) → (∀ q, j ≤ q → q ≤ m → e q = hz_nI (hz_lev wd s q i)) →
    ∃ e', (∀ q, q ≤ m → e' q = hz_nI (hz_lev wd s q (i + 1))) ∧ f_Speller_addLetter_17 n (wd, e, sn, sd, hz_nI m, cnt) (s i) (hz_nI (hz_lev wd s (j - 1) i)) (hz_nI j) = some (wd, e', sn, sd, hz_nI m, cnt) := by
  intro c
  induction c with
  | zero =>
    intro n j e h1 h2 h3 h4 h5
    obtain ⟨n, rfl⟩ : ∃ n', n = n' + 1 := ⟨n - 1, by omega⟩
    refine ⟨e, fun q hq => h4 q (by omega), ?_⟩
    rw [f_Speller_addLetter_17]
    simp (disch := omega) only [hz_nI_lit, hz_nI_add, hz_nI_mul, hz_nI_lt, hz_nI_le, hz_nI_inj, hz_nI_sub, hz_nI_nat, hz_nI_inb, hz_nI_pred, hz_nI_m1_lt, hz_nI_lt_m1, hz_nI_m1_le, hz_nI_le_m1, hz_nI_eq_m1, hz_nI_m1_eq, hz_bI0, if_pos, if_neg, if_true, if_false, Option.bind_some, Prod.eta, reduceCtorEq]
  | succ c ih =>
    intro n j e h1 h2 h3 h4 h5
    obtain ⟨n, rfl⟩ : ∃ n', n = n' + 1 := ⟨n - 1, by omega⟩
    obtain ⟨j', rfl⟩ : ∃ j', j = j' + 1 := ⟨j - 1, by omega⟩
    obtain ⟨e', k1, k2⟩ := ih n (j' + 1 + 1) (upd e (j' + 1) (hz_nI (hz_lev wd s (j' + 1) (i + 1)))) (by omega) (by omega) (by omega) (fun q hq => by
      by_cases hqj : q = j' + 1
      · subst hqj; exact hz_upd_eq _ _ _
      · rw [hz_upd_ne hqj]; exact h4 q (by omega)) (fun q hq1 hq2 => by rw [hz_upd_ne (by omega)]; exact h5 q (by omega) hq2)
    rw [Nat.add_sub_cancel] at k2
    refine ⟨e', k1, ?_⟩
    rw [← k2, f_Speller_addLetter_17]
    unfold f_Speller_addLetter_55
    have e1 := h4 j' (by omega)
    have e2 := h5 (j' + 1) (by omega) (by omega)
    have b1 := hz_lev_bd wd s j' (i + 1)
    have b2 := hz_lev_bd wd s (j' + 1) i
    have b3 := hz_lev_bd wd s j' i
    rw [Nat.add_sub_cancel, hz_lev_s]
    generalize hz_lev wd s j' (i + 1) = x1 at *
    generalize hz_lev wd s (j' + 1) i = x2 at *
    generalize hz_lev wd s j' i = x3 at *
    have l1 := hz_i_min (a := x2) (b := x1) (by omega) (by omega)
    have l2 := hz_i_min (a := 1 + min x2 x1) (b := x3 + 0) (by omega) (by omega)
    have l3 := hz_i_min (a := 1 + min x2 x1) (b := x3 + 1) (by omega) (by omega)
    by_cases cw : wd j' = s i
    · rw [if_pos cw]
      have q : min (1 + min x2 x1) (x3 + 0) = min (x3 + 0) (min x1 x2 + 1) := by omega
      rw [q] at l2
      simp (disch := omega) only [hz_nI_lit, hz_nI_lt (show m < 2147483648 by omega) (show j' + 1 < 2147483648 by omega), show ¬ (m < j' + 1) by omega, hz_nI_le (show 9 < 2147483648 by omega) (show j' + 1 < 2147483648 by omega), show ¬ (9 ≤ j' + 1) by omega, hz_nI_sub, Nat.add_sub_cancel, hz_nI_inb, if_pos, hz_nI_nat, cw, if_true, if_false, e1, e2, l1, hz_nI_add, hz_bI_f, l2]
    · rw [if_neg cw]
      have q : min (1 + min x2 x1) (x3 + 1) = min (x3 + 1) (min x1 x2 + 1) := by omega
      rw [q] at l3
      simp (disch := omega) only [hz_nI_lit, hz_nI_lt (show m < 2147483648 by omega) (show j' + 1 < 2147483648 by omega), show ¬ (m < j' + 1) by omega, hz_nI_le (show 9 < 2147483648 by omega) (show j' + 1 < 2147483648 by omega), show ¬ (9 ≤ j' + 1) by omega, hz_nI_sub, Nat.add_sub_cancel, hz_nI_inb, if_pos, hz_nI_nat, cw, if_true, if_false, e1, e2, l1, hz_nI_add, hz_bI_t, l3]
