set_option maxRecDepth 100000 in
def hz_fndT (f : Nat → Int32) (x : Int32) : Nat → Nat → Option Nat
  | 0, k => none
  | n + 1, k => if f k = x then some k else hz_fndT f x n (k + 1)
set_option maxRecDepth 100000 in
theorem hz_fndT_congr {f g : Nat → Int32} {x : Int32} : ∀ n k, (∀ i, k ≤ i → i < k + n → f i = g i) → hz_fndT f x n k = hz_fndT g x n k
  | 0, k, h => rfl
  | n + 1, k, h => by
    unfold hz_fndT
    rw [h k (by omega) (by omega), hz_fndT_congr n (k + 1) (fun i h1 h2 => h i (by omega) (by omega))]
set_option maxRecDepth 100000 in
theorem hz_fndT_none {f : Nat → Int32} {x : Int32} : ∀ n k, hz_fndT f x n k = none → ∀ i, k ≤ i → i < k + n → f i ≠ x
  | 0, k, h, i, h1, h2 => by omega
  | n + 1, k, h, i, h1, h2 => by
    unfold hz_fndT at h
    by_cases c : f k = x
    · rw [if_pos c] at h; exact absurd h (by simp)
    · rw [if_neg c] at h
      by_cases hi : i = k
      · subst hi; exact c
      · exact hz_fndT_none n (k + 1) h i (by omega) (by omega)
set_option maxRecDepth 100000 in
theorem hz_fndT_some {f : Nat → Int32} {x : Int32} : ∀ n k q, hz_fndT f x n k = some q → k ≤ q ∧ q < k + n ∧ f q = x
  | 0, k, q, h => by simp [hz_fndT] at h
  | n + 1, k, q, h => by
    unfold hz_fndT at h
    by_cases c : f k = x
    · rw [if_pos c] at h; cases h; exact ⟨Nat.le_refl _, by omega, c⟩
    · rw [if_neg c] at h
      have := hz_fndT_some n (k + 1) q h
      exact ⟨by omega, by omega, this.2.2⟩
set_option maxRecDepth 100000 in
def hz_ixI (o : Option Nat) (d : Nat) : Int32 := match o with
  | some q => hz_nI (q + d)
  | none => -hz_nI 1
set_option maxRecDepth 100000 in
theorem hz_p_rowOf_2 {t1 t2 t3 t4 : Nat → Int32} {M : Nat} {t6 : Bool} {x : Int32} (hM : M ≤ 12) : ∀ j n k, k + j = M → j < n → f_Table_rowOf_2 n (t1, t2, t3, t4, hz_nI M, t6) x (hz_nI (k + 1)) = some (hz_ixI (hz_fndT (fun k => t1 (k + 1)) x j k) 1)
  | 0, n + 1, k, h1, h2 => by
    rw [f_Table_rowOf_2]
    simp only [hz_fndT, hz_ixI]
    simp (disch := omega) only [hz_nI_lit, hz_nI_add, hz_nI_mul, hz_nI_lt, hz_nI_le, hz_nI_inj, hz_nI_sub, hz_nI_nat, hz_nI_inb, hz_nI_pred, hz_nI_m1_lt, hz_nI_lt_m1, hz_nI_m1_le, hz_nI_le_m1, hz_nI_eq_m1, hz_nI_m1_eq, hz_bI0, if_pos, if_neg, if_true, if_false, Option.bind_some, Prod.eta, reduceCtorEq]
  | j + 1, n + 1, k, h1, h2 => by
    have ih := hz_p_rowOf_2 (t1 := t1) (t2 := t2) (t3 := t3) (t4 := t4) (t6 := t6) (x := x) hM j n (k + 1) (by omega) (by omega)
    rw [f_Table_rowOf_2]
    unfold hz_fndT
    by_cases c : t1 (k + 1) = x
    · rw [if_pos c]
      simp only [hz_ixI]
      simp (disch := omega) only [hz_nI_lit, hz_nI_add, hz_nI_mul, hz_nI_lt, hz_nI_le, hz_nI_inj, hz_nI_sub, hz_nI_nat, hz_nI_inb, hz_nI_pred, hz_nI_m1_lt, hz_nI_lt_m1, hz_nI_m1_le, hz_nI_le_m1, hz_nI_eq_m1, hz_nI_m1_eq, hz_bI0, if_pos, if_neg, if_true, if_false, Option.bind_some, Prod.eta, reduceCtorEq, c]
    · rw [if_neg c, ← ih]
      simp (disch := omega) only [hz_nI_lit, hz_nI_add, hz_nI_mul, hz_nI_lt, hz_nI_le, hz_nI_inj, hz_nI_sub, hz_nI_nat, hz_nI_inb, hz_nI_pred, hz_nI_m1_lt, hz_nI_lt_m1, hz_nI_m1_le, hz_nI_le_m1, hz_nI_eq_m1, hz_nI_m1_eq, hz_bI0, if_pos, if_neg, if_true, if_false, Option.bind_some, Prod.eta, reduceCtorEq, c]
set_option maxRecDepth 100000 in
theorem hz_p_rowOf {t1 t2 t3 t4 : Nat → Int32} {M : Nat} {t6 : Bool} {x : Int32} (hM : M ≤ 12) : f_Table_rowOf (t1, t2, t3, t4, hz_nI M, t6) x = some (hz_ixI (hz_fndT (fun k => t1 (k + 1)) x M 0) 1) := by
  unfold f_Table_rowOf
  exact hz_p_rowOf_2 hM M 4096 0 (by omega) (by omega)
set_option maxRecDepth 100000 in
theorem hz_q_39W {g1 : Int32 × Int32} {l a : Int32} {p M : Nat} {y1 y2 : Int32} (hp : p ≤ 400) (hM : M ≤ 12) {tp : Nat → Int32} {ng : Bool} {fr : Nat → Int32} {r : hz_MR} : ∀ j n k, k + j = M → j < n → f_Model_materialRow_39 n (g1, (l, tp, a, hz_nI p), (hz_nI M, ng, fr), r) y1 y2 (hz_nI k) = some (g1, (l, tp, a, hz_nI p), (hz_nI M, ng, fr), r)
  | 0, n + 1, k, h1, h2 => by
    rw [f_Model_materialRow_39]
    simp (disch := omega) only [hz_nI_lit, hz_nI_add, hz_nI_mul, hz_nI_lt, hz_nI_le, hz_nI_inj, hz_nI_sub, hz_nI_nat, hz_nI_inb, hz_nI_pred, hz_nI_m1_lt, hz_nI_lt_m1, hz_nI_m1_le, hz_nI_le_m1, hz_nI_eq_m1, hz_nI_m1_eq, hz_bI0, if_pos, if_neg, if_true, if_false, Option.bind_some, Prod.eta, reduceCtorEq]
  | j + 1, n + 1, k, h1, h2 => by
    have ih := hz_q_39W (g1 := g1) (l := l) (a := a) (y1 := y1) (y2 := y2) hp hM (tp := tp) (ng := ng) (fr := fr) (r := r) j n (k + 1) (by omega) (by omega)
    rw [f_Model_materialRow_39]
    by_cases c : fr (k * 43 + 0) = y2
    · simp (disch := omega) only [hz_nI_lit, hz_nI_add, hz_nI_mul, hz_nI_lt, hz_nI_le, hz_nI_inj, hz_nI_sub, hz_nI_nat, hz_nI_inb, hz_nI_pred, hz_nI_m1_lt, hz_nI_lt_m1, hz_nI_m1_le, hz_nI_le_m1, hz_nI_eq_m1, hz_nI_m1_eq, hz_bI0, if_pos, if_neg, if_true, if_false, Option.bind_some, Prod.eta, reduceCtorEq, c, hz_q_failW hp]
      exact ih
    · simp (disch := omega) only [hz_nI_lit, hz_nI_add, hz_nI_mul, hz_nI_lt, hz_nI_le, hz_nI_inj, hz_nI_sub, hz_nI_nat, hz_nI_inb, hz_nI_pred, hz_nI_m1_lt, hz_nI_lt_m1, hz_nI_m1_le, hz_nI_le_m1, hz_nI_eq_m1, hz_nI_m1_eq, hz_bI0, if_pos, if_neg, if_true, if_false, Option.bind_some, Prod.eta, reduceCtorEq, c, hz_q_failW hp]
      exact ih
set_option maxRecDepth 100000 in
theorem hz_q_39 {g1 : Int32 × Int32} {tp : Nat → Int32} {L a M m : Nat} {y2 : Int32} (hm : m ≤ 516) (hL : L ≤ 400) (ha : a ≤ L) (ha1 : 1 ≤ a) (hM : M ≤ 12) {ng : Bool} {fr : Nat → Int32} {r : hz_MR} : ∀ j n k, k + j = M → j < n →
    (hz_fndT (fun k => fr (k * 43)) y2 j k ≠ none → f_Model_materialRow_39 n (g1, (hz_nI L, tp, hz_nI a, -hz_nI 1), (hz_nI M, ng, fr), r) (hz_nI m) y2 (hz_nI k) = some (g1, (hz_nI L, tp, hz_nI a, hz_nI (a - 1)), (hz_nI M, ng, fr), r)) ∧
    (hz_fndT (fun k => fr (k * 43)) y2 j k = none → f_Model_materialRow_39 n (g1, (hz_nI L, tp, hz_nI a, -hz_nI 1), (hz_nI M, ng, fr), r) (hz_nI m) y2 (hz_nI k) = Option.bind (f_Model_name (g1, (hz_nI L, tp, hz_nI a, -hz_nI 1), (hz_nI M, ng, upd (upd fr m y2) (m + 9) (hz_nI 0)), r) (hz_nI m)) fun u8 => f_Model_materialRow_110 4096 u8 (hz_nI m))
  | 0, n + 1, k, h1, h2 => by
    refine ⟨fun h => absurd rfl h, fun _ => ?_⟩
    rw [f_Model_materialRow_39]
    simp (disch := omega) only [hz_nI_lit, hz_nI_add, hz_nI_mul, hz_nI_lt, hz_nI_le, hz_nI_inj, hz_nI_sub, hz_nI_nat, hz_nI_inb, hz_nI_pred, hz_nI_m1_lt, hz_nI_lt_m1, hz_nI_m1_le, hz_nI_le_m1, hz_nI_eq_m1, hz_nI_m1_eq, hz_bI0, if_pos, if_neg, if_true, if_false, Option.bind_some, Prod.eta, reduceCtorEq, Nat.add_zero]
  | j + 1, n + 1, k, h1, h2 => by
    have ih := hz_q_39 (g1 := g1) (tp := tp) (m := m) (y2 := y2) hm hL ha ha1 hM (ng := ng) (fr := fr) (r := r) j n (k + 1) (by omega) (by omega)
    rw [f_Model_materialRow_39]
    unfold hz_fndT
    by_cases c : fr (k * 43) = y2
    · refine ⟨fun _ => ?_, fun h => by simp only [c, if_true] at h; exact absurd h (by simp)⟩
      have e := hz_q_39W (g1 := g1) (l := hz_nI L) (a := hz_nI a) (p := a - 1) (y1 := hz_nI m) (y2 := y2) (by omega) hM (tp := tp) (ng := ng) (fr := fr) (r := r) j n (k + 1) (by omega) (by omega)
      simp (disch := omega) only [hz_nI_lit, hz_nI_add, hz_nI_mul, hz_nI_lt, hz_nI_le, hz_nI_inj, hz_nI_sub, hz_nI_nat, hz_nI_inb, hz_nI_pred, hz_nI_m1_lt, hz_nI_lt_m1, hz_nI_m1_le, hz_nI_le_m1, hz_nI_eq_m1, hz_nI_m1_eq, hz_bI0, if_pos, if_neg, if_true, if_false, Option.bind_some, Prod.eta, reduceCtorEq, Nat.add_zero, c, hz_q_fail]
      exact e
    · simp only [c, if_false]
      simp (disch := omega) only [hz_nI_lit, hz_nI_add, hz_nI_mul, hz_nI_lt, hz_nI_le, hz_nI_inj, hz_nI_sub, hz_nI_nat, hz_nI_inb, hz_nI_pred, hz_nI_m1_lt, hz_nI_lt_m1, hz_nI_m1_le, hz_nI_le_m1, hz_nI_eq_m1, hz_nI_m1_eq, hz_bI0, if_pos, if_neg, if_true, if_false, Option.bind_some, Prod.eta, reduceCtorEq, Nat.add_zero, c]
      exact ih
set_option maxRecDepth 100000 in
def hz_cellsR (t2 fr : Nat → Int32) (c m : Nat) : Prop := (∀ j, j < 9 → t2 (c * 9 + j) = fr (m + 1 + j)) ∧ (∀ j, j < 4 → ∃ d, d ≤ 9999 ∧ fr (m + 4 + j) = hz_nI d)
set_option maxRecDepth 100000 in
def hz_matR (t1 t2 t3 t4 fr : Nat → Int32) (c m : Nat) : Prop := (∃ v, 1 ≤ v ∧ v ≤ 9999 ∧ t1 c = hz_nI v ∧ fr m = hz_nI v) ∧ hz_cellsR t2 fr c m ∧ (∃ many, 1 ≤ many ∧ many ≤ 3 ∧ fr (m + 9) = hz_nI many ∧ ∀ n, n < many → hz_nameR t3 t4 fr c m n)
set_option maxRecDepth 100000 in
def hz_tabR (t1 t2 t3 t4 fr : Nat → Int32) (M : Nat) (gen : Bool) : Prop := (∀ k, k < M → hz_matR t1 t2 t3 t4 fr (k + 1) (k * 43)) ∧ (∀ i j, i < j → j < M → fr (i * 43) ≠ fr (j * 43)) ∧ (gen = true → hz_cellsR t2 fr 0 516)
set_option maxRecDepth 100000 in
def hz_zerR (t2 : Nat → Int32) (M : Nat) : Prop := (∀ c, M < c → c ≤ 12 → t2 (c * 9 + 7) = hz_nI 0) ∧ t2 0 = hz_nI 0 ∧ t2 7 = hz_nI 0 ∧ t2 8 = hz_nI 0
set_option maxRecDepth 100000 in
theorem hz_cellsR_keep {t2 fr t2' fr' : Nat → Int32} {c m : Nat} (h : hz_cellsR t2 fr c m) (h2 : ∀ q, c * 9 ≤ q → q < c * 9 + 9 → t2' q = t2 q) (hf : ∀ q, m ≤ q → q < m + 43 → fr' q = fr q) : hz_cellsR t2' fr' c m :=
  ⟨fun j hj => by rw [h2 _ (by omega) (by omega), hf _ (by omega) (by omega), h.1 j hj], fun j hj => by
    obtain ⟨d, h3, h4⟩ := h.2 j hj
    exact ⟨d, h3, by rw [hf _ (by omega) (by omega), h4]⟩⟩
set_option maxRecDepth 100000 in
theorem hz_matR_keep {t1 t2 t3 t4 fr t1' t2' t3' t4' fr' : Nat → Int32} {c m : Nat} (h : hz_matR t1 t2 t3 t4 fr c m) (h1 : t1' c = t1 c) (h2 : ∀ q, c * 9 ≤ q → q < c * 9 + 9 → t2' q = t2 q) (h3 : ∀ q, c * 3 ≤ q → q < c * 3 + 3 → t3' q = t3 q) (h4 : ∀ q, c * 30 ≤ q → q < c * 30 + 30 → t4' q = t4 q) (hf : ∀ q, m ≤ q → q < m + 43 → fr' q = fr q) : hz_matR t1' t2' t3' t4' fr' c m := by
  obtain ⟨⟨v, v1, v2, v3, v4⟩, hc, many, m1, m2, m3, m4⟩ := h
  refine ⟨⟨v, v1, v2, h1.trans v3, (hf m (by omega) (by omega)).trans v4⟩, hz_cellsR_keep hc h2 hf, many, m1, m2, (hf _ (by omega) (by omega)).trans m3, fun n hn => ?_⟩
  exact hz_nameR_keep (m4 n hn) (h3 _ (by omega) (by omega)) (fun i hi => h4 _ (by omega) (by omega)) (fun i hi => hf _ (by omega) (by omega))
