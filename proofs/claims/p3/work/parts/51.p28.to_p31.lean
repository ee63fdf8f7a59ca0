set_option maxRecDepth 100000 in
def hz_shT (f : Nat → Int32) (p K : Nat) : Nat → Int32 := fun q => if p < q ∧ q ≤ K then f (q - 1) else f q
set_option maxRecDepth 100000 in
theorem hz_shT_K (f : Nat → Int32) (K : Nat) : hz_shT f K K = f := by
  funext q; unfold hz_shT; rw [if_neg (by omega)]
set_option maxRecDepth 100000 in
theorem hz_shT_step (f : Nat → Int32) {p K : Nat} (h : p + 1 ≤ K) : upd (hz_shT f (p + 1) K) (p + 1) (f p) = hz_shT f p K := by
  funext q; unfold upd hz_shT
  by_cases h1 : q = p + 1
  · subst h1; rw [if_pos rfl, if_pos (by omega), Nat.add_sub_cancel]
  · rw [if_neg h1]
    by_cases h2 : p + 1 < q ∧ q ≤ K
    · rw [if_pos h2, if_pos (by omega)]
    · rw [if_neg h2, if_neg (by omega)]
set_option maxRecDepth 100000 in
theorem hz_shT_lo {f : Nat → Int32} {p K q : Nat} (h : q ≤ p) : hz_shT f p K q = f q := by unfold hz_shT; rw [if_neg (by omega)]
set_option maxRecDepth 100000 in
theorem hz_shT_hi {f : Nat → Int32} {p K q : Nat} (h : p ≤ q) (h2 : q < K) : hz_shT f p K (q + 1) = f q := by unfold hz_shT; rw [if_pos (by omega), Nat.add_sub_cancel]
set_option maxRecDepth 100000 in
def hz_insP (beh : Nat → Bool) : Nat → Nat
  | 0 => 0
  | p + 1 => if beh p = true then hz_insP beh p else p + 1
set_option maxRecDepth 100000 in
theorem hz_insP_bd (beh : Nat → Bool) : ∀ K, hz_insP beh K ≤ K ∧ (∀ q, hz_insP beh K ≤ q → q < K → beh q = true) ∧ (hz_insP beh K = 0 ∨ beh (hz_insP beh K - 1) = false)
  | 0 => ⟨Nat.le_refl _, fun q h1 h2 => by omega, Or.inl rfl⟩
  | K + 1 => by
    have ih := hz_insP_bd beh K
    unfold hz_insP
    cases h : beh K
    · simp only [Bool.false_eq_true, if_false]
      exact ⟨Nat.le_refl _, fun q h1 h2 => by omega, Or.inr (by rw [Nat.add_sub_cancel]; exact h)⟩
    · simp only [if_true]
      refine ⟨by omega, fun q h1 h2 => ?_, ih.2.2⟩
      by_cases hq : q = K
      · subst hq; exact h
      · exact ih.2.1 q h1 (by omega)
set_option maxRecDepth 100000 in
def hz_behE (n1 d1 n2 d2 : Nat) : Bool := decide (d2 < d1 ∨ (d1 = d2 ∧ n2 < n1))
set_option maxRecDepth 100000 in
theorem hz_p_isBehind {wd e sn sd : Nat → Int32} {lt cnt : Int32} {i n1 d1 n2 d2 : Nat} (hi : i < 12) (h1 : sn i = hz_nI n1) (h2 : sd i = hz_nI d1) (b1 : n1 < 10000) (b2 : d1 < 100) (b3 : n2 < 10000) (b4 : d2 < 100) : f_Speller_isBehind (wd, e, sn, sd, lt, cnt) (hz_nI i) (hz_nI n2) (hz_nI d2) = some (hz_behE n1 d1 n2 d2) := by
  by_cases c1 : d2 < d1
  · have hb : hz_behE n1 d1 n2 d2 = true := decide_eq_true (Or.inl c1)
    rw [hb]
    unfold f_Speller_isBehind
    simp (disch := omega) only [hz_nI_lit, hz_nI_add, hz_nI_mul, hz_nI_lt, hz_nI_le, hz_nI_inj, hz_nI_sub, hz_nI_nat, hz_nI_inb, hz_nI_pred, hz_nI_m1_lt, hz_nI_lt_m1, hz_nI_m1_le, hz_nI_le_m1, hz_nI_eq_m1, hz_nI_m1_eq, hz_bI0, if_pos, if_neg, if_true, if_false, Option.bind_some, Prod.eta, reduceCtorEq, h1, h2]
  · by_cases c2 : d1 = d2
    · by_cases c3 : n1 ≤ n2
      · have hb : hz_behE n1 d1 n2 d2 = false := decide_eq_false (by omega)
        rw [hb]
        unfold f_Speller_isBehind
        simp (disch := omega) only [hz_nI_lit, hz_nI_add, hz_nI_mul, hz_nI_lt, hz_nI_le, hz_nI_inj, hz_nI_sub, hz_nI_nat, hz_nI_inb, hz_nI_pred, hz_nI_m1_lt, hz_nI_lt_m1, hz_nI_m1_le, hz_nI_le_m1, hz_nI_eq_m1, hz_nI_m1_eq, hz_bI0, if_pos, if_neg, if_true, if_false, Option.bind_some, Prod.eta, reduceCtorEq, h1, h2]
      · have hb : hz_behE n1 d1 n2 d2 = true := decide_eq_true (by omega)
        rw [hb]
        unfold f_Speller_isBehind
        simp (disch := omega) only [hz_nI_lit, hz_nI_add, hz_nI_mul, hz_nI_lt, hz_nI_le, hz_nI_inj, hz_nI_sub, hz_nI_nat, hz_nI_inb, hz_nI_pred, hz_nI_m1_lt, hz_nI_lt_m1, hz_nI_m1_le, hz_nI_le_m1, hz_nI_eq_m1, hz_nI_m1_eq, hz_bI0, if_pos, if_neg, if_true, if_false, Option.bind_some, Prod.eta, reduceCtorEq, h1, h2]
    · have hb : hz_behE n1 d1 n2 d2 = false := decide_eq_false (by omega)
      rw [hb]
      unfold f_Speller_isBehind
      simp (disch := omega) only [hz_nI_lit, hz_nI_add, hz_nI_mul, hz_nI_lt, hz_nI_le, hz_nI_inj, hz_nI_sub, hz_nI_nat, hz_nI_inb, hz_nI_pred, hz_nI_m1_lt, hz_nI_lt_m1, hz_nI_m1_le, hz_nI_le_m1, hz_nI_eq_m1, hz_nI_m1_eq, hz_bI0, if_pos, if_neg, if_true, if_false, Option.bind_some, Prod.eta, reduceCtorEq, h1, h2]
set_option maxRecDepth 100000 in
theorem hz_p_insert_18 {wd e sn sd : Nat → Int32} {lt : Int32} {K n2 d2 : Nat} {nu di : Nat → Nat} (hK : K < 12) (hsn : ∀ i, i < K → sn i = hz_nI (nu i) ∧ nu i < 10000) (hsd : ∀ i, i < K → sd i = hz_nI (di i) ∧ di i < 100) (b3 : n2 < 10000) (b4 : d2 < 100) : ∀ p f, p ≤ K → p < f →
    f_Speller_insert_18 f (wd, e, hz_shT sn p K, hz_shT sd p K, lt, hz_nI K) (hz_nI n2) (hz_nI d2) (hz_nI p) = some (wd, e, upd (hz_shT sn (hz_insP (fun i => hz_behE (nu i) (di i) n2 d2) p) K) (hz_insP (fun i => hz_behE (nu i) (di i) n2 d2) p) (hz_nI n2), upd (hz_shT sd (hz_insP (fun i => hz_behE (nu i) (di i) n2 d2) p) K) (hz_insP (fun i => hz_behE (nu i) (di i) n2 d2) p) (hz_nI d2), lt, hz_nI (K + 1)) := by
  intro p
  have fin : ∀ p, p ≤ K → f_Speller_insert_68 (wd, e, hz_shT sn p K, hz_shT sd p K, lt, hz_nI K) (hz_nI n2) (hz_nI d2) (hz_nI p) = some (wd, e, upd (hz_shT sn p K) p (hz_nI n2), upd (hz_shT sd p K) p (hz_nI d2), lt, hz_nI (K + 1)) := by
    intro p hp
    unfold f_Speller_insert_68
    simp (disch := omega) only [hz_nI_lit, hz_nI_add, hz_nI_mul, hz_nI_lt, hz_nI_le, hz_nI_inj, hz_nI_sub, hz_nI_nat, hz_nI_inb, hz_nI_pred, hz_nI_m1_lt, hz_nI_lt_m1, hz_nI_m1_le, hz_nI_le_m1, hz_nI_eq_m1, hz_nI_m1_eq, hz_bI0, if_pos, if_neg, if_true, if_false, Option.bind_some, Prod.eta, reduceCtorEq]
  induction p with
  | zero =>
    intro f h1 h2
    obtain ⟨f, rfl⟩ : ∃ f', f = f' + 1 := ⟨f - 1, by omega⟩
    rw [f_Speller_insert_18, if_pos (show hz_nI 0 ≤ 0 by decide)]
    exact fin 0 h1
  | succ p ih =>
    intro f h1 h2
    obtain ⟨f, rfl⟩ : ∃ f', f = f' + 1 := ⟨f - 1, by omega⟩
    have hs := hsn p (by omega)
    have hd := hsd p (by omega)
    have s1 : hz_shT sn (p + 1) K p = hz_nI (nu p) := by rw [hz_shT_lo (by omega)]; exact hs.1
    have s2 : hz_shT sd (p + 1) K p = hz_nI (di p) := by rw [hz_shT_lo (by omega)]; exact hd.1
    have eB := hz_p_isBehind (wd := wd) (e := e) (lt := lt) (cnt := hz_nI K) (show p < 12 by omega) s1 s2 hs.2 hd.2 b3 b4
    rw [f_Speller_insert_18, if_neg (show ¬ (hz_nI (p + 1) ≤ 0) by rw [hz_nI_lit, hz_nI_le (by omega) (by omega)]; omega)]
    rw [show hz_nI (p + 1) - (1 : Int32) = hz_nI p by rw [hz_nI_lit, hz_nI_sub (by omega), Nat.add_sub_cancel], eB, Option.bind_some]
    unfold hz_insP
    cases hb : hz_behE (nu p) (di p) n2 d2
    · rw [if_pos (show bI false = 0 from rfl)]
      simp only [Bool.false_eq_true, if_false]
      exact fin (p + 1) h1
    · rw [if_neg (show ¬ (bI true = 0) by decide)]
      simp only [if_true]
      have e1 := ih f (by omega) (by omega)
      rw [← hz_shT_step sn (show p + 1 ≤ K from h1), ← hz_shT_step sd (show p + 1 ≤ K from h1)] at e1
      rw [← e1]
      simp (disch := omega) only [hz_nI_lit, hz_nI_add, hz_nI_mul, hz_nI_lt, hz_nI_le, hz_nI_inj, hz_nI_sub, hz_nI_nat, hz_nI_inb, hz_nI_pred, hz_nI_m1_lt, hz_nI_lt_m1, hz_nI_m1_le, hz_nI_le_m1, hz_nI_eq_m1, hz_nI_m1_eq, hz_bI0, if_pos, if_neg, if_true, if_false, Option.bind_some, Prod.eta, reduceCtorEq, Nat.add_sub_cancel, s1, s2, hs.1, hd.1]
set_option maxRecDepth 100000 in
def hz_srt (sn sd : Nat → Int32) (num nr : Nat → Nat) (π : Nat → Nat) (K : Nat) : Prop := (∀ i, i < K → sn i = hz_nI (num (π i)) ∧ sd i = hz_nI (nr (π i)) ∧ π i < K) ∧ (∀ i j, i < j → j < K → nr (π i) * 10000 + num (π i) < nr (π j) * 10000 + num (π j)) ∧ (∀ k, k < K → ∃ i, i < K ∧ π i = k)
set_option maxRecDepth 100000 in
theorem hz_p_insert {wd e sn sd : Nat → Int32} {lt : Int32} {K : Nat} {num nr π : Nat → Nat} (hK : K < 12) (hnum : ∀ k, k ≤ K → num k < 10000) (hnr : ∀ k, k ≤ K → nr k < 100) (hdis : ∀ k, k < K → num k ≠ num K) (hS : hz_srt sn sd num nr π K) :
    ∃ sn' sd' π', f_Speller_insert (wd, e, sn, sd, lt, hz_nI K) (hz_nI (num K)) (hz_nI (nr K)) = some (wd, e, sn', sd', lt, hz_nI (K + 1)) ∧ hz_srt sn' sd' num nr π' (K + 1) := by
  obtain ⟨h1, h2, h3⟩ := hS
  have e1 := hz_p_insert_18 (wd := wd) (e := e) (lt := lt) (n2 := num K) (d2 := nr K) (nu := fun i => num (π i)) (di := fun i => nr (π i)) hK (fun i hi => ⟨(h1 i hi).1, hnum _ (by have := (h1 i hi).2.2; omega)⟩) (fun i hi => ⟨(h1 i hi).2.1, hnr _ (by have := (h1 i hi).2.2; omega)⟩) (hnum K (Nat.le_refl _)) (hnr K (Nat.le_refl _)) K 4096 (Nat.le_refl _) (by omega)
  rw [hz_shT_K, hz_shT_K] at e1
  have hb := hz_insP_bd (fun i => hz_behE (num (π i)) (nr (π i)) (num K) (nr K)) K
  generalize hz_insP (fun i => hz_behE (num (π i)) (nr (π i)) (num K) (nr K)) K = p at *
  obtain ⟨b1, b2, b3⟩ := hb
  have key : ∀ i, i < K → (hz_behE (num (π i)) (nr (π i)) (num K) (nr K) = true ↔ nr K * 10000 + num K < nr (π i) * 10000 + num (π i)) := by
    intro i hi
    unfold hz_behE
    rw [decide_eq_true_eq]
    have q1 := hnum (π i) (by have := (h1 i hi).2.2; omega)
    have q2 := hnum K (Nat.le_refl _)
    omega
  have lo : ∀ i, i < p → nr (π i) * 10000 + num (π i) < nr K * 10000 + num K := by
    intro i hi
    have hp0 : p ≠ 0 := by omega
    have hf := b3.resolve_left hp0
    have hnb : ¬ (nr K * 10000 + num K < nr (π (p - 1)) * 10000 + num (π (p - 1))) := fun h => by
      have := (key (p - 1) (by omega)).mpr h
      rw [hf] at this
      exact absurd this (by decide)
    have hne : num (π (p - 1)) ≠ num K := hdis _ (h1 (p - 1) (by omega)).2.2
    have q1 := hnum (π (p - 1)) (by have := (h1 (p - 1) (by omega)).2.2; omega)
    have q2 := hnum K (Nat.le_refl _)
    have hlt : nr (π (p - 1)) * 10000 + num (π (p - 1)) < nr K * 10000 + num K := by omega
    by_cases hi2 : i = p - 1
    · subst hi2; exact hlt
    · have := h2 i (p - 1) (by omega) (by omega); omega
  have hi' : ∀ i, p ≤ i → i < K → nr K * 10000 + num K < nr (π i) * 10000 + num (π i) := fun i hi1 hi2 => (key i hi2).mp (b2 i hi1 hi2)
  refine ⟨upd (hz_shT sn p K) p (hz_nI (num K)), upd (hz_shT sd p K) p (hz_nI (nr K)), fun i => if i < p then π i else if i = p then K else π (i - 1), ?_, ?_, ?_, ?_⟩
  · unfold f_Speller_insert
    rw [if_pos (show hz_nI K < 12 by rw [hz_nI_lit, hz_nI_lt (by omega) (by omega)]; omega)]
    exact e1
  · intro i hi
    by_cases c1 : i < p
    · have := h1 i (by omega)
      simp only [c1, if_true]
      rw [hz_upd_ne (by omega), hz_upd_ne (by omega), hz_shT_lo (by omega), hz_shT_lo (by omega)]
      exact ⟨this.1, this.2.1, by omega⟩
    · by_cases c2 : i = p
      · subst c2
        simp only [Nat.lt_irrefl, if_false, if_true]
        exact ⟨hz_upd_eq _ _ _, hz_upd_eq _ _ _, by omega⟩
      · simp only [c1, c2, if_false]
        obtain ⟨q, rfl⟩ : ∃ q, i = q + 1 := ⟨i - 1, by omega⟩
        have := h1 q (by omega)
        rw [hz_upd_ne (by omega), hz_upd_ne (by omega), hz_shT_hi (by omega) (by omega), hz_shT_hi (by omega) (by omega), Nat.add_sub_cancel]
        exact ⟨this.1, this.2.1, by omega⟩
  · intro i j hij hj
    by_cases c1 : j < p
    · simp only [c1, show i < p by omega, if_true]
      exact h2 i j hij (by omega)
    · by_cases c2 : j = p
      · subst c2
        simp only [hij, Nat.lt_irrefl, if_true, if_false]
        exact lo i hij
      · simp only [c1, c2, if_false]
        by_cases c3 : i < p
        · simp only [c3, if_true]
          exact h2 i (j - 1) (by omega) (by omega)
        · by_cases c4 : i = p
          · subst c4
            simp only [Nat.lt_irrefl, if_false, if_true]
            exact hi' (j - 1) (by omega) (by omega)
          · simp only [c3, c4, if_false]
            exact h2 (i - 1) (j - 1) (by omega) (by omega)
  · intro k hk
    by_cases hkK : k = K
    · subst hkK
      exact ⟨p, by omega, by simp only [Nat.lt_irrefl, if_false, if_true]⟩
    · obtain ⟨i, i1, i2⟩ := h3 k (by omega)
      by_cases c1 : i < p
      · exact ⟨i, by omega, by simp only [c1, if_true]; exact i2⟩
      · refine ⟨i + 1, by omega, ?_⟩
        simp only [show ¬ (i + 1 < p) by omega, show ¬ (i + 1 = p) by omega, if_false, Nat.add_sub_cancel]
        exact i2
set_option maxRecDepth 100000 in
def hz_numN (row : Nat → Int32) (k : Nat) : Nat := (row (k * 43)).toNatClampNeg
set_option maxRecDepth 100000 in
theorem hz_num_of {t1 t2 t3 t4 row : Nat → Int32} {M k : Nat} {gen : Bool} (hT : hz_tabR t1 t2 t3 t4 row M gen) (hk : k < M) : t1 (k + 1) = hz_nI (hz_numN row k) ∧ row (k * 43) = hz_nI (hz_numN row k) ∧ 1 ≤ hz_numN row k ∧ hz_numN row k ≤ 9999 := by
  obtain ⟨⟨v, v1, v2, v3, v4⟩, _⟩ := hT.1 k hk
  have : hz_numN row k = v := by unfold hz_numN; rw [v4, hz_nI_nat (by omega)]
  rw [this]
  exact ⟨v3, v4, v1, v2⟩
set_option maxRecDepth 100000 in
theorem hz_num_ne {t1 t2 t3 t4 row : Nat → Int32} {M i j : Nat} {gen : Bool} (hT : hz_tabR t1 t2 t3 t4 row M gen) (hij : i < j) (hj : j < M) : hz_numN row i ≠ hz_numN row j := by
  intro h
  refine hT.2.1 i j hij hj ?_
  rw [(hz_num_of hT (show i < M by omega)).2.1, (hz_num_of hT hj).2.1, h]
set_option maxRecDepth 100000 in
theorem hz_p_rank_7 {wd t1 t2 t3 t4 row : Nat → Int32} {gen : Bool} {m M : Nat} (hm : m ≤ 8) (hM : M ≤ 12) (hT : hz_tabR t1 t2 t3 t4 row M gen) : ∀ j f k e sn sd π, M = k + j → j < f → hz_srt sn sd (hz_numN row) (hz_nrm row wd m) π k →
    ∃ e' sn' sd' π', f_Speller_rank_7 f (wd, e, sn, sd, hz_nI m, hz_nI k) (t1, t2, t3, t4, hz_nI M, gen) (hz_nI (k + 1)) = some (wd, e', sn', sd', hz_nI m, hz_nI M) ∧ hz_srt sn' sd' (hz_numN row) (hz_nrm row wd m) π' M := by
  intro j
  induction j with
  | zero =>
    intro f k e sn sd π h1 h2 h3
    obtain ⟨f, rfl⟩ : ∃ f', f = f' + 1 := ⟨f - 1, by omega⟩
    have : k = M := by omega
    subst this
    refine ⟨e, sn, sd, π, ?_, h3⟩
    rw [f_Speller_rank_7, if_pos (show hz_nI k < hz_nI (k + 1) by rw [hz_nI_lt (by omega) (by omega)]; omega)]
  | succ j ih =>
    intro f k e sn sd π h1 h2 h3
    obtain ⟨f, rfl⟩ : ∃ f', f = f' + 1 := ⟨f - 1, by omega⟩
    obtain ⟨e1, k1⟩ := hz_p_distanceTo (wd := wd) (sn := sn) (sd := sd) (e := e) (cnt := hz_nI k) (t5 := hz_nI M) (t6 := gen) hm hM (show k < M by omega) hT
    have hnr : ∀ q, hz_nrm row wd m q < 100 := fun q => by
      have := hz_mnT_bd (hz_nl row wd m q) (row (q * 43 + 9)).toNatClampNeg 0 99
      unfold hz_nrm; omega
    obtain ⟨sn1, sd1, π1, k2, k3⟩ := hz_p_insert (wd := wd) (e := e1) (lt := hz_nI m) (num := hz_numN row) (nr := hz_nrm row wd m) (show k < 12 by omega) (fun q hq => by have := (hz_num_of hT (show q < M by omega)).2.2.2; omega) (fun q _ => hnr q) (fun q hq => hz_num_ne hT hq (by omega)) h3
    obtain ⟨e', sn', sd', π', k4, k5⟩ := ih f (k + 1) e1 sn1 sd1 π1 (by omega) (by omega) k3
    refine ⟨e', sn', sd', π', ?_, k5⟩
    rw [f_Speller_rank_7, if_neg (show ¬ (hz_nI M < hz_nI (k + 1)) by rw [hz_nI_lt (by omega) (by omega)]; omega), if_neg (show ¬ ((13 : Int32) ≤ hz_nI (k + 1)) by rw [hz_nI_lit, hz_nI_le (by omega) (by omega)]; omega), if_pos (show inb (hz_nI (k + 1)) 13 by rw [hz_nI_inb (by omega)]; omega), k1, Option.bind_some, hz_nI_nat (by omega)]
    show Option.bind (f_Speller_insert (wd, e1, sn, sd, hz_nI m, hz_nI k) (t1 (k + 1)) (hz_nI (hz_nrm row wd m k))) _ = _
    rw [(hz_num_of hT (show k < M by omega)).1, k2, Option.bind_some, hz_nI_lit, hz_nI_add]
    exact k4
set_option maxRecDepth 100000 in
theorem hz_p_rank {wd e sn sd t1 t2 t3 t4 row : Nat → Int32} {cnt : Int32} {gen : Bool} {m M : Nat} (hm : m ≤ 8) (hM : M ≤ 12) (hT : hz_tabR t1 t2 t3 t4 row M gen) :
    ∃ e' sn' sd' π', f_Speller_rank (wd, e, sn, sd, hz_nI m, cnt) (t1, t2, t3, t4, hz_nI M, gen) = some (wd, e', sn', sd', hz_nI m, hz_nI M) ∧ hz_srt sn' sd' (hz_numN row) (hz_nrm row wd m) π' M := by
  obtain ⟨e', sn', sd', π', k1, k2⟩ := hz_p_rank_7 (wd := wd) hm hM hT M 4096 0 e sn sd (fun i => i) (by omega) (by omega) ⟨fun i hi => by omega, fun i j _ hj => by omega, fun k hk => by omega⟩
  exact ⟨e', sn', sd', π', k1, k2⟩
set_option maxRecDepth 100000 in
def hz_betB (key : Nat → Nat) (m : Nat) (o : Option Nat) : Bool := match o with
  | none => true
  | some q => decide (key m < key q)
set_option maxRecDepth 100000 in
def hz_folT (beh : Nat → Bool) (key : Nat → Nat) : Nat → Nat → Option Nat → Option Nat
  | 0, m, o => o
  | n + 1, m, o => hz_folT beh key n (m + 1) (if beh m = true ∧ hz_betB key m o = true then some m else o)
set_option maxRecDepth 100000 in
def hz_folP (beh : Nat → Bool) (key : Nat → Nat) (m : Nat) (o : Option Nat) : Prop := (o = none ∧ ∀ q, q < m → beh q = false) ∨ (∃ q, o = some q ∧ q < m ∧ beh q = true ∧ ∀ p, p < m → beh p = true → key q ≤ key p)
set_option maxRecDepth 100000 in
theorem hz_folT_P (beh : Nat → Bool) (key : Nat → Nat) : ∀ n m o, hz_folP beh key m o → hz_folP beh key (m + n) (hz_folT beh key n m o)
  | 0, m, o, h => h
  | n + 1, m, o, h => by
    have key1 : hz_folP beh key (m + 1) (if beh m = true ∧ hz_betB key m o = true then some m else o) := by
      rcases h with ⟨rfl, h2⟩ | ⟨q, rfl, h2, h3, h4⟩
      · cases hb : beh m
        · rw [if_neg (fun h => absurd h.1 (by decide))]
          refine Or.inl ⟨rfl, fun q hq => ?_⟩
          by_cases hqm : q = m
          · subst hqm; exact hb
          · exact h2 q (by omega)
        · rw [if_pos ⟨rfl, rfl⟩]
          refine Or.inr ⟨m, rfl, by omega, hb, fun p hp hbp => ?_⟩
          by_cases hpm : p = m
          · subst hpm; exact Nat.le_refl _
          · rw [h2 p (by omega)] at hbp; exact absurd hbp (by decide)
      · cases hb : beh m
        · rw [if_neg (fun h => absurd h.1 (by decide))]
          refine Or.inr ⟨q, rfl, by omega, h3, fun p hp hbp => ?_⟩
          by_cases hpm : p = m
          · subst hpm; rw [hb] at hbp; exact absurd hbp (by decide)
          · exact h4 p (by omega) hbp
        · by_cases hk : key m < key q
          · rw [if_pos ⟨rfl, decide_eq_true hk⟩]
            refine Or.inr ⟨m, rfl, by omega, hb, fun p hp hbp => ?_⟩
            by_cases hpm : p = m
            · subst hpm; exact Nat.le_refl _
            · have := h4 p (by omega) hbp; omega
          · rw [if_neg (fun h => hk (of_decide_eq_true h.2))]
            refine Or.inr ⟨q, rfl, by omega, h3, fun p hp hbp => ?_⟩
            by_cases hpm : p = m
            · subst hpm; omega
            · exact h4 p (by omega) hbp
    have ih := hz_folT_P beh key n (m + 1) _ key1
    rw [show m + 1 + n = m + (n + 1) by omega] at ih
    exact ih
set_option maxRecDepth 100000 in
def hz_keyN (row wd : Nat → Int32) (m k : Nat) : Nat := hz_nrm row wd m k * 10000 + hz_numN row k
set_option maxRecDepth 100000 in
def hz_behL (key : Nat → Nat) (last : Option Nat) (k : Nat) : Bool := match last with
  | none => true
  | some l => decide (key l < key k)
set_option maxRecDepth 100000 in
theorem hz_q_fol_4 {g1 : Int32 × Int32} {g2 : hz_M2} {g3 : hz_M3} {row : Nat → Int32} {g5 : hz_M5} {g6 : Int32 × Int32 × Bool} {g7 : hz_M7} {g8 wd t1 t2 t3 t4 : Nat → Int32} {m M : Nat} {gen : Bool} {last : Option Nat} (hm : m ≤ 8) (hM : M ≤ 12) (hT : hz_tabR t1 t2 t3 t4 row M gen) (hl : ∀ l, last = some l → l < M) : ∀ j f k o T, M = k + j → j < f → (∀ q, o = some q → q < M) →
    ∃ T', f_Model_following_4 f (g1, g2, g3, (hz_nI M, gen, row), g5, g6, g7, g8, (hz_nI m, wd, T)) (hz_ixI last 0) (hz_ixI o 0) (hz_nI k) = some (hz_ixI (hz_folT (hz_behL (hz_keyN row wd m) last) (hz_keyN row wd m) j k o) 0, (g1, g2, g3, (hz_nI M, gen, row), g5, g6, g7, g8, (hz_nI m, wd, T'))) := by
  intro j
  have hnr : ∀ q, hz_nrm row wd m q ≤ 99 := fun q => hz_mnT_bd (hz_nl row wd m q) (row (q * 43 + 9)).toNatClampNeg 0 99
  induction j with
  | zero =>
    intro f k o T h1 h2 h3
    obtain ⟨f, rfl⟩ : ∃ f', f = f' + 1 := ⟨f - 1, by omega⟩
    refine ⟨T, ?_⟩
    rw [f_Model_following_4, if_pos (show hz_nI M ≤ hz_nI k by rw [hz_nI_le (by omega) (by omega)]; omega)]
    rfl
  | succ j ih =>
    intro f k o T h1 h2 h3
    obtain ⟨f, rfl⟩ : ∃ f', f = f' + 1 := ⟨f - 1, by omega⟩
    have kq : ∀ q, q < M → hz_nI (hz_nrm row wd m q) * (10000 : Int32) + row (q * 43) = hz_nI (hz_keyN row wd m q) ∧ hz_keyN row wd m q < 2000000 := by
      intro q hq
      have := hz_num_of hT hq
      have := hnr q
      rw [(hz_num_of hT hq).2.1, hz_nI_lit, hz_nI_mul, hz_nI_add]
      unfold hz_keyN
      exact ⟨rfl, by omega⟩
    have kk := kq k (by omega)
    obtain ⟨T1, e1⟩ := hz_q_nearest (g1 := g1) (g2 := g2) (g3 := g3) (m0 := hz_nI M) (ge := gen) (g5 := g5) (g6 := g6) (g7 := g7) (g8 := g8) (wd := wd) (T := T) hm hM (show k < M by omega) hT
    have step66 : ∀ (b : Bool) (T2 : Nat → Int32), ∃ T', f_Model_following_66 (f_Model_following_4 f) (g1, g2, g3, (hz_nI M, gen, row), g5, g6, g7, g8, (hz_nI m, wd, T2)) (hz_ixI last 0) (hz_ixI o 0) (hz_nI k) (hz_nI (hz_keyN row wd m k)) b = some (hz_ixI (hz_folT (hz_behL (hz_keyN row wd m) last) (hz_keyN row wd m) j (k + 1) (if b = true ∧ hz_betB (hz_keyN row wd m) k o = true then some k else o)) 0, (g1, g2, g3, (hz_nI M, gen, row), g5, g6, g7, g8, (hz_nI m, wd, T'))) := by
      intro b T2
      unfold f_Model_following_66
      cases b with
      | false =>
        obtain ⟨T', e⟩ := ih f (k + 1) o T2 (by omega) (by omega) h3
        refine ⟨T', ?_⟩
        rw [if_pos (show bI false = 0 from rfl), if_neg (fun h => absurd h.1 (by decide)), hz_nI_lit, hz_nI_add]
        exact e
      | true =>
        rw [if_neg (show ¬ (bI true = 0) by decide)]
        cases o with
        | none =>
          obtain ⟨T', e⟩ := ih f (k + 1) (some k) T2 (by omega) (by omega) (fun q hq => by cases hq; omega)
          refine ⟨T', ?_⟩
          rw [if_pos (show hz_ixI none 0 < 0 by decide), if_pos ⟨rfl, rfl⟩, hz_nI_lit, hz_nI_add]
          exact e
        | some q =>
          have hq := h3 q rfl
          have kkq := kq q hq
          obtain ⟨T3, e3⟩ := hz_q_nearest (g1 := g1) (g2 := g2) (g3 := g3) (m0 := hz_nI M) (ge := gen) (g5 := g5) (g6 := g6) (g7 := g7) (g8 := g8) (wd := wd) (T := T2) hm hM hq hT
          have hiq : hz_ixI (some q) 0 = hz_nI q := rfl
          rw [hiq, if_neg (show ¬ (hz_nI q < 0) by rw [hz_nI_lit, hz_nI_lt (by omega) (by omega)]; omega), e3, Option.bind_some, if_pos (show inb (hz_nI q * 43) 559 by rw [hz_nI_lit, hz_nI_mul, hz_nI_inb (by omega)]; omega), show hz_nI q * (43 : Int32) = hz_nI (q * 43) by rw [hz_nI_lit, hz_nI_mul], hz_nI_nat (by omega)]
          show ∃ T', (if hz_nI (hz_nrm row wd m q) * (10000 : Int32) + row (q * 43) ≤ hz_nI (hz_keyN row wd m k) then f_Model_following_4 f (g1, g2, g3, (hz_nI M, gen, row), g5, g6, g7, g8, (hz_nI m, wd, T3)) (hz_ixI last 0) (hz_nI q) (hz_nI k + 1) else f_Model_following_4 f (g1, g2, g3, (hz_nI M, gen, row), g5, g6, g7, g8, (hz_nI m, wd, T3)) (hz_ixI last 0) (hz_nI k) (hz_nI k + 1)) = _
          rw [kkq.1]
          by_cases hc : hz_keyN row wd m k < hz_keyN row wd m q
          · obtain ⟨T', e⟩ := ih f (k + 1) (some k) T3 (by omega) (by omega) (fun q hq => by cases hq; omega)
            refine ⟨T', ?_⟩
            rw [if_neg (by rw [hz_nI_le (by omega) (by omega)]; omega), if_pos ⟨rfl, decide_eq_true hc⟩, hz_nI_lit, hz_nI_add]
            exact e
          · obtain ⟨T', e⟩ := ih f (k + 1) (some q) T3 (by omega) (by omega) h3
            refine ⟨T', ?_⟩
            rw [if_pos (by rw [hz_nI_le (by omega) (by omega)]; omega), if_neg (fun h => hc (of_decide_eq_true h.2)), hz_nI_lit, hz_nI_add]
            exact e
    have e0 : f_Model_following_4 (f + 1) (g1, g2, g3, (hz_nI M, gen, row), g5, g6, g7, g8, (hz_nI m, wd, T)) (hz_ixI last 0) (hz_ixI o 0) (hz_nI k) = (if hz_ixI last 0 < 0 then f_Model_following_61 (f_Model_following_4 f) (g1, g2, g3, (hz_nI M, gen, row), g5, g6, g7, g8, (hz_nI m, wd, T1)) (hz_ixI last 0) (hz_ixI o 0) (hz_nI k) (hz_nI (hz_keyN row wd m k)) else Option.bind (f_Model_nearest (g1, g2, g3, (hz_nI M, gen, row), g5, g6, g7, g8, (hz_nI m, wd, T1)) (hz_ixI last 0)) fun u5 => (if inb (hz_ixI last 0 * (43 : Int32)) 559 then (if hz_nI (hz_keyN row wd m k) ≤ (u5.1 * (10000 : Int32)) + (u5.2.2.2.2.1.2.2 (hz_ixI last 0 * (43 : Int32)).toNatClampNeg) then f_Model_following_66 (f_Model_following_4 f) u5.2 (hz_ixI last 0) (hz_ixI o 0) (hz_nI k) (hz_nI (hz_keyN row wd m k)) false else f_Model_following_61 (f_Model_following_4 f) u5.2 (hz_ixI last 0) (hz_ixI o 0) (hz_nI k) (hz_nI (hz_keyN row wd m k))) else none)) := by
      rw [f_Model_following_4, if_neg (show ¬ (hz_nI M ≤ hz_nI k) by rw [hz_nI_le (by omega) (by omega)]; omega), e1, Option.bind_some, if_pos (show inb (hz_nI k * 43) 559 by rw [hz_nI_lit, hz_nI_mul, hz_nI_inb (by omega)]; omega), show hz_nI k * (43 : Int32) = hz_nI (k * 43) by rw [hz_nI_lit, hz_nI_mul], hz_nI_nat (by omega), ← kk.1]
    rw [e0]
    unfold hz_folT
    cases last with
    | none =>
      rw [if_pos (show hz_ixI none 0 < 0 by decide)]
      exact step66 true T1
    | some l =>
      have hl' := hl l rfl
      have kl := kq l hl'
      obtain ⟨T2, e2⟩ := hz_q_nearest (g1 := g1) (g2 := g2) (g3 := g3) (m0 := hz_nI M) (ge := gen) (g5 := g5) (g6 := g6) (g7 := g7) (g8 := g8) (wd := wd) (T := T1) hm hM hl' hT
      have hil : hz_ixI (some l) 0 = hz_nI l := rfl
      rw [hil, if_neg (show ¬ (hz_nI l < 0) by rw [hz_nI_lit, hz_nI_lt (by omega) (by omega)]; omega), e2, Option.bind_some, if_pos (show inb (hz_nI l * 43) 559 by rw [hz_nI_lit, hz_nI_mul, hz_nI_inb (by omega)]; omega), show hz_nI l * (43 : Int32) = hz_nI (l * 43) by rw [hz_nI_lit, hz_nI_mul], hz_nI_nat (by omega)]
      show ∃ T', (if hz_nI (hz_keyN row wd m k) ≤ hz_nI (hz_nrm row wd m l) * (10000 : Int32) + row (l * 43) then f_Model_following_66 (f_Model_following_4 f) (g1, g2, g3, (hz_nI M, gen, row), g5, g6, g7, g8, (hz_nI m, wd, T2)) (hz_ixI (some l) 0) (hz_ixI o 0) (hz_nI k) (hz_nI (hz_keyN row wd m k)) false else f_Model_following_61 (f_Model_following_4 f) (g1, g2, g3, (hz_nI M, gen, row), g5, g6, g7, g8, (hz_nI m, wd, T2)) (hz_ixI (some l) 0) (hz_ixI o 0) (hz_nI k) (hz_nI (hz_keyN row wd m k))) = _
      rw [kl.1]
      by_cases hc : hz_keyN row wd m l < hz_keyN row wd m k
      · rw [if_neg (by rw [hz_nI_le (by omega) (by omega)]; omega)]
        have hb : hz_behL (hz_keyN row wd m) (some l) k = true := decide_eq_true hc
        rw [hb]
        exact step66 true T2
      · rw [if_pos (by rw [hz_nI_le (by omega) (by omega)]; omega)]
        have hb : hz_behL (hz_keyN row wd m) (some l) k = false := decide_eq_false hc
        rw [hb]
        exact step66 false T2
set_option maxRecDepth 100000 in
theorem hz_q_fol {g1 : Int32 × Int32} {g2 : hz_M2} {g3 : hz_M3} {row : Nat → Int32} {g5 : hz_M5} {g6 : Int32 × Int32 × Bool} {g7 : hz_M7} {g8 wd T t1 t2 t3 t4 : Nat → Int32} {m M : Nat} {gen : Bool} {last : Option Nat} (hm : m ≤ 8) (hM : M ≤ 12) (hT : hz_tabR t1 t2 t3 t4 row M gen) (hl : ∀ l, last = some l → l < M) :
    ∃ T' o, f_Model_following (g1, g2, g3, (hz_nI M, gen, row), g5, g6, g7, g8, (hz_nI m, wd, T)) (hz_ixI last 0) = some (hz_ixI o 0, (g1, g2, g3, (hz_nI M, gen, row), g5, g6, g7, g8, (hz_nI m, wd, T'))) ∧ hz_folP (hz_behL (hz_keyN row wd m) last) (hz_keyN row wd m) M o := by
  obtain ⟨T', e⟩ := hz_q_fol_4 (g1 := g1) (g2 := g2) (g3 := g3) (g5 := g5) (g6 := g6) (g7 := g7) (g8 := g8) (wd := wd) hm hM hT hl M 4096 0 none T (by omega) (by omega) (fun q hq => by cases hq)
  have hP := hz_folT_P (hz_behL (hz_keyN row wd m) last) (hz_keyN row wd m) M 0 none (Or.inl ⟨rfl, fun q hq => by omega⟩)
  rw [Nat.zero_add] at hP
  exact ⟨T', _, e, hP⟩
set_option maxRecDepth 100000 in
theorem hz_fol_first {sn sd row wd : Nat → Int32} {m M : Nat} {π : Nat → Nat} {o : Option Nat} (hS : hz_srt sn sd (hz_numN row) (hz_nrm row wd m) π M) (hM : 1 ≤ M) (hP : hz_folP (hz_behL (hz_keyN row wd m) none) (hz_keyN row wd m) M o) : o = some (π 0) := by
  obtain ⟨s1, s2, s3⟩ := hS
  rcases hP with ⟨_, h⟩ | ⟨q, rfl, h2, h3, h4⟩
  · have h9 : true = false := h 0 (by omega)
    exact absurd h9 (by decide)
  · obtain ⟨i, i1, rfl⟩ := s3 q h2
    by_cases hi : i = 0
    · subst hi; rfl
    · have h5 := h4 (π 0) (s1 0 (by omega)).2.2 rfl
      have h6 := s2 0 i (by omega) i1
      unfold hz_keyN at h5
      omega
set_option maxRecDepth 100000 in
theorem hz_fol_next {sn sd row wd : Nat → Int32} {m M i : Nat} {π : Nat → Nat} {o : Option Nat} (hS : hz_srt sn sd (hz_numN row) (hz_nrm row wd m) π M) (hi : i < M) (hP : hz_folP (hz_behL (hz_keyN row wd m) (some (π i))) (hz_keyN row wd m) M o) : o = if i + 1 < M then some (π (i + 1)) else none := by
  obtain ⟨s1, s2, s3⟩ := hS
  have beh : ∀ j, j < M → (hz_behL (hz_keyN row wd m) (some (π i)) (π j) = true ↔ i < j) := by
    intro j hj
    show decide (hz_keyN row wd m (π i) < hz_keyN row wd m (π j)) = true ↔ i < j
    rw [decide_eq_true_eq]
    unfold hz_keyN
    constructor
    · intro h
      rcases Nat.lt_or_ge i j with h9 | h9
      · exact h9
      · by_cases hij : j = i
        · subst hij; omega
        · have := s2 j i (by omega) hi; omega
    · intro h; exact s2 i j h hj
  rcases hP with ⟨rfl, h⟩ | ⟨q, rfl, h2, h3, h4⟩
  · by_cases c : i + 1 < M
    · have h5 := h (π (i + 1)) (s1 _ c).2.2
      rw [(beh (i + 1) c).mpr (by omega)] at h5
      exact absurd h5 (by decide)
    · rw [if_neg c]
  · obtain ⟨j, j1, rfl⟩ := s3 q h2
    have hij := (beh j j1).mp h3
    have c : i + 1 < M := by omega
    rw [if_pos c]
    by_cases hj : j = i + 1
    · rw [hj]
    · have h5 := h4 (π (i + 1)) (s1 _ c).2.2 ((beh (i + 1) c).mpr (by omega))
      have h6 := s2 (i + 1) j (by omega) j1
      unfold hz_keyN at h5
      omega
set_option maxRecDepth 100000 in
def hz_allL (x : Int64) : Nat → Nat → Bool
  | 0, k => true
  | n + 1, k => hz_isLt (hz_byt x k) && hz_allL x n (k + 1)
set_option maxRecDepth 100000 in
theorem hz_p_are_2 {x : Int64} {n : Nat} (hn : n ≤ 8) : ∀ j f k, n = k + j → j < f → f_HT_areLetters_2 f x (hz_nI n) (hz_nI k) = some (hz_allL x j k)
  | 0, f + 1, k, h1, h2 => by
    rw [f_HT_areLetters_2, if_pos (show hz_nI n ≤ hz_nI k by rw [hz_nI_le (by omega) (by omega)]; omega)]
    rfl
  | j + 1, f + 1, k, h1, h2 => by
    have ih := hz_p_are_2 (x := x) hn j f (k + 1) (by omega) (by omega)
    rw [f_HT_areLetters_2, if_neg (show ¬ (hz_nI n ≤ hz_nI k) by rw [hz_nI_le (by omega) (by omega)]; omega), hz_p_byte x k (by omega), Option.bind_some, hz_p_isLetter, Option.bind_some]
    unfold hz_allL
    cases h : hz_isLt (hz_byt x k)
    · rw [if_pos (show bI false = 0 from rfl)]; rfl
    · rw [if_neg (show ¬ (bI true = 0) by decide), hz_nI_lit, hz_nI_add, Bool.true_and]
      exact ih
set_option maxRecDepth 100000 in
theorem hz_q_say_12 {md : SModel} {x : Int64} {n : Nat} (hn : n ≤ 8) : ∀ j f k, n = k + j → j < f → f_Model_say_12 f md x (hz_nI n) true (hz_nI k) = f_Model_say_50 md x (hz_nI n) (hz_allL x j k)
  | 0, f + 1, k, h1, h2 => by
    rw [f_Model_say_12, if_pos (show hz_nI n ≤ hz_nI k by rw [hz_nI_le (by omega) (by omega)]; omega)]
    rfl
  | j + 1, f + 1, k, h1, h2 => by
    have ih := hz_q_say_12 (md := md) (x := x) hn j f (k + 1) (by omega) (by omega)
    rw [f_Model_say_12, if_neg (show ¬ (hz_nI n ≤ hz_nI k) by rw [hz_nI_le (by omega) (by omega)]; omega), if_neg (show ¬ (bI true = 0) by decide), hz_q_within, Option.bind_some]
    show f_Model_say_12 f md x (hz_nI n) (hz_isLt (hz_byt x k)) (hz_nI k + hz_nI 1) = _
    rw [hz_nI_add]
    unfold hz_allL
    cases h : hz_isLt (hz_byt x k)
    · obtain ⟨f', rfl⟩ : ∃ f', f = f' + 1 := ⟨f - 1, by omega⟩
      rw [f_Model_say_12, if_pos (show bI false = 0 from rfl), Bool.false_and]
      split <;> rfl
    · rw [Bool.true_and]; exact ih
set_option maxRecDepth 100000 in
def hz_wfT (x : Int64) (n : Nat) : Nat → Nat → (Nat → Int32) → (Nat → Int32)
  | 0, l, w => w
  | j + 1, l, w => hz_wfT x n j (l + 1) (upd w l (hz_byt x (n - 1 - l)))
set_option maxRecDepth 100000 in
theorem hz_p_hear_10 {x : Int64} {n : Nat} {e sn sd : Nat → Int32} {cnt : Int32} (hn : n ≤ 8) : ∀ j f l wd, n = l + j → j < f → f_Speller_hear_10 f (wd, e, sn, sd, hz_nI l, cnt) x (hz_nI j - hz_nI 1) = some (hz_wfT x n j l wd, e, sn, sd, hz_nI n, cnt)
  | 0, f + 1, l, wd, h1, h2 => by
    have : l = n := by omega
    subst this
    rw [f_Speller_hear_10, if_pos (show hz_nI 0 - hz_nI 1 < 0 by decide)]
    rfl
  | j + 1, f + 1, l, wd, h1, h2 => by
    have ih := hz_p_hear_10 (x := x) (e := e) (sn := sn) (sd := sd) (cnt := cnt) hn j f (l + 1) (upd wd l (hz_byt x (n - 1 - l))) (by omega) (by omega)
    have e1 : hz_nI (j + 1) - hz_nI 1 = hz_nI j := by rw [hz_nI_sub (by omega), Nat.add_sub_cancel]
    have e2 : hz_nI j + -hz_nI 1 = hz_nI j - hz_nI 1 := (Int32.sub_eq_add_neg ..).symm
    have e3 : n - 1 - l = j := by omega
    rw [e3] at ih
    rw [f_Speller_hear_10, e1, hz_p_byte x j (by omega), Option.bind_some, if_neg (show ¬ (hz_nI j < 0) by rw [hz_nI_lit, hz_nI_lt (by omega) (by omega)]; omega), if_neg (show ¬ ((8 : Int32) ≤ hz_nI l) by rw [hz_nI_lit, hz_nI_le (by omega) (by omega)]; omega), if_pos (show inb (hz_nI l) 8 by rw [hz_nI_inb (by omega)]; omega), hz_nI_nat (by omega)]
    show f_Speller_hear_10 f (upd wd l (hz_byt x j), e, sn, sd, hz_nI l + hz_nI 1, cnt) x (hz_nI j + -hz_nI 1) = _
    rw [hz_nI_add, e2, hz_wfT, e3]
    exact ih
set_option maxRecDepth 100000 in
theorem hz_q_say_82 {g1 : Int32 × Int32} {g2 : hz_M2} {g3 : hz_M3} {g4 : hz_M3} {g5 : hz_M5} {g6 : Int32 × Int32 × Bool} {g7 : hz_M7} {g8 T : Nat → Int32} {x : Int64} {n : Nat} {sa : Int32} (hn : n ≤ 8) : ∀ j f l wd, n = l + j → j < f → f_Model_say_82 f (g1, g2, g3, g4, g5, g6, g7, g8, (sa, wd, T)) x (hz_nI n) (hz_nI l) = Option.bind (f_Model_following (g1, g2, g3, g4, g5, g6, g7, g8, (sa, hz_wfT x n j l wd, T)) (hz_ixI none 0)) fun u9 => (if inb (u9.1 * (43 : Int32)) 559 then some (u9.2.2.2.2.1.2.2 (u9.1 * (43 : Int32)).toNatClampNeg, u9.2) else none)
  | 0, f + 1, l, wd, h1, h2 => by
    rw [f_Model_say_82, if_pos (show hz_nI n ≤ hz_nI l by rw [hz_nI_le (by omega) (by omega)]; omega)]
    rfl
  | j + 1, f + 1, l, wd, h1, h2 => by
    have ih := hz_q_say_82 (g1 := g1) (g2 := g2) (g3 := g3) (g4 := g4) (g5 := g5) (g6 := g6) (g7 := g7) (g8 := g8) (T := T) (x := x) (sa := sa) hn j f (l + 1) (upd wd l (hz_byt x (n - 1 - l))) (by omega) (by omega)
    rw [f_Model_say_82, if_neg (show ¬ (hz_nI n ≤ hz_nI l) by rw [hz_nI_le (by omega) (by omega)]; omega), if_pos (show inb (hz_nI l) 8 by rw [hz_nI_inb (by omega)]; omega), hz_nI_nat (by omega), show (hz_nI n - (1 : Int32)) - hz_nI l = hz_nI (n - 1 - l) by rw [hz_nI_lit, hz_nI_sub (by omega), hz_nI_sub (by omega)]]
    show f_Model_say_82 f (g1, g2, g3, g4, g5, g6, g7, g8, (sa, upd wd l (hz_byt x (n - 1 - l)), T)) x (hz_nI n) (hz_nI l + hz_nI 1) = _
    rw [hz_nI_add, hz_wfT]
    exact ih
set_option maxRecDepth 100000 in
def hz_invS (sp : SSpeller) (g4 : hz_M3) (r9 : hz_R9) : Prop := ∃ wd e sn sd lt cnt said T, sp = (wd, e, sn, sd, lt, cnt) ∧ r9 = (hz_nI said, wd, T) ∧ said ≤ 8 ∧ ((said = 0 ∧ cnt = hz_nI 0) ∨ (1 ≤ said ∧ ∃ M π, g4.1 = hz_nI M ∧ M ≤ 12 ∧ 1 ≤ M ∧ cnt = hz_nI M ∧ hz_srt sn sd (hz_numN g4.2.2) (hz_nrm g4.2.2 wd said) π M))
set_option maxRecDepth 100000 in
theorem hz_p_ranked {wd e sn sd : Nat → Int32} {lt : Int32} {C i : Nat} (hC : C ≤ 12) (hi : i < 2147483648) : f_Speller_ranked (wd, e, sn, sd, lt, hz_nI C) (hz_nI i) = some (if i < C then sn i else -hz_nI 1) := by
  unfold f_Speller_ranked
  by_cases c : i < C
  · rw [if_pos c]
    simp (disch := omega) only [hz_nI_lit, hz_nI_add, hz_nI_mul, hz_nI_lt, hz_nI_le, hz_nI_inj, hz_nI_sub, hz_nI_nat, hz_nI_inb, hz_nI_pred, hz_nI_m1_lt, hz_nI_lt_m1, hz_nI_m1_le, hz_nI_le_m1, hz_nI_eq_m1, hz_nI_m1_eq, hz_bI0, if_pos, if_neg, if_true, if_false, Option.bind_some, Prod.eta, reduceCtorEq]
  · rw [if_neg c]
    simp (disch := omega) only [hz_nI_lit, hz_nI_add, hz_nI_mul, hz_nI_lt, hz_nI_le, hz_nI_inj, hz_nI_sub, hz_nI_nat, hz_nI_inb, hz_nI_pred, hz_nI_m1_lt, hz_nI_lt_m1, hz_nI_m1_le, hz_nI_le_m1, hz_nI_eq_m1, hz_nI_m1_eq, hz_bI0, if_pos, if_neg, if_true, if_false, Option.bind_some, Prod.eta, reduceCtorEq]
set_option maxRecDepth 100000 in
theorem hz_op_say {ht : SHT} {ot : SOut} {sp : SSpeller} {tb : STable} {g1 : Int32 × Int32} {g2 : hz_M2} {g3 : hz_M3} {g4 : hz_M3} {g5 : hz_M5} {g6 : Int32 × Int32 × Bool} {g7 : hz_M7} {g8 : Nat → Int32} {r9 : hz_R9} {x : Int64} {n : Int32} (hT : hz_invT tb g4) (hS : hz_invS sp g4 r9) :
    ∃ k ot' sp' th b r9', f_Law_say ht ot sp tb x n = some (k, ot', sp') ∧ f_Model_say (g1, g2, g3, g4, g5, g6, g7, g8, r9) x n = some (b, ((th, g1.2), g2, g3, g4, g5, g6, g7, g8, r9')) ∧ hz_ans k ot' th b.toInt64 ∧ hz_invS sp' g4 r9' := by
  have hS0 := hS
  obtain ⟨t1, t2, t3, t4, M, gen, row, rfl, rfl, hM, hT⟩ := hT
  obtain ⟨wd, e, sn, sd, lt, cnt, said, T, rfl, rfl, hsaid, hsr⟩ := hS
  have ref : ∀ k9 : Nat, (k9 = 1 ∨ k9 = 2) → f_HT_say ht (wd, e, sn, sd, lt, cnt) (t1, t2, t3, t4, hz_nI M, gen) x n = some (.inr (k9, (wd, e, sn, sd, lt, cnt))) → f_Model_say (g1, g2, g3, (hz_nI M, gen, row), g5, g6, g7, g8, (hz_nI said, wd, T)) x n = some (hz_nI 0, ((hz_nI k9, g1.2), g2, g3, (hz_nI M, gen, row), g5, g6, g7, g8, (hz_nI said, wd, T))) → ∃ k ot' sp' th b r9', f_Law_say ht ot (wd, e, sn, sd, lt, cnt) (t1, t2, t3, t4, hz_nI M, gen) x n = some (k, ot', sp') ∧ f_Model_say (g1, g2, g3, (hz_nI M, gen, row), g5, g6, g7, g8, (hz_nI said, wd, T)) x n = some (b, ((th, g1.2), g2, g3, (hz_nI M, gen, row), g5, g6, g7, g8, r9')) ∧ hz_ans k ot' th b.toInt64 ∧ hz_invS sp' (hz_nI M, gen, row) r9' := by
    intro k9 hk eC eM
    rcases hk with rfl | rfl
    · refine ⟨1, ot, _, hz_nI 1, _, _, ?_, eM, ⟨rfl, fun h => absurd h (by decide)⟩, hS0⟩
      unfold f_Law_say
      rw [eC, Option.bind_some, Sum.elim_inr, if_pos rfl]
    · refine ⟨2, ot, _, hz_nI 2, _, _, ?_, eM, ⟨rfl, fun h => absurd h (by decide)⟩, hS0⟩
      unfold f_Law_say
      rw [eC, Option.bind_some, Sum.elim_inr, if_neg (show ¬ ((2 : Nat) = 1) by decide), if_pos rfl]
  have s50F : ∀ y, f_Model_say_50 (g1, g2, g3, (hz_nI M, gen, row), g5, g6, g7, g8, (hz_nI said, wd, T)) x y false = some (hz_nI 0, ((hz_nI 1, g1.2), g2, g3, (hz_nI M, gen, row), g5, g6, g7, g8, (hz_nI said, wd, T))) := by
    intro y
    unfold f_Model_say_50 f_Model_say_65
    rw [hz_goes1, hz_goes1, Option.bind_some, if_pos (show bI false = 0 from rfl)]
    split <;> rfl
  cases h1 : hz_inR n 1 8
  · refine ref 1 (Or.inl rfl) ?_ ?_
    · unfold f_HT_say
      unfold hz_inR at h1
      simp only [decide_eq_false_iff_not, Int32.le_iff_toInt_le, show (1 : Int32).toInt = 1 by decide, show (8 : Int32).toInt = 8 by decide] at h1
      by_cases c1 : n < 1
      · rw [if_pos c1]
      · rw [if_neg c1, if_pos (by rw [Int32.lt_iff_toInt_lt] at c1 ⊢; simp only [show (1 : Int32).toInt = 1 by decide, show (8 : Int32).toInt = 8 by decide] at *; omega)]
    · have e9 : ∀ f, f_Model_say_12 (f + 1) (g1, g2, g3, (hz_nI M, gen, row), g5, g6, g7, g8, (hz_nI said, wd, T)) x n false 0 = some (hz_nI 0, ((hz_nI 1, g1.2), g2, g3, (hz_nI M, gen, row), g5, g6, g7, g8, (hz_nI said, wd, T))) := by
        intro f
        rw [f_Model_say_12, if_pos (show bI false = 0 from rfl), s50F]
        split <;> rfl
      unfold f_Model_say
      rw [hz_q_within, h1, Option.bind_some]
      exact e9 4095
  · obtain ⟨j, j1, j2, rfl⟩ := hz_inR_eq (x := n) (f := 1) (t := 8) (by omega) (by omega) h1
    have eA : f_HT_areLetters x (hz_nI j) = some (hz_allL x j 0) := by
      unfold f_HT_areLetters
      exact hz_p_are_2 (by omega) j 4096 0 (by omega) (by omega)
    have eC0 : f_HT_say ht (wd, e, sn, sd, lt, cnt) (t1, t2, t3, t4, hz_nI M, gen) x (hz_nI j) = (if bI (hz_allL x j 0) = 0 then some (.inr (1, (wd, e, sn, sd, lt, cnt))) else (if hz_nI M = 0 then some (.inr (2, (wd, e, sn, sd, lt, cnt))) else Option.bind (f_Speller_hear (wd, e, sn, sd, lt, cnt) x (hz_nI j)) fun u6 => Option.bind (f_Speller_rank u6 (t1, t2, t3, t4, hz_nI M, gen)) fun u7 => Option.bind (f_Speller_ranked u7 0) fun u8 => some (.inl (u8, u7)))) := by
      unfold f_HT_say
      rw [if_neg (show ¬ (hz_nI j < 1) by rw [hz_nI_lit, hz_nI_lt (by omega) (by omega)]; omega), if_neg (show ¬ ((8 : Int32) < hz_nI j) by rw [hz_nI_lit, hz_nI_lt (by omega) (by omega)]; omega), eA, Option.bind_some]
    have eM0 : f_Model_say (g1, g2, g3, (hz_nI M, gen, row), g5, g6, g7, g8, (hz_nI said, wd, T)) x (hz_nI j) = f_Model_say_50 (g1, g2, g3, (hz_nI M, gen, row), g5, g6, g7, g8, (hz_nI said, wd, T)) x (hz_nI j) (hz_allL x j 0) := by
      unfold f_Model_say
      rw [hz_q_within, h1, Option.bind_some]
      exact hz_q_say_12 (by omega) j 4096 0 (by omega) (by omega)
    cases hL : hz_allL x j 0
    · refine ref 1 (Or.inl rfl) ?_ ?_
      · rw [eC0, hL, if_pos (show bI false = 0 from rfl)]
      · rw [eM0, hL, s50F]
    · rw [hL, if_neg (show ¬ (bI true = 0) by decide)] at eC0
      rw [hL] at eM0
      by_cases hM0 : M = 0
      · subst hM0
        refine ref 2 (Or.inr rfl) ?_ ?_
        · rw [eC0, if_pos (show hz_nI 0 = 0 from rfl)]
        · rw [eM0]
          unfold f_Model_say_50 f_Model_say_65
          rw [if_pos (show hz_nI 0 ≤ 0 by decide), hz_goes2, Option.bind_some, if_pos (show bI false = 0 from rfl), hz_nI_lit]
      · have hne : ¬ hz_nI M = 0 := by rw [hz_nI_lit, hz_nI_inj (by omega) (by omega)]; exact hM0
        have hnl : ¬ hz_nI M ≤ 0 := by rw [hz_nI_lit, hz_nI_le (by omega) (by omega)]; omega
        have eH : f_Speller_hear (wd, e, sn, sd, lt, cnt) x (hz_nI j) = some (hz_wfT x j j 0 wd, e, sn, sd, hz_nI j, cnt) := by
          unfold f_Speller_hear
          exact hz_p_hear_10 (by omega) j 4096 0 wd (by omega) (by omega)
        obtain ⟨e', sn', sd', π, eR, hsrt⟩ := hz_p_rank (wd := hz_wfT x j j 0 wd) (e := e) (sn := sn) (sd := sd) (cnt := cnt) (show j ≤ 8 by omega) hM hT
        obtain ⟨T', o, eF, hF⟩ := hz_q_fol (g1 := (hz_nI 0, g1.2)) (g2 := g2) (g3 := g3) (g5 := g5) (g6 := g6) (g7 := g7) (g8 := g8) (wd := hz_wfT x j j 0 wd) (T := T) (m := j) (last := none) (by omega) hM hT (fun l hl => by cases hl)
        have ho := hz_fol_first hsrt (by omega) hF
        subst ho
        have h0 := hsrt.1 0 (by omega)
        have hn0 := hz_num_of hT h0.2.2
        refine ⟨0, vp_updL ot (0 : Int32).toNatClampNeg (hz_nI (hz_numN row (π 0))).toInt64, (hz_wfT x j j 0 wd, e', sn', sd', hz_nI j, hz_nI M), hz_nI 0, hz_nI (hz_numN row (π 0)), (hz_nI j, hz_wfT x j j 0 wd, T'), ?_, ?_, ⟨rfl, fun _ => hz_o_eq ot _⟩, hz_wfT x j j 0 wd, e', sn', sd', hz_nI j, hz_nI M, j, T', rfl, rfl, by omega, Or.inr ⟨by omega, M, π, rfl, hM, by omega, rfl, hsrt⟩⟩
        · have eK : f_Speller_ranked (hz_wfT x j j 0 wd, e', sn', sd', hz_nI j, hz_nI M) 0 = some (hz_nI (hz_numN row (π 0))) := by
            have := hz_p_ranked (wd := hz_wfT x j j 0 wd) (e := e') (sn := sn') (sd := sd') (lt := hz_nI j) (i := 0) hM (by omega)
            rw [if_pos (show 0 < M by omega), h0.1] at this
            exact this
          unfold f_Law_say
          rw [eC0, if_neg hne, eH, Option.bind_some, eR, Option.bind_some, eK, Option.bind_some, Option.bind_some, Sum.elim_inl, if_pos hz_o_inb]
        · rw [eM0]
          unfold f_Model_say_50 f_Model_say_65
          rw [if_neg hnl, hz_goesT, Option.bind_some, if_neg (show ¬ (bI true = 0) by decide)]
          refine (hz_q_say_82 (g1 := (hz_nI 0, g1.2)) (g2 := g2) (g3 := g3) (g4 := (hz_nI M, gen, row)) (g5 := g5) (g6 := g6) (g7 := g7) (g8 := g8) (T := T) (x := x) (sa := hz_nI j) (show j ≤ 8 by omega) j 4096 0 wd (by omega) (by omega)).trans ?_
          rw [eF, Option.bind_some]
          have hio : hz_ixI (some (π 0)) 0 * (43 : Int32) = hz_nI (π 0 * 43) := by
            show hz_nI (π 0) * (43 : Int32) = _
            rw [hz_nI_lit, hz_nI_mul]
          rw [hio, if_pos (show inb (hz_nI (π 0 * 43)) 559 by rw [hz_nI_inb (by omega)]; omega), hz_nI_nat (by omega), ← hn0.2.1]
set_option maxRecDepth 100000 in
theorem hz_q_near_46 {g1 : Int32 × Int32} {g2 : hz_M2} {g3 : hz_M3} {row : Nat → Int32} {g5 : hz_M5} {g6 : Int32 × Int32 × Bool} {g7 : hz_M7} {g8 wd t1 t2 t3 t4 sn sd : Nat → Int32} {m M i : Nat} {gen : Bool} {π : Nat → Nat} (hm : m ≤ 8) (hM : M ≤ 12) (hi : i < 2147483648) (hT : hz_tabR t1 t2 t3 t4 row M gen) (hS : hz_srt sn sd (hz_numN row) (hz_nrm row wd m) π M) : ∀ c f k T, M - k ≤ c → c + 1 < f → k ≤ i → k ≤ M →
    ∃ T', f_Model_near_46 f (g1, g2, g3, (hz_nI M, gen, row), g5, g6, g7, g8, (hz_nI m, wd, T)) (hz_nI i) (hz_ixI (if k < M then some (π k) else none) 0) (hz_nI k) = some (if i < M then sn i else -hz_nI 1, (g1, g2, g3, (hz_nI M, gen, row), g5, g6, g7, g8, (hz_nI m, wd, T'))) := by
  have fin : ∀ k T, k ≤ M → (if k < M then sn k else -hz_nI 1) = (if i < M then sn i else -hz_nI 1) → f_Model_near_67 (g1, g2, g3, (hz_nI M, gen, row), g5, g6, g7, g8, (hz_nI m, wd, T)) (hz_ixI (if k < M then some (π k) else none) 0) = some (if i < M then sn i else -hz_nI 1, (g1, g2, g3, (hz_nI M, gen, row), g5, g6, g7, g8, (hz_nI m, wd, T))) := by
    intro k T hk he
    rw [← he]
    unfold f_Model_near_67
    by_cases c : k < M
    · have h0 := hS.1 k c
      have hn0 := hz_num_of hT h0.2.2
      rw [if_pos c, if_pos c]
      have hio : hz_ixI (some (π k)) 0 = hz_nI (π k) := rfl
      rw [hio, if_pos (show (0 : Int32) ≤ hz_nI (π k) by rw [hz_nI_lit, hz_nI_le (by omega) (by omega)]; omega), show hz_nI (π k) * (43 : Int32) = hz_nI (π k * 43) by rw [hz_nI_lit, hz_nI_mul], if_pos (show inb (hz_nI (π k * 43)) 559 by rw [hz_nI_inb (by omega)]; omega), hz_nI_nat (by omega), h0.1, ← hn0.2.1]
    · rw [if_neg c, if_neg c, if_neg (show ¬ ((0 : Int32) ≤ hz_ixI none 0) by decide)]
      rfl
  intro c
  induction c with
  | zero =>
    intro f k T h1 h2 h3 h4
    obtain ⟨f, rfl⟩ : ∃ f', f = f' + 1 := ⟨f - 1, by omega⟩
    refine ⟨T, ?_⟩
    have hkM : ¬ k < M := by omega
    have he : (if k < M then sn k else -hz_nI 1) = (if i < M then sn i else -hz_nI 1) := by rw [if_neg hkM, if_neg (by omega)]
    have e9 := fin k T h4 he
    rw [f_Model_near_46]
    rw [if_neg hkM] at e9 ⊢
    rw [if_pos (show hz_ixI none 0 < 0 by decide), e9]
    split <;> rfl
  | succ c ih =>
    intro f k T h1 h2 h3 h4
    obtain ⟨f, rfl⟩ : ∃ f', f = f' + 1 := ⟨f - 1, by omega⟩
    by_cases hki : k = i
    · subst hki
      refine ⟨T, ?_⟩
      rw [f_Model_near_46, if_pos (show hz_nI k ≤ hz_nI k by rw [hz_nI_le hi hi]; omega)]
      exact fin k T h4 rfl
    · by_cases hkM : k < M
      · obtain ⟨T1, o, e1, hF⟩ := hz_q_fol (g1 := g1) (g2 := g2) (g3 := g3) (g5 := g5) (g6 := g6) (g7 := g7) (g8 := g8) (wd := wd) (T := T) (m := m) (last := some (π k)) hm hM hT (fun l hl => by cases hl; exact (hS.1 k hkM).2.2)
        have ho := hz_fol_next hS hkM hF
        subst ho
        obtain ⟨T', e2⟩ := ih f (k + 1) T1 (by omega) (by omega) (by omega) (by omega)
        refine ⟨T', ?_⟩
        rw [f_Model_near_46, if_pos hkM, if_neg (show ¬ (hz_nI i ≤ hz_nI k) by rw [hz_nI_le hi (by omega)]; omega), if_neg (show ¬ (hz_ixI (some (π k)) 0 < 0) by show ¬ (hz_nI (π k) < 0); have := (hS.1 k hkM).2.2; rw [hz_nI_lit, hz_nI_lt (by omega) (by omega)]; omega), e1, Option.bind_some, hz_nI_lit, hz_nI_add]
        exact e2
      · refine ⟨T, ?_⟩
        have he : (if k < M then sn k else -hz_nI 1) = (if i < M then sn i else -hz_nI 1) := by rw [if_neg hkM, if_neg (by omega)]
        have e9 := fin k T h4 he
        rw [f_Model_near_46]
        rw [if_neg hkM] at e9 ⊢
        rw [if_pos (show hz_ixI none 0 < 0 by decide), e9]
        split <;> rfl
set_option maxRecDepth 100000 in
theorem hz_op_near {ht : SHT} {ot : SOut} {sp : SSpeller} {tb : STable} {g1 : Int32 × Int32} {g2 : hz_M2} {g3 : hz_M3} {g4 : hz_M3} {g5 : hz_M5} {g6 : Int32 × Int32 × Bool} {g7 : hz_M7} {g8 : Nat → Int32} {r9 : hz_R9} {x : Int32} (hT : hz_invT tb g4) (hS : hz_invS sp g4 r9) :
    ∃ k ot' th b r9', f_Law_near ht ot sp x = some (k, ot') ∧ f_Model_near (g1, g2, g3, g4, g5, g6, g7, g8, r9) x = some (b, ((th, g1.2), g2, g3, g4, g5, g6, g7, g8, r9')) ∧ hz_ans k ot' th b.toInt64 ∧ hz_invS sp g4 r9' := by
  have hS0 := hS
  obtain ⟨t1, t2, t3, t4, M, gen, row, rfl, rfl, hM, hT⟩ := hT
  obtain ⟨wd, e, sn, sd, lt, cnt, said, T, rfl, rfl, hsaid, hsr⟩ := hS
  by_cases c : x < 0
  · refine ⟨1, ot, hz_nI 1, hz_nI 0, _, ?_, ?_, ⟨rfl, fun h => absurd h (by decide)⟩, hS0⟩
    · unfold f_Law_near f_HT_near
      rw [if_neg (by rw [Int32.not_le]; exact c), Option.bind_some, Sum.elim_inr, if_pos rfl]
    · unfold f_Model_near f_Model_near_10
      rw [if_pos c, hz_goes1, Option.bind_some, if_pos (show bI false = 0 from rfl), if_neg (show ¬ (hz_nI 1 ≤ (0 : Int32)) by decide), hz_nI_lit]
  · obtain ⟨i, hi, rfl, _⟩ := hz_nI_of (x := x) (by rw [Int32.lt_iff_toInt_lt] at c; simp only [show (0 : Int32).toInt = 0 by decide] at c; omega)
    have law : ∀ v, f_Speller_ranked (wd, e, sn, sd, lt, cnt) (hz_nI i) = some v → f_Law_near ht ot (wd, e, sn, sd, lt, cnt) (hz_nI i) = some (0, vp_updL ot (0 : Int32).toNatClampNeg v.toInt64) := by
      intro v hv
      unfold f_Law_near f_HT_near
      rw [if_pos (by rw [← Int32.not_lt]; exact c), hv, Option.bind_some, Option.bind_some, Sum.elim_inl, if_pos hz_o_inb]
    rcases hsr with ⟨rfl, rfl⟩ | ⟨hs1, M', π, hM', _, hM1, rfl, hsrt⟩
    · have eR := hz_p_ranked (wd := wd) (e := e) (sn := sn) (sd := sd) (lt := lt) (C := 0) (by omega) hi
      rw [if_neg (by omega)] at eR
      refine ⟨0, _, hz_nI 0, -hz_nI 1, _, law _ eR, ?_, ⟨rfl, fun _ => hz_o_eq ot _⟩, hS0⟩
      unfold f_Model_near f_Model_near_10
      rw [if_neg c, hz_goesT, Option.bind_some, if_neg (show ¬ (bI true = 0) by decide), if_pos (show hz_nI 0 = 0 from rfl), if_pos (show hz_nI 0 ≤ (0 : Int32) by decide), hz_nI_lit]
    · have hMM : M = M' := by
        have h9 : hz_nI M = hz_nI M' := hM'
        rw [hz_nI_inj (by omega) (by omega)] at h9
        exact h9
      subst hMM
      have hsrt : hz_srt sn sd (hz_numN row) (hz_nrm row wd said) π M := hsrt
      have eR := hz_p_ranked (wd := wd) (e := e) (sn := sn) (sd := sd) (lt := lt) (C := M) hM hi
      obtain ⟨T1, o, e1, hF⟩ := hz_q_fol (g1 := (hz_nI 0, g1.2)) (g2 := g2) (g3 := g3) (g5 := g5) (g6 := g6) (g7 := g7) (g8 := g8) (wd := wd) (T := T) (m := said) (last := none) hsaid hM hT (fun l hl => by cases hl)
      have ho := hz_fol_first hsrt (by omega) hF
      subst ho
      obtain ⟨T2, e2⟩ := hz_q_near_46 (g1 := (hz_nI 0, g1.2)) (g2 := g2) (g3 := g3) (g5 := g5) (g6 := g6) (g7 := g7) (g8 := g8) (wd := wd) hsaid hM hi hT hsrt M 4096 0 T1 (by omega) (by omega) (by omega) (by omega)
      rw [if_pos (show 0 < M by omega)] at e2
      refine ⟨0, _, hz_nI 0, (if i < M then sn i else -hz_nI 1), (hz_nI said, wd, T2), law _ eR, ?_, ⟨rfl, fun _ => hz_o_eq ot _⟩, wd, e, sn, sd, lt, hz_nI M, said, T2, rfl, rfl, hsaid, Or.inr ⟨hs1, M, π, rfl, hM, hM1, rfl, hsrt⟩⟩
      unfold f_Model_near f_Model_near_10
      rw [if_neg c, hz_goesT, Option.bind_some, if_neg (show ¬ (bI true = 0) by decide), if_neg (show ¬ (hz_nI said = 0) by rw [hz_nI_lit, hz_nI_inj (by omega) (by omega)]; omega)]
      have e1' : f_Model_following ((hz_nI 0, g1.2), g2, g3, (hz_nI M, gen, row), g5, g6, g7, g8, (hz_nI said, wd, T)) (-1) = some (hz_ixI (some (π 0)) 0, ((hz_nI 0, g1.2), g2, g3, (hz_nI M, gen, row), g5, g6, g7, g8, (hz_nI said, wd, T1))) := e1
      show Option.bind (f_Model_following ((hz_nI 0, g1.2), g2, g3, (hz_nI M, gen, row), g5, g6, g7, g8, (hz_nI said, wd, T)) (-1)) _ = _
      rw [e1', Option.bind_some]
      exact e2
set_option maxRecDepth 100000 in
def hz_invAll (ht : SHT) (rd : SReader) (sp : SSpeller) (mx : SMixture) (ar : SSurroundings) (tb : STable) (md : SModel) : Prop := ∃ g1 g2 g3 g4 g5 g6 g7 g8 r9, md = (g1, g2, g3, g4, g5, g6, g7, g8, r9) ∧ hz_invA rd g2 ∧ hz_invT tb g4 ∧ hz_invX mx tb.2.1 g4.2.2 g5 ∧ hz_invW ar g6 g7 ∧ hz_invM ht g8 ∧ hz_invS sp g4 r9
set_option maxRecDepth 100000 in
theorem hz_inv_init : hz_invAll init_HT init_Reader init_Speller init_Mixture init_Surroundings init_Table init_Model := by
  refine ⟨_, _, _, _, _, _, _, _, _, rfl, ?_, ?_, ?_, ?_, ?_, ?_⟩
  · exact ⟨fun _ => 0, 0, 0, 0, -1, 0, 0, rfl, rfl, by omega, fun i => ⟨0, by omega, rfl⟩⟩
  · exact ⟨fun _ => 0, fun _ => 0, fun _ => 0, fun _ => 0, 0, false, fun _ => 0, rfl, rfl, by omega, fun k hk => by omega, fun i j _ hj => by omega, fun h => absurd h (by decide)⟩
  · exact ⟨fun _ => 0, fun _ => 0, fun _ => 0, fun _ => 0, fun _ => 0, fun _ => 0, 0, 1, rfl, rfl, by omega, fun i hi => by omega, fun i hi => by omega, fun i hi => by omega, by omega, by omega, Or.inl (by omega)⟩
  · refine ⟨fun _ => 0, fun _ => 0, fun _ => 0, fun _ => 0, 0, 0, 1, 0, true, rfl, rfl, rfl, by omega, by omega, fun i hi => by omega, ?_, ?_, ?_⟩
    · exact ⟨by decide, by decide⟩
    · exact ⟨by decide, by decide⟩
    · exact fun h => absurd h.1 (by decide)
  · exact fun i _ => rfl
  · exact ⟨fun _ => 0, fun _ => 0, fun _ => 0, fun _ => 0, 0, 0, 0, fun _ => 0, rfl, rfl, by omega, Or.inl ⟨rfl, rfl⟩⟩
set_option maxRecDepth 100000 in
theorem hz_lp_end {L i : Nat} (hL : L ≤ 2048) (hi : i ≤ 4096) : (Int32.ofNat L - (4 : Int32) < hz_nI i) ↔ L < i + 4 := by
  have h1 : (Int32.ofNat L).toInt = L := hz_nI_toInt (show L < 2147483648 by omega)
  have h2 : (4 : Int32).toInt = 4 := by decide
  rw [Int32.lt_iff_toInt_lt, hz_j_sub (by rw [h1, h2]; omega) (by rw [h1, h2]; omega), h1, h2, hz_nI_toInt (by omega)]
  omega
set_option maxRecDepth 100000 in
theorem hz_lp_in {L i j : Nat} (hL : L ≤ 2048) (hi : i + j < L) : inb (hz_nI i + hz_nI j) L := by
  rw [hz_nI_add, hz_nI_inb (by omega)]; exact hi
