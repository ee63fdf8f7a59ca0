set_option maxRecDepth 100000 in
def hz_shT (f : Nat → Int32) (p K : Nat) : Nat → Int32 := fun q => if p < q ∧ q ≤ K then f (q - 1) else f q
set_option maxRecDepth 100000 in
theorem hz_shT_K (f : Nat → Int32) (K : Nat) : hz_shT f K K = f := by
  funext q; unfold hz_shT; rw [if_neg (by omega)]
set_option maxRecDepth 100000 in
theorem hz_shT_step (f : Nat → Int32) {p K : Nat} (h : p + 1 ≤ K) : upd (hz_shT f (p + 1) K) (p + 1) (f p) = hz_shT f p K := by
  funext q; unfold upd hz_shT
  by_cases h1 : q = p + 1
  · subst h1; rw [if_pos rfl, if_pos (by omega), Nat.add_sub_cancel]
  · rw [if_neg h1]
    by_cases h2 : p + 1 < q ∧ q ≤ K
    · rw [if_pos h2, if_pos (by omega)]
    · rw [if_neg h2, if_neg (by omega)]
set_option maxRecDepth 100000 in
theorem hz_shT_lo {f : Nat → Int32} {p K q : Nat} (h : q ≤ p) : hz_shT f p K q = f q := by unfold hz_shT; rw [if_neg (by omega)]
set_option maxRecDepth 100000 in
theorem hz_shT_hi {f : Nat → Int32} {p K q : Nat} (h : p ≤ q) (h2 : q < K) : hz_shT f p K (q + 1) = f q := by unfold hz_shT; rw [if_pos (by omega), Nat.add_sub_cancel]
set_option maxRecDepth 100000 in
def hz_insP (beh : Nat → Bool) : Nat → Nat
  | 0 => 0
  | p + 1 => if beh p = true then hz_insP beh p else p + 1
set_option maxRecDepth 100000 in
theorem hz_insP_bd (beh : Nat → Bool) : ∀ K, hz_insP beh K ≤ K ∧ (∀ q, hz_insP beh K ≤ q → q < K → beh q = true) ∧ (hz_insP beh K = 0 ∨ beh (hz_insP beh K - 1) = false)
  | 0 => ⟨Nat.le_refl _, fun q h1 h2 => by omega, Or.inl rfl⟩
  | K + 1 => by
    have ih := hz_insP_bd beh K
    unfold hz_insP
    cases h : beh K
    · simp only [Bool.false_eq_true, if_false]
      exact ⟨Nat.le_refl _, fun q h1 h2 => by omega, Or.inr (by rw [Nat.add_sub_cancel]; exact h)⟩
    · simp only [if_true]
      refine ⟨by omega, fun q h1 h2 => ?_, ih.2.2⟩
      by_cases hq : q = K
      · subst hq; exact h
      · exact ih.2.1 q h1 (by omega)
set_option maxRecDepth 100000 in
def hz_behE (n1 d1 n2 d2 : Nat) : Bool := decide (d2 < d1 ∨ (d1 = d2 ∧ n2 < n1))
set_option maxRecDepth 100000 in
theorem hz_p_isBehind {wd e sn sd : Nat → Int32} {lt cnt : Int32} {i n1 d1 n2 d2 : Nat} (hi : i < 12) (h1 : sn i = hz_nI n1) (h2 : sd i = hz_nI d1) (b1 : n1 < 10000) (b2 : d1 < 100) (b3 : n2 < 10000) (b4 : d2 < 100) : f_Speller_isBehind (wd, e, sn, sd, lt, cnt) (hz_nI i) (hz_nI n2) (hz_nI d2) = some (hz_behE n1 d1 n2 d2) := by
  by_cases c1 : d2 < d1
  · have hb : hz_behE n1 d1 n2 d2 = true := decide_eq_true (Or.inl c1)
    rw [hb]
    unfold f_Speller_isBehind
    simp (disch := omega) only [hz_nI_lit, hz_nI_add, hz_nI_mul, hz_nI_lt, hz_nI_le, hz_nI_inj, hz_nI_sub, hz_nI_nat, hz_nI_inb, hz_nI_pred, hz_nI_m1_lt, hz_nI_lt_m1, hz_nI_m1_le, hz_nI_le_m1, hz_nI_eq_m1, hz_nI_m1_eq, hz_bI0, if_pos, if_neg, if_true, if_false, Option.bind_some, Prod.eta, reduceCtorEq, h1, h2]
  · by_cases c2 : d1 = d2
    · by_cases c3 : n1 ≤ n2
      · have hb : hz_behE n1 d1 n2 d2 = false := decide_eq_false (by omega)
        rw [hb]
        unfold f_Speller_isBehind
        simp (disch := omega) only [hz_nI_lit, hz_nI_add, hz_nI_mul, hz_nI_lt, hz_nI_le, hz_nI_inj, hz_nI_sub, hz_nI_nat, hz_nI_inb, hz_nI_pred, hz_nI_m1_lt, hz_nI_lt_m1, hz_nI_m1_le, hz_nI_le_m1, hz_nI_eq_m1, hz_nI_m1_eq, hz_bI0, if_pos, if_neg, if_true, if_false, Option.bind_some, Prod.eta, reduceCtorEq, h1, h2]
      · have hb : hz_behE n1 d1 n2 d2 = true := decide_eq_true (by omega)
        rw [hb]
        unfold f_Speller_isBehind
        simp (disch := omega) only [hz_nI_lit, hz_nI_add, hz_nI_mul, hz_nI_lt, hz_nI_le, hz_nI_inj, hz_nI_sub, hz_nI_nat, hz_nI_inb, hz_nI_pred, hz_nI_m1_lt, hz_nI_lt_m1, hz_nI_m1_le, hz_nI_le_m1, hz_nI_eq_m1, hz_nI_m1_eq, hz_bI0, if_pos, if_neg, if_true, if_false, Option.bind_some, Prod.eta, reduceCtorEq, h1, h2]
    · have hb : hz_behE n1 d1 n2 d2 = false := decide_eq_false (by omega)
      rw [hb]
      unfold f_Speller_isBehind
      simp (disch := omega) only [hz_nI_lit, hz_nI_add, hz_nI_mul, hz_nI_lt, hz_nI_le, hz_nI_inj, hz_nI_sub, hz_nI_nat, hz_nI_inb, hz_nI_pred, hz_nI_m1_lt, hz_nI_lt_m1, hz_nI_m1_le, hz_nI_le_m1, hz_nI_eq_m1, hz_nI_m1_eq, hz_bI0, if_pos, if_neg, if_true, if_false, Option.bind_some, Prod.eta, reduceCtorEq, h1, h2]
set_option maxRecDepth 100000 in
theorem hz_p_insert_18 {wd e sn sd : Nat → Int32} {lt : Int32} {K n2 d2 : Nat} {nu di : Nat → Nat} (hK : K < 12) (hsn : ∀ i, i < K → sn i = hz_nI (nu i) ∧ nu i < 10000) (hsd : ∀ i, i < K → sd i = hz_nI (di i) ∧ di i < 100) (b3 : n2 < 10000) (b4 : d2 < 100) : ∀ p f, p ≤ K → p < f →
    f_Speller_insert_18 f (wd, e, hz_shT sn p K, hz_shT sd p K, lt, hz_nI K) (hz_nI n2) (hz_nI d2) (hz_nI p) = some (wd, e, upd (hz_shT sn (hz_insP (fun i => hz_behE (nu i) (di i) n2 d2) p) K) (hz_insP (fun i => hz_behE (nu i) (di i) n2 d2) p) (hz_nI n2), upd (hz_shT sd (hz_insP (fun i => hz_behE (nu i) (di i) n2 d2) p) K) (hz_insP (fun i => hz_behE (nu i) (di i) n2 d2) p) (hz_nI d2), lt, hz_nI (K + 1)) := by
  intro p
  have fin : ∀ p, p ≤ K → f_Speller_insert_68 (wd, e, hz_shT sn p K, hz_shT sd p K, lt, hz_nI K) (hz_nI n2) (hz_nI d2) (hz_nI p) = some (wd, e, upd (hz_shT sn p K) p (hz_nI n2), upd (hz_shT sd p K) p (hz_nI d2), lt, hz_nI (K + 1)) := by
    intro p hp
    unfold f_Speller_insert_68
    simp (disch := omega) only [hz_nI_lit, hz_nI_add, hz_nI_mul, hz_nI_lt, hz_nI_le, hz_nI_inj, hz_nI_sub, hz_nI_nat, hz_nI_inb, hz_nI_pred, hz_nI_m1_lt, hz_nI_lt_m1, hz_nI_m1_le, hz_nI_le_m1, hz_nI_eq_m1, hz_nI_m1_eq, hz_bI0, if_pos, if_neg, if_true, if_false, Option.bind_some, Prod.eta, reduceCtorEq]
  induction p with
  | zero =>
    intro f h1 h2
    obtain ⟨f, rfl⟩ : ∃ f', f = f' + 1 := ⟨f - 1, by omega⟩
    rw [f_Speller_insert_18, if_pos (show hz_nI 0 ≤ 0 by decide)]
    exact fin 0 h1
  | succ p ih =>
    intro f h1 h2
    obtain ⟨f, rfl⟩ : ∃ f', f = f' + 1 := ⟨f - 1, by omega⟩
    have hs := hsn p (by omega)
    have hd := hsd p (by omega)
    have s1 : hz_shT sn (p + 1) K p = hz_nI (nu p) := by rw [hz_shT_lo (by omega)]; exact hs.1
    have s2 : hz_shT sd (p + 1) K p = hz_nI (di p) := by rw [hz_shT_lo (by omega)]; exact hd.1
    have eB := hz_p_isBehind (wd := wd) (e := e) (lt := lt) (cnt := hz_nI K) (show p < 12 by omega) s1 s2 hs.2 hd.2 b3 b4
    rw [f_Speller_insert_18, if_neg (show ¬ (hz_nI (p + 1) ≤ 0) by rw [hz_nI_lit, hz_nI_le (by omega) (by omega)]; omega)]
    rw [show hz_nI (p + 1) - (1 : Int32) = hz_nI p by rw [hz_nI_lit, hz_nI_sub (by omega), Nat.add_sub_cancel], eB, Option.bind_some]
    unfold hz_insP
    cases hb : hz_behE (nu p) (di p) n2 d2
    · rw [if_pos (show bI false = 0 from rfl)]
      simp only [Bool.false_eq_true, if_false]
      exact fin (p + 1) h1
    · rw [if_neg (show ¬ (bI true = 0) by decide)]
      simp only [if_true]
      have e1 := ih f (by omega) (by omega)
      rw [← hz_shT_step sn (show p + 1 ≤ K from h1), ← hz_shT_step sd (show p + 1 ≤ K from h1)] at e1
      rw [← e1]
      simp (disch := omega) only [hz_nI_lit, hz_nI_add, hz_nI_mul, hz_nI_lt, hz_nI_le, hz_nI_inj, hz_nI_sub, hz_nI_nat, hz_nI_inb, hz_nI_pred, hz_nI_m1_lt, hz_nI_lt_m1, hz_nI_m1_le, hz_nI_le_m1, hz_nI_eq_m1, hz_nI_m1_eq, hz_bI0, if_pos, if_neg, if_true, if_false, Option.bind_some, Prod.eta, reduceCtorEq, Nat.add_sub_cancel, s1, s2, hs.1, hd.1]
set_option maxRecDepth 100000 in
def hz_srt (sn sd : Nat → Int32) (num nr : Nat → Nat) (π : Nat → Nat) (K : Nat) : Prop := (∀ i, i < K → sn i = hz_nI (num (π i)) ∧ sd i = hz_nI (nr (π i)) ∧ π i < K) ∧ (∀ i j, i < j → j < K → nr (π i) * 10000 + num (π i) < nr (π j) * 10000 + num (π j)) ∧ (∀ k, k < K → ∃ i, i < K ∧ π i = k)
set_option maxRecDepth 100000 in
theorem hz_p_insert {wd e sn sd : Nat → Int32} {lt : Int32} {K : Nat} {num nr π : Nat → Nat} (hK : K < 12) (hnum : ∀ k, k ≤ K → num k < 10000) (hnr : ∀ k, k ≤ K → nr k < 100) (hdis : ∀ k, k < K → num k ≠ num K) (hS : hz_srt sn sd num nr π K) :
    ∃ sn' sd' π', f_Speller_insert (wd, e, sn, sd, lt, hz_nI K) (hz_nI (num K)) (hz_nI (nr K)) = some (wd, e, sn', sd', lt, hz_nI (K + 1)) ∧ hz_srt sn' sd' num nr π' (K + 1) := by
  obtain ⟨h1, h2, h3⟩ := hS
  have e1 := hz_p_insert_18 (wd := wd) (e := e) (lt := lt) (n2 := num K) (d2 := nr K) (nu := fun i => num (π i)) (di := fun i => nr (π i)) hK (fun i hi => ⟨(h1 i hi).1, hnum _ (by have := (h1 i hi).2.2; omega)⟩) (fun i hi => ⟨(h1 i hi).2.1, hnr _ (by have := (h1 i hi).2.2; omega)⟩) (hnum K (Nat.le_refl _)) (hnr K (Nat.le_refl _)) K 4096 (Nat.le_refl _) (by omega)
  rw [hz_shT_K, hz_shT_K] at e1
  have hb := hz_insP_bd (fun i => hz_behE (num (π i)) (nr (π i)) (num K) (nr K)) K
  generalize hz_insP (fun i => hz_behE (num (π i)) (nr (π i)) (num K) (nr K)) K = p at *
  obtain ⟨b1, b2, b3⟩ := hb
  have key : ∀ i, i < K → (hz_behE (num (π i)) (nr (π i)) (num K) (nr K) = true ↔ nr K * 10000 + num K < nr (π i) * 10000 + num (π i)) := by
    intro i hi
    unfold hz_behE
    rw [decide_eq_true_eq]
    have q1 := hnum (π i) (by have := (h1 i hi).2.2; omega)
    have q2 := hnum K (Nat.le_refl _)
    omega
  have lo : ∀ i, i < p → nr (π i) * 10000 + num (π i) < nr K * 10000 + num K := by
    intro i hi
    have hp0 : p ≠ 0 := by omega
    have hf := b3.resolve_left hp0
    have hnb : ¬ (nr K * 10000 + num K < nr (π (p - 1)) * 10000 + num (π (p - 1))) := fun h => by
      have := (key (p - 1) (by omega)).mpr h
      rw [hf] at this
      exact absurd this (by decide)
    have hne : num (π (p - 1)) ≠ num K := hdis _ (h1 (p - 1) (by omega)).2.2
    have q1 := hnum (π (p - 1)) (by have := (h1 (p - 1) (by omega)).2.2; omega)
    have q2 := hnum K (Nat.le_refl _)
    have hlt : nr (π (p - 1)) * 10000 + num (π (p - 1)) < nr K * 10000 + num K := by omega
    by_cases hi2 : i = p - 1
    · subst hi2; exact hlt
    · have := h2 i (p - 1) (by omega) (by omega); omega
  have hi' : ∀ i, p ≤ i → i < K → nr K * 10000 + num K < nr (π i) * 10000 + num (π i) := fun i hi1 hi2 => (key i hi2).mp (b2 i hi1 hi2)
  refine ⟨upd (hz_shT sn p K) p (hz_nI (num K)), upd (hz_shT sd p K) p (hz_nI (nr K)), fun i => if i < p then π i else if i = p then K else π (i - 1), ?_, ?_, ?_, ?_⟩
  · unfold f_Speller_insert
    rw [if_pos (show hz_nI K < 12 by rw [hz_nI_lit, hz_nI_lt (by omega) (by omega)]; omega)]
    exact e1
  · intro i hi
    by_cases c1 : i < p
    · have := h1 i (by omega)
      simp only [c1, if_true]
      rw [hz_upd_ne (by omega), hz_upd_ne (by omega), hz_shT_lo (by omega), hz_shT_lo (by omega)]
      exact ⟨this.1, this.2.1, by omega⟩
    · by_cases c2 : i = p
      · subst c2
        simp only [Nat.lt_irrefl, if_false, if_true]
        exact ⟨hz_upd_eq _ _ _, hz_upd_eq _ _ _, by omega⟩
      · simp only [c1, c2, if_false]
        obtain ⟨q, rfl⟩ : ∃ q, i = q + 1 := ⟨i - 1, by omega⟩
        have := h1 q (by omega)
        rw [hz_upd_ne (by omega), hz_upd_ne (by omega), hz_shT_hi (by omega) (by omega), hz_shT_hi (by omega) (by omega), Nat.add_sub_cancel]
        exact ⟨this.1, this.2.1, by omega⟩
  · intro i j hij hj
    by_cases c1 : j < p
    · simp only [c1, show i < p by omega, if_true]
      exact h2 i j hij (by omega)
    · by_cases c2 : j = p
      · subst c2
        simp only [hij, Nat.lt_irrefl, if_true, if_false]
        exact lo i hij
      · simp only [c1, c2, if_false]
        by_cases c3 : i < p
        · simp only [c3, if_true]
          exact h2 i (j - 1) (by omega) (by omega)
        · by_cases c4 : i = p
          · subst c4
            simp only [Nat.lt_irrefl, if_false, if_true]
            exact hi' (j - 1) (by omega) (by omega)
          · simp only [c3, c4, if_false]
            exact h2 (i - 1) (j - 1) (by omega) (by omega)
  · intro k hk
    by_cases hkK : k = K
    · subst hkK
      exact ⟨p, by omega, by simp only [Nat.lt_irrefl, if_false, if_true]⟩
    · obtain ⟨i, i1, i2⟩ := h3 k (by omega)
      by_cases c1 : i < p
      · exact ⟨i, by omega, by simp only [c1, if_true]; exact i2⟩
      · refine ⟨i + 1, by omega, ?_⟩
        simp only [show ¬ (i + 1 < p) by omega, show ¬ (i + 1 = p) by omega, if_false, Nat.add_sub_cancel]
        exact i2
