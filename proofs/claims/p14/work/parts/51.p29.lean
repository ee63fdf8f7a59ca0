set_option maxRecDepth 100000 in
def hz_numN (row : Nat → Int32) (k : Nat) : Nat := (row (k * 43)).toNatClampNeg
set_option maxRecDepth 100000 in
theorem hz_num_of {t1 t2 t3 t4 row : Nat → Int32} {M k : Nat} {gen : Bool} (hT : hz_tabR t1 t2 t3 t4 row M gen) (hk : k < M) : t1 (k + 1) = hz_nI (hz_numN row k) ∧ row (k * 43) = hz_nI (hz_numN row k) ∧ 1 ≤ hz_numN row k ∧ hz_numN row k ≤ 9999 := by
  obtain ⟨⟨v, v1, v2, v3, v4⟩, _⟩ := hT.1 k hk
  have : hz_numN row k = v := by unfold hz_numN; rw [v4, hz_nI_nat (by omega)]
  rw [this]
  exact ⟨v3, v4, v1, v2⟩
set_option maxRecDepth 100000 in
theorem hz_num_ne {t1 t2 t3 t4 row : Nat → Int32} {M i j : Nat} {gen : Bool} (hT : hz_tabR t1 t2 t3 t4 row M gen) (hij : i < j) (hj : j < M) : hz_numN row i ≠ hz_numN row j := by
  intro h
  refine hT.2.1 i j hij hj ?_
  rw [(hz_num_of hT (show i < M by omega)).2.1, (hz_num_of hT hj).2.1, h]
set_option maxRecDepth 100000 in
theorem hz_p_rank_7 {wd t1 t2 t3 t4 row : Nat → Int32} {gen : Bool} {m M : Nat} (hm : m ≤ 8) (hM : M ≤ 12) (hT : hz_tabR t1 t2 t3 t4 row M gen) : ∀ j f k e sn sd π, M = k + j → j < f → hz_srt sn sd (hz_numN row) (hz_nrm row wd m) π k →
    ∃ e' sn' sd' π', f_Speller_rank_7 f (wd, e, sn, sd, hz_nI m, hz_nI k) (t1, t2, t3, t4, hz_nI M, gen) (hz_nI (k + 1)) = some (wd, e', sn', sd', hz_nI m, hz_nI M) ∧ hz_srt sn' sd' (hz_numN row) (hz_nrm row wd m) π' M := by
  intro j
  induction j with
  | zero =>
    intro f k e sn sd π h1 h2 h3
    obtain ⟨f, rfl⟩ : ∃ f', f = f' + 1 := ⟨f - 1, by omega⟩
    have : k = M := by omega
    subst this
    refine ⟨e, sn, sd, π, ?_, h3⟩
    rw [f_Speller_rank_7, if_pos (show hz_nI k < hz_nI (k + 1) by rw [hz_nI_lt (by omega) (by omega)]; omega)]
  | succ j ih =>
    intro f k e sn sd π h1 h2 h3
    obtain ⟨f, rfl⟩ : ∃ f', f = f' + 1 := ⟨f - 1, by omega⟩
    obtain ⟨e1, k1⟩ := hz_p_distanceTo (wd := wd) (sn := sn) (sd := sd) (e := e) (cnt := hz_nI k) (t5 := hz_nI M) (t6 := gen) hm hM (show k < M by omega) hT
    have hnr : ∀ q, hz_nrm row wd m q < 100 := fun q => by
      have := hz_mnT_bd (hz_nl row wd m q) (row (q * 43 + 9)).toNatClampNeg 0 99
      unfold hz_nrm; omega
    obtain ⟨sn1, sd1, π1, k2, k3⟩ := hz_p_insert (wd := wd) (e := e1) (lt := hz_nI m) (num := hz_numN row) (nr := hz_nrm row wd m) (show k < 12 by omega) (fun q hq => by have := (hz_num_of hT (show q < M by omega)).2.2.2; omega) (fun q _ => hnr q) (fun q hq => hz_num_ne hT hq (by omega)) h3
    obtain ⟨e', sn', sd', π', k4, k5⟩ := ih f (k + 1) e1 sn1 sd1 π1 (by omega) (by omega) k3
    refine ⟨e', sn', sd', π', ?_, k5⟩
    rw [f_Speller_rank_7, if_neg (show ¬ (hz_nI M < hz_nI (k + 1)) by rw [hz_nI_lt (by omega) (by omega)]; omega), if_neg (show ¬ ((13 : Int32) ≤ hz_nI (k + 1)) by rw [hz_nI_lit, hz_nI_le (by omega) (by omega)]; omega), if_pos (show inb (hz_nI (k + 1)) 13 by rw [hz_nI_inb (by omega)]; omega), k1, Option.bind_some, hz_nI_nat (by omega)]
    show Option.bind (f_Speller_insert (wd, e1, sn, sd, hz_nI m, hz_nI k) (t1 (k + 1)) (hz_nI (hz_nrm row wd m k))) _ = _
    rw [(hz_num_of hT (show k < M by omega)).1, k2, Option.bind_some, hz_nI_lit, hz_nI_add]
    exact k4
set_option maxRecDepth 100000 in
theorem hz_p_rank {wd e sn sd t1 t2 t3 t4 row : Nat → Int32} {cnt : Int32} {gen : Bool} {m M : Nat} (hm : m ≤ 8) (hM : M ≤ 12) (hT : hz_tabR t1 t2 t3 t4 row M gen) :
    ∃ e' sn' sd' π', f_Speller_rank (wd, e, sn, sd, hz_nI m, cnt) (t1, t2, t3, t4, hz_nI M, gen) = some (wd, e', sn', sd', hz_nI m, hz_nI M) ∧ hz_srt sn' sd' (hz_numN row) (hz_nrm row wd m) π' M := by
  obtain ⟨e', sn', sd', π', k1, k2⟩ := hz_p_rank_7 (wd := wd) hm hM hT M 4096 0 e sn sd (fun i => i) (by omega) (by omega) ⟨fun i hi => by omega, fun i j _ hj => by omega, fun k hk => by omega⟩
  exact ⟨e', sn', sd', π', k1, k2⟩
set_option maxRecDepth 100000 in
def hz_betB (key : Nat → Nat) (m : Nat) (o : Option Nat) : Bool := match o with
  | none => true
  | some q => decide (key m < key q)
set_option maxRecDepth 100000 in
def hz_folT (beh : Nat → Bool) (key : Nat → Nat) : Nat → Nat → Option Nat → Option Nat
  | 0, m, o => o
  | n + 1, m, o => hz_folT beh key n (m + 1) (if beh m = true ∧ hz_betB key m o = true then some m else o)
set_option maxRecDepth 100000 in
def hz_folP (beh : Nat → Bool) (key : Nat → Nat) (m : Nat) (o : Option Nat) : Prop := (o = none ∧ ∀ q, q < m → beh q = false) ∨ (∃ q, o = some q ∧ q < m ∧ beh q = true ∧ ∀ p, p < m → beh p = true → key q ≤ key p)
set_option maxRecDepth 100000 in
theorem hz_folT_P (beh : Nat → Bool) (key : Nat → Nat) : ∀ n m o, hz_folP beh key m o → hz_folP beh key (m + n) (hz_folT beh key n m o)
  | 0, m, o, h => h
  | n + 1, m, o, h => by
    have key1 : hz_folP beh key (m + 1) (if beh m = true ∧ hz_betB key m o = true then some m else o) := by
      rcases h with ⟨rfl, h2⟩ | ⟨q, rfl, h2, h3, h4⟩
      · cases hb : beh m
        · rw [if_neg (fun h => absurd h.1 (by decide))]
          refine Or.inl ⟨rfl, fun q hq => ?_⟩
          by_cases hqm : q = m
          · subst hqm; exact hb
          · exact h2 q (by omega)
        · rw [if_pos ⟨rfl, rfl⟩]
          refine Or.inr ⟨m, rfl, by omega, hb, fun p hp hbp => ?_⟩
          by_cases hpm : p = m
          · subst hpm; exact Nat.le_refl _
          · rw [h2 p (by omega)] at hbp; exact absurd hbp (by decide)
      · cases hb : beh m
        · rw [if_neg (fun h => absurd h.1 (by decide))]
          refine Or.inr ⟨q, rfl, by omega, h3, fun p hp hbp => ?_⟩
          by_cases hpm : p = m
          · subst hpm; rw [hb] at hbp; exact absurd hbp (by decide)
          · exact h4 p (by omega) hbp
        · by_cases hk : key m < key q
          · rw [if_pos ⟨rfl, decide_eq_true hk⟩]
            refine Or.inr ⟨m, rfl, by omega, hb, fun p hp hbp => ?_⟩
            by_cases hpm : p = m
            · subst hpm; exact Nat.le_refl _
            · have := h4 p (by omega) hbp; omega
          · rw [if_neg (fun h => hk (of_decide_eq_true h.2))]
            refine Or.inr ⟨q, rfl, by omega, h3, fun p hp hbp => ?_⟩
            by_cases hpm : p = m
            · subst hpm; omega
            · exact h4 p (by omega) hbp
    have ih := hz_folT_P beh key n (m + 1) _ key1
    rw [show m + 1 + n = m + (n + 1) by omega] at ih
    exact ih
set_option maxRecDepth 100000 in
def hz_keyN (row wd : Nat → Int32) (m k : Nat) : Nat := hz_nrm row wd m k * 10000 + hz_numN row k
set_option maxRecDepth 100000 in
def hz_behL (key : Nat → Nat) (last : Option Nat) (k : Nat) : Bool := match last with
  | none => true
  | some l => decide (key l < key k)
set_option maxRecDepth 100000 in
theorem hz_q_fol_4 {g1 : Int32 × Int32} {g2 : hz_M2} {g3 : hz_M3} {row : Nat → Int32} {g5 : hz_M5} {g6 : Int32 × Int32 × Bool} {g7 : hz_M7} {g8 wd t1 t2 t3 t4 : Nat → Int32} {m M : Nat} {gen : Bool} {last : Option Nat} (hm : m ≤ 8) (hM : M ≤ 12) (hT : hz_tabR t1 t2 t3 t4 row M gen) (hl : ∀ l, last = some l → l < M) : ∀ j f k o T, M = k + j → j < f → (∀ q, o = some q → q < M) →
    ∃ T', f_Model_following_4 f (g1, g2, g3, (hz_nI M, gen, row), g5, g6, g7, g8, (hz_nI m, wd, T)) (hz_ixI last 0) (hz_ixI o 0) (hz_nI k) = some (hz_ixI (hz_folT (hz_behL (hz_keyN row wd m) last) (hz_keyN row wd m) j k o) 0, (g1, g2, g3, (hz_nI M, gen, row), g5, g6, g7, g8, (hz_nI m, wd, T'))) := by
  intro j
  have hnr : ∀ q, hz_nrm row wd m q ≤ 99 := fun q => hz_mnT_bd (hz_nl row wd m q) (row (q * 43 + 9)).toNatClampNeg 0 99
  induction j with
  | zero =>
    intro f k o T h1 h2 h3
    obtain ⟨f, rfl⟩ : ∃ f', f = f' + 1 := ⟨f - 1, by omega⟩
    refine ⟨T, ?_⟩
    rw [f_Model_following_4, if_pos (show hz_nI M ≤ hz_nI k by rw [hz_nI_le (by omega) (by omega)]; omega)]
    rfl
  | succ j ih =>
    intro f k o T h1 h2 h3
    obtain ⟨f, rfl⟩ : ∃ f', f = f' + 1 := ⟨f - 1, by omega⟩
    have kq : ∀ q, q < M → hz_nI (hz_nrm row wd m q) * (10000 : Int32) + row (q * 43) = hz_nI (hz_keyN row wd m q) ∧ hz_keyN row wd m q < 2000000 := by
      intro q hq
      have := hz_num_of hT hq
      have := hnr q
      rw [(hz_num_of hT hq).2.1, hz_nI_lit, hz_nI_mul, hz_nI_add]
      unfold hz_keyN
      exact ⟨rfl, by omega⟩
    have kk := kq k (by omega)
    obtain ⟨T1, e1⟩ := hz_q_nearest (g1 := g1) (g2 := g2) (g3 := g3) (m0 := hz_nI M) (ge := gen) (g5 := g5) (g6 := g6) (g7 := g7) (g8 := g8) (wd := wd) (T := T) hm hM (show k < M by omega) hT
    have step66 : ∀ (b : Bool) (T2 : Nat → Int32), ∃ T', f_Model_following_66 (f_Model_following_4 f) (g1, g2, g3, (hz_nI M, gen, row), g5, g6, g7, g8, (hz_nI m, wd, T2)) (hz_ixI last 0) (hz_ixI o 0) (hz_nI k) (hz_nI (hz_keyN row wd m k)) b = some (hz_ixI (hz_folT (hz_behL (hz_keyN row wd m) last) (hz_keyN row wd m) j (k + 1) (if b = true ∧ hz_betB (hz_keyN row wd m) k o = true then some k else o)) 0, (g1, g2, g3, (hz_nI M, gen, row), g5, g6, g7, g8, (hz_nI m, wd, T'))) := by
      intro b T2
      unfold f_Model_following_66
      cases b with
      | false =>
        obtain ⟨T', e⟩ := ih f (k + 1) o T2 (by omega) (by omega) h3
        refine ⟨T', ?_⟩
        rw [if_pos (show bI false = 0 from rfl), if_neg (fun h => absurd h.1 (by decide)), hz_nI_lit, hz_nI_add]
        exact e
      | true =>
        rw [if_neg (show ¬ (bI true = 0) by decide)]
        cases o with
        | none =>
          obtain ⟨T', e⟩ := ih f (k + 1) (some k) T2 (by omega) (by omega) (fun q hq => by cases hq; omega)
          refine ⟨T', ?_⟩
          rw [if_pos (show hz_ixI none 0 < 0 by decide), if_pos ⟨rfl, rfl⟩, hz_nI_lit, hz_nI_add]
          exact e
        | some q =>
          have hq := h3 q rfl
          have kkq := kq q hq
          obtain ⟨T3, e3⟩ := hz_q_nearest (g1 := g1) (g2 := g2) (g3 := g3) (m0 := hz_nI M) (ge := gen) (g5 := g5) (g6 := g6) (g7 := g7) (g8 := g8) (wd := wd) (T := T2) hm hM hq hT
          have hiq : hz_ixI (some q) 0 = hz_nI q := rfl
          rw [hiq, if_neg (show ¬ (hz_nI q < 0) by rw [hz_nI_lit, hz_nI_lt (by omega) (by omega)]; omega), e3, Option.bind_some, if_pos (show inb (hz_nI q * 43) 559 by rw [hz_nI_lit, hz_nI_mul, hz_nI_inb (by omega)]; omega), show hz_nI q * (43 : Int32) = hz_nI (q * 43) by rw [hz_nI_lit, hz_nI_mul], hz_nI_nat (by omega)]
          show ∃ T', (if hz_nI (hz_nrm row wd m q) * (10000 : Int32) + row (q * 43) ≤ hz_nI (hz_keyN row wd m k) then f_Model_following_4 f (g1, g2, g3, (hz_nI M, gen, row), g5, g6, g7, g8, (hz_nI m, wd, T3)) (hz_ixI last 0) (hz_nI q) (hz_nI k + 1) else f_Model_following_4 f (g1, g2, g3, (hz_nI M, gen, row), g5, g6, g7, g8, (hz_nI m, wd, T3)) (hz_ixI last 0) (hz_nI k) (hz_nI k + 1)) = _
          rw [kkq.1]
          by_cases hc : hz_keyN row wd m k < hz_keyN row wd m q
          · obtain ⟨T', e⟩ := ih f (k + 1) (some k) T3 (by omega) (by omega) (fun q hq => by cases hq; omega)
            refine ⟨T', ?_⟩
            rw [if_neg (by rw [hz_nI_le (by omega) (by omega)]; omega), if_pos ⟨rfl, decide_eq_true hc⟩, hz_nI_lit, hz_nI_add]
            exact e
          · obtain ⟨T', e⟩ := ih f (k + 1) (some q) T3 (by omega) (by omega) h3
            refine ⟨T', ?_⟩
            rw [if_pos (by rw [hz_nI_le (by omega) (by omega)]; omega), if_neg (fun h => hc (of_decide_eq_true h.2)), hz_nI_lit, hz_nI_add]
            exact e
    have e0 : f_Model_following_4 (f + 1) (g1, g2, g3, (hz_nI M, gen, row), g5, g6, g7, g8, (hz_nI m, wd, T)) (hz_ixI last 0) (hz_ixI o 0) (hz_nI k) = (if hz_ixI last 0 < 0 then f_Model_following_61 (f_Model_following_4 f) (g1, g2, g3, (hz_nI M, gen, row), g5, g6, g7, g8, (hz_nI m, wd, T1)) (hz_ixI last 0) (hz_ixI o 0) (hz_nI k) (hz_nI (hz_keyN row wd m k)) else Option.bind (f_Model_nearest (g1, g2, g3, (hz_nI M, gen, row), g5, g6, g7, g8, (hz_nI m, wd, T1)) (hz_ixI last 0)) fun u5 => (if inb (hz_ixI last 0 * (43 : Int32)) 559 then (if hz_nI (hz_keyN row wd m k) ≤ (u5.1 * (10000 : Int32)) + (u5.2.2.2.2.1.2.2 (hz_ixI last 0 * (43 : Int32)).toNatClampNeg) then f_Model_following_66 (f_Model_following_4 f) u5.2 (hz_ixI last 0) (hz_ixI o 0) (hz_nI k) (hz_nI (hz_keyN row wd m k)) false else f_Model_following_61 (f_Model_following_4 f) u5.2 (hz_ixI last 0) (hz_ixI o 0) (hz_nI k) (hz_nI (hz_keyN row wd m k))) else none)) := by
      rw [f_Model_following_4, if_neg (show ¬ (hz_nI M ≤ hz_nI k) by rw [hz_nI_le (by omega) (by omega)]; omega), e1, Option.bind_some, if_pos (show inb (hz_nI k * 43) 559 by rw [hz_nI_lit, hz_nI_mul, hz_nI_inb (by omega)]; omega), show hz_nI k * (43 : Int32) = hz_nI (k * 43) by rw [hz_nI_lit, hz_nI_mul], hz_nI_nat (by omega), ← kk.1]
    rw [e0]
    unfold hz_folT
    cases last with
    | none =>
      rw [if_pos (show hz_ixI none 0 < 0 by decide)]
      exact step66 true T1
    | some l =>
      have hl' := hl l rfl
      have kl := kq l hl'
      obtain ⟨T2, e2⟩ := hz_q_nearest (g1 := g1) (g2 := g2) (g3 := g3) (m0 := hz_nI M) (ge := gen) (g5 := g5) (g6 := g6) (g7 := g7) (g8 := g8) (wd := wd) (T := T1) hm hM hl' hT
      have hil : hz_ixI (some l) 0 = hz_nI l := rfl
      rw [hil, if_neg (show ¬ (hz_nI l < 0) by rw [hz_nI_lit, hz_nI_lt (by omega) (by omega)]; omega), e2, Option.bind_some, if_pos (show inb (hz_nI l * 43) 559 by rw [hz_nI_lit, hz_nI_mul, hz_nI_inb (by omega)]; omega), show hz_nI l * (43 : Int32) = hz_nI (l * 43) by rw [hz_nI_lit, hz_nI_mul], hz_nI_nat (by omega)]
      show ∃ T', (if hz_nI (hz_keyN row wd m k) ≤ hz_nI (hz_nrm row wd m l) * (10000 : Int32) + row (l * 43) then f_Model_following_66 (f_Model_following_4 f) (g1, g2, g3, (hz_nI M, gen, row), g5, g6, g7, g8, (hz_nI m, wd, T2)) (hz_ixI (some l) 0) (hz_ixI o 0) (hz_nI k) (hz_nI (hz_keyN row wd m k)) false else f_Model_following_61 (f_Model_following_4 f) (g1, g2, g3, (hz_nI M, gen, row), g5, g6, g7, g8, (hz_nI m, wd, T2)) (hz_ixI (some l) 0) (hz_ixI o 0) (hz_nI k) (hz_nI (hz_keyN row wd m k))) = _
      rw [kl.1]
      by_cases hc : hz_keyN row wd m l < hz_keyN row wd m k
      · rw [if_neg (by rw [hz_nI_le (by omega) (by omega)]; omega)]
        have hb : hz_behL (hz_keyN row wd m) (some l) k = true := decide_eq_true hc
        rw [hb]
        exact step66 true T2
      · rw [if_pos (by rw [hz_nI_le (by omega) (by omega)]; omega)]
        have hb : hz_behL (hz_keyN row wd m) (some l) k = false := decide_eq_false hc
        rw [hb]
        exact step66 false T2
set_option maxRecDepth 100000 in
theorem hz_q_fol {g1 : Int32 × Int32} {g2 : hz_M2} {g3 : hz_M3} {row : Nat → Int32} {g5 : hz_M5} {g6 : Int32 × Int32 × Bool} {g7 : hz_M7} {g8 wd T t1 t2 t3 t4 : Nat → Int32} {m M : Nat} {gen : Bool} {last : Option Nat} (hm : m ≤ 8) (hM : M ≤ 12) (hT : hz_tabR t1 t2 t3 t4 row M gen) (hl : ∀ l, last = some l → l < M) :
    ∃ T' o, f_Model_following (g1, g2, g3, (hz_nI M, gen, row), g5, g6, g7, g8, (hz_nI m, wd, T)) (hz_ixI last 0) = some (hz_ixI o 0, (g1, g2, g3, (hz_nI M, gen, row), g5, g6, g7, g8, (hz_nI m, wd, T'))) ∧ hz_folP (hz_behL (hz_keyN row wd m) last) (hz_keyN row wd m) M o := by
  obtain ⟨T', e⟩ := hz_q_fol_4 (g1 := g1) (g2 := g2) (g3 := g3) (g5 := g5) (g6 := g6) (g7 := g7) (g8 := g8) (wd := wd) hm hM hT hl M 4096 0 none T (by omega) (by omega) (fun q hq => by cases hq)
  have hP := hz_folT_P (hz_behL (hz_keyN row wd m) last) (hz_keyN row wd m) M 0 none (Or.inl ⟨rfl, fun q hq => by omega⟩)
  rw [Nat.zero_add] at hP
  exact ⟨T', _, e, hP⟩
set_option maxRecDepth 100000 in
theorem hz_fol_first {sn sd row wd : Nat → Int32} {m M : Nat} {π : Nat → Nat} {o : Option Nat} (hS : hz_srt sn sd (hz_numN row) (hz_nrm row wd m) π M) (hM : 1 ≤ M) (hP : hz_folP (hz_behL (hz_keyN row wd m) none) (hz_keyN row wd m) M o) : o = some (π 0) := by
  obtain ⟨s1, s2, s3⟩ := hS
  rcases hP with ⟨_, h⟩ | ⟨q, rfl, h2, h3, h4⟩
  · have h9 : true = false := h 0 (by omega)
    exact absurd h9 (by decide)
  · obtain ⟨i, i1, rfl⟩ := s3 q h2
    by_cases hi : i = 0
    · subst hi; rfl
    · have h5 := h4 (π 0) (s1 0 (by omega)).2.2 rfl
      have h6 := s2 0 i (by omega) i1
      unfold hz_keyN at h5
      omega
set_option maxRecDepth 100000 in
theorem hz_fol_next {sn sd row wd : Nat → Int32} {m M i : Nat} {π : Nat → Nat} {o : Option Nat} (hS : hz_srt sn sd (hz_numN row) (hz_nrm row wd m) π M) (hi : i < M) (hP : hz_folP (hz_behL (hz_keyN row wd m) (some (π i))) (hz_keyN row wd m) M o) : o = if i + 1 < M then some (π (i + 1)) else none := by
  obtain ⟨s1, s2, s3⟩ := hS
  have beh : ∀ j, j < M → (hz_behL (hz_keyN row wd m) (some (π i)) (π j) = true ↔ i < j) := by
    intro j hj
    show decide (hz_keyN row wd m (π i) < hz_keyN row wd m (π j)) = true ↔ i < j
    rw [decide_eq_true_eq]
    unfold hz_keyN
    constructor
    · intro h
      rcases Nat.lt_or_ge i j with h9 | h9
      · exact h9
      · by_cases hij : j = i
        · subst hij; omega
        · have := s2 j i (by omega) hi; omega
    · intro h; exact s2 i j h hj
  rcases hP with ⟨rfl, h⟩ | ⟨q, rfl, h2, h3, h4⟩
  · by_cases c : i + 1 < M
    · have h5 := h (π (i + 1)) (s1 _ c).2.2
      rw [(beh (i + 1) c).mpr (by omega)] at h5
      exact absurd h5 (by decide)
    · rw [if_neg c]
  · obtain ⟨j, j1, rfl⟩ := s3 q h2
    have hij := (beh j j1).mp h3
    have c : i + 1 < M := by omega
    rw [if_pos c]
    by_cases hj : j = i + 1
    · rw [hj]
    · have h5 := h4 (π (i + 1)) (s1 _ c).2.2 ((beh (i + 1) c).mpr (by omega))
      have h6 := s2 (i + 1) j (by omega) j1
      unfold hz_keyN at h5
      omega
