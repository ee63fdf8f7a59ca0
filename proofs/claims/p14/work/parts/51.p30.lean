set_option maxRecDepth 100000 in
def hz_allL (x : Int64) : Nat → Nat → Bool
  | 0, k => true
  | n + 1, k => hz_isLt (hz_byt x k) && hz_allL x n (k + 1)
set_option maxRecDepth 100000 in
theorem hz_p_are_2 {x : Int64} {n : Nat} (hn : n ≤ 8) : ∀ j f k, n = k + j → j < f → f_HT_areLetters_2 f x (hz_nI n) (hz_nI k) = some (hz_allL x j k)
  | 0, f + 1, k, h1, h2 => by
    rw [f_HT_areLetters_2, if_pos (show hz_nI n ≤ hz_nI k by rw [hz_nI_le (by omega) (by omega)]; omega)]
    rfl
  | j + 1, f + 1, k, h1, h2 => by
    have ih := hz_p_are_2 (x := x) hn j f (k + 1) (by omega) (by omega)
    rw [f_HT_areLetters_2, if_neg (show ¬ (hz_nI n ≤ hz_nI k) by rw [hz_nI_le (by omega) (by omega)]; omega), hz_p_byte x k (by omega), Option.bind_some, hz_p_isLetter, Option.bind_some]
    unfold hz_allL
    cases h : hz_isLt (hz_byt x k)
    · rw [if_pos (show bI false = 0 from rfl)]; rfl
    · rw [if_neg (show ¬ (bI true = 0) by decide), hz_nI_lit, hz_nI_add, Bool.true_and]
      exact ih
set_option maxRecDepth 100000 in
theorem hz_q_say_12 {md : SModel} {x : Int64} {n : Nat} (hn : n ≤ 8) : ∀ j f k, n = k + j → j < f → f_Model_say_12 f md x (hz_nI n) true (hz_nI k) = f_Model_say_50 md x (hz_nI n) (hz_allL x j k)
  | 0, f + 1, k, h1, h2 => by
    rw [f_Model_say_12, if_pos (show hz_nI n ≤ hz_nI k by rw [hz_nI_le (by omega) (by omega)]; omega)]
    rfl
  | j + 1, f + 1, k, h1, h2 => by
    have ih := hz_q_say_12 (md := md) (x := x) hn j f (k + 1) (by omega) (by omega)
    rw [f_Model_say_12, if_neg (show ¬ (hz_nI n ≤ hz_nI k) by rw [hz_nI_le (by omega) (by omega)]; omega), if_neg (show ¬ (bI true = 0) by decide), hz_q_within, Option.bind_some]
    show f_Model_say_12 f md x (hz_nI n) (hz_isLt (hz_byt x k)) (hz_nI k + hz_nI 1) = _
    rw [hz_nI_add]
    unfold hz_allL
    cases h : hz_isLt (hz_byt x k)
    · obtain ⟨f', rfl⟩ : ∃ f', f = f' + 1 := ⟨f - 1, by omega⟩
      rw [f_Model_say_12, if_pos (show bI false = 0 from rfl), Bool.false_and]
      split <;> rfl
    · rw [Bool.true_and]; exact ih
set_option maxRecDepth 100000 in
def hz_wfT (x : Int64) (n : Nat) : Nat → Nat → (Nat → Int32) → (Nat → Int32)
  | 0, l, w => w
  | j + 1, l, w => hz_wfT x n j (l + 1) (upd w l (hz_byt x (n - 1 - l)))
set_option maxRecDepth 100000 in
theorem hz_p_hear_10 {x : Int64} {n : Nat} {e sn sd : Nat → Int32} {cnt : Int32} (hn : n ≤ 8) : ∀ j f l wd, n = l + j → j < f → f_Speller_hear_10 f (wd, e, sn, sd, hz_nI l, cnt) x (hz_nI j - hz_nI 1) = some (hz_wfT x n j l wd, e, sn, sd, hz_nI n, cnt)
  | 0, f + 1, l, wd, h1, h2 => by
    have : l = n := by omega
    subst this
    rw [f_Speller_hear_10, if_pos (show hz_nI 0 - hz_nI 1 < 0 by decide)]
    rfl
  | j + 1, f + 1, l, wd, h1, h2 => by
    have ih := hz_p_hear_10 (x := x) (e := e) (sn := sn) (sd := sd) (cnt := cnt) hn j f (l + 1) (upd wd l (hz_byt x (n - 1 - l))) (by omega) (by omega)
    have e1 : hz_nI (j + 1) - hz_nI 1 = hz_nI j := by rw [hz_nI_sub (by omega), Nat.add_sub_cancel]
    have e2 : hz_nI j + -hz_nI 1 = hz_nI j - hz_nI 1 := (Int32.sub_eq_add_neg ..).symm
    have e3 : n - 1 - l = j := by omega
    rw [e3] at ih
    rw [f_Speller_hear_10, e1, hz_p_byte x j (by omega), Option.bind_some, if_neg (show ¬ (hz_nI j < 0) by rw [hz_nI_lit, hz_nI_lt (by omega) (by omega)]; omega), if_neg (show ¬ ((8 : Int32) ≤ hz_nI l) by rw [hz_nI_lit, hz_nI_le (by omega) (by omega)]; omega), if_pos (show inb (hz_nI l) 8 by rw [hz_nI_inb (by omega)]; omega), hz_nI_nat (by omega)]
    show f_Speller_hear_10 f (upd wd l (hz_byt x j), e, sn, sd, hz_nI l + hz_nI 1, cnt) x (hz_nI j + -hz_nI 1) = _
    rw [hz_nI_add, e2, hz_wfT, e3]
    exact ih
set_option maxRecDepth 100000 in
theorem hz_q_say_82 {g1 : Int32 × Int32} {g2 : hz_M2} {g3 : hz_M3} {g4 : hz_M3} {g5 : hz_M5} {g6 : Int32 × Int32 × Bool} {g7 : hz_M7} {g8 T : Nat → Int32} {x : Int64} {n : Nat} {sa : Int32} (hn : n ≤ 8) : ∀ j f l wd, n = l + j → j < f → f_Model_say_82 f (g1, g2, g3, g4, g5, g6, g7, g8, (sa, wd, T)) x (hz_nI n) (hz_nI l) = Option.bind (f_Model_following (g1, g2, g3, g4, g5, g6, g7, g8, (sa, hz_wfT x n j l wd, T)) (hz_ixI none 0)) fun u9 => (if inb (u9.1 * (43 : Int32)) 559 then some (u9.2.2.2.2.1.2.2 (u9.1 * (43 : Int32)).toNatClampNeg, u9.2) else none)
  | 0, f + 1, l, wd, h1, h2 => by
    rw [f_Model_say_82, if_pos (show hz_nI n ≤ hz_nI l by rw [hz_nI_le (by omega) (by omega)]; omega)]
    rfl
  | j + 1, f + 1, l, wd, h1, h2 => by
    have ih := hz_q_say_82 (g1 := g1) (g2 := g2) (g3 := g3) (g4 := g4) (g5 := g5) (g6 := g6) (g7 := g7) (g8 := g8) (T := T) (x := x) (sa := sa) hn j f (l + 1) (upd wd l (hz_byt x (n - 1 - l))) (by omega) (by omega)
    rw [f_Model_say_82, if_neg (show ¬ (hz_nI n ≤ hz_nI l) by rw [hz_nI_le (by omega) (by omega)]; omega), if_pos (show inb (hz_nI l) 8 by rw [hz_nI_inb (by omega)]; omega), hz_nI_nat (by omega), show (hz_nI n - (1 : Int32)) - hz_nI l = hz_nI (n - 1 - l) by rw [hz_nI_lit, hz_nI_sub (by omega), hz_nI_sub (by omega)]]
    show f_Model_say_82 f (g1, g2, g3, g4, g5, g6, g7, g8, (sa, upd wd l (hz_byt x (n - 1 - l)), T)) x (hz_nI n) (hz_nI l + hz_nI 1) = _
    rw [hz_nI_add, hz_wfT]
    exact ih
set_option maxRecDepth 100000 in
def hz_invS (sp : SSpeller) (g4 : hz_M3) (r9 : hz_R9) : Prop := ∃ wd e sn sd lt cnt said T, sp = (wd, e, sn, sd, lt, cnt) ∧ r9 = (hz_nI said, wd, T) ∧ said ≤ 8 ∧ ((said = 0 ∧ cnt = hz_nI 0) ∨ (1 ≤ said ∧ ∃ M π, g4.1 = hz_nI M ∧ M ≤ 12 ∧ 1 ≤ M ∧ cnt = hz_nI M ∧ hz_srt sn sd (hz_numN g4.2.2) (hz_nrm g4.2.2 wd said) π M))
set_option maxRecDepth 100000 in
theorem hz_p_ranked {wd e sn sd : Nat → Int32} {lt : Int32} {C i : Nat} (hC : C ≤ 12) (hi : i < 2147483648) : f_Speller_ranked (wd, e, sn, sd, lt, hz_nI C) (hz_nI i) = some (if i < C then sn i else -hz_nI 1) := by
  unfold f_Speller_ranked
  by_cases c : i < C
  · rw [if_pos c]
    simp (disch := omega) only [hz_nI_lit, hz_nI_add, hz_nI_mul, hz_nI_lt, hz_nI_le, hz_nI_inj, hz_nI_sub, hz_nI_nat, hz_nI_inb, hz_nI_pred, hz_nI_m1_lt, hz_nI_lt_m1, hz_nI_m1_le, hz_nI_le_m1, hz_nI_eq_m1, hz_nI_m1_eq, hz_bI0, if_pos, if_neg, if_true, if_false, Option.bind_some, Prod.eta, reduceCtorEq]
  · rw [if_neg c]
    simp (disch := omega) only [hz_nI_lit, hz_nI_add, hz_nI_mul, hz_nI_lt, hz_nI_le, hz_nI_inj, hz_nI_sub, hz_nI_nat, hz_nI_inb, hz_nI_pred, hz_nI_m1_lt, hz_nI_lt_m1, hz_nI_m1_le, hz_nI_le_m1, hz_nI_eq_m1, hz_nI_m1_eq, hz_bI0, if_pos, if_neg, if_true, if_false, Option.bind_some, Prod.eta, reduceCtorEq]
set_option maxRecDepth 100000 in
theorem hz_op_say {ht : SHT} {ot : SOut} {sp : SSpeller} {tb : STable} {g1 : Int32 × Int32} {g2 : hz_M2} {g3 : hz_M3} {g4 : hz_M3} {g5 : hz_M5} {g6 : Int32 × Int32 × Bool} {g7 : hz_M7} {g8 : Nat → Int32} {r9 : hz_R9} {x : Int64} {n : Int32} (hT : hz_invT tb g4) (hS : hz_invS sp g4 r9) :
    ∃ k ot' sp' th b r9', f_Law_say ht ot sp tb x n = some (k, ot', sp') ∧ f_Model_say (g1, g2, g3, g4, g5, g6, g7, g8, r9) x n = some (b, ((th, g1.2), g2, g3, g4, g5, g6, g7, g8, r9')) ∧ hz_ans k ot' th b.toInt64 ∧ hz_invS sp' g4 r9' := by
  have hS0 := hS
  obtain ⟨t1, t2, t3, t4, M, gen, row, rfl, rfl, hM, hT⟩ := hT
  obtain ⟨wd, e, sn, sd, lt, cnt, said, T, rfl, rfl, hsaid, hsr⟩ := hS
  have ref : ∀ k9 : Nat, (k9 = 1 ∨ k9 = 2) → f_HT_say ht (wd, e, sn, sd, lt, cnt) (t1, t2, t3, t4, hz_nI M, gen) x n = some (.inr (k9, (wd, e, sn, sd, lt, cnt))) → f_Model_say (g1, g2, g3, (hz_nI M, gen, row), g5, g6, g7, g8, (hz_nI said, wd, T)) x n = some (hz_nI 0, ((hz_nI k9, g1.2), g2, g3, (hz_nI M, gen, row), g5, g6, g7, g8, (hz_nI said, wd, T))) → ∃ k ot' sp' th b r9', f_Law_say ht ot (wd, e, sn, sd, lt, cnt) (t1, t2, t3, t4, hz_nI M, gen) x n = some (k, ot', sp') ∧ f_Model_say (g1, g2, g3, (hz_nI M, gen, row), g5, g6, g7, g8, (hz_nI said, wd, T)) x n = some (b, ((th, g1.2), g2, g3, (hz_nI M, gen, row), g5, g6, g7, g8, r9')) ∧ hz_ans k ot' th b.toInt64 ∧ hz_invS sp' (hz_nI M, gen, row) r9' := by
    intro k9 hk eC eM
    rcases hk with rfl | rfl
    · refine ⟨1, ot, _, hz_nI 1, _, _, ?_, eM, ⟨rfl, fun h => absurd h (by decide)⟩, hS0⟩
      unfold f_Law_say
      rw [eC, Option.bind_some, Sum.elim_inr, if_pos rfl]
    · refine ⟨2, ot, _, hz_nI 2, _, _, ?_, eM, ⟨rfl, fun h => absurd h (by decide)⟩, hS0⟩
      unfold f_Law_say
      rw [eC, Option.bind_some, Sum.elim_inr, if_neg (show ¬ ((2 : Nat) = 1) by decide), if_pos rfl]
  have s50F : ∀ y, f_Model_say_50 (g1, g2, g3, (hz_nI M, gen, row), g5, g6, g7, g8, (hz_nI said, wd, T)) x y false = some (hz_nI 0, ((hz_nI 1, g1.2), g2, g3, (hz_nI M, gen, row), g5, g6, g7, g8, (hz_nI said, wd, T))) := by
    intro y
    unfold f_Model_say_50 f_Model_say_65
    rw [hz_goes1, hz_goes1, Option.bind_some, if_pos (show bI false = 0 from rfl)]
    split <;> rfl
  cases h1 : hz_inR n 1 8
  · refine ref 1 (Or.inl rfl) ?_ ?_
    · unfold f_HT_say
      unfold hz_inR at h1
      simp only [decide_eq_false_iff_not, Int32.le_iff_toInt_le, show (1 : Int32).toInt = 1 by decide, show (8 : Int32).toInt = 8 by decide] at h1
      by_cases c1 : n < 1
      · rw [if_pos c1]
      · rw [if_neg c1, if_pos (by rw [Int32.lt_iff_toInt_lt] at c1 ⊢; simp only [show (1 : Int32).toInt = 1 by decide, show (8 : Int32).toInt = 8 by decide] at *; omega)]
    · have e9 : ∀ f, f_Model_say_12 (f + 1) (g1, g2, g3, (hz_nI M, gen, row), g5, g6, g7, g8, (hz_nI said, wd, T)) x n false 0 = some (hz_nI 0, ((hz_nI 1, g1.2), g2, g3, (hz_nI M, gen, row), g5, g6, g7, g8, (hz_nI said, wd, T))) := by
        intro f
        rw [f_Model_say_12, if_pos (show bI false = 0 from rfl), s50F]
        split <;> rfl
      unfold f_Model_say
      rw [hz_q_within, h1, Option.bind_some]
      exact e9 4095
  · obtain ⟨j, j1, j2, rfl⟩ := hz_inR_eq (x := n) (f := 1) (t := 8) (by omega) (by omega) h1
    have eA : f_HT_areLetters x (hz_nI j) = some (hz_allL x j 0) := by
      unfold f_HT_areLetters
      exact hz_p_are_2 (by omega) j 4096 0 (by omega) (by omega)
    have eC0 : f_HT_say ht (wd, e, sn, sd, lt, cnt) (t1, t2, t3, t4, hz_nI M, gen) x (hz_nI j) = (if bI (hz_allL x j 0) = 0 then some (.inr (1, (wd, e, sn, sd, lt, cnt))) else (if hz_nI M = 0 then some (.inr (2, (wd, e, sn, sd, lt, cnt))) else Option.bind (f_Speller_hear (wd, e, sn, sd, lt, cnt) x (hz_nI j)) fun u6 => Option.bind (f_Speller_rank u6 (t1, t2, t3, t4, hz_nI M, gen)) fun u7 => Option.bind (f_Speller_ranked u7 0) fun u8 => some (.inl (u8, u7)))) := by
      unfold f_HT_say
      rw [if_neg (show ¬ (hz_nI j < 1) by rw [hz_nI_lit, hz_nI_lt (by omega) (by omega)]; omega), if_neg (show ¬ ((8 : Int32) < hz_nI j) by rw [hz_nI_lit, hz_nI_lt (by omega) (by omega)]; omega), eA, Option.bind_some]
    have eM0 : f_Model_say (g1, g2, g3, (hz_nI M, gen, row), g5, g6, g7, g8, (hz_nI said, wd, T)) x (hz_nI j) = f_Model_say_50 (g1, g2, g3, (hz_nI M, gen, row), g5, g6, g7, g8, (hz_nI said, wd, T)) x (hz_nI j) (hz_allL x j 0) := by
      unfold f_Model_say
      rw [hz_q_within, h1, Option.bind_some]
      exact hz_q_say_12 (by omega) j 4096 0 (by omega) (by omega)
    cases hL : hz_allL x j 0
    · refine ref 1 (Or.inl rfl) ?_ ?_
      · rw [eC0, hL, if_pos (show bI false = 0 from rfl)]
      · rw [eM0, hL, s50F]
    · rw [hL, if_neg (show ¬ (bI true = 0) by decide)] at eC0
      rw [hL] at eM0
      by_cases hM0 : M = 0
      · subst hM0
        refine ref 2 (Or.inr rfl) ?_ ?_
        · rw [eC0, if_pos (show hz_nI 0 = 0 from rfl)]
        · rw [eM0]
          unfold f_Model_say_50 f_Model_say_65
          rw [if_pos (show hz_nI 0 ≤ 0 by decide), hz_goes2, Option.bind_some, if_pos (show bI false = 0 from rfl), hz_nI_lit]
      · have hne : ¬ hz_nI M = 0 := by rw [hz_nI_lit, hz_nI_inj (by omega) (by omega)]; exact hM0
        have hnl : ¬ hz_nI M ≤ 0 := by rw [hz_nI_lit, hz_nI_le (by omega) (by omega)]; omega
        have eH : f_Speller_hear (wd, e, sn, sd, lt, cnt) x (hz_nI j) = some (hz_wfT x j j 0 wd, e, sn, sd, hz_nI j, cnt) := by
          unfold f_Speller_hear
          exact hz_p_hear_10 (by omega) j 4096 0 wd (by omega) (by omega)
        obtain ⟨e', sn', sd', π, eR, hsrt⟩ := hz_p_rank (wd := hz_wfT x j j 0 wd) (e := e) (sn := sn) (sd := sd) (cnt := cnt) (show j ≤ 8 by omega) hM hT
        obtain ⟨T', o, eF, hF⟩ := hz_q_fol (g1 := (hz_nI 0, g1.2)) (g2 := g2) (g3 := g3) (g5 := g5) (g6 := g6) (g7 := g7) (g8 := g8) (wd := hz_wfT x j j 0 wd) (T := T) (m := j) (last := none) (by omega) hM hT (fun l hl => by cases hl)
        have ho := hz_fol_first hsrt (by omega) hF
        subst ho
        have h0 := hsrt.1 0 (by omega)
        have hn0 := hz_num_of hT h0.2.2
        refine ⟨0, vp_updL ot (0 : Int32).toNatClampNeg (hz_nI (hz_numN row (π 0))).toInt64, (hz_wfT x j j 0 wd, e', sn', sd', hz_nI j, hz_nI M), hz_nI 0, hz_nI (hz_numN row (π 0)), (hz_nI j, hz_wfT x j j 0 wd, T'), ?_, ?_, ⟨rfl, fun _ => hz_o_eq ot _⟩, hz_wfT x j j 0 wd, e', sn', sd', hz_nI j, hz_nI M, j, T', rfl, rfl, by omega, Or.inr ⟨by omega, M, π, rfl, hM, by omega, rfl, hsrt⟩⟩
        · have eK : f_Speller_ranked (hz_wfT x j j 0 wd, e', sn', sd', hz_nI j, hz_nI M) 0 = some (hz_nI (hz_numN row (π 0))) := by
            have := hz_p_ranked (wd := hz_wfT x j j 0 wd) (e := e') (sn := sn') (sd := sd') (lt := hz_nI j) (i := 0) hM (by omega)
            rw [if_pos (show 0 < M by omega), h0.1] at this
            exact this
          unfold f_Law_say
          rw [eC0, if_neg hne, eH, Option.bind_some, eR, Option.bind_some, eK, Option.bind_some, Option.bind_some, Sum.elim_inl, if_pos hz_o_inb]
        · rw [eM0]
          unfold f_Model_say_50 f_Model_say_65
          rw [if_neg hnl, hz_goesT, Option.bind_some, if_neg (show ¬ (bI true = 0) by decide)]
          refine (hz_q_say_82 (g1 := (hz_nI 0, g1.2)) (g2 := g2) (g3 := g3) (g4 := (hz_nI M, gen, row)) (g5 := g5) (g6 := g6) (g7 := g7) (g8 := g8) (T := T) (x := x) (sa := hz_nI j) (show j ≤ 8 by omega) j 4096 0 wd (by omega) (by omega)).trans ?_
          rw [eF, Option.bind_some]
          have hio : hz_ixI (some (π 0)) 0 * (43 : Int32) = hz_nI (π 0 * 43) := by
            show hz_nI (π 0) * (43 : Int32) = _
            rw [hz_nI_lit, hz_nI_mul]
          rw [hio, if_pos (show inb (hz_nI (π 0 * 43)) 559 by rw [hz_nI_inb (by omega)]; omega), hz_nI_nat (by omega), ← hn0.2.1]
set_option maxRecDepth 100000 in
theorem hz_q_near_46 {g1 : Int32 × Int32} {g2 : hz_M2} {g3 : hz_M3} {row : Nat → Int32} {g5 : hz_M5} {g6 : Int32 × Int32 × Bool} {g7 : hz_M7} {g8 wd t1 t2 t3 t4 sn sd : Nat → Int32} {m M i : Nat} {gen : Bool} {π : Nat → Nat} (hm : m ≤ 8) (hM : M ≤ 12) (hi : i < 2147483648) (hT : hz_tabR t1 t2 t3 t4 row M gen) (hS : hz_srt sn sd (hz_numN row) (hz_nrm row wd m) π M) : ∀ c f k T, M - k ≤ c → c + 1 < f → k ≤ i → k ≤ M →
    ∃ T', f_Model_near_46 f (g1, g2, g3, (hz_nI M, gen, row), g5, g6, g7, g8, (hz_nI m, wd, T)) (hz_nI i) (hz_ixI (if k < M then some (π k) else none) 0) (hz_nI k) = some (if i < M then sn i else -hz_nI 1, (g1, g2, g3, (hz_nI M, gen, row), g5, g6, g7, g8, (hz_nI m, wd, T'))) := by
  have fin : ∀ k T, k ≤ M → (if k < M then sn k else -hz_nI 1) = (if i < M then sn i else -hz_nI 1) → f_Model_near_67 (g1, g2, g3, (hz_nI M, gen, row), g5, g6, g7, g8, (hz_nI m, wd, T)) (hz_ixI (if k < M then some (π k) else none) 0) = some (if i < M then sn i else -hz_nI 1, (g1, g2, g3, (hz_nI M, gen, row), g5, g6, g7, g8, (hz_nI m, wd, T))) := by
    intro k T hk he
    rw [← he]
    unfold f_Model_near_67
    by_cases c : k < M
    · have h0 := hS.1 k c
      have hn0 := hz_num_of hT h0.2.2
      rw [if_pos c, if_pos c]
      have hio : hz_ixI (some (π k)) 0 = hz_nI (π k) := rfl
      rw [hio, if_pos (show (0 : Int32) ≤ hz_nI (π k) by rw [hz_nI_lit, hz_nI_le (by omega) (by omega)]; omega), show hz_nI (π k) * (43 : Int32) = hz_nI (π k * 43) by rw [hz_nI_lit, hz_nI_mul], if_pos (show inb (hz_nI (π k * 43)) 559 by rw [hz_nI_inb (by omega)]; omega), hz_nI_nat (by omega), h0.1, ← hn0.2.1]
    · rw [if_neg c, if_neg c, if_neg (show ¬ ((0 : Int32) ≤ hz_ixI none 0) by decide)]
      rfl
  intro c
  induction c with
  | zero =>
    intro f k T h1 h2 h3 h4
    obtain ⟨f, rfl⟩ : ∃ f', f = f' + 1 := ⟨f - 1, by omega⟩
    refine ⟨T, ?_⟩
    have hkM : ¬ k < M := by omega
    have he : (if k < M then sn k else -hz_nI 1) = (if i < M then sn i else -hz_nI 1) := by rw [if_neg hkM, if_neg (by omega)]
    have e9 := fin k T h4 he
    rw [f_Model_near_46]
    rw [if_neg hkM] at e9 ⊢
    rw [if_pos (show hz_ixI none 0 < 0 by decide), e9]
    split <;> rfl
  | succ c ih =>
    intro f k T h1 h2 h3 h4
    obtain ⟨f, rfl⟩ : ∃ f', f = f' + 1 := ⟨f - 1, by omega⟩
    by_cases hki : k = i
    · subst hki
      refine ⟨T, ?_⟩
      rw [f_Model_near_46, if_pos (show hz_nI k ≤ hz_nI k by rw [hz_nI_le hi hi]; omega)]
      exact fin k T h4 rfl
    · by_cases hkM : k < M
      · obtain ⟨T1, o, e1, hF⟩ := hz_q_fol (g1 := g1) (g2 := g2) (g3 := g3) (g5 := g5) (g6 := g6) (g7 := g7) (g8 := g8) (wd := wd) (T := T) (m := m) (last := some (π k)) hm hM hT (fun l hl => by cases hl; exact (hS.1 k hkM).2.2)
        have ho := hz_fol_next hS hkM hF
        subst ho
        obtain ⟨T', e2⟩ := ih f (k + 1) T1 (by omega) (by omega) (by omega) (by omega)
        refine ⟨T', ?_⟩
        rw [f_Model_near_46, if_pos hkM, if_neg (show ¬ (hz_nI i ≤ hz_nI k) by rw [hz_nI_le hi (by omega)]; omega), if_neg (show ¬ (hz_ixI (some (π k)) 0 < 0) by show ¬ (hz_nI (π k) < 0); have := (hS.1 k hkM).2.2; rw [hz_nI_lit, hz_nI_lt (by omega) (by omega)]; omega), e1, Option.bind_some, hz_nI_lit, hz_nI_add]
        exact e2
      · refine ⟨T, ?_⟩
        have he : (if k < M then sn k else -hz_nI 1) = (if i < M then sn i else -hz_nI 1) := by rw [if_neg hkM, if_neg (by omega)]
        have e9 := fin k T h4 he
        rw [f_Model_near_46]
        rw [if_neg hkM] at e9 ⊢
        rw [if_pos (show hz_ixI none 0 < 0 by decide), e9]
        split <;> rfl
set_option maxRecDepth 100000 in
theorem hz_op_near {ht : SHT} {ot : SOut} {sp : SSpeller} {tb : STable} {g1 : Int32 × Int32} {g2 : hz_M2} {g3 : hz_M3} {g4 : hz_M3} {g5 : hz_M5} {g6 : Int32 × Int32 × Bool} {g7 : hz_M7} {g8 : Nat → Int32} {r9 : hz_R9} {x : Int32} (hT : hz_invT tb g4) (hS : hz_invS sp g4 r9) :
    ∃ k ot' th b r9', f_Law_near ht ot sp x = some (k, ot') ∧ f_Model_near (g1, g2, g3, g4, g5, g6, g7, g8, r9) x = some (b, ((th, g1.2), g2, g3, g4, g5, g6, g7, g8, r9')) ∧ hz_ans k ot' th b.toInt64 ∧ hz_invS sp g4 r9' := by
  have hS0 := hS
  obtain ⟨t1, t2, t3, t4, M, gen, row, rfl, rfl, hM, hT⟩ := hT
  obtain ⟨wd, e, sn, sd, lt, cnt, said, T, rfl, rfl, hsaid, hsr⟩ := hS
  by_cases c : x < 0
  · refine ⟨1, ot, hz_nI 1, hz_nI 0, _, ?_, ?_, ⟨rfl, fun h => absurd h (by decide)⟩, hS0⟩
    · unfold f_Law_near f_HT_near
      rw [if_neg (by rw [Int32.not_le]; exact c), Option.bind_some, Sum.elim_inr, if_pos rfl]
    · unfold f_Model_near f_Model_near_10
      rw [if_pos c, hz_goes1, Option.bind_some, if_pos (show bI false = 0 from rfl), if_neg (show ¬ (hz_nI 1 ≤ (0 : Int32)) by decide), hz_nI_lit]
  · obtain ⟨i, hi, rfl, _⟩ := hz_nI_of (x := x) (by rw [Int32.lt_iff_toInt_lt] at c; simp only [show (0 : Int32).toInt = 0 by decide] at c; omega)
    have law : ∀ v, f_Speller_ranked (wd, e, sn, sd, lt, cnt) (hz_nI i) = some v → f_Law_near ht ot (wd, e, sn, sd, lt, cnt) (hz_nI i) = some (0, vp_updL ot (0 : Int32).toNatClampNeg v.toInt64) := by
      intro v hv
      unfold f_Law_near f_HT_near
      rw [if_pos (by rw [← Int32.not_lt]; exact c), hv, Option.bind_some, Option.bind_some, Sum.elim_inl, if_pos hz_o_inb]
    rcases hsr with ⟨rfl, rfl⟩ | ⟨hs1, M', π, hM', _, hM1, rfl, hsrt⟩
    · have eR := hz_p_ranked (wd := wd) (e := e) (sn := sn) (sd := sd) (lt := lt) (C := 0) (by omega) hi
      rw [if_neg (by omega)] at eR
      refine ⟨0, _, hz_nI 0, -hz_nI 1, _, law _ eR, ?_, ⟨rfl, fun _ => hz_o_eq ot _⟩, hS0⟩
      unfold f_Model_near f_Model_near_10
      rw [if_neg c, hz_goesT, Option.bind_some, if_neg (show ¬ (bI true = 0) by decide), if_pos (show hz_nI 0 = 0 from rfl), if_pos (show hz_nI 0 ≤ (0 : Int32) by decide), hz_nI_lit]
    · have hMM : M = M' := by
        have h9 : hz_nI M = hz_nI M' := hM'
        rw [hz_nI_inj (by omega) (by omega)] at h9
        exact h9
      subst hMM
      have hsrt : hz_srt sn sd (hz_numN row) (hz_nrm row wd said) π M := hsrt
      have eR := hz_p_ranked (wd := wd) (e := e) (sn := sn) (sd := sd) (lt := lt) (C := M) hM hi
      obtain ⟨T1, o, e1, hF⟩ := hz_q_fol (g1 := (hz_nI 0, g1.2)) (g2 := g2) (g3 := g3) (g5 := g5) (g6 := g6) (g7 := g7) (g8 := g8) (wd := wd) (T := T) (m := said) (last := none) hsaid hM hT (fun l hl => by cases hl)
      have ho := hz_fol_first hsrt (by omega) hF
      subst ho
      obtain ⟨T2, e2⟩ := hz_q_near_46 (g1 := (hz_nI 0, g1.2)) (g2 := g2) (g3 := g3) (g5 := g5) (g6 := g6) (g7 := g7) (g8 := g8) (wd := wd) hsaid hM hi hT hsrt M 4096 0 T1 (by omega) (by omega) (by omega) (by omega)
      rw [if_pos (show 0 < M by omega)] at e2
      refine ⟨0, _, hz_nI 0, (if i < M then sn i else -hz_nI 1), (hz_nI said, wd, T2), law _ eR, ?_, ⟨rfl, fun _ => hz_o_eq ot _⟩, wd, e, sn, sd, lt, hz_nI M, said, T2, rfl, rfl, hsaid, Or.inr ⟨hs1, M, π, rfl, hM, hM1, rfl, hsrt⟩⟩
      unfold f_Model_near f_Model_near_10
      rw [if_neg c, hz_goesT, Option.bind_some, if_neg (show ¬ (bI true = 0) by decide), if_neg (show ¬ (hz_nI said = 0) by rw [hz_nI_lit, hz_nI_inj (by omega) (by omega)]; omega)]
      have e1' : f_Model_following ((hz_nI 0, g1.2), g2, g3, (hz_nI M, gen, row), g5, g6, g7, g8, (hz_nI said, wd, T)) (-1) = some (hz_ixI (some (π 0)) 0, ((hz_nI 0, g1.2), g2, g3, (hz_nI M, gen, row), g5, g6, g7, g8, (hz_nI said, wd, T1))) := e1
      show Option.bind (f_Model_following ((hz_nI 0, g1.2), g2, g3, (hz_nI M, gen, row), g5, g6, g7, g8, (hz_nI said, wd, T)) (-1)) _ = _
      rw [e1', Option.bind_some]
      exact e2
