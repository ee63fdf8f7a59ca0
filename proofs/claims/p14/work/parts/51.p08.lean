set_option maxRecDepth 100000 in
theorem hz_q_name_26W {g1 : Int32 × Int32} {l a : Int32} {p n : Nat} {m kk : Int32} (hp : p ≤ 400) {tp : Nat → Int32} {g3 : hz_M3} {r : hz_MR} : f_Model_name_26 (n + 1) (g1, (l, tp, a, hz_nI p), g3, r) m kk (hz_nI 0) = some (g1, (l, tp, a, hz_nI p), g3, r) := by
  rw [f_Model_name_26]
  unfold f_Model_name_101 f_Model_name_113
  simp (disch := omega) only [hz_nI_lit, hz_nI_add, hz_nI_mul, hz_nI_lt, hz_nI_le, hz_nI_inj, hz_nI_sub, hz_nI_nat, hz_nI_inb, hz_nI_pred, hz_nI_m1_lt, hz_nI_lt_m1, hz_nI_m1_le, hz_nI_le_m1, hz_nI_eq_m1, hz_nI_m1_eq, hz_bI0, if_pos, if_neg, if_true, if_false, Option.bind_some, Prod.eta, reduceCtorEq, hz_q_failW hp]
set_option maxRecDepth 100000 in
theorem hz_q_nameW {g1 : Int32 × Int32} {l a : Int32} {p m : Nat} (hp : p ≤ 400) (hm : m ≤ 516) {tp : Nat → Int32} {g3 : hz_M3} {r : hz_MR} : f_Model_name (g1, (l, tp, a, hz_nI p), g3, r) (hz_nI m) = some (g1, (l, tp, a, hz_nI p), g3, r) := by
  unfold f_Model_name
  rw [hz_nI_lit, hz_q_takeW hp, Option.bind_some]
  have e : ∀ m kk : Int32, f_Model_name_26 4096 (g1, (l, tp, a, hz_nI p), g3, r) m kk (hz_nI 0) = some (g1, (l, tp, a, hz_nI p), g3, r) := fun m kk => hz_q_name_26W (n := 4095) hp
  simp (disch := omega) only [hz_nI_lit, hz_nI_add, hz_nI_mul, hz_nI_lt, hz_nI_le, hz_nI_inj, hz_nI_sub, hz_nI_nat, hz_nI_inb, hz_nI_pred, hz_nI_m1_lt, hz_nI_lt_m1, hz_nI_m1_le, hz_nI_le_m1, hz_nI_eq_m1, hz_nI_m1_eq, hz_bI0, if_pos, if_neg, if_true, if_false, Option.bind_some, Prod.eta, reduceCtorEq, e]
set_option maxRecDepth 100000 in
theorem hz_p_takeD {tp : Nat → Int32} {L a : Nat} {v w c : Int32} (hL : L ≤ 400) (ha : a ≤ L) (hd : hz_dg (hz_hereT tp L a) = true) (hc : hz_dg c = false) : f_Reader_take (tp, hz_nI L, hz_nI a, v, w) c = some (false, (tp, hz_nI L, hz_nI a, v, hz_nI a)) := by
  rw [hz_p_take hL ha, hz_skp_no (hz_dg_ne hd).2.1, if_neg (fun h => by rw [h, hc] at hd; exact absurd hd (by decide))]
set_option maxRecDepth 100000 in
def hz_oF (tp : Nat → Int32) (L : Nat) (g1 : Int32 × Int32) (nm : Int32) (ng : Bool) (r : hz_MR) (C : Option (Bool × SReader × STable)) (M : Option SModel) : Prop :=
  ∃ p b x tb' b1 fr', p ≤ L ∧ C = some (false, (tp, hz_nI L, b, x, hz_nI p), tb') ∧ M = some (g1, (hz_nI L, tp, b1, hz_nI p), (nm, ng, fr'), r)
set_option maxRecDepth 100000 in
theorem hz_q_due_52W {g1 : Int32 × Int32} {l a : Int32} {p m : Nat} (hp : p ≤ 400) (hm : m ≤ 516) {tp : Nat → Int32} {nm : Int32} {ng : Bool} {r : hz_MR} : ∀ k i n fr, 4 = i + k → k < n → ∃ fr', f_Model_due_52 n (g1, (l, tp, a, hz_nI p), (nm, ng, fr), r) (hz_nI m) (hz_nI i) = some (g1, (l, tp, a, hz_nI p), (nm, ng, fr'), r)
  | 0, i, n + 1, fr, h1, h2 => by
    refine ⟨fr, ?_⟩
    rw [f_Model_due_52]
    simp (disch := omega) only [hz_nI_lit, hz_nI_add, hz_nI_mul, hz_nI_lt, hz_nI_le, hz_nI_inj, hz_nI_sub, hz_nI_nat, hz_nI_inb, hz_nI_pred, hz_nI_m1_lt, hz_nI_lt_m1, hz_nI_m1_le, hz_nI_le_m1, hz_nI_eq_m1, hz_nI_m1_eq, hz_bI0, if_pos, if_neg, if_true, if_false, Option.bind_some, Prod.eta, reduceCtorEq]
  | k + 1, i, n + 1, fr, h1, h2 => by
    obtain ⟨fr', e⟩ := hz_q_due_52W (g1 := g1) (l := l) (a := a) hp hm (tp := tp) (nm := nm) (ng := ng) (r := r) k (i + 1) n (upd fr (m + 4 + i) (hz_nI 0)) (by omega) (by omega)
    refine ⟨fr', ?_⟩
    rw [f_Model_due_52]
    unfold f_Model_due_67
    by_cases c : i = 0
    · subst c
      simp (disch := omega) only [hz_nI_lit, hz_nI_add, hz_nI_mul, hz_nI_lt, hz_nI_le, hz_nI_inj, hz_nI_sub, hz_nI_nat, hz_nI_inb, hz_nI_pred, hz_nI_m1_lt, hz_nI_lt_m1, hz_nI_m1_le, hz_nI_le_m1, hz_nI_eq_m1, hz_nI_m1_eq, hz_bI0, if_pos, if_neg, if_true, if_false, Option.bind_some, Prod.eta, reduceCtorEq, hz_q_numW hp, hz_q_takeW hp]
      exact e
    · simp (disch := omega) only [hz_nI_lit, hz_nI_add, hz_nI_mul, hz_nI_lt, hz_nI_le, hz_nI_inj, hz_nI_sub, hz_nI_nat, hz_nI_inb, hz_nI_pred, hz_nI_m1_lt, hz_nI_lt_m1, hz_nI_m1_le, hz_nI_le_m1, hz_nI_eq_m1, hz_nI_m1_eq, hz_bI0, if_pos, if_neg, if_true, if_false, Option.bind_some, Prod.eta, reduceCtorEq, hz_q_numW hp, hz_q_takeW hp]
      exact e
set_option maxRecDepth 100000 in
def hz_oD (tp : Nat → Int32) (L : Nat) (w : Int32) (t1 t2 t3 t4 : Nat → Int32) (t5 : Int32) (t6 : Bool) (g1 : Int32 × Int32) (nm : Int32) (ng : Bool) (fr : Nat → Int32) (r : hz_MR) (c m i a : Nat) (C : Option (Bool × SReader × STable)) (M : Option SModel) : Prop :=
  hz_oF tp L g1 nm ng r C M ∨
  ∃ b x t2', a ≤ b ∧ b ≤ L ∧ C = some (true, (tp, hz_nI L, hz_nI b, x, w), (t1, t2', t3, t4, t5, t6)) ∧
    ((∃ fr', M = some (g1, (hz_nI L, tp, hz_nI b, -hz_nI 1), (nm, ng, fr'), r) ∧ (∀ j, i ≤ j → j < 4 → ∃ d, d ≤ 9999 ∧ t2' (c * 9 + 3 + j) = hz_nI d ∧ fr' (m + 4 + j) = hz_nI d) ∧ (∀ q, ¬ (c * 9 + 3 + i ≤ q ∧ q < c * 9 + 7) → t2' q = t2 q) ∧ (∀ q, ¬ (m + 4 + i ≤ q ∧ q < m + 8) → fr' q = fr q)) ∨
     (hz_dg (hz_hereT tp L b) = true ∧ ∃ fr', M = some (g1, (hz_nI L, tp, hz_nI b, hz_nI b), (nm, ng, fr'), r)))
set_option maxRecDepth 100000 in
theorem hz_pq_dist {tp : Nat → Int32} {L : Nat} {w : Int32} {t1 t3 t4 : Nat → Int32} {t5 : Int32} {t6 : Bool} {g1 : Int32 × Int32} {nm : Int32} {ng : Bool} {r : hz_MR} {c m : Nat} (hL : L ≤ 400) (hc : c ≤ 12) (hm : m ≤ 516) :
    ∀ k i n1 n2 a x t2 fr, 4 = i + k → 1 ≤ i → k < n1 → k < n2 → a ≤ L → hz_oD tp L w t1 t2 t3 t4 t5 t6 g1 nm ng fr r c m i a (f_Reader_readDue_68 n1 (tp, hz_nI L, hz_nI a, x, w) (t1, t2, t3, t4, t5, t6) (hz_nI c) (hz_nI i)) (f_Model_due_52 n2 (g1, (hz_nI L, tp, hz_nI a, -hz_nI 1), (nm, ng, fr), r) (hz_nI m) (hz_nI i)) := by
  intro k
  induction k with
  | zero =>
    intro i n1 n2 a x t2 fr h1 h2 h3 h4 h5
    obtain ⟨n1, rfl⟩ : ∃ n', n1 = n' + 1 := ⟨n1 - 1, by omega⟩
    obtain ⟨n2, rfl⟩ : ∃ n', n2 = n' + 1 := ⟨n2 - 1, by omega⟩
    rw [f_Reader_readDue_68, f_Model_due_52]
    refine Or.inr ⟨a, x, t2, Nat.le_refl _, h5, ?_, Or.inl ⟨fr, ?_, fun j _ _ => by omega, fun _ _ => rfl, fun _ _ => rfl⟩⟩
    · simp (disch := omega) only [hz_nI_lit, hz_nI_add, hz_nI_mul, hz_nI_lt, hz_nI_le, hz_nI_inj, hz_nI_sub, hz_nI_nat, hz_nI_inb, hz_nI_pred, hz_nI_m1_lt, hz_nI_lt_m1, hz_nI_m1_le, hz_nI_le_m1, hz_nI_eq_m1, hz_nI_m1_eq, hz_bI0, if_pos, if_neg, if_true, if_false, Option.bind_some, Prod.eta, reduceCtorEq]
    · simp (disch := omega) only [hz_nI_lit, hz_nI_add, hz_nI_mul, hz_nI_lt, hz_nI_le, hz_nI_inj, hz_nI_sub, hz_nI_nat, hz_nI_inb, hz_nI_pred, hz_nI_m1_lt, hz_nI_lt_m1, hz_nI_m1_le, hz_nI_le_m1, hz_nI_eq_m1, hz_nI_m1_eq, hz_bI0, if_pos, if_neg, if_true, if_false, Option.bind_some, Prod.eta, reduceCtorEq]
  | succ k ihk =>
    intro i n1 n2 a x t2 fr h1 h2 h3 h4 h5
    obtain ⟨n1, rfl⟩ : ∃ n', n1 = n' + 1 := ⟨n1 - 1, by omega⟩
    obtain ⟨n2, rfl⟩ : ∃ n', n2 = n' + 1 := ⟨n2 - 1, by omega⟩
    have hs := hz_skp_bd (tp := tp) h5
    have eC : f_Reader_readDue_68 (n1 + 1) (tp, hz_nI L, hz_nI a, x, w) (t1, t2, t3, t4, t5, t6) (hz_nI c) (hz_nI i) = f_Reader_readDue_85 (f_Reader_readDue_68 n1) (tp, hz_nI L, hz_nI a, x, w) (t1, t2, t3, t4, t5, t6) (hz_nI c) (hz_nI i) (hz_nI 44) := by
      rw [f_Reader_readDue_68]; simp (disch := omega) only [hz_nI_lit, hz_nI_add, hz_nI_mul, hz_nI_lt, hz_nI_le, hz_nI_inj, hz_nI_sub, hz_nI_nat, hz_nI_inb, hz_nI_pred, hz_nI_m1_lt, hz_nI_lt_m1, hz_nI_m1_le, hz_nI_le_m1, hz_nI_eq_m1, hz_nI_m1_eq, hz_bI0, if_pos, if_neg, if_true, if_false, Option.bind_some, Prod.eta, reduceCtorEq]
    have eM : f_Model_due_52 (n2 + 1) (g1, (hz_nI L, tp, hz_nI a, -hz_nI 1), (nm, ng, fr), r) (hz_nI m) (hz_nI i) = Option.bind (f_Model_take (g1, (hz_nI L, tp, hz_nI a, -hz_nI 1), (nm, ng, fr), r) (hz_nI 44)) fun u => f_Model_due_67 (f_Model_due_52 n2) u (hz_nI m) (hz_nI i) := by
      rw [f_Model_due_52]; simp (disch := omega) only [hz_nI_lit, hz_nI_add, hz_nI_mul, hz_nI_lt, hz_nI_le, hz_nI_inj, hz_nI_sub, hz_nI_nat, hz_nI_inb, hz_nI_pred, hz_nI_m1_lt, hz_nI_lt_m1, hz_nI_m1_le, hz_nI_le_m1, hz_nI_eq_m1, hz_nI_m1_eq, hz_bI0, if_pos, if_neg, if_true, if_false, Option.bind_some, Prod.eta, reduceCtorEq]
    rw [eC, eM]
    unfold f_Reader_readDue_85 f_Model_due_67
    rw [hz_p_take hL h5, hz_q_take hL h5]
    by_cases c0 : hz_hereT tp L (hz_skp tp L a) = hz_nI 44
    · have hl := hz_hereT_lt c0 (by decide)
      rw [if_pos c0, if_pos c0]
      simp only [Option.bind_some, hz_nI_lit, hz_bI0, Bool.true_eq_false, if_false]
      have hN := hz_p_num (tp := tp) (v := x) (w := w) (lo := 0) (hi := 9999) hL (by omega) (by omega) (show hz_skp tp L a + 1 ≤ L from hl)
      have hQ := hz_q_num (g1 := g1) (tp := tp) (g3 := (nm, ng, fr)) (r := r) (lo := 0) (hi := 9999) hL (by omega) (by omega) (show hz_skp tp L a + 1 ≤ L from hl)
      have hB := hz_numS_bd (tp := tp) (lo := 0) (hi := 9999) (by omega) (show hz_skp tp L a + 1 ≤ L from hl)
      cases hq : hz_numS tp L 0 9999 (hz_skp tp L a + 1) with
      | inl p =>
        obtain ⟨b, y, hb, e1⟩ := hN.1 p hq
        obtain ⟨b1, hb1, e2⟩ := hQ.1 p hq
        have hpL := hB.1 p hq
        obtain ⟨fr', e3⟩ := hz_q_due_52W (g1 := g1) (l := hz_nI L) (a := hz_nI b1) (show p ≤ 400 by omega) hm (tp := tp) (nm := nm) (ng := ng) (r := r) k (i + 1) n2 (upd fr (m + 4 + i) (hz_nI 0)) (by omega) (by omega)
        rw [e1, e2]
        simp (disch := omega) only [hz_nI_lit, hz_nI_add, hz_nI_mul, hz_nI_lt, hz_nI_le, hz_nI_inj, hz_nI_sub, hz_nI_nat, hz_nI_inb, hz_nI_pred, hz_nI_m1_lt, hz_nI_lt_m1, hz_nI_m1_le, hz_nI_le_m1, hz_nI_eq_m1, hz_nI_m1_eq, hz_bI0, if_pos, if_neg, if_true, if_false, Option.bind_some, Prod.eta, reduceCtorEq]
        rw [e3]
        exact Or.inl ⟨p, _, _, _, _, fr', hpL, rfl, rfl⟩
      | inr z =>
        obtain ⟨v, b⟩ := z
        have e1 := hN.2 v b hq
        have hb := hB.2 v b hq
        have e1' : (f_Reader_readNumber (tp, hz_nI L, hz_nI (hz_skp tp L a + 1), x, w) (hz_nI 0) (hz_nI 9999)).bind (fun u15 => if u15.fst = false then some (false, u15.snd, t1, t2, t3, t4, t5, t6) else (f_Table_setCell (t1, t2, t3, t4, t5, t6) (hz_nI c) (hz_nI 3 + hz_nI i) u15.snd.snd.snd.snd.fst).bind fun u17 => f_Reader_readDue_68 n1 u15.snd u17 (hz_nI c) (hz_nI i + hz_nI 1)) = f_Reader_readDue_68 n1 (tp, hz_nI L, hz_nI b, hz_nI v, w) (t1, upd t2 (c * 9 + 3 + i) (hz_nI v), t3, t4, t5, t6) (hz_nI c) (hz_nI (i + 1)) := by
          rw [e1]
          simp (disch := omega) only [hz_nI_lit, hz_nI_add, hz_nI_mul, hz_nI_lt, hz_nI_le, hz_nI_inj, hz_nI_sub, hz_nI_nat, hz_nI_inb, hz_nI_pred, hz_nI_m1_lt, hz_nI_lt_m1, hz_nI_m1_le, hz_nI_le_m1, hz_nI_eq_m1, hz_nI_m1_eq, hz_bI0, if_pos, if_neg, if_true, if_false, Option.bind_some, Prod.eta, reduceCtorEq, Bool.true_eq_false]
          rw [hz_p_setCell hc (show 3 + i < 9 by omega)]
          rw [show c * 9 + (3 + i) = c * 9 + 3 + i by omega]
          rfl
        rw [e1']
        rcases hQ.2 v b hq with e2 | ⟨hd, e2⟩
        · rw [e2]
          simp (disch := omega) only [hz_nI_lit, hz_nI_add, hz_nI_mul, hz_nI_lt, hz_nI_le, hz_nI_inj, hz_nI_sub, hz_nI_nat, hz_nI_inb, hz_nI_pred, hz_nI_m1_lt, hz_nI_lt_m1, hz_nI_m1_le, hz_nI_le_m1, hz_nI_eq_m1, hz_nI_m1_eq, hz_bI0, if_pos, if_neg, if_true, if_false, Option.bind_some, Prod.eta, reduceCtorEq]
          have ih := ihk (i + 1) n1 n2 b (hz_nI v) (upd t2 (c * 9 + 3 + i) (hz_nI v)) (upd fr (m + 4 + i) (hz_nI v)) (by omega) (by omega) (by omega) (by omega) hb.2.1
          rcases ih with ih | ⟨b2, x2, t2', i1, i2, i3, i4⟩
          · exact Or.inl ih
          · refine Or.inr ⟨b2, x2, t2', by omega, i2, i3, ?_⟩
            rcases i4 with ⟨fr', j1, j2, j3, j4⟩ | i4
            · refine Or.inl ⟨fr', j1, fun j hj1 hj2 => ?_, fun q hq => ?_, fun q hq => ?_⟩
              · by_cases hji : j = i
                · subst hji
                  refine ⟨v, hb.2.2.2, ?_, ?_⟩
                  · rw [j3 _ (by omega)]; unfold upd; rw [if_pos rfl]
                  · rw [j4 _ (by omega)]; unfold upd; rw [if_pos rfl]
                · exact j2 j (by omega) hj2
              · rw [j3 q (by omega)]; unfold upd; rw [if_neg (by omega)]
              · rw [j4 q (by omega)]; unfold upd; rw [if_neg (by omega)]
            · exact Or.inr i4
        · rw [e2]
          simp (disch := omega) only [hz_nI_lit, hz_nI_add, hz_nI_mul, hz_nI_lt, hz_nI_le, hz_nI_inj, hz_nI_sub, hz_nI_nat, hz_nI_inb, hz_nI_pred, hz_nI_m1_lt, hz_nI_lt_m1, hz_nI_m1_le, hz_nI_le_m1, hz_nI_eq_m1, hz_nI_m1_eq, hz_bI0, if_pos, if_neg, if_true, if_false, Option.bind_some, Prod.eta, reduceCtorEq]
          obtain ⟨fr', e3⟩ := hz_q_due_52W (g1 := g1) (l := hz_nI L) (a := hz_nI b) (show b ≤ 400 by omega) hm (tp := tp) (nm := nm) (ng := ng) (r := r) k (i + 1) n2 (upd fr (m + 4 + i) (hz_nI 0)) (by omega) (by omega)
          rw [e3]
          by_cases hk : k = 0
          · subst hk
            obtain ⟨n1', rfl⟩ : ∃ n', n1 = n' + 1 := ⟨n1 - 1, by omega⟩
            rw [f_Reader_readDue_68]
            have : i = 3 := by omega
            subst this
            simp (disch := omega) only [hz_nI_lit, hz_nI_add, hz_nI_mul, hz_nI_lt, hz_nI_le, hz_nI_inj, hz_nI_sub, hz_nI_nat, hz_nI_inb, hz_nI_pred, hz_nI_m1_lt, hz_nI_lt_m1, hz_nI_m1_le, hz_nI_le_m1, hz_nI_eq_m1, hz_nI_m1_eq, hz_bI0, if_pos, if_neg, if_true, if_false, Option.bind_some, Prod.eta, reduceCtorEq]
            exact Or.inr ⟨b, _, _, by omega, hb.2.1, rfl, Or.inr ⟨hd, fr', rfl⟩⟩
          · obtain ⟨n1', rfl⟩ : ∃ n', n1 = n' + 1 := ⟨n1 - 1, by omega⟩
            rw [f_Reader_readDue_68]
            unfold f_Reader_readDue_85
            have e5 : f_Reader_take (tp, hz_nI L, hz_nI b, hz_nI v, w) (hz_nI 44) = some (false, (tp, hz_nI L, hz_nI b, hz_nI v, hz_nI b)) := hz_p_takeD hL hb.2.1 hd (by decide)
            simp (disch := omega) only [hz_nI_lit, hz_nI_add, hz_nI_mul, hz_nI_lt, hz_nI_le, hz_nI_inj, hz_nI_sub, hz_nI_nat, hz_nI_inb, hz_nI_pred, hz_nI_m1_lt, hz_nI_lt_m1, hz_nI_m1_le, hz_nI_le_m1, hz_nI_eq_m1, hz_nI_m1_eq, hz_bI0, if_pos, if_neg, if_true, if_false, Option.bind_some, Prod.eta, reduceCtorEq, e5]
            exact Or.inl ⟨b, _, _, _, _, fr', hb.2.1, rfl, rfl⟩
    · rw [if_neg c0, if_neg c0]
      simp only [Option.bind_some, hz_nI_lit, hz_bI0, if_true]
      obtain ⟨fr', e3⟩ := hz_q_due_52W (g1 := g1) (l := hz_nI L) (a := hz_nI (hz_skp tp L a)) (show hz_skp tp L a ≤ 400 by omega) hm (tp := tp) (nm := nm) (ng := ng) (r := r) k (i + 1) n2 (upd fr (m + 4 + i) (hz_nI 0)) (by omega) (by omega)
      rw [hz_q_numW (show hz_skp tp L a ≤ 400 by omega)]
      simp (disch := omega) only [hz_nI_lit, hz_nI_add, hz_nI_mul, hz_nI_lt, hz_nI_le, hz_nI_inj, hz_nI_sub, hz_nI_nat, hz_nI_inb, hz_nI_pred, hz_nI_m1_lt, hz_nI_lt_m1, hz_nI_m1_le, hz_nI_le_m1, hz_nI_eq_m1, hz_nI_m1_eq, hz_bI0, if_pos, if_neg, if_true, if_false, Option.bind_some, Prod.eta, reduceCtorEq]
      rw [e3]
      exact Or.inl ⟨_, _, _, _, _, fr', hs.2, rfl, rfl⟩
