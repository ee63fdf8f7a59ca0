set_option maxRecDepth 100000 in
theorem hz_eC_68 {n : Nat} {rd : SReader} {tb : STable} {c : Int32} : f_Reader_readDue_68 (n + 1) rd tb c (hz_nI 0) = f_Reader_readDue_85 (f_Reader_readDue_68 n) rd tb c (hz_nI 0) (hz_nI 64) := by
  rw [f_Reader_readDue_68]; simp (disch := omega) only [hz_nI_lit, hz_nI_add, hz_nI_mul, hz_nI_lt, hz_nI_le, hz_nI_inj, hz_nI_sub, hz_nI_nat, hz_nI_inb, hz_nI_pred, hz_nI_m1_lt, hz_nI_lt_m1, hz_nI_m1_le, hz_nI_le_m1, hz_nI_eq_m1, hz_nI_m1_eq, hz_bI0, if_pos, if_neg, if_true, if_false, Option.bind_some, Prod.eta, reduceCtorEq]
set_option maxRecDepth 100000 in
theorem hz_eM_52 {n : Nat} {md : SModel} {m : Int32} : f_Model_due_52 (n + 1) md m (hz_nI 0) = f_Model_due_67 (f_Model_due_52 n) md m (hz_nI 0) := by
  rw [f_Model_due_52]; simp (disch := omega) only [hz_nI_lit, hz_nI_add, hz_nI_mul, hz_nI_lt, hz_nI_le, hz_nI_inj, hz_nI_sub, hz_nI_nat, hz_nI_inb, hz_nI_pred, hz_nI_m1_lt, hz_nI_lt_m1, hz_nI_m1_le, hz_nI_le_m1, hz_nI_eq_m1, hz_nI_m1_eq, hz_bI0, if_pos, if_neg, if_true, if_false, Option.bind_some, Prod.eta, reduceCtorEq]
set_option maxRecDepth 100000 in
theorem hz_pq_d0 {tp : Nat → Int32} {L : Nat} {w : Int32} {t1 t3 t4 : Nat → Int32} {t5 : Int32} {t6 : Bool} {g1 : Int32 × Int32} {nm : Int32} {ng : Bool} {r : hz_MR} {c m a a1 n1 n2 : Nat} {x : Int32} {t2 fr : Nat → Int32} (hL : L ≤ 400) (hc : c ≤ 12) (hm : m ≤ 516) (ha : a ≤ L) (ha1 : a1 ≤ L) (hsk : hz_skp tp L a1 = hz_skp tp L a) (hn1 : 3 < n1) (hn2 : 3 < n2) :
    hz_oD tp L w t1 t2 t3 t4 t5 t6 g1 nm ng fr r c m 0 a (f_Reader_readDue_68 (n1 + 1) (tp, hz_nI L, hz_nI a, x, w) (t1, t2, t3, t4, t5, t6) (hz_nI c) (hz_nI 0)) (Option.bind (f_Model_take (g1, (hz_nI L, tp, hz_nI a1, -hz_nI 1), (nm, ng, fr), r) (hz_nI 64)) fun u => f_Model_due_52 (n2 + 1) u (hz_nI m) (hz_nI 0)) := by
  have hs := hz_skp_bd (tp := tp) ha
  rw [hz_eC_68]
  simp only [hz_eM_52]
  unfold f_Reader_readDue_85 f_Model_due_67
  rw [hz_p_take hL ha, hz_q_take hL ha1, hsk]
  by_cases c0 : hz_hereT tp L (hz_skp tp L a) = hz_nI 64
  · have hl := hz_hereT_lt c0 (by decide)
    rw [if_pos c0, if_pos c0]
    simp only [Option.bind_some, hz_nI_lit, hz_bI0, Bool.true_eq_false, if_false]
    have hN := hz_p_num (tp := tp) (v := x) (w := w) (lo := 0) (hi := 9999) hL (by omega) (by omega) (show hz_skp tp L a + 1 ≤ L from hl)
    have hQ := hz_q_num (g1 := g1) (tp := tp) (g3 := (nm, ng, fr)) (r := r) (lo := 0) (hi := 9999) hL (by omega) (by omega) (show hz_skp tp L a + 1 ≤ L from hl)
    have hB := hz_numS_bd (tp := tp) (lo := 0) (hi := 9999) (by omega) (show hz_skp tp L a + 1 ≤ L from hl)
    cases hq : hz_numS tp L 0 9999 (hz_skp tp L a + 1) with
    | inl p =>
      obtain ⟨b, y, hb, e1⟩ := hN.1 p hq
      obtain ⟨b1, hb1, e2⟩ := hQ.1 p hq
      have hpL := hB.1 p hq
      obtain ⟨fr', e3⟩ := hz_q_due_52W (g1 := g1) (l := hz_nI L) (a := hz_nI b1) (show p ≤ 400 by omega) hm (tp := tp) (nm := nm) (ng := ng) (r := r) 3 1 n2 (upd fr (m + 4 + 0) (hz_nI 0)) (by omega) (by omega)
      rw [e1, e2]
      simp (disch := omega) only [hz_nI_lit, hz_nI_add, hz_nI_mul, hz_nI_lt, hz_nI_le, hz_nI_inj, hz_nI_sub, hz_nI_nat, hz_nI_inb, hz_nI_pred, hz_nI_m1_lt, hz_nI_lt_m1, hz_nI_m1_le, hz_nI_le_m1, hz_nI_eq_m1, hz_nI_m1_eq, hz_bI0, if_pos, if_neg, if_true, if_false, Option.bind_some, Prod.eta, reduceCtorEq]
      rw [e3]
      exact Or.inl ⟨p, _, _, _, _, fr', hpL, rfl, rfl⟩
    | inr z =>
      obtain ⟨v, b⟩ := z
      have e1 := hN.2 v b hq
      have hb := hB.2 v b hq
      rw [e1]
      have e9 : f_Table_setCell (t1, t2, t3, t4, t5, t6) (hz_nI c) (hz_nI (3 + 0)) (hz_nI v) = some (t1, upd t2 (c * 9 + 3) (hz_nI v), t3, t4, t5, t6) := hz_p_setCell hc (show 3 + 0 < 9 by omega)
      rcases hQ.2 v b hq with e2 | ⟨hd, e2⟩
      · rw [e2]
        simp (disch := omega) only [hz_nI_lit, hz_nI_add, hz_nI_mul, hz_nI_lt, hz_nI_le, hz_nI_inj, hz_nI_sub, hz_nI_nat, hz_nI_inb, hz_nI_pred, hz_nI_m1_lt, hz_nI_lt_m1, hz_nI_m1_le, hz_nI_le_m1, hz_nI_eq_m1, hz_nI_m1_eq, hz_bI0, if_pos, if_neg, if_true, if_false, Option.bind_some, Prod.eta, reduceCtorEq, Bool.true_eq_false, e9]
        have ih := hz_pq_dist (tp := tp) (w := w) (t1 := t1) (t3 := t3) (t4 := t4) (t5 := t5) (t6 := t6) (g1 := g1) (nm := nm) (ng := ng) (r := r) hL hc hm 3 1 n1 n2 b (hz_nI v) (upd t2 (c * 9 + 3) (hz_nI v)) (upd fr (m + 4 + 0) (hz_nI v)) (by omega) (by omega) (by omega) (by omega) hb.2.1
        rcases ih with ih | ⟨b2, x2, t2', i1, i2, i3, i4⟩
        · exact Or.inl ih
        · refine Or.inr ⟨b2, x2, t2', by omega, i2, i3, ?_⟩
          rcases i4 with ⟨fr', j1, j2, j3, j4⟩ | i4
          · refine Or.inl ⟨fr', j1, fun j hj1 hj2 => ?_, fun q hq => ?_, fun q hq => ?_⟩
            · by_cases hji : j = 0
              · subst hji
                refine ⟨v, hb.2.2.2, ?_, ?_⟩
                · rw [j3 _ (by omega)]; unfold upd; rw [if_pos rfl]
                · rw [j4 _ (by omega)]; unfold upd; rw [if_pos rfl]
              · exact j2 j (by omega) hj2
            · rw [j3 q (by omega)]; unfold upd; rw [if_neg (by omega)]
            · rw [j4 q (by omega)]; unfold upd; rw [if_neg (by omega)]
          · exact Or.inr i4
      · rw [e2]
        obtain ⟨fr', e3⟩ := hz_q_due_52W (g1 := g1) (l := hz_nI L) (a := hz_nI b) (show b ≤ 400 by omega) hm (tp := tp) (nm := nm) (ng := ng) (r := r) 3 1 n2 (upd fr (m + 4 + 0) (hz_nI 0)) (by omega) (by omega)
        obtain ⟨n1', rfl⟩ : ∃ n', n1 = n' + 1 := ⟨n1 - 1, by omega⟩
        have e5 : f_Reader_take (tp, hz_nI L, hz_nI b, hz_nI v, w) (hz_nI 44) = some (false, (tp, hz_nI L, hz_nI b, hz_nI v, hz_nI b)) := hz_p_takeD hL hb.2.1 hd (by decide)
        have e6 : ∀ t2', f_Reader_readDue_68 (n1' + 1) (tp, hz_nI L, hz_nI b, hz_nI v, w) (t1, t2', t3, t4, t5, t6) (hz_nI c) (hz_nI (0 + 1)) = some (false, (tp, hz_nI L, hz_nI b, hz_nI v, hz_nI b), (t1, t2', t3, t4, t5, t6)) := by
          intro t2'
          rw [f_Reader_readDue_68]
          unfold f_Reader_readDue_85
          simp (disch := omega) only [hz_nI_lit, hz_nI_add, hz_nI_mul, hz_nI_lt, hz_nI_le, hz_nI_inj, hz_nI_sub, hz_nI_nat, hz_nI_inb, hz_nI_pred, hz_nI_m1_lt, hz_nI_lt_m1, hz_nI_m1_le, hz_nI_le_m1, hz_nI_eq_m1, hz_nI_m1_eq, hz_bI0, if_pos, if_neg, if_true, if_false, Option.bind_some, Prod.eta, reduceCtorEq, e5]
        simp (disch := omega) only [hz_nI_lit, hz_nI_add, hz_nI_mul, hz_nI_lt, hz_nI_le, hz_nI_inj, hz_nI_sub, hz_nI_nat, hz_nI_inb, hz_nI_pred, hz_nI_m1_lt, hz_nI_lt_m1, hz_nI_m1_le, hz_nI_le_m1, hz_nI_eq_m1, hz_nI_m1_eq, hz_bI0, if_pos, if_neg, if_true, if_false, Option.bind_some, Prod.eta, reduceCtorEq, Bool.true_eq_false, e9]
        rw [e3, e6]
        exact Or.inl ⟨b, _, _, _, _, fr', hb.2.1, rfl, rfl⟩
  · rw [if_neg c0, if_neg c0]
    simp only [Option.bind_some, hz_nI_lit, hz_bI0, if_true]
    obtain ⟨fr', e3⟩ := hz_q_due_52W (g1 := g1) (l := hz_nI L) (a := hz_nI (hz_skp tp L a)) (show hz_skp tp L a ≤ 400 by omega) hm (tp := tp) (nm := nm) (ng := ng) (r := r) 3 1 n2 (upd fr (m + 4 + 0) (hz_nI 0)) (by omega) (by omega)
    rw [hz_q_numW (show hz_skp tp L a ≤ 400 by omega)]
    simp (disch := omega) only [hz_nI_lit, hz_nI_add, hz_nI_mul, hz_nI_lt, hz_nI_le, hz_nI_inj, hz_nI_sub, hz_nI_nat, hz_nI_inb, hz_nI_pred, hz_nI_m1_lt, hz_nI_lt_m1, hz_nI_m1_le, hz_nI_le_m1, hz_nI_eq_m1, hz_nI_m1_eq, hz_bI0, if_pos, if_neg, if_true, if_false, Option.bind_some, Prod.eta, reduceCtorEq]
    rw [e3]
    exact Or.inl ⟨_, _, _, _, _, fr', hs.2, rfl, rfl⟩
set_option maxRecDepth 100000 in
theorem hz_q_due_tailW {g1 : Int32 × Int32} {l a : Int32} {p m : Nat} (hp : p ≤ 400) (hm : m ≤ 516) {tp : Nat → Int32} {nm : Int32} {ng : Bool} {fr : Nat → Int32} {r : hz_MR} : ∃ fr', f_Model_due_52 4096 (g1, (l, tp, a, hz_nI p), (nm, ng, fr), r) (hz_nI m) (hz_nI 0) = some (g1, (l, tp, a, hz_nI p), (nm, ng, fr'), r) :=
  hz_q_due_52W hp hm 4 0 4096 fr (by omega) (by omega)
set_option maxRecDepth 100000 in
def hz_oDue (tp : Nat → Int32) (L : Nat) (w : Int32) (t1 t2 t3 t4 : Nat → Int32) (t5 : Int32) (t6 : Bool) (g1 : Int32 × Int32) (nm : Int32) (ng : Bool) (fr : Nat → Int32) (r : hz_MR) (c m a : Nat) (C : Option (Bool × SReader × STable)) (M : Option SModel) : Prop :=
  hz_oF tp L g1 nm ng r C M ∨
  ∃ b x t2', a ≤ b ∧ b ≤ L ∧ C = some (true, (tp, hz_nI L, hz_nI b, x, w), (t1, t2', t3, t4, t5, t6)) ∧
    ((∃ fr', M = some (g1, (hz_nI L, tp, hz_nI b, -hz_nI 1), (nm, ng, fr'), r) ∧ t2' (c * 9 + 1) = fr' (m + 2) ∧ t2' (c * 9 + 2) = fr' (m + 3) ∧ (∀ j, j < 4 → ∃ d, d ≤ 9999 ∧ t2' (c * 9 + 3 + j) = hz_nI d ∧ fr' (m + 4 + j) = hz_nI d) ∧ (∀ q, ¬ (c * 9 + 1 ≤ q ∧ q < c * 9 + 7) → t2' q = t2 q) ∧ (∀ q, ¬ (m + 2 ≤ q ∧ q < m + 8) → fr' q = fr q)) ∨
     (hz_dg (hz_hereT tp L b) = true ∧ ∃ fr', M = some (g1, (hz_nI L, tp, hz_nI b, hz_nI b), (nm, ng, fr'), r)))
set_option maxRecDepth 100000 in
theorem hz_q_dueW {g1 : Int32 × Int32} {l a : Int32} {p m : Nat} (hp : p ≤ 400) (hm : m ≤ 516) {tp : Nat → Int32} {nm : Int32} {ng : Bool} {fr : Nat → Int32} {r : hz_MR} : ∃ fr', f_Model_due (g1, (l, tp, a, hz_nI p), (nm, ng, fr), r) (hz_nI m) = some (g1, (l, tp, a, hz_nI p), (nm, ng, fr'), r) := by
  obtain ⟨fr', e⟩ := hz_q_due_tailW (g1 := g1) (l := l) (a := a) hp hm (tp := tp) (nm := nm) (ng := ng) (fr := upd (upd fr (m + 2) (hz_nI 0)) (m + 3) (hz_nI 0)) (r := r)
  refine ⟨fr', ?_⟩
  unfold f_Model_due
  simp (disch := omega) only [hz_nI_lit, hz_nI_add, hz_nI_mul, hz_nI_lt, hz_nI_le, hz_nI_inj, hz_nI_sub, hz_nI_nat, hz_nI_inb, hz_nI_pred, hz_nI_m1_lt, hz_nI_lt_m1, hz_nI_m1_le, hz_nI_le_m1, hz_nI_eq_m1, hz_nI_m1_eq, hz_bI0, if_pos, if_neg, if_true, if_false, Option.bind_some, Prod.eta, reduceCtorEq, hz_q_takeW hp, hz_q_numW hp, hz_q_riseW hp]
  exact e
