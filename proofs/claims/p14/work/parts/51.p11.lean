set_option maxRecDepth 100000 in
noncomputable def hz_chC (rd : SReader) (tb : STable) : Option (Bool × SReader × STable) :=
  (Option.bind (f_Reader_readClass rd tb tb.2.2.2.2.1) fun u7 =>
    (if (bI u7.1) = 0 then
      (some (false, u7.2.1, u7.2.2))
     else
      (Option.bind (f_Reader_readDue u7.2.1 u7.2.2 u7.2.2.2.2.2.2.1) fun u9 =>
        (if (bI u9.1) = 0 then
          (some (false, u9.2.1, u9.2.2))
         else
          (Option.bind (f_Reader_readOtherClasses u9.2.1 u9.2.2 u9.2.2.2.2.2.2.1) fun u11 =>
            (if (bI u11.1) = 0 then
              (some (false, u11.2.1, u11.2.2))
             else
              (Option.bind (f_Reader_take u11.2.1 (59 : Int32)) fun u13 =>
                (if (bI u13.1) = 0 then
                  (some (false, u13.2, u11.2.2))
                 else
                  (some (true, u13.2, u11.2.2))))))))))
set_option maxRecDepth 100000 in
theorem hz_q_229W {g1 : Int32 × Int32} {l a : Int32} {p : Nat} (hp : p ≤ 400) {tp : Nat → Int32} {nm : Int32} {ng : Bool} {fr : Nat → Int32} {r : hz_MR} : f_Model_materialRow_229 (g1, (l, tp, a, hz_nI p), (nm, ng, fr), r) = some (g1, (l, tp, a, hz_nI p), (nm + hz_nI 1, ng, fr), r) := by
  unfold f_Model_materialRow_229
  rw [hz_q_takeW hp]
  simp only [Option.bind_some, hz_nI_lit, Prod.eta]
set_option maxRecDepth 100000 in
theorem hz_q_147W {g1 : Int32 × Int32} {l a : Int32} {p m : Nat} (hp : p ≤ 400) (hm : m ≤ 516) {tp : Nat → Int32} {nm : Int32} {ng : Bool} {fr : Nat → Int32} {r : hz_MR} : ∃ fr', f_Model_materialRow_147 (g1, (l, tp, a, hz_nI p), (nm, ng, fr), r) (hz_nI m) = some (g1, (l, tp, a, hz_nI p), (nm + hz_nI 1, ng, fr'), r) := by
  obtain ⟨fr', e⟩ := hz_q_dueW (g1 := g1) (l := l) (a := a) hp hm (tp := tp) (nm := nm) (ng := ng) (fr := upd fr (m + 1) (hz_nI 1)) (r := r)
  refine ⟨upd fr' (m + 8) (hz_nI 0), ?_⟩
  unfold f_Model_materialRow_147
  simp (disch := omega) only [hz_nI_lit, hz_nI_add, hz_nI_mul, hz_nI_lt, hz_nI_le, hz_nI_inj, hz_nI_sub, hz_nI_nat, hz_nI_inb, hz_nI_pred, hz_nI_m1_lt, hz_nI_lt_m1, hz_nI_m1_le, hz_nI_le_m1, hz_nI_eq_m1, hz_nI_m1_eq, hz_bI0, if_pos, if_neg, if_true, if_false, Option.bind_some, Prod.eta, reduceCtorEq, hz_q_takeW hp, hz_q_numW hp, e, hz_q_229W hp]
set_option maxRecDepth 100000 in
def hz_oTail (tp : Nat → Int32) (L : Nat) (w : Int32) (t1 t2 t3 t4 : Nat → Int32) (t6 : Bool) (g1 : Int32 × Int32) (nm : Int32) (ng : Bool) (fr : Nat → Int32) (r : hz_MR) (c m a : Nat) (C : Option (Bool × SReader × STable)) (M : Option SModel) : Prop :=
  hz_oF tp L g1 (nm + hz_nI 1) ng r C M ∨
  ∃ b x t2' fr', a ≤ b ∧ b ≤ L ∧ C = some (true, (tp, hz_nI L, hz_nI b, x, w), (t1, t2', t3, t4, hz_nI c, t6)) ∧ M = some (g1, (hz_nI L, tp, hz_nI b, -hz_nI 1), (nm + hz_nI 1, ng, fr'), r) ∧
    t2' (c * 9 + 0) = fr' (m + 1) ∧ t2' (c * 9 + 1) = fr' (m + 2) ∧ t2' (c * 9 + 2) = fr' (m + 3) ∧ (∀ j, j < 4 → ∃ d, d ≤ 9999 ∧ t2' (c * 9 + 3 + j) = hz_nI d ∧ fr' (m + 4 + j) = hz_nI d) ∧ t2' (c * 9 + 7) = fr' (m + 8) ∧
    (∀ q, ¬ (c * 9 ≤ q ∧ q < c * 9 + 8) → t2' q = t2 q) ∧ (∀ q, ¬ (m + 1 ≤ q ∧ q < m + 9) → fr' q = fr q)
set_option maxRecDepth 100000 in
theorem hz_upd_eq (f : Nat → Int32) (k : Nat) (x : Int32) : upd f k x k = x := if_pos rfl
set_option maxRecDepth 100000 in
theorem hz_upd_ne {f : Nat → Int32} {k j : Nat} {x : Int32} (h : j ≠ k) : upd f k x j = f j := if_neg h
set_option maxRecDepth 100000 in
theorem hz_pq_tail {tp : Nat → Int32} {L : Nat} {w : Int32} {t1 t2 t3 t4 : Nat → Int32} {t6 : Bool} {g1 : Int32 × Int32} {nm : Int32} {ng : Bool} {fr : Nat → Int32} {r : hz_MR} {c m a : Nat} {x : Int32} (hL : L ≤ 400) (hc : c ≤ 12) (hm : m ≤ 516) (ha : a ≤ L) (h7 : t2 (c * 9 + 7) = hz_nI 0) :
    hz_oTail tp L w t1 t2 t3 t4 t6 g1 nm ng fr r c m a (hz_chC (tp, hz_nI L, hz_nI a, x, w) (t1, t2, t3, t4, hz_nI c, t6)) (f_Model_materialRow_147 (g1, (hz_nI L, tp, hz_nI a, -hz_nI 1), (nm, ng, fr), r) (hz_nI m)) := by
  have hs := hz_skp_bd (tp := tp) ha
  by_cases c0 : hz_hereT tp L (hz_skp tp L a) = hz_nI 99
  · have hl := hz_hereT_lt c0 (by decide)
    have hN := hz_p_num (tp := tp) (v := x) (w := w) (lo := 1) (hi := 9) hL (by omega) (by omega) (show hz_skp tp L a + 1 ≤ L from hl)
    have hQ := hz_q_num (g1 := g1) (tp := tp) (g3 := (nm, ng, fr)) (r := r) (lo := 1) (hi := 9) hL (by omega) (by omega) (show hz_skp tp L a + 1 ≤ L from hl)
    have hB := hz_numS_bd (tp := tp) (lo := 1) (hi := 9) (by omega) (show hz_skp tp L a + 1 ≤ L from hl)
    have tailW : ∀ {a' : Int32} {p : Nat} {f1 : Nat → Int32}, p ≤ 400 → ∃ fr', (Option.bind (f_Model_due (g1, (hz_nI L, tp, a', hz_nI p), (nm, ng, f1), r) (hz_nI m)) fun u21 => (if 0 ≤ u21.2.1.2.2.2 then (f_Model_materialRow_229 (u21.1, u21.2.1, (u21.2.2.1.1, u21.2.2.1.2.1, upd u21.2.2.1.2.2 (m + 8) (hz_nI 0)), u21.2.2.2)) else none)) = some (g1, (hz_nI L, tp, a', hz_nI p), (nm + hz_nI 1, ng, fr'), r) := by
      intro a' p f1 hp
      obtain ⟨fr', e⟩ := hz_q_dueW (g1 := g1) (l := hz_nI L) (a := a') hp hm (tp := tp) (nm := nm) (ng := ng) (fr := f1) (r := r)
      refine ⟨upd fr' (m + 8) (hz_nI 0), ?_⟩
      simp (disch := omega) only [hz_nI_lit, hz_nI_add, hz_nI_mul, hz_nI_lt, hz_nI_le, hz_nI_inj, hz_nI_sub, hz_nI_nat, hz_nI_inb, hz_nI_pred, hz_nI_m1_lt, hz_nI_lt_m1, hz_nI_m1_le, hz_nI_le_m1, hz_nI_eq_m1, hz_nI_m1_eq, hz_bI0, if_pos, if_neg, if_true, if_false, Option.bind_some, Prod.eta, reduceCtorEq, e, hz_q_229W hp]
    cases hq : hz_numS tp L 1 9 (hz_skp tp L a + 1) with
    | inl p =>
      obtain ⟨b, y, hb, e1⟩ := hN.1 p hq
      obtain ⟨b1, hb1, e2⟩ := hQ.1 p hq
      have hpL := hB.1 p hq
      have eC : hz_chC (tp, hz_nI L, hz_nI a, x, w) (t1, t2, t3, t4, hz_nI c, t6) = some (false, (tp, hz_nI L, hz_nI b, y, hz_nI p), (t1, t2, t3, t4, hz_nI c, t6)) := by
        unfold hz_chC f_Reader_readClass
        simp only [hz_nI_lit]
        rw [hz_p_take hL ha, if_pos c0]
        simp only [Option.bind_some, hz_bI0, Bool.true_eq_false, if_false]
        rw [e1]
        simp only [Option.bind_some, hz_bI0, if_true]
      obtain ⟨fr', eD⟩ := hz_q_dueW (g1 := g1) (l := hz_nI L) (a := hz_nI b1) (show p ≤ 400 by omega) hm (tp := tp) (nm := nm) (ng := ng) (fr := upd fr (m + 1) (hz_nI 1)) (r := r)
      have eM : f_Model_materialRow_147 (g1, (hz_nI L, tp, hz_nI a, -hz_nI 1), (nm, ng, fr), r) (hz_nI m) = some (g1, (hz_nI L, tp, hz_nI b1, hz_nI p), (nm + hz_nI 1, ng, upd fr' (m + 8) (hz_nI 0)), r) := by
        unfold f_Model_materialRow_147
        simp (disch := omega) only [hz_nI_lit, hz_nI_add, hz_nI_mul, hz_nI_lt, hz_nI_le, hz_nI_inj, hz_nI_sub, hz_nI_nat, hz_nI_inb, hz_nI_pred, hz_nI_m1_lt, hz_nI_lt_m1, hz_nI_m1_le, hz_nI_le_m1, hz_nI_eq_m1, hz_nI_m1_eq, hz_bI0, if_pos, if_neg, if_true, if_false, Option.bind_some, Prod.eta, reduceCtorEq, hz_q_take hL ha, c0, e2, eD, hz_q_229W (show p ≤ 400 by omega)]
      rw [eC, eM]
      exact Or.inl ⟨p, _, _, _, _, _, hpL, rfl, rfl⟩
    | inr z =>
      obtain ⟨v, b⟩ := z
      have e1 := hN.2 v b hq
      have hb := hB.2 v b hq
      have e9 : f_Table_setCell (t1, t2, t3, t4, hz_nI c, t6) (hz_nI c) (hz_nI 0) (hz_nI v) = some (t1, upd t2 (c * 9 + 0) (hz_nI v), t3, t4, hz_nI c, t6) := hz_p_setCell hc (show 0 < 9 by omega)
      have eC0 : f_Reader_readClass (tp, hz_nI L, hz_nI a, x, w) (t1, t2, t3, t4, hz_nI c, t6) (hz_nI c) = some (true, (tp, hz_nI L, hz_nI b, hz_nI v, w), (t1, upd t2 (c * 9 + 0) (hz_nI v), t3, t4, hz_nI c, t6)) := by
        unfold f_Reader_readClass
        simp only [hz_nI_lit]
        rw [hz_p_take hL ha, if_pos c0]
        simp only [Option.bind_some, hz_bI0, Bool.true_eq_false, if_false]
        rw [e1]
        simp only [Option.bind_some, hz_bI0, Bool.true_eq_false, if_false, e9]
      rcases hQ.2 v b hq with e2 | ⟨hd, e2⟩
      · have hDue := hz_pq_due (tp := tp) (w := w) (t1 := t1) (t2 := upd t2 (c * 9 + 0) (hz_nI v)) (t3 := t3) (t4 := t4) (t5 := hz_nI c) (t6 := t6) (g1 := g1) (nm := nm) (ng := ng) (fr := upd fr (m + 1) (hz_nI v)) (r := r) (c := c) (m := m) (a := b) (x := hz_nI v) hL hc hm hb.2.1
        rcases hDue with ⟨p, b3, x3, tb3, b4, fr3, k1, k2, k3⟩ | ⟨b3, x3, t2', k1, k2, k3, k4⟩
        · have eC : hz_chC (tp, hz_nI L, hz_nI a, x, w) (t1, t2, t3, t4, hz_nI c, t6) = some (false, (tp, hz_nI L, b3, x3, hz_nI p), tb3) := by
            unfold hz_chC
            rw [eC0]
            simp only [Option.bind_some, hz_nI_lit, hz_bI0, Bool.true_eq_false, if_false]
            rw [k2]
            simp only [Option.bind_some, if_true, hz_bI0]
          have eM : f_Model_materialRow_147 (g1, (hz_nI L, tp, hz_nI a, -hz_nI 1), (nm, ng, fr), r) (hz_nI m) = some (g1, (hz_nI L, tp, b4, hz_nI p), (nm + hz_nI 1, ng, upd fr3 (m + 8) (hz_nI 0)), r) := by
            unfold f_Model_materialRow_147
            simp (disch := omega) only [hz_nI_lit, hz_nI_add, hz_nI_mul, hz_nI_lt, hz_nI_le, hz_nI_inj, hz_nI_sub, hz_nI_nat, hz_nI_inb, hz_nI_pred, hz_nI_m1_lt, hz_nI_lt_m1, hz_nI_m1_le, hz_nI_le_m1, hz_nI_eq_m1, hz_nI_m1_eq, hz_bI0, if_pos, if_neg, if_true, if_false, Option.bind_some, Prod.eta, reduceCtorEq, hz_q_take hL ha, c0, e2, k3, hz_q_229W (show p ≤ 400 by omega)]
          rw [eC, eM]
          exact Or.inl ⟨p, _, _, _, _, _, k1, rfl, rfl⟩
        · have hsb := hz_skp_bd (tp := tp) k2
          rcases k4 with ⟨fr3, l1, l2, l3, l4, l5, l6⟩ | ⟨hd, fr3, l1⟩
          · by_cases cx : hz_hereT tp L (hz_skp tp L b3) = hz_nI 120
            · have hlx := hz_hereT_lt cx (by decide)
              have hN2 := hz_p_rise (tp := tp) (v := x3) (w := w) (f := 49) (t := 57) (z := 48) (most := 3) hL (by omega) (by omega) (by omega) (by omega) (show hz_skp tp L b3 + 1 ≤ L from hlx)
              have hQ2 := hz_q_rise (g1 := g1) (tp := tp) (g3 := (nm, ng, upd fr3 (m + 8) (hz_nI 0))) (r := r) (f := 49) (t := 57) (most := 3) hL (by omega) (by omega) (by omega) (by omega) (by omega) (show hz_skp tp L b3 + 1 ≤ L from hlx)
              have hB2 := hz_riseS_bd (tp := tp) (f := 49) (t := 57) (z := 49) (most := 3) (by omega) (by omega) (by omega) (show hz_skp tp L b3 + 1 ≤ L from hlx)
              have hSh := hz_riseS_shl tp L (hz_skp tp L b3 + 1)
              cases hq2 : hz_riseS tp L 49 57 49 3 (hz_skp tp L b3 + 1) with
              | inl p =>
                have hpL := hB2.1 p hq2
                have eC : hz_chC (tp, hz_nI L, hz_nI a, x, w) (t1, t2, t3, t4, hz_nI c, t6) = some (false, (tp, hz_nI L, hz_nI p, hz_nI 0, hz_nI p), (t1, t2', t3, t4, hz_nI c, t6)) := by
                  unfold hz_chC
                  rw [eC0]
                  simp only [Option.bind_some, hz_nI_lit, hz_bI0, Bool.true_eq_false, if_false]
                  rw [k3]
                  simp only [Option.bind_some, hz_bI0, Bool.true_eq_false, if_false]
                  unfold f_Reader_readOtherClasses
                  rw [hz_p_peek hL k2]
                  simp only [Option.bind_some, hz_nI_lit, cx, if_true, hz_nI_add]
                  rw [hN2.1 p (hSh.1 p hq2)]
                  simp only [Option.bind_some, hz_bI0, if_true]
                have eM : f_Model_materialRow_147 (g1, (hz_nI L, tp, hz_nI a, -hz_nI 1), (nm, ng, fr), r) (hz_nI m) = some (g1, (hz_nI L, tp, hz_nI p, hz_nI p), (nm + hz_nI 1, ng, upd (upd fr3 (m + 8) (hz_nI 0)) (m + 8) (hz_nI 0 <<< (hz_nI 1 &&& hz_nI 31))), r) := by
                  unfold f_Model_materialRow_147
                  simp (disch := omega) only [hz_nI_lit, hz_nI_add, hz_nI_mul, hz_nI_lt, hz_nI_le, hz_nI_inj, hz_nI_sub, hz_nI_nat, hz_nI_inb, hz_nI_pred, hz_nI_m1_lt, hz_nI_lt_m1, hz_nI_m1_le, hz_nI_le_m1, hz_nI_eq_m1, hz_nI_m1_eq, hz_bI0, if_pos, if_neg, if_true, if_false, Option.bind_some, Prod.eta, reduceCtorEq, hz_q_take hL ha, c0, e2, l1, hz_q_see hL k2, cx, hQ2.1 p hq2, hz_q_229W (show p ≤ 400 by omega)]
                rw [eC, eM]
                exact Or.inl ⟨p, _, _, _, _, _, hpL, rfl, rfl⟩
              | inr z =>
                obtain ⟨bt, d⟩ := z
                have hd2 := hB2.2 bt d hq2
                have hsd := hz_skp_bd (tp := tp) hd2.2
                have e10 : f_Table_setCell (t1, t2', t3, t4, hz_nI c, t6) (hz_nI c) (hz_nI 7) (bt <<< (hz_nI 1 &&& hz_nI 31)) = some (t1, upd t2' (c * 9 + 7) (bt <<< (hz_nI 1 &&& hz_nI 31)), t3, t4, hz_nI c, t6) := hz_p_setCell hc (show 7 < 9 by omega)
                have eC1 : hz_chC (tp, hz_nI L, hz_nI a, x, w) (t1, t2, t3, t4, hz_nI c, t6) = Option.bind (f_Reader_take (tp, hz_nI L, hz_nI (hz_skp tp L d), bt <<< (hz_nI 1 &&& hz_nI 31), w) (hz_nI 59)) fun u13 => if u13.1 = false then some (false, u13.2, (t1, upd t2' (c * 9 + 7) (bt <<< (hz_nI 1 &&& hz_nI 31)), t3, t4, hz_nI c, t6)) else some (true, u13.2, (t1, upd t2' (c * 9 + 7) (bt <<< (hz_nI 1 &&& hz_nI 31)), t3, t4, hz_nI c, t6)) := by
                  unfold hz_chC
                  rw [eC0]
                  simp only [Option.bind_some, hz_nI_lit, hz_bI0, Bool.true_eq_false, if_false]
                  rw [k3]
                  simp only [Option.bind_some, hz_bI0, Bool.true_eq_false, if_false]
                  unfold f_Reader_readOtherClasses
                  rw [hz_p_peek hL k2]
                  simp only [Option.bind_some, hz_nI_lit, cx, if_true, hz_nI_add]
                  rw [hN2.2 _ _ (hSh.2 bt d hq2)]
                  simp only [Option.bind_some, hz_bI0, Bool.true_eq_false, if_false, e10]
                rw [eC1, hz_p_take hL hsd.2, hz_skp_skp]
                rcases hQ2.2 bt d hq2 with ⟨a1, h1, e3⟩ | ⟨hd, b1, e3⟩
                · have ha1 : a1 ≤ L := by rcases h1 with rfl | rfl <;> omega
                  have hsk : hz_skp tp L a1 = hz_skp tp L d := by
                    rcases h1 with rfl | rfl
                    · rfl
                    · rw [hz_skp_skp]
                  have eM1 : f_Model_materialRow_147 (g1, (hz_nI L, tp, hz_nI a, -hz_nI 1), (nm, ng, fr), r) (hz_nI m) = f_Model_materialRow_229 (g1, (hz_nI L, tp, hz_nI a1, -hz_nI 1), (nm, ng, upd (upd fr3 (m + 8) (hz_nI 0)) (m + 8) (bt <<< (hz_nI 1 &&& hz_nI 31))), r) := by
                    unfold f_Model_materialRow_147
                    simp (disch := omega) only [hz_nI_lit, hz_nI_add, hz_nI_mul, hz_nI_lt, hz_nI_le, hz_nI_inj, hz_nI_sub, hz_nI_nat, hz_nI_inb, hz_nI_pred, hz_nI_m1_lt, hz_nI_lt_m1, hz_nI_m1_le, hz_nI_le_m1, hz_nI_eq_m1, hz_nI_m1_eq, hz_bI0, if_pos, if_neg, if_true, if_false, Option.bind_some, Prod.eta, reduceCtorEq, hz_q_take hL ha, c0, e2, l1, hz_q_see hL k2, cx, e3]
                  rw [eM1]
                  unfold f_Model_materialRow_229
                  simp only [hz_nI_lit]
                  rw [hz_q_take hL ha1, hsk]
                  by_cases c5 : hz_hereT tp L (hz_skp tp L d) = hz_nI 59
                  · have hl5 := hz_hereT_lt c5 (by decide)
                    rw [if_pos c5, if_pos c5]
                    simp only [Option.bind_some, Bool.true_eq_false, if_false, Prod.eta]
                    refine Or.inr ⟨_, _, _, _, ?_, hl5, rfl, rfl, ?_, ?_, ?_, ?_, ?_, ?_, ?_⟩
                    · omega
                    · rw [hz_upd_ne (by omega), hz_upd_ne (by omega), hz_upd_ne (by omega), l5 _ (by omega), l6 _ (by omega), hz_upd_eq, hz_upd_eq]
                    · rw [hz_upd_ne (by omega), hz_upd_ne (by omega), hz_upd_ne (by omega), l2]
                    · rw [hz_upd_ne (by omega), hz_upd_ne (by omega), hz_upd_ne (by omega), l3]
                    · intro j hj
                      rw [hz_upd_ne (by omega), hz_upd_ne (by omega), hz_upd_ne (by omega)]
                      exact l4 j hj
                    · rw [hz_upd_eq, hz_upd_eq]
                    · intro q hq
                      rw [hz_upd_ne (by omega), l5 _ (by omega), hz_upd_ne (by omega)]
                    · intro q hq
                      rw [hz_upd_ne (by omega), hz_upd_ne (by omega), l6 _ (by omega), hz_upd_ne (by omega)]
                  · rw [if_neg c5, if_neg c5]
                    simp only [Option.bind_some, if_true, Prod.eta]
                    exact Or.inl ⟨_, _, _, _, _, _, hsd.2, rfl, rfl⟩
                · have eM1 : f_Model_materialRow_147 (g1, (hz_nI L, tp, hz_nI a, -hz_nI 1), (nm, ng, fr), r) (hz_nI m) = some (g1, (hz_nI L, tp, hz_nI (hz_skp tp L d), hz_nI (hz_skp tp L d)), (nm + hz_nI 1, ng, upd (upd fr3 (m + 8) (hz_nI 0)) (m + 8) (b1 <<< (hz_nI 1 &&& hz_nI 31))), r) := by
                    unfold f_Model_materialRow_147
                    simp (disch := omega) only [hz_nI_lit, hz_nI_add, hz_nI_mul, hz_nI_lt, hz_nI_le, hz_nI_inj, hz_nI_sub, hz_nI_nat, hz_nI_inb, hz_nI_pred, hz_nI_m1_lt, hz_nI_lt_m1, hz_nI_m1_le, hz_nI_le_m1, hz_nI_eq_m1, hz_nI_m1_eq, hz_bI0, if_pos, if_neg, if_true, if_false, Option.bind_some, Prod.eta, reduceCtorEq, hz_q_take hL ha, c0, e2, l1, hz_q_see hL k2, cx, e3, hz_q_229W (show hz_skp tp L d ≤ 400 by omega)]
                  rw [eM1]
                  obtain ⟨d9, f1, f2, f3⟩ := hz_inR_eq (by omega) (by omega) hd
                  rw [if_neg (by rw [f3]; simp (disch := omega) only [hz_nI_lit, hz_nI_add, hz_nI_mul, hz_nI_lt, hz_nI_le, hz_nI_inj, hz_nI_sub, hz_nI_nat, hz_nI_inb, hz_nI_pred, hz_nI_m1_lt, hz_nI_lt_m1, hz_nI_m1_le, hz_nI_le_m1, hz_nI_eq_m1, hz_nI_m1_eq, hz_bI0, if_pos, if_neg, if_true, if_false, Option.bind_some, Prod.eta, reduceCtorEq]; omega)]
                  simp only [Option.bind_some, if_true]
                  exact Or.inl ⟨_, _, _, _, _, _, hsd.2, rfl, rfl⟩
            · have eC1 : hz_chC (tp, hz_nI L, hz_nI a, x, w) (t1, t2, t3, t4, hz_nI c, t6) = Option.bind (f_Reader_take (tp, hz_nI L, hz_nI (hz_skp tp L b3), x3, w) (hz_nI 59)) fun u13 => if u13.1 = false then some (false, u13.2, (t1, t2', t3, t4, hz_nI c, t6)) else some (true, u13.2, (t1, t2', t3, t4, hz_nI c, t6)) := by
                unfold hz_chC
                rw [eC0]
                simp only [Option.bind_some, hz_nI_lit, hz_bI0, Bool.true_eq_false, if_false]
                rw [k3]
                simp only [Option.bind_some, hz_bI0, Bool.true_eq_false, if_false]
                unfold f_Reader_readOtherClasses
                rw [hz_p_peek hL k2]
                simp only [Option.bind_some, hz_nI_lit, cx, if_false, Bool.true_eq_false, hz_bI0]
              have eM1 : f_Model_materialRow_147 (g1, (hz_nI L, tp, hz_nI a, -hz_nI 1), (nm, ng, fr), r) (hz_nI m) = f_Model_materialRow_229 (g1, (hz_nI L, tp, hz_nI (hz_skp tp L b3), -hz_nI 1), (nm, ng, upd fr3 (m + 8) (hz_nI 0)), r) := by
                unfold f_Model_materialRow_147
                simp (disch := omega) only [hz_nI_lit, hz_nI_add, hz_nI_mul, hz_nI_lt, hz_nI_le, hz_nI_inj, hz_nI_sub, hz_nI_nat, hz_nI_inb, hz_nI_pred, hz_nI_m1_lt, hz_nI_lt_m1, hz_nI_m1_le, hz_nI_le_m1, hz_nI_eq_m1, hz_nI_m1_eq, hz_bI0, if_pos, if_neg, if_true, if_false, Option.bind_some, Prod.eta, reduceCtorEq, hz_q_take hL ha, c0, e2, l1, hz_q_see hL k2, cx]
              rw [eC1, eM1, hz_p_take hL hsb.2]
              unfold f_Model_materialRow_229
              simp only [hz_nI_lit]
              rw [hz_q_take hL hsb.2, hz_skp_skp]
              by_cases c5 : hz_hereT tp L (hz_skp tp L b3) = hz_nI 59
              · have hl5 := hz_hereT_lt c5 (by decide)
                rw [if_pos c5, if_pos c5]
                simp only [Option.bind_some, Bool.true_eq_false, if_false, Prod.eta]
                refine Or.inr ⟨_, _, _, _, ?_, hl5, rfl, rfl, ?_, ?_, ?_, ?_, ?_, ?_, ?_⟩
                · omega
                · rw [hz_upd_ne (by omega), l5 _ (by omega), l6 _ (by omega), hz_upd_eq, hz_upd_eq]
                · rw [hz_upd_ne (by omega), l2]
                · rw [hz_upd_ne (by omega), l3]
                · intro j hj
                  rw [hz_upd_ne (by omega)]
                  exact l4 j hj
                · rw [hz_upd_eq, l5 _ (by omega), hz_upd_ne (by omega), h7]
                · intro q hq
                  rw [l5 _ (by omega), hz_upd_ne (by omega)]
                · intro q hq
                  rw [hz_upd_ne (by omega), l6 _ (by omega), hz_upd_ne (by omega)]
              · rw [if_neg c5, if_neg c5]
                simp only [Option.bind_some, if_true, Prod.eta]
                exact Or.inl ⟨_, _, _, _, _, _, hsb.2, rfl, rfl⟩
          · have cx : hz_hereT tp L (hz_skp tp L b3) ≠ hz_nI 120 := by rw [hz_skp_no (hz_dg_ne hd).2.1]; exact (hz_dg_ne hd).2.2.2.2.2.2.1
            have eC1 : hz_chC (tp, hz_nI L, hz_nI a, x, w) (t1, t2, t3, t4, hz_nI c, t6) = some (false, (tp, hz_nI L, hz_nI b3, x3, hz_nI b3), (t1, t2', t3, t4, hz_nI c, t6)) := by
              unfold hz_chC
              rw [eC0]
              simp only [Option.bind_some, hz_nI_lit, hz_bI0, Bool.true_eq_false, if_false]
              rw [k3]
              simp only [Option.bind_some, hz_bI0, Bool.true_eq_false, if_false]
              unfold f_Reader_readOtherClasses
              rw [hz_p_peek hL k2]
              simp only [Option.bind_some, hz_nI_lit, cx, if_false, Bool.true_eq_false, hz_bI0]
              rw [hz_skp_no (hz_dg_ne hd).2.1, hz_p_takeD hL k2 hd (by decide)]
              simp only [Option.bind_some, if_true]
            have eM1 : f_Model_materialRow_147 (g1, (hz_nI L, tp, hz_nI a, -hz_nI 1), (nm, ng, fr), r) (hz_nI m) = some (g1, (hz_nI L, tp, hz_nI b3, hz_nI b3), (nm + hz_nI 1, ng, upd fr3 (m + 8) (hz_nI 0)), r) := by
              unfold f_Model_materialRow_147
              simp (disch := omega) only [hz_nI_lit, hz_nI_add, hz_nI_mul, hz_nI_lt, hz_nI_le, hz_nI_inj, hz_nI_sub, hz_nI_nat, hz_nI_inb, hz_nI_pred, hz_nI_m1_lt, hz_nI_lt_m1, hz_nI_m1_le, hz_nI_le_m1, hz_nI_eq_m1, hz_nI_m1_eq, hz_bI0, if_pos, if_neg, if_true, if_false, Option.bind_some, Prod.eta, reduceCtorEq, hz_q_take hL ha, c0, e2, l1, hz_q_229W (show b3 ≤ 400 by omega)]
            rw [eC1, eM1]
            exact Or.inl ⟨_, _, _, _, _, _, k2, rfl, rfl⟩
      · have eC : hz_chC (tp, hz_nI L, hz_nI a, x, w) (t1, t2, t3, t4, hz_nI c, t6) = some (false, (tp, hz_nI L, hz_nI b, hz_nI v, hz_nI b), (t1, upd t2 (c * 9 + 0) (hz_nI v), t3, t4, hz_nI c, t6)) := by
          unfold hz_chC
          rw [eC0]
          simp only [Option.bind_some, hz_nI_lit, hz_bI0, Bool.true_eq_false, if_false]
          unfold f_Reader_readDue
          simp only [hz_nI_lit]
          rw [hz_p_takeD hL hb.2.1 hd (by decide)]
          simp only [Option.bind_some, if_true, hz_bI0]
        obtain ⟨fr', eD⟩ := hz_q_dueW (g1 := g1) (l := hz_nI L) (a := hz_nI b) (show b ≤ 400 by omega) hm (tp := tp) (nm := nm) (ng := ng) (fr := upd fr (m + 1) (hz_nI 1)) (r := r)
        have eM : f_Model_materialRow_147 (g1, (hz_nI L, tp, hz_nI a, -hz_nI 1), (nm, ng, fr), r) (hz_nI m) = some (g1, (hz_nI L, tp, hz_nI b, hz_nI b), (nm + hz_nI 1, ng, upd fr' (m + 8) (hz_nI 0)), r) := by
          unfold f_Model_materialRow_147
          simp (disch := omega) only [hz_nI_lit, hz_nI_add, hz_nI_mul, hz_nI_lt, hz_nI_le, hz_nI_inj, hz_nI_sub, hz_nI_nat, hz_nI_inb, hz_nI_pred, hz_nI_m1_lt, hz_nI_lt_m1, hz_nI_m1_le, hz_nI_le_m1, hz_nI_eq_m1, hz_nI_m1_eq, hz_bI0, if_pos, if_neg, if_true, if_false, Option.bind_some, Prod.eta, reduceCtorEq, hz_q_take hL ha, c0, e2, eD, hz_q_229W (show b ≤ 400 by omega)]
        rw [eC, eM]
        exact Or.inl ⟨_, _, _, _, _, _, hb.2.1, rfl, rfl⟩
  · have eC : hz_chC (tp, hz_nI L, hz_nI a, x, w) (t1, t2, t3, t4, hz_nI c, t6) = some (false, (tp, hz_nI L, hz_nI (hz_skp tp L a), x, hz_nI (hz_skp tp L a)), (t1, t2, t3, t4, hz_nI c, t6)) := by
      unfold hz_chC f_Reader_readClass
      simp only [hz_nI_lit]
      rw [hz_p_take hL ha, if_neg c0]
      simp only [Option.bind_some, hz_bI0, if_true]
    obtain ⟨fr', eD⟩ := hz_q_dueW (g1 := g1) (l := hz_nI L) (a := hz_nI (hz_skp tp L a)) (show hz_skp tp L a ≤ 400 by omega) hm (tp := tp) (nm := nm) (ng := ng) (fr := upd fr (m + 1) (hz_nI 1)) (r := r)
    have eM : f_Model_materialRow_147 (g1, (hz_nI L, tp, hz_nI a, -hz_nI 1), (nm, ng, fr), r) (hz_nI m) = some (g1, (hz_nI L, tp, hz_nI (hz_skp tp L a), hz_nI (hz_skp tp L a)), (nm + hz_nI 1, ng, upd fr' (m + 8) (hz_nI 0)), r) := by
      unfold f_Model_materialRow_147
      simp (disch := omega) only [hz_nI_lit, hz_nI_add, hz_nI_mul, hz_nI_lt, hz_nI_le, hz_nI_inj, hz_nI_sub, hz_nI_nat, hz_nI_inb, hz_nI_pred, hz_nI_m1_lt, hz_nI_lt_m1, hz_nI_m1_le, hz_nI_le_m1, hz_nI_eq_m1, hz_nI_m1_eq, hz_bI0, if_pos, if_neg, if_true, if_false, Option.bind_some, Prod.eta, reduceCtorEq, hz_q_take hL ha, c0, hz_q_numW (show hz_skp tp L a ≤ 400 by omega), eD, hz_q_229W (show hz_skp tp L a ≤ 400 by omega)]
    rw [eC, eM]
    exact Or.inl ⟨_, _, _, _, _, _, hs.2, rfl, rfl⟩
