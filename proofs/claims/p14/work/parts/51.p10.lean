set_option maxRecDepth 100000 in
theorem hz_pq_due {tp : Nat → Int32} {L : Nat} {w : Int32} {t1 t2 t3 t4 : Nat → Int32} {t5 : Int32} {t6 : Bool} {g1 : Int32 × Int32} {nm : Int32} {ng : Bool} {fr : Nat → Int32} {r : hz_MR} {c m a : Nat} {x : Int32} (hL : L ≤ 400) (hc : c ≤ 12) (hm : m ≤ 516) (ha : a ≤ L) :
    hz_oDue tp L w t1 t2 t3 t4 t5 t6 g1 nm ng fr r c m a (f_Reader_readDue (tp, hz_nI L, hz_nI a, x, w) (t1, t2, t3, t4, t5, t6) (hz_nI c)) (f_Model_due (g1, (hz_nI L, tp, hz_nI a, -hz_nI 1), (nm, ng, fr), r) (hz_nI m)) := by
  have hs := hz_skp_bd (tp := tp) ha
  unfold f_Reader_readDue f_Model_due
  simp (disch := omega) only [hz_nI_lit, hz_nI_add, hz_nI_inb, if_pos, hz_nI_nat]
  rw [hz_p_take hL ha, hz_q_take hL ha]
  by_cases c0 : hz_hereT tp L (hz_skp tp L a) = hz_nI 114
  · have hl := hz_hereT_lt c0 (by decide)
    rw [if_pos c0, if_pos c0]
    simp only [Option.bind_some, hz_bI0, Bool.true_eq_false, if_false]
    have hN := hz_p_num (tp := tp) (v := x) (w := w) (lo := 0) (hi := 9) hL (by omega) (by omega) (show hz_skp tp L a + 1 ≤ L from hl)
    have hQ := hz_q_num (g1 := g1) (tp := tp) (g3 := (nm, ng, fr)) (r := r) (lo := 0) (hi := 9) hL (by omega) (by omega) (show hz_skp tp L a + 1 ≤ L from hl)
    have hB := hz_numS_bd (tp := tp) (lo := 0) (hi := 9) (by omega) (show hz_skp tp L a + 1 ≤ L from hl)
    have tailW : ∀ {a' : Int32} {p : Nat} {f1 : Nat → Int32}, p ≤ 400 → ∃ fr', (Option.bind (f_Model_take (g1, (hz_nI L, tp, a', hz_nI p), (nm, ng, f1), r) (hz_nI 103)) fun u4 => Option.bind (f_Model_rising u4 (hz_nI 97) (hz_nI 104) (hz_nI 4)) fun u5 => Option.bind (f_Model_take (u5.2.1, u5.2.2.1, (u5.2.2.2.1.1, u5.2.2.2.1.2.1, upd u5.2.2.2.1.2.2 (m + 3) u5.1), u5.2.2.2.2.1, u5.2.2.2.2.2.1, u5.2.2.2.2.2.2.1, u5.2.2.2.2.2.2.2.1, u5.2.2.2.2.2.2.2.2.1, u5.2.2.2.2.2.2.2.2.2) (hz_nI 64)) fun u7 => f_Model_due_52 4096 u7 (hz_nI m) (hz_nI 0)) = some (g1, (hz_nI L, tp, a', hz_nI p), (nm, ng, fr'), r) := by
      intro a' p f1 hp
      obtain ⟨fr', e⟩ := hz_q_due_tailW (g1 := g1) (l := hz_nI L) (a := a') hp hm (tp := tp) (nm := nm) (ng := ng) (fr := upd f1 (m + 3) (hz_nI 0)) (r := r)
      refine ⟨fr', ?_⟩
      simp (disch := omega) only [hz_nI_lit, hz_nI_add, hz_nI_mul, hz_nI_lt, hz_nI_le, hz_nI_inj, hz_nI_sub, hz_nI_nat, hz_nI_inb, hz_nI_pred, hz_nI_m1_lt, hz_nI_lt_m1, hz_nI_m1_le, hz_nI_le_m1, hz_nI_eq_m1, hz_nI_m1_eq, hz_bI0, if_pos, if_neg, if_true, if_false, Option.bind_some, Prod.eta, reduceCtorEq, hz_q_takeW hp, hz_q_riseW hp]
      exact e
    cases hq : hz_numS tp L 0 9 (hz_skp tp L a + 1) with
    | inl p =>
      obtain ⟨b, y, hb, e1⟩ := hN.1 p hq
      obtain ⟨b1, hb1, e2⟩ := hQ.1 p hq
      have hpL := hB.1 p hq
      obtain ⟨fr', e3⟩ := tailW (a' := hz_nI b1) (p := p) (f1 := upd fr (m + 2) (hz_nI 0)) (by omega)
      rw [e1, e2]
      simp only [Option.bind_some, if_true, Prod.eta]
      rw [e3]
      exact Or.inl ⟨p, _, _, _, _, fr', hpL, rfl, rfl⟩
    | inr z =>
      obtain ⟨v, b⟩ := z
      have e1 := hN.2 v b hq
      have hb := hB.2 v b hq
      rw [e1]
      have e9 : f_Table_setCell (t1, t2, t3, t4, t5, t6) (hz_nI c) (hz_nI 1) (hz_nI v) = some (t1, upd t2 (c * 9 + 1) (hz_nI v), t3, t4, t5, t6) := hz_p_setCell hc (show 1 < 9 by omega)
      simp only [Option.bind_some, Bool.true_eq_false, if_false, e9]
      rcases hQ.2 v b hq with e2 | ⟨hd, e2⟩
      · rw [e2]
        simp only [Option.bind_some, Prod.eta]
        have hsb := hz_skp_bd (tp := tp) hb.2.1
        rw [hz_p_take hL hb.2.1, hz_q_take hL hb.2.1]
        by_cases c1 : hz_hereT tp L (hz_skp tp L b) = hz_nI 103
        · have hl1 := hz_hereT_lt c1 (by decide)
          rw [if_pos c1, if_pos c1]
          simp only [Option.bind_some, Bool.true_eq_false, if_false]
          have hN2 := hz_p_rise (tp := tp) (v := hz_nI v) (w := w) (f := 97) (t := 104) (z := 97) (most := 4) hL (by omega) (by omega) (by omega) (by omega) (show hz_skp tp L b + 1 ≤ L from hl1)
          have hQ2 := hz_q_rise (g1 := g1) (tp := tp) (g3 := (nm, ng, upd fr (m + 2) (hz_nI v))) (r := r) (f := 97) (t := 104) (most := 4) hL (by omega) (by omega) (by omega) (by omega) (by omega) (show hz_skp tp L b + 1 ≤ L from hl1)
          have hB2 := hz_riseS_bd (tp := tp) (f := 97) (t := 104) (z := 97) (most := 4) (by omega) (by omega) (by omega) (show hz_skp tp L b + 1 ≤ L from hl1)
          have tailW2 : ∀ {a' : Int32} {p : Nat} {f1 : Nat → Int32}, p ≤ 400 → ∃ fr', (Option.bind (f_Model_take (g1, (hz_nI L, tp, a', hz_nI p), (nm, ng, f1), r) (hz_nI 64)) fun u7 => f_Model_due_52 4096 u7 (hz_nI m) (hz_nI 0)) = some (g1, (hz_nI L, tp, a', hz_nI p), (nm, ng, fr'), r) := by
            intro a' p f1 hp
            obtain ⟨fr', e⟩ := hz_q_due_tailW (g1 := g1) (l := hz_nI L) (a := a') hp hm (tp := tp) (nm := nm) (ng := ng) (fr := f1) (r := r)
            exact ⟨fr', by rw [hz_q_takeW hp, Option.bind_some]; exact e⟩
          cases hq2 : hz_riseS tp L 97 104 97 4 (hz_skp tp L b + 1) with
          | inl p =>
            have hpL := hB2.1 p hq2
            obtain ⟨fr', e3⟩ := tailW2 (a' := hz_nI p) (p := p) (f1 := upd (upd fr (m + 2) (hz_nI v)) (m + 3) (hz_nI 0)) (by omega)
            rw [hN2.1 p hq2, hQ2.1 p hq2]
            simp only [Option.bind_some, if_true, Prod.eta]
            rw [e3]
            exact Or.inl ⟨p, _, _, _, _, fr', hpL, rfl, rfl⟩
          | inr z =>
            obtain ⟨bt, d⟩ := z
            have hd2 := hB2.2 bt d hq2
            have hsd := hz_skp_bd (tp := tp) hd2.2
            have e10 : f_Table_setCell (t1, upd t2 (c * 9 + 1) (hz_nI v), t3, t4, t5, t6) (hz_nI c) (hz_nI 2) bt = some (t1, upd (upd t2 (c * 9 + 1) (hz_nI v)) (c * 9 + 2) bt, t3, t4, t5, t6) := hz_p_setCell hc (show 2 < 9 by omega)
            rw [hN2.2 bt d hq2]
            simp only [Option.bind_some, Bool.true_eq_false, if_false, e10]
            rcases hQ2.2 bt d hq2 with ⟨a1, h1, e2⟩ | ⟨hd, b1, e2⟩
            · rw [e2]
              simp only [Option.bind_some, Prod.eta]
              have hsk : hz_skp tp L a1 = hz_skp tp L (hz_skp tp L d) := by
                rw [hz_skp_skp]
                rcases h1 with rfl | rfl
                · rfl
                · rw [hz_skp_skp]
              have ha1 : a1 ≤ L := by rcases h1 with rfl | rfl <;> omega
              have ih := hz_pq_d0 (tp := tp) (w := w) (t1 := t1) (t3 := t3) (t4 := t4) (t5 := t5) (t6 := t6) (g1 := g1) (nm := nm) (ng := ng) (r := r) (c := c) (m := m) (a := hz_skp tp L d) (a1 := a1) (n1 := 4095) (n2 := 4095) (x := bt) (t2 := upd (upd t2 (c * 9 + 1) (hz_nI v)) (c * 9 + 2) bt) (fr := upd (upd fr (m + 2) (hz_nI v)) (m + 3) bt) hL hc hm hsd.2 ha1 hsk (by omega) (by omega)
              rcases ih with ih | ⟨b2, x2, t2', i1, i2, i3, i4⟩
              · exact Or.inl ih
              · refine Or.inr ⟨b2, x2, t2', by omega, i2, i3, ?_⟩
                rcases i4 with ⟨fr', j1, j2, j3, j4⟩ | i4
                · refine Or.inl ⟨fr', j1, ?_, ?_, fun j hj => j2 j (by omega) hj, fun q hq => ?_, fun q hq => ?_⟩
                  · rw [j3 _ (by omega), j4 _ (by omega)]; unfold upd
                    rw [if_neg (by omega), if_pos rfl, if_neg (by omega), if_pos rfl]
                  · rw [j3 _ (by omega), j4 _ (by omega)]; unfold upd
                    rw [if_pos rfl, if_pos rfl]
                  · rw [j3 q (by omega)]; unfold upd; rw [if_neg (by omega), if_neg (by omega)]
                  · rw [j4 q (by omega)]; unfold upd; rw [if_neg (by omega), if_neg (by omega)]
                · exact Or.inr i4
            · rw [e2]
              obtain ⟨fr', e3⟩ := tailW2 (a' := hz_nI (hz_skp tp L d)) (p := hz_skp tp L d) (f1 := upd (upd fr (m + 2) (hz_nI v)) (m + 3) b1) (by omega)
              simp only [Option.bind_some, Prod.eta]
              rw [e3]
              obtain ⟨d9, f1, f2, f3⟩ := hz_inR_eq (by omega) (by omega) hd
              have e11 : f_Reader_readDue_68 4096 (tp, hz_nI L, hz_nI (hz_skp tp L d), bt, w) (t1, upd (upd t2 (c * 9 + 1) (hz_nI v)) (c * 9 + 2) bt, t3, t4, t5, t6) (hz_nI c) (hz_nI 0) = some (false, (tp, hz_nI L, hz_nI (hz_skp tp L d), bt, hz_nI (hz_skp tp L d)), (t1, upd (upd t2 (c * 9 + 1) (hz_nI v)) (c * 9 + 2) bt, t3, t4, t5, t6)) := by
                refine (hz_eC_68 (n := 4095)).trans ?_
                unfold f_Reader_readDue_85
                rw [hz_p_take hL hsd.2, hz_skp_skp, if_neg (by rw [f3]; simp (disch := omega) only [hz_nI_lit, hz_nI_add, hz_nI_mul, hz_nI_lt, hz_nI_le, hz_nI_inj, hz_nI_sub, hz_nI_nat, hz_nI_inb, hz_nI_pred, hz_nI_m1_lt, hz_nI_lt_m1, hz_nI_m1_le, hz_nI_le_m1, hz_nI_eq_m1, hz_nI_m1_eq, hz_bI0, if_pos, if_neg, if_true, if_false, Option.bind_some, Prod.eta, reduceCtorEq]; omega)]
                simp (disch := omega) only [hz_nI_lit, hz_nI_add, hz_nI_mul, hz_nI_lt, hz_nI_le, hz_nI_inj, hz_nI_sub, hz_nI_nat, hz_nI_inb, hz_nI_pred, hz_nI_m1_lt, hz_nI_lt_m1, hz_nI_m1_le, hz_nI_le_m1, hz_nI_eq_m1, hz_nI_m1_eq, hz_bI0, if_pos, if_neg, if_true, if_false, Option.bind_some, Prod.eta, reduceCtorEq]
              rw [e11]
              exact Or.inl ⟨_, _, _, _, _, fr', hsd.2, rfl, rfl⟩
        · rw [if_neg c1, if_neg c1]
          obtain ⟨fr', e3⟩ := tailW (a' := hz_nI (hz_skp tp L b)) (p := hz_skp tp L b) (f1 := upd fr (m + 2) (hz_nI v)) (by omega)
          rw [hz_q_takeW (show hz_skp tp L b ≤ 400 by omega)] at e3
          simp only [Option.bind_some, if_true] at e3 ⊢
          rw [e3]
          exact Or.inl ⟨_, _, _, _, _, fr', hsb.2, rfl, rfl⟩
      · rw [e2]
        obtain ⟨fr', e3⟩ := tailW (a' := hz_nI b) (p := b) (f1 := upd fr (m + 2) (hz_nI 0)) (by omega)
        simp only [Option.bind_some, Prod.eta]
        rw [e3, hz_p_takeD hL hb.2.1 hd (by decide)]
        simp only [Option.bind_some, if_true]
        exact Or.inl ⟨b, _, _, _, _, fr', hb.2.1, rfl, rfl⟩
  · rw [if_neg c0, if_neg c0]
    obtain ⟨fr', e3⟩ := hz_q_dueW (g1 := g1) (l := hz_nI L) (a := hz_nI (hz_skp tp L a)) (show hz_skp tp L a ≤ 400 by omega) hm (tp := tp) (nm := nm) (ng := ng) (fr := fr) (r := r)
    unfold f_Model_due at e3
    simp (disch := omega) only [hz_nI_lit, hz_nI_add, hz_nI_inb, if_pos, hz_nI_nat] at e3
    rw [hz_q_takeW (show hz_skp tp L a ≤ 400 by omega)] at e3
    simp only [Option.bind_some, hz_bI0, if_true] at e3 ⊢
    rw [e3]
    exact Or.inl ⟨_, _, _, _, _, fr', hs.2, rfl, rfl⟩
