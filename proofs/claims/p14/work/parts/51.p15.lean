set_option maxRecDepth 100000 in
noncomputable def hz_genC (rd : SReader) (tb : STable) : Option (Bool × SReader × STable) :=
  (Option.bind (f_Reader_startGeneralRow rd tb) fun u16 =>
    (if (bI u16.1) = 0 then
      (some (false, u16.2.1, u16.2.2))
     else
      (Option.bind (f_Reader_readDue u16.2.1 u16.2.2 (0 : Int32)) fun u18 =>
        (if (bI u18.1) = 0 then
          (some (false, u18.2.1, u18.2.2))
         else
          (Option.bind (f_Reader_take u18.2.1 (59 : Int32)) fun u20 =>
            (if (bI u20.1) = 0 then
              (some (false, u20.2, u18.2.2))
             else
              (some (true, u20.2, u18.2.2))))))))
set_option maxRecDepth 100000 in
theorem hz_pq_gen {tp : Nat → Int32} {L : Nat} {t1 t2 t3 t4 : Nat → Int32} {gen : Bool} {g1 : Int32 × Int32} {fr : Nat → Int32} {r : hz_MR} {M a : Nat} {x : Int32} (hL : L ≤ 400) (ha : a < L) (hM : M ≤ 12) (hT : hz_tabR t1 t2 t3 t4 fr M gen) (hZ : hz_zerR t2 M) :
    hz_oRow tp L g1 r a (hz_genC (tp, hz_nI L, hz_nI a, x, -hz_nI 1) (t1, t2, t3, t4, hz_nI M, gen)) (f_Model_generalRow (g1, (hz_nI L, tp, hz_nI (a + 1), -hz_nI 1), (hz_nI M, gen, fr), r)) := by
  generalize hf0 : upd (upd (upd (upd fr 516 (hz_nI 0)) 517 (hz_nI 0)) 524 (hz_nI 0)) 525 (hz_nI 0) = fr0
  have e21 : ∀ {l b w9 : Int32} {g : Bool}, f_Model_generalRow_21 (g1, (l, tp, b, w9), (hz_nI M, g, fr), r) (hz_nI 516) = Option.bind (f_Model_due (g1, (l, tp, b, w9), (hz_nI M, true, fr0), r) (hz_nI 516)) fun u7 => f_Model_take u7 (hz_nI 59) := by
    intro l b w9 g
    unfold f_Model_generalRow_21
    rw [← hf0]
    simp (disch := omega) only [hz_nI_lit, hz_nI_add, hz_nI_mul, hz_nI_lt, hz_nI_le, hz_nI_inj, hz_nI_sub, hz_nI_nat, hz_nI_inb, hz_nI_pred, hz_nI_m1_lt, hz_nI_lt_m1, hz_nI_m1_le, hz_nI_le_m1, hz_nI_eq_m1, hz_nI_m1_eq, hz_bI0, if_pos, if_neg, if_true, if_false, Option.bind_some, Prod.eta, reduceCtorEq]
    simp only [Option.bind_fun_some]
  cases gen with
  | true =>
    have eC : hz_genC (tp, hz_nI L, hz_nI a, x, -hz_nI 1) (t1, t2, t3, t4, hz_nI M, true) = some (false, (tp, hz_nI L, hz_nI a, x, hz_nI a), (t1, t2, t3, t4, hz_nI M, true)) := by
      unfold hz_genC f_Reader_startGeneralRow f_Reader_wrong
      simp (disch := omega) only [hz_nI_lit, hz_nI_add, hz_nI_mul, hz_nI_lt, hz_nI_le, hz_nI_inj, hz_nI_sub, hz_nI_nat, hz_nI_inb, hz_nI_pred, hz_nI_m1_lt, hz_nI_lt_m1, hz_nI_m1_le, hz_nI_le_m1, hz_nI_eq_m1, hz_nI_m1_eq, hz_bI0, if_pos, if_neg, if_true, if_false, Option.bind_some, Prod.eta, reduceCtorEq, Bool.true_eq_false]
    obtain ⟨fr', e⟩ := hz_q_dueW (g1 := g1) (l := hz_nI L) (a := hz_nI (a + 1)) (show a ≤ 400 by omega) (show 516 ≤ 516 by omega) (tp := tp) (nm := hz_nI M) (ng := true) (fr := fr0) (r := r)
    have eM : f_Model_generalRow (g1, (hz_nI L, tp, hz_nI (a + 1), -hz_nI 1), (hz_nI M, true, fr), r) = some (g1, (hz_nI L, tp, hz_nI (a + 1), hz_nI a), (hz_nI M, true, fr'), r) := by
      unfold f_Model_generalRow
      simp (disch := omega) only [hz_nI_lit, hz_nI_add, hz_nI_mul, hz_nI_lt, hz_nI_le, hz_nI_inj, hz_nI_sub, hz_nI_nat, hz_nI_inb, hz_nI_pred, hz_nI_m1_lt, hz_nI_lt_m1, hz_nI_m1_le, hz_nI_le_m1, hz_nI_eq_m1, hz_nI_m1_eq, hz_bI0, if_pos, if_neg, if_true, if_false, Option.bind_some, Prod.eta, reduceCtorEq, hz_q_fail, Nat.add_sub_cancel, Bool.true_eq_false, e21, e, hz_q_takeW (show a ≤ 400 by omega)]
    rw [eC, eM]
    exact Or.inl ⟨a, a, _, _, _, _, _, _, _, by omega, by omega, rfl, rfl⟩
  | false =>
    have hD := hz_pq_due (tp := tp) (w := -hz_nI 1) (t1 := t1) (t2 := t2) (t3 := t3) (t4 := t4) (t5 := hz_nI M) (t6 := true) (g1 := g1) (nm := hz_nI M) (ng := true) (fr := fr0) (r := r) (c := 0) (m := 516) (a := a + 1) (x := x) hL (by omega) (by omega) ha
    have hD0 : (0 : Int32) = hz_nI 0 := rfl
    have eC0 : f_Reader_startGeneralRow (tp, hz_nI L, hz_nI a, x, -hz_nI 1) (t1, t2, t3, t4, hz_nI M, false) = some (true, (tp, hz_nI L, hz_nI (a + 1), x, -hz_nI 1), (t1, t2, t3, t4, hz_nI M, true)) := by
      unfold f_Reader_startGeneralRow
      simp (disch := omega) only [hz_nI_lit, hz_nI_add, hz_nI_mul, hz_nI_lt, hz_nI_le, hz_nI_inj, hz_nI_sub, hz_nI_nat, hz_nI_inb, hz_nI_pred, hz_nI_m1_lt, hz_nI_lt_m1, hz_nI_m1_le, hz_nI_le_m1, hz_nI_eq_m1, hz_nI_m1_eq, hz_bI0, if_pos, if_neg, if_true, if_false, Option.bind_some, Prod.eta, reduceCtorEq]
    have eM0 : f_Model_generalRow (g1, (hz_nI L, tp, hz_nI (a + 1), -hz_nI 1), (hz_nI M, false, fr), r) = Option.bind (f_Model_due (g1, (hz_nI L, tp, hz_nI (a + 1), -hz_nI 1), (hz_nI M, true, fr0), r) (hz_nI 516)) fun u7 => f_Model_take u7 (hz_nI 59) := by
      unfold f_Model_generalRow
      simp (disch := omega) only [hz_nI_lit, hz_nI_add, hz_nI_mul, hz_nI_lt, hz_nI_le, hz_nI_inj, hz_nI_sub, hz_nI_nat, hz_nI_inb, hz_nI_pred, hz_nI_m1_lt, hz_nI_lt_m1, hz_nI_m1_le, hz_nI_le_m1, hz_nI_eq_m1, hz_nI_m1_eq, hz_bI0, if_pos, if_neg, if_true, if_false, Option.bind_some, Prod.eta, reduceCtorEq, e21]
    rw [eM0]
    unfold hz_genC
    rw [eC0, Option.bind_some, if_neg (show ¬ (bI true = 0) by decide)]
    show hz_oRow tp L g1 r a (Option.bind (f_Reader_readDue (tp, hz_nI L, hz_nI (a + 1), x, -hz_nI 1) (t1, t2, t3, t4, hz_nI M, true) (hz_nI 0)) fun u18 => if bI u18.1 = 0 then some (false, u18.2.1, u18.2.2) else Option.bind (f_Reader_take u18.2.1 (hz_nI 59)) fun u20 => if bI u20.1 = 0 then some (false, u20.2, u18.2.2) else some (true, u20.2, u18.2.2)) _
    rcases hD with ⟨p, b3, x3, tb3, b4, fr3, k1, k2, k3⟩ | ⟨b3, x3, t2', k1, k2, k3, k4⟩
    · rw [k2, k3, Option.bind_some, Option.bind_some, if_pos (show bI false = 0 from rfl), hz_q_takeW (show p ≤ 400 by omega)]
      exact Or.inl ⟨p, p, _, _, _, _, _, _, _, k1, k1, rfl, rfl⟩
    · have hsb := hz_skp_bd (tp := tp) k2
      rw [k3, Option.bind_some, if_neg (show ¬ (bI true = 0) by decide)]
      rcases k4 with ⟨fr3, l1, l2, l3, l4, l5, l6⟩ | ⟨hd, fr3, l1⟩
      · rw [l1, Option.bind_some, hz_p_take hL k2, hz_q_take hL k2]
        by_cases c5 : hz_hereT tp L (hz_skp tp L b3) = hz_nI 59
        · have hl5 := hz_hereT_lt c5 (by decide)
          rw [if_pos c5, if_pos c5, Option.bind_some, if_neg (show ¬ (bI true = 0) by decide)]
          have hfo : ∀ q, q < 516 → fr3 q = fr q := by
            intro q hq
            rw [l6 q (by omega), ← hf0, hz_upd_ne (by omega), hz_upd_ne (by omega), hz_upd_ne (by omega), hz_upd_ne (by omega)]
          have hto : ∀ q, 7 ≤ q → t2' q = t2 q := fun q hq => l5 q (by omega)
          refine Or.inr ⟨hz_skp tp L b3 + 1, x3, _, _, _, _, M, true, fr3, by omega, hl5, hM, rfl, rfl, ⟨?_, ?_, ?_⟩, ?_⟩
          · intro k hk
            exact hz_matR_keep (hT.1 k hk) rfl (fun q h1 h2 => hto q (by omega)) (fun _ _ _ => rfl) (fun _ _ _ => rfl) (fun q h1 h2 => hfo q (by omega))
          · intro i j hij hj
            rw [hfo _ (by omega), hfo _ (by omega)]
            exact hT.2.1 i j hij hj
          · intro _
            refine ⟨?_, ?_⟩
            · intro j hj
              rcases (by omega : j = 0 ∨ j = 1 ∨ j = 2 ∨ (3 ≤ j ∧ j < 7) ∨ j = 7 ∨ j = 8) with rfl | rfl | rfl | h | rfl | rfl
              · rw [l5 _ (by omega), l6 _ (by omega), ← hf0, hz_upd_ne (by omega), hz_upd_ne (by omega), hz_upd_eq]; exact hZ.2.1
              · exact l2
              · exact l3
              · obtain ⟨d, d1, d2, d3⟩ := l4 (j - 3) (by omega)
                rw [show 0 * 9 + 3 + (j - 3) = 0 * 9 + j by omega] at d2
                rw [show 516 + 4 + (j - 3) = 516 + 1 + j by omega] at d3
                rw [d2, d3]
              · rw [l5 _ (by omega), l6 _ (by omega), ← hf0, hz_upd_ne (by omega), hz_upd_eq]; exact hZ.2.2.1
              · rw [l5 _ (by omega), l6 _ (by omega), ← hf0, hz_upd_eq]; exact hZ.2.2.2
            · intro j hj
              obtain ⟨d, d1, d2, d3⟩ := l4 j hj
              exact ⟨d, d1, d3⟩
          · refine ⟨fun c h1 h2 => ?_, ?_, ?_, ?_⟩
            · rw [hto _ (by omega)]; exact hZ.1 c h1 h2
            · rw [l5 _ (by omega)]; exact hZ.2.1
            · rw [hto _ (by omega)]; exact hZ.2.2.1
            · rw [hto _ (by omega)]; exact hZ.2.2.2
        · rw [if_neg c5, if_neg c5, Option.bind_some, if_pos (show bI false = 0 from rfl)]
          exact Or.inl ⟨hz_skp tp L b3, hz_skp tp L b3, _, _, _, _, _, _, _, hsb.2, hsb.2, rfl, rfl⟩
      · rw [l1, Option.bind_some, hz_p_takeD hL k2 hd (by decide), hz_q_takeW (show b3 ≤ 400 by omega), Option.bind_some, if_pos (show bI false = 0 from rfl)]
        exact Or.inl ⟨b3, b3, _, _, _, _, _, _, _, k2, k2, rfl, rfl⟩
set_option maxRecDepth 100000 in
theorem hz_readRow_eq (rd : SReader) (tb : STable) : f_Reader_readRow rd tb = Option.bind (f_Reader_peek rd) fun u1 => if u1.1 = 109 then hz_matC u1.2 tb else if u1.1 = 122 then hz_genC u1.2 tb else Option.bind (f_Reader_wrong u1.2 u1.2.2.2.1) fun u22 => some (u22.1, u22.2, tb) := rfl
