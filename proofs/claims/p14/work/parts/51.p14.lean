set_option maxRecDepth 100000 in
noncomputable def hz_matC (rd : SReader) (tb : STable) : Option (Bool × SReader × STable) :=
  (Option.bind (f_Reader_startMaterial rd tb) fun u3 =>
    (if (bI u3.1) = 0 then
      (some (false, u3.2.1, u3.2.2))
     else
      (Option.bind (f_Reader_readNames u3.2.1 u3.2.2 u3.2.2.2.2.2.2.1) fun u5 =>
        (if (bI u5.1) = 0 then
          (some (false, u5.2.1, u5.2.2))
         else
          hz_chC u5.2.1 u5.2.2))))
set_option maxRecDepth 100000 in
def hz_oRow (tp : Nat → Int32) (L : Nat) (g1 : Int32 × Int32) (r : hz_MR) (a : Nat) (C : Option (Bool × SReader × STable)) (M9 : Option SModel) : Prop :=
  (∃ p q b x tb' b1 nm' ng' fr', p ≤ L ∧ q ≤ L ∧ C = some (false, (tp, hz_nI L, b, x, hz_nI p), tb') ∧ M9 = some (g1, (hz_nI L, tp, b1, hz_nI q), (nm', ng', fr'), r)) ∨
  (∃ b x t1 t2 t3 t4 M gen fr, a < b ∧ b ≤ L ∧ M ≤ 12 ∧ C = some (true, (tp, hz_nI L, hz_nI b, x, -hz_nI 1), (t1, t2, t3, t4, hz_nI M, gen)) ∧ M9 = some (g1, (hz_nI L, tp, hz_nI b, -hz_nI 1), (hz_nI M, gen, fr), r) ∧ hz_tabR t1 t2 t3 t4 fr M gen ∧ hz_zerR t2 M)
set_option maxRecDepth 100000 in
theorem hz_p_start {tp : Nat → Int32} {L a M : Nat} {t1 t2 t3 t4 : Nat → Int32} {gen : Bool} {x w : Int32} (hM : M < 12) : f_Reader_startMaterial (tp, hz_nI L, hz_nI a, x, w) (t1, t2, t3, t4, hz_nI M, gen) = Option.bind (f_Reader_readNumber (tp, hz_nI L, hz_nI (a + 1), x, w) (hz_nI 1) (hz_nI 9999)) fun u3 => if u3.1 = false then some (false, u3.2, (t1, t2, t3, t4, hz_nI M, gen)) else Option.bind (f_Table_rowOf (t1, t2, t3, t4, hz_nI M, gen) u3.2.2.2.2.1) fun u5 => if u5 = -hz_nI 1 then some (true, u3.2, (upd t1 (M + 1) u3.2.2.2.2.1, t2, t3, t4, hz_nI (M + 1), gen)) else some (false, (u3.2.1, u3.2.2.1, u3.2.2.2.1, u3.2.2.2.2.1, u3.2.2.2.1 - hz_nI 1), (t1, t2, t3, t4, hz_nI M, gen)) := by
  unfold f_Reader_startMaterial f_Table_isFull f_Table_append f_Table_isFull f_Reader_wrong
  simp (disch := omega) only [hz_nI_lit, hz_nI_add, hz_nI_mul, hz_nI_lt, hz_nI_le, hz_nI_inj, hz_nI_sub, hz_nI_nat, hz_nI_inb, hz_nI_pred, hz_nI_m1_lt, hz_nI_lt_m1, hz_nI_m1_le, hz_nI_le_m1, hz_nI_eq_m1, hz_nI_m1_eq, hz_bI0, if_pos, if_neg, if_true, if_false, Option.bind_some, Prod.eta, reduceCtorEq]
set_option maxRecDepth 100000 in
theorem hz_eC_names {n : Nat} {rd rd' : SReader} {tb tb' : STable} {c i : Int32} (h : f_Reader_readName rd tb c i = some (false, rd', tb')) : f_Reader_readNames_2 (n + 1) rd tb c i = some (false, rd', tb') := by
  rw [f_Reader_readNames_2, h]
  simp only [Option.bind_some, hz_nI_lit, hz_bI0, if_true]
set_option maxRecDepth 100000 in
theorem hz_matC_dup {tp : Nat → Int32} {L a b v M q : Nat} {t1 t2 t3 t4 : Nat → Int32} {gen : Bool} {x w : Int32} (hM : M < 12) (hb : 1 ≤ b) (e1 : f_Reader_readNumber (tp, hz_nI L, hz_nI (a + 1), x, w) (hz_nI 1) (hz_nI 9999) = some (true, (tp, hz_nI L, hz_nI b, hz_nI v, w))) (hf : hz_fndT (fun k => t1 (k + 1)) (hz_nI v) M 0 = some q) : hz_matC (tp, hz_nI L, hz_nI a, x, w) (t1, t2, t3, t4, hz_nI M, gen) = some (false, (tp, hz_nI L, hz_nI b, hz_nI v, hz_nI (b - 1)), (t1, t2, t3, t4, hz_nI M, gen)) := by
  have hq9 := hz_fndT_some M 0 q hf
  have e5 : ¬ hz_ixI (some q) 1 = -hz_nI 1 := by simp only [hz_ixI]; rw [hz_nI_eq_m1 (by omega)]; exact id
  have e6 : f_Reader_startMaterial (tp, hz_nI L, hz_nI a, x, w) (t1, t2, t3, t4, hz_nI M, gen) = some (false, (tp, hz_nI L, hz_nI b, hz_nI v, hz_nI (b - 1)), (t1, t2, t3, t4, hz_nI M, gen)) := by
    rw [hz_p_start hM, e1, Option.bind_some, if_neg (show ¬ (true = false) by decide), hz_p_rowOf (Nat.le_of_lt hM), hf, Option.bind_some, if_neg e5]
    rw [hz_nI_sub hb]
  unfold hz_matC
  rw [e6, Option.bind_some, if_pos (show bI false = 0 from rfl)]
set_option maxRecDepth 100000 in
theorem hz_matC_new {tp : Nat → Int32} {L a b v M : Nat} {t1 t2 t3 t4 : Nat → Int32} {gen : Bool} {x w : Int32} (hM : M < 12) (e1 : f_Reader_readNumber (tp, hz_nI L, hz_nI (a + 1), x, w) (hz_nI 1) (hz_nI 9999) = some (true, (tp, hz_nI L, hz_nI b, hz_nI v, w))) (hf : hz_fndT (fun k => t1 (k + 1)) (hz_nI v) M 0 = none) : hz_matC (tp, hz_nI L, hz_nI a, x, w) (t1, t2, t3, t4, hz_nI M, gen) = Option.bind (f_Reader_readNames_2 4096 (tp, hz_nI L, hz_nI b, hz_nI v, w) (upd t1 (M + 1) (hz_nI v), t2, t3, t4, hz_nI (M + 1), gen) (hz_nI (M + 1)) (hz_nI 0)) fun u5 => if bI u5.1 = 0 then some (false, u5.2.1, u5.2.2) else hz_chC u5.2.1 u5.2.2 := by
  have e6 : f_Reader_startMaterial (tp, hz_nI L, hz_nI a, x, w) (t1, t2, t3, t4, hz_nI M, gen) = some (true, (tp, hz_nI L, hz_nI b, hz_nI v, w), (upd t1 (M + 1) (hz_nI v), t2, t3, t4, hz_nI (M + 1), gen)) := by
    rw [hz_p_start hM, e1, Option.bind_some, if_neg (show ¬ (true = false) by decide), hz_p_rowOf (Nat.le_of_lt hM), hf, Option.bind_some, if_pos (show hz_ixI none 1 = -hz_nI 1 from rfl)]
  unfold hz_matC
  rw [e6, Option.bind_some, if_neg (show ¬ (bI true = 0) by decide)]
  unfold f_Reader_readNames
  rw [hz_nI_lit]
set_option maxRecDepth 100000 in
theorem hz_pq_mat {tp : Nat → Int32} {L : Nat} {t1 t2 t3 t4 : Nat → Int32} {gen : Bool} {g1 : Int32 × Int32} {fr : Nat → Int32} {r : hz_MR} {M a : Nat} {x : Int32} (hL : L ≤ 400) (ha : a < L) (hM : M ≤ 12) (hT : hz_tabR t1 t2 t3 t4 fr M gen) (hZ : hz_zerR t2 M) :
    hz_oRow tp L g1 r a (hz_matC (tp, hz_nI L, hz_nI a, x, -hz_nI 1) (t1, t2, t3, t4, hz_nI M, gen)) (f_Model_materialRow (g1, (hz_nI L, tp, hz_nI (a + 1), -hz_nI 1), (hz_nI M, gen, fr), r)) := by
  by_cases c12 : M = 12
  · subst c12
    have eC : hz_matC (tp, hz_nI L, hz_nI a, x, -hz_nI 1) (t1, t2, t3, t4, hz_nI 12, gen) = some (false, (tp, hz_nI L, hz_nI a, x, hz_nI a), (t1, t2, t3, t4, hz_nI 12, gen)) := by
      unfold hz_matC f_Reader_startMaterial f_Table_isFull f_Reader_wrong
      simp (disch := omega) only [hz_nI_lit, hz_nI_add, hz_nI_mul, hz_nI_lt, hz_nI_le, hz_nI_inj, hz_nI_sub, hz_nI_nat, hz_nI_inb, hz_nI_pred, hz_nI_m1_lt, hz_nI_lt_m1, hz_nI_m1_le, hz_nI_le_m1, hz_nI_eq_m1, hz_nI_m1_eq, hz_bI0, if_pos, if_neg, if_true, if_false, Option.bind_some, Prod.eta, reduceCtorEq, Bool.true_eq_false]
    have eM : f_Model_materialRow (g1, (hz_nI L, tp, hz_nI (a + 1), -hz_nI 1), (hz_nI 12, gen, fr), r) = some (g1, (hz_nI L, tp, hz_nI (a + 1), hz_nI a), (hz_nI 12, gen, fr), r) := by
      unfold f_Model_materialRow
      simp (disch := omega) only [hz_nI_lit, hz_nI_add, hz_nI_mul, hz_nI_lt, hz_nI_le, hz_nI_inj, hz_nI_sub, hz_nI_nat, hz_nI_inb, hz_nI_pred, hz_nI_m1_lt, hz_nI_lt_m1, hz_nI_m1_le, hz_nI_le_m1, hz_nI_eq_m1, hz_nI_m1_eq, hz_bI0, if_pos, if_neg, if_true, if_false, Option.bind_some, Prod.eta, reduceCtorEq, hz_q_fail, Nat.add_sub_cancel]
    rw [eC, eM]
    exact Or.inl ⟨a, a, _, _, _, _, _, _, _, by omega, by omega, rfl, rfl⟩
  · have hM' : M < 12 := by omega
    have hm : M * 43 ≤ 516 := by omega
    have hN := hz_p_num (tp := tp) (v := x) (w := -hz_nI 1) (lo := 1) (hi := 9999) hL (by omega) (by omega) (show a + 1 ≤ L from ha)
    have hQ := hz_q_num (g1 := g1) (tp := tp) (g3 := (hz_nI M, gen, fr)) (r := r) (lo := 1) (hi := 9999) hL (by omega) (by omega) (show a + 1 ≤ L from ha)
    have hB := hz_numS_bd (tp := tp) (lo := 1) (hi := 9999) (by omega) (show a + 1 ≤ L from ha)
    have eM0 : f_Model_materialRow (g1, (hz_nI L, tp, hz_nI (a + 1), -hz_nI 1), (hz_nI M, gen, fr), r) = Option.bind (f_Model_number (g1, (hz_nI L, tp, hz_nI (a + 1), -hz_nI 1), (hz_nI M, gen, fr), r) (hz_nI 1) (hz_nI 9999)) fun u2 => f_Model_materialRow_39 4096 u2.2 (hz_nI (M * 43)) u2.1 (hz_nI 0) := by
      unfold f_Model_materialRow
      simp (disch := omega) only [hz_nI_lit, hz_nI_add, hz_nI_mul, hz_nI_lt, hz_nI_le, hz_nI_inj, hz_nI_sub, hz_nI_nat, hz_nI_inb, hz_nI_pred, hz_nI_m1_lt, hz_nI_lt_m1, hz_nI_m1_le, hz_nI_le_m1, hz_nI_eq_m1, hz_nI_m1_eq, hz_bI0, if_pos, if_neg, if_true, if_false, Option.bind_some, Prod.eta, reduceCtorEq]
    rw [eM0]
    cases hq : hz_numS tp L 1 9999 (a + 1) with
    | inl p =>
      obtain ⟨b, y, hb, e1⟩ := hN.1 p hq
      obtain ⟨b1, hb1, e2⟩ := hQ.1 p hq
      have hpL := hB.1 p hq
      unfold hz_matC
      rw [hz_p_start hM', e1, e2, Option.bind_some, Option.bind_some, if_pos rfl, Option.bind_some]
      rw [if_pos (show bI false = 0 from rfl)]
      rw [hz_q_39W (show p ≤ 400 by omega) hM M 4096 0 (by omega) (by omega)]
      exact Or.inl ⟨p, p, _, _, _, _, _, _, _, hpL, hpL, rfl, rfl⟩
    | inr z =>
      obtain ⟨v, b⟩ := z
      have hb := hB.2 v b hq
      have e1 := hN.2 v b hq
      have hcg : hz_fndT (fun k => t1 (k + 1)) (hz_nI v) M 0 = hz_fndT (fun k => fr (k * 43)) (hz_nI v) M 0 := hz_fndT_congr M 0 (fun i _ hi => by
        obtain ⟨⟨v9, _, _, h3, h4⟩, _⟩ := hT.1 i (by omega)
        show t1 (i + 1) = fr (i * 43)
        rw [h3, h4])
      cases hf : hz_fndT (fun k => fr (k * 43)) (hz_nI v) M 0 with
      | some q =>
        rw [hz_matC_dup hM' (by omega) e1 (hcg.trans hf)]
        rcases hQ.2 v b hq with e2 | ⟨hd, e2⟩
        · have e6 := (hz_q_39 (g1 := g1) (tp := tp) (m := M * 43) (y2 := hz_nI v) hm hL hb.2.1 (by omega) hM (ng := gen) (fr := fr) (r := r) M 4096 0 (by omega) (by omega)).1 (by rw [hf]; simp)
          rw [e2, Option.bind_some, e6]
          exact Or.inl ⟨b - 1, b - 1, _, _, _, _, _, _, _, by omega, by omega, rfl, rfl⟩
        · rw [e2, Option.bind_some]
          rw [hz_q_39W (show b ≤ 400 by omega) hM M 4096 0 (by omega) (by omega)]
          exact Or.inl ⟨b - 1, b, _, _, _, _, _, _, _, by omega, hb.2.1, rfl, rfl⟩
      | none =>
        rw [hz_matC_new hM' e1 (hcg.trans hf)]
        rcases hQ.2 v b hq with e2 | ⟨hd, e2⟩
        · have e6 := (hz_q_39 (g1 := g1) (tp := tp) (m := M * 43) (y2 := hz_nI v) hm hL hb.2.1 (by omega) hM (ng := gen) (fr := fr) (r := r) M 4096 0 (by omega) (by omega)).2 hf
          rw [e2, Option.bind_some, e6]
          have hNm := hz_pq_names (tp := tp) (w := -hz_nI 1) (t1 := upd t1 (M + 1) (hz_nI v)) (t5 := hz_nI (M + 1)) (t6 := gen) (g1 := g1) (nm := hz_nI M) (ng := gen) (r := r) (c := M + 1) (m := M * 43) hL (by omega) hm 2 0 4096 4096 b (hz_nI v) t2 t3 t4 (upd (upd fr (M * 43) (hz_nI v)) (M * 43 + 9) (hz_nI 0)) (by omega) (by omega) (by omega) hb.2.1 (hz_upd_eq _ _ _)
          rcases hNm with ⟨p, b2, y, tb', b1, fr', j1, j2, j3⟩ | ⟨b2, y, t2', t3', t4', fr', many, j1, j2, j3, j4, j5, j6, j7, j8, j9, j10, j11, j12, j13⟩
          · rw [j2, j3]
            obtain ⟨fr9, e7⟩ := hz_q_147W (g1 := g1) (l := hz_nI L) (a := b1) (show p ≤ 400 by omega) hm (tp := tp) (nm := hz_nI M) (ng := gen) (fr := fr') (r := r)
            rw [e7, Option.bind_some, if_pos (show bI false = 0 from rfl)]
            exact Or.inl ⟨p, p, _, _, _, _, _, _, _, j1, j1, rfl, rfl⟩
          · rw [j3, j4, Option.bind_some, if_neg (show ¬ (bI true = 0) by decide)]
            have h7 : t2' ((M + 1) * 9 + 7) = hz_nI 0 := by rw [j10 _ (by omega)]; exact hZ.1 (M + 1) (by omega) (by omega)
            have hTl := hz_pq_tail (tp := tp) (w := -hz_nI 1) (t1 := upd t1 (M + 1) (hz_nI v)) (t2 := t2') (t3 := t3') (t4 := t4') (t6 := gen) (g1 := g1) (nm := hz_nI M) (ng := gen) (fr := fr') (r := r) (c := M + 1) (m := M * 43) (a := b2) (x := y) hL (by omega) hm j2 h7
            rcases hTl with ⟨p, b3, x3, tb3, b4, fr3, k1, k2, k3⟩ | ⟨b3, x3, t2'', fr'', k1, k2, k3, k4, l0, l1, l2, l3, l7, lf, lg⟩
            · rw [k2, k3]
              exact Or.inl ⟨p, p, _, _, _, _, _, _, _, k1, k1, rfl, rfl⟩
            · rw [k3, k4, hz_nI_add]
              have hfr : ∀ q, ¬ (M * 43 ≤ q ∧ q < M * 43 + 43) → fr'' q = fr q := by
                intro q hq
                rw [lg q (by omega), j13 q (by omega) (by omega), hz_upd_ne (by omega), hz_upd_ne (by omega)]
              have ht2 : ∀ q, ¬ ((M + 1) * 9 ≤ q ∧ q < (M + 1) * 9 + 9) → t2'' q = t2 q := by
                intro q hq
                rw [lf q (by omega), j10 q (by omega)]
              have hfm : fr'' (M * 43) = hz_nI v := by rw [lg _ (by omega), j13 _ (by omega) (by omega), hz_upd_ne (by omega), hz_upd_eq]
              refine Or.inr ⟨b3, x3, _, _, _, _, M + 1, gen, fr'', by omega, k2, by omega, rfl, rfl, ⟨?_, ?_, ?_⟩, ?_⟩
              · intro k hk
                by_cases hkM : k = M
                · subst hkM
                  refine ⟨⟨v, hb.2.2.1, hb.2.2.2, hz_upd_eq _ _ _, hfm⟩, ⟨?_, ?_⟩, many, by omega, j6, ?_, ?_⟩
                  · intro j hj
                    rcases (by omega : j = 0 ∨ j = 1 ∨ j = 2 ∨ (3 ≤ j ∧ j < 7) ∨ j = 7 ∨ j = 8) with rfl | rfl | rfl | h | rfl | rfl
                    · exact l0
                    · exact l1
                    · exact l2
                    · obtain ⟨d, d1, d2, d3⟩ := l3 (j - 3) (by omega)
                      rw [show (k + 1) * 9 + 3 + (j - 3) = (k + 1) * 9 + j by omega] at d2
                      rw [show k * 43 + 4 + (j - 3) = k * 43 + 1 + j by omega] at d3
                      rw [d2, d3]
                    · exact l7
                    · rw [lf _ (by omega), j7, show k * 43 + 1 + 8 = k * 43 + 9 by omega, lg _ (by omega), j8]
                  · intro j hj
                    obtain ⟨d, d1, d2, d3⟩ := l3 j hj
                    exact ⟨d, d1, d3⟩
                  · rw [lg _ (by omega), j8]
                  · intro n hn
                    exact hz_nameR_keep (j9 n (by omega) hn) rfl (fun i hi => rfl) (fun i hi => lg _ (by omega))
                · exact hz_matR_keep (hT.1 k (by omega)) (hz_upd_ne (by omega)) (fun q h1 h2 => ht2 q (by omega)) (fun q h1 h2 => j11 q (by omega)) (fun q h1 h2 => j12 q (by omega)) (fun q h1 h2 => hfr q (by omega))
              · intro i j hij hj
                by_cases hjM : j = M
                · subst hjM
                  rw [hfm, hfr _ (by omega)]
                  exact hz_fndT_none j 0 hf i (by omega) (by omega)
                · rw [hfr _ (by omega), hfr _ (by omega)]
                  exact hT.2.1 i j hij (by omega)
              · intro hg
                exact hz_cellsR_keep (hT.2.2 hg) (fun q h1 h2 => ht2 q (by omega)) (fun q h1 h2 => hfr q (by omega))
              · refine ⟨fun c h1 h2 => ?_, ?_, ?_, ?_⟩
                · rw [ht2 _ (by omega)]; exact hZ.1 c (by omega) h2
                · rw [ht2 _ (by omega)]; exact hZ.2.1
                · rw [ht2 _ (by omega)]; exact hZ.2.2.1
                · rw [ht2 _ (by omega)]; exact hZ.2.2.2
        · rw [e2, Option.bind_some]
          rw [hz_q_39W (show b ≤ 400 by omega) hM M 4096 0 (by omega) (by omega)]
          have e7 : hz_nameS tp L b = .inl b := by
            unfold hz_nameS
            rw [hz_skp_no (hz_dg_ne hd).2.1, if_neg (hz_dg_ne hd).2.2.1]
          obtain ⟨b9, y9, tb9, e8⟩ := (hz_p_name (tp := tp) (v := hz_nI v) (w := -hz_nI 1) (t1 := upd t1 (M + 1) (hz_nI v)) (t2 := t2) (t3 := t3) (lt := t4) (t5 := hz_nI (M + 1)) (t6 := gen) (c := M + 1) (nm := 0) hL hb.2.1 (by omega) (by omega)).1 b e7
          rw [hz_eC_names e8, Option.bind_some, if_pos (show bI false = 0 from rfl)]
          exact Or.inl ⟨b, b, _, _, _, _, _, _, _, hb.2.1, hb.2.1, rfl, rfl⟩
