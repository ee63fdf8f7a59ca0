set_option maxRecDepth 100000 in
theorem hz_bv255 (i : Nat) : (255#32).getLsbD i = decide (i < 8) := by
  by_cases h : i < 32
  · have : ∀ j : Fin 32, (255#32).getLsbD j.val = decide (j.val < 8) := by decide
    exact this ⟨i, h⟩
  · rw [BitVec.getLsbD_of_ge _ _ (by omega), decide_eq_false (by omega)]
set_option maxRecDepth 100000 in
theorem hz_bvk (v : BitVec 64) (n : Nat) (hn : n ≤ 56) : (v >>> n).signExtend 32 &&& 255#32 = (v.sshiftRight n).signExtend 32 &&& 255#32 := by
  rw [BitVec.signExtend_eq_setWidth_of_le _ (by omega), BitVec.signExtend_eq_setWidth_of_le _ (by omega)]
  apply BitVec.eq_of_getLsbD_eq
  intro i hi
  rw [BitVec.getLsbD_and, BitVec.getLsbD_and, hz_bv255]
  by_cases h8 : i < 8
  · rw [decide_eq_true h8, Bool.and_true, Bool.and_true, BitVec.getLsbD_setWidth, BitVec.getLsbD_setWidth, BitVec.getLsbD_ushiftRight, BitVec.getLsbD_sshiftRight]
    have h1 : n + i < 64 := by omega
    simp only [h1, if_true]
    rw [decide_eq_false (show ¬ (64 ≤ i) by omega), Bool.not_false, Bool.true_and]
  · rw [decide_eq_false h8, Bool.and_false, Bool.and_false]
set_option maxRecDepth 100000 in
theorem hz_bk1 : ∀ k : Fin 8, ((((8 : Int32) * hz_nI k.val).toInt64.toUInt64 &&& Int64.toUInt64 63).toBitVec % 64).toNat = 8 * k.val := by decide
set_option maxRecDepth 100000 in
theorem hz_bk2 : ∀ k : Fin 8, ((((8 : Int32) * hz_nI k.val).toInt64 &&& 63).toBitVec.smod 64).toNat = 8 * k.val := by decide
set_option maxRecDepth 100000 in
def hz_byt (x : Int64) (k : Nat) : Int32 := ((x >>> (((8 : Int32) * hz_nI k).toInt64 &&& 63)).toInt32) &&& (255 : Int32)
set_option maxRecDepth 100000 in
theorem hz_p_byte (x : Int64) (k : Nat) (hk : k < 8) : f_HT_byteOf x (hz_nI k) = some (hz_byt x k) := by
  unfold f_HT_byteOf hz_byt
  congr 1
  apply Int32.toBitVec_inj.mp
  rw [Int32.toBitVec_and, Int32.toBitVec_and, Int64.toBitVec_toInt32, Int64.toBitVec_toInt32, UInt64.toBitVec_toInt64, UInt64.toBitVec_shiftRight, Int64.toBitVec_shiftRight, BitVec.ushiftRight_eq', BitVec.sshiftRight_eq', hz_bk1 ⟨k, hk⟩, hz_bk2 ⟨k, hk⟩]
  exact hz_bvk x.toBitVec (8 * k) (by omega)
set_option maxRecDepth 100000 in
theorem hz_byt_rng (x : Int64) (k : Nat) : ∃ d, d ≤ 255 ∧ hz_byt x k = hz_nI d := by
  unfold hz_byt
  generalize (x >>> (((8 : Int32) * hz_nI k).toInt64 &&& 63)).toInt32 = z
  refine ⟨(z.toBitVec &&& 255#32).toNat, ?_, ?_⟩
  · rw [BitVec.toNat_and]
    exact Nat.le_trans (Nat.and_le_right) (by decide)
  · apply Int32.toBitVec_inj.mp
    rw [Int32.toBitVec_and]
    show _ = BitVec.ofNat 32 _
    rw [BitVec.ofNat_toNat, BitVec.setWidth_eq]
    rfl
set_option maxRecDepth 100000 in
theorem hz_pq_sign {g1 : Int32 × Int32} {a2 w2 ra rv rw9 : Int32} {g3 : hz_M3} {r : hz_MR} {x : Int64} : ∀ j n1 n2 L tp, j ≤ 8 → L + j ≤ 400 → j < n1 → j < n2 → (∀ i, ∃ d, d ≤ 255 ∧ tp i = hz_nI d) →
    ∃ tp', (∀ i, ∃ d, d ≤ 255 ∧ tp' i = hz_nI d) ∧ f_Reader_append_5 n1 (tp, hz_nI L, ra, rv, rw9) x (hz_nI j - hz_nI 1) = some (hz_nI (L + j), (tp', hz_nI (L + j), ra, rv, rw9)) ∧ f_Model_sign_39 n2 (g1, (hz_nI L, tp, a2, w2), g3, r) x (hz_nI j - hz_nI 1) = some (hz_nI (L + j), (g1, (hz_nI (L + j), tp', a2, w2), g3, r)) := by
  intro j
  induction j with
  | zero =>
    intro n1 n2 L tp h1 h2 h3 h4 h5
    obtain ⟨n1, rfl⟩ : ∃ n', n1 = n' + 1 := ⟨n1 - 1, by omega⟩
    obtain ⟨n2, rfl⟩ : ∃ n', n2 = n' + 1 := ⟨n2 - 1, by omega⟩
    refine ⟨tp, h5, ?_, ?_⟩
    · rw [f_Reader_append_5, if_pos (show hz_nI 0 - hz_nI 1 < 0 by decide), Nat.add_zero]
    · rw [f_Model_sign_39, if_pos (show hz_nI 0 - hz_nI 1 < 0 by decide), Nat.add_zero]
  | succ j ih =>
    intro n1 n2 L tp h1 h2 h3 h4 h5
    obtain ⟨n1, rfl⟩ : ∃ n', n1 = n' + 1 := ⟨n1 - 1, by omega⟩
    obtain ⟨n2, rfl⟩ : ∃ n', n2 = n' + 1 := ⟨n2 - 1, by omega⟩
    obtain ⟨tp', i1, i2, i3⟩ := ih n1 n2 (L + 1) (upd tp L (hz_byt x j)) (by omega) (by omega) (by omega) (by omega) (fun i => by
      by_cases h : i = L
      · subst h; rw [hz_upd_eq]; exact hz_byt_rng x j
      · rw [hz_upd_ne h]; exact h5 i)
    rw [show L + 1 + j = L + (j + 1) by omega] at i2 i3
    have e1 : hz_nI (j + 1) - hz_nI 1 = hz_nI j := by rw [hz_nI_sub (by omega), Nat.add_sub_cancel]
    have e2 : hz_nI j + -hz_nI 1 = hz_nI j - hz_nI 1 := (Int32.sub_eq_add_neg ..).symm
    refine ⟨tp', i1, ?_, ?_⟩
    · rw [f_Reader_append_5, e1, hz_p_byte x j (by omega), Option.bind_some, if_neg (show ¬ (hz_nI j < 0) by rw [hz_nI_lit, hz_nI_lt (by omega) (by omega)]; omega), if_neg (show ¬ ((400 : Int32) ≤ hz_nI L) by rw [hz_nI_lit, hz_nI_le (by omega) (by omega)]; omega), if_pos (show inb (hz_nI L) 400 by rw [hz_nI_inb (by omega)]; omega), hz_nI_nat (by omega), hz_nI_lit, hz_nI_add, e2]
      exact i2
    · rw [f_Model_sign_39, e1, if_neg (show ¬ (hz_nI j < 0) by rw [hz_nI_lit, hz_nI_lt (by omega) (by omega)]; omega), if_pos (show inb (hz_nI L) 400 by rw [hz_nI_inb (by omega)]; omega), hz_nI_nat (by omega)]
      show f_Model_sign_39 n2 (g1, (hz_nI L + hz_nI 1, upd tp L (hz_byt x j), a2, w2), g3, r) x (hz_nI j + -hz_nI 1) = _
      rw [hz_nI_add, e2]
      exact i3
set_option maxRecDepth 100000 in
theorem hz_op_sign {ht : SHT} {ot : SOut} {rd : SReader} {g1 : Int32 × Int32} {g2 : hz_M2} {g3 : hz_M3} {r : hz_MR} {x : Int64} {n : Int32} (hA : hz_invA rd g2) :
    ∃ k ot' rd' th b g2', f_Law_sign ht ot rd x n = some (k, ot', rd') ∧ f_Model_sign (g1, g2, g3, r) x n = some (b, ((th, g1.2), g2', g3, r)) ∧ hz_ans k ot' th b.toInt64 ∧ hz_invA rd' g2' := by
  have hA0 := hA
  obtain ⟨tp, L, ra, rv, rw9, a2, w2, rfl, rfl, hL, h8⟩ := hA
  cases h1 : hz_inR n 1 8
  · refine ⟨1, ot, _, hz_nI 1, hz_nI 0, _, ?_, ?_, ⟨rfl, fun h => absurd h (by decide)⟩, hA0⟩
    · have eH : f_HT_sign ht (tp, hz_nI L, ra, rv, rw9) x n = some (.inr (1, (tp, hz_nI L, ra, rv, rw9))) := by
        unfold f_HT_sign
        unfold hz_inR at h1
        simp only [decide_eq_false_iff_not, Int32.le_iff_toInt_le, show (1 : Int32).toInt = 1 by decide, show (8 : Int32).toInt = 8 by decide] at h1
        by_cases c1 : n < 1
        · rw [if_pos c1]
        · rw [if_neg c1, if_neg (by rw [Int32.lt_iff_toInt_lt] at c1; rw [Int32.le_iff_toInt_le]; simp only [show (1 : Int32).toInt = 1 by decide, show (8 : Int32).toInt = 8 by decide] at *; omega)]
      unfold f_Law_sign
      rw [eH, Option.bind_some, Sum.elim_inr, if_pos rfl]
    · unfold f_Model_sign f_Model_sign_25
      rw [hz_q_within, h1, Option.bind_some, hz_goes1, hz_goes1, Option.bind_some, if_pos (show bI false = 0 from rfl), hz_nI_lit]
      split <;> rfl
  · obtain ⟨j, j1, j2, rfl⟩ := hz_inR_eq (x := n) (f := 1) (t := 8) (by omega) (by omega) h1
    by_cases cr : L + j ≤ 400
    · obtain ⟨tp', k1, k2, k3⟩ := hz_pq_sign (g1 := (hz_nI 0, g1.2)) (a2 := a2) (w2 := w2) (ra := ra) (rv := rv) (rw9 := rw9) (g3 := g3) (r := r) (x := x) j 4096 4096 L tp (by omega) cr (by omega) (by omega) h8
      refine ⟨0, vp_updL ot (0 : Int32).toNatClampNeg (hz_nI (L + j)).toInt64, (tp', hz_nI (L + j), ra, rv, rw9), hz_nI 0, hz_nI (L + j), (hz_nI (L + j), tp', a2, w2), ?_, ?_, ⟨rfl, fun _ => hz_o_eq ot _⟩, tp', L + j, ra, rv, rw9, a2, w2, rfl, rfl, cr, k1⟩
      · have eH : f_HT_sign ht (tp, hz_nI L, ra, rv, rw9) x (hz_nI j) = some (.inl (hz_nI (L + j), (tp', hz_nI (L + j), ra, rv, rw9))) := by
          unfold f_HT_sign f_Reader_hasRoomFor f_Reader_append
          simp (disch := omega) only [hz_nI_lit, hz_nI_add, hz_nI_mul, hz_nI_lt, hz_nI_le, hz_nI_inj, hz_nI_sub, hz_nI_nat, hz_nI_inb, hz_nI_pred, hz_nI_m1_lt, hz_nI_lt_m1, hz_nI_m1_le, hz_nI_le_m1, hz_nI_eq_m1, hz_nI_m1_eq, hz_bI0, if_pos, if_neg, if_true, if_false, Option.bind_some, Prod.eta, reduceCtorEq, Bool.true_eq_false]
          have k2' := k2
          rw [hz_nI_sub (by omega)] at k2'
          rw [k2', Option.bind_some]
        unfold f_Law_sign
        rw [eH, Option.bind_some, Sum.elim_inl, if_pos hz_o_inb]
      · unfold f_Model_sign f_Model_sign_25
        rw [hz_q_within, h1, Option.bind_some, hz_nI_add, if_neg (show ¬ ((400 : Int32) < hz_nI (L + j)) by rw [hz_nI_lit, hz_nI_lt (by omega) (by omega)]; omega), hz_goesT, Option.bind_some, if_neg (show ¬ (bI true = 0) by decide)]
        exact k3
    · refine ⟨2, ot, _, hz_nI 2, hz_nI 0, _, ?_, ?_, ⟨rfl, fun h => absurd h (by decide)⟩, hA0⟩
      · have eH : f_HT_sign ht (tp, hz_nI L, ra, rv, rw9) x (hz_nI j) = some (.inr (3, (tp, hz_nI L, ra, rv, rw9))) := by
          unfold f_HT_sign f_Reader_hasRoomFor
          simp (disch := omega) only [hz_nI_lit, hz_nI_add, hz_nI_mul, hz_nI_lt, hz_nI_le, hz_nI_inj, hz_nI_sub, hz_nI_nat, hz_nI_inb, hz_nI_pred, hz_nI_m1_lt, hz_nI_lt_m1, hz_nI_m1_le, hz_nI_le_m1, hz_nI_eq_m1, hz_nI_m1_eq, hz_bI0, if_pos, if_neg, if_true, if_false, Option.bind_some, Prod.eta, reduceCtorEq]
        unfold f_Law_sign
        rw [eH, Option.bind_some, Sum.elim_inr, if_neg (show ¬ ((3 : Nat) = 1) by decide), if_pos rfl]
      · unfold f_Model_sign f_Model_sign_25
        rw [hz_q_within, h1, Option.bind_some, hz_nI_add, if_pos (show (400 : Int32) < hz_nI (L + j) by rw [hz_nI_lit, hz_nI_lt (by omega) (by omega)]; omega), hz_goes2, Option.bind_some, if_pos (show bI false = 0 from rfl), hz_nI_lit]
set_option maxRecDepth 100000 in
theorem hz_tab_cp {t1 t2 t3 t4 fr row : Nat → Int32} {M : Nat} {gen : Bool} (hM : M ≤ 12) (h : hz_tabR t1 t2 t3 t4 fr M gen) : hz_tabR t1 t2 t3 t4 (hz_cpT fr row 559) M gen := by
  have e : ∀ q, q < 559 → hz_cpT fr row 559 q = fr q := fun q hq => if_pos hq
  refine ⟨fun k hk => ?_, fun i j hij hj => ?_, fun hg => ?_⟩
  · exact hz_matR_keep (h.1 k hk) rfl (fun _ _ _ => rfl) (fun _ _ _ => rfl) (fun _ _ _ => rfl) (fun q h1 h2 => e q (by omega))
  · rw [e _ (by omega), e _ (by omega)]; exact h.2.1 i j hij hj
  · exact hz_cellsR_keep (h.2.2 hg) (fun _ _ _ => rfl) (fun q h1 h2 => e q (by omega))
set_option maxRecDepth 100000 in
theorem hz_op_read {ht : SHT} {ot : SOut} {rd : SReader} {sp : SSpeller} {mx : SMixture} {tc : STable} {t2 row : Nat → Int32} {g1 : Int32 × Int32} {g2 : hz_M2} {g3 : hz_M3} {g4 : hz_M3} {g5 : hz_M5} {r6 : Int32 × Int32 × Bool} {r7 : hz_M7} {r8 : Nat → Int32} {r9 : hz_R9} (hA : hz_invA rd g2) (hX : hz_invX mx t2 row g5) :
    (∃ ot' rd' tc' pl g2' g3', f_Law_read ht ot rd sp mx tc = some (1, ht, ot', rd', sp, mx, tc', false) ∧ f_Model_read (g1, g2, g3, g4, g5, r6, r7, r8, r9) = some (hz_nI 0, ((hz_nI 1, pl), g2', g3', g4, g5, r6, r7, r8, r9)) ∧ hz_invA rd' g2') ∨
    (∃ ot' b rd' tc' mx' pl g2' g3' g4' g5', f_Law_read ht ot rd sp mx tc = some (0, ht, ot', rd', (sp.1, sp.2.1, sp.2.2.1, sp.2.2.2.1, sp.2.2.2.2.1, 0), mx', tc', true) ∧ f_Model_read (g1, g2, g3, g4, g5, r6, r7, r8, r9) = some (b, ((hz_nI 0, pl), g2', g3', g4', g5', r6, r7, r8, (hz_nI 0, r9.2.1, r9.2.2))) ∧ lg_cmp (ot' (0 : Int32).toNatClampNeg) b.toInt64 = 0 ∧ hz_invA rd' g2' ∧ hz_invT tc' g4' ∧ hz_invX mx' tc'.2.1 g4'.2.2 g5') := by
  obtain ⟨tp, L, ra, rv, rw9, a2, w2, rfl, rfl, hL, h8⟩ := hA
  obtain ⟨mn, mr, ml, pt, am, ix, P, nx, rfl, rfl, hP, hmn, hR, hl, hn1, hn6, hs⟩ := hX
  obtain ⟨s1, s2, s3, s4, s5, s6⟩ := tc
  obtain ⟨nm, ng, fr⟩ := g3
  obtain ⟨m0, ge0, row0⟩ := g4
  obtain ⟨sd, wd, tbl⟩ := r9
  have hfill := hz_pq_fill (tp := tp) (g1 := g1) (r := ((m0, ge0, row0), (hz_nI P, pt, am, ix, hz_nI nx), r6, r7, r8, (sd, wd, tbl))) hL h8 400 4096 4096 0 0 rv s1 (hz_cpT (fun _ => hz_nI 0) s2 117) s3 s4 0 false fr (by omega) (by omega) (by omega) (by omega) (by omega) (by omega) ⟨fun k hk => by omega, fun i j hij hj => by omega, fun h => absurd h (by decide)⟩ ⟨fun c h1 h2 => if_pos (by omega), if_pos (by omega), if_pos (by omega), if_pos (by omega)⟩
  have eF : f_Reader_fill (tp, hz_nI L, ra, rv, rw9) (s1, s2, s3, s4, s5, s6) = f_Reader_fill_18 4096 (tp, hz_nI L, hz_nI 0, rv, -hz_nI 1) (s1, hz_cpT (fun _ => hz_nI 0) s2 117, s3, s4, hz_nI 0, false) true (hz_nI 0) := by
    unfold f_Reader_fill
    rw [hz_p_removeAll, Option.bind_some]
    rfl
  have eM : f_Model_read (g1, (hz_nI L, tp, a2, w2), (nm, ng, fr), (m0, ge0, row0), (hz_nI P, pt, am, ix, hz_nI nx), r6, r7, r8, (sd, wd, tbl)) = f_Model_read_20 4096 (g1, (hz_nI L, tp, hz_nI 0, -hz_nI 1), (hz_nI 0, false, fr), ((m0, ge0, row0), (hz_nI P, pt, am, ix, hz_nI nx), r6, r7, r8, (sd, wd, tbl))) := by
    unfold f_Model_read
    rfl
  rw [eM]
  unfold f_Law_read f_HT_read
  rw [eF]
  rcases hfill with ⟨p, q, b, x, tb', b1, nm', ng', fr', k1, k2, k3, k4⟩ | ⟨b, x, b1, t1, t2', t3, t4, M, gen, fr', k1, k2, k3, k4⟩
  · rw [k3, k4]
    refine Or.inl ⟨ot, (tp, hz_nI 0, b, x, hz_nI p), tb', hz_nI q, (hz_nI 0, tp, b1, hz_nI q), (nm', ng', fr'), ?_, ?_, tp, 0, b, x, hz_nI p, b1, hz_nI q, rfl, rfl, by omega, h8⟩
    · rw [Option.bind_some, if_pos (show bI false = 0 from rfl), Option.bind_some, Sum.elim_inr, if_pos rfl]
    · unfold f_Model_read_88
      rw [if_pos (show (0 : Int32) ≤ hz_nI q by rw [hz_nI_lit, hz_nI_le (by omega) (by omega)]; omega), hz_goes1, Option.bind_some, if_pos (show bI false = 0 from rfl)]
      rfl
  · rw [k2, k3]
    have e126 := hz_q_read_126 (g1 := (hz_nI 0, -hz_nI 1)) (g2 := (hz_nI 0, tp, b1, -hz_nI 1)) (nm := hz_nI M) (m0 := m0) (ng := gen) (ge0 := ge0) (fr := fr') (row := row0) (p0 := hz_nI P) (nx := hz_nI nx) (sd := sd) (pt := pt) (am := am) (ix := ix) (wd := wd) (tbl := tbl) (r6 := r6) (r7 := r7) (r8 := r8) 559 4096 0 (by omega) (by omega)
    rw [hz_cpT_zero] at e126
    refine Or.inr ⟨vp_updL ot (0 : Int32).toNatClampNeg (hz_nI M).toInt64, hz_nI M, (tp, hz_nI 0, b, x, -hz_nI 1), (t1, t2', t3, t4, hz_nI M, gen), (mn, mr, ml, hz_nI 0, hz_nI 1), -hz_nI 1, (hz_nI 0, tp, b1, -hz_nI 1), (hz_nI M, gen, fr'), (hz_nI M, gen, hz_cpT fr' row0 559), (hz_nI 0, pt, am, ix, hz_nI 1), ?_, ?_, hz_o_eq ot _, ⟨tp, 0, b, x, -hz_nI 1, b1, -hz_nI 1, rfl, rfl, by omega, h8⟩, ⟨t1, t2', t3, t4, M, gen, hz_cpT fr' row0 559, rfl, rfl, k1, hz_tab_cp k1 k4⟩, mn, mr, ml, pt, am, ix, 0, 1, rfl, rfl, by omega, fun i hi => by omega, fun i hi => by omega, fun i hi => by omega, by omega, by omega, Or.inl (by omega)⟩
    · rw [Option.bind_some, if_neg (show ¬ (bI true = 0) by decide)]
      unfold f_Mixture_removeAll f_Speller_forget
      rw [Option.bind_some, Option.bind_some, Option.bind_some, Sum.elim_inl, if_pos hz_o_inb]
      rfl
    · unfold f_Model_read_88
      rw [if_neg (show ¬ ((0 : Int32) ≤ -hz_nI 1) by decide), hz_goesT, Option.bind_some, if_neg (show ¬ (bI true = 0) by decide)]
      exact e126
