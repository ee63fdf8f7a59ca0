abbrev hz_MG : Type := hz_M2 × hz_M3 × hz_MR
set_option maxRecDepth 100000 in
theorem hz_goesT {g1 : Int32 × Int32} {R : hz_MG} : f_Model_goes (g1, R) true true true = some (true, ((hz_nI 0, g1.2), R)) := by
  unfold f_Model_goes
  simp (disch := omega) only [hz_nI_lit, hz_nI_add, hz_nI_mul, hz_nI_lt, hz_nI_le, hz_nI_inj, hz_nI_sub, hz_nI_nat, hz_nI_inb, hz_nI_pred, hz_nI_m1_lt, hz_nI_lt_m1, hz_nI_m1_le, hz_nI_le_m1, hz_nI_eq_m1, hz_nI_m1_eq, hz_bI0, if_pos, if_neg, if_true, if_false, Option.bind_some, Prod.eta, reduceCtorEq, Bool.true_eq_false]
set_option maxRecDepth 100000 in
theorem hz_goes1 {g1 : Int32 × Int32} {R : hz_MG} {b c : Bool} : f_Model_goes (g1, R) false b c = some (false, ((hz_nI 1, g1.2), R)) := by
  unfold f_Model_goes
  simp (disch := omega) only [hz_nI_lit, hz_nI_add, hz_nI_mul, hz_nI_lt, hz_nI_le, hz_nI_inj, hz_nI_sub, hz_nI_nat, hz_nI_inb, hz_nI_pred, hz_nI_m1_lt, hz_nI_lt_m1, hz_nI_m1_le, hz_nI_le_m1, hz_nI_eq_m1, hz_nI_m1_eq, hz_bI0, if_pos, if_neg, if_true, if_false, Option.bind_some, Prod.eta, reduceCtorEq, Bool.true_eq_false]
set_option maxRecDepth 100000 in
theorem hz_goes2 {g1 : Int32 × Int32} {R : hz_MG} {c : Bool} : f_Model_goes (g1, R) true false c = some (false, ((hz_nI 2, g1.2), R)) := by
  unfold f_Model_goes
  simp (disch := omega) only [hz_nI_lit, hz_nI_add, hz_nI_mul, hz_nI_lt, hz_nI_le, hz_nI_inj, hz_nI_sub, hz_nI_nat, hz_nI_inb, hz_nI_pred, hz_nI_m1_lt, hz_nI_lt_m1, hz_nI_m1_le, hz_nI_le_m1, hz_nI_eq_m1, hz_nI_m1_eq, hz_bI0, if_pos, if_neg, if_true, if_false, Option.bind_some, Prod.eta, reduceCtorEq, Bool.true_eq_false]
set_option maxRecDepth 100000 in
theorem hz_goes3 {g1 : Int32 × Int32} {R : hz_MG} : f_Model_goes (g1, R) true true false = some (false, ((hz_nI 3, g1.2), R)) := by
  unfold f_Model_goes
  simp (disch := omega) only [hz_nI_lit, hz_nI_add, hz_nI_mul, hz_nI_lt, hz_nI_le, hz_nI_inj, hz_nI_sub, hz_nI_nat, hz_nI_inb, hz_nI_pred, hz_nI_m1_lt, hz_nI_lt_m1, hz_nI_m1_le, hz_nI_le_m1, hz_nI_eq_m1, hz_nI_m1_eq, hz_bI0, if_pos, if_neg, if_true, if_false, Option.bind_some, Prod.eta, reduceCtorEq, Bool.true_eq_false]
set_option maxRecDepth 100000 in
theorem hz_p_isOutside (x a b : Int32) : f_HT_isOutside x a b = some (!hz_inR x a b) := by
  unfold f_HT_isOutside hz_inR
  simp only [Int32.lt_iff_toInt_lt, Int32.le_iff_toInt_le]
  split
  · simp only [Option.some.injEq, Bool.true_eq, Bool.not_eq_true', decide_eq_false_iff_not]; omega
  · split
    · simp only [Option.some.injEq, Bool.false_eq, Bool.not_eq_false', decide_eq_true_eq]; omega
    · simp only [Option.some.injEq, Bool.true_eq, Bool.not_eq_true', decide_eq_false_iff_not]; omega
set_option maxRecDepth 100000 in
theorem hz_o_inb : inb (0 : Int32) 1 := by decide
set_option maxRecDepth 100000 in
theorem hz_o_0 : (0 : Int32).toNatClampNeg = 0 := by decide
set_option maxRecDepth 100000 in
theorem hz_cmp_self (x : Int64) : lg_cmp x x = 0 := by
  unfold lg_cmp
  rw [if_neg (by simp), if_pos rfl]
set_option maxRecDepth 100000 in
theorem hz_o_eq (ot : SOut) (x : Int32) : lg_cmp (vp_updL ot (0 : Int32).toNatClampNeg x.toInt64 (0 : Int32).toNatClampNeg) x.toInt64 = 0 := by
  unfold vp_updL
  rw [if_pos rfl]
  exact hz_cmp_self _
set_option maxRecDepth 100000 in
def hz_ans (k : Int32) (ot' : SOut) (th : Int32) (b : Int64) : Prop := th = k ∧ (k = 0 → lg_cmp (ot' (0 : Int32).toNatClampNeg) b = 0)
set_option maxRecDepth 100000 in
def hz_invA (rd : SReader) (g2 : hz_M2) : Prop := ∃ tp L ra rv rw a2 w2, rd = (tp, hz_nI L, ra, rv, rw) ∧ g2 = (hz_nI L, tp, a2, w2) ∧ L ≤ 400 ∧ ∀ i, ∃ d, d ≤ 255 ∧ tp i = hz_nI d
set_option maxRecDepth 100000 in
def hz_invT (tb : STable) (g4 : hz_M3) : Prop := ∃ t1 t2 t3 t4 M gen row, tb = (t1, t2, t3, t4, hz_nI M, gen) ∧ g4 = (hz_nI M, gen, row) ∧ M ≤ 12 ∧ hz_tabR t1 t2 t3 t4 row M gen
abbrev hz_M5 : Type := Int32 × (Nat → Int32) × (Nat → Int32) × (Nat → Int32) × Int32
set_option maxRecDepth 100000 in
def hz_invX (mx : SMixture) (t2 row : Nat → Int32) (g5 : hz_M5) : Prop := ∃ mn mr ml pt am ix P nx, mx = (mn, mr, ml, hz_nI P, hz_nI nx) ∧ g5 = (hz_nI P, pt, am, ix, hz_nI nx) ∧ P ≤ 8 ∧ (∀ i, i < P → mn i = pt i) ∧ hz_prtR t2 row mr ix P ∧ hz_larR ml am P ∧ 1 ≤ nx ∧ nx ≤ 6 ∧ (nx ≤ 3 ∨ hz_nI 5 ≤ hz_maxT (fun i => hz_pD row ix i 1) P 0 (hz_nI 0))
set_option maxRecDepth 100000 in
theorem hz_ixG_congr {f g : Nat → Int32} {h : Nat → Int32} {s : Int32} {P l : Nat} (e : ∀ i, i < P → f i = g i) : hz_ixG f (hz_strT h s P 0 l) = hz_ixG g (hz_strT h s P 0 l) := by
  have key : ∀ n p l q, hz_strT h s n p l = some q → q < p + n := by
    intro n
    induction n with
    | zero => intro p l q hq; simp [hz_strT] at hq
    | succ n ih =>
      intro p l q hq
      unfold hz_strT at hq
      split at hq
      · split at hq
        · cases hq; omega
        · have := ih _ _ _ hq; omega
      · have := ih _ _ _ hq; omega
  cases hq : hz_strT h s P 0 l with
  | none => rfl
  | some q => exact e q (by have := key P 0 l q hq; omega)
set_option maxRecDepth 100000 in
theorem hz_op_mixture {ht : SHT} {ot : SOut} {mx : SMixture} {tb : STable} {g1 : Int32 × Int32} {g2 : hz_M2} {g3 : hz_M3} {g4 : hz_M3} {g5 : hz_M5} {r : hz_MQ9} {x : Int32} (hT : hz_invT tb g4) (hX : hz_invX mx tb.2.1 g4.2.2 g5) :
    ∃ k ot' th b, f_Law_mixture ht ot mx tb x = some (k, ot') ∧ f_Model_mixture (g1, g2, g3, g4, g5, r) x = some (b, ((th, g1.2), g2, g3, g4, g5, r)) ∧ hz_ans k ot' th b.toInt64 := by
  obtain ⟨t1, t2, t3, t4, M, gen, row, rfl, rfl, hM, hT⟩ := hT
  obtain ⟨mn, mr, ml, pt, am, ix, P, nx, rfl, rfl, hP, hmn, hR, hl, hn1, hn6, hs⟩ := hX
  have hR : hz_prtR t2 row mr ix P := hR
  have hI := hz_ixR_of hR
  unfold f_Law_mixture f_HT_mixture f_Model_mixture f_Model_mixture_19
  rw [hz_p_isOutside, hz_q_within]
  cases h1 : hz_inR x 0 5
  · refine ⟨1, ot, 1, 0, ?_, ?_, rfl, fun h => absurd h (by decide)⟩
    · rfl
    · simp only [Option.bind_some, hz_goes1]
      split <;> rfl
  · by_cases hP0 : P = 0
    · subst hP0
      refine ⟨2, ot, 2, 0, ?_, ?_, rfl, fun h => absurd h (by decide)⟩
      · rfl
      · simp only [Option.bind_some, hz_goes2]
        rfl
    · have hne : ¬ hz_nI P = hz_nI 0 := by rw [hz_nI_inj (by omega) (by omega)]; exact hP0
      have hnl : ¬ hz_nI P ≤ hz_nI 0 := by rw [hz_nI_le (by omega) (by omega)]; omega
      have hD := hz_disR_of hR
      have e35 := hz_q_mix_35 (g1 := (hz_nI 0, g1.2)) (g2 := g2) (g3 := g3) (m0 := hz_nI M) (ge := gen) (row := row) (pt := pt) (am := am) (nx := hz_nI nx) (y1 := x) (r := r) hP hI P 4096 0 (hz_nI 0) (hz_nI 0) (by omega) (by omega)
      have hfin : ∀ v, (Option.bind (some v) fun u5 => some (Sum.inl u5 : Int32 ⊕ (Nat × Unit))) = some (.inl v) := fun v => rfl
      have goal : ∀ v : Int32, f_HT_mixture ht (mn, mr, ml, hz_nI P, hz_nI nx) (t1, t2, t3, t4, hz_nI M, gen) x = some (.inl v) → hz_mixF ((hz_nI 0, g1.2), g2, g3, (hz_nI M, gen, row), (hz_nI P, pt, am, ix, hz_nI nx), r) x (hz_orT (fun i => hz_pD row ix i 2) P 0 (hz_nI 0)) (hz_pairsT row ix P 0 (hz_nI 0)) = some (v, ((hz_nI 0, g1.2), g2, g3, (hz_nI M, gen, row), (hz_nI P, pt, am, ix, hz_nI nx), r)) → ∃ k ot' th b, f_Law_mixture ht ot (mn, mr, ml, hz_nI P, hz_nI nx) (t1, t2, t3, t4, hz_nI M, gen) x = some (k, ot') ∧ f_Model_mixture (g1, g2, g3, (hz_nI M, gen, row), (hz_nI P, pt, am, ix, hz_nI nx), r) x = some (b, ((th, g1.2), g2, g3, (hz_nI M, gen, row), (hz_nI P, pt, am, ix, hz_nI nx), r)) ∧ hz_ans k ot' th b.toInt64 := by
        intro v hC hQ
        refine ⟨0, vp_updL ot (0 : Int32).toNatClampNeg v.toInt64, 0, v, ?_, ?_, rfl, fun _ => hz_o_eq ot v⟩
        · unfold f_Law_mixture
          rw [hC, Option.bind_some]
          simp only [Sum.elim_inl]
          rw [if_pos hz_o_inb]
        · unfold f_Model_mixture f_Model_mixture_19
          rw [hz_q_within, h1, Option.bind_some, if_neg (show ¬ (hz_nI P ≤ 0) from hnl), hz_goesT, Option.bind_some, if_neg (show ¬ (bI true = 0) by decide)]
          exact e35.trans hQ
      have hx := hz_inR_eq (x := x) (f := 0) (t := 5) (by omega) (by omega) h1
      obtain ⟨d, d1, d2, rfl⟩ := hx
      have hC0 : ∀ v, (if hz_nI d = (0 : Int32) then (Option.bind (f_Mixture_strictness (mn, mr, ml, hz_nI P, hz_nI nx) (t1, t2, t3, t4, hz_nI M, gen)) fun u5 => some (Sum.inl u5 : Int32 ⊕ (Nat × Unit))) else if hz_nI d = (1 : Int32) then (Option.bind (f_Mixture_gear (mn, mr, ml, hz_nI P, hz_nI nx) (t1, t2, t3, t4, hz_nI M, gen)) fun u7 => some (.inl u7)) else if hz_nI d = (2 : Int32) then (Option.bind (f_Mixture_distance (mn, mr, ml, hz_nI P, hz_nI nx) (t1, t2, t3, t4, hz_nI M, gen) true) fun u9 => some (.inl u9)) else if hz_nI d = (3 : Int32) then (Option.bind (f_Mixture_distance (mn, mr, ml, hz_nI P, hz_nI nx) (t1, t2, t3, t4, hz_nI M, gen) false) fun u11 => some (.inl u11)) else if hz_nI d = (4 : Int32) then some (.inl (hz_nI P)) else (Option.bind (f_Mixture_contradictingPairs (mn, mr, ml, hz_nI P, hz_nI nx) (t1, t2, t3, t4, hz_nI M, gen)) fun u13 => some (.inl u13))) = some (.inl v) → f_HT_mixture ht (mn, mr, ml, hz_nI P, hz_nI nx) (t1, t2, t3, t4, hz_nI M, gen) (hz_nI d) = some (.inl v) := by
        intro v hv
        unfold f_HT_mixture
        rw [hz_p_isOutside, h1, Option.bind_some, if_pos (show bI (!true) = 0 from rfl), if_neg (show ¬ (hz_nI P = 0) from hne)]
        exact hv
      have eS := hz_p_strict (mn := mn) (ml := ml) (nx := hz_nI nx) (t1 := t1) (t3 := t3) (t4 := t4) (t5 := hz_nI M) (t6 := gen) hP hR
      have eG := hz_p_gear (mn := mn) (ml := ml) (nx := hz_nI nx) (t1 := t1) (t3 := t3) (t4 := t4) (t5 := hz_nI M) (t6 := gen) hP hR
      have eD := fun day => hz_p_dist (mn := mn) (nx := hz_nI nx) (t1 := t1) (t3 := t3) (t4 := t4) (t5 := hz_nI M) (t6 := gen) (day := day) hP hR hl
      have eP := hz_p_pairs (mn := mn) (ml := ml) (nx := hz_nI nx) (t1 := t1) (t3 := t3) (t4 := t4) (t5 := hz_nI M) (t6 := gen) hP hR
      have fS := hz_q_strict (g1 := (hz_nI 0, g1.2)) (g2 := g2) (g3 := g3) (m0 := hz_nI M) (ge := gen) (row := row) (pt := pt) (am := am) (nx := hz_nI nx) (r := r) hP hI
      have fD := fun day => hz_q_dist (g1 := (hz_nI 0, g1.2)) (g2 := g2) (g3 := g3) (m0 := hz_nI M) (ge := gen) (day := day) (row := row) (pt := pt) (am := am) (nx := hz_nI nx) (r := r) hP hI
      have hm1 := fun day => hz_dist_m1 (am := am) (day := day) hD (show 1 ≤ P by omega)
      rcases (by omega : d = 0 ∨ d = 1 ∨ d = 2 ∨ d = 3 ∨ d = 4 ∨ d = 5) with rfl | rfl | rfl | rfl | rfl | rfl
      · refine goal (hz_maxT (fun i => hz_pD row ix i 1) P 0 (hz_nI 0)) (hC0 (hz_maxT (fun i => hz_pD row ix i 1) P 0 (hz_nI 0)) ?_) ?_
        · rw [if_pos (show hz_nI 0 = 0 from rfl), eS]; rfl
        · unfold hz_mixF; rw [if_pos (show hz_nI 0 = 0 from rfl), fS]; rfl
      · refine goal (hz_orT (fun i => hz_pD row ix i 2) P 0 (hz_nI 0)) (hC0 (hz_orT (fun i => hz_pD row ix i 2) P 0 (hz_nI 0)) ?_) ?_
        · rw [if_neg (by decide), if_pos (show hz_nI 1 = 1 from rfl), eG]; rfl
        · unfold hz_mixF; rw [if_neg (by decide), if_pos (show hz_nI 1 = 1 from rfl)]
      · refine goal (hz_maxT (hz_dT row ix am true) P 0 (hz_nI 0)) (hC0 (hz_maxT (hz_dT row ix am true) P 0 (hz_nI 0)) ?_) ?_
        · rw [if_neg (by decide), if_neg (by decide), if_pos (show hz_nI 2 = 2 from rfl), eD, hm1]; rfl
        · unfold hz_mixF; rw [if_neg (by decide), if_neg (by decide), if_neg (by decide), if_pos (show hz_nI 2 = 2 from rfl), fD]; rfl
      · refine goal (hz_maxT (hz_dT row ix am false) P 0 (hz_nI 0)) (hC0 (hz_maxT (hz_dT row ix am false) P 0 (hz_nI 0)) ?_) ?_
        · rw [if_neg (by decide), if_neg (by decide), if_neg (by decide), if_pos (show hz_nI 3 = 3 from rfl), eD, hm1]; rfl
        · unfold hz_mixF; rw [if_neg (by decide), if_neg (by decide), if_neg (by decide), if_neg (by decide), fD]; rfl
      · refine goal (hz_nI P) (hC0 (hz_nI P) ?_) ?_
        · rw [if_neg (by decide), if_neg (by decide), if_neg (by decide), if_neg (by decide), if_pos (show hz_nI 4 = 4 from rfl)]
        · unfold hz_mixF; rw [if_neg (by decide), if_neg (by decide), if_pos (show (4 : Int32) ≤ hz_nI 4 by decide), if_pos (show hz_nI 4 = 4 from rfl)]
      · refine goal (hz_pairsT row ix P 0 (hz_nI 0)) (hC0 (hz_pairsT row ix P 0 (hz_nI 0)) ?_) ?_
        · rw [if_neg (by decide), if_neg (by decide), if_neg (by decide), if_neg (by decide), if_neg (by decide), eP]; rfl
        · unfold hz_mixF; rw [if_neg (by decide), if_neg (by decide), if_pos (show (4 : Int32) ≤ hz_nI 5 by decide), if_neg (by decide)]
