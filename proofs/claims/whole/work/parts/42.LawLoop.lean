noncomputable def f_Law_loop (L : Nat) (xs : Nat → Int32) : Nat → SHT → SReader → SSpeller → SMixture → SSurroundings → STable → STable → SOut → SModel → Int32 → Option Bool
  | 0, _, _, _, _, _, _, _, _, _, _ => none
  | n + 1, ht, rd, sp, mx, ar, tb, tc, ot, md, y4 =>
    (if Int32.ofNat L - (4 : Int32) < y4 then some true else
     (if inb y4 L then
      (if ((xs y4.toNatClampNeg) &&& (31 : Int32)) = (0 : Int32) then f_Law_case_120 L xs (f_Law_loop L xs n) ht rd sp mx ar tb tc ot md y4 else
      (if ((xs y4.toNatClampNeg) &&& (31 : Int32)) = (1 : Int32) then f_Law_case_220 L xs (f_Law_loop L xs n) ht rd sp mx ar tb tc ot md y4 else
      (if ((xs y4.toNatClampNeg) &&& (31 : Int32)) = (2 : Int32) then f_Law_case_264 L xs (f_Law_loop L xs n) ht rd sp mx ar tb tc ot md y4 else
      (if ((xs y4.toNatClampNeg) &&& (31 : Int32)) = (3 : Int32) then f_Law_case_277 L xs (f_Law_loop L xs n) ht rd sp mx ar tb tc ot md y4 else
      (if ((xs y4.toNatClampNeg) &&& (31 : Int32)) = (4 : Int32) then f_Law_case_345 L xs (f_Law_loop L xs n) ht rd sp mx ar tb tc ot md y4 else
      (if ((xs y4.toNatClampNeg) &&& (31 : Int32)) = (5 : Int32) then f_Law_case_445 L xs (f_Law_loop L xs n) ht rd sp mx ar tb tc ot md y4 else
      (if ((xs y4.toNatClampNeg) &&& (31 : Int32)) = (6 : Int32) then f_Law_case_501 L xs (f_Law_loop L xs n) ht rd sp mx ar tb tc ot md y4 else
      (if ((xs y4.toNatClampNeg) &&& (31 : Int32)) = (7 : Int32) then f_Law_case_569 L xs (f_Law_loop L xs n) ht rd sp mx ar tb tc ot md y4 else
      (if ((xs y4.toNatClampNeg) &&& (31 : Int32)) = (8 : Int32) then f_Law_case_580 L xs (f_Law_loop L xs n) ht rd sp mx ar tb tc ot md y4 else
      (if ((xs y4.toNatClampNeg) &&& (31 : Int32)) = (9 : Int32) then f_Law_case_636 L xs (f_Law_loop L xs n) ht rd sp mx ar tb tc ot md y4 else
      (if ((xs y4.toNatClampNeg) &&& (31 : Int32)) = (10 : Int32) then f_Law_case_692 L xs (f_Law_loop L xs n) ht rd sp mx ar tb tc ot md y4 else
      (if ((xs y4.toNatClampNeg) &&& (31 : Int32)) = (11 : Int32) then f_Law_case_760 L xs (f_Law_loop L xs n) ht rd sp mx ar tb tc ot md y4 else
      (if ((xs y4.toNatClampNeg) &&& (31 : Int32)) = (12 : Int32) then f_Law_case_856 L xs (f_Law_loop L xs n) ht rd sp mx ar tb tc ot md y4 else
      (if ((xs y4.toNatClampNeg) &&& (31 : Int32)) = (13 : Int32) then f_Law_case_912 L xs (f_Law_loop L xs n) ht rd sp mx ar tb tc ot md y4 else
      (if ((xs y4.toNatClampNeg) &&& (31 : Int32)) = (14 : Int32) then f_Law_case_987 L xs (f_Law_loop L xs n) ht rd sp mx ar tb tc ot md y4 else
      (if ((xs y4.toNatClampNeg) &&& (31 : Int32)) = (15 : Int32) then f_Law_case_1043 L xs (f_Law_loop L xs n) ht rd sp mx ar tb tc ot md y4 else
      (if ((xs y4.toNatClampNeg) &&& (31 : Int32)) = (16 : Int32) then f_Law_case_1091 L xs (f_Law_loop L xs n) ht rd sp mx ar tb tc ot md y4 else
       f_Law_case_1166 L xs (f_Law_loop L xs n) ht rd sp mx ar tb tc ot md y4)))))))))))))))))
      else none))
set_option maxHeartbeats 4000000 in
set_option maxRecDepth 100000 in
theorem k_Law_loop {rv : Bool} {p : Program} {l : Launch} {e : Env} {s : State} {m : MethodId} {below : List Frame} {meth : Method} {c : Code} {dC : Nat → ClassId} {dI : Nat → Nat → Nat} {b L : Nat} {xs : Nat → Int32} {A : Nat → Prop} (htr : l.stackTraces = false) (C0 : lw_At p s m meth c b L xs) (hN : nwAll s) (hX : xAll A s) (hnc : ncAll s) (hA : ∀ q : Nat, s.heap.size ≤ q → A q) (hA2 : ∀ q : Nat, A q → s.heap.size ≤ q) : ∀ (n : Nat), n ≤ 513 → ∀ (ad_ht : Nat → Nat) (cA_ht : Nat → ClassId) (ad_rd : Nat → Nat) (cA_rd : Nat → ClassId) (ad_sp : Nat → Nat) (cA_sp : Nat → ClassId) (ad_mx : Nat → Nat) (cA_mx : Nat → ClassId) (ad_ar : Nat → Nat) (cA_ar : Nat → ClassId) (ad_tb : Nat → Nat) (cA_tb : Nat → ClassId) (ad_tc : Nat → Nat) (cA_tc : Nat → ClassId) (ad_ot : Nat → Nat) (cA_ot : Nat → ClassId) (ad_md : Nat → Nat) (cA_md : Nat → ClassId) (ht : SHT) (rd : SReader) (sp : SSpeller) (mx : SMixture) (ar : SSurroundings) (tb : STable) (tc : STable) (ot : SOut) (md : SModel) (y4 : Int32) (H : Heap) (locs : List Loc) (ls : Array Slot), f_Law_loop L xs n ht rd sp mx ar tb tc ot md y4 = some rv → va_K (dC, dI) vwCl [(cA_ht 1, .int), (cA_rd 1, .int), (cA_sp 1, .int), (cA_sp 2, .int), (cA_sp 3, .int), (cA_sp 4, .int), (cA_mx 1, .int), (cA_mx 2, .int), (cA_mx 3, .boolean), (cA_ar 1, .int), (cA_ar 2, .int), (cA_ar 3, .int), (cA_tb 1, .int), (cA_tb 2, .int), (cA_tb 3, .int), (cA_tb 4, .byte), (cA_tc 1, .int), (cA_tc 2, .int), (cA_tc 3, .int), (cA_tc 4, .byte), (cA_ot 1, .long), (cA_md 1, .int), (cA_md 2, .int), (cA_md 3, .int), (cA_md 4, .int), (cA_md 5, .int), (cA_md 6, .int), (cA_md 7, .int), (cA_md 8, .int), (cA_md 9, .boolean), (cA_md 10, .int), (cA_md 11, .int), (cA_md 12, .int), (cA_md 13, .int)] s → va_P (dC, dI) vwCl (uw_HT ad_ht cA_ht (ad_rd 0) (ad_sp 0) (ad_mx 0) (ad_ar 0) (ad_tb 0) (ad_tc 0) ht ++ (uw_Reader ad_rd cA_rd rd ++ (uw_Speller ad_sp cA_sp sp ++ (uw_Mixture ad_mx cA_mx mx ++ (uw_Surroundings ad_ar cA_ar ar ++ (uw_Table ad_tb cA_tb tb ++ (uw_Table ad_tc cA_tc tc ++ (uw_Out ad_ot cA_ot ot ++ (uw_Model ad_md cA_md md))))))))) H → va_D A (uw_HT ad_ht cA_ht (ad_rd 0) (ad_sp 0) (ad_mx 0) (ad_ar 0) (ad_tb 0) (ad_tc 0) ht ++ (uw_Reader ad_rd cA_rd rd ++ (uw_Speller ad_sp cA_sp sp ++ (uw_Mixture ad_mx cA_mx mx ++ (uw_Surroundings ad_ar cA_ar ar ++ (uw_Table ad_tb cA_tb tb ++ (uw_Table ad_tc cA_tc tc ++ (uw_Out ad_ot cA_ot ot ++ (uw_Model ad_md cA_md md))))))))) → va_S A s.heap H locs → lv_has ls 7 [(0, .ref b), (1, .ref (ad_ht 0)), (2, .ref (ad_md 0)), (3, .ref (ad_ot 1)), (4, .int y4)] → W p l e room_1 s m #[Value.ref b] below meth c H locs (42 + (513 - n)) (3596 + 6 * (513 - n)) (lw_Zb rv below #[Value.ref b] s) (F0 m 23 ls []) := by
  obtain ⟨hx, hb, hr, hml, hown, hts0, hX0, hbl, hlocks, hgv⟩ := id C0
  have hown : s.vm.findClass "HazardTablesLaw" = some m.cls := hown
  have hts : ∀ w ∈ (Cond.initialized "HazardTables" :: WA), w.before #[Value.ref b] s = true := fun w h => hts0 w ((List.mem_cons.mp h).elim (fun e => by rw [e]; exact (List.mem_filter.mp wd_43).1) (fun h => (List.mem_filter.mp h).1))
  have hbA : ¬ A b := fun h => absurd (hA2 b h) (Nat.not_le.mpr hbl)
  intro n
  induction n with
  | zero =>
    intro hn ad_ht cA_ht ad_rd cA_rd ad_sp cA_sp ad_mx cA_mx ad_ar cA_ar ad_tb cA_tb ad_tc cA_tc ad_ot cA_ot ad_md cA_md ht rd sp mx ar tb tc ot md y4 H locs ls hf hK hP hD hS hl
    rw [f_Law_loop] at hf; cases hf
  | succ n ih =>
    intro hn ad_ht cA_ht ad_rd cA_rd ad_sp cA_sp ad_mx cA_mx ad_ar cA_ar ad_tb cA_tb ad_tc cA_tc ad_ot cA_ot ad_md cA_md ht rd sp mx ar tb tc ot md y4 H locs ls hf hK hP hD hS hl
    rw [f_Law_loop] at hf
    refine lv_iload hx hb d_Law_law_23 (lv_at hl 4 rfl) ?_
    refine lv_aload_n hx hb d_Law_law_25 rfl (lv_at hl 0 rfl) ?_
    refine va_slen hx hb hX0 hbl hbA hS d_Law_law_26 ?_
    refine lv_iconst (v := (4 : Int32)) hx hb d_Law_law_27 (by decide) ?_
    refine lv_isub hx hb d_Law_law_28 ?_
    refine lv_icmp_gt (tgt := 1172) hx hb d_Law_law_29 (by decide) (fun hc => ?_) (fun hc => ?_)
    · have hrv : rv = true := (Option.some.inj (hf_t hf hc)).symm
      subst hrv
      refine lv_iconst (v := 1) hx hb d_Law_law_1172 (by decide) ?_
      refine va_forget (fun q hq => hA2 _ (hS.2.2 q hq)) ?_
      refine W.widen (k := 1092) (n := 11944) (by omega) (by omega) ?_
      exact lw_ret1b hx hb hr hlocks d_Law_law_1173
    · have hf := hf_f hf hc
      obtain ⟨hi, hf⟩ := hf_g hf
      refine lv_aload_n hx hb d_Law_law_32 rfl (lv_at hl 0 rfl) ?_
      refine lv_iload hx hb d_Law_law_33 (lv_at hl 4 rfl) ?_
      refine va_sld hx hb hX0 hbl hbA hS hi d_Law_law_35 ?_
      refine lv_bipush (v := (31 : Int32)) hx hb d_Law_law_36 (by decide) ?_
      refine lv_iand hx hb d_Law_law_38 ?_
      have hk9 : ∀ (ad_ht : Nat → Nat) (cA_ht : Nat → ClassId) (ad_rd : Nat → Nat) (cA_rd : Nat → ClassId) (ad_sp : Nat → Nat) (cA_sp : Nat → ClassId) (ad_mx : Nat → Nat) (cA_mx : Nat → ClassId) (ad_ar : Nat → Nat) (cA_ar : Nat → ClassId) (ad_tb : Nat → Nat) (cA_tb : Nat → ClassId) (ad_tc : Nat → Nat) (cA_tc : Nat → ClassId) (ad_ot : Nat → Nat) (cA_ot : Nat → ClassId) (ad_md : Nat → Nat) (cA_md : Nat → ClassId) (ht : SHT) (rd : SReader) (sp : SSpeller) (mx : SMixture) (ar : SSurroundings) (tb : STable) (tc : STable) (ot : SOut) (md : SModel) (y4 : Int32) (H : Heap) (locs : List Loc) (ls : Array Slot), f_Law_loop L xs n ht rd sp mx ar tb tc ot md y4 = some rv → va_K (dC, dI) vwCl [(cA_ht 1, .int), (cA_rd 1, .int), (cA_sp 1, .int), (cA_sp 2, .int), (cA_sp 3, .int), (cA_sp 4, .int), (cA_mx 1, .int), (cA_mx 2, .int), (cA_mx 3, .boolean), (cA_ar 1, .int), (cA_ar 2, .int), (cA_ar 3, .int), (cA_tb 1, .int), (cA_tb 2, .int), (cA_tb 3, .int), (cA_tb 4, .byte), (cA_tc 1, .int), (cA_tc 2, .int), (cA_tc 3, .int), (cA_tc 4, .byte), (cA_ot 1, .long), (cA_md 1, .int), (cA_md 2, .int), (cA_md 3, .int), (cA_md 4, .int), (cA_md 5, .int), (cA_md 6, .int), (cA_md 7, .int), (cA_md 8, .int), (cA_md 9, .boolean), (cA_md 10, .int), (cA_md 11, .int), (cA_md 12, .int), (cA_md 13, .int)] s → va_P (dC, dI) vwCl (uw_HT ad_ht cA_ht (ad_rd 0) (ad_sp 0) (ad_mx 0) (ad_ar 0) (ad_tb 0) (ad_tc 0) ht ++ (uw_Reader ad_rd cA_rd rd ++ (uw_Speller ad_sp cA_sp sp ++ (uw_Mixture ad_mx cA_mx mx ++ (uw_Surroundings ad_ar cA_ar ar ++ (uw_Table ad_tb cA_tb tb ++ (uw_Table ad_tc cA_tc tc ++ (uw_Out ad_ot cA_ot ot ++ (uw_Model ad_md cA_md md))))))))) H → va_D A (uw_HT ad_ht cA_ht (ad_rd 0) (ad_sp 0) (ad_mx 0) (ad_ar 0) (ad_tb 0) (ad_tc 0) ht ++ (uw_Reader ad_rd cA_rd rd ++ (uw_Speller ad_sp cA_sp sp ++ (uw_Mixture ad_mx cA_mx mx ++ (uw_Surroundings ad_ar cA_ar ar ++ (uw_Table ad_tb cA_tb tb ++ (uw_Table ad_tc cA_tc tc ++ (uw_Out ad_ot cA_ot ot ++ (uw_Model ad_md cA_md md))))))))) → va_S A s.heap H locs → lv_has ls 7 [(0, .ref b), (1, .ref (ad_ht 0)), (2, .ref (ad_md 0)), (3, .ref (ad_ot 1)), (4, .int y4)] → W p l e room_1 s m #[Value.ref b] below meth c H locs ((42 + (513 - (n + 1))) + 1) ((3596 + 6 * (513 - (n + 1))) + 6) (lw_Zb rv below #[Value.ref b] s) (F0 m 23 ls []) := by
        intro ad_ht cA_ht ad_rd cA_rd ad_sp cA_sp ad_mx cA_mx ad_ar cA_ar ad_tb cA_tb ad_tc cA_tc ad_ot cA_ot ad_md cA_md ht rd sp mx ar tb tc ot md y4 H locs ls hf hK hP hD hS hl
        have h := ih (by omega) ad_ht cA_ht ad_rd cA_rd ad_sp cA_sp ad_mx cA_mx ad_ar cA_ar ad_tb cA_tb ad_tc cA_tc ad_ot cA_ot ad_md cA_md ht rd sp mx ar tb tc ot md y4 H locs ls hf hK hP hD hS hl
        rw [show (42 + (513 - n)) = (42 + (513 - (n + 1))) + 1 by omega, show (3596 + 6 * (513 - n)) = (3596 + 6 * (513 - (n + 1))) + 6 by omega] at h
        exact h
      by_cases hs0 : ((xs y4.toNatClampNeg) &&& (31 : Int32)) = (0 : Int32)
      · have hf := hf_t hf hs0
        refine lv_tableIn (off := 81) (tgt := 120) hx hb d_Law_law_39 (by rw [hs0]; decide) (by rw [hs0]; decide) (by rw [hs0]; rfl) (by decide) ?_
        exact k_Law_case_120 htr C0 hN hX hnc hA hA2 (42 + (513 - (n + 1))) (3596 + 6 * (513 - (n + 1))) (by omega) (by omega) (f_Law_loop L xs n) hk9 ad_ht cA_ht ad_rd cA_rd ad_sp cA_sp ad_mx cA_mx ad_ar cA_ar ad_tb cA_tb ad_tc cA_tc ad_ot cA_ot ad_md cA_md ht rd sp mx ar tb tc ot md y4 H locs ls hf hK hP hD hS hl
      have hf := hf_f hf hs0
      by_cases hs1 : ((xs y4.toNatClampNeg) &&& (31 : Int32)) = (1 : Int32)
      · have hf := hf_t hf hs1
        refine lv_tableIn (off := 181) (tgt := 220) hx hb d_Law_law_39 (by rw [hs1]; decide) (by rw [hs1]; decide) (by rw [hs1]; rfl) (by decide) ?_
        exact k_Law_case_220 htr C0 hN hX hnc hA hA2 (42 + (513 - (n + 1))) (3596 + 6 * (513 - (n + 1))) (by omega) (by omega) (f_Law_loop L xs n) hk9 ad_ht cA_ht ad_rd cA_rd ad_sp cA_sp ad_mx cA_mx ad_ar cA_ar ad_tb cA_tb ad_tc cA_tc ad_ot cA_ot ad_md cA_md ht rd sp mx ar tb tc ot md y4 H locs ls hf hK hP hD hS hl
      have hf := hf_f hf hs1
      by_cases hs2 : ((xs y4.toNatClampNeg) &&& (31 : Int32)) = (2 : Int32)
      · have hf := hf_t hf hs2
        refine lv_tableIn (off := 225) (tgt := 264) hx hb d_Law_law_39 (by rw [hs2]; decide) (by rw [hs2]; decide) (by rw [hs2]; rfl) (by decide) ?_
        exact k_Law_case_264 htr C0 hN hX hnc hA hA2 (42 + (513 - (n + 1))) (3596 + 6 * (513 - (n + 1))) (by omega) (by omega) (f_Law_loop L xs n) hk9 ad_ht cA_ht ad_rd cA_rd ad_sp cA_sp ad_mx cA_mx ad_ar cA_ar ad_tb cA_tb ad_tc cA_tc ad_ot cA_ot ad_md cA_md ht rd sp mx ar tb tc ot md y4 H locs ls hf hK hP hD hS hl
      have hf := hf_f hf hs2
      by_cases hs3 : ((xs y4.toNatClampNeg) &&& (31 : Int32)) = (3 : Int32)
      · have hf := hf_t hf hs3
        refine lv_tableIn (off := 238) (tgt := 277) hx hb d_Law_law_39 (by rw [hs3]; decide) (by rw [hs3]; decide) (by rw [hs3]; rfl) (by decide) ?_
        exact k_Law_case_277 htr C0 hN hX hnc hA hA2 (42 + (513 - (n + 1))) (3596 + 6 * (513 - (n + 1))) (by omega) (by omega) (f_Law_loop L xs n) hk9 ad_ht cA_ht ad_rd cA_rd ad_sp cA_sp ad_mx cA_mx ad_ar cA_ar ad_tb cA_tb ad_tc cA_tc ad_ot cA_ot ad_md cA_md ht rd sp mx ar tb tc ot md y4 H locs ls hf hK hP hD hS hl
      have hf := hf_f hf hs3
      by_cases hs4 : ((xs y4.toNatClampNeg) &&& (31 : Int32)) = (4 : Int32)
      · have hf := hf_t hf hs4
        refine lv_tableIn (off := 306) (tgt := 345) hx hb d_Law_law_39 (by rw [hs4]; decide) (by rw [hs4]; decide) (by rw [hs4]; rfl) (by decide) ?_
        exact k_Law_case_345 htr C0 hN hX hnc hA hA2 (42 + (513 - (n + 1))) (3596 + 6 * (513 - (n + 1))) (by omega) (by omega) (f_Law_loop L xs n) hk9 ad_ht cA_ht ad_rd cA_rd ad_sp cA_sp ad_mx cA_mx ad_ar cA_ar ad_tb cA_tb ad_tc cA_tc ad_ot cA_ot ad_md cA_md ht rd sp mx ar tb tc ot md y4 H locs ls hf hK hP hD hS hl
      have hf := hf_f hf hs4
      by_cases hs5 : ((xs y4.toNatClampNeg) &&& (31 : Int32)) = (5 : Int32)
      · have hf := hf_t hf hs5
        refine lv_tableIn (off := 406) (tgt := 445) hx hb d_Law_law_39 (by rw [hs5]; decide) (by rw [hs5]; decide) (by rw [hs5]; rfl) (by decide) ?_
        exact k_Law_case_445 htr C0 hN hX hnc hA hA2 (42 + (513 - (n + 1))) (3596 + 6 * (513 - (n + 1))) (by omega) (by omega) (f_Law_loop L xs n) hk9 ad_ht cA_ht ad_rd cA_rd ad_sp cA_sp ad_mx cA_mx ad_ar cA_ar ad_tb cA_tb ad_tc cA_tc ad_ot cA_ot ad_md cA_md ht rd sp mx ar tb tc ot md y4 H locs ls hf hK hP hD hS hl
      have hf := hf_f hf hs5
      by_cases hs6 : ((xs y4.toNatClampNeg) &&& (31 : Int32)) = (6 : Int32)
      · have hf := hf_t hf hs6
        refine lv_tableIn (off := 462) (tgt := 501) hx hb d_Law_law_39 (by rw [hs6]; decide) (by rw [hs6]; decide) (by rw [hs6]; rfl) (by decide) ?_
        exact k_Law_case_501 htr C0 hN hX hnc hA hA2 (42 + (513 - (n + 1))) (3596 + 6 * (513 - (n + 1))) (by omega) (by omega) (f_Law_loop L xs n) hk9 ad_ht cA_ht ad_rd cA_rd ad_sp cA_sp ad_mx cA_mx ad_ar cA_ar ad_tb cA_tb ad_tc cA_tc ad_ot cA_ot ad_md cA_md ht rd sp mx ar tb tc ot md y4 H locs ls hf hK hP hD hS hl
      have hf := hf_f hf hs6
      by_cases hs7 : ((xs y4.toNatClampNeg) &&& (31 : Int32)) = (7 : Int32)
      · have hf := hf_t hf hs7
        refine lv_tableIn (off := 530) (tgt := 569) hx hb d_Law_law_39 (by rw [hs7]; decide) (by rw [hs7]; decide) (by rw [hs7]; rfl) (by decide) ?_
        exact k_Law_case_569 htr C0 hN hX hnc hA hA2 (42 + (513 - (n + 1))) (3596 + 6 * (513 - (n + 1))) (by omega) (by omega) (f_Law_loop L xs n) hk9 ad_ht cA_ht ad_rd cA_rd ad_sp cA_sp ad_mx cA_mx ad_ar cA_ar ad_tb cA_tb ad_tc cA_tc ad_ot cA_ot ad_md cA_md ht rd sp mx ar tb tc ot md y4 H locs ls hf hK hP hD hS hl
      have hf := hf_f hf hs7
      by_cases hs8 : ((xs y4.toNatClampNeg) &&& (31 : Int32)) = (8 : Int32)
      · have hf := hf_t hf hs8
        refine lv_tableIn (off := 541) (tgt := 580) hx hb d_Law_law_39 (by rw [hs8]; decide) (by rw [hs8]; decide) (by rw [hs8]; rfl) (by decide) ?_
        exact k_Law_case_580 htr C0 hN hX hnc hA hA2 (42 + (513 - (n + 1))) (3596 + 6 * (513 - (n + 1))) (by omega) (by omega) (f_Law_loop L xs n) hk9 ad_ht cA_ht ad_rd cA_rd ad_sp cA_sp ad_mx cA_mx ad_ar cA_ar ad_tb cA_tb ad_tc cA_tc ad_ot cA_ot ad_md cA_md ht rd sp mx ar tb tc ot md y4 H locs ls hf hK hP hD hS hl
      have hf := hf_f hf hs8
      by_cases hs9 : ((xs y4.toNatClampNeg) &&& (31 : Int32)) = (9 : Int32)
      · have hf := hf_t hf hs9
        refine lv_tableIn (off := 597) (tgt := 636) hx hb d_Law_law_39 (by rw [hs9]; decide) (by rw [hs9]; decide) (by rw [hs9]; rfl) (by decide) ?_
        exact k_Law_case_636 htr C0 hN hX hnc hA hA2 (42 + (513 - (n + 1))) (3596 + 6 * (513 - (n + 1))) (by omega) (by omega) (f_Law_loop L xs n) hk9 ad_ht cA_ht ad_rd cA_rd ad_sp cA_sp ad_mx cA_mx ad_ar cA_ar ad_tb cA_tb ad_tc cA_tc ad_ot cA_ot ad_md cA_md ht rd sp mx ar tb tc ot md y4 H locs ls hf hK hP hD hS hl
      have hf := hf_f hf hs9
      by_cases hs10 : ((xs y4.toNatClampNeg) &&& (31 : Int32)) = (10 : Int32)
      · have hf := hf_t hf hs10
        refine lv_tableIn (off := 653) (tgt := 692) hx hb d_Law_law_39 (by rw [hs10]; decide) (by rw [hs10]; decide) (by rw [hs10]; rfl) (by decide) ?_
        exact k_Law_case_692 htr C0 hN hX hnc hA hA2 (42 + (513 - (n + 1))) (3596 + 6 * (513 - (n + 1))) (by omega) (by omega) (f_Law_loop L xs n) hk9 ad_ht cA_ht ad_rd cA_rd ad_sp cA_sp ad_mx cA_mx ad_ar cA_ar ad_tb cA_tb ad_tc cA_tc ad_ot cA_ot ad_md cA_md ht rd sp mx ar tb tc ot md y4 H locs ls hf hK hP hD hS hl
      have hf := hf_f hf hs10
      by_cases hs11 : ((xs y4.toNatClampNeg) &&& (31 : Int32)) = (11 : Int32)
      · have hf := hf_t hf hs11
        refine lv_tableIn (off := 721) (tgt := 760) hx hb d_Law_law_39 (by rw [hs11]; decide) (by rw [hs11]; decide) (by rw [hs11]; rfl) (by decide) ?_
        exact k_Law_case_760 htr C0 hN hX hnc hA hA2 (42 + (513 - (n + 1))) (3596 + 6 * (513 - (n + 1))) (by omega) (by omega) (f_Law_loop L xs n) hk9 ad_ht cA_ht ad_rd cA_rd ad_sp cA_sp ad_mx cA_mx ad_ar cA_ar ad_tb cA_tb ad_tc cA_tc ad_ot cA_ot ad_md cA_md ht rd sp mx ar tb tc ot md y4 H locs ls hf hK hP hD hS hl
      have hf := hf_f hf hs11
      by_cases hs12 : ((xs y4.toNatClampNeg) &&& (31 : Int32)) = (12 : Int32)
      · have hf := hf_t hf hs12
        refine lv_tableIn (off := 817) (tgt := 856) hx hb d_Law_law_39 (by rw [hs12]; decide) (by rw [hs12]; decide) (by rw [hs12]; rfl) (by decide) ?_
        exact k_Law_case_856 htr C0 hN hX hnc hA hA2 (42 + (513 - (n + 1))) (3596 + 6 * (513 - (n + 1))) (by omega) (by omega) (f_Law_loop L xs n) hk9 ad_ht cA_ht ad_rd cA_rd ad_sp cA_sp ad_mx cA_mx ad_ar cA_ar ad_tb cA_tb ad_tc cA_tc ad_ot cA_ot ad_md cA_md ht rd sp mx ar tb tc ot md y4 H locs ls hf hK hP hD hS hl
      have hf := hf_f hf hs12
      by_cases hs13 : ((xs y4.toNatClampNeg) &&& (31 : Int32)) = (13 : Int32)
      · have hf := hf_t hf hs13
        refine lv_tableIn (off := 873) (tgt := 912) hx hb d_Law_law_39 (by rw [hs13]; decide) (by rw [hs13]; decide) (by rw [hs13]; rfl) (by decide) ?_
        exact k_Law_case_912 htr C0 hN hX hnc hA hA2 (42 + (513 - (n + 1))) (3596 + 6 * (513 - (n + 1))) (by omega) (by omega) (f_Law_loop L xs n) hk9 ad_ht cA_ht ad_rd cA_rd ad_sp cA_sp ad_mx cA_mx ad_ar cA_ar ad_tb cA_tb ad_tc cA_tc ad_ot cA_ot ad_md cA_md ht rd sp mx ar tb tc ot md y4 H locs ls hf hK hP hD hS hl
      have hf := hf_f hf hs13
      by_cases hs14 : ((xs y4.toNatClampNeg) &&& (31 : Int32)) = (14 : Int32)
      · have hf := hf_t hf hs14
        refine lv_tableIn (off := 948) (tgt := 987) hx hb d_Law_law_39 (by rw [hs14]; decide) (by rw [hs14]; decide) (by rw [hs14]; rfl) (by decide) ?_
        exact k_Law_case_987 htr C0 hN hX hnc hA hA2 (42 + (513 - (n + 1))) (3596 + 6 * (513 - (n + 1))) (by omega) (by omega) (f_Law_loop L xs n) hk9 ad_ht cA_ht ad_rd cA_rd ad_sp cA_sp ad_mx cA_mx ad_ar cA_ar ad_tb cA_tb ad_tc cA_tc ad_ot cA_ot ad_md cA_md ht rd sp mx ar tb tc ot md y4 H locs ls hf hK hP hD hS hl
      have hf := hf_f hf hs14
      by_cases hs15 : ((xs y4.toNatClampNeg) &&& (31 : Int32)) = (15 : Int32)
      · have hf := hf_t hf hs15
        refine lv_tableIn (off := 1004) (tgt := 1043) hx hb d_Law_law_39 (by rw [hs15]; decide) (by rw [hs15]; decide) (by rw [hs15]; rfl) (by decide) ?_
        exact k_Law_case_1043 htr C0 hN hX hnc hA hA2 (42 + (513 - (n + 1))) (3596 + 6 * (513 - (n + 1))) (by omega) (by omega) (f_Law_loop L xs n) hk9 ad_ht cA_ht ad_rd cA_rd ad_sp cA_sp ad_mx cA_mx ad_ar cA_ar ad_tb cA_tb ad_tc cA_tc ad_ot cA_ot ad_md cA_md ht rd sp mx ar tb tc ot md y4 H locs ls hf hK hP hD hS hl
      have hf := hf_f hf hs15
      by_cases hs16 : ((xs y4.toNatClampNeg) &&& (31 : Int32)) = (16 : Int32)
      · have hf := hf_t hf hs16
        refine lv_tableIn (off := 1052) (tgt := 1091) hx hb d_Law_law_39 (by rw [hs16]; decide) (by rw [hs16]; decide) (by rw [hs16]; rfl) (by decide) ?_
        exact k_Law_case_1091 htr C0 hN hX hnc hA hA2 (42 + (513 - (n + 1))) (3596 + 6 * (513 - (n + 1))) (by omega) (by omega) (f_Law_loop L xs n) hk9 ad_ht cA_ht ad_rd cA_rd ad_sp cA_sp ad_mx cA_mx ad_ar cA_ar ad_tb cA_tb ad_tc cA_tc ad_ot cA_ot ad_md cA_md ht rd sp mx ar tb tc ot md y4 H locs ls hf hK hP hD hS hl
      have hf := hf_f hf hs16
      refine lv_tableOut (tgt := 1166) hx hb d_Law_law_39 (by have := lv_neT hs0 (a := 0) rfl; have := lv_neT hs1 (a := 1) rfl; have := lv_neT hs2 (a := 2) rfl; have := lv_neT hs3 (a := 3) rfl; have := lv_neT hs4 (a := 4) rfl; have := lv_neT hs5 (a := 5) rfl; have := lv_neT hs6 (a := 6) rfl; have := lv_neT hs7 (a := 7) rfl; have := lv_neT hs8 (a := 8) rfl; have := lv_neT hs9 (a := 9) rfl; have := lv_neT hs10 (a := 10) rfl; have := lv_neT hs11 (a := 11) rfl; have := lv_neT hs12 (a := 12) rfl; have := lv_neT hs13 (a := 13) rfl; have := lv_neT hs14 (a := 14) rfl; have := lv_neT hs15 (a := 15) rfl; have := lv_neT hs16 (a := 16) rfl; omega) (by decide) ?_
      exact k_Law_case_1166 htr C0 hN hX hnc hA hA2 (42 + (513 - (n + 1))) (3596 + 6 * (513 - (n + 1))) (by omega) (by omega) (f_Law_loop L xs n) hk9 ad_ht cA_ht ad_rd cA_rd ad_sp cA_sp ad_mx cA_mx ad_ar cA_ar ad_tb cA_tb ad_tc cA_tc ad_ot cA_ot ad_md cA_md ht rd sp mx ar tb tc ot md y4 H locs ls hf hK hP hD hS hl
