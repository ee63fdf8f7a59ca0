noncomputable def f_Law_case_508 (L : Nat) (xs : Nat → Int32) (k : SHT → SReader → SSpeller → SMixture → SSurroundings → STable → STable → SOut → SModel → Int32 → Option Bool) (ht : SHT) (rd : SReader) (sp : SSpeller) (mx : SMixture) (ar : SSurroundings) (tb : STable) (tc : STable) (ot : SOut) (md : SModel) (y4 : Int32) : Option Bool :=
  (if inb (y4 + (1 : Int32)) L then
    (if inb (y4 + (2 : Int32)) L then
      (if inb (y4 + (3 : Int32)) L then
        (if (xs (y4 + (3 : Int32)).toNatClampNeg) = 0 then
          (Option.bind (f_Law_wind ht ot mx ar tb (xs (y4 + (1 : Int32)).toNatClampNeg) (xs (y4 + (2 : Int32)).toNatClampNeg) false) fun u5 =>
            (if inb (y4 + (1 : Int32)) L then
              (if inb (y4 + (2 : Int32)) L then
                (if inb (y4 + (3 : Int32)) L then
                  (Option.bind (f_Model_wind md (xs (y4 + (1 : Int32)).toNatClampNeg) (xs (y4 + (2 : Int32)).toNatClampNeg) false) fun u10 =>
                    (Option.bind (f_Model_thrown u10.2) fun u11 =>
                      (if u11 = u5.1 then
                        (if u5.1 = 0 then
                          (if inb (0 : Int32) 1 then
                            (if (lg_cmp (u5.2.1 (0 : Int32).toNatClampNeg) u10.1.toInt64) = 0 then
                              (k ht rd sp mx u5.2.2 tb tc u5.2.1 u10.2 (y4 + (4 : Int32)))
                             else
                              (some false)
                             )
                           else none)
                         else
                          (k ht rd sp mx u5.2.2 tb tc u5.2.1 u10.2 (y4 + (4 : Int32)))
                         )
                       else
                        (some false)
                       )
                     )
                   )
                 else none)
               else none)
             else none)
           )
         else
          (Option.bind (f_Law_wind ht ot mx ar tb (xs (y4 + (1 : Int32)).toNatClampNeg) (xs (y4 + (2 : Int32)).toNatClampNeg) true) fun u16 =>
            (if inb (y4 + (1 : Int32)) L then
              (if inb (y4 + (2 : Int32)) L then
                (if inb (y4 + (3 : Int32)) L then
                  (Option.bind (f_Model_wind md (xs (y4 + (1 : Int32)).toNatClampNeg) (xs (y4 + (2 : Int32)).toNatClampNeg) true) fun u21 =>
                    (Option.bind (f_Model_thrown u21.2) fun u22 =>
                      (if u22 = u16.1 then
                        (if u16.1 = 0 then
                          (if inb (0 : Int32) 1 then
                            (if (lg_cmp (u16.2.1 (0 : Int32).toNatClampNeg) u21.1.toInt64) = 0 then
                              (k ht rd sp mx u16.2.2 tb tc u16.2.1 u21.2 (y4 + (4 : Int32)))
                             else
                              (some false)
                             )
                           else none)
                         else
                          (k ht rd sp mx u16.2.2 tb tc u16.2.1 u21.2 (y4 + (4 : Int32)))
                         )
                       else
                        (some false)
                       )
                     )
                   )
                 else none)
               else none)
             else none)
           )
         )
       else none)
     else none)
   else none)
set_option maxHeartbeats 4000000 in
set_option maxRecDepth 100000 in
theorem k_Law_case_508 {p : Program} {l : Launch} {e : Env} {s : State} {m : MethodId} {below : List Frame} {meth : Method} {c : Code} {dC : Nat → ClassId} {dI : Nat → Nat → Nat} {b L : Nat} {xs : Nat → Int32} {A : Nat → Prop} (htr : l.stackTraces = false) (C0 : lw_At p s m meth c b L xs) (hN : nwAll s) (hX : xAll A s) (hnc : ncAll s) (hA : ∀ q : Nat, s.heap.size ≤ q → A q) (hA2 : ∀ q : Nat, A q → s.heap.size ≤ q) (cs sl : Nat) (hcs : cs + 1 ≤ 1092) (hsl : sl + 6 ≤ 11944) (k : SHT → SReader → SSpeller → SMixture → SSurroundings → STable → STable → SOut → SModel → Int32 → Option Bool) (hk : ∀ (ad_ht : Nat → Nat) (cA_ht : Nat → ClassId) (ad_rd : Nat → Nat) (cA_rd : Nat → ClassId) (ad_sp : Nat → Nat) (cA_sp : Nat → ClassId) (ad_mx : Nat → Nat) (cA_mx : Nat → ClassId) (ad_ar : Nat → Nat) (cA_ar : Nat → ClassId) (ad_tb : Nat → Nat) (cA_tb : Nat → ClassId) (ad_tc : Nat → Nat) (cA_tc : Nat → ClassId) (ad_ot : Nat → Nat) (cA_ot : Nat → ClassId) (ad_md : Nat → Nat) (cA_md : Nat → ClassId) (ht : SHT) (rd : SReader) (sp : SSpeller) (mx : SMixture) (ar : SSurroundings) (tb : STable) (tc : STable) (ot : SOut) (md : SModel) (y4 : Int32) (H : Heap) (locs : List Loc) (ls : Array Slot), k ht rd sp mx ar tb tc ot md y4 = some true → va_K (dC, dI) vwCl [(cA_ht 1, .int), (cA_rd 1, .int), (cA_sp 1, .int), (cA_sp 2, .int), (cA_sp 3, .int), (cA_sp 4, .int), (cA_mx 1, .int), (cA_mx 2, .int), (cA_mx 3, .boolean), (cA_ar 1, .int), (cA_ar 2, .int), (cA_ar 3, .int), (cA_tb 1, .int), (cA_tb 2, .int), (cA_tb 3, .int), (cA_tb 4, .byte), (cA_tc 1, .int), (cA_tc 2, .int), (cA_tc 3, .int), (cA_tc 4, .byte), (cA_ot 1, .long), (cA_md 1, .int), (cA_md 2, .int), (cA_md 3, .int), (cA_md 4, .int), (cA_md 5, .int), (cA_md 6, .int), (cA_md 7, .int), (cA_md 8, .int), (cA_md 9, .boolean), (cA_md 10, .int), (cA_md 11, .int), (cA_md 12, .int), (cA_md 13, .int)] s → va_P (dC, dI) vwCl (uw_HT ad_ht cA_ht (ad_rd 0) (ad_sp 0) (ad_mx 0) (ad_ar 0) (ad_tb 0) (ad_tc 0) ht ++ (uw_Reader ad_rd cA_rd rd ++ (uw_Speller ad_sp cA_sp sp ++ (uw_Mixture ad_mx cA_mx mx ++ (uw_Surroundings ad_ar cA_ar ar ++ (uw_Table ad_tb cA_tb tb ++ (uw_Table ad_tc cA_tc tc ++ (uw_Out ad_ot cA_ot ot ++ (uw_Model ad_md cA_md md))))))))) H → va_D A (uw_HT ad_ht cA_ht (ad_rd 0) (ad_sp 0) (ad_mx 0) (ad_ar 0) (ad_tb 0) (ad_tc 0) ht ++ (uw_Reader ad_rd cA_rd rd ++ (uw_Speller ad_sp cA_sp sp ++ (uw_Mixture ad_mx cA_mx mx ++ (uw_Surroundings ad_ar cA_ar ar ++ (uw_Table ad_tb cA_tb tb ++ (uw_Table ad_tc cA_tc tc ++ (uw_Out ad_ot cA_ot ot ++ (uw_Model ad_md cA_md md))))))))) → va_S A s.heap H locs → lv_has ls 7 [(0, .ref b), (1, .ref (ad_ht 0)), (2, .ref (ad_md 0)), (3, .ref (ad_ot 1)), (4, .int y4)] → W p l e room_1 s m #[Value.ref b] below meth c H locs (cs + 1) (sl + 6) (lw_Z below #[Value.ref b] s) (F0 m 23 ls [])) : ∀ (ad_ht : Nat → Nat) (cA_ht : Nat → ClassId) (ad_rd : Nat → Nat) (cA_rd : Nat → ClassId) (ad_sp : Nat → Nat) (cA_sp : Nat → ClassId) (ad_mx : Nat → Nat) (cA_mx : Nat → ClassId) (ad_ar : Nat → Nat) (cA_ar : Nat → ClassId) (ad_tb : Nat → Nat) (cA_tb : Nat → ClassId) (ad_tc : Nat → Nat) (cA_tc : Nat → ClassId) (ad_ot : Nat → Nat) (cA_ot : Nat → ClassId) (ad_md : Nat → Nat) (cA_md : Nat → ClassId) (ht : SHT) (rd : SReader) (sp : SSpeller) (mx : SMixture) (ar : SSurroundings) (tb : STable) (tc : STable) (ot : SOut) (md : SModel) (y4 : Int32) (H : Heap) (locs : List Loc) (ls : Array Slot), f_Law_case_508 L xs k ht rd sp mx ar tb tc ot md y4 = some true → va_K (dC, dI) vwCl [(cA_ht 1, .int), (cA_rd 1, .int), (cA_sp 1, .int), (cA_sp 2, .int), (cA_sp 3, .int), (cA_sp 4, .int), (cA_mx 1, .int), (cA_mx 2, .int), (cA_mx 3, .boolean), (cA_ar 1, .int), (cA_ar 2, .int), (cA_ar 3, .int), (cA_tb 1, .int), (cA_tb 2, .int), (cA_tb 3, .int), (cA_tb 4, .byte), (cA_tc 1, .int), (cA_tc 2, .int), (cA_tc 3, .int), (cA_tc 4, .byte), (cA_ot 1, .long), (cA_md 1, .int), (cA_md 2, .int), (cA_md 3, .int), (cA_md 4, .int), (cA_md 5, .int), (cA_md 6, .int), (cA_md 7, .int), (cA_md 8, .int), (cA_md 9, .boolean), (cA_md 10, .int), (cA_md 11, .int), (cA_md 12, .int), (cA_md 13, .int)] s → va_P (dC, dI) vwCl (uw_HT ad_ht cA_ht (ad_rd 0) (ad_sp 0) (ad_mx 0) (ad_ar 0) (ad_tb 0) (ad_tc 0) ht ++ (uw_Reader ad_rd cA_rd rd ++ (uw_Speller ad_sp cA_sp sp ++ (uw_Mixture ad_mx cA_mx mx ++ (uw_Surroundings ad_ar cA_ar ar ++ (uw_Table ad_tb cA_tb tb ++ (uw_Table ad_tc cA_tc tc ++ (uw_Out ad_ot cA_ot ot ++ (uw_Model ad_md cA_md md))))))))) H → va_D A (uw_HT ad_ht cA_ht (ad_rd 0) (ad_sp 0) (ad_mx 0) (ad_ar 0) (ad_tb 0) (ad_tc 0) ht ++ (uw_Reader ad_rd cA_rd rd ++ (uw_Speller ad_sp cA_sp sp ++ (uw_Mixture ad_mx cA_mx mx ++ (uw_Surroundings ad_ar cA_ar ar ++ (uw_Table ad_tb cA_tb tb ++ (uw_Table ad_tc cA_tc tc ++ (uw_Out ad_ot cA_ot ot ++ (uw_Model ad_md cA_md md))))))))) → va_S A s.heap H locs → lv_has ls 7 [(0, .ref b), (1, .ref (ad_ht 0)), (2, .ref (ad_md 0)), (3, .ref (ad_ot 1)), (4, .int y4)] → W p l e room_1 s m #[Value.ref b] below meth c H locs cs sl (lw_Z below #[Value.ref b] s) (F0 m 508 ls []) := by
  obtain ⟨hx, hb, hr, hml, hown, hts0, hX0, hbl, hlocks, hgv⟩ := C0
  have hown : s.vm.findClass "HazardTablesLaw" = some m.cls := hown
  have hts : ∀ w ∈ (Cond.initialized "HazardTables" :: WA), w.before #[Value.ref b] s = true := fun w h => hts0 w ((List.mem_cons.mp h).elim (fun e => by rw [e]; exact (List.mem_filter.mp wd_43).1) (fun h => (List.mem_filter.mp h).1))
  have hbA : ¬ A b := fun h => absurd (hA2 b h) (Nat.not_le.mpr hbl)
  intro ad_ht cA_ht ad_rd cA_rd ad_sp cA_sp ad_mx cA_mx ad_ar cA_ar ad_tb cA_tb ad_tc cA_tc ad_ot cA_ot ad_md cA_md ht rd sp mx ar tb tc ot md y4 H locs ls hf hK hP hD hS hl
  unfold f_Law_case_508 at hf
  refine lv_aload_n hx hb d_Law_law_508 rfl (lv_at hl 1 rfl) ?_
  refine lv_aload_n hx hb d_Law_law_509 rfl (lv_at hl 0 rfl) ?_
  refine lv_iload hx hb d_Law_law_510 (lv_at hl 4 rfl) ?_
  refine lv_iconst (v := (1 : Int32)) hx hb d_Law_law_512 (by decide) ?_
  refine lv_iadd hx hb d_Law_law_513 ?_
  obtain ⟨hi1, hf⟩ := hf_g hf
  refine va_sld hx hb hX0 hbl hbA hS hi1 d_Law_law_514 ?_
  refine lv_aload_n hx hb d_Law_law_515 rfl (lv_at hl 0 rfl) ?_
  refine lv_iload hx hb d_Law_law_516 (lv_at hl 4 rfl) ?_
  refine lv_iconst (v := (2 : Int32)) hx hb d_Law_law_518 (by decide) ?_
  refine lv_iadd hx hb d_Law_law_519 ?_
  obtain ⟨hi2, hf⟩ := hf_g hf
  refine va_sld hx hb hX0 hbl hbA hS hi2 d_Law_law_520 ?_
  refine lv_aload_n hx hb d_Law_law_521 rfl (lv_at hl 0 rfl) ?_
  refine lv_iload hx hb d_Law_law_522 (lv_at hl 4 rfl) ?_
  refine lv_iconst (v := (3 : Int32)) hx hb d_Law_law_524 (by decide) ?_
  refine lv_iadd hx hb d_Law_law_525 ?_
  obtain ⟨hi3, hf⟩ := hf_g hf
  refine va_sld hx hb hX0 hbl hbA hS hi3 d_Law_law_526 ?_
  refine lv_if_eq (tgt := 534) hx hb d_Law_law_527 (by decide) (fun hc4 => ?_) (fun hc4 => ?_)
  · have hf := hf_t hf hc4
    refine lv_iconst (v := (0 : Int32)) hx hb d_Law_law_534 (by decide) ?_
    refine lv_aload_n hx hb d_Law_law_535 rfl (lv_at hl 3 rfl) ?_
    obtain ⟨u5, hu5, hf⟩ := Option.bind_eq_some_iff.mp hf
    refine cl_i (wc := (uw_HT ad_ht cA_ht (ad_rd 0) (ad_sp 0) (ad_mx 0) (ad_ar 0) (ad_tb 0) (ad_tc 0) ht ++ (uw_Out ad_ot cA_ot ot ++ (uw_Mixture ad_mx cA_mx mx ++ (uw_Surroundings ad_ar cA_ar ar ++ (uw_Table ad_tb cA_tb tb)))))) (wr := (uw_Reader ad_rd cA_rd rd ++ (uw_Speller ad_sp cA_sp sp ++ (uw_Table ad_tc cA_tc tc ++ (uw_Model ad_md cA_md md))))) (tysC := [(cA_ht 1, .int), (cA_ot 1, .long), (cA_mx 1, .int), (cA_mx 2, .int), (cA_mx 3, .boolean), (cA_ar 1, .int), (cA_ar 2, .int), (cA_ar 3, .int), (cA_tb 1, .int), (cA_tb 2, .int), (cA_tb 3, .int), (cA_tb 4, .byte)]) (wu := fun (u : SOut × SSurroundings) => (uw_HT ad_ht cA_ht (ad_rd 0) (ad_sp 0) (ad_mx 0) (ad_ar 0) (ad_tb 0) (ad_tc 0) ht ++ (uw_Out ad_ot cA_ot u.1 ++ (uw_Mixture ad_mx cA_mx mx ++ (uw_Surroundings ad_ar cA_ar u.2 ++ (uw_Table ad_tb cA_tb tb)))))) (wn := fun (u : SOut × SSurroundings) => (uw_HT ad_ht cA_ht (ad_rd 0) (ad_sp 0) (ad_mx 0) (ad_ar 0) (ad_tb 0) (ad_tc 0) ht ++ (uw_Reader ad_rd cA_rd rd ++ (uw_Speller ad_sp cA_sp sp ++ (uw_Mixture ad_mx cA_mx mx ++ (uw_Surroundings ad_ar cA_ar u.2 ++ (uw_Table ad_tb cA_tb tb ++ (uw_Table ad_tc cA_tc tc ++ (uw_Out ad_ot cA_ot u.1 ++ (uw_Model ad_md cA_md md)))))))))) [0, 1, 27, 9, 10, 11, 12, 13, 14, 15, 16, 17, 18, 19, 20, 21] [2, 3, 4, 5, 6, 7, 8, 22, 23, 24, 25, 26, 28, 29, 30, 31, 32, 33, 34, 35, 36, 37, 38, 39, 40, 41] [26, 27, 0, 1, 2, 3, 4, 5, 6, 29, 30, 31, 32, 33, 34, 35, 36, 37, 38, 39, 40, 41, 7, 8, 9, 10, 11, 28, 12, 13, 14, 15, 16, 17, 18, 19, 20, 21, 22, 23, 24, 25] [0, 20, 6, 7, 8, 9, 10, 11, 12, 13, 14, 15] hP hD hS hA hK rfl rfl (by decide +kernel) (by decide +kernel) (by decide +kernel) rfl (fun _ => rfl) (by decide +kernel) (fun hPc hKc hDc => (vx_runSW (As := [.ref (ad_ht 0), .int (xs (y4 + (1 : Int32)).toNatClampNeg), .int (xs (y4 + (2 : Int32)).toNatClampNeg), .int (0 : Int32), .ref (ad_ot 1)]) (rest := []) ⟨hx, hb, hml, hown, hts⟩ (k_Law_wind l dC dI ad_ht cA_ht ad_ot cA_ot ad_mx cA_mx ad_ar cA_ar ad_tb cA_tb ad_rd cA_rd ad_sp cA_sp ad_tc cA_tc H.size ht ot mx ar tb (xs (y4 + (1 : Int32)).toNatClampNeg) (xs (y4 + (2 : Int32)).toNatClampNeg) false u5 hu5 htr) (vx_cwSW 5 hts (gSW wd_667 wd_668 wd_42 wd_669) rfl rfl rfl (by decide +kernel) ⟨Nat.le_of_ble_eq_true rfl, Nat.le_of_ble_eq_true rfl⟩) (cx_preL hPc hKc hDc hN (fun U hU hW => xAll_at hX hS (va_free hD hS hA [0, 1, 27, 9, 10, 11, 12, 13, 14, 15, 16, 17, 18, 19, 20, 21] rfl) hU hW) hnc) rfl rfl hl.1 rfl (lv_room (Nat.le_of_ble_eq_true rfl)) d_Law_law_536 ⟨by show _ ≤ 1092; omega, by show _ ≤ 11944; omega⟩)) (fun r u H locs hw hP hD hS => ?_)
    obtain ⟨hw1, hw2⟩ := hw
    have hw1 := hw1.symm
    have hw2 := hw2.symm
    subst hw1
    subst hw2
    have hP : va_P (dC, dI) vwCl (uw_HT ad_ht cA_ht (ad_rd 0) (ad_sp 0) (ad_mx 0) (ad_ar 0) (ad_tb 0) (ad_tc 0) ht ++ (uw_Reader ad_rd cA_rd rd ++ (uw_Speller ad_sp cA_sp sp ++ (uw_Mixture ad_mx cA_mx mx ++ (uw_Surroundings ad_ar cA_ar u5.2.2 ++ (uw_Table ad_tb cA_tb tb ++ (uw_Table ad_tc cA_tc tc ++ (uw_Out ad_ot cA_ot u5.2.1 ++ (uw_Model ad_md cA_md md))))))))) H := hP
    have hD : va_D A (uw_HT ad_ht cA_ht (ad_rd 0) (ad_sp 0) (ad_mx 0) (ad_ar 0) (ad_tb 0) (ad_tc 0) ht ++ (uw_Reader ad_rd cA_rd rd ++ (uw_Speller ad_sp cA_sp sp ++ (uw_Mixture ad_mx cA_mx mx ++ (uw_Surroundings ad_ar cA_ar u5.2.2 ++ (uw_Table ad_tb cA_tb tb ++ (uw_Table ad_tc cA_tc tc ++ (uw_Out ad_ot cA_ot u5.2.1 ++ (uw_Model ad_md cA_md md))))))))) := hD
    refine lv_istore (lv' := [(5, .int u5.1), (0, .ref b), (1, .ref (ad_ht 0)), (2, .ref (ad_md 0)), (3, .ref (ad_ot 1)), (4, .int y4)]) hx hb d_Law_law_539 hl (by decide) rfl (fun ls hl => ?_)
    refine lv_aload_n hx hb d_Law_law_541 rfl (lv_at hl 3 rfl) ?_
    refine lv_aload_n hx hb d_Law_law_542 rfl (lv_at hl 1 rfl) ?_
    refine lv_iload hx hb d_Law_law_543 (lv_at hl 5 rfl) ?_
    refine lv_iconst (v := (1 : Int32)) hx hb d_Law_law_545 (by decide) ?_
    refine lv_iadd hx hb d_Law_law_546 ?_
    obtain ⟨hi6, hf⟩ := hf_g hf
    refine va_sld hx hb hX0 hbl hbA hS hi6 d_Law_law_547 ?_
    refine lv_aload_n hx hb d_Law_law_548 rfl (lv_at hl 1 rfl) ?_
    refine lv_iload hx hb d_Law_law_549 (lv_at hl 5 rfl) ?_
    refine lv_iconst (v := (2 : Int32)) hx hb d_Law_law_551 (by decide) ?_
    refine lv_iadd hx hb d_Law_law_552 ?_
    obtain ⟨hi7, hf⟩ := hf_g hf
    refine va_sld hx hb hX0 hbl hbA hS hi7 d_Law_law_553 ?_
    refine lv_aload_n hx hb d_Law_law_554 rfl (lv_at hl 1 rfl) ?_
    refine lv_iload hx hb d_Law_law_555 (lv_at hl 5 rfl) ?_
    refine lv_iconst (v := (3 : Int32)) hx hb d_Law_law_557 (by decide) ?_
    refine lv_iadd hx hb d_Law_law_558 ?_
    obtain ⟨hi8, hf⟩ := hf_g hf
    refine va_sld hx hb hX0 hbl hbA hS hi8 d_Law_law_559 ?_
    refine lv_if_eq (tgt := 567) hx hb d_Law_law_560 (by decide) (fun hc9 => ?_) (fun hc9 => ?_)
    · refine lv_iconst (v := (0 : Int32)) hx hb d_Law_law_567 (by decide) ?_
      obtain ⟨u10, hu10, hf⟩ := Option.bind_eq_some_iff.mp hf
      refine cl_i (wc := (uw_Model ad_md cA_md md)) (wr := (uw_HT ad_ht cA_ht (ad_rd 0) (ad_sp 0) (ad_mx 0) (ad_ar 0) (ad_tb 0) (ad_tc 0) ht ++ (uw_Reader ad_rd cA_rd rd ++ (uw_Speller ad_sp cA_sp sp ++ (uw_Mixture ad_mx cA_mx mx ++ (uw_Surroundings ad_ar cA_ar u5.2.2 ++ (uw_Table ad_tb cA_tb tb ++ (uw_Table ad_tc cA_tc tc ++ (uw_Out ad_ot cA_ot u5.2.1))))))))) (tysC := [(cA_md 1, .int), (cA_md 2, .int), (cA_md 3, .int), (cA_md 4, .int), (cA_md 5, .int), (cA_md 6, .int), (cA_md 7, .int), (cA_md 8, .int), (cA_md 9, .boolean), (cA_md 10, .int), (cA_md 11, .int), (cA_md 12, .int), (cA_md 13, .int)]) (wu := fun (u : SModel) => (uw_Model ad_md cA_md u)) (wn := fun (u : SModel) => (uw_HT ad_ht cA_ht (ad_rd 0) (ad_sp 0) (ad_mx 0) (ad_ar 0) (ad_tb 0) (ad_tc 0) ht ++ (uw_Reader ad_rd cA_rd rd ++ (uw_Speller ad_sp cA_sp sp ++ (uw_Mixture ad_mx cA_mx mx ++ (uw_Surroundings ad_ar cA_ar u5.2.2 ++ (uw_Table ad_tb cA_tb tb ++ (uw_Table ad_tc cA_tc tc ++ (uw_Out ad_ot cA_ot u5.2.1 ++ (uw_Model ad_md cA_md u)))))))))) [28, 29, 30, 31, 32, 33, 34, 35, 36, 37, 38, 39, 40, 41] [0, 1, 2, 3, 4, 5, 6, 7, 8, 9, 10, 11, 12, 13, 14, 15, 16, 17, 18, 19, 20, 21, 22, 23, 24, 25, 26, 27] [0, 1, 2, 3, 4, 5, 6, 7, 8, 9, 10, 11, 12, 13, 14, 15, 16, 17, 18, 19, 20, 21, 22, 23, 24, 25, 26, 27, 28, 29, 30, 31, 32, 33, 34, 35, 36, 37, 38, 39, 40, 41] [21, 22, 23, 24, 25, 26, 27, 28, 29, 30, 31, 32, 33] hP hD hS hA hK rfl rfl (by decide +kernel) (by decide +kernel) (by decide +kernel) rfl (fun _ => rfl) (by decide +kernel) (fun hPc hKc hDc => (va_runV (As := [.int (xs (y4 + (1 : Int32)).toNatClampNeg), .int (xs (y4 + (2 : Int32)).toNatClampNeg), .int (0 : Int32)]) (rest := []) ⟨hx, hb, hml, hown, hts⟩ (k_Model_wind l dC dI ad_md cA_md H.size md (xs (y4 + (1 : Int32)).toNatClampNeg) (xs (y4 + (2 : Int32)).toNatClampNeg) false u10 hu10) (cwV 3 hts (gV wd_974 wd_975 wd_976 wd_49 wd_977) rfl rfl rfl (by decide +kernel) ⟨Nat.le_of_ble_eq_true rfl, Nat.le_of_ble_eq_true rfl⟩) (cl_preV hPc hKc hDc hN (ci := 6) 0 rfl rfl) rfl rfl hl.1 rfl (lv_room (Nat.le_of_ble_eq_true rfl)) d_Law_law_568 ⟨by show _ ≤ 1092; omega, by show _ ≤ 11944; omega⟩)) (fun r u H locs hw hP hD hS => ?_)
      obtain ⟨hw1, hw2⟩ := hw
      have hw1 := hw1.symm
      have hw2 := hw2.symm
      subst hw1
      subst hw2
      have hP : va_P (dC, dI) vwCl (uw_HT ad_ht cA_ht (ad_rd 0) (ad_sp 0) (ad_mx 0) (ad_ar 0) (ad_tb 0) (ad_tc 0) ht ++ (uw_Reader ad_rd cA_rd rd ++ (uw_Speller ad_sp cA_sp sp ++ (uw_Mixture ad_mx cA_mx mx ++ (uw_Surroundings ad_ar cA_ar u5.2.2 ++ (uw_Table ad_tb cA_tb tb ++ (uw_Table ad_tc cA_tc tc ++ (uw_Out ad_ot cA_ot u5.2.1 ++ (uw_Model ad_md cA_md u10.2))))))))) H := hP
      have hD : va_D A (uw_HT ad_ht cA_ht (ad_rd 0) (ad_sp 0) (ad_mx 0) (ad_ar 0) (ad_tb 0) (ad_tc 0) ht ++ (uw_Reader ad_rd cA_rd rd ++ (uw_Speller ad_sp cA_sp sp ++ (uw_Mixture ad_mx cA_mx mx ++ (uw_Surroundings ad_ar cA_ar u5.2.2 ++ (uw_Table ad_tb cA_tb tb ++ (uw_Table ad_tc cA_tc tc ++ (uw_Out ad_ot cA_ot u5.2.1 ++ (uw_Model ad_md cA_md u10.2))))))))) := hD
      refine lv_istore (lv' := [(6, .int u10.1), (5, .int u5.1), (0, .ref b), (1, .ref (ad_ht 0)), (2, .ref (ad_md 0)), (3, .ref (ad_ot 1)), (4, .int y4)]) hx hb d_Law_law_571 hl (by decide) rfl (fun ls hl => ?_)
      refine lv_aload_n hx hb d_Law_law_573 rfl (lv_at hl 4 rfl) ?_
      obtain ⟨u11, hu11, hf⟩ := Option.bind_eq_some_iff.mp hf
      refine cl_i (wc := (uw_Model ad_md cA_md u10.2)) (wr := (uw_HT ad_ht cA_ht (ad_rd 0) (ad_sp 0) (ad_mx 0) (ad_ar 0) (ad_tb 0) (ad_tc 0) ht ++ (uw_Reader ad_rd cA_rd rd ++ (uw_Speller ad_sp cA_sp sp ++ (uw_Mixture ad_mx cA_mx mx ++ (uw_Surroundings ad_ar cA_ar u5.2.2 ++ (uw_Table ad_tb cA_tb tb ++ (uw_Table ad_tc cA_tc tc ++ (uw_Out ad_ot cA_ot u5.2.1))))))))) (tysC := [(cA_md 1, .int), (cA_md 2, .int), (cA_md 3, .int), (cA_md 4, .int), (cA_md 5, .int), (cA_md 6, .int), (cA_md 7, .int), (cA_md 8, .int), (cA_md 9, .boolean), (cA_md 10, .int), (cA_md 11, .int), (cA_md 12, .int), (cA_md 13, .int)]) (wu := fun (u : Unit) => (uw_Model ad_md cA_md u10.2)) (wn := fun (u : Unit) => (uw_HT ad_ht cA_ht (ad_rd 0) (ad_sp 0) (ad_mx 0) (ad_ar 0) (ad_tb 0) (ad_tc 0) ht ++ (uw_Reader ad_rd cA_rd rd ++ (uw_Speller ad_sp cA_sp sp ++ (uw_Mixture ad_mx cA_mx mx ++ (uw_Surroundings ad_ar cA_ar u5.2.2 ++ (uw_Table ad_tb cA_tb tb ++ (uw_Table ad_tc cA_tc tc ++ (uw_Out ad_ot cA_ot u5.2.1 ++ (uw_Model ad_md cA_md u10.2)))))))))) [28, 29, 30, 31, 32, 33, 34, 35, 36, 37, 38, 39, 40, 41] [0, 1, 2, 3, 4, 5, 6, 7, 8, 9, 10, 11, 12, 13, 14, 15, 16, 17, 18, 19, 20, 21, 22, 23, 24, 25, 26, 27] [0, 1, 2, 3, 4, 5, 6, 7, 8, 9, 10, 11, 12, 13, 14, 15, 16, 17, 18, 19, 20, 21, 22, 23, 24, 25, 26, 27, 28, 29, 30, 31, 32, 33, 34, 35, 36, 37, 38, 39, 40, 41] [21, 22, 23, 24, 25, 26, 27, 28, 29, 30, 31, 32, 33] hP hD hS hA hK rfl rfl (by decide +kernel) (by decide +kernel) (by decide +kernel) rfl (fun _ => rfl) (by decide +kernel) (fun hPc hKc hDc => (va_runV (As := []) (rest := []) ⟨hx, hb, hml, hown, hts⟩ (k_Model_thrown l dC dI ad_md cA_md H.size u10.2 u11 hu11) (cwV 0 hts (gV wd_839 wd_840 wd_841 wd_49 wd_842) rfl rfl rfl (by decide +kernel) ⟨Nat.le_of_ble_eq_true rfl, Nat.le_of_ble_eq_true rfl⟩) (cl_preV hPc hKc hDc hN (ci := 6) 0 rfl rfl) rfl rfl hl.1 rfl (lv_room (Nat.le_of_ble_eq_true rfl)) d_Law_law_574 ⟨by show _ ≤ 1092; omega, by show _ ≤ 11944; omega⟩)) (fun r u H locs hw hP hD hS => ?_)
      have hw := hw.symm
      subst hw
      have hP : va_P (dC, dI) vwCl (uw_HT ad_ht cA_ht (ad_rd 0) (ad_sp 0) (ad_mx 0) (ad_ar 0) (ad_tb 0) (ad_tc 0) ht ++ (uw_Reader ad_rd cA_rd rd ++ (uw_Speller ad_sp cA_sp sp ++ (uw_Mixture ad_mx cA_mx mx ++ (uw_Surroundings ad_ar cA_ar u5.2.2 ++ (uw_Table ad_tb cA_tb tb ++ (uw_Table ad_tc cA_tc tc ++ (uw_Out ad_ot cA_ot u5.2.1 ++ (uw_Model ad_md cA_md u10.2))))))))) H := hP
      have hD : va_D A (uw_HT ad_ht cA_ht (ad_rd 0) (ad_sp 0) (ad_mx 0) (ad_ar 0) (ad_tb 0) (ad_tc 0) ht ++ (uw_Reader ad_rd cA_rd rd ++ (uw_Speller ad_sp cA_sp sp ++ (uw_Mixture ad_mx cA_mx mx ++ (uw_Surroundings ad_ar cA_ar u5.2.2 ++ (uw_Table ad_tb cA_tb tb ++ (uw_Table ad_tc cA_tc tc ++ (uw_Out ad_ot cA_ot u5.2.1 ++ (uw_Model ad_md cA_md u10.2))))))))) := hD
      refine lv_iload hx hb d_Law_law_577 (lv_at hl 1 rfl) ?_
      refine lv_icmp_eq (tgt := 584) hx hb d_Law_law_579 (by decide) (fun hc12 => ?_) (fun hc12 => ?_)
      · have hf := hf_t hf hc12
        refine lv_iload hx hb d_Law_law_584 (lv_at hl 1 rfl) ?_
        refine lv_if_ne (tgt := 601) hx hb d_Law_law_586 (by decide) (fun hc13 => ?_) (fun hc13 => ?_)
        · have hf := hf_f hf hc13
          refine lv_goto (tgt := 777) hx hb d_Law_law_601 (by decide) ?_
          refine lv_iinc (v := y4 + (4 : Int32)) (lv' := [(4, .int (y4 + (4 : Int32))), (6, .int u10.1), (5, .int u5.1), (0, .ref b), (1, .ref (ad_ht 0)), (2, .ref (ad_md 0)), (3, .ref (ad_ot 1))]) hx hb d_Law_law_777 hl (k := 6) rfl rfl (by decide) rfl (fun ls hl => ?_)
          refine lv_goto (tgt := 23) hx hb d_Law_law_780 (by decide) ?_
          refine W.widen (k := cs + 1) (n := sl + 6) (by omega) (by omega) ?_
          exact hk ad_ht cA_ht ad_rd cA_rd ad_sp cA_sp ad_mx cA_mx ad_ar cA_ar ad_tb cA_tb ad_tc cA_tc ad_ot cA_ot ad_md cA_md ht rd sp mx u5.2.2 tb tc u5.2.1 u10.2 (y4 + (4 : Int32)) H locs ls hf hK hP hD hS (lv_sub hl [3, 4, 5, 6, 0] rfl)
        · have hf := hf_t hf hc13
          refine lv_aload_n hx hb d_Law_law_589 rfl (lv_at hl 5 rfl) ?_
          refine lv_iconst (v := (0 : Int32)) hx hb d_Law_law_590 (by decide) ?_
          obtain ⟨hi14, hf⟩ := hf_g hf
          refine va_lald hx hb hK hP 27 20 rfl rfl hi14 d_Law_law_591 ?_
          refine lv_iload hx hb d_Law_law_592 (lv_at hl 0 rfl) ?_
          refine lv_i2l (v := u10.1.toInt64) hx hb d_Law_law_594 rfl ?_
          refine W.lcmp hx hb d_Law_law_595 ?_
          refine lv_if_eq (tgt := 601) hx hb d_Law_law_596 (by decide) (fun hc15 => ?_) (fun hc15 => ?_)
          · have hf := hf_t hf hc15
            refine lv_goto (tgt := 777) hx hb d_Law_law_601 (by decide) ?_
            refine lv_iinc (v := y4 + (4 : Int32)) (lv' := [(4, .int (y4 + (4 : Int32))), (6, .int u10.1), (5, .int u5.1), (0, .ref b), (1, .ref (ad_ht 0)), (2, .ref (ad_md 0)), (3, .ref (ad_ot 1))]) hx hb d_Law_law_777 hl (k := 6) rfl rfl (by decide) rfl (fun ls hl => ?_)
            refine lv_goto (tgt := 23) hx hb d_Law_law_780 (by decide) ?_
            refine W.widen (k := cs + 1) (n := sl + 6) (by omega) (by omega) ?_
            exact hk ad_ht cA_ht ad_rd cA_rd ad_sp cA_sp ad_mx cA_mx ad_ar cA_ar ad_tb cA_tb ad_tc cA_tc ad_ot cA_ot ad_md cA_md ht rd sp mx u5.2.2 tb tc u5.2.1 u10.2 (y4 + (4 : Int32)) H locs ls hf hK hP hD hS (lv_sub hl [3, 4, 5, 6, 0] rfl)
          · have hf := hf_f hf hc15
            refine lv_iconst (v := (0 : Int32)) hx hb d_Law_law_599 (by decide) ?_
            cases hf
      · have hf := hf_f hf hc12
        refine lv_iconst (v := (0 : Int32)) hx hb d_Law_law_582 (by decide) ?_
        cases hf
    · exact absurd hc4 hc9
  · have hf := hf_f hf hc4
    refine lv_iconst (v := (1 : Int32)) hx hb d_Law_law_530 (by decide) ?_
    refine lv_goto (tgt := 535) hx hb d_Law_law_531 (by decide) ?_
    refine lv_aload_n hx hb d_Law_law_535 rfl (lv_at hl 3 rfl) ?_
    obtain ⟨u16, hu16, hf⟩ := Option.bind_eq_some_iff.mp hf
    refine cl_i (wc := (uw_HT ad_ht cA_ht (ad_rd 0) (ad_sp 0) (ad_mx 0) (ad_ar 0) (ad_tb 0) (ad_tc 0) ht ++ (uw_Out ad_ot cA_ot ot ++ (uw_Mixture ad_mx cA_mx mx ++ (uw_Surroundings ad_ar cA_ar ar ++ (uw_Table ad_tb cA_tb tb)))))) (wr := (uw_Reader ad_rd cA_rd rd ++ (uw_Speller ad_sp cA_sp sp ++ (uw_Table ad_tc cA_tc tc ++ (uw_Model ad_md cA_md md))))) (tysC := [(cA_ht 1, .int), (cA_ot 1, .long), (cA_mx 1, .int), (cA_mx 2, .int), (cA_mx 3, .boolean), (cA_ar 1, .int), (cA_ar 2, .int), (cA_ar 3, .int), (cA_tb 1, .int), (cA_tb 2, .int), (cA_tb 3, .int), (cA_tb 4, .byte)]) (wu := fun (u : SOut × SSurroundings) => (uw_HT ad_ht cA_ht (ad_rd 0) (ad_sp 0) (ad_mx 0) (ad_ar 0) (ad_tb 0) (ad_tc 0) ht ++ (uw_Out ad_ot cA_ot u.1 ++ (uw_Mixture ad_mx cA_mx mx ++ (uw_Surroundings ad_ar cA_ar u.2 ++ (uw_Table ad_tb cA_tb tb)))))) (wn := fun (u : SOut × SSurroundings) => (uw_HT ad_ht cA_ht (ad_rd 0) (ad_sp 0) (ad_mx 0) (ad_ar 0) (ad_tb 0) (ad_tc 0) ht ++ (uw_Reader ad_rd cA_rd rd ++ (uw_Speller ad_sp cA_sp sp ++ (uw_Mixture ad_mx cA_mx mx ++ (uw_Surroundings ad_ar cA_ar u.2 ++ (uw_Table ad_tb cA_tb tb ++ (uw_Table ad_tc cA_tc tc ++ (uw_Out ad_ot cA_ot u.1 ++ (uw_Model ad_md cA_md md)))))))))) [0, 1, 27, 9, 10, 11, 12, 13, 14, 15, 16, 17, 18, 19, 20, 21] [2, 3, 4, 5, 6, 7, 8, 22, 23, 24, 25, 26, 28, 29, 30, 31, 32, 33, 34, 35, 36, 37, 38, 39, 40, 41] [26, 27, 0, 1, 2, 3, 4, 5, 6, 29, 30, 31, 32, 33, 34, 35, 36, 37, 38, 39, 40, 41, 7, 8, 9, 10, 11, 28, 12, 13, 14, 15, 16, 17, 18, 19, 20, 21, 22, 23, 24, 25] [0, 20, 6, 7, 8, 9, 10, 11, 12, 13, 14, 15] hP hD hS hA hK rfl rfl (by decide +kernel) (by decide +kernel) (by decide +kernel) rfl (fun _ => rfl) (by decide +kernel) (fun hPc hKc hDc => (vx_runSW (As := [.ref (ad_ht 0), .int (xs (y4 + (1 : Int32)).toNatClampNeg), .int (xs (y4 + (2 : Int32)).toNatClampNeg), .int (1 : Int32), .ref (ad_ot 1)]) (rest := []) ⟨hx, hb, hml, hown, hts⟩ (k_Law_wind l dC dI ad_ht cA_ht ad_ot cA_ot ad_mx cA_mx ad_ar cA_ar ad_tb cA_tb ad_rd cA_rd ad_sp cA_sp ad_tc cA_tc H.size ht ot mx ar tb (xs (y4 + (1 : Int32)).toNatClampNeg) (xs (y4 + (2 : Int32)).toNatClampNeg) true u16 hu16 htr) (vx_cwSW 5 hts (gSW wd_667 wd_668 wd_42 wd_669) rfl rfl rfl (by decide +kernel) ⟨Nat.le_of_ble_eq_true rfl, Nat.le_of_ble_eq_true rfl⟩) (cx_preL hPc hKc hDc hN (fun U hU hW => xAll_at hX hS (va_free hD hS hA [0, 1, 27, 9, 10, 11, 12, 13, 14, 15, 16, 17, 18, 19, 20, 21] rfl) hU hW) hnc) rfl rfl hl.1 rfl (lv_room (Nat.le_of_ble_eq_true rfl)) d_Law_law_536 ⟨by show _ ≤ 1092; omega, by show _ ≤ 11944; omega⟩)) (fun r u H locs hw hP hD hS => ?_)
    obtain ⟨hw1, hw2⟩ := hw
    have hw1 := hw1.symm
    have hw2 := hw2.symm
    subst hw1
    subst hw2
    have hP : va_P (dC, dI) vwCl (uw_HT ad_ht cA_ht (ad_rd 0) (ad_sp 0) (ad_mx 0) (ad_ar 0) (ad_tb 0) (ad_tc 0) ht ++ (uw_Reader ad_rd cA_rd rd ++ (uw_Speller ad_sp cA_sp sp ++ (uw_Mixture ad_mx cA_mx mx ++ (uw_Surroundings ad_ar cA_ar u16.2.2 ++ (uw_Table ad_tb cA_tb tb ++ (uw_Table ad_tc cA_tc tc ++ (uw_Out ad_ot cA_ot u16.2.1 ++ (uw_Model ad_md cA_md md))))))))) H := hP
    have hD : va_D A (uw_HT ad_ht cA_ht (ad_rd 0) (ad_sp 0) (ad_mx 0) (ad_ar 0) (ad_tb 0) (ad_tc 0) ht ++ (uw_Reader ad_rd cA_rd rd ++ (uw_Speller ad_sp cA_sp sp ++ (uw_Mixture ad_mx cA_mx mx ++ (uw_Surroundings ad_ar cA_ar u16.2.2 ++ (uw_Table ad_tb cA_tb tb ++ (uw_Table ad_tc cA_tc tc ++ (uw_Out ad_ot cA_ot u16.2.1 ++ (uw_Model ad_md cA_md md))))))))) := hD
    refine lv_istore (lv' := [(5, .int u16.1), (0, .ref b), (1, .ref (ad_ht 0)), (2, .ref (ad_md 0)), (3, .ref (ad_ot 1)), (4, .int y4)]) hx hb d_Law_law_539 hl (by decide) rfl (fun ls hl => ?_)
    refine lv_aload_n hx hb d_Law_law_541 rfl (lv_at hl 3 rfl) ?_
    refine lv_aload_n hx hb d_Law_law_542 rfl (lv_at hl 1 rfl) ?_
    refine lv_iload hx hb d_Law_law_543 (lv_at hl 5 rfl) ?_
    refine lv_iconst (v := (1 : Int32)) hx hb d_Law_law_545 (by decide) ?_
    refine lv_iadd hx hb d_Law_law_546 ?_
    obtain ⟨hi17, hf⟩ := hf_g hf
    refine va_sld hx hb hX0 hbl hbA hS hi17 d_Law_law_547 ?_
    refine lv_aload_n hx hb d_Law_law_548 rfl (lv_at hl 1 rfl) ?_
    refine lv_iload hx hb d_Law_law_549 (lv_at hl 5 rfl) ?_
    refine lv_iconst (v := (2 : Int32)) hx hb d_Law_law_551 (by decide) ?_
    refine lv_iadd hx hb d_Law_law_552 ?_
    obtain ⟨hi18, hf⟩ := hf_g hf
    refine va_sld hx hb hX0 hbl hbA hS hi18 d_Law_law_553 ?_
    refine lv_aload_n hx hb d_Law_law_554 rfl (lv_at hl 1 rfl) ?_
    refine lv_iload hx hb d_Law_law_555 (lv_at hl 5 rfl) ?_
    refine lv_iconst (v := (3 : Int32)) hx hb d_Law_law_557 (by decide) ?_
    refine lv_iadd hx hb d_Law_law_558 ?_
    obtain ⟨hi19, hf⟩ := hf_g hf
    refine va_sld hx hb hX0 hbl hbA hS hi19 d_Law_law_559 ?_
    refine lv_if_eq (tgt := 567) hx hb d_Law_law_560 (by decide) (fun hc20 => ?_) (fun hc20 => ?_)
    · exact absurd hc20 hc4
    · refine lv_iconst (v := (1 : Int32)) hx hb d_Law_law_563 (by decide) ?_
      refine lv_goto (tgt := 568) hx hb d_Law_law_564 (by decide) ?_
      obtain ⟨u21, hu21, hf⟩ := Option.bind_eq_some_iff.mp hf
      refine cl_i (wc := (uw_Model ad_md cA_md md)) (wr := (uw_HT ad_ht cA_ht (ad_rd 0) (ad_sp 0) (ad_mx 0) (ad_ar 0) (ad_tb 0) (ad_tc 0) ht ++ (uw_Reader ad_rd cA_rd rd ++ (uw_Speller ad_sp cA_sp sp ++ (uw_Mixture ad_mx cA_mx mx ++ (uw_Surroundings ad_ar cA_ar u16.2.2 ++ (uw_Table ad_tb cA_tb tb ++ (uw_Table ad_tc cA_tc tc ++ (uw_Out ad_ot cA_ot u16.2.1))))))))) (tysC := [(cA_md 1, .int), (cA_md 2, .int), (cA_md 3, .int), (cA_md 4, .int), (cA_md 5, .int), (cA_md 6, .int), (cA_md 7, .int), (cA_md 8, .int), (cA_md 9, .boolean), (cA_md 10, .int), (cA_md 11, .int), (cA_md 12, .int), (cA_md 13, .int)]) (wu := fun (u : SModel) => (uw_Model ad_md cA_md u)) (wn := fun (u : SModel) => (uw_HT ad_ht cA_ht (ad_rd 0) (ad_sp 0) (ad_mx 0) (ad_ar 0) (ad_tb 0) (ad_tc 0) ht ++ (uw_Reader ad_rd cA_rd rd ++ (uw_Speller ad_sp cA_sp sp ++ (uw_Mixture ad_mx cA_mx mx ++ (uw_Surroundings ad_ar cA_ar u16.2.2 ++ (uw_Table ad_tb cA_tb tb ++ (uw_Table ad_tc cA_tc tc ++ (uw_Out ad_ot cA_ot u16.2.1 ++ (uw_Model ad_md cA_md u)))))))))) [28, 29, 30, 31, 32, 33, 34, 35, 36, 37, 38, 39, 40, 41] [0, 1, 2, 3, 4, 5, 6, 7, 8, 9, 10, 11, 12, 13, 14, 15, 16, 17, 18, 19, 20, 21, 22, 23, 24, 25, 26, 27] [0, 1, 2, 3, 4, 5, 6, 7, 8, 9, 10, 11, 12, 13, 14, 15, 16, 17, 18, 19, 20, 21, 22, 23, 24, 25, 26, 27, 28, 29, 30, 31, 32, 33, 34, 35, 36, 37, 38, 39, 40, 41] [21, 22, 23, 24, 25, 26, 27, 28, 29, 30, 31, 32, 33] hP hD hS hA hK rfl rfl (by decide +kernel) (by decide +kernel) (by decide +kernel) rfl (fun _ => rfl) (by decide +kernel) (fun hPc hKc hDc => (va_runV (As := [.int (xs (y4 + (1 : Int32)).toNatClampNeg), .int (xs (y4 + (2 : Int32)).toNatClampNeg), .int (1 : Int32)]) (rest := []) ⟨hx, hb, hml, hown, hts⟩ (k_Model_wind l dC dI ad_md cA_md H.size md (xs (y4 + (1 : Int32)).toNatClampNeg) (xs (y4 + (2 : Int32)).toNatClampNeg) true u21 hu21) (cwV 3 hts (gV wd_974 wd_975 wd_976 wd_49 wd_977) rfl rfl rfl (by decide +kernel) ⟨Nat.le_of_ble_eq_true rfl, Nat.le_of_ble_eq_true rfl⟩) (cl_preV hPc hKc hDc hN (ci := 6) 0 rfl rfl) rfl rfl hl.1 rfl (lv_room (Nat.le_of_ble_eq_true rfl)) d_Law_law_568 ⟨by show _ ≤ 1092; omega, by show _ ≤ 11944; omega⟩)) (fun r u H locs hw hP hD hS => ?_)
      obtain ⟨hw1, hw2⟩ := hw
      have hw1 := hw1.symm
      have hw2 := hw2.symm
      subst hw1
      subst hw2
      have hP : va_P (dC, dI) vwCl (uw_HT ad_ht cA_ht (ad_rd 0) (ad_sp 0) (ad_mx 0) (ad_ar 0) (ad_tb 0) (ad_tc 0) ht ++ (uw_Reader ad_rd cA_rd rd ++ (uw_Speller ad_sp cA_sp sp ++ (uw_Mixture ad_mx cA_mx mx ++ (uw_Surroundings ad_ar cA_ar u16.2.2 ++ (uw_Table ad_tb cA_tb tb ++ (uw_Table ad_tc cA_tc tc ++ (uw_Out ad_ot cA_ot u16.2.1 ++ (uw_Model ad_md cA_md u21.2))))))))) H := hP
      have hD : va_D A (uw_HT ad_ht cA_ht (ad_rd 0) (ad_sp 0) (ad_mx 0) (ad_ar 0) (ad_tb 0) (ad_tc 0) ht ++ (uw_Reader ad_rd cA_rd rd ++ (uw_Speller ad_sp cA_sp sp ++ (uw_Mixture ad_mx cA_mx mx ++ (uw_Surroundings ad_ar cA_ar u16.2.2 ++ (uw_Table ad_tb cA_tb tb ++ (uw_Table ad_tc cA_tc tc ++ (uw_Out ad_ot cA_ot u16.2.1 ++ (uw_Model ad_md cA_md u21.2))))))))) := hD
      refine lv_istore (lv' := [(6, .int u21.1), (5, .int u16.1), (0, .ref b), (1, .ref (ad_ht 0)), (2, .ref (ad_md 0)), (3, .ref (ad_ot 1)), (4, .int y4)]) hx hb d_Law_law_571 hl (by decide) rfl (fun ls hl => ?_)
      refine lv_aload_n hx hb d_Law_law_573 rfl (lv_at hl 4 rfl) ?_
      obtain ⟨u22, hu22, hf⟩ := Option.bind_eq_some_iff.mp hf
      refine cl_i (wc := (uw_Model ad_md cA_md u21.2)) (wr := (uw_HT ad_ht cA_ht (ad_rd 0) (ad_sp 0) (ad_mx 0) (ad_ar 0) (ad_tb 0) (ad_tc 0) ht ++ (uw_Reader ad_rd cA_rd rd ++ (uw_Speller ad_sp cA_sp sp ++ (uw_Mixture ad_mx cA_mx mx ++ (uw_Surroundings ad_ar cA_ar u16.2.2 ++ (uw_Table ad_tb cA_tb tb ++ (uw_Table ad_tc cA_tc tc ++ (uw_Out ad_ot cA_ot u16.2.1))))))))) (tysC := [(cA_md 1, .int), (cA_md 2, .int), (cA_md 3, .int), (cA_md 4, .int), (cA_md 5, .int), (cA_md 6, .int), (cA_md 7, .int), (cA_md 8, .int), (cA_md 9, .boolean), (cA_md 10, .int), (cA_md 11, .int), (cA_md 12, .int), (cA_md 13, .int)]) (wu := fun (u : Unit) => (uw_Model ad_md cA_md u21.2)) (wn := fun (u : Unit) => (uw_HT ad_ht cA_ht (ad_rd 0) (ad_sp 0) (ad_mx 0) (ad_ar 0) (ad_tb 0) (ad_tc 0) ht ++ (uw_Reader ad_rd cA_rd rd ++ (uw_Speller ad_sp cA_sp sp ++ (uw_Mixture ad_mx cA_mx mx ++ (uw_Surroundings ad_ar cA_ar u16.2.2 ++ (uw_Table ad_tb cA_tb tb ++ (uw_Table ad_tc cA_tc tc ++ (uw_Out ad_ot cA_ot u16.2.1 ++ (uw_Model ad_md cA_md u21.2)))))))))) [28, 29, 30, 31, 32, 33, 34, 35, 36, 37, 38, 39, 40, 41] [0, 1, 2, 3, 4, 5, 6, 7, 8, 9, 10, 11, 12, 13, 14, 15, 16, 17, 18, 19, 20, 21, 22, 23, 24, 25, 26, 27] [0, 1, 2, 3, 4, 5, 6, 7, 8, 9, 10, 11, 12, 13, 14, 15, 16, 17, 18, 19, 20, 21, 22, 23, 24, 25, 26, 27, 28, 29, 30, 31, 32, 33, 34, 35, 36, 37, 38, 39, 40, 41] [21, 22, 23, 24, 25, 26, 27, 28, 29, 30, 31, 32, 33] hP hD hS hA hK rfl rfl (by decide +kernel) (by decide +kernel) (by decide +kernel) rfl (fun _ => rfl) (by decide +kernel) (fun hPc hKc hDc => (va_runV (As := []) (rest := []) ⟨hx, hb, hml, hown, hts⟩ (k_Model_thrown l dC dI ad_md cA_md H.size u21.2 u22 hu22) (cwV 0 hts (gV wd_839 wd_840 wd_841 wd_49 wd_842) rfl rfl rfl (by decide +kernel) ⟨Nat.le_of_ble_eq_true rfl, Nat.le_of_ble_eq_true rfl⟩) (cl_preV hPc hKc hDc hN (ci := 6) 0 rfl rfl) rfl rfl hl.1 rfl (lv_room (Nat.le_of_ble_eq_true rfl)) d_Law_law_574 ⟨by show _ ≤ 1092; omega, by show _ ≤ 11944; omega⟩)) (fun r u H locs hw hP hD hS => ?_)
      have hw := hw.symm
      subst hw
      have hP : va_P (dC, dI) vwCl (uw_HT ad_ht cA_ht (ad_rd 0) (ad_sp 0) (ad_mx 0) (ad_ar 0) (ad_tb 0) (ad_tc 0) ht ++ (uw_Reader ad_rd cA_rd rd ++ (uw_Speller ad_sp cA_sp sp ++ (uw_Mixture ad_mx cA_mx mx ++ (uw_Surroundings ad_ar cA_ar u16.2.2 ++ (uw_Table ad_tb cA_tb tb ++ (uw_Table ad_tc cA_tc tc ++ (uw_Out ad_ot cA_ot u16.2.1 ++ (uw_Model ad_md cA_md u21.2))))))))) H := hP
      have hD : va_D A (uw_HT ad_ht cA_ht (ad_rd 0) (ad_sp 0) (ad_mx 0) (ad_ar 0) (ad_tb 0) (ad_tc 0) ht ++ (uw_Reader ad_rd cA_rd rd ++ (uw_Speller ad_sp cA_sp sp ++ (uw_Mixture ad_mx cA_mx mx ++ (uw_Surroundings ad_ar cA_ar u16.2.2 ++ (uw_Table ad_tb cA_tb tb ++ (uw_Table ad_tc cA_tc tc ++ (uw_Out ad_ot cA_ot u16.2.1 ++ (uw_Model ad_md cA_md u21.2))))))))) := hD
      refine lv_iload hx hb d_Law_law_577 (lv_at hl 1 rfl) ?_
      refine lv_icmp_eq (tgt := 584) hx hb d_Law_law_579 (by decide) (fun hc23 => ?_) (fun hc23 => ?_)
      · have hf := hf_t hf hc23
        refine lv_iload hx hb d_Law_law_584 (lv_at hl 1 rfl) ?_
        refine lv_if_ne (tgt := 601) hx hb d_Law_law_586 (by decide) (fun hc24 => ?_) (fun hc24 => ?_)
        · have hf := hf_f hf hc24
          refine lv_goto (tgt := 777) hx hb d_Law_law_601 (by decide) ?_
          refine lv_iinc (v := y4 + (4 : Int32)) (lv' := [(4, .int (y4 + (4 : Int32))), (6, .int u21.1), (5, .int u16.1), (0, .ref b), (1, .ref (ad_ht 0)), (2, .ref (ad_md 0)), (3, .ref (ad_ot 1))]) hx hb d_Law_law_777 hl (k := 6) rfl rfl (by decide) rfl (fun ls hl => ?_)
          refine lv_goto (tgt := 23) hx hb d_Law_law_780 (by decide) ?_
          refine W.widen (k := cs + 1) (n := sl + 6) (by omega) (by omega) ?_
          exact hk ad_ht cA_ht ad_rd cA_rd ad_sp cA_sp ad_mx cA_mx ad_ar cA_ar ad_tb cA_tb ad_tc cA_tc ad_ot cA_ot ad_md cA_md ht rd sp mx u16.2.2 tb tc u16.2.1 u21.2 (y4 + (4 : Int32)) H locs ls hf hK hP hD hS (lv_sub hl [3, 4, 5, 6, 0] rfl)
        · have hf := hf_t hf hc24
          refine lv_aload_n hx hb d_Law_law_589 rfl (lv_at hl 5 rfl) ?_
          refine lv_iconst (v := (0 : Int32)) hx hb d_Law_law_590 (by decide) ?_
          obtain ⟨hi25, hf⟩ := hf_g hf
          refine va_lald hx hb hK hP 27 20 rfl rfl hi25 d_Law_law_591 ?_
          refine lv_iload hx hb d_Law_law_592 (lv_at hl 0 rfl) ?_
          refine lv_i2l (v := u21.1.toInt64) hx hb d_Law_law_594 rfl ?_
          refine W.lcmp hx hb d_Law_law_595 ?_
          refine lv_if_eq (tgt := 601) hx hb d_Law_law_596 (by decide) (fun hc26 => ?_) (fun hc26 => ?_)
          · have hf := hf_t hf hc26
            refine lv_goto (tgt := 777) hx hb d_Law_law_601 (by decide) ?_
            refine lv_iinc (v := y4 + (4 : Int32)) (lv' := [(4, .int (y4 + (4 : Int32))), (6, .int u21.1), (5, .int u16.1), (0, .ref b), (1, .ref (ad_ht 0)), (2, .ref (ad_md 0)), (3, .ref (ad_ot 1))]) hx hb d_Law_law_777 hl (k := 6) rfl rfl (by decide) rfl (fun ls hl => ?_)
            refine lv_goto (tgt := 23) hx hb d_Law_law_780 (by decide) ?_
            refine W.widen (k := cs + 1) (n := sl + 6) (by omega) (by omega) ?_
            exact hk ad_ht cA_ht ad_rd cA_rd ad_sp cA_sp ad_mx cA_mx ad_ar cA_ar ad_tb cA_tb ad_tc cA_tc ad_ot cA_ot ad_md cA_md ht rd sp mx u16.2.2 tb tc u16.2.1 u21.2 (y4 + (4 : Int32)) H locs ls hf hK hP hD hS (lv_sub hl [3, 4, 5, 6, 0] rfl)
          · have hf := hf_f hf hc26
            refine lv_iconst (v := (0 : Int32)) hx hb d_Law_law_599 (by decide) ?_
            cases hf
      · have hf := hf_f hf hc23
        refine lv_iconst (v := (0 : Int32)) hx hb d_Law_law_582 (by decide) ?_
        cases hf
noncomputable def f_Law_case_604 (L : Nat) (xs : Nat → Int32) (k : SHT → SReader → SSpeller → SMixture → SSurroundings → STable → STable → SOut → SModel → Int32 → Option Bool) (ht : SHT) (rd : SReader) (sp : SSpeller) (mx : SMixture) (ar : SSurroundings) (tb : STable) (tc : STable) (ot : SOut) (md : SModel) (y4 : Int32) : Option Bool :=
  (if inb (y4 + (1 : Int32)) L then
    (Option.bind (f_Law_fresh ht ot ar (xs (y4 + (1 : Int32)).toNatClampNeg)) fun u2 =>
      (if inb (y4 + (1 : Int32)) L then
        (Option.bind (f_Model_fresh md (xs (y4 + (1 : Int32)).toNatClampNeg)) fun u4 =>
          (k ht rd sp mx ar tb tc u2.2 u4.2 (y4 + (4 : Int32)))
         )
       else none)
     )
   else none)
set_option maxHeartbeats 4000000 in
set_option maxRecDepth 100000 in
theorem k_Law_case_604 {p : Program} {l : Launch} {e : Env} {s : State} {m : MethodId} {below : List Frame} {meth : Method} {c : Code} {dC : Nat → ClassId} {dI : Nat → Nat → Nat} {b L : Nat} {xs : Nat → Int32} {A : Nat → Prop} (htr : l.stackTraces = false) (C0 : lw_At p s m meth c b L xs) (hN : nwAll s) (hX : xAll A s) (hnc : ncAll s) (hA : ∀ q : Nat, s.heap.size ≤ q → A q) (hA2 : ∀ q : Nat, A q → s.heap.size ≤ q) (cs sl : Nat) (hcs : cs + 1 ≤ 1092) (hsl : sl + 6 ≤ 11944) (k : SHT → SReader → SSpeller → SMixture → SSurroundings → STable → STable → SOut → SModel → Int32 → Option Bool) (hk : ∀ (ad_ht : Nat → Nat) (cA_ht : Nat → ClassId) (ad_rd : Nat → Nat) (cA_rd : Nat → ClassId) (ad_sp : Nat → Nat) (cA_sp : Nat → ClassId) (ad_mx : Nat → Nat) (cA_mx : Nat → ClassId) (ad_ar : Nat → Nat) (cA_ar : Nat → ClassId) (ad_tb : Nat → Nat) (cA_tb : Nat → ClassId) (ad_tc : Nat → Nat) (cA_tc : Nat → ClassId) (ad_ot : Nat → Nat) (cA_ot : Nat → ClassId) (ad_md : Nat → Nat) (cA_md : Nat → ClassId) (ht : SHT) (rd : SReader) (sp : SSpeller) (mx : SMixture) (ar : SSurroundings) (tb : STable) (tc : STable) (ot : SOut) (md : SModel) (y4 : Int32) (H : Heap) (locs : List Loc) (ls : Array Slot), k ht rd sp mx ar tb tc ot md y4 = some true → va_K (dC, dI) vwCl [(cA_ht 1, .int), (cA_rd 1, .int), (cA_sp 1, .int), (cA_sp 2, .int), (cA_sp 3, .int), (cA_sp 4, .int), (cA_mx 1, .int), (cA_mx 2, .int), (cA_mx 3, .boolean), (cA_ar 1, .int), (cA_ar 2, .int), (cA_ar 3, .int), (cA_tb 1, .int), (cA_tb 2, .int), (cA_tb 3, .int), (cA_tb 4, .byte), (cA_tc 1, .int), (cA_tc 2, .int), (cA_tc 3, .int), (cA_tc 4, .byte), (cA_ot 1, .long), (cA_md 1, .int), (cA_md 2, .int), (cA_md 3, .int), (cA_md 4, .int), (cA_md 5, .int), (cA_md 6, .int), (cA_md 7, .int), (cA_md 8, .int), (cA_md 9, .boolean), (cA_md 10, .int), (cA_md 11, .int), (cA_md 12, .int), (cA_md 13, .int)] s → va_P (dC, dI) vwCl (uw_HT ad_ht cA_ht (ad_rd 0) (ad_sp 0) (ad_mx 0) (ad_ar 0) (ad_tb 0) (ad_tc 0) ht ++ (uw_Reader ad_rd cA_rd rd ++ (uw_Speller ad_sp cA_sp sp ++ (uw_Mixture ad_mx cA_mx mx ++ (uw_Surroundings ad_ar cA_ar ar ++ (uw_Table ad_tb cA_tb tb ++ (uw_Table ad_tc cA_tc tc ++ (uw_Out ad_ot cA_ot ot ++ (uw_Model ad_md cA_md md))))))))) H → va_D A (uw_HT ad_ht cA_ht (ad_rd 0) (ad_sp 0) (ad_mx 0) (ad_ar 0) (ad_tb 0) (ad_tc 0) ht ++ (uw_Reader ad_rd cA_rd rd ++ (uw_Speller ad_sp cA_sp sp ++ (uw_Mixture ad_mx cA_mx mx ++ (uw_Surroundings ad_ar cA_ar ar ++ (uw_Table ad_tb cA_tb tb ++ (uw_Table ad_tc cA_tc tc ++ (uw_Out ad_ot cA_ot ot ++ (uw_Model ad_md cA_md md))))))))) → va_S A s.heap H locs → lv_has ls 7 [(0, .ref b), (1, .ref (ad_ht 0)), (2, .ref (ad_md 0)), (3, .ref (ad_ot 1)), (4, .int y4)] → W p l e room_1 s m #[Value.ref b] below meth c H locs (cs + 1) (sl + 6) (lw_Z below #[Value.ref b] s) (F0 m 23 ls [])) : ∀ (ad_ht : Nat → Nat) (cA_ht : Nat → ClassId) (ad_rd : Nat → Nat) (cA_rd : Nat → ClassId) (ad_sp : Nat → Nat) (cA_sp : Nat → ClassId) (ad_mx : Nat → Nat) (cA_mx : Nat → ClassId) (ad_ar : Nat → Nat) (cA_ar : Nat → ClassId) (ad_tb : Nat → Nat) (cA_tb : Nat → ClassId) (ad_tc : Nat → Nat) (cA_tc : Nat → ClassId) (ad_ot : Nat → Nat) (cA_ot : Nat → ClassId) (ad_md : Nat → Nat) (cA_md : Nat → ClassId) (ht : SHT) (rd : SReader) (sp : SSpeller) (mx : SMixture) (ar : SSurroundings) (tb : STable) (tc : STable) (ot : SOut) (md : SModel) (y4 : Int32) (H : Heap) (locs : List Loc) (ls : Array Slot), f_Law_case_604 L xs k ht rd sp mx ar tb tc ot md y4 = some true → va_K (dC, dI) vwCl [(cA_ht 1, .int), (cA_rd 1, .int), (cA_sp 1, .int), (cA_sp 2, .int), (cA_sp 3, .int), (cA_sp 4, .int), (cA_mx 1, .int), (cA_mx 2, .int), (cA_mx 3, .boolean), (cA_ar 1, .int), (cA_ar 2, .int), (cA_ar 3, .int), (cA_tb 1, .int), (cA_tb 2, .int), (cA_tb 3, .int), (cA_tb 4, .byte), (cA_tc 1, .int), (cA_tc 2, .int), (cA_tc 3, .int), (cA_tc 4, .byte), (cA_ot 1, .long), (cA_md 1, .int), (cA_md 2, .int), (cA_md 3, .int), (cA_md 4, .int), (cA_md 5, .int), (cA_md 6, .int), (cA_md 7, .int), (cA_md 8, .int), (cA_md 9, .boolean), (cA_md 10, .int), (cA_md 11, .int), (cA_md 12, .int), (cA_md 13, .int)] s → va_P (dC, dI) vwCl (uw_HT ad_ht cA_ht (ad_rd 0) (ad_sp 0) (ad_mx 0) (ad_ar 0) (ad_tb 0) (ad_tc 0) ht ++ (uw_Reader ad_rd cA_rd rd ++ (uw_Speller ad_sp cA_sp sp ++ (uw_Mixture ad_mx cA_mx mx ++ (uw_Surroundings ad_ar cA_ar ar ++ (uw_Table ad_tb cA_tb tb ++ (uw_Table ad_tc cA_tc tc ++ (uw_Out ad_ot cA_ot ot ++ (uw_Model ad_md cA_md md))))))))) H → va_D A (uw_HT ad_ht cA_ht (ad_rd 0) (ad_sp 0) (ad_mx 0) (ad_ar 0) (ad_tb 0) (ad_tc 0) ht ++ (uw_Reader ad_rd cA_rd rd ++ (uw_Speller ad_sp cA_sp sp ++ (uw_Mixture ad_mx cA_mx mx ++ (uw_Surroundings ad_ar cA_ar ar ++ (uw_Table ad_tb cA_tb tb ++ (uw_Table ad_tc cA_tc tc ++ (uw_Out ad_ot cA_ot ot ++ (uw_Model ad_md cA_md md))))))))) → va_S A s.heap H locs → lv_has ls 7 [(0, .ref b), (1, .ref (ad_ht 0)), (2, .ref (ad_md 0)), (3, .ref (ad_ot 1)), (4, .int y4)] → W p l e room_1 s m #[Value.ref b] below meth c H locs cs sl (lw_Z below #[Value.ref b] s) (F0 m 604 ls []) := by
  obtain ⟨hx, hb, hr, hml, hown, hts0, hX0, hbl, hlocks, hgv⟩ := C0
  have hown : s.vm.findClass "HazardTablesLaw" = some m.cls := hown
  have hts : ∀ w ∈ (Cond.initialized "HazardTables" :: WA), w.before #[Value.ref b] s = true := fun w h => hts0 w ((List.mem_cons.mp h).elim (fun e => by rw [e]; exact (List.mem_filter.mp wd_43).1) (fun h => (List.mem_filter.mp h).1))
  have hbA : ¬ A b := fun h => absurd (hA2 b h) (Nat.not_le.mpr hbl)
  intro ad_ht cA_ht ad_rd cA_rd ad_sp cA_sp ad_mx cA_mx ad_ar cA_ar ad_tb cA_tb ad_tc cA_tc ad_ot cA_ot ad_md cA_md ht rd sp mx ar tb tc ot md y4 H locs ls hf hK hP hD hS hl
  unfold f_Law_case_604 at hf
  refine lv_aload_n hx hb d_Law_law_604 rfl (lv_at hl 1 rfl) ?_
  refine lv_aload_n hx hb d_Law_law_605 rfl (lv_at hl 0 rfl) ?_
  refine lv_iload hx hb d_Law_law_606 (lv_at hl 4 rfl) ?_
  refine lv_iconst (v := (1 : Int32)) hx hb d_Law_law_608 (by decide) ?_
  refine lv_iadd hx hb d_Law_law_609 ?_
  obtain ⟨hi1, hf⟩ := hf_g hf
  refine va_sld hx hb hX0 hbl hbA hS hi1 d_Law_law_610 ?_
  refine lv_aload_n hx hb d_Law_law_611 rfl (lv_at hl 3 rfl) ?_
  obtain ⟨u2, hu2, hf⟩ := Option.bind_eq_some_iff.mp hf
  refine cl_i (wc := (uw_HT ad_ht cA_ht (ad_rd 0) (ad_sp 0) (ad_mx 0) (ad_ar 0) (ad_tb 0) (ad_tc 0) ht ++ (uw_Out ad_ot cA_ot ot ++ (uw_Surroundings ad_ar cA_ar ar)))) (wr := (uw_Reader ad_rd cA_rd rd ++ (uw_Speller ad_sp cA_sp sp ++ (uw_Mixture ad_mx cA_mx mx ++ (uw_Table ad_tb cA_tb tb ++ (uw_Table ad_tc cA_tc tc ++ (uw_Model ad_md cA_md md))))))) (tysC := [(cA_ht 1, .int), (cA_ot 1, .long), (cA_ar 1, .int), (cA_ar 2, .int), (cA_ar 3, .int)]) (wu := fun (u : SOut) => (uw_HT ad_ht cA_ht (ad_rd 0) (ad_sp 0) (ad_mx 0) (ad_ar 0) (ad_tb 0) (ad_tc 0) ht ++ (uw_Out ad_ot cA_ot u ++ (uw_Surroundings ad_ar cA_ar ar)))) (wn := fun (u : SOut) => (uw_HT ad_ht cA_ht (ad_rd 0) (ad_sp 0) (ad_mx 0) (ad_ar 0) (ad_tb 0) (ad_tc 0) ht ++ (uw_Reader ad_rd cA_rd rd ++ (uw_Speller ad_sp cA_sp sp ++ (uw_Mixture ad_mx cA_mx mx ++ (uw_Surroundings ad_ar cA_ar ar ++ (uw_Table ad_tb cA_tb tb ++ (uw_Table ad_tc cA_tc tc ++ (uw_Out ad_ot cA_ot u ++ (uw_Model ad_md cA_md md)))))))))) [0, 1, 27, 13, 14, 15, 16] [2, 3, 4, 5, 6, 7, 8, 9, 10, 11, 12, 17, 18, 19, 20, 21, 22, 23, 24, 25, 26, 28, 29, 30, 31, 32, 33, 34, 35, 36, 37, 38, 39, 40, 41] [35, 36, 0, 1, 2, 3, 4, 5, 6, 7, 8, 9, 10, 38, 39, 40, 41, 11, 12, 13, 14, 15, 16, 17, 18, 19, 20, 37, 21, 22, 23, 24, 25, 26, 27, 28, 29, 30, 31, 32, 33, 34] [0, 20, 9, 10, 11] hP hD hS hA hK rfl rfl (by decide +kernel) (by decide +kernel) (by decide +kernel) rfl (fun _ => rfl) (by decide +kernel) (fun hPc hKc hDc => (vx_runSW (As := [.ref (ad_ht 0), .int (xs (y4 + (1 : Int32)).toNatClampNeg), .ref (ad_ot 1)]) (rest := []) ⟨hx, hb, hml, hown, hts⟩ (k_Law_fresh l dC dI ad_ht cA_ht ad_ot cA_ot ad_ar cA_ar ad_rd cA_rd ad_sp cA_sp ad_mx cA_mx ad_tb cA_tb ad_tc cA_tc H.size ht ot ar (xs (y4 + (1 : Int32)).toNatClampNeg) u2 hu2 htr) (vx_cwSW 3 hts (gSW wd_694 wd_695 wd_42 wd_696) rfl rfl rfl (by decide +kernel) ⟨Nat.le_of_ble_eq_true rfl, Nat.le_of_ble_eq_true rfl⟩) (cx_preL hPc hKc hDc hN (fun U hU hW => xAll_at hX hS (va_free hD hS hA [0, 1, 27, 13, 14, 15, 16] rfl) hU hW) hnc) rfl rfl hl.1 rfl (lv_room (Nat.le_of_ble_eq_true rfl)) d_Law_law_612 ⟨by show _ ≤ 1092; omega, by show _ ≤ 11944; omega⟩)) (fun r u H locs hw hP hD hS => ?_)
  obtain ⟨hw1, hw2⟩ := hw
  have hw1 := hw1.symm
  have hw2 := hw2.symm
  subst hw1
  subst hw2
  have hP : va_P (dC, dI) vwCl (uw_HT ad_ht cA_ht (ad_rd 0) (ad_sp 0) (ad_mx 0) (ad_ar 0) (ad_tb 0) (ad_tc 0) ht ++ (uw_Reader ad_rd cA_rd rd ++ (uw_Speller ad_sp cA_sp sp ++ (uw_Mixture ad_mx cA_mx mx ++ (uw_Surroundings ad_ar cA_ar ar ++ (uw_Table ad_tb cA_tb tb ++ (uw_Table ad_tc cA_tc tc ++ (uw_Out ad_ot cA_ot u2.2 ++ (uw_Model ad_md cA_md md))))))))) H := hP
  have hD : va_D A (uw_HT ad_ht cA_ht (ad_rd 0) (ad_sp 0) (ad_mx 0) (ad_ar 0) (ad_tb 0) (ad_tc 0) ht ++ (uw_Reader ad_rd cA_rd rd ++ (uw_Speller ad_sp cA_sp sp ++ (uw_Mixture ad_mx cA_mx mx ++ (uw_Surroundings ad_ar cA_ar ar ++ (uw_Table ad_tb cA_tb tb ++ (uw_Table ad_tc cA_tc tc ++ (uw_Out ad_ot cA_ot u2.2 ++ (uw_Model ad_md cA_md md))))))))) := hD
  refine lv_istore (lv' := [(5, .int u2.1), (0, .ref b), (1, .ref (ad_ht 0)), (2, .ref (ad_md 0)), (3, .ref (ad_ot 1)), (4, .int y4)]) hx hb d_Law_law_615 hl (by decide) rfl (fun ls hl => ?_)
  refine lv_aload_n hx hb d_Law_law_617 rfl (lv_at hl 3 rfl) ?_
  refine lv_aload_n hx hb d_Law_law_618 rfl (lv_at hl 1 rfl) ?_
  refine lv_iload hx hb d_Law_law_619 (lv_at hl 5 rfl) ?_
  refine lv_iconst (v := (1 : Int32)) hx hb d_Law_law_621 (by decide) ?_
  refine lv_iadd hx hb d_Law_law_622 ?_
  obtain ⟨hi3, hf⟩ := hf_g hf
  refine va_sld hx hb hX0 hbl hbA hS hi3 d_Law_law_623 ?_
  obtain ⟨u4, hu4, hf⟩ := Option.bind_eq_some_iff.mp hf
  refine cl_i (wc := (uw_Model ad_md cA_md md)) (wr := (uw_HT ad_ht cA_ht (ad_rd 0) (ad_sp 0) (ad_mx 0) (ad_ar 0) (ad_tb 0) (ad_tc 0) ht ++ (uw_Reader ad_rd cA_rd rd ++ (uw_Speller ad_sp cA_sp sp ++ (uw_Mixture ad_mx cA_mx mx ++ (uw_Surroundings ad_ar cA_ar ar ++ (uw_Table ad_tb cA_tb tb ++ (uw_Table ad_tc cA_tc tc ++ (uw_Out ad_ot cA_ot u2.2))))))))) (tysC := [(cA_md 1, .int), (cA_md 2, .int), (cA_md 3, .int), (cA_md 4, .int), (cA_md 5, .int), (cA_md 6, .int), (cA_md 7, .int), (cA_md 8, .int), (cA_md 9, .boolean), (cA_md 10, .int), (cA_md 11, .int), (cA_md 12, .int), (cA_md 13, .int)]) (wu := fun (u : SModel) => (uw_Model ad_md cA_md u)) (wn := fun (u : SModel) => (uw_HT ad_ht cA_ht (ad_rd 0) (ad_sp 0) (ad_mx 0) (ad_ar 0) (ad_tb 0) (ad_tc 0) ht ++ (uw_Reader ad_rd cA_rd rd ++ (uw_Speller ad_sp cA_sp sp ++ (uw_Mixture ad_mx cA_mx mx ++ (uw_Surroundings ad_ar cA_ar ar ++ (uw_Table ad_tb cA_tb tb ++ (uw_Table ad_tc cA_tc tc ++ (uw_Out ad_ot cA_ot u2.2 ++ (uw_Model ad_md cA_md u)))))))))) [28, 29, 30, 31, 32, 33, 34, 35, 36, 37, 38, 39, 40, 41] [0, 1, 2, 3, 4, 5, 6, 7, 8, 9, 10, 11, 12, 13, 14, 15, 16, 17, 18, 19, 20, 21, 22, 23, 24, 25, 26, 27] [0, 1, 2, 3, 4, 5, 6, 7, 8, 9, 10, 11, 12, 13, 14, 15, 16, 17, 18, 19, 20, 21, 22, 23, 24, 25, 26, 27, 28, 29, 30, 31, 32, 33, 34, 35, 36, 37, 38, 39, 40, 41] [21, 22, 23, 24, 25, 26, 27, 28, 29, 30, 31, 32, 33] hP hD hS hA hK rfl rfl (by decide +kernel) (by decide +kernel) (by decide +kernel) rfl (fun _ => rfl) (by decide +kernel) (fun hPc hKc hDc => (va_runV (As := [.int (xs (y4 + (1 : Int32)).toNatClampNeg)]) (rest := []) ⟨hx, hb, hml, hown, hts⟩ (k_Model_fresh l dC dI ad_md cA_md H.size md (xs (y4 + (1 : Int32)).toNatClampNeg) u4 hu4) (cwV 1 hts (gV wd_983 wd_984 wd_985 wd_49 wd_986) rfl rfl rfl (by decide +kernel) ⟨Nat.le_of_ble_eq_true rfl, Nat.le_of_ble_eq_true rfl⟩) (cl_preV hPc hKc hDc hN (ci := 6) 0 rfl rfl) rfl rfl hl.1 rfl (lv_room (Nat.le_of_ble_eq_true rfl)) d_Law_law_624 ⟨by show _ ≤ 1092; omega, by show _ ≤ 11944; omega⟩)) (fun r u H locs hw hP hD hS => ?_)
  obtain ⟨hw1, hw2⟩ := hw
  have hw1 := hw1.symm
  have hw2 := hw2.symm
  subst hw1
  subst hw2
  have hP : va_P (dC, dI) vwCl (uw_HT ad_ht cA_ht (ad_rd 0) (ad_sp 0) (ad_mx 0) (ad_ar 0) (ad_tb 0) (ad_tc 0) ht ++ (uw_Reader ad_rd cA_rd rd ++ (uw_Speller ad_sp cA_sp sp ++ (uw_Mixture ad_mx cA_mx mx ++ (uw_Surroundings ad_ar cA_ar ar ++ (uw_Table ad_tb cA_tb tb ++ (uw_Table ad_tc cA_tc tc ++ (uw_Out ad_ot cA_ot u2.2 ++ (uw_Model ad_md cA_md u4.2))))))))) H := hP
  have hD : va_D A (uw_HT ad_ht cA_ht (ad_rd 0) (ad_sp 0) (ad_mx 0) (ad_ar 0) (ad_tb 0) (ad_tc 0) ht ++ (uw_Reader ad_rd cA_rd rd ++ (uw_Speller ad_sp cA_sp sp ++ (uw_Mixture ad_mx cA_mx mx ++ (uw_Surroundings ad_ar cA_ar ar ++ (uw_Table ad_tb cA_tb tb ++ (uw_Table ad_tc cA_tc tc ++ (uw_Out ad_ot cA_ot u2.2 ++ (uw_Model ad_md cA_md u4.2))))))))) := hD
  refine lv_istore (lv' := [(6, .int u4.1), (5, .int u2.1), (0, .ref b), (1, .ref (ad_ht 0)), (2, .ref (ad_md 0)), (3, .ref (ad_ot 1)), (4, .int y4)]) hx hb d_Law_law_627 hl (by decide) rfl (fun ls hl => ?_)
  refine lv_goto (tgt := 777) hx hb d_Law_law_629 (by decide) ?_
  refine lv_iinc (v := y4 + (4 : Int32)) (lv' := [(4, .int (y4 + (4 : Int32))), (6, .int u4.1), (5, .int u2.1), (0, .ref b), (1, .ref (ad_ht 0)), (2, .ref (ad_md 0)), (3, .ref (ad_ot 1))]) hx hb d_Law_law_777 hl (k := 6) rfl rfl (by decide) rfl (fun ls hl => ?_)
  refine lv_goto (tgt := 23) hx hb d_Law_law_780 (by decide) ?_
  refine W.widen (k := cs + 1) (n := sl + 6) (by omega) (by omega) ?_
  exact hk ad_ht cA_ht ad_rd cA_rd ad_sp cA_sp ad_mx cA_mx ad_ar cA_ar ad_tb cA_tb ad_tc cA_tc ad_ot cA_ot ad_md cA_md ht rd sp mx ar tb tc u2.2 u4.2 (y4 + (4 : Int32)) H locs ls hf hK hP hD hS (lv_sub hl [3, 4, 5, 6, 0] rfl)
noncomputable def f_Law_case_632 (L : Nat) (xs : Nat → Int32) (k : SHT → SReader → SSpeller → SMixture → SSurroundings → STable → STable → SOut → SModel → Int32 → Option Bool) (ht : SHT) (rd : SReader) (sp : SSpeller) (mx : SMixture) (ar : SSurroundings) (tb : STable) (tc : STable) (ot : SOut) (md : SModel) (y4 : Int32) : Option Bool :=
  (if inb (y4 + (1 : Int32)) L then
    (if inb (y4 + (2 : Int32)) L then
      (Option.bind (f_Law_in ht ot mx ar tb (xs (y4 + (1 : Int32)).toNatClampNeg) (xs (y4 + (2 : Int32)).toNatClampNeg)) fun u3 =>
        (if inb (y4 + (1 : Int32)) L then
          (if inb (y4 + (2 : Int32)) L then
            (Option.bind (f_Model_in md (xs (y4 + (1 : Int32)).toNatClampNeg) (xs (y4 + (2 : Int32)).toNatClampNeg)) fun u6 =>
              (k ht rd sp mx ar tb tc u3.2 u6.2 (y4 + (4 : Int32)))
             )
           else none)
         else none)
       )
     else none)
   else none)
set_option maxHeartbeats 4000000 in
set_option maxRecDepth 100000 in
theorem k_Law_case_632 {p : Program} {l : Launch} {e : Env} {s : State} {m : MethodId} {below : List Frame} {meth : Method} {c : Code} {dC : Nat → ClassId} {dI : Nat → Nat → Nat} {b L : Nat} {xs : Nat → Int32} {A : Nat → Prop} (htr : l.stackTraces = false) (C0 : lw_At p s m meth c b L xs) (hN : nwAll s) (hX : xAll A s) (hnc : ncAll s) (hA : ∀ q : Nat, s.heap.size ≤ q → A q) (hA2 : ∀ q : Nat, A q → s.heap.size ≤ q) (cs sl : Nat) (hcs : cs + 1 ≤ 1092) (hsl : sl + 6 ≤ 11944) (k : SHT → SReader → SSpeller → SMixture → SSurroundings → STable → STable → SOut → SModel → Int32 → Option Bool) (hk : ∀ (ad_ht : Nat → Nat) (cA_ht : Nat → ClassId) (ad_rd : Nat → Nat) (cA_rd : Nat → ClassId) (ad_sp : Nat → Nat) (cA_sp : Nat → ClassId) (ad_mx : Nat → Nat) (cA_mx : Nat → ClassId) (ad_ar : Nat → Nat) (cA_ar : Nat → ClassId) (ad_tb : Nat → Nat) (cA_tb : Nat → ClassId) (ad_tc : Nat → Nat) (cA_tc : Nat → ClassId) (ad_ot : Nat → Nat) (cA_ot : Nat → ClassId) (ad_md : Nat → Nat) (cA_md : Nat → ClassId) (ht : SHT) (rd : SReader) (sp : SSpeller) (mx : SMixture) (ar : SSurroundings) (tb : STable) (tc : STable) (ot : SOut) (md : SModel) (y4 : Int32) (H : Heap) (locs : List Loc) (ls : Array Slot), k ht rd sp mx ar tb tc ot md y4 = some true → va_K (dC, dI) vwCl [(cA_ht 1, .int), (cA_rd 1, .int), (cA_sp 1, .int), (cA_sp 2, .int), (cA_sp 3, .int), (cA_sp 4, .int), (cA_mx 1, .int), (cA_mx 2, .int), (cA_mx 3, .boolean), (cA_ar 1, .int), (cA_ar 2, .int), (cA_ar 3, .int), (cA_tb 1, .int), (cA_tb 2, .int), (cA_tb 3, .int), (cA_tb 4, .byte), (cA_tc 1, .int), (cA_tc 2, .int), (cA_tc 3, .int), (cA_tc 4, .byte), (cA_ot 1, .long), (cA_md 1, .int), (cA_md 2, .int), (cA_md 3, .int), (cA_md 4, .int), (cA_md 5, .int), (cA_md 6, .int), (cA_md 7, .int), (cA_md 8, .int), (cA_md 9, .boolean), (cA_md 10, .int), (cA_md 11, .int), (cA_md 12, .int), (cA_md 13, .int)] s → va_P (dC, dI) vwCl (uw_HT ad_ht cA_ht (ad_rd 0) (ad_sp 0) (ad_mx 0) (ad_ar 0) (ad_tb 0) (ad_tc 0) ht ++ (uw_Reader ad_rd cA_rd rd ++ (uw_Speller ad_sp cA_sp sp ++ (uw_Mixture ad_mx cA_mx mx ++ (uw_Surroundings ad_ar cA_ar ar ++ (uw_Table ad_tb cA_tb tb ++ (uw_Table ad_tc cA_tc tc ++ (uw_Out ad_ot cA_ot ot ++ (uw_Model ad_md cA_md md))))))))) H → va_D A (uw_HT ad_ht cA_ht (ad_rd 0) (ad_sp 0) (ad_mx 0) (ad_ar 0) (ad_tb 0) (ad_tc 0) ht ++ (uw_Reader ad_rd cA_rd rd ++ (uw_Speller ad_sp cA_sp sp ++ (uw_Mixture ad_mx cA_mx mx ++ (uw_Surroundings ad_ar cA_ar ar ++ (uw_Table ad_tb cA_tb tb ++ (uw_Table ad_tc cA_tc tc ++ (uw_Out ad_ot cA_ot ot ++ (uw_Model ad_md cA_md md))))))))) → va_S A s.heap H locs → lv_has ls 7 [(0, .ref b), (1, .ref (ad_ht 0)), (2, .ref (ad_md 0)), (3, .ref (ad_ot 1)), (4, .int y4)] → W p l e room_1 s m #[Value.ref b] below meth c H locs (cs + 1) (sl + 6) (lw_Z below #[Value.ref b] s) (F0 m 23 ls [])) : ∀ (ad_ht : Nat → Nat) (cA_ht : Nat → ClassId) (ad_rd : Nat → Nat) (cA_rd : Nat → ClassId) (ad_sp : Nat → Nat) (cA_sp : Nat → ClassId) (ad_mx : Nat → Nat) (cA_mx : Nat → ClassId) (ad_ar : Nat → Nat) (cA_ar : Nat → ClassId) (ad_tb : Nat → Nat) (cA_tb : Nat → ClassId) (ad_tc : Nat → Nat) (cA_tc : Nat → ClassId) (ad_ot : Nat → Nat) (cA_ot : Nat → ClassId) (ad_md : Nat → Nat) (cA_md : Nat → ClassId) (ht : SHT) (rd : SReader) (sp : SSpeller) (mx : SMixture) (ar : SSurroundings) (tb : STable) (tc : STable) (ot : SOut) (md : SModel) (y4 : Int32) (H : Heap) (locs : List Loc) (ls : Array Slot), f_Law_case_632 L xs k ht rd sp mx ar tb tc ot md y4 = some true → va_K (dC, dI) vwCl [(cA_ht 1, .int), (cA_rd 1, .int), (cA_sp 1, .int), (cA_sp 2, .int), (cA_sp 3, .int), (cA_sp 4, .int), (cA_mx 1, .int), (cA_mx 2, .int), (cA_mx 3, .boolean), (cA_ar 1, .int), (cA_ar 2, .int), (cA_ar 3, .int), (cA_tb 1, .int), (cA_tb 2, .int), (cA_tb 3, .int), (cA_tb 4, .byte), (cA_tc 1, .int), (cA_tc 2, .int), (cA_tc 3, .int), (cA_tc 4, .byte), (cA_ot 1, .long), (cA_md 1, .int), (cA_md 2, .int), (cA_md 3, .int), (cA_md 4, .int), (cA_md 5, .int), (cA_md 6, .int), (cA_md 7, .int), (cA_md 8, .int), (cA_md 9, .boolean), (cA_md 10, .int), (cA_md 11, .int), (cA_md 12, .int), (cA_md 13, .int)] s → va_P (dC, dI) vwCl (uw_HT ad_ht cA_ht (ad_rd 0) (ad_sp 0) (ad_mx 0) (ad_ar 0) (ad_tb 0) (ad_tc 0) ht ++ (uw_Reader ad_rd cA_rd rd ++ (uw_Speller ad_sp cA_sp sp ++ (uw_Mixture ad_mx cA_mx mx ++ (uw_Surroundings ad_ar cA_ar ar ++ (uw_Table ad_tb cA_tb tb ++ (uw_Table ad_tc cA_tc tc ++ (uw_Out ad_ot cA_ot ot ++ (uw_Model ad_md cA_md md))))))))) H → va_D A (uw_HT ad_ht cA_ht (ad_rd 0) (ad_sp 0) (ad_mx 0) (ad_ar 0) (ad_tb 0) (ad_tc 0) ht ++ (uw_Reader ad_rd cA_rd rd ++ (uw_Speller ad_sp cA_sp sp ++ (uw_Mixture ad_mx cA_mx mx ++ (uw_Surroundings ad_ar cA_ar ar ++ (uw_Table ad_tb cA_tb tb ++ (uw_Table ad_tc cA_tc tc ++ (uw_Out ad_ot cA_ot ot ++ (uw_Model ad_md cA_md md))))))))) → va_S A s.heap H locs → lv_has ls 7 [(0, .ref b), (1, .ref (ad_ht 0)), (2, .ref (ad_md 0)), (3, .ref (ad_ot 1)), (4, .int y4)] → W p l e room_1 s m #[Value.ref b] below meth c H locs cs sl (lw_Z below #[Value.ref b] s) (F0 m 632 ls []) := by
  obtain ⟨hx, hb, hr, hml, hown, hts0, hX0, hbl, hlocks, hgv⟩ := C0
  have hown : s.vm.findClass "HazardTablesLaw" = some m.cls := hown
  have hts : ∀ w ∈ (Cond.initialized "HazardTables" :: WA), w.before #[Value.ref b] s = true := fun w h => hts0 w ((List.mem_cons.mp h).elim (fun e => by rw [e]; exact (List.mem_filter.mp wd_43).1) (fun h => (List.mem_filter.mp h).1))
  have hbA : ¬ A b := fun h => absurd (hA2 b h) (Nat.not_le.mpr hbl)
  intro ad_ht cA_ht ad_rd cA_rd ad_sp cA_sp ad_mx cA_mx ad_ar cA_ar ad_tb cA_tb ad_tc cA_tc ad_ot cA_ot ad_md cA_md ht rd sp mx ar tb tc ot md y4 H locs ls hf hK hP hD hS hl
  unfold f_Law_case_632 at hf
  refine lv_aload_n hx hb d_Law_law_632 rfl (lv_at hl 1 rfl) ?_
  refine lv_aload_n hx hb d_Law_law_633 rfl (lv_at hl 0 rfl) ?_
  refine lv_iload hx hb d_Law_law_634 (lv_at hl 4 rfl) ?_
  refine lv_iconst (v := (1 : Int32)) hx hb d_Law_law_636 (by decide) ?_
  refine lv_iadd hx hb d_Law_law_637 ?_
  obtain ⟨hi1, hf⟩ := hf_g hf
  refine va_sld hx hb hX0 hbl hbA hS hi1 d_Law_law_638 ?_
  refine lv_aload_n hx hb d_Law_law_639 rfl (lv_at hl 0 rfl) ?_
  refine lv_iload hx hb d_Law_law_640 (lv_at hl 4 rfl) ?_
  refine lv_iconst (v := (2 : Int32)) hx hb d_Law_law_642 (by decide) ?_
  refine lv_iadd hx hb d_Law_law_643 ?_
  obtain ⟨hi2, hf⟩ := hf_g hf
  refine va_sld hx hb hX0 hbl hbA hS hi2 d_Law_law_644 ?_
  refine lv_aload_n hx hb d_Law_law_645 rfl (lv_at hl 3 rfl) ?_
  obtain ⟨u3, hu3, hf⟩ := Option.bind_eq_some_iff.mp hf
  refine cl_i (wc := (uw_HT ad_ht cA_ht (ad_rd 0) (ad_sp 0) (ad_mx 0) (ad_ar 0) (ad_tb 0) (ad_tc 0) ht ++ (uw_Out ad_ot cA_ot ot ++ (uw_Mixture ad_mx cA_mx mx ++ (uw_Surroundings ad_ar cA_ar ar ++ (uw_Table ad_tb cA_tb tb)))))) (wr := (uw_Reader ad_rd cA_rd rd ++ (uw_Speller ad_sp cA_sp sp ++ (uw_Table ad_tc cA_tc tc ++ (uw_Model ad_md cA_md md))))) (tysC := [(cA_ht 1, .int), (cA_ot 1, .long), (cA_mx 1, .int), (cA_mx 2, .int), (cA_mx 3, .boolean), (cA_ar 1, .int), (cA_ar 2, .int), (cA_ar 3, .int), (cA_tb 1, .int), (cA_tb 2, .int), (cA_tb 3, .int), (cA_tb 4, .byte)]) (wu := fun (u : SOut) => (uw_HT ad_ht cA_ht (ad_rd 0) (ad_sp 0) (ad_mx 0) (ad_ar 0) (ad_tb 0) (ad_tc 0) ht ++ (uw_Out ad_ot cA_ot u ++ (uw_Mixture ad_mx cA_mx mx ++ (uw_Surroundings ad_ar cA_ar ar ++ (uw_Table ad_tb cA_tb tb)))))) (wn := fun (u : SOut) => (uw_HT ad_ht cA_ht (ad_rd 0) (ad_sp 0) (ad_mx 0) (ad_ar 0) (ad_tb 0) (ad_tc 0) ht ++ (uw_Reader ad_rd cA_rd rd ++ (uw_Speller ad_sp cA_sp sp ++ (uw_Mixture ad_mx cA_mx mx ++ (uw_Surroundings ad_ar cA_ar ar ++ (uw_Table ad_tb cA_tb tb ++ (uw_Table ad_tc cA_tc tc ++ (uw_Out ad_ot cA_ot u ++ (uw_Model ad_md cA_md md)))))))))) [0, 1, 27, 9, 10, 11, 12, 13, 14, 15, 16, 17, 18, 19, 20, 21] [2, 3, 4, 5, 6, 7, 8, 22, 23, 24, 25, 26, 28, 29, 30, 31, 32, 33, 34, 35, 36, 37, 38, 39, 40, 41] [26, 27, 0, 1, 2, 3, 4, 5, 6, 29, 30, 31, 32, 33, 34, 35, 36, 37, 38, 39, 40, 41, 7, 8, 9, 10, 11, 28, 12, 13, 14, 15, 16, 17, 18, 19, 20, 21, 22, 23, 24, 25] [0, 20, 6, 7, 8, 9, 10, 11, 12, 13, 14, 15] hP hD hS hA hK rfl rfl (by decide +kernel) (by decide +kernel) (by decide +kernel) rfl (fun _ => rfl) (by decide +kernel) (fun hPc hKc hDc => (vx_runSW (As := [.ref (ad_ht 0), .int (xs (y4 + (1 : Int32)).toNatClampNeg), .int (xs (y4 + (2 : Int32)).toNatClampNeg), .ref (ad_ot 1)]) (rest := []) ⟨hx, hb, hml, hown, hts⟩ (k_Law_in l dC dI ad_ht cA_ht ad_ot cA_ot ad_mx cA_mx ad_ar cA_ar ad_tb cA_tb ad_rd cA_rd ad_sp cA_sp ad_tc cA_tc H.size ht ot mx ar tb (xs (y4 + (1 : Int32)).toNatClampNeg) (xs (y4 + (2 : Int32)).toNatClampNeg) u3 hu3 htr) (vx_cwSW 4 hts (gSW wd_705 wd_706 wd_42 wd_707) rfl rfl rfl (by decide +kernel) ⟨Nat.le_of_ble_eq_true rfl, Nat.le_of_ble_eq_true rfl⟩) (cx_preL hPc hKc hDc hN (fun U hU hW => xAll_at hX hS (va_free hD hS hA [0, 1, 27, 9, 10, 11, 12, 13, 14, 15, 16, 17, 18, 19, 20, 21] rfl) hU hW) hnc) rfl rfl hl.1 rfl (lv_room (Nat.le_of_ble_eq_true rfl)) d_Law_law_646 ⟨by show _ ≤ 1092; omega, by show _ ≤ 11944; omega⟩)) (fun r u H locs hw hP hD hS => ?_)
  obtain ⟨hw1, hw2⟩ := hw
  have hw1 := hw1.symm
  have hw2 := hw2.symm
  subst hw1
  subst hw2
  have hP : va_P (dC, dI) vwCl (uw_HT ad_ht cA_ht (ad_rd 0) (ad_sp 0) (ad_mx 0) (ad_ar 0) (ad_tb 0) (ad_tc 0) ht ++ (uw_Reader ad_rd cA_rd rd ++ (uw_Speller ad_sp cA_sp sp ++ (uw_Mixture ad_mx cA_mx mx ++ (uw_Surroundings ad_ar cA_ar ar ++ (uw_Table ad_tb cA_tb tb ++ (uw_Table ad_tc cA_tc tc ++ (uw_Out ad_ot cA_ot u3.2 ++ (uw_Model ad_md cA_md md))))))))) H := hP
  have hD : va_D A (uw_HT ad_ht cA_ht (ad_rd 0) (ad_sp 0) (ad_mx 0) (ad_ar 0) (ad_tb 0) (ad_tc 0) ht ++ (uw_Reader ad_rd cA_rd rd ++ (uw_Speller ad_sp cA_sp sp ++ (uw_Mixture ad_mx cA_mx mx ++ (uw_Surroundings ad_ar cA_ar ar ++ (uw_Table ad_tb cA_tb tb ++ (uw_Table ad_tc cA_tc tc ++ (uw_Out ad_ot cA_ot u3.2 ++ (uw_Model ad_md cA_md md))))))))) := hD
  refine lv_istore (lv' := [(5, .int u3.1), (0, .ref b), (1, .ref (ad_ht 0)), (2, .ref (ad_md 0)), (3, .ref (ad_ot 1)), (4, .int y4)]) hx hb d_Law_law_649 hl (by decide) rfl (fun ls hl => ?_)
  refine lv_aload_n hx hb d_Law_law_651 rfl (lv_at hl 3 rfl) ?_
  refine lv_aload_n hx hb d_Law_law_652 rfl (lv_at hl 1 rfl) ?_
  refine lv_iload hx hb d_Law_law_653 (lv_at hl 5 rfl) ?_
  refine lv_iconst (v := (1 : Int32)) hx hb d_Law_law_655 (by decide) ?_
  refine lv_iadd hx hb d_Law_law_656 ?_
  obtain ⟨hi4, hf⟩ := hf_g hf
  refine va_sld hx hb hX0 hbl hbA hS hi4 d_Law_law_657 ?_
  refine lv_aload_n hx hb d_Law_law_658 rfl (lv_at hl 1 rfl) ?_
  refine lv_iload hx hb d_Law_law_659 (lv_at hl 5 rfl) ?_
  refine lv_iconst (v := (2 : Int32)) hx hb d_Law_law_661 (by decide) ?_
  refine lv_iadd hx hb d_Law_law_662 ?_
  obtain ⟨hi5, hf⟩ := hf_g hf
  refine va_sld hx hb hX0 hbl hbA hS hi5 d_Law_law_663 ?_
  obtain ⟨u6, hu6, hf⟩ := Option.bind_eq_some_iff.mp hf
  refine cl_i (wc := (uw_Model ad_md cA_md md)) (wr := (uw_HT ad_ht cA_ht (ad_rd 0) (ad_sp 0) (ad_mx 0) (ad_ar 0) (ad_tb 0) (ad_tc 0) ht ++ (uw_Reader ad_rd cA_rd rd ++ (uw_Speller ad_sp cA_sp sp ++ (uw_Mixture ad_mx cA_mx mx ++ (uw_Surroundings ad_ar cA_ar ar ++ (uw_Table ad_tb cA_tb tb ++ (uw_Table ad_tc cA_tc tc ++ (uw_Out ad_ot cA_ot u3.2))))))))) (tysC := [(cA_md 1, .int), (cA_md 2, .int), (cA_md 3, .int), (cA_md 4, .int), (cA_md 5, .int), (cA_md 6, .int), (cA_md 7, .int), (cA_md 8, .int), (cA_md 9, .boolean), (cA_md 10, .int), (cA_md 11, .int), (cA_md 12, .int), (cA_md 13, .int)]) (wu := fun (u : SModel) => (uw_Model ad_md cA_md u)) (wn := fun (u : SModel) => (uw_HT ad_ht cA_ht (ad_rd 0) (ad_sp 0) (ad_mx 0) (ad_ar 0) (ad_tb 0) (ad_tc 0) ht ++ (uw_Reader ad_rd cA_rd rd ++ (uw_Speller ad_sp cA_sp sp ++ (uw_Mixture ad_mx cA_mx mx ++ (uw_Surroundings ad_ar cA_ar ar ++ (uw_Table ad_tb cA_tb tb ++ (uw_Table ad_tc cA_tc tc ++ (uw_Out ad_ot cA_ot u3.2 ++ (uw_Model ad_md cA_md u)))))))))) [28, 29, 30, 31, 32, 33, 34, 35, 36, 37, 38, 39, 40, 41] [0, 1, 2, 3, 4, 5, 6, 7, 8, 9, 10, 11, 12, 13, 14, 15, 16, 17, 18, 19, 20, 21, 22, 23, 24, 25, 26, 27] [0, 1, 2, 3, 4, 5, 6, 7, 8, 9, 10, 11, 12, 13, 14, 15, 16, 17, 18, 19, 20, 21, 22, 23, 24, 25, 26, 27, 28, 29, 30, 31, 32, 33, 34, 35, 36, 37, 38, 39, 40, 41] [21, 22, 23, 24, 25, 26, 27, 28, 29, 30, 31, 32, 33] hP hD hS hA hK rfl rfl (by decide +kernel) (by decide +kernel) (by decide +kernel) rfl (fun _ => rfl) (by decide +kernel) (fun hPc hKc hDc => (va_runV (As := [.int (xs (y4 + (1 : Int32)).toNatClampNeg), .int (xs (y4 + (2 : Int32)).toNatClampNeg)]) (rest := []) ⟨hx, hb, hml, hown, hts⟩ (k_Model_in l dC dI ad_md cA_md H.size md (xs (y4 + (1 : Int32)).toNatClampNeg) (xs (y4 + (2 : Int32)).toNatClampNeg) u6 hu6) (cwV 2 hts (gV wd_987 wd_988 wd_989 wd_49 wd_990) rfl rfl rfl (by decide +kernel) ⟨Nat.le_of_ble_eq_true rfl, Nat.le_of_ble_eq_true rfl⟩) (cl_preV hPc hKc hDc hN (ci := 6) 0 rfl rfl) rfl rfl hl.1 rfl (lv_room (Nat.le_of_ble_eq_true rfl)) d_Law_law_664 ⟨by show _ ≤ 1092; omega, by show _ ≤ 11944; omega⟩)) (fun r u H locs hw hP hD hS => ?_)
  obtain ⟨hw1, hw2⟩ := hw
  have hw1 := hw1.symm
  have hw2 := hw2.symm
  subst hw1
  subst hw2
  have hP : va_P (dC, dI) vwCl (uw_HT ad_ht cA_ht (ad_rd 0) (ad_sp 0) (ad_mx 0) (ad_ar 0) (ad_tb 0) (ad_tc 0) ht ++ (uw_Reader ad_rd cA_rd rd ++ (uw_Speller ad_sp cA_sp sp ++ (uw_Mixture ad_mx cA_mx mx ++ (uw_Surroundings ad_ar cA_ar ar ++ (uw_Table ad_tb cA_tb tb ++ (uw_Table ad_tc cA_tc tc ++ (uw_Out ad_ot cA_ot u3.2 ++ (uw_Model ad_md cA_md u6.2))))))))) H := hP
  have hD : va_D A (uw_HT ad_ht cA_ht (ad_rd 0) (ad_sp 0) (ad_mx 0) (ad_ar 0) (ad_tb 0) (ad_tc 0) ht ++ (uw_Reader ad_rd cA_rd rd ++ (uw_Speller ad_sp cA_sp sp ++ (uw_Mixture ad_mx cA_mx mx ++ (uw_Surroundings ad_ar cA_ar ar ++ (uw_Table ad_tb cA_tb tb ++ (uw_Table ad_tc cA_tc tc ++ (uw_Out ad_ot cA_ot u3.2 ++ (uw_Model ad_md cA_md u6.2))))))))) := hD
  refine lv_istore (lv' := [(6, .int (bI u6.1)), (5, .int u3.1), (0, .ref b), (1, .ref (ad_ht 0)), (2, .ref (ad_md 0)), (3, .ref (ad_ot 1)), (4, .int y4)]) hx hb d_Law_law_667 hl (by decide) rfl (fun ls hl => ?_)
  refine lv_goto (tgt := 777) hx hb d_Law_law_669 (by decide) ?_
  refine lv_iinc (v := y4 + (4 : Int32)) (lv' := [(4, .int (y4 + (4 : Int32))), (6, .int (bI u6.1)), (5, .int u3.1), (0, .ref b), (1, .ref (ad_ht 0)), (2, .ref (ad_md 0)), (3, .ref (ad_ot 1))]) hx hb d_Law_law_777 hl (k := 6) rfl rfl (by decide) rfl (fun ls hl => ?_)
  refine lv_goto (tgt := 23) hx hb d_Law_law_780 (by decide) ?_
  refine W.widen (k := cs + 1) (n := sl + 6) (by omega) (by omega) ?_
  exact hk ad_ht cA_ht ad_rd cA_rd ad_sp cA_sp ad_mx cA_mx ad_ar cA_ar ad_tb cA_tb ad_tc cA_tc ad_ot cA_ot ad_md cA_md ht rd sp mx ar tb tc u3.2 u6.2 (y4 + (4 : Int32)) H locs ls hf hK hP hD hS (lv_sub hl [3, 4, 5, 6, 0] rfl)
noncomputable def f_Law_case_672 (L : Nat) (xs : Nat → Int32) (k : SHT → SReader → SSpeller → SMixture → SSurroundings → STable → STable → SOut → SModel → Int32 → Option Bool) (ht : SHT) (rd : SReader) (sp : SSpeller) (mx : SMixture) (ar : SSurroundings) (tb : STable) (tc : STable) (ot : SOut) (md : SModel) (y4 : Int32) : Option Bool :=
  (if inb (y4 + (1 : Int32)) L then
    (Option.bind (f_Law_step ht ot mx tb (xs (y4 + (1 : Int32)).toNatClampNeg)) fun u2 =>
      (if inb (y4 + (1 : Int32)) L then
        (Option.bind (f_Model_step md (xs (y4 + (1 : Int32)).toNatClampNeg)) fun u4 =>
          (k ht rd sp u2.2.2 ar tb tc u2.2.1 u4.2 (y4 + (4 : Int32)))
         )
       else none)
     )
   else none)
set_option maxHeartbeats 4000000 in
set_option maxRecDepth 100000 in
theorem k_Law_case_672 {p : Program} {l : Launch} {e : Env} {s : State} {m : MethodId} {below : List Frame} {meth : Method} {c : Code} {dC : Nat → ClassId} {dI : Nat → Nat → Nat} {b L : Nat} {xs : Nat → Int32} {A : Nat → Prop} (htr : l.stackTraces = false) (C0 : lw_At p s m meth c b L xs) (hN : nwAll s) (hX : xAll A s) (hnc : ncAll s) (hA : ∀ q : Nat, s.heap.size ≤ q → A q) (hA2 : ∀ q : Nat, A q → s.heap.size ≤ q) (cs sl : Nat) (hcs : cs + 1 ≤ 1092) (hsl : sl + 6 ≤ 11944) (k : SHT → SReader → SSpeller → SMixture → SSurroundings → STable → STable → SOut → SModel → Int32 → Option Bool) (hk : ∀ (ad_ht : Nat → Nat) (cA_ht : Nat → ClassId) (ad_rd : Nat → Nat) (cA_rd : Nat → ClassId) (ad_sp : Nat → Nat) (cA_sp : Nat → ClassId) (ad_mx : Nat → Nat) (cA_mx : Nat → ClassId) (ad_ar : Nat → Nat) (cA_ar : Nat → ClassId) (ad_tb : Nat → Nat) (cA_tb : Nat → ClassId) (ad_tc : Nat → Nat) (cA_tc : Nat → ClassId) (ad_ot : Nat → Nat) (cA_ot : Nat → ClassId) (ad_md : Nat → Nat) (cA_md : Nat → ClassId) (ht : SHT) (rd : SReader) (sp : SSpeller) (mx : SMixture) (ar : SSurroundings) (tb : STable) (tc : STable) (ot : SOut) (md : SModel) (y4 : Int32) (H : Heap) (locs : List Loc) (ls : Array Slot), k ht rd sp mx ar tb tc ot md y4 = some true → va_K (dC, dI) vwCl [(cA_ht 1, .int), (cA_rd 1, .int), (cA_sp 1, .int), (cA_sp 2, .int), (cA_sp 3, .int), (cA_sp 4, .int), (cA_mx 1, .int), (cA_mx 2, .int), (cA_mx 3, .boolean), (cA_ar 1, .int), (cA_ar 2, .int), (cA_ar 3, .int), (cA_tb 1, .int), (cA_tb 2, .int), (cA_tb 3, .int), (cA_tb 4, .byte), (cA_tc 1, .int), (cA_tc 2, .int), (cA_tc 3, .int), (cA_tc 4, .byte), (cA_ot 1, .long), (cA_md 1, .int), (cA_md 2, .int), (cA_md 3, .int), (cA_md 4, .int), (cA_md 5, .int), (cA_md 6, .int), (cA_md 7, .int), (cA_md 8, .int), (cA_md 9, .boolean), (cA_md 10, .int), (cA_md 11, .int), (cA_md 12, .int), (cA_md 13, .int)] s → va_P (dC, dI) vwCl (uw_HT ad_ht cA_ht (ad_rd 0) (ad_sp 0) (ad_mx 0) (ad_ar 0) (ad_tb 0) (ad_tc 0) ht ++ (uw_Reader ad_rd cA_rd rd ++ (uw_Speller ad_sp cA_sp sp ++ (uw_Mixture ad_mx cA_mx mx ++ (uw_Surroundings ad_ar cA_ar ar ++ (uw_Table ad_tb cA_tb tb ++ (uw_Table ad_tc cA_tc tc ++ (uw_Out ad_ot cA_ot ot ++ (uw_Model ad_md cA_md md))))))))) H → va_D A (uw_HT ad_ht cA_ht (ad_rd 0) (ad_sp 0) (ad_mx 0) (ad_ar 0) (ad_tb 0) (ad_tc 0) ht ++ (uw_Reader ad_rd cA_rd rd ++ (uw_Speller ad_sp cA_sp sp ++ (uw_Mixture ad_mx cA_mx mx ++ (uw_Surroundings ad_ar cA_ar ar ++ (uw_Table ad_tb cA_tb tb ++ (uw_Table ad_tc cA_tc tc ++ (uw_Out ad_ot cA_ot ot ++ (uw_Model ad_md cA_md md))))))))) → va_S A s.heap H locs → lv_has ls 7 [(0, .ref b), (1, .ref (ad_ht 0)), (2, .ref (ad_md 0)), (3, .ref (ad_ot 1)), (4, .int y4)] → W p l e room_1 s m #[Value.ref b] below meth c H locs (cs + 1) (sl + 6) (lw_Z below #[Value.ref b] s) (F0 m 23 ls [])) : ∀ (ad_ht : Nat → Nat) (cA_ht : Nat → ClassId) (ad_rd : Nat → Nat) (cA_rd : Nat → ClassId) (ad_sp : Nat → Nat) (cA_sp : Nat → ClassId) (ad_mx : Nat → Nat) (cA_mx : Nat → ClassId) (ad_ar : Nat → Nat) (cA_ar : Nat → ClassId) (ad_tb : Nat → Nat) (cA_tb : Nat → ClassId) (ad_tc : Nat → Nat) (cA_tc : Nat → ClassId) (ad_ot : Nat → Nat) (cA_ot : Nat → ClassId) (ad_md : Nat → Nat) (cA_md : Nat → ClassId) (ht : SHT) (rd : SReader) (sp : SSpeller) (mx : SMixture) (ar : SSurroundings) (tb : STable) (tc : STable) (ot : SOut) (md : SModel) (y4 : Int32) (H : Heap) (locs : List Loc) (ls : Array Slot), f_Law_case_672 L xs k ht rd sp mx ar tb tc ot md y4 = some true → va_K (dC, dI) vwCl [(cA_ht 1, .int), (cA_rd 1, .int), (cA_sp 1, .int), (cA_sp 2, .int), (cA_sp 3, .int), (cA_sp 4, .int), (cA_mx 1, .int), (cA_mx 2, .int), (cA_mx 3, .boolean), (cA_ar 1, .int), (cA_ar 2, .int), (cA_ar 3, .int), (cA_tb 1, .int), (cA_tb 2, .int), (cA_tb 3, .int), (cA_tb 4, .byte), (cA_tc 1, .int), (cA_tc 2, .int), (cA_tc 3, .int), (cA_tc 4, .byte), (cA_ot 1, .long), (cA_md 1, .int), (cA_md 2, .int), (cA_md 3, .int), (cA_md 4, .int), (cA_md 5, .int), (cA_md 6, .int), (cA_md 7, .int), (cA_md 8, .int), (cA_md 9, .boolean), (cA_md 10, .int), (cA_md 11, .int), (cA_md 12, .int), (cA_md 13, .int)] s → va_P (dC, dI) vwCl (uw_HT ad_ht cA_ht (ad_rd 0) (ad_sp 0) (ad_mx 0) (ad_ar 0) (ad_tb 0) (ad_tc 0) ht ++ (uw_Reader ad_rd cA_rd rd ++ (uw_Speller ad_sp cA_sp sp ++ (uw_Mixture ad_mx cA_mx mx ++ (uw_Surroundings ad_ar cA_ar ar ++ (uw_Table ad_tb cA_tb tb ++ (uw_Table ad_tc cA_tc tc ++ (uw_Out ad_ot cA_ot ot ++ (uw_Model ad_md cA_md md))))))))) H → va_D A (uw_HT ad_ht cA_ht (ad_rd 0) (ad_sp 0) (ad_mx 0) (ad_ar 0) (ad_tb 0) (ad_tc 0) ht ++ (uw_Reader ad_rd cA_rd rd ++ (uw_Speller ad_sp cA_sp sp ++ (uw_Mixture ad_mx cA_mx mx ++ (uw_Surroundings ad_ar cA_ar ar ++ (uw_Table ad_tb cA_tb tb ++ (uw_Table ad_tc cA_tc tc ++ (uw_Out ad_ot cA_ot ot ++ (uw_Model ad_md cA_md md))))))))) → va_S A s.heap H locs → lv_has ls 7 [(0, .ref b), (1, .ref (ad_ht 0)), (2, .ref (ad_md 0)), (3, .ref (ad_ot 1)), (4, .int y4)] → W p l e room_1 s m #[Value.ref b] below meth c H locs cs sl (lw_Z below #[Value.ref b] s) (F0 m 672 ls []) := by
  obtain ⟨hx, hb, hr, hml, hown, hts0, hX0, hbl, hlocks, hgv⟩ := C0
  have hown : s.vm.findClass "HazardTablesLaw" = some m.cls := hown
  have hts : ∀ w ∈ (Cond.initialized "HazardTables" :: WA), w.before #[Value.ref b] s = true := fun w h => hts0 w ((List.mem_cons.mp h).elim (fun e => by rw [e]; exact (List.mem_filter.mp wd_43).1) (fun h => (List.mem_filter.mp h).1))
  have hbA : ¬ A b := fun h => absurd (hA2 b h) (Nat.not_le.mpr hbl)
  intro ad_ht cA_ht ad_rd cA_rd ad_sp cA_sp ad_mx cA_mx ad_ar cA_ar ad_tb cA_tb ad_tc cA_tc ad_ot cA_ot ad_md cA_md ht rd sp mx ar tb tc ot md y4 H locs ls hf hK hP hD hS hl
  unfold f_Law_case_672 at hf
  refine lv_aload_n hx hb d_Law_law_672 rfl (lv_at hl 1 rfl) ?_
  refine lv_aload_n hx hb d_Law_law_673 rfl (lv_at hl 0 rfl) ?_
  refine lv_iload hx hb d_Law_law_674 (lv_at hl 4 rfl) ?_
  refine lv_iconst (v := (1 : Int32)) hx hb d_Law_law_676 (by decide) ?_
  refine lv_iadd hx hb d_Law_law_677 ?_
  obtain ⟨hi1, hf⟩ := hf_g hf
  refine va_sld hx hb hX0 hbl hbA hS hi1 d_Law_law_678 ?_
  refine lv_aload_n hx hb d_Law_law_679 rfl (lv_at hl 3 rfl) ?_
  obtain ⟨u2, hu2, hf⟩ := Option.bind_eq_some_iff.mp hf
  refine cl_i (wc := (uw_HT ad_ht cA_ht (ad_rd 0) (ad_sp 0) (ad_mx 0) (ad_ar 0) (ad_tb 0) (ad_tc 0) ht ++ (uw_Out ad_ot cA_ot ot ++ (uw_Mixture ad_mx cA_mx mx ++ (uw_Table ad_tb cA_tb tb))))) (wr := (uw_Reader ad_rd cA_rd rd ++ (uw_Speller ad_sp cA_sp sp ++ (uw_Surroundings ad_ar cA_ar ar ++ (uw_Table ad_tc cA_tc tc ++ (uw_Model ad_md cA_md md)))))) (tysC := [(cA_ht 1, .int), (cA_ot 1, .long), (cA_mx 1, .int), (cA_mx 2, .int), (cA_mx 3, .boolean), (cA_tb 1, .int), (cA_tb 2, .int), (cA_tb 3, .int), (cA_tb 4, .byte)]) (wu := fun (u : SOut × SMixture) => (uw_HT ad_ht cA_ht (ad_rd 0) (ad_sp 0) (ad_mx 0) (ad_ar 0) (ad_tb 0) (ad_tc 0) ht ++ (uw_Out ad_ot cA_ot u.1 ++ (uw_Mixture ad_mx cA_mx u.2 ++ (uw_Table ad_tb cA_tb tb))))) (wn := fun (u : SOut × SMixture) => (uw_HT ad_ht cA_ht (ad_rd 0) (ad_sp 0) (ad_mx 0) (ad_ar 0) (ad_tb 0) (ad_tc 0) ht ++ (uw_Reader ad_rd cA_rd rd ++ (uw_Speller ad_sp cA_sp sp ++ (uw_Mixture ad_mx cA_mx u.2 ++ (uw_Surroundings ad_ar cA_ar ar ++ (uw_Table ad_tb cA_tb tb ++ (uw_Table ad_tc cA_tc tc ++ (uw_Out ad_ot cA_ot u.1 ++ (uw_Model ad_md cA_md md)))))))))) [0, 1, 27, 9, 10, 11, 12, 17, 18, 19, 20, 21] [2, 3, 4, 5, 6, 7, 8, 13, 14, 15, 16, 22, 23, 24, 25, 26, 28, 29, 30, 31, 32, 33, 34, 35, 36, 37, 38, 39, 40, 41] [30, 31, 0, 1, 2, 3, 4, 5, 6, 33, 34, 35, 36, 7, 8, 9, 10, 37, 38, 39, 40, 41, 11, 12, 13, 14, 15, 32, 16, 17, 18, 19, 20, 21, 22, 23, 24, 25, 26, 27, 28, 29] [0, 20, 6, 7, 8, 12, 13, 14, 15] hP hD hS hA hK rfl rfl (by decide +kernel) (by decide +kernel) (by decide +kernel) rfl (fun _ => rfl) (by decide +kernel) (fun hPc hKc hDc => (vx_runSW (As := [.ref (ad_ht 0), .int (xs (y4 + (1 : Int32)).toNatClampNeg), .ref (ad_ot 1)]) (rest := []) ⟨hx, hb, hml, hown, hts⟩ (k_Law_step l dC dI ad_ht cA_ht ad_ot cA_ot ad_mx cA_mx ad_tb cA_tb ad_rd cA_rd ad_sp cA_sp ad_ar cA_ar ad_tc cA_tc H.size ht ot mx tb (xs (y4 + (1 : Int32)).toNatClampNeg) u2 hu2 htr) (vx_cwSW 3 hts (gSW wd_713 wd_714 wd_42 wd_715) rfl rfl rfl (by decide +kernel) ⟨Nat.le_of_ble_eq_true rfl, Nat.le_of_ble_eq_true rfl⟩) (cx_preL hPc hKc hDc hN (fun U hU hW => xAll_at hX hS (va_free hD hS hA [0, 1, 27, 9, 10, 11, 12, 17, 18, 19, 20, 21] rfl) hU hW) hnc) rfl rfl hl.1 rfl (lv_room (Nat.le_of_ble_eq_true rfl)) d_Law_law_680 ⟨by show _ ≤ 1092; omega, by show _ ≤ 11944; omega⟩)) (fun r u H locs hw hP hD hS => ?_)
  obtain ⟨hw1, hw2⟩ := hw
  have hw1 := hw1.symm
  have hw2 := hw2.symm
  subst hw1
  subst hw2
  have hP : va_P (dC, dI) vwCl (uw_HT ad_ht cA_ht (ad_rd 0) (ad_sp 0) (ad_mx 0) (ad_ar 0) (ad_tb 0) (ad_tc 0) ht ++ (uw_Reader ad_rd cA_rd rd ++ (uw_Speller ad_sp cA_sp sp ++ (uw_Mixture ad_mx cA_mx u2.2.2 ++ (uw_Surroundings ad_ar cA_ar ar ++ (uw_Table ad_tb cA_tb tb ++ (uw_Table ad_tc cA_tc tc ++ (uw_Out ad_ot cA_ot u2.2.1 ++ (uw_Model ad_md cA_md md))))))))) H := hP
  have hD : va_D A (uw_HT ad_ht cA_ht (ad_rd 0) (ad_sp 0) (ad_mx 0) (ad_ar 0) (ad_tb 0) (ad_tc 0) ht ++ (uw_Reader ad_rd cA_rd rd ++ (uw_Speller ad_sp cA_sp sp ++ (uw_Mixture ad_mx cA_mx u2.2.2 ++ (uw_Surroundings ad_ar cA_ar ar ++ (uw_Table ad_tb cA_tb tb ++ (uw_Table ad_tc cA_tc tc ++ (uw_Out ad_ot cA_ot u2.2.1 ++ (uw_Model ad_md cA_md md))))))))) := hD
  refine lv_istore (lv' := [(5, .int u2.1), (0, .ref b), (1, .ref (ad_ht 0)), (2, .ref (ad_md 0)), (3, .ref (ad_ot 1)), (4, .int y4)]) hx hb d_Law_law_683 hl (by decide) rfl (fun ls hl => ?_)
  refine lv_aload_n hx hb d_Law_law_685 rfl (lv_at hl 3 rfl) ?_
  refine lv_aload_n hx hb d_Law_law_686 rfl (lv_at hl 1 rfl) ?_
  refine lv_iload hx hb d_Law_law_687 (lv_at hl 5 rfl) ?_
  refine lv_iconst (v := (1 : Int32)) hx hb d_Law_law_689 (by decide) ?_
  refine lv_iadd hx hb d_Law_law_690 ?_
  obtain ⟨hi3, hf⟩ := hf_g hf
  refine va_sld hx hb hX0 hbl hbA hS hi3 d_Law_law_691 ?_
  obtain ⟨u4, hu4, hf⟩ := Option.bind_eq_some_iff.mp hf
  refine cl_i (wc := (uw_Model ad_md cA_md md)) (wr := (uw_HT ad_ht cA_ht (ad_rd 0) (ad_sp 0) (ad_mx 0) (ad_ar 0) (ad_tb 0) (ad_tc 0) ht ++ (uw_Reader ad_rd cA_rd rd ++ (uw_Speller ad_sp cA_sp sp ++ (uw_Mixture ad_mx cA_mx u2.2.2 ++ (uw_Surroundings ad_ar cA_ar ar ++ (uw_Table ad_tb cA_tb tb ++ (uw_Table ad_tc cA_tc tc ++ (uw_Out ad_ot cA_ot u2.2.1))))))))) (tysC := [(cA_md 1, .int), (cA_md 2, .int), (cA_md 3, .int), (cA_md 4, .int), (cA_md 5, .int), (cA_md 6, .int), (cA_md 7, .int), (cA_md 8, .int), (cA_md 9, .boolean), (cA_md 10, .int), (cA_md 11, .int), (cA_md 12, .int), (cA_md 13, .int)]) (wu := fun (u : SModel) => (uw_Model ad_md cA_md u)) (wn := fun (u : SModel) => (uw_HT ad_ht cA_ht (ad_rd 0) (ad_sp 0) (ad_mx 0) (ad_ar 0) (ad_tb 0) (ad_tc 0) ht ++ (uw_Reader ad_rd cA_rd rd ++ (uw_Speller ad_sp cA_sp sp ++ (uw_Mixture ad_mx cA_mx u2.2.2 ++ (uw_Surroundings ad_ar cA_ar ar ++ (uw_Table ad_tb cA_tb tb ++ (uw_Table ad_tc cA_tc tc ++ (uw_Out ad_ot cA_ot u2.2.1 ++ (uw_Model ad_md cA_md u)))))))))) [28, 29, 30, 31, 32, 33, 34, 35, 36, 37, 38, 39, 40, 41] [0, 1, 2, 3, 4, 5, 6, 7, 8, 9, 10, 11, 12, 13, 14, 15, 16, 17, 18, 19, 20, 21, 22, 23, 24, 25, 26, 27] [0, 1, 2, 3, 4, 5, 6, 7, 8, 9, 10, 11, 12, 13, 14, 15, 16, 17, 18, 19, 20, 21, 22, 23, 24, 25, 26, 27, 28, 29, 30, 31, 32, 33, 34, 35, 36, 37, 38, 39, 40, 41] [21, 22, 23, 24, 25, 26, 27, 28, 29, 30, 31, 32, 33] hP hD hS hA hK rfl rfl (by decide +kernel) (by decide +kernel) (by decide +kernel) rfl (fun _ => rfl) (by decide +kernel) (fun hPc hKc hDc => (va_runV (As := [.int (xs (y4 + (1 : Int32)).toNatClampNeg)]) (rest := []) ⟨hx, hb, hml, hown, hts⟩ (k_Model_step l dC dI ad_md cA_md H.size md (xs (y4 + (1 : Int32)).toNatClampNeg) u4 hu4) (cwV 1 hts (gV wd_991 wd_992 wd_993 wd_49 wd_994) rfl rfl rfl (by decide +kernel) ⟨Nat.le_of_ble_eq_true rfl, Nat.le_of_ble_eq_true rfl⟩) (cl_preV hPc hKc hDc hN (ci := 6) 0 rfl rfl) rfl rfl hl.1 rfl (lv_room (Nat.le_of_ble_eq_true rfl)) d_Law_law_692 ⟨by show _ ≤ 1092; omega, by show _ ≤ 11944; omega⟩)) (fun r u H locs hw hP hD hS => ?_)
  obtain ⟨hw1, hw2⟩ := hw
  have hw1 := hw1.symm
  have hw2 := hw2.symm
  subst hw1
  subst hw2
  have hP : va_P (dC, dI) vwCl (uw_HT ad_ht cA_ht (ad_rd 0) (ad_sp 0) (ad_mx 0) (ad_ar 0) (ad_tb 0) (ad_tc 0) ht ++ (uw_Reader ad_rd cA_rd rd ++ (uw_Speller ad_sp cA_sp sp ++ (uw_Mixture ad_mx cA_mx u2.2.2 ++ (uw_Surroundings ad_ar cA_ar ar ++ (uw_Table ad_tb cA_tb tb ++ (uw_Table ad_tc cA_tc tc ++ (uw_Out ad_ot cA_ot u2.2.1 ++ (uw_Model ad_md cA_md u4.2))))))))) H := hP
  have hD : va_D A (uw_HT ad_ht cA_ht (ad_rd 0) (ad_sp 0) (ad_mx 0) (ad_ar 0) (ad_tb 0) (ad_tc 0) ht ++ (uw_Reader ad_rd cA_rd rd ++ (uw_Speller ad_sp cA_sp sp ++ (uw_Mixture ad_mx cA_mx u2.2.2 ++ (uw_Surroundings ad_ar cA_ar ar ++ (uw_Table ad_tb cA_tb tb ++ (uw_Table ad_tc cA_tc tc ++ (uw_Out ad_ot cA_ot u2.2.1 ++ (uw_Model ad_md cA_md u4.2))))))))) := hD
  refine lv_istore (lv' := [(6, .int u4.1), (5, .int u2.1), (0, .ref b), (1, .ref (ad_ht 0)), (2, .ref (ad_md 0)), (3, .ref (ad_ot 1)), (4, .int y4)]) hx hb d_Law_law_695 hl (by decide) rfl (fun ls hl => ?_)
  refine lv_goto (tgt := 777) hx hb d_Law_law_697 (by decide) ?_
  refine lv_iinc (v := y4 + (4 : Int32)) (lv' := [(4, .int (y4 + (4 : Int32))), (6, .int u4.1), (5, .int u2.1), (0, .ref b), (1, .ref (ad_ht 0)), (2, .ref (ad_md 0)), (3, .ref (ad_ot 1))]) hx hb d_Law_law_777 hl (k := 6) rfl rfl (by decide) rfl (fun ls hl => ?_)
  refine lv_goto (tgt := 23) hx hb d_Law_law_780 (by decide) ?_
  refine W.widen (k := cs + 1) (n := sl + 6) (by omega) (by omega) ?_
  exact hk ad_ht cA_ht ad_rd cA_rd ad_sp cA_sp ad_mx cA_mx ad_ar cA_ar ad_tb cA_tb ad_tc cA_tc ad_ot cA_ot ad_md cA_md ht rd sp u2.2.2 ar tb tc u2.2.1 u4.2 (y4 + (4 : Int32)) H locs ls hf hK hP hD hS (lv_sub hl [3, 4, 5, 6, 0] rfl)
noncomputable def f_Law_case_700 (L : Nat) (xs : Nat → Int32) (k : SHT → SReader → SSpeller → SMixture → SSurroundings → STable → STable → SOut → SModel → Int32 → Option Bool) (ht : SHT) (rd : SReader) (sp : SSpeller) (mx : SMixture) (ar : SSurroundings) (tb : STable) (tc : STable) (ot : SOut) (md : SModel) (y4 : Int32) : Option Bool :=
  (if inb (y4 + (1 : Int32)) L then
    (if inb (y4 + (2 : Int32)) L then
      (Option.bind (f_Law_mark ht (xs (y4 + (1 : Int32)).toNatClampNeg) (xs (y4 + (2 : Int32)).toNatClampNeg)) fun u3 =>
        (if inb (y4 + (1 : Int32)) L then
          (if inb (y4 + (2 : Int32)) L then
            (Option.bind (f_Model_mark md (xs (y4 + (1 : Int32)).toNatClampNeg) (xs (y4 + (2 : Int32)).toNatClampNeg)) fun u6 =>
              (k u3.2 rd sp mx ar tb tc ot u6 (y4 + (4 : Int32)))
             )
           else none)
         else none)
       )
     else none)
   else none)
set_option maxHeartbeats 4000000 in
set_option maxRecDepth 100000 in
theorem k_Law_case_700 {p : Program} {l : Launch} {e : Env} {s : State} {m : MethodId} {below : List Frame} {meth : Method} {c : Code} {dC : Nat → ClassId} {dI : Nat → Nat → Nat} {b L : Nat} {xs : Nat → Int32} {A : Nat → Prop} (htr : l.stackTraces = false) (C0 : lw_At p s m meth c b L xs) (hN : nwAll s) (hX : xAll A s) (hnc : ncAll s) (hA : ∀ q : Nat, s.heap.size ≤ q → A q) (hA2 : ∀ q : Nat, A q → s.heap.size ≤ q) (cs sl : Nat) (hcs : cs + 1 ≤ 1092) (hsl : sl + 6 ≤ 11944) (k : SHT → SReader → SSpeller → SMixture → SSurroundings → STable → STable → SOut → SModel → Int32 → Option Bool) (hk : ∀ (ad_ht : Nat → Nat) (cA_ht : Nat → ClassId) (ad_rd : Nat → Nat) (cA_rd : Nat → ClassId) (ad_sp : Nat → Nat) (cA_sp : Nat → ClassId) (ad_mx : Nat → Nat) (cA_mx : Nat → ClassId) (ad_ar : Nat → Nat) (cA_ar : Nat → ClassId) (ad_tb : Nat → Nat) (cA_tb : Nat → ClassId) (ad_tc : Nat → Nat) (cA_tc : Nat → ClassId) (ad_ot : Nat → Nat) (cA_ot : Nat → ClassId) (ad_md : Nat → Nat) (cA_md : Nat → ClassId) (ht : SHT) (rd : SReader) (sp : SSpeller) (mx : SMixture) (ar : SSurroundings) (tb : STable) (tc : STable) (ot : SOut) (md : SModel) (y4 : Int32) (H : Heap) (locs : List Loc) (ls : Array Slot), k ht rd sp mx ar tb tc ot md y4 = some true → va_K (dC, dI) vwCl [(cA_ht 1, .int), (cA_rd 1, .int), (cA_sp 1, .int), (cA_sp 2, .int), (cA_sp 3, .int), (cA_sp 4, .int), (cA_mx 1, .int), (cA_mx 2, .int), (cA_mx 3, .boolean), (cA_ar 1, .int), (cA_ar 2, .int), (cA_ar 3, .int), (cA_tb 1, .int), (cA_tb 2, .int), (cA_tb 3, .int), (cA_tb 4, .byte), (cA_tc 1, .int), (cA_tc 2, .int), (cA_tc 3, .int), (cA_tc 4, .byte), (cA_ot 1, .long), (cA_md 1, .int), (cA_md 2, .int), (cA_md 3, .int), (cA_md 4, .int), (cA_md 5, .int), (cA_md 6, .int), (cA_md 7, .int), (cA_md 8, .int), (cA_md 9, .boolean), (cA_md 10, .int), (cA_md 11, .int), (cA_md 12, .int), (cA_md 13, .int)] s → va_P (dC, dI) vwCl (uw_HT ad_ht cA_ht (ad_rd 0) (ad_sp 0) (ad_mx 0) (ad_ar 0) (ad_tb 0) (ad_tc 0) ht ++ (uw_Reader ad_rd cA_rd rd ++ (uw_Speller ad_sp cA_sp sp ++ (uw_Mixture ad_mx cA_mx mx ++ (uw_Surroundings ad_ar cA_ar ar ++ (uw_Table ad_tb cA_tb tb ++ (uw_Table ad_tc cA_tc tc ++ (uw_Out ad_ot cA_ot ot ++ (uw_Model ad_md cA_md md))))))))) H → va_D A (uw_HT ad_ht cA_ht (ad_rd 0) (ad_sp 0) (ad_mx 0) (ad_ar 0) (ad_tb 0) (ad_tc 0) ht ++ (uw_Reader ad_rd cA_rd rd ++ (uw_Speller ad_sp cA_sp sp ++ (uw_Mixture ad_mx cA_mx mx ++ (uw_Surroundings ad_ar cA_ar ar ++ (uw_Table ad_tb cA_tb tb ++ (uw_Table ad_tc cA_tc tc ++ (uw_Out ad_ot cA_ot ot ++ (uw_Model ad_md cA_md md))))))))) → va_S A s.heap H locs → lv_has ls 7 [(0, .ref b), (1, .ref (ad_ht 0)), (2, .ref (ad_md 0)), (3, .ref (ad_ot 1)), (4, .int y4)] → W p l e room_1 s m #[Value.ref b] below meth c H locs (cs + 1) (sl + 6) (lw_Z below #[Value.ref b] s) (F0 m 23 ls [])) : ∀ (ad_ht : Nat → Nat) (cA_ht : Nat → ClassId) (ad_rd : Nat → Nat) (cA_rd : Nat → ClassId) (ad_sp : Nat → Nat) (cA_sp : Nat → ClassId) (ad_mx : Nat → Nat) (cA_mx : Nat → ClassId) (ad_ar : Nat → Nat) (cA_ar : Nat → ClassId) (ad_tb : Nat → Nat) (cA_tb : Nat → ClassId) (ad_tc : Nat → Nat) (cA_tc : Nat → ClassId) (ad_ot : Nat → Nat) (cA_ot : Nat → ClassId) (ad_md : Nat → Nat) (cA_md : Nat → ClassId) (ht : SHT) (rd : SReader) (sp : SSpeller) (mx : SMixture) (ar : SSurroundings) (tb : STable) (tc : STable) (ot : SOut) (md : SModel) (y4 : Int32) (H : Heap) (locs : List Loc) (ls : Array Slot), f_Law_case_700 L xs k ht rd sp mx ar tb tc ot md y4 = some true → va_K (dC, dI) vwCl [(cA_ht 1, .int), (cA_rd 1, .int), (cA_sp 1, .int), (cA_sp 2, .int), (cA_sp 3, .int), (cA_sp 4, .int), (cA_mx 1, .int), (cA_mx 2, .int), (cA_mx 3, .boolean), (cA_ar 1, .int), (cA_ar 2, .int), (cA_ar 3, .int), (cA_tb 1, .int), (cA_tb 2, .int), (cA_tb 3, .int), (cA_tb 4, .byte), (cA_tc 1, .int), (cA_tc 2, .int), (cA_tc 3, .int), (cA_tc 4, .byte), (cA_ot 1, .long), (cA_md 1, .int), (cA_md 2, .int), (cA_md 3, .int), (cA_md 4, .int), (cA_md 5, .int), (cA_md 6, .int), (cA_md 7, .int), (cA_md 8, .int), (cA_md 9, .boolean), (cA_md 10, .int), (cA_md 11, .int), (cA_md 12, .int), (cA_md 13, .int)] s → va_P (dC, dI) vwCl (uw_HT ad_ht cA_ht (ad_rd 0) (ad_sp 0) (ad_mx 0) (ad_ar 0) (ad_tb 0) (ad_tc 0) ht ++ (uw_Reader ad_rd cA_rd rd ++ (uw_Speller ad_sp cA_sp sp ++ (uw_Mixture ad_mx cA_mx mx ++ (uw_Surroundings ad_ar cA_ar ar ++ (uw_Table ad_tb cA_tb tb ++ (uw_Table ad_tc cA_tc tc ++ (uw_Out ad_ot cA_ot ot ++ (uw_Model ad_md cA_md md))))))))) H → va_D A (uw_HT ad_ht cA_ht (ad_rd 0) (ad_sp 0) (ad_mx 0) (ad_ar 0) (ad_tb 0) (ad_tc 0) ht ++ (uw_Reader ad_rd cA_rd rd ++ (uw_Speller ad_sp cA_sp sp ++ (uw_Mixture ad_mx cA_mx mx ++ (uw_Surroundings ad_ar cA_ar ar ++ (uw_Table ad_tb cA_tb tb ++ (uw_Table ad_tc cA_tc tc ++ (uw_Out ad_ot cA_ot ot ++ (uw_Model ad_md cA_md md))))))))) → va_S A s.heap H locs → lv_has ls 7 [(0, .ref b), (1, .ref (ad_ht 0)), (2, .ref (ad_md 0)), (3, .ref (ad_ot 1)), (4, .int y4)] → W p l e room_1 s m #[Value.ref b] below meth c H locs cs sl (lw_Z below #[Value.ref b] s) (F0 m 700 ls []) := by
  obtain ⟨hx, hb, hr, hml, hown, hts0, hX0, hbl, hlocks, hgv⟩ := C0
  have hown : s.vm.findClass "HazardTablesLaw" = some m.cls := hown
  have hts : ∀ w ∈ (Cond.initialized "HazardTables" :: WA), w.before #[Value.ref b] s = true := fun w h => hts0 w ((List.mem_cons.mp h).elim (fun e => by rw [e]; exact (List.mem_filter.mp wd_43).1) (fun h => (List.mem_filter.mp h).1))
  have hbA : ¬ A b := fun h => absurd (hA2 b h) (Nat.not_le.mpr hbl)
  intro ad_ht cA_ht ad_rd cA_rd ad_sp cA_sp ad_mx cA_mx ad_ar cA_ar ad_tb cA_tb ad_tc cA_tc ad_ot cA_ot ad_md cA_md ht rd sp mx ar tb tc ot md y4 H locs ls hf hK hP hD hS hl
  unfold f_Law_case_700 at hf
  refine lv_aload_n hx hb d_Law_law_700 rfl (lv_at hl 1 rfl) ?_
  refine lv_aload_n hx hb d_Law_law_701 rfl (lv_at hl 0 rfl) ?_
  refine lv_iload hx hb d_Law_law_702 (lv_at hl 4 rfl) ?_
  refine lv_iconst (v := (1 : Int32)) hx hb d_Law_law_704 (by decide) ?_
  refine lv_iadd hx hb d_Law_law_705 ?_
  obtain ⟨hi1, hf⟩ := hf_g hf
  refine va_sld hx hb hX0 hbl hbA hS hi1 d_Law_law_706 ?_
  refine lv_aload_n hx hb d_Law_law_707 rfl (lv_at hl 0 rfl) ?_
  refine lv_iload hx hb d_Law_law_708 (lv_at hl 4 rfl) ?_
  refine lv_iconst (v := (2 : Int32)) hx hb d_Law_law_710 (by decide) ?_
  refine lv_iadd hx hb d_Law_law_711 ?_
  obtain ⟨hi2, hf⟩ := hf_g hf
  refine va_sld hx hb hX0 hbl hbA hS hi2 d_Law_law_712 ?_
  obtain ⟨u3, hu3, hf⟩ := Option.bind_eq_some_iff.mp hf
  refine cl_i (wc := (uw_HT ad_ht cA_ht (ad_rd 0) (ad_sp 0) (ad_mx 0) (ad_ar 0) (ad_tb 0) (ad_tc 0) ht)) (wr := (uw_Reader ad_rd cA_rd rd ++ (uw_Speller ad_sp cA_sp sp ++ (uw_Mixture ad_mx cA_mx mx ++ (uw_Surroundings ad_ar cA_ar ar ++ (uw_Table ad_tb cA_tb tb ++ (uw_Table ad_tc cA_tc tc ++ (uw_Out ad_ot cA_ot ot ++ (uw_Model ad_md cA_md md))))))))) (tysC := [(cA_ht 1, .int)]) (wu := fun (u : SHT) => (uw_HT ad_ht cA_ht (ad_rd 0) (ad_sp 0) (ad_mx 0) (ad_ar 0) (ad_tb 0) (ad_tc 0) u)) (wn := fun (u : SHT) => (uw_HT ad_ht cA_ht (ad_rd 0) (ad_sp 0) (ad_mx 0) (ad_ar 0) (ad_tb 0) (ad_tc 0) u ++ (uw_Reader ad_rd cA_rd rd ++ (uw_Speller ad_sp cA_sp sp ++ (uw_Mixture ad_mx cA_mx mx ++ (uw_Surroundings ad_ar cA_ar ar ++ (uw_Table ad_tb cA_tb tb ++ (uw_Table ad_tc cA_tc tc ++ (uw_Out ad_ot cA_ot ot ++ (uw_Model ad_md cA_md md)))))))))) [0, 1] [2, 3, 4, 5, 6, 7, 8, 9, 10, 11, 12, 13, 14, 15, 16, 17, 18, 19, 20, 21, 22, 23, 24, 25, 26, 27, 28, 29, 30, 31, 32, 33, 34, 35, 36, 37, 38, 39, 40, 41] [40, 41, 0, 1, 2, 3, 4, 5, 6, 7, 8, 9, 10, 11, 12, 13, 14, 15, 16, 17, 18, 19, 20, 21, 22, 23, 24, 25, 26, 27, 28, 29, 30, 31, 32, 33, 34, 35, 36, 37, 38, 39] [0] hP hD hS hA hK rfl rfl (by decide +kernel) (by decide +kernel) (by decide +kernel) rfl (fun _ => rfl) (by decide +kernel) (fun hPc hKc hDc => (vx_runSW (As := [.ref (ad_ht 0), .int (xs (y4 + (1 : Int32)).toNatClampNeg), .int (xs (y4 + (2 : Int32)).toNatClampNeg)]) (rest := []) ⟨hx, hb, hml, hown, hts⟩ (k_Law_mark l dC dI ad_ht cA_ht ad_rd cA_rd ad_sp cA_sp ad_mx cA_mx ad_ar cA_ar ad_tb cA_tb ad_tc cA_tc H.size ht (xs (y4 + (1 : Int32)).toNatClampNeg) (xs (y4 + (2 : Int32)).toNatClampNeg) u3 hu3 htr) (vx_cwSW 3 hts (gSW wd_726 wd_727 wd_42 wd_728) rfl rfl rfl (by decide +kernel) ⟨Nat.le_of_ble_eq_true rfl, Nat.le_of_ble_eq_true rfl⟩) (cx_preL hPc hKc hDc hN (fun U hU hW => xAll_at hX hS (va_free hD hS hA [0, 1] rfl) hU hW) hnc) rfl rfl hl.1 rfl (lv_room (Nat.le_of_ble_eq_true rfl)) d_Law_law_713 ⟨by show _ ≤ 1092; omega, by show _ ≤ 11944; omega⟩)) (fun r u H locs hw hP hD hS => ?_)
  obtain ⟨hw1, hw2⟩ := hw
  have hw1 := hw1.symm
  have hw2 := hw2.symm
  subst hw1
  subst hw2
  have hP : va_P (dC, dI) vwCl (uw_HT ad_ht cA_ht (ad_rd 0) (ad_sp 0) (ad_mx 0) (ad_ar 0) (ad_tb 0) (ad_tc 0) u3.2 ++ (uw_Reader ad_rd cA_rd rd ++ (uw_Speller ad_sp cA_sp sp ++ (uw_Mixture ad_mx cA_mx mx ++ (uw_Surroundings ad_ar cA_ar ar ++ (uw_Table ad_tb cA_tb tb ++ (uw_Table ad_tc cA_tc tc ++ (uw_Out ad_ot cA_ot ot ++ (uw_Model ad_md cA_md md))))))))) H := hP
  have hD : va_D A (uw_HT ad_ht cA_ht (ad_rd 0) (ad_sp 0) (ad_mx 0) (ad_ar 0) (ad_tb 0) (ad_tc 0) u3.2 ++ (uw_Reader ad_rd cA_rd rd ++ (uw_Speller ad_sp cA_sp sp ++ (uw_Mixture ad_mx cA_mx mx ++ (uw_Surroundings ad_ar cA_ar ar ++ (uw_Table ad_tb cA_tb tb ++ (uw_Table ad_tc cA_tc tc ++ (uw_Out ad_ot cA_ot ot ++ (uw_Model ad_md cA_md md))))))))) := hD
  refine lv_istore (lv' := [(5, .int u3.1), (0, .ref b), (1, .ref (ad_ht 0)), (2, .ref (ad_md 0)), (3, .ref (ad_ot 1)), (4, .int y4)]) hx hb d_Law_law_716 hl (by decide) rfl (fun ls hl => ?_)
  refine lv_aload_n hx hb d_Law_law_718 rfl (lv_at hl 3 rfl) ?_
  refine lv_aload_n hx hb d_Law_law_719 rfl (lv_at hl 1 rfl) ?_
  refine lv_iload hx hb d_Law_law_720 (lv_at hl 5 rfl) ?_
  refine lv_iconst (v := (1 : Int32)) hx hb d_Law_law_722 (by decide) ?_
  refine lv_iadd hx hb d_Law_law_723 ?_
  obtain ⟨hi4, hf⟩ := hf_g hf
  refine va_sld hx hb hX0 hbl hbA hS hi4 d_Law_law_724 ?_
  refine lv_aload_n hx hb d_Law_law_725 rfl (lv_at hl 1 rfl) ?_
  refine lv_iload hx hb d_Law_law_726 (lv_at hl 5 rfl) ?_
  refine lv_iconst (v := (2 : Int32)) hx hb d_Law_law_728 (by decide) ?_
  refine lv_iadd hx hb d_Law_law_729 ?_
  obtain ⟨hi5, hf⟩ := hf_g hf
  refine va_sld hx hb hX0 hbl hbA hS hi5 d_Law_law_730 ?_
  obtain ⟨u6, hu6, hf⟩ := Option.bind_eq_some_iff.mp hf
  refine cl_v (wc := (uw_Model ad_md cA_md md)) (wr := (uw_HT ad_ht cA_ht (ad_rd 0) (ad_sp 0) (ad_mx 0) (ad_ar 0) (ad_tb 0) (ad_tc 0) u3.2 ++ (uw_Reader ad_rd cA_rd rd ++ (uw_Speller ad_sp cA_sp sp ++ (uw_Mixture ad_mx cA_mx mx ++ (uw_Surroundings ad_ar cA_ar ar ++ (uw_Table ad_tb cA_tb tb ++ (uw_Table ad_tc cA_tc tc ++ (uw_Out ad_ot cA_ot ot))))))))) (tysC := [(cA_md 1, .int), (cA_md 2, .int), (cA_md 3, .int), (cA_md 4, .int), (cA_md 5, .int), (cA_md 6, .int), (cA_md 7, .int), (cA_md 8, .int), (cA_md 9, .boolean), (cA_md 10, .int), (cA_md 11, .int), (cA_md 12, .int), (cA_md 13, .int)]) (wu := fun (u : SModel) => (uw_Model ad_md cA_md u)) (wn := fun (u : SModel) => (uw_HT ad_ht cA_ht (ad_rd 0) (ad_sp 0) (ad_mx 0) (ad_ar 0) (ad_tb 0) (ad_tc 0) u3.2 ++ (uw_Reader ad_rd cA_rd rd ++ (uw_Speller ad_sp cA_sp sp ++ (uw_Mixture ad_mx cA_mx mx ++ (uw_Surroundings ad_ar cA_ar ar ++ (uw_Table ad_tb cA_tb tb ++ (uw_Table ad_tc cA_tc tc ++ (uw_Out ad_ot cA_ot ot ++ (uw_Model ad_md cA_md u)))))))))) [28, 29, 30, 31, 32, 33, 34, 35, 36, 37, 38, 39, 40, 41] [0, 1, 2, 3, 4, 5, 6, 7, 8, 9, 10, 11, 12, 13, 14, 15, 16, 17, 18, 19, 20, 21, 22, 23, 24, 25, 26, 27] [0, 1, 2, 3, 4, 5, 6, 7, 8, 9, 10, 11, 12, 13, 14, 15, 16, 17, 18, 19, 20, 21, 22, 23, 24, 25, 26, 27, 28, 29, 30, 31, 32, 33, 34, 35, 36, 37, 38, 39, 40, 41] [21, 22, 23, 24, 25, 26, 27, 28, 29, 30, 31, 32, 33] hP hD hS hA hK rfl rfl (by decide +kernel) (by decide +kernel) (by decide +kernel) rfl (fun _ => rfl) (by decide +kernel) (fun hPc hKc hDc => (va_runV (As := [.int (xs (y4 + (1 : Int32)).toNatClampNeg), .int (xs (y4 + (2 : Int32)).toNatClampNeg)]) (rest := []) ⟨hx, hb, hml, hown, hts⟩ (k_Model_mark l dC dI ad_md cA_md H.size md (xs (y4 + (1 : Int32)).toNatClampNeg) (xs (y4 + (2 : Int32)).toNatClampNeg) u6 hu6) (cwV 2 hts (gV wd_995 wd_996 wd_997 wd_49 wd_998) rfl rfl rfl (by decide +kernel) ⟨Nat.le_of_ble_eq_true rfl, Nat.le_of_ble_eq_true rfl⟩) (cl_preV hPc hKc hDc hN (ci := 6) 0 rfl rfl) rfl rfl hl.1 rfl (lv_room (Nat.le_of_ble_eq_true rfl)) d_Law_law_731 ⟨by show _ ≤ 1092; omega, by show _ ≤ 11944; omega⟩)) (fun u H locs hw hP hD hS => ?_)
  have hw := hw.symm
  subst hw
  have hP : va_P (dC, dI) vwCl (uw_HT ad_ht cA_ht (ad_rd 0) (ad_sp 0) (ad_mx 0) (ad_ar 0) (ad_tb 0) (ad_tc 0) u3.2 ++ (uw_Reader ad_rd cA_rd rd ++ (uw_Speller ad_sp cA_sp sp ++ (uw_Mixture ad_mx cA_mx mx ++ (uw_Surroundings ad_ar cA_ar ar ++ (uw_Table ad_tb cA_tb tb ++ (uw_Table ad_tc cA_tc tc ++ (uw_Out ad_ot cA_ot ot ++ (uw_Model ad_md cA_md u6))))))))) H := hP
  have hD : va_D A (uw_HT ad_ht cA_ht (ad_rd 0) (ad_sp 0) (ad_mx 0) (ad_ar 0) (ad_tb 0) (ad_tc 0) u3.2 ++ (uw_Reader ad_rd cA_rd rd ++ (uw_Speller ad_sp cA_sp sp ++ (uw_Mixture ad_mx cA_mx mx ++ (uw_Surroundings ad_ar cA_ar ar ++ (uw_Table ad_tb cA_tb tb ++ (uw_Table ad_tc cA_tc tc ++ (uw_Out ad_ot cA_ot ot ++ (uw_Model ad_md cA_md u6))))))))) := hD
  refine lv_goto (tgt := 777) hx hb d_Law_law_734 (by decide) ?_
  refine lv_iinc (v := y4 + (4 : Int32)) (lv' := [(4, .int (y4 + (4 : Int32))), (5, .int u3.1), (0, .ref b), (1, .ref (ad_ht 0)), (2, .ref (ad_md 0)), (3, .ref (ad_ot 1))]) hx hb d_Law_law_777 hl (k := 5) rfl rfl (by decide) rfl (fun ls hl => ?_)
  refine lv_goto (tgt := 23) hx hb d_Law_law_780 (by decide) ?_
  refine W.widen (k := cs + 1) (n := sl + 6) (by omega) (by omega) ?_
  exact hk ad_ht cA_ht ad_rd cA_rd ad_sp cA_sp ad_mx cA_mx ad_ar cA_ar ad_tb cA_tb ad_tc cA_tc ad_ot cA_ot ad_md cA_md u3.2 rd sp mx ar tb tc ot u6 (y4 + (4 : Int32)) H locs ls hf hK hP hD hS (lv_sub hl [2, 3, 4, 5, 0] rfl)
noncomputable def f_Law_case_737 (L : Nat) (xs : Nat → Int32) (k : SHT → SReader → SSpeller → SMixture → SSurroundings → STable → STable → SOut → SModel → Int32 → Option Bool) (ht : SHT) (rd : SReader) (sp : SSpeller) (mx : SMixture) (ar : SSurroundings) (tb : STable) (tc : STable) (ot : SOut) (md : SModel) (y4 : Int32) : Option Bool :=
  (if inb (y4 + (1 : Int32)) L then
    (if inb (y4 + (2 : Int32)) L then
      (Option.bind (f_Law_over ht ot (xs (y4 + (1 : Int32)).toNatClampNeg) (xs (y4 + (2 : Int32)).toNatClampNeg)) fun u3 =>
        (if inb (y4 + (1 : Int32)) L then
          (if inb (y4 + (2 : Int32)) L then
            (Option.bind (f_Model_over md (xs (y4 + (1 : Int32)).toNatClampNeg) (xs (y4 + (2 : Int32)).toNatClampNeg)) fun u6 =>
              (k ht rd sp mx ar tb tc u3.2 u6.2 (y4 + (4 : Int32)))
             )
           else none)
         else none)
       )
     else none)
   else none)
set_option maxHeartbeats 4000000 in
set_option maxRecDepth 100000 in
theorem k_Law_case_737 {p : Program} {l : Launch} {e : Env} {s : State} {m : MethodId} {below : List Frame} {meth : Method} {c : Code} {dC : Nat → ClassId} {dI : Nat → Nat → Nat} {b L : Nat} {xs : Nat → Int32} {A : Nat → Prop} (htr : l.stackTraces = false) (C0 : lw_At p s m meth c b L xs) (hN : nwAll s) (hX : xAll A s) (hnc : ncAll s) (hA : ∀ q : Nat, s.heap.size ≤ q → A q) (hA2 : ∀ q : Nat, A q → s.heap.size ≤ q) (cs sl : Nat) (hcs : cs + 1 ≤ 1092) (hsl : sl + 6 ≤ 11944) (k : SHT → SReader → SSpeller → SMixture → SSurroundings → STable → STable → SOut → SModel → Int32 → Option Bool) (hk : ∀ (ad_ht : Nat → Nat) (cA_ht : Nat → ClassId) (ad_rd : Nat → Nat) (cA_rd : Nat → ClassId) (ad_sp : Nat → Nat) (cA_sp : Nat → ClassId) (ad_mx : Nat → Nat) (cA_mx : Nat → ClassId) (ad_ar : Nat → Nat) (cA_ar : Nat → ClassId) (ad_tb : Nat → Nat) (cA_tb : Nat → ClassId) (ad_tc : Nat → Nat) (cA_tc : Nat → ClassId) (ad_ot : Nat → Nat) (cA_ot : Nat → ClassId) (ad_md : Nat → Nat) (cA_md : Nat → ClassId) (ht : SHT) (rd : SReader) (sp : SSpeller) (mx : SMixture) (ar : SSurroundings) (tb : STable) (tc : STable) (ot : SOut) (md : SModel) (y4 : Int32) (H : Heap) (locs : List Loc) (ls : Array Slot), k ht rd sp mx ar tb tc ot md y4 = some true → va_K (dC, dI) vwCl [(cA_ht 1, .int), (cA_rd 1, .int), (cA_sp 1, .int), (cA_sp 2, .int), (cA_sp 3, .int), (cA_sp 4, .int), (cA_mx 1, .int), (cA_mx 2, .int), (cA_mx 3, .boolean), (cA_ar 1, .int), (cA_ar 2, .int), (cA_ar 3, .int), (cA_tb 1, .int), (cA_tb 2, .int), (cA_tb 3, .int), (cA_tb 4, .byte), (cA_tc 1, .int), (cA_tc 2, .int), (cA_tc 3, .int), (cA_tc 4, .byte), (cA_ot 1, .long), (cA_md 1, .int), (cA_md 2, .int), (cA_md 3, .int), (cA_md 4, .int), (cA_md 5, .int), (cA_md 6, .int), (cA_md 7, .int), (cA_md 8, .int), (cA_md 9, .boolean), (cA_md 10, .int), (cA_md 11, .int), (cA_md 12, .int), (cA_md 13, .int)] s → va_P (dC, dI) vwCl (uw_HT ad_ht cA_ht (ad_rd 0) (ad_sp 0) (ad_mx 0) (ad_ar 0) (ad_tb 0) (ad_tc 0) ht ++ (uw_Reader ad_rd cA_rd rd ++ (uw_Speller ad_sp cA_sp sp ++ (uw_Mixture ad_mx cA_mx mx ++ (uw_Surroundings ad_ar cA_ar ar ++ (uw_Table ad_tb cA_tb tb ++ (uw_Table ad_tc cA_tc tc ++ (uw_Out ad_ot cA_ot ot ++ (uw_Model ad_md cA_md md))))))))) H → va_D A (uw_HT ad_ht cA_ht (ad_rd 0) (ad_sp 0) (ad_mx 0) (ad_ar 0) (ad_tb 0) (ad_tc 0) ht ++ (uw_Reader ad_rd cA_rd rd ++ (uw_Speller ad_sp cA_sp sp ++ (uw_Mixture ad_mx cA_mx mx ++ (uw_Surroundings ad_ar cA_ar ar ++ (uw_Table ad_tb cA_tb tb ++ (uw_Table ad_tc cA_tc tc ++ (uw_Out ad_ot cA_ot ot ++ (uw_Model ad_md cA_md md))))))))) → va_S A s.heap H locs → lv_has ls 7 [(0, .ref b), (1, .ref (ad_ht 0)), (2, .ref (ad_md 0)), (3, .ref (ad_ot 1)), (4, .int y4)] → W p l e room_1 s m #[Value.ref b] below meth c H locs (cs + 1) (sl + 6) (lw_Z below #[Value.ref b] s) (F0 m 23 ls [])) : ∀ (ad_ht : Nat → Nat) (cA_ht : Nat → ClassId) (ad_rd : Nat → Nat) (cA_rd : Nat → ClassId) (ad_sp : Nat → Nat) (cA_sp : Nat → ClassId) (ad_mx : Nat → Nat) (cA_mx : Nat → ClassId) (ad_ar : Nat → Nat) (cA_ar : Nat → ClassId) (ad_tb : Nat → Nat) (cA_tb : Nat → ClassId) (ad_tc : Nat → Nat) (cA_tc : Nat → ClassId) (ad_ot : Nat → Nat) (cA_ot : Nat → ClassId) (ad_md : Nat → Nat) (cA_md : Nat → ClassId) (ht : SHT) (rd : SReader) (sp : SSpeller) (mx : SMixture) (ar : SSurroundings) (tb : STable) (tc : STable) (ot : SOut) (md : SModel) (y4 : Int32) (H : Heap) (locs : List Loc) (ls : Array Slot), f_Law_case_737 L xs k ht rd sp mx ar tb tc ot md y4 = some true → va_K (dC, dI) vwCl [(cA_ht 1, .int), (cA_rd 1, .int), (cA_sp 1, .int), (cA_sp 2, .int), (cA_sp 3, .int), (cA_sp 4, .int), (cA_mx 1, .int), (cA_mx 2, .int), (cA_mx 3, .boolean), (cA_ar 1, .int), (cA_ar 2, .int), (cA_ar 3, .int), (cA_tb 1, .int), (cA_tb 2, .int), (cA_tb 3, .int), (cA_tb 4, .byte), (cA_tc 1, .int), (cA_tc 2, .int), (cA_tc 3, .int), (cA_tc 4, .byte), (cA_ot 1, .long), (cA_md 1, .int), (cA_md 2, .int), (cA_md 3, .int), (cA_md 4, .int), (cA_md 5, .int), (cA_md 6, .int), (cA_md 7, .int), (cA_md 8, .int), (cA_md 9, .boolean), (cA_md 10, .int), (cA_md 11, .int), (cA_md 12, .int), (cA_md 13, .int)] s → va_P (dC, dI) vwCl (uw_HT ad_ht cA_ht (ad_rd 0) (ad_sp 0) (ad_mx 0) (ad_ar 0) (ad_tb 0) (ad_tc 0) ht ++ (uw_Reader ad_rd cA_rd rd ++ (uw_Speller ad_sp cA_sp sp ++ (uw_Mixture ad_mx cA_mx mx ++ (uw_Surroundings ad_ar cA_ar ar ++ (uw_Table ad_tb cA_tb tb ++ (uw_Table ad_tc cA_tc tc ++ (uw_Out ad_ot cA_ot ot ++ (uw_Model ad_md cA_md md))))))))) H → va_D A (uw_HT ad_ht cA_ht (ad_rd 0) (ad_sp 0) (ad_mx 0) (ad_ar 0) (ad_tb 0) (ad_tc 0) ht ++ (uw_Reader ad_rd cA_rd rd ++ (uw_Speller ad_sp cA_sp sp ++ (uw_Mixture ad_mx cA_mx mx ++ (uw_Surroundings ad_ar cA_ar ar ++ (uw_Table ad_tb cA_tb tb ++ (uw_Table ad_tc cA_tc tc ++ (uw_Out ad_ot cA_ot ot ++ (uw_Model ad_md cA_md md))))))))) → va_S A s.heap H locs → lv_has ls 7 [(0, .ref b), (1, .ref (ad_ht 0)), (2, .ref (ad_md 0)), (3, .ref (ad_ot 1)), (4, .int y4)] → W p l e room_1 s m #[Value.ref b] below meth c H locs cs sl (lw_Z below #[Value.ref b] s) (F0 m 737 ls []) := by
  obtain ⟨hx, hb, hr, hml, hown, hts0, hX0, hbl, hlocks, hgv⟩ := C0
  have hown : s.vm.findClass "HazardTablesLaw" = some m.cls := hown
  have hts : ∀ w ∈ (Cond.initialized "HazardTables" :: WA), w.before #[Value.ref b] s = true := fun w h => hts0 w ((List.mem_cons.mp h).elim (fun e => by rw [e]; exact (List.mem_filter.mp wd_43).1) (fun h => (List.mem_filter.mp h).1))
  have hbA : ¬ A b := fun h => absurd (hA2 b h) (Nat.not_le.mpr hbl)
  intro ad_ht cA_ht ad_rd cA_rd ad_sp cA_sp ad_mx cA_mx ad_ar cA_ar ad_tb cA_tb ad_tc cA_tc ad_ot cA_ot ad_md cA_md ht rd sp mx ar tb tc ot md y4 H locs ls hf hK hP hD hS hl
  unfold f_Law_case_737 at hf
  refine lv_aload_n hx hb d_Law_law_737 rfl (lv_at hl 1 rfl) ?_
  refine lv_aload_n hx hb d_Law_law_738 rfl (lv_at hl 0 rfl) ?_
  refine lv_iload hx hb d_Law_law_739 (lv_at hl 4 rfl) ?_
  refine lv_iconst (v := (1 : Int32)) hx hb d_Law_law_741 (by decide) ?_
  refine lv_iadd hx hb d_Law_law_742 ?_
  obtain ⟨hi1, hf⟩ := hf_g hf
  refine va_sld hx hb hX0 hbl hbA hS hi1 d_Law_law_743 ?_
  refine lv_aload_n hx hb d_Law_law_744 rfl (lv_at hl 0 rfl) ?_
  refine lv_iload hx hb d_Law_law_745 (lv_at hl 4 rfl) ?_
  refine lv_iconst (v := (2 : Int32)) hx hb d_Law_law_747 (by decide) ?_
  refine lv_iadd hx hb d_Law_law_748 ?_
  obtain ⟨hi2, hf⟩ := hf_g hf
  refine va_sld hx hb hX0 hbl hbA hS hi2 d_Law_law_749 ?_
  refine lv_aload_n hx hb d_Law_law_750 rfl (lv_at hl 3 rfl) ?_
  obtain ⟨u3, hu3, hf⟩ := Option.bind_eq_some_iff.mp hf
  refine cl_i (wc := (uw_HT ad_ht cA_ht (ad_rd 0) (ad_sp 0) (ad_mx 0) (ad_ar 0) (ad_tb 0) (ad_tc 0) ht ++ (uw_Out ad_ot cA_ot ot))) (wr := (uw_Reader ad_rd cA_rd rd ++ (uw_Speller ad_sp cA_sp sp ++ (uw_Mixture ad_mx cA_mx mx ++ (uw_Surroundings ad_ar cA_ar ar ++ (uw_Table ad_tb cA_tb tb ++ (uw_Table ad_tc cA_tc tc ++ (uw_Model ad_md cA_md md)))))))) (tysC := [(cA_ht 1, .int), (cA_ot 1, .long)]) (wu := fun (u : SOut) => (uw_HT ad_ht cA_ht (ad_rd 0) (ad_sp 0) (ad_mx 0) (ad_ar 0) (ad_tb 0) (ad_tc 0) ht ++ (uw_Out ad_ot cA_ot u))) (wn := fun (u : SOut) => (uw_HT ad_ht cA_ht (ad_rd 0) (ad_sp 0) (ad_mx 0) (ad_ar 0) (ad_tb 0) (ad_tc 0) ht ++ (uw_Reader ad_rd cA_rd rd ++ (uw_Speller ad_sp cA_sp sp ++ (uw_Mixture ad_mx cA_mx mx ++ (uw_Surroundings ad_ar cA_ar ar ++ (uw_Table ad_tb cA_tb tb ++ (uw_Table ad_tc cA_tc tc ++ (uw_Out ad_ot cA_ot u ++ (uw_Model ad_md cA_md md)))))))))) [0, 1, 27] [2, 3, 4, 5, 6, 7, 8, 9, 10, 11, 12, 13, 14, 15, 16, 17, 18, 19, 20, 21, 22, 23, 24, 25, 26, 28, 29, 30, 31, 32, 33, 34, 35, 36, 37, 38, 39, 40, 41] [39, 40, 0, 1, 2, 3, 4, 5, 6, 7, 8, 9, 10, 11, 12, 13, 14, 15, 16, 17, 18, 19, 20, 21, 22, 23, 24, 41, 25, 26, 27, 28, 29, 30, 31, 32, 33, 34, 35, 36, 37, 38] [0, 20] hP hD hS hA hK rfl rfl (by decide +kernel) (by decide +kernel) (by decide +kernel) rfl (fun _ => rfl) (by decide +kernel) (fun hPc hKc hDc => (vx_runSW (As := [.ref (ad_ht 0), .int (xs (y4 + (1 : Int32)).toNatClampNeg), .int (xs (y4 + (2 : Int32)).toNatClampNeg), .ref (ad_ot 1)]) (rest := []) ⟨hx, hb, hml, hown, hts⟩ (k_Law_over l dC dI ad_ht cA_ht ad_ot cA_ot ad_rd cA_rd ad_sp cA_sp ad_mx cA_mx ad_ar cA_ar ad_tb cA_tb ad_tc cA_tc H.size ht ot (xs (y4 + (1 : Int32)).toNatClampNeg) (xs (y4 + (2 : Int32)).toNatClampNeg) u3 hu3 htr) (vx_cwSW 4 hts (gSW wd_735 wd_736 wd_42 wd_737) rfl rfl rfl (by decide +kernel) ⟨Nat.le_of_ble_eq_true rfl, Nat.le_of_ble_eq_true rfl⟩) (cx_preL hPc hKc hDc hN (fun U hU hW => xAll_at hX hS (va_free hD hS hA [0, 1, 27] rfl) hU hW) hnc) rfl rfl hl.1 rfl (lv_room (Nat.le_of_ble_eq_true rfl)) d_Law_law_751 ⟨by show _ ≤ 1092; omega, by show _ ≤ 11944; omega⟩)) (fun r u H locs hw hP hD hS => ?_)
  obtain ⟨hw1, hw2⟩ := hw
  have hw1 := hw1.symm
  have hw2 := hw2.symm
  subst hw1
  subst hw2
  have hP : va_P (dC, dI) vwCl (uw_HT ad_ht cA_ht (ad_rd 0) (ad_sp 0) (ad_mx 0) (ad_ar 0) (ad_tb 0) (ad_tc 0) ht ++ (uw_Reader ad_rd cA_rd rd ++ (uw_Speller ad_sp cA_sp sp ++ (uw_Mixture ad_mx cA_mx mx ++ (uw_Surroundings ad_ar cA_ar ar ++ (uw_Table ad_tb cA_tb tb ++ (uw_Table ad_tc cA_tc tc ++ (uw_Out ad_ot cA_ot u3.2 ++ (uw_Model ad_md cA_md md))))))))) H := hP
  have hD : va_D A (uw_HT ad_ht cA_ht (ad_rd 0) (ad_sp 0) (ad_mx 0) (ad_ar 0) (ad_tb 0) (ad_tc 0) ht ++ (uw_Reader ad_rd cA_rd rd ++ (uw_Speller ad_sp cA_sp sp ++ (uw_Mixture ad_mx cA_mx mx ++ (uw_Surroundings ad_ar cA_ar ar ++ (uw_Table ad_tb cA_tb tb ++ (uw_Table ad_tc cA_tc tc ++ (uw_Out ad_ot cA_ot u3.2 ++ (uw_Model ad_md cA_md md))))))))) := hD
  refine lv_istore (lv' := [(5, .int u3.1), (0, .ref b), (1, .ref (ad_ht 0)), (2, .ref (ad_md 0)), (3, .ref (ad_ot 1)), (4, .int y4)]) hx hb d_Law_law_754 hl (by decide) rfl (fun ls hl => ?_)
  refine lv_aload_n hx hb d_Law_law_756 rfl (lv_at hl 3 rfl) ?_
  refine lv_aload_n hx hb d_Law_law_757 rfl (lv_at hl 1 rfl) ?_
  refine lv_iload hx hb d_Law_law_758 (lv_at hl 5 rfl) ?_
  refine lv_iconst (v := (1 : Int32)) hx hb d_Law_law_760 (by decide) ?_
  refine lv_iadd hx hb d_Law_law_761 ?_
  obtain ⟨hi4, hf⟩ := hf_g hf
  refine va_sld hx hb hX0 hbl hbA hS hi4 d_Law_law_762 ?_
  refine lv_aload_n hx hb d_Law_law_763 rfl (lv_at hl 1 rfl) ?_
  refine lv_iload hx hb d_Law_law_764 (lv_at hl 5 rfl) ?_
  refine lv_iconst (v := (2 : Int32)) hx hb d_Law_law_766 (by decide) ?_
  refine lv_iadd hx hb d_Law_law_767 ?_
  obtain ⟨hi5, hf⟩ := hf_g hf
  refine va_sld hx hb hX0 hbl hbA hS hi5 d_Law_law_768 ?_
  obtain ⟨u6, hu6, hf⟩ := Option.bind_eq_some_iff.mp hf
  refine cl_i (wc := (uw_Model ad_md cA_md md)) (wr := (uw_HT ad_ht cA_ht (ad_rd 0) (ad_sp 0) (ad_mx 0) (ad_ar 0) (ad_tb 0) (ad_tc 0) ht ++ (uw_Reader ad_rd cA_rd rd ++ (uw_Speller ad_sp cA_sp sp ++ (uw_Mixture ad_mx cA_mx mx ++ (uw_Surroundings ad_ar cA_ar ar ++ (uw_Table ad_tb cA_tb tb ++ (uw_Table ad_tc cA_tc tc ++ (uw_Out ad_ot cA_ot u3.2))))))))) (tysC := [(cA_md 1, .int), (cA_md 2, .int), (cA_md 3, .int), (cA_md 4, .int), (cA_md 5, .int), (cA_md 6, .int), (cA_md 7, .int), (cA_md 8, .int), (cA_md 9, .boolean), (cA_md 10, .int), (cA_md 11, .int), (cA_md 12, .int), (cA_md 13, .int)]) (wu := fun (u : SModel) => (uw_Model ad_md cA_md u)) (wn := fun (u : SModel) => (uw_HT ad_ht cA_ht (ad_rd 0) (ad_sp 0) (ad_mx 0) (ad_ar 0) (ad_tb 0) (ad_tc 0) ht ++ (uw_Reader ad_rd cA_rd rd ++ (uw_Speller ad_sp cA_sp sp ++ (uw_Mixture ad_mx cA_mx mx ++ (uw_Surroundings ad_ar cA_ar ar ++ (uw_Table ad_tb cA_tb tb ++ (uw_Table ad_tc cA_tc tc ++ (uw_Out ad_ot cA_ot u3.2 ++ (uw_Model ad_md cA_md u)))))))))) [28, 29, 30, 31, 32, 33, 34, 35, 36, 37, 38, 39, 40, 41] [0, 1, 2, 3, 4, 5, 6, 7, 8, 9, 10, 11, 12, 13, 14, 15, 16, 17, 18, 19, 20, 21, 22, 23, 24, 25, 26, 27] [0, 1, 2, 3, 4, 5, 6, 7, 8, 9, 10, 11, 12, 13, 14, 15, 16, 17, 18, 19, 20, 21, 22, 23, 24, 25, 26, 27, 28, 29, 30, 31, 32, 33, 34, 35, 36, 37, 38, 39, 40, 41] [21, 22, 23, 24, 25, 26, 27, 28, 29, 30, 31, 32, 33] hP hD hS hA hK rfl rfl (by decide +kernel) (by decide +kernel) (by decide +kernel) rfl (fun _ => rfl) (by decide +kernel) (fun hPc hKc hDc => (va_runV (As := [.int (xs (y4 + (1 : Int32)).toNatClampNeg), .int (xs (y4 + (2 : Int32)).toNatClampNeg)]) (rest := []) ⟨hx, hb, hml, hown, hts⟩ (k_Model_over l dC dI ad_md cA_md H.size md (xs (y4 + (1 : Int32)).toNatClampNeg) (xs (y4 + (2 : Int32)).toNatClampNeg) u6 hu6) (cwV 2 hts (gV wd_999 wd_1000 wd_1001 wd_49 wd_1002) rfl rfl rfl (by decide +kernel) ⟨Nat.le_of_ble_eq_true rfl, Nat.le_of_ble_eq_true rfl⟩) (cl_preV hPc hKc hDc hN (ci := 6) 0 rfl rfl) rfl rfl hl.1 rfl (lv_room (Nat.le_of_ble_eq_true rfl)) d_Law_law_769 ⟨by show _ ≤ 1092; omega, by show _ ≤ 11944; omega⟩)) (fun r u H locs hw hP hD hS => ?_)
  obtain ⟨hw1, hw2⟩ := hw
  have hw1 := hw1.symm
  have hw2 := hw2.symm
  subst hw1
  subst hw2
  have hP : va_P (dC, dI) vwCl (uw_HT ad_ht cA_ht (ad_rd 0) (ad_sp 0) (ad_mx 0) (ad_ar 0) (ad_tb 0) (ad_tc 0) ht ++ (uw_Reader ad_rd cA_rd rd ++ (uw_Speller ad_sp cA_sp sp ++ (uw_Mixture ad_mx cA_mx mx ++ (uw_Surroundings ad_ar cA_ar ar ++ (uw_Table ad_tb cA_tb tb ++ (uw_Table ad_tc cA_tc tc ++ (uw_Out ad_ot cA_ot u3.2 ++ (uw_Model ad_md cA_md u6.2))))))))) H := hP
  have hD : va_D A (uw_HT ad_ht cA_ht (ad_rd 0) (ad_sp 0) (ad_mx 0) (ad_ar 0) (ad_tb 0) (ad_tc 0) ht ++ (uw_Reader ad_rd cA_rd rd ++ (uw_Speller ad_sp cA_sp sp ++ (uw_Mixture ad_mx cA_mx mx ++ (uw_Surroundings ad_ar cA_ar ar ++ (uw_Table ad_tb cA_tb tb ++ (uw_Table ad_tc cA_tc tc ++ (uw_Out ad_ot cA_ot u3.2 ++ (uw_Model ad_md cA_md u6.2))))))))) := hD
  refine lv_istore (lv' := [(6, .int (bI u6.1)), (5, .int u3.1), (0, .ref b), (1, .ref (ad_ht 0)), (2, .ref (ad_md 0)), (3, .ref (ad_ot 1)), (4, .int y4)]) hx hb d_Law_law_772 hl (by decide) rfl (fun ls hl => ?_)
  refine lv_goto (tgt := 777) hx hb d_Law_law_774 (by decide) ?_
  refine lv_iinc (v := y4 + (4 : Int32)) (lv' := [(4, .int (y4 + (4 : Int32))), (6, .int (bI u6.1)), (5, .int u3.1), (0, .ref b), (1, .ref (ad_ht 0)), (2, .ref (ad_md 0)), (3, .ref (ad_ot 1))]) hx hb d_Law_law_777 hl (k := 6) rfl rfl (by decide) rfl (fun ls hl => ?_)
  refine lv_goto (tgt := 23) hx hb d_Law_law_780 (by decide) ?_
  refine W.widen (k := cs + 1) (n := sl + 6) (by omega) (by omega) ?_
  exact hk ad_ht cA_ht ad_rd cA_rd ad_sp cA_sp ad_mx cA_mx ad_ar cA_ar ad_tb cA_tb ad_tc cA_tc ad_ot cA_ot ad_md cA_md ht rd sp mx ar tb tc u3.2 u6.2 (y4 + (4 : Int32)) H locs ls hf hK hP hD hS (lv_sub hl [3, 4, 5, 6, 0] rfl)
noncomputable def f_Law_case_777 (L : Nat) (xs : Nat → Int32) (k : SHT → SReader → SSpeller → SMixture → SSurroundings → STable → STable → SOut → SModel → Int32 → Option Bool) (ht : SHT) (rd : SReader) (sp : SSpeller) (mx : SMixture) (ar : SSurroundings) (tb : STable) (tc : STable) (ot : SOut) (md : SModel) (y4 : Int32) : Option Bool :=
  (k ht rd sp mx ar tb tc ot md (y4 + (4 : Int32)))
set_option maxHeartbeats 4000000 in
set_option maxRecDepth 100000 in
theorem k_Law_case_777 {p : Program} {l : Launch} {e : Env} {s : State} {m : MethodId} {below : List Frame} {meth : Method} {c : Code} {dC : Nat → ClassId} {dI : Nat → Nat → Nat} {b L : Nat} {xs : Nat → Int32} {A : Nat → Prop} (htr : l.stackTraces = false) (C0 : lw_At p s m meth c b L xs) (hN : nwAll s) (hX : xAll A s) (hnc : ncAll s) (hA : ∀ q : Nat, s.heap.size ≤ q → A q) (hA2 : ∀ q : Nat, A q → s.heap.size ≤ q) (cs sl : Nat) (hcs : cs + 1 ≤ 1092) (hsl : sl + 6 ≤ 11944) (k : SHT → SReader → SSpeller → SMixture → SSurroundings → STable → STable → SOut → SModel → Int32 → Option Bool) (hk : ∀ (ad_ht : Nat → Nat) (cA_ht : Nat → ClassId) (ad_rd : Nat → Nat) (cA_rd : Nat → ClassId) (ad_sp : Nat → Nat) (cA_sp : Nat → ClassId) (ad_mx : Nat → Nat) (cA_mx : Nat → ClassId) (ad_ar : Nat → Nat) (cA_ar : Nat → ClassId) (ad_tb : Nat → Nat) (cA_tb : Nat → ClassId) (ad_tc : Nat → Nat) (cA_tc : Nat → ClassId) (ad_ot : Nat → Nat) (cA_ot : Nat → ClassId) (ad_md : Nat → Nat) (cA_md : Nat → ClassId) (ht : SHT) (rd : SReader) (sp : SSpeller) (mx : SMixture) (ar : SSurroundings) (tb : STable) (tc : STable) (ot : SOut) (md : SModel) (y4 : Int32) (H : Heap) (locs : List Loc) (ls : Array Slot), k ht rd sp mx ar tb tc ot md y4 = some true → va_K (dC, dI) vwCl [(cA_ht 1, .int), (cA_rd 1, .int), (cA_sp 1, .int), (cA_sp 2, .int), (cA_sp 3, .int), (cA_sp 4, .int), (cA_mx 1, .int), (cA_mx 2, .int), (cA_mx 3, .boolean), (cA_ar 1, .int), (cA_ar 2, .int), (cA_ar 3, .int), (cA_tb 1, .int), (cA_tb 2, .int), (cA_tb 3, .int), (cA_tb 4, .byte), (cA_tc 1, .int), (cA_tc 2, .int), (cA_tc 3, .int), (cA_tc 4, .byte), (cA_ot 1, .long), (cA_md 1, .int), (cA_md 2, .int), (cA_md 3, .int), (cA_md 4, .int), (cA_md 5, .int), (cA_md 6, .int), (cA_md 7, .int), (cA_md 8, .int), (cA_md 9, .boolean), (cA_md 10, .int), (cA_md 11, .int), (cA_md 12, .int), (cA_md 13, .int)] s → va_P (dC, dI) vwCl (uw_HT ad_ht cA_ht (ad_rd 0) (ad_sp 0) (ad_mx 0) (ad_ar 0) (ad_tb 0) (ad_tc 0) ht ++ (uw_Reader ad_rd cA_rd rd ++ (uw_Speller ad_sp cA_sp sp ++ (uw_Mixture ad_mx cA_mx mx ++ (uw_Surroundings ad_ar cA_ar ar ++ (uw_Table ad_tb cA_tb tb ++ (uw_Table ad_tc cA_tc tc ++ (uw_Out ad_ot cA_ot ot ++ (uw_Model ad_md cA_md md))))))))) H → va_D A (uw_HT ad_ht cA_ht (ad_rd 0) (ad_sp 0) (ad_mx 0) (ad_ar 0) (ad_tb 0) (ad_tc 0) ht ++ (uw_Reader ad_rd cA_rd rd ++ (uw_Speller ad_sp cA_sp sp ++ (uw_Mixture ad_mx cA_mx mx ++ (uw_Surroundings ad_ar cA_ar ar ++ (uw_Table ad_tb cA_tb tb ++ (uw_Table ad_tc cA_tc tc ++ (uw_Out ad_ot cA_ot ot ++ (uw_Model ad_md cA_md md))))))))) → va_S A s.heap H locs → lv_has ls 7 [(0, .ref b), (1, .ref (ad_ht 0)), (2, .ref (ad_md 0)), (3, .ref (ad_ot 1)), (4, .int y4)] → W p l e room_1 s m #[Value.ref b] below meth c H locs (cs + 1) (sl + 6) (lw_Z below #[Value.ref b] s) (F0 m 23 ls [])) : ∀ (ad_ht : Nat → Nat) (cA_ht : Nat → ClassId) (ad_rd : Nat → Nat) (cA_rd : Nat → ClassId) (ad_sp : Nat → Nat) (cA_sp : Nat → ClassId) (ad_mx : Nat → Nat) (cA_mx : Nat → ClassId) (ad_ar : Nat → Nat) (cA_ar : Nat → ClassId) (ad_tb : Nat → Nat) (cA_tb : Nat → ClassId) (ad_tc : Nat → Nat) (cA_tc : Nat → ClassId) (ad_ot : Nat → Nat) (cA_ot : Nat → ClassId) (ad_md : Nat → Nat) (cA_md : Nat → ClassId) (ht : SHT) (rd : SReader) (sp : SSpeller) (mx : SMixture) (ar : SSurroundings) (tb : STable) (tc : STable) (ot : SOut) (md : SModel) (y4 : Int32) (H : Heap) (locs : List Loc) (ls : Array Slot), f_Law_case_777 L xs k ht rd sp mx ar tb tc ot md y4 = some true → va_K (dC, dI) vwCl [(cA_ht 1, .int), (cA_rd 1, .int), (cA_sp 1, .int), (cA_sp 2, .int), (cA_sp 3, .int), (cA_sp 4, .int), (cA_mx 1, .int), (cA_mx 2, .int), (cA_mx 3, .boolean), (cA_ar 1, .int), (cA_ar 2, .int), (cA_ar 3, .int), (cA_tb 1, .int), (cA_tb 2, .int), (cA_tb 3, .int), (cA_tb 4, .byte), (cA_tc 1, .int), (cA_tc 2, .int), (cA_tc 3, .int), (cA_tc 4, .byte), (cA_ot 1, .long), (cA_md 1, .int), (cA_md 2, .int), (cA_md 3, .int), (cA_md 4, .int), (cA_md 5, .int), (cA_md 6, .int), (cA_md 7, .int), (cA_md 8, .int), (cA_md 9, .boolean), (cA_md 10, .int), (cA_md 11, .int), (cA_md 12, .int), (cA_md 13, .int)] s → va_P (dC, dI) vwCl (uw_HT ad_ht cA_ht (ad_rd 0) (ad_sp 0) (ad_mx 0) (ad_ar 0) (ad_tb 0) (ad_tc 0) ht ++ (uw_Reader ad_rd cA_rd rd ++ (uw_Speller ad_sp cA_sp sp ++ (uw_Mixture ad_mx cA_mx mx ++ (uw_Surroundings ad_ar cA_ar ar ++ (uw_Table ad_tb cA_tb tb ++ (uw_Table ad_tc cA_tc tc ++ (uw_Out ad_ot cA_ot ot ++ (uw_Model ad_md cA_md md))))))))) H → va_D A (uw_HT ad_ht cA_ht (ad_rd 0) (ad_sp 0) (ad_mx 0) (ad_ar 0) (ad_tb 0) (ad_tc 0) ht ++ (uw_Reader ad_rd cA_rd rd ++ (uw_Speller ad_sp cA_sp sp ++ (uw_Mixture ad_mx cA_mx mx ++ (uw_Surroundings ad_ar cA_ar ar ++ (uw_Table ad_tb cA_tb tb ++ (uw_Table ad_tc cA_tc tc ++ (uw_Out ad_ot cA_ot ot ++ (uw_Model ad_md cA_md md))))))))) → va_S A s.heap H locs → lv_has ls 7 [(0, .ref b), (1, .ref (ad_ht 0)), (2, .ref (ad_md 0)), (3, .ref (ad_ot 1)), (4, .int y4)] → W p l e room_1 s m #[Value.ref b] below meth c H locs cs sl (lw_Z below #[Value.ref b] s) (F0 m 777 ls []) := by
  obtain ⟨hx, hb, hr, hml, hown, hts0, hX0, hbl, hlocks, hgv⟩ := C0
  have hown : s.vm.findClass "HazardTablesLaw" = some m.cls := hown
  have hts : ∀ w ∈ (Cond.initialized "HazardTables" :: WA), w.before #[Value.ref b] s = true := fun w h => hts0 w ((List.mem_cons.mp h).elim (fun e => by rw [e]; exact (List.mem_filter.mp wd_43).1) (fun h => (List.mem_filter.mp h).1))
  have hbA : ¬ A b := fun h => absurd (hA2 b h) (Nat.not_le.mpr hbl)
  intro ad_ht cA_ht ad_rd cA_rd ad_sp cA_sp ad_mx cA_mx ad_ar cA_ar ad_tb cA_tb ad_tc cA_tc ad_ot cA_ot ad_md cA_md ht rd sp mx ar tb tc ot md y4 H locs ls hf hK hP hD hS hl
  unfold f_Law_case_777 at hf
  refine lv_iinc (v := y4 + (4 : Int32)) (lv' := [(4, .int (y4 + (4 : Int32))), (0, .ref b), (1, .ref (ad_ht 0)), (2, .ref (ad_md 0)), (3, .ref (ad_ot 1))]) hx hb d_Law_law_777 hl (k := 4) rfl rfl (by decide) rfl (fun ls hl => ?_)
  refine lv_goto (tgt := 23) hx hb d_Law_law_780 (by decide) ?_
  refine W.widen (k := cs + 1) (n := sl + 6) (by omega) (by omega) ?_
  exact hk ad_ht cA_ht ad_rd cA_rd ad_sp cA_sp ad_mx cA_mx ad_ar cA_ar ad_tb cA_tb ad_tc cA_tc ad_ot cA_ot ad_md cA_md ht rd sp mx ar tb tc ot md (y4 + (4 : Int32)) H locs ls hf hK hP hD hS (lv_sub hl [1, 2, 3, 4, 0] rfl)
