noncomputable def f_Law_case_636 (L : Nat) (xs : Nat → Int32) (k : SHT → SReader → SSpeller → SMixture → SSurroundings → STable → STable → SOut → SModel → Int32 → Option Bool) (ht : SHT) (rd : SReader) (sp : SSpeller) (mx : SMixture) (ar : SSurroundings) (tb : STable) (tc : STable) (ot : SOut) (md : SModel) (y4 : Int32) : Option Bool :=
  (if inb (y4 + (1 : Int32)) L then
    (Option.bind (f_Law_strict ht ot mx tb (xs (y4 + (1 : Int32)).toNatClampNeg)) fun u2 =>
      (if inb (y4 + (1 : Int32)) L then
        (Option.bind (f_Model_strict md (xs (y4 + (1 : Int32)).toNatClampNeg)) fun u4 =>
          (Option.bind (f_Model_thrown u4.2) fun u5 =>
            (if u5 = u2.1 then
              (if u2.1 = 0 then
                (if inb (0 : Int32) 1 then
                  (if (lg_cmp (u2.2 (0 : Int32).toNatClampNeg) u4.1.toInt64) = 0 then
                    (k ht rd sp mx ar tb tc u2.2 u4.2 (y4 + (4 : Int32)))
                   else
                    (some false)
                   )
                 else none)
               else
                (k ht rd sp mx ar tb tc u2.2 u4.2 (y4 + (4 : Int32)))
               )
             else
              (some false)
             )
           )
         )
       else none)
     )
   else none)
set_option maxHeartbeats 4000000 in
set_option maxRecDepth 100000 in
theorem k_Law_case_636 {rv : Bool} {p : Program} {l : Launch} {e : Env} {s : State} {m : MethodId} {below : List Frame} {meth : Method} {c : Code} {dC : Nat → ClassId} {dI : Nat → Nat → Nat} {b L : Nat} {xs : Nat → Int32} {A : Nat → Prop} (htr : l.stackTraces = false) (C0 : lw_At p s m meth c b L xs) (hN : nwAll s) (hX : xAll A s) (hnc : ncAll s) (hA : ∀ q : Nat, s.heap.size ≤ q → A q) (hA2 : ∀ q : Nat, A q → s.heap.size ≤ q) (cs sl : Nat) (hcs : cs + 1 ≤ 1092) (hsl : sl + 6 ≤ 11944) (k : SHT → SReader → SSpeller → SMixture → SSurroundings → STable → STable → SOut → SModel → Int32 → Option Bool) (hk : ∀ (ad_ht : Nat → Nat) (cA_ht : Nat → ClassId) (ad_rd : Nat → Nat) (cA_rd : Nat → ClassId) (ad_sp : Nat → Nat) (cA_sp : Nat → ClassId) (ad_mx : Nat → Nat) (cA_mx : Nat → ClassId) (ad_ar : Nat → Nat) (cA_ar : Nat → ClassId) (ad_tb : Nat → Nat) (cA_tb : Nat → ClassId) (ad_tc : Nat → Nat) (cA_tc : Nat → ClassId) (ad_ot : Nat → Nat) (cA_ot : Nat → ClassId) (ad_md : Nat → Nat) (cA_md : Nat → ClassId) (ht : SHT) (rd : SReader) (sp : SSpeller) (mx : SMixture) (ar : SSurroundings) (tb : STable) (tc : STable) (ot : SOut) (md : SModel) (y4 : Int32) (H : Heap) (locs : List Loc) (ls : Array Slot), k ht rd sp mx ar tb tc ot md y4 = some rv → va_K (dC, dI) vwCl [(cA_ht 1, .int), (cA_rd 1, .int), (cA_sp 1, .int), (cA_sp 2, .int), (cA_sp 3, .int), (cA_sp 4, .int), (cA_mx 1, .int), (cA_mx 2, .int), (cA_mx 3, .boolean), (cA_ar 1, .int), (cA_ar 2, .int), (cA_ar 3, .int), (cA_tb 1, .int), (cA_tb 2, .int), (cA_tb 3, .int), (cA_tb 4, .byte), (cA_tc 1, .int), (cA_tc 2, .int), (cA_tc 3, .int), (cA_tc 4, .byte), (cA_ot 1, .long), (cA_md 1, .int), (cA_md 2, .int), (cA_md 3, .int), (cA_md 4, .int), (cA_md 5, .int), (cA_md 6, .int), (cA_md 7, .int), (cA_md 8, .int), (cA_md 9, .boolean), (cA_md 10, .int), (cA_md 11, .int), (cA_md 12, .int), (cA_md 13, .int)] s → va_P (dC, dI) vwCl (uw_HT ad_ht cA_ht (ad_rd 0) (ad_sp 0) (ad_mx 0) (ad_ar 0) (ad_tb 0) (ad_tc 0) ht ++ (uw_Reader ad_rd cA_rd rd ++ (uw_Speller ad_sp cA_sp sp ++ (uw_Mixture ad_mx cA_mx mx ++ (uw_Surroundings ad_ar cA_ar ar ++ (uw_Table ad_tb cA_tb tb ++ (uw_Table ad_tc cA_tc tc ++ (uw_Out ad_ot cA_ot ot ++ (uw_Model ad_md cA_md md))))))))) H → va_D A (uw_HT ad_ht cA_ht (ad_rd 0) (ad_sp 0) (ad_mx 0) (ad_ar 0) (ad_tb 0) (ad_tc 0) ht ++ (uw_Reader ad_rd cA_rd rd ++ (uw_Speller ad_sp cA_sp sp ++ (uw_Mixture ad_mx cA_mx mx ++ (uw_Surroundings ad_ar cA_ar ar ++ (uw_Table ad_tb cA_tb tb ++ (uw_Table ad_tc cA_tc tc ++ (uw_Out ad_ot cA_ot ot ++ (uw_Model ad_md cA_md md))))))))) → va_S A s.heap H locs → lv_has ls 7 [(0, .ref b), (1, .ref (ad_ht 0)), (2, .ref (ad_md 0)), (3, .ref (ad_ot 1)), (4, .int y4)] → W p l e room_1 s m #[Value.ref b] below meth c H locs (cs + 1) (sl + 6) (lw_Zb rv below #[Value.ref b] s) (F0 m 23 ls [])) : ∀ (ad_ht : Nat → Nat) (cA_ht : Nat → ClassId) (ad_rd : Nat → Nat) (cA_rd : Nat → ClassId) (ad_sp : Nat → Nat) (cA_sp : Nat → ClassId) (ad_mx : Nat → Nat) (cA_mx : Nat → ClassId) (ad_ar : Nat → Nat) (cA_ar : Nat → ClassId) (ad_tb : Nat → Nat) (cA_tb : Nat → ClassId) (ad_tc : Nat → Nat) (cA_tc : Nat → ClassId) (ad_ot : Nat → Nat) (cA_ot : Nat → ClassId) (ad_md : Nat → Nat) (cA_md : Nat → ClassId) (ht : SHT) (rd : SReader) (sp : SSpeller) (mx : SMixture) (ar : SSurroundings) (tb : STable) (tc : STable) (ot : SOut) (md : SModel) (y4 : Int32) (H : Heap) (locs : List Loc) (ls : Array Slot), f_Law_case_636 L xs k ht rd sp mx ar tb tc ot md y4 = some rv → va_K (dC, dI) vwCl [(cA_ht 1, .int), (cA_rd 1, .int), (cA_sp 1, .int), (cA_sp 2, .int), (cA_sp 3, .int), (cA_sp 4, .int), (cA_mx 1, .int), (cA_mx 2, .int), (cA_mx 3, .boolean), (cA_ar 1, .int), (cA_ar 2, .int), (cA_ar 3, .int), (cA_tb 1, .int), (cA_tb 2, .int), (cA_tb 3, .int), (cA_tb 4, .byte), (cA_tc 1, .int), (cA_tc 2, .int), (cA_tc 3, .int), (cA_tc 4, .byte), (cA_ot 1, .long), (cA_md 1, .int), (cA_md 2, .int), (cA_md 3, .int), (cA_md 4, .int), (cA_md 5, .int), (cA_md 6, .int), (cA_md 7, .int), (cA_md 8, .int), (cA_md 9, .boolean), (cA_md 10, .int), (cA_md 11, .int), (cA_md 12, .int), (cA_md 13, .int)] s → va_P (dC, dI) vwCl (uw_HT ad_ht cA_ht (ad_rd 0) (ad_sp 0) (ad_mx 0) (ad_ar 0) (ad_tb 0) (ad_tc 0) ht ++ (uw_Reader ad_rd cA_rd rd ++ (uw_Speller ad_sp cA_sp sp ++ (uw_Mixture ad_mx cA_mx mx ++ (uw_Surroundings ad_ar cA_ar ar ++ (uw_Table ad_tb cA_tb tb ++ (uw_Table ad_tc cA_tc tc ++ (uw_Out ad_ot cA_ot ot ++ (uw_Model ad_md cA_md md))))))))) H → va_D A (uw_HT ad_ht cA_ht (ad_rd 0) (ad_sp 0) (ad_mx 0) (ad_ar 0) (ad_tb 0) (ad_tc 0) ht ++ (uw_Reader ad_rd cA_rd rd ++ (uw_Speller ad_sp cA_sp sp ++ (uw_Mixture ad_mx cA_mx mx ++ (uw_Surroundings ad_ar cA_ar ar ++ (uw_Table ad_tb cA_tb tb ++ (uw_Table ad_tc cA_tc tc ++ (uw_Out ad_ot cA_ot ot ++ (uw_Model ad_md cA_md md))))))))) → va_S A s.heap H locs → lv_has ls 7 [(0, .ref b), (1, .ref (ad_ht 0)), (2, .ref (ad_md 0)), (3, .ref (ad_ot 1)), (4, .int y4)] → W p l e room_1 s m #[Value.ref b] below meth c H locs cs sl (lw_Zb rv below #[Value.ref b] s) (F0 m 636 ls []) := by
  obtain ⟨hx, hb, hr, hml, hown, hts0, hX0, hbl, hlocks, hgv⟩ := C0
  have hown : s.vm.findClass "HazardTablesLaw" = some m.cls := hown
  have hts : ∀ w ∈ (Cond.initialized "HazardTables" :: WA), w.before #[Value.ref b] s = true := fun w h => hts0 w ((List.mem_cons.mp h).elim (fun e => by rw [e]; exact (List.mem_filter.mp wd_43).1) (fun h => (List.mem_filter.mp h).1))
  have hbA : ¬ A b := fun h => absurd (hA2 b h) (Nat.not_le.mpr hbl)
  intro ad_ht cA_ht ad_rd cA_rd ad_sp cA_sp ad_mx cA_mx ad_ar cA_ar ad_tb cA_tb ad_tc cA_tc ad_ot cA_ot ad_md cA_md ht rd sp mx ar tb tc ot md y4 H locs ls hf hK hP hD hS hl
  unfold f_Law_case_636 at hf
  refine lv_aload_n hx hb d_Law_law_636 rfl (lv_at hl 1 rfl) ?_
  refine lv_aload_n hx hb d_Law_law_637 rfl (lv_at hl 0 rfl) ?_
  refine lv_iload hx hb d_Law_law_638 (lv_at hl 4 rfl) ?_
  refine lv_iconst (v := (1 : Int32)) hx hb d_Law_law_640 (by decide) ?_
  refine lv_iadd hx hb d_Law_law_641 ?_
  obtain ⟨hi1, hf⟩ := hf_g hf
  refine va_sld hx hb hX0 hbl hbA hS hi1 d_Law_law_642 ?_
  refine lv_aload_n hx hb d_Law_law_643 rfl (lv_at hl 3 rfl) ?_
  obtain ⟨u2, hu2, hf⟩ := Option.bind_eq_some_iff.mp hf
  refine cl_i (wc := (uw_HT ad_ht cA_ht (ad_rd 0) (ad_sp 0) (ad_mx 0) (ad_ar 0) (ad_tb 0) (ad_tc 0) ht ++ (uw_Out ad_ot cA_ot ot ++ (uw_Mixture ad_mx cA_mx mx ++ (uw_Table ad_tb cA_tb tb))))) (wr := (uw_Reader ad_rd cA_rd rd ++ (uw_Speller ad_sp cA_sp sp ++ (uw_Surroundings ad_ar cA_ar ar ++ (uw_Table ad_tc cA_tc tc ++ (uw_Model ad_md cA_md md)))))) (tysC := [(cA_ht 1, .int), (cA_ot 1, .long), (cA_mx 1, .int), (cA_mx 2, .int), (cA_mx 3, .boolean), (cA_tb 1, .int), (cA_tb 2, .int), (cA_tb 3, .int), (cA_tb 4, .byte)]) (wu := fun (u : SOut) => (uw_HT ad_ht cA_ht (ad_rd 0) (ad_sp 0) (ad_mx 0) (ad_ar 0) (ad_tb 0) (ad_tc 0) ht ++ (uw_Out ad_ot cA_ot u ++ (uw_Mixture ad_mx cA_mx mx ++ (uw_Table ad_tb cA_tb tb))))) (wn := fun (u : SOut) => (uw_HT ad_ht cA_ht (ad_rd 0) (ad_sp 0) (ad_mx 0) (ad_ar 0) (ad_tb 0) (ad_tc 0) ht ++ (uw_Reader ad_rd cA_rd rd ++ (uw_Speller ad_sp cA_sp sp ++ (uw_Mixture ad_mx cA_mx mx ++ (uw_Surroundings ad_ar cA_ar ar ++ (uw_Table ad_tb cA_tb tb ++ (uw_Table ad_tc cA_tc tc ++ (uw_Out ad_ot cA_ot u ++ (uw_Model ad_md cA_md md)))))))))) [0, 1, 27, 9, 10, 11, 12, 17, 18, 19, 20, 21] [2, 3, 4, 5, 6, 7, 8, 13, 14, 15, 16, 22, 23, 24, 25, 26, 28, 29, 30, 31, 32, 33, 34, 35, 36, 37, 38, 39, 40, 41] [30, 31, 0, 1, 2, 3, 4, 5, 6, 33, 34, 35, 36, 7, 8, 9, 10, 37, 38, 39, 40, 41, 11, 12, 13, 14, 15, 32, 16, 17, 18, 19, 20, 21, 22, 23, 24, 25, 26, 27, 28, 29] [0, 20, 6, 7, 8, 12, 13, 14, 15] hP hD hS hA hK rfl rfl (by decide +kernel) (by decide +kernel) (by decide +kernel) rfl (fun _ => rfl) (by decide +kernel) (fun hPc hKc hDc => (vx_runSW (As := [.ref (ad_ht 0), .int (xs (y4 + (1 : Int32)).toNatClampNeg), .ref (ad_ot 1)]) (rest := []) ⟨hx, hb, hml, hown, hts⟩ (k_Law_strict l dC dI ad_ht cA_ht ad_ot cA_ot ad_mx cA_mx ad_tb cA_tb ad_rd cA_rd ad_sp cA_sp ad_ar cA_ar ad_tc cA_tc H.size ht ot mx tb (xs (y4 + (1 : Int32)).toNatClampNeg) u2 hu2 htr) (vx_cwSW 3 hts (gSW wd_634 wd_635 wd_42 wd_636) rfl rfl rfl (by decide +kernel) ⟨Nat.le_of_ble_eq_true rfl, Nat.le_of_ble_eq_true rfl⟩) (cx_preL hPc hKc hDc hN (fun U hU hW => xAll_at hX hS (va_free hD hS hA [0, 1, 27, 9, 10, 11, 12, 17, 18, 19, 20, 21] rfl) hU hW) hnc) rfl rfl hl.1 rfl (lv_room (Nat.le_of_ble_eq_true rfl)) d_Law_law_644 ⟨by show _ ≤ 1092; omega, by show _ ≤ 11944; omega⟩)) (fun r u H locs hw hP hD hS => ?_)
  obtain ⟨hw1, hw2⟩ := hw
  have hw1 := hw1.symm
  have hw2 := hw2.symm
  subst hw1
  subst hw2
  have hP : va_P (dC, dI) vwCl (uw_HT ad_ht cA_ht (ad_rd 0) (ad_sp 0) (ad_mx 0) (ad_ar 0) (ad_tb 0) (ad_tc 0) ht ++ (uw_Reader ad_rd cA_rd rd ++ (uw_Speller ad_sp cA_sp sp ++ (uw_Mixture ad_mx cA_mx mx ++ (uw_Surroundings ad_ar cA_ar ar ++ (uw_Table ad_tb cA_tb tb ++ (uw_Table ad_tc cA_tc tc ++ (uw_Out ad_ot cA_ot u2.2 ++ (uw_Model ad_md cA_md md))))))))) H := hP
  have hD : va_D A (uw_HT ad_ht cA_ht (ad_rd 0) (ad_sp 0) (ad_mx 0) (ad_ar 0) (ad_tb 0) (ad_tc 0) ht ++ (uw_Reader ad_rd cA_rd rd ++ (uw_Speller ad_sp cA_sp sp ++ (uw_Mixture ad_mx cA_mx mx ++ (uw_Surroundings ad_ar cA_ar ar ++ (uw_Table ad_tb cA_tb tb ++ (uw_Table ad_tc cA_tc tc ++ (uw_Out ad_ot cA_ot u2.2 ++ (uw_Model ad_md cA_md md))))))))) := hD
  refine lv_istore (lv' := [(5, .int u2.1), (0, .ref b), (1, .ref (ad_ht 0)), (2, .ref (ad_md 0)), (3, .ref (ad_ot 1)), (4, .int y4)]) hx hb d_Law_law_647 hl (by decide) rfl (fun ls hl => ?_)
  refine lv_aload_n hx hb d_Law_law_649 rfl (lv_at hl 3 rfl) ?_
  refine lv_aload_n hx hb d_Law_law_650 rfl (lv_at hl 1 rfl) ?_
  refine lv_iload hx hb d_Law_law_651 (lv_at hl 5 rfl) ?_
  refine lv_iconst (v := (1 : Int32)) hx hb d_Law_law_653 (by decide) ?_
  refine lv_iadd hx hb d_Law_law_654 ?_
  obtain ⟨hi3, hf⟩ := hf_g hf
  refine va_sld hx hb hX0 hbl hbA hS hi3 d_Law_law_655 ?_
  obtain ⟨u4, hu4, hf⟩ := Option.bind_eq_some_iff.mp hf
  refine cl_i (wc := (uw_Model ad_md cA_md md)) (wr := (uw_HT ad_ht cA_ht (ad_rd 0) (ad_sp 0) (ad_mx 0) (ad_ar 0) (ad_tb 0) (ad_tc 0) ht ++ (uw_Reader ad_rd cA_rd rd ++ (uw_Speller ad_sp cA_sp sp ++ (uw_Mixture ad_mx cA_mx mx ++ (uw_Surroundings ad_ar cA_ar ar ++ (uw_Table ad_tb cA_tb tb ++ (uw_Table ad_tc cA_tc tc ++ (uw_Out ad_ot cA_ot u2.2))))))))) (tysC := [(cA_md 1, .int), (cA_md 2, .int), (cA_md 3, .int), (cA_md 4, .int), (cA_md 5, .int), (cA_md 6, .int), (cA_md 7, .int), (cA_md 8, .int), (cA_md 9, .boolean), (cA_md 10, .int), (cA_md 11, .int), (cA_md 12, .int), (cA_md 13, .int)]) (wu := fun (u : SModel) => (uw_Model ad_md cA_md u)) (wn := fun (u : SModel) => (uw_HT ad_ht cA_ht (ad_rd 0) (ad_sp 0) (ad_mx 0) (ad_ar 0) (ad_tb 0) (ad_tc 0) ht ++ (uw_Reader ad_rd cA_rd rd ++ (uw_Speller ad_sp cA_sp sp ++ (uw_Mixture ad_mx cA_mx mx ++ (uw_Surroundings ad_ar cA_ar ar ++ (uw_Table ad_tb cA_tb tb ++ (uw_Table ad_tc cA_tc tc ++ (uw_Out ad_ot cA_ot u2.2 ++ (uw_Model ad_md cA_md u)))))))))) [28, 29, 30, 31, 32, 33, 34, 35, 36, 37, 38, 39, 40, 41] [0, 1, 2, 3, 4, 5, 6, 7, 8, 9, 10, 11, 12, 13, 14, 15, 16, 17, 18, 19, 20, 21, 22, 23, 24, 25, 26, 27] [0, 1, 2, 3, 4, 5, 6, 7, 8, 9, 10, 11, 12, 13, 14, 15, 16, 17, 18, 19, 20, 21, 22, 23, 24, 25, 26, 27, 28, 29, 30, 31, 32, 33, 34, 35, 36, 37, 38, 39, 40, 41] [21, 22, 23, 24, 25, 26, 27, 28, 29, 30, 31, 32, 33] hP hD hS hA hK rfl rfl (by decide +kernel) (by decide +kernel) (by decide +kernel) rfl (fun _ => rfl) (by decide +kernel) (fun hPc hKc hDc => (va_runV (As := [.int (xs (y4 + (1 : Int32)).toNatClampNeg)]) (rest := []) ⟨hx, hb, hml, hown, hts⟩ (k_Model_strict l dC dI ad_md cA_md H.size md (xs (y4 + (1 : Int32)).toNatClampNeg) u4 hu4) (cwV 1 hts (gV wd_963 wd_964 wd_965 wd_49 wd_966) rfl rfl rfl (by decide +kernel) ⟨Nat.le_of_ble_eq_true rfl, Nat.le_of_ble_eq_true rfl⟩) (cl_preV hPc hKc hDc hN (ci := 6) 0 rfl rfl) rfl rfl hl.1 rfl (lv_room (Nat.le_of_ble_eq_true rfl)) d_Law_law_656 ⟨by show _ ≤ 1092; omega, by show _ ≤ 11944; omega⟩)) (fun r u H locs hw hP hD hS => ?_)
  obtain ⟨hw1, hw2⟩ := hw
  have hw1 := hw1.symm
  have hw2 := hw2.symm
  subst hw1
  subst hw2
  have hP : va_P (dC, dI) vwCl (uw_HT ad_ht cA_ht (ad_rd 0) (ad_sp 0) (ad_mx 0) (ad_ar 0) (ad_tb 0) (ad_tc 0) ht ++ (uw_Reader ad_rd cA_rd rd ++ (uw_Speller ad_sp cA_sp sp ++ (uw_Mixture ad_mx cA_mx mx ++ (uw_Surroundings ad_ar cA_ar ar ++ (uw_Table ad_tb cA_tb tb ++ (uw_Table ad_tc cA_tc tc ++ (uw_Out ad_ot cA_ot u2.2 ++ (uw_Model ad_md cA_md u4.2))))))))) H := hP
  have hD : va_D A (uw_HT ad_ht cA_ht (ad_rd 0) (ad_sp 0) (ad_mx 0) (ad_ar 0) (ad_tb 0) (ad_tc 0) ht ++ (uw_Reader ad_rd cA_rd rd ++ (uw_Speller ad_sp cA_sp sp ++ (uw_Mixture ad_mx cA_mx mx ++ (uw_Surroundings ad_ar cA_ar ar ++ (uw_Table ad_tb cA_tb tb ++ (uw_Table ad_tc cA_tc tc ++ (uw_Out ad_ot cA_ot u2.2 ++ (uw_Model ad_md cA_md u4.2))))))))) := hD
  refine lv_istore (lv' := [(6, .int u4.1), (5, .int u2.1), (0, .ref b), (1, .ref (ad_ht 0)), (2, .ref (ad_md 0)), (3, .ref (ad_ot 1)), (4, .int y4)]) hx hb d_Law_law_659 hl (by decide) rfl (fun ls hl => ?_)
  refine lv_aload_n hx hb d_Law_law_661 rfl (lv_at hl 4 rfl) ?_
  obtain ⟨u5, hu5, hf⟩ := Option.bind_eq_some_iff.mp hf
  refine cl_i (wc := (uw_Model ad_md cA_md u4.2)) (wr := (uw_HT ad_ht cA_ht (ad_rd 0) (ad_sp 0) (ad_mx 0) (ad_ar 0) (ad_tb 0) (ad_tc 0) ht ++ (uw_Reader ad_rd cA_rd rd ++ (uw_Speller ad_sp cA_sp sp ++ (uw_Mixture ad_mx cA_mx mx ++ (uw_Surroundings ad_ar cA_ar ar ++ (uw_Table ad_tb cA_tb tb ++ (uw_Table ad_tc cA_tc tc ++ (uw_Out ad_ot cA_ot u2.2))))))))) (tysC := [(cA_md 1, .int), (cA_md 2, .int), (cA_md 3, .int), (cA_md 4, .int), (cA_md 5, .int), (cA_md 6, .int), (cA_md 7, .int), (cA_md 8, .int), (cA_md 9, .boolean), (cA_md 10, .int), (cA_md 11, .int), (cA_md 12, .int), (cA_md 13, .int)]) (wu := fun (u : Unit) => (uw_Model ad_md cA_md u4.2)) (wn := fun (u : Unit) => (uw_HT ad_ht cA_ht (ad_rd 0) (ad_sp 0) (ad_mx 0) (ad_ar 0) (ad_tb 0) (ad_tc 0) ht ++ (uw_Reader ad_rd cA_rd rd ++ (uw_Speller ad_sp cA_sp sp ++ (uw_Mixture ad_mx cA_mx mx ++ (uw_Surroundings ad_ar cA_ar ar ++ (uw_Table ad_tb cA_tb tb ++ (uw_Table ad_tc cA_tc tc ++ (uw_Out ad_ot cA_ot u2.2 ++ (uw_Model ad_md cA_md u4.2)))))))))) [28, 29, 30, 31, 32, 33, 34, 35, 36, 37, 38, 39, 40, 41] [0, 1, 2, 3, 4, 5, 6, 7, 8, 9, 10, 11, 12, 13, 14, 15, 16, 17, 18, 19, 20, 21, 22, 23, 24, 25, 26, 27] [0, 1, 2, 3, 4, 5, 6, 7, 8, 9, 10, 11, 12, 13, 14, 15, 16, 17, 18, 19, 20, 21, 22, 23, 24, 25, 26, 27, 28, 29, 30, 31, 32, 33, 34, 35, 36, 37, 38, 39, 40, 41] [21, 22, 23, 24, 25, 26, 27, 28, 29, 30, 31, 32, 33] hP hD hS hA hK rfl rfl (by decide +kernel) (by decide +kernel) (by decide +kernel) rfl (fun _ => rfl) (by decide +kernel) (fun hPc hKc hDc => (va_runV (As := []) (rest := []) ⟨hx, hb, hml, hown, hts⟩ (k_Model_thrown l dC dI ad_md cA_md H.size u4.2 u5 hu5) (cwV 0 hts (gV wd_839 wd_840 wd_841 wd_49 wd_842) rfl rfl rfl (by decide +kernel) ⟨Nat.le_of_ble_eq_true rfl, Nat.le_of_ble_eq_true rfl⟩) (cl_preV hPc hKc hDc hN (ci := 6) 0 rfl rfl) rfl rfl hl.1 rfl (lv_room (Nat.le_of_ble_eq_true rfl)) d_Law_law_662 ⟨by show _ ≤ 1092; omega, by show _ ≤ 11944; omega⟩)) (fun r u H locs hw hP hD hS => ?_)
  have hw := hw.symm
  subst hw
  have hP : va_P (dC, dI) vwCl (uw_HT ad_ht cA_ht (ad_rd 0) (ad_sp 0) (ad_mx 0) (ad_ar 0) (ad_tb 0) (ad_tc 0) ht ++ (uw_Reader ad_rd cA_rd rd ++ (uw_Speller ad_sp cA_sp sp ++ (uw_Mixture ad_mx cA_mx mx ++ (uw_Surroundings ad_ar cA_ar ar ++ (uw_Table ad_tb cA_tb tb ++ (uw_Table ad_tc cA_tc tc ++ (uw_Out ad_ot cA_ot u2.2 ++ (uw_Model ad_md cA_md u4.2))))))))) H := hP
  have hD : va_D A (uw_HT ad_ht cA_ht (ad_rd 0) (ad_sp 0) (ad_mx 0) (ad_ar 0) (ad_tb 0) (ad_tc 0) ht ++ (uw_Reader ad_rd cA_rd rd ++ (uw_Speller ad_sp cA_sp sp ++ (uw_Mixture ad_mx cA_mx mx ++ (uw_Surroundings ad_ar cA_ar ar ++ (uw_Table ad_tb cA_tb tb ++ (uw_Table ad_tc cA_tc tc ++ (uw_Out ad_ot cA_ot u2.2 ++ (uw_Model ad_md cA_md u4.2))))))))) := hD
  refine lv_iload hx hb d_Law_law_665 (lv_at hl 1 rfl) ?_
  refine lv_icmp_eq (tgt := 672) hx hb d_Law_law_667 (by decide) (fun hc6 => ?_) (fun hc6 => ?_)
  · have hf := hf_t hf hc6
    refine lv_iload hx hb d_Law_law_672 (lv_at hl 1 rfl) ?_
    refine lv_if_ne (tgt := 689) hx hb d_Law_law_674 (by decide) (fun hc7 => ?_) (fun hc7 => ?_)
    · have hf := hf_f hf hc7
      refine lv_goto (tgt := 1166) hx hb d_Law_law_689 (by decide) ?_
      refine lv_iinc (v := y4 + (4 : Int32)) (lv' := [(4, .int (y4 + (4 : Int32))), (6, .int u4.1), (5, .int u2.1), (0, .ref b), (1, .ref (ad_ht 0)), (2, .ref (ad_md 0)), (3, .ref (ad_ot 1))]) hx hb d_Law_law_1166 hl (k := 6) rfl rfl (by decide) rfl (fun ls hl => ?_)
      refine lv_goto (tgt := 23) hx hb d_Law_law_1169 (by decide) ?_
      refine W.widen (k := cs + 1) (n := sl + 6) (by omega) (by omega) ?_
      exact hk ad_ht cA_ht ad_rd cA_rd ad_sp cA_sp ad_mx cA_mx ad_ar cA_ar ad_tb cA_tb ad_tc cA_tc ad_ot cA_ot ad_md cA_md ht rd sp mx ar tb tc u2.2 u4.2 (y4 + (4 : Int32)) H locs ls hf hK hP hD hS (lv_sub hl [3, 4, 5, 6, 0] rfl)
    · have hf := hf_t hf hc7
      refine lv_aload_n hx hb d_Law_law_677 rfl (lv_at hl 5 rfl) ?_
      refine lv_iconst (v := (0 : Int32)) hx hb d_Law_law_678 (by decide) ?_
      obtain ⟨hi8, hf⟩ := hf_g hf
      refine va_lald hx hb hK hP 27 20 rfl rfl hi8 d_Law_law_679 ?_
      refine lv_iload hx hb d_Law_law_680 (lv_at hl 0 rfl) ?_
      refine lv_i2l (v := u4.1.toInt64) hx hb d_Law_law_682 rfl ?_
      refine W.lcmp hx hb d_Law_law_683 ?_
      refine lv_if_eq (tgt := 689) hx hb d_Law_law_684 (by decide) (fun hc9 => ?_) (fun hc9 => ?_)
      · have hf := hf_t hf hc9
        refine lv_goto (tgt := 1166) hx hb d_Law_law_689 (by decide) ?_
        refine lv_iinc (v := y4 + (4 : Int32)) (lv' := [(4, .int (y4 + (4 : Int32))), (6, .int u4.1), (5, .int u2.1), (0, .ref b), (1, .ref (ad_ht 0)), (2, .ref (ad_md 0)), (3, .ref (ad_ot 1))]) hx hb d_Law_law_1166 hl (k := 6) rfl rfl (by decide) rfl (fun ls hl => ?_)
        refine lv_goto (tgt := 23) hx hb d_Law_law_1169 (by decide) ?_
        refine W.widen (k := cs + 1) (n := sl + 6) (by omega) (by omega) ?_
        exact hk ad_ht cA_ht ad_rd cA_rd ad_sp cA_sp ad_mx cA_mx ad_ar cA_ar ad_tb cA_tb ad_tc cA_tc ad_ot cA_ot ad_md cA_md ht rd sp mx ar tb tc u2.2 u4.2 (y4 + (4 : Int32)) H locs ls hf hK hP hD hS (lv_sub hl [3, 4, 5, 6, 0] rfl)
      · have hf := hf_f hf hc9
        refine lv_iconst (v := (0 : Int32)) hx hb d_Law_law_687 (by decide) ?_
        have hrv : rv = false := (Option.some.inj hf).symm
        subst hrv
        refine va_forget (fun q hq => hA2 _ (hS.2.2 q hq)) ?_
        refine W.widen (k := 1092) (n := 11944) (by omega) (by omega) ?_
        exact lw_ret0b hx hb hr hlocks d_Law_law_688
  · have hf := hf_f hf hc6
    refine lv_iconst (v := (0 : Int32)) hx hb d_Law_law_670 (by decide) ?_
    have hrv : rv = false := (Option.some.inj hf).symm
    subst hrv
    refine va_forget (fun q hq => hA2 _ (hS.2.2 q hq)) ?_
    refine W.widen (k := 1092) (n := 11944) (by omega) (by omega) ?_
    exact lw_ret0b hx hb hr hlocks d_Law_law_671
noncomputable def f_Law_case_692 (L : Nat) (xs : Nat → Int32) (k : SHT → SReader → SSpeller → SMixture → SSurroundings → STable → STable → SOut → SModel → Int32 → Option Bool) (ht : SHT) (rd : SReader) (sp : SSpeller) (mx : SMixture) (ar : SSurroundings) (tb : STable) (tc : STable) (ot : SOut) (md : SModel) (y4 : Int32) : Option Bool :=
  (if inb (y4 + (1 : Int32)) L then
    (if inb (y4 + (2 : Int32)) L then
      (Option.bind (f_Law_building ht ot ar (xs (y4 + (1 : Int32)).toNatClampNeg) (xs (y4 + (2 : Int32)).toNatClampNeg)) fun u3 =>
        (if inb (y4 + (1 : Int32)) L then
          (if inb (y4 + (2 : Int32)) L then
            (Option.bind (f_Model_building md (xs (y4 + (1 : Int32)).toNatClampNeg) (xs (y4 + (2 : Int32)).toNatClampNeg)) fun u6 =>
              (Option.bind (f_Model_thrown u6.2) fun u7 =>
                (if u7 = u3.1 then
                  (if u3.1 = 0 then
                    (if inb (0 : Int32) 1 then
                      (if (lg_cmp (u3.2.1 (0 : Int32).toNatClampNeg) u6.1.toInt64) = 0 then
                        (k ht rd sp mx u3.2.2 tb tc u3.2.1 u6.2 (y4 + (4 : Int32)))
                       else
                        (some false)
                       )
                     else none)
                   else
                    (k ht rd sp mx u3.2.2 tb tc u3.2.1 u6.2 (y4 + (4 : Int32)))
                   )
                 else
                  (some false)
                 )
               )
             )
           else none)
         else none)
       )
     else none)
   else none)
set_option maxHeartbeats 4000000 in
set_option maxRecDepth 100000 in
theorem k_Law_case_692 {rv : Bool} {p : Program} {l : Launch} {e : Env} {s : State} {m : MethodId} {below : List Frame} {meth : Method} {c : Code} {dC : Nat → ClassId} {dI : Nat → Nat → Nat} {b L : Nat} {xs : Nat → Int32} {A : Nat → Prop} (htr : l.stackTraces = false) (C0 : lw_At p s m meth c b L xs) (hN : nwAll s) (hX : xAll A s) (hnc : ncAll s) (hA : ∀ q : Nat, s.heap.size ≤ q → A q) (hA2 : ∀ q : Nat, A q → s.heap.size ≤ q) (cs sl : Nat) (hcs : cs + 1 ≤ 1092) (hsl : sl + 6 ≤ 11944) (k : SHT → SReader → SSpeller → SMixture → SSurroundings → STable → STable → SOut → SModel → Int32 → Option Bool) (hk : ∀ (ad_ht : Nat → Nat) (cA_ht : Nat → ClassId) (ad_rd : Nat → Nat) (cA_rd : Nat → ClassId) (ad_sp : Nat → Nat) (cA_sp : Nat → ClassId) (ad_mx : Nat → Nat) (cA_mx : Nat → ClassId) (ad_ar : Nat → Nat) (cA_ar : Nat → ClassId) (ad_tb : Nat → Nat) (cA_tb : Nat → ClassId) (ad_tc : Nat → Nat) (cA_tc : Nat → ClassId) (ad_ot : Nat → Nat) (cA_ot : Nat → ClassId) (ad_md : Nat → Nat) (cA_md : Nat → ClassId) (ht : SHT) (rd : SReader) (sp : SSpeller) (mx : SMixture) (ar : SSurroundings) (tb : STable) (tc : STable) (ot : SOut) (md : SModel) (y4 : Int32) (H : Heap) (locs : List Loc) (ls : Array Slot), k ht rd sp mx ar tb tc ot md y4 = some rv → va_K (dC, dI) vwCl [(cA_ht 1, .int), (cA_rd 1, .int), (cA_sp 1, .int), (cA_sp 2, .int), (cA_sp 3, .int), (cA_sp 4, .int), (cA_mx 1, .int), (cA_mx 2, .int), (cA_mx 3, .boolean), (cA_ar 1, .int), (cA_ar 2, .int), (cA_ar 3, .int), (cA_tb 1, .int), (cA_tb 2, .int), (cA_tb 3, .int), (cA_tb 4, .byte), (cA_tc 1, .int), (cA_tc 2, .int), (cA_tc 3, .int), (cA_tc 4, .byte), (cA_ot 1, .long), (cA_md 1, .int), (cA_md 2, .int), (cA_md 3, .int), (cA_md 4, .int), (cA_md 5, .int), (cA_md 6, .int), (cA_md 7, .int), (cA_md 8, .int), (cA_md 9, .boolean), (cA_md 10, .int), (cA_md 11, .int), (cA_md 12, .int), (cA_md 13, .int)] s → va_P (dC, dI) vwCl (uw_HT ad_ht cA_ht (ad_rd 0) (ad_sp 0) (ad_mx 0) (ad_ar 0) (ad_tb 0) (ad_tc 0) ht ++ (uw_Reader ad_rd cA_rd rd ++ (uw_Speller ad_sp cA_sp sp ++ (uw_Mixture ad_mx cA_mx mx ++ (uw_Surroundings ad_ar cA_ar ar ++ (uw_Table ad_tb cA_tb tb ++ (uw_Table ad_tc cA_tc tc ++ (uw_Out ad_ot cA_ot ot ++ (uw_Model ad_md cA_md md))))))))) H → va_D A (uw_HT ad_ht cA_ht (ad_rd 0) (ad_sp 0) (ad_mx 0) (ad_ar 0) (ad_tb 0) (ad_tc 0) ht ++ (uw_Reader ad_rd cA_rd rd ++ (uw_Speller ad_sp cA_sp sp ++ (uw_Mixture ad_mx cA_mx mx ++ (uw_Surroundings ad_ar cA_ar ar ++ (uw_Table ad_tb cA_tb tb ++ (uw_Table ad_tc cA_tc tc ++ (uw_Out ad_ot cA_ot ot ++ (uw_Model ad_md cA_md md))))))))) → va_S A s.heap H locs → lv_has ls 7 [(0, .ref b), (1, .ref (ad_ht 0)), (2, .ref (ad_md 0)), (3, .ref (ad_ot 1)), (4, .int y4)] → W p l e room_1 s m #[Value.ref b] below meth c H locs (cs + 1) (sl + 6) (lw_Zb rv below #[Value.ref b] s) (F0 m 23 ls [])) : ∀ (ad_ht : Nat → Nat) (cA_ht : Nat → ClassId) (ad_rd : Nat → Nat) (cA_rd : Nat → ClassId) (ad_sp : Nat → Nat) (cA_sp : Nat → ClassId) (ad_mx : Nat → Nat) (cA_mx : Nat → ClassId) (ad_ar : Nat → Nat) (cA_ar : Nat → ClassId) (ad_tb : Nat → Nat) (cA_tb : Nat → ClassId) (ad_tc : Nat → Nat) (cA_tc : Nat → ClassId) (ad_ot : Nat → Nat) (cA_ot : Nat → ClassId) (ad_md : Nat → Nat) (cA_md : Nat → ClassId) (ht : SHT) (rd : SReader) (sp : SSpeller) (mx : SMixture) (ar : SSurroundings) (tb : STable) (tc : STable) (ot : SOut) (md : SModel) (y4 : Int32) (H : Heap) (locs : List Loc) (ls : Array Slot), f_Law_case_692 L xs k ht rd sp mx ar tb tc ot md y4 = some rv → va_K (dC, dI) vwCl [(cA_ht 1, .int), (cA_rd 1, .int), (cA_sp 1, .int), (cA_sp 2, .int), (cA_sp 3, .int), (cA_sp 4, .int), (cA_mx 1, .int), (cA_mx 2, .int), (cA_mx 3, .boolean), (cA_ar 1, .int), (cA_ar 2, .int), (cA_ar 3, .int), (cA_tb 1, .int), (cA_tb 2, .int), (cA_tb 3, .int), (cA_tb 4, .byte), (cA_tc 1, .int), (cA_tc 2, .int), (cA_tc 3, .int), (cA_tc 4, .byte), (cA_ot 1, .long), (cA_md 1, .int), (cA_md 2, .int), (cA_md 3, .int), (cA_md 4, .int), (cA_md 5, .int), (cA_md 6, .int), (cA_md 7, .int), (cA_md 8, .int), (cA_md 9, .boolean), (cA_md 10, .int), (cA_md 11, .int), (cA_md 12, .int), (cA_md 13, .int)] s → va_P (dC, dI) vwCl (uw_HT ad_ht cA_ht (ad_rd 0) (ad_sp 0) (ad_mx 0) (ad_ar 0) (ad_tb 0) (ad_tc 0) ht ++ (uw_Reader ad_rd cA_rd rd ++ (uw_Speller ad_sp cA_sp sp ++ (uw_Mixture ad_mx cA_mx mx ++ (uw_Surroundings ad_ar cA_ar ar ++ (uw_Table ad_tb cA_tb tb ++ (uw_Table ad_tc cA_tc tc ++ (uw_Out ad_ot cA_ot ot ++ (uw_Model ad_md cA_md md))))))))) H → va_D A (uw_HT ad_ht cA_ht (ad_rd 0) (ad_sp 0) (ad_mx 0) (ad_ar 0) (ad_tb 0) (ad_tc 0) ht ++ (uw_Reader ad_rd cA_rd rd ++ (uw_Speller ad_sp cA_sp sp ++ (uw_Mixture ad_mx cA_mx mx ++ (uw_Surroundings ad_ar cA_ar ar ++ (uw_Table ad_tb cA_tb tb ++ (uw_Table ad_tc cA_tc tc ++ (uw_Out ad_ot cA_ot ot ++ (uw_Model ad_md cA_md md))))))))) → va_S A s.heap H locs → lv_has ls 7 [(0, .ref b), (1, .ref (ad_ht 0)), (2, .ref (ad_md 0)), (3, .ref (ad_ot 1)), (4, .int y4)] → W p l e room_1 s m #[Value.ref b] below meth c H locs cs sl (lw_Zb rv below #[Value.ref b] s) (F0 m 692 ls []) := by
  obtain ⟨hx, hb, hr, hml, hown, hts0, hX0, hbl, hlocks, hgv⟩ := C0
  have hown : s.vm.findClass "HazardTablesLaw" = some m.cls := hown
  have hts : ∀ w ∈ (Cond.initialized "HazardTables" :: WA), w.before #[Value.ref b] s = true := fun w h => hts0 w ((List.mem_cons.mp h).elim (fun e => by rw [e]; exact (List.mem_filter.mp wd_43).1) (fun h => (List.mem_filter.mp h).1))
  have hbA : ¬ A b := fun h => absurd (hA2 b h) (Nat.not_le.mpr hbl)
  intro ad_ht cA_ht ad_rd cA_rd ad_sp cA_sp ad_mx cA_mx ad_ar cA_ar ad_tb cA_tb ad_tc cA_tc ad_ot cA_ot ad_md cA_md ht rd sp mx ar tb tc ot md y4 H locs ls hf hK hP hD hS hl
  unfold f_Law_case_692 at hf
  refine lv_aload_n hx hb d_Law_law_692 rfl (lv_at hl 1 rfl) ?_
  refine lv_aload_n hx hb d_Law_law_693 rfl (lv_at hl 0 rfl) ?_
  refine lv_iload hx hb d_Law_law_694 (lv_at hl 4 rfl) ?_
  refine lv_iconst (v := (1 : Int32)) hx hb d_Law_law_696 (by decide) ?_
  refine lv_iadd hx hb d_Law_law_697 ?_
  obtain ⟨hi1, hf⟩ := hf_g hf
  refine va_sld hx hb hX0 hbl hbA hS hi1 d_Law_law_698 ?_
  refine lv_aload_n hx hb d_Law_law_699 rfl (lv_at hl 0 rfl) ?_
  refine lv_iload hx hb d_Law_law_700 (lv_at hl 4 rfl) ?_
  refine lv_iconst (v := (2 : Int32)) hx hb d_Law_law_702 (by decide) ?_
  refine lv_iadd hx hb d_Law_law_703 ?_
  obtain ⟨hi2, hf⟩ := hf_g hf
  refine va_sld hx hb hX0 hbl hbA hS hi2 d_Law_law_704 ?_
  refine lv_aload_n hx hb d_Law_law_705 rfl (lv_at hl 3 rfl) ?_
  obtain ⟨u3, hu3, hf⟩ := Option.bind_eq_some_iff.mp hf
  refine cl_i (wc := (uw_HT ad_ht cA_ht (ad_rd 0) (ad_sp 0) (ad_mx 0) (ad_ar 0) (ad_tb 0) (ad_tc 0) ht ++ (uw_Out ad_ot cA_ot ot ++ (uw_Surroundings ad_ar cA_ar ar)))) (wr := (uw_Reader ad_rd cA_rd rd ++ (uw_Speller ad_sp cA_sp sp ++ (uw_Mixture ad_mx cA_mx mx ++ (uw_Table ad_tb cA_tb tb ++ (uw_Table ad_tc cA_tc tc ++ (uw_Model ad_md cA_md md))))))) (tysC := [(cA_ht 1, .int), (cA_ot 1, .long), (cA_ar 1, .int), (cA_ar 2, .int), (cA_ar 3, .int)]) (wu := fun (u : SOut × SSurroundings) => (uw_HT ad_ht cA_ht (ad_rd 0) (ad_sp 0) (ad_mx 0) (ad_ar 0) (ad_tb 0) (ad_tc 0) ht ++ (uw_Out ad_ot cA_ot u.1 ++ (uw_Surroundings ad_ar cA_ar u.2)))) (wn := fun (u : SOut × SSurroundings) => (uw_HT ad_ht cA_ht (ad_rd 0) (ad_sp 0) (ad_mx 0) (ad_ar 0) (ad_tb 0) (ad_tc 0) ht ++ (uw_Reader ad_rd cA_rd rd ++ (uw_Speller ad_sp cA_sp sp ++ (uw_Mixture ad_mx cA_mx mx ++ (uw_Surroundings ad_ar cA_ar u.2 ++ (uw_Table ad_tb cA_tb tb ++ (uw_Table ad_tc cA_tc tc ++ (uw_Out ad_ot cA_ot u.1 ++ (uw_Model ad_md cA_md md)))))))))) [0, 1, 27, 13, 14, 15, 16] [2, 3, 4, 5, 6, 7, 8, 9, 10, 11, 12, 17, 18, 19, 20, 21, 22, 23, 24, 25, 26, 28, 29, 30, 31, 32, 33, 34, 35, 36, 37, 38, 39, 40, 41] [35, 36, 0, 1, 2, 3, 4, 5, 6, 7, 8, 9, 10, 38, 39, 40, 41, 11, 12, 13, 14, 15, 16, 17, 18, 19, 20, 37, 21, 22, 23, 24, 25, 26, 27, 28, 29, 30, 31, 32, 33, 34] [0, 20, 9, 10, 11] hP hD hS hA hK rfl rfl (by decide +kernel) (by decide +kernel) (by decide +kernel) rfl (fun _ => rfl) (by decide +kernel) (fun hPc hKc hDc => (vx_runSW (As := [.ref (ad_ht 0), .int (xs (y4 + (1 : Int32)).toNatClampNeg), .int (xs (y4 + (2 : Int32)).toNatClampNeg), .ref (ad_ot 1)]) (rest := []) ⟨hx, hb, hml, hown, hts⟩ (k_Law_building l dC dI ad_ht cA_ht ad_ot cA_ot ad_ar cA_ar ad_rd cA_rd ad_sp cA_sp ad_mx cA_mx ad_tb cA_tb ad_tc cA_tc H.size ht ot ar (xs (y4 + (1 : Int32)).toNatClampNeg) (xs (y4 + (2 : Int32)).toNatClampNeg) u3 hu3 htr) (vx_cwSW 4 hts (gSW wd_646 wd_647 wd_42 wd_648) rfl rfl rfl (by decide +kernel) ⟨Nat.le_of_ble_eq_true rfl, Nat.le_of_ble_eq_true rfl⟩) (cx_preL hPc hKc hDc hN (fun U hU hW => xAll_at hX hS (va_free hD hS hA [0, 1, 27, 13, 14, 15, 16] rfl) hU hW) hnc) rfl rfl hl.1 rfl (lv_room (Nat.le_of_ble_eq_true rfl)) d_Law_law_706 ⟨by show _ ≤ 1092; omega, by show _ ≤ 11944; omega⟩)) (fun r u H locs hw hP hD hS => ?_)
  obtain ⟨hw1, hw2⟩ := hw
  have hw1 := hw1.symm
  have hw2 := hw2.symm
  subst hw1
  subst hw2
  have hP : va_P (dC, dI) vwCl (uw_HT ad_ht cA_ht (ad_rd 0) (ad_sp 0) (ad_mx 0) (ad_ar 0) (ad_tb 0) (ad_tc 0) ht ++ (uw_Reader ad_rd cA_rd rd ++ (uw_Speller ad_sp cA_sp sp ++ (uw_Mixture ad_mx cA_mx mx ++ (uw_Surroundings ad_ar cA_ar u3.2.2 ++ (uw_Table ad_tb cA_tb tb ++ (uw_Table ad_tc cA_tc tc ++ (uw_Out ad_ot cA_ot u3.2.1 ++ (uw_Model ad_md cA_md md))))))))) H := hP
  have hD : va_D A (uw_HT ad_ht cA_ht (ad_rd 0) (ad_sp 0) (ad_mx 0) (ad_ar 0) (ad_tb 0) (ad_tc 0) ht ++ (uw_Reader ad_rd cA_rd rd ++ (uw_Speller ad_sp cA_sp sp ++ (uw_Mixture ad_mx cA_mx mx ++ (uw_Surroundings ad_ar cA_ar u3.2.2 ++ (uw_Table ad_tb cA_tb tb ++ (uw_Table ad_tc cA_tc tc ++ (uw_Out ad_ot cA_ot u3.2.1 ++ (uw_Model ad_md cA_md md))))))))) := hD
  refine lv_istore (lv' := [(5, .int u3.1), (0, .ref b), (1, .ref (ad_ht 0)), (2, .ref (ad_md 0)), (3, .ref (ad_ot 1)), (4, .int y4)]) hx hb d_Law_law_709 hl (by decide) rfl (fun ls hl => ?_)
  refine lv_aload_n hx hb d_Law_law_711 rfl (lv_at hl 3 rfl) ?_
  refine lv_aload_n hx hb d_Law_law_712 rfl (lv_at hl 1 rfl) ?_
  refine lv_iload hx hb d_Law_law_713 (lv_at hl 5 rfl) ?_
  refine lv_iconst (v := (1 : Int32)) hx hb d_Law_law_715 (by decide) ?_
  refine lv_iadd hx hb d_Law_law_716 ?_
  obtain ⟨hi4, hf⟩ := hf_g hf
  refine va_sld hx hb hX0 hbl hbA hS hi4 d_Law_law_717 ?_
  refine lv_aload_n hx hb d_Law_law_718 rfl (lv_at hl 1 rfl) ?_
  refine lv_iload hx hb d_Law_law_719 (lv_at hl 5 rfl) ?_
  refine lv_iconst (v := (2 : Int32)) hx hb d_Law_law_721 (by decide) ?_
  refine lv_iadd hx hb d_Law_law_722 ?_
  obtain ⟨hi5, hf⟩ := hf_g hf
  refine va_sld hx hb hX0 hbl hbA hS hi5 d_Law_law_723 ?_
  obtain ⟨u6, hu6, hf⟩ := Option.bind_eq_some_iff.mp hf
  refine cl_i (wc := (uw_Model ad_md cA_md md)) (wr := (uw_HT ad_ht cA_ht (ad_rd 0) (ad_sp 0) (ad_mx 0) (ad_ar 0) (ad_tb 0) (ad_tc 0) ht ++ (uw_Reader ad_rd cA_rd rd ++ (uw_Speller ad_sp cA_sp sp ++ (uw_Mixture ad_mx cA_mx mx ++ (uw_Surroundings ad_ar cA_ar u3.2.2 ++ (uw_Table ad_tb cA_tb tb ++ (uw_Table ad_tc cA_tc tc ++ (uw_Out ad_ot cA_ot u3.2.1))))))))) (tysC := [(cA_md 1, .int), (cA_md 2, .int), (cA_md 3, .int), (cA_md 4, .int), (cA_md 5, .int), (cA_md 6, .int), (cA_md 7, .int), (cA_md 8, .int), (cA_md 9, .boolean), (cA_md 10, .int), (cA_md 11, .int), (cA_md 12, .int), (cA_md 13, .int)]) (wu := fun (u : SModel) => (uw_Model ad_md cA_md u)) (wn := fun (u : SModel) => (uw_HT ad_ht cA_ht (ad_rd 0) (ad_sp 0) (ad_mx 0) (ad_ar 0) (ad_tb 0) (ad_tc 0) ht ++ (uw_Reader ad_rd cA_rd rd ++ (uw_Speller ad_sp cA_sp sp ++ (uw_Mixture ad_mx cA_mx mx ++ (uw_Surroundings ad_ar cA_ar u3.2.2 ++ (uw_Table ad_tb cA_tb tb ++ (uw_Table ad_tc cA_tc tc ++ (uw_Out ad_ot cA_ot u3.2.1 ++ (uw_Model ad_md cA_md u)))))))))) [28, 29, 30, 31, 32, 33, 34, 35, 36, 37, 38, 39, 40, 41] [0, 1, 2, 3, 4, 5, 6, 7, 8, 9, 10, 11, 12, 13, 14, 15, 16, 17, 18, 19, 20, 21, 22, 23, 24, 25, 26, 27] [0, 1, 2, 3, 4, 5, 6, 7, 8, 9, 10, 11, 12, 13, 14, 15, 16, 17, 18, 19, 20, 21, 22, 23, 24, 25, 26, 27, 28, 29, 30, 31, 32, 33, 34, 35, 36, 37, 38, 39, 40, 41] [21, 22, 23, 24, 25, 26, 27, 28, 29, 30, 31, 32, 33] hP hD hS hA hK rfl rfl (by decide +kernel) (by decide +kernel) (by decide +kernel) rfl (fun _ => rfl) (by decide +kernel) (fun hPc hKc hDc => (va_runV (As := [.int (xs (y4 + (1 : Int32)).toNatClampNeg), .int (xs (y4 + (2 : Int32)).toNatClampNeg)]) (rest := []) ⟨hx, hb, hml, hown, hts⟩ (k_Model_building l dC dI ad_md cA_md H.size md (xs (y4 + (1 : Int32)).toNatClampNeg) (xs (y4 + (2 : Int32)).toNatClampNeg) u6 hu6) (cwV 2 hts (gV wd_967 wd_968 wd_969 wd_49 wd_970) rfl rfl rfl (by decide +kernel) ⟨Nat.le_of_ble_eq_true rfl, Nat.le_of_ble_eq_true rfl⟩) (cl_preV hPc hKc hDc hN (ci := 6) 0 rfl rfl) rfl rfl hl.1 rfl (lv_room (Nat.le_of_ble_eq_true rfl)) d_Law_law_724 ⟨by show _ ≤ 1092; omega, by show _ ≤ 11944; omega⟩)) (fun r u H locs hw hP hD hS => ?_)
  obtain ⟨hw1, hw2⟩ := hw
  have hw1 := hw1.symm
  have hw2 := hw2.symm
  subst hw1
  subst hw2
  have hP : va_P (dC, dI) vwCl (uw_HT ad_ht cA_ht (ad_rd 0) (ad_sp 0) (ad_mx 0) (ad_ar 0) (ad_tb 0) (ad_tc 0) ht ++ (uw_Reader ad_rd cA_rd rd ++ (uw_Speller ad_sp cA_sp sp ++ (uw_Mixture ad_mx cA_mx mx ++ (uw_Surroundings ad_ar cA_ar u3.2.2 ++ (uw_Table ad_tb cA_tb tb ++ (uw_Table ad_tc cA_tc tc ++ (uw_Out ad_ot cA_ot u3.2.1 ++ (uw_Model ad_md cA_md u6.2))))))))) H := hP
  have hD : va_D A (uw_HT ad_ht cA_ht (ad_rd 0) (ad_sp 0) (ad_mx 0) (ad_ar 0) (ad_tb 0) (ad_tc 0) ht ++ (uw_Reader ad_rd cA_rd rd ++ (uw_Speller ad_sp cA_sp sp ++ (uw_Mixture ad_mx cA_mx mx ++ (uw_Surroundings ad_ar cA_ar u3.2.2 ++ (uw_Table ad_tb cA_tb tb ++ (uw_Table ad_tc cA_tc tc ++ (uw_Out ad_ot cA_ot u3.2.1 ++ (uw_Model ad_md cA_md u6.2))))))))) := hD
  refine lv_istore (lv' := [(6, .int u6.1), (5, .int u3.1), (0, .ref b), (1, .ref (ad_ht 0)), (2, .ref (ad_md 0)), (3, .ref (ad_ot 1)), (4, .int y4)]) hx hb d_Law_law_727 hl (by decide) rfl (fun ls hl => ?_)
  refine lv_aload_n hx hb d_Law_law_729 rfl (lv_at hl 4 rfl) ?_
  obtain ⟨u7, hu7, hf⟩ := Option.bind_eq_some_iff.mp hf
  refine cl_i (wc := (uw_Model ad_md cA_md u6.2)) (wr := (uw_HT ad_ht cA_ht (ad_rd 0) (ad_sp 0) (ad_mx 0) (ad_ar 0) (ad_tb 0) (ad_tc 0) ht ++ (uw_Reader ad_rd cA_rd rd ++ (uw_Speller ad_sp cA_sp sp ++ (uw_Mixture ad_mx cA_mx mx ++ (uw_Surroundings ad_ar cA_ar u3.2.2 ++ (uw_Table ad_tb cA_tb tb ++ (uw_Table ad_tc cA_tc tc ++ (uw_Out ad_ot cA_ot u3.2.1))))))))) (tysC := [(cA_md 1, .int), (cA_md 2, .int), (cA_md 3, .int), (cA_md 4, .int), (cA_md 5, .int), (cA_md 6, .int), (cA_md 7, .int), (cA_md 8, .int), (cA_md 9, .boolean), (cA_md 10, .int), (cA_md 11, .int), (cA_md 12, .int), (cA_md 13, .int)]) (wu := fun (u : Unit) => (uw_Model ad_md cA_md u6.2)) (wn := fun (u : Unit) => (uw_HT ad_ht cA_ht (ad_rd 0) (ad_sp 0) (ad_mx 0) (ad_ar 0) (ad_tb 0) (ad_tc 0) ht ++ (uw_Reader ad_rd cA_rd rd ++ (uw_Speller ad_sp cA_sp sp ++ (uw_Mixture ad_mx cA_mx mx ++ (uw_Surroundings ad_ar cA_ar u3.2.2 ++ (uw_Table ad_tb cA_tb tb ++ (uw_Table ad_tc cA_tc tc ++ (uw_Out ad_ot cA_ot u3.2.1 ++ (uw_Model ad_md cA_md u6.2)))))))))) [28, 29, 30, 31, 32, 33, 34, 35, 36, 37, 38, 39, 40, 41] [0, 1, 2, 3, 4, 5, 6, 7, 8, 9, 10, 11, 12, 13, 14, 15, 16, 17, 18, 19, 20, 21, 22, 23, 24, 25, 26, 27] [0, 1, 2, 3, 4, 5, 6, 7, 8, 9, 10, 11, 12, 13, 14, 15, 16, 17, 18, 19, 20, 21, 22, 23, 24, 25, 26, 27, 28, 29, 30, 31, 32, 33, 34, 35, 36, 37, 38, 39, 40, 41] [21, 22, 23, 24, 25, 26, 27, 28, 29, 30, 31, 32, 33] hP hD hS hA hK rfl rfl (by decide +kernel) (by decide +kernel) (by decide +kernel) rfl (fun _ => rfl) (by decide +kernel) (fun hPc hKc hDc => (va_runV (As := []) (rest := []) ⟨hx, hb, hml, hown, hts⟩ (k_Model_thrown l dC dI ad_md cA_md H.size u6.2 u7 hu7) (cwV 0 hts (gV wd_839 wd_840 wd_841 wd_49 wd_842) rfl rfl rfl (by decide +kernel) ⟨Nat.le_of_ble_eq_true rfl, Nat.le_of_ble_eq_true rfl⟩) (cl_preV hPc hKc hDc hN (ci := 6) 0 rfl rfl) rfl rfl hl.1 rfl (lv_room (Nat.le_of_ble_eq_true rfl)) d_Law_law_730 ⟨by show _ ≤ 1092; omega, by show _ ≤ 11944; omega⟩)) (fun r u H locs hw hP hD hS => ?_)
  have hw := hw.symm
  subst hw
  have hP : va_P (dC, dI) vwCl (uw_HT ad_ht cA_ht (ad_rd 0) (ad_sp 0) (ad_mx 0) (ad_ar 0) (ad_tb 0) (ad_tc 0) ht ++ (uw_Reader ad_rd cA_rd rd ++ (uw_Speller ad_sp cA_sp sp ++ (uw_Mixture ad_mx cA_mx mx ++ (uw_Surroundings ad_ar cA_ar u3.2.2 ++ (uw_Table ad_tb cA_tb tb ++ (uw_Table ad_tc cA_tc tc ++ (uw_Out ad_ot cA_ot u3.2.1 ++ (uw_Model ad_md cA_md u6.2))))))))) H := hP
  have hD : va_D A (uw_HT ad_ht cA_ht (ad_rd 0) (ad_sp 0) (ad_mx 0) (ad_ar 0) (ad_tb 0) (ad_tc 0) ht ++ (uw_Reader ad_rd cA_rd rd ++ (uw_Speller ad_sp cA_sp sp ++ (uw_Mixture ad_mx cA_mx mx ++ (uw_Surroundings ad_ar cA_ar u3.2.2 ++ (uw_Table ad_tb cA_tb tb ++ (uw_Table ad_tc cA_tc tc ++ (uw_Out ad_ot cA_ot u3.2.1 ++ (uw_Model ad_md cA_md u6.2))))))))) := hD
  refine lv_iload hx hb d_Law_law_733 (lv_at hl 1 rfl) ?_
  refine lv_icmp_eq (tgt := 740) hx hb d_Law_law_735 (by decide) (fun hc8 => ?_) (fun hc8 => ?_)
  · have hf := hf_t hf hc8
    refine lv_iload hx hb d_Law_law_740 (lv_at hl 1 rfl) ?_
    refine lv_if_ne (tgt := 757) hx hb d_Law_law_742 (by decide) (fun hc9 => ?_) (fun hc9 => ?_)
    · have hf := hf_f hf hc9
      refine lv_goto (tgt := 1166) hx hb d_Law_law_757 (by decide) ?_
      refine lv_iinc (v := y4 + (4 : Int32)) (lv' := [(4, .int (y4 + (4 : Int32))), (6, .int u6.1), (5, .int u3.1), (0, .ref b), (1, .ref (ad_ht 0)), (2, .ref (ad_md 0)), (3, .ref (ad_ot 1))]) hx hb d_Law_law_1166 hl (k := 6) rfl rfl (by decide) rfl (fun ls hl => ?_)
      refine lv_goto (tgt := 23) hx hb d_Law_law_1169 (by decide) ?_
      refine W.widen (k := cs + 1) (n := sl + 6) (by omega) (by omega) ?_
      exact hk ad_ht cA_ht ad_rd cA_rd ad_sp cA_sp ad_mx cA_mx ad_ar cA_ar ad_tb cA_tb ad_tc cA_tc ad_ot cA_ot ad_md cA_md ht rd sp mx u3.2.2 tb tc u3.2.1 u6.2 (y4 + (4 : Int32)) H locs ls hf hK hP hD hS (lv_sub hl [3, 4, 5, 6, 0] rfl)
    · have hf := hf_t hf hc9
      refine lv_aload_n hx hb d_Law_law_745 rfl (lv_at hl 5 rfl) ?_
      refine lv_iconst (v := (0 : Int32)) hx hb d_Law_law_746 (by decide) ?_
      obtain ⟨hi10, hf⟩ := hf_g hf
      refine va_lald hx hb hK hP 27 20 rfl rfl hi10 d_Law_law_747 ?_
      refine lv_iload hx hb d_Law_law_748 (lv_at hl 0 rfl) ?_
      refine lv_i2l (v := u6.1.toInt64) hx hb d_Law_law_750 rfl ?_
      refine W.lcmp hx hb d_Law_law_751 ?_
      refine lv_if_eq (tgt := 757) hx hb d_Law_law_752 (by decide) (fun hc11 => ?_) (fun hc11 => ?_)
      · have hf := hf_t hf hc11
        refine lv_goto (tgt := 1166) hx hb d_Law_law_757 (by decide) ?_
        refine lv_iinc (v := y4 + (4 : Int32)) (lv' := [(4, .int (y4 + (4 : Int32))), (6, .int u6.1), (5, .int u3.1), (0, .ref b), (1, .ref (ad_ht 0)), (2, .ref (ad_md 0)), (3, .ref (ad_ot 1))]) hx hb d_Law_law_1166 hl (k := 6) rfl rfl (by decide) rfl (fun ls hl => ?_)
        refine lv_goto (tgt := 23) hx hb d_Law_law_1169 (by decide) ?_
        refine W.widen (k := cs + 1) (n := sl + 6) (by omega) (by omega) ?_
        exact hk ad_ht cA_ht ad_rd cA_rd ad_sp cA_sp ad_mx cA_mx ad_ar cA_ar ad_tb cA_tb ad_tc cA_tc ad_ot cA_ot ad_md cA_md ht rd sp mx u3.2.2 tb tc u3.2.1 u6.2 (y4 + (4 : Int32)) H locs ls hf hK hP hD hS (lv_sub hl [3, 4, 5, 6, 0] rfl)
      · have hf := hf_f hf hc11
        refine lv_iconst (v := (0 : Int32)) hx hb d_Law_law_755 (by decide) ?_
        have hrv : rv = false := (Option.some.inj hf).symm
        subst hrv
        refine va_forget (fun q hq => hA2 _ (hS.2.2 q hq)) ?_
        refine W.widen (k := 1092) (n := 11944) (by omega) (by omega) ?_
        exact lw_ret0b hx hb hr hlocks d_Law_law_756
  · have hf := hf_f hf hc8
    refine lv_iconst (v := (0 : Int32)) hx hb d_Law_law_738 (by decide) ?_
    have hrv : rv = false := (Option.some.inj hf).symm
    subst hrv
    refine va_forget (fun q hq => hA2 _ (hS.2.2 q hq)) ?_
    refine W.widen (k := 1092) (n := 11944) (by omega) (by omega) ?_
    exact lw_ret0b hx hb hr hlocks d_Law_law_739
noncomputable def f_Law_case_760 (L : Nat) (xs : Nat → Int32) (k : SHT → SReader → SSpeller → SMixture → SSurroundings → STable → STable → SOut → SModel → Int32 → Option Bool) (ht : SHT) (rd : SReader) (sp : SSpeller) (mx : SMixture) (ar : SSurroundings) (tb : STable) (tc : STable) (ot : SOut) (md : SModel) (y4 : Int32) : Option Bool :=
  (if inb (y4 + (1 : Int32)) L then
    (if inb (y4 + (2 : Int32)) L then
      (if inb (y4 + (3 : Int32)) L then
        (if (xs (y4 + (3 : Int32)).toNatClampNeg) = 0 then
          (Option.bind (f_Law_wind ht ot mx ar tb (xs (y4 + (1 : Int32)).toNatClampNeg) (xs (y4 + (2 : Int32)).toNatClampNeg) false) fun u5 =>
            (if inb (y4 + (1 : Int32)) L then
              (if inb (y4 + (2 : Int32)) L then
                (if inb (y4 + (3 : Int32)) L then
                  (Option.bind (f_Model_wind md (xs (y4 + (1 : Int32)).toNatClampNeg) (xs (y4 + (2 : Int32)).toNatClampNeg) false) fun u10 =>
                    (Option.bind (f_Model_thrown u10.2) fun u11 =>
                      (if u11 = u5.1 then
                        (if u5.1 = 0 then
                          (if inb (0 : Int32) 1 then
                            (if (lg_cmp (u5.2.1 (0 : Int32).toNatClampNeg) u10.1.toInt64) = 0 then
                              (k ht rd sp mx u5.2.2 tb tc u5.2.1 u10.2 (y4 + (4 : Int32)))
                             else
                              (some false)
                             )
                           else none)
                         else
                          (k ht rd sp mx u5.2.2 tb tc u5.2.1 u10.2 (y4 + (4 : Int32)))
                         )
                       else
                        (some false)
                       )
                     )
                   )
                 else none)
               else none)
             else none)
           )
         else
          (Option.bind (f_Law_wind ht ot mx ar tb (xs (y4 + (1 : Int32)).toNatClampNeg) (xs (y4 + (2 : Int32)).toNatClampNeg) true) fun u16 =>
            (if inb (y4 + (1 : Int32)) L then
              (if inb (y4 + (2 : Int32)) L then
                (if inb (y4 + (3 : Int32)) L then
                  (Option.bind (f_Model_wind md (xs (y4 + (1 : Int32)).toNatClampNeg) (xs (y4 + (2 : Int32)).toNatClampNeg) true) fun u21 =>
                    (Option.bind (f_Model_thrown u21.2) fun u22 =>
                      (if u22 = u16.1 then
                        (if u16.1 = 0 then
                          (if inb (0 : Int32) 1 then
                            (if (lg_cmp (u16.2.1 (0 : Int32).toNatClampNeg) u21.1.toInt64) = 0 then
                              (k ht rd sp mx u16.2.2 tb tc u16.2.1 u21.2 (y4 + (4 : Int32)))
                             else
                              (some false)
                             )
                           else none)
                         else
                          (k ht rd sp mx u16.2.2 tb tc u16.2.1 u21.2 (y4 + (4 : Int32)))
                         )
                       else
                        (some false)
                       )
                     )
                   )
                 else none)
               else none)
             else none)
           )
         )
       else none)
     else none)
   else none)
set_option maxHeartbeats 4000000 in
set_option maxRecDepth 100000 in
theorem k_Law_case_760 {rv : Bool} {p : Program} {l : Launch} {e : Env} {s : State} {m : MethodId} {below : List Frame} {meth : Method} {c : Code} {dC : Nat → ClassId} {dI : Nat → Nat → Nat} {b L : Nat} {xs : Nat → Int32} {A : Nat → Prop} (htr : l.stackTraces = false) (C0 : lw_At p s m meth c b L xs) (hN : nwAll s) (hX : xAll A s) (hnc : ncAll s) (hA : ∀ q : Nat, s.heap.size ≤ q → A q) (hA2 : ∀ q : Nat, A q → s.heap.size ≤ q) (cs sl : Nat) (hcs : cs + 1 ≤ 1092) (hsl : sl + 6 ≤ 11944) (k : SHT → SReader → SSpeller → SMixture → SSurroundings → STable → STable → SOut → SModel → Int32 → Option Bool) (hk : ∀ (ad_ht : Nat → Nat) (cA_ht : Nat → ClassId) (ad_rd : Nat → Nat) (cA_rd : Nat → ClassId) (ad_sp : Nat → Nat) (cA_sp : Nat → ClassId) (ad_mx : Nat → Nat) (cA_mx : Nat → ClassId) (ad_ar : Nat → Nat) (cA_ar : Nat → ClassId) (ad_tb : Nat → Nat) (cA_tb : Nat → ClassId) (ad_tc : Nat → Nat) (cA_tc : Nat → ClassId) (ad_ot : Nat → Nat) (cA_ot : Nat → ClassId) (ad_md : Nat → Nat) (cA_md : Nat → ClassId) (ht : SHT) (rd : SReader) (sp : SSpeller) (mx : SMixture) (ar : SSurroundings) (tb : STable) (tc : STable) (ot : SOut) (md : SModel) (y4 : Int32) (H : Heap) (locs : List Loc) (ls : Array Slot), k ht rd sp mx ar tb tc ot md y4 = some rv → va_K (dC, dI) vwCl [(cA_ht 1, .int), (cA_rd 1, .int), (cA_sp 1, .int), (cA_sp 2, .int), (cA_sp 3, .int), (cA_sp 4, .int), (cA_mx 1, .int), (cA_mx 2, .int), (cA_mx 3, .boolean), (cA_ar 1, .int), (cA_ar 2, .int), (cA_ar 3, .int), (cA_tb 1, .int), (cA_tb 2, .int), (cA_tb 3, .int), (cA_tb 4, .byte), (cA_tc 1, .int), (cA_tc 2, .int), (cA_tc 3, .int), (cA_tc 4, .byte), (cA_ot 1, .long), (cA_md 1, .int), (cA_md 2, .int), (cA_md 3, .int), (cA_md 4, .int), (cA_md 5, .int), (cA_md 6, .int), (cA_md 7, .int), (cA_md 8, .int), (cA_md 9, .boolean), (cA_md 10, .int), (cA_md 11, .int), (cA_md 12, .int), (cA_md 13, .int)] s → va_P (dC, dI) vwCl (uw_HT ad_ht cA_ht (ad_rd 0) (ad_sp 0) (ad_mx 0) (ad_ar 0) (ad_tb 0) (ad_tc 0) ht ++ (uw_Reader ad_rd cA_rd rd ++ (uw_Speller ad_sp cA_sp sp ++ (uw_Mixture ad_mx cA_mx mx ++ (uw_Surroundings ad_ar cA_ar ar ++ (uw_Table ad_tb cA_tb tb ++ (uw_Table ad_tc cA_tc tc ++ (uw_Out ad_ot cA_ot ot ++ (uw_Model ad_md cA_md md))))))))) H → va_D A (uw_HT ad_ht cA_ht (ad_rd 0) (ad_sp 0) (ad_mx 0) (ad_ar 0) (ad_tb 0) (ad_tc 0) ht ++ (uw_Reader ad_rd cA_rd rd ++ (uw_Speller ad_sp cA_sp sp ++ (uw_Mixture ad_mx cA_mx mx ++ (uw_Surroundings ad_ar cA_ar ar ++ (uw_Table ad_tb cA_tb tb ++ (uw_Table ad_tc cA_tc tc ++ (uw_Out ad_ot cA_ot ot ++ (uw_Model ad_md cA_md md))))))))) → va_S A s.heap H locs → lv_has ls 7 [(0, .ref b), (1, .ref (ad_ht 0)), (2, .ref (ad_md 0)), (3, .ref (ad_ot 1)), (4, .int y4)] → W p l e room_1 s m #[Value.ref b] below meth c H locs (cs + 1) (sl + 6) (lw_Zb rv below #[Value.ref b] s) (F0 m 23 ls [])) : ∀ (ad_ht : Nat → Nat) (cA_ht : Nat → ClassId) (ad_rd : Nat → Nat) (cA_rd : Nat → ClassId) (ad_sp : Nat → Nat) (cA_sp : Nat → ClassId) (ad_mx : Nat → Nat) (cA_mx : Nat → ClassId) (ad_ar : Nat → Nat) (cA_ar : Nat → ClassId) (ad_tb : Nat → Nat) (cA_tb : Nat → ClassId) (ad_tc : Nat → Nat) (cA_tc : Nat → ClassId) (ad_ot : Nat → Nat) (cA_ot : Nat → ClassId) (ad_md : Nat → Nat) (cA_md : Nat → ClassId) (ht : SHT) (rd : SReader) (sp : SSpeller) (mx : SMixture) (ar : SSurroundings) (tb : STable) (tc : STable) (ot : SOut) (md : SModel) (y4 : Int32) (H : Heap) (locs : List Loc) (ls : Array Slot), f_Law_case_760 L xs k ht rd sp mx ar tb tc ot md y4 = some rv → va_K (dC, dI) vwCl [(cA_ht 1, .int), (cA_rd 1, .int), (cA_sp 1, .int), (cA_sp 2, .int), (cA_sp 3, .int), (cA_sp 4, .int), (cA_mx 1, .int), (cA_mx 2, .int), (cA_mx 3, .boolean), (cA_ar 1, .int), (cA_ar 2, .int), (cA_ar 3, .int), (cA_tb 1, .int), (cA_tb 2, .int), (cA_tb 3, .int), (cA_tb 4, .byte), (cA_tc 1, .int), (cA_tc 2, .int), (cA_tc 3, .int), (cA_tc 4, .byte), (cA_ot 1, .long), (cA_md 1, .int), (cA_md 2, .int), (cA_md 3, .int), (cA_md 4, .int), (cA_md 5, .int), (cA_md 6, .int), (cA_md 7, .int), (cA_md 8, .int), (cA_md 9, .boolean), (cA_md 10, .int), (cA_md 11, .int), (cA_md 12, .int), (cA_md 13, .int)] s → va_P (dC, dI) vwCl (uw_HT ad_ht cA_ht (ad_rd 0) (ad_sp 0) (ad_mx 0) (ad_ar 0) (ad_tb 0) (ad_tc 0) ht ++ (uw_Reader ad_rd cA_rd rd ++ (uw_Speller ad_sp cA_sp sp ++ (uw_Mixture ad_mx cA_mx mx ++ (uw_Surroundings ad_ar cA_ar ar ++ (uw_Table ad_tb cA_tb tb ++ (uw_Table ad_tc cA_tc tc ++ (uw_Out ad_ot cA_ot ot ++ (uw_Model ad_md cA_md md))))))))) H → va_D A (uw_HT ad_ht cA_ht (ad_rd 0) (ad_sp 0) (ad_mx 0) (ad_ar 0) (ad_tb 0) (ad_tc 0) ht ++ (uw_Reader ad_rd cA_rd rd ++ (uw_Speller ad_sp cA_sp sp ++ (uw_Mixture ad_mx cA_mx mx ++ (uw_Surroundings ad_ar cA_ar ar ++ (uw_Table ad_tb cA_tb tb ++ (uw_Table ad_tc cA_tc tc ++ (uw_Out ad_ot cA_ot ot ++ (uw_Model ad_md cA_md md))))))))) → va_S A s.heap H locs → lv_has ls 7 [(0, .ref b), (1, .ref (ad_ht 0)), (2, .ref (ad_md 0)), (3, .ref (ad_ot 1)), (4, .int y4)] → W p l e room_1 s m #[Value.ref b] below meth c H locs cs sl (lw_Zb rv below #[Value.ref b] s) (F0 m 760 ls []) := by
  obtain ⟨hx, hb, hr, hml, hown, hts0, hX0, hbl, hlocks, hgv⟩ := C0
  have hown : s.vm.findClass "HazardTablesLaw" = some m.cls := hown
  have hts : ∀ w ∈ (Cond.initialized "HazardTables" :: WA), w.before #[Value.ref b] s = true := fun w h => hts0 w ((List.mem_cons.mp h).elim (fun e => by rw [e]; exact (List.mem_filter.mp wd_43).1) (fun h => (List.mem_filter.mp h).1))
  have hbA : ¬ A b := fun h => absurd (hA2 b h) (Nat.not_le.mpr hbl)
  intro ad_ht cA_ht ad_rd cA_rd ad_sp cA_sp ad_mx cA_mx ad_ar cA_ar ad_tb cA_tb ad_tc cA_tc ad_ot cA_ot ad_md cA_md ht rd sp mx ar tb tc ot md y4 H locs ls hf hK hP hD hS hl
  unfold f_Law_case_760 at hf
  refine lv_aload_n hx hb d_Law_law_760 rfl (lv_at hl 1 rfl) ?_
  refine lv_aload_n hx hb d_Law_law_761 rfl (lv_at hl 0 rfl) ?_
  refine lv_iload hx hb d_Law_law_762 (lv_at hl 4 rfl) ?_
  refine lv_iconst (v := (1 : Int32)) hx hb d_Law_law_764 (by decide) ?_
  refine lv_iadd hx hb d_Law_law_765 ?_
  obtain ⟨hi1, hf⟩ := hf_g hf
  refine va_sld hx hb hX0 hbl hbA hS hi1 d_Law_law_766 ?_
  refine lv_aload_n hx hb d_Law_law_767 rfl (lv_at hl 0 rfl) ?_
  refine lv_iload hx hb d_Law_law_768 (lv_at hl 4 rfl) ?_
  refine lv_iconst (v := (2 : Int32)) hx hb d_Law_law_770 (by decide) ?_
  refine lv_iadd hx hb d_Law_law_771 ?_
  obtain ⟨hi2, hf⟩ := hf_g hf
  refine va_sld hx hb hX0 hbl hbA hS hi2 d_Law_law_772 ?_
  refine lv_aload_n hx hb d_Law_law_773 rfl (lv_at hl 0 rfl) ?_
  refine lv_iload hx hb d_Law_law_774 (lv_at hl 4 rfl) ?_
  refine lv_iconst (v := (3 : Int32)) hx hb d_Law_law_776 (by decide) ?_
  refine lv_iadd hx hb d_Law_law_777 ?_
  obtain ⟨hi3, hf⟩ := hf_g hf
  refine va_sld hx hb hX0 hbl hbA hS hi3 d_Law_law_778 ?_
  refine lv_if_eq (tgt := 786) hx hb d_Law_law_779 (by decide) (fun hc4 => ?_) (fun hc4 => ?_)
  · have hf := hf_t hf hc4
    refine lv_iconst (v := (0 : Int32)) hx hb d_Law_law_786 (by decide) ?_
    refine lv_aload_n hx hb d_Law_law_787 rfl (lv_at hl 3 rfl) ?_
    obtain ⟨u5, hu5, hf⟩ := Option.bind_eq_some_iff.mp hf
    refine cl_i (wc := (uw_HT ad_ht cA_ht (ad_rd 0) (ad_sp 0) (ad_mx 0) (ad_ar 0) (ad_tb 0) (ad_tc 0) ht ++ (uw_Out ad_ot cA_ot ot ++ (uw_Mixture ad_mx cA_mx mx ++ (uw_Surroundings ad_ar cA_ar ar ++ (uw_Table ad_tb cA_tb tb)))))) (wr := (uw_Reader ad_rd cA_rd rd ++ (uw_Speller ad_sp cA_sp sp ++ (uw_Table ad_tc cA_tc tc ++ (uw_Model ad_md cA_md md))))) (tysC := [(cA_ht 1, .int), (cA_ot 1, .long), (cA_mx 1, .int), (cA_mx 2, .int), (cA_mx 3, .boolean), (cA_ar 1, .int), (cA_ar 2, .int), (cA_ar 3, .int), (cA_tb 1, .int), (cA_tb 2, .int), (cA_tb 3, .int), (cA_tb 4, .byte)]) (wu := fun (u : SOut × SSurroundings) => (uw_HT ad_ht cA_ht (ad_rd 0) (ad_sp 0) (ad_mx 0) (ad_ar 0) (ad_tb 0) (ad_tc 0) ht ++ (uw_Out ad_ot cA_ot u.1 ++ (uw_Mixture ad_mx cA_mx mx ++ (uw_Surroundings ad_ar cA_ar u.2 ++ (uw_Table ad_tb cA_tb tb)))))) (wn := fun (u : SOut × SSurroundings) => (uw_HT ad_ht cA_ht (ad_rd 0) (ad_sp 0) (ad_mx 0) (ad_ar 0) (ad_tb 0) (ad_tc 0) ht ++ (uw_Reader ad_rd cA_rd rd ++ (uw_Speller ad_sp cA_sp sp ++ (uw_Mixture ad_mx cA_mx mx ++ (uw_Surroundings ad_ar cA_ar u.2 ++ (uw_Table ad_tb cA_tb tb ++ (uw_Table ad_tc cA_tc tc ++ (uw_Out ad_ot cA_ot u.1 ++ (uw_Model ad_md cA_md md)))))))))) [0, 1, 27, 9, 10, 11, 12, 13, 14, 15, 16, 17, 18, 19, 20, 21] [2, 3, 4, 5, 6, 7, 8, 22, 23, 24, 25, 26, 28, 29, 30, 31, 32, 33, 34, 35, 36, 37, 38, 39, 40, 41] [26, 27, 0, 1, 2, 3, 4, 5, 6, 29, 30, 31, 32, 33, 34, 35, 36, 37, 38, 39, 40, 41, 7, 8, 9, 10, 11, 28, 12, 13, 14, 15, 16, 17, 18, 19, 20, 21, 22, 23, 24, 25] [0, 20, 6, 7, 8, 9, 10, 11, 12, 13, 14, 15] hP hD hS hA hK rfl rfl (by decide +kernel) (by decide +kernel) (by decide +kernel) rfl (fun _ => rfl) (by decide +kernel) (fun hPc hKc hDc => (vx_runSW (As := [.ref (ad_ht 0), .int (xs (y4 + (1 : Int32)).toNatClampNeg), .int (xs (y4 + (2 : Int32)).toNatClampNeg), .int (0 : Int32), .ref (ad_ot 1)]) (rest := []) ⟨hx, hb, hml, hown, hts⟩ (k_Law_wind l dC dI ad_ht cA_ht ad_ot cA_ot ad_mx cA_mx ad_ar cA_ar ad_tb cA_tb ad_rd cA_rd ad_sp cA_sp ad_tc cA_tc H.size ht ot mx ar tb (xs (y4 + (1 : Int32)).toNatClampNeg) (xs (y4 + (2 : Int32)).toNatClampNeg) false u5 hu5 htr) (vx_cwSW 5 hts (gSW wd_667 wd_668 wd_42 wd_669) rfl rfl rfl (by decide +kernel) ⟨Nat.le_of_ble_eq_true rfl, Nat.le_of_ble_eq_true rfl⟩) (cx_preL hPc hKc hDc hN (fun U hU hW => xAll_at hX hS (va_free hD hS hA [0, 1, 27, 9, 10, 11, 12, 13, 14, 15, 16, 17, 18, 19, 20, 21] rfl) hU hW) hnc) rfl rfl hl.1 rfl (lv_room (Nat.le_of_ble_eq_true rfl)) d_Law_law_788 ⟨by show _ ≤ 1092; omega, by show _ ≤ 11944; omega⟩)) (fun r u H locs hw hP hD hS => ?_)
    obtain ⟨hw1, hw2⟩ := hw
    have hw1 := hw1.symm
    have hw2 := hw2.symm
    subst hw1
    subst hw2
    have hP : va_P (dC, dI) vwCl (uw_HT ad_ht cA_ht (ad_rd 0) (ad_sp 0) (ad_mx 0) (ad_ar 0) (ad_tb 0) (ad_tc 0) ht ++ (uw_Reader ad_rd cA_rd rd ++ (uw_Speller ad_sp cA_sp sp ++ (uw_Mixture ad_mx cA_mx mx ++ (uw_Surroundings ad_ar cA_ar u5.2.2 ++ (uw_Table ad_tb cA_tb tb ++ (uw_Table ad_tc cA_tc tc ++ (uw_Out ad_ot cA_ot u5.2.1 ++ (uw_Model ad_md cA_md md))))))))) H := hP
    have hD : va_D A (uw_HT ad_ht cA_ht (ad_rd 0) (ad_sp 0) (ad_mx 0) (ad_ar 0) (ad_tb 0) (ad_tc 0) ht ++ (uw_Reader ad_rd cA_rd rd ++ (uw_Speller ad_sp cA_sp sp ++ (uw_Mixture ad_mx cA_mx mx ++ (uw_Surroundings ad_ar cA_ar u5.2.2 ++ (uw_Table ad_tb cA_tb tb ++ (uw_Table ad_tc cA_tc tc ++ (uw_Out ad_ot cA_ot u5.2.1 ++ (uw_Model ad_md cA_md md))))))))) := hD
    refine lv_istore (lv' := [(5, .int u5.1), (0, .ref b), (1, .ref (ad_ht 0)), (2, .ref (ad_md 0)), (3, .ref (ad_ot 1)), (4, .int y4)]) hx hb d_Law_law_791 hl (by decide) rfl (fun ls hl => ?_)
    refine lv_aload_n hx hb d_Law_law_793 rfl (lv_at hl 3 rfl) ?_
    refine lv_aload_n hx hb d_Law_law_794 rfl (lv_at hl 1 rfl) ?_
    refine lv_iload hx hb d_Law_law_795 (lv_at hl 5 rfl) ?_
    refine lv_iconst (v := (1 : Int32)) hx hb d_Law_law_797 (by decide) ?_
    refine lv_iadd hx hb d_Law_law_798 ?_
    obtain ⟨hi6, hf⟩ := hf_g hf
    refine va_sld hx hb hX0 hbl hbA hS hi6 d_Law_law_799 ?_
    refine lv_aload_n hx hb d_Law_law_800 rfl (lv_at hl 1 rfl) ?_
    refine lv_iload hx hb d_Law_law_801 (lv_at hl 5 rfl) ?_
    refine lv_iconst (v := (2 : Int32)) hx hb d_Law_law_803 (by decide) ?_
    refine lv_iadd hx hb d_Law_law_804 ?_
    obtain ⟨hi7, hf⟩ := hf_g hf
    refine va_sld hx hb hX0 hbl hbA hS hi7 d_Law_law_805 ?_
    refine lv_aload_n hx hb d_Law_law_806 rfl (lv_at hl 1 rfl) ?_
    refine lv_iload hx hb d_Law_law_807 (lv_at hl 5 rfl) ?_
    refine lv_iconst (v := (3 : Int32)) hx hb d_Law_law_809 (by decide) ?_
    refine lv_iadd hx hb d_Law_law_810 ?_
    obtain ⟨hi8, hf⟩ := hf_g hf
    refine va_sld hx hb hX0 hbl hbA hS hi8 d_Law_law_811 ?_
    refine lv_if_eq (tgt := 819) hx hb d_Law_law_812 (by decide) (fun hc9 => ?_) (fun hc9 => ?_)
    · refine lv_iconst (v := (0 : Int32)) hx hb d_Law_law_819 (by decide) ?_
      obtain ⟨u10, hu10, hf⟩ := Option.bind_eq_some_iff.mp hf
      refine cl_i (wc := (uw_Model ad_md cA_md md)) (wr := (uw_HT ad_ht cA_ht (ad_rd 0) (ad_sp 0) (ad_mx 0) (ad_ar 0) (ad_tb 0) (ad_tc 0) ht ++ (uw_Reader ad_rd cA_rd rd ++ (uw_Speller ad_sp cA_sp sp ++ (uw_Mixture ad_mx cA_mx mx ++ (uw_Surroundings ad_ar cA_ar u5.2.2 ++ (uw_Table ad_tb cA_tb tb ++ (uw_Table ad_tc cA_tc tc ++ (uw_Out ad_ot cA_ot u5.2.1))))))))) (tysC := [(cA_md 1, .int), (cA_md 2, .int), (cA_md 3, .int), (cA_md 4, .int), (cA_md 5, .int), (cA_md 6, .int), (cA_md 7, .int), (cA_md 8, .int), (cA_md 9, .boolean), (cA_md 10, .int), (cA_md 11, .int), (cA_md 12, .int), (cA_md 13, .int)]) (wu := fun (u : SModel) => (uw_Model ad_md cA_md u)) (wn := fun (u : SModel) => (uw_HT ad_ht cA_ht (ad_rd 0) (ad_sp 0) (ad_mx 0) (ad_ar 0) (ad_tb 0) (ad_tc 0) ht ++ (uw_Reader ad_rd cA_rd rd ++ (uw_Speller ad_sp cA_sp sp ++ (uw_Mixture ad_mx cA_mx mx ++ (uw_Surroundings ad_ar cA_ar u5.2.2 ++ (uw_Table ad_tb cA_tb tb ++ (uw_Table ad_tc cA_tc tc ++ (uw_Out ad_ot cA_ot u5.2.1 ++ (uw_Model ad_md cA_md u)))))))))) [28, 29, 30, 31, 32, 33, 34, 35, 36, 37, 38, 39, 40, 41] [0, 1, 2, 3, 4, 5, 6, 7, 8, 9, 10, 11, 12, 13, 14, 15, 16, 17, 18, 19, 20, 21, 22, 23, 24, 25, 26, 27] [0, 1, 2, 3, 4, 5, 6, 7, 8, 9, 10, 11, 12, 13, 14, 15, 16, 17, 18, 19, 20, 21, 22, 23, 24, 25, 26, 27, 28, 29, 30, 31, 32, 33, 34, 35, 36, 37, 38, 39, 40, 41] [21, 22, 23, 24, 25, 26, 27, 28, 29, 30, 31, 32, 33] hP hD hS hA hK rfl rfl (by decide +kernel) (by decide +kernel) (by decide +kernel) rfl (fun _ => rfl) (by decide +kernel) (fun hPc hKc hDc => (va_runV (As := [.int (xs (y4 + (1 : Int32)).toNatClampNeg), .int (xs (y4 + (2 : Int32)).toNatClampNeg), .int (0 : Int32)]) (rest := []) ⟨hx, hb, hml, hown, hts⟩ (k_Model_wind l dC dI ad_md cA_md H.size md (xs (y4 + (1 : Int32)).toNatClampNeg) (xs (y4 + (2 : Int32)).toNatClampNeg) false u10 hu10) (cwV 3 hts (gV wd_974 wd_975 wd_976 wd_49 wd_977) rfl rfl rfl (by decide +kernel) ⟨Nat.le_of_ble_eq_true rfl, Nat.le_of_ble_eq_true rfl⟩) (cl_preV hPc hKc hDc hN (ci := 6) 0 rfl rfl) rfl rfl hl.1 rfl (lv_room (Nat.le_of_ble_eq_true rfl)) d_Law_law_820 ⟨by show _ ≤ 1092; omega, by show _ ≤ 11944; omega⟩)) (fun r u H locs hw hP hD hS => ?_)
      obtain ⟨hw1, hw2⟩ := hw
      have hw1 := hw1.symm
      have hw2 := hw2.symm
      subst hw1
      subst hw2
      have hP : va_P (dC, dI) vwCl (uw_HT ad_ht cA_ht (ad_rd 0) (ad_sp 0) (ad_mx 0) (ad_ar 0) (ad_tb 0) (ad_tc 0) ht ++ (uw_Reader ad_rd cA_rd rd ++ (uw_Speller ad_sp cA_sp sp ++ (uw_Mixture ad_mx cA_mx mx ++ (uw_Surroundings ad_ar cA_ar u5.2.2 ++ (uw_Table ad_tb cA_tb tb ++ (uw_Table ad_tc cA_tc tc ++ (uw_Out ad_ot cA_ot u5.2.1 ++ (uw_Model ad_md cA_md u10.2))))))))) H := hP
      have hD : va_D A (uw_HT ad_ht cA_ht (ad_rd 0) (ad_sp 0) (ad_mx 0) (ad_ar 0) (ad_tb 0) (ad_tc 0) ht ++ (uw_Reader ad_rd cA_rd rd ++ (uw_Speller ad_sp cA_sp sp ++ (uw_Mixture ad_mx cA_mx mx ++ (uw_Surroundings ad_ar cA_ar u5.2.2 ++ (uw_Table ad_tb cA_tb tb ++ (uw_Table ad_tc cA_tc tc ++ (uw_Out ad_ot cA_ot u5.2.1 ++ (uw_Model ad_md cA_md u10.2))))))))) := hD
      refine lv_istore (lv' := [(6, .int u10.1), (5, .int u5.1), (0, .ref b), (1, .ref (ad_ht 0)), (2, .ref (ad_md 0)), (3, .ref (ad_ot 1)), (4, .int y4)]) hx hb d_Law_law_823 hl (by decide) rfl (fun ls hl => ?_)
      refine lv_aload_n hx hb d_Law_law_825 rfl (lv_at hl 4 rfl) ?_
      obtain ⟨u11, hu11, hf⟩ := Option.bind_eq_some_iff.mp hf
      refine cl_i (wc := (uw_Model ad_md cA_md u10.2)) (wr := (uw_HT ad_ht cA_ht (ad_rd 0) (ad_sp 0) (ad_mx 0) (ad_ar 0) (ad_tb 0) (ad_tc 0) ht ++ (uw_Reader ad_rd cA_rd rd ++ (uw_Speller ad_sp cA_sp sp ++ (uw_Mixture ad_mx cA_mx mx ++ (uw_Surroundings ad_ar cA_ar u5.2.2 ++ (uw_Table ad_tb cA_tb tb ++ (uw_Table ad_tc cA_tc tc ++ (uw_Out ad_ot cA_ot u5.2.1))))))))) (tysC := [(cA_md 1, .int), (cA_md 2, .int), (cA_md 3, .int), (cA_md 4, .int), (cA_md 5, .int), (cA_md 6, .int), (cA_md 7, .int), (cA_md 8, .int), (cA_md 9, .boolean), (cA_md 10, .int), (cA_md 11, .int), (cA_md 12, .int), (cA_md 13, .int)]) (wu := fun (u : Unit) => (uw_Model ad_md cA_md u10.2)) (wn := fun (u : Unit) => (uw_HT ad_ht cA_ht (ad_rd 0) (ad_sp 0) (ad_mx 0) (ad_ar 0) (ad_tb 0) (ad_tc 0) ht ++ (uw_Reader ad_rd cA_rd rd ++ (uw_Speller ad_sp cA_sp sp ++ (uw_Mixture ad_mx cA_mx mx ++ (uw_Surroundings ad_ar cA_ar u5.2.2 ++ (uw_Table ad_tb cA_tb tb ++ (uw_Table ad_tc cA_tc tc ++ (uw_Out ad_ot cA_ot u5.2.1 ++ (uw_Model ad_md cA_md u10.2)))))))))) [28, 29, 30, 31, 32, 33, 34, 35, 36, 37, 38, 39, 40, 41] [0, 1, 2, 3, 4, 5, 6, 7, 8, 9, 10, 11, 12, 13, 14, 15, 16, 17, 18, 19, 20, 21, 22, 23, 24, 25, 26, 27] [0, 1, 2, 3, 4, 5, 6, 7, 8, 9, 10, 11, 12, 13, 14, 15, 16, 17, 18, 19, 20, 21, 22, 23, 24, 25, 26, 27, 28, 29, 30, 31, 32, 33, 34, 35, 36, 37, 38, 39, 40, 41] [21, 22, 23, 24, 25, 26, 27, 28, 29, 30, 31, 32, 33] hP hD hS hA hK rfl rfl (by decide +kernel) (by decide +kernel) (by decide +kernel) rfl (fun _ => rfl) (by decide +kernel) (fun hPc hKc hDc => (va_runV (As := []) (rest := []) ⟨hx, hb, hml, hown, hts⟩ (k_Model_thrown l dC dI ad_md cA_md H.size u10.2 u11 hu11) (cwV 0 hts (gV wd_839 wd_840 wd_841 wd_49 wd_842) rfl rfl rfl (by decide +kernel) ⟨Nat.le_of_ble_eq_true rfl, Nat.le_of_ble_eq_true rfl⟩) (cl_preV hPc hKc hDc hN (ci := 6) 0 rfl rfl) rfl rfl hl.1 rfl (lv_room (Nat.le_of_ble_eq_true rfl)) d_Law_law_826 ⟨by show _ ≤ 1092; omega, by show _ ≤ 11944; omega⟩)) (fun r u H locs hw hP hD hS => ?_)
      have hw := hw.symm
      subst hw
      have hP : va_P (dC, dI) vwCl (uw_HT ad_ht cA_ht (ad_rd 0) (ad_sp 0) (ad_mx 0) (ad_ar 0) (ad_tb 0) (ad_tc 0) ht ++ (uw_Reader ad_rd cA_rd rd ++ (uw_Speller ad_sp cA_sp sp ++ (uw_Mixture ad_mx cA_mx mx ++ (uw_Surroundings ad_ar cA_ar u5.2.2 ++ (uw_Table ad_tb cA_tb tb ++ (uw_Table ad_tc cA_tc tc ++ (uw_Out ad_ot cA_ot u5.2.1 ++ (uw_Model ad_md cA_md u10.2))))))))) H := hP
      have hD : va_D A (uw_HT ad_ht cA_ht (ad_rd 0) (ad_sp 0) (ad_mx 0) (ad_ar 0) (ad_tb 0) (ad_tc 0) ht ++ (uw_Reader ad_rd cA_rd rd ++ (uw_Speller ad_sp cA_sp sp ++ (uw_Mixture ad_mx cA_mx mx ++ (uw_Surroundings ad_ar cA_ar u5.2.2 ++ (uw_Table ad_tb cA_tb tb ++ (uw_Table ad_tc cA_tc tc ++ (uw_Out ad_ot cA_ot u5.2.1 ++ (uw_Model ad_md cA_md u10.2))))))))) := hD
      refine lv_iload hx hb d_Law_law_829 (lv_at hl 1 rfl) ?_
      refine lv_icmp_eq (tgt := 836) hx hb d_Law_law_831 (by decide) (fun hc12 => ?_) (fun hc12 => ?_)
      · have hf := hf_t hf hc12
        refine lv_iload hx hb d_Law_law_836 (lv_at hl 1 rfl) ?_
        refine lv_if_ne (tgt := 853) hx hb d_Law_law_838 (by decide) (fun hc13 => ?_) (fun hc13 => ?_)
        · have hf := hf_f hf hc13
          refine lv_goto (tgt := 1166) hx hb d_Law_law_853 (by decide) ?_
          refine lv_iinc (v := y4 + (4 : Int32)) (lv' := [(4, .int (y4 + (4 : Int32))), (6, .int u10.1), (5, .int u5.1), (0, .ref b), (1, .ref (ad_ht 0)), (2, .ref (ad_md 0)), (3, .ref (ad_ot 1))]) hx hb d_Law_law_1166 hl (k := 6) rfl rfl (by decide) rfl (fun ls hl => ?_)
          refine lv_goto (tgt := 23) hx hb d_Law_law_1169 (by decide) ?_
          refine W.widen (k := cs + 1) (n := sl + 6) (by omega) (by omega) ?_
          exact hk ad_ht cA_ht ad_rd cA_rd ad_sp cA_sp ad_mx cA_mx ad_ar cA_ar ad_tb cA_tb ad_tc cA_tc ad_ot cA_ot ad_md cA_md ht rd sp mx u5.2.2 tb tc u5.2.1 u10.2 (y4 + (4 : Int32)) H locs ls hf hK hP hD hS (lv_sub hl [3, 4, 5, 6, 0] rfl)
        · have hf := hf_t hf hc13
          refine lv_aload_n hx hb d_Law_law_841 rfl (lv_at hl 5 rfl) ?_
          refine lv_iconst (v := (0 : Int32)) hx hb d_Law_law_842 (by decide) ?_
          obtain ⟨hi14, hf⟩ := hf_g hf
          refine va_lald hx hb hK hP 27 20 rfl rfl hi14 d_Law_law_843 ?_
          refine lv_iload hx hb d_Law_law_844 (lv_at hl 0 rfl) ?_
          refine lv_i2l (v := u10.1.toInt64) hx hb d_Law_law_846 rfl ?_
          refine W.lcmp hx hb d_Law_law_847 ?_
          refine lv_if_eq (tgt := 853) hx hb d_Law_law_848 (by decide) (fun hc15 => ?_) (fun hc15 => ?_)
          · have hf := hf_t hf hc15
            refine lv_goto (tgt := 1166) hx hb d_Law_law_853 (by decide) ?_
            refine lv_iinc (v := y4 + (4 : Int32)) (lv' := [(4, .int (y4 + (4 : Int32))), (6, .int u10.1), (5, .int u5.1), (0, .ref b), (1, .ref (ad_ht 0)), (2, .ref (ad_md 0)), (3, .ref (ad_ot 1))]) hx hb d_Law_law_1166 hl (k := 6) rfl rfl (by decide) rfl (fun ls hl => ?_)
            refine lv_goto (tgt := 23) hx hb d_Law_law_1169 (by decide) ?_
            refine W.widen (k := cs + 1) (n := sl + 6) (by omega) (by omega) ?_
            exact hk ad_ht cA_ht ad_rd cA_rd ad_sp cA_sp ad_mx cA_mx ad_ar cA_ar ad_tb cA_tb ad_tc cA_tc ad_ot cA_ot ad_md cA_md ht rd sp mx u5.2.2 tb tc u5.2.1 u10.2 (y4 + (4 : Int32)) H locs ls hf hK hP hD hS (lv_sub hl [3, 4, 5, 6, 0] rfl)
          · have hf := hf_f hf hc15
            refine lv_iconst (v := (0 : Int32)) hx hb d_Law_law_851 (by decide) ?_
            have hrv : rv = false := (Option.some.inj hf).symm
            subst hrv
            refine va_forget (fun q hq => hA2 _ (hS.2.2 q hq)) ?_
            refine W.widen (k := 1092) (n := 11944) (by omega) (by omega) ?_
            exact lw_ret0b hx hb hr hlocks d_Law_law_852
      · have hf := hf_f hf hc12
        refine lv_iconst (v := (0 : Int32)) hx hb d_Law_law_834 (by decide) ?_
        have hrv : rv = false := (Option.some.inj hf).symm
        subst hrv
        refine va_forget (fun q hq => hA2 _ (hS.2.2 q hq)) ?_
        refine W.widen (k := 1092) (n := 11944) (by omega) (by omega) ?_
        exact lw_ret0b hx hb hr hlocks d_Law_law_835
    · exact absurd hc4 hc9
  · have hf := hf_f hf hc4
    refine lv_iconst (v := (1 : Int32)) hx hb d_Law_law_782 (by decide) ?_
    refine lv_goto (tgt := 787) hx hb d_Law_law_783 (by decide) ?_
    refine lv_aload_n hx hb d_Law_law_787 rfl (lv_at hl 3 rfl) ?_
    obtain ⟨u16, hu16, hf⟩ := Option.bind_eq_some_iff.mp hf
    refine cl_i (wc := (uw_HT ad_ht cA_ht (ad_rd 0) (ad_sp 0) (ad_mx 0) (ad_ar 0) (ad_tb 0) (ad_tc 0) ht ++ (uw_Out ad_ot cA_ot ot ++ (uw_Mixture ad_mx cA_mx mx ++ (uw_Surroundings ad_ar cA_ar ar ++ (uw_Table ad_tb cA_tb tb)))))) (wr := (uw_Reader ad_rd cA_rd rd ++ (uw_Speller ad_sp cA_sp sp ++ (uw_Table ad_tc cA_tc tc ++ (uw_Model ad_md cA_md md))))) (tysC := [(cA_ht 1, .int), (cA_ot 1, .long), (cA_mx 1, .int), (cA_mx 2, .int), (cA_mx 3, .boolean), (cA_ar 1, .int), (cA_ar 2, .int), (cA_ar 3, .int), (cA_tb 1, .int), (cA_tb 2, .int), (cA_tb 3, .int), (cA_tb 4, .byte)]) (wu := fun (u : SOut × SSurroundings) => (uw_HT ad_ht cA_ht (ad_rd 0) (ad_sp 0) (ad_mx 0) (ad_ar 0) (ad_tb 0) (ad_tc 0) ht ++ (uw_Out ad_ot cA_ot u.1 ++ (uw_Mixture ad_mx cA_mx mx ++ (uw_Surroundings ad_ar cA_ar u.2 ++ (uw_Table ad_tb cA_tb tb)))))) (wn := fun (u : SOut × SSurroundings) => (uw_HT ad_ht cA_ht (ad_rd 0) (ad_sp 0) (ad_mx 0) (ad_ar 0) (ad_tb 0) (ad_tc 0) ht ++ (uw_Reader ad_rd cA_rd rd ++ (uw_Speller ad_sp cA_sp sp ++ (uw_Mixture ad_mx cA_mx mx ++ (uw_Surroundings ad_ar cA_ar u.2 ++ (uw_Table ad_tb cA_tb tb ++ (uw_Table ad_tc cA_tc tc ++ (uw_Out ad_ot cA_ot u.1 ++ (uw_Model ad_md cA_md md)))))))))) [0, 1, 27, 9, 10, 11, 12, 13, 14, 15, 16, 17, 18, 19, 20, 21] [2, 3, 4, 5, 6, 7, 8, 22, 23, 24, 25, 26, 28, 29, 30, 31, 32, 33, 34, 35, 36, 37, 38, 39, 40, 41] [26, 27, 0, 1, 2, 3, 4, 5, 6, 29, 30, 31, 32, 33, 34, 35, 36, 37, 38, 39, 40, 41, 7, 8, 9, 10, 11, 28, 12, 13, 14, 15, 16, 17, 18, 19, 20, 21, 22, 23, 24, 25] [0, 20, 6, 7, 8, 9, 10, 11, 12, 13, 14, 15] hP hD hS hA hK rfl rfl (by decide +kernel) (by decide +kernel) (by decide +kernel) rfl (fun _ => rfl) (by decide +kernel) (fun hPc hKc hDc => (vx_runSW (As := [.ref (ad_ht 0), .int (xs (y4 + (1 : Int32)).toNatClampNeg), .int (xs (y4 + (2 : Int32)).toNatClampNeg), .int (1 : Int32), .ref (ad_ot 1)]) (rest := []) ⟨hx, hb, hml, hown, hts⟩ (k_Law_wind l dC dI ad_ht cA_ht ad_ot cA_ot ad_mx cA_mx ad_ar cA_ar ad_tb cA_tb ad_rd cA_rd ad_sp cA_sp ad_tc cA_tc H.size ht ot mx ar tb (xs (y4 + (1 : Int32)).toNatClampNeg) (xs (y4 + (2 : Int32)).toNatClampNeg) true u16 hu16 htr) (vx_cwSW 5 hts (gSW wd_667 wd_668 wd_42 wd_669) rfl rfl rfl (by decide +kernel) ⟨Nat.le_of_ble_eq_true rfl, Nat.le_of_ble_eq_true rfl⟩) (cx_preL hPc hKc hDc hN (fun U hU hW => xAll_at hX hS (va_free hD hS hA [0, 1, 27, 9, 10, 11, 12, 13, 14, 15, 16, 17, 18, 19, 20, 21] rfl) hU hW) hnc) rfl rfl hl.1 rfl (lv_room (Nat.le_of_ble_eq_true rfl)) d_Law_law_788 ⟨by show _ ≤ 1092; omega, by show _ ≤ 11944; omega⟩)) (fun r u H locs hw hP hD hS => ?_)
    obtain ⟨hw1, hw2⟩ := hw
    have hw1 := hw1.symm
    have hw2 := hw2.symm
    subst hw1
    subst hw2
    have hP : va_P (dC, dI) vwCl (uw_HT ad_ht cA_ht (ad_rd 0) (ad_sp 0) (ad_mx 0) (ad_ar 0) (ad_tb 0) (ad_tc 0) ht ++ (uw_Reader ad_rd cA_rd rd ++ (uw_Speller ad_sp cA_sp sp ++ (uw_Mixture ad_mx cA_mx mx ++ (uw_Surroundings ad_ar cA_ar u16.2.2 ++ (uw_Table ad_tb cA_tb tb ++ (uw_Table ad_tc cA_tc tc ++ (uw_Out ad_ot cA_ot u16.2.1 ++ (uw_Model ad_md cA_md md))))))))) H := hP
    have hD : va_D A (uw_HT ad_ht cA_ht (ad_rd 0) (ad_sp 0) (ad_mx 0) (ad_ar 0) (ad_tb 0) (ad_tc 0) ht ++ (uw_Reader ad_rd cA_rd rd ++ (uw_Speller ad_sp cA_sp sp ++ (uw_Mixture ad_mx cA_mx mx ++ (uw_Surroundings ad_ar cA_ar u16.2.2 ++ (uw_Table ad_tb cA_tb tb ++ (uw_Table ad_tc cA_tc tc ++ (uw_Out ad_ot cA_ot u16.2.1 ++ (uw_Model ad_md cA_md md))))))))) := hD
    refine lv_istore (lv' := [(5, .int u16.1), (0, .ref b), (1, .ref (ad_ht 0)), (2, .ref (ad_md 0)), (3, .ref (ad_ot 1)), (4, .int y4)]) hx hb d_Law_law_791 hl (by decide) rfl (fun ls hl => ?_)
    refine lv_aload_n hx hb d_Law_law_793 rfl (lv_at hl 3 rfl) ?_
    refine lv_aload_n hx hb d_Law_law_794 rfl (lv_at hl 1 rfl) ?_
    refine lv_iload hx hb d_Law_law_795 (lv_at hl 5 rfl) ?_
    refine lv_iconst (v := (1 : Int32)) hx hb d_Law_law_797 (by decide) ?_
    refine lv_iadd hx hb d_Law_law_798 ?_
    obtain ⟨hi17, hf⟩ := hf_g hf
    refine va_sld hx hb hX0 hbl hbA hS hi17 d_Law_law_799 ?_
    refine lv_aload_n hx hb d_Law_law_800 rfl (lv_at hl 1 rfl) ?_
    refine lv_iload hx hb d_Law_law_801 (lv_at hl 5 rfl) ?_
    refine lv_iconst (v := (2 : Int32)) hx hb d_Law_law_803 (by decide) ?_
    refine lv_iadd hx hb d_Law_law_804 ?_
    obtain ⟨hi18, hf⟩ := hf_g hf
    refine va_sld hx hb hX0 hbl hbA hS hi18 d_Law_law_805 ?_
    refine lv_aload_n hx hb d_Law_law_806 rfl (lv_at hl 1 rfl) ?_
    refine lv_iload hx hb d_Law_law_807 (lv_at hl 5 rfl) ?_
    refine lv_iconst (v := (3 : Int32)) hx hb d_Law_law_809 (by decide) ?_
    refine lv_iadd hx hb d_Law_law_810 ?_
    obtain ⟨hi19, hf⟩ := hf_g hf
    refine va_sld hx hb hX0 hbl hbA hS hi19 d_Law_law_811 ?_
    refine lv_if_eq (tgt := 819) hx hb d_Law_law_812 (by decide) (fun hc20 => ?_) (fun hc20 => ?_)
    · exact absurd hc20 hc4
    · refine lv_iconst (v := (1 : Int32)) hx hb d_Law_law_815 (by decide) ?_
      refine lv_goto (tgt := 820) hx hb d_Law_law_816 (by decide) ?_
      obtain ⟨u21, hu21, hf⟩ := Option.bind_eq_some_iff.mp hf
      refine cl_i (wc := (uw_Model ad_md cA_md md)) (wr := (uw_HT ad_ht cA_ht (ad_rd 0) (ad_sp 0) (ad_mx 0) (ad_ar 0) (ad_tb 0) (ad_tc 0) ht ++ (uw_Reader ad_rd cA_rd rd ++ (uw_Speller ad_sp cA_sp sp ++ (uw_Mixture ad_mx cA_mx mx ++ (uw_Surroundings ad_ar cA_ar u16.2.2 ++ (uw_Table ad_tb cA_tb tb ++ (uw_Table ad_tc cA_tc tc ++ (uw_Out ad_ot cA_ot u16.2.1))))))))) (tysC := [(cA_md 1, .int), (cA_md 2, .int), (cA_md 3, .int), (cA_md 4, .int), (cA_md 5, .int), (cA_md 6, .int), (cA_md 7, .int), (cA_md 8, .int), (cA_md 9, .boolean), (cA_md 10, .int), (cA_md 11, .int), (cA_md 12, .int), (cA_md 13, .int)]) (wu := fun (u : SModel) => (uw_Model ad_md cA_md u)) (wn := fun (u : SModel) => (uw_HT ad_ht cA_ht (ad_rd 0) (ad_sp 0) (ad_mx 0) (ad_ar 0) (ad_tb 0) (ad_tc 0) ht ++ (uw_Reader ad_rd cA_rd rd ++ (uw_Speller ad_sp cA_sp sp ++ (uw_Mixture ad_mx cA_mx mx ++ (uw_Surroundings ad_ar cA_ar u16.2.2 ++ (uw_Table ad_tb cA_tb tb ++ (uw_Table ad_tc cA_tc tc ++ (uw_Out ad_ot cA_ot u16.2.1 ++ (uw_Model ad_md cA_md u)))))))))) [28, 29, 30, 31, 32, 33, 34, 35, 36, 37, 38, 39, 40, 41] [0, 1, 2, 3, 4, 5, 6, 7, 8, 9, 10, 11, 12, 13, 14, 15, 16, 17, 18, 19, 20, 21, 22, 23, 24, 25, 26, 27] [0, 1, 2, 3, 4, 5, 6, 7, 8, 9, 10, 11, 12, 13, 14, 15, 16, 17, 18, 19, 20, 21, 22, 23, 24, 25, 26, 27, 28, 29, 30, 31, 32, 33, 34, 35, 36, 37, 38, 39, 40, 41] [21, 22, 23, 24, 25, 26, 27, 28, 29, 30, 31, 32, 33] hP hD hS hA hK rfl rfl (by decide +kernel) (by decide +kernel) (by decide +kernel) rfl (fun _ => rfl) (by decide +kernel) (fun hPc hKc hDc => (va_runV (As := [.int (xs (y4 + (1 : Int32)).toNatClampNeg), .int (xs (y4 + (2 : Int32)).toNatClampNeg), .int (1 : Int32)]) (rest := []) ⟨hx, hb, hml, hown, hts⟩ (k_Model_wind l dC dI ad_md cA_md H.size md (xs (y4 + (1 : Int32)).toNatClampNeg) (xs (y4 + (2 : Int32)).toNatClampNeg) true u21 hu21) (cwV 3 hts (gV wd_974 wd_975 wd_976 wd_49 wd_977) rfl rfl rfl (by decide +kernel) ⟨Nat.le_of_ble_eq_true rfl, Nat.le_of_ble_eq_true rfl⟩) (cl_preV hPc hKc hDc hN (ci := 6) 0 rfl rfl) rfl rfl hl.1 rfl (lv_room (Nat.le_of_ble_eq_true rfl)) d_Law_law_820 ⟨by show _ ≤ 1092; omega, by show _ ≤ 11944; omega⟩)) (fun r u H locs hw hP hD hS => ?_)
      obtain ⟨hw1, hw2⟩ := hw
      have hw1 := hw1.symm
      have hw2 := hw2.symm
      subst hw1
      subst hw2
      have hP : va_P (dC, dI) vwCl (uw_HT ad_ht cA_ht (ad_rd 0) (ad_sp 0) (ad_mx 0) (ad_ar 0) (ad_tb 0) (ad_tc 0) ht ++ (uw_Reader ad_rd cA_rd rd ++ (uw_Speller ad_sp cA_sp sp ++ (uw_Mixture ad_mx cA_mx mx ++ (uw_Surroundings ad_ar cA_ar u16.2.2 ++ (uw_Table ad_tb cA_tb tb ++ (uw_Table ad_tc cA_tc tc ++ (uw_Out ad_ot cA_ot u16.2.1 ++ (uw_Model ad_md cA_md u21.2))))))))) H := hP
      have hD : va_D A (uw_HT ad_ht cA_ht (ad_rd 0) (ad_sp 0) (ad_mx 0) (ad_ar 0) (ad_tb 0) (ad_tc 0) ht ++ (uw_Reader ad_rd cA_rd rd ++ (uw_Speller ad_sp cA_sp sp ++ (uw_Mixture ad_mx cA_mx mx ++ (uw_Surroundings ad_ar cA_ar u16.2.2 ++ (uw_Table ad_tb cA_tb tb ++ (uw_Table ad_tc cA_tc tc ++ (uw_Out ad_ot cA_ot u16.2.1 ++ (uw_Model ad_md cA_md u21.2))))))))) := hD
      refine lv_istore (lv' := [(6, .int u21.1), (5, .int u16.1), (0, .ref b), (1, .ref (ad_ht 0)), (2, .ref (ad_md 0)), (3, .ref (ad_ot 1)), (4, .int y4)]) hx hb d_Law_law_823 hl (by decide) rfl (fun ls hl => ?_)
      refine lv_aload_n hx hb d_Law_law_825 rfl (lv_at hl 4 rfl) ?_
      obtain ⟨u22, hu22, hf⟩ := Option.bind_eq_some_iff.mp hf
      refine cl_i (wc := (uw_Model ad_md cA_md u21.2)) (wr := (uw_HT ad_ht cA_ht (ad_rd 0) (ad_sp 0) (ad_mx 0) (ad_ar 0) (ad_tb 0) (ad_tc 0) ht ++ (uw_Reader ad_rd cA_rd rd ++ (uw_Speller ad_sp cA_sp sp ++ (uw_Mixture ad_mx cA_mx mx ++ (uw_Surroundings ad_ar cA_ar u16.2.2 ++ (uw_Table ad_tb cA_tb tb ++ (uw_Table ad_tc cA_tc tc ++ (uw_Out ad_ot cA_ot u16.2.1))))))))) (tysC := [(cA_md 1, .int), (cA_md 2, .int), (cA_md 3, .int), (cA_md 4, .int), (cA_md 5, .int), (cA_md 6, .int), (cA_md 7, .int), (cA_md 8, .int), (cA_md 9, .boolean), (cA_md 10, .int), (cA_md 11, .int), (cA_md 12, .int), (cA_md 13, .int)]) (wu := fun (u : Unit) => (uw_Model ad_md cA_md u21.2)) (wn := fun (u : Unit) => (uw_HT ad_ht cA_ht (ad_rd 0) (ad_sp 0) (ad_mx 0) (ad_ar 0) (ad_tb 0) (ad_tc 0) ht ++ (uw_Reader ad_rd cA_rd rd ++ (uw_Speller ad_sp cA_sp sp ++ (uw_Mixture ad_mx cA_mx mx ++ (uw_Surroundings ad_ar cA_ar u16.2.2 ++ (uw_Table ad_tb cA_tb tb ++ (uw_Table ad_tc cA_tc tc ++ (uw_Out ad_ot cA_ot u16.2.1 ++ (uw_Model ad_md cA_md u21.2)))))))))) [28, 29, 30, 31, 32, 33, 34, 35, 36, 37, 38, 39, 40, 41] [0, 1, 2, 3, 4, 5, 6, 7, 8, 9, 10, 11, 12, 13, 14, 15, 16, 17, 18, 19, 20, 21, 22, 23, 24, 25, 26, 27] [0, 1, 2, 3, 4, 5, 6, 7, 8, 9, 10, 11, 12, 13, 14, 15, 16, 17, 18, 19, 20, 21, 22, 23, 24, 25, 26, 27, 28, 29, 30, 31, 32, 33, 34, 35, 36, 37, 38, 39, 40, 41] [21, 22, 23, 24, 25, 26, 27, 28, 29, 30, 31, 32, 33] hP hD hS hA hK rfl rfl (by decide +kernel) (by decide +kernel) (by decide +kernel) rfl (fun _ => rfl) (by decide +kernel) (fun hPc hKc hDc => (va_runV (As := []) (rest := []) ⟨hx, hb, hml, hown, hts⟩ (k_Model_thrown l dC dI ad_md cA_md H.size u21.2 u22 hu22) (cwV 0 hts (gV wd_839 wd_840 wd_841 wd_49 wd_842) rfl rfl rfl (by decide +kernel) ⟨Nat.le_of_ble_eq_true rfl, Nat.le_of_ble_eq_true rfl⟩) (cl_preV hPc hKc hDc hN (ci := 6) 0 rfl rfl) rfl rfl hl.1 rfl (lv_room (Nat.le_of_ble_eq_true rfl)) d_Law_law_826 ⟨by show _ ≤ 1092; omega, by show _ ≤ 11944; omega⟩)) (fun r u H locs hw hP hD hS => ?_)
      have hw := hw.symm
      subst hw
      have hP : va_P (dC, dI) vwCl (uw_HT ad_ht cA_ht (ad_rd 0) (ad_sp 0) (ad_mx 0) (ad_ar 0) (ad_tb 0) (ad_tc 0) ht ++ (uw_Reader ad_rd cA_rd rd ++ (uw_Speller ad_sp cA_sp sp ++ (uw_Mixture ad_mx cA_mx mx ++ (uw_Surroundings ad_ar cA_ar u16.2.2 ++ (uw_Table ad_tb cA_tb tb ++ (uw_Table ad_tc cA_tc tc ++ (uw_Out ad_ot cA_ot u16.2.1 ++ (uw_Model ad_md cA_md u21.2))))))))) H := hP
      have hD : va_D A (uw_HT ad_ht cA_ht (ad_rd 0) (ad_sp 0) (ad_mx 0) (ad_ar 0) (ad_tb 0) (ad_tc 0) ht ++ (uw_Reader ad_rd cA_rd rd ++ (uw_Speller ad_sp cA_sp sp ++ (uw_Mixture ad_mx cA_mx mx ++ (uw_Surroundings ad_ar cA_ar u16.2.2 ++ (uw_Table ad_tb cA_tb tb ++ (uw_Table ad_tc cA_tc tc ++ (uw_Out ad_ot cA_ot u16.2.1 ++ (uw_Model ad_md cA_md u21.2))))))))) := hD
      refine lv_iload hx hb d_Law_law_829 (lv_at hl 1 rfl) ?_
      refine lv_icmp_eq (tgt := 836) hx hb d_Law_law_831 (by decide) (fun hc23 => ?_) (fun hc23 => ?_)
      · have hf := hf_t hf hc23
        refine lv_iload hx hb d_Law_law_836 (lv_at hl 1 rfl) ?_
        refine lv_if_ne (tgt := 853) hx hb d_Law_law_838 (by decide) (fun hc24 => ?_) (fun hc24 => ?_)
        · have hf := hf_f hf hc24
          refine lv_goto (tgt := 1166) hx hb d_Law_law_853 (by decide) ?_
          refine lv_iinc (v := y4 + (4 : Int32)) (lv' := [(4, .int (y4 + (4 : Int32))), (6, .int u21.1), (5, .int u16.1), (0, .ref b), (1, .ref (ad_ht 0)), (2, .ref (ad_md 0)), (3, .ref (ad_ot 1))]) hx hb d_Law_law_1166 hl (k := 6) rfl rfl (by decide) rfl (fun ls hl => ?_)
          refine lv_goto (tgt := 23) hx hb d_Law_law_1169 (by decide) ?_
          refine W.widen (k := cs + 1) (n := sl + 6) (by omega) (by omega) ?_
          exact hk ad_ht cA_ht ad_rd cA_rd ad_sp cA_sp ad_mx cA_mx ad_ar cA_ar ad_tb cA_tb ad_tc cA_tc ad_ot cA_ot ad_md cA_md ht rd sp mx u16.2.2 tb tc u16.2.1 u21.2 (y4 + (4 : Int32)) H locs ls hf hK hP hD hS (lv_sub hl [3, 4, 5, 6, 0] rfl)
        · have hf := hf_t hf hc24
          refine lv_aload_n hx hb d_Law_law_841 rfl (lv_at hl 5 rfl) ?_
          refine lv_iconst (v := (0 : Int32)) hx hb d_Law_law_842 (by decide) ?_
          obtain ⟨hi25, hf⟩ := hf_g hf
          refine va_lald hx hb hK hP 27 20 rfl rfl hi25 d_Law_law_843 ?_
          refine lv_iload hx hb d_Law_law_844 (lv_at hl 0 rfl) ?_
          refine lv_i2l (v := u21.1.toInt64) hx hb d_Law_law_846 rfl ?_
          refine W.lcmp hx hb d_Law_law_847 ?_
          refine lv_if_eq (tgt := 853) hx hb d_Law_law_848 (by decide) (fun hc26 => ?_) (fun hc26 => ?_)
          · have hf := hf_t hf hc26
            refine lv_goto (tgt := 1166) hx hb d_Law_law_853 (by decide) ?_
            refine lv_iinc (v := y4 + (4 : Int32)) (lv' := [(4, .int (y4 + (4 : Int32))), (6, .int u21.1), (5, .int u16.1), (0, .ref b), (1, .ref (ad_ht 0)), (2, .ref (ad_md 0)), (3, .ref (ad_ot 1))]) hx hb d_Law_law_1166 hl (k := 6) rfl rfl (by decide) rfl (fun ls hl => ?_)
            refine lv_goto (tgt := 23) hx hb d_Law_law_1169 (by decide) ?_
            refine W.widen (k := cs + 1) (n := sl + 6) (by omega) (by omega) ?_
            exact hk ad_ht cA_ht ad_rd cA_rd ad_sp cA_sp ad_mx cA_mx ad_ar cA_ar ad_tb cA_tb ad_tc cA_tc ad_ot cA_ot ad_md cA_md ht rd sp mx u16.2.2 tb tc u16.2.1 u21.2 (y4 + (4 : Int32)) H locs ls hf hK hP hD hS (lv_sub hl [3, 4, 5, 6, 0] rfl)
          · have hf := hf_f hf hc26
            refine lv_iconst (v := (0 : Int32)) hx hb d_Law_law_851 (by decide) ?_
            have hrv : rv = false := (Option.some.inj hf).symm
            subst hrv
            refine va_forget (fun q hq => hA2 _ (hS.2.2 q hq)) ?_
            refine W.widen (k := 1092) (n := 11944) (by omega) (by omega) ?_
            exact lw_ret0b hx hb hr hlocks d_Law_law_852
      · have hf := hf_f hf hc23
        refine lv_iconst (v := (0 : Int32)) hx hb d_Law_law_834 (by decide) ?_
        have hrv : rv = false := (Option.some.inj hf).symm
        subst hrv
        refine va_forget (fun q hq => hA2 _ (hS.2.2 q hq)) ?_
        refine W.widen (k := 1092) (n := 11944) (by omega) (by omega) ?_
        exact lw_ret0b hx hb hr hlocks d_Law_law_835
noncomputable def f_Law_case_856 (L : Nat) (xs : Nat → Int32) (k : SHT → SReader → SSpeller → SMixture → SSurroundings → STable → STable → SOut → SModel → Int32 → Option Bool) (ht : SHT) (rd : SReader) (sp : SSpeller) (mx : SMixture) (ar : SSurroundings) (tb : STable) (tc : STable) (ot : SOut) (md : SModel) (y4 : Int32) : Option Bool :=
  (if inb (y4 + (1 : Int32)) L then
    (Option.bind (f_Law_fresh ht ot ar (xs (y4 + (1 : Int32)).toNatClampNeg)) fun u2 =>
      (if inb (y4 + (1 : Int32)) L then
        (Option.bind (f_Model_fresh md (xs (y4 + (1 : Int32)).toNatClampNeg)) fun u4 =>
          (Option.bind (f_Model_thrown u4.2) fun u5 =>
            (if u5 = u2.1 then
              (if u2.1 = 0 then
                (if inb (0 : Int32) 1 then
                  (if (lg_cmp (u2.2 (0 : Int32).toNatClampNeg) u4.1.toInt64) = 0 then
                    (k ht rd sp mx ar tb tc u2.2 u4.2 (y4 + (4 : Int32)))
                   else
                    (some false)
                   )
                 else none)
               else
                (k ht rd sp mx ar tb tc u2.2 u4.2 (y4 + (4 : Int32)))
               )
             else
              (some false)
             )
           )
         )
       else none)
     )
   else none)
set_option maxHeartbeats 4000000 in
set_option maxRecDepth 100000 in
theorem k_Law_case_856 {rv : Bool} {p : Program} {l : Launch} {e : Env} {s : State} {m : MethodId} {below : List Frame} {meth : Method} {c : Code} {dC : Nat → ClassId} {dI : Nat → Nat → Nat} {b L : Nat} {xs : Nat → Int32} {A : Nat → Prop} (htr : l.stackTraces = false) (C0 : lw_At p s m meth c b L xs) (hN : nwAll s) (hX : xAll A s) (hnc : ncAll s) (hA : ∀ q : Nat, s.heap.size ≤ q → A q) (hA2 : ∀ q : Nat, A q → s.heap.size ≤ q) (cs sl : Nat) (hcs : cs + 1 ≤ 1092) (hsl : sl + 6 ≤ 11944) (k : SHT → SReader → SSpeller → SMixture → SSurroundings → STable → STable → SOut → SModel → Int32 → Option Bool) (hk : ∀ (ad_ht : Nat → Nat) (cA_ht : Nat → ClassId) (ad_rd : Nat → Nat) (cA_rd : Nat → ClassId) (ad_sp : Nat → Nat) (cA_sp : Nat → ClassId) (ad_mx : Nat → Nat) (cA_mx : Nat → ClassId) (ad_ar : Nat → Nat) (cA_ar : Nat → ClassId) (ad_tb : Nat → Nat) (cA_tb : Nat → ClassId) (ad_tc : Nat → Nat) (cA_tc : Nat → ClassId) (ad_ot : Nat → Nat) (cA_ot : Nat → ClassId) (ad_md : Nat → Nat) (cA_md : Nat → ClassId) (ht : SHT) (rd : SReader) (sp : SSpeller) (mx : SMixture) (ar : SSurroundings) (tb : STable) (tc : STable) (ot : SOut) (md : SModel) (y4 : Int32) (H : Heap) (locs : List Loc) (ls : Array Slot), k ht rd sp mx ar tb tc ot md y4 = some rv → va_K (dC, dI) vwCl [(cA_ht 1, .int), (cA_rd 1, .int), (cA_sp 1, .int), (cA_sp 2, .int), (cA_sp 3, .int), (cA_sp 4, .int), (cA_mx 1, .int), (cA_mx 2, .int), (cA_mx 3, .boolean), (cA_ar 1, .int), (cA_ar 2, .int), (cA_ar 3, .int), (cA_tb 1, .int), (cA_tb 2, .int), (cA_tb 3, .int), (cA_tb 4, .byte), (cA_tc 1, .int), (cA_tc 2, .int), (cA_tc 3, .int), (cA_tc 4, .byte), (cA_ot 1, .long), (cA_md 1, .int), (cA_md 2, .int), (cA_md 3, .int), (cA_md 4, .int), (cA_md 5, .int), (cA_md 6, .int), (cA_md 7, .int), (cA_md 8, .int), (cA_md 9, .boolean), (cA_md 10, .int), (cA_md 11, .int), (cA_md 12, .int), (cA_md 13, .int)] s → va_P (dC, dI) vwCl (uw_HT ad_ht cA_ht (ad_rd 0) (ad_sp 0) (ad_mx 0) (ad_ar 0) (ad_tb 0) (ad_tc 0) ht ++ (uw_Reader ad_rd cA_rd rd ++ (uw_Speller ad_sp cA_sp sp ++ (uw_Mixture ad_mx cA_mx mx ++ (uw_Surroundings ad_ar cA_ar ar ++ (uw_Table ad_tb cA_tb tb ++ (uw_Table ad_tc cA_tc tc ++ (uw_Out ad_ot cA_ot ot ++ (uw_Model ad_md cA_md md))))))))) H → va_D A (uw_HT ad_ht cA_ht (ad_rd 0) (ad_sp 0) (ad_mx 0) (ad_ar 0) (ad_tb 0) (ad_tc 0) ht ++ (uw_Reader ad_rd cA_rd rd ++ (uw_Speller ad_sp cA_sp sp ++ (uw_Mixture ad_mx cA_mx mx ++ (uw_Surroundings ad_ar cA_ar ar ++ (uw_Table ad_tb cA_tb tb ++ (uw_Table ad_tc cA_tc tc ++ (uw_Out ad_ot cA_ot ot ++ (uw_Model ad_md cA_md md))))))))) → va_S A s.heap H locs → lv_has ls 7 [(0, .ref b), (1, .ref (ad_ht 0)), (2, .ref (ad_md 0)), (3, .ref (ad_ot 1)), (4, .int y4)] → W p l e room_1 s m #[Value.ref b] below meth c H locs (cs + 1) (sl + 6) (lw_Zb rv below #[Value.ref b] s) (F0 m 23 ls [])) : ∀ (ad_ht : Nat → Nat) (cA_ht : Nat → ClassId) (ad_rd : Nat → Nat) (cA_rd : Nat → ClassId) (ad_sp : Nat → Nat) (cA_sp : Nat → ClassId) (ad_mx : Nat → Nat) (cA_mx : Nat → ClassId) (ad_ar : Nat → Nat) (cA_ar : Nat → ClassId) (ad_tb : Nat → Nat) (cA_tb : Nat → ClassId) (ad_tc : Nat → Nat) (cA_tc : Nat → ClassId) (ad_ot : Nat → Nat) (cA_ot : Nat → ClassId) (ad_md : Nat → Nat) (cA_md : Nat → ClassId) (ht : SHT) (rd : SReader) (sp : SSpeller) (mx : SMixture) (ar : SSurroundings) (tb : STable) (tc : STable) (ot : SOut) (md : SModel) (y4 : Int32) (H : Heap) (locs : List Loc) (ls : Array Slot), f_Law_case_856 L xs k ht rd sp mx ar tb tc ot md y4 = some rv → va_K (dC, dI) vwCl [(cA_ht 1, .int), (cA_rd 1, .int), (cA_sp 1, .int), (cA_sp 2, .int), (cA_sp 3, .int), (cA_sp 4, .int), (cA_mx 1, .int), (cA_mx 2, .int), (cA_mx 3, .boolean), (cA_ar 1, .int), (cA_ar 2, .int), (cA_ar 3, .int), (cA_tb 1, .int), (cA_tb 2, .int), (cA_tb 3, .int), (cA_tb 4, .byte), (cA_tc 1, .int), (cA_tc 2, .int), (cA_tc 3, .int), (cA_tc 4, .byte), (cA_ot 1, .long), (cA_md 1, .int), (cA_md 2, .int), (cA_md 3, .int), (cA_md 4, .int), (cA_md 5, .int), (cA_md 6, .int), (cA_md 7, .int), (cA_md 8, .int), (cA_md 9, .boolean), (cA_md 10, .int), (cA_md 11, .int), (cA_md 12, .int), (cA_md 13, .int)] s → va_P (dC, dI) vwCl (uw_HT ad_ht cA_ht (ad_rd 0) (ad_sp 0) (ad_mx 0) (ad_ar 0) (ad_tb 0) (ad_tc 0) ht ++ (uw_Reader ad_rd cA_rd rd ++ (uw_Speller ad_sp cA_sp sp ++ (uw_Mixture ad_mx cA_mx mx ++ (uw_Surroundings ad_ar cA_ar ar ++ (uw_Table ad_tb cA_tb tb ++ (uw_Table ad_tc cA_tc tc ++ (uw_Out ad_ot cA_ot ot ++ (uw_Model ad_md cA_md md))))))))) H → va_D A (uw_HT ad_ht cA_ht (ad_rd 0) (ad_sp 0) (ad_mx 0) (ad_ar 0) (ad_tb 0) (ad_tc 0) ht ++ (uw_Reader ad_rd cA_rd rd ++ (uw_Speller ad_sp cA_sp sp ++ (uw_Mixture ad_mx cA_mx mx ++ (uw_Surroundings ad_ar cA_ar ar ++ (uw_Table ad_tb cA_tb tb ++ (uw_Table ad_tc cA_tc tc ++ (uw_Out ad_ot cA_ot ot ++ (uw_Model ad_md cA_md md))))))))) → va_S A s.heap H locs → lv_has ls 7 [(0, .ref b), (1, .ref (ad_ht 0)), (2, .ref (ad_md 0)), (3, .ref (ad_ot 1)), (4, .int y4)] → W p l e room_1 s m #[Value.ref b] below meth c H locs cs sl (lw_Zb rv below #[Value.ref b] s) (F0 m 856 ls []) := by
  obtain ⟨hx, hb, hr, hml, hown, hts0, hX0, hbl, hlocks, hgv⟩ := C0
  have hown : s.vm.findClass "HazardTablesLaw" = some m.cls := hown
  have hts : ∀ w ∈ (Cond.initialized "HazardTables" :: WA), w.before #[Value.ref b] s = true := fun w h => hts0 w ((List.mem_cons.mp h).elim (fun e => by rw [e]; exact (List.mem_filter.mp wd_43).1) (fun h => (List.mem_filter.mp h).1))
  have hbA : ¬ A b := fun h => absurd (hA2 b h) (Nat.not_le.mpr hbl)
  intro ad_ht cA_ht ad_rd cA_rd ad_sp cA_sp ad_mx cA_mx ad_ar cA_ar ad_tb cA_tb ad_tc cA_tc ad_ot cA_ot ad_md cA_md ht rd sp mx ar tb tc ot md y4 H locs ls hf hK hP hD hS hl
  unfold f_Law_case_856 at hf
  refine lv_aload_n hx hb d_Law_law_856 rfl (lv_at hl 1 rfl) ?_
  refine lv_aload_n hx hb d_Law_law_857 rfl (lv_at hl 0 rfl) ?_
  refine lv_iload hx hb d_Law_law_858 (lv_at hl 4 rfl) ?_
  refine lv_iconst (v := (1 : Int32)) hx hb d_Law_law_860 (by decide) ?_
  refine lv_iadd hx hb d_Law_law_861 ?_
  obtain ⟨hi1, hf⟩ := hf_g hf
  refine va_sld hx hb hX0 hbl hbA hS hi1 d_Law_law_862 ?_
  refine lv_aload_n hx hb d_Law_law_863 rfl (lv_at hl 3 rfl) ?_
  obtain ⟨u2, hu2, hf⟩ := Option.bind_eq_some_iff.mp hf
  refine cl_i (wc := (uw_HT ad_ht cA_ht (ad_rd 0) (ad_sp 0) (ad_mx 0) (ad_ar 0) (ad_tb 0) (ad_tc 0) ht ++ (uw_Out ad_ot cA_ot ot ++ (uw_Surroundings ad_ar cA_ar ar)))) (wr := (uw_Reader ad_rd cA_rd rd ++ (uw_Speller ad_sp cA_sp sp ++ (uw_Mixture ad_mx cA_mx mx ++ (uw_Table ad_tb cA_tb tb ++ (uw_Table ad_tc cA_tc tc ++ (uw_Model ad_md cA_md md))))))) (tysC := [(cA_ht 1, .int), (cA_ot 1, .long), (cA_ar 1, .int), (cA_ar 2, .int), (cA_ar 3, .int)]) (wu := fun (u : SOut) => (uw_HT ad_ht cA_ht (ad_rd 0) (ad_sp 0) (ad_mx 0) (ad_ar 0) (ad_tb 0) (ad_tc 0) ht ++ (uw_Out ad_ot cA_ot u ++ (uw_Surroundings ad_ar cA_ar ar)))) (wn := fun (u : SOut) => (uw_HT ad_ht cA_ht (ad_rd 0) (ad_sp 0) (ad_mx 0) (ad_ar 0) (ad_tb 0) (ad_tc 0) ht ++ (uw_Reader ad_rd cA_rd rd ++ (uw_Speller ad_sp cA_sp sp ++ (uw_Mixture ad_mx cA_mx mx ++ (uw_Surroundings ad_ar cA_ar ar ++ (uw_Table ad_tb cA_tb tb ++ (uw_Table ad_tc cA_tc tc ++ (uw_Out ad_ot cA_ot u ++ (uw_Model ad_md cA_md md)))))))))) [0, 1, 27, 13, 14, 15, 16] [2, 3, 4, 5, 6, 7, 8, 9, 10, 11, 12, 17, 18, 19, 20, 21, 22, 23, 24, 25, 26, 28, 29, 30, 31, 32, 33, 34, 35, 36, 37, 38, 39, 40, 41] [35, 36, 0, 1, 2, 3, 4, 5, 6, 7, 8, 9, 10, 38, 39, 40, 41, 11, 12, 13, 14, 15, 16, 17, 18, 19, 20, 37, 21, 22, 23, 24, 25, 26, 27, 28, 29, 30, 31, 32, 33, 34] [0, 20, 9, 10, 11] hP hD hS hA hK rfl rfl (by decide +kernel) (by decide +kernel) (by decide +kernel) rfl (fun _ => rfl) (by decide +kernel) (fun hPc hKc hDc => (vx_runSW (As := [.ref (ad_ht 0), .int (xs (y4 + (1 : Int32)).toNatClampNeg), .ref (ad_ot 1)]) (rest := []) ⟨hx, hb, hml, hown, hts⟩ (k_Law_fresh l dC dI ad_ht cA_ht ad_ot cA_ot ad_ar cA_ar ad_rd cA_rd ad_sp cA_sp ad_mx cA_mx ad_tb cA_tb ad_tc cA_tc H.size ht ot ar (xs (y4 + (1 : Int32)).toNatClampNeg) u2 hu2 htr) (vx_cwSW 3 hts (gSW wd_694 wd_695 wd_42 wd_696) rfl rfl rfl (by decide +kernel) ⟨Nat.le_of_ble_eq_true rfl, Nat.le_of_ble_eq_true rfl⟩) (cx_preL hPc hKc hDc hN (fun U hU hW => xAll_at hX hS (va_free hD hS hA [0, 1, 27, 13, 14, 15, 16] rfl) hU hW) hnc) rfl rfl hl.1 rfl (lv_room (Nat.le_of_ble_eq_true rfl)) d_Law_law_864 ⟨by show _ ≤ 1092; omega, by show _ ≤ 11944; omega⟩)) (fun r u H locs hw hP hD hS => ?_)
  obtain ⟨hw1, hw2⟩ := hw
  have hw1 := hw1.symm
  have hw2 := hw2.symm
  subst hw1
  subst hw2
  have hP : va_P (dC, dI) vwCl (uw_HT ad_ht cA_ht (ad_rd 0) (ad_sp 0) (ad_mx 0) (ad_ar 0) (ad_tb 0) (ad_tc 0) ht ++ (uw_Reader ad_rd cA_rd rd ++ (uw_Speller ad_sp cA_sp sp ++ (uw_Mixture ad_mx cA_mx mx ++ (uw_Surroundings ad_ar cA_ar ar ++ (uw_Table ad_tb cA_tb tb ++ (uw_Table ad_tc cA_tc tc ++ (uw_Out ad_ot cA_ot u2.2 ++ (uw_Model ad_md cA_md md))))))))) H := hP
  have hD : va_D A (uw_HT ad_ht cA_ht (ad_rd 0) (ad_sp 0) (ad_mx 0) (ad_ar 0) (ad_tb 0) (ad_tc 0) ht ++ (uw_Reader ad_rd cA_rd rd ++ (uw_Speller ad_sp cA_sp sp ++ (uw_Mixture ad_mx cA_mx mx ++ (uw_Surroundings ad_ar cA_ar ar ++ (uw_Table ad_tb cA_tb tb ++ (uw_Table ad_tc cA_tc tc ++ (uw_Out ad_ot cA_ot u2.2 ++ (uw_Model ad_md cA_md md))))))))) := hD
  refine lv_istore (lv' := [(5, .int u2.1), (0, .ref b), (1, .ref (ad_ht 0)), (2, .ref (ad_md 0)), (3, .ref (ad_ot 1)), (4, .int y4)]) hx hb d_Law_law_867 hl (by decide) rfl (fun ls hl => ?_)
  refine lv_aload_n hx hb d_Law_law_869 rfl (lv_at hl 3 rfl) ?_
  refine lv_aload_n hx hb d_Law_law_870 rfl (lv_at hl 1 rfl) ?_
  refine lv_iload hx hb d_Law_law_871 (lv_at hl 5 rfl) ?_
  refine lv_iconst (v := (1 : Int32)) hx hb d_Law_law_873 (by decide) ?_
  refine lv_iadd hx hb d_Law_law_874 ?_
  obtain ⟨hi3, hf⟩ := hf_g hf
  refine va_sld hx hb hX0 hbl hbA hS hi3 d_Law_law_875 ?_
  obtain ⟨u4, hu4, hf⟩ := Option.bind_eq_some_iff.mp hf
  refine cl_i (wc := (uw_Model ad_md cA_md md)) (wr := (uw_HT ad_ht cA_ht (ad_rd 0) (ad_sp 0) (ad_mx 0) (ad_ar 0) (ad_tb 0) (ad_tc 0) ht ++ (uw_Reader ad_rd cA_rd rd ++ (uw_Speller ad_sp cA_sp sp ++ (uw_Mixture ad_mx cA_mx mx ++ (uw_Surroundings ad_ar cA_ar ar ++ (uw_Table ad_tb cA_tb tb ++ (uw_Table ad_tc cA_tc tc ++ (uw_Out ad_ot cA_ot u2.2))))))))) (tysC := [(cA_md 1, .int), (cA_md 2, .int), (cA_md 3, .int), (cA_md 4, .int), (cA_md 5, .int), (cA_md 6, .int), (cA_md 7, .int), (cA_md 8, .int), (cA_md 9, .boolean), (cA_md 10, .int), (cA_md 11, .int), (cA_md 12, .int), (cA_md 13, .int)]) (wu := fun (u : SModel) => (uw_Model ad_md cA_md u)) (wn := fun (u : SModel) => (uw_HT ad_ht cA_ht (ad_rd 0) (ad_sp 0) (ad_mx 0) (ad_ar 0) (ad_tb 0) (ad_tc 0) ht ++ (uw_Reader ad_rd cA_rd rd ++ (uw_Speller ad_sp cA_sp sp ++ (uw_Mixture ad_mx cA_mx mx ++ (uw_Surroundings ad_ar cA_ar ar ++ (uw_Table ad_tb cA_tb tb ++ (uw_Table ad_tc cA_tc tc ++ (uw_Out ad_ot cA_ot u2.2 ++ (uw_Model ad_md cA_md u)))))))))) [28, 29, 30, 31, 32, 33, 34, 35, 36, 37, 38, 39, 40, 41] [0, 1, 2, 3, 4, 5, 6, 7, 8, 9, 10, 11, 12, 13, 14, 15, 16, 17, 18, 19, 20, 21, 22, 23, 24, 25, 26, 27] [0, 1, 2, 3, 4, 5, 6, 7, 8, 9, 10, 11, 12, 13, 14, 15, 16, 17, 18, 19, 20, 21, 22, 23, 24, 25, 26, 27, 28, 29, 30, 31, 32, 33, 34, 35, 36, 37, 38, 39, 40, 41] [21, 22, 23, 24, 25, 26, 27, 28, 29, 30, 31, 32, 33] hP hD hS hA hK rfl rfl (by decide +kernel) (by decide +kernel) (by decide +kernel) rfl (fun _ => rfl) (by decide +kernel) (fun hPc hKc hDc => (va_runV (As := [.int (xs (y4 + (1 : Int32)).toNatClampNeg)]) (rest := []) ⟨hx, hb, hml, hown, hts⟩ (k_Model_fresh l dC dI ad_md cA_md H.size md (xs (y4 + (1 : Int32)).toNatClampNeg) u4 hu4) (cwV 1 hts (gV wd_983 wd_984 wd_985 wd_49 wd_986) rfl rfl rfl (by decide +kernel) ⟨Nat.le_of_ble_eq_true rfl, Nat.le_of_ble_eq_true rfl⟩) (cl_preV hPc hKc hDc hN (ci := 6) 0 rfl rfl) rfl rfl hl.1 rfl (lv_room (Nat.le_of_ble_eq_true rfl)) d_Law_law_876 ⟨by show _ ≤ 1092; omega, by show _ ≤ 11944; omega⟩)) (fun r u H locs hw hP hD hS => ?_)
  obtain ⟨hw1, hw2⟩ := hw
  have hw1 := hw1.symm
  have hw2 := hw2.symm
  subst hw1
  subst hw2
  have hP : va_P (dC, dI) vwCl (uw_HT ad_ht cA_ht (ad_rd 0) (ad_sp 0) (ad_mx 0) (ad_ar 0) (ad_tb 0) (ad_tc 0) ht ++ (uw_Reader ad_rd cA_rd rd ++ (uw_Speller ad_sp cA_sp sp ++ (uw_Mixture ad_mx cA_mx mx ++ (uw_Surroundings ad_ar cA_ar ar ++ (uw_Table ad_tb cA_tb tb ++ (uw_Table ad_tc cA_tc tc ++ (uw_Out ad_ot cA_ot u2.2 ++ (uw_Model ad_md cA_md u4.2))))))))) H := hP
  have hD : va_D A (uw_HT ad_ht cA_ht (ad_rd 0) (ad_sp 0) (ad_mx 0) (ad_ar 0) (ad_tb 0) (ad_tc 0) ht ++ (uw_Reader ad_rd cA_rd rd ++ (uw_Speller ad_sp cA_sp sp ++ (uw_Mixture ad_mx cA_mx mx ++ (uw_Surroundings ad_ar cA_ar ar ++ (uw_Table ad_tb cA_tb tb ++ (uw_Table ad_tc cA_tc tc ++ (uw_Out ad_ot cA_ot u2.2 ++ (uw_Model ad_md cA_md u4.2))))))))) := hD
  refine lv_istore (lv' := [(6, .int u4.1), (5, .int u2.1), (0, .ref b), (1, .ref (ad_ht 0)), (2, .ref (ad_md 0)), (3, .ref (ad_ot 1)), (4, .int y4)]) hx hb d_Law_law_879 hl (by decide) rfl (fun ls hl => ?_)
  refine lv_aload_n hx hb d_Law_law_881 rfl (lv_at hl 4 rfl) ?_
  obtain ⟨u5, hu5, hf⟩ := Option.bind_eq_some_iff.mp hf
  refine cl_i (wc := (uw_Model ad_md cA_md u4.2)) (wr := (uw_HT ad_ht cA_ht (ad_rd 0) (ad_sp 0) (ad_mx 0) (ad_ar 0) (ad_tb 0) (ad_tc 0) ht ++ (uw_Reader ad_rd cA_rd rd ++ (uw_Speller ad_sp cA_sp sp ++ (uw_Mixture ad_mx cA_mx mx ++ (uw_Surroundings ad_ar cA_ar ar ++ (uw_Table ad_tb cA_tb tb ++ (uw_Table ad_tc cA_tc tc ++ (uw_Out ad_ot cA_ot u2.2))))))))) (tysC := [(cA_md 1, .int), (cA_md 2, .int), (cA_md 3, .int), (cA_md 4, .int), (cA_md 5, .int), (cA_md 6, .int), (cA_md 7, .int), (cA_md 8, .int), (cA_md 9, .boolean), (cA_md 10, .int), (cA_md 11, .int), (cA_md 12, .int), (cA_md 13, .int)]) (wu := fun (u : Unit) => (uw_Model ad_md cA_md u4.2)) (wn := fun (u : Unit) => (uw_HT ad_ht cA_ht (ad_rd 0) (ad_sp 0) (ad_mx 0) (ad_ar 0) (ad_tb 0) (ad_tc 0) ht ++ (uw_Reader ad_rd cA_rd rd ++ (uw_Speller ad_sp cA_sp sp ++ (uw_Mixture ad_mx cA_mx mx ++ (uw_Surroundings ad_ar cA_ar ar ++ (uw_Table ad_tb cA_tb tb ++ (uw_Table ad_tc cA_tc tc ++ (uw_Out ad_ot cA_ot u2.2 ++ (uw_Model ad_md cA_md u4.2)))))))))) [28, 29, 30, 31, 32, 33, 34, 35, 36, 37, 38, 39, 40, 41] [0, 1, 2, 3, 4, 5, 6, 7, 8, 9, 10, 11, 12, 13, 14, 15, 16, 17, 18, 19, 20, 21, 22, 23, 24, 25, 26, 27] [0, 1, 2, 3, 4, 5, 6, 7, 8, 9, 10, 11, 12, 13, 14, 15, 16, 17, 18, 19, 20, 21, 22, 23, 24, 25, 26, 27, 28, 29, 30, 31, 32, 33, 34, 35, 36, 37, 38, 39, 40, 41] [21, 22, 23, 24, 25, 26, 27, 28, 29, 30, 31, 32, 33] hP hD hS hA hK rfl rfl (by decide +kernel) (by decide +kernel) (by decide +kernel) rfl (fun _ => rfl) (by decide +kernel) (fun hPc hKc hDc => (va_runV (As := []) (rest := []) ⟨hx, hb, hml, hown, hts⟩ (k_Model_thrown l dC dI ad_md cA_md H.size u4.2 u5 hu5) (cwV 0 hts (gV wd_839 wd_840 wd_841 wd_49 wd_842) rfl rfl rfl (by decide +kernel) ⟨Nat.le_of_ble_eq_true rfl, Nat.le_of_ble_eq_true rfl⟩) (cl_preV hPc hKc hDc hN (ci := 6) 0 rfl rfl) rfl rfl hl.1 rfl (lv_room (Nat.le_of_ble_eq_true rfl)) d_Law_law_882 ⟨by show _ ≤ 1092; omega, by show _ ≤ 11944; omega⟩)) (fun r u H locs hw hP hD hS => ?_)
  have hw := hw.symm
  subst hw
  have hP : va_P (dC, dI) vwCl (uw_HT ad_ht cA_ht (ad_rd 0) (ad_sp 0) (ad_mx 0) (ad_ar 0) (ad_tb 0) (ad_tc 0) ht ++ (uw_Reader ad_rd cA_rd rd ++ (uw_Speller ad_sp cA_sp sp ++ (uw_Mixture ad_mx cA_mx mx ++ (uw_Surroundings ad_ar cA_ar ar ++ (uw_Table ad_tb cA_tb tb ++ (uw_Table ad_tc cA_tc tc ++ (uw_Out ad_ot cA_ot u2.2 ++ (uw_Model ad_md cA_md u4.2))))))))) H := hP
  have hD : va_D A (uw_HT ad_ht cA_ht (ad_rd 0) (ad_sp 0) (ad_mx 0) (ad_ar 0) (ad_tb 0) (ad_tc 0) ht ++ (uw_Reader ad_rd cA_rd rd ++ (uw_Speller ad_sp cA_sp sp ++ (uw_Mixture ad_mx cA_mx mx ++ (uw_Surroundings ad_ar cA_ar ar ++ (uw_Table ad_tb cA_tb tb ++ (uw_Table ad_tc cA_tc tc ++ (uw_Out ad_ot cA_ot u2.2 ++ (uw_Model ad_md cA_md u4.2))))))))) := hD
  refine lv_iload hx hb d_Law_law_885 (lv_at hl 1 rfl) ?_
  refine lv_icmp_eq (tgt := 892) hx hb d_Law_law_887 (by decide) (fun hc6 => ?_) (fun hc6 => ?_)
  · have hf := hf_t hf hc6
    refine lv_iload hx hb d_Law_law_892 (lv_at hl 1 rfl) ?_
    refine lv_if_ne (tgt := 909) hx hb d_Law_law_894 (by decide) (fun hc7 => ?_) (fun hc7 => ?_)
    · have hf := hf_f hf hc7
      refine lv_goto (tgt := 1166) hx hb d_Law_law_909 (by decide) ?_
      refine lv_iinc (v := y4 + (4 : Int32)) (lv' := [(4, .int (y4 + (4 : Int32))), (6, .int u4.1), (5, .int u2.1), (0, .ref b), (1, .ref (ad_ht 0)), (2, .ref (ad_md 0)), (3, .ref (ad_ot 1))]) hx hb d_Law_law_1166 hl (k := 6) rfl rfl (by decide) rfl (fun ls hl => ?_)
      refine lv_goto (tgt := 23) hx hb d_Law_law_1169 (by decide) ?_
      refine W.widen (k := cs + 1) (n := sl + 6) (by omega) (by omega) ?_
      exact hk ad_ht cA_ht ad_rd cA_rd ad_sp cA_sp ad_mx cA_mx ad_ar cA_ar ad_tb cA_tb ad_tc cA_tc ad_ot cA_ot ad_md cA_md ht rd sp mx ar tb tc u2.2 u4.2 (y4 + (4 : Int32)) H locs ls hf hK hP hD hS (lv_sub hl [3, 4, 5, 6, 0] rfl)
    · have hf := hf_t hf hc7
      refine lv_aload_n hx hb d_Law_law_897 rfl (lv_at hl 5 rfl) ?_
      refine lv_iconst (v := (0 : Int32)) hx hb d_Law_law_898 (by decide) ?_
      obtain ⟨hi8, hf⟩ := hf_g hf
      refine va_lald hx hb hK hP 27 20 rfl rfl hi8 d_Law_law_899 ?_
      refine lv_iload hx hb d_Law_law_900 (lv_at hl 0 rfl) ?_
      refine lv_i2l (v := u4.1.toInt64) hx hb d_Law_law_902 rfl ?_
      refine W.lcmp hx hb d_Law_law_903 ?_
      refine lv_if_eq (tgt := 909) hx hb d_Law_law_904 (by decide) (fun hc9 => ?_) (fun hc9 => ?_)
      · have hf := hf_t hf hc9
        refine lv_goto (tgt := 1166) hx hb d_Law_law_909 (by decide) ?_
        refine lv_iinc (v := y4 + (4 : Int32)) (lv' := [(4, .int (y4 + (4 : Int32))), (6, .int u4.1), (5, .int u2.1), (0, .ref b), (1, .ref (ad_ht 0)), (2, .ref (ad_md 0)), (3, .ref (ad_ot 1))]) hx hb d_Law_law_1166 hl (k := 6) rfl rfl (by decide) rfl (fun ls hl => ?_)
        refine lv_goto (tgt := 23) hx hb d_Law_law_1169 (by decide) ?_
        refine W.widen (k := cs + 1) (n := sl + 6) (by omega) (by omega) ?_
        exact hk ad_ht cA_ht ad_rd cA_rd ad_sp cA_sp ad_mx cA_mx ad_ar cA_ar ad_tb cA_tb ad_tc cA_tc ad_ot cA_ot ad_md cA_md ht rd sp mx ar tb tc u2.2 u4.2 (y4 + (4 : Int32)) H locs ls hf hK hP hD hS (lv_sub hl [3, 4, 5, 6, 0] rfl)
      · have hf := hf_f hf hc9
        refine lv_iconst (v := (0 : Int32)) hx hb d_Law_law_907 (by decide) ?_
        have hrv : rv = false := (Option.some.inj hf).symm
        subst hrv
        refine va_forget (fun q hq => hA2 _ (hS.2.2 q hq)) ?_
        refine W.widen (k := 1092) (n := 11944) (by omega) (by omega) ?_
        exact lw_ret0b hx hb hr hlocks d_Law_law_908
  · have hf := hf_f hf hc6
    refine lv_iconst (v := (0 : Int32)) hx hb d_Law_law_890 (by decide) ?_
    have hrv : rv = false := (Option.some.inj hf).symm
    subst hrv
    refine va_forget (fun q hq => hA2 _ (hS.2.2 q hq)) ?_
    refine W.widen (k := 1092) (n := 11944) (by omega) (by omega) ?_
    exact lw_ret0b hx hb hr hlocks d_Law_law_891
noncomputable def f_Law_case_912 (L : Nat) (xs : Nat → Int32) (k : SHT → SReader → SSpeller → SMixture → SSurroundings → STable → STable → SOut → SModel → Int32 → Option Bool) (ht : SHT) (rd : SReader) (sp : SSpeller) (mx : SMixture) (ar : SSurroundings) (tb : STable) (tc : STable) (ot : SOut) (md : SModel) (y4 : Int32) : Option Bool :=
  (if inb (y4 + (1 : Int32)) L then
    (if inb (y4 + (2 : Int32)) L then
      (Option.bind (f_Law_in ht ot mx ar tb (xs (y4 + (1 : Int32)).toNatClampNeg) (xs (y4 + (2 : Int32)).toNatClampNeg)) fun u3 =>
        (if inb (y4 + (1 : Int32)) L then
          (if inb (y4 + (2 : Int32)) L then
            (Option.bind (f_Model_in md (xs (y4 + (1 : Int32)).toNatClampNeg) (xs (y4 + (2 : Int32)).toNatClampNeg)) fun u6 =>
              (Option.bind (f_Model_thrown u6.2) fun u7 =>
                (if u7 = u3.1 then
                  (if u3.1 = 0 then
                    (if inb (0 : Int32) 1 then
                      (if (bI u6.1) = 0 then
                        (if (lg_cmp (u3.2 (0 : Int32).toNatClampNeg) (0 : Int64)) = 0 then
                          (k ht rd sp mx ar tb tc u3.2 u6.2 (y4 + (4 : Int32)))
                         else
                          (some false)
                         )
                       else
                        (if (lg_cmp (u3.2 (0 : Int32).toNatClampNeg) (1 : Int64)) = 0 then
                          (k ht rd sp mx ar tb tc u3.2 u6.2 (y4 + (4 : Int32)))
                         else
                          (some false)
                         )
                       )
                     else none)
                   else
                    (k ht rd sp mx ar tb tc u3.2 u6.2 (y4 + (4 : Int32)))
                   )
                 else
                  (some false)
                 )
               )
             )
           else none)
         else none)
       )
     else none)
   else none)
set_option maxHeartbeats 4000000 in
set_option maxRecDepth 100000 in
theorem k_Law_case_912 {rv : Bool} {p : Program} {l : Launch} {e : Env} {s : State} {m : MethodId} {below : List Frame} {meth : Method} {c : Code} {dC : Nat → ClassId} {dI : Nat → Nat → Nat} {b L : Nat} {xs : Nat → Int32} {A : Nat → Prop} (htr : l.stackTraces = false) (C0 : lw_At p s m meth c b L xs) (hN : nwAll s) (hX : xAll A s) (hnc : ncAll s) (hA : ∀ q : Nat, s.heap.size ≤ q → A q) (hA2 : ∀ q : Nat, A q → s.heap.size ≤ q) (cs sl : Nat) (hcs : cs + 1 ≤ 1092) (hsl : sl + 6 ≤ 11944) (k : SHT → SReader → SSpeller → SMixture → SSurroundings → STable → STable → SOut → SModel → Int32 → Option Bool) (hk : ∀ (ad_ht : Nat → Nat) (cA_ht : Nat → ClassId) (ad_rd : Nat → Nat) (cA_rd : Nat → ClassId) (ad_sp : Nat → Nat) (cA_sp : Nat → ClassId) (ad_mx : Nat → Nat) (cA_mx : Nat → ClassId) (ad_ar : Nat → Nat) (cA_ar : Nat → ClassId) (ad_tb : Nat → Nat) (cA_tb : Nat → ClassId) (ad_tc : Nat → Nat) (cA_tc : Nat → ClassId) (ad_ot : Nat → Nat) (cA_ot : Nat → ClassId) (ad_md : Nat → Nat) (cA_md : Nat → ClassId) (ht : SHT) (rd : SReader) (sp : SSpeller) (mx : SMixture) (ar : SSurroundings) (tb : STable) (tc : STable) (ot : SOut) (md : SModel) (y4 : Int32) (H : Heap) (locs : List Loc) (ls : Array Slot), k ht rd sp mx ar tb tc ot md y4 = some rv → va_K (dC, dI) vwCl [(cA_ht 1, .int), (cA_rd 1, .int), (cA_sp 1, .int), (cA_sp 2, .int), (cA_sp 3, .int), (cA_sp 4, .int), (cA_mx 1, .int), (cA_mx 2, .int), (cA_mx 3, .boolean), (cA_ar 1, .int), (cA_ar 2, .int), (cA_ar 3, .int), (cA_tb 1, .int), (cA_tb 2, .int), (cA_tb 3, .int), (cA_tb 4, .byte), (cA_tc 1, .int), (cA_tc 2, .int), (cA_tc 3, .int), (cA_tc 4, .byte), (cA_ot 1, .long), (cA_md 1, .int), (cA_md 2, .int), (cA_md 3, .int), (cA_md 4, .int), (cA_md 5, .int), (cA_md 6, .int), (cA_md 7, .int), (cA_md 8, .int), (cA_md 9, .boolean), (cA_md 10, .int), (cA_md 11, .int), (cA_md 12, .int), (cA_md 13, .int)] s → va_P (dC, dI) vwCl (uw_HT ad_ht cA_ht (ad_rd 0) (ad_sp 0) (ad_mx 0) (ad_ar 0) (ad_tb 0) (ad_tc 0) ht ++ (uw_Reader ad_rd cA_rd rd ++ (uw_Speller ad_sp cA_sp sp ++ (uw_Mixture ad_mx cA_mx mx ++ (uw_Surroundings ad_ar cA_ar ar ++ (uw_Table ad_tb cA_tb tb ++ (uw_Table ad_tc cA_tc tc ++ (uw_Out ad_ot cA_ot ot ++ (uw_Model ad_md cA_md md))))))))) H → va_D A (uw_HT ad_ht cA_ht (ad_rd 0) (ad_sp 0) (ad_mx 0) (ad_ar 0) (ad_tb 0) (ad_tc 0) ht ++ (uw_Reader ad_rd cA_rd rd ++ (uw_Speller ad_sp cA_sp sp ++ (uw_Mixture ad_mx cA_mx mx ++ (uw_Surroundings ad_ar cA_ar ar ++ (uw_Table ad_tb cA_tb tb ++ (uw_Table ad_tc cA_tc tc ++ (uw_Out ad_ot cA_ot ot ++ (uw_Model ad_md cA_md md))))))))) → va_S A s.heap H locs → lv_has ls 7 [(0, .ref b), (1, .ref (ad_ht 0)), (2, .ref (ad_md 0)), (3, .ref (ad_ot 1)), (4, .int y4)] → W p l e room_1 s m #[Value.ref b] below meth c H locs (cs + 1) (sl + 6) (lw_Zb rv below #[Value.ref b] s) (F0 m 23 ls [])) : ∀ (ad_ht : Nat → Nat) (cA_ht : Nat → ClassId) (ad_rd : Nat → Nat) (cA_rd : Nat → ClassId) (ad_sp : Nat → Nat) (cA_sp : Nat → ClassId) (ad_mx : Nat → Nat) (cA_mx : Nat → ClassId) (ad_ar : Nat → Nat) (cA_ar : Nat → ClassId) (ad_tb : Nat → Nat) (cA_tb : Nat → ClassId) (ad_tc : Nat → Nat) (cA_tc : Nat → ClassId) (ad_ot : Nat → Nat) (cA_ot : Nat → ClassId) (ad_md : Nat → Nat) (cA_md : Nat → ClassId) (ht : SHT) (rd : SReader) (sp : SSpeller) (mx : SMixture) (ar : SSurroundings) (tb : STable) (tc : STable) (ot : SOut) (md : SModel) (y4 : Int32) (H : Heap) (locs : List Loc) (ls : Array Slot), f_Law_case_912 L xs k ht rd sp mx ar tb tc ot md y4 = some rv → va_K (dC, dI) vwCl [(cA_ht 1, .int), (cA_rd 1, .int), (cA_sp 1, .int), (cA_sp 2, .int), (cA_sp 3, .int), (cA_sp 4, .int), (cA_mx 1, .int), (cA_mx 2, .int), (cA_mx 3, .boolean), (cA_ar 1, .int), (cA_ar 2, .int), (cA_ar 3, .int), (cA_tb 1, .int), (cA_tb 2, .int), (cA_tb 3, .int), (cA_tb 4, .byte), (cA_tc 1, .int), (cA_tc 2, .int), (cA_tc 3, .int), (cA_tc 4, .byte), (cA_ot 1, .long), (cA_md 1, .int), (cA_md 2, .int), (cA_md 3, .int), (cA_md 4, .int), (cA_md 5, .int), (cA_md 6, .int), (cA_md 7, .int), (cA_md 8, .int), (cA_md 9, .boolean), (cA_md 10, .int), (cA_md 11, .int), (cA_md 12, .int), (cA_md 13, .int)] s → va_P (dC, dI) vwCl (uw_HT ad_ht cA_ht (ad_rd 0) (ad_sp 0) (ad_mx 0) (ad_ar 0) (ad_tb 0) (ad_tc 0) ht ++ (uw_Reader ad_rd cA_rd rd ++ (uw_Speller ad_sp cA_sp sp ++ (uw_Mixture ad_mx cA_mx mx ++ (uw_Surroundings ad_ar cA_ar ar ++ (uw_Table ad_tb cA_tb tb ++ (uw_Table ad_tc cA_tc tc ++ (uw_Out ad_ot cA_ot ot ++ (uw_Model ad_md cA_md md))))))))) H → va_D A (uw_HT ad_ht cA_ht (ad_rd 0) (ad_sp 0) (ad_mx 0) (ad_ar 0) (ad_tb 0) (ad_tc 0) ht ++ (uw_Reader ad_rd cA_rd rd ++ (uw_Speller ad_sp cA_sp sp ++ (uw_Mixture ad_mx cA_mx mx ++ (uw_Surroundings ad_ar cA_ar ar ++ (uw_Table ad_tb cA_tb tb ++ (uw_Table ad_tc cA_tc tc ++ (uw_Out ad_ot cA_ot ot ++ (uw_Model ad_md cA_md md))))))))) → va_S A s.heap H locs → lv_has ls 7 [(0, .ref b), (1, .ref (ad_ht 0)), (2, .ref (ad_md 0)), (3, .ref (ad_ot 1)), (4, .int y4)] → W p l e room_1 s m #[Value.ref b] below meth c H locs cs sl (lw_Zb rv below #[Value.ref b] s) (F0 m 912 ls []) := by
  obtain ⟨hx, hb, hr, hml, hown, hts0, hX0, hbl, hlocks, hgv⟩ := C0
  have hown : s.vm.findClass "HazardTablesLaw" = some m.cls := hown
  have hts : ∀ w ∈ (Cond.initialized "HazardTables" :: WA), w.before #[Value.ref b] s = true := fun w h => hts0 w ((List.mem_cons.mp h).elim (fun e => by rw [e]; exact (List.mem_filter.mp wd_43).1) (fun h => (List.mem_filter.mp h).1))
  have hbA : ¬ A b := fun h => absurd (hA2 b h) (Nat.not_le.mpr hbl)
  intro ad_ht cA_ht ad_rd cA_rd ad_sp cA_sp ad_mx cA_mx ad_ar cA_ar ad_tb cA_tb ad_tc cA_tc ad_ot cA_ot ad_md cA_md ht rd sp mx ar tb tc ot md y4 H locs ls hf hK hP hD hS hl
  unfold f_Law_case_912 at hf
  refine lv_aload_n hx hb d_Law_law_912 rfl (lv_at hl 1 rfl) ?_
  refine lv_aload_n hx hb d_Law_law_913 rfl (lv_at hl 0 rfl) ?_
  refine lv_iload hx hb d_Law_law_914 (lv_at hl 4 rfl) ?_
  refine lv_iconst (v := (1 : Int32)) hx hb d_Law_law_916 (by decide) ?_
  refine lv_iadd hx hb d_Law_law_917 ?_
  obtain ⟨hi1, hf⟩ := hf_g hf
  refine va_sld hx hb hX0 hbl hbA hS hi1 d_Law_law_918 ?_
  refine lv_aload_n hx hb d_Law_law_919 rfl (lv_at hl 0 rfl) ?_
  refine lv_iload hx hb d_Law_law_920 (lv_at hl 4 rfl) ?_
  refine lv_iconst (v := (2 : Int32)) hx hb d_Law_law_922 (by decide) ?_
  refine lv_iadd hx hb d_Law_law_923 ?_
  obtain ⟨hi2, hf⟩ := hf_g hf
  refine va_sld hx hb hX0 hbl hbA hS hi2 d_Law_law_924 ?_
  refine lv_aload_n hx hb d_Law_law_925 rfl (lv_at hl 3 rfl) ?_
  obtain ⟨u3, hu3, hf⟩ := Option.bind_eq_some_iff.mp hf
  refine cl_i (wc := (uw_HT ad_ht cA_ht (ad_rd 0) (ad_sp 0) (ad_mx 0) (ad_ar 0) (ad_tb 0) (ad_tc 0) ht ++ (uw_Out ad_ot cA_ot ot ++ (uw_Mixture ad_mx cA_mx mx ++ (uw_Surroundings ad_ar cA_ar ar ++ (uw_Table ad_tb cA_tb tb)))))) (wr := (uw_Reader ad_rd cA_rd rd ++ (uw_Speller ad_sp cA_sp sp ++ (uw_Table ad_tc cA_tc tc ++ (uw_Model ad_md cA_md md))))) (tysC := [(cA_ht 1, .int), (cA_ot 1, .long), (cA_mx 1, .int), (cA_mx 2, .int), (cA_mx 3, .boolean), (cA_ar 1, .int), (cA_ar 2, .int), (cA_ar 3, .int), (cA_tb 1, .int), (cA_tb 2, .int), (cA_tb 3, .int), (cA_tb 4, .byte)]) (wu := fun (u : SOut) => (uw_HT ad_ht cA_ht (ad_rd 0) (ad_sp 0) (ad_mx 0) (ad_ar 0) (ad_tb 0) (ad_tc 0) ht ++ (uw_Out ad_ot cA_ot u ++ (uw_Mixture ad_mx cA_mx mx ++ (uw_Surroundings ad_ar cA_ar ar ++ (uw_Table ad_tb cA_tb tb)))))) (wn := fun (u : SOut) => (uw_HT ad_ht cA_ht (ad_rd 0) (ad_sp 0) (ad_mx 0) (ad_ar 0) (ad_tb 0) (ad_tc 0) ht ++ (uw_Reader ad_rd cA_rd rd ++ (uw_Speller ad_sp cA_sp sp ++ (uw_Mixture ad_mx cA_mx mx ++ (uw_Surroundings ad_ar cA_ar ar ++ (uw_Table ad_tb cA_tb tb ++ (uw_Table ad_tc cA_tc tc ++ (uw_Out ad_ot cA_ot u ++ (uw_Model ad_md cA_md md)))))))))) [0, 1, 27, 9, 10, 11, 12, 13, 14, 15, 16, 17, 18, 19, 20, 21] [2, 3, 4, 5, 6, 7, 8, 22, 23, 24, 25, 26, 28, 29, 30, 31, 32, 33, 34, 35, 36, 37, 38, 39, 40, 41] [26, 27, 0, 1, 2, 3, 4, 5, 6, 29, 30, 31, 32, 33, 34, 35, 36, 37, 38, 39, 40, 41, 7, 8, 9, 10, 11, 28, 12, 13, 14, 15, 16, 17, 18, 19, 20, 21, 22, 23, 24, 25] [0, 20, 6, 7, 8, 9, 10, 11, 12, 13, 14, 15] hP hD hS hA hK rfl rfl (by decide +kernel) (by decide +kernel) (by decide +kernel) rfl (fun _ => rfl) (by decide +kernel) (fun hPc hKc hDc => (vx_runSW (As := [.ref (ad_ht 0), .int (xs (y4 + (1 : Int32)).toNatClampNeg), .int (xs (y4 + (2 : Int32)).toNatClampNeg), .ref (ad_ot 1)]) (rest := []) ⟨hx, hb, hml, hown, hts⟩ (k_Law_in l dC dI ad_ht cA_ht ad_ot cA_ot ad_mx cA_mx ad_ar cA_ar ad_tb cA_tb ad_rd cA_rd ad_sp cA_sp ad_tc cA_tc H.size ht ot mx ar tb (xs (y4 + (1 : Int32)).toNatClampNeg) (xs (y4 + (2 : Int32)).toNatClampNeg) u3 hu3 htr) (vx_cwSW 4 hts (gSW wd_705 wd_706 wd_42 wd_707) rfl rfl rfl (by decide +kernel) ⟨Nat.le_of_ble_eq_true rfl, Nat.le_of_ble_eq_true rfl⟩) (cx_preL hPc hKc hDc hN (fun U hU hW => xAll_at hX hS (va_free hD hS hA [0, 1, 27, 9, 10, 11, 12, 13, 14, 15, 16, 17, 18, 19, 20, 21] rfl) hU hW) hnc) rfl rfl hl.1 rfl (lv_room (Nat.le_of_ble_eq_true rfl)) d_Law_law_926 ⟨by show _ ≤ 1092; omega, by show _ ≤ 11944; omega⟩)) (fun r u H locs hw hP hD hS => ?_)
  obtain ⟨hw1, hw2⟩ := hw
  have hw1 := hw1.symm
  have hw2 := hw2.symm
  subst hw1
  subst hw2
  have hP : va_P (dC, dI) vwCl (uw_HT ad_ht cA_ht (ad_rd 0) (ad_sp 0) (ad_mx 0) (ad_ar 0) (ad_tb 0) (ad_tc 0) ht ++ (uw_Reader ad_rd cA_rd rd ++ (uw_Speller ad_sp cA_sp sp ++ (uw_Mixture ad_mx cA_mx mx ++ (uw_Surroundings ad_ar cA_ar ar ++ (uw_Table ad_tb cA_tb tb ++ (uw_Table ad_tc cA_tc tc ++ (uw_Out ad_ot cA_ot u3.2 ++ (uw_Model ad_md cA_md md))))))))) H := hP
  have hD : va_D A (uw_HT ad_ht cA_ht (ad_rd 0) (ad_sp 0) (ad_mx 0) (ad_ar 0) (ad_tb 0) (ad_tc 0) ht ++ (uw_Reader ad_rd cA_rd rd ++ (uw_Speller ad_sp cA_sp sp ++ (uw_Mixture ad_mx cA_mx mx ++ (uw_Surroundings ad_ar cA_ar ar ++ (uw_Table ad_tb cA_tb tb ++ (uw_Table ad_tc cA_tc tc ++ (uw_Out ad_ot cA_ot u3.2 ++ (uw_Model ad_md cA_md md))))))))) := hD
  refine lv_istore (lv' := [(5, .int u3.1), (0, .ref b), (1, .ref (ad_ht 0)), (2, .ref (ad_md 0)), (3, .ref (ad_ot 1)), (4, .int y4)]) hx hb d_Law_law_929 hl (by decide) rfl (fun ls hl => ?_)
  refine lv_aload_n hx hb d_Law_law_931 rfl (lv_at hl 3 rfl) ?_
  refine lv_aload_n hx hb d_Law_law_932 rfl (lv_at hl 1 rfl) ?_
  refine lv_iload hx hb d_Law_law_933 (lv_at hl 5 rfl) ?_
  refine lv_iconst (v := (1 : Int32)) hx hb d_Law_law_935 (by decide) ?_
  refine lv_iadd hx hb d_Law_law_936 ?_
  obtain ⟨hi4, hf⟩ := hf_g hf
  refine va_sld hx hb hX0 hbl hbA hS hi4 d_Law_law_937 ?_
  refine lv_aload_n hx hb d_Law_law_938 rfl (lv_at hl 1 rfl) ?_
  refine lv_iload hx hb d_Law_law_939 (lv_at hl 5 rfl) ?_
  refine lv_iconst (v := (2 : Int32)) hx hb d_Law_law_941 (by decide) ?_
  refine lv_iadd hx hb d_Law_law_942 ?_
  obtain ⟨hi5, hf⟩ := hf_g hf
  refine va_sld hx hb hX0 hbl hbA hS hi5 d_Law_law_943 ?_
  obtain ⟨u6, hu6, hf⟩ := Option.bind_eq_some_iff.mp hf
  refine cl_i (wc := (uw_Model ad_md cA_md md)) (wr := (uw_HT ad_ht cA_ht (ad_rd 0) (ad_sp 0) (ad_mx 0) (ad_ar 0) (ad_tb 0) (ad_tc 0) ht ++ (uw_Reader ad_rd cA_rd rd ++ (uw_Speller ad_sp cA_sp sp ++ (uw_Mixture ad_mx cA_mx mx ++ (uw_Surroundings ad_ar cA_ar ar ++ (uw_Table ad_tb cA_tb tb ++ (uw_Table ad_tc cA_tc tc ++ (uw_Out ad_ot cA_ot u3.2))))))))) (tysC := [(cA_md 1, .int), (cA_md 2, .int), (cA_md 3, .int), (cA_md 4, .int), (cA_md 5, .int), (cA_md 6, .int), (cA_md 7, .int), (cA_md 8, .int), (cA_md 9, .boolean), (cA_md 10, .int), (cA_md 11, .int), (cA_md 12, .int), (cA_md 13, .int)]) (wu := fun (u : SModel) => (uw_Model ad_md cA_md u)) (wn := fun (u : SModel) => (uw_HT ad_ht cA_ht (ad_rd 0) (ad_sp 0) (ad_mx 0) (ad_ar 0) (ad_tb 0) (ad_tc 0) ht ++ (uw_Reader ad_rd cA_rd rd ++ (uw_Speller ad_sp cA_sp sp ++ (uw_Mixture ad_mx cA_mx mx ++ (uw_Surroundings ad_ar cA_ar ar ++ (uw_Table ad_tb cA_tb tb ++ (uw_Table ad_tc cA_tc tc ++ (uw_Out ad_ot cA_ot u3.2 ++ (uw_Model ad_md cA_md u)))))))))) [28, 29, 30, 31, 32, 33, 34, 35, 36, 37, 38, 39, 40, 41] [0, 1, 2, 3, 4, 5, 6, 7, 8, 9, 10, 11, 12, 13, 14, 15, 16, 17, 18, 19, 20, 21, 22, 23, 24, 25, 26, 27] [0, 1, 2, 3, 4, 5, 6, 7, 8, 9, 10, 11, 12, 13, 14, 15, 16, 17, 18, 19, 20, 21, 22, 23, 24, 25, 26, 27, 28, 29, 30, 31, 32, 33, 34, 35, 36, 37, 38, 39, 40, 41] [21, 22, 23, 24, 25, 26, 27, 28, 29, 30, 31, 32, 33] hP hD hS hA hK rfl rfl (by decide +kernel) (by decide +kernel) (by decide +kernel) rfl (fun _ => rfl) (by decide +kernel) (fun hPc hKc hDc => (va_runV (As := [.int (xs (y4 + (1 : Int32)).toNatClampNeg), .int (xs (y4 + (2 : Int32)).toNatClampNeg)]) (rest := []) ⟨hx, hb, hml, hown, hts⟩ (k_Model_in l dC dI ad_md cA_md H.size md (xs (y4 + (1 : Int32)).toNatClampNeg) (xs (y4 + (2 : Int32)).toNatClampNeg) u6 hu6) (cwV 2 hts (gV wd_987 wd_988 wd_989 wd_49 wd_990) rfl rfl rfl (by decide +kernel) ⟨Nat.le_of_ble_eq_true rfl, Nat.le_of_ble_eq_true rfl⟩) (cl_preV hPc hKc hDc hN (ci := 6) 0 rfl rfl) rfl rfl hl.1 rfl (lv_room (Nat.le_of_ble_eq_true rfl)) d_Law_law_944 ⟨by show _ ≤ 1092; omega, by show _ ≤ 11944; omega⟩)) (fun r u H locs hw hP hD hS => ?_)
  obtain ⟨hw1, hw2⟩ := hw
  have hw1 := hw1.symm
  have hw2 := hw2.symm
  subst hw1
  subst hw2
  have hP : va_P (dC, dI) vwCl (uw_HT ad_ht cA_ht (ad_rd 0) (ad_sp 0) (ad_mx 0) (ad_ar 0) (ad_tb 0) (ad_tc 0) ht ++ (uw_Reader ad_rd cA_rd rd ++ (uw_Speller ad_sp cA_sp sp ++ (uw_Mixture ad_mx cA_mx mx ++ (uw_Surroundings ad_ar cA_ar ar ++ (uw_Table ad_tb cA_tb tb ++ (uw_Table ad_tc cA_tc tc ++ (uw_Out ad_ot cA_ot u3.2 ++ (uw_Model ad_md cA_md u6.2))))))))) H := hP
  have hD : va_D A (uw_HT ad_ht cA_ht (ad_rd 0) (ad_sp 0) (ad_mx 0) (ad_ar 0) (ad_tb 0) (ad_tc 0) ht ++ (uw_Reader ad_rd cA_rd rd ++ (uw_Speller ad_sp cA_sp sp ++ (uw_Mixture ad_mx cA_mx mx ++ (uw_Surroundings ad_ar cA_ar ar ++ (uw_Table ad_tb cA_tb tb ++ (uw_Table ad_tc cA_tc tc ++ (uw_Out ad_ot cA_ot u3.2 ++ (uw_Model ad_md cA_md u6.2))))))))) := hD
  refine lv_istore (lv' := [(6, .int (bI u6.1)), (5, .int u3.1), (0, .ref b), (1, .ref (ad_ht 0)), (2, .ref (ad_md 0)), (3, .ref (ad_ot 1)), (4, .int y4)]) hx hb d_Law_law_947 hl (by decide) rfl (fun ls hl => ?_)
  refine lv_aload_n hx hb d_Law_law_949 rfl (lv_at hl 4 rfl) ?_
  obtain ⟨u7, hu7, hf⟩ := Option.bind_eq_some_iff.mp hf
  refine cl_i (wc := (uw_Model ad_md cA_md u6.2)) (wr := (uw_HT ad_ht cA_ht (ad_rd 0) (ad_sp 0) (ad_mx 0) (ad_ar 0) (ad_tb 0) (ad_tc 0) ht ++ (uw_Reader ad_rd cA_rd rd ++ (uw_Speller ad_sp cA_sp sp ++ (uw_Mixture ad_mx cA_mx mx ++ (uw_Surroundings ad_ar cA_ar ar ++ (uw_Table ad_tb cA_tb tb ++ (uw_Table ad_tc cA_tc tc ++ (uw_Out ad_ot cA_ot u3.2))))))))) (tysC := [(cA_md 1, .int), (cA_md 2, .int), (cA_md 3, .int), (cA_md 4, .int), (cA_md 5, .int), (cA_md 6, .int), (cA_md 7, .int), (cA_md 8, .int), (cA_md 9, .boolean), (cA_md 10, .int), (cA_md 11, .int), (cA_md 12, .int), (cA_md 13, .int)]) (wu := fun (u : Unit) => (uw_Model ad_md cA_md u6.2)) (wn := fun (u : Unit) => (uw_HT ad_ht cA_ht (ad_rd 0) (ad_sp 0) (ad_mx 0) (ad_ar 0) (ad_tb 0) (ad_tc 0) ht ++ (uw_Reader ad_rd cA_rd rd ++ (uw_Speller ad_sp cA_sp sp ++ (uw_Mixture ad_mx cA_mx mx ++ (uw_Surroundings ad_ar cA_ar ar ++ (uw_Table ad_tb cA_tb tb ++ (uw_Table ad_tc cA_tc tc ++ (uw_Out ad_ot cA_ot u3.2 ++ (uw_Model ad_md cA_md u6.2)))))))))) [28, 29, 30, 31, 32, 33, 34, 35, 36, 37, 38, 39, 40, 41] [0, 1, 2, 3, 4, 5, 6, 7, 8, 9, 10, 11, 12, 13, 14, 15, 16, 17, 18, 19, 20, 21, 22, 23, 24, 25, 26, 27] [0, 1, 2, 3, 4, 5, 6, 7, 8, 9, 10, 11, 12, 13, 14, 15, 16, 17, 18, 19, 20, 21, 22, 23, 24, 25, 26, 27, 28, 29, 30, 31, 32, 33, 34, 35, 36, 37, 38, 39, 40, 41] [21, 22, 23, 24, 25, 26, 27, 28, 29, 30, 31, 32, 33] hP hD hS hA hK rfl rfl (by decide +kernel) (by decide +kernel) (by decide +kernel) rfl (fun _ => rfl) (by decide +kernel) (fun hPc hKc hDc => (va_runV (As := []) (rest := []) ⟨hx, hb, hml, hown, hts⟩ (k_Model_thrown l dC dI ad_md cA_md H.size u6.2 u7 hu7) (cwV 0 hts (gV wd_839 wd_840 wd_841 wd_49 wd_842) rfl rfl rfl (by decide +kernel) ⟨Nat.le_of_ble_eq_true rfl, Nat.le_of_ble_eq_true rfl⟩) (cl_preV hPc hKc hDc hN (ci := 6) 0 rfl rfl) rfl rfl hl.1 rfl (lv_room (Nat.le_of_ble_eq_true rfl)) d_Law_law_950 ⟨by show _ ≤ 1092; omega, by show _ ≤ 11944; omega⟩)) (fun r u H locs hw hP hD hS => ?_)
  have hw := hw.symm
  subst hw
  have hP : va_P (dC, dI) vwCl (uw_HT ad_ht cA_ht (ad_rd 0) (ad_sp 0) (ad_mx 0) (ad_ar 0) (ad_tb 0) (ad_tc 0) ht ++ (uw_Reader ad_rd cA_rd rd ++ (uw_Speller ad_sp cA_sp sp ++ (uw_Mixture ad_mx cA_mx mx ++ (uw_Surroundings ad_ar cA_ar ar ++ (uw_Table ad_tb cA_tb tb ++ (uw_Table ad_tc cA_tc tc ++ (uw_Out ad_ot cA_ot u3.2 ++ (uw_Model ad_md cA_md u6.2))))))))) H := hP
  have hD : va_D A (uw_HT ad_ht cA_ht (ad_rd 0) (ad_sp 0) (ad_mx 0) (ad_ar 0) (ad_tb 0) (ad_tc 0) ht ++ (uw_Reader ad_rd cA_rd rd ++ (uw_Speller ad_sp cA_sp sp ++ (uw_Mixture ad_mx cA_mx mx ++ (uw_Surroundings ad_ar cA_ar ar ++ (uw_Table ad_tb cA_tb tb ++ (uw_Table ad_tc cA_tc tc ++ (uw_Out ad_ot cA_ot u3.2 ++ (uw_Model ad_md cA_md u6.2))))))))) := hD
  refine lv_iload hx hb d_Law_law_953 (lv_at hl 1 rfl) ?_
  refine lv_icmp_eq (tgt := 960) hx hb d_Law_law_955 (by decide) (fun hc8 => ?_) (fun hc8 => ?_)
  · have hf := hf_t hf hc8
    refine lv_iload hx hb d_Law_law_960 (lv_at hl 1 rfl) ?_
    refine lv_if_ne (tgt := 984) hx hb d_Law_law_962 (by decide) (fun hc9 => ?_) (fun hc9 => ?_)
    · have hf := hf_f hf hc9
      refine lv_goto (tgt := 1166) hx hb d_Law_law_984 (by decide) ?_
      refine lv_iinc (v := y4 + (4 : Int32)) (lv' := [(4, .int (y4 + (4 : Int32))), (6, .int (bI u6.1)), (5, .int u3.1), (0, .ref b), (1, .ref (ad_ht 0)), (2, .ref (ad_md 0)), (3, .ref (ad_ot 1))]) hx hb d_Law_law_1166 hl (k := 6) rfl rfl (by decide) rfl (fun ls hl => ?_)
      refine lv_goto (tgt := 23) hx hb d_Law_law_1169 (by decide) ?_
      refine W.widen (k := cs + 1) (n := sl + 6) (by omega) (by omega) ?_
      exact hk ad_ht cA_ht ad_rd cA_rd ad_sp cA_sp ad_mx cA_mx ad_ar cA_ar ad_tb cA_tb ad_tc cA_tc ad_ot cA_ot ad_md cA_md ht rd sp mx ar tb tc u3.2 u6.2 (y4 + (4 : Int32)) H locs ls hf hK hP hD hS (lv_sub hl [3, 4, 5, 6, 0] rfl)
    · have hf := hf_t hf hc9
      refine lv_aload_n hx hb d_Law_law_965 rfl (lv_at hl 5 rfl) ?_
      refine lv_iconst (v := (0 : Int32)) hx hb d_Law_law_966 (by decide) ?_
      obtain ⟨hi10, hf⟩ := hf_g hf
      refine va_lald hx hb hK hP 27 20 rfl rfl hi10 d_Law_law_967 ?_
      refine lv_iload hx hb d_Law_law_968 (lv_at hl 0 rfl) ?_
      refine lv_if_eq (tgt := 977) hx hb d_Law_law_970 (by decide) (fun hc11 => ?_) (fun hc11 => ?_)
      · have hf := hf_t hf hc11
        refine lv_lconst (v := (0 : Int64)) hx hb d_Law_law_977 (by decide) ?_
        refine W.lcmp hx hb d_Law_law_978 ?_
        refine lv_if_eq (tgt := 984) hx hb d_Law_law_979 (by decide) (fun hc12 => ?_) (fun hc12 => ?_)
        · have hf := hf_t hf hc12
          refine lv_goto (tgt := 1166) hx hb d_Law_law_984 (by decide) ?_
          refine lv_iinc (v := y4 + (4 : Int32)) (lv' := [(4, .int (y4 + (4 : Int32))), (6, .int (bI u6.1)), (5, .int u3.1), (0, .ref b), (1, .ref (ad_ht 0)), (2, .ref (ad_md 0)), (3, .ref (ad_ot 1))]) hx hb d_Law_law_1166 hl (k := 6) rfl rfl (by decide) rfl (fun ls hl => ?_)
          refine lv_goto (tgt := 23) hx hb d_Law_law_1169 (by decide) ?_
          refine W.widen (k := cs + 1) (n := sl + 6) (by omega) (by omega) ?_
          exact hk ad_ht cA_ht ad_rd cA_rd ad_sp cA_sp ad_mx cA_mx ad_ar cA_ar ad_tb cA_tb ad_tc cA_tc ad_ot cA_ot ad_md cA_md ht rd sp mx ar tb tc u3.2 u6.2 (y4 + (4 : Int32)) H locs ls hf hK hP hD hS (lv_sub hl [3, 4, 5, 6, 0] rfl)
        · have hf := hf_f hf hc12
          refine lv_iconst (v := (0 : Int32)) hx hb d_Law_law_982 (by decide) ?_
          have hrv : rv = false := (Option.some.inj hf).symm
          subst hrv
          refine va_forget (fun q hq => hA2 _ (hS.2.2 q hq)) ?_
          refine W.widen (k := 1092) (n := 11944) (by omega) (by omega) ?_
          exact lw_ret0b hx hb hr hlocks d_Law_law_983
      · have hf := hf_f hf hc11
        refine lv_lconst (v := (1 : Int64)) hx hb d_Law_law_973 (by decide) ?_
        refine lv_goto (tgt := 978) hx hb d_Law_law_974 (by decide) ?_
        refine W.lcmp hx hb d_Law_law_978 ?_
        refine lv_if_eq (tgt := 984) hx hb d_Law_law_979 (by decide) (fun hc13 => ?_) (fun hc13 => ?_)
        · have hf := hf_t hf hc13
          refine lv_goto (tgt := 1166) hx hb d_Law_law_984 (by decide) ?_
          refine lv_iinc (v := y4 + (4 : Int32)) (lv' := [(4, .int (y4 + (4 : Int32))), (6, .int (bI u6.1)), (5, .int u3.1), (0, .ref b), (1, .ref (ad_ht 0)), (2, .ref (ad_md 0)), (3, .ref (ad_ot 1))]) hx hb d_Law_law_1166 hl (k := 6) rfl rfl (by decide) rfl (fun ls hl => ?_)
          refine lv_goto (tgt := 23) hx hb d_Law_law_1169 (by decide) ?_
          refine W.widen (k := cs + 1) (n := sl + 6) (by omega) (by omega) ?_
          exact hk ad_ht cA_ht ad_rd cA_rd ad_sp cA_sp ad_mx cA_mx ad_ar cA_ar ad_tb cA_tb ad_tc cA_tc ad_ot cA_ot ad_md cA_md ht rd sp mx ar tb tc u3.2 u6.2 (y4 + (4 : Int32)) H locs ls hf hK hP hD hS (lv_sub hl [3, 4, 5, 6, 0] rfl)
        · have hf := hf_f hf hc13
          refine lv_iconst (v := (0 : Int32)) hx hb d_Law_law_982 (by decide) ?_
          have hrv : rv = false := (Option.some.inj hf).symm
          subst hrv
          refine va_forget (fun q hq => hA2 _ (hS.2.2 q hq)) ?_
          refine W.widen (k := 1092) (n := 11944) (by omega) (by omega) ?_
          exact lw_ret0b hx hb hr hlocks d_Law_law_983
  · have hf := hf_f hf hc8
    refine lv_iconst (v := (0 : Int32)) hx hb d_Law_law_958 (by decide) ?_
    have hrv : rv = false := (Option.some.inj hf).symm
    subst hrv
    refine va_forget (fun q hq => hA2 _ (hS.2.2 q hq)) ?_
    refine W.widen (k := 1092) (n := 11944) (by omega) (by omega) ?_
    exact lw_ret0b hx hb hr hlocks d_Law_law_959
noncomputable def f_Law_case_987 (L : Nat) (xs : Nat → Int32) (k : SHT → SReader → SSpeller → SMixture → SSurroundings → STable → STable → SOut → SModel → Int32 → Option Bool) (ht : SHT) (rd : SReader) (sp : SSpeller) (mx : SMixture) (ar : SSurroundings) (tb : STable) (tc : STable) (ot : SOut) (md : SModel) (y4 : Int32) : Option Bool :=
  (if inb (y4 + (1 : Int32)) L then
    (Option.bind (f_Law_step ht ot mx tb (xs (y4 + (1 : Int32)).toNatClampNeg)) fun u2 =>
      (if inb (y4 + (1 : Int32)) L then
        (Option.bind (f_Model_step md (xs (y4 + (1 : Int32)).toNatClampNeg)) fun u4 =>
          (Option.bind (f_Model_thrown u4.2) fun u5 =>
            (if u5 = u2.1 then
              (if u2.1 = 0 then
                (if inb (0 : Int32) 1 then
                  (if (lg_cmp (u2.2.1 (0 : Int32).toNatClampNeg) u4.1.toInt64) = 0 then
                    (k ht rd sp u2.2.2 ar tb tc u2.2.1 u4.2 (y4 + (4 : Int32)))
                   else
                    (some false)
                   )
                 else none)
               else
                (k ht rd sp u2.2.2 ar tb tc u2.2.1 u4.2 (y4 + (4 : Int32)))
               )
             else
              (some false)
             )
           )
         )
       else none)
     )
   else none)
set_option maxHeartbeats 4000000 in
set_option maxRecDepth 100000 in
theorem k_Law_case_987 {rv : Bool} {p : Program} {l : Launch} {e : Env} {s : State} {m : MethodId} {below : List Frame} {meth : Method} {c : Code} {dC : Nat → ClassId} {dI : Nat → Nat → Nat} {b L : Nat} {xs : Nat → Int32} {A : Nat → Prop} (htr : l.stackTraces = false) (C0 : lw_At p s m meth c b L xs) (hN : nwAll s) (hX : xAll A s) (hnc : ncAll s) (hA : ∀ q : Nat, s.heap.size ≤ q → A q) (hA2 : ∀ q : Nat, A q → s.heap.size ≤ q) (cs sl : Nat) (hcs : cs + 1 ≤ 1092) (hsl : sl + 6 ≤ 11944) (k : SHT → SReader → SSpeller → SMixture → SSurroundings → STable → STable → SOut → SModel → Int32 → Option Bool) (hk : ∀ (ad_ht : Nat → Nat) (cA_ht : Nat → ClassId) (ad_rd : Nat → Nat) (cA_rd : Nat → ClassId) (ad_sp : Nat → Nat) (cA_sp : Nat → ClassId) (ad_mx : Nat → Nat) (cA_mx : Nat → ClassId) (ad_ar : Nat → Nat) (cA_ar : Nat → ClassId) (ad_tb : Nat → Nat) (cA_tb : Nat → ClassId) (ad_tc : Nat → Nat) (cA_tc : Nat → ClassId) (ad_ot : Nat → Nat) (cA_ot : Nat → ClassId) (ad_md : Nat → Nat) (cA_md : Nat → ClassId) (ht : SHT) (rd : SReader) (sp : SSpeller) (mx : SMixture) (ar : SSurroundings) (tb : STable) (tc : STable) (ot : SOut) (md : SModel) (y4 : Int32) (H : Heap) (locs : List Loc) (ls : Array Slot), k ht rd sp mx ar tb tc ot md y4 = some rv → va_K (dC, dI) vwCl [(cA_ht 1, .int), (cA_rd 1, .int), (cA_sp 1, .int), (cA_sp 2, .int), (cA_sp 3, .int), (cA_sp 4, .int), (cA_mx 1, .int), (cA_mx 2, .int), (cA_mx 3, .boolean), (cA_ar 1, .int), (cA_ar 2, .int), (cA_ar 3, .int), (cA_tb 1, .int), (cA_tb 2, .int), (cA_tb 3, .int), (cA_tb 4, .byte), (cA_tc 1, .int), (cA_tc 2, .int), (cA_tc 3, .int), (cA_tc 4, .byte), (cA_ot 1, .long), (cA_md 1, .int), (cA_md 2, .int), (cA_md 3, .int), (cA_md 4, .int), (cA_md 5, .int), (cA_md 6, .int), (cA_md 7, .int), (cA_md 8, .int), (cA_md 9, .boolean), (cA_md 10, .int), (cA_md 11, .int), (cA_md 12, .int), (cA_md 13, .int)] s → va_P (dC, dI) vwCl (uw_HT ad_ht cA_ht (ad_rd 0) (ad_sp 0) (ad_mx 0) (ad_ar 0) (ad_tb 0) (ad_tc 0) ht ++ (uw_Reader ad_rd cA_rd rd ++ (uw_Speller ad_sp cA_sp sp ++ (uw_Mixture ad_mx cA_mx mx ++ (uw_Surroundings ad_ar cA_ar ar ++ (uw_Table ad_tb cA_tb tb ++ (uw_Table ad_tc cA_tc tc ++ (uw_Out ad_ot cA_ot ot ++ (uw_Model ad_md cA_md md))))))))) H → va_D A (uw_HT ad_ht cA_ht (ad_rd 0) (ad_sp 0) (ad_mx 0) (ad_ar 0) (ad_tb 0) (ad_tc 0) ht ++ (uw_Reader ad_rd cA_rd rd ++ (uw_Speller ad_sp cA_sp sp ++ (uw_Mixture ad_mx cA_mx mx ++ (uw_Surroundings ad_ar cA_ar ar ++ (uw_Table ad_tb cA_tb tb ++ (uw_Table ad_tc cA_tc tc ++ (uw_Out ad_ot cA_ot ot ++ (uw_Model ad_md cA_md md))))))))) → va_S A s.heap H locs → lv_has ls 7 [(0, .ref b), (1, .ref (ad_ht 0)), (2, .ref (ad_md 0)), (3, .ref (ad_ot 1)), (4, .int y4)] → W p l e room_1 s m #[Value.ref b] below meth c H locs (cs + 1) (sl + 6) (lw_Zb rv below #[Value.ref b] s) (F0 m 23 ls [])) : ∀ (ad_ht : Nat → Nat) (cA_ht : Nat → ClassId) (ad_rd : Nat → Nat) (cA_rd : Nat → ClassId) (ad_sp : Nat → Nat) (cA_sp : Nat → ClassId) (ad_mx : Nat → Nat) (cA_mx : Nat → ClassId) (ad_ar : Nat → Nat) (cA_ar : Nat → ClassId) (ad_tb : Nat → Nat) (cA_tb : Nat → ClassId) (ad_tc : Nat → Nat) (cA_tc : Nat → ClassId) (ad_ot : Nat → Nat) (cA_ot : Nat → ClassId) (ad_md : Nat → Nat) (cA_md : Nat → ClassId) (ht : SHT) (rd : SReader) (sp : SSpeller) (mx : SMixture) (ar : SSurroundings) (tb : STable) (tc : STable) (ot : SOut) (md : SModel) (y4 : Int32) (H : Heap) (locs : List Loc) (ls : Array Slot), f_Law_case_987 L xs k ht rd sp mx ar tb tc ot md y4 = some rv → va_K (dC, dI) vwCl [(cA_ht 1, .int), (cA_rd 1, .int), (cA_sp 1, .int), (cA_sp 2, .int), (cA_sp 3, .int), (cA_sp 4, .int), (cA_mx 1, .int), (cA_mx 2, .int), (cA_mx 3, .boolean), (cA_ar 1, .int), (cA_ar 2, .int), (cA_ar 3, .int), (cA_tb 1, .int), (cA_tb 2, .int), (cA_tb 3, .int), (cA_tb 4, .byte), (cA_tc 1, .int), (cA_tc 2, .int), (cA_tc 3, .int), (cA_tc 4, .byte), (cA_ot 1, .long), (cA_md 1, .int), (cA_md 2, .int), (cA_md 3, .int), (cA_md 4, .int), (cA_md 5, .int), (cA_md 6, .int), (cA_md 7, .int), (cA_md 8, .int), (cA_md 9, .boolean), (cA_md 10, .int), (cA_md 11, .int), (cA_md 12, .int), (cA_md 13, .int)] s → va_P (dC, dI) vwCl (uw_HT ad_ht cA_ht (ad_rd 0) (ad_sp 0) (ad_mx 0) (ad_ar 0) (ad_tb 0) (ad_tc 0) ht ++ (uw_Reader ad_rd cA_rd rd ++ (uw_Speller ad_sp cA_sp sp ++ (uw_Mixture ad_mx cA_mx mx ++ (uw_Surroundings ad_ar cA_ar ar ++ (uw_Table ad_tb cA_tb tb ++ (uw_Table ad_tc cA_tc tc ++ (uw_Out ad_ot cA_ot ot ++ (uw_Model ad_md cA_md md))))))))) H → va_D A (uw_HT ad_ht cA_ht (ad_rd 0) (ad_sp 0) (ad_mx 0) (ad_ar 0) (ad_tb 0) (ad_tc 0) ht ++ (uw_Reader ad_rd cA_rd rd ++ (uw_Speller ad_sp cA_sp sp ++ (uw_Mixture ad_mx cA_mx mx ++ (uw_Surroundings ad_ar cA_ar ar ++ (uw_Table ad_tb cA_tb tb ++ (uw_Table ad_tc cA_tc tc ++ (uw_Out ad_ot cA_ot ot ++ (uw_Model ad_md cA_md md))))))))) → va_S A s.heap H locs → lv_has ls 7 [(0, .ref b), (1, .ref (ad_ht 0)), (2, .ref (ad_md 0)), (3, .ref (ad_ot 1)), (4, .int y4)] → W p l e room_1 s m #[Value.ref b] below meth c H locs cs sl (lw_Zb rv below #[Value.ref b] s) (F0 m 987 ls []) := by
  obtain ⟨hx, hb, hr, hml, hown, hts0, hX0, hbl, hlocks, hgv⟩ := C0
  have hown : s.vm.findClass "HazardTablesLaw" = some m.cls := hown
  have hts : ∀ w ∈ (Cond.initialized "HazardTables" :: WA), w.before #[Value.ref b] s = true := fun w h => hts0 w ((List.mem_cons.mp h).elim (fun e => by rw [e]; exact (List.mem_filter.mp wd_43).1) (fun h => (List.mem_filter.mp h).1))
  have hbA : ¬ A b := fun h => absurd (hA2 b h) (Nat.not_le.mpr hbl)
  intro ad_ht cA_ht ad_rd cA_rd ad_sp cA_sp ad_mx cA_mx ad_ar cA_ar ad_tb cA_tb ad_tc cA_tc ad_ot cA_ot ad_md cA_md ht rd sp mx ar tb tc ot md y4 H locs ls hf hK hP hD hS hl
  unfold f_Law_case_987 at hf
  refine lv_aload_n hx hb d_Law_law_987 rfl (lv_at hl 1 rfl) ?_
  refine lv_aload_n hx hb d_Law_law_988 rfl (lv_at hl 0 rfl) ?_
  refine lv_iload hx hb d_Law_law_989 (lv_at hl 4 rfl) ?_
  refine lv_iconst (v := (1 : Int32)) hx hb d_Law_law_991 (by decide) ?_
  refine lv_iadd hx hb d_Law_law_992 ?_
  obtain ⟨hi1, hf⟩ := hf_g hf
  refine va_sld hx hb hX0 hbl hbA hS hi1 d_Law_law_993 ?_
  refine lv_aload_n hx hb d_Law_law_994 rfl (lv_at hl 3 rfl) ?_
  obtain ⟨u2, hu2, hf⟩ := Option.bind_eq_some_iff.mp hf
  refine cl_i (wc := (uw_HT ad_ht cA_ht (ad_rd 0) (ad_sp 0) (ad_mx 0) (ad_ar 0) (ad_tb 0) (ad_tc 0) ht ++ (uw_Out ad_ot cA_ot ot ++ (uw_Mixture ad_mx cA_mx mx ++ (uw_Table ad_tb cA_tb tb))))) (wr := (uw_Reader ad_rd cA_rd rd ++ (uw_Speller ad_sp cA_sp sp ++ (uw_Surroundings ad_ar cA_ar ar ++ (uw_Table ad_tc cA_tc tc ++ (uw_Model ad_md cA_md md)))))) (tysC := [(cA_ht 1, .int), (cA_ot 1, .long), (cA_mx 1, .int), (cA_mx 2, .int), (cA_mx 3, .boolean), (cA_tb 1, .int), (cA_tb 2, .int), (cA_tb 3, .int), (cA_tb 4, .byte)]) (wu := fun (u : SOut × SMixture) => (uw_HT ad_ht cA_ht (ad_rd 0) (ad_sp 0) (ad_mx 0) (ad_ar 0) (ad_tb 0) (ad_tc 0) ht ++ (uw_Out ad_ot cA_ot u.1 ++ (uw_Mixture ad_mx cA_mx u.2 ++ (uw_Table ad_tb cA_tb tb))))) (wn := fun (u : SOut × SMixture) => (uw_HT ad_ht cA_ht (ad_rd 0) (ad_sp 0) (ad_mx 0) (ad_ar 0) (ad_tb 0) (ad_tc 0) ht ++ (uw_Reader ad_rd cA_rd rd ++ (uw_Speller ad_sp cA_sp sp ++ (uw_Mixture ad_mx cA_mx u.2 ++ (uw_Surroundings ad_ar cA_ar ar ++ (uw_Table ad_tb cA_tb tb ++ (uw_Table ad_tc cA_tc tc ++ (uw_Out ad_ot cA_ot u.1 ++ (uw_Model ad_md cA_md md)))))))))) [0, 1, 27, 9, 10, 11, 12, 17, 18, 19, 20, 21] [2, 3, 4, 5, 6, 7, 8, 13, 14, 15, 16, 22, 23, 24, 25, 26, 28, 29, 30, 31, 32, 33, 34, 35, 36, 37, 38, 39, 40, 41] [30, 31, 0, 1, 2, 3, 4, 5, 6, 33, 34, 35, 36, 7, 8, 9, 10, 37, 38, 39, 40, 41, 11, 12, 13, 14, 15, 32, 16, 17, 18, 19, 20, 21, 22, 23, 24, 25, 26, 27, 28, 29] [0, 20, 6, 7, 8, 12, 13, 14, 15] hP hD hS hA hK rfl rfl (by decide +kernel) (by decide +kernel) (by decide +kernel) rfl (fun _ => rfl) (by decide +kernel) (fun hPc hKc hDc => (vx_runSW (As := [.ref (ad_ht 0), .int (xs (y4 + (1 : Int32)).toNatClampNeg), .ref (ad_ot 1)]) (rest := []) ⟨hx, hb, hml, hown, hts⟩ (k_Law_step l dC dI ad_ht cA_ht ad_ot cA_ot ad_mx cA_mx ad_tb cA_tb ad_rd cA_rd ad_sp cA_sp ad_ar cA_ar ad_tc cA_tc H.size ht ot mx tb (xs (y4 + (1 : Int32)).toNatClampNeg) u2 hu2 htr) (vx_cwSW 3 hts (gSW wd_713 wd_714 wd_42 wd_715) rfl rfl rfl (by decide +kernel) ⟨Nat.le_of_ble_eq_true rfl, Nat.le_of_ble_eq_true rfl⟩) (cx_preL hPc hKc hDc hN (fun U hU hW => xAll_at hX hS (va_free hD hS hA [0, 1, 27, 9, 10, 11, 12, 17, 18, 19, 20, 21] rfl) hU hW) hnc) rfl rfl hl.1 rfl (lv_room (Nat.le_of_ble_eq_true rfl)) d_Law_law_995 ⟨by show _ ≤ 1092; omega, by show _ ≤ 11944; omega⟩)) (fun r u H locs hw hP hD hS => ?_)
  obtain ⟨hw1, hw2⟩ := hw
  have hw1 := hw1.symm
  have hw2 := hw2.symm
  subst hw1
  subst hw2
  have hP : va_P (dC, dI) vwCl (uw_HT ad_ht cA_ht (ad_rd 0) (ad_sp 0) (ad_mx 0) (ad_ar 0) (ad_tb 0) (ad_tc 0) ht ++ (uw_Reader ad_rd cA_rd rd ++ (uw_Speller ad_sp cA_sp sp ++ (uw_Mixture ad_mx cA_mx u2.2.2 ++ (uw_Surroundings ad_ar cA_ar ar ++ (uw_Table ad_tb cA_tb tb ++ (uw_Table ad_tc cA_tc tc ++ (uw_Out ad_ot cA_ot u2.2.1 ++ (uw_Model ad_md cA_md md))))))))) H := hP
  have hD : va_D A (uw_HT ad_ht cA_ht (ad_rd 0) (ad_sp 0) (ad_mx 0) (ad_ar 0) (ad_tb 0) (ad_tc 0) ht ++ (uw_Reader ad_rd cA_rd rd ++ (uw_Speller ad_sp cA_sp sp ++ (uw_Mixture ad_mx cA_mx u2.2.2 ++ (uw_Surroundings ad_ar cA_ar ar ++ (uw_Table ad_tb cA_tb tb ++ (uw_Table ad_tc cA_tc tc ++ (uw_Out ad_ot cA_ot u2.2.1 ++ (uw_Model ad_md cA_md md))))))))) := hD
  refine lv_istore (lv' := [(5, .int u2.1), (0, .ref b), (1, .ref (ad_ht 0)), (2, .ref (ad_md 0)), (3, .ref (ad_ot 1)), (4, .int y4)]) hx hb d_Law_law_998 hl (by decide) rfl (fun ls hl => ?_)
  refine lv_aload_n hx hb d_Law_law_1000 rfl (lv_at hl 3 rfl) ?_
  refine lv_aload_n hx hb d_Law_law_1001 rfl (lv_at hl 1 rfl) ?_
  refine lv_iload hx hb d_Law_law_1002 (lv_at hl 5 rfl) ?_
  refine lv_iconst (v := (1 : Int32)) hx hb d_Law_law_1004 (by decide) ?_
  refine lv_iadd hx hb d_Law_law_1005 ?_
  obtain ⟨hi3, hf⟩ := hf_g hf
  refine va_sld hx hb hX0 hbl hbA hS hi3 d_Law_law_1006 ?_
  obtain ⟨u4, hu4, hf⟩ := Option.bind_eq_some_iff.mp hf
  refine cl_i (wc := (uw_Model ad_md cA_md md)) (wr := (uw_HT ad_ht cA_ht (ad_rd 0) (ad_sp 0) (ad_mx 0) (ad_ar 0) (ad_tb 0) (ad_tc 0) ht ++ (uw_Reader ad_rd cA_rd rd ++ (uw_Speller ad_sp cA_sp sp ++ (uw_Mixture ad_mx cA_mx u2.2.2 ++ (uw_Surroundings ad_ar cA_ar ar ++ (uw_Table ad_tb cA_tb tb ++ (uw_Table ad_tc cA_tc tc ++ (uw_Out ad_ot cA_ot u2.2.1))))))))) (tysC := [(cA_md 1, .int), (cA_md 2, .int), (cA_md 3, .int), (cA_md 4, .int), (cA_md 5, .int), (cA_md 6, .int), (cA_md 7, .int), (cA_md 8, .int), (cA_md 9, .boolean), (cA_md 10, .int), (cA_md 11, .int), (cA_md 12, .int), (cA_md 13, .int)]) (wu := fun (u : SModel) => (uw_Model ad_md cA_md u)) (wn := fun (u : SModel) => (uw_HT ad_ht cA_ht (ad_rd 0) (ad_sp 0) (ad_mx 0) (ad_ar 0) (ad_tb 0) (ad_tc 0) ht ++ (uw_Reader ad_rd cA_rd rd ++ (uw_Speller ad_sp cA_sp sp ++ (uw_Mixture ad_mx cA_mx u2.2.2 ++ (uw_Surroundings ad_ar cA_ar ar ++ (uw_Table ad_tb cA_tb tb ++ (uw_Table ad_tc cA_tc tc ++ (uw_Out ad_ot cA_ot u2.2.1 ++ (uw_Model ad_md cA_md u)))))))))) [28, 29, 30, 31, 32, 33, 34, 35, 36, 37, 38, 39, 40, 41] [0, 1, 2, 3, 4, 5, 6, 7, 8, 9, 10, 11, 12, 13, 14, 15, 16, 17, 18, 19, 20, 21, 22, 23, 24, 25, 26, 27] [0, 1, 2, 3, 4, 5, 6, 7, 8, 9, 10, 11, 12, 13, 14, 15, 16, 17, 18, 19, 20, 21, 22, 23, 24, 25, 26, 27, 28, 29, 30, 31, 32, 33, 34, 35, 36, 37, 38, 39, 40, 41] [21, 22, 23, 24, 25, 26, 27, 28, 29, 30, 31, 32, 33] hP hD hS hA hK rfl rfl (by decide +kernel) (by decide +kernel) (by decide +kernel) rfl (fun _ => rfl) (by decide +kernel) (fun hPc hKc hDc => (va_runV (As := [.int (xs (y4 + (1 : Int32)).toNatClampNeg)]) (rest := []) ⟨hx, hb, hml, hown, hts⟩ (k_Model_step l dC dI ad_md cA_md H.size md (xs (y4 + (1 : Int32)).toNatClampNeg) u4 hu4) (cwV 1 hts (gV wd_991 wd_992 wd_993 wd_49 wd_994) rfl rfl rfl (by decide +kernel) ⟨Nat.le_of_ble_eq_true rfl, Nat.le_of_ble_eq_true rfl⟩) (cl_preV hPc hKc hDc hN (ci := 6) 0 rfl rfl) rfl rfl hl.1 rfl (lv_room (Nat.le_of_ble_eq_true rfl)) d_Law_law_1007 ⟨by show _ ≤ 1092; omega, by show _ ≤ 11944; omega⟩)) (fun r u H locs hw hP hD hS => ?_)
  obtain ⟨hw1, hw2⟩ := hw
  have hw1 := hw1.symm
  have hw2 := hw2.symm
  subst hw1
  subst hw2
  have hP : va_P (dC, dI) vwCl (uw_HT ad_ht cA_ht (ad_rd 0) (ad_sp 0) (ad_mx 0) (ad_ar 0) (ad_tb 0) (ad_tc 0) ht ++ (uw_Reader ad_rd cA_rd rd ++ (uw_Speller ad_sp cA_sp sp ++ (uw_Mixture ad_mx cA_mx u2.2.2 ++ (uw_Surroundings ad_ar cA_ar ar ++ (uw_Table ad_tb cA_tb tb ++ (uw_Table ad_tc cA_tc tc ++ (uw_Out ad_ot cA_ot u2.2.1 ++ (uw_Model ad_md cA_md u4.2))))))))) H := hP
  have hD : va_D A (uw_HT ad_ht cA_ht (ad_rd 0) (ad_sp 0) (ad_mx 0) (ad_ar 0) (ad_tb 0) (ad_tc 0) ht ++ (uw_Reader ad_rd cA_rd rd ++ (uw_Speller ad_sp cA_sp sp ++ (uw_Mixture ad_mx cA_mx u2.2.2 ++ (uw_Surroundings ad_ar cA_ar ar ++ (uw_Table ad_tb cA_tb tb ++ (uw_Table ad_tc cA_tc tc ++ (uw_Out ad_ot cA_ot u2.2.1 ++ (uw_Model ad_md cA_md u4.2))))))))) := hD
  refine lv_istore (lv' := [(6, .int u4.1), (5, .int u2.1), (0, .ref b), (1, .ref (ad_ht 0)), (2, .ref (ad_md 0)), (3, .ref (ad_ot 1)), (4, .int y4)]) hx hb d_Law_law_1010 hl (by decide) rfl (fun ls hl => ?_)
  refine lv_aload_n hx hb d_Law_law_1012 rfl (lv_at hl 4 rfl) ?_
  obtain ⟨u5, hu5, hf⟩ := Option.bind_eq_some_iff.mp hf
  refine cl_i (wc := (uw_Model ad_md cA_md u4.2)) (wr := (uw_HT ad_ht cA_ht (ad_rd 0) (ad_sp 0) (ad_mx 0) (ad_ar 0) (ad_tb 0) (ad_tc 0) ht ++ (uw_Reader ad_rd cA_rd rd ++ (uw_Speller ad_sp cA_sp sp ++ (uw_Mixture ad_mx cA_mx u2.2.2 ++ (uw_Surroundings ad_ar cA_ar ar ++ (uw_Table ad_tb cA_tb tb ++ (uw_Table ad_tc cA_tc tc ++ (uw_Out ad_ot cA_ot u2.2.1))))))))) (tysC := [(cA_md 1, .int), (cA_md 2, .int), (cA_md 3, .int), (cA_md 4, .int), (cA_md 5, .int), (cA_md 6, .int), (cA_md 7, .int), (cA_md 8, .int), (cA_md 9, .boolean), (cA_md 10, .int), (cA_md 11, .int), (cA_md 12, .int), (cA_md 13, .int)]) (wu := fun (u : Unit) => (uw_Model ad_md cA_md u4.2)) (wn := fun (u : Unit) => (uw_HT ad_ht cA_ht (ad_rd 0) (ad_sp 0) (ad_mx 0) (ad_ar 0) (ad_tb 0) (ad_tc 0) ht ++ (uw_Reader ad_rd cA_rd rd ++ (uw_Speller ad_sp cA_sp sp ++ (uw_Mixture ad_mx cA_mx u2.2.2 ++ (uw_Surroundings ad_ar cA_ar ar ++ (uw_Table ad_tb cA_tb tb ++ (uw_Table ad_tc cA_tc tc ++ (uw_Out ad_ot cA_ot u2.2.1 ++ (uw_Model ad_md cA_md u4.2)))))))))) [28, 29, 30, 31, 32, 33, 34, 35, 36, 37, 38, 39, 40, 41] [0, 1, 2, 3, 4, 5, 6, 7, 8, 9, 10, 11, 12, 13, 14, 15, 16, 17, 18, 19, 20, 21, 22, 23, 24, 25, 26, 27] [0, 1, 2, 3, 4, 5, 6, 7, 8, 9, 10, 11, 12, 13, 14, 15, 16, 17, 18, 19, 20, 21, 22, 23, 24, 25, 26, 27, 28, 29, 30, 31, 32, 33, 34, 35, 36, 37, 38, 39, 40, 41] [21, 22, 23, 24, 25, 26, 27, 28, 29, 30, 31, 32, 33] hP hD hS hA hK rfl rfl (by decide +kernel) (by decide +kernel) (by decide +kernel) rfl (fun _ => rfl) (by decide +kernel) (fun hPc hKc hDc => (va_runV (As := []) (rest := []) ⟨hx, hb, hml, hown, hts⟩ (k_Model_thrown l dC dI ad_md cA_md H.size u4.2 u5 hu5) (cwV 0 hts (gV wd_839 wd_840 wd_841 wd_49 wd_842) rfl rfl rfl (by decide +kernel) ⟨Nat.le_of_ble_eq_true rfl, Nat.le_of_ble_eq_true rfl⟩) (cl_preV hPc hKc hDc hN (ci := 6) 0 rfl rfl) rfl rfl hl.1 rfl (lv_room (Nat.le_of_ble_eq_true rfl)) d_Law_law_1013 ⟨by show _ ≤ 1092; omega, by show _ ≤ 11944; omega⟩)) (fun r u H locs hw hP hD hS => ?_)
  have hw := hw.symm
  subst hw
  have hP : va_P (dC, dI) vwCl (uw_HT ad_ht cA_ht (ad_rd 0) (ad_sp 0) (ad_mx 0) (ad_ar 0) (ad_tb 0) (ad_tc 0) ht ++ (uw_Reader ad_rd cA_rd rd ++ (uw_Speller ad_sp cA_sp sp ++ (uw_Mixture ad_mx cA_mx u2.2.2 ++ (uw_Surroundings ad_ar cA_ar ar ++ (uw_Table ad_tb cA_tb tb ++ (uw_Table ad_tc cA_tc tc ++ (uw_Out ad_ot cA_ot u2.2.1 ++ (uw_Model ad_md cA_md u4.2))))))))) H := hP
  have hD : va_D A (uw_HT ad_ht cA_ht (ad_rd 0) (ad_sp 0) (ad_mx 0) (ad_ar 0) (ad_tb 0) (ad_tc 0) ht ++ (uw_Reader ad_rd cA_rd rd ++ (uw_Speller ad_sp cA_sp sp ++ (uw_Mixture ad_mx cA_mx u2.2.2 ++ (uw_Surroundings ad_ar cA_ar ar ++ (uw_Table ad_tb cA_tb tb ++ (uw_Table ad_tc cA_tc tc ++ (uw_Out ad_ot cA_ot u2.2.1 ++ (uw_Model ad_md cA_md u4.2))))))))) := hD
  refine lv_iload hx hb d_Law_law_1016 (lv_at hl 1 rfl) ?_
  refine lv_icmp_eq (tgt := 1023) hx hb d_Law_law_1018 (by decide) (fun hc6 => ?_) (fun hc6 => ?_)
  · have hf := hf_t hf hc6
    refine lv_iload hx hb d_Law_law_1023 (lv_at hl 1 rfl) ?_
    refine lv_if_ne (tgt := 1040) hx hb d_Law_law_1025 (by decide) (fun hc7 => ?_) (fun hc7 => ?_)
    · have hf := hf_f hf hc7
      refine lv_goto (tgt := 1166) hx hb d_Law_law_1040 (by decide) ?_
      refine lv_iinc (v := y4 + (4 : Int32)) (lv' := [(4, .int (y4 + (4 : Int32))), (6, .int u4.1), (5, .int u2.1), (0, .ref b), (1, .ref (ad_ht 0)), (2, .ref (ad_md 0)), (3, .ref (ad_ot 1))]) hx hb d_Law_law_1166 hl (k := 6) rfl rfl (by decide) rfl (fun ls hl => ?_)
      refine lv_goto (tgt := 23) hx hb d_Law_law_1169 (by decide) ?_
      refine W.widen (k := cs + 1) (n := sl + 6) (by omega) (by omega) ?_
      exact hk ad_ht cA_ht ad_rd cA_rd ad_sp cA_sp ad_mx cA_mx ad_ar cA_ar ad_tb cA_tb ad_tc cA_tc ad_ot cA_ot ad_md cA_md ht rd sp u2.2.2 ar tb tc u2.2.1 u4.2 (y4 + (4 : Int32)) H locs ls hf hK hP hD hS (lv_sub hl [3, 4, 5, 6, 0] rfl)
    · have hf := hf_t hf hc7
      refine lv_aload_n hx hb d_Law_law_1028 rfl (lv_at hl 5 rfl) ?_
      refine lv_iconst (v := (0 : Int32)) hx hb d_Law_law_1029 (by decide) ?_
      obtain ⟨hi8, hf⟩ := hf_g hf
      refine va_lald hx hb hK hP 27 20 rfl rfl hi8 d_Law_law_1030 ?_
      refine lv_iload hx hb d_Law_law_1031 (lv_at hl 0 rfl) ?_
      refine lv_i2l (v := u4.1.toInt64) hx hb d_Law_law_1033 rfl ?_
      refine W.lcmp hx hb d_Law_law_1034 ?_
      refine lv_if_eq (tgt := 1040) hx hb d_Law_law_1035 (by decide) (fun hc9 => ?_) (fun hc9 => ?_)
      · have hf := hf_t hf hc9
        refine lv_goto (tgt := 1166) hx hb d_Law_law_1040 (by decide) ?_
        refine lv_iinc (v := y4 + (4 : Int32)) (lv' := [(4, .int (y4 + (4 : Int32))), (6, .int u4.1), (5, .int u2.1), (0, .ref b), (1, .ref (ad_ht 0)), (2, .ref (ad_md 0)), (3, .ref (ad_ot 1))]) hx hb d_Law_law_1166 hl (k := 6) rfl rfl (by decide) rfl (fun ls hl => ?_)
        refine lv_goto (tgt := 23) hx hb d_Law_law_1169 (by decide) ?_
        refine W.widen (k := cs + 1) (n := sl + 6) (by omega) (by omega) ?_
        exact hk ad_ht cA_ht ad_rd cA_rd ad_sp cA_sp ad_mx cA_mx ad_ar cA_ar ad_tb cA_tb ad_tc cA_tc ad_ot cA_ot ad_md cA_md ht rd sp u2.2.2 ar tb tc u2.2.1 u4.2 (y4 + (4 : Int32)) H locs ls hf hK hP hD hS (lv_sub hl [3, 4, 5, 6, 0] rfl)
      · have hf := hf_f hf hc9
        refine lv_iconst (v := (0 : Int32)) hx hb d_Law_law_1038 (by decide) ?_
        have hrv : rv = false := (Option.some.inj hf).symm
        subst hrv
        refine va_forget (fun q hq => hA2 _ (hS.2.2 q hq)) ?_
        refine W.widen (k := 1092) (n := 11944) (by omega) (by omega) ?_
        exact lw_ret0b hx hb hr hlocks d_Law_law_1039
  · have hf := hf_f hf hc6
    refine lv_iconst (v := (0 : Int32)) hx hb d_Law_law_1021 (by decide) ?_
    have hrv : rv = false := (Option.some.inj hf).symm
    subst hrv
    refine va_forget (fun q hq => hA2 _ (hS.2.2 q hq)) ?_
    refine W.widen (k := 1092) (n := 11944) (by omega) (by omega) ?_
    exact lw_ret0b hx hb hr hlocks d_Law_law_1022
noncomputable def f_Law_case_1043 (L : Nat) (xs : Nat → Int32) (k : SHT → SReader → SSpeller → SMixture → SSurroundings → STable → STable → SOut → SModel → Int32 → Option Bool) (ht : SHT) (rd : SReader) (sp : SSpeller) (mx : SMixture) (ar : SSurroundings) (tb : STable) (tc : STable) (ot : SOut) (md : SModel) (y4 : Int32) : Option Bool :=
  (if inb (y4 + (1 : Int32)) L then
    (if inb (y4 + (2 : Int32)) L then
      (Option.bind (f_Law_mark ht (xs (y4 + (1 : Int32)).toNatClampNeg) (xs (y4 + (2 : Int32)).toNatClampNeg)) fun u3 =>
        (if inb (y4 + (1 : Int32)) L then
          (if inb (y4 + (2 : Int32)) L then
            (Option.bind (f_Model_mark md (xs (y4 + (1 : Int32)).toNatClampNeg) (xs (y4 + (2 : Int32)).toNatClampNeg)) fun u6 =>
              (Option.bind (f_Model_thrown u6) fun u7 =>
                (if u7 = u3.1 then
                  (k u3.2 rd sp mx ar tb tc ot u6 (y4 + (4 : Int32)))
                 else
                  (some false)
                 )
               )
             )
           else none)
         else none)
       )
     else none)
   else none)
set_option maxHeartbeats 4000000 in
set_option maxRecDepth 100000 in
theorem k_Law_case_1043 {rv : Bool} {p : Program} {l : Launch} {e : Env} {s : State} {m : MethodId} {below : List Frame} {meth : Method} {c : Code} {dC : Nat → ClassId} {dI : Nat → Nat → Nat} {b L : Nat} {xs : Nat → Int32} {A : Nat → Prop} (htr : l.stackTraces = false) (C0 : lw_At p s m meth c b L xs) (hN : nwAll s) (hX : xAll A s) (hnc : ncAll s) (hA : ∀ q : Nat, s.heap.size ≤ q → A q) (hA2 : ∀ q : Nat, A q → s.heap.size ≤ q) (cs sl : Nat) (hcs : cs + 1 ≤ 1092) (hsl : sl + 6 ≤ 11944) (k : SHT → SReader → SSpeller → SMixture → SSurroundings → STable → STable → SOut → SModel → Int32 → Option Bool) (hk : ∀ (ad_ht : Nat → Nat) (cA_ht : Nat → ClassId) (ad_rd : Nat → Nat) (cA_rd : Nat → ClassId) (ad_sp : Nat → Nat) (cA_sp : Nat → ClassId) (ad_mx : Nat → Nat) (cA_mx : Nat → ClassId) (ad_ar : Nat → Nat) (cA_ar : Nat → ClassId) (ad_tb : Nat → Nat) (cA_tb : Nat → ClassId) (ad_tc : Nat → Nat) (cA_tc : Nat → ClassId) (ad_ot : Nat → Nat) (cA_ot : Nat → ClassId) (ad_md : Nat → Nat) (cA_md : Nat → ClassId) (ht : SHT) (rd : SReader) (sp : SSpeller) (mx : SMixture) (ar : SSurroundings) (tb : STable) (tc : STable) (ot : SOut) (md : SModel) (y4 : Int32) (H : Heap) (locs : List Loc) (ls : Array Slot), k ht rd sp mx ar tb tc ot md y4 = some rv → va_K (dC, dI) vwCl [(cA_ht 1, .int), (cA_rd 1, .int), (cA_sp 1, .int), (cA_sp 2, .int), (cA_sp 3, .int), (cA_sp 4, .int), (cA_mx 1, .int), (cA_mx 2, .int), (cA_mx 3, .boolean), (cA_ar 1, .int), (cA_ar 2, .int), (cA_ar 3, .int), (cA_tb 1, .int), (cA_tb 2, .int), (cA_tb 3, .int), (cA_tb 4, .byte), (cA_tc 1, .int), (cA_tc 2, .int), (cA_tc 3, .int), (cA_tc 4, .byte), (cA_ot 1, .long), (cA_md 1, .int), (cA_md 2, .int), (cA_md 3, .int), (cA_md 4, .int), (cA_md 5, .int), (cA_md 6, .int), (cA_md 7, .int), (cA_md 8, .int), (cA_md 9, .boolean), (cA_md 10, .int), (cA_md 11, .int), (cA_md 12, .int), (cA_md 13, .int)] s → va_P (dC, dI) vwCl (uw_HT ad_ht cA_ht (ad_rd 0) (ad_sp 0) (ad_mx 0) (ad_ar 0) (ad_tb 0) (ad_tc 0) ht ++ (uw_Reader ad_rd cA_rd rd ++ (uw_Speller ad_sp cA_sp sp ++ (uw_Mixture ad_mx cA_mx mx ++ (uw_Surroundings ad_ar cA_ar ar ++ (uw_Table ad_tb cA_tb tb ++ (uw_Table ad_tc cA_tc tc ++ (uw_Out ad_ot cA_ot ot ++ (uw_Model ad_md cA_md md))))))))) H → va_D A (uw_HT ad_ht cA_ht (ad_rd 0) (ad_sp 0) (ad_mx 0) (ad_ar 0) (ad_tb 0) (ad_tc 0) ht ++ (uw_Reader ad_rd cA_rd rd ++ (uw_Speller ad_sp cA_sp sp ++ (uw_Mixture ad_mx cA_mx mx ++ (uw_Surroundings ad_ar cA_ar ar ++ (uw_Table ad_tb cA_tb tb ++ (uw_Table ad_tc cA_tc tc ++ (uw_Out ad_ot cA_ot ot ++ (uw_Model ad_md cA_md md))))))))) → va_S A s.heap H locs → lv_has ls 7 [(0, .ref b), (1, .ref (ad_ht 0)), (2, .ref (ad_md 0)), (3, .ref (ad_ot 1)), (4, .int y4)] → W p l e room_1 s m #[Value.ref b] below meth c H locs (cs + 1) (sl + 6) (lw_Zb rv below #[Value.ref b] s) (F0 m 23 ls [])) : ∀ (ad_ht : Nat → Nat) (cA_ht : Nat → ClassId) (ad_rd : Nat → Nat) (cA_rd : Nat → ClassId) (ad_sp : Nat → Nat) (cA_sp : Nat → ClassId) (ad_mx : Nat → Nat) (cA_mx : Nat → ClassId) (ad_ar : Nat → Nat) (cA_ar : Nat → ClassId) (ad_tb : Nat → Nat) (cA_tb : Nat → ClassId) (ad_tc : Nat → Nat) (cA_tc : Nat → ClassId) (ad_ot : Nat → Nat) (cA_ot : Nat → ClassId) (ad_md : Nat → Nat) (cA_md : Nat → ClassId) (ht : SHT) (rd : SReader) (sp : SSpeller) (mx : SMixture) (ar : SSurroundings) (tb : STable) (tc : STable) (ot : SOut) (md : SModel) (y4 : Int32) (H : Heap) (locs : List Loc) (ls : Array Slot), f_Law_case_1043 L xs k ht rd sp mx ar tb tc ot md y4 = some rv → va_K (dC, dI) vwCl [(cA_ht 1, .int), (cA_rd 1, .int), (cA_sp 1, .int), (cA_sp 2, .int), (cA_sp 3, .int), (cA_sp 4, .int), (cA_mx 1, .int), (cA_mx 2, .int), (cA_mx 3, .boolean), (cA_ar 1, .int), (cA_ar 2, .int), (cA_ar 3, .int), (cA_tb 1, .int), (cA_tb 2, .int), (cA_tb 3, .int), (cA_tb 4, .byte), (cA_tc 1, .int), (cA_tc 2, .int), (cA_tc 3, .int), (cA_tc 4, .byte), (cA_ot 1, .long), (cA_md 1, .int), (cA_md 2, .int), (cA_md 3, .int), (cA_md 4, .int), (cA_md 5, .int), (cA_md 6, .int), (cA_md 7, .int), (cA_md 8, .int), (cA_md 9, .boolean), (cA_md 10, .int), (cA_md 11, .int), (cA_md 12, .int), (cA_md 13, .int)] s → va_P (dC, dI) vwCl (uw_HT ad_ht cA_ht (ad_rd 0) (ad_sp 0) (ad_mx 0) (ad_ar 0) (ad_tb 0) (ad_tc 0) ht ++ (uw_Reader ad_rd cA_rd rd ++ (uw_Speller ad_sp cA_sp sp ++ (uw_Mixture ad_mx cA_mx mx ++ (uw_Surroundings ad_ar cA_ar ar ++ (uw_Table ad_tb cA_tb tb ++ (uw_Table ad_tc cA_tc tc ++ (uw_Out ad_ot cA_ot ot ++ (uw_Model ad_md cA_md md))))))))) H → va_D A (uw_HT ad_ht cA_ht (ad_rd 0) (ad_sp 0) (ad_mx 0) (ad_ar 0) (ad_tb 0) (ad_tc 0) ht ++ (uw_Reader ad_rd cA_rd rd ++ (uw_Speller ad_sp cA_sp sp ++ (uw_Mixture ad_mx cA_mx mx ++ (uw_Surroundings ad_ar cA_ar ar ++ (uw_Table ad_tb cA_tb tb ++ (uw_Table ad_tc cA_tc tc ++ (uw_Out ad_ot cA_ot ot ++ (uw_Model ad_md cA_md md))))))))) → va_S A s.heap H locs → lv_has ls 7 [(0, .ref b), (1, .ref (ad_ht 0)), (2, .ref (ad_md 0)), (3, .ref (ad_ot 1)), (4, .int y4)] → W p l e room_1 s m #[Value.ref b] below meth c H locs cs sl (lw_Zb rv below #[Value.ref b] s) (F0 m 1043 ls []) := by
  obtain ⟨hx, hb, hr, hml, hown, hts0, hX0, hbl, hlocks, hgv⟩ := C0
  have hown : s.vm.findClass "HazardTablesLaw" = some m.cls := hown
  have hts : ∀ w ∈ (Cond.initialized "HazardTables" :: WA), w.before #[Value.ref b] s = true := fun w h => hts0 w ((List.mem_cons.mp h).elim (fun e => by rw [e]; exact (List.mem_filter.mp wd_43).1) (fun h => (List.mem_filter.mp h).1))
  have hbA : ¬ A b := fun h => absurd (hA2 b h) (Nat.not_le.mpr hbl)
  intro ad_ht cA_ht ad_rd cA_rd ad_sp cA_sp ad_mx cA_mx ad_ar cA_ar ad_tb cA_tb ad_tc cA_tc ad_ot cA_ot ad_md cA_md ht rd sp mx ar tb tc ot md y4 H locs ls hf hK hP hD hS hl
  unfold f_Law_case_1043 at hf
  refine lv_aload_n hx hb d_Law_law_1043 rfl (lv_at hl 1 rfl) ?_
  refine lv_aload_n hx hb d_Law_law_1044 rfl (lv_at hl 0 rfl) ?_
  refine lv_iload hx hb d_Law_law_1045 (lv_at hl 4 rfl) ?_
  refine lv_iconst (v := (1 : Int32)) hx hb d_Law_law_1047 (by decide) ?_
  refine lv_iadd hx hb d_Law_law_1048 ?_
  obtain ⟨hi1, hf⟩ := hf_g hf
  refine va_sld hx hb hX0 hbl hbA hS hi1 d_Law_law_1049 ?_
  refine lv_aload_n hx hb d_Law_law_1050 rfl (lv_at hl 0 rfl) ?_
  refine lv_iload hx hb d_Law_law_1051 (lv_at hl 4 rfl) ?_
  refine lv_iconst (v := (2 : Int32)) hx hb d_Law_law_1053 (by decide) ?_
  refine lv_iadd hx hb d_Law_law_1054 ?_
  obtain ⟨hi2, hf⟩ := hf_g hf
  refine va_sld hx hb hX0 hbl hbA hS hi2 d_Law_law_1055 ?_
  obtain ⟨u3, hu3, hf⟩ := Option.bind_eq_some_iff.mp hf
  refine cl_i (wc := (uw_HT ad_ht cA_ht (ad_rd 0) (ad_sp 0) (ad_mx 0) (ad_ar 0) (ad_tb 0) (ad_tc 0) ht)) (wr := (uw_Reader ad_rd cA_rd rd ++ (uw_Speller ad_sp cA_sp sp ++ (uw_Mixture ad_mx cA_mx mx ++ (uw_Surroundings ad_ar cA_ar ar ++ (uw_Table ad_tb cA_tb tb ++ (uw_Table ad_tc cA_tc tc ++ (uw_Out ad_ot cA_ot ot ++ (uw_Model ad_md cA_md md))))))))) (tysC := [(cA_ht 1, .int)]) (wu := fun (u : SHT) => (uw_HT ad_ht cA_ht (ad_rd 0) (ad_sp 0) (ad_mx 0) (ad_ar 0) (ad_tb 0) (ad_tc 0) u)) (wn := fun (u : SHT) => (uw_HT ad_ht cA_ht (ad_rd 0) (ad_sp 0) (ad_mx 0) (ad_ar 0) (ad_tb 0) (ad_tc 0) u ++ (uw_Reader ad_rd cA_rd rd ++ (uw_Speller ad_sp cA_sp sp ++ (uw_Mixture ad_mx cA_mx mx ++ (uw_Surroundings ad_ar cA_ar ar ++ (uw_Table ad_tb cA_tb tb ++ (uw_Table ad_tc cA_tc tc ++ (uw_Out ad_ot cA_ot ot ++ (uw_Model ad_md cA_md md)))))))))) [0, 1] [2, 3, 4, 5, 6, 7, 8, 9, 10, 11, 12, 13, 14, 15, 16, 17, 18, 19, 20, 21, 22, 23, 24, 25, 26, 27, 28, 29, 30, 31, 32, 33, 34, 35, 36, 37, 38, 39, 40, 41] [40, 41, 0, 1, 2, 3, 4, 5, 6, 7, 8, 9, 10, 11, 12, 13, 14, 15, 16, 17, 18, 19, 20, 21, 22, 23, 24, 25, 26, 27, 28, 29, 30, 31, 32, 33, 34, 35, 36, 37, 38, 39] [0] hP hD hS hA hK rfl rfl (by decide +kernel) (by decide +kernel) (by decide +kernel) rfl (fun _ => rfl) (by decide +kernel) (fun hPc hKc hDc => (vx_runSW (As := [.ref (ad_ht 0), .int (xs (y4 + (1 : Int32)).toNatClampNeg), .int (xs (y4 + (2 : Int32)).toNatClampNeg)]) (rest := []) ⟨hx, hb, hml, hown, hts⟩ (k_Law_mark l dC dI ad_ht cA_ht ad_rd cA_rd ad_sp cA_sp ad_mx cA_mx ad_ar cA_ar ad_tb cA_tb ad_tc cA_tc H.size ht (xs (y4 + (1 : Int32)).toNatClampNeg) (xs (y4 + (2 : Int32)).toNatClampNeg) u3 hu3 htr) (vx_cwSW 3 hts (gSW wd_726 wd_727 wd_42 wd_728) rfl rfl rfl (by decide +kernel) ⟨Nat.le_of_ble_eq_true rfl, Nat.le_of_ble_eq_true rfl⟩) (cx_preL hPc hKc hDc hN (fun U hU hW => xAll_at hX hS (va_free hD hS hA [0, 1] rfl) hU hW) hnc) rfl rfl hl.1 rfl (lv_room (Nat.le_of_ble_eq_true rfl)) d_Law_law_1056 ⟨by show _ ≤ 1092; omega, by show _ ≤ 11944; omega⟩)) (fun r u H locs hw hP hD hS => ?_)
  obtain ⟨hw1, hw2⟩ := hw
  have hw1 := hw1.symm
  have hw2 := hw2.symm
  subst hw1
  subst hw2
  have hP : va_P (dC, dI) vwCl (uw_HT ad_ht cA_ht (ad_rd 0) (ad_sp 0) (ad_mx 0) (ad_ar 0) (ad_tb 0) (ad_tc 0) u3.2 ++ (uw_Reader ad_rd cA_rd rd ++ (uw_Speller ad_sp cA_sp sp ++ (uw_Mixture ad_mx cA_mx mx ++ (uw_Surroundings ad_ar cA_ar ar ++ (uw_Table ad_tb cA_tb tb ++ (uw_Table ad_tc cA_tc tc ++ (uw_Out ad_ot cA_ot ot ++ (uw_Model ad_md cA_md md))))))))) H := hP
  have hD : va_D A (uw_HT ad_ht cA_ht (ad_rd 0) (ad_sp 0) (ad_mx 0) (ad_ar 0) (ad_tb 0) (ad_tc 0) u3.2 ++ (uw_Reader ad_rd cA_rd rd ++ (uw_Speller ad_sp cA_sp sp ++ (uw_Mixture ad_mx cA_mx mx ++ (uw_Surroundings ad_ar cA_ar ar ++ (uw_Table ad_tb cA_tb tb ++ (uw_Table ad_tc cA_tc tc ++ (uw_Out ad_ot cA_ot ot ++ (uw_Model ad_md cA_md md))))))))) := hD
  refine lv_istore (lv' := [(5, .int u3.1), (0, .ref b), (1, .ref (ad_ht 0)), (2, .ref (ad_md 0)), (3, .ref (ad_ot 1)), (4, .int y4)]) hx hb d_Law_law_1059 hl (by decide) rfl (fun ls hl => ?_)
  refine lv_aload_n hx hb d_Law_law_1061 rfl (lv_at hl 3 rfl) ?_
  refine lv_aload_n hx hb d_Law_law_1062 rfl (lv_at hl 1 rfl) ?_
  refine lv_iload hx hb d_Law_law_1063 (lv_at hl 5 rfl) ?_
  refine lv_iconst (v := (1 : Int32)) hx hb d_Law_law_1065 (by decide) ?_
  refine lv_iadd hx hb d_Law_law_1066 ?_
  obtain ⟨hi4, hf⟩ := hf_g hf
  refine va_sld hx hb hX0 hbl hbA hS hi4 d_Law_law_1067 ?_
  refine lv_aload_n hx hb d_Law_law_1068 rfl (lv_at hl 1 rfl) ?_
  refine lv_iload hx hb d_Law_law_1069 (lv_at hl 5 rfl) ?_
  refine lv_iconst (v := (2 : Int32)) hx hb d_Law_law_1071 (by decide) ?_
  refine lv_iadd hx hb d_Law_law_1072 ?_
  obtain ⟨hi5, hf⟩ := hf_g hf
  refine va_sld hx hb hX0 hbl hbA hS hi5 d_Law_law_1073 ?_
  obtain ⟨u6, hu6, hf⟩ := Option.bind_eq_some_iff.mp hf
  refine cl_v (wc := (uw_Model ad_md cA_md md)) (wr := (uw_HT ad_ht cA_ht (ad_rd 0) (ad_sp 0) (ad_mx 0) (ad_ar 0) (ad_tb 0) (ad_tc 0) u3.2 ++ (uw_Reader ad_rd cA_rd rd ++ (uw_Speller ad_sp cA_sp sp ++ (uw_Mixture ad_mx cA_mx mx ++ (uw_Surroundings ad_ar cA_ar ar ++ (uw_Table ad_tb cA_tb tb ++ (uw_Table ad_tc cA_tc tc ++ (uw_Out ad_ot cA_ot ot))))))))) (tysC := [(cA_md 1, .int), (cA_md 2, .int), (cA_md 3, .int), (cA_md 4, .int), (cA_md 5, .int), (cA_md 6, .int), (cA_md 7, .int), (cA_md 8, .int), (cA_md 9, .boolean), (cA_md 10, .int), (cA_md 11, .int), (cA_md 12, .int), (cA_md 13, .int)]) (wu := fun (u : SModel) => (uw_Model ad_md cA_md u)) (wn := fun (u : SModel) => (uw_HT ad_ht cA_ht (ad_rd 0) (ad_sp 0) (ad_mx 0) (ad_ar 0) (ad_tb 0) (ad_tc 0) u3.2 ++ (uw_Reader ad_rd cA_rd rd ++ (uw_Speller ad_sp cA_sp sp ++ (uw_Mixture ad_mx cA_mx mx ++ (uw_Surroundings ad_ar cA_ar ar ++ (uw_Table ad_tb cA_tb tb ++ (uw_Table ad_tc cA_tc tc ++ (uw_Out ad_ot cA_ot ot ++ (uw_Model ad_md cA_md u)))))))))) [28, 29, 30, 31, 32, 33, 34, 35, 36, 37, 38, 39, 40, 41] [0, 1, 2, 3, 4, 5, 6, 7, 8, 9, 10, 11, 12, 13, 14, 15, 16, 17, 18, 19, 20, 21, 22, 23, 24, 25, 26, 27] [0, 1, 2, 3, 4, 5, 6, 7, 8, 9, 10, 11, 12, 13, 14, 15, 16, 17, 18, 19, 20, 21, 22, 23, 24, 25, 26, 27, 28, 29, 30, 31, 32, 33, 34, 35, 36, 37, 38, 39, 40, 41] [21, 22, 23, 24, 25, 26, 27, 28, 29, 30, 31, 32, 33] hP hD hS hA hK rfl rfl (by decide +kernel) (by decide +kernel) (by decide +kernel) rfl (fun _ => rfl) (by decide +kernel) (fun hPc hKc hDc => (va_runV (As := [.int (xs (y4 + (1 : Int32)).toNatClampNeg), .int (xs (y4 + (2 : Int32)).toNatClampNeg)]) (rest := []) ⟨hx, hb, hml, hown, hts⟩ (k_Model_mark l dC dI ad_md cA_md H.size md (xs (y4 + (1 : Int32)).toNatClampNeg) (xs (y4 + (2 : Int32)).toNatClampNeg) u6 hu6) (cwV 2 hts (gV wd_995 wd_996 wd_997 wd_49 wd_998) rfl rfl rfl (by decide +kernel) ⟨Nat.le_of_ble_eq_true rfl, Nat.le_of_ble_eq_true rfl⟩) (cl_preV hPc hKc hDc hN (ci := 6) 0 rfl rfl) rfl rfl hl.1 rfl (lv_room (Nat.le_of_ble_eq_true rfl)) d_Law_law_1074 ⟨by show _ ≤ 1092; omega, by show _ ≤ 11944; omega⟩)) (fun u H locs hw hP hD hS => ?_)
  have hw := hw.symm
  subst hw
  have hP : va_P (dC, dI) vwCl (uw_HT ad_ht cA_ht (ad_rd 0) (ad_sp 0) (ad_mx 0) (ad_ar 0) (ad_tb 0) (ad_tc 0) u3.2 ++ (uw_Reader ad_rd cA_rd rd ++ (uw_Speller ad_sp cA_sp sp ++ (uw_Mixture ad_mx cA_mx mx ++ (uw_Surroundings ad_ar cA_ar ar ++ (uw_Table ad_tb cA_tb tb ++ (uw_Table ad_tc cA_tc tc ++ (uw_Out ad_ot cA_ot ot ++ (uw_Model ad_md cA_md u6))))))))) H := hP
  have hD : va_D A (uw_HT ad_ht cA_ht (ad_rd 0) (ad_sp 0) (ad_mx 0) (ad_ar 0) (ad_tb 0) (ad_tc 0) u3.2 ++ (uw_Reader ad_rd cA_rd rd ++ (uw_Speller ad_sp cA_sp sp ++ (uw_Mixture ad_mx cA_mx mx ++ (uw_Surroundings ad_ar cA_ar ar ++ (uw_Table ad_tb cA_tb tb ++ (uw_Table ad_tc cA_tc tc ++ (uw_Out ad_ot cA_ot ot ++ (uw_Model ad_md cA_md u6))))))))) := hD
  refine lv_aload_n hx hb d_Law_law_1077 rfl (lv_at hl 3 rfl) ?_
  obtain ⟨u7, hu7, hf⟩ := Option.bind_eq_some_iff.mp hf
  refine cl_i (wc := (uw_Model ad_md cA_md u6)) (wr := (uw_HT ad_ht cA_ht (ad_rd 0) (ad_sp 0) (ad_mx 0) (ad_ar 0) (ad_tb 0) (ad_tc 0) u3.2 ++ (uw_Reader ad_rd cA_rd rd ++ (uw_Speller ad_sp cA_sp sp ++ (uw_Mixture ad_mx cA_mx mx ++ (uw_Surroundings ad_ar cA_ar ar ++ (uw_Table ad_tb cA_tb tb ++ (uw_Table ad_tc cA_tc tc ++ (uw_Out ad_ot cA_ot ot))))))))) (tysC := [(cA_md 1, .int), (cA_md 2, .int), (cA_md 3, .int), (cA_md 4, .int), (cA_md 5, .int), (cA_md 6, .int), (cA_md 7, .int), (cA_md 8, .int), (cA_md 9, .boolean), (cA_md 10, .int), (cA_md 11, .int), (cA_md 12, .int), (cA_md 13, .int)]) (wu := fun (u : Unit) => (uw_Model ad_md cA_md u6)) (wn := fun (u : Unit) => (uw_HT ad_ht cA_ht (ad_rd 0) (ad_sp 0) (ad_mx 0) (ad_ar 0) (ad_tb 0) (ad_tc 0) u3.2 ++ (uw_Reader ad_rd cA_rd rd ++ (uw_Speller ad_sp cA_sp sp ++ (uw_Mixture ad_mx cA_mx mx ++ (uw_Surroundings ad_ar cA_ar ar ++ (uw_Table ad_tb cA_tb tb ++ (uw_Table ad_tc cA_tc tc ++ (uw_Out ad_ot cA_ot ot ++ (uw_Model ad_md cA_md u6)))))))))) [28, 29, 30, 31, 32, 33, 34, 35, 36, 37, 38, 39, 40, 41] [0, 1, 2, 3, 4, 5, 6, 7, 8, 9, 10, 11, 12, 13, 14, 15, 16, 17, 18, 19, 20, 21, 22, 23, 24, 25, 26, 27] [0, 1, 2, 3, 4, 5, 6, 7, 8, 9, 10, 11, 12, 13, 14, 15, 16, 17, 18, 19, 20, 21, 22, 23, 24, 25, 26, 27, 28, 29, 30, 31, 32, 33, 34, 35, 36, 37, 38, 39, 40, 41] [21, 22, 23, 24, 25, 26, 27, 28, 29, 30, 31, 32, 33] hP hD hS hA hK rfl rfl (by decide +kernel) (by decide +kernel) (by decide +kernel) rfl (fun _ => rfl) (by decide +kernel) (fun hPc hKc hDc => (va_runV (As := []) (rest := []) ⟨hx, hb, hml, hown, hts⟩ (k_Model_thrown l dC dI ad_md cA_md H.size u6 u7 hu7) (cwV 0 hts (gV wd_839 wd_840 wd_841 wd_49 wd_842) rfl rfl rfl (by decide +kernel) ⟨Nat.le_of_ble_eq_true rfl, Nat.le_of_ble_eq_true rfl⟩) (cl_preV hPc hKc hDc hN (ci := 6) 0 rfl rfl) rfl rfl hl.1 rfl (lv_room (Nat.le_of_ble_eq_true rfl)) d_Law_law_1078 ⟨by show _ ≤ 1092; omega, by show _ ≤ 11944; omega⟩)) (fun r u H locs hw hP hD hS => ?_)
  have hw := hw.symm
  subst hw
  have hP : va_P (dC, dI) vwCl (uw_HT ad_ht cA_ht (ad_rd 0) (ad_sp 0) (ad_mx 0) (ad_ar 0) (ad_tb 0) (ad_tc 0) u3.2 ++ (uw_Reader ad_rd cA_rd rd ++ (uw_Speller ad_sp cA_sp sp ++ (uw_Mixture ad_mx cA_mx mx ++ (uw_Surroundings ad_ar cA_ar ar ++ (uw_Table ad_tb cA_tb tb ++ (uw_Table ad_tc cA_tc tc ++ (uw_Out ad_ot cA_ot ot ++ (uw_Model ad_md cA_md u6))))))))) H := hP
  have hD : va_D A (uw_HT ad_ht cA_ht (ad_rd 0) (ad_sp 0) (ad_mx 0) (ad_ar 0) (ad_tb 0) (ad_tc 0) u3.2 ++ (uw_Reader ad_rd cA_rd rd ++ (uw_Speller ad_sp cA_sp sp ++ (uw_Mixture ad_mx cA_mx mx ++ (uw_Surroundings ad_ar cA_ar ar ++ (uw_Table ad_tb cA_tb tb ++ (uw_Table ad_tc cA_tc tc ++ (uw_Out ad_ot cA_ot ot ++ (uw_Model ad_md cA_md u6))))))))) := hD
  refine lv_iload hx hb d_Law_law_1081 (lv_at hl 0 rfl) ?_
  refine lv_icmp_eq (tgt := 1088) hx hb d_Law_law_1083 (by decide) (fun hc8 => ?_) (fun hc8 => ?_)
  · have hf := hf_t hf hc8
    refine lv_goto (tgt := 1166) hx hb d_Law_law_1088 (by decide) ?_
    refine lv_iinc (v := y4 + (4 : Int32)) (lv' := [(4, .int (y4 + (4 : Int32))), (5, .int u3.1), (0, .ref b), (1, .ref (ad_ht 0)), (2, .ref (ad_md 0)), (3, .ref (ad_ot 1))]) hx hb d_Law_law_1166 hl (k := 5) rfl rfl (by decide) rfl (fun ls hl => ?_)
    refine lv_goto (tgt := 23) hx hb d_Law_law_1169 (by decide) ?_
    refine W.widen (k := cs + 1) (n := sl + 6) (by omega) (by omega) ?_
    exact hk ad_ht cA_ht ad_rd cA_rd ad_sp cA_sp ad_mx cA_mx ad_ar cA_ar ad_tb cA_tb ad_tc cA_tc ad_ot cA_ot ad_md cA_md u3.2 rd sp mx ar tb tc ot u6 (y4 + (4 : Int32)) H locs ls hf hK hP hD hS (lv_sub hl [2, 3, 4, 5, 0] rfl)
  · have hf := hf_f hf hc8
    refine lv_iconst (v := (0 : Int32)) hx hb d_Law_law_1086 (by decide) ?_
    have hrv : rv = false := (Option.some.inj hf).symm
    subst hrv
    refine va_forget (fun q hq => hA2 _ (hS.2.2 q hq)) ?_
    refine W.widen (k := 1092) (n := 11944) (by omega) (by omega) ?_
    exact lw_ret0b hx hb hr hlocks d_Law_law_1087
noncomputable def f_Law_case_1091 (L : Nat) (xs : Nat → Int32) (k : SHT → SReader → SSpeller → SMixture → SSurroundings → STable → STable → SOut → SModel → Int32 → Option Bool) (ht : SHT) (rd : SReader) (sp : SSpeller) (mx : SMixture) (ar : SSurroundings) (tb : STable) (tc : STable) (ot : SOut) (md : SModel) (y4 : Int32) : Option Bool :=
  (if inb (y4 + (1 : Int32)) L then
    (if inb (y4 + (2 : Int32)) L then
      (Option.bind (f_Law_over ht ot (xs (y4 + (1 : Int32)).toNatClampNeg) (xs (y4 + (2 : Int32)).toNatClampNeg)) fun u3 =>
        (if inb (y4 + (1 : Int32)) L then
          (if inb (y4 + (2 : Int32)) L then
            (Option.bind (f_Model_over md (xs (y4 + (1 : Int32)).toNatClampNeg) (xs (y4 + (2 : Int32)).toNatClampNeg)) fun u6 =>
              (Option.bind (f_Model_thrown u6.2) fun u7 =>
                (if u7 = u3.1 then
                  (if u3.1 = 0 then
                    (if inb (0 : Int32) 1 then
                      (if (bI u6.1) = 0 then
                        (if (lg_cmp (u3.2 (0 : Int32).toNatClampNeg) (0 : Int64)) = 0 then
                          (k ht rd sp mx ar tb tc u3.2 u6.2 (y4 + (4 : Int32)))
                         else
                          (some false)
                         )
                       else
                        (if (lg_cmp (u3.2 (0 : Int32).toNatClampNeg) (1 : Int64)) = 0 then
                          (k ht rd sp mx ar tb tc u3.2 u6.2 (y4 + (4 : Int32)))
                         else
                          (some false)
                         )
                       )
                     else none)
                   else
                    (k ht rd sp mx ar tb tc u3.2 u6.2 (y4 + (4 : Int32)))
                   )
                 else
                  (some false)
                 )
               )
             )
           else none)
         else none)
       )
     else none)
   else none)
set_option maxHeartbeats 4000000 in
set_option maxRecDepth 100000 in
theorem k_Law_case_1091 {rv : Bool} {p : Program} {l : Launch} {e : Env} {s : State} {m : MethodId} {below : List Frame} {meth : Method} {c : Code} {dC : Nat → ClassId} {dI : Nat → Nat → Nat} {b L : Nat} {xs : Nat → Int32} {A : Nat → Prop} (htr : l.stackTraces = false) (C0 : lw_At p s m meth c b L xs) (hN : nwAll s) (hX : xAll A s) (hnc : ncAll s) (hA : ∀ q : Nat, s.heap.size ≤ q → A q) (hA2 : ∀ q : Nat, A q → s.heap.size ≤ q) (cs sl : Nat) (hcs : cs + 1 ≤ 1092) (hsl : sl + 6 ≤ 11944) (k : SHT → SReader → SSpeller → SMixture → SSurroundings → STable → STable → SOut → SModel → Int32 → Option Bool) (hk : ∀ (ad_ht : Nat → Nat) (cA_ht : Nat → ClassId) (ad_rd : Nat → Nat) (cA_rd : Nat → ClassId) (ad_sp : Nat → Nat) (cA_sp : Nat → ClassId) (ad_mx : Nat → Nat) (cA_mx : Nat → ClassId) (ad_ar : Nat → Nat) (cA_ar : Nat → ClassId) (ad_tb : Nat → Nat) (cA_tb : Nat → ClassId) (ad_tc : Nat → Nat) (cA_tc : Nat → ClassId) (ad_ot : Nat → Nat) (cA_ot : Nat → ClassId) (ad_md : Nat → Nat) (cA_md : Nat → ClassId) (ht : SHT) (rd : SReader) (sp : SSpeller) (mx : SMixture) (ar : SSurroundings) (tb : STable) (tc : STable) (ot : SOut) (md : SModel) (y4 : Int32) (H : Heap) (locs : List Loc) (ls : Array Slot), k ht rd sp mx ar tb tc ot md y4 = some rv → va_K (dC, dI) vwCl [(cA_ht 1, .int), (cA_rd 1, .int), (cA_sp 1, .int), (cA_sp 2, .int), (cA_sp 3, .int), (cA_sp 4, .int), (cA_mx 1, .int), (cA_mx 2, .int), (cA_mx 3, .boolean), (cA_ar 1, .int), (cA_ar 2, .int), (cA_ar 3, .int), (cA_tb 1, .int), (cA_tb 2, .int), (cA_tb 3, .int), (cA_tb 4, .byte), (cA_tc 1, .int), (cA_tc 2, .int), (cA_tc 3, .int), (cA_tc 4, .byte), (cA_ot 1, .long), (cA_md 1, .int), (cA_md 2, .int), (cA_md 3, .int), (cA_md 4, .int), (cA_md 5, .int), (cA_md 6, .int), (cA_md 7, .int), (cA_md 8, .int), (cA_md 9, .boolean), (cA_md 10, .int), (cA_md 11, .int), (cA_md 12, .int), (cA_md 13, .int)] s → va_P (dC, dI) vwCl (uw_HT ad_ht cA_ht (ad_rd 0) (ad_sp 0) (ad_mx 0) (ad_ar 0) (ad_tb 0) (ad_tc 0) ht ++ (uw_Reader ad_rd cA_rd rd ++ (uw_Speller ad_sp cA_sp sp ++ (uw_Mixture ad_mx cA_mx mx ++ (uw_Surroundings ad_ar cA_ar ar ++ (uw_Table ad_tb cA_tb tb ++ (uw_Table ad_tc cA_tc tc ++ (uw_Out ad_ot cA_ot ot ++ (uw_Model ad_md cA_md md))))))))) H → va_D A (uw_HT ad_ht cA_ht (ad_rd 0) (ad_sp 0) (ad_mx 0) (ad_ar 0) (ad_tb 0) (ad_tc 0) ht ++ (uw_Reader ad_rd cA_rd rd ++ (uw_Speller ad_sp cA_sp sp ++ (uw_Mixture ad_mx cA_mx mx ++ (uw_Surroundings ad_ar cA_ar ar ++ (uw_Table ad_tb cA_tb tb ++ (uw_Table ad_tc cA_tc tc ++ (uw_Out ad_ot cA_ot ot ++ (uw_Model ad_md cA_md md))))))))) → va_S A s.heap H locs → lv_has ls 7 [(0, .ref b), (1, .ref (ad_ht 0)), (2, .ref (ad_md 0)), (3, .ref (ad_ot 1)), (4, .int y4)] → W p l e room_1 s m #[Value.ref b] below meth c H locs (cs + 1) (sl + 6) (lw_Zb rv below #[Value.ref b] s) (F0 m 23 ls [])) : ∀ (ad_ht : Nat → Nat) (cA_ht : Nat → ClassId) (ad_rd : Nat → Nat) (cA_rd : Nat → ClassId) (ad_sp : Nat → Nat) (cA_sp : Nat → ClassId) (ad_mx : Nat → Nat) (cA_mx : Nat → ClassId) (ad_ar : Nat → Nat) (cA_ar : Nat → ClassId) (ad_tb : Nat → Nat) (cA_tb : Nat → ClassId) (ad_tc : Nat → Nat) (cA_tc : Nat → ClassId) (ad_ot : Nat → Nat) (cA_ot : Nat → ClassId) (ad_md : Nat → Nat) (cA_md : Nat → ClassId) (ht : SHT) (rd : SReader) (sp : SSpeller) (mx : SMixture) (ar : SSurroundings) (tb : STable) (tc : STable) (ot : SOut) (md : SModel) (y4 : Int32) (H : Heap) (locs : List Loc) (ls : Array Slot), f_Law_case_1091 L xs k ht rd sp mx ar tb tc ot md y4 = some rv → va_K (dC, dI) vwCl [(cA_ht 1, .int), (cA_rd 1, .int), (cA_sp 1, .int), (cA_sp 2, .int), (cA_sp 3, .int), (cA_sp 4, .int), (cA_mx 1, .int), (cA_mx 2, .int), (cA_mx 3, .boolean), (cA_ar 1, .int), (cA_ar 2, .int), (cA_ar 3, .int), (cA_tb 1, .int), (cA_tb 2, .int), (cA_tb 3, .int), (cA_tb 4, .byte), (cA_tc 1, .int), (cA_tc 2, .int), (cA_tc 3, .int), (cA_tc 4, .byte), (cA_ot 1, .long), (cA_md 1, .int), (cA_md 2, .int), (cA_md 3, .int), (cA_md 4, .int), (cA_md 5, .int), (cA_md 6, .int), (cA_md 7, .int), (cA_md 8, .int), (cA_md 9, .boolean), (cA_md 10, .int), (cA_md 11, .int), (cA_md 12, .int), (cA_md 13, .int)] s → va_P (dC, dI) vwCl (uw_HT ad_ht cA_ht (ad_rd 0) (ad_sp 0) (ad_mx 0) (ad_ar 0) (ad_tb 0) (ad_tc 0) ht ++ (uw_Reader ad_rd cA_rd rd ++ (uw_Speller ad_sp cA_sp sp ++ (uw_Mixture ad_mx cA_mx mx ++ (uw_Surroundings ad_ar cA_ar ar ++ (uw_Table ad_tb cA_tb tb ++ (uw_Table ad_tc cA_tc tc ++ (uw_Out ad_ot cA_ot ot ++ (uw_Model ad_md cA_md md))))))))) H → va_D A (uw_HT ad_ht cA_ht (ad_rd 0) (ad_sp 0) (ad_mx 0) (ad_ar 0) (ad_tb 0) (ad_tc 0) ht ++ (uw_Reader ad_rd cA_rd rd ++ (uw_Speller ad_sp cA_sp sp ++ (uw_Mixture ad_mx cA_mx mx ++ (uw_Surroundings ad_ar cA_ar ar ++ (uw_Table ad_tb cA_tb tb ++ (uw_Table ad_tc cA_tc tc ++ (uw_Out ad_ot cA_ot ot ++ (uw_Model ad_md cA_md md))))))))) → va_S A s.heap H locs → lv_has ls 7 [(0, .ref b), (1, .ref (ad_ht 0)), (2, .ref (ad_md 0)), (3, .ref (ad_ot 1)), (4, .int y4)] → W p l e room_1 s m #[Value.ref b] below meth c H locs cs sl (lw_Zb rv below #[Value.ref b] s) (F0 m 1091 ls []) := by
  obtain ⟨hx, hb, hr, hml, hown, hts0, hX0, hbl, hlocks, hgv⟩ := C0
  have hown : s.vm.findClass "HazardTablesLaw" = some m.cls := hown
  have hts : ∀ w ∈ (Cond.initialized "HazardTables" :: WA), w.before #[Value.ref b] s = true := fun w h => hts0 w ((List.mem_cons.mp h).elim (fun e => by rw [e]; exact (List.mem_filter.mp wd_43).1) (fun h => (List.mem_filter.mp h).1))
  have hbA : ¬ A b := fun h => absurd (hA2 b h) (Nat.not_le.mpr hbl)
  intro ad_ht cA_ht ad_rd cA_rd ad_sp cA_sp ad_mx cA_mx ad_ar cA_ar ad_tb cA_tb ad_tc cA_tc ad_ot cA_ot ad_md cA_md ht rd sp mx ar tb tc ot md y4 H locs ls hf hK hP hD hS hl
  unfold f_Law_case_1091 at hf
  refine lv_aload_n hx hb d_Law_law_1091 rfl (lv_at hl 1 rfl) ?_
  refine lv_aload_n hx hb d_Law_law_1092 rfl (lv_at hl 0 rfl) ?_
  refine lv_iload hx hb d_Law_law_1093 (lv_at hl 4 rfl) ?_
  refine lv_iconst (v := (1 : Int32)) hx hb d_Law_law_1095 (by decide) ?_
  refine lv_iadd hx hb d_Law_law_1096 ?_
  obtain ⟨hi1, hf⟩ := hf_g hf
  refine va_sld hx hb hX0 hbl hbA hS hi1 d_Law_law_1097 ?_
  refine lv_aload_n hx hb d_Law_law_1098 rfl (lv_at hl 0 rfl) ?_
  refine lv_iload hx hb d_Law_law_1099 (lv_at hl 4 rfl) ?_
  refine lv_iconst (v := (2 : Int32)) hx hb d_Law_law_1101 (by decide) ?_
  refine lv_iadd hx hb d_Law_law_1102 ?_
  obtain ⟨hi2, hf⟩ := hf_g hf
  refine va_sld hx hb hX0 hbl hbA hS hi2 d_Law_law_1103 ?_
  refine lv_aload_n hx hb d_Law_law_1104 rfl (lv_at hl 3 rfl) ?_
  obtain ⟨u3, hu3, hf⟩ := Option.bind_eq_some_iff.mp hf
  refine cl_i (wc := (uw_HT ad_ht cA_ht (ad_rd 0) (ad_sp 0) (ad_mx 0) (ad_ar 0) (ad_tb 0) (ad_tc 0) ht ++ (uw_Out ad_ot cA_ot ot))) (wr := (uw_Reader ad_rd cA_rd rd ++ (uw_Speller ad_sp cA_sp sp ++ (uw_Mixture ad_mx cA_mx mx ++ (uw_Surroundings ad_ar cA_ar ar ++ (uw_Table ad_tb cA_tb tb ++ (uw_Table ad_tc cA_tc tc ++ (uw_Model ad_md cA_md md)))))))) (tysC := [(cA_ht 1, .int), (cA_ot 1, .long)]) (wu := fun (u : SOut) => (uw_HT ad_ht cA_ht (ad_rd 0) (ad_sp 0) (ad_mx 0) (ad_ar 0) (ad_tb 0) (ad_tc 0) ht ++ (uw_Out ad_ot cA_ot u))) (wn := fun (u : SOut) => (uw_HT ad_ht cA_ht (ad_rd 0) (ad_sp 0) (ad_mx 0) (ad_ar 0) (ad_tb 0) (ad_tc 0) ht ++ (uw_Reader ad_rd cA_rd rd ++ (uw_Speller ad_sp cA_sp sp ++ (uw_Mixture ad_mx cA_mx mx ++ (uw_Surroundings ad_ar cA_ar ar ++ (uw_Table ad_tb cA_tb tb ++ (uw_Table ad_tc cA_tc tc ++ (uw_Out ad_ot cA_ot u ++ (uw_Model ad_md cA_md md)))))))))) [0, 1, 27] [2, 3, 4, 5, 6, 7, 8, 9, 10, 11, 12, 13, 14, 15, 16, 17, 18, 19, 20, 21, 22, 23, 24, 25, 26, 28, 29, 30, 31, 32, 33, 34, 35, 36, 37, 38, 39, 40, 41] [39, 40, 0, 1, 2, 3, 4, 5, 6, 7, 8, 9, 10, 11, 12, 13, 14, 15, 16, 17, 18, 19, 20, 21, 22, 23, 24, 41, 25, 26, 27, 28, 29, 30, 31, 32, 33, 34, 35, 36, 37, 38] [0, 20] hP hD hS hA hK rfl rfl (by decide +kernel) (by decide +kernel) (by decide +kernel) rfl (fun _ => rfl) (by decide +kernel) (fun hPc hKc hDc => (vx_runSW (As := [.ref (ad_ht 0), .int (xs (y4 + (1 : Int32)).toNatClampNeg), .int (xs (y4 + (2 : Int32)).toNatClampNeg), .ref (ad_ot 1)]) (rest := []) ⟨hx, hb, hml, hown, hts⟩ (k_Law_over l dC dI ad_ht cA_ht ad_ot cA_ot ad_rd cA_rd ad_sp cA_sp ad_mx cA_mx ad_ar cA_ar ad_tb cA_tb ad_tc cA_tc H.size ht ot (xs (y4 + (1 : Int32)).toNatClampNeg) (xs (y4 + (2 : Int32)).toNatClampNeg) u3 hu3 htr) (vx_cwSW 4 hts (gSW wd_735 wd_736 wd_42 wd_737) rfl rfl rfl (by decide +kernel) ⟨Nat.le_of_ble_eq_true rfl, Nat.le_of_ble_eq_true rfl⟩) (cx_preL hPc hKc hDc hN (fun U hU hW => xAll_at hX hS (va_free hD hS hA [0, 1, 27] rfl) hU hW) hnc) rfl rfl hl.1 rfl (lv_room (Nat.le_of_ble_eq_true rfl)) d_Law_law_1105 ⟨by show _ ≤ 1092; omega, by show _ ≤ 11944; omega⟩)) (fun r u H locs hw hP hD hS => ?_)
  obtain ⟨hw1, hw2⟩ := hw
  have hw1 := hw1.symm
  have hw2 := hw2.symm
  subst hw1
  subst hw2
  have hP : va_P (dC, dI) vwCl (uw_HT ad_ht cA_ht (ad_rd 0) (ad_sp 0) (ad_mx 0) (ad_ar 0) (ad_tb 0) (ad_tc 0) ht ++ (uw_Reader ad_rd cA_rd rd ++ (uw_Speller ad_sp cA_sp sp ++ (uw_Mixture ad_mx cA_mx mx ++ (uw_Surroundings ad_ar cA_ar ar ++ (uw_Table ad_tb cA_tb tb ++ (uw_Table ad_tc cA_tc tc ++ (uw_Out ad_ot cA_ot u3.2 ++ (uw_Model ad_md cA_md md))))))))) H := hP
  have hD : va_D A (uw_HT ad_ht cA_ht (ad_rd 0) (ad_sp 0) (ad_mx 0) (ad_ar 0) (ad_tb 0) (ad_tc 0) ht ++ (uw_Reader ad_rd cA_rd rd ++ (uw_Speller ad_sp cA_sp sp ++ (uw_Mixture ad_mx cA_mx mx ++ (uw_Surroundings ad_ar cA_ar ar ++ (uw_Table ad_tb cA_tb tb ++ (uw_Table ad_tc cA_tc tc ++ (uw_Out ad_ot cA_ot u3.2 ++ (uw_Model ad_md cA_md md))))))))) := hD
  refine lv_istore (lv' := [(5, .int u3.1), (0, .ref b), (1, .ref (ad_ht 0)), (2, .ref (ad_md 0)), (3, .ref (ad_ot 1)), (4, .int y4)]) hx hb d_Law_law_1108 hl (by decide) rfl (fun ls hl => ?_)
  refine lv_aload_n hx hb d_Law_law_1110 rfl (lv_at hl 3 rfl) ?_
  refine lv_aload_n hx hb d_Law_law_1111 rfl (lv_at hl 1 rfl) ?_
  refine lv_iload hx hb d_Law_law_1112 (lv_at hl 5 rfl) ?_
  refine lv_iconst (v := (1 : Int32)) hx hb d_Law_law_1114 (by decide) ?_
  refine lv_iadd hx hb d_Law_law_1115 ?_
  obtain ⟨hi4, hf⟩ := hf_g hf
  refine va_sld hx hb hX0 hbl hbA hS hi4 d_Law_law_1116 ?_
  refine lv_aload_n hx hb d_Law_law_1117 rfl (lv_at hl 1 rfl) ?_
  refine lv_iload hx hb d_Law_law_1118 (lv_at hl 5 rfl) ?_
  refine lv_iconst (v := (2 : Int32)) hx hb d_Law_law_1120 (by decide) ?_
  refine lv_iadd hx hb d_Law_law_1121 ?_
  obtain ⟨hi5, hf⟩ := hf_g hf
  refine va_sld hx hb hX0 hbl hbA hS hi5 d_Law_law_1122 ?_
  obtain ⟨u6, hu6, hf⟩ := Option.bind_eq_some_iff.mp hf
  refine cl_i (wc := (uw_Model ad_md cA_md md)) (wr := (uw_HT ad_ht cA_ht (ad_rd 0) (ad_sp 0) (ad_mx 0) (ad_ar 0) (ad_tb 0) (ad_tc 0) ht ++ (uw_Reader ad_rd cA_rd rd ++ (uw_Speller ad_sp cA_sp sp ++ (uw_Mixture ad_mx cA_mx mx ++ (uw_Surroundings ad_ar cA_ar ar ++ (uw_Table ad_tb cA_tb tb ++ (uw_Table ad_tc cA_tc tc ++ (uw_Out ad_ot cA_ot u3.2))))))))) (tysC := [(cA_md 1, .int), (cA_md 2, .int), (cA_md 3, .int), (cA_md 4, .int), (cA_md 5, .int), (cA_md 6, .int), (cA_md 7, .int), (cA_md 8, .int), (cA_md 9, .boolean), (cA_md 10, .int), (cA_md 11, .int), (cA_md 12, .int), (cA_md 13, .int)]) (wu := fun (u : SModel) => (uw_Model ad_md cA_md u)) (wn := fun (u : SModel) => (uw_HT ad_ht cA_ht (ad_rd 0) (ad_sp 0) (ad_mx 0) (ad_ar 0) (ad_tb 0) (ad_tc 0) ht ++ (uw_Reader ad_rd cA_rd rd ++ (uw_Speller ad_sp cA_sp sp ++ (uw_Mixture ad_mx cA_mx mx ++ (uw_Surroundings ad_ar cA_ar ar ++ (uw_Table ad_tb cA_tb tb ++ (uw_Table ad_tc cA_tc tc ++ (uw_Out ad_ot cA_ot u3.2 ++ (uw_Model ad_md cA_md u)))))))))) [28, 29, 30, 31, 32, 33, 34, 35, 36, 37, 38, 39, 40, 41] [0, 1, 2, 3, 4, 5, 6, 7, 8, 9, 10, 11, 12, 13, 14, 15, 16, 17, 18, 19, 20, 21, 22, 23, 24, 25, 26, 27] [0, 1, 2, 3, 4, 5, 6, 7, 8, 9, 10, 11, 12, 13, 14, 15, 16, 17, 18, 19, 20, 21, 22, 23, 24, 25, 26, 27, 28, 29, 30, 31, 32, 33, 34, 35, 36, 37, 38, 39, 40, 41] [21, 22, 23, 24, 25, 26, 27, 28, 29, 30, 31, 32, 33] hP hD hS hA hK rfl rfl (by decide +kernel) (by decide +kernel) (by decide +kernel) rfl (fun _ => rfl) (by decide +kernel) (fun hPc hKc hDc => (va_runV (As := [.int (xs (y4 + (1 : Int32)).toNatClampNeg), .int (xs (y4 + (2 : Int32)).toNatClampNeg)]) (rest := []) ⟨hx, hb, hml, hown, hts⟩ (k_Model_over l dC dI ad_md cA_md H.size md (xs (y4 + (1 : Int32)).toNatClampNeg) (xs (y4 + (2 : Int32)).toNatClampNeg) u6 hu6) (cwV 2 hts (gV wd_999 wd_1000 wd_1001 wd_49 wd_1002) rfl rfl rfl (by decide +kernel) ⟨Nat.le_of_ble_eq_true rfl, Nat.le_of_ble_eq_true rfl⟩) (cl_preV hPc hKc hDc hN (ci := 6) 0 rfl rfl) rfl rfl hl.1 rfl (lv_room (Nat.le_of_ble_eq_true rfl)) d_Law_law_1123 ⟨by show _ ≤ 1092; omega, by show _ ≤ 11944; omega⟩)) (fun r u H locs hw hP hD hS => ?_)
  obtain ⟨hw1, hw2⟩ := hw
  have hw1 := hw1.symm
  have hw2 := hw2.symm
  subst hw1
  subst hw2
  have hP : va_P (dC, dI) vwCl (uw_HT ad_ht cA_ht (ad_rd 0) (ad_sp 0) (ad_mx 0) (ad_ar 0) (ad_tb 0) (ad_tc 0) ht ++ (uw_Reader ad_rd cA_rd rd ++ (uw_Speller ad_sp cA_sp sp ++ (uw_Mixture ad_mx cA_mx mx ++ (uw_Surroundings ad_ar cA_ar ar ++ (uw_Table ad_tb cA_tb tb ++ (uw_Table ad_tc cA_tc tc ++ (uw_Out ad_ot cA_ot u3.2 ++ (uw_Model ad_md cA_md u6.2))))))))) H := hP
  have hD : va_D A (uw_HT ad_ht cA_ht (ad_rd 0) (ad_sp 0) (ad_mx 0) (ad_ar 0) (ad_tb 0) (ad_tc 0) ht ++ (uw_Reader ad_rd cA_rd rd ++ (uw_Speller ad_sp cA_sp sp ++ (uw_Mixture ad_mx cA_mx mx ++ (uw_Surroundings ad_ar cA_ar ar ++ (uw_Table ad_tb cA_tb tb ++ (uw_Table ad_tc cA_tc tc ++ (uw_Out ad_ot cA_ot u3.2 ++ (uw_Model ad_md cA_md u6.2))))))))) := hD
  refine lv_istore (lv' := [(6, .int (bI u6.1)), (5, .int u3.1), (0, .ref b), (1, .ref (ad_ht 0)), (2, .ref (ad_md 0)), (3, .ref (ad_ot 1)), (4, .int y4)]) hx hb d_Law_law_1126 hl (by decide) rfl (fun ls hl => ?_)
  refine lv_aload_n hx hb d_Law_law_1128 rfl (lv_at hl 4 rfl) ?_
  obtain ⟨u7, hu7, hf⟩ := Option.bind_eq_some_iff.mp hf
  refine cl_i (wc := (uw_Model ad_md cA_md u6.2)) (wr := (uw_HT ad_ht cA_ht (ad_rd 0) (ad_sp 0) (ad_mx 0) (ad_ar 0) (ad_tb 0) (ad_tc 0) ht ++ (uw_Reader ad_rd cA_rd rd ++ (uw_Speller ad_sp cA_sp sp ++ (uw_Mixture ad_mx cA_mx mx ++ (uw_Surroundings ad_ar cA_ar ar ++ (uw_Table ad_tb cA_tb tb ++ (uw_Table ad_tc cA_tc tc ++ (uw_Out ad_ot cA_ot u3.2))))))))) (tysC := [(cA_md 1, .int), (cA_md 2, .int), (cA_md 3, .int), (cA_md 4, .int), (cA_md 5, .int), (cA_md 6, .int), (cA_md 7, .int), (cA_md 8, .int), (cA_md 9, .boolean), (cA_md 10, .int), (cA_md 11, .int), (cA_md 12, .int), (cA_md 13, .int)]) (wu := fun (u : Unit) => (uw_Model ad_md cA_md u6.2)) (wn := fun (u : Unit) => (uw_HT ad_ht cA_ht (ad_rd 0) (ad_sp 0) (ad_mx 0) (ad_ar 0) (ad_tb 0) (ad_tc 0) ht ++ (uw_Reader ad_rd cA_rd rd ++ (uw_Speller ad_sp cA_sp sp ++ (uw_Mixture ad_mx cA_mx mx ++ (uw_Surroundings ad_ar cA_ar ar ++ (uw_Table ad_tb cA_tb tb ++ (uw_Table ad_tc cA_tc tc ++ (uw_Out ad_ot cA_ot u3.2 ++ (uw_Model ad_md cA_md u6.2)))))))))) [28, 29, 30, 31, 32, 33, 34, 35, 36, 37, 38, 39, 40, 41] [0, 1, 2, 3, 4, 5, 6, 7, 8, 9, 10, 11, 12, 13, 14, 15, 16, 17, 18, 19, 20, 21, 22, 23, 24, 25, 26, 27] [0, 1, 2, 3, 4, 5, 6, 7, 8, 9, 10, 11, 12, 13, 14, 15, 16, 17, 18, 19, 20, 21, 22, 23, 24, 25, 26, 27, 28, 29, 30, 31, 32, 33, 34, 35, 36, 37, 38, 39, 40, 41] [21, 22, 23, 24, 25, 26, 27, 28, 29, 30, 31, 32, 33] hP hD hS hA hK rfl rfl (by decide +kernel) (by decide +kernel) (by decide +kernel) rfl (fun _ => rfl) (by decide +kernel) (fun hPc hKc hDc => (va_runV (As := []) (rest := []) ⟨hx, hb, hml, hown, hts⟩ (k_Model_thrown l dC dI ad_md cA_md H.size u6.2 u7 hu7) (cwV 0 hts (gV wd_839 wd_840 wd_841 wd_49 wd_842) rfl rfl rfl (by decide +kernel) ⟨Nat.le_of_ble_eq_true rfl, Nat.le_of_ble_eq_true rfl⟩) (cl_preV hPc hKc hDc hN (ci := 6) 0 rfl rfl) rfl rfl hl.1 rfl (lv_room (Nat.le_of_ble_eq_true rfl)) d_Law_law_1129 ⟨by show _ ≤ 1092; omega, by show _ ≤ 11944; omega⟩)) (fun r u H locs hw hP hD hS => ?_)
  have hw := hw.symm
  subst hw
  have hP : va_P (dC, dI) vwCl (uw_HT ad_ht cA_ht (ad_rd 0) (ad_sp 0) (ad_mx 0) (ad_ar 0) (ad_tb 0) (ad_tc 0) ht ++ (uw_Reader ad_rd cA_rd rd ++ (uw_Speller ad_sp cA_sp sp ++ (uw_Mixture ad_mx cA_mx mx ++ (uw_Surroundings ad_ar cA_ar ar ++ (uw_Table ad_tb cA_tb tb ++ (uw_Table ad_tc cA_tc tc ++ (uw_Out ad_ot cA_ot u3.2 ++ (uw_Model ad_md cA_md u6.2))))))))) H := hP
  have hD : va_D A (uw_HT ad_ht cA_ht (ad_rd 0) (ad_sp 0) (ad_mx 0) (ad_ar 0) (ad_tb 0) (ad_tc 0) ht ++ (uw_Reader ad_rd cA_rd rd ++ (uw_Speller ad_sp cA_sp sp ++ (uw_Mixture ad_mx cA_mx mx ++ (uw_Surroundings ad_ar cA_ar ar ++ (uw_Table ad_tb cA_tb tb ++ (uw_Table ad_tc cA_tc tc ++ (uw_Out ad_ot cA_ot u3.2 ++ (uw_Model ad_md cA_md u6.2))))))))) := hD
  refine lv_iload hx hb d_Law_law_1132 (lv_at hl 1 rfl) ?_
  refine lv_icmp_eq (tgt := 1139) hx hb d_Law_law_1134 (by decide) (fun hc8 => ?_) (fun hc8 => ?_)
  · have hf := hf_t hf hc8
    refine lv_iload hx hb d_Law_law_1139 (lv_at hl 1 rfl) ?_
    refine lv_if_ne (tgt := 1163) hx hb d_Law_law_1141 (by decide) (fun hc9 => ?_) (fun hc9 => ?_)
    · have hf := hf_f hf hc9
      refine lv_goto (tgt := 1166) hx hb d_Law_law_1163 (by decide) ?_
      refine lv_iinc (v := y4 + (4 : Int32)) (lv' := [(4, .int (y4 + (4 : Int32))), (6, .int (bI u6.1)), (5, .int u3.1), (0, .ref b), (1, .ref (ad_ht 0)), (2, .ref (ad_md 0)), (3, .ref (ad_ot 1))]) hx hb d_Law_law_1166 hl (k := 6) rfl rfl (by decide) rfl (fun ls hl => ?_)
      refine lv_goto (tgt := 23) hx hb d_Law_law_1169 (by decide) ?_
      refine W.widen (k := cs + 1) (n := sl + 6) (by omega) (by omega) ?_
      exact hk ad_ht cA_ht ad_rd cA_rd ad_sp cA_sp ad_mx cA_mx ad_ar cA_ar ad_tb cA_tb ad_tc cA_tc ad_ot cA_ot ad_md cA_md ht rd sp mx ar tb tc u3.2 u6.2 (y4 + (4 : Int32)) H locs ls hf hK hP hD hS (lv_sub hl [3, 4, 5, 6, 0] rfl)
    · have hf := hf_t hf hc9
      refine lv_aload_n hx hb d_Law_law_1144 rfl (lv_at hl 5 rfl) ?_
      refine lv_iconst (v := (0 : Int32)) hx hb d_Law_law_1145 (by decide) ?_
      obtain ⟨hi10, hf⟩ := hf_g hf
      refine va_lald hx hb hK hP 27 20 rfl rfl hi10 d_Law_law_1146 ?_
      refine lv_iload hx hb d_Law_law_1147 (lv_at hl 0 rfl) ?_
      refine lv_if_eq (tgt := 1156) hx hb d_Law_law_1149 (by decide) (fun hc11 => ?_) (fun hc11 => ?_)
      · have hf := hf_t hf hc11
        refine lv_lconst (v := (0 : Int64)) hx hb d_Law_law_1156 (by decide) ?_
        refine W.lcmp hx hb d_Law_law_1157 ?_
        refine lv_if_eq (tgt := 1163) hx hb d_Law_law_1158 (by decide) (fun hc12 => ?_) (fun hc12 => ?_)
        · have hf := hf_t hf hc12
          refine lv_goto (tgt := 1166) hx hb d_Law_law_1163 (by decide) ?_
          refine lv_iinc (v := y4 + (4 : Int32)) (lv' := [(4, .int (y4 + (4 : Int32))), (6, .int (bI u6.1)), (5, .int u3.1), (0, .ref b), (1, .ref (ad_ht 0)), (2, .ref (ad_md 0)), (3, .ref (ad_ot 1))]) hx hb d_Law_law_1166 hl (k := 6) rfl rfl (by decide) rfl (fun ls hl => ?_)
          refine lv_goto (tgt := 23) hx hb d_Law_law_1169 (by decide) ?_
          refine W.widen (k := cs + 1) (n := sl + 6) (by omega) (by omega) ?_
          exact hk ad_ht cA_ht ad_rd cA_rd ad_sp cA_sp ad_mx cA_mx ad_ar cA_ar ad_tb cA_tb ad_tc cA_tc ad_ot cA_ot ad_md cA_md ht rd sp mx ar tb tc u3.2 u6.2 (y4 + (4 : Int32)) H locs ls hf hK hP hD hS (lv_sub hl [3, 4, 5, 6, 0] rfl)
        · have hf := hf_f hf hc12
          refine lv_iconst (v := (0 : Int32)) hx hb d_Law_law_1161 (by decide) ?_
          have hrv : rv = false := (Option.some.inj hf).symm
          subst hrv
          refine va_forget (fun q hq => hA2 _ (hS.2.2 q hq)) ?_
          refine W.widen (k := 1092) (n := 11944) (by omega) (by omega) ?_
          exact lw_ret0b hx hb hr hlocks d_Law_law_1162
      · have hf := hf_f hf hc11
        refine lv_lconst (v := (1 : Int64)) hx hb d_Law_law_1152 (by decide) ?_
        refine lv_goto (tgt := 1157) hx hb d_Law_law_1153 (by decide) ?_
        refine W.lcmp hx hb d_Law_law_1157 ?_
        refine lv_if_eq (tgt := 1163) hx hb d_Law_law_1158 (by decide) (fun hc13 => ?_) (fun hc13 => ?_)
        · have hf := hf_t hf hc13
          refine lv_goto (tgt := 1166) hx hb d_Law_law_1163 (by decide) ?_
          refine lv_iinc (v := y4 + (4 : Int32)) (lv' := [(4, .int (y4 + (4 : Int32))), (6, .int (bI u6.1)), (5, .int u3.1), (0, .ref b), (1, .ref (ad_ht 0)), (2, .ref (ad_md 0)), (3, .ref (ad_ot 1))]) hx hb d_Law_law_1166 hl (k := 6) rfl rfl (by decide) rfl (fun ls hl => ?_)
          refine lv_goto (tgt := 23) hx hb d_Law_law_1169 (by decide) ?_
          refine W.widen (k := cs + 1) (n := sl + 6) (by omega) (by omega) ?_
          exact hk ad_ht cA_ht ad_rd cA_rd ad_sp cA_sp ad_mx cA_mx ad_ar cA_ar ad_tb cA_tb ad_tc cA_tc ad_ot cA_ot ad_md cA_md ht rd sp mx ar tb tc u3.2 u6.2 (y4 + (4 : Int32)) H locs ls hf hK hP hD hS (lv_sub hl [3, 4, 5, 6, 0] rfl)
        · have hf := hf_f hf hc13
          refine lv_iconst (v := (0 : Int32)) hx hb d_Law_law_1161 (by decide) ?_
          have hrv : rv = false := (Option.some.inj hf).symm
          subst hrv
          refine va_forget (fun q hq => hA2 _ (hS.2.2 q hq)) ?_
          refine W.widen (k := 1092) (n := 11944) (by omega) (by omega) ?_
          exact lw_ret0b hx hb hr hlocks d_Law_law_1162
  · have hf := hf_f hf hc8
    refine lv_iconst (v := (0 : Int32)) hx hb d_Law_law_1137 (by decide) ?_
    have hrv : rv = false := (Option.some.inj hf).symm
    subst hrv
    refine va_forget (fun q hq => hA2 _ (hS.2.2 q hq)) ?_
    refine W.widen (k := 1092) (n := 11944) (by omega) (by omega) ?_
    exact lw_ret0b hx hb hr hlocks d_Law_law_1138
noncomputable def f_Law_case_1166 (L : Nat) (xs : Nat → Int32) (k : SHT → SReader → SSpeller → SMixture → SSurroundings → STable → STable → SOut → SModel → Int32 → Option Bool) (ht : SHT) (rd : SReader) (sp : SSpeller) (mx : SMixture) (ar : SSurroundings) (tb : STable) (tc : STable) (ot : SOut) (md : SModel) (y4 : Int32) : Option Bool :=
  (k ht rd sp mx ar tb tc ot md (y4 + (4 : Int32)))
set_option maxHeartbeats 4000000 in
set_option maxRecDepth 100000 in
theorem k_Law_case_1166 {rv : Bool} {p : Program} {l : Launch} {e : Env} {s : State} {m : MethodId} {below : List Frame} {meth : Method} {c : Code} {dC : Nat → ClassId} {dI : Nat → Nat → Nat} {b L : Nat} {xs : Nat → Int32} {A : Nat → Prop} (htr : l.stackTraces = false) (C0 : lw_At p s m meth c b L xs) (hN : nwAll s) (hX : xAll A s) (hnc : ncAll s) (hA : ∀ q : Nat, s.heap.size ≤ q → A q) (hA2 : ∀ q : Nat, A q → s.heap.size ≤ q) (cs sl : Nat) (hcs : cs + 1 ≤ 1092) (hsl : sl + 6 ≤ 11944) (k : SHT → SReader → SSpeller → SMixture → SSurroundings → STable → STable → SOut → SModel → Int32 → Option Bool) (hk : ∀ (ad_ht : Nat → Nat) (cA_ht : Nat → ClassId) (ad_rd : Nat → Nat) (cA_rd : Nat → ClassId) (ad_sp : Nat → Nat) (cA_sp : Nat → ClassId) (ad_mx : Nat → Nat) (cA_mx : Nat → ClassId) (ad_ar : Nat → Nat) (cA_ar : Nat → ClassId) (ad_tb : Nat → Nat) (cA_tb : Nat → ClassId) (ad_tc : Nat → Nat) (cA_tc : Nat → ClassId) (ad_ot : Nat → Nat) (cA_ot : Nat → ClassId) (ad_md : Nat → Nat) (cA_md : Nat → ClassId) (ht : SHT) (rd : SReader) (sp : SSpeller) (mx : SMixture) (ar : SSurroundings) (tb : STable) (tc : STable) (ot : SOut) (md : SModel) (y4 : Int32) (H : Heap) (locs : List Loc) (ls : Array Slot), k ht rd sp mx ar tb tc ot md y4 = some rv → va_K (dC, dI) vwCl [(cA_ht 1, .int), (cA_rd 1, .int), (cA_sp 1, .int), (cA_sp 2, .int), (cA_sp 3, .int), (cA_sp 4, .int), (cA_mx 1, .int), (cA_mx 2, .int), (cA_mx 3, .boolean), (cA_ar 1, .int), (cA_ar 2, .int), (cA_ar 3, .int), (cA_tb 1, .int), (cA_tb 2, .int), (cA_tb 3, .int), (cA_tb 4, .byte), (cA_tc 1, .int), (cA_tc 2, .int), (cA_tc 3, .int), (cA_tc 4, .byte), (cA_ot 1, .long), (cA_md 1, .int), (cA_md 2, .int), (cA_md 3, .int), (cA_md 4, .int), (cA_md 5, .int), (cA_md 6, .int), (cA_md 7, .int), (cA_md 8, .int), (cA_md 9, .boolean), (cA_md 10, .int), (cA_md 11, .int), (cA_md 12, .int), (cA_md 13, .int)] s → va_P (dC, dI) vwCl (uw_HT ad_ht cA_ht (ad_rd 0) (ad_sp 0) (ad_mx 0) (ad_ar 0) (ad_tb 0) (ad_tc 0) ht ++ (uw_Reader ad_rd cA_rd rd ++ (uw_Speller ad_sp cA_sp sp ++ (uw_Mixture ad_mx cA_mx mx ++ (uw_Surroundings ad_ar cA_ar ar ++ (uw_Table ad_tb cA_tb tb ++ (uw_Table ad_tc cA_tc tc ++ (uw_Out ad_ot cA_ot ot ++ (uw_Model ad_md cA_md md))))))))) H → va_D A (uw_HT ad_ht cA_ht (ad_rd 0) (ad_sp 0) (ad_mx 0) (ad_ar 0) (ad_tb 0) (ad_tc 0) ht ++ (uw_Reader ad_rd cA_rd rd ++ (uw_Speller ad_sp cA_sp sp ++ (uw_Mixture ad_mx cA_mx mx ++ (uw_Surroundings ad_ar cA_ar ar ++ (uw_Table ad_tb cA_tb tb ++ (uw_Table ad_tc cA_tc tc ++ (uw_Out ad_ot cA_ot ot ++ (uw_Model ad_md cA_md md))))))))) → va_S A s.heap H locs → lv_has ls 7 [(0, .ref b), (1, .ref (ad_ht 0)), (2, .ref (ad_md 0)), (3, .ref (ad_ot 1)), (4, .int y4)] → W p l e room_1 s m #[Value.ref b] below meth c H locs (cs + 1) (sl + 6) (lw_Zb rv below #[Value.ref b] s) (F0 m 23 ls [])) : ∀ (ad_ht : Nat → Nat) (cA_ht : Nat → ClassId) (ad_rd : Nat → Nat) (cA_rd : Nat → ClassId) (ad_sp : Nat → Nat) (cA_sp : Nat → ClassId) (ad_mx : Nat → Nat) (cA_mx : Nat → ClassId) (ad_ar : Nat → Nat) (cA_ar : Nat → ClassId) (ad_tb : Nat → Nat) (cA_tb : Nat → ClassId) (ad_tc : Nat → Nat) (cA_tc : Nat → ClassId) (ad_ot : Nat → Nat) (cA_ot : Nat → ClassId) (ad_md : Nat → Nat) (cA_md : Nat → ClassId) (ht : SHT) (rd : SReader) (sp : SSpeller) (mx : SMixture) (ar : SSurroundings) (tb : STable) (tc : STable) (ot : SOut) (md : SModel) (y4 : Int32) (H : Heap) (locs : List Loc) (ls : Array Slot), f_Law_case_1166 L xs k ht rd sp mx ar tb tc ot md y4 = some rv → va_K (dC, dI) vwCl [(cA_ht 1, .int), (cA_rd 1, .int), (cA_sp 1, .int), (cA_sp 2, .int), (cA_sp 3, .int), (cA_sp 4, .int), (cA_mx 1, .int), (cA_mx 2, .int), (cA_mx 3, .boolean), (cA_ar 1, .int), (cA_ar 2, .int), (cA_ar 3, .int), (cA_tb 1, .int), (cA_tb 2, .int), (cA_tb 3, .int), (cA_tb 4, .byte), (cA_tc 1, .int), (cA_tc 2, .int), (cA_tc 3, .int), (cA_tc 4, .byte), (cA_ot 1, .long), (cA_md 1, .int), (cA_md 2, .int), (cA_md 3, .int), (cA_md 4, .int), (cA_md 5, .int), (cA_md 6, .int), (cA_md 7, .int), (cA_md 8, .int), (cA_md 9, .boolean), (cA_md 10, .int), (cA_md 11, .int), (cA_md 12, .int), (cA_md 13, .int)] s → va_P (dC, dI) vwCl (uw_HT ad_ht cA_ht (ad_rd 0) (ad_sp 0) (ad_mx 0) (ad_ar 0) (ad_tb 0) (ad_tc 0) ht ++ (uw_Reader ad_rd cA_rd rd ++ (uw_Speller ad_sp cA_sp sp ++ (uw_Mixture ad_mx cA_mx mx ++ (uw_Surroundings ad_ar cA_ar ar ++ (uw_Table ad_tb cA_tb tb ++ (uw_Table ad_tc cA_tc tc ++ (uw_Out ad_ot cA_ot ot ++ (uw_Model ad_md cA_md md))))))))) H → va_D A (uw_HT ad_ht cA_ht (ad_rd 0) (ad_sp 0) (ad_mx 0) (ad_ar 0) (ad_tb 0) (ad_tc 0) ht ++ (uw_Reader ad_rd cA_rd rd ++ (uw_Speller ad_sp cA_sp sp ++ (uw_Mixture ad_mx cA_mx mx ++ (uw_Surroundings ad_ar cA_ar ar ++ (uw_Table ad_tb cA_tb tb ++ (uw_Table ad_tc cA_tc tc ++ (uw_Out ad_ot cA_ot ot ++ (uw_Model ad_md cA_md md))))))))) → va_S A s.heap H locs → lv_has ls 7 [(0, .ref b), (1, .ref (ad_ht 0)), (2, .ref (ad_md 0)), (3, .ref (ad_ot 1)), (4, .int y4)] → W p l e room_1 s m #[Value.ref b] below meth c H locs cs sl (lw_Zb rv below #[Value.ref b] s) (F0 m 1166 ls []) := by
  obtain ⟨hx, hb, hr, hml, hown, hts0, hX0, hbl, hlocks, hgv⟩ := C0
  have hown : s.vm.findClass "HazardTablesLaw" = some m.cls := hown
  have hts : ∀ w ∈ (Cond.initialized "HazardTables" :: WA), w.before #[Value.ref b] s = true := fun w h => hts0 w ((List.mem_cons.mp h).elim (fun e => by rw [e]; exact (List.mem_filter.mp wd_43).1) (fun h => (List.mem_filter.mp h).1))
  have hbA : ¬ A b := fun h => absurd (hA2 b h) (Nat.not_le.mpr hbl)
  intro ad_ht cA_ht ad_rd cA_rd ad_sp cA_sp ad_mx cA_mx ad_ar cA_ar ad_tb cA_tb ad_tc cA_tc ad_ot cA_ot ad_md cA_md ht rd sp mx ar tb tc ot md y4 H locs ls hf hK hP hD hS hl
  unfold f_Law_case_1166 at hf
  refine lv_iinc (v := y4 + (4 : Int32)) (lv' := [(4, .int (y4 + (4 : Int32))), (0, .ref b), (1, .ref (ad_ht 0)), (2, .ref (ad_md 0)), (3, .ref (ad_ot 1))]) hx hb d_Law_law_1166 hl (k := 4) rfl rfl (by decide) rfl (fun ls hl => ?_)
  refine lv_goto (tgt := 23) hx hb d_Law_law_1169 (by decide) ?_
  refine W.widen (k := cs + 1) (n := sl + 6) (by omega) (by omega) ?_
  exact hk ad_ht cA_ht ad_rd cA_rd ad_sp cA_sp ad_mx cA_mx ad_ar cA_ar ad_tb cA_tb ad_tc cA_tc ad_ot cA_ot ad_md cA_md ht rd sp mx ar tb tc ot md (y4 + (4 : Int32)) H locs ls hf hK hP hD hS (lv_sub hl [1, 2, 3, 4, 0] rfl)
