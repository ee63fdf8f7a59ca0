noncomputable def f_Law_case_120 (L : Nat) (xs : Nat → Int32) (k : SHT → SReader → SSpeller → SMixture → SSurroundings → STable → STable → SOut → SModel → Int32 → Option Bool) (ht : SHT) (rd : SReader) (sp : SSpeller) (mx : SMixture) (ar : SSurroundings) (tb : STable) (tc : STable) (ot : SOut) (md : SModel) (y4 : Int32) : Option Bool :=
  (if inb (y4 + (1 : Int32)) L then
    (if inb (y4 + (2 : Int32)) L then
      (if inb (y4 + (3 : Int32)) L then
        (Option.bind (f_Law_sign ht ot rd ((((xs (y4 + (1 : Int32)).toNatClampNeg).toInt64) <<< ((32 : Int32).toInt64 &&& 63)) ||| (((xs (y4 + (2 : Int32)).toNatClampNeg).toInt64) &&& (4294967295 : Int64))) (xs (y4 + (3 : Int32)).toNatClampNeg)) fun u4 =>
          (if inb (y4 + (1 : Int32)) L then
            (if inb (y4 + (2 : Int32)) L then
              (if inb (y4 + (3 : Int32)) L then
                (Option.bind (f_Model_sign md ((((xs (y4 + (1 : Int32)).toNatClampNeg).toInt64) <<< ((32 : Int32).toInt64 &&& 63)) ||| (((xs (y4 + (2 : Int32)).toNatClampNeg).toInt64) &&& (4294967295 : Int64))) (xs (y4 + (3 : Int32)).toNatClampNeg)) fun u8 =>
                  (k ht u4.2.2 sp mx ar tb tc u4.2.1 u8.2 (y4 + (4 : Int32)))
                 )
               else none)
             else none)
           else none)
         )
       else none)
     else none)
   else none)
set_option maxHeartbeats 4000000 in
set_option maxRecDepth 100000 in
theorem k_Law_case_120 {p : Program} {l : Launch} {e : Env} {s : State} {m : MethodId} {below : List Frame} {meth : Method} {c : Code} {dC : Nat → ClassId} {dI : Nat → Nat → Nat} {b L : Nat} {xs : Nat → Int32} {A : Nat → Prop} (htr : l.stackTraces = false) (C0 : lw_At p s m meth c b L xs) (hN : nwAll s) (hX : xAll A s) (hnc : ncAll s) (hA : ∀ q : Nat, s.heap.size ≤ q → A q) (hA2 : ∀ q : Nat, A q → s.heap.size ≤ q) (cs sl : Nat) (hcs : cs + 1 ≤ 1092) (hsl : sl + 6 ≤ 11944) (k : SHT → SReader → SSpeller → SMixture → SSurroundings → STable → STable → SOut → SModel → Int32 → Option Bool) (hk : ∀ (ad_ht : Nat → Nat) (cA_ht : Nat → ClassId) (ad_rd : Nat → Nat) (cA_rd : Nat → ClassId) (ad_sp : Nat → Nat) (cA_sp : Nat → ClassId) (ad_mx : Nat → Nat) (cA_mx : Nat → ClassId) (ad_ar : Nat → Nat) (cA_ar : Nat → ClassId) (ad_tb : Nat → Nat) (cA_tb : Nat → ClassId) (ad_tc : Nat → Nat) (cA_tc : Nat → ClassId) (ad_ot : Nat → Nat) (cA_ot : Nat → ClassId) (ad_md : Nat → Nat) (cA_md : Nat → ClassId) (ht : SHT) (rd : SReader) (sp : SSpeller) (mx : SMixture) (ar : SSurroundings) (tb : STable) (tc : STable) (ot : SOut) (md : SModel) (y4 : Int32) (H : Heap) (locs : List Loc) (ls : Array Slot), k ht rd sp mx ar tb tc ot md y4 = some true → va_K (dC, dI) vwCl [(cA_ht 1, .int), (cA_rd 1, .int), (cA_sp 1, .int), (cA_sp 2, .int), (cA_sp 3, .int), (cA_sp 4, .int), (cA_mx 1, .int), (cA_mx 2, .int), (cA_mx 3, .boolean), (cA_ar 1, .int), (cA_ar 2, .int), (cA_ar 3, .int), (cA_tb 1, .int), (cA_tb 2, .int), (cA_tb 3, .int), (cA_tb 4, .byte), (cA_tc 1, .int), (cA_tc 2, .int), (cA_tc 3, .int), (cA_tc 4, .byte), (cA_ot 1, .long), (cA_md 1, .int), (cA_md 2, .int), (cA_md 3, .int), (cA_md 4, .int), (cA_md 5, .int), (cA_md 6, .int), (cA_md 7, .int), (cA_md 8, .int), (cA_md 9, .boolean), (cA_md 10, .int), (cA_md 11, .int), (cA_md 12, .int), (cA_md 13, .int)] s → va_P (dC, dI) vwCl (uw_HT ad_ht cA_ht (ad_rd 0) (ad_sp 0) (ad_mx 0) (ad_ar 0) (ad_tb 0) (ad_tc 0) ht ++ (uw_Reader ad_rd cA_rd rd ++ (uw_Speller ad_sp cA_sp sp ++ (uw_Mixture ad_mx cA_mx mx ++ (uw_Surroundings ad_ar cA_ar ar ++ (uw_Table ad_tb cA_tb tb ++ (uw_Table ad_tc cA_tc tc ++ (uw_Out ad_ot cA_ot ot ++ (uw_Model ad_md cA_md md))))))))) H → va_D A (uw_HT ad_ht cA_ht (ad_rd 0) (ad_sp 0) (ad_mx 0) (ad_ar 0) (ad_tb 0) (ad_tc 0) ht ++ (uw_Reader ad_rd cA_rd rd ++ (uw_Speller ad_sp cA_sp sp ++ (uw_Mixture ad_mx cA_mx mx ++ (uw_Surroundings ad_ar cA_ar ar ++ (uw_Table ad_tb cA_tb tb ++ (uw_Table ad_tc cA_tc tc ++ (uw_Out ad_ot cA_ot ot ++ (uw_Model ad_md cA_md md))))))))) → va_S A s.heap H locs → lv_has ls 7 [(0, .ref b), (1, .ref (ad_ht 0)), (2, .ref (ad_md 0)), (3, .ref (ad_ot 1)), (4, .int y4)] → W p l e room_1 s m #[Value.ref b] below meth c H locs (cs + 1) (sl + 6) (lw_Z below #[Value.ref b] s) (F0 m 23 ls [])) : ∀ (ad_ht : Nat → Nat) (cA_ht : Nat → ClassId) (ad_rd : Nat → Nat) (cA_rd : Nat → ClassId) (ad_sp : Nat → Nat) (cA_sp : Nat → ClassId) (ad_mx : Nat → Nat) (cA_mx : Nat → ClassId) (ad_ar : Nat → Nat) (cA_ar : Nat → ClassId) (ad_tb : Nat → Nat) (cA_tb : Nat → ClassId) (ad_tc : Nat → Nat) (cA_tc : Nat → ClassId) (ad_ot : Nat → Nat) (cA_ot : Nat → ClassId) (ad_md : Nat → Nat) (cA_md : Nat → ClassId) (ht : SHT) (rd : SReader) (sp : SSpeller) (mx : SMixture) (ar : SSurroundings) (tb : STable) (tc : STable) (ot : SOut) (md : SModel) (y4 : Int32) (H : Heap) (locs : List Loc) (ls : Array Slot), f_Law_case_120 L xs k ht rd sp mx ar tb tc ot md y4 = some true → va_K (dC, dI) vwCl [(cA_ht 1, .int), (cA_rd 1, .int), (cA_sp 1, .int), (cA_sp 2, .int), (cA_sp 3, .int), (cA_sp 4, .int), (cA_mx 1, .int), (cA_mx 2, .int), (cA_mx 3, .boolean), (cA_ar 1, .int), (cA_ar 2, .int), (cA_ar 3, .int), (cA_tb 1, .int), (cA_tb 2, .int), (cA_tb 3, .int), (cA_tb 4, .byte), (cA_tc 1, .int), (cA_tc 2, .int), (cA_tc 3, .int), (cA_tc 4, .byte), (cA_ot 1, .long), (cA_md 1, .int), (cA_md 2, .int), (cA_md 3, .int), (cA_md 4, .int), (cA_md 5, .int), (cA_md 6, .int), (cA_md 7, .int), (cA_md 8, .int), (cA_md 9, .boolean), (cA_md 10, .int), (cA_md 11, .int), (cA_md 12, .int), (cA_md 13, .int)] s → va_P (dC, dI) vwCl (uw_HT ad_ht cA_ht (ad_rd 0) (ad_sp 0) (ad_mx 0) (ad_ar 0) (ad_tb 0) (ad_tc 0) ht ++ (uw_Reader ad_rd cA_rd rd ++ (uw_Speller ad_sp cA_sp sp ++ (uw_Mixture ad_mx cA_mx mx ++ (uw_Surroundings ad_ar cA_ar ar ++ (uw_Table ad_tb cA_tb tb ++ (uw_Table ad_tc cA_tc tc ++ (uw_Out ad_ot cA_ot ot ++ (uw_Model ad_md cA_md md))))))))) H → va_D A (uw_HT ad_ht cA_ht (ad_rd 0) (ad_sp 0) (ad_mx 0) (ad_ar 0) (ad_tb 0) (ad_tc 0) ht ++ (uw_Reader ad_rd cA_rd rd ++ (uw_Speller ad_sp cA_sp sp ++ (uw_Mixture ad_mx cA_mx mx ++ (uw_Surroundings ad_ar cA_ar ar ++ (uw_Table ad_tb cA_tb tb ++ (uw_Table ad_tc cA_tc tc ++ (uw_Out ad_ot cA_ot ot ++ (uw_Model ad_md cA_md md))))))))) → va_S A s.heap H locs → lv_has ls 7 [(0, .ref b), (1, .ref (ad_ht 0)), (2, .ref (ad_md 0)), (3, .ref (ad_ot 1)), (4, .int y4)] → W p l e room_1 s m #[Value.ref b] below meth c H locs cs sl (lw_Z below #[Value.ref b] s) (F0 m 120 ls []) := by
  obtain ⟨hx, hb, hr, hml, hown, hts0, hX0, hbl, hlocks, hgv⟩ := C0
  have hown : s.vm.findClass "HazardTablesLaw" = some m.cls := hown
  have hts : ∀ w ∈ (Cond.initialized "HazardTables" :: WA), w.before #[Value.ref b] s = true := fun w h => hts0 w ((List.mem_cons.mp h).elim (fun e => by rw [e]; exact (List.mem_filter.mp wd_43).1) (fun h => (List.mem_filter.mp h).1))
  have hbA : ¬ A b := fun h => absurd (hA2 b h) (Nat.not_le.mpr hbl)
  intro ad_ht cA_ht ad_rd cA_rd ad_sp cA_sp ad_mx cA_mx ad_ar cA_ar ad_tb cA_tb ad_tc cA_tc ad_ot cA_ot ad_md cA_md ht rd sp mx ar tb tc ot md y4 H locs ls hf hK hP hD hS hl
  unfold f_Law_case_120 at hf
  refine lv_aload_n hx hb d_Law_law_120 rfl (lv_at hl 1 rfl) ?_
  refine lv_aload_n hx hb d_Law_law_121 rfl (lv_at hl 0 rfl) ?_
  refine lv_iload hx hb d_Law_law_122 (lv_at hl 4 rfl) ?_
  refine lv_iconst (v := (1 : Int32)) hx hb d_Law_law_124 (by decide) ?_
  refine lv_iadd hx hb d_Law_law_125 ?_
  obtain ⟨hi1, hf⟩ := hf_g hf
  refine va_sld hx hb hX0 hbl hbA hS hi1 d_Law_law_126 ?_
  refine lv_i2l (v := (xs (y4 + (1 : Int32)).toNatClampNeg).toInt64) hx hb d_Law_law_127 rfl ?_
  refine lv_bipush (v := (32 : Int32)) hx hb d_Law_law_128 (by decide) ?_
  refine lv_lshl (v := ((xs (y4 + (1 : Int32)).toNatClampNeg).toInt64) <<< ((32 : Int32).toInt64 &&& 63)) hx hb d_Law_law_130 rfl ?_
  refine lv_aload_n hx hb d_Law_law_131 rfl (lv_at hl 0 rfl) ?_
  refine lv_iload hx hb d_Law_law_132 (lv_at hl 4 rfl) ?_
  refine lv_iconst (v := (2 : Int32)) hx hb d_Law_law_134 (by decide) ?_
  refine lv_iadd hx hb d_Law_law_135 ?_
  obtain ⟨hi2, hf⟩ := hf_g hf
  refine va_sld hx hb hX0 hbl hbA hS hi2 d_Law_law_136 ?_
  refine lv_i2l (v := (xs (y4 + (2 : Int32)).toNatClampNeg).toInt64) hx hb d_Law_law_137 rfl ?_
  refine lv_ldc2 (v := (4294967295 : Int64)) hx hb hown (hts _ (List.mem_cons_of_mem _ wd_1003)) d_Law_law_138 ?_
  refine lv_land hx hb d_Law_law_141 ?_
  refine lv_lor hx hb d_Law_law_142 ?_
  refine lv_aload_n hx hb d_Law_law_143 rfl (lv_at hl 0 rfl) ?_
  refine lv_iload hx hb d_Law_law_144 (lv_at hl 4 rfl) ?_
  refine lv_iconst (v := (3 : Int32)) hx hb d_Law_law_146 (by decide) ?_
  refine lv_iadd hx hb d_Law_law_147 ?_
  obtain ⟨hi3, hf⟩ := hf_g hf
  refine va_sld hx hb hX0 hbl hbA hS hi3 d_Law_law_148 ?_
  refine lv_aload_n hx hb d_Law_law_149 rfl (lv_at hl 3 rfl) ?_
  obtain ⟨u4, hu4, hf⟩ := Option.bind_eq_some_iff.mp hf
  refine cl_i (wc := (uw_HT ad_ht cA_ht (ad_rd 0) (ad_sp 0) (ad_mx 0) (ad_ar 0) (ad_tb 0) (ad_tc 0) ht ++ (uw_Out ad_ot cA_ot ot ++ (uw_Reader ad_rd cA_rd rd)))) (wr := (uw_Speller ad_sp cA_sp sp ++ (uw_Mixture ad_mx cA_mx mx ++ (uw_Surroundings ad_ar cA_ar ar ++ (uw_Table ad_tb cA_tb tb ++ (uw_Table ad_tc cA_tc tc ++ (uw_Model ad_md cA_md md))))))) (tysC := [(cA_ht 1, .int), (cA_ot 1, .long), (cA_rd 1, .int)]) (wu := fun (u : SOut × SReader) => (uw_HT ad_ht cA_ht (ad_rd 0) (ad_sp 0) (ad_mx 0) (ad_ar 0) (ad_tb 0) (ad_tc 0) ht ++ (uw_Out ad_ot cA_ot u.1 ++ (uw_Reader ad_rd cA_rd u.2)))) (wn := fun (u : SOut × SReader) => (uw_HT ad_ht cA_ht (ad_rd 0) (ad_sp 0) (ad_mx 0) (ad_ar 0) (ad_tb 0) (ad_tc 0) ht ++ (uw_Reader ad_rd cA_rd u.2 ++ (uw_Speller ad_sp cA_sp sp ++ (uw_Mixture ad_mx cA_mx mx ++ (uw_Surroundings ad_ar cA_ar ar ++ (uw_Table ad_tb cA_tb tb ++ (uw_Table ad_tc cA_tc tc ++ (uw_Out ad_ot cA_ot u.1 ++ (uw_Model ad_md cA_md md)))))))))) [0, 1, 27, 2, 3] [4, 5, 6, 7, 8, 9, 10, 11, 12, 13, 14, 15, 16, 17, 18, 19, 20, 21, 22, 23, 24, 25, 26, 28, 29, 30, 31, 32, 33, 34, 35, 36, 37, 38, 39, 40, 41] [37, 38, 40, 41, 0, 1, 2, 3, 4, 5, 6, 7, 8, 9, 10, 11, 12, 13, 14, 15, 16, 17, 18, 19, 20, 21, 22, 39, 23, 24, 25, 26, 27, 28, 29, 30, 31, 32, 33, 34, 35, 36] [0, 20, 1] hP hD hS hA hK rfl rfl (by decide +kernel) (by decide +kernel) (by decide +kernel) rfl (fun _ => rfl) (by decide +kernel) (fun hPc hKc hDc => (vx_runSW (As := [.ref (ad_ht 0), .long ((((xs (y4 + (1 : Int32)).toNatClampNeg).toInt64) <<< ((32 : Int32).toInt64 &&& 63)) ||| (((xs (y4 + (2 : Int32)).toNatClampNeg).toInt64) &&& (4294967295 : Int64))), .int (xs (y4 + (3 : Int32)).toNatClampNeg), .ref (ad_ot 1)]) (rest := []) ⟨hx, hb, hml, hown, hts⟩ (k_Law_sign l dC dI ad_ht cA_ht ad_ot cA_ot ad_rd cA_rd ad_sp cA_sp ad_mx cA_mx ad_ar cA_ar ad_tb cA_tb ad_tc cA_tc H.size ht ot rd ((((xs (y4 + (1 : Int32)).toNatClampNeg).toInt64) <<< ((32 : Int32).toInt64 &&& 63)) ||| (((xs (y4 + (2 : Int32)).toNatClampNeg).toInt64) &&& (4294967295 : Int64))) (xs (y4 + (3 : Int32)).toNatClampNeg) u4 hu4 htr) (vx_cwSW 4 hts (gSW wd_238 wd_239 wd_42 wd_240) rfl rfl rfl (by decide +kernel) ⟨Nat.le_of_ble_eq_true rfl, Nat.le_of_ble_eq_true rfl⟩) (cx_preL hPc hKc hDc hN (fun U hU hW => xAll_at hX hS (va_free hD hS hA [0, 1, 27, 2, 3] rfl) hU hW) hnc) rfl rfl hl.1 rfl (lv_room (Nat.le_of_ble_eq_true rfl)) d_Law_law_150 ⟨by show _ ≤ 1092; omega, by show _ ≤ 11944; omega⟩)) (fun r u H locs hw hP hD hS => ?_)
  obtain ⟨hw1, hw2⟩ := hw
  have hw1 := hw1.symm
  have hw2 := hw2.symm
  subst hw1
  subst hw2
  have hP : va_P (dC, dI) vwCl (uw_HT ad_ht cA_ht (ad_rd 0) (ad_sp 0) (ad_mx 0) (ad_ar 0) (ad_tb 0) (ad_tc 0) ht ++ (uw_Reader ad_rd cA_rd u4.2.2 ++ (uw_Speller ad_sp cA_sp sp ++ (uw_Mixture ad_mx cA_mx mx ++ (uw_Surroundings ad_ar cA_ar ar ++ (uw_Table ad_tb cA_tb tb ++ (uw_Table ad_tc cA_tc tc ++ (uw_Out ad_ot cA_ot u4.2.1 ++ (uw_Model ad_md cA_md md))))))))) H := hP
  have hD : va_D A (uw_HT ad_ht cA_ht (ad_rd 0) (ad_sp 0) (ad_mx 0) (ad_ar 0) (ad_tb 0) (ad_tc 0) ht ++ (uw_Reader ad_rd cA_rd u4.2.2 ++ (uw_Speller ad_sp cA_sp sp ++ (uw_Mixture ad_mx cA_mx mx ++ (uw_Surroundings ad_ar cA_ar ar ++ (uw_Table ad_tb cA_tb tb ++ (uw_Table ad_tc cA_tc tc ++ (uw_Out ad_ot cA_ot u4.2.1 ++ (uw_Model ad_md cA_md md))))))))) := hD
  refine lv_istore (lv' := [(5, .int u4.1), (0, .ref b), (1, .ref (ad_ht 0)), (2, .ref (ad_md 0)), (3, .ref (ad_ot 1)), (4, .int y4)]) hx hb d_Law_law_153 hl (by decide) rfl (fun ls hl => ?_)
  refine lv_aload_n hx hb d_Law_law_155 rfl (lv_at hl 3 rfl) ?_
  refine lv_aload_n hx hb d_Law_law_156 rfl (lv_at hl 1 rfl) ?_
  refine lv_iload hx hb d_Law_law_157 (lv_at hl 5 rfl) ?_
  refine lv_iconst (v := (1 : Int32)) hx hb d_Law_law_159 (by decide) ?_
  refine lv_iadd hx hb d_Law_law_160 ?_
  obtain ⟨hi5, hf⟩ := hf_g hf
  refine va_sld hx hb hX0 hbl hbA hS hi5 d_Law_law_161 ?_
  refine lv_i2l (v := (xs (y4 + (1 : Int32)).toNatClampNeg).toInt64) hx hb d_Law_law_162 rfl ?_
  refine lv_bipush (v := (32 : Int32)) hx hb d_Law_law_163 (by decide) ?_
  refine lv_lshl (v := ((xs (y4 + (1 : Int32)).toNatClampNeg).toInt64) <<< ((32 : Int32).toInt64 &&& 63)) hx hb d_Law_law_165 rfl ?_
  refine lv_aload_n hx hb d_Law_law_166 rfl (lv_at hl 1 rfl) ?_
  refine lv_iload hx hb d_Law_law_167 (lv_at hl 5 rfl) ?_
  refine lv_iconst (v := (2 : Int32)) hx hb d_Law_law_169 (by decide) ?_
  refine lv_iadd hx hb d_Law_law_170 ?_
  obtain ⟨hi6, hf⟩ := hf_g hf
  refine va_sld hx hb hX0 hbl hbA hS hi6 d_Law_law_171 ?_
  refine lv_i2l (v := (xs (y4 + (2 : Int32)).toNatClampNeg).toInt64) hx hb d_Law_law_172 rfl ?_
  refine lv_ldc2 (v := (4294967295 : Int64)) hx hb hown (hts _ (List.mem_cons_of_mem _ wd_1003)) d_Law_law_173 ?_
  refine lv_land hx hb d_Law_law_176 ?_
  refine lv_lor hx hb d_Law_law_177 ?_
  refine lv_aload_n hx hb d_Law_law_178 rfl (lv_at hl 1 rfl) ?_
  refine lv_iload hx hb d_Law_law_179 (lv_at hl 5 rfl) ?_
  refine lv_iconst (v := (3 : Int32)) hx hb d_Law_law_181 (by decide) ?_
  refine lv_iadd hx hb d_Law_law_182 ?_
  obtain ⟨hi7, hf⟩ := hf_g hf
  refine va_sld hx hb hX0 hbl hbA hS hi7 d_Law_law_183 ?_
  obtain ⟨u8, hu8, hf⟩ := Option.bind_eq_some_iff.mp hf
  refine cl_i (wc := (uw_Model ad_md cA_md md)) (wr := (uw_HT ad_ht cA_ht (ad_rd 0) (ad_sp 0) (ad_mx 0) (ad_ar 0) (ad_tb 0) (ad_tc 0) ht ++ (uw_Reader ad_rd cA_rd u4.2.2 ++ (uw_Speller ad_sp cA_sp sp ++ (uw_Mixture ad_mx cA_mx mx ++ (uw_Surroundings ad_ar cA_ar ar ++ (uw_Table ad_tb cA_tb tb ++ (uw_Table ad_tc cA_tc tc ++ (uw_Out ad_ot cA_ot u4.2.1))))))))) (tysC := [(cA_md 1, .int), (cA_md 2, .int), (cA_md 3, .int), (cA_md 4, .int), (cA_md 5, .int), (cA_md 6, .int), (cA_md 7, .int), (cA_md 8, .int), (cA_md 9, .boolean), (cA_md 10, .int), (cA_md 11, .int), (cA_md 12, .int), (cA_md 13, .int)]) (wu := fun (u : SModel) => (uw_Model ad_md cA_md u)) (wn := fun (u : SModel) => (uw_HT ad_ht cA_ht (ad_rd 0) (ad_sp 0) (ad_mx 0) (ad_ar 0) (ad_tb 0) (ad_tc 0) ht ++ (uw_Reader ad_rd cA_rd u4.2.2 ++ (uw_Speller ad_sp cA_sp sp ++ (uw_Mixture ad_mx cA_mx mx ++ (uw_Surroundings ad_ar cA_ar ar ++ (uw_Table ad_tb cA_tb tb ++ (uw_Table ad_tc cA_tc tc ++ (uw_Out ad_ot cA_ot u4.2.1 ++ (uw_Model ad_md cA_md u)))))))))) [28, 29, 30, 31, 32, 33, 34, 35, 36, 37, 38, 39, 40, 41] [0, 1, 2, 3, 4, 5, 6, 7, 8, 9, 10, 11, 12, 13, 14, 15, 16, 17, 18, 19, 20, 21, 22, 23, 24, 25, 26, 27] [0, 1, 2, 3, 4, 5, 6, 7, 8, 9, 10, 11, 12, 13, 14, 15, 16, 17, 18, 19, 20, 21, 22, 23, 24, 25, 26, 27, 28, 29, 30, 31, 32, 33, 34, 35, 36, 37, 38, 39, 40, 41] [21, 22, 23, 24, 25, 26, 27, 28, 29, 30, 31, 32, 33] hP hD hS hA hK rfl rfl (by decide +kernel) (by decide +kernel) (by decide +kernel) rfl (fun _ => rfl) (by decide +kernel) (fun hPc hKc hDc => (va_runV (As := [.long ((((xs (y4 + (1 : Int32)).toNatClampNeg).toInt64) <<< ((32 : Int32).toInt64 &&& 63)) ||| (((xs (y4 + (2 : Int32)).toNatClampNeg).toInt64) &&& (4294967295 : Int64))), .int (xs (y4 + (3 : Int32)).toNatClampNeg)]) (rest := []) ⟨hx, hb, hml, hown, hts⟩ (k_Model_sign l dC dI ad_md cA_md H.size md ((((xs (y4 + (1 : Int32)).toNatClampNeg).toInt64) <<< ((32 : Int32).toInt64 &&& 63)) ||| (((xs (y4 + (2 : Int32)).toNatClampNeg).toInt64) &&& (4294967295 : Int64))) (xs (y4 + (3 : Int32)).toNatClampNeg) u8 hu8) (cwV 2 hts (gV wd_843 wd_844 wd_845 wd_49 wd_846) rfl rfl rfl (by decide +kernel) ⟨Nat.le_of_ble_eq_true rfl, Nat.le_of_ble_eq_true rfl⟩) (cl_preV hPc hKc hDc hN (ci := 6) 0 rfl rfl) rfl rfl hl.1 rfl (lv_room (Nat.le_of_ble_eq_true rfl)) d_Law_law_184 ⟨by show _ ≤ 1092; omega, by show _ ≤ 11944; omega⟩)) (fun r u H locs hw hP hD hS => ?_)
  obtain ⟨hw1, hw2⟩ := hw
  have hw1 := hw1.symm
  have hw2 := hw2.symm
  subst hw1
  subst hw2
  have hP : va_P (dC, dI) vwCl (uw_HT ad_ht cA_ht (ad_rd 0) (ad_sp 0) (ad_mx 0) (ad_ar 0) (ad_tb 0) (ad_tc 0) ht ++ (uw_Reader ad_rd cA_rd u4.2.2 ++ (uw_Speller ad_sp cA_sp sp ++ (uw_Mixture ad_mx cA_mx mx ++ (uw_Surroundings ad_ar cA_ar ar ++ (uw_Table ad_tb cA_tb tb ++ (uw_Table ad_tc cA_tc tc ++ (uw_Out ad_ot cA_ot u4.2.1 ++ (uw_Model ad_md cA_md u8.2))))))))) H := hP
  have hD : va_D A (uw_HT ad_ht cA_ht (ad_rd 0) (ad_sp 0) (ad_mx 0) (ad_ar 0) (ad_tb 0) (ad_tc 0) ht ++ (uw_Reader ad_rd cA_rd u4.2.2 ++ (uw_Speller ad_sp cA_sp sp ++ (uw_Mixture ad_mx cA_mx mx ++ (uw_Surroundings ad_ar cA_ar ar ++ (uw_Table ad_tb cA_tb tb ++ (uw_Table ad_tc cA_tc tc ++ (uw_Out ad_ot cA_ot u4.2.1 ++ (uw_Model ad_md cA_md u8.2))))))))) := hD
  refine lv_istore (lv' := [(6, .int u8.1), (5, .int u4.1), (0, .ref b), (1, .ref (ad_ht 0)), (2, .ref (ad_md 0)), (3, .ref (ad_ot 1)), (4, .int y4)]) hx hb d_Law_law_187 hl (by decide) rfl (fun ls hl => ?_)
  refine lv_goto (tgt := 784) hx hb d_Law_law_189 (by decide) ?_
  refine lv_iinc (v := y4 + (4 : Int32)) (lv' := [(4, .int (y4 + (4 : Int32))), (6, .int u8.1), (5, .int u4.1), (0, .ref b), (1, .ref (ad_ht 0)), (2, .ref (ad_md 0)), (3, .ref (ad_ot 1))]) hx hb d_Law_law_784 hl (k := 6) rfl rfl (by decide) rfl (fun ls hl => ?_)
  refine lv_goto (tgt := 23) hx hb d_Law_law_787 (by decide) ?_
  refine W.widen (k := cs + 1) (n := sl + 6) (by omega) (by omega) ?_
  exact hk ad_ht cA_ht ad_rd cA_rd ad_sp cA_sp ad_mx cA_mx ad_ar cA_ar ad_tb cA_tb ad_tc cA_tc ad_ot cA_ot ad_md cA_md ht u4.2.2 sp mx ar tb tc u4.2.1 u8.2 (y4 + (4 : Int32)) H locs ls hf hK hP hD hS (lv_sub hl [3, 4, 5, 6, 0] rfl)
