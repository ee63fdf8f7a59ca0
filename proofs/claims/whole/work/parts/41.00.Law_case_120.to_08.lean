noncomputable def f_Law_case_120 (L : Nat) (xs : Nat → Int32) (k : SHT → SReader → SSpeller → SMixture → SSurroundings → STable → STable → SOut → SModel → Int32 → Option Bool) (ht : SHT) (rd : SReader) (sp : SSpeller) (mx : SMixture) (ar : SSurroundings) (tb : STable) (tc : STable) (ot : SOut) (md : SModel) (y4 : Int32) : Option Bool :=
  (if inb (y4 + (1 : Int32)) L then
    (if inb (y4 + (2 : Int32)) L then
      (if inb (y4 + (3 : Int32)) L then
        (Option.bind (f_Law_sign ht ot rd ((((xs (y4 + (1 : Int32)).toNatClampNeg).toInt64) <<< ((32 : Int32).toInt64 &&& 63)) ||| (((xs (y4 + (2 : Int32)).toNatClampNeg).toInt64) &&& (4294967295 : Int64))) (xs (y4 + (3 : Int32)).toNatClampNeg)) fun u4 =>
          (if inb (y4 + (1 : Int32)) L then
            (if inb (y4 + (2 : Int32)) L then
              (if inb (y4 + (3 : Int32)) L then
                (Option.bind (f_Model_sign md ((((xs (y4 + (1 : Int32)).toNatClampNeg).toInt64) <<< ((32 : Int32).toInt64 &&& 63)) ||| (((xs (y4 + (2 : Int32)).toNatClampNeg).toInt64) &&& (4294967295 : Int64))) (xs (y4 + (3 : Int32)).toNatClampNeg)) fun u8 =>
                  (Option.bind (f_Model_thrown u8.2) fun u9 =>
                    (if u9 = u4.1 then
                      (if u4.1 = 0 then
                        (if inb (0 : Int32) 1 then
                          (if (lg_cmp (u4.2.1 (0 : Int32).toNatClampNeg) u8.1.toInt64) = 0 then
                            (k ht u4.2.2 sp mx ar tb tc u4.2.1 u8.2 (y4 + (4 : Int32)))
                           else
                            (some false)
                           )
                         else none)
                       else
                        (k ht u4.2.2 sp mx ar tb tc u4.2.1 u8.2 (y4 + (4 : Int32)))
                       )
                     else
                      (some false)
                     )
                   )
                 )
               else none)
             else none)
           else none)
         )
       else none)
     else none)
   else none)
set_option maxHeartbeats 4000000 in
set_option maxRecDepth 100000 in
theorem k_Law_case_120 {rv : Bool} {p : Program} {l : Launch} {e : Env} {s : State} {m : MethodId} {below : List Frame} {meth : Method} {c : Code} {dC : Nat → ClassId} {dI : Nat → Nat → Nat} {b L : Nat} {xs : Nat → Int32} {A : Nat → Prop} (htr : l.stackTraces = false) (C0 : lw_At p s m meth c b L xs) (hN : nwAll s) (hX : xAll A s) (hnc : ncAll s) (hA : ∀ q : Nat, s.heap.size ≤ q → A q) (hA2 : ∀ q : Nat, A q → s.heap.size ≤ q) (cs sl : Nat) (hcs : cs + 1 ≤ 1092) (hsl : sl + 6 ≤ 11944) (k : SHT → SReader → SSpeller → SMixture → SSurroundings → STable → STable → SOut → SModel → Int32 → Option Bool) (hk : ∀ (ad_ht : Nat → Nat) (cA_ht : Nat → ClassId) (ad_rd : Nat → Nat) (cA_rd : Nat → ClassId) (ad_sp : Nat → Nat) (cA_sp : Nat → ClassId) (ad_mx : Nat → Nat) (cA_mx : Nat → ClassId) (ad_ar : Nat → Nat) (cA_ar : Nat → ClassId) (ad_tb : Nat → Nat) (cA_tb : Nat → ClassId) (ad_tc : Nat → Nat) (cA_tc : Nat → ClassId) (ad_ot : Nat → Nat) (cA_ot : Nat → ClassId) (ad_md : Nat → Nat) (cA_md : Nat → ClassId) (ht : SHT) (rd : SReader) (sp : SSpeller) (mx : SMixture) (ar : SSurroundings) (tb : STable) (tc : STable) (ot : SOut) (md : SModel) (y4 : Int32) (H : Heap) (locs : List Loc) (ls : Array Slot), k ht rd sp mx ar tb tc ot md y4 = some rv → va_K (dC, dI) vwCl [(cA_ht 1, .int), (cA_rd 1, .int), (cA_sp 1, .int), (cA_sp 2, .int), (cA_sp 3, .int), (cA_sp 4, .int), (cA_mx 1, .int), (cA_mx 2, .int), (cA_mx 3, .boolean), (cA_ar 1, .int), (cA_ar 2, .int), (cA_ar 3, .int), (cA_tb 1, .int), (cA_tb 2, .int), (cA_tb 3, .int), (cA_tb 4, .byte), (cA_tc 1, .int), (cA_tc 2, .int), (cA_tc 3, .int), (cA_tc 4, .byte), (cA_ot 1, .long), (cA_md 1, .int), (cA_md 2, .int), (cA_md 3, .int), (cA_md 4, .int), (cA_md 5, .int), (cA_md 6, .int), (cA_md 7, .int), (cA_md 8, .int), (cA_md 9, .boolean), (cA_md 10, .int), (cA_md 11, .int), (cA_md 12, .int), (cA_md 13, .int)] s → va_P (dC, dI) vwCl (uw_HT ad_ht cA_ht (ad_rd 0) (ad_sp 0) (ad_mx 0) (ad_ar 0) (ad_tb 0) (ad_tc 0) ht ++ (uw_Reader ad_rd cA_rd rd ++ (uw_Speller ad_sp cA_sp sp ++ (uw_Mixture ad_mx cA_mx mx ++ (uw_Surroundings ad_ar cA_ar ar ++ (uw_Table ad_tb cA_tb tb ++ (uw_Table ad_tc cA_tc tc ++ (uw_Out ad_ot cA_ot ot ++ (uw_Model ad_md cA_md md))))))))) H → va_D A (uw_HT ad_ht cA_ht (ad_rd 0) (ad_sp 0) (ad_mx 0) (ad_ar 0) (ad_tb 0) (ad_tc 0) ht ++ (uw_Reader ad_rd cA_rd rd ++ (uw_Speller ad_sp cA_sp sp ++ (uw_Mixture ad_mx cA_mx mx ++ (uw_Surroundings ad_ar cA_ar ar ++ (uw_Table ad_tb cA_tb tb ++ (uw_Table ad_tc cA_tc tc ++ (uw_Out ad_ot cA_ot ot ++ (uw_Model ad_md cA_md md))))))))) → va_S A s.heap H locs → lv_has ls 7 [(0, .ref b), (1, .ref (ad_ht 0)), (2, .ref (ad_md 0)), (3, .ref (ad_ot 1)), (4, .int y4)] → W p l e room_1 s m #[Value.ref b] below meth c H locs (cs + 1) (sl + 6) (lw_Zb rv below #[Value.ref b] s) (F0 m 23 ls [])) : ∀ (ad_ht : Nat → Nat) (cA_ht : Nat → ClassId) (ad_rd : Nat → Nat) (cA_rd : Nat → ClassId) (ad_sp : Nat → Nat) (cA_sp : Nat → ClassId) (ad_mx : Nat → Nat) (cA_mx : Nat → ClassId) (ad_ar : Nat → Nat) (cA_ar : Nat → ClassId) (ad_tb : Nat → Nat) (cA_tb : Nat → ClassId) (ad_tc : Nat → Nat) (cA_tc : Nat → ClassId) (ad_ot : Nat → Nat) (cA_ot : Nat → ClassId) (ad_md : Nat → Nat) (cA_md : Nat → ClassId) (ht : SHT) (rd : SReader) (sp : SSpeller) (mx : SMixture) (ar : SSurroundings) (tb : STable) (tc : STable) (ot : SOut) (md : SModel) (y4 : Int32) (H : Heap) (locs : List Loc) (ls : Array Slot), f_Law_case_120 L xs k ht rd sp mx ar tb tc ot md y4 = some rv → va_K (dC, dI) vwCl [(cA_ht 1, .int), (cA_rd 1, .int), (cA_sp 1, .int), (cA_sp 2, .int), (cA_sp 3, .int), (cA_sp 4, .int), (cA_mx 1, .int), (cA_mx 2, .int), (cA_mx 3, .boolean), (cA_ar 1, .int), (cA_ar 2, .int), (cA_ar 3, .int), (cA_tb 1, .int), (cA_tb 2, .int), (cA_tb 3, .int), (cA_tb 4, .byte), (cA_tc 1, .int), (cA_tc 2, .int), (cA_tc 3, .int), (cA_tc 4, .byte), (cA_ot 1, .long), (cA_md 1, .int), (cA_md 2, .int), (cA_md 3, .int), (cA_md 4, .int), (cA_md 5, .int), (cA_md 6, .int), (cA_md 7, .int), (cA_md 8, .int), (cA_md 9, .boolean), (cA_md 10, .int), (cA_md 11, .int), (cA_md 12, .int), (cA_md 13, .int)] s → va_P (dC, dI) vwCl (uw_HT ad_ht cA_ht (ad_rd 0) (ad_sp 0) (ad_mx 0) (ad_ar 0) (ad_tb 0) (ad_tc 0) ht ++ (uw_Reader ad_rd cA_rd rd ++ (uw_Speller ad_sp cA_sp sp ++ (uw_Mixture ad_mx cA_mx mx ++ (uw_Surroundings ad_ar cA_ar ar ++ (uw_Table ad_tb cA_tb tb ++ (uw_Table ad_tc cA_tc tc ++ (uw_Out ad_ot cA_ot ot ++ (uw_Model ad_md cA_md md))))))))) H → va_D A (uw_HT ad_ht cA_ht (ad_rd 0) (ad_sp 0) (ad_mx 0) (ad_ar 0) (ad_tb 0) (ad_tc 0) ht ++ (uw_Reader ad_rd cA_rd rd ++ (uw_Speller ad_sp cA_sp sp ++ (uw_Mixture ad_mx cA_mx mx ++ (uw_Surroundings ad_ar cA_ar ar ++ (uw_Table ad_tb cA_tb tb ++ (uw_Table ad_tc cA_tc tc ++ (uw_Out ad_ot cA_ot ot ++ (uw_Model ad_md cA_md md))))))))) → va_S A s.heap H locs → lv_has ls 7 [(0, .ref b), (1, .ref (ad_ht 0)), (2, .ref (ad_md 0)), (3, .ref (ad_ot 1)), (4, .int y4)] → W p l e room_1 s m #[Value.ref b] below meth c H locs cs sl (lw_Zb rv below #[Value.ref b] s) (F0 m 120 ls []) := by
  obtain ⟨hx, hb, hr, hml, hown, hts0, hX0, hbl, hlocks, hgv⟩ := C0
  have hown : s.vm.findClass "HazardTablesLaw" = some m.cls := hown
  have hts : ∀ w ∈ (Cond.initialized "HazardTables" :: WA), w.before #[Value.ref b] s = true := fun w h => hts0 w ((List.mem_cons.mp h).elim (fun e => by rw [e]; exact (List.mem_filter.mp wd_43).1) (fun h => (List.mem_filter.mp h).1))
  have hbA : ¬ A b := fun h => absurd (hA2 b h) (Nat.not_le.mpr hbl)
  intro ad_ht cA_ht ad_rd cA_rd ad_sp cA_sp ad_mx cA_mx ad_ar cA_ar ad_tb cA_tb ad_tc cA_tc ad_ot cA_ot ad_md cA_md ht rd sp mx ar tb tc ot md y4 H locs ls hf hK hP hD hS hl
  unfold f_Law_case_120 at hf
  refine lv_aload_n hx hb d_Law_law_120 rfl (lv_at hl 1 rfl) ?_
  refine lv_aload_n hx hb d_Law_law_121 rfl (lv_at hl 0 rfl) ?_
  refine lv_iload hx hb d_Law_law_122 (lv_at hl 4 rfl) ?_
  refine lv_iconst (v := (1 : Int32)) hx hb d_Law_law_124 (by decide) ?_
  refine lv_iadd hx hb d_Law_law_125 ?_
  obtain ⟨hi1, hf⟩ := hf_g hf
  refine va_sld hx hb hX0 hbl hbA hS hi1 d_Law_law_126 ?_
  refine lv_i2l (v := (xs (y4 + (1 : Int32)).toNatClampNeg).toInt64) hx hb d_Law_law_127 rfl ?_
  refine lv_bipush (v := (32 : Int32)) hx hb d_Law_law_128 (by decide) ?_
  refine lv_lshl (v := ((xs (y4 + (1 : Int32)).toNatClampNeg).toInt64) <<< ((32 : Int32).toInt64 &&& 63)) hx hb d_Law_law_130 rfl ?_
  refine lv_aload_n hx hb d_Law_law_131 rfl (lv_at hl 0 rfl) ?_
  refine lv_iload hx hb d_Law_law_132 (lv_at hl 4 rfl) ?_
  refine lv_iconst (v := (2 : Int32)) hx hb d_Law_law_134 (by decide) ?_
  refine lv_iadd hx hb d_Law_law_135 ?_
  obtain ⟨hi2, hf⟩ := hf_g hf
  refine va_sld hx hb hX0 hbl hbA hS hi2 d_Law_law_136 ?_
  refine lv_i2l (v := (xs (y4 + (2 : Int32)).toNatClampNeg).toInt64) hx hb d_Law_law_137 rfl ?_
  refine lv_ldc2 (v := (4294967295 : Int64)) hx hb hown (hts _ (List.mem_cons_of_mem _ wd_1003)) d_Law_law_138 ?_
  refine lv_land hx hb d_Law_law_141 ?_
  refine lv_lor hx hb d_Law_law_142 ?_
  refine lv_aload_n hx hb d_Law_law_143 rfl (lv_at hl 0 rfl) ?_
  refine lv_iload hx hb d_Law_law_144 (lv_at hl 4 rfl) ?_
  refine lv_iconst (v := (3 : Int32)) hx hb d_Law_law_146 (by decide) ?_
  refine lv_iadd hx hb d_Law_law_147 ?_
  obtain ⟨hi3, hf⟩ := hf_g hf
  refine va_sld hx hb hX0 hbl hbA hS hi3 d_Law_law_148 ?_
  refine lv_aload_n hx hb d_Law_law_149 rfl (lv_at hl 3 rfl) ?_
  obtain ⟨u4, hu4, hf⟩ := Option.bind_eq_some_iff.mp hf
  refine cl_i (wc := (uw_HT ad_ht cA_ht (ad_rd 0) (ad_sp 0) (ad_mx 0) (ad_ar 0) (ad_tb 0) (ad_tc 0) ht ++ (uw_Out ad_ot cA_ot ot ++ (uw_Reader ad_rd cA_rd rd)))) (wr := (uw_Speller ad_sp cA_sp sp ++ (uw_Mixture ad_mx cA_mx mx ++ (uw_Surroundings ad_ar cA_ar ar ++ (uw_Table ad_tb cA_tb tb ++ (uw_Table ad_tc cA_tc tc ++ (uw_Model ad_md cA_md md))))))) (tysC := [(cA_ht 1, .int), (cA_ot 1, .long), (cA_rd 1, .int)]) (wu := fun (u : SOut × SReader) => (uw_HT ad_ht cA_ht (ad_rd 0) (ad_sp 0) (ad_mx 0) (ad_ar 0) (ad_tb 0) (ad_tc 0) ht ++ (uw_Out ad_ot cA_ot u.1 ++ (uw_Reader ad_rd cA_rd u.2)))) (wn := fun (u : SOut × SReader) => (uw_HT ad_ht cA_ht (ad_rd 0) (ad_sp 0) (ad_mx 0) (ad_ar 0) (ad_tb 0) (ad_tc 0) ht ++ (uw_Reader ad_rd cA_rd u.2 ++ (uw_Speller ad_sp cA_sp sp ++ (uw_Mixture ad_mx cA_mx mx ++ (uw_Surroundings ad_ar cA_ar ar ++ (uw_Table ad_tb cA_tb tb ++ (uw_Table ad_tc cA_tc tc ++ (uw_Out ad_ot cA_ot u.1 ++ (uw_Model ad_md cA_md md)))))))))) [0, 1, 27, 2, 3] [4, 5, 6, 7, 8, 9, 10, 11, 12, 13, 14, 15, 16, 17, 18, 19, 20, 21, 22, 23, 24, 25, 26, 28, 29, 30, 31, 32, 33, 34, 35, 36, 37, 38, 39, 40, 41] [37, 38, 40, 41, 0, 1, 2, 3, 4, 5, 6, 7, 8, 9, 10, 11, 12, 13, 14, 15, 16, 17, 18, 19, 20, 21, 22, 39, 23, 24, 25, 26, 27, 28, 29, 30, 31, 32, 33, 34, 35, 36] [0, 20, 1] hP hD hS hA hK rfl rfl (by decide +kernel) (by decide +kernel) (by decide +kernel) rfl (fun _ => rfl) (by decide +kernel) (fun hPc hKc hDc => (vx_runSW (As := [.ref (ad_ht 0), .long ((((xs (y4 + (1 : Int32)).toNatClampNeg).toInt64) <<< ((32 : Int32).toInt64 &&& 63)) ||| (((xs (y4 + (2 : Int32)).toNatClampNeg).toInt64) &&& (4294967295 : Int64))), .int (xs (y4 + (3 : Int32)).toNatClampNeg), .ref (ad_ot 1)]) (rest := []) ⟨hx, hb, hml, hown, hts⟩ (k_Law_sign l dC dI ad_ht cA_ht ad_ot cA_ot ad_rd cA_rd ad_sp cA_sp ad_mx cA_mx ad_ar cA_ar ad_tb cA_tb ad_tc cA_tc H.size ht ot rd ((((xs (y4 + (1 : Int32)).toNatClampNeg).toInt64) <<< ((32 : Int32).toInt64 &&& 63)) ||| (((xs (y4 + (2 : Int32)).toNatClampNeg).toInt64) &&& (4294967295 : Int64))) (xs (y4 + (3 : Int32)).toNatClampNeg) u4 hu4 htr) (vx_cwSW 4 hts (gSW wd_238 wd_239 wd_42 wd_240) rfl rfl rfl (by decide +kernel) ⟨Nat.le_of_ble_eq_true rfl, Nat.le_of_ble_eq_true rfl⟩) (cx_preL hPc hKc hDc hN (fun U hU hW => xAll_at hX hS (va_free hD hS hA [0, 1, 27, 2, 3] rfl) hU hW) hnc) rfl rfl hl.1 rfl (lv_room (Nat.le_of_ble_eq_true rfl)) d_Law_law_150 ⟨by show _ ≤ 1092; omega, by show _ ≤ 11944; omega⟩)) (fun r u H locs hw hP hD hS => ?_)
  obtain ⟨hw1, hw2⟩ := hw
  have hw1 := hw1.symm
  have hw2 := hw2.symm
  subst hw1
  subst hw2
  have hP : va_P (dC, dI) vwCl (uw_HT ad_ht cA_ht (ad_rd 0) (ad_sp 0) (ad_mx 0) (ad_ar 0) (ad_tb 0) (ad_tc 0) ht ++ (uw_Reader ad_rd cA_rd u4.2.2 ++ (uw_Speller ad_sp cA_sp sp ++ (uw_Mixture ad_mx cA_mx mx ++ (uw_Surroundings ad_ar cA_ar ar ++ (uw_Table ad_tb cA_tb tb ++ (uw_Table ad_tc cA_tc tc ++ (uw_Out ad_ot cA_ot u4.2.1 ++ (uw_Model ad_md cA_md md))))))))) H := hP
  have hD : va_D A (uw_HT ad_ht cA_ht (ad_rd 0) (ad_sp 0) (ad_mx 0) (ad_ar 0) (ad_tb 0) (ad_tc 0) ht ++ (uw_Reader ad_rd cA_rd u4.2.2 ++ (uw_Speller ad_sp cA_sp sp ++ (uw_Mixture ad_mx cA_mx mx ++ (uw_Surroundings ad_ar cA_ar ar ++ (uw_Table ad_tb cA_tb tb ++ (uw_Table ad_tc cA_tc tc ++ (uw_Out ad_ot cA_ot u4.2.1 ++ (uw_Model ad_md cA_md md))))))))) := hD
  refine lv_istore (lv' := [(5, .int u4.1), (0, .ref b), (1, .ref (ad_ht 0)), (2, .ref (ad_md 0)), (3, .ref (ad_ot 1)), (4, .int y4)]) hx hb d_Law_law_153 hl (by decide) rfl (fun ls hl => ?_)
  refine lv_aload_n hx hb d_Law_law_155 rfl (lv_at hl 3 rfl) ?_
  refine lv_aload_n hx hb d_Law_law_156 rfl (lv_at hl 1 rfl) ?_
  refine lv_iload hx hb d_Law_law_157 (lv_at hl 5 rfl) ?_
  refine lv_iconst (v := (1 : Int32)) hx hb d_Law_law_159 (by decide) ?_
  refine lv_iadd hx hb d_Law_law_160 ?_
  obtain ⟨hi5, hf⟩ := hf_g hf
  refine va_sld hx hb hX0 hbl hbA hS hi5 d_Law_law_161 ?_
  refine lv_i2l (v := (xs (y4 + (1 : Int32)).toNatClampNeg).toInt64) hx hb d_Law_law_162 rfl ?_
  refine lv_bipush (v := (32 : Int32)) hx hb d_Law_law_163 (by decide) ?_
  refine lv_lshl (v := ((xs (y4 + (1 : Int32)).toNatClampNeg).toInt64) <<< ((32 : Int32).toInt64 &&& 63)) hx hb d_Law_law_165 rfl ?_
  refine lv_aload_n hx hb d_Law_law_166 rfl (lv_at hl 1 rfl) ?_
  refine lv_iload hx hb d_Law_law_167 (lv_at hl 5 rfl) ?_
  refine lv_iconst (v := (2 : Int32)) hx hb d_Law_law_169 (by decide) ?_
  refine lv_iadd hx hb d_Law_law_170 ?_
  obtain ⟨hi6, hf⟩ := hf_g hf
  refine va_sld hx hb hX0 hbl hbA hS hi6 d_Law_law_171 ?_
  refine lv_i2l (v := (xs (y4 + (2 : Int32)).toNatClampNeg).toInt64) hx hb d_Law_law_172 rfl ?_
  refine lv_ldc2 (v := (4294967295 : Int64)) hx hb hown (hts _ (List.mem_cons_of_mem _ wd_1003)) d_Law_law_173 ?_
  refine lv_land hx hb d_Law_law_176 ?_
  refine lv_lor hx hb d_Law_law_177 ?_
  refine lv_aload_n hx hb d_Law_law_178 rfl (lv_at hl 1 rfl) ?_
  refine lv_iload hx hb d_Law_law_179 (lv_at hl 5 rfl) ?_
  refine lv_iconst (v := (3 : Int32)) hx hb d_Law_law_181 (by decide) ?_
  refine lv_iadd hx hb d_Law_law_182 ?_
  obtain ⟨hi7, hf⟩ := hf_g hf
  refine va_sld hx hb hX0 hbl hbA hS hi7 d_Law_law_183 ?_
  obtain ⟨u8, hu8, hf⟩ := Option.bind_eq_some_iff.mp hf
  refine cl_i (wc := (uw_Model ad_md cA_md md)) (wr := (uw_HT ad_ht cA_ht (ad_rd 0) (ad_sp 0) (ad_mx 0) (ad_ar 0) (ad_tb 0) (ad_tc 0) ht ++ (uw_Reader ad_rd cA_rd u4.2.2 ++ (uw_Speller ad_sp cA_sp sp ++ (uw_Mixture ad_mx cA_mx mx ++ (uw_Surroundings ad_ar cA_ar ar ++ (uw_Table ad_tb cA_tb tb ++ (uw_Table ad_tc cA_tc tc ++ (uw_Out ad_ot cA_ot u4.2.1))))))))) (tysC := [(cA_md 1, .int), (cA_md 2, .int), (cA_md 3, .int), (cA_md 4, .int), (cA_md 5, .int), (cA_md 6, .int), (cA_md 7, .int), (cA_md 8, .int), (cA_md 9, .boolean), (cA_md 10, .int), (cA_md 11, .int), (cA_md 12, .int), (cA_md 13, .int)]) (wu := fun (u : SModel) => (uw_Model ad_md cA_md u)) (wn := fun (u : SModel) => (uw_HT ad_ht cA_ht (ad_rd 0) (ad_sp 0) (ad_mx 0) (ad_ar 0) (ad_tb 0) (ad_tc 0) ht ++ (uw_Reader ad_rd cA_rd u4.2.2 ++ (uw_Speller ad_sp cA_sp sp ++ (uw_Mixture ad_mx cA_mx mx ++ (uw_Surroundings ad_ar cA_ar ar ++ (uw_Table ad_tb cA_tb tb ++ (uw_Table ad_tc cA_tc tc ++ (uw_Out ad_ot cA_ot u4.2.1 ++ (uw_Model ad_md cA_md u)))))))))) [28, 29, 30, 31, 32, 33, 34, 35, 36, 37, 38, 39, 40, 41] [0, 1, 2, 3, 4, 5, 6, 7, 8, 9, 10, 11, 12, 13, 14, 15, 16, 17, 18, 19, 20, 21, 22, 23, 24, 25, 26, 27] [0, 1, 2, 3, 4, 5, 6, 7, 8, 9, 10, 11, 12, 13, 14, 15, 16, 17, 18, 19, 20, 21, 22, 23, 24, 25, 26, 27, 28, 29, 30, 31, 32, 33, 34, 35, 36, 37, 38, 39, 40, 41] [21, 22, 23, 24, 25, 26, 27, 28, 29, 30, 31, 32, 33] hP hD hS hA hK rfl rfl (by decide +kernel) (by decide +kernel) (by decide +kernel) rfl (fun _ => rfl) (by decide +kernel) (fun hPc hKc hDc => (va_runV (As := [.long ((((xs (y4 + (1 : Int32)).toNatClampNeg).toInt64) <<< ((32 : Int32).toInt64 &&& 63)) ||| (((xs (y4 + (2 : Int32)).toNatClampNeg).toInt64) &&& (4294967295 : Int64))), .int (xs (y4 + (3 : Int32)).toNatClampNeg)]) (rest := []) ⟨hx, hb, hml, hown, hts⟩ (k_Model_sign l dC dI ad_md cA_md H.size md ((((xs (y4 + (1 : Int32)).toNatClampNeg).toInt64) <<< ((32 : Int32).toInt64 &&& 63)) ||| (((xs (y4 + (2 : Int32)).toNatClampNeg).toInt64) &&& (4294967295 : Int64))) (xs (y4 + (3 : Int32)).toNatClampNeg) u8 hu8) (cwV 2 hts (gV wd_843 wd_844 wd_845 wd_49 wd_846) rfl rfl rfl (by decide +kernel) ⟨Nat.le_of_ble_eq_true rfl, Nat.le_of_ble_eq_true rfl⟩) (cl_preV hPc hKc hDc hN (ci := 6) 0 rfl rfl) rfl rfl hl.1 rfl (lv_room (Nat.le_of_ble_eq_true rfl)) d_Law_law_184 ⟨by show _ ≤ 1092; omega, by show _ ≤ 11944; omega⟩)) (fun r u H locs hw hP hD hS => ?_)
  obtain ⟨hw1, hw2⟩ := hw
  have hw1 := hw1.symm
  have hw2 := hw2.symm
  subst hw1
  subst hw2
  have hP : va_P (dC, dI) vwCl (uw_HT ad_ht cA_ht (ad_rd 0) (ad_sp 0) (ad_mx 0) (ad_ar 0) (ad_tb 0) (ad_tc 0) ht ++ (uw_Reader ad_rd cA_rd u4.2.2 ++ (uw_Speller ad_sp cA_sp sp ++ (uw_Mixture ad_mx cA_mx mx ++ (uw_Surroundings ad_ar cA_ar ar ++ (uw_Table ad_tb cA_tb tb ++ (uw_Table ad_tc cA_tc tc ++ (uw_Out ad_ot cA_ot u4.2.1 ++ (uw_Model ad_md cA_md u8.2))))))))) H := hP
  have hD : va_D A (uw_HT ad_ht cA_ht (ad_rd 0) (ad_sp 0) (ad_mx 0) (ad_ar 0) (ad_tb 0) (ad_tc 0) ht ++ (uw_Reader ad_rd cA_rd u4.2.2 ++ (uw_Speller ad_sp cA_sp sp ++ (uw_Mixture ad_mx cA_mx mx ++ (uw_Surroundings ad_ar cA_ar ar ++ (uw_Table ad_tb cA_tb tb ++ (uw_Table ad_tc cA_tc tc ++ (uw_Out ad_ot cA_ot u4.2.1 ++ (uw_Model ad_md cA_md u8.2))))))))) := hD
  refine lv_istore (lv' := [(6, .int u8.1), (5, .int u4.1), (0, .ref b), (1, .ref (ad_ht 0)), (2, .ref (ad_md 0)), (3, .ref (ad_ot 1)), (4, .int y4)]) hx hb d_Law_law_187 hl (by decide) rfl (fun ls hl => ?_)
  refine lv_aload_n hx hb d_Law_law_189 rfl (lv_at hl 4 rfl) ?_
  obtain ⟨u9, hu9, hf⟩ := Option.bind_eq_some_iff.mp hf
  refine cl_i (wc := (uw_Model ad_md cA_md u8.2)) (wr := (uw_HT ad_ht cA_ht (ad_rd 0) (ad_sp 0) (ad_mx 0) (ad_ar 0) (ad_tb 0) (ad_tc 0) ht ++ (uw_Reader ad_rd cA_rd u4.2.2 ++ (uw_Speller ad_sp cA_sp sp ++ (uw_Mixture ad_mx cA_mx mx ++ (uw_Surroundings ad_ar cA_ar ar ++ (uw_Table ad_tb cA_tb tb ++ (uw_Table ad_tc cA_tc tc ++ (uw_Out ad_ot cA_ot u4.2.1))))))))) (tysC := [(cA_md 1, .int), (cA_md 2, .int), (cA_md 3, .int), (cA_md 4, .int), (cA_md 5, .int), (cA_md 6, .int), (cA_md 7, .int), (cA_md 8, .int), (cA_md 9, .boolean), (cA_md 10, .int), (cA_md 11, .int), (cA_md 12, .int), (cA_md 13, .int)]) (wu := fun (u : Unit) => (uw_Model ad_md cA_md u8.2)) (wn := fun (u : Unit) => (uw_HT ad_ht cA_ht (ad_rd 0) (ad_sp 0) (ad_mx 0) (ad_ar 0) (ad_tb 0) (ad_tc 0) ht ++ (uw_Reader ad_rd cA_rd u4.2.2 ++ (uw_Speller ad_sp cA_sp sp ++ (uw_Mixture ad_mx cA_mx mx ++ (uw_Surroundings ad_ar cA_ar ar ++ (uw_Table ad_tb cA_tb tb ++ (uw_Table ad_tc cA_tc tc ++ (uw_Out ad_ot cA_ot u4.2.1 ++ (uw_Model ad_md cA_md u8.2)))))))))) [28, 29, 30, 31, 32, 33, 34, 35, 36, 37, 38, 39, 40, 41] [0, 1, 2, 3, 4, 5, 6, 7, 8, 9, 10, 11, 12, 13, 14, 15, 16, 17, 18, 19, 20, 21, 22, 23, 24, 25, 26, 27] [0, 1, 2, 3, 4, 5, 6, 7, 8, 9, 10, 11, 12, 13, 14, 15, 16, 17, 18, 19, 20, 21, 22, 23, 24, 25, 26, 27, 28, 29, 30, 31, 32, 33, 34, 35, 36, 37, 38, 39, 40, 41] [21, 22, 23, 24, 25, 26, 27, 28, 29, 30, 31, 32, 33] hP hD hS hA hK rfl rfl (by decide +kernel) (by decide +kernel) (by decide +kernel) rfl (fun _ => rfl) (by decide +kernel) (fun hPc hKc hDc => (va_runV (As := []) (rest := []) ⟨hx, hb, hml, hown, hts⟩ (k_Model_thrown l dC dI ad_md cA_md H.size u8.2 u9 hu9) (cwV 0 hts (gV wd_839 wd_840 wd_841 wd_49 wd_842) rfl rfl rfl (by decide +kernel) ⟨Nat.le_of_ble_eq_true rfl, Nat.le_of_ble_eq_true rfl⟩) (cl_preV hPc hKc hDc hN (ci := 6) 0 rfl rfl) rfl rfl hl.1 rfl (lv_room (Nat.le_of_ble_eq_true rfl)) d_Law_law_190 ⟨by show _ ≤ 1092; omega, by show _ ≤ 11944; omega⟩)) (fun r u H locs hw hP hD hS => ?_)
  have hw := hw.symm
  subst hw
  have hP : va_P (dC, dI) vwCl (uw_HT ad_ht cA_ht (ad_rd 0) (ad_sp 0) (ad_mx 0) (ad_ar 0) (ad_tb 0) (ad_tc 0) ht ++ (uw_Reader ad_rd cA_rd u4.2.2 ++ (uw_Speller ad_sp cA_sp sp ++ (uw_Mixture ad_mx cA_mx mx ++ (uw_Surroundings ad_ar cA_ar ar ++ (uw_Table ad_tb cA_tb tb ++ (uw_Table ad_tc cA_tc tc ++ (uw_Out ad_ot cA_ot u4.2.1 ++ (uw_Model ad_md cA_md u8.2))))))))) H := hP
  have hD : va_D A (uw_HT ad_ht cA_ht (ad_rd 0) (ad_sp 0) (ad_mx 0) (ad_ar 0) (ad_tb 0) (ad_tc 0) ht ++ (uw_Reader ad_rd cA_rd u4.2.2 ++ (uw_Speller ad_sp cA_sp sp ++ (uw_Mixture ad_mx cA_mx mx ++ (uw_Surroundings ad_ar cA_ar ar ++ (uw_Table ad_tb cA_tb tb ++ (uw_Table ad_tc cA_tc tc ++ (uw_Out ad_ot cA_ot u4.2.1 ++ (uw_Model ad_md cA_md u8.2))))))))) := hD
  refine lv_iload hx hb d_Law_law_193 (lv_at hl 1 rfl) ?_
  refine lv_icmp_eq (tgt := 200) hx hb d_Law_law_195 (by decide) (fun hc10 => ?_) (fun hc10 => ?_)
  · have hf := hf_t hf hc10
    refine lv_iload hx hb d_Law_law_200 (lv_at hl 1 rfl) ?_
    refine lv_if_ne (tgt := 217) hx hb d_Law_law_202 (by decide) (fun hc11 => ?_) (fun hc11 => ?_)
    · have hf := hf_f hf hc11
      refine lv_goto (tgt := 1166) hx hb d_Law_law_217 (by decide) ?_
      refine lv_iinc (v := y4 + (4 : Int32)) (lv' := [(4, .int (y4 + (4 : Int32))), (6, .int u8.1), (5, .int u4.1), (0, .ref b), (1, .ref (ad_ht 0)), (2, .ref (ad_md 0)), (3, .ref (ad_ot 1))]) hx hb d_Law_law_1166 hl (k := 6) rfl rfl (by decide) rfl (fun ls hl => ?_)
      refine lv_goto (tgt := 23) hx hb d_Law_law_1169 (by decide) ?_
      refine W.widen (k := cs + 1) (n := sl + 6) (by omega) (by omega) ?_
      exact hk ad_ht cA_ht ad_rd cA_rd ad_sp cA_sp ad_mx cA_mx ad_ar cA_ar ad_tb cA_tb ad_tc cA_tc ad_ot cA_ot ad_md cA_md ht u4.2.2 sp mx ar tb tc u4.2.1 u8.2 (y4 + (4 : Int32)) H locs ls hf hK hP hD hS (lv_sub hl [3, 4, 5, 6, 0] rfl)
    · have hf := hf_t hf hc11
      refine lv_aload_n hx hb d_Law_law_205 rfl (lv_at hl 5 rfl) ?_
      refine lv_iconst (v := (0 : Int32)) hx hb d_Law_law_206 (by decide) ?_
      obtain ⟨hi12, hf⟩ := hf_g hf
      refine va_lald hx hb hK hP 27 20 rfl rfl hi12 d_Law_law_207 ?_
      refine lv_iload hx hb d_Law_law_208 (lv_at hl 0 rfl) ?_
      refine lv_i2l (v := u8.1.toInt64) hx hb d_Law_law_210 rfl ?_
      refine W.lcmp hx hb d_Law_law_211 ?_
      refine lv_if_eq (tgt := 217) hx hb d_Law_law_212 (by decide) (fun hc13 => ?_) (fun hc13 => ?_)
      · have hf := hf_t hf hc13
        refine lv_goto (tgt := 1166) hx hb d_Law_law_217 (by decide) ?_
        refine lv_iinc (v := y4 + (4 : Int32)) (lv' := [(4, .int (y4 + (4 : Int32))), (6, .int u8.1), (5, .int u4.1), (0, .ref b), (1, .ref (ad_ht 0)), (2, .ref (ad_md 0)), (3, .ref (ad_ot 1))]) hx hb d_Law_law_1166 hl (k := 6) rfl rfl (by decide) rfl (fun ls hl => ?_)
        refine lv_goto (tgt := 23) hx hb d_Law_law_1169 (by decide) ?_
        refine W.widen (k := cs + 1) (n := sl + 6) (by omega) (by omega) ?_
        exact hk ad_ht cA_ht ad_rd cA_rd ad_sp cA_sp ad_mx cA_mx ad_ar cA_ar ad_tb cA_tb ad_tc cA_tc ad_ot cA_ot ad_md cA_md ht u4.2.2 sp mx ar tb tc u4.2.1 u8.2 (y4 + (4 : Int32)) H locs ls hf hK hP hD hS (lv_sub hl [3, 4, 5, 6, 0] rfl)
      · have hf := hf_f hf hc13
        refine lv_iconst (v := (0 : Int32)) hx hb d_Law_law_215 (by decide) ?_
        have hrv : rv = false := (Option.some.inj hf).symm
        subst hrv
        refine va_forget (fun q hq => hA2 _ (hS.2.2 q hq)) ?_
        refine W.widen (k := 1092) (n := 11944) (by omega) (by omega) ?_
        exact lw_ret0b hx hb hr hlocks d_Law_law_216
  · have hf := hf_f hf hc10
    refine lv_iconst (v := (0 : Int32)) hx hb d_Law_law_198 (by decide) ?_
    have hrv : rv = false := (Option.some.inj hf).symm
    subst hrv
    refine va_forget (fun q hq => hA2 _ (hS.2.2 q hq)) ?_
    refine W.widen (k := 1092) (n := 11944) (by omega) (by omega) ?_
    exact lw_ret0b hx hb hr hlocks d_Law_law_199
noncomputable def f_Law_case_220 (L : Nat) (xs : Nat → Int32) (k : SHT → SReader → SSpeller → SMixture → SSurroundings → STable → STable → SOut → SModel → Int32 → Option Bool) (ht : SHT) (rd : SReader) (sp : SSpeller) (mx : SMixture) (ar : SSurroundings) (tb : STable) (tc : STable) (ot : SOut) (md : SModel) (y4 : Int32) : Option Bool :=
  (Option.bind (f_Law_read ht ot rd sp mx tc) fun u1 =>
    (if u1.2.2.2.2.2.2.2 = true then
      (Option.bind (f_Model_read md) fun u3 =>
        (Option.bind (f_Model_thrown u3.2) fun u4 =>
          (if u4 = u1.1 then
            (if u1.1 = 0 then
              (if inb (0 : Int32) 1 then
                (if (lg_cmp (u1.2.2.1 (0 : Int32).toNatClampNeg) u3.1.toInt64) = 0 then
                  (k u1.2.1 u1.2.2.2.1 u1.2.2.2.2.1 u1.2.2.2.2.2.1 ar u1.2.2.2.2.2.2.1 tb u1.2.2.1 u3.2 (y4 + (4 : Int32)))
                 else
                  (some false)
                 )
               else none)
             else
              (k u1.2.1 u1.2.2.2.1 u1.2.2.2.2.1 u1.2.2.2.2.2.1 ar u1.2.2.2.2.2.2.1 tb u1.2.2.1 u3.2 (y4 + (4 : Int32)))
             )
           else
            (some false)
           )
         )
       )
     else
      (Option.bind (f_Model_read md) fun u9 =>
        (Option.bind (f_Model_thrown u9.2) fun u10 =>
          (if u10 = u1.1 then
            (if u1.1 = 0 then
              (if inb (0 : Int32) 1 then
                (if (lg_cmp (u1.2.2.1 (0 : Int32).toNatClampNeg) u9.1.toInt64) = 0 then
                  (k u1.2.1 u1.2.2.2.1 u1.2.2.2.2.1 u1.2.2.2.2.2.1 ar tb u1.2.2.2.2.2.2.1 u1.2.2.1 u9.2 (y4 + (4 : Int32)))
                 else
                  (some false)
                 )
               else none)
             else
              (k u1.2.1 u1.2.2.2.1 u1.2.2.2.2.1 u1.2.2.2.2.2.1 ar tb u1.2.2.2.2.2.2.1 u1.2.2.1 u9.2 (y4 + (4 : Int32)))
             )
           else
            (some false)
           )
         )
       )
     ))
set_option maxHeartbeats 4000000 in
set_option maxRecDepth 100000 in
theorem k_Law_case_220 {rv : Bool} {p : Program} {l : Launch} {e : Env} {s : State} {m : MethodId} {below : List Frame} {meth : Method} {c : Code} {dC : Nat → ClassId} {dI : Nat → Nat → Nat} {b L : Nat} {xs : Nat → Int32} {A : Nat → Prop} (htr : l.stackTraces = false) (C0 : lw_At p s m meth c b L xs) (hN : nwAll s) (hX : xAll A s) (hnc : ncAll s) (hA : ∀ q : Nat, s.heap.size ≤ q → A q) (hA2 : ∀ q : Nat, A q → s.heap.size ≤ q) (cs sl : Nat) (hcs : cs + 1 ≤ 1092) (hsl : sl + 6 ≤ 11944) (k : SHT → SReader → SSpeller → SMixture → SSurroundings → STable → STable → SOut → SModel → Int32 → Option Bool) (hk : ∀ (ad_ht : Nat → Nat) (cA_ht : Nat → ClassId) (ad_rd : Nat → Nat) (cA_rd : Nat → ClassId) (ad_sp : Nat → Nat) (cA_sp : Nat → ClassId) (ad_mx : Nat → Nat) (cA_mx : Nat → ClassId) (ad_ar : Nat → Nat) (cA_ar : Nat → ClassId) (ad_tb : Nat → Nat) (cA_tb : Nat → ClassId) (ad_tc : Nat → Nat) (cA_tc : Nat → ClassId) (ad_ot : Nat → Nat) (cA_ot : Nat → ClassId) (ad_md : Nat → Nat) (cA_md : Nat → ClassId) (ht : SHT) (rd : SReader) (sp : SSpeller) (mx : SMixture) (ar : SSurroundings) (tb : STable) (tc : STable) (ot : SOut) (md : SModel) (y4 : Int32) (H : Heap) (locs : List Loc) (ls : Array Slot), k ht rd sp mx ar tb tc ot md y4 = some rv → va_K (dC, dI) vwCl [(cA_ht 1, .int), (cA_rd 1, .int), (cA_sp 1, .int), (cA_sp 2, .int), (cA_sp 3, .int), (cA_sp 4, .int), (cA_mx 1, .int), (cA_mx 2, .int), (cA_mx 3, .boolean), (cA_ar 1, .int), (cA_ar 2, .int), (cA_ar 3, .int), (cA_tb 1, .int), (cA_tb 2, .int), (cA_tb 3, .int), (cA_tb 4, .byte), (cA_tc 1, .int), (cA_tc 2, .int), (cA_tc 3, .int), (cA_tc 4, .byte), (cA_ot 1, .long), (cA_md 1, .int), (cA_md 2, .int), (cA_md 3, .int), (cA_md 4, .int), (cA_md 5, .int), (cA_md 6, .int), (cA_md 7, .int), (cA_md 8, .int), (cA_md 9, .boolean), (cA_md 10, .int), (cA_md 11, .int), (cA_md 12, .int), (cA_md 13, .int)] s → va_P (dC, dI) vwCl (uw_HT ad_ht cA_ht (ad_rd 0) (ad_sp 0) (ad_mx 0) (ad_ar 0) (ad_tb 0) (ad_tc 0) ht ++ (uw_Reader ad_rd cA_rd rd ++ (uw_Speller ad_sp cA_sp sp ++ (uw_Mixture ad_mx cA_mx mx ++ (uw_Surroundings ad_ar cA_ar ar ++ (uw_Table ad_tb cA_tb tb ++ (uw_Table ad_tc cA_tc tc ++ (uw_Out ad_ot cA_ot ot ++ (uw_Model ad_md cA_md md))))))))) H → va_D A (uw_HT ad_ht cA_ht (ad_rd 0) (ad_sp 0) (ad_mx 0) (ad_ar 0) (ad_tb 0) (ad_tc 0) ht ++ (uw_Reader ad_rd cA_rd rd ++ (uw_Speller ad_sp cA_sp sp ++ (uw_Mixture ad_mx cA_mx mx ++ (uw_Surroundings ad_ar cA_ar ar ++ (uw_Table ad_tb cA_tb tb ++ (uw_Table ad_tc cA_tc tc ++ (uw_Out ad_ot cA_ot ot ++ (uw_Model ad_md cA_md md))))))))) → va_S A s.heap H locs → lv_has ls 7 [(0, .ref b), (1, .ref (ad_ht 0)), (2, .ref (ad_md 0)), (3, .ref (ad_ot 1)), (4, .int y4)] → W p l e room_1 s m #[Value.ref b] below meth c H locs (cs + 1) (sl + 6) (lw_Zb rv below #[Value.ref b] s) (F0 m 23 ls [])) : ∀ (ad_ht : Nat → Nat) (cA_ht : Nat → ClassId) (ad_rd : Nat → Nat) (cA_rd : Nat → ClassId) (ad_sp : Nat → Nat) (cA_sp : Nat → ClassId) (ad_mx : Nat → Nat) (cA_mx : Nat → ClassId) (ad_ar : Nat → Nat) (cA_ar : Nat → ClassId) (ad_tb : Nat → Nat) (cA_tb : Nat → ClassId) (ad_tc : Nat → Nat) (cA_tc : Nat → ClassId) (ad_ot : Nat → Nat) (cA_ot : Nat → ClassId) (ad_md : Nat → Nat) (cA_md : Nat → ClassId) (ht : SHT) (rd : SReader) (sp : SSpeller) (mx : SMixture) (ar : SSurroundings) (tb : STable) (tc : STable) (ot : SOut) (md : SModel) (y4 : Int32) (H : Heap) (locs : List Loc) (ls : Array Slot), f_Law_case_220 L xs k ht rd sp mx ar tb tc ot md y4 = some rv → va_K (dC, dI) vwCl [(cA_ht 1, .int), (cA_rd 1, .int), (cA_sp 1, .int), (cA_sp 2, .int), (cA_sp 3, .int), (cA_sp 4, .int), (cA_mx 1, .int), (cA_mx 2, .int), (cA_mx 3, .boolean), (cA_ar 1, .int), (cA_ar 2, .int), (cA_ar 3, .int), (cA_tb 1, .int), (cA_tb 2, .int), (cA_tb 3, .int), (cA_tb 4, .byte), (cA_tc 1, .int), (cA_tc 2, .int), (cA_tc 3, .int), (cA_tc 4, .byte), (cA_ot 1, .long), (cA_md 1, .int), (cA_md 2, .int), (cA_md 3, .int), (cA_md 4, .int), (cA_md 5, .int), (cA_md 6, .int), (cA_md 7, .int), (cA_md 8, .int), (cA_md 9, .boolean), (cA_md 10, .int), (cA_md 11, .int), (cA_md 12, .int), (cA_md 13, .int)] s → va_P (dC, dI) vwCl (uw_HT ad_ht cA_ht (ad_rd 0) (ad_sp 0) (ad_mx 0) (ad_ar 0) (ad_tb 0) (ad_tc 0) ht ++ (uw_Reader ad_rd cA_rd rd ++ (uw_Speller ad_sp cA_sp sp ++ (uw_Mixture ad_mx cA_mx mx ++ (uw_Surroundings ad_ar cA_ar ar ++ (uw_Table ad_tb cA_tb tb ++ (uw_Table ad_tc cA_tc tc ++ (uw_Out ad_ot cA_ot ot ++ (uw_Model ad_md cA_md md))))))))) H → va_D A (uw_HT ad_ht cA_ht (ad_rd 0) (ad_sp 0) (ad_mx 0) (ad_ar 0) (ad_tb 0) (ad_tc 0) ht ++ (uw_Reader ad_rd cA_rd rd ++ (uw_Speller ad_sp cA_sp sp ++ (uw_Mixture ad_mx cA_mx mx ++ (uw_Surroundings ad_ar cA_ar ar ++ (uw_Table ad_tb cA_tb tb ++ (uw_Table ad_tc cA_tc tc ++ (uw_Out ad_ot cA_ot ot ++ (uw_Model ad_md cA_md md))))))))) → va_S A s.heap H locs → lv_has ls 7 [(0, .ref b), (1, .ref (ad_ht 0)), (2, .ref (ad_md 0)), (3, .ref (ad_ot 1)), (4, .int y4)] → W p l e room_1 s m #[Value.ref b] below meth c H locs cs sl (lw_Zb rv below #[Value.ref b] s) (F0 m 220 ls []) := by
  obtain ⟨hx, hb, hr, hml, hown, hts0, hX0, hbl, hlocks, hgv⟩ := C0
  have hown : s.vm.findClass "HazardTablesLaw" = some m.cls := hown
  have hts : ∀ w ∈ (Cond.initialized "HazardTables" :: WA), w.before #[Value.ref b] s = true := fun w h => hts0 w ((List.mem_cons.mp h).elim (fun e => by rw [e]; exact (List.mem_filter.mp wd_43).1) (fun h => (List.mem_filter.mp h).1))
  have hbA : ¬ A b := fun h => absurd (hA2 b h) (Nat.not_le.mpr hbl)
  intro ad_ht cA_ht ad_rd cA_rd ad_sp cA_sp ad_mx cA_mx ad_ar cA_ar ad_tb cA_tb ad_tc cA_tc ad_ot cA_ot ad_md cA_md ht rd sp mx ar tb tc ot md y4 H locs ls hf hK hP hD hS hl
  unfold f_Law_case_220 at hf
  refine lv_aload_n hx hb d_Law_law_220 rfl (lv_at hl 1 rfl) ?_
  refine lv_aload_n hx hb d_Law_law_221 rfl (lv_at hl 3 rfl) ?_
  obtain ⟨u1, hu1, hf⟩ := Option.bind_eq_some_iff.mp hf
  refine cl_i (wc := (uw_HT ad_ht cA_ht (ad_rd 0) (ad_sp 0) (ad_mx 0) (ad_ar 0) (ad_tb 0) (ad_tc 0) ht ++ (uw_Out ad_ot cA_ot ot ++ (uw_Reader ad_rd cA_rd rd ++ (uw_Speller ad_sp cA_sp sp ++ (uw_Mixture ad_mx cA_mx mx ++ (uw_Table ad_tc cA_tc tc))))))) (wr := (uw_Surroundings ad_ar cA_ar ar ++ (uw_Table ad_tb cA_tb tb ++ (uw_Model ad_md cA_md md)))) (tysC := [(cA_ht 1, .int), (cA_ot 1, .long), (cA_rd 1, .int), (cA_sp 1, .int), (cA_sp 2, .int), (cA_sp 3, .int), (cA_sp 4, .int), (cA_mx 1, .int), (cA_mx 2, .int), (cA_mx 3, .boolean), (cA_tc 1, .int), (cA_tc 2, .int), (cA_tc 3, .int), (cA_tc 4, .byte)]) (wu := fun (u : SHT × SOut × SReader × SSpeller × SMixture × STable × Bool) => (uw_HT ad_ht cA_ht (ad_rd 0) (ad_sp 0) (ad_mx 0) (ad_ar 0) (bif u.2.2.2.2.2.2 then ad_tc 0 else ad_tb 0) (bif u.2.2.2.2.2.2 then ad_tb 0 else ad_tc 0) u.1 ++ (uw_Out ad_ot cA_ot u.2.1 ++ (uw_Reader ad_rd cA_rd u.2.2.1 ++ (uw_Speller ad_sp cA_sp u.2.2.2.1 ++ (uw_Mixture ad_mx cA_mx u.2.2.2.2.1 ++ (uw_Table ad_tc cA_tc u.2.2.2.2.2.1))))))) (wn := fun (u : SHT × SOut × SReader × SSpeller × SMixture × STable × Bool) => (uw_HT ad_ht cA_ht (ad_rd 0) (ad_sp 0) (ad_mx 0) (ad_ar 0) (bif u.2.2.2.2.2.2 then ad_tc 0 else ad_tb 0) (bif u.2.2.2.2.2.2 then ad_tb 0 else ad_tc 0) u.1 ++ (uw_Reader ad_rd cA_rd u.2.2.1 ++ (uw_Speller ad_sp cA_sp u.2.2.2.1 ++ (uw_Mixture ad_mx cA_mx u.2.2.2.2.1 ++ (uw_Surroundings ad_ar cA_ar ar ++ (uw_Table ad_tb cA_tb tb ++ (uw_Table ad_tc cA_tc u.2.2.2.2.2.1 ++ (uw_Out ad_ot cA_ot u.2.1 ++ (uw_Model ad_md cA_md md)))))))))) [0, 1, 27, 2, 3, 4, 5, 6, 7, 8, 9, 10, 11, 12, 22, 23, 24, 25, 26] [13, 14, 15, 16, 17, 18, 19, 20, 21, 28, 29, 30, 31, 32, 33, 34, 35, 36, 37, 38, 39, 40, 41] [23, 24, 26, 27, 28, 29, 30, 31, 32, 33, 34, 35, 36, 0, 1, 2, 3, 4, 5, 6, 7, 8, 37, 38, 39, 40, 41, 25, 9, 10, 11, 12, 13, 14, 15, 16, 17, 18, 19, 20, 21, 22] [0, 20, 1, 2, 3, 4, 5, 6, 7, 8, 16, 17, 18, 19] hP hD hS hA hK rfl rfl (by decide +kernel) (by decide +kernel) (by decide +kernel) rfl (fun _ => rfl) (by decide +kernel) (fun hPc hKc hDc => (vx_runSW (As := [.ref (ad_ht 0), .ref (ad_ot 1)]) (rest := []) ⟨hx, hb, hml, hown, hts⟩ (k_Law_read l dC dI ad_ht cA_ht ad_ot cA_ot ad_rd cA_rd ad_sp cA_sp ad_mx cA_mx ad_tc cA_tc ad_ar cA_ar ad_tb cA_tb H.size ht ot rd sp mx tc u1 hu1 htr) (vx_cwSW 2 hts (gSW wd_342 wd_343 wd_42 wd_344) rfl rfl rfl (by decide +kernel) ⟨Nat.le_of_ble_eq_true rfl, Nat.le_of_ble_eq_true rfl⟩) (cx_preL hPc hKc hDc hN (fun U hU hW => xAll_at hX hS (va_free hD hS hA [0, 1, 27, 2, 3, 4, 5, 6, 7, 8, 9, 10, 11, 12, 22, 23, 24, 25, 26] rfl) hU hW) hnc) rfl rfl hl.1 rfl (lv_room (Nat.le_of_ble_eq_true rfl)) d_Law_law_222 ⟨by show _ ≤ 1092; omega, by show _ ≤ 11944; omega⟩)) (fun r u H locs hw hP hD hS => ?_)
  obtain ⟨hw1, hw2⟩ := hw
  have hw1 := hw1.symm
  have hw2 := hw2.symm
  subst hw1
  subst hw2
  have hP : va_P (dC, dI) vwCl (uw_HT ad_ht cA_ht (ad_rd 0) (ad_sp 0) (ad_mx 0) (ad_ar 0) (bif u1.2.2.2.2.2.2.2 then ad_tc 0 else ad_tb 0) (bif u1.2.2.2.2.2.2.2 then ad_tb 0 else ad_tc 0) u1.2.1 ++ (uw_Reader ad_rd cA_rd u1.2.2.2.1 ++ (uw_Speller ad_sp cA_sp u1.2.2.2.2.1 ++ (uw_Mixture ad_mx cA_mx u1.2.2.2.2.2.1 ++ (uw_Surroundings ad_ar cA_ar ar ++ (uw_Table ad_tb cA_tb tb ++ (uw_Table ad_tc cA_tc u1.2.2.2.2.2.2.1 ++ (uw_Out ad_ot cA_ot u1.2.2.1 ++ (uw_Model ad_md cA_md md))))))))) H := hP
  have hD : va_D A (uw_HT ad_ht cA_ht (ad_rd 0) (ad_sp 0) (ad_mx 0) (ad_ar 0) (bif u1.2.2.2.2.2.2.2 then ad_tc 0 else ad_tb 0) (bif u1.2.2.2.2.2.2.2 then ad_tb 0 else ad_tc 0) u1.2.1 ++ (uw_Reader ad_rd cA_rd u1.2.2.2.1 ++ (uw_Speller ad_sp cA_sp u1.2.2.2.2.1 ++ (uw_Mixture ad_mx cA_mx u1.2.2.2.2.2.1 ++ (uw_Surroundings ad_ar cA_ar ar ++ (uw_Table ad_tb cA_tb tb ++ (uw_Table ad_tc cA_tc u1.2.2.2.2.2.2.1 ++ (uw_Out ad_ot cA_ot u1.2.2.1 ++ (uw_Model ad_md cA_md md))))))))) := hD
  by_cases hc2 : u1.2.2.2.2.2.2.2 = true
  · have hf := hf_t hf hc2
    rw [hc2] at hP hD
    have hP : va_P (dC, dI) vwCl (uw_HT ad_ht cA_ht (ad_rd 0) (ad_sp 0) (ad_mx 0) (ad_ar 0) (ad_tc 0) (ad_tb 0) u1.2.1 ++ (uw_Reader ad_rd cA_rd u1.2.2.2.1 ++ (uw_Speller ad_sp cA_sp u1.2.2.2.2.1 ++ (uw_Mixture ad_mx cA_mx u1.2.2.2.2.2.1 ++ (uw_Surroundings ad_ar cA_ar ar ++ (uw_Table ad_tb cA_tb tb ++ (uw_Table ad_tc cA_tc u1.2.2.2.2.2.2.1 ++ (uw_Out ad_ot cA_ot u1.2.2.1 ++ (uw_Model ad_md cA_md md))))))))) H := hP
    have hD : va_D A (uw_HT ad_ht cA_ht (ad_rd 0) (ad_sp 0) (ad_mx 0) (ad_ar 0) (ad_tc 0) (ad_tb 0) u1.2.1 ++ (uw_Reader ad_rd cA_rd u1.2.2.2.1 ++ (uw_Speller ad_sp cA_sp u1.2.2.2.2.1 ++ (uw_Mixture ad_mx cA_mx u1.2.2.2.2.2.1 ++ (uw_Surroundings ad_ar cA_ar ar ++ (uw_Table ad_tb cA_tb tb ++ (uw_Table ad_tc cA_tc u1.2.2.2.2.2.2.1 ++ (uw_Out ad_ot cA_ot u1.2.2.1 ++ (uw_Model ad_md cA_md md))))))))) := hD
    refine lv_istore (lv' := [(5, .int u1.1), (0, .ref b), (1, .ref (ad_ht 0)), (2, .ref (ad_md 0)), (3, .ref (ad_ot 1)), (4, .int y4)]) hx hb d_Law_law_225 hl (by decide) rfl (fun ls hl => ?_)
    refine lv_aload_n hx hb d_Law_law_227 rfl (lv_at hl 3 rfl) ?_
    obtain ⟨u3, hu3, hf⟩ := Option.bind_eq_some_iff.mp hf
    refine cl_i (wc := (uw_Model ad_md cA_md md)) (wr := (uw_HT ad_ht cA_ht (ad_rd 0) (ad_sp 0) (ad_mx 0) (ad_ar 0) (ad_tc 0) (ad_tb 0) u1.2.1 ++ (uw_Reader ad_rd cA_rd u1.2.2.2.1 ++ (uw_Speller ad_sp cA_sp u1.2.2.2.2.1 ++ (uw_Mixture ad_mx cA_mx u1.2.2.2.2.2.1 ++ (uw_Surroundings ad_ar cA_ar ar ++ (uw_Table ad_tb cA_tb tb ++ (uw_Table ad_tc cA_tc u1.2.2.2.2.2.2.1 ++ (uw_Out ad_ot cA_ot u1.2.2.1))))))))) (tysC := [(cA_md 1, .int), (cA_md 2, .int), (cA_md 3, .int), (cA_md 4, .int), (cA_md 5, .int), (cA_md 6, .int), (cA_md 7, .int), (cA_md 8, .int), (cA_md 9, .boolean), (cA_md 10, .int), (cA_md 11, .int), (cA_md 12, .int), (cA_md 13, .int)]) (wu := fun (u : SModel) => (uw_Model ad_md cA_md u)) (wn := fun (u : SModel) => (uw_HT ad_ht cA_ht (ad_rd 0) (ad_sp 0) (ad_mx 0) (ad_ar 0) (ad_tc 0) (ad_tb 0) u1.2.1 ++ (uw_Reader ad_rd cA_rd u1.2.2.2.1 ++ (uw_Speller ad_sp cA_sp u1.2.2.2.2.1 ++ (uw_Mixture ad_mx cA_mx u1.2.2.2.2.2.1 ++ (uw_Surroundings ad_ar cA_ar ar ++ (uw_Table ad_tb cA_tb tb ++ (uw_Table ad_tc cA_tc u1.2.2.2.2.2.2.1 ++ (uw_Out ad_ot cA_ot u1.2.2.1 ++ (uw_Model ad_md cA_md u)))))))))) [28, 29, 30, 31, 32, 33, 34, 35, 36, 37, 38, 39, 40, 41] [0, 1, 2, 3, 4, 5, 6, 7, 8, 9, 10, 11, 12, 13, 14, 15, 16, 17, 18, 19, 20, 21, 22, 23, 24, 25, 26, 27] [0, 1, 2, 3, 4, 5, 6, 7, 8, 9, 10, 11, 12, 13, 14, 15, 16, 17, 18, 19, 20, 21, 22, 23, 24, 25, 26, 27, 28, 29, 30, 31, 32, 33, 34, 35, 36, 37, 38, 39, 40, 41] [21, 22, 23, 24, 25, 26, 27, 28, 29, 30, 31, 32, 33] hP hD hS hA hK rfl rfl (by decide +kernel) (by decide +kernel) (by decide +kernel) rfl (fun _ => rfl) (by decide +kernel) (fun hPc hKc hDc => (va_runV (As := []) (rest := []) ⟨hx, hb, hml, hown, hts⟩ (k_Model_read l dC dI ad_md cA_md H.size md u3 hu3) (cwV 0 hts (gV wd_854 wd_855 wd_856 wd_49 wd_857) rfl rfl rfl (by decide +kernel) ⟨Nat.le_of_ble_eq_true rfl, Nat.le_of_ble_eq_true rfl⟩) (cl_preV hPc hKc hDc hN (ci := 6) 0 rfl rfl) rfl rfl hl.1 rfl (lv_room (Nat.le_of_ble_eq_true rfl)) d_Law_law_228 ⟨by show _ ≤ 1092; omega, by show _ ≤ 11944; omega⟩)) (fun r u H locs hw hP hD hS => ?_)
    obtain ⟨hw1, hw2⟩ := hw
    have hw1 := hw1.symm
    have hw2 := hw2.symm
    subst hw1
    subst hw2
    have hP : va_P (dC, dI) vwCl (uw_HT ad_ht cA_ht (ad_rd 0) (ad_sp 0) (ad_mx 0) (ad_ar 0) (ad_tc 0) (ad_tb 0) u1.2.1 ++ (uw_Reader ad_rd cA_rd u1.2.2.2.1 ++ (uw_Speller ad_sp cA_sp u1.2.2.2.2.1 ++ (uw_Mixture ad_mx cA_mx u1.2.2.2.2.2.1 ++ (uw_Surroundings ad_ar cA_ar ar ++ (uw_Table ad_tb cA_tb tb ++ (uw_Table ad_tc cA_tc u1.2.2.2.2.2.2.1 ++ (uw_Out ad_ot cA_ot u1.2.2.1 ++ (uw_Model ad_md cA_md u3.2))))))))) H := hP
    have hD : va_D A (uw_HT ad_ht cA_ht (ad_rd 0) (ad_sp 0) (ad_mx 0) (ad_ar 0) (ad_tc 0) (ad_tb 0) u1.2.1 ++ (uw_Reader ad_rd cA_rd u1.2.2.2.1 ++ (uw_Speller ad_sp cA_sp u1.2.2.2.2.1 ++ (uw_Mixture ad_mx cA_mx u1.2.2.2.2.2.1 ++ (uw_Surroundings ad_ar cA_ar ar ++ (uw_Table ad_tb cA_tb tb ++ (uw_Table ad_tc cA_tc u1.2.2.2.2.2.2.1 ++ (uw_Out ad_ot cA_ot u1.2.2.1 ++ (uw_Model ad_md cA_md u3.2))))))))) := hD
    refine lv_istore (lv' := [(6, .int u3.1), (5, .int u1.1), (0, .ref b), (1, .ref (ad_ht 0)), (2, .ref (ad_md 0)), (3, .ref (ad_ot 1)), (4, .int y4)]) hx hb d_Law_law_231 hl (by decide) rfl (fun ls hl => ?_)
    refine lv_aload_n hx hb d_Law_law_233 rfl (lv_at hl 4 rfl) ?_
    obtain ⟨u4, hu4, hf⟩ := Option.bind_eq_some_iff.mp hf
    refine cl_i (wc := (uw_Model ad_md cA_md u3.2)) (wr := (uw_HT ad_ht cA_ht (ad_rd 0) (ad_sp 0) (ad_mx 0) (ad_ar 0) (ad_tc 0) (ad_tb 0) u1.2.1 ++ (uw_Reader ad_rd cA_rd u1.2.2.2.1 ++ (uw_Speller ad_sp cA_sp u1.2.2.2.2.1 ++ (uw_Mixture ad_mx cA_mx u1.2.2.2.2.2.1 ++ (uw_Surroundings ad_ar cA_ar ar ++ (uw_Table ad_tb cA_tb tb ++ (uw_Table ad_tc cA_tc u1.2.2.2.2.2.2.1 ++ (uw_Out ad_ot cA_ot u1.2.2.1))))))))) (tysC := [(cA_md 1, .int), (cA_md 2, .int), (cA_md 3, .int), (cA_md 4, .int), (cA_md 5, .int), (cA_md 6, .int), (cA_md 7, .int), (cA_md 8, .int), (cA_md 9, .boolean), (cA_md 10, .int), (cA_md 11, .int), (cA_md 12, .int), (cA_md 13, .int)]) (wu := fun (u : Unit) => (uw_Model ad_md cA_md u3.2)) (wn := fun (u : Unit) => (uw_HT ad_ht cA_ht (ad_rd 0) (ad_sp 0) (ad_mx 0) (ad_ar 0) (ad_tc 0) (ad_tb 0) u1.2.1 ++ (uw_Reader ad_rd cA_rd u1.2.2.2.1 ++ (uw_Speller ad_sp cA_sp u1.2.2.2.2.1 ++ (uw_Mixture ad_mx cA_mx u1.2.2.2.2.2.1 ++ (uw_Surroundings ad_ar cA_ar ar ++ (uw_Table ad_tb cA_tb tb ++ (uw_Table ad_tc cA_tc u1.2.2.2.2.2.2.1 ++ (uw_Out ad_ot cA_ot u1.2.2.1 ++ (uw_Model ad_md cA_md u3.2)))))))))) [28, 29, 30, 31, 32, 33, 34, 35, 36, 37, 38, 39, 40, 41] [0, 1, 2, 3, 4, 5, 6, 7, 8, 9, 10, 11, 12, 13, 14, 15, 16, 17, 18, 19, 20, 21, 22, 23, 24, 25, 26, 27] [0, 1, 2, 3, 4, 5, 6, 7, 8, 9, 10, 11, 12, 13, 14, 15, 16, 17, 18, 19, 20, 21, 22, 23, 24, 25, 26, 27, 28, 29, 30, 31, 32, 33, 34, 35, 36, 37, 38, 39, 40, 41] [21, 22, 23, 24, 25, 26, 27, 28, 29, 30, 31, 32, 33] hP hD hS hA hK rfl rfl (by decide +kernel) (by decide +kernel) (by decide +kernel) rfl (fun _ => rfl) (by decide +kernel) (fun hPc hKc hDc => (va_runV (As := []) (rest := []) ⟨hx, hb, hml, hown, hts⟩ (k_Model_thrown l dC dI ad_md cA_md H.size u3.2 u4 hu4) (cwV 0 hts (gV wd_839 wd_840 wd_841 wd_49 wd_842) rfl rfl rfl (by decide +kernel) ⟨Nat.le_of_ble_eq_true rfl, Nat.le_of_ble_eq_true rfl⟩) (cl_preV hPc hKc hDc hN (ci := 6) 0 rfl rfl) rfl rfl hl.1 rfl (lv_room (Nat.le_of_ble_eq_true rfl)) d_Law_law_234 ⟨by show _ ≤ 1092; omega, by show _ ≤ 11944; omega⟩)) (fun r u H locs hw hP hD hS => ?_)
    have hw := hw.symm
    subst hw
    have hP : va_P (dC, dI) vwCl (uw_HT ad_ht cA_ht (ad_rd 0) (ad_sp 0) (ad_mx 0) (ad_ar 0) (ad_tc 0) (ad_tb 0) u1.2.1 ++ (uw_Reader ad_rd cA_rd u1.2.2.2.1 ++ (uw_Speller ad_sp cA_sp u1.2.2.2.2.1 ++ (uw_Mixture ad_mx cA_mx u1.2.2.2.2.2.1 ++ (uw_Surroundings ad_ar cA_ar ar ++ (uw_Table ad_tb cA_tb tb ++ (uw_Table ad_tc cA_tc u1.2.2.2.2.2.2.1 ++ (uw_Out ad_ot cA_ot u1.2.2.1 ++ (uw_Model ad_md cA_md u3.2))))))))) H := hP
    have hD : va_D A (uw_HT ad_ht cA_ht (ad_rd 0) (ad_sp 0) (ad_mx 0) (ad_ar 0) (ad_tc 0) (ad_tb 0) u1.2.1 ++ (uw_Reader ad_rd cA_rd u1.2.2.2.1 ++ (uw_Speller ad_sp cA_sp u1.2.2.2.2.1 ++ (uw_Mixture ad_mx cA_mx u1.2.2.2.2.2.1 ++ (uw_Surroundings ad_ar cA_ar ar ++ (uw_Table ad_tb cA_tb tb ++ (uw_Table ad_tc cA_tc u1.2.2.2.2.2.2.1 ++ (uw_Out ad_ot cA_ot u1.2.2.1 ++ (uw_Model ad_md cA_md u3.2))))))))) := hD
    refine lv_iload hx hb d_Law_law_237 (lv_at hl 1 rfl) ?_
    refine lv_icmp_eq (tgt := 244) hx hb d_Law_law_239 (by decide) (fun hc5 => ?_) (fun hc5 => ?_)
    · have hf := hf_t hf hc5
      refine lv_iload hx hb d_Law_law_244 (lv_at hl 1 rfl) ?_
      refine lv_if_ne (tgt := 261) hx hb d_Law_law_246 (by decide) (fun hc6 => ?_) (fun hc6 => ?_)
      · have hf := hf_f hf hc6
        refine lv_goto (tgt := 1166) hx hb d_Law_law_261 (by decide) ?_
        refine lv_iinc (v := y4 + (4 : Int32)) (lv' := [(4, .int (y4 + (4 : Int32))), (6, .int u3.1), (5, .int u1.1), (0, .ref b), (1, .ref (ad_ht 0)), (2, .ref (ad_md 0)), (3, .ref (ad_ot 1))]) hx hb d_Law_law_1166 hl (k := 6) rfl rfl (by decide) rfl (fun ls hl => ?_)
        refine lv_goto (tgt := 23) hx hb d_Law_law_1169 (by decide) ?_
        refine W.widen (k := cs + 1) (n := sl + 6) (by omega) (by omega) ?_
        exact hk ad_ht cA_ht ad_rd cA_rd ad_sp cA_sp ad_mx cA_mx ad_ar cA_ar ad_tc cA_tc ad_tb cA_tb ad_ot cA_ot ad_md cA_md u1.2.1 u1.2.2.2.1 u1.2.2.2.2.1 u1.2.2.2.2.2.1 ar u1.2.2.2.2.2.2.1 tb u1.2.2.1 u3.2 (y4 + (4 : Int32)) H locs ls hf (hK.sub [0, 1, 2, 3, 4, 5, 6, 7, 8, 9, 10, 11, 16, 17, 18, 19, 12, 13, 14, 15, 20, 21, 22, 23, 24, 25, 26, 27, 28, 29, 30, 31, 32, 33] rfl) (hP.sub [0, 1, 2, 3, 4, 5, 6, 7, 8, 9, 10, 11, 12, 13, 14, 15, 16, 22, 23, 24, 25, 26, 17, 18, 19, 20, 21, 27, 28, 29, 30, 31, 32, 33, 34, 35, 36, 37, 38, 39, 40, 41] rfl) (hD.sub [0, 1, 2, 3, 4, 5, 6, 7, 8, 9, 10, 11, 12, 13, 14, 15, 16, 22, 23, 24, 25, 26, 17, 18, 19, 20, 21, 27, 28, 29, 30, 31, 32, 33, 34, 35, 36, 37, 38, 39, 40, 41] (by decide) rfl) hS (lv_sub hl [3, 4, 5, 6, 0] rfl)
      · have hf := hf_t hf hc6
        refine lv_aload_n hx hb d_Law_law_249 rfl (lv_at hl 5 rfl) ?_
        refine lv_iconst (v := (0 : Int32)) hx hb d_Law_law_250 (by decide) ?_
        obtain ⟨hi7, hf⟩ := hf_g hf
        refine va_lald hx hb hK hP 27 20 rfl rfl hi7 d_Law_law_251 ?_
        refine lv_iload hx hb d_Law_law_252 (lv_at hl 0 rfl) ?_
        refine lv_i2l (v := u3.1.toInt64) hx hb d_Law_law_254 rfl ?_
        refine W.lcmp hx hb d_Law_law_255 ?_
        refine lv_if_eq (tgt := 261) hx hb d_Law_law_256 (by decide) (fun hc8 => ?_) (fun hc8 => ?_)
        · have hf := hf_t hf hc8
          refine lv_goto (tgt := 1166) hx hb d_Law_law_261 (by decide) ?_
          refine lv_iinc (v := y4 + (4 : Int32)) (lv' := [(4, .int (y4 + (4 : Int32))), (6, .int u3.1), (5, .int u1.1), (0, .ref b), (1, .ref (ad_ht 0)), (2, .ref (ad_md 0)), (3, .ref (ad_ot 1))]) hx hb d_Law_law_1166 hl (k := 6) rfl rfl (by decide) rfl (fun ls hl => ?_)
          refine lv_goto (tgt := 23) hx hb d_Law_law_1169 (by decide) ?_
          refine W.widen (k := cs + 1) (n := sl + 6) (by omega) (by omega) ?_
          exact hk ad_ht cA_ht ad_rd cA_rd ad_sp cA_sp ad_mx cA_mx ad_ar cA_ar ad_tc cA_tc ad_tb cA_tb ad_ot cA_ot ad_md cA_md u1.2.1 u1.2.2.2.1 u1.2.2.2.2.1 u1.2.2.2.2.2.1 ar u1.2.2.2.2.2.2.1 tb u1.2.2.1 u3.2 (y4 + (4 : Int32)) H locs ls hf (hK.sub [0, 1, 2, 3, 4, 5, 6, 7, 8, 9, 10, 11, 16, 17, 18, 19, 12, 13, 14, 15, 20, 21, 22, 23, 24, 25, 26, 27, 28, 29, 30, 31, 32, 33] rfl) (hP.sub [0, 1, 2, 3, 4, 5, 6, 7, 8, 9, 10, 11, 12, 13, 14, 15, 16, 22, 23, 24, 25, 26, 17, 18, 19, 20, 21, 27, 28, 29, 30, 31, 32, 33, 34, 35, 36, 37, 38, 39, 40, 41] rfl) (hD.sub [0, 1, 2, 3, 4, 5, 6, 7, 8, 9, 10, 11, 12, 13, 14, 15, 16, 22, 23, 24, 25, 26, 17, 18, 19, 20, 21, 27, 28, 29, 30, 31, 32, 33, 34, 35, 36, 37, 38, 39, 40, 41] (by decide) rfl) hS (lv_sub hl [3, 4, 5, 6, 0] rfl)
        · have hf := hf_f hf hc8
          refine lv_iconst (v := (0 : Int32)) hx hb d_Law_law_259 (by decide) ?_
          have hrv : rv = false := (Option.some.inj hf).symm
          subst hrv
          refine va_forget (fun q hq => hA2 _ (hS.2.2 q hq)) ?_
          refine W.widen (k := 1092) (n := 11944) (by omega) (by omega) ?_
          exact lw_ret0b hx hb hr hlocks d_Law_law_260
    · have hf := hf_f hf hc5
      refine lv_iconst (v := (0 : Int32)) hx hb d_Law_law_242 (by decide) ?_
      have hrv : rv = false := (Option.some.inj hf).symm
      subst hrv
      refine va_forget (fun q hq => hA2 _ (hS.2.2 q hq)) ?_
      refine W.widen (k := 1092) (n := 11944) (by omega) (by omega) ?_
      exact lw_ret0b hx hb hr hlocks d_Law_law_243
  · have hf := hf_f hf hc2
    have hc2 : u1.2.2.2.2.2.2.2 = false := by simpa using hc2
    rw [hc2] at hP hD
    have hP : va_P (dC, dI) vwCl (uw_HT ad_ht cA_ht (ad_rd 0) (ad_sp 0) (ad_mx 0) (ad_ar 0) (ad_tb 0) (ad_tc 0) u1.2.1 ++ (uw_Reader ad_rd cA_rd u1.2.2.2.1 ++ (uw_Speller ad_sp cA_sp u1.2.2.2.2.1 ++ (uw_Mixture ad_mx cA_mx u1.2.2.2.2.2.1 ++ (uw_Surroundings ad_ar cA_ar ar ++ (uw_Table ad_tb cA_tb tb ++ (uw_Table ad_tc cA_tc u1.2.2.2.2.2.2.1 ++ (uw_Out ad_ot cA_ot u1.2.2.1 ++ (uw_Model ad_md cA_md md))))))))) H := hP
    have hD : va_D A (uw_HT ad_ht cA_ht (ad_rd 0) (ad_sp 0) (ad_mx 0) (ad_ar 0) (ad_tb 0) (ad_tc 0) u1.2.1 ++ (uw_Reader ad_rd cA_rd u1.2.2.2.1 ++ (uw_Speller ad_sp cA_sp u1.2.2.2.2.1 ++ (uw_Mixture ad_mx cA_mx u1.2.2.2.2.2.1 ++ (uw_Surroundings ad_ar cA_ar ar ++ (uw_Table ad_tb cA_tb tb ++ (uw_Table ad_tc cA_tc u1.2.2.2.2.2.2.1 ++ (uw_Out ad_ot cA_ot u1.2.2.1 ++ (uw_Model ad_md cA_md md))))))))) := hD
    refine lv_istore (lv' := [(5, .int u1.1), (0, .ref b), (1, .ref (ad_ht 0)), (2, .ref (ad_md 0)), (3, .ref (ad_ot 1)), (4, .int y4)]) hx hb d_Law_law_225 hl (by decide) rfl (fun ls hl => ?_)
    refine lv_aload_n hx hb d_Law_law_227 rfl (lv_at hl 3 rfl) ?_
    obtain ⟨u9, hu9, hf⟩ := Option.bind_eq_some_iff.mp hf
    refine cl_i (wc := (uw_Model ad_md cA_md md)) (wr := (uw_HT ad_ht cA_ht (ad_rd 0) (ad_sp 0) (ad_mx 0) (ad_ar 0) (ad_tb 0) (ad_tc 0) u1.2.1 ++ (uw_Reader ad_rd cA_rd u1.2.2.2.1 ++ (uw_Speller ad_sp cA_sp u1.2.2.2.2.1 ++ (uw_Mixture ad_mx cA_mx u1.2.2.2.2.2.1 ++ (uw_Surroundings ad_ar cA_ar ar ++ (uw_Table ad_tb cA_tb tb ++ (uw_Table ad_tc cA_tc u1.2.2.2.2.2.2.1 ++ (uw_Out ad_ot cA_ot u1.2.2.1))))))))) (tysC := [(cA_md 1, .int), (cA_md 2, .int), (cA_md 3, .int), (cA_md 4, .int), (cA_md 5, .int), (cA_md 6, .int), (cA_md 7, .int), (cA_md 8, .int), (cA_md 9, .boolean), (cA_md 10, .int), (cA_md 11, .int), (cA_md 12, .int), (cA_md 13, .int)]) (wu := fun (u : SModel) => (uw_Model ad_md cA_md u)) (wn := fun (u : SModel) => (uw_HT ad_ht cA_ht (ad_rd 0) (ad_sp 0) (ad_mx 0) (ad_ar 0) (ad_tb 0) (ad_tc 0) u1.2.1 ++ (uw_Reader ad_rd cA_rd u1.2.2.2.1 ++ (uw_Speller ad_sp cA_sp u1.2.2.2.2.1 ++ (uw_Mixture ad_mx cA_mx u1.2.2.2.2.2.1 ++ (uw_Surroundings ad_ar cA_ar ar ++ (uw_Table ad_tb cA_tb tb ++ (uw_Table ad_tc cA_tc u1.2.2.2.2.2.2.1 ++ (uw_Out ad_ot cA_ot u1.2.2.1 ++ (uw_Model ad_md cA_md u)))))))))) [28, 29, 30, 31, 32, 33, 34, 35, 36, 37, 38, 39, 40, 41] [0, 1, 2, 3, 4, 5, 6, 7, 8, 9, 10, 11, 12, 13, 14, 15, 16, 17, 18, 19, 20, 21, 22, 23, 24, 25, 26, 27] [0, 1, 2, 3, 4, 5, 6, 7, 8, 9, 10, 11, 12, 13, 14, 15, 16, 17, 18, 19, 20, 21, 22, 23, 24, 25, 26, 27, 28, 29, 30, 31, 32, 33, 34, 35, 36, 37, 38, 39, 40, 41] [21, 22, 23, 24, 25, 26, 27, 28, 29, 30, 31, 32, 33] hP hD hS hA hK rfl rfl (by decide +kernel) (by decide +kernel) (by decide +kernel) rfl (fun _ => rfl) (by decide +kernel) (fun hPc hKc hDc => (va_runV (As := []) (rest := []) ⟨hx, hb, hml, hown, hts⟩ (k_Model_read l dC dI ad_md cA_md H.size md u9 hu9) (cwV 0 hts (gV wd_854 wd_855 wd_856 wd_49 wd_857) rfl rfl rfl (by decide +kernel) ⟨Nat.le_of_ble_eq_true rfl, Nat.le_of_ble_eq_true rfl⟩) (cl_preV hPc hKc hDc hN (ci := 6) 0 rfl rfl) rfl rfl hl.1 rfl (lv_room (Nat.le_of_ble_eq_true rfl)) d_Law_law_228 ⟨by show _ ≤ 1092; omega, by show _ ≤ 11944; omega⟩)) (fun r u H locs hw hP hD hS => ?_)
    obtain ⟨hw1, hw2⟩ := hw
    have hw1 := hw1.symm
    have hw2 := hw2.symm
    subst hw1
    subst hw2
    have hP : va_P (dC, dI) vwCl (uw_HT ad_ht cA_ht (ad_rd 0) (ad_sp 0) (ad_mx 0) (ad_ar 0) (ad_tb 0) (ad_tc 0) u1.2.1 ++ (uw_Reader ad_rd cA_rd u1.2.2.2.1 ++ (uw_Speller ad_sp cA_sp u1.2.2.2.2.1 ++ (uw_Mixture ad_mx cA_mx u1.2.2.2.2.2.1 ++ (uw_Surroundings ad_ar cA_ar ar ++ (uw_Table ad_tb cA_tb tb ++ (uw_Table ad_tc cA_tc u1.2.2.2.2.2.2.1 ++ (uw_Out ad_ot cA_ot u1.2.2.1 ++ (uw_Model ad_md cA_md u9.2))))))))) H := hP
    have hD : va_D A (uw_HT ad_ht cA_ht (ad_rd 0) (ad_sp 0) (ad_mx 0) (ad_ar 0) (ad_tb 0) (ad_tc 0) u1.2.1 ++ (uw_Reader ad_rd cA_rd u1.2.2.2.1 ++ (uw_Speller ad_sp cA_sp u1.2.2.2.2.1 ++ (uw_Mixture ad_mx cA_mx u1.2.2.2.2.2.1 ++ (uw_Surroundings ad_ar cA_ar ar ++ (uw_Table ad_tb cA_tb tb ++ (uw_Table ad_tc cA_tc u1.2.2.2.2.2.2.1 ++ (uw_Out ad_ot cA_ot u1.2.2.1 ++ (uw_Model ad_md cA_md u9.2))))))))) := hD
    refine lv_istore (lv' := [(6, .int u9.1), (5, .int u1.1), (0, .ref b), (1, .ref (ad_ht 0)), (2, .ref (ad_md 0)), (3, .ref (ad_ot 1)), (4, .int y4)]) hx hb d_Law_law_231 hl (by decide) rfl (fun ls hl => ?_)
    refine lv_aload_n hx hb d_Law_law_233 rfl (lv_at hl 4 rfl) ?_
    obtain ⟨u10, hu10, hf⟩ := Option.bind_eq_some_iff.mp hf
    refine cl_i (wc := (uw_Model ad_md cA_md u9.2)) (wr := (uw_HT ad_ht cA_ht (ad_rd 0) (ad_sp 0) (ad_mx 0) (ad_ar 0) (ad_tb 0) (ad_tc 0) u1.2.1 ++ (uw_Reader ad_rd cA_rd u1.2.2.2.1 ++ (uw_Speller ad_sp cA_sp u1.2.2.2.2.1 ++ (uw_Mixture ad_mx cA_mx u1.2.2.2.2.2.1 ++ (uw_Surroundings ad_ar cA_ar ar ++ (uw_Table ad_tb cA_tb tb ++ (uw_Table ad_tc cA_tc u1.2.2.2.2.2.2.1 ++ (uw_Out ad_ot cA_ot u1.2.2.1))))))))) (tysC := [(cA_md 1, .int), (cA_md 2, .int), (cA_md 3, .int), (cA_md 4, .int), (cA_md 5, .int), (cA_md 6, .int), (cA_md 7, .int), (cA_md 8, .int), (cA_md 9, .boolean), (cA_md 10, .int), (cA_md 11, .int), (cA_md 12, .int), (cA_md 13, .int)]) (wu := fun (u : Unit) => (uw_Model ad_md cA_md u9.2)) (wn := fun (u : Unit) => (uw_HT ad_ht cA_ht (ad_rd 0) (ad_sp 0) (ad_mx 0) (ad_ar 0) (ad_tb 0) (ad_tc 0) u1.2.1 ++ (uw_Reader ad_rd cA_rd u1.2.2.2.1 ++ (uw_Speller ad_sp cA_sp u1.2.2.2.2.1 ++ (uw_Mixture ad_mx cA_mx u1.2.2.2.2.2.1 ++ (uw_Surroundings ad_ar cA_ar ar ++ (uw_Table ad_tb cA_tb tb ++ (uw_Table ad_tc cA_tc u1.2.2.2.2.2.2.1 ++ (uw_Out ad_ot cA_ot u1.2.2.1 ++ (uw_Model ad_md cA_md u9.2)))))))))) [28, 29, 30, 31, 32, 33, 34, 35, 36, 37, 38, 39, 40, 41] [0, 1, 2, 3, 4, 5, 6, 7, 8, 9, 10, 11, 12, 13, 14, 15, 16, 17, 18, 19, 20, 21, 22, 23, 24, 25, 26, 27] [0, 1, 2, 3, 4, 5, 6, 7, 8, 9, 10, 11, 12, 13, 14, 15, 16, 17, 18, 19, 20, 21, 22, 23, 24, 25, 26, 27, 28, 29, 30, 31, 32, 33, 34, 35, 36, 37, 38, 39, 40, 41] [21, 22, 23, 24, 25, 26, 27, 28, 29, 30, 31, 32, 33] hP hD hS hA hK rfl rfl (by decide +kernel) (by decide +kernel) (by decide +kernel) rfl (fun _ => rfl) (by decide +kernel) (fun hPc hKc hDc => (va_runV (As := []) (rest := []) ⟨hx, hb, hml, hown, hts⟩ (k_Model_thrown l dC dI ad_md cA_md H.size u9.2 u10 hu10) (cwV 0 hts (gV wd_839 wd_840 wd_841 wd_49 wd_842) rfl rfl rfl (by decide +kernel) ⟨Nat.le_of_ble_eq_true rfl, Nat.le_of_ble_eq_true rfl⟩) (cl_preV hPc hKc hDc hN (ci := 6) 0 rfl rfl) rfl rfl hl.1 rfl (lv_room (Nat.le_of_ble_eq_true rfl)) d_Law_law_234 ⟨by show _ ≤ 1092; omega, by show _ ≤ 11944; omega⟩)) (fun r u H locs hw hP hD hS => ?_)
    have hw := hw.symm
    subst hw
    have hP : va_P (dC, dI) vwCl (uw_HT ad_ht cA_ht (ad_rd 0) (ad_sp 0) (ad_mx 0) (ad_ar 0) (ad_tb 0) (ad_tc 0) u1.2.1 ++ (uw_Reader ad_rd cA_rd u1.2.2.2.1 ++ (uw_Speller ad_sp cA_sp u1.2.2.2.2.1 ++ (uw_Mixture ad_mx cA_mx u1.2.2.2.2.2.1 ++ (uw_Surroundings ad_ar cA_ar ar ++ (uw_Table ad_tb cA_tb tb ++ (uw_Table ad_tc cA_tc u1.2.2.2.2.2.2.1 ++ (uw_Out ad_ot cA_ot u1.2.2.1 ++ (uw_Model ad_md cA_md u9.2))))))))) H := hP
    have hD : va_D A (uw_HT ad_ht cA_ht (ad_rd 0) (ad_sp 0) (ad_mx 0) (ad_ar 0) (ad_tb 0) (ad_tc 0) u1.2.1 ++ (uw_Reader ad_rd cA_rd u1.2.2.2.1 ++ (uw_Speller ad_sp cA_sp u1.2.2.2.2.1 ++ (uw_Mixture ad_mx cA_mx u1.2.2.2.2.2.1 ++ (uw_Surroundings ad_ar cA_ar ar ++ (uw_Table ad_tb cA_tb tb ++ (uw_Table ad_tc cA_tc u1.2.2.2.2.2.2.1 ++ (uw_Out ad_ot cA_ot u1.2.2.1 ++ (uw_Model ad_md cA_md u9.2))))))))) := hD
    refine lv_iload hx hb d_Law_law_237 (lv_at hl 1 rfl) ?_
    refine lv_icmp_eq (tgt := 244) hx hb d_Law_law_239 (by decide) (fun hc11 => ?_) (fun hc11 => ?_)
    · have hf := hf_t hf hc11
      refine lv_iload hx hb d_Law_law_244 (lv_at hl 1 rfl) ?_
      refine lv_if_ne (tgt := 261) hx hb d_Law_law_246 (by decide) (fun hc12 => ?_) (fun hc12 => ?_)
      · have hf := hf_f hf hc12
        refine lv_goto (tgt := 1166) hx hb d_Law_law_261 (by decide) ?_
        refine lv_iinc (v := y4 + (4 : Int32)) (lv' := [(4, .int (y4 + (4 : Int32))), (6, .int u9.1), (5, .int u1.1), (0, .ref b), (1, .ref (ad_ht 0)), (2, .ref (ad_md 0)), (3, .ref (ad_ot 1))]) hx hb d_Law_law_1166 hl (k := 6) rfl rfl (by decide) rfl (fun ls hl => ?_)
        refine lv_goto (tgt := 23) hx hb d_Law_law_1169 (by decide) ?_
        refine W.widen (k := cs + 1) (n := sl + 6) (by omega) (by omega) ?_
        exact hk ad_ht cA_ht ad_rd cA_rd ad_sp cA_sp ad_mx cA_mx ad_ar cA_ar ad_tb cA_tb ad_tc cA_tc ad_ot cA_ot ad_md cA_md u1.2.1 u1.2.2.2.1 u1.2.2.2.2.1 u1.2.2.2.2.2.1 ar tb u1.2.2.2.2.2.2.1 u1.2.2.1 u9.2 (y4 + (4 : Int32)) H locs ls hf hK hP hD hS (lv_sub hl [3, 4, 5, 6, 0] rfl)
      · have hf := hf_t hf hc12
        refine lv_aload_n hx hb d_Law_law_249 rfl (lv_at hl 5 rfl) ?_
        refine lv_iconst (v := (0 : Int32)) hx hb d_Law_law_250 (by decide) ?_
        obtain ⟨hi13, hf⟩ := hf_g hf
        refine va_lald hx hb hK hP 27 20 rfl rfl hi13 d_Law_law_251 ?_
        refine lv_iload hx hb d_Law_law_252 (lv_at hl 0 rfl) ?_
        refine lv_i2l (v := u9.1.toInt64) hx hb d_Law_law_254 rfl ?_
        refine W.lcmp hx hb d_Law_law_255 ?_
        refine lv_if_eq (tgt := 261) hx hb d_Law_law_256 (by decide) (fun hc14 => ?_) (fun hc14 => ?_)
        · have hf := hf_t hf hc14
          refine lv_goto (tgt := 1166) hx hb d_Law_law_261 (by decide) ?_
          refine lv_iinc (v := y4 + (4 : Int32)) (lv' := [(4, .int (y4 + (4 : Int32))), (6, .int u9.1), (5, .int u1.1), (0, .ref b), (1, .ref (ad_ht 0)), (2, .ref (ad_md 0)), (3, .ref (ad_ot 1))]) hx hb d_Law_law_1166 hl (k := 6) rfl rfl (by decide) rfl (fun ls hl => ?_)
          refine lv_goto (tgt := 23) hx hb d_Law_law_1169 (by decide) ?_
          refine W.widen (k := cs + 1) (n := sl + 6) (by omega) (by omega) ?_
          exact hk ad_ht cA_ht ad_rd cA_rd ad_sp cA_sp ad_mx cA_mx ad_ar cA_ar ad_tb cA_tb ad_tc cA_tc ad_ot cA_ot ad_md cA_md u1.2.1 u1.2.2.2.1 u1.2.2.2.2.1 u1.2.2.2.2.2.1 ar tb u1.2.2.2.2.2.2.1 u1.2.2.1 u9.2 (y4 + (4 : Int32)) H locs ls hf hK hP hD hS (lv_sub hl [3, 4, 5, 6, 0] rfl)
        · have hf := hf_f hf hc14
          refine lv_iconst (v := (0 : Int32)) hx hb d_Law_law_259 (by decide) ?_
          have hrv : rv = false := (Option.some.inj hf).symm
          subst hrv
          refine va_forget (fun q hq => hA2 _ (hS.2.2 q hq)) ?_
          refine W.widen (k := 1092) (n := 11944) (by omega) (by omega) ?_
          exact lw_ret0b hx hb hr hlocks d_Law_law_260
    · have hf := hf_f hf hc11
      refine lv_iconst (v := (0 : Int32)) hx hb d_Law_law_242 (by decide) ?_
      have hrv : rv = false := (Option.some.inj hf).symm
      subst hrv
      refine va_forget (fun q hq => hA2 _ (hS.2.2 q hq)) ?_
      refine W.widen (k := 1092) (n := 11944) (by omega) (by omega) ?_
      exact lw_ret0b hx hb hr hlocks d_Law_law_243
noncomputable def f_Law_case_264 (L : Nat) (xs : Nat → Int32) (k : SHT → SReader → SSpeller → SMixture → SSurroundings → STable → STable → SOut → SModel → Int32 → Option Bool) (ht : SHT) (rd : SReader) (sp : SSpeller) (mx : SMixture) (ar : SSurroundings) (tb : STable) (tc : STable) (ot : SOut) (md : SModel) (y4 : Int32) : Option Bool :=
  (Option.bind (f_HT_place ht rd) fun u1 =>
    (Option.bind (f_Model_place md) fun u2 =>
      (if u1 = u2.1 then
        (k ht rd sp mx ar tb tc ot u2.2 (y4 + (4 : Int32)))
       else
        (some false)
       )
     )
   )
set_option maxHeartbeats 4000000 in
set_option maxRecDepth 100000 in
theorem k_Law_case_264 {rv : Bool} {p : Program} {l : Launch} {e : Env} {s : State} {m : MethodId} {below : List Frame} {meth : Method} {c : Code} {dC : Nat → ClassId} {dI : Nat → Nat → Nat} {b L : Nat} {xs : Nat → Int32} {A : Nat → Prop} (htr : l.stackTraces = false) (C0 : lw_At p s m meth c b L xs) (hN : nwAll s) (hX : xAll A s) (hnc : ncAll s) (hA : ∀ q : Nat, s.heap.size ≤ q → A q) (hA2 : ∀ q : Nat, A q → s.heap.size ≤ q) (cs sl : Nat) (hcs : cs + 1 ≤ 1092) (hsl : sl + 6 ≤ 11944) (k : SHT → SReader → SSpeller → SMixture → SSurroundings → STable → STable → SOut → SModel → Int32 → Option Bool) (hk : ∀ (ad_ht : Nat → Nat) (cA_ht : Nat → ClassId) (ad_rd : Nat → Nat) (cA_rd : Nat → ClassId) (ad_sp : Nat → Nat) (cA_sp : Nat → ClassId) (ad_mx : Nat → Nat) (cA_mx : Nat → ClassId) (ad_ar : Nat → Nat) (cA_ar : Nat → ClassId) (ad_tb : Nat → Nat) (cA_tb : Nat → ClassId) (ad_tc : Nat → Nat) (cA_tc : Nat → ClassId) (ad_ot : Nat → Nat) (cA_ot : Nat → ClassId) (ad_md : Nat → Nat) (cA_md : Nat → ClassId) (ht : SHT) (rd : SReader) (sp : SSpeller) (mx : SMixture) (ar : SSurroundings) (tb : STable) (tc : STable) (ot : SOut) (md : SModel) (y4 : Int32) (H : Heap) (locs : List Loc) (ls : Array Slot), k ht rd sp mx ar tb tc ot md y4 = some rv → va_K (dC, dI) vwCl [(cA_ht 1, .int), (cA_rd 1, .int), (cA_sp 1, .int), (cA_sp 2, .int), (cA_sp 3, .int), (cA_sp 4, .int), (cA_mx 1, .int), (cA_mx 2, .int), (cA_mx 3, .boolean), (cA_ar 1, .int), (cA_ar 2, .int), (cA_ar 3, .int), (cA_tb 1, .int), (cA_tb 2, .int), (cA_tb 3, .int), (cA_tb 4, .byte), (cA_tc 1, .int), (cA_tc 2, .int), (cA_tc 3, .int), (cA_tc 4, .byte), (cA_ot 1, .long), (cA_md 1, .int), (cA_md 2, .int), (cA_md 3, .int), (cA_md 4, .int), (cA_md 5, .int), (cA_md 6, .int), (cA_md 7, .int), (cA_md 8, .int), (cA_md 9, .boolean), (cA_md 10, .int), (cA_md 11, .int), (cA_md 12, .int), (cA_md 13, .int)] s → va_P (dC, dI) vwCl (uw_HT ad_ht cA_ht (ad_rd 0) (ad_sp 0) (ad_mx 0) (ad_ar 0) (ad_tb 0) (ad_tc 0) ht ++ (uw_Reader ad_rd cA_rd rd ++ (uw_Speller ad_sp cA_sp sp ++ (uw_Mixture ad_mx cA_mx mx ++ (uw_Surroundings ad_ar cA_ar ar ++ (uw_Table ad_tb cA_tb tb ++ (uw_Table ad_tc cA_tc tc ++ (uw_Out ad_ot cA_ot ot ++ (uw_Model ad_md cA_md md))))))))) H → va_D A (uw_HT ad_ht cA_ht (ad_rd 0) (ad_sp 0) (ad_mx 0) (ad_ar 0) (ad_tb 0) (ad_tc 0) ht ++ (uw_Reader ad_rd cA_rd rd ++ (uw_Speller ad_sp cA_sp sp ++ (uw_Mixture ad_mx cA_mx mx ++ (uw_Surroundings ad_ar cA_ar ar ++ (uw_Table ad_tb cA_tb tb ++ (uw_Table ad_tc cA_tc tc ++ (uw_Out ad_ot cA_ot ot ++ (uw_Model ad_md cA_md md))))))))) → va_S A s.heap H locs → lv_has ls 7 [(0, .ref b), (1, .ref (ad_ht 0)), (2, .ref (ad_md 0)), (3, .ref (ad_ot 1)), (4, .int y4)] → W p l e room_1 s m #[Value.ref b] below meth c H locs (cs + 1) (sl + 6) (lw_Zb rv below #[Value.ref b] s) (F0 m 23 ls [])) : ∀ (ad_ht : Nat → Nat) (cA_ht : Nat → ClassId) (ad_rd : Nat → Nat) (cA_rd : Nat → ClassId) (ad_sp : Nat → Nat) (cA_sp : Nat → ClassId) (ad_mx : Nat → Nat) (cA_mx : Nat → ClassId) (ad_ar : Nat → Nat) (cA_ar : Nat → ClassId) (ad_tb : Nat → Nat) (cA_tb : Nat → ClassId) (ad_tc : Nat → Nat) (cA_tc : Nat → ClassId) (ad_ot : Nat → Nat) (cA_ot : Nat → ClassId) (ad_md : Nat → Nat) (cA_md : Nat → ClassId) (ht : SHT) (rd : SReader) (sp : SSpeller) (mx : SMixture) (ar : SSurroundings) (tb : STable) (tc : STable) (ot : SOut) (md : SModel) (y4 : Int32) (H : Heap) (locs : List Loc) (ls : Array Slot), f_Law_case_264 L xs k ht rd sp mx ar tb tc ot md y4 = some rv → va_K (dC, dI) vwCl [(cA_ht 1, .int), (cA_rd 1, .int), (cA_sp 1, .int), (cA_sp 2, .int), (cA_sp 3, .int), (cA_sp 4, .int), (cA_mx 1, .int), (cA_mx 2, .int), (cA_mx 3, .boolean), (cA_ar 1, .int), (cA_ar 2, .int), (cA_ar 3, .int), (cA_tb 1, .int), (cA_tb 2, .int), (cA_tb 3, .int), (cA_tb 4, .byte), (cA_tc 1, .int), (cA_tc 2, .int), (cA_tc 3, .int), (cA_tc 4, .byte), (cA_ot 1, .long), (cA_md 1, .int), (cA_md 2, .int), (cA_md 3, .int), (cA_md 4, .int), (cA_md 5, .int), (cA_md 6, .int), (cA_md 7, .int), (cA_md 8, .int), (cA_md 9, .boolean), (cA_md 10, .int), (cA_md 11, .int), (cA_md 12, .int), (cA_md 13, .int)] s → va_P (dC, dI) vwCl (uw_HT ad_ht cA_ht (ad_rd 0) (ad_sp 0) (ad_mx 0) (ad_ar 0) (ad_tb 0) (ad_tc 0) ht ++ (uw_Reader ad_rd cA_rd rd ++ (uw_Speller ad_sp cA_sp sp ++ (uw_Mixture ad_mx cA_mx mx ++ (uw_Surroundings ad_ar cA_ar ar ++ (uw_Table ad_tb cA_tb tb ++ (uw_Table ad_tc cA_tc tc ++ (uw_Out ad_ot cA_ot ot ++ (uw_Model ad_md cA_md md))))))))) H → va_D A (uw_HT ad_ht cA_ht (ad_rd 0) (ad_sp 0) (ad_mx 0) (ad_ar 0) (ad_tb 0) (ad_tc 0) ht ++ (uw_Reader ad_rd cA_rd rd ++ (uw_Speller ad_sp cA_sp sp ++ (uw_Mixture ad_mx cA_mx mx ++ (uw_Surroundings ad_ar cA_ar ar ++ (uw_Table ad_tb cA_tb tb ++ (uw_Table ad_tc cA_tc tc ++ (uw_Out ad_ot cA_ot ot ++ (uw_Model ad_md cA_md md))))))))) → va_S A s.heap H locs → lv_has ls 7 [(0, .ref b), (1, .ref (ad_ht 0)), (2, .ref (ad_md 0)), (3, .ref (ad_ot 1)), (4, .int y4)] → W p l e room_1 s m #[Value.ref b] below meth c H locs cs sl (lw_Zb rv below #[Value.ref b] s) (F0 m 264 ls []) := by
  obtain ⟨hx, hb, hr, hml, hown, hts0, hX0, hbl, hlocks, hgv⟩ := C0
  have hown : s.vm.findClass "HazardTablesLaw" = some m.cls := hown
  have hts : ∀ w ∈ (Cond.initialized "HazardTables" :: WA), w.before #[Value.ref b] s = true := fun w h => hts0 w ((List.mem_cons.mp h).elim (fun e => by rw [e]; exact (List.mem_filter.mp wd_43).1) (fun h => (List.mem_filter.mp h).1))
  have hbA : ¬ A b := fun h => absurd (hA2 b h) (Nat.not_le.mpr hbl)
  intro ad_ht cA_ht ad_rd cA_rd ad_sp cA_sp ad_mx cA_mx ad_ar cA_ar ad_tb cA_tb ad_tc cA_tc ad_ot cA_ot ad_md cA_md ht rd sp mx ar tb tc ot md y4 H locs ls hf hK hP hD hS hl
  unfold f_Law_case_264 at hf
  refine lv_aload_n hx hb d_Law_law_264 rfl (lv_at hl 1 rfl) ?_
  obtain ⟨u1, hu1, hf⟩ := Option.bind_eq_some_iff.mp hf
  refine cl_i (wc := (uw_HT ad_ht cA_ht (ad_rd 0) (ad_sp 0) (ad_mx 0) (ad_ar 0) (ad_tb 0) (ad_tc 0) ht ++ (uw_Reader ad_rd cA_rd rd))) (wr := (uw_Speller ad_sp cA_sp sp ++ (uw_Mixture ad_mx cA_mx mx ++ (uw_Surroundings ad_ar cA_ar ar ++ (uw_Table ad_tb cA_tb tb ++ (uw_Table ad_tc cA_tc tc ++ (uw_Out ad_ot cA_ot ot ++ (uw_Model ad_md cA_md md)))))))) (tysC := [(cA_ht 1, .int), (cA_rd 1, .int)]) (wu := fun (u : Unit) => (uw_HT ad_ht cA_ht (ad_rd 0) (ad_sp 0) (ad_mx 0) (ad_ar 0) (ad_tb 0) (ad_tc 0) ht ++ (uw_Reader ad_rd cA_rd rd))) (wn := fun (u : Unit) => (uw_HT ad_ht cA_ht (ad_rd 0) (ad_sp 0) (ad_mx 0) (ad_ar 0) (ad_tb 0) (ad_tc 0) ht ++ (uw_Reader ad_rd cA_rd rd ++ (uw_Speller ad_sp cA_sp sp ++ (uw_Mixture ad_mx cA_mx mx ++ (uw_Surroundings ad_ar cA_ar ar ++ (uw_Table ad_tb cA_tb tb ++ (uw_Table ad_tc cA_tc tc ++ (uw_Out ad_ot cA_ot ot ++ (uw_Model ad_md cA_md md)))))))))) [0, 1, 2, 3] [4, 5, 6, 7, 8, 9, 10, 11, 12, 13, 14, 15, 16, 17, 18, 19, 20, 21, 22, 23, 24, 25, 26, 27, 28, 29, 30, 31, 32, 33, 34, 35, 36, 37, 38, 39, 40, 41] [38, 39, 40, 41, 0, 1, 2, 3, 4, 5, 6, 7, 8, 9, 10, 11, 12, 13, 14, 15, 16, 17, 18, 19, 20, 21, 22, 23, 24, 25, 26, 27, 28, 29, 30, 31, 32, 33, 34, 35, 36, 37] [0, 1] hP hD hS hA hK rfl rfl (by decide +kernel) (by decide +kernel) (by decide +kernel) rfl (fun _ => rfl) (by decide +kernel) (fun hPc hKc hDc => (va_runV (As := []) (rest := []) ⟨hx, hb, hml, hown, hts⟩ (k_HT_place l dC dI ad_ht cA_ht ad_rd cA_rd ad_sp cA_sp ad_mx cA_mx ad_ar cA_ar ad_tb cA_tb ad_tc cA_tc H.size ht rd u1 hu1) (cwV 0 hts (gV wd_226 wd_227 wd_228 wd_43 wd_229) rfl rfl rfl (by decide +kernel) ⟨Nat.le_of_ble_eq_true rfl, Nat.le_of_ble_eq_true rfl⟩) (cl_preV hPc hKc hDc hN (ci := 5) 0 rfl rfl) rfl rfl hl.1 rfl (lv_room (Nat.le_of_ble_eq_true rfl)) d_Law_law_265 ⟨by show _ ≤ 1092; omega, by show _ ≤ 11944; omega⟩)) (fun r u H locs hw hP hD hS => ?_)
  have hw := hw.symm
  subst hw
  have hP : va_P (dC, dI) vwCl (uw_HT ad_ht cA_ht (ad_rd 0) (ad_sp 0) (ad_mx 0) (ad_ar 0) (ad_tb 0) (ad_tc 0) ht ++ (uw_Reader ad_rd cA_rd rd ++ (uw_Speller ad_sp cA_sp sp ++ (uw_Mixture ad_mx cA_mx mx ++ (uw_Surroundings ad_ar cA_ar ar ++ (uw_Table ad_tb cA_tb tb ++ (uw_Table ad_tc cA_tc tc ++ (uw_Out ad_ot cA_ot ot ++ (uw_Model ad_md cA_md md))))))))) H := hP
  have hD : va_D A (uw_HT ad_ht cA_ht (ad_rd 0) (ad_sp 0) (ad_mx 0) (ad_ar 0) (ad_tb 0) (ad_tc 0) ht ++ (uw_Reader ad_rd cA_rd rd ++ (uw_Speller ad_sp cA_sp sp ++ (uw_Mixture ad_mx cA_mx mx ++ (uw_Surroundings ad_ar cA_ar ar ++ (uw_Table ad_tb cA_tb tb ++ (uw_Table ad_tc cA_tc tc ++ (uw_Out ad_ot cA_ot ot ++ (uw_Model ad_md cA_md md))))))))) := hD
  refine lv_aload_n hx hb d_Law_law_268 rfl (lv_at hl 2 rfl) ?_
  obtain ⟨u2, hu2, hf⟩ := Option.bind_eq_some_iff.mp hf
  refine cl_i (wc := (uw_Model ad_md cA_md md)) (wr := (uw_HT ad_ht cA_ht (ad_rd 0) (ad_sp 0) (ad_mx 0) (ad_ar 0) (ad_tb 0) (ad_tc 0) ht ++ (uw_Reader ad_rd cA_rd rd ++ (uw_Speller ad_sp cA_sp sp ++ (uw_Mixture ad_mx cA_mx mx ++ (uw_Surroundings ad_ar cA_ar ar ++ (uw_Table ad_tb cA_tb tb ++ (uw_Table ad_tc cA_tc tc ++ (uw_Out ad_ot cA_ot ot))))))))) (tysC := [(cA_md 1, .int), (cA_md 2, .int), (cA_md 3, .int), (cA_md 4, .int), (cA_md 5, .int), (cA_md 6, .int), (cA_md 7, .int), (cA_md 8, .int), (cA_md 9, .boolean), (cA_md 10, .int), (cA_md 11, .int), (cA_md 12, .int), (cA_md 13, .int)]) (wu := fun (u : SModel) => (uw_Model ad_md cA_md u)) (wn := fun (u : SModel) => (uw_HT ad_ht cA_ht (ad_rd 0) (ad_sp 0) (ad_mx 0) (ad_ar 0) (ad_tb 0) (ad_tc 0) ht ++ (uw_Reader ad_rd cA_rd rd ++ (uw_Speller ad_sp cA_sp sp ++ (uw_Mixture ad_mx cA_mx mx ++ (uw_Surroundings ad_ar cA_ar ar ++ (uw_Table ad_tb cA_tb tb ++ (uw_Table ad_tc cA_tc tc ++ (uw_Out ad_ot cA_ot ot ++ (uw_Model ad_md cA_md u)))))))))) [28, 29, 30, 31, 32, 33, 34, 35, 36, 37, 38, 39, 40, 41] [0, 1, 2, 3, 4, 5, 6, 7, 8, 9, 10, 11, 12, 13, 14, 15, 16, 17, 18, 19, 20, 21, 22, 23, 24, 25, 26, 27] [0, 1, 2, 3, 4, 5, 6, 7, 8, 9, 10, 11, 12, 13, 14, 15, 16, 17, 18, 19, 20, 21, 22, 23, 24, 25, 26, 27, 28, 29, 30, 31, 32, 33, 34, 35, 36, 37, 38, 39, 40, 41] [21, 22, 23, 24, 25, 26, 27, 28, 29, 30, 31, 32, 33] hP hD hS hA hK rfl rfl (by decide +kernel) (by decide +kernel) (by decide +kernel) rfl (fun _ => rfl) (by decide +kernel) (fun hPc hKc hDc => (va_runV (As := []) (rest := [.int u1]) ⟨hx, hb, hml, hown, hts⟩ (k_Model_place l dC dI ad_md cA_md H.size md u2 hu2) (cwV 0 hts (gV wd_906 wd_907 wd_908 wd_49 wd_909) rfl rfl rfl (by decide +kernel) ⟨Nat.le_of_ble_eq_true rfl, Nat.le_of_ble_eq_true rfl⟩) (cl_preV hPc hKc hDc hN (ci := 6) 0 rfl rfl) rfl rfl hl.1 rfl (lv_room (Nat.le_of_ble_eq_true rfl)) d_Law_law_269 ⟨by show _ ≤ 1092; omega, by show _ ≤ 11944; omega⟩)) (fun r u H locs hw hP hD hS => ?_)
  obtain ⟨hw1, hw2⟩ := hw
  have hw1 := hw1.symm
  have hw2 := hw2.symm
  subst hw1
  subst hw2
  have hP : va_P (dC, dI) vwCl (uw_HT ad_ht cA_ht (ad_rd 0) (ad_sp 0) (ad_mx 0) (ad_ar 0) (ad_tb 0) (ad_tc 0) ht ++ (uw_Reader ad_rd cA_rd rd ++ (uw_Speller ad_sp cA_sp sp ++ (uw_Mixture ad_mx cA_mx mx ++ (uw_Surroundings ad_ar cA_ar ar ++ (uw_Table ad_tb cA_tb tb ++ (uw_Table ad_tc cA_tc tc ++ (uw_Out ad_ot cA_ot ot ++ (uw_Model ad_md cA_md u2.2))))))))) H := hP
  have hD : va_D A (uw_HT ad_ht cA_ht (ad_rd 0) (ad_sp 0) (ad_mx 0) (ad_ar 0) (ad_tb 0) (ad_tc 0) ht ++ (uw_Reader ad_rd cA_rd rd ++ (uw_Speller ad_sp cA_sp sp ++ (uw_Mixture ad_mx cA_mx mx ++ (uw_Surroundings ad_ar cA_ar ar ++ (uw_Table ad_tb cA_tb tb ++ (uw_Table ad_tc cA_tc tc ++ (uw_Out ad_ot cA_ot ot ++ (uw_Model ad_md cA_md u2.2))))))))) := hD
  refine lv_icmp_eq (tgt := 1166) hx hb d_Law_law_272 (by decide) (fun hc3 => ?_) (fun hc3 => ?_)
  · have hf := hf_t hf hc3
    refine lv_iinc (v := y4 + (4 : Int32)) (lv' := [(4, .int (y4 + (4 : Int32))), (0, .ref b), (1, .ref (ad_ht 0)), (2, .ref (ad_md 0)), (3, .ref (ad_ot 1))]) hx hb d_Law_law_1166 hl (k := 4) rfl rfl (by decide) rfl (fun ls hl => ?_)
    refine lv_goto (tgt := 23) hx hb d_Law_law_1169 (by decide) ?_
    refine W.widen (k := cs + 1) (n := sl + 6) (by omega) (by omega) ?_
    exact hk ad_ht cA_ht ad_rd cA_rd ad_sp cA_sp ad_mx cA_mx ad_ar cA_ar ad_tb cA_tb ad_tc cA_tc ad_ot cA_ot ad_md cA_md ht rd sp mx ar tb tc ot u2.2 (y4 + (4 : Int32)) H locs ls hf hK hP hD hS (lv_sub hl [1, 2, 3, 4, 0] rfl)
  · have hf := hf_f hf hc3
    refine lv_iconst (v := (0 : Int32)) hx hb d_Law_law_275 (by decide) ?_
    have hrv : rv = false := (Option.some.inj hf).symm
    subst hrv
    refine va_forget (fun q hq => hA2 _ (hS.2.2 q hq)) ?_
    refine W.widen (k := 1092) (n := 11944) (by omega) (by omega) ?_
    exact lw_ret0b hx hb hr hlocks d_Law_law_276
noncomputable def f_Law_case_277 (L : Nat) (xs : Nat → Int32) (k : SHT → SReader → SSpeller → SMixture → SSurroundings → STable → STable → SOut → SModel → Int32 → Option Bool) (ht : SHT) (rd : SReader) (sp : SSpeller) (mx : SMixture) (ar : SSurroundings) (tb : STable) (tc : STable) (ot : SOut) (md : SModel) (y4 : Int32) : Option Bool :=
  (if inb (y4 + (1 : Int32)) L then
    (if inb (y4 + (2 : Int32)) L then
      (Option.bind (f_Law_material ht ot tb (xs (y4 + (1 : Int32)).toNatClampNeg) (xs (y4 + (2 : Int32)).toNatClampNeg)) fun u3 =>
        (if inb (y4 + (1 : Int32)) L then
          (if inb (y4 + (2 : Int32)) L then
            (Option.bind (f_Model_material md (xs (y4 + (1 : Int32)).toNatClampNeg) (xs (y4 + (2 : Int32)).toNatClampNeg)) fun u6 =>
              (Option.bind (f_Model_thrown u6.2) fun u7 =>
                (if u7 = u3.1 then
                  (if u3.1 = 0 then
                    (if inb (0 : Int32) 1 then
                      (if (lg_cmp (u3.2 (0 : Int32).toNatClampNeg) u6.1.toInt64) = 0 then
                        (k ht rd sp mx ar tb tc u3.2 u6.2 (y4 + (4 : Int32)))
                       else
                        (some false)
                       )
                     else none)
                   else
                    (k ht rd sp mx ar tb tc u3.2 u6.2 (y4 + (4 : Int32)))
                   )
                 else
                  (some false)
                 )
               )
             )
           else none)
         else none)
       )
     else none)
   else none)
set_option maxHeartbeats 4000000 in
set_option maxRecDepth 100000 in
theorem k_Law_case_277 {rv : Bool} {p : Program} {l : Launch} {e : Env} {s : State} {m : MethodId} {below : List Frame} {meth : Method} {c : Code} {dC : Nat → ClassId} {dI : Nat → Nat → Nat} {b L : Nat} {xs : Nat → Int32} {A : Nat → Prop} (htr : l.stackTraces = false) (C0 : lw_At p s m meth c b L xs) (hN : nwAll s) (hX : xAll A s) (hnc : ncAll s) (hA : ∀ q : Nat, s.heap.size ≤ q → A q) (hA2 : ∀ q : Nat, A q → s.heap.size ≤ q) (cs sl : Nat) (hcs : cs + 1 ≤ 1092) (hsl : sl + 6 ≤ 11944) (k : SHT → SReader → SSpeller → SMixture → SSurroundings → STable → STable → SOut → SModel → Int32 → Option Bool) (hk : ∀ (ad_ht : Nat → Nat) (cA_ht : Nat → ClassId) (ad_rd : Nat → Nat) (cA_rd : Nat → ClassId) (ad_sp : Nat → Nat) (cA_sp : Nat → ClassId) (ad_mx : Nat → Nat) (cA_mx : Nat → ClassId) (ad_ar : Nat → Nat) (cA_ar : Nat → ClassId) (ad_tb : Nat → Nat) (cA_tb : Nat → ClassId) (ad_tc : Nat → Nat) (cA_tc : Nat → ClassId) (ad_ot : Nat → Nat) (cA_ot : Nat → ClassId) (ad_md : Nat → Nat) (cA_md : Nat → ClassId) (ht : SHT) (rd : SReader) (sp : SSpeller) (mx : SMixture) (ar : SSurroundings) (tb : STable) (tc : STable) (ot : SOut) (md : SModel) (y4 : Int32) (H : Heap) (locs : List Loc) (ls : Array Slot), k ht rd sp mx ar tb tc ot md y4 = some rv → va_K (dC, dI) vwCl [(cA_ht 1, .int), (cA_rd 1, .int), (cA_sp 1, .int), (cA_sp 2, .int), (cA_sp 3, .int), (cA_sp 4, .int), (cA_mx 1, .int), (cA_mx 2, .int), (cA_mx 3, .boolean), (cA_ar 1, .int), (cA_ar 2, .int), (cA_ar 3, .int), (cA_tb 1, .int), (cA_tb 2, .int), (cA_tb 3, .int), (cA_tb 4, .byte), (cA_tc 1, .int), (cA_tc 2, .int), (cA_tc 3, .int), (cA_tc 4, .byte), (cA_ot 1, .long), (cA_md 1, .int), (cA_md 2, .int), (cA_md 3, .int), (cA_md 4, .int), (cA_md 5, .int), (cA_md 6, .int), (cA_md 7, .int), (cA_md 8, .int), (cA_md 9, .boolean), (cA_md 10, .int), (cA_md 11, .int), (cA_md 12, .int), (cA_md 13, .int)] s → va_P (dC, dI) vwCl (uw_HT ad_ht cA_ht (ad_rd 0) (ad_sp 0) (ad_mx 0) (ad_ar 0) (ad_tb 0) (ad_tc 0) ht ++ (uw_Reader ad_rd cA_rd rd ++ (uw_Speller ad_sp cA_sp sp ++ (uw_Mixture ad_mx cA_mx mx ++ (uw_Surroundings ad_ar cA_ar ar ++ (uw_Table ad_tb cA_tb tb ++ (uw_Table ad_tc cA_tc tc ++ (uw_Out ad_ot cA_ot ot ++ (uw_Model ad_md cA_md md))))))))) H → va_D A (uw_HT ad_ht cA_ht (ad_rd 0) (ad_sp 0) (ad_mx 0) (ad_ar 0) (ad_tb 0) (ad_tc 0) ht ++ (uw_Reader ad_rd cA_rd rd ++ (uw_Speller ad_sp cA_sp sp ++ (uw_Mixture ad_mx cA_mx mx ++ (uw_Surroundings ad_ar cA_ar ar ++ (uw_Table ad_tb cA_tb tb ++ (uw_Table ad_tc cA_tc tc ++ (uw_Out ad_ot cA_ot ot ++ (uw_Model ad_md cA_md md))))))))) → va_S A s.heap H locs → lv_has ls 7 [(0, .ref b), (1, .ref (ad_ht 0)), (2, .ref (ad_md 0)), (3, .ref (ad_ot 1)), (4, .int y4)] → W p l e room_1 s m #[Value.ref b] below meth c H locs (cs + 1) (sl + 6) (lw_Zb rv below #[Value.ref b] s) (F0 m 23 ls [])) : ∀ (ad_ht : Nat → Nat) (cA_ht : Nat → ClassId) (ad_rd : Nat → Nat) (cA_rd : Nat → ClassId) (ad_sp : Nat → Nat) (cA_sp : Nat → ClassId) (ad_mx : Nat → Nat) (cA_mx : Nat → ClassId) (ad_ar : Nat → Nat) (cA_ar : Nat → ClassId) (ad_tb : Nat → Nat) (cA_tb : Nat → ClassId) (ad_tc : Nat → Nat) (cA_tc : Nat → ClassId) (ad_ot : Nat → Nat) (cA_ot : Nat → ClassId) (ad_md : Nat → Nat) (cA_md : Nat → ClassId) (ht : SHT) (rd : SReader) (sp : SSpeller) (mx : SMixture) (ar : SSurroundings) (tb : STable) (tc : STable) (ot : SOut) (md : SModel) (y4 : Int32) (H : Heap) (locs : List Loc) (ls : Array Slot), f_Law_case_277 L xs k ht rd sp mx ar tb tc ot md y4 = some rv → va_K (dC, dI) vwCl [(cA_ht 1, .int), (cA_rd 1, .int), (cA_sp 1, .int), (cA_sp 2, .int), (cA_sp 3, .int), (cA_sp 4, .int), (cA_mx 1, .int), (cA_mx 2, .int), (cA_mx 3, .boolean), (cA_ar 1, .int), (cA_ar 2, .int), (cA_ar 3, .int), (cA_tb 1, .int), (cA_tb 2, .int), (cA_tb 3, .int), (cA_tb 4, .byte), (cA_tc 1, .int), (cA_tc 2, .int), (cA_tc 3, .int), (cA_tc 4, .byte), (cA_ot 1, .long), (cA_md 1, .int), (cA_md 2, .int), (cA_md 3, .int), (cA_md 4, .int), (cA_md 5, .int), (cA_md 6, .int), (cA_md 7, .int), (cA_md 8, .int), (cA_md 9, .boolean), (cA_md 10, .int), (cA_md 11, .int), (cA_md 12, .int), (cA_md 13, .int)] s → va_P (dC, dI) vwCl (uw_HT ad_ht cA_ht (ad_rd 0) (ad_sp 0) (ad_mx 0) (ad_ar 0) (ad_tb 0) (ad_tc 0) ht ++ (uw_Reader ad_rd cA_rd rd ++ (uw_Speller ad_sp cA_sp sp ++ (uw_Mixture ad_mx cA_mx mx ++ (uw_Surroundings ad_ar cA_ar ar ++ (uw_Table ad_tb cA_tb tb ++ (uw_Table ad_tc cA_tc tc ++ (uw_Out ad_ot cA_ot ot ++ (uw_Model ad_md cA_md md))))))))) H → va_D A (uw_HT ad_ht cA_ht (ad_rd 0) (ad_sp 0) (ad_mx 0) (ad_ar 0) (ad_tb 0) (ad_tc 0) ht ++ (uw_Reader ad_rd cA_rd rd ++ (uw_Speller ad_sp cA_sp sp ++ (uw_Mixture ad_mx cA_mx mx ++ (uw_Surroundings ad_ar cA_ar ar ++ (uw_Table ad_tb cA_tb tb ++ (uw_Table ad_tc cA_tc tc ++ (uw_Out ad_ot cA_ot ot ++ (uw_Model ad_md cA_md md))))))))) → va_S A s.heap H locs → lv_has ls 7 [(0, .ref b), (1, .ref (ad_ht 0)), (2, .ref (ad_md 0)), (3, .ref (ad_ot 1)), (4, .int y4)] → W p l e room_1 s m #[Value.ref b] below meth c H locs cs sl (lw_Zb rv below #[Value.ref b] s) (F0 m 277 ls []) := by
  obtain ⟨hx, hb, hr, hml, hown, hts0, hX0, hbl, hlocks, hgv⟩ := C0
  have hown : s.vm.findClass "HazardTablesLaw" = some m.cls := hown
  have hts : ∀ w ∈ (Cond.initialized "HazardTables" :: WA), w.before #[Value.ref b] s = true := fun w h => hts0 w ((List.mem_cons.mp h).elim (fun e => by rw [e]; exact (List.mem_filter.mp wd_43).1) (fun h => (List.mem_filter.mp h).1))
  have hbA : ¬ A b := fun h => absurd (hA2 b h) (Nat.not_le.mpr hbl)
  intro ad_ht cA_ht ad_rd cA_rd ad_sp cA_sp ad_mx cA_mx ad_ar cA_ar ad_tb cA_tb ad_tc cA_tc ad_ot cA_ot ad_md cA_md ht rd sp mx ar tb tc ot md y4 H locs ls hf hK hP hD hS hl
  unfold f_Law_case_277 at hf
  refine lv_aload_n hx hb d_Law_law_277 rfl (lv_at hl 1 rfl) ?_
  refine lv_aload_n hx hb d_Law_law_278 rfl (lv_at hl 0 rfl) ?_
  refine lv_iload hx hb d_Law_law_279 (lv_at hl 4 rfl) ?_
  refine lv_iconst (v := (1 : Int32)) hx hb d_Law_law_281 (by decide) ?_
  refine lv_iadd hx hb d_Law_law_282 ?_
  obtain ⟨hi1, hf⟩ := hf_g hf
  refine va_sld hx hb hX0 hbl hbA hS hi1 d_Law_law_283 ?_
  refine lv_aload_n hx hb d_Law_law_284 rfl (lv_at hl 0 rfl) ?_
  refine lv_iload hx hb d_Law_law_285 (lv_at hl 4 rfl) ?_
  refine lv_iconst (v := (2 : Int32)) hx hb d_Law_law_287 (by decide) ?_
  refine lv_iadd hx hb d_Law_law_288 ?_
  obtain ⟨hi2, hf⟩ := hf_g hf
  refine va_sld hx hb hX0 hbl hbA hS hi2 d_Law_law_289 ?_
  refine lv_aload_n hx hb d_Law_law_290 rfl (lv_at hl 3 rfl) ?_
  obtain ⟨u3, hu3, hf⟩ := Option.bind_eq_some_iff.mp hf
  refine cl_i (wc := (uw_HT ad_ht cA_ht (ad_rd 0) (ad_sp 0) (ad_mx 0) (ad_ar 0) (ad_tb 0) (ad_tc 0) ht ++ (uw_Out ad_ot cA_ot ot ++ (uw_Table ad_tb cA_tb tb)))) (wr := (uw_Reader ad_rd cA_rd rd ++ (uw_Speller ad_sp cA_sp sp ++ (uw_Mixture ad_mx cA_mx mx ++ (uw_Surroundings ad_ar cA_ar ar ++ (uw_Table ad_tc cA_tc tc ++ (uw_Model ad_md cA_md md))))))) (tysC := [(cA_ht 1, .int), (cA_ot 1, .long), (cA_tb 1, .int), (cA_tb 2, .int), (cA_tb 3, .int), (cA_tb 4, .byte)]) (wu := fun (u : SOut) => (uw_HT ad_ht cA_ht (ad_rd 0) (ad_sp 0) (ad_mx 0) (ad_ar 0) (ad_tb 0) (ad_tc 0) ht ++ (uw_Out ad_ot cA_ot u ++ (uw_Table ad_tb cA_tb tb)))) (wn := fun (u : SOut) => (uw_HT ad_ht cA_ht (ad_rd 0) (ad_sp 0) (ad_mx 0) (ad_ar 0) (ad_tb 0) (ad_tc 0) ht ++ (uw_Reader ad_rd cA_rd rd ++ (uw_Speller ad_sp cA_sp sp ++ (uw_Mixture ad_mx cA_mx mx ++ (uw_Surroundings ad_ar cA_ar ar ++ (uw_Table ad_tb cA_tb tb ++ (uw_Table ad_tc cA_tc tc ++ (uw_Out ad_ot cA_ot u ++ (uw_Model ad_md cA_md md)))))))))) [0, 1, 27, 17, 18, 19, 20, 21] [2, 3, 4, 5, 6, 7, 8, 9, 10, 11, 12, 13, 14, 15, 16, 22, 23, 24, 25, 26, 28, 29, 30, 31, 32, 33, 34, 35, 36, 37, 38, 39, 40, 41] [34, 35, 0, 1, 2, 3, 4, 5, 6, 7, 8, 9, 10, 11, 12, 13, 14, 37, 38, 39, 40, 41, 15, 16, 17, 18, 19, 36, 20, 21, 22, 23, 24, 25, 26, 27, 28, 29, 30, 31, 32, 33] [0, 20, 12, 13, 14, 15] hP hD hS hA hK rfl rfl (by decide +kernel) (by decide +kernel) (by decide +kernel) rfl (fun _ => rfl) (by decide +kernel) (fun hPc hKc hDc => (vx_runSW (As := [.ref (ad_ht 0), .int (xs (y4 + (1 : Int32)).toNatClampNeg), .int (xs (y4 + (2 : Int32)).toNatClampNeg), .ref (ad_ot 1)]) (rest := []) ⟨hx, hb, hml, hown, hts⟩ (k_Law_material l dC dI ad_ht cA_ht ad_ot cA_ot ad_tb cA_tb ad_rd cA_rd ad_sp cA_sp ad_mx cA_mx ad_ar cA_ar ad_tc cA_tc H.size ht ot tb (xs (y4 + (1 : Int32)).toNatClampNeg) (xs (y4 + (2 : Int32)).toNatClampNeg) u3 hu3 htr) (vx_cwSW 4 hts (gSW wd_466 wd_467 wd_42 wd_468) rfl rfl rfl (by decide +kernel) ⟨Nat.le_of_ble_eq_true rfl, Nat.le_of_ble_eq_true rfl⟩) (cx_preL hPc hKc hDc hN (fun U hU hW => xAll_at hX hS (va_free hD hS hA [0, 1, 27, 17, 18, 19, 20, 21] rfl) hU hW) hnc) rfl rfl hl.1 rfl (lv_room (Nat.le_of_ble_eq_true rfl)) d_Law_law_291 ⟨by show _ ≤ 1092; omega, by show _ ≤ 11944; omega⟩)) (fun r u H locs hw hP hD hS => ?_)
  obtain ⟨hw1, hw2⟩ := hw
  have hw1 := hw1.symm
  have hw2 := hw2.symm
  subst hw1
  subst hw2
  have hP : va_P (dC, dI) vwCl (uw_HT ad_ht cA_ht (ad_rd 0) (ad_sp 0) (ad_mx 0) (ad_ar 0) (ad_tb 0) (ad_tc 0) ht ++ (uw_Reader ad_rd cA_rd rd ++ (uw_Speller ad_sp cA_sp sp ++ (uw_Mixture ad_mx cA_mx mx ++ (uw_Surroundings ad_ar cA_ar ar ++ (uw_Table ad_tb cA_tb tb ++ (uw_Table ad_tc cA_tc tc ++ (uw_Out ad_ot cA_ot u3.2 ++ (uw_Model ad_md cA_md md))))))))) H := hP
  have hD : va_D A (uw_HT ad_ht cA_ht (ad_rd 0) (ad_sp 0) (ad_mx 0) (ad_ar 0) (ad_tb 0) (ad_tc 0) ht ++ (uw_Reader ad_rd cA_rd rd ++ (uw_Speller ad_sp cA_sp sp ++ (uw_Mixture ad_mx cA_mx mx ++ (uw_Surroundings ad_ar cA_ar ar ++ (uw_Table ad_tb cA_tb tb ++ (uw_Table ad_tc cA_tc tc ++ (uw_Out ad_ot cA_ot u3.2 ++ (uw_Model ad_md cA_md md))))))))) := hD
  refine lv_istore (lv' := [(5, .int u3.1), (0, .ref b), (1, .ref (ad_ht 0)), (2, .ref (ad_md 0)), (3, .ref (ad_ot 1)), (4, .int y4)]) hx hb d_Law_law_294 hl (by decide) rfl (fun ls hl => ?_)
  refine lv_aload_n hx hb d_Law_law_296 rfl (lv_at hl 3 rfl) ?_
  refine lv_aload_n hx hb d_Law_law_297 rfl (lv_at hl 1 rfl) ?_
  refine lv_iload hx hb d_Law_law_298 (lv_at hl 5 rfl) ?_
  refine lv_iconst (v := (1 : Int32)) hx hb d_Law_law_300 (by decide) ?_
  refine lv_iadd hx hb d_Law_law_301 ?_
  obtain ⟨hi4, hf⟩ := hf_g hf
  refine va_sld hx hb hX0 hbl hbA hS hi4 d_Law_law_302 ?_
  refine lv_aload_n hx hb d_Law_law_303 rfl (lv_at hl 1 rfl) ?_
  refine lv_iload hx hb d_Law_law_304 (lv_at hl 5 rfl) ?_
  refine lv_iconst (v := (2 : Int32)) hx hb d_Law_law_306 (by decide) ?_
  refine lv_iadd hx hb d_Law_law_307 ?_
  obtain ⟨hi5, hf⟩ := hf_g hf
  refine va_sld hx hb hX0 hbl hbA hS hi5 d_Law_law_308 ?_
  obtain ⟨u6, hu6, hf⟩ := Option.bind_eq_some_iff.mp hf
  refine cl_i (wc := (uw_Model ad_md cA_md md)) (wr := (uw_HT ad_ht cA_ht (ad_rd 0) (ad_sp 0) (ad_mx 0) (ad_ar 0) (ad_tb 0) (ad_tc 0) ht ++ (uw_Reader ad_rd cA_rd rd ++ (uw_Speller ad_sp cA_sp sp ++ (uw_Mixture ad_mx cA_mx mx ++ (uw_Surroundings ad_ar cA_ar ar ++ (uw_Table ad_tb cA_tb tb ++ (uw_Table ad_tc cA_tc tc ++ (uw_Out ad_ot cA_ot u3.2))))))))) (tysC := [(cA_md 1, .int), (cA_md 2, .int), (cA_md 3, .int), (cA_md 4, .int), (cA_md 5, .int), (cA_md 6, .int), (cA_md 7, .int), (cA_md 8, .int), (cA_md 9, .boolean), (cA_md 10, .int), (cA_md 11, .int), (cA_md 12, .int), (cA_md 13, .int)]) (wu := fun (u : SModel) => (uw_Model ad_md cA_md u)) (wn := fun (u : SModel) => (uw_HT ad_ht cA_ht (ad_rd 0) (ad_sp 0) (ad_mx 0) (ad_ar 0) (ad_tb 0) (ad_tc 0) ht ++ (uw_Reader ad_rd cA_rd rd ++ (uw_Speller ad_sp cA_sp sp ++ (uw_Mixture ad_mx cA_mx mx ++ (uw_Surroundings ad_ar cA_ar ar ++ (uw_Table ad_tb cA_tb tb ++ (uw_Table ad_tc cA_tc tc ++ (uw_Out ad_ot cA_ot u3.2 ++ (uw_Model ad_md cA_md u)))))))))) [28, 29, 30, 31, 32, 33, 34, 35, 36, 37, 38, 39, 40, 41] [0, 1, 2, 3, 4, 5, 6, 7, 8, 9, 10, 11, 12, 13, 14, 15, 16, 17, 18, 19, 20, 21, 22, 23, 24, 25, 26, 27] [0, 1, 2, 3, 4, 5, 6, 7, 8, 9, 10, 11, 12, 13, 14, 15, 16, 17, 18, 19, 20, 21, 22, 23, 24, 25, 26, 27, 28, 29, 30, 31, 32, 33, 34, 35, 36, 37, 38, 39, 40, 41] [21, 22, 23, 24, 25, 26, 27, 28, 29, 30, 31, 32, 33] hP hD hS hA hK rfl rfl (by decide +kernel) (by decide +kernel) (by decide +kernel) rfl (fun _ => rfl) (by decide +kernel) (fun hPc hKc hDc => (va_runV (As := [.int (xs (y4 + (1 : Int32)).toNatClampNeg), .int (xs (y4 + (2 : Int32)).toNatClampNeg)]) (rest := []) ⟨hx, hb, hml, hown, hts⟩ (k_Model_material l dC dI ad_md cA_md H.size md (xs (y4 + (1 : Int32)).toNatClampNeg) (xs (y4 + (2 : Int32)).toNatClampNeg) u6 hu6) (cwV 2 hts (gV wd_910 wd_911 wd_912 wd_49 wd_913) rfl rfl rfl (by decide +kernel) ⟨Nat.le_of_ble_eq_true rfl, Nat.le_of_ble_eq_true rfl⟩) (cl_preV hPc hKc hDc hN (ci := 6) 0 rfl rfl) rfl rfl hl.1 rfl (lv_room (Nat.le_of_ble_eq_true rfl)) d_Law_law_309 ⟨by show _ ≤ 1092; omega, by show _ ≤ 11944; omega⟩)) (fun r u H locs hw hP hD hS => ?_)
  obtain ⟨hw1, hw2⟩ := hw
  have hw1 := hw1.symm
  have hw2 := hw2.symm
  subst hw1
  subst hw2
  have hP : va_P (dC, dI) vwCl (uw_HT ad_ht cA_ht (ad_rd 0) (ad_sp 0) (ad_mx 0) (ad_ar 0) (ad_tb 0) (ad_tc 0) ht ++ (uw_Reader ad_rd cA_rd rd ++ (uw_Speller ad_sp cA_sp sp ++ (uw_Mixture ad_mx cA_mx mx ++ (uw_Surroundings ad_ar cA_ar ar ++ (uw_Table ad_tb cA_tb tb ++ (uw_Table ad_tc cA_tc tc ++ (uw_Out ad_ot cA_ot u3.2 ++ (uw_Model ad_md cA_md u6.2))))))))) H := hP
  have hD : va_D A (uw_HT ad_ht cA_ht (ad_rd 0) (ad_sp 0) (ad_mx 0) (ad_ar 0) (ad_tb 0) (ad_tc 0) ht ++ (uw_Reader ad_rd cA_rd rd ++ (uw_Speller ad_sp cA_sp sp ++ (uw_Mixture ad_mx cA_mx mx ++ (uw_Surroundings ad_ar cA_ar ar ++ (uw_Table ad_tb cA_tb tb ++ (uw_Table ad_tc cA_tc tc ++ (uw_Out ad_ot cA_ot u3.2 ++ (uw_Model ad_md cA_md u6.2))))))))) := hD
  refine lv_istore (lv' := [(6, .int u6.1), (5, .int u3.1), (0, .ref b), (1, .ref (ad_ht 0)), (2, .ref (ad_md 0)), (3, .ref (ad_ot 1)), (4, .int y4)]) hx hb d_Law_law_312 hl (by decide) rfl (fun ls hl => ?_)
  refine lv_aload_n hx hb d_Law_law_314 rfl (lv_at hl 4 rfl) ?_
  obtain ⟨u7, hu7, hf⟩ := Option.bind_eq_some_iff.mp hf
  refine cl_i (wc := (uw_Model ad_md cA_md u6.2)) (wr := (uw_HT ad_ht cA_ht (ad_rd 0) (ad_sp 0) (ad_mx 0) (ad_ar 0) (ad_tb 0) (ad_tc 0) ht ++ (uw_Reader ad_rd cA_rd rd ++ (uw_Speller ad_sp cA_sp sp ++ (uw_Mixture ad_mx cA_mx mx ++ (uw_Surroundings ad_ar cA_ar ar ++ (uw_Table ad_tb cA_tb tb ++ (uw_Table ad_tc cA_tc tc ++ (uw_Out ad_ot cA_ot u3.2))))))))) (tysC := [(cA_md 1, .int), (cA_md 2, .int), (cA_md 3, .int), (cA_md 4, .int), (cA_md 5, .int), (cA_md 6, .int), (cA_md 7, .int), (cA_md 8, .int), (cA_md 9, .boolean), (cA_md 10, .int), (cA_md 11, .int), (cA_md 12, .int), (cA_md 13, .int)]) (wu := fun (u : Unit) => (uw_Model ad_md cA_md u6.2)) (wn := fun (u : Unit) => (uw_HT ad_ht cA_ht (ad_rd 0) (ad_sp 0) (ad_mx 0) (ad_ar 0) (ad_tb 0) (ad_tc 0) ht ++ (uw_Reader ad_rd cA_rd rd ++ (uw_Speller ad_sp cA_sp sp ++ (uw_Mixture ad_mx cA_mx mx ++ (uw_Surroundings ad_ar cA_ar ar ++ (uw_Table ad_tb cA_tb tb ++ (uw_Table ad_tc cA_tc tc ++ (uw_Out ad_ot cA_ot u3.2 ++ (uw_Model ad_md cA_md u6.2)))))))))) [28, 29, 30, 31, 32, 33, 34, 35, 36, 37, 38, 39, 40, 41] [0, 1, 2, 3, 4, 5, 6, 7, 8, 9, 10, 11, 12, 13, 14, 15, 16, 17, 18, 19, 20, 21, 22, 23, 24, 25, 26, 27] [0, 1, 2, 3, 4, 5, 6, 7, 8, 9, 10, 11, 12, 13, 14, 15, 16, 17, 18, 19, 20, 21, 22, 23, 24, 25, 26, 27, 28, 29, 30, 31, 32, 33, 34, 35, 36, 37, 38, 39, 40, 41] [21, 22, 23, 24, 25, 26, 27, 28, 29, 30, 31, 32, 33] hP hD hS hA hK rfl rfl (by decide +kernel) (by decide +kernel) (by decide +kernel) rfl (fun _ => rfl) (by decide +kernel) (fun hPc hKc hDc => (va_runV (As := []) (rest := []) ⟨hx, hb, hml, hown, hts⟩ (k_Model_thrown l dC dI ad_md cA_md H.size u6.2 u7 hu7) (cwV 0 hts (gV wd_839 wd_840 wd_841 wd_49 wd_842) rfl rfl rfl (by decide +kernel) ⟨Nat.le_of_ble_eq_true rfl, Nat.le_of_ble_eq_true rfl⟩) (cl_preV hPc hKc hDc hN (ci := 6) 0 rfl rfl) rfl rfl hl.1 rfl (lv_room (Nat.le_of_ble_eq_true rfl)) d_Law_law_315 ⟨by show _ ≤ 1092; omega, by show _ ≤ 11944; omega⟩)) (fun r u H locs hw hP hD hS => ?_)
  have hw := hw.symm
  subst hw
  have hP : va_P (dC, dI) vwCl (uw_HT ad_ht cA_ht (ad_rd 0) (ad_sp 0) (ad_mx 0) (ad_ar 0) (ad_tb 0) (ad_tc 0) ht ++ (uw_Reader ad_rd cA_rd rd ++ (uw_Speller ad_sp cA_sp sp ++ (uw_Mixture ad_mx cA_mx mx ++ (uw_Surroundings ad_ar cA_ar ar ++ (uw_Table ad_tb cA_tb tb ++ (uw_Table ad_tc cA_tc tc ++ (uw_Out ad_ot cA_ot u3.2 ++ (uw_Model ad_md cA_md u6.2))))))))) H := hP
  have hD : va_D A (uw_HT ad_ht cA_ht (ad_rd 0) (ad_sp 0) (ad_mx 0) (ad_ar 0) (ad_tb 0) (ad_tc 0) ht ++ (uw_Reader ad_rd cA_rd rd ++ (uw_Speller ad_sp cA_sp sp ++ (uw_Mixture ad_mx cA_mx mx ++ (uw_Surroundings ad_ar cA_ar ar ++ (uw_Table ad_tb cA_tb tb ++ (uw_Table ad_tc cA_tc tc ++ (uw_Out ad_ot cA_ot u3.2 ++ (uw_Model ad_md cA_md u6.2))))))))) := hD
  refine lv_iload hx hb d_Law_law_318 (lv_at hl 1 rfl) ?_
  refine lv_icmp_eq (tgt := 325) hx hb d_Law_law_320 (by decide) (fun hc8 => ?_) (fun hc8 => ?_)
  · have hf := hf_t hf hc8
    refine lv_iload hx hb d_Law_law_325 (lv_at hl 1 rfl) ?_
    refine lv_if_ne (tgt := 342) hx hb d_Law_law_327 (by decide) (fun hc9 => ?_) (fun hc9 => ?_)
    · have hf := hf_f hf hc9
      refine lv_goto (tgt := 1166) hx hb d_Law_law_342 (by decide) ?_
      refine lv_iinc (v := y4 + (4 : Int32)) (lv' := [(4, .int (y4 + (4 : Int32))), (6, .int u6.1), (5, .int u3.1), (0, .ref b), (1, .ref (ad_ht 0)), (2, .ref (ad_md 0)), (3, .ref (ad_ot 1))]) hx hb d_Law_law_1166 hl (k := 6) rfl rfl (by decide) rfl (fun ls hl => ?_)
      refine lv_goto (tgt := 23) hx hb d_Law_law_1169 (by decide) ?_
      refine W.widen (k := cs + 1) (n := sl + 6) (by omega) (by omega) ?_
      exact hk ad_ht cA_ht ad_rd cA_rd ad_sp cA_sp ad_mx cA_mx ad_ar cA_ar ad_tb cA_tb ad_tc cA_tc ad_ot cA_ot ad_md cA_md ht rd sp mx ar tb tc u3.2 u6.2 (y4 + (4 : Int32)) H locs ls hf hK hP hD hS (lv_sub hl [3, 4, 5, 6, 0] rfl)
    · have hf := hf_t hf hc9
      refine lv_aload_n hx hb d_Law_law_330 rfl (lv_at hl 5 rfl) ?_
      refine lv_iconst (v := (0 : Int32)) hx hb d_Law_law_331 (by decide) ?_
      obtain ⟨hi10, hf⟩ := hf_g hf
      refine va_lald hx hb hK hP 27 20 rfl rfl hi10 d_Law_law_332 ?_
      refine lv_iload hx hb d_Law_law_333 (lv_at hl 0 rfl) ?_
      refine lv_i2l (v := u6.1.toInt64) hx hb d_Law_law_335 rfl ?_
      refine W.lcmp hx hb d_Law_law_336 ?_
      refine lv_if_eq (tgt := 342) hx hb d_Law_law_337 (by decide) (fun hc11 => ?_) (fun hc11 => ?_)
      · have hf := hf_t hf hc11
        refine lv_goto (tgt := 1166) hx hb d_Law_law_342 (by decide) ?_
        refine lv_iinc (v := y4 + (4 : Int32)) (lv' := [(4, .int (y4 + (4 : Int32))), (6, .int u6.1), (5, .int u3.1), (0, .ref b), (1, .ref (ad_ht 0)), (2, .ref (ad_md 0)), (3, .ref (ad_ot 1))]) hx hb d_Law_law_1166 hl (k := 6) rfl rfl (by decide) rfl (fun ls hl => ?_)
        refine lv_goto (tgt := 23) hx hb d_Law_law_1169 (by decide) ?_
        refine W.widen (k := cs + 1) (n := sl + 6) (by omega) (by omega) ?_
        exact hk ad_ht cA_ht ad_rd cA_rd ad_sp cA_sp ad_mx cA_mx ad_ar cA_ar ad_tb cA_tb ad_tc cA_tc ad_ot cA_ot ad_md cA_md ht rd sp mx ar tb tc u3.2 u6.2 (y4 + (4 : Int32)) H locs ls hf hK hP hD hS (lv_sub hl [3, 4, 5, 6, 0] rfl)
      · have hf := hf_f hf hc11
        refine lv_iconst (v := (0 : Int32)) hx hb d_Law_law_340 (by decide) ?_
        have hrv : rv = false := (Option.some.inj hf).symm
        subst hrv
        refine va_forget (fun q hq => hA2 _ (hS.2.2 q hq)) ?_
        refine W.widen (k := 1092) (n := 11944) (by omega) (by omega) ?_
        exact lw_ret0b hx hb hr hlocks d_Law_law_341
  · have hf := hf_f hf hc8
    refine lv_iconst (v := (0 : Int32)) hx hb d_Law_law_323 (by decide) ?_
    have hrv : rv = false := (Option.some.inj hf).symm
    subst hrv
    refine va_forget (fun q hq => hA2 _ (hS.2.2 q hq)) ?_
    refine W.widen (k := 1092) (n := 11944) (by omega) (by omega) ?_
    exact lw_ret0b hx hb hr hlocks d_Law_law_324
noncomputable def f_Law_case_345 (L : Nat) (xs : Nat → Int32) (k : SHT → SReader → SSpeller → SMixture → SSurroundings → STable → STable → SOut → SModel → Int32 → Option Bool) (ht : SHT) (rd : SReader) (sp : SSpeller) (mx : SMixture) (ar : SSurroundings) (tb : STable) (tc : STable) (ot : SOut) (md : SModel) (y4 : Int32) : Option Bool :=
  (if inb (y4 + (1 : Int32)) L then
    (if inb (y4 + (2 : Int32)) L then
      (if inb (y4 + (3 : Int32)) L then
        (Option.bind (f_Law_say ht ot sp tb ((((xs (y4 + (1 : Int32)).toNatClampNeg).toInt64) <<< ((32 : Int32).toInt64 &&& 63)) ||| (((xs (y4 + (2 : Int32)).toNatClampNeg).toInt64) &&& (4294967295 : Int64))) (xs (y4 + (3 : Int32)).toNatClampNeg)) fun u4 =>
          (if inb (y4 + (1 : Int32)) L then
            (if inb (y4 + (2 : Int32)) L then
              (if inb (y4 + (3 : Int32)) L then
                (Option.bind (f_Model_say md ((((xs (y4 + (1 : Int32)).toNatClampNeg).toInt64) <<< ((32 : Int32).toInt64 &&& 63)) ||| (((xs (y4 + (2 : Int32)).toNatClampNeg).toInt64) &&& (4294967295 : Int64))) (xs (y4 + (3 : Int32)).toNatClampNeg)) fun u8 =>
                  (Option.bind (f_Model_thrown u8.2) fun u9 =>
                    (if u9 = u4.1 then
                      (if u4.1 = 0 then
                        (if inb (0 : Int32) 1 then
                          (if (lg_cmp (u4.2.1 (0 : Int32).toNatClampNeg) u8.1.toInt64) = 0 then
                            (k ht rd u4.2.2 mx ar tb tc u4.2.1 u8.2 (y4 + (4 : Int32)))
                           else
                            (some false)
                           )
                         else none)
                       else
                        (k ht rd u4.2.2 mx ar tb tc u4.2.1 u8.2 (y4 + (4 : Int32)))
                       )
                     else
                      (some false)
                     )
                   )
                 )
               else none)
             else none)
           else none)
         )
       else none)
     else none)
   else none)
set_option maxHeartbeats 4000000 in
set_option maxRecDepth 100000 in
theorem k_Law_case_345 {rv : Bool} {p : Program} {l : Launch} {e : Env} {s : State} {m : MethodId} {below : List Frame} {meth : Method} {c : Code} {dC : Nat → ClassId} {dI : Nat → Nat → Nat} {b L : Nat} {xs : Nat → Int32} {A : Nat → Prop} (htr : l.stackTraces = false) (C0 : lw_At p s m meth c b L xs) (hN : nwAll s) (hX : xAll A s) (hnc : ncAll s) (hA : ∀ q : Nat, s.heap.size ≤ q → A q) (hA2 : ∀ q : Nat, A q → s.heap.size ≤ q) (cs sl : Nat) (hcs : cs + 1 ≤ 1092) (hsl : sl + 6 ≤ 11944) (k : SHT → SReader → SSpeller → SMixture → SSurroundings → STable → STable → SOut → SModel → Int32 → Option Bool) (hk : ∀ (ad_ht : Nat → Nat) (cA_ht : Nat → ClassId) (ad_rd : Nat → Nat) (cA_rd : Nat → ClassId) (ad_sp : Nat → Nat) (cA_sp : Nat → ClassId) (ad_mx : Nat → Nat) (cA_mx : Nat → ClassId) (ad_ar : Nat → Nat) (cA_ar : Nat → ClassId) (ad_tb : Nat → Nat) (cA_tb : Nat → ClassId) (ad_tc : Nat → Nat) (cA_tc : Nat → ClassId) (ad_ot : Nat → Nat) (cA_ot : Nat → ClassId) (ad_md : Nat → Nat) (cA_md : Nat → ClassId) (ht : SHT) (rd : SReader) (sp : SSpeller) (mx : SMixture) (ar : SSurroundings) (tb : STable) (tc : STable) (ot : SOut) (md : SModel) (y4 : Int32) (H : Heap) (locs : List Loc) (ls : Array Slot), k ht rd sp mx ar tb tc ot md y4 = some rv → va_K (dC, dI) vwCl [(cA_ht 1, .int), (cA_rd 1, .int), (cA_sp 1, .int), (cA_sp 2, .int), (cA_sp 3, .int), (cA_sp 4, .int), (cA_mx 1, .int), (cA_mx 2, .int), (cA_mx 3, .boolean), (cA_ar 1, .int), (cA_ar 2, .int), (cA_ar 3, .int), (cA_tb 1, .int), (cA_tb 2, .int), (cA_tb 3, .int), (cA_tb 4, .byte), (cA_tc 1, .int), (cA_tc 2, .int), (cA_tc 3, .int), (cA_tc 4, .byte), (cA_ot 1, .long), (cA_md 1, .int), (cA_md 2, .int), (cA_md 3, .int), (cA_md 4, .int), (cA_md 5, .int), (cA_md 6, .int), (cA_md 7, .int), (cA_md 8, .int), (cA_md 9, .boolean), (cA_md 10, .int), (cA_md 11, .int), (cA_md 12, .int), (cA_md 13, .int)] s → va_P (dC, dI) vwCl (uw_HT ad_ht cA_ht (ad_rd 0) (ad_sp 0) (ad_mx 0) (ad_ar 0) (ad_tb 0) (ad_tc 0) ht ++ (uw_Reader ad_rd cA_rd rd ++ (uw_Speller ad_sp cA_sp sp ++ (uw_Mixture ad_mx cA_mx mx ++ (uw_Surroundings ad_ar cA_ar ar ++ (uw_Table ad_tb cA_tb tb ++ (uw_Table ad_tc cA_tc tc ++ (uw_Out ad_ot cA_ot ot ++ (uw_Model ad_md cA_md md))))))))) H → va_D A (uw_HT ad_ht cA_ht (ad_rd 0) (ad_sp 0) (ad_mx 0) (ad_ar 0) (ad_tb 0) (ad_tc 0) ht ++ (uw_Reader ad_rd cA_rd rd ++ (uw_Speller ad_sp cA_sp sp ++ (uw_Mixture ad_mx cA_mx mx ++ (uw_Surroundings ad_ar cA_ar ar ++ (uw_Table ad_tb cA_tb tb ++ (uw_Table ad_tc cA_tc tc ++ (uw_Out ad_ot cA_ot ot ++ (uw_Model ad_md cA_md md))))))))) → va_S A s.heap H locs → lv_has ls 7 [(0, .ref b), (1, .ref (ad_ht 0)), (2, .ref (ad_md 0)), (3, .ref (ad_ot 1)), (4, .int y4)] → W p l e room_1 s m #[Value.ref b] below meth c H locs (cs + 1) (sl + 6) (lw_Zb rv below #[Value.ref b] s) (F0 m 23 ls [])) : ∀ (ad_ht : Nat → Nat) (cA_ht : Nat → ClassId) (ad_rd : Nat → Nat) (cA_rd : Nat → ClassId) (ad_sp : Nat → Nat) (cA_sp : Nat → ClassId) (ad_mx : Nat → Nat) (cA_mx : Nat → ClassId) (ad_ar : Nat → Nat) (cA_ar : Nat → ClassId) (ad_tb : Nat → Nat) (cA_tb : Nat → ClassId) (ad_tc : Nat → Nat) (cA_tc : Nat → ClassId) (ad_ot : Nat → Nat) (cA_ot : Nat → ClassId) (ad_md : Nat → Nat) (cA_md : Nat → ClassId) (ht : SHT) (rd : SReader) (sp : SSpeller) (mx : SMixture) (ar : SSurroundings) (tb : STable) (tc : STable) (ot : SOut) (md : SModel) (y4 : Int32) (H : Heap) (locs : List Loc) (ls : Array Slot), f_Law_case_345 L xs k ht rd sp mx ar tb tc ot md y4 = some rv → va_K (dC, dI) vwCl [(cA_ht 1, .int), (cA_rd 1, .int), (cA_sp 1, .int), (cA_sp 2, .int), (cA_sp 3, .int), (cA_sp 4, .int), (cA_mx 1, .int), (cA_mx 2, .int), (cA_mx 3, .boolean), (cA_ar 1, .int), (cA_ar 2, .int), (cA_ar 3, .int), (cA_tb 1, .int), (cA_tb 2, .int), (cA_tb 3, .int), (cA_tb 4, .byte), (cA_tc 1, .int), (cA_tc 2, .int), (cA_tc 3, .int), (cA_tc 4, .byte), (cA_ot 1, .long), (cA_md 1, .int), (cA_md 2, .int), (cA_md 3, .int), (cA_md 4, .int), (cA_md 5, .int), (cA_md 6, .int), (cA_md 7, .int), (cA_md 8, .int), (cA_md 9, .boolean), (cA_md 10, .int), (cA_md 11, .int), (cA_md 12, .int), (cA_md 13, .int)] s → va_P (dC, dI) vwCl (uw_HT ad_ht cA_ht (ad_rd 0) (ad_sp 0) (ad_mx 0) (ad_ar 0) (ad_tb 0) (ad_tc 0) ht ++ (uw_Reader ad_rd cA_rd rd ++ (uw_Speller ad_sp cA_sp sp ++ (uw_Mixture ad_mx cA_mx mx ++ (uw_Surroundings ad_ar cA_ar ar ++ (uw_Table ad_tb cA_tb tb ++ (uw_Table ad_tc cA_tc tc ++ (uw_Out ad_ot cA_ot ot ++ (uw_Model ad_md cA_md md))))))))) H → va_D A (uw_HT ad_ht cA_ht (ad_rd 0) (ad_sp 0) (ad_mx 0) (ad_ar 0) (ad_tb 0) (ad_tc 0) ht ++ (uw_Reader ad_rd cA_rd rd ++ (uw_Speller ad_sp cA_sp sp ++ (uw_Mixture ad_mx cA_mx mx ++ (uw_Surroundings ad_ar cA_ar ar ++ (uw_Table ad_tb cA_tb tb ++ (uw_Table ad_tc cA_tc tc ++ (uw_Out ad_ot cA_ot ot ++ (uw_Model ad_md cA_md md))))))))) → va_S A s.heap H locs → lv_has ls 7 [(0, .ref b), (1, .ref (ad_ht 0)), (2, .ref (ad_md 0)), (3, .ref (ad_ot 1)), (4, .int y4)] → W p l e room_1 s m #[Value.ref b] below meth c H locs cs sl (lw_Zb rv below #[Value.ref b] s) (F0 m 345 ls []) := by
  obtain ⟨hx, hb, hr, hml, hown, hts0, hX0, hbl, hlocks, hgv⟩ := C0
  have hown : s.vm.findClass "HazardTablesLaw" = some m.cls := hown
  have hts : ∀ w ∈ (Cond.initialized "HazardTables" :: WA), w.before #[Value.ref b] s = true := fun w h => hts0 w ((List.mem_cons.mp h).elim (fun e => by rw [e]; exact (List.mem_filter.mp wd_43).1) (fun h => (List.mem_filter.mp h).1))
  have hbA : ¬ A b := fun h => absurd (hA2 b h) (Nat.not_le.mpr hbl)
  intro ad_ht cA_ht ad_rd cA_rd ad_sp cA_sp ad_mx cA_mx ad_ar cA_ar ad_tb cA_tb ad_tc cA_tc ad_ot cA_ot ad_md cA_md ht rd sp mx ar tb tc ot md y4 H locs ls hf hK hP hD hS hl
  unfold f_Law_case_345 at hf
  refine lv_aload_n hx hb d_Law_law_345 rfl (lv_at hl 1 rfl) ?_
  refine lv_aload_n hx hb d_Law_law_346 rfl (lv_at hl 0 rfl) ?_
  refine lv_iload hx hb d_Law_law_347 (lv_at hl 4 rfl) ?_
  refine lv_iconst (v := (1 : Int32)) hx hb d_Law_law_349 (by decide) ?_
  refine lv_iadd hx hb d_Law_law_350 ?_
  obtain ⟨hi1, hf⟩ := hf_g hf
  refine va_sld hx hb hX0 hbl hbA hS hi1 d_Law_law_351 ?_
  refine lv_i2l (v := (xs (y4 + (1 : Int32)).toNatClampNeg).toInt64) hx hb d_Law_law_352 rfl ?_
  refine lv_bipush (v := (32 : Int32)) hx hb d_Law_law_353 (by decide) ?_
  refine lv_lshl (v := ((xs (y4 + (1 : Int32)).toNatClampNeg).toInt64) <<< ((32 : Int32).toInt64 &&& 63)) hx hb d_Law_law_355 rfl ?_
  refine lv_aload_n hx hb d_Law_law_356 rfl (lv_at hl 0 rfl) ?_
  refine lv_iload hx hb d_Law_law_357 (lv_at hl 4 rfl) ?_
  refine lv_iconst (v := (2 : Int32)) hx hb d_Law_law_359 (by decide) ?_
  refine lv_iadd hx hb d_Law_law_360 ?_
  obtain ⟨hi2, hf⟩ := hf_g hf
  refine va_sld hx hb hX0 hbl hbA hS hi2 d_Law_law_361 ?_
  refine lv_i2l (v := (xs (y4 + (2 : Int32)).toNatClampNeg).toInt64) hx hb d_Law_law_362 rfl ?_
  refine lv_ldc2 (v := (4294967295 : Int64)) hx hb hown (hts _ (List.mem_cons_of_mem _ wd_1003)) d_Law_law_363 ?_
  refine lv_land hx hb d_Law_law_366 ?_
  refine lv_lor hx hb d_Law_law_367 ?_
  refine lv_aload_n hx hb d_Law_law_368 rfl (lv_at hl 0 rfl) ?_
  refine lv_iload hx hb d_Law_law_369 (lv_at hl 4 rfl) ?_
  refine lv_iconst (v := (3 : Int32)) hx hb d_Law_law_371 (by decide) ?_
  refine lv_iadd hx hb d_Law_law_372 ?_
  obtain ⟨hi3, hf⟩ := hf_g hf
  refine va_sld hx hb hX0 hbl hbA hS hi3 d_Law_law_373 ?_
  refine lv_aload_n hx hb d_Law_law_374 rfl (lv_at hl 3 rfl) ?_
  obtain ⟨u4, hu4, hf⟩ := Option.bind_eq_some_iff.mp hf
  refine cl_i (wc := (uw_HT ad_ht cA_ht (ad_rd 0) (ad_sp 0) (ad_mx 0) (ad_ar 0) (ad_tb 0) (ad_tc 0) ht ++ (uw_Out ad_ot cA_ot ot ++ (uw_Speller ad_sp cA_sp sp ++ (uw_Table ad_tb cA_tb tb))))) (wr := (uw_Reader ad_rd cA_rd rd ++ (uw_Mixture ad_mx cA_mx mx ++ (uw_Surroundings ad_ar cA_ar ar ++ (uw_Table ad_tc cA_tc tc ++ (uw_Model ad_md cA_md md)))))) (tysC := [(cA_ht 1, .int), (cA_ot 1, .long), (cA_sp 1, .int), (cA_sp 2, .int), (cA_sp 3, .int), (cA_sp 4, .int), (cA_tb 1, .int), (cA_tb 2, .int), (cA_tb 3, .int), (cA_tb 4, .byte)]) (wu := fun (u : SOut × SSpeller) => (uw_HT ad_ht cA_ht (ad_rd 0) (ad_sp 0) (ad_mx 0) (ad_ar 0) (ad_tb 0) (ad_tc 0) ht ++ (uw_Out ad_ot cA_ot u.1 ++ (uw_Speller ad_sp cA_sp u.2 ++ (uw_Table ad_tb cA_tb tb))))) (wn := fun (u : SOut × SSpeller) => (uw_HT ad_ht cA_ht (ad_rd 0) (ad_sp 0) (ad_mx 0) (ad_ar 0) (ad_tb 0) (ad_tc 0) ht ++ (uw_Reader ad_rd cA_rd rd ++ (uw_Speller ad_sp cA_sp u.2 ++ (uw_Mixture ad_mx cA_mx mx ++ (uw_Surroundings ad_ar cA_ar ar ++ (uw_Table ad_tb cA_tb tb ++ (uw_Table ad_tc cA_tc tc ++ (uw_Out ad_ot cA_ot u.1 ++ (uw_Model ad_md cA_md md)))))))))) [0, 1, 27, 4, 5, 6, 7, 8, 17, 18, 19, 20, 21] [2, 3, 9, 10, 11, 12, 13, 14, 15, 16, 22, 23, 24, 25, 26, 28, 29, 30, 31, 32, 33, 34, 35, 36, 37, 38, 39, 40, 41] [29, 30, 0, 1, 32, 33, 34, 35, 36, 2, 3, 4, 5, 6, 7, 8, 9, 37, 38, 39, 40, 41, 10, 11, 12, 13, 14, 31, 15, 16, 17, 18, 19, 20, 21, 22, 23, 24, 25, 26, 27, 28] [0, 20, 2, 3, 4, 5, 12, 13, 14, 15] hP hD hS hA hK rfl rfl (by decide +kernel) (by decide +kernel) (by decide +kernel) rfl (fun _ => rfl) (by decide +kernel) (fun hPc hKc hDc => (vx_runSW (As := [.ref (ad_ht 0), .long ((((xs (y4 + (1 : Int32)).toNatClampNeg).toInt64) <<< ((32 : Int32).toInt64 &&& 63)) ||| (((xs (y4 + (2 : Int32)).toNatClampNeg).toInt64) &&& (4294967295 : Int64))), .int (xs (y4 + (3 : Int32)).toNatClampNeg), .ref (ad_ot 1)]) (rest := []) ⟨hx, hb, hml, hown, hts⟩ (k_Law_say l dC dI ad_ht cA_ht ad_ot cA_ot ad_sp cA_sp ad_tb cA_tb ad_rd cA_rd ad_mx cA_mx ad_ar cA_ar ad_tc cA_tc H.size ht ot sp tb ((((xs (y4 + (1 : Int32)).toNatClampNeg).toInt64) <<< ((32 : Int32).toInt64 &&& 63)) ||| (((xs (y4 + (2 : Int32)).toNatClampNeg).toInt64) &&& (4294967295 : Int64))) (xs (y4 + (3 : Int32)).toNatClampNeg) u4 hu4 htr) (vx_cwSW 4 hts (gSW wd_500 wd_501 wd_42 wd_502) rfl rfl rfl (by decide +kernel) ⟨Nat.le_of_ble_eq_true rfl, Nat.le_of_ble_eq_true rfl⟩) (cx_preL hPc hKc hDc hN (fun U hU hW => xAll_at hX hS (va_free hD hS hA [0, 1, 27, 4, 5, 6, 7, 8, 17, 18, 19, 20, 21] rfl) hU hW) hnc) rfl rfl hl.1 rfl (lv_room (Nat.le_of_ble_eq_true rfl)) d_Law_law_375 ⟨by show _ ≤ 1092; omega, by show _ ≤ 11944; omega⟩)) (fun r u H locs hw hP hD hS => ?_)
  obtain ⟨hw1, hw2⟩ := hw
  have hw1 := hw1.symm
  have hw2 := hw2.symm
  subst hw1
  subst hw2
  have hP : va_P (dC, dI) vwCl (uw_HT ad_ht cA_ht (ad_rd 0) (ad_sp 0) (ad_mx 0) (ad_ar 0) (ad_tb 0) (ad_tc 0) ht ++ (uw_Reader ad_rd cA_rd rd ++ (uw_Speller ad_sp cA_sp u4.2.2 ++ (uw_Mixture ad_mx cA_mx mx ++ (uw_Surroundings ad_ar cA_ar ar ++ (uw_Table ad_tb cA_tb tb ++ (uw_Table ad_tc cA_tc tc ++ (uw_Out ad_ot cA_ot u4.2.1 ++ (uw_Model ad_md cA_md md))))))))) H := hP
  have hD : va_D A (uw_HT ad_ht cA_ht (ad_rd 0) (ad_sp 0) (ad_mx 0) (ad_ar 0) (ad_tb 0) (ad_tc 0) ht ++ (uw_Reader ad_rd cA_rd rd ++ (uw_Speller ad_sp cA_sp u4.2.2 ++ (uw_Mixture ad_mx cA_mx mx ++ (uw_Surroundings ad_ar cA_ar ar ++ (uw_Table ad_tb cA_tb tb ++ (uw_Table ad_tc cA_tc tc ++ (uw_Out ad_ot cA_ot u4.2.1 ++ (uw_Model ad_md cA_md md))))))))) := hD
  refine lv_istore (lv' := [(5, .int u4.1), (0, .ref b), (1, .ref (ad_ht 0)), (2, .ref (ad_md 0)), (3, .ref (ad_ot 1)), (4, .int y4)]) hx hb d_Law_law_378 hl (by decide) rfl (fun ls hl => ?_)
  refine lv_aload_n hx hb d_Law_law_380 rfl (lv_at hl 3 rfl) ?_
  refine lv_aload_n hx hb d_Law_law_381 rfl (lv_at hl 1 rfl) ?_
  refine lv_iload hx hb d_Law_law_382 (lv_at hl 5 rfl) ?_
  refine lv_iconst (v := (1 : Int32)) hx hb d_Law_law_384 (by decide) ?_
  refine lv_iadd hx hb d_Law_law_385 ?_
  obtain ⟨hi5, hf⟩ := hf_g hf
  refine va_sld hx hb hX0 hbl hbA hS hi5 d_Law_law_386 ?_
  refine lv_i2l (v := (xs (y4 + (1 : Int32)).toNatClampNeg).toInt64) hx hb d_Law_law_387 rfl ?_
  refine lv_bipush (v := (32 : Int32)) hx hb d_Law_law_388 (by decide) ?_
  refine lv_lshl (v := ((xs (y4 + (1 : Int32)).toNatClampNeg).toInt64) <<< ((32 : Int32).toInt64 &&& 63)) hx hb d_Law_law_390 rfl ?_
  refine lv_aload_n hx hb d_Law_law_391 rfl (lv_at hl 1 rfl) ?_
  refine lv_iload hx hb d_Law_law_392 (lv_at hl 5 rfl) ?_
  refine lv_iconst (v := (2 : Int32)) hx hb d_Law_law_394 (by decide) ?_
  refine lv_iadd hx hb d_Law_law_395 ?_
  obtain ⟨hi6, hf⟩ := hf_g hf
  refine va_sld hx hb hX0 hbl hbA hS hi6 d_Law_law_396 ?_
  refine lv_i2l (v := (xs (y4 + (2 : Int32)).toNatClampNeg).toInt64) hx hb d_Law_law_397 rfl ?_
  refine lv_ldc2 (v := (4294967295 : Int64)) hx hb hown (hts _ (List.mem_cons_of_mem _ wd_1003)) d_Law_law_398 ?_
  refine lv_land hx hb d_Law_law_401 ?_
  refine lv_lor hx hb d_Law_law_402 ?_
  refine lv_aload_n hx hb d_Law_law_403 rfl (lv_at hl 1 rfl) ?_
  refine lv_iload hx hb d_Law_law_404 (lv_at hl 5 rfl) ?_
  refine lv_iconst (v := (3 : Int32)) hx hb d_Law_law_406 (by decide) ?_
  refine lv_iadd hx hb d_Law_law_407 ?_
  obtain ⟨hi7, hf⟩ := hf_g hf
  refine va_sld hx hb hX0 hbl hbA hS hi7 d_Law_law_408 ?_
  obtain ⟨u8, hu8, hf⟩ := Option.bind_eq_some_iff.mp hf
  refine cl_i (wc := (uw_Model ad_md cA_md md)) (wr := (uw_HT ad_ht cA_ht (ad_rd 0) (ad_sp 0) (ad_mx 0) (ad_ar 0) (ad_tb 0) (ad_tc 0) ht ++ (uw_Reader ad_rd cA_rd rd ++ (uw_Speller ad_sp cA_sp u4.2.2 ++ (uw_Mixture ad_mx cA_mx mx ++ (uw_Surroundings ad_ar cA_ar ar ++ (uw_Table ad_tb cA_tb tb ++ (uw_Table ad_tc cA_tc tc ++ (uw_Out ad_ot cA_ot u4.2.1))))))))) (tysC := [(cA_md 1, .int), (cA_md 2, .int), (cA_md 3, .int), (cA_md 4, .int), (cA_md 5, .int), (cA_md 6, .int), (cA_md 7, .int), (cA_md 8, .int), (cA_md 9, .boolean), (cA_md 10, .int), (cA_md 11, .int), (cA_md 12, .int), (cA_md 13, .int)]) (wu := fun (u : SModel) => (uw_Model ad_md cA_md u)) (wn := fun (u : SModel) => (uw_HT ad_ht cA_ht (ad_rd 0) (ad_sp 0) (ad_mx 0) (ad_ar 0) (ad_tb 0) (ad_tc 0) ht ++ (uw_Reader ad_rd cA_rd rd ++ (uw_Speller ad_sp cA_sp u4.2.2 ++ (uw_Mixture ad_mx cA_mx mx ++ (uw_Surroundings ad_ar cA_ar ar ++ (uw_Table ad_tb cA_tb tb ++ (uw_Table ad_tc cA_tc tc ++ (uw_Out ad_ot cA_ot u4.2.1 ++ (uw_Model ad_md cA_md u)))))))))) [28, 29, 30, 31, 32, 33, 34, 35, 36, 37, 38, 39, 40, 41] [0, 1, 2, 3, 4, 5, 6, 7, 8, 9, 10, 11, 12, 13, 14, 15, 16, 17, 18, 19, 20, 21, 22, 23, 24, 25, 26, 27] [0, 1, 2, 3, 4, 5, 6, 7, 8, 9, 10, 11, 12, 13, 14, 15, 16, 17, 18, 19, 20, 21, 22, 23, 24, 25, 26, 27, 28, 29, 30, 31, 32, 33, 34, 35, 36, 37, 38, 39, 40, 41] [21, 22, 23, 24, 25, 26, 27, 28, 29, 30, 31, 32, 33] hP hD hS hA hK rfl rfl (by decide +kernel) (by decide +kernel) (by decide +kernel) rfl (fun _ => rfl) (by decide +kernel) (fun hPc hKc hDc => (va_runV (As := [.long ((((xs (y4 + (1 : Int32)).toNatClampNeg).toInt64) <<< ((32 : Int32).toInt64 &&& 63)) ||| (((xs (y4 + (2 : Int32)).toNatClampNeg).toInt64) &&& (4294967295 : Int64))), .int (xs (y4 + (3 : Int32)).toNatClampNeg)]) (rest := []) ⟨hx, hb, hml, hown, hts⟩ (k_Model_say l dC dI ad_md cA_md H.size md ((((xs (y4 + (1 : Int32)).toNatClampNeg).toInt64) <<< ((32 : Int32).toInt64 &&& 63)) ||| (((xs (y4 + (2 : Int32)).toNatClampNeg).toInt64) &&& (4294967295 : Int64))) (xs (y4 + (3 : Int32)).toNatClampNeg) u8 hu8) (cwV 2 hts (gV wd_918 wd_919 wd_920 wd_49 wd_921) rfl rfl rfl (by decide +kernel) ⟨Nat.le_of_ble_eq_true rfl, Nat.le_of_ble_eq_true rfl⟩) (cl_preV hPc hKc hDc hN (ci := 6) 0 rfl rfl) rfl rfl hl.1 rfl (lv_room (Nat.le_of_ble_eq_true rfl)) d_Law_law_409 ⟨by show _ ≤ 1092; omega, by show _ ≤ 11944; omega⟩)) (fun r u H locs hw hP hD hS => ?_)
  obtain ⟨hw1, hw2⟩ := hw
  have hw1 := hw1.symm
  have hw2 := hw2.symm
  subst hw1
  subst hw2
  have hP : va_P (dC, dI) vwCl (uw_HT ad_ht cA_ht (ad_rd 0) (ad_sp 0) (ad_mx 0) (ad_ar 0) (ad_tb 0) (ad_tc 0) ht ++ (uw_Reader ad_rd cA_rd rd ++ (uw_Speller ad_sp cA_sp u4.2.2 ++ (uw_Mixture ad_mx cA_mx mx ++ (uw_Surroundings ad_ar cA_ar ar ++ (uw_Table ad_tb cA_tb tb ++ (uw_Table ad_tc cA_tc tc ++ (uw_Out ad_ot cA_ot u4.2.1 ++ (uw_Model ad_md cA_md u8.2))))))))) H := hP
  have hD : va_D A (uw_HT ad_ht cA_ht (ad_rd 0) (ad_sp 0) (ad_mx 0) (ad_ar 0) (ad_tb 0) (ad_tc 0) ht ++ (uw_Reader ad_rd cA_rd rd ++ (uw_Speller ad_sp cA_sp u4.2.2 ++ (uw_Mixture ad_mx cA_mx mx ++ (uw_Surroundings ad_ar cA_ar ar ++ (uw_Table ad_tb cA_tb tb ++ (uw_Table ad_tc cA_tc tc ++ (uw_Out ad_ot cA_ot u4.2.1 ++ (uw_Model ad_md cA_md u8.2))))))))) := hD
  refine lv_istore (lv' := [(6, .int u8.1), (5, .int u4.1), (0, .ref b), (1, .ref (ad_ht 0)), (2, .ref (ad_md 0)), (3, .ref (ad_ot 1)), (4, .int y4)]) hx hb d_Law_law_412 hl (by decide) rfl (fun ls hl => ?_)
  refine lv_aload_n hx hb d_Law_law_414 rfl (lv_at hl 4 rfl) ?_
  obtain ⟨u9, hu9, hf⟩ := Option.bind_eq_some_iff.mp hf
  refine cl_i (wc := (uw_Model ad_md cA_md u8.2)) (wr := (uw_HT ad_ht cA_ht (ad_rd 0) (ad_sp 0) (ad_mx 0) (ad_ar 0) (ad_tb 0) (ad_tc 0) ht ++ (uw_Reader ad_rd cA_rd rd ++ (uw_Speller ad_sp cA_sp u4.2.2 ++ (uw_Mixture ad_mx cA_mx mx ++ (uw_Surroundings ad_ar cA_ar ar ++ (uw_Table ad_tb cA_tb tb ++ (uw_Table ad_tc cA_tc tc ++ (uw_Out ad_ot cA_ot u4.2.1))))))))) (tysC := [(cA_md 1, .int), (cA_md 2, .int), (cA_md 3, .int), (cA_md 4, .int), (cA_md 5, .int), (cA_md 6, .int), (cA_md 7, .int), (cA_md 8, .int), (cA_md 9, .boolean), (cA_md 10, .int), (cA_md 11, .int), (cA_md 12, .int), (cA_md 13, .int)]) (wu := fun (u : Unit) => (uw_Model ad_md cA_md u8.2)) (wn := fun (u : Unit) => (uw_HT ad_ht cA_ht (ad_rd 0) (ad_sp 0) (ad_mx 0) (ad_ar 0) (ad_tb 0) (ad_tc 0) ht ++ (uw_Reader ad_rd cA_rd rd ++ (uw_Speller ad_sp cA_sp u4.2.2 ++ (uw_Mixture ad_mx cA_mx mx ++ (uw_Surroundings ad_ar cA_ar ar ++ (uw_Table ad_tb cA_tb tb ++ (uw_Table ad_tc cA_tc tc ++ (uw_Out ad_ot cA_ot u4.2.1 ++ (uw_Model ad_md cA_md u8.2)))))))))) [28, 29, 30, 31, 32, 33, 34, 35, 36, 37, 38, 39, 40, 41] [0, 1, 2, 3, 4, 5, 6, 7, 8, 9, 10, 11, 12, 13, 14, 15, 16, 17, 18, 19, 20, 21, 22, 23, 24, 25, 26, 27] [0, 1, 2, 3, 4, 5, 6, 7, 8, 9, 10, 11, 12, 13, 14, 15, 16, 17, 18, 19, 20, 21, 22, 23, 24, 25, 26, 27, 28, 29, 30, 31, 32, 33, 34, 35, 36, 37, 38, 39, 40, 41] [21, 22, 23, 24, 25, 26, 27, 28, 29, 30, 31, 32, 33] hP hD hS hA hK rfl rfl (by decide +kernel) (by decide +kernel) (by decide +kernel) rfl (fun _ => rfl) (by decide +kernel) (fun hPc hKc hDc => (va_runV (As := []) (rest := []) ⟨hx, hb, hml, hown, hts⟩ (k_Model_thrown l dC dI ad_md cA_md H.size u8.2 u9 hu9) (cwV 0 hts (gV wd_839 wd_840 wd_841 wd_49 wd_842) rfl rfl rfl (by decide +kernel) ⟨Nat.le_of_ble_eq_true rfl, Nat.le_of_ble_eq_true rfl⟩) (cl_preV hPc hKc hDc hN (ci := 6) 0 rfl rfl) rfl rfl hl.1 rfl (lv_room (Nat.le_of_ble_eq_true rfl)) d_Law_law_415 ⟨by show _ ≤ 1092; omega, by show _ ≤ 11944; omega⟩)) (fun r u H locs hw hP hD hS => ?_)
  have hw := hw.symm
  subst hw
  have hP : va_P (dC, dI) vwCl (uw_HT ad_ht cA_ht (ad_rd 0) (ad_sp 0) (ad_mx 0) (ad_ar 0) (ad_tb 0) (ad_tc 0) ht ++ (uw_Reader ad_rd cA_rd rd ++ (uw_Speller ad_sp cA_sp u4.2.2 ++ (uw_Mixture ad_mx cA_mx mx ++ (uw_Surroundings ad_ar cA_ar ar ++ (uw_Table ad_tb cA_tb tb ++ (uw_Table ad_tc cA_tc tc ++ (uw_Out ad_ot cA_ot u4.2.1 ++ (uw_Model ad_md cA_md u8.2))))))))) H := hP
  have hD : va_D A (uw_HT ad_ht cA_ht (ad_rd 0) (ad_sp 0) (ad_mx 0) (ad_ar 0) (ad_tb 0) (ad_tc 0) ht ++ (uw_Reader ad_rd cA_rd rd ++ (uw_Speller ad_sp cA_sp u4.2.2 ++ (uw_Mixture ad_mx cA_mx mx ++ (uw_Surroundings ad_ar cA_ar ar ++ (uw_Table ad_tb cA_tb tb ++ (uw_Table ad_tc cA_tc tc ++ (uw_Out ad_ot cA_ot u4.2.1 ++ (uw_Model ad_md cA_md u8.2))))))))) := hD
  refine lv_iload hx hb d_Law_law_418 (lv_at hl 1 rfl) ?_
  refine lv_icmp_eq (tgt := 425) hx hb d_Law_law_420 (by decide) (fun hc10 => ?_) (fun hc10 => ?_)
  · have hf := hf_t hf hc10
    refine lv_iload hx hb d_Law_law_425 (lv_at hl 1 rfl) ?_
    refine lv_if_ne (tgt := 442) hx hb d_Law_law_427 (by decide) (fun hc11 => ?_) (fun hc11 => ?_)
    · have hf := hf_f hf hc11
      refine lv_goto (tgt := 1166) hx hb d_Law_law_442 (by decide) ?_
      refine lv_iinc (v := y4 + (4 : Int32)) (lv' := [(4, .int (y4 + (4 : Int32))), (6, .int u8.1), (5, .int u4.1), (0, .ref b), (1, .ref (ad_ht 0)), (2, .ref (ad_md 0)), (3, .ref (ad_ot 1))]) hx hb d_Law_law_1166 hl (k := 6) rfl rfl (by decide) rfl (fun ls hl => ?_)
      refine lv_goto (tgt := 23) hx hb d_Law_law_1169 (by decide) ?_
      refine W.widen (k := cs + 1) (n := sl + 6) (by omega) (by omega) ?_
      exact hk ad_ht cA_ht ad_rd cA_rd ad_sp cA_sp ad_mx cA_mx ad_ar cA_ar ad_tb cA_tb ad_tc cA_tc ad_ot cA_ot ad_md cA_md ht rd u4.2.2 mx ar tb tc u4.2.1 u8.2 (y4 + (4 : Int32)) H locs ls hf hK hP hD hS (lv_sub hl [3, 4, 5, 6, 0] rfl)
    · have hf := hf_t hf hc11
      refine lv_aload_n hx hb d_Law_law_430 rfl (lv_at hl 5 rfl) ?_
      refine lv_iconst (v := (0 : Int32)) hx hb d_Law_law_431 (by decide) ?_
      obtain ⟨hi12, hf⟩ := hf_g hf
      refine va_lald hx hb hK hP 27 20 rfl rfl hi12 d_Law_law_432 ?_
      refine lv_iload hx hb d_Law_law_433 (lv_at hl 0 rfl) ?_
      refine lv_i2l (v := u8.1.toInt64) hx hb d_Law_law_435 rfl ?_
      refine W.lcmp hx hb d_Law_law_436 ?_
      refine lv_if_eq (tgt := 442) hx hb d_Law_law_437 (by decide) (fun hc13 => ?_) (fun hc13 => ?_)
      · have hf := hf_t hf hc13
        refine lv_goto (tgt := 1166) hx hb d_Law_law_442 (by decide) ?_
        refine lv_iinc (v := y4 + (4 : Int32)) (lv' := [(4, .int (y4 + (4 : Int32))), (6, .int u8.1), (5, .int u4.1), (0, .ref b), (1, .ref (ad_ht 0)), (2, .ref (ad_md 0)), (3, .ref (ad_ot 1))]) hx hb d_Law_law_1166 hl (k := 6) rfl rfl (by decide) rfl (fun ls hl => ?_)
        refine lv_goto (tgt := 23) hx hb d_Law_law_1169 (by decide) ?_
        refine W.widen (k := cs + 1) (n := sl + 6) (by omega) (by omega) ?_
        exact hk ad_ht cA_ht ad_rd cA_rd ad_sp cA_sp ad_mx cA_mx ad_ar cA_ar ad_tb cA_tb ad_tc cA_tc ad_ot cA_ot ad_md cA_md ht rd u4.2.2 mx ar tb tc u4.2.1 u8.2 (y4 + (4 : Int32)) H locs ls hf hK hP hD hS (lv_sub hl [3, 4, 5, 6, 0] rfl)
      · have hf := hf_f hf hc13
        refine lv_iconst (v := (0 : Int32)) hx hb d_Law_law_440 (by decide) ?_
        have hrv : rv = false := (Option.some.inj hf).symm
        subst hrv
        refine va_forget (fun q hq => hA2 _ (hS.2.2 q hq)) ?_
        refine W.widen (k := 1092) (n := 11944) (by omega) (by omega) ?_
        exact lw_ret0b hx hb hr hlocks d_Law_law_441
  · have hf := hf_f hf hc10
    refine lv_iconst (v := (0 : Int32)) hx hb d_Law_law_423 (by decide) ?_
    have hrv : rv = false := (Option.some.inj hf).symm
    subst hrv
    refine va_forget (fun q hq => hA2 _ (hS.2.2 q hq)) ?_
    refine W.widen (k := 1092) (n := 11944) (by omega) (by omega) ?_
    exact lw_ret0b hx hb hr hlocks d_Law_law_424
noncomputable def f_Law_case_445 (L : Nat) (xs : Nat → Int32) (k : SHT → SReader → SSpeller → SMixture → SSurroundings → STable → STable → SOut → SModel → Int32 → Option Bool) (ht : SHT) (rd : SReader) (sp : SSpeller) (mx : SMixture) (ar : SSurroundings) (tb : STable) (tc : STable) (ot : SOut) (md : SModel) (y4 : Int32) : Option Bool :=
  (if inb (y4 + (1 : Int32)) L then
    (Option.bind (f_Law_near ht ot sp (xs (y4 + (1 : Int32)).toNatClampNeg)) fun u2 =>
      (if inb (y4 + (1 : Int32)) L then
        (Option.bind (f_Model_near md (xs (y4 + (1 : Int32)).toNatClampNeg)) fun u4 =>
          (Option.bind (f_Model_thrown u4.2) fun u5 =>
            (if u5 = u2.1 then
              (if u2.1 = 0 then
                (if inb (0 : Int32) 1 then
                  (if (lg_cmp (u2.2 (0 : Int32).toNatClampNeg) u4.1.toInt64) = 0 then
                    (k ht rd sp mx ar tb tc u2.2 u4.2 (y4 + (4 : Int32)))
                   else
                    (some false)
                   )
                 else none)
               else
                (k ht rd sp mx ar tb tc u2.2 u4.2 (y4 + (4 : Int32)))
               )
             else
              (some false)
             )
           )
         )
       else none)
     )
   else none)
set_option maxHeartbeats 4000000 in
set_option maxRecDepth 100000 in
theorem k_Law_case_445 {rv : Bool} {p : Program} {l : Launch} {e : Env} {s : State} {m : MethodId} {below : List Frame} {meth : Method} {c : Code} {dC : Nat → ClassId} {dI : Nat → Nat → Nat} {b L : Nat} {xs : Nat → Int32} {A : Nat → Prop} (htr : l.stackTraces = false) (C0 : lw_At p s m meth c b L xs) (hN : nwAll s) (hX : xAll A s) (hnc : ncAll s) (hA : ∀ q : Nat, s.heap.size ≤ q → A q) (hA2 : ∀ q : Nat, A q → s.heap.size ≤ q) (cs sl : Nat) (hcs : cs + 1 ≤ 1092) (hsl : sl + 6 ≤ 11944) (k : SHT → SReader → SSpeller → SMixture → SSurroundings → STable → STable → SOut → SModel → Int32 → Option Bool) (hk : ∀ (ad_ht : Nat → Nat) (cA_ht : Nat → ClassId) (ad_rd : Nat → Nat) (cA_rd : Nat → ClassId) (ad_sp : Nat → Nat) (cA_sp : Nat → ClassId) (ad_mx : Nat → Nat) (cA_mx : Nat → ClassId) (ad_ar : Nat → Nat) (cA_ar : Nat → ClassId) (ad_tb : Nat → Nat) (cA_tb : Nat → ClassId) (ad_tc : Nat → Nat) (cA_tc : Nat → ClassId) (ad_ot : Nat → Nat) (cA_ot : Nat → ClassId) (ad_md : Nat → Nat) (cA_md : Nat → ClassId) (ht : SHT) (rd : SReader) (sp : SSpeller) (mx : SMixture) (ar : SSurroundings) (tb : STable) (tc : STable) (ot : SOut) (md : SModel) (y4 : Int32) (H : Heap) (locs : List Loc) (ls : Array Slot), k ht rd sp mx ar tb tc ot md y4 = some rv → va_K (dC, dI) vwCl [(cA_ht 1, .int), (cA_rd 1, .int), (cA_sp 1, .int), (cA_sp 2, .int), (cA_sp 3, .int), (cA_sp 4, .int), (cA_mx 1, .int), (cA_mx 2, .int), (cA_mx 3, .boolean), (cA_ar 1, .int), (cA_ar 2, .int), (cA_ar 3, .int), (cA_tb 1, .int), (cA_tb 2, .int), (cA_tb 3, .int), (cA_tb 4, .byte), (cA_tc 1, .int), (cA_tc 2, .int), (cA_tc 3, .int), (cA_tc 4, .byte), (cA_ot 1, .long), (cA_md 1, .int), (cA_md 2, .int), (cA_md 3, .int), (cA_md 4, .int), (cA_md 5, .int), (cA_md 6, .int), (cA_md 7, .int), (cA_md 8, .int), (cA_md 9, .boolean), (cA_md 10, .int), (cA_md 11, .int), (cA_md 12, .int), (cA_md 13, .int)] s → va_P (dC, dI) vwCl (uw_HT ad_ht cA_ht (ad_rd 0) (ad_sp 0) (ad_mx 0) (ad_ar 0) (ad_tb 0) (ad_tc 0) ht ++ (uw_Reader ad_rd cA_rd rd ++ (uw_Speller ad_sp cA_sp sp ++ (uw_Mixture ad_mx cA_mx mx ++ (uw_Surroundings ad_ar cA_ar ar ++ (uw_Table ad_tb cA_tb tb ++ (uw_Table ad_tc cA_tc tc ++ (uw_Out ad_ot cA_ot ot ++ (uw_Model ad_md cA_md md))))))))) H → va_D A (uw_HT ad_ht cA_ht (ad_rd 0) (ad_sp 0) (ad_mx 0) (ad_ar 0) (ad_tb 0) (ad_tc 0) ht ++ (uw_Reader ad_rd cA_rd rd ++ (uw_Speller ad_sp cA_sp sp ++ (uw_Mixture ad_mx cA_mx mx ++ (uw_Surroundings ad_ar cA_ar ar ++ (uw_Table ad_tb cA_tb tb ++ (uw_Table ad_tc cA_tc tc ++ (uw_Out ad_ot cA_ot ot ++ (uw_Model ad_md cA_md md))))))))) → va_S A s.heap H locs → lv_has ls 7 [(0, .ref b), (1, .ref (ad_ht 0)), (2, .ref (ad_md 0)), (3, .ref (ad_ot 1)), (4, .int y4)] → W p l e room_1 s m #[Value.ref b] below meth c H locs (cs + 1) (sl + 6) (lw_Zb rv below #[Value.ref b] s) (F0 m 23 ls [])) : ∀ (ad_ht : Nat → Nat) (cA_ht : Nat → ClassId) (ad_rd : Nat → Nat) (cA_rd : Nat → ClassId) (ad_sp : Nat → Nat) (cA_sp : Nat → ClassId) (ad_mx : Nat → Nat) (cA_mx : Nat → ClassId) (ad_ar : Nat → Nat) (cA_ar : Nat → ClassId) (ad_tb : Nat → Nat) (cA_tb : Nat → ClassId) (ad_tc : Nat → Nat) (cA_tc : Nat → ClassId) (ad_ot : Nat → Nat) (cA_ot : Nat → ClassId) (ad_md : Nat → Nat) (cA_md : Nat → ClassId) (ht : SHT) (rd : SReader) (sp : SSpeller) (mx : SMixture) (ar : SSurroundings) (tb : STable) (tc : STable) (ot : SOut) (md : SModel) (y4 : Int32) (H : Heap) (locs : List Loc) (ls : Array Slot), f_Law_case_445 L xs k ht rd sp mx ar tb tc ot md y4 = some rv → va_K (dC, dI) vwCl [(cA_ht 1, .int), (cA_rd 1, .int), (cA_sp 1, .int), (cA_sp 2, .int), (cA_sp 3, .int), (cA_sp 4, .int), (cA_mx 1, .int), (cA_mx 2, .int), (cA_mx 3, .boolean), (cA_ar 1, .int), (cA_ar 2, .int), (cA_ar 3, .int), (cA_tb 1, .int), (cA_tb 2, .int), (cA_tb 3, .int), (cA_tb 4, .byte), (cA_tc 1, .int), (cA_tc 2, .int), (cA_tc 3, .int), (cA_tc 4, .byte), (cA_ot 1, .long), (cA_md 1, .int), (cA_md 2, .int), (cA_md 3, .int), (cA_md 4, .int), (cA_md 5, .int), (cA_md 6, .int), (cA_md 7, .int), (cA_md 8, .int), (cA_md 9, .boolean), (cA_md 10, .int), (cA_md 11, .int), (cA_md 12, .int), (cA_md 13, .int)] s → va_P (dC, dI) vwCl (uw_HT ad_ht cA_ht (ad_rd 0) (ad_sp 0) (ad_mx 0) (ad_ar 0) (ad_tb 0) (ad_tc 0) ht ++ (uw_Reader ad_rd cA_rd rd ++ (uw_Speller ad_sp cA_sp sp ++ (uw_Mixture ad_mx cA_mx mx ++ (uw_Surroundings ad_ar cA_ar ar ++ (uw_Table ad_tb cA_tb tb ++ (uw_Table ad_tc cA_tc tc ++ (uw_Out ad_ot cA_ot ot ++ (uw_Model ad_md cA_md md))))))))) H → va_D A (uw_HT ad_ht cA_ht (ad_rd 0) (ad_sp 0) (ad_mx 0) (ad_ar 0) (ad_tb 0) (ad_tc 0) ht ++ (uw_Reader ad_rd cA_rd rd ++ (uw_Speller ad_sp cA_sp sp ++ (uw_Mixture ad_mx cA_mx mx ++ (uw_Surroundings ad_ar cA_ar ar ++ (uw_Table ad_tb cA_tb tb ++ (uw_Table ad_tc cA_tc tc ++ (uw_Out ad_ot cA_ot ot ++ (uw_Model ad_md cA_md md))))))))) → va_S A s.heap H locs → lv_has ls 7 [(0, .ref b), (1, .ref (ad_ht 0)), (2, .ref (ad_md 0)), (3, .ref (ad_ot 1)), (4, .int y4)] → W p l e room_1 s m #[Value.ref b] below meth c H locs cs sl (lw_Zb rv below #[Value.ref b] s) (F0 m 445 ls []) := by
  obtain ⟨hx, hb, hr, hml, hown, hts0, hX0, hbl, hlocks, hgv⟩ := C0
  have hown : s.vm.findClass "HazardTablesLaw" = some m.cls := hown
  have hts : ∀ w ∈ (Cond.initialized "HazardTables" :: WA), w.before #[Value.ref b] s = true := fun w h => hts0 w ((List.mem_cons.mp h).elim (fun e => by rw [e]; exact (List.mem_filter.mp wd_43).1) (fun h => (List.mem_filter.mp h).1))
  have hbA : ¬ A b := fun h => absurd (hA2 b h) (Nat.not_le.mpr hbl)
  intro ad_ht cA_ht ad_rd cA_rd ad_sp cA_sp ad_mx cA_mx ad_ar cA_ar ad_tb cA_tb ad_tc cA_tc ad_ot cA_ot ad_md cA_md ht rd sp mx ar tb tc ot md y4 H locs ls hf hK hP hD hS hl
  unfold f_Law_case_445 at hf
  refine lv_aload_n hx hb d_Law_law_445 rfl (lv_at hl 1 rfl) ?_
  refine lv_aload_n hx hb d_Law_law_446 rfl (lv_at hl 0 rfl) ?_
  refine lv_iload hx hb d_Law_law_447 (lv_at hl 4 rfl) ?_
  refine lv_iconst (v := (1 : Int32)) hx hb d_Law_law_449 (by decide) ?_
  refine lv_iadd hx hb d_Law_law_450 ?_
  obtain ⟨hi1, hf⟩ := hf_g hf
  refine va_sld hx hb hX0 hbl hbA hS hi1 d_Law_law_451 ?_
  refine lv_aload_n hx hb d_Law_law_452 rfl (lv_at hl 3 rfl) ?_
  obtain ⟨u2, hu2, hf⟩ := Option.bind_eq_some_iff.mp hf
  refine cl_i (wc := (uw_HT ad_ht cA_ht (ad_rd 0) (ad_sp 0) (ad_mx 0) (ad_ar 0) (ad_tb 0) (ad_tc 0) ht ++ (uw_Out ad_ot cA_ot ot ++ (uw_Speller ad_sp cA_sp sp)))) (wr := (uw_Reader ad_rd cA_rd rd ++ (uw_Mixture ad_mx cA_mx mx ++ (uw_Surroundings ad_ar cA_ar ar ++ (uw_Table ad_tb cA_tb tb ++ (uw_Table ad_tc cA_tc tc ++ (uw_Model ad_md cA_md md))))))) (tysC := [(cA_ht 1, .int), (cA_ot 1, .long), (cA_sp 1, .int), (cA_sp 2, .int), (cA_sp 3, .int), (cA_sp 4, .int)]) (wu := fun (u : SOut) => (uw_HT ad_ht cA_ht (ad_rd 0) (ad_sp 0) (ad_mx 0) (ad_ar 0) (ad_tb 0) (ad_tc 0) ht ++ (uw_Out ad_ot cA_ot u ++ (uw_Speller ad_sp cA_sp sp)))) (wn := fun (u : SOut) => (uw_HT ad_ht cA_ht (ad_rd 0) (ad_sp 0) (ad_mx 0) (ad_ar 0) (ad_tb 0) (ad_tc 0) ht ++ (uw_Reader ad_rd cA_rd rd ++ (uw_Speller ad_sp cA_sp sp ++ (uw_Mixture ad_mx cA_mx mx ++ (uw_Surroundings ad_ar cA_ar ar ++ (uw_Table ad_tb cA_tb tb ++ (uw_Table ad_tc cA_tc tc ++ (uw_Out ad_ot cA_ot u ++ (uw_Model ad_md cA_md md)))))))))) [0, 1, 27, 4, 5, 6, 7, 8] [2, 3, 9, 10, 11, 12, 13, 14, 15, 16, 17, 18, 19, 20, 21, 22, 23, 24, 25, 26, 28, 29, 30, 31, 32, 33, 34, 35, 36, 37, 38, 39, 40, 41] [34, 35, 0, 1, 37, 38, 39, 40, 41, 2, 3, 4, 5, 6, 7, 8, 9, 10, 11, 12, 13, 14, 15, 16, 17, 18, 19, 36, 20, 21, 22, 23, 24, 25, 26, 27, 28, 29, 30, 31, 32, 33] [0, 20, 2, 3, 4, 5] hP hD hS hA hK rfl rfl (by decide +kernel) (by decide +kernel) (by decide +kernel) rfl (fun _ => rfl) (by decide +kernel) (fun hPc hKc hDc => (vx_runSW (As := [.ref (ad_ht 0), .int (xs (y4 + (1 : Int32)).toNatClampNeg), .ref (ad_ot 1)]) (rest := []) ⟨hx, hb, hml, hown, hts⟩ (k_Law_near l dC dI ad_ht cA_ht ad_ot cA_ot ad_sp cA_sp ad_rd cA_rd ad_mx cA_mx ad_ar cA_ar ad_tb cA_tb ad_tc cA_tc H.size ht ot sp (xs (y4 + (1 : Int32)).toNatClampNeg) u2 hu2 htr) (vx_cwSW 3 hts (gSW wd_559 wd_560 wd_42 wd_561) rfl rfl rfl (by decide +kernel) ⟨Nat.le_of_ble_eq_true rfl, Nat.le_of_ble_eq_true rfl⟩) (cx_preL hPc hKc hDc hN (fun U hU hW => xAll_at hX hS (va_free hD hS hA [0, 1, 27, 4, 5, 6, 7, 8] rfl) hU hW) hnc) rfl rfl hl.1 rfl (lv_room (Nat.le_of_ble_eq_true rfl)) d_Law_law_453 ⟨by show _ ≤ 1092; omega, by show _ ≤ 11944; omega⟩)) (fun r u H locs hw hP hD hS => ?_)
  obtain ⟨hw1, hw2⟩ := hw
  have hw1 := hw1.symm
  have hw2 := hw2.symm
  subst hw1
  subst hw2
  have hP : va_P (dC, dI) vwCl (uw_HT ad_ht cA_ht (ad_rd 0) (ad_sp 0) (ad_mx 0) (ad_ar 0) (ad_tb 0) (ad_tc 0) ht ++ (uw_Reader ad_rd cA_rd rd ++ (uw_Speller ad_sp cA_sp sp ++ (uw_Mixture ad_mx cA_mx mx ++ (uw_Surroundings ad_ar cA_ar ar ++ (uw_Table ad_tb cA_tb tb ++ (uw_Table ad_tc cA_tc tc ++ (uw_Out ad_ot cA_ot u2.2 ++ (uw_Model ad_md cA_md md))))))))) H := hP
  have hD : va_D A (uw_HT ad_ht cA_ht (ad_rd 0) (ad_sp 0) (ad_mx 0) (ad_ar 0) (ad_tb 0) (ad_tc 0) ht ++ (uw_Reader ad_rd cA_rd rd ++ (uw_Speller ad_sp cA_sp sp ++ (uw_Mixture ad_mx cA_mx mx ++ (uw_Surroundings ad_ar cA_ar ar ++ (uw_Table ad_tb cA_tb tb ++ (uw_Table ad_tc cA_tc tc ++ (uw_Out ad_ot cA_ot u2.2 ++ (uw_Model ad_md cA_md md))))))))) := hD
  refine lv_istore (lv' := [(5, .int u2.1), (0, .ref b), (1, .ref (ad_ht 0)), (2, .ref (ad_md 0)), (3, .ref (ad_ot 1)), (4, .int y4)]) hx hb d_Law_law_456 hl (by decide) rfl (fun ls hl => ?_)
  refine lv_aload_n hx hb d_Law_law_458 rfl (lv_at hl 3 rfl) ?_
  refine lv_aload_n hx hb d_Law_law_459 rfl (lv_at hl 1 rfl) ?_
  refine lv_iload hx hb d_Law_law_460 (lv_at hl 5 rfl) ?_
  refine lv_iconst (v := (1 : Int32)) hx hb d_Law_law_462 (by decide) ?_
  refine lv_iadd hx hb d_Law_law_463 ?_
  obtain ⟨hi3, hf⟩ := hf_g hf
  refine va_sld hx hb hX0 hbl hbA hS hi3 d_Law_law_464 ?_
  obtain ⟨u4, hu4, hf⟩ := Option.bind_eq_some_iff.mp hf
  refine cl_i (wc := (uw_Model ad_md cA_md md)) (wr := (uw_HT ad_ht cA_ht (ad_rd 0) (ad_sp 0) (ad_mx 0) (ad_ar 0) (ad_tb 0) (ad_tc 0) ht ++ (uw_Reader ad_rd cA_rd rd ++ (uw_Speller ad_sp cA_sp sp ++ (uw_Mixture ad_mx cA_mx mx ++ (uw_Surroundings ad_ar cA_ar ar ++ (uw_Table ad_tb cA_tb tb ++ (uw_Table ad_tc cA_tc tc ++ (uw_Out ad_ot cA_ot u2.2))))))))) (tysC := [(cA_md 1, .int), (cA_md 2, .int), (cA_md 3, .int), (cA_md 4, .int), (cA_md 5, .int), (cA_md 6, .int), (cA_md 7, .int), (cA_md 8, .int), (cA_md 9, .boolean), (cA_md 10, .int), (cA_md 11, .int), (cA_md 12, .int), (cA_md 13, .int)]) (wu := fun (u : SModel) => (uw_Model ad_md cA_md u)) (wn := fun (u : SModel) => (uw_HT ad_ht cA_ht (ad_rd 0) (ad_sp 0) (ad_mx 0) (ad_ar 0) (ad_tb 0) (ad_tc 0) ht ++ (uw_Reader ad_rd cA_rd rd ++ (uw_Speller ad_sp cA_sp sp ++ (uw_Mixture ad_mx cA_mx mx ++ (uw_Surroundings ad_ar cA_ar ar ++ (uw_Table ad_tb cA_tb tb ++ (uw_Table ad_tc cA_tc tc ++ (uw_Out ad_ot cA_ot u2.2 ++ (uw_Model ad_md cA_md u)))))))))) [28, 29, 30, 31, 32, 33, 34, 35, 36, 37, 38, 39, 40, 41] [0, 1, 2, 3, 4, 5, 6, 7, 8, 9, 10, 11, 12, 13, 14, 15, 16, 17, 18, 19, 20, 21, 22, 23, 24, 25, 26, 27] [0, 1, 2, 3, 4, 5, 6, 7, 8, 9, 10, 11, 12, 13, 14, 15, 16, 17, 18, 19, 20, 21, 22, 23, 24, 25, 26, 27, 28, 29, 30, 31, 32, 33, 34, 35, 36, 37, 38, 39, 40, 41] [21, 22, 23, 24, 25, 26, 27, 28, 29, 30, 31, 32, 33] hP hD hS hA hK rfl rfl (by decide +kernel) (by decide +kernel) (by decide +kernel) rfl (fun _ => rfl) (by decide +kernel) (fun hPc hKc hDc => (va_runV (As := [.int (xs (y4 + (1 : Int32)).toNatClampNeg)]) (rest := []) ⟨hx, hb, hml, hown, hts⟩ (k_Model_near l dC dI ad_md cA_md H.size md (xs (y4 + (1 : Int32)).toNatClampNeg) u4 hu4) (cwV 1 hts (gV wd_937 wd_938 wd_939 wd_49 wd_940) rfl rfl rfl (by decide +kernel) ⟨Nat.le_of_ble_eq_true rfl, Nat.le_of_ble_eq_true rfl⟩) (cl_preV hPc hKc hDc hN (ci := 6) 0 rfl rfl) rfl rfl hl.1 rfl (lv_room (Nat.le_of_ble_eq_true rfl)) d_Law_law_465 ⟨by show _ ≤ 1092; omega, by show _ ≤ 11944; omega⟩)) (fun r u H locs hw hP hD hS => ?_)
  obtain ⟨hw1, hw2⟩ := hw
  have hw1 := hw1.symm
  have hw2 := hw2.symm
  subst hw1
  subst hw2
  have hP : va_P (dC, dI) vwCl (uw_HT ad_ht cA_ht (ad_rd 0) (ad_sp 0) (ad_mx 0) (ad_ar 0) (ad_tb 0) (ad_tc 0) ht ++ (uw_Reader ad_rd cA_rd rd ++ (uw_Speller ad_sp cA_sp sp ++ (uw_Mixture ad_mx cA_mx mx ++ (uw_Surroundings ad_ar cA_ar ar ++ (uw_Table ad_tb cA_tb tb ++ (uw_Table ad_tc cA_tc tc ++ (uw_Out ad_ot cA_ot u2.2 ++ (uw_Model ad_md cA_md u4.2))))))))) H := hP
  have hD : va_D A (uw_HT ad_ht cA_ht (ad_rd 0) (ad_sp 0) (ad_mx 0) (ad_ar 0) (ad_tb 0) (ad_tc 0) ht ++ (uw_Reader ad_rd cA_rd rd ++ (uw_Speller ad_sp cA_sp sp ++ (uw_Mixture ad_mx cA_mx mx ++ (uw_Surroundings ad_ar cA_ar ar ++ (uw_Table ad_tb cA_tb tb ++ (uw_Table ad_tc cA_tc tc ++ (uw_Out ad_ot cA_ot u2.2 ++ (uw_Model ad_md cA_md u4.2))))))))) := hD
  refine lv_istore (lv' := [(6, .int u4.1), (5, .int u2.1), (0, .ref b), (1, .ref (ad_ht 0)), (2, .ref (ad_md 0)), (3, .ref (ad_ot 1)), (4, .int y4)]) hx hb d_Law_law_468 hl (by decide) rfl (fun ls hl => ?_)
  refine lv_aload_n hx hb d_Law_law_470 rfl (lv_at hl 4 rfl) ?_
  obtain ⟨u5, hu5, hf⟩ := Option.bind_eq_some_iff.mp hf
  refine cl_i (wc := (uw_Model ad_md cA_md u4.2)) (wr := (uw_HT ad_ht cA_ht (ad_rd 0) (ad_sp 0) (ad_mx 0) (ad_ar 0) (ad_tb 0) (ad_tc 0) ht ++ (uw_Reader ad_rd cA_rd rd ++ (uw_Speller ad_sp cA_sp sp ++ (uw_Mixture ad_mx cA_mx mx ++ (uw_Surroundings ad_ar cA_ar ar ++ (uw_Table ad_tb cA_tb tb ++ (uw_Table ad_tc cA_tc tc ++ (uw_Out ad_ot cA_ot u2.2))))))))) (tysC := [(cA_md 1, .int), (cA_md 2, .int), (cA_md 3, .int), (cA_md 4, .int), (cA_md 5, .int), (cA_md 6, .int), (cA_md 7, .int), (cA_md 8, .int), (cA_md 9, .boolean), (cA_md 10, .int), (cA_md 11, .int), (cA_md 12, .int), (cA_md 13, .int)]) (wu := fun (u : Unit) => (uw_Model ad_md cA_md u4.2)) (wn := fun (u : Unit) => (uw_HT ad_ht cA_ht (ad_rd 0) (ad_sp 0) (ad_mx 0) (ad_ar 0) (ad_tb 0) (ad_tc 0) ht ++ (uw_Reader ad_rd cA_rd rd ++ (uw_Speller ad_sp cA_sp sp ++ (uw_Mixture ad_mx cA_mx mx ++ (uw_Surroundings ad_ar cA_ar ar ++ (uw_Table ad_tb cA_tb tb ++ (uw_Table ad_tc cA_tc tc ++ (uw_Out ad_ot cA_ot u2.2 ++ (uw_Model ad_md cA_md u4.2)))))))))) [28, 29, 30, 31, 32, 33, 34, 35, 36, 37, 38, 39, 40, 41] [0, 1, 2, 3, 4, 5, 6, 7, 8, 9, 10, 11, 12, 13, 14, 15, 16, 17, 18, 19, 20, 21, 22, 23, 24, 25, 26, 27] [0, 1, 2, 3, 4, 5, 6, 7, 8, 9, 10, 11, 12, 13, 14, 15, 16, 17, 18, 19, 20, 21, 22, 23, 24, 25, 26, 27, 28, 29, 30, 31, 32, 33, 34, 35, 36, 37, 38, 39, 40, 41] [21, 22, 23, 24, 25, 26, 27, 28, 29, 30, 31, 32, 33] hP hD hS hA hK rfl rfl (by decide +kernel) (by decide +kernel) (by decide +kernel) rfl (fun _ => rfl) (by decide +kernel) (fun hPc hKc hDc => (va_runV (As := []) (rest := []) ⟨hx, hb, hml, hown, hts⟩ (k_Model_thrown l dC dI ad_md cA_md H.size u4.2 u5 hu5) (cwV 0 hts (gV wd_839 wd_840 wd_841 wd_49 wd_842) rfl rfl rfl (by decide +kernel) ⟨Nat.le_of_ble_eq_true rfl, Nat.le_of_ble_eq_true rfl⟩) (cl_preV hPc hKc hDc hN (ci := 6) 0 rfl rfl) rfl rfl hl.1 rfl (lv_room (Nat.le_of_ble_eq_true rfl)) d_Law_law_471 ⟨by show _ ≤ 1092; omega, by show _ ≤ 11944; omega⟩)) (fun r u H locs hw hP hD hS => ?_)
  have hw := hw.symm
  subst hw
  have hP : va_P (dC, dI) vwCl (uw_HT ad_ht cA_ht (ad_rd 0) (ad_sp 0) (ad_mx 0) (ad_ar 0) (ad_tb 0) (ad_tc 0) ht ++ (uw_Reader ad_rd cA_rd rd ++ (uw_Speller ad_sp cA_sp sp ++ (uw_Mixture ad_mx cA_mx mx ++ (uw_Surroundings ad_ar cA_ar ar ++ (uw_Table ad_tb cA_tb tb ++ (uw_Table ad_tc cA_tc tc ++ (uw_Out ad_ot cA_ot u2.2 ++ (uw_Model ad_md cA_md u4.2))))))))) H := hP
  have hD : va_D A (uw_HT ad_ht cA_ht (ad_rd 0) (ad_sp 0) (ad_mx 0) (ad_ar 0) (ad_tb 0) (ad_tc 0) ht ++ (uw_Reader ad_rd cA_rd rd ++ (uw_Speller ad_sp cA_sp sp ++ (uw_Mixture ad_mx cA_mx mx ++ (uw_Surroundings ad_ar cA_ar ar ++ (uw_Table ad_tb cA_tb tb ++ (uw_Table ad_tc cA_tc tc ++ (uw_Out ad_ot cA_ot u2.2 ++ (uw_Model ad_md cA_md u4.2))))))))) := hD
  refine lv_iload hx hb d_Law_law_474 (lv_at hl 1 rfl) ?_
  refine lv_icmp_eq (tgt := 481) hx hb d_Law_law_476 (by decide) (fun hc6 => ?_) (fun hc6 => ?_)
  · have hf := hf_t hf hc6
    refine lv_iload hx hb d_Law_law_481 (lv_at hl 1 rfl) ?_
    refine lv_if_ne (tgt := 498) hx hb d_Law_law_483 (by decide) (fun hc7 => ?_) (fun hc7 => ?_)
    · have hf := hf_f hf hc7
      refine lv_goto (tgt := 1166) hx hb d_Law_law_498 (by decide) ?_
      refine lv_iinc (v := y4 + (4 : Int32)) (lv' := [(4, .int (y4 + (4 : Int32))), (6, .int u4.1), (5, .int u2.1), (0, .ref b), (1, .ref (ad_ht 0)), (2, .ref (ad_md 0)), (3, .ref (ad_ot 1))]) hx hb d_Law_law_1166 hl (k := 6) rfl rfl (by decide) rfl (fun ls hl => ?_)
      refine lv_goto (tgt := 23) hx hb d_Law_law_1169 (by decide) ?_
      refine W.widen (k := cs + 1) (n := sl + 6) (by omega) (by omega) ?_
      exact hk ad_ht cA_ht ad_rd cA_rd ad_sp cA_sp ad_mx cA_mx ad_ar cA_ar ad_tb cA_tb ad_tc cA_tc ad_ot cA_ot ad_md cA_md ht rd sp mx ar tb tc u2.2 u4.2 (y4 + (4 : Int32)) H locs ls hf hK hP hD hS (lv_sub hl [3, 4, 5, 6, 0] rfl)
    · have hf := hf_t hf hc7
      refine lv_aload_n hx hb d_Law_law_486 rfl (lv_at hl 5 rfl) ?_
      refine lv_iconst (v := (0 : Int32)) hx hb d_Law_law_487 (by decide) ?_
      obtain ⟨hi8, hf⟩ := hf_g hf
      refine va_lald hx hb hK hP 27 20 rfl rfl hi8 d_Law_law_488 ?_
      refine lv_iload hx hb d_Law_law_489 (lv_at hl 0 rfl) ?_
      refine lv_i2l (v := u4.1.toInt64) hx hb d_Law_law_491 rfl ?_
      refine W.lcmp hx hb d_Law_law_492 ?_
      refine lv_if_eq (tgt := 498) hx hb d_Law_law_493 (by decide) (fun hc9 => ?_) (fun hc9 => ?_)
      · have hf := hf_t hf hc9
        refine lv_goto (tgt := 1166) hx hb d_Law_law_498 (by decide) ?_
        refine lv_iinc (v := y4 + (4 : Int32)) (lv' := [(4, .int (y4 + (4 : Int32))), (6, .int u4.1), (5, .int u2.1), (0, .ref b), (1, .ref (ad_ht 0)), (2, .ref (ad_md 0)), (3, .ref (ad_ot 1))]) hx hb d_Law_law_1166 hl (k := 6) rfl rfl (by decide) rfl (fun ls hl => ?_)
        refine lv_goto (tgt := 23) hx hb d_Law_law_1169 (by decide) ?_
        refine W.widen (k := cs + 1) (n := sl + 6) (by omega) (by omega) ?_
        exact hk ad_ht cA_ht ad_rd cA_rd ad_sp cA_sp ad_mx cA_mx ad_ar cA_ar ad_tb cA_tb ad_tc cA_tc ad_ot cA_ot ad_md cA_md ht rd sp mx ar tb tc u2.2 u4.2 (y4 + (4 : Int32)) H locs ls hf hK hP hD hS (lv_sub hl [3, 4, 5, 6, 0] rfl)
      · have hf := hf_f hf hc9
        refine lv_iconst (v := (0 : Int32)) hx hb d_Law_law_496 (by decide) ?_
        have hrv : rv = false := (Option.some.inj hf).symm
        subst hrv
        refine va_forget (fun q hq => hA2 _ (hS.2.2 q hq)) ?_
        refine W.widen (k := 1092) (n := 11944) (by omega) (by omega) ?_
        exact lw_ret0b hx hb hr hlocks d_Law_law_497
  · have hf := hf_f hf hc6
    refine lv_iconst (v := (0 : Int32)) hx hb d_Law_law_479 (by decide) ?_
    have hrv : rv = false := (Option.some.inj hf).symm
    subst hrv
    refine va_forget (fun q hq => hA2 _ (hS.2.2 q hq)) ?_
    refine W.widen (k := 1092) (n := 11944) (by omega) (by omega) ?_
    exact lw_ret0b hx hb hr hlocks d_Law_law_480
noncomputable def f_Law_case_501 (L : Nat) (xs : Nat → Int32) (k : SHT → SReader → SSpeller → SMixture → SSurroundings → STable → STable → SOut → SModel → Int32 → Option Bool) (ht : SHT) (rd : SReader) (sp : SSpeller) (mx : SMixture) (ar : SSurroundings) (tb : STable) (tc : STable) (ot : SOut) (md : SModel) (y4 : Int32) : Option Bool :=
  (if inb (y4 + (1 : Int32)) L then
    (if inb (y4 + (2 : Int32)) L then
      (Option.bind (f_Law_add ht ot mx tb (xs (y4 + (1 : Int32)).toNatClampNeg) (xs (y4 + (2 : Int32)).toNatClampNeg)) fun u3 =>
        (if inb (y4 + (1 : Int32)) L then
          (if inb (y4 + (2 : Int32)) L then
            (Option.bind (f_Model_add md (xs (y4 + (1 : Int32)).toNatClampNeg) (xs (y4 + (2 : Int32)).toNatClampNeg)) fun u6 =>
              (Option.bind (f_Model_thrown u6.2) fun u7 =>
                (if u7 = u3.1 then
                  (if u3.1 = 0 then
                    (if inb (0 : Int32) 1 then
                      (if (lg_cmp (u3.2.1 (0 : Int32).toNatClampNeg) u6.1.toInt64) = 0 then
                        (k ht rd sp u3.2.2 ar tb tc u3.2.1 u6.2 (y4 + (4 : Int32)))
                       else
                        (some false)
                       )
                     else none)
                   else
                    (k ht rd sp u3.2.2 ar tb tc u3.2.1 u6.2 (y4 + (4 : Int32)))
                   )
                 else
                  (some false)
                 )
               )
             )
           else none)
         else none)
       )
     else none)
   else none)
set_option maxHeartbeats 4000000 in
set_option maxRecDepth 100000 in
theorem k_Law_case_501 {rv : Bool} {p : Program} {l : Launch} {e : Env} {s : State} {m : MethodId} {below : List Frame} {meth : Method} {c : Code} {dC : Nat → ClassId} {dI : Nat → Nat → Nat} {b L : Nat} {xs : Nat → Int32} {A : Nat → Prop} (htr : l.stackTraces = false) (C0 : lw_At p s m meth c b L xs) (hN : nwAll s) (hX : xAll A s) (hnc : ncAll s) (hA : ∀ q : Nat, s.heap.size ≤ q → A q) (hA2 : ∀ q : Nat, A q → s.heap.size ≤ q) (cs sl : Nat) (hcs : cs + 1 ≤ 1092) (hsl : sl + 6 ≤ 11944) (k : SHT → SReader → SSpeller → SMixture → SSurroundings → STable → STable → SOut → SModel → Int32 → Option Bool) (hk : ∀ (ad_ht : Nat → Nat) (cA_ht : Nat → ClassId) (ad_rd : Nat → Nat) (cA_rd : Nat → ClassId) (ad_sp : Nat → Nat) (cA_sp : Nat → ClassId) (ad_mx : Nat → Nat) (cA_mx : Nat → ClassId) (ad_ar : Nat → Nat) (cA_ar : Nat → ClassId) (ad_tb : Nat → Nat) (cA_tb : Nat → ClassId) (ad_tc : Nat → Nat) (cA_tc : Nat → ClassId) (ad_ot : Nat → Nat) (cA_ot : Nat → ClassId) (ad_md : Nat → Nat) (cA_md : Nat → ClassId) (ht : SHT) (rd : SReader) (sp : SSpeller) (mx : SMixture) (ar : SSurroundings) (tb : STable) (tc : STable) (ot : SOut) (md : SModel) (y4 : Int32) (H : Heap) (locs : List Loc) (ls : Array Slot), k ht rd sp mx ar tb tc ot md y4 = some rv → va_K (dC, dI) vwCl [(cA_ht 1, .int), (cA_rd 1, .int), (cA_sp 1, .int), (cA_sp 2, .int), (cA_sp 3, .int), (cA_sp 4, .int), (cA_mx 1, .int), (cA_mx 2, .int), (cA_mx 3, .boolean), (cA_ar 1, .int), (cA_ar 2, .int), (cA_ar 3, .int), (cA_tb 1, .int), (cA_tb 2, .int), (cA_tb 3, .int), (cA_tb 4, .byte), (cA_tc 1, .int), (cA_tc 2, .int), (cA_tc 3, .int), (cA_tc 4, .byte), (cA_ot 1, .long), (cA_md 1, .int), (cA_md 2, .int), (cA_md 3, .int), (cA_md 4, .int), (cA_md 5, .int), (cA_md 6, .int), (cA_md 7, .int), (cA_md 8, .int), (cA_md 9, .boolean), (cA_md 10, .int), (cA_md 11, .int), (cA_md 12, .int), (cA_md 13, .int)] s → va_P (dC, dI) vwCl (uw_HT ad_ht cA_ht (ad_rd 0) (ad_sp 0) (ad_mx 0) (ad_ar 0) (ad_tb 0) (ad_tc 0) ht ++ (uw_Reader ad_rd cA_rd rd ++ (uw_Speller ad_sp cA_sp sp ++ (uw_Mixture ad_mx cA_mx mx ++ (uw_Surroundings ad_ar cA_ar ar ++ (uw_Table ad_tb cA_tb tb ++ (uw_Table ad_tc cA_tc tc ++ (uw_Out ad_ot cA_ot ot ++ (uw_Model ad_md cA_md md))))))))) H → va_D A (uw_HT ad_ht cA_ht (ad_rd 0) (ad_sp 0) (ad_mx 0) (ad_ar 0) (ad_tb 0) (ad_tc 0) ht ++ (uw_Reader ad_rd cA_rd rd ++ (uw_Speller ad_sp cA_sp sp ++ (uw_Mixture ad_mx cA_mx mx ++ (uw_Surroundings ad_ar cA_ar ar ++ (uw_Table ad_tb cA_tb tb ++ (uw_Table ad_tc cA_tc tc ++ (uw_Out ad_ot cA_ot ot ++ (uw_Model ad_md cA_md md))))))))) → va_S A s.heap H locs → lv_has ls 7 [(0, .ref b), (1, .ref (ad_ht 0)), (2, .ref (ad_md 0)), (3, .ref (ad_ot 1)), (4, .int y4)] → W p l e room_1 s m #[Value.ref b] below meth c H locs (cs + 1) (sl + 6) (lw_Zb rv below #[Value.ref b] s) (F0 m 23 ls [])) : ∀ (ad_ht : Nat → Nat) (cA_ht : Nat → ClassId) (ad_rd : Nat → Nat) (cA_rd : Nat → ClassId) (ad_sp : Nat → Nat) (cA_sp : Nat → ClassId) (ad_mx : Nat → Nat) (cA_mx : Nat → ClassId) (ad_ar : Nat → Nat) (cA_ar : Nat → ClassId) (ad_tb : Nat → Nat) (cA_tb : Nat → ClassId) (ad_tc : Nat → Nat) (cA_tc : Nat → ClassId) (ad_ot : Nat → Nat) (cA_ot : Nat → ClassId) (ad_md : Nat → Nat) (cA_md : Nat → ClassId) (ht : SHT) (rd : SReader) (sp : SSpeller) (mx : SMixture) (ar : SSurroundings) (tb : STable) (tc : STable) (ot : SOut) (md : SModel) (y4 : Int32) (H : Heap) (locs : List Loc) (ls : Array Slot), f_Law_case_501 L xs k ht rd sp mx ar tb tc ot md y4 = some rv → va_K (dC, dI) vwCl [(cA_ht 1, .int), (cA_rd 1, .int), (cA_sp 1, .int), (cA_sp 2, .int), (cA_sp 3, .int), (cA_sp 4, .int), (cA_mx 1, .int), (cA_mx 2, .int), (cA_mx 3, .boolean), (cA_ar 1, .int), (cA_ar 2, .int), (cA_ar 3, .int), (cA_tb 1, .int), (cA_tb 2, .int), (cA_tb 3, .int), (cA_tb 4, .byte), (cA_tc 1, .int), (cA_tc 2, .int), (cA_tc 3, .int), (cA_tc 4, .byte), (cA_ot 1, .long), (cA_md 1, .int), (cA_md 2, .int), (cA_md 3, .int), (cA_md 4, .int), (cA_md 5, .int), (cA_md 6, .int), (cA_md 7, .int), (cA_md 8, .int), (cA_md 9, .boolean), (cA_md 10, .int), (cA_md 11, .int), (cA_md 12, .int), (cA_md 13, .int)] s → va_P (dC, dI) vwCl (uw_HT ad_ht cA_ht (ad_rd 0) (ad_sp 0) (ad_mx 0) (ad_ar 0) (ad_tb 0) (ad_tc 0) ht ++ (uw_Reader ad_rd cA_rd rd ++ (uw_Speller ad_sp cA_sp sp ++ (uw_Mixture ad_mx cA_mx mx ++ (uw_Surroundings ad_ar cA_ar ar ++ (uw_Table ad_tb cA_tb tb ++ (uw_Table ad_tc cA_tc tc ++ (uw_Out ad_ot cA_ot ot ++ (uw_Model ad_md cA_md md))))))))) H → va_D A (uw_HT ad_ht cA_ht (ad_rd 0) (ad_sp 0) (ad_mx 0) (ad_ar 0) (ad_tb 0) (ad_tc 0) ht ++ (uw_Reader ad_rd cA_rd rd ++ (uw_Speller ad_sp cA_sp sp ++ (uw_Mixture ad_mx cA_mx mx ++ (uw_Surroundings ad_ar cA_ar ar ++ (uw_Table ad_tb cA_tb tb ++ (uw_Table ad_tc cA_tc tc ++ (uw_Out ad_ot cA_ot ot ++ (uw_Model ad_md cA_md md))))))))) → va_S A s.heap H locs → lv_has ls 7 [(0, .ref b), (1, .ref (ad_ht 0)), (2, .ref (ad_md 0)), (3, .ref (ad_ot 1)), (4, .int y4)] → W p l e room_1 s m #[Value.ref b] below meth c H locs cs sl (lw_Zb rv below #[Value.ref b] s) (F0 m 501 ls []) := by
  obtain ⟨hx, hb, hr, hml, hown, hts0, hX0, hbl, hlocks, hgv⟩ := C0
  have hown : s.vm.findClass "HazardTablesLaw" = some m.cls := hown
  have hts : ∀ w ∈ (Cond.initialized "HazardTables" :: WA), w.before #[Value.ref b] s = true := fun w h => hts0 w ((List.mem_cons.mp h).elim (fun e => by rw [e]; exact (List.mem_filter.mp wd_43).1) (fun h => (List.mem_filter.mp h).1))
  have hbA : ¬ A b := fun h => absurd (hA2 b h) (Nat.not_le.mpr hbl)
  intro ad_ht cA_ht ad_rd cA_rd ad_sp cA_sp ad_mx cA_mx ad_ar cA_ar ad_tb cA_tb ad_tc cA_tc ad_ot cA_ot ad_md cA_md ht rd sp mx ar tb tc ot md y4 H locs ls hf hK hP hD hS hl
  unfold f_Law_case_501 at hf
  refine lv_aload_n hx hb d_Law_law_501 rfl (lv_at hl 1 rfl) ?_
  refine lv_aload_n hx hb d_Law_law_502 rfl (lv_at hl 0 rfl) ?_
  refine lv_iload hx hb d_Law_law_503 (lv_at hl 4 rfl) ?_
  refine lv_iconst (v := (1 : Int32)) hx hb d_Law_law_505 (by decide) ?_
  refine lv_iadd hx hb d_Law_law_506 ?_
  obtain ⟨hi1, hf⟩ := hf_g hf
  refine va_sld hx hb hX0 hbl hbA hS hi1 d_Law_law_507 ?_
  refine lv_aload_n hx hb d_Law_law_508 rfl (lv_at hl 0 rfl) ?_
  refine lv_iload hx hb d_Law_law_509 (lv_at hl 4 rfl) ?_
  refine lv_iconst (v := (2 : Int32)) hx hb d_Law_law_511 (by decide) ?_
  refine lv_iadd hx hb d_Law_law_512 ?_
  obtain ⟨hi2, hf⟩ := hf_g hf
  refine va_sld hx hb hX0 hbl hbA hS hi2 d_Law_law_513 ?_
  refine lv_aload_n hx hb d_Law_law_514 rfl (lv_at hl 3 rfl) ?_
  obtain ⟨u3, hu3, hf⟩ := Option.bind_eq_some_iff.mp hf
  refine cl_i (wc := (uw_HT ad_ht cA_ht (ad_rd 0) (ad_sp 0) (ad_mx 0) (ad_ar 0) (ad_tb 0) (ad_tc 0) ht ++ (uw_Out ad_ot cA_ot ot ++ (uw_Mixture ad_mx cA_mx mx ++ (uw_Table ad_tb cA_tb tb))))) (wr := (uw_Reader ad_rd cA_rd rd ++ (uw_Speller ad_sp cA_sp sp ++ (uw_Surroundings ad_ar cA_ar ar ++ (uw_Table ad_tc cA_tc tc ++ (uw_Model ad_md cA_md md)))))) (tysC := [(cA_ht 1, .int), (cA_ot 1, .long), (cA_mx 1, .int), (cA_mx 2, .int), (cA_mx 3, .boolean), (cA_tb 1, .int), (cA_tb 2, .int), (cA_tb 3, .int), (cA_tb 4, .byte)]) (wu := fun (u : SOut × SMixture) => (uw_HT ad_ht cA_ht (ad_rd 0) (ad_sp 0) (ad_mx 0) (ad_ar 0) (ad_tb 0) (ad_tc 0) ht ++ (uw_Out ad_ot cA_ot u.1 ++ (uw_Mixture ad_mx cA_mx u.2 ++ (uw_Table ad_tb cA_tb tb))))) (wn := fun (u : SOut × SMixture) => (uw_HT ad_ht cA_ht (ad_rd 0) (ad_sp 0) (ad_mx 0) (ad_ar 0) (ad_tb 0) (ad_tc 0) ht ++ (uw_Reader ad_rd cA_rd rd ++ (uw_Speller ad_sp cA_sp sp ++ (uw_Mixture ad_mx cA_mx u.2 ++ (uw_Surroundings ad_ar cA_ar ar ++ (uw_Table ad_tb cA_tb tb ++ (uw_Table ad_tc cA_tc tc ++ (uw_Out ad_ot cA_ot u.1 ++ (uw_Model ad_md cA_md md)))))))))) [0, 1, 27, 9, 10, 11, 12, 17, 18, 19, 20, 21] [2, 3, 4, 5, 6, 7, 8, 13, 14, 15, 16, 22, 23, 24, 25, 26, 28, 29, 30, 31, 32, 33, 34, 35, 36, 37, 38, 39, 40, 41] [30, 31, 0, 1, 2, 3, 4, 5, 6, 33, 34, 35, 36, 7, 8, 9, 10, 37, 38, 39, 40, 41, 11, 12, 13, 14, 15, 32, 16, 17, 18, 19, 20, 21, 22, 23, 24, 25, 26, 27, 28, 29] [0, 20, 6, 7, 8, 12, 13, 14, 15] hP hD hS hA hK rfl rfl (by decide +kernel) (by decide +kernel) (by decide +kernel) rfl (fun _ => rfl) (by decide +kernel) (fun hPc hKc hDc => (vx_runSW (As := [.ref (ad_ht 0), .int (xs (y4 + (1 : Int32)).toNatClampNeg), .int (xs (y4 + (2 : Int32)).toNatClampNeg), .ref (ad_ot 1)]) (rest := []) ⟨hx, hb, hml, hown, hts⟩ (k_Law_add l dC dI ad_ht cA_ht ad_ot cA_ot ad_mx cA_mx ad_tb cA_tb ad_rd cA_rd ad_sp cA_sp ad_ar cA_ar ad_tc cA_tc H.size ht ot mx tb (xs (y4 + (1 : Int32)).toNatClampNeg) (xs (y4 + (2 : Int32)).toNatClampNeg) u3 hu3 htr) (vx_cwSW 4 hts (gSW wd_567 wd_568 wd_42 wd_569) rfl rfl rfl (by decide +kernel) ⟨Nat.le_of_ble_eq_true rfl, Nat.le_of_ble_eq_true rfl⟩) (cx_preL hPc hKc hDc hN (fun U hU hW => xAll_at hX hS (va_free hD hS hA [0, 1, 27, 9, 10, 11, 12, 17, 18, 19, 20, 21] rfl) hU hW) hnc) rfl rfl hl.1 rfl (lv_room (Nat.le_of_ble_eq_true rfl)) d_Law_law_515 ⟨by show _ ≤ 1092; omega, by show _ ≤ 11944; omega⟩)) (fun r u H locs hw hP hD hS => ?_)
  obtain ⟨hw1, hw2⟩ := hw
  have hw1 := hw1.symm
  have hw2 := hw2.symm
  subst hw1
  subst hw2
  have hP : va_P (dC, dI) vwCl (uw_HT ad_ht cA_ht (ad_rd 0) (ad_sp 0) (ad_mx 0) (ad_ar 0) (ad_tb 0) (ad_tc 0) ht ++ (uw_Reader ad_rd cA_rd rd ++ (uw_Speller ad_sp cA_sp sp ++ (uw_Mixture ad_mx cA_mx u3.2.2 ++ (uw_Surroundings ad_ar cA_ar ar ++ (uw_Table ad_tb cA_tb tb ++ (uw_Table ad_tc cA_tc tc ++ (uw_Out ad_ot cA_ot u3.2.1 ++ (uw_Model ad_md cA_md md))))))))) H := hP
  have hD : va_D A (uw_HT ad_ht cA_ht (ad_rd 0) (ad_sp 0) (ad_mx 0) (ad_ar 0) (ad_tb 0) (ad_tc 0) ht ++ (uw_Reader ad_rd cA_rd rd ++ (uw_Speller ad_sp cA_sp sp ++ (uw_Mixture ad_mx cA_mx u3.2.2 ++ (uw_Surroundings ad_ar cA_ar ar ++ (uw_Table ad_tb cA_tb tb ++ (uw_Table ad_tc cA_tc tc ++ (uw_Out ad_ot cA_ot u3.2.1 ++ (uw_Model ad_md cA_md md))))))))) := hD
  refine lv_istore (lv' := [(5, .int u3.1), (0, .ref b), (1, .ref (ad_ht 0)), (2, .ref (ad_md 0)), (3, .ref (ad_ot 1)), (4, .int y4)]) hx hb d_Law_law_518 hl (by decide) rfl (fun ls hl => ?_)
  refine lv_aload_n hx hb d_Law_law_520 rfl (lv_at hl 3 rfl) ?_
  refine lv_aload_n hx hb d_Law_law_521 rfl (lv_at hl 1 rfl) ?_
  refine lv_iload hx hb d_Law_law_522 (lv_at hl 5 rfl) ?_
  refine lv_iconst (v := (1 : Int32)) hx hb d_Law_law_524 (by decide) ?_
  refine lv_iadd hx hb d_Law_law_525 ?_
  obtain ⟨hi4, hf⟩ := hf_g hf
  refine va_sld hx hb hX0 hbl hbA hS hi4 d_Law_law_526 ?_
  refine lv_aload_n hx hb d_Law_law_527 rfl (lv_at hl 1 rfl) ?_
  refine lv_iload hx hb d_Law_law_528 (lv_at hl 5 rfl) ?_
  refine lv_iconst (v := (2 : Int32)) hx hb d_Law_law_530 (by decide) ?_
  refine lv_iadd hx hb d_Law_law_531 ?_
  obtain ⟨hi5, hf⟩ := hf_g hf
  refine va_sld hx hb hX0 hbl hbA hS hi5 d_Law_law_532 ?_
  obtain ⟨u6, hu6, hf⟩ := Option.bind_eq_some_iff.mp hf
  refine cl_i (wc := (uw_Model ad_md cA_md md)) (wr := (uw_HT ad_ht cA_ht (ad_rd 0) (ad_sp 0) (ad_mx 0) (ad_ar 0) (ad_tb 0) (ad_tc 0) ht ++ (uw_Reader ad_rd cA_rd rd ++ (uw_Speller ad_sp cA_sp sp ++ (uw_Mixture ad_mx cA_mx u3.2.2 ++ (uw_Surroundings ad_ar cA_ar ar ++ (uw_Table ad_tb cA_tb tb ++ (uw_Table ad_tc cA_tc tc ++ (uw_Out ad_ot cA_ot u3.2.1))))))))) (tysC := [(cA_md 1, .int), (cA_md 2, .int), (cA_md 3, .int), (cA_md 4, .int), (cA_md 5, .int), (cA_md 6, .int), (cA_md 7, .int), (cA_md 8, .int), (cA_md 9, .boolean), (cA_md 10, .int), (cA_md 11, .int), (cA_md 12, .int), (cA_md 13, .int)]) (wu := fun (u : SModel) => (uw_Model ad_md cA_md u)) (wn := fun (u : SModel) => (uw_HT ad_ht cA_ht (ad_rd 0) (ad_sp 0) (ad_mx 0) (ad_ar 0) (ad_tb 0) (ad_tc 0) ht ++ (uw_Reader ad_rd cA_rd rd ++ (uw_Speller ad_sp cA_sp sp ++ (uw_Mixture ad_mx cA_mx u3.2.2 ++ (uw_Surroundings ad_ar cA_ar ar ++ (uw_Table ad_tb cA_tb tb ++ (uw_Table ad_tc cA_tc tc ++ (uw_Out ad_ot cA_ot u3.2.1 ++ (uw_Model ad_md cA_md u)))))))))) [28, 29, 30, 31, 32, 33, 34, 35, 36, 37, 38, 39, 40, 41] [0, 1, 2, 3, 4, 5, 6, 7, 8, 9, 10, 11, 12, 13, 14, 15, 16, 17, 18, 19, 20, 21, 22, 23, 24, 25, 26, 27] [0, 1, 2, 3, 4, 5, 6, 7, 8, 9, 10, 11, 12, 13, 14, 15, 16, 17, 18, 19, 20, 21, 22, 23, 24, 25, 26, 27, 28, 29, 30, 31, 32, 33, 34, 35, 36, 37, 38, 39, 40, 41] [21, 22, 23, 24, 25, 26, 27, 28, 29, 30, 31, 32, 33] hP hD hS hA hK rfl rfl (by decide +kernel) (by decide +kernel) (by decide +kernel) rfl (fun _ => rfl) (by decide +kernel) (fun hPc hKc hDc => (va_runV (As := [.int (xs (y4 + (1 : Int32)).toNatClampNeg), .int (xs (y4 + (2 : Int32)).toNatClampNeg)]) (rest := []) ⟨hx, hb, hml, hown, hts⟩ (k_Model_add l dC dI ad_md cA_md H.size md (xs (y4 + (1 : Int32)).toNatClampNeg) (xs (y4 + (2 : Int32)).toNatClampNeg) u6 hu6) (cwV 2 hts (gV wd_941 wd_942 wd_943 wd_49 wd_944) rfl rfl rfl (by decide +kernel) ⟨Nat.le_of_ble_eq_true rfl, Nat.le_of_ble_eq_true rfl⟩) (cl_preV hPc hKc hDc hN (ci := 6) 0 rfl rfl) rfl rfl hl.1 rfl (lv_room (Nat.le_of_ble_eq_true rfl)) d_Law_law_533 ⟨by show _ ≤ 1092; omega, by show _ ≤ 11944; omega⟩)) (fun r u H locs hw hP hD hS => ?_)
  obtain ⟨hw1, hw2⟩ := hw
  have hw1 := hw1.symm
  have hw2 := hw2.symm
  subst hw1
  subst hw2
  have hP : va_P (dC, dI) vwCl (uw_HT ad_ht cA_ht (ad_rd 0) (ad_sp 0) (ad_mx 0) (ad_ar 0) (ad_tb 0) (ad_tc 0) ht ++ (uw_Reader ad_rd cA_rd rd ++ (uw_Speller ad_sp cA_sp sp ++ (uw_Mixture ad_mx cA_mx u3.2.2 ++ (uw_Surroundings ad_ar cA_ar ar ++ (uw_Table ad_tb cA_tb tb ++ (uw_Table ad_tc cA_tc tc ++ (uw_Out ad_ot cA_ot u3.2.1 ++ (uw_Model ad_md cA_md u6.2))))))))) H := hP
  have hD : va_D A (uw_HT ad_ht cA_ht (ad_rd 0) (ad_sp 0) (ad_mx 0) (ad_ar 0) (ad_tb 0) (ad_tc 0) ht ++ (uw_Reader ad_rd cA_rd rd ++ (uw_Speller ad_sp cA_sp sp ++ (uw_Mixture ad_mx cA_mx u3.2.2 ++ (uw_Surroundings ad_ar cA_ar ar ++ (uw_Table ad_tb cA_tb tb ++ (uw_Table ad_tc cA_tc tc ++ (uw_Out ad_ot cA_ot u3.2.1 ++ (uw_Model ad_md cA_md u6.2))))))))) := hD
  refine lv_istore (lv' := [(6, .int u6.1), (5, .int u3.1), (0, .ref b), (1, .ref (ad_ht 0)), (2, .ref (ad_md 0)), (3, .ref (ad_ot 1)), (4, .int y4)]) hx hb d_Law_law_536 hl (by decide) rfl (fun ls hl => ?_)
  refine lv_aload_n hx hb d_Law_law_538 rfl (lv_at hl 4 rfl) ?_
  obtain ⟨u7, hu7, hf⟩ := Option.bind_eq_some_iff.mp hf
  refine cl_i (wc := (uw_Model ad_md cA_md u6.2)) (wr := (uw_HT ad_ht cA_ht (ad_rd 0) (ad_sp 0) (ad_mx 0) (ad_ar 0) (ad_tb 0) (ad_tc 0) ht ++ (uw_Reader ad_rd cA_rd rd ++ (uw_Speller ad_sp cA_sp sp ++ (uw_Mixture ad_mx cA_mx u3.2.2 ++ (uw_Surroundings ad_ar cA_ar ar ++ (uw_Table ad_tb cA_tb tb ++ (uw_Table ad_tc cA_tc tc ++ (uw_Out ad_ot cA_ot u3.2.1))))))))) (tysC := [(cA_md 1, .int), (cA_md 2, .int), (cA_md 3, .int), (cA_md 4, .int), (cA_md 5, .int), (cA_md 6, .int), (cA_md 7, .int), (cA_md 8, .int), (cA_md 9, .boolean), (cA_md 10, .int), (cA_md 11, .int), (cA_md 12, .int), (cA_md 13, .int)]) (wu := fun (u : Unit) => (uw_Model ad_md cA_md u6.2)) (wn := fun (u : Unit) => (uw_HT ad_ht cA_ht (ad_rd 0) (ad_sp 0) (ad_mx 0) (ad_ar 0) (ad_tb 0) (ad_tc 0) ht ++ (uw_Reader ad_rd cA_rd rd ++ (uw_Speller ad_sp cA_sp sp ++ (uw_Mixture ad_mx cA_mx u3.2.2 ++ (uw_Surroundings ad_ar cA_ar ar ++ (uw_Table ad_tb cA_tb tb ++ (uw_Table ad_tc cA_tc tc ++ (uw_Out ad_ot cA_ot u3.2.1 ++ (uw_Model ad_md cA_md u6.2)))))))))) [28, 29, 30, 31, 32, 33, 34, 35, 36, 37, 38, 39, 40, 41] [0, 1, 2, 3, 4, 5, 6, 7, 8, 9, 10, 11, 12, 13, 14, 15, 16, 17, 18, 19, 20, 21, 22, 23, 24, 25, 26, 27] [0, 1, 2, 3, 4, 5, 6, 7, 8, 9, 10, 11, 12, 13, 14, 15, 16, 17, 18, 19, 20, 21, 22, 23, 24, 25, 26, 27, 28, 29, 30, 31, 32, 33, 34, 35, 36, 37, 38, 39, 40, 41] [21, 22, 23, 24, 25, 26, 27, 28, 29, 30, 31, 32, 33] hP hD hS hA hK rfl rfl (by decide +kernel) (by decide +kernel) (by decide +kernel) rfl (fun _ => rfl) (by decide +kernel) (fun hPc hKc hDc => (va_runV (As := []) (rest := []) ⟨hx, hb, hml, hown, hts⟩ (k_Model_thrown l dC dI ad_md cA_md H.size u6.2 u7 hu7) (cwV 0 hts (gV wd_839 wd_840 wd_841 wd_49 wd_842) rfl rfl rfl (by decide +kernel) ⟨Nat.le_of_ble_eq_true rfl, Nat.le_of_ble_eq_true rfl⟩) (cl_preV hPc hKc hDc hN (ci := 6) 0 rfl rfl) rfl rfl hl.1 rfl (lv_room (Nat.le_of_ble_eq_true rfl)) d_Law_law_539 ⟨by show _ ≤ 1092; omega, by show _ ≤ 11944; omega⟩)) (fun r u H locs hw hP hD hS => ?_)
  have hw := hw.symm
  subst hw
  have hP : va_P (dC, dI) vwCl (uw_HT ad_ht cA_ht (ad_rd 0) (ad_sp 0) (ad_mx 0) (ad_ar 0) (ad_tb 0) (ad_tc 0) ht ++ (uw_Reader ad_rd cA_rd rd ++ (uw_Speller ad_sp cA_sp sp ++ (uw_Mixture ad_mx cA_mx u3.2.2 ++ (uw_Surroundings ad_ar cA_ar ar ++ (uw_Table ad_tb cA_tb tb ++ (uw_Table ad_tc cA_tc tc ++ (uw_Out ad_ot cA_ot u3.2.1 ++ (uw_Model ad_md cA_md u6.2))))))))) H := hP
  have hD : va_D A (uw_HT ad_ht cA_ht (ad_rd 0) (ad_sp 0) (ad_mx 0) (ad_ar 0) (ad_tb 0) (ad_tc 0) ht ++ (uw_Reader ad_rd cA_rd rd ++ (uw_Speller ad_sp cA_sp sp ++ (uw_Mixture ad_mx cA_mx u3.2.2 ++ (uw_Surroundings ad_ar cA_ar ar ++ (uw_Table ad_tb cA_tb tb ++ (uw_Table ad_tc cA_tc tc ++ (uw_Out ad_ot cA_ot u3.2.1 ++ (uw_Model ad_md cA_md u6.2))))))))) := hD
  refine lv_iload hx hb d_Law_law_542 (lv_at hl 1 rfl) ?_
  refine lv_icmp_eq (tgt := 549) hx hb d_Law_law_544 (by decide) (fun hc8 => ?_) (fun hc8 => ?_)
  · have hf := hf_t hf hc8
    refine lv_iload hx hb d_Law_law_549 (lv_at hl 1 rfl) ?_
    refine lv_if_ne (tgt := 566) hx hb d_Law_law_551 (by decide) (fun hc9 => ?_) (fun hc9 => ?_)
    · have hf := hf_f hf hc9
      refine lv_goto (tgt := 1166) hx hb d_Law_law_566 (by decide) ?_
      refine lv_iinc (v := y4 + (4 : Int32)) (lv' := [(4, .int (y4 + (4 : Int32))), (6, .int u6.1), (5, .int u3.1), (0, .ref b), (1, .ref (ad_ht 0)), (2, .ref (ad_md 0)), (3, .ref (ad_ot 1))]) hx hb d_Law_law_1166 hl (k := 6) rfl rfl (by decide) rfl (fun ls hl => ?_)
      refine lv_goto (tgt := 23) hx hb d_Law_law_1169 (by decide) ?_
      refine W.widen (k := cs + 1) (n := sl + 6) (by omega) (by omega) ?_
      exact hk ad_ht cA_ht ad_rd cA_rd ad_sp cA_sp ad_mx cA_mx ad_ar cA_ar ad_tb cA_tb ad_tc cA_tc ad_ot cA_ot ad_md cA_md ht rd sp u3.2.2 ar tb tc u3.2.1 u6.2 (y4 + (4 : Int32)) H locs ls hf hK hP hD hS (lv_sub hl [3, 4, 5, 6, 0] rfl)
    · have hf := hf_t hf hc9
      refine lv_aload_n hx hb d_Law_law_554 rfl (lv_at hl 5 rfl) ?_
      refine lv_iconst (v := (0 : Int32)) hx hb d_Law_law_555 (by decide) ?_
      obtain ⟨hi10, hf⟩ := hf_g hf
      refine va_lald hx hb hK hP 27 20 rfl rfl hi10 d_Law_law_556 ?_
      refine lv_iload hx hb d_Law_law_557 (lv_at hl 0 rfl) ?_
      refine lv_i2l (v := u6.1.toInt64) hx hb d_Law_law_559 rfl ?_
      refine W.lcmp hx hb d_Law_law_560 ?_
      refine lv_if_eq (tgt := 566) hx hb d_Law_law_561 (by decide) (fun hc11 => ?_) (fun hc11 => ?_)
      · have hf := hf_t hf hc11
        refine lv_goto (tgt := 1166) hx hb d_Law_law_566 (by decide) ?_
        refine lv_iinc (v := y4 + (4 : Int32)) (lv' := [(4, .int (y4 + (4 : Int32))), (6, .int u6.1), (5, .int u3.1), (0, .ref b), (1, .ref (ad_ht 0)), (2, .ref (ad_md 0)), (3, .ref (ad_ot 1))]) hx hb d_Law_law_1166 hl (k := 6) rfl rfl (by decide) rfl (fun ls hl => ?_)
        refine lv_goto (tgt := 23) hx hb d_Law_law_1169 (by decide) ?_
        refine W.widen (k := cs + 1) (n := sl + 6) (by omega) (by omega) ?_
        exact hk ad_ht cA_ht ad_rd cA_rd ad_sp cA_sp ad_mx cA_mx ad_ar cA_ar ad_tb cA_tb ad_tc cA_tc ad_ot cA_ot ad_md cA_md ht rd sp u3.2.2 ar tb tc u3.2.1 u6.2 (y4 + (4 : Int32)) H locs ls hf hK hP hD hS (lv_sub hl [3, 4, 5, 6, 0] rfl)
      · have hf := hf_f hf hc11
        refine lv_iconst (v := (0 : Int32)) hx hb d_Law_law_564 (by decide) ?_
        have hrv : rv = false := (Option.some.inj hf).symm
        subst hrv
        refine va_forget (fun q hq => hA2 _ (hS.2.2 q hq)) ?_
        refine W.widen (k := 1092) (n := 11944) (by omega) (by omega) ?_
        exact lw_ret0b hx hb hr hlocks d_Law_law_565
  · have hf := hf_f hf hc8
    refine lv_iconst (v := (0 : Int32)) hx hb d_Law_law_547 (by decide) ?_
    have hrv : rv = false := (Option.some.inj hf).symm
    subst hrv
    refine va_forget (fun q hq => hA2 _ (hS.2.2 q hq)) ?_
    refine W.widen (k := 1092) (n := 11944) (by omega) (by omega) ?_
    exact lw_ret0b hx hb hr hlocks d_Law_law_548
noncomputable def f_Law_case_569 (L : Nat) (xs : Nat → Int32) (k : SHT → SReader → SSpeller → SMixture → SSurroundings → STable → STable → SOut → SModel → Int32 → Option Bool) (ht : SHT) (rd : SReader) (sp : SSpeller) (mx : SMixture) (ar : SSurroundings) (tb : STable) (tc : STable) (ot : SOut) (md : SModel) (y4 : Int32) : Option Bool :=
  (Option.bind (f_HT_clear ht mx) fun u1 =>
    (Option.bind (f_Model_clear md) fun u2 =>
      (k ht rd sp u1 ar tb tc ot u2 (y4 + (4 : Int32)))
     )
   )
set_option maxHeartbeats 4000000 in
set_option maxRecDepth 100000 in
theorem k_Law_case_569 {rv : Bool} {p : Program} {l : Launch} {e : Env} {s : State} {m : MethodId} {below : List Frame} {meth : Method} {c : Code} {dC : Nat → ClassId} {dI : Nat → Nat → Nat} {b L : Nat} {xs : Nat → Int32} {A : Nat → Prop} (htr : l.stackTraces = false) (C0 : lw_At p s m meth c b L xs) (hN : nwAll s) (hX : xAll A s) (hnc : ncAll s) (hA : ∀ q : Nat, s.heap.size ≤ q → A q) (hA2 : ∀ q : Nat, A q → s.heap.size ≤ q) (cs sl : Nat) (hcs : cs + 1 ≤ 1092) (hsl : sl + 6 ≤ 11944) (k : SHT → SReader → SSpeller → SMixture → SSurroundings → STable → STable → SOut → SModel → Int32 → Option Bool) (hk : ∀ (ad_ht : Nat → Nat) (cA_ht : Nat → ClassId) (ad_rd : Nat → Nat) (cA_rd : Nat → ClassId) (ad_sp : Nat → Nat) (cA_sp : Nat → ClassId) (ad_mx : Nat → Nat) (cA_mx : Nat → ClassId) (ad_ar : Nat → Nat) (cA_ar : Nat → ClassId) (ad_tb : Nat → Nat) (cA_tb : Nat → ClassId) (ad_tc : Nat → Nat) (cA_tc : Nat → ClassId) (ad_ot : Nat → Nat) (cA_ot : Nat → ClassId) (ad_md : Nat → Nat) (cA_md : Nat → ClassId) (ht : SHT) (rd : SReader) (sp : SSpeller) (mx : SMixture) (ar : SSurroundings) (tb : STable) (tc : STable) (ot : SOut) (md : SModel) (y4 : Int32) (H : Heap) (locs : List Loc) (ls : Array Slot), k ht rd sp mx ar tb tc ot md y4 = some rv → va_K (dC, dI) vwCl [(cA_ht 1, .int), (cA_rd 1, .int), (cA_sp 1, .int), (cA_sp 2, .int), (cA_sp 3, .int), (cA_sp 4, .int), (cA_mx 1, .int), (cA_mx 2, .int), (cA_mx 3, .boolean), (cA_ar 1, .int), (cA_ar 2, .int), (cA_ar 3, .int), (cA_tb 1, .int), (cA_tb 2, .int), (cA_tb 3, .int), (cA_tb 4, .byte), (cA_tc 1, .int), (cA_tc 2, .int), (cA_tc 3, .int), (cA_tc 4, .byte), (cA_ot 1, .long), (cA_md 1, .int), (cA_md 2, .int), (cA_md 3, .int), (cA_md 4, .int), (cA_md 5, .int), (cA_md 6, .int), (cA_md 7, .int), (cA_md 8, .int), (cA_md 9, .boolean), (cA_md 10, .int), (cA_md 11, .int), (cA_md 12, .int), (cA_md 13, .int)] s → va_P (dC, dI) vwCl (uw_HT ad_ht cA_ht (ad_rd 0) (ad_sp 0) (ad_mx 0) (ad_ar 0) (ad_tb 0) (ad_tc 0) ht ++ (uw_Reader ad_rd cA_rd rd ++ (uw_Speller ad_sp cA_sp sp ++ (uw_Mixture ad_mx cA_mx mx ++ (uw_Surroundings ad_ar cA_ar ar ++ (uw_Table ad_tb cA_tb tb ++ (uw_Table ad_tc cA_tc tc ++ (uw_Out ad_ot cA_ot ot ++ (uw_Model ad_md cA_md md))))))))) H → va_D A (uw_HT ad_ht cA_ht (ad_rd 0) (ad_sp 0) (ad_mx 0) (ad_ar 0) (ad_tb 0) (ad_tc 0) ht ++ (uw_Reader ad_rd cA_rd rd ++ (uw_Speller ad_sp cA_sp sp ++ (uw_Mixture ad_mx cA_mx mx ++ (uw_Surroundings ad_ar cA_ar ar ++ (uw_Table ad_tb cA_tb tb ++ (uw_Table ad_tc cA_tc tc ++ (uw_Out ad_ot cA_ot ot ++ (uw_Model ad_md cA_md md))))))))) → va_S A s.heap H locs → lv_has ls 7 [(0, .ref b), (1, .ref (ad_ht 0)), (2, .ref (ad_md 0)), (3, .ref (ad_ot 1)), (4, .int y4)] → W p l e room_1 s m #[Value.ref b] below meth c H locs (cs + 1) (sl + 6) (lw_Zb rv below #[Value.ref b] s) (F0 m 23 ls [])) : ∀ (ad_ht : Nat → Nat) (cA_ht : Nat → ClassId) (ad_rd : Nat → Nat) (cA_rd : Nat → ClassId) (ad_sp : Nat → Nat) (cA_sp : Nat → ClassId) (ad_mx : Nat → Nat) (cA_mx : Nat → ClassId) (ad_ar : Nat → Nat) (cA_ar : Nat → ClassId) (ad_tb : Nat → Nat) (cA_tb : Nat → ClassId) (ad_tc : Nat → Nat) (cA_tc : Nat → ClassId) (ad_ot : Nat → Nat) (cA_ot : Nat → ClassId) (ad_md : Nat → Nat) (cA_md : Nat → ClassId) (ht : SHT) (rd : SReader) (sp : SSpeller) (mx : SMixture) (ar : SSurroundings) (tb : STable) (tc : STable) (ot : SOut) (md : SModel) (y4 : Int32) (H : Heap) (locs : List Loc) (ls : Array Slot), f_Law_case_569 L xs k ht rd sp mx ar tb tc ot md y4 = some rv → va_K (dC, dI) vwCl [(cA_ht 1, .int), (cA_rd 1, .int), (cA_sp 1, .int), (cA_sp 2, .int), (cA_sp 3, .int), (cA_sp 4, .int), (cA_mx 1, .int), (cA_mx 2, .int), (cA_mx 3, .boolean), (cA_ar 1, .int), (cA_ar 2, .int), (cA_ar 3, .int), (cA_tb 1, .int), (cA_tb 2, .int), (cA_tb 3, .int), (cA_tb 4, .byte), (cA_tc 1, .int), (cA_tc 2, .int), (cA_tc 3, .int), (cA_tc 4, .byte), (cA_ot 1, .long), (cA_md 1, .int), (cA_md 2, .int), (cA_md 3, .int), (cA_md 4, .int), (cA_md 5, .int), (cA_md 6, .int), (cA_md 7, .int), (cA_md 8, .int), (cA_md 9, .boolean), (cA_md 10, .int), (cA_md 11, .int), (cA_md 12, .int), (cA_md 13, .int)] s → va_P (dC, dI) vwCl (uw_HT ad_ht cA_ht (ad_rd 0) (ad_sp 0) (ad_mx 0) (ad_ar 0) (ad_tb 0) (ad_tc 0) ht ++ (uw_Reader ad_rd cA_rd rd ++ (uw_Speller ad_sp cA_sp sp ++ (uw_Mixture ad_mx cA_mx mx ++ (uw_Surroundings ad_ar cA_ar ar ++ (uw_Table ad_tb cA_tb tb ++ (uw_Table ad_tc cA_tc tc ++ (uw_Out ad_ot cA_ot ot ++ (uw_Model ad_md cA_md md))))))))) H → va_D A (uw_HT ad_ht cA_ht (ad_rd 0) (ad_sp 0) (ad_mx 0) (ad_ar 0) (ad_tb 0) (ad_tc 0) ht ++ (uw_Reader ad_rd cA_rd rd ++ (uw_Speller ad_sp cA_sp sp ++ (uw_Mixture ad_mx cA_mx mx ++ (uw_Surroundings ad_ar cA_ar ar ++ (uw_Table ad_tb cA_tb tb ++ (uw_Table ad_tc cA_tc tc ++ (uw_Out ad_ot cA_ot ot ++ (uw_Model ad_md cA_md md))))))))) → va_S A s.heap H locs → lv_has ls 7 [(0, .ref b), (1, .ref (ad_ht 0)), (2, .ref (ad_md 0)), (3, .ref (ad_ot 1)), (4, .int y4)] → W p l e room_1 s m #[Value.ref b] below meth c H locs cs sl (lw_Zb rv below #[Value.ref b] s) (F0 m 569 ls []) := by
  obtain ⟨hx, hb, hr, hml, hown, hts0, hX0, hbl, hlocks, hgv⟩ := C0
  have hown : s.vm.findClass "HazardTablesLaw" = some m.cls := hown
  have hts : ∀ w ∈ (Cond.initialized "HazardTables" :: WA), w.before #[Value.ref b] s = true := fun w h => hts0 w ((List.mem_cons.mp h).elim (fun e => by rw [e]; exact (List.mem_filter.mp wd_43).1) (fun h => (List.mem_filter.mp h).1))
  have hbA : ¬ A b := fun h => absurd (hA2 b h) (Nat.not_le.mpr hbl)
  intro ad_ht cA_ht ad_rd cA_rd ad_sp cA_sp ad_mx cA_mx ad_ar cA_ar ad_tb cA_tb ad_tc cA_tc ad_ot cA_ot ad_md cA_md ht rd sp mx ar tb tc ot md y4 H locs ls hf hK hP hD hS hl
  unfold f_Law_case_569 at hf
  refine lv_aload_n hx hb d_Law_law_569 rfl (lv_at hl 1 rfl) ?_
  obtain ⟨u1, hu1, hf⟩ := Option.bind_eq_some_iff.mp hf
  refine cl_v (wc := (uw_HT ad_ht cA_ht (ad_rd 0) (ad_sp 0) (ad_mx 0) (ad_ar 0) (ad_tb 0) (ad_tc 0) ht ++ (uw_Mixture ad_mx cA_mx mx))) (wr := (uw_Reader ad_rd cA_rd rd ++ (uw_Speller ad_sp cA_sp sp ++ (uw_Surroundings ad_ar cA_ar ar ++ (uw_Table ad_tb cA_tb tb ++ (uw_Table ad_tc cA_tc tc ++ (uw_Out ad_ot cA_ot ot ++ (uw_Model ad_md cA_md md)))))))) (tysC := [(cA_ht 1, .int), (cA_mx 1, .int), (cA_mx 2, .int), (cA_mx 3, .boolean)]) (wu := fun (u : SMixture) => (uw_HT ad_ht cA_ht (ad_rd 0) (ad_sp 0) (ad_mx 0) (ad_ar 0) (ad_tb 0) (ad_tc 0) ht ++ (uw_Mixture ad_mx cA_mx u))) (wn := fun (u : SMixture) => (uw_HT ad_ht cA_ht (ad_rd 0) (ad_sp 0) (ad_mx 0) (ad_ar 0) (ad_tb 0) (ad_tc 0) ht ++ (uw_Reader ad_rd cA_rd rd ++ (uw_Speller ad_sp cA_sp sp ++ (uw_Mixture ad_mx cA_mx u ++ (uw_Surroundings ad_ar cA_ar ar ++ (uw_Table ad_tb cA_tb tb ++ (uw_Table ad_tc cA_tc tc ++ (uw_Out ad_ot cA_ot ot ++ (uw_Model ad_md cA_md md)))))))))) [0, 1, 9, 10, 11, 12] [2, 3, 4, 5, 6, 7, 8, 13, 14, 15, 16, 17, 18, 19, 20, 21, 22, 23, 24, 25, 26, 27, 28, 29, 30, 31, 32, 33, 34, 35, 36, 37, 38, 39, 40, 41] [36, 37, 0, 1, 2, 3, 4, 5, 6, 38, 39, 40, 41, 7, 8, 9, 10, 11, 12, 13, 14, 15, 16, 17, 18, 19, 20, 21, 22, 23, 24, 25, 26, 27, 28, 29, 30, 31, 32, 33, 34, 35] [0, 6, 7, 8] hP hD hS hA hK rfl rfl (by decide +kernel) (by decide +kernel) (by decide +kernel) rfl (fun _ => rfl) (by decide +kernel) (fun hPc hKc hDc => (va_runV (As := []) (rest := []) ⟨hx, hb, hml, hown, hts⟩ (k_HT_clear l dC dI ad_ht cA_ht ad_mx cA_mx ad_rd cA_rd ad_sp cA_sp ad_ar cA_ar ad_tb cA_tb ad_tc cA_tc H.size ht mx u1 hu1) (cwV 0 hts (gV wd_230 wd_231 wd_232 wd_43 wd_233) rfl rfl rfl (by decide +kernel) ⟨Nat.le_of_ble_eq_true rfl, Nat.le_of_ble_eq_true rfl⟩) (cl_preV hPc hKc hDc hN (ci := 5) 0 rfl rfl) rfl rfl hl.1 rfl (lv_room (Nat.le_of_ble_eq_true rfl)) d_Law_law_570 ⟨by show _ ≤ 1092; omega, by show _ ≤ 11944; omega⟩)) (fun u H locs hw hP hD hS => ?_)
  have hw := hw.symm
  subst hw
  have hP : va_P (dC, dI) vwCl (uw_HT ad_ht cA_ht (ad_rd 0) (ad_sp 0) (ad_mx 0) (ad_ar 0) (ad_tb 0) (ad_tc 0) ht ++ (uw_Reader ad_rd cA_rd rd ++ (uw_Speller ad_sp cA_sp sp ++ (uw_Mixture ad_mx cA_mx u1 ++ (uw_Surroundings ad_ar cA_ar ar ++ (uw_Table ad_tb cA_tb tb ++ (uw_Table ad_tc cA_tc tc ++ (uw_Out ad_ot cA_ot ot ++ (uw_Model ad_md cA_md md))))))))) H := hP
  have hD : va_D A (uw_HT ad_ht cA_ht (ad_rd 0) (ad_sp 0) (ad_mx 0) (ad_ar 0) (ad_tb 0) (ad_tc 0) ht ++ (uw_Reader ad_rd cA_rd rd ++ (uw_Speller ad_sp cA_sp sp ++ (uw_Mixture ad_mx cA_mx u1 ++ (uw_Surroundings ad_ar cA_ar ar ++ (uw_Table ad_tb cA_tb tb ++ (uw_Table ad_tc cA_tc tc ++ (uw_Out ad_ot cA_ot ot ++ (uw_Model ad_md cA_md md))))))))) := hD
  refine lv_aload_n hx hb d_Law_law_573 rfl (lv_at hl 2 rfl) ?_
  obtain ⟨u2, hu2, hf⟩ := Option.bind_eq_some_iff.mp hf
  refine cl_v (wc := (uw_Model ad_md cA_md md)) (wr := (uw_HT ad_ht cA_ht (ad_rd 0) (ad_sp 0) (ad_mx 0) (ad_ar 0) (ad_tb 0) (ad_tc 0) ht ++ (uw_Reader ad_rd cA_rd rd ++ (uw_Speller ad_sp cA_sp sp ++ (uw_Mixture ad_mx cA_mx u1 ++ (uw_Surroundings ad_ar cA_ar ar ++ (uw_Table ad_tb cA_tb tb ++ (uw_Table ad_tc cA_tc tc ++ (uw_Out ad_ot cA_ot ot))))))))) (tysC := [(cA_md 1, .int), (cA_md 2, .int), (cA_md 3, .int), (cA_md 4, .int), (cA_md 5, .int), (cA_md 6, .int), (cA_md 7, .int), (cA_md 8, .int), (cA_md 9, .boolean), (cA_md 10, .int), (cA_md 11, .int), (cA_md 12, .int), (cA_md 13, .int)]) (wu := fun (u : SModel) => (uw_Model ad_md cA_md u)) (wn := fun (u : SModel) => (uw_HT ad_ht cA_ht (ad_rd 0) (ad_sp 0) (ad_mx 0) (ad_ar 0) (ad_tb 0) (ad_tc 0) ht ++ (uw_Reader ad_rd cA_rd rd ++ (uw_Speller ad_sp cA_sp sp ++ (uw_Mixture ad_mx cA_mx u1 ++ (uw_Surroundings ad_ar cA_ar ar ++ (uw_Table ad_tb cA_tb tb ++ (uw_Table ad_tc cA_tc tc ++ (uw_Out ad_ot cA_ot ot ++ (uw_Model ad_md cA_md u)))))))))) [28, 29, 30, 31, 32, 33, 34, 35, 36, 37, 38, 39, 40, 41] [0, 1, 2, 3, 4, 5, 6, 7, 8, 9, 10, 11, 12, 13, 14, 15, 16, 17, 18, 19, 20, 21, 22, 23, 24, 25, 26, 27] [0, 1, 2, 3, 4, 5, 6, 7, 8, 9, 10, 11, 12, 13, 14, 15, 16, 17, 18, 19, 20, 21, 22, 23, 24, 25, 26, 27, 28, 29, 30, 31, 32, 33, 34, 35, 36, 37, 38, 39, 40, 41] [21, 22, 23, 24, 25, 26, 27, 28, 29, 30, 31, 32, 33] hP hD hS hA hK rfl rfl (by decide +kernel) (by decide +kernel) (by decide +kernel) rfl (fun _ => rfl) (by decide +kernel) (fun hPc hKc hDc => (va_runV (As := []) (rest := []) ⟨hx, hb, hml, hown, hts⟩ (k_Model_clear l dC dI ad_md cA_md H.size md u2 hu2) (cwV 0 hts (gV wd_950 wd_903 wd_904 wd_49 wd_905) rfl rfl rfl (by decide +kernel) ⟨Nat.le_of_ble_eq_true rfl, Nat.le_of_ble_eq_true rfl⟩) (cl_preV hPc hKc hDc hN (ci := 6) 0 rfl rfl) rfl rfl hl.1 rfl (lv_room (Nat.le_of_ble_eq_true rfl)) d_Law_law_574 ⟨by show _ ≤ 1092; omega, by show _ ≤ 11944; omega⟩)) (fun u H locs hw hP hD hS => ?_)
  have hw := hw.symm
  subst hw
  have hP : va_P (dC, dI) vwCl (uw_HT ad_ht cA_ht (ad_rd 0) (ad_sp 0) (ad_mx 0) (ad_ar 0) (ad_tb 0) (ad_tc 0) ht ++ (uw_Reader ad_rd cA_rd rd ++ (uw_Speller ad_sp cA_sp sp ++ (uw_Mixture ad_mx cA_mx u1 ++ (uw_Surroundings ad_ar cA_ar ar ++ (uw_Table ad_tb cA_tb tb ++ (uw_Table ad_tc cA_tc tc ++ (uw_Out ad_ot cA_ot ot ++ (uw_Model ad_md cA_md u2))))))))) H := hP
  have hD : va_D A (uw_HT ad_ht cA_ht (ad_rd 0) (ad_sp 0) (ad_mx 0) (ad_ar 0) (ad_tb 0) (ad_tc 0) ht ++ (uw_Reader ad_rd cA_rd rd ++ (uw_Speller ad_sp cA_sp sp ++ (uw_Mixture ad_mx cA_mx u1 ++ (uw_Surroundings ad_ar cA_ar ar ++ (uw_Table ad_tb cA_tb tb ++ (uw_Table ad_tc cA_tc tc ++ (uw_Out ad_ot cA_ot ot ++ (uw_Model ad_md cA_md u2))))))))) := hD
  refine lv_goto (tgt := 1166) hx hb d_Law_law_577 (by decide) ?_
  refine lv_iinc (v := y4 + (4 : Int32)) (lv' := [(4, .int (y4 + (4 : Int32))), (0, .ref b), (1, .ref (ad_ht 0)), (2, .ref (ad_md 0)), (3, .ref (ad_ot 1))]) hx hb d_Law_law_1166 hl (k := 4) rfl rfl (by decide) rfl (fun ls hl => ?_)
  refine lv_goto (tgt := 23) hx hb d_Law_law_1169 (by decide) ?_
  refine W.widen (k := cs + 1) (n := sl + 6) (by omega) (by omega) ?_
  exact hk ad_ht cA_ht ad_rd cA_rd ad_sp cA_sp ad_mx cA_mx ad_ar cA_ar ad_tb cA_tb ad_tc cA_tc ad_ot cA_ot ad_md cA_md ht rd sp u1 ar tb tc ot u2 (y4 + (4 : Int32)) H locs ls hf hK hP hD hS (lv_sub hl [1, 2, 3, 4, 0] rfl)
noncomputable def f_Law_case_580 (L : Nat) (xs : Nat → Int32) (k : SHT → SReader → SSpeller → SMixture → SSurroundings → STable → STable → SOut → SModel → Int32 → Option Bool) (ht : SHT) (rd : SReader) (sp : SSpeller) (mx : SMixture) (ar : SSurroundings) (tb : STable) (tc : STable) (ot : SOut) (md : SModel) (y4 : Int32) : Option Bool :=
  (if inb (y4 + (1 : Int32)) L then
    (Option.bind (f_Law_mixture ht ot mx tb (xs (y4 + (1 : Int32)).toNatClampNeg)) fun u2 =>
      (if inb (y4 + (1 : Int32)) L then
        (Option.bind (f_Model_mixture md (xs (y4 + (1 : Int32)).toNatClampNeg)) fun u4 =>
          (Option.bind (f_Model_thrown u4.2) fun u5 =>
            (if u5 = u2.1 then
              (if u2.1 = 0 then
                (if inb (0 : Int32) 1 then
                  (if (lg_cmp (u2.2 (0 : Int32).toNatClampNeg) u4.1.toInt64) = 0 then
                    (k ht rd sp mx ar tb tc u2.2 u4.2 (y4 + (4 : Int32)))
                   else
                    (some false)
                   )
                 else none)
               else
                (k ht rd sp mx ar tb tc u2.2 u4.2 (y4 + (4 : Int32)))
               )
             else
              (some false)
             )
           )
         )
       else none)
     )
   else none)
set_option maxHeartbeats 4000000 in
set_option maxRecDepth 100000 in
theorem k_Law_case_580 {rv : Bool} {p : Program} {l : Launch} {e : Env} {s : State} {m : MethodId} {below : List Frame} {meth : Method} {c : Code} {dC : Nat → ClassId} {dI : Nat → Nat → Nat} {b L : Nat} {xs : Nat → Int32} {A : Nat → Prop} (htr : l.stackTraces = false) (C0 : lw_At p s m meth c b L xs) (hN : nwAll s) (hX : xAll A s) (hnc : ncAll s) (hA : ∀ q : Nat, s.heap.size ≤ q → A q) (hA2 : ∀ q : Nat, A q → s.heap.size ≤ q) (cs sl : Nat) (hcs : cs + 1 ≤ 1092) (hsl : sl + 6 ≤ 11944) (k : SHT → SReader → SSpeller → SMixture → SSurroundings → STable → STable → SOut → SModel → Int32 → Option Bool) (hk : ∀ (ad_ht : Nat → Nat) (cA_ht : Nat → ClassId) (ad_rd : Nat → Nat) (cA_rd : Nat → ClassId) (ad_sp : Nat → Nat) (cA_sp : Nat → ClassId) (ad_mx : Nat → Nat) (cA_mx : Nat → ClassId) (ad_ar : Nat → Nat) (cA_ar : Nat → ClassId) (ad_tb : Nat → Nat) (cA_tb : Nat → ClassId) (ad_tc : Nat → Nat) (cA_tc : Nat → ClassId) (ad_ot : Nat → Nat) (cA_ot : Nat → ClassId) (ad_md : Nat → Nat) (cA_md : Nat → ClassId) (ht : SHT) (rd : SReader) (sp : SSpeller) (mx : SMixture) (ar : SSurroundings) (tb : STable) (tc : STable) (ot : SOut) (md : SModel) (y4 : Int32) (H : Heap) (locs : List Loc) (ls : Array Slot), k ht rd sp mx ar tb tc ot md y4 = some rv → va_K (dC, dI) vwCl [(cA_ht 1, .int), (cA_rd 1, .int), (cA_sp 1, .int), (cA_sp 2, .int), (cA_sp 3, .int), (cA_sp 4, .int), (cA_mx 1, .int), (cA_mx 2, .int), (cA_mx 3, .boolean), (cA_ar 1, .int), (cA_ar 2, .int), (cA_ar 3, .int), (cA_tb 1, .int), (cA_tb 2, .int), (cA_tb 3, .int), (cA_tb 4, .byte), (cA_tc 1, .int), (cA_tc 2, .int), (cA_tc 3, .int), (cA_tc 4, .byte), (cA_ot 1, .long), (cA_md 1, .int), (cA_md 2, .int), (cA_md 3, .int), (cA_md 4, .int), (cA_md 5, .int), (cA_md 6, .int), (cA_md 7, .int), (cA_md 8, .int), (cA_md 9, .boolean), (cA_md 10, .int), (cA_md 11, .int), (cA_md 12, .int), (cA_md 13, .int)] s → va_P (dC, dI) vwCl (uw_HT ad_ht cA_ht (ad_rd 0) (ad_sp 0) (ad_mx 0) (ad_ar 0) (ad_tb 0) (ad_tc 0) ht ++ (uw_Reader ad_rd cA_rd rd ++ (uw_Speller ad_sp cA_sp sp ++ (uw_Mixture ad_mx cA_mx mx ++ (uw_Surroundings ad_ar cA_ar ar ++ (uw_Table ad_tb cA_tb tb ++ (uw_Table ad_tc cA_tc tc ++ (uw_Out ad_ot cA_ot ot ++ (uw_Model ad_md cA_md md))))))))) H → va_D A (uw_HT ad_ht cA_ht (ad_rd 0) (ad_sp 0) (ad_mx 0) (ad_ar 0) (ad_tb 0) (ad_tc 0) ht ++ (uw_Reader ad_rd cA_rd rd ++ (uw_Speller ad_sp cA_sp sp ++ (uw_Mixture ad_mx cA_mx mx ++ (uw_Surroundings ad_ar cA_ar ar ++ (uw_Table ad_tb cA_tb tb ++ (uw_Table ad_tc cA_tc tc ++ (uw_Out ad_ot cA_ot ot ++ (uw_Model ad_md cA_md md))))))))) → va_S A s.heap H locs → lv_has ls 7 [(0, .ref b), (1, .ref (ad_ht 0)), (2, .ref (ad_md 0)), (3, .ref (ad_ot 1)), (4, .int y4)] → W p l e room_1 s m #[Value.ref b] below meth c H locs (cs + 1) (sl + 6) (lw_Zb rv below #[Value.ref b] s) (F0 m 23 ls [])) : ∀ (ad_ht : Nat → Nat) (cA_ht : Nat → ClassId) (ad_rd : Nat → Nat) (cA_rd : Nat → ClassId) (ad_sp : Nat → Nat) (cA_sp : Nat → ClassId) (ad_mx : Nat → Nat) (cA_mx : Nat → ClassId) (ad_ar : Nat → Nat) (cA_ar : Nat → ClassId) (ad_tb : Nat → Nat) (cA_tb : Nat → ClassId) (ad_tc : Nat → Nat) (cA_tc : Nat → ClassId) (ad_ot : Nat → Nat) (cA_ot : Nat → ClassId) (ad_md : Nat → Nat) (cA_md : Nat → ClassId) (ht : SHT) (rd : SReader) (sp : SSpeller) (mx : SMixture) (ar : SSurroundings) (tb : STable) (tc : STable) (ot : SOut) (md : SModel) (y4 : Int32) (H : Heap) (locs : List Loc) (ls : Array Slot), f_Law_case_580 L xs k ht rd sp mx ar tb tc ot md y4 = some rv → va_K (dC, dI) vwCl [(cA_ht 1, .int), (cA_rd 1, .int), (cA_sp 1, .int), (cA_sp 2, .int), (cA_sp 3, .int), (cA_sp 4, .int), (cA_mx 1, .int), (cA_mx 2, .int), (cA_mx 3, .boolean), (cA_ar 1, .int), (cA_ar 2, .int), (cA_ar 3, .int), (cA_tb 1, .int), (cA_tb 2, .int), (cA_tb 3, .int), (cA_tb 4, .byte), (cA_tc 1, .int), (cA_tc 2, .int), (cA_tc 3, .int), (cA_tc 4, .byte), (cA_ot 1, .long), (cA_md 1, .int), (cA_md 2, .int), (cA_md 3, .int), (cA_md 4, .int), (cA_md 5, .int), (cA_md 6, .int), (cA_md 7, .int), (cA_md 8, .int), (cA_md 9, .boolean), (cA_md 10, .int), (cA_md 11, .int), (cA_md 12, .int), (cA_md 13, .int)] s → va_P (dC, dI) vwCl (uw_HT ad_ht cA_ht (ad_rd 0) (ad_sp 0) (ad_mx 0) (ad_ar 0) (ad_tb 0) (ad_tc 0) ht ++ (uw_Reader ad_rd cA_rd rd ++ (uw_Speller ad_sp cA_sp sp ++ (uw_Mixture ad_mx cA_mx mx ++ (uw_Surroundings ad_ar cA_ar ar ++ (uw_Table ad_tb cA_tb tb ++ (uw_Table ad_tc cA_tc tc ++ (uw_Out ad_ot cA_ot ot ++ (uw_Model ad_md cA_md md))))))))) H → va_D A (uw_HT ad_ht cA_ht (ad_rd 0) (ad_sp 0) (ad_mx 0) (ad_ar 0) (ad_tb 0) (ad_tc 0) ht ++ (uw_Reader ad_rd cA_rd rd ++ (uw_Speller ad_sp cA_sp sp ++ (uw_Mixture ad_mx cA_mx mx ++ (uw_Surroundings ad_ar cA_ar ar ++ (uw_Table ad_tb cA_tb tb ++ (uw_Table ad_tc cA_tc tc ++ (uw_Out ad_ot cA_ot ot ++ (uw_Model ad_md cA_md md))))))))) → va_S A s.heap H locs → lv_has ls 7 [(0, .ref b), (1, .ref (ad_ht 0)), (2, .ref (ad_md 0)), (3, .ref (ad_ot 1)), (4, .int y4)] → W p l e room_1 s m #[Value.ref b] below meth c H locs cs sl (lw_Zb rv below #[Value.ref b] s) (F0 m 580 ls []) := by
  obtain ⟨hx, hb, hr, hml, hown, hts0, hX0, hbl, hlocks, hgv⟩ := C0
  have hown : s.vm.findClass "HazardTablesLaw" = some m.cls := hown
  have hts : ∀ w ∈ (Cond.initialized "HazardTables" :: WA), w.before #[Value.ref b] s = true := fun w h => hts0 w ((List.mem_cons.mp h).elim (fun e => by rw [e]; exact (List.mem_filter.mp wd_43).1) (fun h => (List.mem_filter.mp h).1))
  have hbA : ¬ A b := fun h => absurd (hA2 b h) (Nat.not_le.mpr hbl)
  intro ad_ht cA_ht ad_rd cA_rd ad_sp cA_sp ad_mx cA_mx ad_ar cA_ar ad_tb cA_tb ad_tc cA_tc ad_ot cA_ot ad_md cA_md ht rd sp mx ar tb tc ot md y4 H locs ls hf hK hP hD hS hl
  unfold f_Law_case_580 at hf
  refine lv_aload_n hx hb d_Law_law_580 rfl (lv_at hl 1 rfl) ?_
  refine lv_aload_n hx hb d_Law_law_581 rfl (lv_at hl 0 rfl) ?_
  refine lv_iload hx hb d_Law_law_582 (lv_at hl 4 rfl) ?_
  refine lv_iconst (v := (1 : Int32)) hx hb d_Law_law_584 (by decide) ?_
  refine lv_iadd hx hb d_Law_law_585 ?_
  obtain ⟨hi1, hf⟩ := hf_g hf
  refine va_sld hx hb hX0 hbl hbA hS hi1 d_Law_law_586 ?_
  refine lv_aload_n hx hb d_Law_law_587 rfl (lv_at hl 3 rfl) ?_
  obtain ⟨u2, hu2, hf⟩ := Option.bind_eq_some_iff.mp hf
  refine cl_i (wc := (uw_HT ad_ht cA_ht (ad_rd 0) (ad_sp 0) (ad_mx 0) (ad_ar 0) (ad_tb 0) (ad_tc 0) ht ++ (uw_Out ad_ot cA_ot ot ++ (uw_Mixture ad_mx cA_mx mx ++ (uw_Table ad_tb cA_tb tb))))) (wr := (uw_Reader ad_rd cA_rd rd ++ (uw_Speller ad_sp cA_sp sp ++ (uw_Surroundings ad_ar cA_ar ar ++ (uw_Table ad_tc cA_tc tc ++ (uw_Model ad_md cA_md md)))))) (tysC := [(cA_ht 1, .int), (cA_ot 1, .long), (cA_mx 1, .int), (cA_mx 2, .int), (cA_mx 3, .boolean), (cA_tb 1, .int), (cA_tb 2, .int), (cA_tb 3, .int), (cA_tb 4, .byte)]) (wu := fun (u : SOut) => (uw_HT ad_ht cA_ht (ad_rd 0) (ad_sp 0) (ad_mx 0) (ad_ar 0) (ad_tb 0) (ad_tc 0) ht ++ (uw_Out ad_ot cA_ot u ++ (uw_Mixture ad_mx cA_mx mx ++ (uw_Table ad_tb cA_tb tb))))) (wn := fun (u : SOut) => (uw_HT ad_ht cA_ht (ad_rd 0) (ad_sp 0) (ad_mx 0) (ad_ar 0) (ad_tb 0) (ad_tc 0) ht ++ (uw_Reader ad_rd cA_rd rd ++ (uw_Speller ad_sp cA_sp sp ++ (uw_Mixture ad_mx cA_mx mx ++ (uw_Surroundings ad_ar cA_ar ar ++ (uw_Table ad_tb cA_tb tb ++ (uw_Table ad_tc cA_tc tc ++ (uw_Out ad_ot cA_ot u ++ (uw_Model ad_md cA_md md)))))))))) [0, 1, 27, 9, 10, 11, 12, 17, 18, 19, 20, 21] [2, 3, 4, 5, 6, 7, 8, 13, 14, 15, 16, 22, 23, 24, 25, 26, 28, 29, 30, 31, 32, 33, 34, 35, 36, 37, 38, 39, 40, 41] [30, 31, 0, 1, 2, 3, 4, 5, 6, 33, 34, 35, 36, 7, 8, 9, 10, 37, 38, 39, 40, 41, 11, 12, 13, 14, 15, 32, 16, 17, 18, 19, 20, 21, 22, 23, 24, 25, 26, 27, 28, 29] [0, 20, 6, 7, 8, 12, 13, 14, 15] hP hD hS hA hK rfl rfl (by decide +kernel) (by decide +kernel) (by decide +kernel) rfl (fun _ => rfl) (by decide +kernel) (fun hPc hKc hDc => (vx_runSW (As := [.ref (ad_ht 0), .int (xs (y4 + (1 : Int32)).toNatClampNeg), .ref (ad_ot 1)]) (rest := []) ⟨hx, hb, hml, hown, hts⟩ (k_Law_mixture l dC dI ad_ht cA_ht ad_ot cA_ot ad_mx cA_mx ad_tb cA_tb ad_rd cA_rd ad_sp cA_sp ad_ar cA_ar ad_tc cA_tc H.size ht ot mx tb (xs (y4 + (1 : Int32)).toNatClampNeg) u2 hu2 htr) (vx_cwSW 3 hts (gSW wd_606 wd_607 wd_42 wd_608) rfl rfl rfl (by decide +kernel) ⟨Nat.le_of_ble_eq_true rfl, Nat.le_of_ble_eq_true rfl⟩) (cx_preL hPc hKc hDc hN (fun U hU hW => xAll_at hX hS (va_free hD hS hA [0, 1, 27, 9, 10, 11, 12, 17, 18, 19, 20, 21] rfl) hU hW) hnc) rfl rfl hl.1 rfl (lv_room (Nat.le_of_ble_eq_true rfl)) d_Law_law_588 ⟨by show _ ≤ 1092; omega, by show _ ≤ 11944; omega⟩)) (fun r u H locs hw hP hD hS => ?_)
  obtain ⟨hw1, hw2⟩ := hw
  have hw1 := hw1.symm
  have hw2 := hw2.symm
  subst hw1
  subst hw2
  have hP : va_P (dC, dI) vwCl (uw_HT ad_ht cA_ht (ad_rd 0) (ad_sp 0) (ad_mx 0) (ad_ar 0) (ad_tb 0) (ad_tc 0) ht ++ (uw_Reader ad_rd cA_rd rd ++ (uw_Speller ad_sp cA_sp sp ++ (uw_Mixture ad_mx cA_mx mx ++ (uw_Surroundings ad_ar cA_ar ar ++ (uw_Table ad_tb cA_tb tb ++ (uw_Table ad_tc cA_tc tc ++ (uw_Out ad_ot cA_ot u2.2 ++ (uw_Model ad_md cA_md md))))))))) H := hP
  have hD : va_D A (uw_HT ad_ht cA_ht (ad_rd 0) (ad_sp 0) (ad_mx 0) (ad_ar 0) (ad_tb 0) (ad_tc 0) ht ++ (uw_Reader ad_rd cA_rd rd ++ (uw_Speller ad_sp cA_sp sp ++ (uw_Mixture ad_mx cA_mx mx ++ (uw_Surroundings ad_ar cA_ar ar ++ (uw_Table ad_tb cA_tb tb ++ (uw_Table ad_tc cA_tc tc ++ (uw_Out ad_ot cA_ot u2.2 ++ (uw_Model ad_md cA_md md))))))))) := hD
  refine lv_istore (lv' := [(5, .int u2.1), (0, .ref b), (1, .ref (ad_ht 0)), (2, .ref (ad_md 0)), (3, .ref (ad_ot 1)), (4, .int y4)]) hx hb d_Law_law_591 hl (by decide) rfl (fun ls hl => ?_)
  refine lv_aload_n hx hb d_Law_law_593 rfl (lv_at hl 3 rfl) ?_
  refine lv_aload_n hx hb d_Law_law_594 rfl (lv_at hl 1 rfl) ?_
  refine lv_iload hx hb d_Law_law_595 (lv_at hl 5 rfl) ?_
  refine lv_iconst (v := (1 : Int32)) hx hb d_Law_law_597 (by decide) ?_
  refine lv_iadd hx hb d_Law_law_598 ?_
  obtain ⟨hi3, hf⟩ := hf_g hf
  refine va_sld hx hb hX0 hbl hbA hS hi3 d_Law_law_599 ?_
  obtain ⟨u4, hu4, hf⟩ := Option.bind_eq_some_iff.mp hf
  refine cl_i (wc := (uw_Model ad_md cA_md md)) (wr := (uw_HT ad_ht cA_ht (ad_rd 0) (ad_sp 0) (ad_mx 0) (ad_ar 0) (ad_tb 0) (ad_tc 0) ht ++ (uw_Reader ad_rd cA_rd rd ++ (uw_Speller ad_sp cA_sp sp ++ (uw_Mixture ad_mx cA_mx mx ++ (uw_Surroundings ad_ar cA_ar ar ++ (uw_Table ad_tb cA_tb tb ++ (uw_Table ad_tc cA_tc tc ++ (uw_Out ad_ot cA_ot u2.2))))))))) (tysC := [(cA_md 1, .int), (cA_md 2, .int), (cA_md 3, .int), (cA_md 4, .int), (cA_md 5, .int), (cA_md 6, .int), (cA_md 7, .int), (cA_md 8, .int), (cA_md 9, .boolean), (cA_md 10, .int), (cA_md 11, .int), (cA_md 12, .int), (cA_md 13, .int)]) (wu := fun (u : SModel) => (uw_Model ad_md cA_md u)) (wn := fun (u : SModel) => (uw_HT ad_ht cA_ht (ad_rd 0) (ad_sp 0) (ad_mx 0) (ad_ar 0) (ad_tb 0) (ad_tc 0) ht ++ (uw_Reader ad_rd cA_rd rd ++ (uw_Speller ad_sp cA_sp sp ++ (uw_Mixture ad_mx cA_mx mx ++ (uw_Surroundings ad_ar cA_ar ar ++ (uw_Table ad_tb cA_tb tb ++ (uw_Table ad_tc cA_tc tc ++ (uw_Out ad_ot cA_ot u2.2 ++ (uw_Model ad_md cA_md u)))))))))) [28, 29, 30, 31, 32, 33, 34, 35, 36, 37, 38, 39, 40, 41] [0, 1, 2, 3, 4, 5, 6, 7, 8, 9, 10, 11, 12, 13, 14, 15, 16, 17, 18, 19, 20, 21, 22, 23, 24, 25, 26, 27] [0, 1, 2, 3, 4, 5, 6, 7, 8, 9, 10, 11, 12, 13, 14, 15, 16, 17, 18, 19, 20, 21, 22, 23, 24, 25, 26, 27, 28, 29, 30, 31, 32, 33, 34, 35, 36, 37, 38, 39, 40, 41] [21, 22, 23, 24, 25, 26, 27, 28, 29, 30, 31, 32, 33] hP hD hS hA hK rfl rfl (by decide +kernel) (by decide +kernel) (by decide +kernel) rfl (fun _ => rfl) (by decide +kernel) (fun hPc hKc hDc => (va_runV (As := [.int (xs (y4 + (1 : Int32)).toNatClampNeg)]) (rest := []) ⟨hx, hb, hml, hown, hts⟩ (k_Model_mixture l dC dI ad_md cA_md H.size md (xs (y4 + (1 : Int32)).toNatClampNeg) u4 hu4) (cwV 1 hts (gV wd_951 wd_952 wd_953 wd_49 wd_954) rfl rfl rfl (by decide +kernel) ⟨Nat.le_of_ble_eq_true rfl, Nat.le_of_ble_eq_true rfl⟩) (cl_preV hPc hKc hDc hN (ci := 6) 0 rfl rfl) rfl rfl hl.1 rfl (lv_room (Nat.le_of_ble_eq_true rfl)) d_Law_law_600 ⟨by show _ ≤ 1092; omega, by show _ ≤ 11944; omega⟩)) (fun r u H locs hw hP hD hS => ?_)
  obtain ⟨hw1, hw2⟩ := hw
  have hw1 := hw1.symm
  have hw2 := hw2.symm
  subst hw1
  subst hw2
  have hP : va_P (dC, dI) vwCl (uw_HT ad_ht cA_ht (ad_rd 0) (ad_sp 0) (ad_mx 0) (ad_ar 0) (ad_tb 0) (ad_tc 0) ht ++ (uw_Reader ad_rd cA_rd rd ++ (uw_Speller ad_sp cA_sp sp ++ (uw_Mixture ad_mx cA_mx mx ++ (uw_Surroundings ad_ar cA_ar ar ++ (uw_Table ad_tb cA_tb tb ++ (uw_Table ad_tc cA_tc tc ++ (uw_Out ad_ot cA_ot u2.2 ++ (uw_Model ad_md cA_md u4.2))))))))) H := hP
  have hD : va_D A (uw_HT ad_ht cA_ht (ad_rd 0) (ad_sp 0) (ad_mx 0) (ad_ar 0) (ad_tb 0) (ad_tc 0) ht ++ (uw_Reader ad_rd cA_rd rd ++ (uw_Speller ad_sp cA_sp sp ++ (uw_Mixture ad_mx cA_mx mx ++ (uw_Surroundings ad_ar cA_ar ar ++ (uw_Table ad_tb cA_tb tb ++ (uw_Table ad_tc cA_tc tc ++ (uw_Out ad_ot cA_ot u2.2 ++ (uw_Model ad_md cA_md u4.2))))))))) := hD
  refine lv_istore (lv' := [(6, .int u4.1), (5, .int u2.1), (0, .ref b), (1, .ref (ad_ht 0)), (2, .ref (ad_md 0)), (3, .ref (ad_ot 1)), (4, .int y4)]) hx hb d_Law_law_603 hl (by decide) rfl (fun ls hl => ?_)
  refine lv_aload_n hx hb d_Law_law_605 rfl (lv_at hl 4 rfl) ?_
  obtain ⟨u5, hu5, hf⟩ := Option.bind_eq_some_iff.mp hf
  refine cl_i (wc := (uw_Model ad_md cA_md u4.2)) (wr := (uw_HT ad_ht cA_ht (ad_rd 0) (ad_sp 0) (ad_mx 0) (ad_ar 0) (ad_tb 0) (ad_tc 0) ht ++ (uw_Reader ad_rd cA_rd rd ++ (uw_Speller ad_sp cA_sp sp ++ (uw_Mixture ad_mx cA_mx mx ++ (uw_Surroundings ad_ar cA_ar ar ++ (uw_Table ad_tb cA_tb tb ++ (uw_Table ad_tc cA_tc tc ++ (uw_Out ad_ot cA_ot u2.2))))))))) (tysC := [(cA_md 1, .int), (cA_md 2, .int), (cA_md 3, .int), (cA_md 4, .int), (cA_md 5, .int), (cA_md 6, .int), (cA_md 7, .int), (cA_md 8, .int), (cA_md 9, .boolean), (cA_md 10, .int), (cA_md 11, .int), (cA_md 12, .int), (cA_md 13, .int)]) (wu := fun (u : Unit) => (uw_Model ad_md cA_md u4.2)) (wn := fun (u : Unit) => (uw_HT ad_ht cA_ht (ad_rd 0) (ad_sp 0) (ad_mx 0) (ad_ar 0) (ad_tb 0) (ad_tc 0) ht ++ (uw_Reader ad_rd cA_rd rd ++ (uw_Speller ad_sp cA_sp sp ++ (uw_Mixture ad_mx cA_mx mx ++ (uw_Surroundings ad_ar cA_ar ar ++ (uw_Table ad_tb cA_tb tb ++ (uw_Table ad_tc cA_tc tc ++ (uw_Out ad_ot cA_ot u2.2 ++ (uw_Model ad_md cA_md u4.2)))))))))) [28, 29, 30, 31, 32, 33, 34, 35, 36, 37, 38, 39, 40, 41] [0, 1, 2, 3, 4, 5, 6, 7, 8, 9, 10, 11, 12, 13, 14, 15, 16, 17, 18, 19, 20, 21, 22, 23, 24, 25, 26, 27] [0, 1, 2, 3, 4, 5, 6, 7, 8, 9, 10, 11, 12, 13, 14, 15, 16, 17, 18, 19, 20, 21, 22, 23, 24, 25, 26, 27, 28, 29, 30, 31, 32, 33, 34, 35, 36, 37, 38, 39, 40, 41] [21, 22, 23, 24, 25, 26, 27, 28, 29, 30, 31, 32, 33] hP hD hS hA hK rfl rfl (by decide +kernel) (by decide +kernel) (by decide +kernel) rfl (fun _ => rfl) (by decide +kernel) (fun hPc hKc hDc => (va_runV (As := []) (rest := []) ⟨hx, hb, hml, hown, hts⟩ (k_Model_thrown l dC dI ad_md cA_md H.size u4.2 u5 hu5) (cwV 0 hts (gV wd_839 wd_840 wd_841 wd_49 wd_842) rfl rfl rfl (by decide +kernel) ⟨Nat.le_of_ble_eq_true rfl, Nat.le_of_ble_eq_true rfl⟩) (cl_preV hPc hKc hDc hN (ci := 6) 0 rfl rfl) rfl rfl hl.1 rfl (lv_room (Nat.le_of_ble_eq_true rfl)) d_Law_law_606 ⟨by show _ ≤ 1092; omega, by show _ ≤ 11944; omega⟩)) (fun r u H locs hw hP hD hS => ?_)
  have hw := hw.symm
  subst hw
  have hP : va_P (dC, dI) vwCl (uw_HT ad_ht cA_ht (ad_rd 0) (ad_sp 0) (ad_mx 0) (ad_ar 0) (ad_tb 0) (ad_tc 0) ht ++ (uw_Reader ad_rd cA_rd rd ++ (uw_Speller ad_sp cA_sp sp ++ (uw_Mixture ad_mx cA_mx mx ++ (uw_Surroundings ad_ar cA_ar ar ++ (uw_Table ad_tb cA_tb tb ++ (uw_Table ad_tc cA_tc tc ++ (uw_Out ad_ot cA_ot u2.2 ++ (uw_Model ad_md cA_md u4.2))))))))) H := hP
  have hD : va_D A (uw_HT ad_ht cA_ht (ad_rd 0) (ad_sp 0) (ad_mx 0) (ad_ar 0) (ad_tb 0) (ad_tc 0) ht ++ (uw_Reader ad_rd cA_rd rd ++ (uw_Speller ad_sp cA_sp sp ++ (uw_Mixture ad_mx cA_mx mx ++ (uw_Surroundings ad_ar cA_ar ar ++ (uw_Table ad_tb cA_tb tb ++ (uw_Table ad_tc cA_tc tc ++ (uw_Out ad_ot cA_ot u2.2 ++ (uw_Model ad_md cA_md u4.2))))))))) := hD
  refine lv_iload hx hb d_Law_law_609 (lv_at hl 1 rfl) ?_
  refine lv_icmp_eq (tgt := 616) hx hb d_Law_law_611 (by decide) (fun hc6 => ?_) (fun hc6 => ?_)
  · have hf := hf_t hf hc6
    refine lv_iload hx hb d_Law_law_616 (lv_at hl 1 rfl) ?_
    refine lv_if_ne (tgt := 633) hx hb d_Law_law_618 (by decide) (fun hc7 => ?_) (fun hc7 => ?_)
    · have hf := hf_f hf hc7
      refine lv_goto (tgt := 1166) hx hb d_Law_law_633 (by decide) ?_
      refine lv_iinc (v := y4 + (4 : Int32)) (lv' := [(4, .int (y4 + (4 : Int32))), (6, .int u4.1), (5, .int u2.1), (0, .ref b), (1, .ref (ad_ht 0)), (2, .ref (ad_md 0)), (3, .ref (ad_ot 1))]) hx hb d_Law_law_1166 hl (k := 6) rfl rfl (by decide) rfl (fun ls hl => ?_)
      refine lv_goto (tgt := 23) hx hb d_Law_law_1169 (by decide) ?_
      refine W.widen (k := cs + 1) (n := sl + 6) (by omega) (by omega) ?_
      exact hk ad_ht cA_ht ad_rd cA_rd ad_sp cA_sp ad_mx cA_mx ad_ar cA_ar ad_tb cA_tb ad_tc cA_tc ad_ot cA_ot ad_md cA_md ht rd sp mx ar tb tc u2.2 u4.2 (y4 + (4 : Int32)) H locs ls hf hK hP hD hS (lv_sub hl [3, 4, 5, 6, 0] rfl)
    · have hf := hf_t hf hc7
      refine lv_aload_n hx hb d_Law_law_621 rfl (lv_at hl 5 rfl) ?_
      refine lv_iconst (v := (0 : Int32)) hx hb d_Law_law_622 (by decide) ?_
      obtain ⟨hi8, hf⟩ := hf_g hf
      refine va_lald hx hb hK hP 27 20 rfl rfl hi8 d_Law_law_623 ?_
      refine lv_iload hx hb d_Law_law_624 (lv_at hl 0 rfl) ?_
      refine lv_i2l (v := u4.1.toInt64) hx hb d_Law_law_626 rfl ?_
      refine W.lcmp hx hb d_Law_law_627 ?_
      refine lv_if_eq (tgt := 633) hx hb d_Law_law_628 (by decide) (fun hc9 => ?_) (fun hc9 => ?_)
      · have hf := hf_t hf hc9
        refine lv_goto (tgt := 1166) hx hb d_Law_law_633 (by decide) ?_
        refine lv_iinc (v := y4 + (4 : Int32)) (lv' := [(4, .int (y4 + (4 : Int32))), (6, .int u4.1), (5, .int u2.1), (0, .ref b), (1, .ref (ad_ht 0)), (2, .ref (ad_md 0)), (3, .ref (ad_ot 1))]) hx hb d_Law_law_1166 hl (k := 6) rfl rfl (by decide) rfl (fun ls hl => ?_)
        refine lv_goto (tgt := 23) hx hb d_Law_law_1169 (by decide) ?_
        refine W.widen (k := cs + 1) (n := sl + 6) (by omega) (by omega) ?_
        exact hk ad_ht cA_ht ad_rd cA_rd ad_sp cA_sp ad_mx cA_mx ad_ar cA_ar ad_tb cA_tb ad_tc cA_tc ad_ot cA_ot ad_md cA_md ht rd sp mx ar tb tc u2.2 u4.2 (y4 + (4 : Int32)) H locs ls hf hK hP hD hS (lv_sub hl [3, 4, 5, 6, 0] rfl)
      · have hf := hf_f hf hc9
        refine lv_iconst (v := (0 : Int32)) hx hb d_Law_law_631 (by decide) ?_
        have hrv : rv = false := (Option.some.inj hf).symm
        subst hrv
        refine va_forget (fun q hq => hA2 _ (hS.2.2 q hq)) ?_
        refine W.widen (k := 1092) (n := 11944) (by omega) (by omega) ?_
        exact lw_ret0b hx hb hr hlocks d_Law_law_632
  · have hf := hf_f hf hc6
    refine lv_iconst (v := (0 : Int32)) hx hb d_Law_law_614 (by decide) ?_
    have hrv : rv = false := (Option.some.inj hf).symm
    subst hrv
    refine va_forget (fun q hq => hA2 _ (hS.2.2 q hq)) ?_
    refine W.widen (k := 1092) (n := 11944) (by omega) (by omega) ?_
    exact lw_ret0b hx hb hr hlocks d_Law_law_615
