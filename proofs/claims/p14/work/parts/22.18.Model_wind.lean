noncomputable def f_Model_wind_112  : Nat → SModel → Int32 → Option (Int32 × SModel)
  | 0, _, _ => none
  | n + 1, md, y4 =>
    (if md.2.2.2.2.2.2.1.1 ≤ y4 then
      (some (md.2.2.2.2.2.2.1.2.2.2.2.1, md))
     else
      (if inb y4 40 then
        (if (md.2.2.2.2.2.2.1.2.2.2.1 y4.toNatClampNeg) = 0 then
          (if inb y4 40 then
            (if inb y4 40 then
              (Option.bind (f_Model_isIn md (md.2.2.2.2.2.2.1.2.1 y4.toNatClampNeg) (md.2.2.2.2.2.2.1.2.2.1 y4.toNatClampNeg)) fun u21 =>
                (if (bI u21) = 0 then
                  (f_Model_wind_112 n md (y4 + (1 : Int32)))
                 else
                  (if inb md.2.2.2.2.2.2.1.2.2.2.2.1 40 then
                    (f_Model_wind_112 n (md.1, md.2.1, md.2.2.1, md.2.2.2.1, md.2.2.2.2.1, md.2.2.2.2.2.1, (md.2.2.2.2.2.2.1.1, md.2.2.2.2.2.2.1.2.1, md.2.2.2.2.2.2.1.2.2.1, md.2.2.2.2.2.2.1.2.2.2.1, md.2.2.2.2.2.2.1.2.2.2.2.1 + (1 : Int32), upd md.2.2.2.2.2.2.1.2.2.2.2.2 md.2.2.2.2.2.2.1.2.2.2.2.1.toNatClampNeg y4), md.2.2.2.2.2.2.2.1, md.2.2.2.2.2.2.2.2) (y4 + (1 : Int32)))
                   else none)
                 )
               )
             else none)
           else none)
         else
          (f_Model_wind_112 n md (y4 + (1 : Int32)))
         )
       else none)
     )
noncomputable def f_Model_wind_49  : Nat → SModel → Int32 → Int32 → Bool → Int32 → Option (Int32 × SModel)
  | 0, _, _, _, _, _ => none
  | n + 1, md, y1, y2, y3, y4 =>
    (if md.2.2.2.2.2.2.1.1 ≤ y4 then
      (f_Model_wind_112 4096 (md.1, md.2.1, md.2.2.1, md.2.2.2.1, md.2.2.2.2.1, (y1, y2, y3), (md.2.2.2.2.2.2.1.1, md.2.2.2.2.2.2.1.2.1, md.2.2.2.2.2.2.1.2.2.1, md.2.2.2.2.2.2.1.2.2.2.1, (0 : Int32), md.2.2.2.2.2.2.1.2.2.2.2.2), md.2.2.2.2.2.2.2.1, md.2.2.2.2.2.2.2.2) (0 : Int32))
     else
      (if inb y4 40 then
        (if inb y4 40 then
          (Option.bind (f_Model_isIn md (md.2.2.2.2.2.2.1.2.1 y4.toNatClampNeg) (md.2.2.2.2.2.2.1.2.2.1 y4.toNatClampNeg)) fun u14 =>
            (if inb y4 40 then
              (f_Model_wind_49 n (md.1, md.2.1, md.2.2.1, md.2.2.2.1, md.2.2.2.2.1, md.2.2.2.2.2.1, (md.2.2.2.2.2.2.1.1, md.2.2.2.2.2.2.1.2.1, md.2.2.2.2.2.2.1.2.2.1, upd md.2.2.2.2.2.2.1.2.2.2.1 y4.toNatClampNeg (vp_nar .boolean (bI u14)), md.2.2.2.2.2.2.1.2.2.2.2.1, md.2.2.2.2.2.2.1.2.2.2.2.2), md.2.2.2.2.2.2.2.1, md.2.2.2.2.2.2.2.2) y1 y2 y3 (y4 + (1 : Int32)))
             else none)
           )
         else none)
       else none)
     )
noncomputable def f_Model_wind_31  (md : SModel) (y1 : Int32) (y2 : Int32) (y3 : Bool) : Option (Int32 × SModel) :=
  (Option.bind (f_Model_goes md true true true) fun u7 =>
    (if (bI u7.1) = 0 then
      (some ((0 : Int32), u7.2))
     else
      (f_Model_wind_49 4096 u7.2 y1 y2 y3 (0 : Int32))
     )
   )
noncomputable def f_Model_wind_35  (md : SModel) (y1 : Int32) (y2 : Int32) (y3 : Bool) : Option (Int32 × SModel) :=
  (Option.bind (f_Model_goes md false true true) fun u9 =>
    (if (bI u9.1) = 0 then
      (some ((0 : Int32), u9.2))
     else
      (f_Model_wind_49 4096 u9.2 y1 y2 y3 (0 : Int32))
     )
   )
noncomputable def f_Model_wind (md : SModel) (x1 : Int32) (x2 : Int32) (x3 : Bool) : Option (Int32 × SModel) :=
  (Option.bind (f_Model_within x1 (-100 : Int32) (100 : Int32)) fun u1 =>
    (if (bI u1) = 0 then
      (f_Model_wind_35 md x1 x2 x3)
     else
      (Option.bind (f_Model_within x2 (-100 : Int32) (100 : Int32)) fun u3 =>
        (if (bI u3) = 0 then
          (f_Model_wind_35 md x1 x2 x3)
         else
          (if x1 = 0 then
            (if x2 = 0 then
              (f_Model_wind_35 md x1 x2 x3)
             else
              (f_Model_wind_31 md x1 x2 x3)
             )
           else
            (f_Model_wind_31 md x1 x2 x3)
           )
         )
       )
     )
   )
set_option maxHeartbeats 4000000 in
set_option maxRecDepth 100000 in
theorem k_Model_wind (l : Launch) (dC : Nat → ClassId) (dI : Nat → Nat → Nat) (ad_md : Nat → Nat) (cA_md : Nat → ClassId) (sz : Nat) (md : SModel) (x1 : Int32) (x2 : Int32) (x3 : Bool) (res : Int32 × SModel) (hf : f_Model_wind md x1 x2 x3 = some res) : Met l y_Model_wind w_Model_wind ({ frames := 2, cells := 0, slots := 0, locals := 52 }) (cPc (dC, dI) (uw_Model ad_md cA_md md) [(cA_md 1, .int), (cA_md 2, .int), (cA_md 3, .int), (cA_md 4, .int), (cA_md 5, .int), (cA_md 6, .int), (cA_md 7, .int), (cA_md 8, .int), (cA_md 9, .boolean), (cA_md 10, .int), (cA_md 11, .int), (cA_md 12, .int), (cA_md 13, .int)] sz [.ref (ad_md 0), .int x1, .int x2, .int (bI x3)]) (va_Qi (fun (r : Int32) (u : SModel) => r = res.1 ∧ u = res.2) (fun (u : SModel) (t : State) => va_P (dC, dI) vwCl (uw_Model ad_md cA_md u) t.heap ∧ va_K (dC, dI) vwCl [(cA_md 1, .int), (cA_md 2, .int), (cA_md 3, .int), (cA_md 4, .int), (cA_md 5, .int), (cA_md 6, .int), (cA_md 7, .int), (cA_md 8, .int), (cA_md 9, .boolean), (cA_md 10, .int), (cA_md 11, .int), (cA_md 12, .int), (cA_md 13, .int)] t ∧ va_D (va_A (uw_Model ad_md cA_md md) sz) (uw_Model ad_md cA_md u)) (va_A (uw_Model ad_md cA_md md) sz)) 0 0 (va_A (uw_Model ad_md cA_md md) sz) := by
  refine Met.ofW (cc := b_Model_wind) (maxL := 5) (ret := (some .int)) (by decide) rfl ?_
  intro p e s m args below meth c s₁ B hml hv
  obtain ⟨rfl, hsz, hP, hK, hD0, hN⟩ := hv
  have hx := B.exec
  have hb := B.bytes
  have hr := B.returns
  have hts := atoms_spec (ws := w_Model_wind) B.pre
  have hown : s.vm.findClass "HazardTablesModel" = some m.cls := findClass_of_methodNamed B.named
  have hlocks := B.notSynchronized
  subst hsz
  have hD := hD0.self (sz := s.heap.size)
  generalize hAe : va_A (uw_Model ad_md cA_md md) s.heap.size = A at hD ⊢
  have hA : ∀ q : Nat, s.heap.size ≤ q → A q := fun q h => by rw [← hAe]; exact Or.inr h
  have hS : va_S A s.heap s.heap [] := va_S.rf
  have hP : va_P (dC, dI) vwCl (uw_Model ad_md cA_md md) s.heap := hP
  have fl_171 := (hts _ (List.mem_cons_of_mem _ wd_765))
  have fl_179 := (hts _ (List.mem_cons_of_mem _ wd_767))
  have fl_185 := (hts _ (List.mem_cons_of_mem _ wd_771))
  have fl_32 := (hts _ (List.mem_cons_of_mem _ wd_764))
  have fl_35 := (hts _ (List.mem_cons_of_mem _ wd_766))
  have fl_39 := (hts _ (List.mem_cons_of_mem _ wd_768))
  have fl_42 := (hts _ (List.mem_cons_of_mem _ wd_769))
  have fl_45 := (hts _ (List.mem_cons_of_mem _ wd_770))
  have fl_49 := (hts _ (List.mem_cons_of_mem _ wd_772))
  have hin_Model : ∀ w ∈ u_ws "HazardTablesModel" F_Model 30, w ∈ w_Model_wind := fun w h => List.mem_cons_of_mem _ (hinA_Model w h)
  have ret : ∀ (v : Int32) (u : SModel) (H : Heap) (locs : List Loc) (ls : Array Slot) (pc : Nat), decode b_Model_wind pc = .ok (.ireturn, 1) → (v = res.1 ∧ u = res.2) → va_P (dC, dI) vwCl (uw_Model ad_md cA_md u) H → va_D A (uw_Model ad_md cA_md u) → va_S A s.heap H locs → W p l e (headSpec w_Model_wind ({ frames := 2, cells := 0, slots := 0, locals := 52 })).room s m ([.ref (ad_md 0), .int x1, .int x2, .int (bI x3)] : List Value).toArray below meth c H locs 0 0 (MQ below (va_Qi (fun (r : Int32) (u : SModel) => r = res.1 ∧ u = res.2) (fun (u : SModel) (t : State) => va_P (dC, dI) vwCl (uw_Model ad_md cA_md u) t.heap ∧ va_K (dC, dI) vwCl [(cA_md 1, .int), (cA_md 2, .int), (cA_md 3, .int), (cA_md 4, .int), (cA_md 5, .int), (cA_md 6, .int), (cA_md 7, .int), (cA_md 8, .int), (cA_md 9, .boolean), (cA_md 10, .int), (cA_md 11, .int), (cA_md 12, .int), (cA_md 13, .int)] t ∧ va_D A (uw_Model ad_md cA_md u)) A) ([.ref (ad_md 0), .int x1, .int x2, .int (bI x3)] : List Value).toArray s 0 0 A) (F0 m pc ls [.int v]) := fun v u H locs ls pc hd hp hP hD hS => W.iret (v := v) hx hb hr (fun t ht hW => ⟨⟨v, u, rfl, hp, by rw [ht]; exact hP, va_K.moved hW.alike hK, hD⟩, hS.F ht⟩) hS.2.2 hd
  generalize (MQ below (va_Qi (fun (r : Int32) (u : SModel) => r = res.1 ∧ u = res.2) (fun (u : SModel) (t : State) => va_P (dC, dI) vwCl (uw_Model ad_md cA_md u) t.heap ∧ va_K (dC, dI) vwCl [(cA_md 1, .int), (cA_md 2, .int), (cA_md 3, .int), (cA_md 4, .int), (cA_md 5, .int), (cA_md 6, .int), (cA_md 7, .int), (cA_md 8, .int), (cA_md 9, .boolean), (cA_md 10, .int), (cA_md 11, .int), (cA_md 12, .int), (cA_md 13, .int)] t ∧ va_D A (uw_Model ad_md cA_md u)) A) ([.ref (ad_md 0), .int x1, .int x2, .int (bI x3)] : List Value).toArray s 0 0 A) = Q at ret ⊢
  have w_112 : ∀ (n : Nat) (md : SModel) (y4 : Int32) (H : Heap) (locs : List Loc) (ls : Array Slot), f_Model_wind_112 n md y4 = some res → va_P (dC, dI) vwCl (uw_Model ad_md cA_md md) H → va_D A (uw_Model ad_md cA_md md) → va_S A s.heap H locs → lv_has ls 5 [(0, .ref (ad_md 0)), (4, .int y4)] → W p l e (headSpec w_Model_wind ({ frames := 2, cells := 0, slots := 0, locals := 52 })).room s m ([.ref (ad_md 0), .int x1, .int x2, .int (bI x3)] : List Value).toArray below meth c H locs 0 0 Q (F0 m 112 ls []) := by
    intro n
    induction n with
    | zero =>
      intro md y4 H locs ls hf hP hD hS hl
      rw [f_Model_wind_112] at hf; cases hf
    | succ n ih =>
      intro md y4 H locs ls hf hP hD hS hl
      rw [f_Model_wind_112] at hf
      refine lv_iload hx hb d_Model_wind_112 (lv_at hl 1 rfl) ?_
      refine lv_aload_n hx hb d_Model_wind_114 rfl (lv_at hl 0 rfl) ?_
      refine va_get (D := (dC, dI)) (ci := 6) (v := .int md.2.2.2.2.2.2.1.1) (C := "HazardTablesModel") (T := F_Model) (N := 30) hx hb hts hin_Model hown hK hP 0 rfl rfl 19 (by decide) fl_179 (fun _ h9 => h9) rfl d_Model_wind_115 ?_
      refine lv_icmp_ge (tgt := 182) hx hb d_Model_wind_118 (by decide) (fun hc16 => ?_) (fun hc16 => ?_)
      · have hf := hf_t hf hc16
        refine lv_aload_n hx hb d_Model_wind_182 rfl (lv_at hl 0 rfl) ?_
        refine va_get (D := (dC, dI)) (ci := 6) (v := .int md.2.2.2.2.2.2.1.2.2.2.2.1) (C := "HazardTablesModel") (T := F_Model) (N := 30) hx hb hts hin_Model hown hK hP 0 rfl rfl 23 (by decide) fl_185 (fun _ h9 => h9) rfl d_Model_wind_183 ?_
        exact ret md.2.2.2.2.2.2.1.2.2.2.2.1 md H locs ls 186 d_Model_wind_186 (hf_e hf) hP hD hS
      · have hf := hf_f hf hc16
        refine lv_aload_n hx hb d_Model_wind_121 rfl (lv_at hl 0 rfl) ?_
        refine va_get (D := (dC, dI)) (ci := 6) (v := .ref (ad_md 9)) (C := "HazardTablesModel") (T := F_Model) (N := 30) hx hb hts hin_Model hown hK hP 0 rfl rfl 22 (by decide) fl_45 (fun _ h9 => h9) rfl d_Model_wind_122 ?_
        refine lv_iload hx hb d_Model_wind_125 (lv_at hl 1 rfl) ?_
        obtain ⟨hi17, hf⟩ := hf_g hf
        refine va_zald hx hb hK hP 9 8 rfl rfl hi17 d_Model_wind_127 ?_
        refine lv_if_ne (tgt := 176) hx hb d_Model_wind_128 (by decide) (fun hc18 => ?_) (fun hc18 => ?_)
        · have hf := hf_f hf hc18
          refine lv_iinc (v := y4 + (1 : Int32)) (lv' := [(4, .int (y4 + (1 : Int32))), (0, .ref (ad_md 0))]) hx hb d_Model_wind_176 hl (k := 1) rfl rfl (by decide) rfl (fun ls hl => ?_)
          refine lv_goto (tgt := 112) hx hb d_Model_wind_179 (by decide) ?_
          exact ih md (y4 + (1 : Int32)) H locs ls hf hP hD hS (lv_sub hl [1, 0] rfl)
        · have hf := hf_t hf hc18
          refine lv_aload_n hx hb d_Model_wind_131 rfl (lv_at hl 0 rfl) ?_
          refine lv_aload_n hx hb d_Model_wind_132 rfl (lv_at hl 0 rfl) ?_
          refine va_get (D := (dC, dI)) (ci := 6) (v := .ref (ad_md 7)) (C := "HazardTablesModel") (T := F_Model) (N := 30) hx hb hts hin_Model hown hK hP 0 rfl rfl 20 (by decide) fl_39 (fun _ h9 => h9) rfl d_Model_wind_133 ?_
          refine lv_iload hx hb d_Model_wind_136 (lv_at hl 1 rfl) ?_
          obtain ⟨hi19, hf⟩ := hf_g hf
          refine va_iald hx hb hK hP 7 6 rfl rfl hi19 d_Model_wind_138 ?_
          refine lv_aload_n hx hb d_Model_wind_139 rfl (lv_at hl 0 rfl) ?_
          refine va_get (D := (dC, dI)) (ci := 6) (v := .ref (ad_md 8)) (C := "HazardTablesModel") (T := F_Model) (N := 30) hx hb hts hin_Model hown hK hP 0 rfl rfl 21 (by decide) fl_42 (fun _ h9 => h9) rfl d_Model_wind_140 ?_
          refine lv_iload hx hb d_Model_wind_143 (lv_at hl 1 rfl) ?_
          obtain ⟨hi20, hf⟩ := hf_g hf
          refine va_iald hx hb hK hP 8 7 rfl rfl hi20 d_Model_wind_145 ?_
          obtain ⟨u21, hu21, hf⟩ := Option.bind_eq_some_iff.mp hf
          refine cl_i (wc := (uw_Model ad_md cA_md md)) (wr := []) (tysC := [(cA_md 1, .int), (cA_md 2, .int), (cA_md 3, .int), (cA_md 4, .int), (cA_md 5, .int), (cA_md 6, .int), (cA_md 7, .int), (cA_md 8, .int), (cA_md 9, .boolean), (cA_md 10, .int), (cA_md 11, .int), (cA_md 12, .int), (cA_md 13, .int)]) (wu := fun (u : Unit) => (uw_Model ad_md cA_md md)) (wn := fun (u : Unit) => (uw_Model ad_md cA_md md)) [0, 1, 2, 3, 4, 5, 6, 7, 8, 9, 10, 11, 12, 13] [] [0, 1, 2, 3, 4, 5, 6, 7, 8, 9, 10, 11, 12, 13] [0, 1, 2, 3, 4, 5, 6, 7, 8, 9, 10, 11, 12] hP hD hS hA hK rfl rfl (by decide +kernel) (by decide +kernel) (by decide +kernel) rfl (fun _ => rfl) (by decide +kernel) (fun hPc hKc hDc => (va_runV (As := [.int (md.2.2.2.2.2.2.1.2.1 y4.toNatClampNeg), .int (md.2.2.2.2.2.2.1.2.2.1 y4.toNatClampNeg)]) (rest := []) ⟨hx, hb, hml, hown, hts⟩ (k_Model_isIn l dC dI ad_md cA_md H.size md (md.2.2.2.2.2.2.1.2.1 y4.toNatClampNeg) (md.2.2.2.2.2.2.1.2.2.1 y4.toNatClampNeg) u21 hu21) (cwV 2 hts (gV wd_978 wd_980 wd_41 wd_49 wd_981) rfl rfl rfl (by decide +kernel) ⟨Nat.le_of_ble_eq_true rfl, Nat.le_of_ble_eq_true rfl⟩) (cl_preV hPc hKc hDc hN (ci := 6) 0 rfl rfl) rfl rfl hl.1 rfl (lv_room (Nat.le_of_ble_eq_true rfl)) d_Model_wind_146 ⟨Nat.le_of_ble_eq_true rfl, Nat.le_of_ble_eq_true rfl⟩)) (fun r u H locs hw hP hD hS => ?_)
          have hw := hw.symm
          subst hw
          have hP : va_P (dC, dI) vwCl (uw_Model ad_md cA_md md) H := hP
          have hD : va_D A (uw_Model ad_md cA_md md) := hD
          refine lv_if_ne (tgt := 155) hx hb d_Model_wind_149 (by decide) (fun hc22 => ?_) (fun hc22 => ?_)
          · have hf := hf_f hf hc22
            refine lv_aload_n hx hb d_Model_wind_155 rfl (lv_at hl 0 rfl) ?_
            refine va_get (D := (dC, dI)) (ci := 6) (v := .ref (ad_md 10)) (C := "HazardTablesModel") (T := F_Model) (N := 30) hx hb hts hin_Model hown hK hP 0 rfl rfl 24 (by decide) fl_49 (fun _ h9 => h9) rfl d_Model_wind_156 ?_
            refine lv_aload_n hx hb d_Model_wind_159 rfl (lv_at hl 0 rfl) ?_
            refine va_get (D := (dC, dI)) (ci := 6) (v := .int md.2.2.2.2.2.2.1.2.2.2.2.1) (C := "HazardTablesModel") (T := F_Model) (N := 30) hx hb hts hin_Model hown hK hP 0 rfl rfl 23 (by decide) fl_185 (fun _ h9 => h9) rfl d_Model_wind_160 ?_
            refine lv_iload hx hb d_Model_wind_163 (lv_at hl 1 rfl) ?_
            obtain ⟨hi23, hf⟩ := hf_g hf
            refine va_iast hx hb hK hP hD hS 10 9 rfl rfl hi23 d_Model_wind_165 (fun H locs hP hD hS => ?_)
            have hP : va_P (dC, dI) vwCl (uw_Model ad_md cA_md (md.1, md.2.1, md.2.2.1, md.2.2.2.1, md.2.2.2.2.1, md.2.2.2.2.2.1, (md.2.2.2.2.2.2.1.1, md.2.2.2.2.2.2.1.2.1, md.2.2.2.2.2.2.1.2.2.1, md.2.2.2.2.2.2.1.2.2.2.1, md.2.2.2.2.2.2.1.2.2.2.2.1, upd md.2.2.2.2.2.2.1.2.2.2.2.2 md.2.2.2.2.2.2.1.2.2.2.2.1.toNatClampNeg y4), md.2.2.2.2.2.2.2.1, md.2.2.2.2.2.2.2.2)) H := hP
            have hD : va_D A (uw_Model ad_md cA_md (md.1, md.2.1, md.2.2.1, md.2.2.2.1, md.2.2.2.2.1, md.2.2.2.2.2.1, (md.2.2.2.2.2.2.1.1, md.2.2.2.2.2.2.1.2.1, md.2.2.2.2.2.2.1.2.2.1, md.2.2.2.2.2.2.1.2.2.2.1, md.2.2.2.2.2.2.1.2.2.2.2.1, upd md.2.2.2.2.2.2.1.2.2.2.2.2 md.2.2.2.2.2.2.1.2.2.2.2.1.toNatClampNeg y4), md.2.2.2.2.2.2.2.1, md.2.2.2.2.2.2.2.2)) := hD
            refine lv_aload_n hx hb d_Model_wind_166 rfl (lv_at hl 0 rfl) ?_
            refine lv_dup hx hb d_Model_wind_167 rfl ?_
            refine va_get (D := (dC, dI)) (ci := 6) (v := .int md.2.2.2.2.2.2.1.2.2.2.2.1) (C := "HazardTablesModel") (T := F_Model) (N := 30) hx hb hts hin_Model hown hK hP 0 rfl rfl 23 (by decide) fl_185 (fun _ h9 => h9) rfl d_Model_wind_168 ?_
            refine lv_iconst (v := (1 : Int32)) hx hb d_Model_wind_171 (by decide) ?_
            refine lv_iadd hx hb d_Model_wind_172 ?_
            refine va_put (D := (dC, dI)) (ci := 6) (v := .int (md.2.2.2.2.2.2.1.2.2.2.2.1 + (1 : Int32))) (ty := .int) (C := "HazardTablesModel") (T := F_Model) (N := 30) hx hb hts hin_Model t_Model t_Model_ok n_Model hown hK hP hD hS 0 rfl rfl 23 (by decide) fl_185 (fun _ h9 => h9) rfl (by decide +kernel) rfl rfl (Nat.le_of_ble_eq_true rfl) d_Model_wind_173 (fun H locs hP hD hS => ?_)
            have hP : va_P (dC, dI) vwCl (uw_Model ad_md cA_md (md.1, md.2.1, md.2.2.1, md.2.2.2.1, md.2.2.2.2.1, md.2.2.2.2.2.1, (md.2.2.2.2.2.2.1.1, md.2.2.2.2.2.2.1.2.1, md.2.2.2.2.2.2.1.2.2.1, md.2.2.2.2.2.2.1.2.2.2.1, md.2.2.2.2.2.2.1.2.2.2.2.1 + (1 : Int32), upd md.2.2.2.2.2.2.1.2.2.2.2.2 md.2.2.2.2.2.2.1.2.2.2.2.1.toNatClampNeg y4), md.2.2.2.2.2.2.2.1, md.2.2.2.2.2.2.2.2)) H := hP
            have hD : va_D A (uw_Model ad_md cA_md (md.1, md.2.1, md.2.2.1, md.2.2.2.1, md.2.2.2.2.1, md.2.2.2.2.2.1, (md.2.2.2.2.2.2.1.1, md.2.2.2.2.2.2.1.2.1, md.2.2.2.2.2.2.1.2.2.1, md.2.2.2.2.2.2.1.2.2.2.1, md.2.2.2.2.2.2.1.2.2.2.2.1 + (1 : Int32), upd md.2.2.2.2.2.2.1.2.2.2.2.2 md.2.2.2.2.2.2.1.2.2.2.2.1.toNatClampNeg y4), md.2.2.2.2.2.2.2.1, md.2.2.2.2.2.2.2.2)) := hD
            refine lv_iinc (v := y4 + (1 : Int32)) (lv' := [(4, .int (y4 + (1 : Int32))), (0, .ref (ad_md 0))]) hx hb d_Model_wind_176 hl (k := 1) rfl rfl (by decide) rfl (fun ls hl => ?_)
            refine lv_goto (tgt := 112) hx hb d_Model_wind_179 (by decide) ?_
            exact ih (md.1, md.2.1, md.2.2.1, md.2.2.2.1, md.2.2.2.2.1, md.2.2.2.2.2.1, (md.2.2.2.2.2.2.1.1, md.2.2.2.2.2.2.1.2.1, md.2.2.2.2.2.2.1.2.2.1, md.2.2.2.2.2.2.1.2.2.2.1, md.2.2.2.2.2.2.1.2.2.2.2.1 + (1 : Int32), upd md.2.2.2.2.2.2.1.2.2.2.2.2 md.2.2.2.2.2.2.1.2.2.2.2.1.toNatClampNeg y4), md.2.2.2.2.2.2.2.1, md.2.2.2.2.2.2.2.2) (y4 + (1 : Int32)) H locs ls hf hP hD hS (lv_sub hl [1, 0] rfl)
          · have hf := hf_t hf hc22
            refine lv_goto (tgt := 176) hx hb d_Model_wind_152 (by decide) ?_
            refine lv_iinc (v := y4 + (1 : Int32)) (lv' := [(4, .int (y4 + (1 : Int32))), (0, .ref (ad_md 0))]) hx hb d_Model_wind_176 hl (k := 1) rfl rfl (by decide) rfl (fun ls hl => ?_)
            refine lv_goto (tgt := 112) hx hb d_Model_wind_179 (by decide) ?_
            exact ih md (y4 + (1 : Int32)) H locs ls hf hP hD hS (lv_sub hl [1, 0] rfl)
  have w_49 : ∀ (n : Nat) (md : SModel) (y1 : Int32) (y2 : Int32) (y3 : Bool) (y4 : Int32) (H : Heap) (locs : List Loc) (ls : Array Slot), f_Model_wind_49 n md y1 y2 y3 y4 = some res → va_P (dC, dI) vwCl (uw_Model ad_md cA_md md) H → va_D A (uw_Model ad_md cA_md md) → va_S A s.heap H locs → lv_has ls 5 [(0, .ref (ad_md 0)), (1, .int y1), (2, .int y2), (3, .int (bI y3)), (4, .int y4)] → W p l e (headSpec w_Model_wind ({ frames := 2, cells := 0, slots := 0, locals := 52 })).room s m ([.ref (ad_md 0), .int x1, .int x2, .int (bI x3)] : List Value).toArray below meth c H locs 0 0 Q (F0 m 49 ls []) := by
    intro n
    induction n with
    | zero =>
      intro md y1 y2 y3 y4 H locs ls hf hP hD hS hl
      rw [f_Model_wind_49] at hf; cases hf
    | succ n ih =>
      intro md y1 y2 y3 y4 H locs ls hf hP hD hS hl
      rw [f_Model_wind_49] at hf
      refine lv_iload hx hb d_Model_wind_49 (lv_at hl 4 rfl) ?_
      refine lv_aload_n hx hb d_Model_wind_51 rfl (lv_at hl 0 rfl) ?_
      refine va_get (D := (dC, dI)) (ci := 6) (v := .int md.2.2.2.2.2.2.1.1) (C := "HazardTablesModel") (T := F_Model) (N := 30) hx hb hts hin_Model hown hK hP 0 rfl rfl 19 (by decide) fl_179 (fun _ h9 => h9) rfl d_Model_wind_52 ?_
      refine lv_icmp_ge (tgt := 89) hx hb d_Model_wind_55 (by decide) (fun hc11 => ?_) (fun hc11 => ?_)
      · have hf := hf_t hf hc11
        refine lv_aload_n hx hb d_Model_wind_89 rfl (lv_at hl 0 rfl) ?_
        refine lv_iload_n hx hb d_Model_wind_90 rfl (lv_at hl 1 rfl) ?_
        refine va_put (D := (dC, dI)) (ci := 6) (v := .int y1) (ty := .int) (C := "HazardTablesModel") (T := F_Model) (N := 30) hx hb hts hin_Model t_Model t_Model_ok n_Model hown hK hP hD hS 0 rfl rfl 16 (by decide) fl_32 (fun _ h9 => h9) rfl (by decide +kernel) rfl rfl (Nat.le_of_ble_eq_true rfl) d_Model_wind_91 (fun H locs hP hD hS => ?_)
        have hP : va_P (dC, dI) vwCl (uw_Model ad_md cA_md (md.1, md.2.1, md.2.2.1, md.2.2.2.1, md.2.2.2.2.1, (y1, md.2.2.2.2.2.1.2.1, md.2.2.2.2.2.1.2.2), md.2.2.2.2.2.2.1, md.2.2.2.2.2.2.2.1, md.2.2.2.2.2.2.2.2)) H := hP
        have hD : va_D A (uw_Model ad_md cA_md (md.1, md.2.1, md.2.2.1, md.2.2.2.1, md.2.2.2.2.1, (y1, md.2.2.2.2.2.1.2.1, md.2.2.2.2.2.1.2.2), md.2.2.2.2.2.2.1, md.2.2.2.2.2.2.2.1, md.2.2.2.2.2.2.2.2)) := hD
        refine lv_aload_n hx hb d_Model_wind_94 rfl (lv_at hl 0 rfl) ?_
        refine lv_iload_n hx hb d_Model_wind_95 rfl (lv_at hl 2 rfl) ?_
        refine va_put (D := (dC, dI)) (ci := 6) (v := .int y2) (ty := .int) (C := "HazardTablesModel") (T := F_Model) (N := 30) hx hb hts hin_Model t_Model t_Model_ok n_Model hown hK hP hD hS 0 rfl rfl 17 (by decide) fl_171 (fun _ h9 => h9) rfl (by decide +kernel) rfl rfl (Nat.le_of_ble_eq_true rfl) d_Model_wind_96 (fun H locs hP hD hS => ?_)
        have hP : va_P (dC, dI) vwCl (uw_Model ad_md cA_md (md.1, md.2.1, md.2.2.1, md.2.2.2.1, md.2.2.2.2.1, (y1, y2, md.2.2.2.2.2.1.2.2), md.2.2.2.2.2.2.1, md.2.2.2.2.2.2.2.1, md.2.2.2.2.2.2.2.2)) H := hP
        have hD : va_D A (uw_Model ad_md cA_md (md.1, md.2.1, md.2.2.1, md.2.2.2.1, md.2.2.2.2.1, (y1, y2, md.2.2.2.2.2.1.2.2), md.2.2.2.2.2.2.1, md.2.2.2.2.2.2.2.1, md.2.2.2.2.2.2.2.2)) := hD
        refine lv_aload_n hx hb d_Model_wind_99 rfl (lv_at hl 0 rfl) ?_
        refine lv_iload_n hx hb d_Model_wind_100 rfl (lv_at hl 3 rfl) ?_
        refine va_put (D := (dC, dI)) (ci := 6) (v := .int (bI y3)) (ty := .boolean) (C := "HazardTablesModel") (T := F_Model) (N := 30) hx hb hts hin_Model t_Model t_Model_ok n_Model hown hK hP hD hS 0 rfl rfl 18 (by decide) fl_35 (fun _ h9 => h9) rfl (by decide +kernel) (nar_bI y3) (fit_bI y3) (Nat.le_of_ble_eq_true rfl) d_Model_wind_101 (fun H locs hP hD hS => ?_)
        have hP : va_P (dC, dI) vwCl (uw_Model ad_md cA_md (md.1, md.2.1, md.2.2.1, md.2.2.2.1, md.2.2.2.2.1, (y1, y2, y3), md.2.2.2.2.2.2.1, md.2.2.2.2.2.2.2.1, md.2.2.2.2.2.2.2.2)) H := hP
        have hD : va_D A (uw_Model ad_md cA_md (md.1, md.2.1, md.2.2.1, md.2.2.2.1, md.2.2.2.2.1, (y1, y2, y3), md.2.2.2.2.2.2.1, md.2.2.2.2.2.2.2.1, md.2.2.2.2.2.2.2.2)) := hD
        refine lv_aload_n hx hb d_Model_wind_104 rfl (lv_at hl 0 rfl) ?_
        refine lv_iconst (v := (0 : Int32)) hx hb d_Model_wind_105 (by decide) ?_
        refine va_put (D := (dC, dI)) (ci := 6) (v := .int (0 : Int32)) (ty := .int) (C := "HazardTablesModel") (T := F_Model) (N := 30) hx hb hts hin_Model t_Model t_Model_ok n_Model hown hK hP hD hS 0 rfl rfl 23 (by decide) fl_185 (fun _ h9 => h9) rfl (by decide +kernel) rfl rfl (Nat.le_of_ble_eq_true rfl) d_Model_wind_106 (fun H locs hP hD hS => ?_)
        have hP : va_P (dC, dI) vwCl (uw_Model ad_md cA_md (md.1, md.2.1, md.2.2.1, md.2.2.2.1, md.2.2.2.2.1, (y1, y2, y3), (md.2.2.2.2.2.2.1.1, md.2.2.2.2.2.2.1.2.1, md.2.2.2.2.2.2.1.2.2.1, md.2.2.2.2.2.2.1.2.2.2.1, (0 : Int32), md.2.2.2.2.2.2.1.2.2.2.2.2), md.2.2.2.2.2.2.2.1, md.2.2.2.2.2.2.2.2)) H := hP
        have hD : va_D A (uw_Model ad_md cA_md (md.1, md.2.1, md.2.2.1, md.2.2.2.1, md.2.2.2.2.1, (y1, y2, y3), (md.2.2.2.2.2.2.1.1, md.2.2.2.2.2.2.1.2.1, md.2.2.2.2.2.2.1.2.2.1, md.2.2.2.2.2.2.1.2.2.2.1, (0 : Int32), md.2.2.2.2.2.2.1.2.2.2.2.2), md.2.2.2.2.2.2.2.1, md.2.2.2.2.2.2.2.2)) := hD
        refine lv_iconst (v := (0 : Int32)) hx hb d_Model_wind_109 (by decide) ?_
        refine lv_istore (lv' := [(4, .int (0 : Int32)), (0, .ref (ad_md 0)), (1, .int y1), (2, .int y2), (3, .int (bI y3))]) hx hb d_Model_wind_110 hl (by decide) rfl (fun ls hl => ?_)
        exact w_112 4096 (md.1, md.2.1, md.2.2.1, md.2.2.2.1, md.2.2.2.2.1, (y1, y2, y3), (md.2.2.2.2.2.2.1.1, md.2.2.2.2.2.2.1.2.1, md.2.2.2.2.2.2.1.2.2.1, md.2.2.2.2.2.2.1.2.2.2.1, (0 : Int32), md.2.2.2.2.2.2.1.2.2.2.2.2), md.2.2.2.2.2.2.2.1, md.2.2.2.2.2.2.2.2) (0 : Int32) H locs ls hf hP hD hS (lv_sub hl [1, 0] rfl)
      · have hf := hf_f hf hc11
        refine lv_aload_n hx hb d_Model_wind_58 rfl (lv_at hl 0 rfl) ?_
        refine va_get (D := (dC, dI)) (ci := 6) (v := .ref (ad_md 9)) (C := "HazardTablesModel") (T := F_Model) (N := 30) hx hb hts hin_Model hown hK hP 0 rfl rfl 22 (by decide) fl_45 (fun _ h9 => h9) rfl d_Model_wind_59 ?_
        refine lv_iload hx hb d_Model_wind_62 (lv_at hl 4 rfl) ?_
        refine lv_aload_n hx hb d_Model_wind_64 rfl (lv_at hl 0 rfl) ?_
        refine lv_aload_n hx hb d_Model_wind_65 rfl (lv_at hl 0 rfl) ?_
        refine va_get (D := (dC, dI)) (ci := 6) (v := .ref (ad_md 7)) (C := "HazardTablesModel") (T := F_Model) (N := 30) hx hb hts hin_Model hown hK hP 0 rfl rfl 20 (by decide) fl_39 (fun _ h9 => h9) rfl d_Model_wind_66 ?_
        refine lv_iload hx hb d_Model_wind_69 (lv_at hl 4 rfl) ?_
        obtain ⟨hi12, hf⟩ := hf_g hf
        refine va_iald hx hb hK hP 7 6 rfl rfl hi12 d_Model_wind_71 ?_
        refine lv_aload_n hx hb d_Model_wind_72 rfl (lv_at hl 0 rfl) ?_
        refine va_get (D := (dC, dI)) (ci := 6) (v := .ref (ad_md 8)) (C := "HazardTablesModel") (T := F_Model) (N := 30) hx hb hts hin_Model hown hK hP 0 rfl rfl 21 (by decide) fl_42 (fun _ h9 => h9) rfl d_Model_wind_73 ?_
        refine lv_iload hx hb d_Model_wind_76 (lv_at hl 4 rfl) ?_
        obtain ⟨hi13, hf⟩ := hf_g hf
        refine va_iald hx hb hK hP 8 7 rfl rfl hi13 d_Model_wind_78 ?_
        obtain ⟨u14, hu14, hf⟩ := Option.bind_eq_some_iff.mp hf
        refine cl_i (wc := (uw_Model ad_md cA_md md)) (wr := []) (tysC := [(cA_md 1, .int), (cA_md 2, .int), (cA_md 3, .int), (cA_md 4, .int), (cA_md 5, .int), (cA_md 6, .int), (cA_md 7, .int), (cA_md 8, .int), (cA_md 9, .boolean), (cA_md 10, .int), (cA_md 11, .int), (cA_md 12, .int), (cA_md 13, .int)]) (wu := fun (u : Unit) => (uw_Model ad_md cA_md md)) (wn := fun (u : Unit) => (uw_Model ad_md cA_md md)) [0, 1, 2, 3, 4, 5, 6, 7, 8, 9, 10, 11, 12, 13] [] [0, 1, 2, 3, 4, 5, 6, 7, 8, 9, 10, 11, 12, 13] [0, 1, 2, 3, 4, 5, 6, 7, 8, 9, 10, 11, 12] hP hD hS hA hK rfl rfl (by decide +kernel) (by decide +kernel) (by decide +kernel) rfl (fun _ => rfl) (by decide +kernel) (fun hPc hKc hDc => (va_runV (As := [.int (md.2.2.2.2.2.2.1.2.1 y4.toNatClampNeg), .int (md.2.2.2.2.2.2.1.2.2.1 y4.toNatClampNeg)]) (rest := [.int y4, .ref (ad_md 9)]) ⟨hx, hb, hml, hown, hts⟩ (k_Model_isIn l dC dI ad_md cA_md H.size md (md.2.2.2.2.2.2.1.2.1 y4.toNatClampNeg) (md.2.2.2.2.2.2.1.2.2.1 y4.toNatClampNeg) u14 hu14) (cwV 2 hts (gV wd_978 wd_980 wd_41 wd_49 wd_981) rfl rfl rfl (by decide +kernel) ⟨Nat.le_of_ble_eq_true rfl, Nat.le_of_ble_eq_true rfl⟩) (cl_preV hPc hKc hDc hN (ci := 6) 0 rfl rfl) rfl rfl hl.1 rfl (lv_room (Nat.le_of_ble_eq_true rfl)) d_Model_wind_79 ⟨Nat.le_of_ble_eq_true rfl, Nat.le_of_ble_eq_true rfl⟩)) (fun r u H locs hw hP hD hS => ?_)
        have hw := hw.symm
        subst hw
        have hP : va_P (dC, dI) vwCl (uw_Model ad_md cA_md md) H := hP
        have hD : va_D A (uw_Model ad_md cA_md md) := hD
        obtain ⟨hi15, hf⟩ := hf_g hf
        refine va_zast hx hb hK hP hD hS 9 8 rfl rfl hi15 d_Model_wind_82 (fun H locs hP hD hS => ?_)
        have hP : va_P (dC, dI) vwCl (uw_Model ad_md cA_md (md.1, md.2.1, md.2.2.1, md.2.2.2.1, md.2.2.2.2.1, md.2.2.2.2.2.1, (md.2.2.2.2.2.2.1.1, md.2.2.2.2.2.2.1.2.1, md.2.2.2.2.2.2.1.2.2.1, upd md.2.2.2.2.2.2.1.2.2.2.1 y4.toNatClampNeg (vp_nar .boolean (bI u14)), md.2.2.2.2.2.2.1.2.2.2.2.1, md.2.2.2.2.2.2.1.2.2.2.2.2), md.2.2.2.2.2.2.2.1, md.2.2.2.2.2.2.2.2)) H := hP
        have hD : va_D A (uw_Model ad_md cA_md (md.1, md.2.1, md.2.2.1, md.2.2.2.1, md.2.2.2.2.1, md.2.2.2.2.2.1, (md.2.2.2.2.2.2.1.1, md.2.2.2.2.2.2.1.2.1, md.2.2.2.2.2.2.1.2.2.1, upd md.2.2.2.2.2.2.1.2.2.2.1 y4.toNatClampNeg (vp_nar .boolean (bI u14)), md.2.2.2.2.2.2.1.2.2.2.2.1, md.2.2.2.2.2.2.1.2.2.2.2.2), md.2.2.2.2.2.2.2.1, md.2.2.2.2.2.2.2.2)) := hD
        refine lv_iinc (v := y4 + (1 : Int32)) (lv' := [(4, .int (y4 + (1 : Int32))), (0, .ref (ad_md 0)), (1, .int y1), (2, .int y2), (3, .int (bI y3))]) hx hb d_Model_wind_83 hl (k := 4) rfl rfl (by decide) rfl (fun ls hl => ?_)
        refine lv_goto (tgt := 49) hx hb d_Model_wind_86 (by decide) ?_
        exact ih (md.1, md.2.1, md.2.2.1, md.2.2.2.1, md.2.2.2.2.1, md.2.2.2.2.2.1, (md.2.2.2.2.2.2.1.1, md.2.2.2.2.2.2.1.2.1, md.2.2.2.2.2.2.1.2.2.1, upd md.2.2.2.2.2.2.1.2.2.2.1 y4.toNatClampNeg (vp_nar .boolean (bI u14)), md.2.2.2.2.2.2.1.2.2.2.2.1, md.2.2.2.2.2.2.1.2.2.2.2.2), md.2.2.2.2.2.2.2.1, md.2.2.2.2.2.2.2.2) y1 y2 y3 (y4 + (1 : Int32)) H locs ls hf hP hD hS (lv_sub hl [1, 2, 3, 4, 0] rfl)
  have w_31 : ∀ (md : SModel) (y1 : Int32) (y2 : Int32) (y3 : Bool) (H : Heap) (locs : List Loc) (ls : Array Slot), f_Model_wind_31 md y1 y2 y3 = some res → va_P (dC, dI) vwCl (uw_Model ad_md cA_md md) H → va_D A (uw_Model ad_md cA_md md) → va_S A s.heap H locs → lv_has ls 5 [(0, .ref (ad_md 0)), (1, .int y1), (2, .int y2), (3, .int (bI y3))] → W p l e (headSpec w_Model_wind ({ frames := 2, cells := 0, slots := 0, locals := 52 })).room s m ([.ref (ad_md 0), .int x1, .int x2, .int (bI x3)] : List Value).toArray below meth c H locs 0 0 Q (F0 m 31 ls [.ref (ad_md 0)]) := by
    intro md y1 y2 y3 H locs ls hf hP hD hS hl
    rw [f_Model_wind_31] at hf
    refine lv_iconst (v := (1 : Int32)) hx hb d_Model_wind_31 (by decide) ?_
    refine lv_goto (tgt := 36) hx hb d_Model_wind_32 (by decide) ?_
    refine lv_iconst (v := (1 : Int32)) hx hb d_Model_wind_36 (by decide) ?_
    refine lv_iconst (v := (1 : Int32)) hx hb d_Model_wind_37 (by decide) ?_
    obtain ⟨u7, hu7, hf⟩ := Option.bind_eq_some_iff.mp hf
    refine cl_i (wc := (uw_Model ad_md cA_md md)) (wr := []) (tysC := [(cA_md 1, .int), (cA_md 2, .int), (cA_md 3, .int), (cA_md 4, .int), (cA_md 5, .int), (cA_md 6, .int), (cA_md 7, .int), (cA_md 8, .int), (cA_md 9, .boolean), (cA_md 10, .int), (cA_md 11, .int), (cA_md 12, .int), (cA_md 13, .int)]) (wu := fun (u : SModel) => (uw_Model ad_md cA_md u)) (wn := fun (u : SModel) => (uw_Model ad_md cA_md u)) [0, 1, 2, 3, 4, 5, 6, 7, 8, 9, 10, 11, 12, 13] [] [0, 1, 2, 3, 4, 5, 6, 7, 8, 9, 10, 11, 12, 13] [0, 1, 2, 3, 4, 5, 6, 7, 8, 9, 10, 11, 12] hP hD hS hA hK rfl rfl (by decide +kernel) (by decide +kernel) (by decide +kernel) rfl (fun _ => rfl) (by decide +kernel) (fun hPc hKc hDc => (va_runV (As := [.int (1 : Int32), .int (1 : Int32), .int (1 : Int32)]) (rest := []) ⟨hx, hb, hml, hown, hts⟩ (k_Model_goes l dC dI ad_md cA_md H.size md true true true u7 hu7) (cwV 3 hts (gV wd_850 wd_852 wd_22 wd_49 wd_853) rfl rfl rfl (by decide +kernel) ⟨Nat.le_of_ble_eq_true rfl, Nat.le_of_ble_eq_true rfl⟩) (cl_preV hPc hKc hDc hN (ci := 6) 0 rfl rfl) rfl rfl hl.1 rfl (lv_room (Nat.le_of_ble_eq_true rfl)) d_Model_wind_38 ⟨Nat.le_of_ble_eq_true rfl, Nat.le_of_ble_eq_true rfl⟩)) (fun r u H locs hw hP hD hS => ?_)
    obtain ⟨hw1, hw2⟩ := hw
    have hw1 := hw1.symm
    have hw2 := hw2.symm
    subst hw1
    subst hw2
    have hP : va_P (dC, dI) vwCl (uw_Model ad_md cA_md u7.2) H := hP
    have hD : va_D A (uw_Model ad_md cA_md u7.2) := hD
    refine lv_if_ne (tgt := 46) hx hb d_Model_wind_41 (by decide) (fun hc8 => ?_) (fun hc8 => ?_)
    · have hf := hf_f hf hc8
      refine lv_iconst (v := (0 : Int32)) hx hb d_Model_wind_46 (by decide) ?_
      refine lv_istore (lv' := [(4, .int (0 : Int32)), (0, .ref (ad_md 0)), (1, .int y1), (2, .int y2), (3, .int (bI y3))]) hx hb d_Model_wind_47 hl (by decide) rfl (fun ls hl => ?_)
      exact w_49 4096 u7.2 y1 y2 y3 (0 : Int32) H locs ls hf hP hD hS (lv_sub hl [1, 2, 3, 4, 0] rfl)
    · have hf := hf_t hf hc8
      refine lv_iconst (v := (0 : Int32)) hx hb d_Model_wind_44 (by decide) ?_
      exact ret (0 : Int32) u7.2 H locs ls 45 d_Model_wind_45 (hf_e hf) hP hD hS
  have w_35 : ∀ (md : SModel) (y1 : Int32) (y2 : Int32) (y3 : Bool) (H : Heap) (locs : List Loc) (ls : Array Slot), f_Model_wind_35 md y1 y2 y3 = some res → va_P (dC, dI) vwCl (uw_Model ad_md cA_md md) H → va_D A (uw_Model ad_md cA_md md) → va_S A s.heap H locs → lv_has ls 5 [(0, .ref (ad_md 0)), (1, .int y1), (2, .int y2), (3, .int (bI y3))] → W p l e (headSpec w_Model_wind ({ frames := 2, cells := 0, slots := 0, locals := 52 })).room s m ([.ref (ad_md 0), .int x1, .int x2, .int (bI x3)] : List Value).toArray below meth c H locs 0 0 Q (F0 m 35 ls [.ref (ad_md 0)]) := by
    intro md y1 y2 y3 H locs ls hf hP hD hS hl
    rw [f_Model_wind_35] at hf
    refine lv_iconst (v := (0 : Int32)) hx hb d_Model_wind_35 (by decide) ?_
    refine lv_iconst (v := (1 : Int32)) hx hb d_Model_wind_36 (by decide) ?_
    refine lv_iconst (v := (1 : Int32)) hx hb d_Model_wind_37 (by decide) ?_
    obtain ⟨u9, hu9, hf⟩ := Option.bind_eq_some_iff.mp hf
    refine cl_i (wc := (uw_Model ad_md cA_md md)) (wr := []) (tysC := [(cA_md 1, .int), (cA_md 2, .int), (cA_md 3, .int), (cA_md 4, .int), (cA_md 5, .int), (cA_md 6, .int), (cA_md 7, .int), (cA_md 8, .int), (cA_md 9, .boolean), (cA_md 10, .int), (cA_md 11, .int), (cA_md 12, .int), (cA_md 13, .int)]) (wu := fun (u : SModel) => (uw_Model ad_md cA_md u)) (wn := fun (u : SModel) => (uw_Model ad_md cA_md u)) [0, 1, 2, 3, 4, 5, 6, 7, 8, 9, 10, 11, 12, 13] [] [0, 1, 2, 3, 4, 5, 6, 7, 8, 9, 10, 11, 12, 13] [0, 1, 2, 3, 4, 5, 6, 7, 8, 9, 10, 11, 12] hP hD hS hA hK rfl rfl (by decide +kernel) (by decide +kernel) (by decide +kernel) rfl (fun _ => rfl) (by decide +kernel) (fun hPc hKc hDc => (va_runV (As := [.int (0 : Int32), .int (1 : Int32), .int (1 : Int32)]) (rest := []) ⟨hx, hb, hml, hown, hts⟩ (k_Model_goes l dC dI ad_md cA_md H.size md false true true u9 hu9) (cwV 3 hts (gV wd_850 wd_852 wd_22 wd_49 wd_853) rfl rfl rfl (by decide +kernel) ⟨Nat.le_of_ble_eq_true rfl, Nat.le_of_ble_eq_true rfl⟩) (cl_preV hPc hKc hDc hN (ci := 6) 0 rfl rfl) rfl rfl hl.1 rfl (lv_room (Nat.le_of_ble_eq_true rfl)) d_Model_wind_38 ⟨Nat.le_of_ble_eq_true rfl, Nat.le_of_ble_eq_true rfl⟩)) (fun r u H locs hw hP hD hS => ?_)
    obtain ⟨hw1, hw2⟩ := hw
    have hw1 := hw1.symm
    have hw2 := hw2.symm
    subst hw1
    subst hw2
    have hP : va_P (dC, dI) vwCl (uw_Model ad_md cA_md u9.2) H := hP
    have hD : va_D A (uw_Model ad_md cA_md u9.2) := hD
    refine lv_if_ne (tgt := 46) hx hb d_Model_wind_41 (by decide) (fun hc10 => ?_) (fun hc10 => ?_)
    · have hf := hf_f hf hc10
      refine lv_iconst (v := (0 : Int32)) hx hb d_Model_wind_46 (by decide) ?_
      refine lv_istore (lv' := [(4, .int (0 : Int32)), (0, .ref (ad_md 0)), (1, .int y1), (2, .int y2), (3, .int (bI y3))]) hx hb d_Model_wind_47 hl (by decide) rfl (fun ls hl => ?_)
      exact w_49 4096 u9.2 y1 y2 y3 (0 : Int32) H locs ls hf hP hD hS (lv_sub hl [1, 2, 3, 4, 0] rfl)
    · have hf := hf_t hf hc10
      refine lv_iconst (v := (0 : Int32)) hx hb d_Model_wind_44 (by decide) ?_
      exact ret (0 : Int32) u9.2 H locs ls 45 d_Model_wind_45 (hf_e hf) hP hD hS
  have hl := lv_entry ([.ref (ad_md 0), .int x1, .int x2, .int (bI x3)]) (n := 5) (Nat.le_of_ble_eq_true rfl)
  rw [lg_entry_eq]
  generalize (lg_sl ([.ref (ad_md 0), .int x1, .int x2, .int (bI x3)]) ++ List.replicate (5 - (lg_sl ([.ref (ad_md 0), .int x1, .int x2, .int (bI x3)])).length) Slot.unset).toArray = ls at hl ⊢
  have hl : lv_has ls 5 [(0, .ref (ad_md 0)), (1, .int x1), (2, .int x2), (3, .int (bI x3))] := hl
  have hf := hf
  rw [f_Model_wind] at hf
  obtain ⟨H, hH⟩ : ∃ H : Heap, H = s.heap := ⟨_, rfl⟩
  obtain ⟨locs, hlocs⟩ : ∃ L : List Loc, L = [] := ⟨_, rfl⟩
  have hP : va_P (dC, dI) vwCl (uw_Model ad_md cA_md md) H := by rw [hH]; exact hP
  have hS : va_S A s.heap H locs := by rw [hH, hlocs]; exact hS
  show W p l e (headSpec w_Model_wind ({ frames := 2, cells := 0, slots := 0, locals := 52 })).room s m ([.ref (ad_md 0), .int x1, .int x2, .int (bI x3)] : List Value).toArray below meth c s.heap [] 0 0 Q (F0 m 0 ls [])
  suffices hgo : W p l e (headSpec w_Model_wind ({ frames := 2, cells := 0, slots := 0, locals := 52 })).room s m ([.ref (ad_md 0), .int x1, .int x2, .int (bI x3)] : List Value).toArray below meth c H locs 0 0 Q (F0 m 0 ls []) by rw [hH, hlocs] at hgo; exact hgo
  clear hH hlocs
  refine lv_aload_n hx hb d_Model_wind_0 rfl (lv_at hl 0 rfl) ?_
  refine lv_iload_n hx hb d_Model_wind_1 rfl (lv_at hl 1 rfl) ?_
  refine lv_bipush (v := (-100 : Int32)) hx hb d_Model_wind_2 (by decide) ?_
  refine lv_bipush (v := (100 : Int32)) hx hb d_Model_wind_4 (by decide) ?_
  obtain ⟨u1, hu1, hf⟩ := Option.bind_eq_some_iff.mp hf
  refine cl_i (wc := []) (wr := (uw_Model ad_md cA_md md)) (tysC := []) (wu := fun (u : Unit) => []) (wn := fun (u : Unit) => (uw_Model ad_md cA_md md)) [] [0, 1, 2, 3, 4, 5, 6, 7, 8, 9, 10, 11, 12, 13] [0, 1, 2, 3, 4, 5, 6, 7, 8, 9, 10, 11, 12, 13] [] hP hD hS hA hK rfl rfl (by decide +kernel) (by decide +kernel) (by decide +kernel) rfl (fun _ => rfl) (by decide +kernel) (fun hPc hKc hDc => (va_runS (As := [.int x1, .int (-100 : Int32), .int (100 : Int32)]) (rest := [.ref (ad_md 0)]) ⟨hx, hb, hml, hown, hts⟩ (k_Model_within l dC dI  H.size x1 (-100 : Int32) (100 : Int32) u1 hu1) (cwS 3 hts (gS wd_847 wd_848 wd_49 wd_849) rfl rfl rfl (by decide +kernel) ⟨Nat.le_of_ble_eq_true rfl, Nat.le_of_ble_eq_true rfl⟩) (cl_preS hPc hKc hDc hN) rfl rfl hl.1 rfl (lv_room (Nat.le_of_ble_eq_true rfl)) d_Model_wind_6 ⟨Nat.le_of_ble_eq_true rfl, Nat.le_of_ble_eq_true rfl⟩)) (fun r u H locs hw hP hD hS => ?_)
  have hw := hw.symm
  subst hw
  have hP : va_P (dC, dI) vwCl (uw_Model ad_md cA_md md) H := hP
  have hD : va_D A (uw_Model ad_md cA_md md) := hD
  refine lv_if_eq (tgt := 35) hx hb d_Model_wind_9 (by decide) (fun hc2 => ?_) (fun hc2 => ?_)
  · have hf := hf_t hf hc2
    exact w_35 md x1 x2 x3 H locs ls hf hP hD hS (lv_sub hl [0, 1, 2, 3] rfl)
  · have hf := hf_f hf hc2
    refine lv_iload_n hx hb d_Model_wind_12 rfl (lv_at hl 2 rfl) ?_
    refine lv_bipush (v := (-100 : Int32)) hx hb d_Model_wind_13 (by decide) ?_
    refine lv_bipush (v := (100 : Int32)) hx hb d_Model_wind_15 (by decide) ?_
    obtain ⟨u3, hu3, hf⟩ := Option.bind_eq_some_iff.mp hf
    refine cl_i (wc := []) (wr := (uw_Model ad_md cA_md md)) (tysC := []) (wu := fun (u : Unit) => []) (wn := fun (u : Unit) => (uw_Model ad_md cA_md md)) [] [0, 1, 2, 3, 4, 5, 6, 7, 8, 9, 10, 11, 12, 13] [0, 1, 2, 3, 4, 5, 6, 7, 8, 9, 10, 11, 12, 13] [] hP hD hS hA hK rfl rfl (by decide +kernel) (by decide +kernel) (by decide +kernel) rfl (fun _ => rfl) (by decide +kernel) (fun hPc hKc hDc => (va_runS (As := [.int x2, .int (-100 : Int32), .int (100 : Int32)]) (rest := [.ref (ad_md 0)]) ⟨hx, hb, hml, hown, hts⟩ (k_Model_within l dC dI  H.size x2 (-100 : Int32) (100 : Int32) u3 hu3) (cwS 3 hts (gS wd_847 wd_848 wd_49 wd_849) rfl rfl rfl (by decide +kernel) ⟨Nat.le_of_ble_eq_true rfl, Nat.le_of_ble_eq_true rfl⟩) (cl_preS hPc hKc hDc hN) rfl rfl hl.1 rfl (lv_room (Nat.le_of_ble_eq_true rfl)) d_Model_wind_17 ⟨Nat.le_of_ble_eq_true rfl, Nat.le_of_ble_eq_true rfl⟩)) (fun r u H locs hw hP hD hS => ?_)
    have hw := hw.symm
    subst hw
    have hP : va_P (dC, dI) vwCl (uw_Model ad_md cA_md md) H := hP
    have hD : va_D A (uw_Model ad_md cA_md md) := hD
    refine lv_if_eq (tgt := 35) hx hb d_Model_wind_20 (by decide) (fun hc4 => ?_) (fun hc4 => ?_)
    · have hf := hf_t hf hc4
      exact w_35 md x1 x2 x3 H locs ls hf hP hD hS (lv_sub hl [0, 1, 2, 3] rfl)
    · have hf := hf_f hf hc4
      refine lv_iload_n hx hb d_Model_wind_23 rfl (lv_at hl 1 rfl) ?_
      refine lv_if_ne (tgt := 31) hx hb d_Model_wind_24 (by decide) (fun hc5 => ?_) (fun hc5 => ?_)
      · have hf := hf_f hf hc5
        exact w_31 md x1 x2 x3 H locs ls hf hP hD hS (lv_sub hl [0, 1, 2, 3] rfl)
      · have hf := hf_t hf hc5
        refine lv_iload_n hx hb d_Model_wind_27 rfl (lv_at hl 2 rfl) ?_
        refine lv_if_eq (tgt := 35) hx hb d_Model_wind_28 (by decide) (fun hc6 => ?_) (fun hc6 => ?_)
        · have hf := hf_t hf hc6
          exact w_35 md x1 x2 x3 H locs ls hf hP hD hS (lv_sub hl [0, 1, 2, 3] rfl)
        · have hf := hf_f hf hc6
          exact w_31 md x1 x2 x3 H locs ls hf hP hD hS (lv_sub hl [0, 1, 2, 3] rfl)
