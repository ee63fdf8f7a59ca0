noncomputable def f_Model_add_124  : Nat → SModel → Int32 → Int32 → Option (Int32 × SModel)
  | 0, _, _, _ => none
  | n + 1, md, y4, y5 =>
    (if (md.2.2.2.2.1.1 - (1 : Int32)) ≤ y5 then
      (some (y4, md))
     else
      (Option.bind (f_Model_contradict md y5 (md.2.2.2.2.1.1 - (1 : Int32))) fun u16 =>
        (if (bI u16) = 0 then
          (f_Model_add_124 n md y4 (y5 + (1 : Int32)))
         else
          (f_Model_add_124 n md (y4 + (1 : Int32)) (y5 + (1 : Int32)))
         )
       )
     )
noncomputable def f_Model_add_70  (md : SModel) (y1 : Int32) (y2 : Int32) (y3 : Int32) (z1 : Bool) (z2 : Bool) (z3 : Bool) : Option (Int32 × SModel) :=
  (Option.bind (f_Model_goes md z1 z2 z3) fun u10 =>
    (if (bI u10.1) = 0 then
      (some ((0 : Int32), u10.2))
     else
      (if inb u10.2.2.2.2.2.1.1 8 then
        (if inb u10.2.2.2.2.2.1.1 8 then
          (if inb u10.2.2.2.2.2.1.1 8 then
            (f_Model_add_124 4096 (u10.2.1, u10.2.2.1, u10.2.2.2.1, u10.2.2.2.2.1, (u10.2.2.2.2.2.1.1 + (1 : Int32), upd u10.2.2.2.2.2.1.2.1 u10.2.2.2.2.2.1.1.toNatClampNeg y1, upd u10.2.2.2.2.2.1.2.2.1 u10.2.2.2.2.2.1.1.toNatClampNeg y2, upd u10.2.2.2.2.2.1.2.2.2.1 u10.2.2.2.2.2.1.1.toNatClampNeg y3, u10.2.2.2.2.2.1.2.2.2.2), u10.2.2.2.2.2.2.1, u10.2.2.2.2.2.2.2.1, u10.2.2.2.2.2.2.2.2.1, u10.2.2.2.2.2.2.2.2.2) (0 : Int32) (0 : Int32))
           else none)
         else none)
       else none)
     )
   )
noncomputable def f_Model_add_56  (md : SModel) (y1 : Int32) (y2 : Int32) (y3 : Int32) (z1 : Bool) (z2 : Bool) : Option (Int32 × SModel) :=
  (if (8 : Int32) ≤ md.2.2.2.2.1.1 then
    (f_Model_add_70 md y1 y2 y3 z1 z2 false)
   else
    (f_Model_add_70 md y1 y2 y3 z1 z2 true)
   )
noncomputable def f_Model_add_55  (md : SModel) (y1 : Int32) (y2 : Int32) (y3 : Int32) (z1 : Bool) : Option (Int32 × SModel) :=
  (f_Model_add_56 md y1 y2 y3 z1 false)
noncomputable def f_Model_add_30  (md : SModel) (y1 : Int32) (y2 : Int32) (y3 : Int32) (z1 : Bool) : Option (Int32 × SModel) :=
  (Option.bind (f_Model_within y1 (1 : Int32) (9999 : Int32)) fun u5 =>
    (if (bI u5) = 0 then
      (f_Model_add_55 md y1 y2 y3 z1)
     else
      (Option.bind (f_Model_within y2 (1 : Int32) (100000 : Int32)) fun u7 =>
        (if (bI u7) = 0 then
          (f_Model_add_55 md y1 y2 y3 z1)
         else
          (f_Model_add_56 md y1 y2 y3 z1 true)
         )
       )
     )
   )
noncomputable def f_Model_add_20  (md : SModel) (y1 : Int32) (y2 : Int32) (y3 : Int32) : Option (Int32 × SModel) :=
  (if y3 < 0 then
    (f_Model_add_30 md y1 y2 y3 false)
   else
    (f_Model_add_30 md y1 y2 y3 true)
   )
noncomputable def f_Model_add (md : SModel) (x1 : Int32) (x2 : Int32) : Option (Int32 × SModel) :=
  (Option.bind (f_Model_find md x1) fun u1 =>
    (if 0 ≤ u1 then
      (f_Model_add_20 md x1 x2 u1)
     else
      (if (bI md.2.2.2.1.2.1) = 0 then
        (f_Model_add_20 md x1 x2 u1)
       else
        (f_Model_add_20 md x1 x2 (12 : Int32))
       )
     )
   )
set_option maxHeartbeats 4000000 in
set_option maxRecDepth 100000 in
theorem k_Model_add (l : Launch) (dC : Nat → ClassId) (dI : Nat → Nat → Nat) (ad_md : Nat → Nat) (cA_md : Nat → ClassId) (sz : Nat) (md : SModel) (x1 : Int32) (x2 : Int32) (res : Int32 × SModel) (hf : f_Model_add md x1 x2 = some res) : Met l y_Model_add w_Model_add ({ frames := 1, cells := 0, slots := 0, locals := 24 }) (cPc (dC, dI) (uw_Model ad_md cA_md md) [(cA_md 1, .int), (cA_md 2, .int), (cA_md 3, .int), (cA_md 4, .int), (cA_md 5, .int), (cA_md 6, .int), (cA_md 7, .int), (cA_md 8, .int), (cA_md 9, .boolean), (cA_md 10, .int), (cA_md 11, .int), (cA_md 12, .int), (cA_md 13, .int)] sz [.ref (ad_md 0), .int x1, .int x2]) (va_Qi (fun (r : Int32) (u : SModel) => r = res.1 ∧ u = res.2) (fun (u : SModel) (t : State) => va_P (dC, dI) vwCl (uw_Model ad_md cA_md u) t.heap ∧ va_K (dC, dI) vwCl [(cA_md 1, .int), (cA_md 2, .int), (cA_md 3, .int), (cA_md 4, .int), (cA_md 5, .int), (cA_md 6, .int), (cA_md 7, .int), (cA_md 8, .int), (cA_md 9, .boolean), (cA_md 10, .int), (cA_md 11, .int), (cA_md 12, .int), (cA_md 13, .int)] t ∧ va_D (va_A (uw_Model ad_md cA_md md) sz) (uw_Model ad_md cA_md u)) (va_A (uw_Model ad_md cA_md md) sz)) 0 0 (va_A (uw_Model ad_md cA_md md) sz) := by
  refine Met.ofW (cc := b_Model_add) (maxL := 6) (ret := (some .int)) (by decide) rfl ?_
  intro p e s m args below meth c s₁ B hml hv
  obtain ⟨rfl, hsz, hP, hK, hD0, hN⟩ := hv
  have hx := B.exec
  have hb := B.bytes
  have hr := B.returns
  have hts := atoms_spec (ws := w_Model_add) B.pre
  have hown : s.vm.findClass "HazardTablesModel" = some m.cls := findClass_of_methodNamed B.named
  have hlocks := B.notSynchronized
  subst hsz
  have hD := hD0.self (sz := s.heap.size)
  generalize hAe : va_A (uw_Model ad_md cA_md md) s.heap.size = A at hD ⊢
  have hA : ∀ q : Nat, s.heap.size ≤ q → A q := fun q h => by rw [← hAe]; exact Or.inr h
  have hS : va_S A s.heap s.heap [] := va_S.rf
  have hP : va_P (dC, dI) vwCl (uw_Model ad_md cA_md md) s.heap := hP
  have fl_131 := (hts _ (List.mem_cons_of_mem _ wd_753))
  have fl_157 := (hts _ (List.mem_cons_of_mem _ wd_760))
  have fl_23 := (hts _ (List.mem_cons_of_mem _ wd_761))
  have fl_26 := (hts _ (List.mem_cons_of_mem _ wd_762))
  have fl_29 := (hts _ (List.mem_cons_of_mem _ wd_763))
  have hin_Model : ∀ w ∈ u_ws "HazardTablesModel" F_Model 30, w ∈ w_Model_add := fun w h => List.mem_cons_of_mem _ (hinA_Model w h)
  have ret : ∀ (v : Int32) (u : SModel) (H : Heap) (locs : List Loc) (ls : Array Slot) (pc : Nat), decode b_Model_add pc = .ok (.ireturn, 1) → (v = res.1 ∧ u = res.2) → va_P (dC, dI) vwCl (uw_Model ad_md cA_md u) H → va_D A (uw_Model ad_md cA_md u) → va_S A s.heap H locs → W p l e (headSpec w_Model_add ({ frames := 1, cells := 0, slots := 0, locals := 24 })).room s m ([.ref (ad_md 0), .int x1, .int x2] : List Value).toArray below meth c H locs 0 0 (MQ below (va_Qi (fun (r : Int32) (u : SModel) => r = res.1 ∧ u = res.2) (fun (u : SModel) (t : State) => va_P (dC, dI) vwCl (uw_Model ad_md cA_md u) t.heap ∧ va_K (dC, dI) vwCl [(cA_md 1, .int), (cA_md 2, .int), (cA_md 3, .int), (cA_md 4, .int), (cA_md 5, .int), (cA_md 6, .int), (cA_md 7, .int), (cA_md 8, .int), (cA_md 9, .boolean), (cA_md 10, .int), (cA_md 11, .int), (cA_md 12, .int), (cA_md 13, .int)] t ∧ va_D A (uw_Model ad_md cA_md u)) A) ([.ref (ad_md 0), .int x1, .int x2] : List Value).toArray s 0 0 A) (F0 m pc ls [.int v]) := fun v u H locs ls pc hd hp hP hD hS => W.iret (v := v) hx hb hr (fun t ht hW => ⟨⟨v, u, rfl, hp, by rw [ht]; exact hP, va_K.moved hW.alike hK, hD⟩, hS.F ht⟩) hS.2.2 hd
  generalize (MQ below (va_Qi (fun (r : Int32) (u : SModel) => r = res.1 ∧ u = res.2) (fun (u : SModel) (t : State) => va_P (dC, dI) vwCl (uw_Model ad_md cA_md u) t.heap ∧ va_K (dC, dI) vwCl [(cA_md 1, .int), (cA_md 2, .int), (cA_md 3, .int), (cA_md 4, .int), (cA_md 5, .int), (cA_md 6, .int), (cA_md 7, .int), (cA_md 8, .int), (cA_md 9, .boolean), (cA_md 10, .int), (cA_md 11, .int), (cA_md 12, .int), (cA_md 13, .int)] t ∧ va_D A (uw_Model ad_md cA_md u)) A) ([.ref (ad_md 0), .int x1, .int x2] : List Value).toArray s 0 0 A) = Q at ret ⊢
  have w_124 : ∀ (n : Nat) (md : SModel) (y4 : Int32) (y5 : Int32) (H : Heap) (locs : List Loc) (ls : Array Slot), f_Model_add_124 n md y4 y5 = some res → va_P (dC, dI) vwCl (uw_Model ad_md cA_md md) H → va_D A (uw_Model ad_md cA_md md) → va_S A s.heap H locs → lv_has ls 6 [(0, .ref (ad_md 0)), (4, .int y4), (5, .int y5)] → W p l e (headSpec w_Model_add ({ frames := 1, cells := 0, slots := 0, locals := 24 })).room s m ([.ref (ad_md 0), .int x1, .int x2] : List Value).toArray below meth c H locs 0 0 Q (F0 m 124 ls []) := by
    intro n
    induction n with
    | zero =>
      intro md y4 y5 H locs ls hf hP hD hS hl
      rw [f_Model_add_124] at hf; cases hf
    | succ n ih =>
      intro md y4 y5 H locs ls hf hP hD hS hl
      rw [f_Model_add_124] at hf
      refine lv_iload hx hb d_Model_add_124 (lv_at hl 2 rfl) ?_
      refine lv_aload_n hx hb d_Model_add_126 rfl (lv_at hl 0 rfl) ?_
      refine va_get (D := (dC, dI)) (ci := 6) (v := .int md.2.2.2.2.1.1) (C := "HazardTablesModel") (T := F_Model) (N := 30) hx hb hts hin_Model hown hK hP 0 rfl rfl 12 (by decide) fl_157 (fun _ h9 => h9) rfl d_Model_add_127 ?_
      refine lv_iconst (v := (1 : Int32)) hx hb d_Model_add_130 (by decide) ?_
      refine lv_isub hx hb d_Model_add_131 ?_
      refine lv_icmp_ge (tgt := 159) hx hb d_Model_add_132 (by decide) (fun hc15 => ?_) (fun hc15 => ?_)
      · have hf := hf_t hf hc15
        refine lv_iload hx hb d_Model_add_159 (lv_at hl 1 rfl) ?_
        exact ret y4 md H locs ls 161 d_Model_add_161 (hf_e hf) hP hD hS
      · have hf := hf_f hf hc15
        refine lv_aload_n hx hb d_Model_add_135 rfl (lv_at hl 0 rfl) ?_
        refine lv_iload hx hb d_Model_add_136 (lv_at hl 2 rfl) ?_
        refine lv_aload_n hx hb d_Model_add_138 rfl (lv_at hl 0 rfl) ?_
        refine va_get (D := (dC, dI)) (ci := 6) (v := .int md.2.2.2.2.1.1) (C := "HazardTablesModel") (T := F_Model) (N := 30) hx hb hts hin_Model hown hK hP 0 rfl rfl 12 (by decide) fl_157 (fun _ h9 => h9) rfl d_Model_add_139 ?_
        refine lv_iconst (v := (1 : Int32)) hx hb d_Model_add_142 (by decide) ?_
        refine lv_isub hx hb d_Model_add_143 ?_
        obtain ⟨u16, hu16, hf⟩ := Option.bind_eq_some_iff.mp hf
        refine cl_i (wc := (uw_Model ad_md cA_md md)) (wr := []) (tysC := [(cA_md 1, .int), (cA_md 2, .int), (cA_md 3, .int), (cA_md 4, .int), (cA_md 5, .int), (cA_md 6, .int), (cA_md 7, .int), (cA_md 8, .int), (cA_md 9, .boolean), (cA_md 10, .int), (cA_md 11, .int), (cA_md 12, .int), (cA_md 13, .int)]) (wu := fun (u : Unit) => (uw_Model ad_md cA_md md)) (wn := fun (u : Unit) => (uw_Model ad_md cA_md md)) [0, 1, 2, 3, 4, 5, 6, 7, 8, 9, 10, 11, 12, 13] [] [0, 1, 2, 3, 4, 5, 6, 7, 8, 9, 10, 11, 12, 13] [0, 1, 2, 3, 4, 5, 6, 7, 8, 9, 10, 11, 12] hP hD hS hA hK rfl rfl (by decide +kernel) (by decide +kernel) (by decide +kernel) rfl (fun _ => rfl) (by decide +kernel) (fun hPc hKc hDc => (va_runV (As := [.int y5, .int (md.2.2.2.2.1.1 - (1 : Int32))]) (rest := []) ⟨hx, hb, hml, hown, hts⟩ (k_Model_contradict l dC dI ad_md cA_md H.size md y5 (md.2.2.2.2.1.1 - (1 : Int32)) u16 hu16) (cwV 2 hts (gV wd_946 wd_948 wd_38 wd_49 wd_949) rfl rfl rfl (by decide +kernel) ⟨Nat.le_of_ble_eq_true rfl, Nat.le_of_ble_eq_true rfl⟩) (cl_preV hPc hKc hDc hN (ci := 6) 0 rfl rfl) rfl rfl hl.1 rfl (lv_room (Nat.le_of_ble_eq_true rfl)) d_Model_add_144 ⟨Nat.le_of_ble_eq_true rfl, Nat.le_of_ble_eq_true rfl⟩)) (fun r u H locs hw hP hD hS => ?_)
        have hw := hw.symm
        subst hw
        have hP : va_P (dC, dI) vwCl (uw_Model ad_md cA_md md) H := hP
        have hD : va_D A (uw_Model ad_md cA_md md) := hD
        refine lv_if_eq (tgt := 153) hx hb d_Model_add_147 (by decide) (fun hc17 => ?_) (fun hc17 => ?_)
        · have hf := hf_t hf hc17
          refine lv_iinc (v := y5 + (1 : Int32)) (lv' := [(5, .int (y5 + (1 : Int32))), (0, .ref (ad_md 0)), (4, .int y4)]) hx hb d_Model_add_153 hl (k := 2) rfl rfl (by decide) rfl (fun ls hl => ?_)
          refine lv_goto (tgt := 124) hx hb d_Model_add_156 (by decide) ?_
          exact ih md y4 (y5 + (1 : Int32)) H locs ls hf hP hD hS (lv_sub hl [1, 2, 0] rfl)
        · have hf := hf_f hf hc17
          refine lv_iinc (v := y4 + (1 : Int32)) (lv' := [(4, .int (y4 + (1 : Int32))), (0, .ref (ad_md 0)), (5, .int y5)]) hx hb d_Model_add_150 hl (k := 1) rfl rfl (by decide) rfl (fun ls hl => ?_)
          refine lv_iinc (v := y5 + (1 : Int32)) (lv' := [(5, .int (y5 + (1 : Int32))), (4, .int (y4 + (1 : Int32))), (0, .ref (ad_md 0))]) hx hb d_Model_add_153 hl (k := 2) rfl rfl (by decide) rfl (fun ls hl => ?_)
          refine lv_goto (tgt := 124) hx hb d_Model_add_156 (by decide) ?_
          exact ih md (y4 + (1 : Int32)) (y5 + (1 : Int32)) H locs ls hf hP hD hS (lv_sub hl [2, 1, 0] rfl)
  have w_70 : ∀ (md : SModel) (y1 : Int32) (y2 : Int32) (y3 : Int32) (z1 : Bool) (z2 : Bool) (z3 : Bool) (H : Heap) (locs : List Loc) (ls : Array Slot), f_Model_add_70 md y1 y2 y3 z1 z2 z3 = some res → va_P (dC, dI) vwCl (uw_Model ad_md cA_md md) H → va_D A (uw_Model ad_md cA_md md) → va_S A s.heap H locs → lv_has ls 6 [(0, .ref (ad_md 0)), (1, .int y1), (2, .int y2), (3, .int y3)] → W p l e (headSpec w_Model_add ({ frames := 1, cells := 0, slots := 0, locals := 24 })).room s m ([.ref (ad_md 0), .int x1, .int x2] : List Value).toArray below meth c H locs 0 0 Q (F0 m 70 ls [.int (bI z3), .int (bI z2), .int (bI z1), .ref (ad_md 0)]) := by
    intro md y1 y2 y3 z1 z2 z3 H locs ls hf hP hD hS hl
    rw [f_Model_add_70] at hf
    obtain ⟨u10, hu10, hf⟩ := Option.bind_eq_some_iff.mp hf
    refine cl_i (wc := (uw_Model ad_md cA_md md)) (wr := []) (tysC := [(cA_md 1, .int), (cA_md 2, .int), (cA_md 3, .int), (cA_md 4, .int), (cA_md 5, .int), (cA_md 6, .int), (cA_md 7, .int), (cA_md 8, .int), (cA_md 9, .boolean), (cA_md 10, .int), (cA_md 11, .int), (cA_md 12, .int), (cA_md 13, .int)]) (wu := fun (u : SModel) => (uw_Model ad_md cA_md u)) (wn := fun (u : SModel) => (uw_Model ad_md cA_md u)) [0, 1, 2, 3, 4, 5, 6, 7, 8, 9, 10, 11, 12, 13] [] [0, 1, 2, 3, 4, 5, 6, 7, 8, 9, 10, 11, 12, 13] [0, 1, 2, 3, 4, 5, 6, 7, 8, 9, 10, 11, 12] hP hD hS hA hK rfl rfl (by decide +kernel) (by decide +kernel) (by decide +kernel) rfl (fun _ => rfl) (by decide +kernel) (fun hPc hKc hDc => (va_runV (As := [.int (bI z1), .int (bI z2), .int (bI z3)]) (rest := []) ⟨hx, hb, hml, hown, hts⟩ (k_Model_goes l dC dI ad_md cA_md H.size md z1 z2 z3 u10 hu10) (cwV 3 hts (gV wd_850 wd_852 wd_22 wd_49 wd_853) rfl rfl rfl (by decide +kernel) ⟨Nat.le_of_ble_eq_true rfl, Nat.le_of_ble_eq_true rfl⟩) (cl_preV hPc hKc hDc hN (ci := 6) 0 rfl rfl) rfl rfl hl.1 rfl (lv_room (Nat.le_of_ble_eq_true rfl)) d_Model_add_70 ⟨Nat.le_of_ble_eq_true rfl, Nat.le_of_ble_eq_true rfl⟩)) (fun r u H locs hw hP hD hS => ?_)
    obtain ⟨hw1, hw2⟩ := hw
    have hw1 := hw1.symm
    have hw2 := hw2.symm
    subst hw1
    subst hw2
    have hP : va_P (dC, dI) vwCl (uw_Model ad_md cA_md u10.2) H := hP
    have hD : va_D A (uw_Model ad_md cA_md u10.2) := hD
    refine lv_if_ne (tgt := 78) hx hb d_Model_add_73 (by decide) (fun hc11 => ?_) (fun hc11 => ?_)
    · have hf := hf_f hf hc11
      refine lv_aload_n hx hb d_Model_add_78 rfl (lv_at hl 0 rfl) ?_
      refine va_get (D := (dC, dI)) (ci := 6) (v := .ref (ad_md 4)) (C := "HazardTablesModel") (T := F_Model) (N := 30) hx hb hts hin_Model hown hK hP 0 rfl rfl 13 (by decide) fl_23 (fun _ h9 => h9) rfl d_Model_add_79 ?_
      refine lv_aload_n hx hb d_Model_add_82 rfl (lv_at hl 0 rfl) ?_
      refine va_get (D := (dC, dI)) (ci := 6) (v := .int u10.2.2.2.2.2.1.1) (C := "HazardTablesModel") (T := F_Model) (N := 30) hx hb hts hin_Model hown hK hP 0 rfl rfl 12 (by decide) fl_157 (fun _ h9 => h9) rfl d_Model_add_83 ?_
      refine lv_iload_n hx hb d_Model_add_86 rfl (lv_at hl 1 rfl) ?_
      obtain ⟨hi12, hf⟩ := hf_g hf
      refine va_iast hx hb hK hP hD hS 4 3 rfl rfl hi12 d_Model_add_87 (fun H locs hP hD hS => ?_)
      have hP : va_P (dC, dI) vwCl (uw_Model ad_md cA_md (u10.2.1, u10.2.2.1, u10.2.2.2.1, u10.2.2.2.2.1, (u10.2.2.2.2.2.1.1, upd u10.2.2.2.2.2.1.2.1 u10.2.2.2.2.2.1.1.toNatClampNeg y1, u10.2.2.2.2.2.1.2.2.1, u10.2.2.2.2.2.1.2.2.2.1, u10.2.2.2.2.2.1.2.2.2.2), u10.2.2.2.2.2.2.1, u10.2.2.2.2.2.2.2.1, u10.2.2.2.2.2.2.2.2.1, u10.2.2.2.2.2.2.2.2.2)) H := hP
      have hD : va_D A (uw_Model ad_md cA_md (u10.2.1, u10.2.2.1, u10.2.2.2.1, u10.2.2.2.2.1, (u10.2.2.2.2.2.1.1, upd u10.2.2.2.2.2.1.2.1 u10.2.2.2.2.2.1.1.toNatClampNeg y1, u10.2.2.2.2.2.1.2.2.1, u10.2.2.2.2.2.1.2.2.2.1, u10.2.2.2.2.2.1.2.2.2.2), u10.2.2.2.2.2.2.1, u10.2.2.2.2.2.2.2.1, u10.2.2.2.2.2.2.2.2.1, u10.2.2.2.2.2.2.2.2.2)) := hD
      refine lv_aload_n hx hb d_Model_add_88 rfl (lv_at hl 0 rfl) ?_
      refine va_get (D := (dC, dI)) (ci := 6) (v := .ref (ad_md 5)) (C := "HazardTablesModel") (T := F_Model) (N := 30) hx hb hts hin_Model hown hK hP 0 rfl rfl 14 (by decide) fl_26 (fun _ h9 => h9) rfl d_Model_add_89 ?_
      refine lv_aload_n hx hb d_Model_add_92 rfl (lv_at hl 0 rfl) ?_
      refine va_get (D := (dC, dI)) (ci := 6) (v := .int u10.2.2.2.2.2.1.1) (C := "HazardTablesModel") (T := F_Model) (N := 30) hx hb hts hin_Model hown hK hP 0 rfl rfl 12 (by decide) fl_157 (fun _ h9 => h9) rfl d_Model_add_93 ?_
      refine lv_iload_n hx hb d_Model_add_96 rfl (lv_at hl 2 rfl) ?_
      obtain ⟨hi13, hf⟩ := hf_g hf
      refine va_iast hx hb hK hP hD hS 5 4 rfl rfl hi13 d_Model_add_97 (fun H locs hP hD hS => ?_)
      have hP : va_P (dC, dI) vwCl (uw_Model ad_md cA_md (u10.2.1, u10.2.2.1, u10.2.2.2.1, u10.2.2.2.2.1, (u10.2.2.2.2.2.1.1, upd u10.2.2.2.2.2.1.2.1 u10.2.2.2.2.2.1.1.toNatClampNeg y1, upd u10.2.2.2.2.2.1.2.2.1 u10.2.2.2.2.2.1.1.toNatClampNeg y2, u10.2.2.2.2.2.1.2.2.2.1, u10.2.2.2.2.2.1.2.2.2.2), u10.2.2.2.2.2.2.1, u10.2.2.2.2.2.2.2.1, u10.2.2.2.2.2.2.2.2.1, u10.2.2.2.2.2.2.2.2.2)) H := hP
      have hD : va_D A (uw_Model ad_md cA_md (u10.2.1, u10.2.2.1, u10.2.2.2.1, u10.2.2.2.2.1, (u10.2.2.2.2.2.1.1, upd u10.2.2.2.2.2.1.2.1 u10.2.2.2.2.2.1.1.toNatClampNeg y1, upd u10.2.2.2.2.2.1.2.2.1 u10.2.2.2.2.2.1.1.toNatClampNeg y2, u10.2.2.2.2.2.1.2.2.2.1, u10.2.2.2.2.2.1.2.2.2.2), u10.2.2.2.2.2.2.1, u10.2.2.2.2.2.2.2.1, u10.2.2.2.2.2.2.2.2.1, u10.2.2.2.2.2.2.2.2.2)) := hD
      refine lv_aload_n hx hb d_Model_add_98 rfl (lv_at hl 0 rfl) ?_
      refine va_get (D := (dC, dI)) (ci := 6) (v := .ref (ad_md 6)) (C := "HazardTablesModel") (T := F_Model) (N := 30) hx hb hts hin_Model hown hK hP 0 rfl rfl 15 (by decide) fl_29 (fun _ h9 => h9) rfl d_Model_add_99 ?_
      refine lv_aload_n hx hb d_Model_add_102 rfl (lv_at hl 0 rfl) ?_
      refine va_get (D := (dC, dI)) (ci := 6) (v := .int u10.2.2.2.2.2.1.1) (C := "HazardTablesModel") (T := F_Model) (N := 30) hx hb hts hin_Model hown hK hP 0 rfl rfl 12 (by decide) fl_157 (fun _ h9 => h9) rfl d_Model_add_103 ?_
      refine lv_iload_n hx hb d_Model_add_106 rfl (lv_at hl 3 rfl) ?_
      obtain ⟨hi14, hf⟩ := hf_g hf
      refine va_iast hx hb hK hP hD hS 6 5 rfl rfl hi14 d_Model_add_107 (fun H locs hP hD hS => ?_)
      have hP : va_P (dC, dI) vwCl (uw_Model ad_md cA_md (u10.2.1, u10.2.2.1, u10.2.2.2.1, u10.2.2.2.2.1, (u10.2.2.2.2.2.1.1, upd u10.2.2.2.2.2.1.2.1 u10.2.2.2.2.2.1.1.toNatClampNeg y1, upd u10.2.2.2.2.2.1.2.2.1 u10.2.2.2.2.2.1.1.toNatClampNeg y2, upd u10.2.2.2.2.2.1.2.2.2.1 u10.2.2.2.2.2.1.1.toNatClampNeg y3, u10.2.2.2.2.2.1.2.2.2.2), u10.2.2.2.2.2.2.1, u10.2.2.2.2.2.2.2.1, u10.2.2.2.2.2.2.2.2.1, u10.2.2.2.2.2.2.2.2.2)) H := hP
      have hD : va_D A (uw_Model ad_md cA_md (u10.2.1, u10.2.2.1, u10.2.2.2.1, u10.2.2.2.2.1, (u10.2.2.2.2.2.1.1, upd u10.2.2.2.2.2.1.2.1 u10.2.2.2.2.2.1.1.toNatClampNeg y1, upd u10.2.2.2.2.2.1.2.2.1 u10.2.2.2.2.2.1.1.toNatClampNeg y2, upd u10.2.2.2.2.2.1.2.2.2.1 u10.2.2.2.2.2.1.1.toNatClampNeg y3, u10.2.2.2.2.2.1.2.2.2.2), u10.2.2.2.2.2.2.1, u10.2.2.2.2.2.2.2.1, u10.2.2.2.2.2.2.2.2.1, u10.2.2.2.2.2.2.2.2.2)) := hD
      refine lv_aload_n hx hb d_Model_add_108 rfl (lv_at hl 0 rfl) ?_
      refine lv_dup hx hb d_Model_add_109 rfl ?_
      refine va_get (D := (dC, dI)) (ci := 6) (v := .int u10.2.2.2.2.2.1.1) (C := "HazardTablesModel") (T := F_Model) (N := 30) hx hb hts hin_Model hown hK hP 0 rfl rfl 12 (by decide) fl_157 (fun _ h9 => h9) rfl d_Model_add_110 ?_
      refine lv_iconst (v := (1 : Int32)) hx hb d_Model_add_113 (by decide) ?_
      refine lv_iadd hx hb d_Model_add_114 ?_
      refine va_put (D := (dC, dI)) (ci := 6) (v := .int (u10.2.2.2.2.2.1.1 + (1 : Int32))) (ty := .int) (C := "HazardTablesModel") (T := F_Model) (N := 30) hx hb hts hin_Model t_Model t_Model_ok n_Model hown hK hP hD hS 0 rfl rfl 12 (by decide) fl_157 (fun _ h9 => h9) rfl (by decide +kernel) rfl rfl (Nat.le_of_ble_eq_true rfl) d_Model_add_115 (fun H locs hP hD hS => ?_)
      have hP : va_P (dC, dI) vwCl (uw_Model ad_md cA_md (u10.2.1, u10.2.2.1, u10.2.2.2.1, u10.2.2.2.2.1, (u10.2.2.2.2.2.1.1 + (1 : Int32), upd u10.2.2.2.2.2.1.2.1 u10.2.2.2.2.2.1.1.toNatClampNeg y1, upd u10.2.2.2.2.2.1.2.2.1 u10.2.2.2.2.2.1.1.toNatClampNeg y2, upd u10.2.2.2.2.2.1.2.2.2.1 u10.2.2.2.2.2.1.1.toNatClampNeg y3, u10.2.2.2.2.2.1.2.2.2.2), u10.2.2.2.2.2.2.1, u10.2.2.2.2.2.2.2.1, u10.2.2.2.2.2.2.2.2.1, u10.2.2.2.2.2.2.2.2.2)) H := hP
      have hD : va_D A (uw_Model ad_md cA_md (u10.2.1, u10.2.2.1, u10.2.2.2.1, u10.2.2.2.2.1, (u10.2.2.2.2.2.1.1 + (1 : Int32), upd u10.2.2.2.2.2.1.2.1 u10.2.2.2.2.2.1.1.toNatClampNeg y1, upd u10.2.2.2.2.2.1.2.2.1 u10.2.2.2.2.2.1.1.toNatClampNeg y2, upd u10.2.2.2.2.2.1.2.2.2.1 u10.2.2.2.2.2.1.1.toNatClampNeg y3, u10.2.2.2.2.2.1.2.2.2.2), u10.2.2.2.2.2.2.1, u10.2.2.2.2.2.2.2.1, u10.2.2.2.2.2.2.2.2.1, u10.2.2.2.2.2.2.2.2.2)) := hD
      refine lv_iconst (v := (0 : Int32)) hx hb d_Model_add_118 (by decide) ?_
      refine lv_istore (lv' := [(4, .int (0 : Int32)), (0, .ref (ad_md 0)), (1, .int y1), (2, .int y2), (3, .int y3)]) hx hb d_Model_add_119 hl (by decide) rfl (fun ls hl => ?_)
      refine lv_iconst (v := (0 : Int32)) hx hb d_Model_add_121 (by decide) ?_
      refine lv_istore (lv' := [(5, .int (0 : Int32)), (4, .int (0 : Int32)), (0, .ref (ad_md 0)), (1, .int y1), (2, .int y2), (3, .int y3)]) hx hb d_Model_add_122 hl (by decide) rfl (fun ls hl => ?_)
      exact w_124 4096 (u10.2.1, u10.2.2.1, u10.2.2.2.1, u10.2.2.2.2.1, (u10.2.2.2.2.2.1.1 + (1 : Int32), upd u10.2.2.2.2.2.1.2.1 u10.2.2.2.2.2.1.1.toNatClampNeg y1, upd u10.2.2.2.2.2.1.2.2.1 u10.2.2.2.2.2.1.1.toNatClampNeg y2, upd u10.2.2.2.2.2.1.2.2.2.1 u10.2.2.2.2.2.1.1.toNatClampNeg y3, u10.2.2.2.2.2.1.2.2.2.2), u10.2.2.2.2.2.2.1, u10.2.2.2.2.2.2.2.1, u10.2.2.2.2.2.2.2.2.1, u10.2.2.2.2.2.2.2.2.2) (0 : Int32) (0 : Int32) H locs ls hf hP hD hS (lv_sub hl [2, 1, 0] rfl)
    · have hf := hf_t hf hc11
      refine lv_iconst (v := (0 : Int32)) hx hb d_Model_add_76 (by decide) ?_
      exact ret (0 : Int32) u10.2 H locs ls 77 d_Model_add_77 (hf_e hf) hP hD hS
  have w_56 : ∀ (md : SModel) (y1 : Int32) (y2 : Int32) (y3 : Int32) (z1 : Bool) (z2 : Bool) (H : Heap) (locs : List Loc) (ls : Array Slot), f_Model_add_56 md y1 y2 y3 z1 z2 = some res → va_P (dC, dI) vwCl (uw_Model ad_md cA_md md) H → va_D A (uw_Model ad_md cA_md md) → va_S A s.heap H locs → lv_has ls 6 [(0, .ref (ad_md 0)), (1, .int y1), (2, .int y2), (3, .int y3)] → W p l e (headSpec w_Model_add ({ frames := 1, cells := 0, slots := 0, locals := 24 })).room s m ([.ref (ad_md 0), .int x1, .int x2] : List Value).toArray below meth c H locs 0 0 Q (F0 m 56 ls [.int (bI z2), .int (bI z1), .ref (ad_md 0)]) := by
    intro md y1 y2 y3 z1 z2 H locs ls hf hP hD hS hl
    rw [f_Model_add_56] at hf
    refine lv_aload_n hx hb d_Model_add_56 rfl (lv_at hl 0 rfl) ?_
    refine va_get (D := (dC, dI)) (ci := 6) (v := .int md.2.2.2.2.1.1) (C := "HazardTablesModel") (T := F_Model) (N := 30) hx hb hts hin_Model hown hK hP 0 rfl rfl 12 (by decide) fl_157 (fun _ h9 => h9) rfl d_Model_add_57 ?_
    refine lv_bipush (v := (8 : Int32)) hx hb d_Model_add_60 (by decide) ?_
    refine lv_icmp_ge (tgt := 69) hx hb d_Model_add_62 (by decide) (fun hc9 => ?_) (fun hc9 => ?_)
    · have hf := hf_t hf hc9
      refine lv_iconst (v := (0 : Int32)) hx hb d_Model_add_69 (by decide) ?_
      exact w_70 md y1 y2 y3 z1 z2 false H locs ls hf hP hD hS (lv_sub hl [0, 1, 2, 3] rfl)
    · have hf := hf_f hf hc9
      refine lv_iconst (v := (1 : Int32)) hx hb d_Model_add_65 (by decide) ?_
      refine lv_goto (tgt := 70) hx hb d_Model_add_66 (by decide) ?_
      exact w_70 md y1 y2 y3 z1 z2 true H locs ls hf hP hD hS (lv_sub hl [0, 1, 2, 3] rfl)
  have w_55 : ∀ (md : SModel) (y1 : Int32) (y2 : Int32) (y3 : Int32) (z1 : Bool) (H : Heap) (locs : List Loc) (ls : Array Slot), f_Model_add_55 md y1 y2 y3 z1 = some res → va_P (dC, dI) vwCl (uw_Model ad_md cA_md md) H → va_D A (uw_Model ad_md cA_md md) → va_S A s.heap H locs → lv_has ls 6 [(0, .ref (ad_md 0)), (1, .int y1), (2, .int y2), (3, .int y3)] → W p l e (headSpec w_Model_add ({ frames := 1, cells := 0, slots := 0, locals := 24 })).room s m ([.ref (ad_md 0), .int x1, .int x2] : List Value).toArray below meth c H locs 0 0 Q (F0 m 55 ls [.int (bI z1), .ref (ad_md 0)]) := by
    intro md y1 y2 y3 z1 H locs ls hf hP hD hS hl
    rw [f_Model_add_55] at hf
    refine lv_iconst (v := (0 : Int32)) hx hb d_Model_add_55 (by decide) ?_
    exact w_56 md y1 y2 y3 z1 false H locs ls hf hP hD hS (lv_sub hl [0, 1, 2, 3] rfl)
  have w_30 : ∀ (md : SModel) (y1 : Int32) (y2 : Int32) (y3 : Int32) (z1 : Bool) (H : Heap) (locs : List Loc) (ls : Array Slot), f_Model_add_30 md y1 y2 y3 z1 = some res → va_P (dC, dI) vwCl (uw_Model ad_md cA_md md) H → va_D A (uw_Model ad_md cA_md md) → va_S A s.heap H locs → lv_has ls 6 [(0, .ref (ad_md 0)), (1, .int y1), (2, .int y2), (3, .int y3)] → W p l e (headSpec w_Model_add ({ frames := 1, cells := 0, slots := 0, locals := 24 })).room s m ([.ref (ad_md 0), .int x1, .int x2] : List Value).toArray below meth c H locs 0 0 Q (F0 m 30 ls [.int (bI z1), .ref (ad_md 0)]) := by
    intro md y1 y2 y3 z1 H locs ls hf hP hD hS hl
    rw [f_Model_add_30] at hf
    refine lv_iload_n hx hb d_Model_add_30 rfl (lv_at hl 1 rfl) ?_
    refine lv_iconst (v := (1 : Int32)) hx hb d_Model_add_31 (by decide) ?_
    refine lv_sipush (v := (9999 : Int32)) hx hb d_Model_add_32 (by decide) ?_
    obtain ⟨u5, hu5, hf⟩ := Option.bind_eq_some_iff.mp hf
    refine cl_i (wc := []) (wr := (uw_Model ad_md cA_md md)) (tysC := []) (wu := fun (u : Unit) => []) (wn := fun (u : Unit) => (uw_Model ad_md cA_md md)) [] [0, 1, 2, 3, 4, 5, 6, 7, 8, 9, 10, 11, 12, 13] [0, 1, 2, 3, 4, 5, 6, 7, 8, 9, 10, 11, 12, 13] [] hP hD hS hA hK rfl rfl (by decide +kernel) (by decide +kernel) (by decide +kernel) rfl (fun _ => rfl) (by decide +kernel) (fun hPc hKc hDc => (va_runS (As := [.int y1, .int (1 : Int32), .int (9999 : Int32)]) (rest := [.int (bI z1), .ref (ad_md 0)]) ⟨hx, hb, hml, hown, hts⟩ (k_Model_within l dC dI  H.size y1 (1 : Int32) (9999 : Int32) u5 hu5) (cwS 3 hts (gS wd_847 wd_848 wd_49 wd_849) rfl rfl rfl (by decide +kernel) ⟨Nat.le_of_ble_eq_true rfl, Nat.le_of_ble_eq_true rfl⟩) (cl_preS hPc hKc hDc hN) rfl rfl hl.1 rfl (lv_room (Nat.le_of_ble_eq_true rfl)) d_Model_add_35 ⟨Nat.le_of_ble_eq_true rfl, Nat.le_of_ble_eq_true rfl⟩)) (fun r u H locs hw hP hD hS => ?_)
    have hw := hw.symm
    subst hw
    have hP : va_P (dC, dI) vwCl (uw_Model ad_md cA_md md) H := hP
    have hD : va_D A (uw_Model ad_md cA_md md) := hD
    refine lv_if_eq (tgt := 55) hx hb d_Model_add_38 (by decide) (fun hc6 => ?_) (fun hc6 => ?_)
    · have hf := hf_t hf hc6
      exact w_55 md y1 y2 y3 z1 H locs ls hf hP hD hS (lv_sub hl [0, 1, 2, 3] rfl)
    · have hf := hf_f hf hc6
      refine lv_iload_n hx hb d_Model_add_41 rfl (lv_at hl 2 rfl) ?_
      refine lv_iconst (v := (1 : Int32)) hx hb d_Model_add_42 (by decide) ?_
      refine lv_ldc (v := (100000 : Int32)) hx hb hown (hts _ (List.mem_cons_of_mem _ wd_945)) d_Model_add_43 ?_
      obtain ⟨u7, hu7, hf⟩ := Option.bind_eq_some_iff.mp hf
      refine cl_i (wc := []) (wr := (uw_Model ad_md cA_md md)) (tysC := []) (wu := fun (u : Unit) => []) (wn := fun (u : Unit) => (uw_Model ad_md cA_md md)) [] [0, 1, 2, 3, 4, 5, 6, 7, 8, 9, 10, 11, 12, 13] [0, 1, 2, 3, 4, 5, 6, 7, 8, 9, 10, 11, 12, 13] [] hP hD hS hA hK rfl rfl (by decide +kernel) (by decide +kernel) (by decide +kernel) rfl (fun _ => rfl) (by decide +kernel) (fun hPc hKc hDc => (va_runS (As := [.int y2, .int (1 : Int32), .int (100000 : Int32)]) (rest := [.int (bI z1), .ref (ad_md 0)]) ⟨hx, hb, hml, hown, hts⟩ (k_Model_within l dC dI  H.size y2 (1 : Int32) (100000 : Int32) u7 hu7) (cwS 3 hts (gS wd_847 wd_848 wd_49 wd_849) rfl rfl rfl (by decide +kernel) ⟨Nat.le_of_ble_eq_true rfl, Nat.le_of_ble_eq_true rfl⟩) (cl_preS hPc hKc hDc hN) rfl rfl hl.1 rfl (lv_room (Nat.le_of_ble_eq_true rfl)) d_Model_add_45 ⟨Nat.le_of_ble_eq_true rfl, Nat.le_of_ble_eq_true rfl⟩)) (fun r u H locs hw hP hD hS => ?_)
      have hw := hw.symm
      subst hw
      have hP : va_P (dC, dI) vwCl (uw_Model ad_md cA_md md) H := hP
      have hD : va_D A (uw_Model ad_md cA_md md) := hD
      refine lv_if_eq (tgt := 55) hx hb d_Model_add_48 (by decide) (fun hc8 => ?_) (fun hc8 => ?_)
      · have hf := hf_t hf hc8
        exact w_55 md y1 y2 y3 z1 H locs ls hf hP hD hS (lv_sub hl [0, 1, 2, 3] rfl)
      · have hf := hf_f hf hc8
        refine lv_iconst (v := (1 : Int32)) hx hb d_Model_add_51 (by decide) ?_
        refine lv_goto (tgt := 56) hx hb d_Model_add_52 (by decide) ?_
        exact w_56 md y1 y2 y3 z1 true H locs ls hf hP hD hS (lv_sub hl [0, 1, 2, 3] rfl)
  have w_20 : ∀ (md : SModel) (y1 : Int32) (y2 : Int32) (y3 : Int32) (H : Heap) (locs : List Loc) (ls : Array Slot), f_Model_add_20 md y1 y2 y3 = some res → va_P (dC, dI) vwCl (uw_Model ad_md cA_md md) H → va_D A (uw_Model ad_md cA_md md) → va_S A s.heap H locs → lv_has ls 6 [(0, .ref (ad_md 0)), (1, .int y1), (2, .int y2), (3, .int y3)] → W p l e (headSpec w_Model_add ({ frames := 1, cells := 0, slots := 0, locals := 24 })).room s m ([.ref (ad_md 0), .int x1, .int x2] : List Value).toArray below meth c H locs 0 0 Q (F0 m 20 ls []) := by
    intro md y1 y2 y3 H locs ls hf hP hD hS hl
    rw [f_Model_add_20] at hf
    refine lv_aload_n hx hb d_Model_add_20 rfl (lv_at hl 0 rfl) ?_
    refine lv_iload_n hx hb d_Model_add_21 rfl (lv_at hl 3 rfl) ?_
    refine lv_if_lt (tgt := 29) hx hb d_Model_add_22 (by decide) (fun hc4 => ?_) (fun hc4 => ?_)
    · have hf := hf_t hf hc4
      refine lv_iconst (v := (0 : Int32)) hx hb d_Model_add_29 (by decide) ?_
      exact w_30 md y1 y2 y3 false H locs ls hf hP hD hS (lv_sub hl [0, 1, 2, 3] rfl)
    · have hf := hf_f hf hc4
      refine lv_iconst (v := (1 : Int32)) hx hb d_Model_add_25 (by decide) ?_
      refine lv_goto (tgt := 30) hx hb d_Model_add_26 (by decide) ?_
      exact w_30 md y1 y2 y3 true H locs ls hf hP hD hS (lv_sub hl [0, 1, 2, 3] rfl)
  have hl := lv_entry ([.ref (ad_md 0), .int x1, .int x2]) (n := 6) (Nat.le_of_ble_eq_true rfl)
  rw [lg_entry_eq]
  generalize (lg_sl ([.ref (ad_md 0), .int x1, .int x2]) ++ List.replicate (6 - (lg_sl ([.ref (ad_md 0), .int x1, .int x2])).length) Slot.unset).toArray = ls at hl ⊢
  have hl : lv_has ls 6 [(0, .ref (ad_md 0)), (1, .int x1), (2, .int x2)] := hl
  have hf := hf
  rw [f_Model_add] at hf
  obtain ⟨H, hH⟩ : ∃ H : Heap, H = s.heap := ⟨_, rfl⟩
  obtain ⟨locs, hlocs⟩ : ∃ L : List Loc, L = [] := ⟨_, rfl⟩
  have hP : va_P (dC, dI) vwCl (uw_Model ad_md cA_md md) H := by rw [hH]; exact hP
  have hS : va_S A s.heap H locs := by rw [hH, hlocs]; exact hS
  show W p l e (headSpec w_Model_add ({ frames := 1, cells := 0, slots := 0, locals := 24 })).room s m ([.ref (ad_md 0), .int x1, .int x2] : List Value).toArray below meth c s.heap [] 0 0 Q (F0 m 0 ls [])
  suffices hgo : W p l e (headSpec w_Model_add ({ frames := 1, cells := 0, slots := 0, locals := 24 })).room s m ([.ref (ad_md 0), .int x1, .int x2] : List Value).toArray below meth c H locs 0 0 Q (F0 m 0 ls []) by rw [hH, hlocs] at hgo; exact hgo
  clear hH hlocs
  refine lv_aload_n hx hb d_Model_add_0 rfl (lv_at hl 0 rfl) ?_
  refine lv_iload_n hx hb d_Model_add_1 rfl (lv_at hl 1 rfl) ?_
  obtain ⟨u1, hu1, hf⟩ := Option.bind_eq_some_iff.mp hf
  refine cl_i (wc := (uw_Model ad_md cA_md md)) (wr := []) (tysC := [(cA_md 1, .int), (cA_md 2, .int), (cA_md 3, .int), (cA_md 4, .int), (cA_md 5, .int), (cA_md 6, .int), (cA_md 7, .int), (cA_md 8, .int), (cA_md 9, .boolean), (cA_md 10, .int), (cA_md 11, .int), (cA_md 12, .int), (cA_md 13, .int)]) (wu := fun (u : Unit) => (uw_Model ad_md cA_md md)) (wn := fun (u : Unit) => (uw_Model ad_md cA_md md)) [0, 1, 2, 3, 4, 5, 6, 7, 8, 9, 10, 11, 12, 13] [] [0, 1, 2, 3, 4, 5, 6, 7, 8, 9, 10, 11, 12, 13] [0, 1, 2, 3, 4, 5, 6, 7, 8, 9, 10, 11, 12] hP hD hS hA hK rfl rfl (by decide +kernel) (by decide +kernel) (by decide +kernel) rfl (fun _ => rfl) (by decide +kernel) (fun hPc hKc hDc => (va_runV (As := [.int x1]) (rest := []) ⟨hx, hb, hml, hown, hts⟩ (k_Model_find l dC dI ad_md cA_md H.size md x1 u1 hu1) (cwV 1 hts (gV wd_914 wd_916 wd_34 wd_49 wd_917) rfl rfl rfl (by decide +kernel) ⟨Nat.le_of_ble_eq_true rfl, Nat.le_of_ble_eq_true rfl⟩) (cl_preV hPc hKc hDc hN (ci := 6) 0 rfl rfl) rfl rfl hl.1 rfl (lv_room (Nat.le_of_ble_eq_true rfl)) d_Model_add_2 ⟨Nat.le_of_ble_eq_true rfl, Nat.le_of_ble_eq_true rfl⟩)) (fun r u H locs hw hP hD hS => ?_)
  have hw := hw.symm
  subst hw
  have hP : va_P (dC, dI) vwCl (uw_Model ad_md cA_md md) H := hP
  have hD : va_D A (uw_Model ad_md cA_md md) := hD
  refine lv_istore_n (lv' := [(3, .int u1), (0, .ref (ad_md 0)), (1, .int x1), (2, .int x2)]) hx hb d_Model_add_5 rfl hl (by decide) rfl (fun ls hl => ?_)
  refine lv_iload_n hx hb d_Model_add_6 rfl (lv_at hl 0 rfl) ?_
  refine lv_if_ge (tgt := 20) hx hb d_Model_add_7 (by decide) (fun hc2 => ?_) (fun hc2 => ?_)
  · have hf := hf_t hf hc2
    exact w_20 md x1 x2 u1 H locs ls hf hP hD hS (lv_sub hl [1, 2, 3, 0] rfl)
  · have hf := hf_f hf hc2
    refine lv_aload_n hx hb d_Model_add_10 rfl (lv_at hl 1 rfl) ?_
    refine va_get (D := (dC, dI)) (ci := 6) (v := .int (bI md.2.2.2.1.2.1)) (C := "HazardTablesModel") (T := F_Model) (N := 30) hx hb hts hin_Model hown hK hP 0 rfl rfl 5 (by decide) fl_131 (fun _ h9 => h9) rfl d_Model_add_11 ?_
    refine lv_if_eq (tgt := 20) hx hb d_Model_add_14 (by decide) (fun hc3 => ?_) (fun hc3 => ?_)
    · have hf := hf_t hf hc3
      exact w_20 md x1 x2 u1 H locs ls hf hP hD hS (lv_sub hl [1, 2, 3, 0] rfl)
    · have hf := hf_f hf hc3
      refine lv_bipush (v := (12 : Int32)) hx hb d_Model_add_17 (by decide) ?_
      refine lv_istore_n (lv' := [(3, .int (12 : Int32)), (0, .ref (ad_md 0)), (1, .int x1), (2, .int x2)]) hx hb d_Model_add_19 rfl hl (by decide) rfl (fun ls hl => ?_)
      exact w_20 md x1 x2 (12 : Int32) H locs ls hf hP hD hS (lv_sub hl [1, 2, 3, 0] rfl)
