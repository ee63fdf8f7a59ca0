noncomputable def f_Model_material_46  (md : SModel) (y2 : Int32) (y3 : Int32) (z1 : Bool) : Option (Int32 × SModel) :=
  (Option.bind (f_Model_goes md z1 true true) fun u7 =>
    (if (bI u7.1) = 0 then
      (some ((0 : Int32), u7.2))
     else
      (if (3 : Int32) ≤ y2 then
        (if (7 : Int32) ≤ y2 then
          (if y2 = (7 : Int32) then
            (if inb ((y3 * (43 : Int32)) + (8 : Int32)) 559 then
              (some (u7.2.2.2.2.1.2.2 ((y3 * (43 : Int32)) + (8 : Int32)).toNatClampNeg, u7.2))
             else none)
           else
            (if inb ((y3 * (43 : Int32)) + (9 : Int32)) 559 then
              (some (u7.2.2.2.2.1.2.2 ((y3 * (43 : Int32)) + (9 : Int32)).toNatClampNeg, u7.2))
             else none)
           )
         else
          (if inb ((y3 * (43 : Int32)) + (((4 : Int32) + y2) - (3 : Int32))) 559 then
            (some (u7.2.2.2.2.1.2.2 ((y3 * (43 : Int32)) + (((4 : Int32) + y2) - (3 : Int32))).toNatClampNeg, u7.2))
           else none)
         )
       else
        (if inb ((y3 * (43 : Int32)) + ((1 : Int32) + y2)) 559 then
          (some (u7.2.2.2.2.1.2.2 ((y3 * (43 : Int32)) + ((1 : Int32) + y2)).toNatClampNeg, u7.2))
         else none)
       )
     )
   )
noncomputable def f_Model_material_45  (md : SModel) (y2 : Int32) (y3 : Int32) : Option (Int32 × SModel) :=
  (f_Model_material_46 md y2 y3 false)
noncomputable def f_Model_material_25  (md : SModel) (y2 : Int32) (z0 : Int32) : Option (Int32 × SModel) :=
  (if z0 < 0 then
    (f_Model_material_45 md y2 z0)
   else
    (Option.bind (f_Model_within y2 (0 : Int32) (8 : Int32)) fun u5 =>
      (if (bI u5) = 0 then
        (f_Model_material_45 md y2 z0)
       else
        (f_Model_material_46 md y2 z0 true)
       )
     )
   )
noncomputable def f_Model_material (md : SModel) (x1 : Int32) (x2 : Int32) : Option (Int32 × SModel) :=
  (if x1 = 0 then
    (if (bI md.2.2.2.1.2.1) = 0 then
      (f_Model_material_25 md x2 (-1 : Int32))
     else
      (f_Model_material_25 md x2 (12 : Int32))
     )
   else
    (Option.bind (f_Model_find md x1) fun u2 =>
      (f_Model_material_25 md x2 u2)
     )
   )
set_option maxHeartbeats 4000000 in
set_option maxRecDepth 100000 in
theorem k_Model_material (l : Launch) (dC : Nat → ClassId) (dI : Nat → Nat → Nat) (ad_md : Nat → Nat) (cA_md : Nat → ClassId) (sz : Nat) (md : SModel) (x1 : Int32) (x2 : Int32) (res : Int32 × SModel) (hf : f_Model_material md x1 x2 = some res) : Met l y_Model_material w_Model_material ({ frames := 1, cells := 0, slots := 0, locals := 23 }) (cPc (dC, dI) (uw_Model ad_md cA_md md) [(cA_md 1, .int), (cA_md 2, .int), (cA_md 3, .int), (cA_md 4, .int), (cA_md 5, .int), (cA_md 6, .int), (cA_md 7, .int), (cA_md 8, .int), (cA_md 9, .boolean), (cA_md 10, .int), (cA_md 11, .int), (cA_md 12, .int), (cA_md 13, .int)] sz [.ref (ad_md 0), .int x1, .int x2]) (va_Qi (fun (r : Int32) (u : SModel) => r = res.1 ∧ u = res.2) (fun (u : SModel) (t : State) => va_P (dC, dI) vwCl (uw_Model ad_md cA_md u) t.heap ∧ va_K (dC, dI) vwCl [(cA_md 1, .int), (cA_md 2, .int), (cA_md 3, .int), (cA_md 4, .int), (cA_md 5, .int), (cA_md 6, .int), (cA_md 7, .int), (cA_md 8, .int), (cA_md 9, .boolean), (cA_md 10, .int), (cA_md 11, .int), (cA_md 12, .int), (cA_md 13, .int)] t ∧ va_D (va_A (uw_Model ad_md cA_md md) sz) (uw_Model ad_md cA_md u)) (va_A (uw_Model ad_md cA_md md) sz)) 0 0 (va_A (uw_Model ad_md cA_md md) sz) := by
  refine Met.ofW (cc := b_Model_material) (maxL := 4) (ret := (some .int)) (by decide) rfl ?_
  intro p e s m args below meth c s₁ B hml hv
  obtain ⟨rfl, hsz, hP, hK, hD0, hN⟩ := hv
  have hx := B.exec
  have hb := B.bytes
  have hr := B.returns
  have hts := atoms_spec (ws := w_Model_material) B.pre
  have hown : s.vm.findClass "HazardTablesModel" = some m.cls := findClass_of_methodNamed B.named
  have hlocks := B.notSynchronized
  subst hsz
  have hD := hD0.self (sz := s.heap.size)
  generalize hAe : va_A (uw_Model ad_md cA_md md) s.heap.size = A at hD ⊢
  have hA : ∀ q : Nat, s.heap.size ≤ q → A q := fun q h => by rw [← hAe]; exact Or.inr h
  have hS : va_S A s.heap s.heap [] := va_S.rf
  have hP : va_P (dC, dI) vwCl (uw_Model ad_md cA_md md) s.heap := hP
  have fl_131 := (hts _ (List.mem_cons_of_mem _ wd_753))
  have fl_17 := (hts _ (List.mem_cons_of_mem _ wd_754))
  have hin_Model : ∀ w ∈ u_ws "HazardTablesModel" F_Model 30, w ∈ w_Model_material := fun w h => List.mem_cons_of_mem _ (hinA_Model w h)
  have ret : ∀ (v : Int32) (u : SModel) (H : Heap) (locs : List Loc) (ls : Array Slot) (pc : Nat), decode b_Model_material pc = .ok (.ireturn, 1) → (v = res.1 ∧ u = res.2) → va_P (dC, dI) vwCl (uw_Model ad_md cA_md u) H → va_D A (uw_Model ad_md cA_md u) → va_S A s.heap H locs → W p l e (headSpec w_Model_material ({ frames := 1, cells := 0, slots := 0, locals := 23 })).room s m ([.ref (ad_md 0), .int x1, .int x2] : List Value).toArray below meth c H locs 0 0 (MQ below (va_Qi (fun (r : Int32) (u : SModel) => r = res.1 ∧ u = res.2) (fun (u : SModel) (t : State) => va_P (dC, dI) vwCl (uw_Model ad_md cA_md u) t.heap ∧ va_K (dC, dI) vwCl [(cA_md 1, .int), (cA_md 2, .int), (cA_md 3, .int), (cA_md 4, .int), (cA_md 5, .int), (cA_md 6, .int), (cA_md 7, .int), (cA_md 8, .int), (cA_md 9, .boolean), (cA_md 10, .int), (cA_md 11, .int), (cA_md 12, .int), (cA_md 13, .int)] t ∧ va_D A (uw_Model ad_md cA_md u)) A) ([.ref (ad_md 0), .int x1, .int x2] : List Value).toArray s 0 0 A) (F0 m pc ls [.int v]) := fun v u H locs ls pc hd hp hP hD hS => W.iret (v := v) hx hb hr (fun t ht hW => ⟨⟨v, u, rfl, hp, by rw [ht]; exact hP, va_K.moved hW.alike hK, hD⟩, hS.F ht⟩) hS.2.2 hd
  generalize (MQ below (va_Qi (fun (r : Int32) (u : SModel) => r = res.1 ∧ u = res.2) (fun (u : SModel) (t : State) => va_P (dC, dI) vwCl (uw_Model ad_md cA_md u) t.heap ∧ va_K (dC, dI) vwCl [(cA_md 1, .int), (cA_md 2, .int), (cA_md 3, .int), (cA_md 4, .int), (cA_md 5, .int), (cA_md 6, .int), (cA_md 7, .int), (cA_md 8, .int), (cA_md 9, .boolean), (cA_md 10, .int), (cA_md 11, .int), (cA_md 12, .int), (cA_md 13, .int)] t ∧ va_D A (uw_Model ad_md cA_md u)) A) ([.ref (ad_md 0), .int x1, .int x2] : List Value).toArray s 0 0 A) = Q at ret ⊢
  have w_46 : ∀ (md : SModel) (y2 : Int32) (y3 : Int32) (z1 : Bool) (H : Heap) (locs : List Loc) (ls : Array Slot), f_Model_material_46 md y2 y3 z1 = some res → va_P (dC, dI) vwCl (uw_Model ad_md cA_md md) H → va_D A (uw_Model ad_md cA_md md) → va_S A s.heap H locs → lv_has ls 4 [(0, .ref (ad_md 0)), (2, .int y2), (3, .int y3)] → W p l e (headSpec w_Model_material ({ frames := 1, cells := 0, slots := 0, locals := 23 })).room s m ([.ref (ad_md 0), .int x1, .int x2] : List Value).toArray below meth c H locs 0 0 Q (F0 m 46 ls [.int (bI z1), .ref (ad_md 0)]) := by
    intro md y2 y3 z1 H locs ls hf hP hD hS hl
    rw [f_Model_material_46] at hf
    refine lv_iconst (v := (1 : Int32)) hx hb d_Model_material_46 (by decide) ?_
    refine lv_iconst (v := (1 : Int32)) hx hb d_Model_material_47 (by decide) ?_
    obtain ⟨u7, hu7, hf⟩ := Option.bind_eq_some_iff.mp hf
    refine cl_i (wc := (uw_Model ad_md cA_md md)) (wr := []) (tysC := [(cA_md 1, .int), (cA_md 2, .int), (cA_md 3, .int), (cA_md 4, .int), (cA_md 5, .int), (cA_md 6, .int), (cA_md 7, .int), (cA_md 8, .int), (cA_md 9, .boolean), (cA_md 10, .int), (cA_md 11, .int), (cA_md 12, .int), (cA_md 13, .int)]) (wu := fun (u : SModel) => (uw_Model ad_md cA_md u)) (wn := fun (u : SModel) => (uw_Model ad_md cA_md u)) [0, 1, 2, 3, 4, 5, 6, 7, 8, 9, 10, 11, 12, 13] [] [0, 1, 2, 3, 4, 5, 6, 7, 8, 9, 10, 11, 12, 13] [0, 1, 2, 3, 4, 5, 6, 7, 8, 9, 10, 11, 12] hP hD hS hA hK rfl rfl (by decide +kernel) (by decide +kernel) (by decide +kernel) rfl (fun _ => rfl) (by decide +kernel) (fun hPc hKc hDc => (va_runV (As := [.int (bI z1), .int (1 : Int32), .int (1 : Int32)]) (rest := []) ⟨hx, hb, hml, hown, hts⟩ (k_Model_goes l dC dI ad_md cA_md H.size md z1 true true u7 hu7) (cwV 3 hts (gV wd_850 wd_852 wd_22 wd_49 wd_853) rfl rfl rfl (by decide +kernel) ⟨Nat.le_of_ble_eq_true rfl, Nat.le_of_ble_eq_true rfl⟩) (cl_preV hPc hKc hDc hN (ci := 6) 0 rfl rfl) rfl rfl hl.1 rfl (lv_room (Nat.le_of_ble_eq_true rfl)) d_Model_material_48 ⟨Nat.le_of_ble_eq_true rfl, Nat.le_of_ble_eq_true rfl⟩)) (fun r u H locs hw hP hD hS => ?_)
    obtain ⟨hw1, hw2⟩ := hw
    have hw1 := hw1.symm
    have hw2 := hw2.symm
    subst hw1
    subst hw2
    have hP : va_P (dC, dI) vwCl (uw_Model ad_md cA_md u7.2) H := hP
    have hD : va_D A (uw_Model ad_md cA_md u7.2) := hD
    refine lv_if_ne (tgt := 56) hx hb d_Model_material_51 (by decide) (fun hc8 => ?_) (fun hc8 => ?_)
    · have hf := hf_f hf hc8
      refine lv_aload_n hx hb d_Model_material_56 rfl (lv_at hl 0 rfl) ?_
      refine va_get (D := (dC, dI)) (ci := 6) (v := .ref (ad_md 2)) (C := "HazardTablesModel") (T := F_Model) (N := 30) hx hb hts hin_Model hown hK hP 0 rfl rfl 6 (by decide) fl_17 (fun _ h9 => h9) rfl d_Model_material_57 ?_
      refine lv_iload_n hx hb d_Model_material_60 rfl (lv_at hl 2 rfl) ?_
      refine lv_bipush (v := (43 : Int32)) hx hb d_Model_material_61 (by decide) ?_
      refine lv_imul hx hb d_Model_material_63 ?_
      refine lv_iload_n hx hb d_Model_material_64 rfl (lv_at hl 1 rfl) ?_
      refine lv_iconst (v := (3 : Int32)) hx hb d_Model_material_65 (by decide) ?_
      refine lv_icmp_ge (tgt := 75) hx hb d_Model_material_66 (by decide) (fun hc9 => ?_) (fun hc9 => ?_)
      · have hf := hf_t hf hc9
        refine lv_iload_n hx hb d_Model_material_75 rfl (lv_at hl 1 rfl) ?_
        refine lv_bipush (v := (7 : Int32)) hx hb d_Model_material_76 (by decide) ?_
        refine lv_icmp_ge (tgt := 89) hx hb d_Model_material_78 (by decide) (fun hc10 => ?_) (fun hc10 => ?_)
        · have hf := hf_t hf hc10
          refine lv_iload_n hx hb d_Model_material_89 rfl (lv_at hl 1 rfl) ?_
          refine lv_bipush (v := (7 : Int32)) hx hb d_Model_material_90 (by decide) ?_
          refine lv_icmp_ne (tgt := 100) hx hb d_Model_material_92 (by decide) (fun hc11 => ?_) (fun hc11 => ?_)
          · have hf := hf_f hf hc11
            refine lv_bipush (v := (9 : Int32)) hx hb d_Model_material_100 (by decide) ?_
            refine lv_iadd hx hb d_Model_material_102 ?_
            obtain ⟨hi12, hf⟩ := hf_g hf
            refine va_iald hx hb hK hP 2 1 rfl rfl hi12 d_Model_material_103 ?_
            exact ret (u7.2.2.2.2.1.2.2 ((y3 * (43 : Int32)) + (9 : Int32)).toNatClampNeg) u7.2 H locs ls 104 d_Model_material_104 (hf_e hf) hP hD hS
          · have hf := hf_t hf hc11
            refine lv_bipush (v := (8 : Int32)) hx hb d_Model_material_95 (by decide) ?_
            refine lv_goto (tgt := 102) hx hb d_Model_material_97 (by decide) ?_
            refine lv_iadd hx hb d_Model_material_102 ?_
            obtain ⟨hi13, hf⟩ := hf_g hf
            refine va_iald hx hb hK hP 2 1 rfl rfl hi13 d_Model_material_103 ?_
            exact ret (u7.2.2.2.2.1.2.2 ((y3 * (43 : Int32)) + (8 : Int32)).toNatClampNeg) u7.2 H locs ls 104 d_Model_material_104 (hf_e hf) hP hD hS
        · have hf := hf_f hf hc10
          refine lv_iconst (v := (4 : Int32)) hx hb d_Model_material_81 (by decide) ?_
          refine lv_iload_n hx hb d_Model_material_82 rfl (lv_at hl 1 rfl) ?_
          refine lv_iadd hx hb d_Model_material_83 ?_
          refine lv_iconst (v := (3 : Int32)) hx hb d_Model_material_84 (by decide) ?_
          refine lv_isub hx hb d_Model_material_85 ?_
          refine lv_goto (tgt := 102) hx hb d_Model_material_86 (by decide) ?_
          refine lv_iadd hx hb d_Model_material_102 ?_
          obtain ⟨hi14, hf⟩ := hf_g hf
          refine va_iald hx hb hK hP 2 1 rfl rfl hi14 d_Model_material_103 ?_
          exact ret (u7.2.2.2.2.1.2.2 ((y3 * (43 : Int32)) + (((4 : Int32) + y2) - (3 : Int32))).toNatClampNeg) u7.2 H locs ls 104 d_Model_material_104 (hf_e hf) hP hD hS
      · have hf := hf_f hf hc9
        refine lv_iconst (v := (1 : Int32)) hx hb d_Model_material_69 (by decide) ?_
        refine lv_iload_n hx hb d_Model_material_70 rfl (lv_at hl 1 rfl) ?_
        refine lv_iadd hx hb d_Model_material_71 ?_
        refine lv_goto (tgt := 102) hx hb d_Model_material_72 (by decide) ?_
        refine lv_iadd hx hb d_Model_material_102 ?_
        obtain ⟨hi15, hf⟩ := hf_g hf
        refine va_iald hx hb hK hP 2 1 rfl rfl hi15 d_Model_material_103 ?_
        exact ret (u7.2.2.2.2.1.2.2 ((y3 * (43 : Int32)) + ((1 : Int32) + y2)).toNatClampNeg) u7.2 H locs ls 104 d_Model_material_104 (hf_e hf) hP hD hS
    · have hf := hf_t hf hc8
      refine lv_iconst (v := (0 : Int32)) hx hb d_Model_material_54 (by decide) ?_
      exact ret (0 : Int32) u7.2 H locs ls 55 d_Model_material_55 (hf_e hf) hP hD hS
  have w_45 : ∀ (md : SModel) (y2 : Int32) (y3 : Int32) (H : Heap) (locs : List Loc) (ls : Array Slot), f_Model_material_45 md y2 y3 = some res → va_P (dC, dI) vwCl (uw_Model ad_md cA_md md) H → va_D A (uw_Model ad_md cA_md md) → va_S A s.heap H locs → lv_has ls 4 [(0, .ref (ad_md 0)), (2, .int y2), (3, .int y3)] → W p l e (headSpec w_Model_material ({ frames := 1, cells := 0, slots := 0, locals := 23 })).room s m ([.ref (ad_md 0), .int x1, .int x2] : List Value).toArray below meth c H locs 0 0 Q (F0 m 45 ls [.ref (ad_md 0)]) := by
    intro md y2 y3 H locs ls hf hP hD hS hl
    rw [f_Model_material_45] at hf
    refine lv_iconst (v := (0 : Int32)) hx hb d_Model_material_45 (by decide) ?_
    exact w_46 md y2 y3 false H locs ls hf hP hD hS (lv_sub hl [0, 1, 2] rfl)
  have w_25 : ∀ (md : SModel) (y2 : Int32) (z0 : Int32) (H : Heap) (locs : List Loc) (ls : Array Slot), f_Model_material_25 md y2 z0 = some res → va_P (dC, dI) vwCl (uw_Model ad_md cA_md md) H → va_D A (uw_Model ad_md cA_md md) → va_S A s.heap H locs → lv_has ls 4 [(0, .ref (ad_md 0)), (2, .int y2)] → W p l e (headSpec w_Model_material ({ frames := 1, cells := 0, slots := 0, locals := 23 })).room s m ([.ref (ad_md 0), .int x1, .int x2] : List Value).toArray below meth c H locs 0 0 Q (F0 m 25 ls [.int z0]) := by
    intro md y2 z0 H locs ls hf hP hD hS hl
    rw [f_Model_material_25] at hf
    refine lv_istore_n (lv' := [(3, .int z0), (0, .ref (ad_md 0)), (2, .int y2)]) hx hb d_Model_material_25 rfl hl (by decide) rfl (fun ls hl => ?_)
    refine lv_aload_n hx hb d_Model_material_26 rfl (lv_at hl 1 rfl) ?_
    refine lv_iload_n hx hb d_Model_material_27 rfl (lv_at hl 0 rfl) ?_
    refine lv_if_lt (tgt := 45) hx hb d_Model_material_28 (by decide) (fun hc4 => ?_) (fun hc4 => ?_)
    · have hf := hf_t hf hc4
      exact w_45 md y2 z0 H locs ls hf hP hD hS (lv_sub hl [1, 2, 0] rfl)
    · have hf := hf_f hf hc4
      refine lv_iload_n hx hb d_Model_material_31 rfl (lv_at hl 2 rfl) ?_
      refine lv_iconst (v := (0 : Int32)) hx hb d_Model_material_32 (by decide) ?_
      refine lv_bipush (v := (8 : Int32)) hx hb d_Model_material_33 (by decide) ?_
      obtain ⟨u5, hu5, hf⟩ := Option.bind_eq_some_iff.mp hf
      refine cl_i (wc := []) (wr := (uw_Model ad_md cA_md md)) (tysC := []) (wu := fun (u : Unit) => []) (wn := fun (u : Unit) => (uw_Model ad_md cA_md md)) [] [0, 1, 2, 3, 4, 5, 6, 7, 8, 9, 10, 11, 12, 13] [0, 1, 2, 3, 4, 5, 6, 7, 8, 9, 10, 11, 12, 13] [] hP hD hS hA hK rfl rfl (by decide +kernel) (by decide +kernel) (by decide +kernel) rfl (fun _ => rfl) (by decide +kernel) (fun hPc hKc hDc => (va_runS (As := [.int y2, .int (0 : Int32), .int (8 : Int32)]) (rest := [.ref (ad_md 0)]) ⟨hx, hb, hml, hown, hts⟩ (k_Model_within l dC dI  H.size y2 (0 : Int32) (8 : Int32) u5 hu5) (cwS 3 hts (gS wd_847 wd_848 wd_49 wd_849) rfl rfl rfl (by decide +kernel) ⟨Nat.le_of_ble_eq_true rfl, Nat.le_of_ble_eq_true rfl⟩) (cl_preS hPc hKc hDc hN) rfl rfl hl.1 rfl (lv_room (Nat.le_of_ble_eq_true rfl)) d_Model_material_35 ⟨Nat.le_of_ble_eq_true rfl, Nat.le_of_ble_eq_true rfl⟩)) (fun r u H locs hw hP hD hS => ?_)
      have hw := hw.symm
      subst hw
      have hP : va_P (dC, dI) vwCl (uw_Model ad_md cA_md md) H := hP
      have hD : va_D A (uw_Model ad_md cA_md md) := hD
      refine lv_if_eq (tgt := 45) hx hb d_Model_material_38 (by decide) (fun hc6 => ?_) (fun hc6 => ?_)
      · have hf := hf_t hf hc6
        exact w_45 md y2 z0 H locs ls hf hP hD hS (lv_sub hl [1, 2, 0] rfl)
      · have hf := hf_f hf hc6
        refine lv_iconst (v := (1 : Int32)) hx hb d_Model_material_41 (by decide) ?_
        refine lv_goto (tgt := 46) hx hb d_Model_material_42 (by decide) ?_
        exact w_46 md y2 z0 true H locs ls hf hP hD hS (lv_sub hl [1, 2, 0] rfl)
  have hl := lv_entry ([.ref (ad_md 0), .int x1, .int x2]) (n := 4) (Nat.le_of_ble_eq_true rfl)
  rw [lg_entry_eq]
  generalize (lg_sl ([.ref (ad_md 0), .int x1, .int x2]) ++ List.replicate (4 - (lg_sl ([.ref (ad_md 0), .int x1, .int x2])).length) Slot.unset).toArray = ls at hl ⊢
  have hl : lv_has ls 4 [(0, .ref (ad_md 0)), (1, .int x1), (2, .int x2)] := hl
  have hf := hf
  rw [f_Model_material] at hf
  obtain ⟨H, hH⟩ : ∃ H : Heap, H = s.heap := ⟨_, rfl⟩
  obtain ⟨locs, hlocs⟩ : ∃ L : List Loc, L = [] := ⟨_, rfl⟩
  have hP : va_P (dC, dI) vwCl (uw_Model ad_md cA_md md) H := by rw [hH]; exact hP
  have hS : va_S A s.heap H locs := by rw [hH, hlocs]; exact hS
  show W p l e (headSpec w_Model_material ({ frames := 1, cells := 0, slots := 0, locals := 23 })).room s m ([.ref (ad_md 0), .int x1, .int x2] : List Value).toArray below meth c s.heap [] 0 0 Q (F0 m 0 ls [])
  suffices hgo : W p l e (headSpec w_Model_material ({ frames := 1, cells := 0, slots := 0, locals := 23 })).room s m ([.ref (ad_md 0), .int x1, .int x2] : List Value).toArray below meth c H locs 0 0 Q (F0 m 0 ls []) by rw [hH, hlocs] at hgo; exact hgo
  clear hH hlocs
  refine lv_iload_n hx hb d_Model_material_0 rfl (lv_at hl 1 rfl) ?_
  refine lv_if_ne (tgt := 20) hx hb d_Model_material_1 (by decide) (fun hc1 => ?_) (fun hc1 => ?_)
  · have hf := hf_f hf hc1
    refine lv_aload_n hx hb d_Model_material_20 rfl (lv_at hl 0 rfl) ?_
    refine lv_iload_n hx hb d_Model_material_21 rfl (lv_at hl 1 rfl) ?_
    obtain ⟨u2, hu2, hf⟩ := Option.bind_eq_some_iff.mp hf
    refine cl_i (wc := (uw_Model ad_md cA_md md)) (wr := []) (tysC := [(cA_md 1, .int), (cA_md 2, .int), (cA_md 3, .int), (cA_md 4, .int), (cA_md 5, .int), (cA_md 6, .int), (cA_md 7, .int), (cA_md 8, .int), (cA_md 9, .boolean), (cA_md 10, .int), (cA_md 11, .int), (cA_md 12, .int), (cA_md 13, .int)]) (wu := fun (u : Unit) => (uw_Model ad_md cA_md md)) (wn := fun (u : Unit) => (uw_Model ad_md cA_md md)) [0, 1, 2, 3, 4, 5, 6, 7, 8, 9, 10, 11, 12, 13] [] [0, 1, 2, 3, 4, 5, 6, 7, 8, 9, 10, 11, 12, 13] [0, 1, 2, 3, 4, 5, 6, 7, 8, 9, 10, 11, 12] hP hD hS hA hK rfl rfl (by decide +kernel) (by decide +kernel) (by decide +kernel) rfl (fun _ => rfl) (by decide +kernel) (fun hPc hKc hDc => (va_runV (As := [.int x1]) (rest := []) ⟨hx, hb, hml, hown, hts⟩ (k_Model_find l dC dI ad_md cA_md H.size md x1 u2 hu2) (cwV 1 hts (gV wd_914 wd_916 wd_34 wd_49 wd_917) rfl rfl rfl (by decide +kernel) ⟨Nat.le_of_ble_eq_true rfl, Nat.le_of_ble_eq_true rfl⟩) (cl_preV hPc hKc hDc hN (ci := 6) 0 rfl rfl) rfl rfl hl.1 rfl (lv_room (Nat.le_of_ble_eq_true rfl)) d_Model_material_22 ⟨Nat.le_of_ble_eq_true rfl, Nat.le_of_ble_eq_true rfl⟩)) (fun r u H locs hw hP hD hS => ?_)
    have hw := hw.symm
    subst hw
    have hP : va_P (dC, dI) vwCl (uw_Model ad_md cA_md md) H := hP
    have hD : va_D A (uw_Model ad_md cA_md md) := hD
    exact w_25 md x2 u2 H locs ls hf hP hD hS (lv_sub hl [0, 2] rfl)
  · have hf := hf_t hf hc1
    refine lv_aload_n hx hb d_Model_material_4 rfl (lv_at hl 0 rfl) ?_
    refine va_get (D := (dC, dI)) (ci := 6) (v := .int (bI md.2.2.2.1.2.1)) (C := "HazardTablesModel") (T := F_Model) (N := 30) hx hb hts hin_Model hown hK hP 0 rfl rfl 5 (by decide) fl_131 (fun _ h9 => h9) rfl d_Model_material_5 ?_
    refine lv_if_eq (tgt := 16) hx hb d_Model_material_8 (by decide) (fun hc3 => ?_) (fun hc3 => ?_)
    · have hf := hf_t hf hc3
      refine lv_iconst (v := (-1 : Int32)) hx hb d_Model_material_16 (by decide) ?_
      refine lv_goto (tgt := 25) hx hb d_Model_material_17 (by decide) ?_
      exact w_25 md x2 (-1 : Int32) H locs ls hf hP hD hS (lv_sub hl [0, 2] rfl)
    · have hf := hf_f hf hc3
      refine lv_bipush (v := (12 : Int32)) hx hb d_Model_material_11 (by decide) ?_
      refine lv_goto (tgt := 25) hx hb d_Model_material_13 (by decide) ?_
      exact w_25 md x2 (12 : Int32) H locs ls hf hP hD hS (lv_sub hl [0, 2] rfl)
