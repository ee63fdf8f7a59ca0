noncomputable def f_Model_step_53  (md : SModel) (y1 : Int32) (z1 : Int32) (z2 : Int32) : Option (Int32 × SModel) :=
  (if z1 = z2 then
    (some ((1 : Int32), (md.1, md.2.1, md.2.2.1, md.2.2.2.1, (md.2.2.2.2.1.1, md.2.2.2.2.1.2.1, md.2.2.2.2.1.2.2.1, md.2.2.2.2.1.2.2.2.1, (1 : Int32)), md.2.2.2.2.2.1, md.2.2.2.2.2.2.1, md.2.2.2.2.2.2.2.1, md.2.2.2.2.2.2.2.2)))
   else
    (some (y1 + (1 : Int32), (md.1, md.2.1, md.2.2.1, md.2.2.2.1, (md.2.2.2.2.1.1, md.2.2.2.2.1.2.1, md.2.2.2.2.1.2.2.1, md.2.2.2.2.1.2.2.2.1, y1 + (1 : Int32)), md.2.2.2.2.2.1, md.2.2.2.2.2.2.1, md.2.2.2.2.2.2.2.1, md.2.2.2.2.2.2.2.2)))
   )
noncomputable def f_Model_step_28  (md : SModel) (y1 : Int32) (z1 : Bool) (z2 : Bool) : Option (Int32 × SModel) :=
  (Option.bind (f_Model_goes md z1 z2 true) fun u4 =>
    (if (bI u4.1) = 0 then
      (some ((0 : Int32), u4.2))
     else
      (Option.bind (f_Model_strictness u4.2) fun u6 =>
        (if (5 : Int32) ≤ u6 then
          (f_Model_step_53 u4.2 y1 y1 (6 : Int32))
         else
          (f_Model_step_53 u4.2 y1 y1 (3 : Int32))
         )
       )
     )
   )
noncomputable def f_Model_step_27  (md : SModel) (y1 : Int32) (z1 : Bool) : Option (Int32 × SModel) :=
  (f_Model_step_28 md y1 z1 false)
noncomputable def f_Model_step (md : SModel) (x1 : Int32) : Option (Int32 × SModel) :=
  (Option.bind (f_Model_within x1 (1 : Int32) (6 : Int32)) fun u1 =>
    (if md.2.2.2.2.1.1 ≤ 0 then
      (f_Model_step_27 md x1 u1)
     else
      (if x1 = md.2.2.2.2.1.2.2.2.2 then
        (f_Model_step_28 md x1 u1 true)
       else
        (f_Model_step_27 md x1 u1)
       )
     )
   )
set_option maxHeartbeats 4000000 in
set_option maxRecDepth 100000 in
theorem k_Model_step (l : Launch) (dC : Nat → ClassId) (dI : Nat → Nat → Nat) (ad_md : Nat → Nat) (cA_md : Nat → ClassId) (sz : Nat) (md : SModel) (x1 : Int32) (res : Int32 × SModel) (hf : f_Model_step md x1 = some res) : Met l y_Model_step w_Model_step ({ frames := 1, cells := 0, slots := 0, locals := 23 }) (cPc (dC, dI) (uw_Model ad_md cA_md md) [(cA_md 1, .int), (cA_md 2, .int), (cA_md 3, .int), (cA_md 4, .int), (cA_md 5, .int), (cA_md 6, .int), (cA_md 7, .int), (cA_md 8, .int), (cA_md 9, .boolean), (cA_md 10, .int), (cA_md 11, .int), (cA_md 12, .int), (cA_md 13, .int)] sz [.ref (ad_md 0), .int x1]) (va_Qi (fun (r : Int32) (u : SModel) => r = res.1 ∧ u = res.2) (fun (u : SModel) (t : State) => va_P (dC, dI) vwCl (uw_Model ad_md cA_md u) t.heap ∧ va_K (dC, dI) vwCl [(cA_md 1, .int), (cA_md 2, .int), (cA_md 3, .int), (cA_md 4, .int), (cA_md 5, .int), (cA_md 6, .int), (cA_md 7, .int), (cA_md 8, .int), (cA_md 9, .boolean), (cA_md 10, .int), (cA_md 11, .int), (cA_md 12, .int), (cA_md 13, .int)] t ∧ va_D (va_A (uw_Model ad_md cA_md md) sz) (uw_Model ad_md cA_md u)) (va_A (uw_Model ad_md cA_md md) sz)) 0 0 (va_A (uw_Model ad_md cA_md md) sz) := by
  refine Met.ofW (cc := b_Model_step) (maxL := 2) (ret := (some .int)) (by decide) rfl ?_
  intro p e s m args below meth c s₁ B hml hv
  obtain ⟨rfl, hsz, hP, hK, hD0, hN⟩ := hv
  have hx := B.exec
  have hb := B.bytes
  have hr := B.returns
  have hts := atoms_spec (ws := w_Model_step) B.pre
  have hown : s.vm.findClass "HazardTablesModel" = some m.cls := findClass_of_methodNamed B.named
  have hlocks := B.notSynchronized
  subst hsz
  have hD := hD0.self (sz := s.heap.size)
  generalize hAe : va_A (uw_Model ad_md cA_md md) s.heap.size = A at hD ⊢
  have hA : ∀ q : Nat, s.heap.size ≤ q → A q := fun q h => by rw [← hAe]; exact Or.inr h
  have hS : va_S A s.heap s.heap [] := va_S.rf
  have hP : va_P (dC, dI) vwCl (uw_Model ad_md cA_md md) s.heap := hP
  have fl_157 := (hts _ (List.mem_cons_of_mem _ wd_760))
  have fl_52 := (hts _ (List.mem_cons_of_mem _ wd_773))
  have hin_Model : ∀ w ∈ u_ws "HazardTablesModel" F_Model 30, w ∈ w_Model_step := fun w h => List.mem_cons_of_mem _ (hinA_Model w h)
  have ret : ∀ (v : Int32) (u : SModel) (H : Heap) (locs : List Loc) (ls : Array Slot) (pc : Nat), decode b_Model_step pc = .ok (.ireturn, 1) → (v = res.1 ∧ u = res.2) → va_P (dC, dI) vwCl (uw_Model ad_md cA_md u) H → va_D A (uw_Model ad_md cA_md u) → va_S A s.heap H locs → W p l e (headSpec w_Model_step ({ frames := 1, cells := 0, slots := 0, locals := 23 })).room s m ([.ref (ad_md 0), .int x1] : List Value).toArray below meth c H locs 0 0 (MQ below (va_Qi (fun (r : Int32) (u : SModel) => r = res.1 ∧ u = res.2) (fun (u : SModel) (t : State) => va_P (dC, dI) vwCl (uw_Model ad_md cA_md u) t.heap ∧ va_K (dC, dI) vwCl [(cA_md 1, .int), (cA_md 2, .int), (cA_md 3, .int), (cA_md 4, .int), (cA_md 5, .int), (cA_md 6, .int), (cA_md 7, .int), (cA_md 8, .int), (cA_md 9, .boolean), (cA_md 10, .int), (cA_md 11, .int), (cA_md 12, .int), (cA_md 13, .int)] t ∧ va_D A (uw_Model ad_md cA_md u)) A) ([.ref (ad_md 0), .int x1] : List Value).toArray s 0 0 A) (F0 m pc ls [.int v]) := fun v u H locs ls pc hd hp hP hD hS => W.iret (v := v) hx hb hr (fun t ht hW => ⟨⟨v, u, rfl, hp, by rw [ht]; exact hP, va_K.moved hW.alike hK, hD⟩, hS.F ht⟩) hS.2.2 hd
  generalize (MQ below (va_Qi (fun (r : Int32) (u : SModel) => r = res.1 ∧ u = res.2) (fun (u : SModel) (t : State) => va_P (dC, dI) vwCl (uw_Model ad_md cA_md u) t.heap ∧ va_K (dC, dI) vwCl [(cA_md 1, .int), (cA_md 2, .int), (cA_md 3, .int), (cA_md 4, .int), (cA_md 5, .int), (cA_md 6, .int), (cA_md 7, .int), (cA_md 8, .int), (cA_md 9, .boolean), (cA_md 10, .int), (cA_md 11, .int), (cA_md 12, .int), (cA_md 13, .int)] t ∧ va_D A (uw_Model ad_md cA_md u)) A) ([.ref (ad_md 0), .int x1] : List Value).toArray s 0 0 A) = Q at ret ⊢
  have w_53 : ∀ (md : SModel) (y1 : Int32) (z1 : Int32) (z2 : Int32) (H : Heap) (locs : List Loc) (ls : Array Slot), f_Model_step_53 md y1 z1 z2 = some res → va_P (dC, dI) vwCl (uw_Model ad_md cA_md md) H → va_D A (uw_Model ad_md cA_md md) → va_S A s.heap H locs → lv_has ls 2 [(0, .ref (ad_md 0)), (1, .int y1)] → W p l e (headSpec w_Model_step ({ frames := 1, cells := 0, slots := 0, locals := 23 })).room s m ([.ref (ad_md 0), .int x1] : List Value).toArray below meth c H locs 0 0 Q (F0 m 53 ls [.int z2, .int z1, .ref (ad_md 0)]) := by
    intro md y1 z1 z2 H locs ls hf hP hD hS hl
    rw [f_Model_step_53] at hf
    refine lv_icmp_ne (tgt := 60) hx hb d_Model_step_53 (by decide) (fun hc8 => ?_) (fun hc8 => ?_)
    · have hf := hf_f hf hc8
      refine lv_iload_n hx hb d_Model_step_60 rfl (lv_at hl 1 rfl) ?_
      refine lv_iconst (v := (1 : Int32)) hx hb d_Model_step_61 (by decide) ?_
      refine lv_iadd hx hb d_Model_step_62 ?_
      refine va_put (D := (dC, dI)) (ci := 6) (v := .int (y1 + (1 : Int32))) (ty := .int) (C := "HazardTablesModel") (T := F_Model) (N := 30) hx hb hts hin_Model t_Model t_Model_ok n_Model hown hK hP hD hS 0 rfl rfl 25 (by decide) fl_52 (fun _ h9 => h9) rfl (by decide +kernel) rfl rfl (Nat.le_of_ble_eq_true rfl) d_Model_step_63 (fun H locs hP hD hS => ?_)
      have hP : va_P (dC, dI) vwCl (uw_Model ad_md cA_md (md.1, md.2.1, md.2.2.1, md.2.2.2.1, (md.2.2.2.2.1.1, md.2.2.2.2.1.2.1, md.2.2.2.2.1.2.2.1, md.2.2.2.2.1.2.2.2.1, y1 + (1 : Int32)), md.2.2.2.2.2.1, md.2.2.2.2.2.2.1, md.2.2.2.2.2.2.2.1, md.2.2.2.2.2.2.2.2)) H := hP
      have hD : va_D A (uw_Model ad_md cA_md (md.1, md.2.1, md.2.2.1, md.2.2.2.1, (md.2.2.2.2.1.1, md.2.2.2.2.1.2.1, md.2.2.2.2.1.2.2.1, md.2.2.2.2.1.2.2.2.1, y1 + (1 : Int32)), md.2.2.2.2.2.1, md.2.2.2.2.2.2.1, md.2.2.2.2.2.2.2.1, md.2.2.2.2.2.2.2.2)) := hD
      refine lv_aload_n hx hb d_Model_step_66 rfl (lv_at hl 0 rfl) ?_
      refine va_get (D := (dC, dI)) (ci := 6) (v := .int (y1 + (1 : Int32))) (C := "HazardTablesModel") (T := F_Model) (N := 30) hx hb hts hin_Model hown hK hP 0 rfl rfl 25 (by decide) fl_52 (fun _ h9 => h9) rfl d_Model_step_67 ?_
      exact ret (y1 + (1 : Int32)) (md.1, md.2.1, md.2.2.1, md.2.2.2.1, (md.2.2.2.2.1.1, md.2.2.2.2.1.2.1, md.2.2.2.2.1.2.2.1, md.2.2.2.2.1.2.2.2.1, y1 + (1 : Int32)), md.2.2.2.2.2.1, md.2.2.2.2.2.2.1, md.2.2.2.2.2.2.2.1, md.2.2.2.2.2.2.2.2) H locs ls 70 d_Model_step_70 (hf_e hf) hP hD hS
    · have hf := hf_t hf hc8
      refine lv_iconst (v := (1 : Int32)) hx hb d_Model_step_56 (by decide) ?_
      refine lv_goto (tgt := 63) hx hb d_Model_step_57 (by decide) ?_
      refine va_put (D := (dC, dI)) (ci := 6) (v := .int (1 : Int32)) (ty := .int) (C := "HazardTablesModel") (T := F_Model) (N := 30) hx hb hts hin_Model t_Model t_Model_ok n_Model hown hK hP hD hS 0 rfl rfl 25 (by decide) fl_52 (fun _ h9 => h9) rfl (by decide +kernel) rfl rfl (Nat.le_of_ble_eq_true rfl) d_Model_step_63 (fun H locs hP hD hS => ?_)
      have hP : va_P (dC, dI) vwCl (uw_Model ad_md cA_md (md.1, md.2.1, md.2.2.1, md.2.2.2.1, (md.2.2.2.2.1.1, md.2.2.2.2.1.2.1, md.2.2.2.2.1.2.2.1, md.2.2.2.2.1.2.2.2.1, (1 : Int32)), md.2.2.2.2.2.1, md.2.2.2.2.2.2.1, md.2.2.2.2.2.2.2.1, md.2.2.2.2.2.2.2.2)) H := hP
      have hD : va_D A (uw_Model ad_md cA_md (md.1, md.2.1, md.2.2.1, md.2.2.2.1, (md.2.2.2.2.1.1, md.2.2.2.2.1.2.1, md.2.2.2.2.1.2.2.1, md.2.2.2.2.1.2.2.2.1, (1 : Int32)), md.2.2.2.2.2.1, md.2.2.2.2.2.2.1, md.2.2.2.2.2.2.2.1, md.2.2.2.2.2.2.2.2)) := hD
      refine lv_aload_n hx hb d_Model_step_66 rfl (lv_at hl 0 rfl) ?_
      refine va_get (D := (dC, dI)) (ci := 6) (v := .int (1 : Int32)) (C := "HazardTablesModel") (T := F_Model) (N := 30) hx hb hts hin_Model hown hK hP 0 rfl rfl 25 (by decide) fl_52 (fun _ h9 => h9) rfl d_Model_step_67 ?_
      exact ret (1 : Int32) (md.1, md.2.1, md.2.2.1, md.2.2.2.1, (md.2.2.2.2.1.1, md.2.2.2.2.1.2.1, md.2.2.2.2.1.2.2.1, md.2.2.2.2.1.2.2.2.1, (1 : Int32)), md.2.2.2.2.2.1, md.2.2.2.2.2.2.1, md.2.2.2.2.2.2.2.1, md.2.2.2.2.2.2.2.2) H locs ls 70 d_Model_step_70 (hf_e hf) hP hD hS
  have w_28 : ∀ (md : SModel) (y1 : Int32) (z1 : Bool) (z2 : Bool) (H : Heap) (locs : List Loc) (ls : Array Slot), f_Model_step_28 md y1 z1 z2 = some res → va_P (dC, dI) vwCl (uw_Model ad_md cA_md md) H → va_D A (uw_Model ad_md cA_md md) → va_S A s.heap H locs → lv_has ls 2 [(0, .ref (ad_md 0)), (1, .int y1)] → W p l e (headSpec w_Model_step ({ frames := 1, cells := 0, slots := 0, locals := 23 })).room s m ([.ref (ad_md 0), .int x1] : List Value).toArray below meth c H locs 0 0 Q (F0 m 28 ls [.int (bI z2), .int (bI z1), .ref (ad_md 0)]) := by
    intro md y1 z1 z2 H locs ls hf hP hD hS hl
    rw [f_Model_step_28] at hf
    refine lv_iconst (v := (1 : Int32)) hx hb d_Model_step_28 (by decide) ?_
    obtain ⟨u4, hu4, hf⟩ := Option.bind_eq_some_iff.mp hf
    refine cl_i (wc := (uw_Model ad_md cA_md md)) (wr := []) (tysC := [(cA_md 1, .int), (cA_md 2, .int), (cA_md 3, .int), (cA_md 4, .int), (cA_md 5, .int), (cA_md 6, .int), (cA_md 7, .int), (cA_md 8, .int), (cA_md 9, .boolean), (cA_md 10, .int), (cA_md 11, .int), (cA_md 12, .int), (cA_md 13, .int)]) (wu := fun (u : SModel) => (uw_Model ad_md cA_md u)) (wn := fun (u : SModel) => (uw_Model ad_md cA_md u)) [0, 1, 2, 3, 4, 5, 6, 7, 8, 9, 10, 11, 12, 13] [] [0, 1, 2, 3, 4, 5, 6, 7, 8, 9, 10, 11, 12, 13] [0, 1, 2, 3, 4, 5, 6, 7, 8, 9, 10, 11, 12] hP hD hS hA hK rfl rfl (by decide +kernel) (by decide +kernel) (by decide +kernel) rfl (fun _ => rfl) (by decide +kernel) (fun hPc hKc hDc => (va_runV (As := [.int (bI z1), .int (bI z2), .int (1 : Int32)]) (rest := []) ⟨hx, hb, hml, hown, hts⟩ (k_Model_goes l dC dI ad_md cA_md H.size md z1 z2 true u4 hu4) (cwV 3 hts (gV wd_850 wd_852 wd_22 wd_49 wd_853) rfl rfl rfl (by decide +kernel) ⟨Nat.le_of_ble_eq_true rfl, Nat.le_of_ble_eq_true rfl⟩) (cl_preV hPc hKc hDc hN (ci := 6) 0 rfl rfl) rfl rfl hl.1 rfl (lv_room (Nat.le_of_ble_eq_true rfl)) d_Model_step_29 ⟨Nat.le_of_ble_eq_true rfl, Nat.le_of_ble_eq_true rfl⟩)) (fun r u H locs hw hP hD hS => ?_)
    obtain ⟨hw1, hw2⟩ := hw
    have hw1 := hw1.symm
    have hw2 := hw2.symm
    subst hw1
    subst hw2
    have hP : va_P (dC, dI) vwCl (uw_Model ad_md cA_md u4.2) H := hP
    have hD : va_D A (uw_Model ad_md cA_md u4.2) := hD
    refine lv_if_ne (tgt := 37) hx hb d_Model_step_32 (by decide) (fun hc5 => ?_) (fun hc5 => ?_)
    · have hf := hf_f hf hc5
      refine lv_aload_n hx hb d_Model_step_37 rfl (lv_at hl 0 rfl) ?_
      refine lv_iload_n hx hb d_Model_step_38 rfl (lv_at hl 1 rfl) ?_
      refine lv_aload_n hx hb d_Model_step_39 rfl (lv_at hl 0 rfl) ?_
      obtain ⟨u6, hu6, hf⟩ := Option.bind_eq_some_iff.mp hf
      refine cl_i (wc := (uw_Model ad_md cA_md u4.2)) (wr := []) (tysC := [(cA_md 1, .int), (cA_md 2, .int), (cA_md 3, .int), (cA_md 4, .int), (cA_md 5, .int), (cA_md 6, .int), (cA_md 7, .int), (cA_md 8, .int), (cA_md 9, .boolean), (cA_md 10, .int), (cA_md 11, .int), (cA_md 12, .int), (cA_md 13, .int)]) (wu := fun (u : Unit) => (uw_Model ad_md cA_md u4.2)) (wn := fun (u : Unit) => (uw_Model ad_md cA_md u4.2)) [0, 1, 2, 3, 4, 5, 6, 7, 8, 9, 10, 11, 12, 13] [] [0, 1, 2, 3, 4, 5, 6, 7, 8, 9, 10, 11, 12, 13] [0, 1, 2, 3, 4, 5, 6, 7, 8, 9, 10, 11, 12] hP hD hS hA hK rfl rfl (by decide +kernel) (by decide +kernel) (by decide +kernel) rfl (fun _ => rfl) (by decide +kernel) (fun hPc hKc hDc => (va_runV (As := []) (rest := [.int y1, .ref (ad_md 0)]) ⟨hx, hb, hml, hown, hts⟩ (k_Model_strictness l dC dI ad_md cA_md H.size u4.2 u6 hu6) (cwV 0 hts (gV wd_955 wd_957 wd_39 wd_49 wd_958) rfl rfl rfl (by decide +kernel) ⟨Nat.le_of_ble_eq_true rfl, Nat.le_of_ble_eq_true rfl⟩) (cl_preV hPc hKc hDc hN (ci := 6) 0 rfl rfl) rfl rfl hl.1 rfl (lv_room (Nat.le_of_ble_eq_true rfl)) d_Model_step_40 ⟨Nat.le_of_ble_eq_true rfl, Nat.le_of_ble_eq_true rfl⟩)) (fun r u H locs hw hP hD hS => ?_)
      have hw := hw.symm
      subst hw
      have hP : va_P (dC, dI) vwCl (uw_Model ad_md cA_md u4.2) H := hP
      have hD : va_D A (uw_Model ad_md cA_md u4.2) := hD
      refine lv_iconst (v := (5 : Int32)) hx hb d_Model_step_43 (by decide) ?_
      refine lv_icmp_ge (tgt := 51) hx hb d_Model_step_44 (by decide) (fun hc7 => ?_) (fun hc7 => ?_)
      · have hf := hf_t hf hc7
        refine lv_bipush (v := (6 : Int32)) hx hb d_Model_step_51 (by decide) ?_
        exact w_53 u4.2 y1 y1 (6 : Int32) H locs ls hf hP hD hS (lv_sub hl [0, 1] rfl)
      · have hf := hf_f hf hc7
        refine lv_iconst (v := (3 : Int32)) hx hb d_Model_step_47 (by decide) ?_
        refine lv_goto (tgt := 53) hx hb d_Model_step_48 (by decide) ?_
        exact w_53 u4.2 y1 y1 (3 : Int32) H locs ls hf hP hD hS (lv_sub hl [0, 1] rfl)
    · have hf := hf_t hf hc5
      refine lv_iconst (v := (0 : Int32)) hx hb d_Model_step_35 (by decide) ?_
      exact ret (0 : Int32) u4.2 H locs ls 36 d_Model_step_36 (hf_e hf) hP hD hS
  have w_27 : ∀ (md : SModel) (y1 : Int32) (z1 : Bool) (H : Heap) (locs : List Loc) (ls : Array Slot), f_Model_step_27 md y1 z1 = some res → va_P (dC, dI) vwCl (uw_Model ad_md cA_md md) H → va_D A (uw_Model ad_md cA_md md) → va_S A s.heap H locs → lv_has ls 2 [(0, .ref (ad_md 0)), (1, .int y1)] → W p l e (headSpec w_Model_step ({ frames := 1, cells := 0, slots := 0, locals := 23 })).room s m ([.ref (ad_md 0), .int x1] : List Value).toArray below meth c H locs 0 0 Q (F0 m 27 ls [.int (bI z1), .ref (ad_md 0)]) := by
    intro md y1 z1 H locs ls hf hP hD hS hl
    rw [f_Model_step_27] at hf
    refine lv_iconst (v := (0 : Int32)) hx hb d_Model_step_27 (by decide) ?_
    exact w_28 md y1 z1 false H locs ls hf hP hD hS (lv_sub hl [0, 1] rfl)
  have hl := lv_entry ([.ref (ad_md 0), .int x1]) (n := 2) (Nat.le_of_ble_eq_true rfl)
  rw [lg_entry_eq]
  generalize (lg_sl ([.ref (ad_md 0), .int x1]) ++ List.replicate (2 - (lg_sl ([.ref (ad_md 0), .int x1])).length) Slot.unset).toArray = ls at hl ⊢
  have hl : lv_has ls 2 [(0, .ref (ad_md 0)), (1, .int x1)] := hl
  have hf := hf
  rw [f_Model_step] at hf
  obtain ⟨H, hH⟩ : ∃ H : Heap, H = s.heap := ⟨_, rfl⟩
  obtain ⟨locs, hlocs⟩ : ∃ L : List Loc, L = [] := ⟨_, rfl⟩
  have hP : va_P (dC, dI) vwCl (uw_Model ad_md cA_md md) H := by rw [hH]; exact hP
  have hS : va_S A s.heap H locs := by rw [hH, hlocs]; exact hS
  show W p l e (headSpec w_Model_step ({ frames := 1, cells := 0, slots := 0, locals := 23 })).room s m ([.ref (ad_md 0), .int x1] : List Value).toArray below meth c s.heap [] 0 0 Q (F0 m 0 ls [])
  suffices hgo : W p l e (headSpec w_Model_step ({ frames := 1, cells := 0, slots := 0, locals := 23 })).room s m ([.ref (ad_md 0), .int x1] : List Value).toArray below meth c H locs 0 0 Q (F0 m 0 ls []) by rw [hH, hlocs] at hgo; exact hgo
  clear hH hlocs
  refine lv_aload_n hx hb d_Model_step_0 rfl (lv_at hl 0 rfl) ?_
  refine lv_iload_n hx hb d_Model_step_1 rfl (lv_at hl 1 rfl) ?_
  refine lv_iconst (v := (1 : Int32)) hx hb d_Model_step_2 (by decide) ?_
  refine lv_bipush (v := (6 : Int32)) hx hb d_Model_step_3 (by decide) ?_
  obtain ⟨u1, hu1, hf⟩ := Option.bind_eq_some_iff.mp hf
  refine cl_i (wc := []) (wr := (uw_Model ad_md cA_md md)) (tysC := []) (wu := fun (u : Unit) => []) (wn := fun (u : Unit) => (uw_Model ad_md cA_md md)) [] [0, 1, 2, 3, 4, 5, 6, 7, 8, 9, 10, 11, 12, 13] [0, 1, 2, 3, 4, 5, 6, 7, 8, 9, 10, 11, 12, 13] [] hP hD hS hA hK rfl rfl (by decide +kernel) (by decide +kernel) (by decide +kernel) rfl (fun _ => rfl) (by decide +kernel) (fun hPc hKc hDc => (va_runS (As := [.int x1, .int (1 : Int32), .int (6 : Int32)]) (rest := [.ref (ad_md 0)]) ⟨hx, hb, hml, hown, hts⟩ (k_Model_within l dC dI  H.size x1 (1 : Int32) (6 : Int32) u1 hu1) (cwS 3 hts (gS wd_847 wd_848 wd_49 wd_849) rfl rfl rfl (by decide +kernel) ⟨Nat.le_of_ble_eq_true rfl, Nat.le_of_ble_eq_true rfl⟩) (cl_preS hPc hKc hDc hN) rfl rfl hl.1 rfl (lv_room (Nat.le_of_ble_eq_true rfl)) d_Model_step_5 ⟨Nat.le_of_ble_eq_true rfl, Nat.le_of_ble_eq_true rfl⟩)) (fun r u H locs hw hP hD hS => ?_)
  have hw := hw.symm
  subst hw
  have hP : va_P (dC, dI) vwCl (uw_Model ad_md cA_md md) H := hP
  have hD : va_D A (uw_Model ad_md cA_md md) := hD
  refine lv_aload_n hx hb d_Model_step_8 rfl (lv_at hl 0 rfl) ?_
  refine va_get (D := (dC, dI)) (ci := 6) (v := .int md.2.2.2.2.1.1) (C := "HazardTablesModel") (T := F_Model) (N := 30) hx hb hts hin_Model hown hK hP 0 rfl rfl 12 (by decide) fl_157 (fun _ h9 => h9) rfl d_Model_step_9 ?_
  refine lv_if_le (tgt := 27) hx hb d_Model_step_12 (by decide) (fun hc2 => ?_) (fun hc2 => ?_)
  · have hf := hf_t hf hc2
    exact w_27 md x1 u1 H locs ls hf hP hD hS (lv_sub hl [0, 1] rfl)
  · have hf := hf_f hf hc2
    refine lv_iload_n hx hb d_Model_step_15 rfl (lv_at hl 1 rfl) ?_
    refine lv_aload_n hx hb d_Model_step_16 rfl (lv_at hl 0 rfl) ?_
    refine va_get (D := (dC, dI)) (ci := 6) (v := .int md.2.2.2.2.1.2.2.2.2) (C := "HazardTablesModel") (T := F_Model) (N := 30) hx hb hts hin_Model hown hK hP 0 rfl rfl 25 (by decide) fl_52 (fun _ h9 => h9) rfl d_Model_step_17 ?_
    refine lv_icmp_ne (tgt := 27) hx hb d_Model_step_20 (by decide) (fun hc3 => ?_) (fun hc3 => ?_)
    · have hf := hf_f hf hc3
      exact w_27 md x1 u1 H locs ls hf hP hD hS (lv_sub hl [0, 1] rfl)
    · have hf := hf_t hf hc3
      refine lv_iconst (v := (1 : Int32)) hx hb d_Model_step_23 (by decide) ?_
      refine lv_goto (tgt := 28) hx hb d_Model_step_24 (by decide) ?_
      exact w_28 md x1 u1 true H locs ls hf hP hD hS (lv_sub hl [0, 1] rfl)
