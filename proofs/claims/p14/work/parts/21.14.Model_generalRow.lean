noncomputable def f_Model_generalRow_21  (md : SModel) (y1 : Int32) : Option (SModel) :=
  (if inb (y1 + (0 : Int32)) 559 then
    (if inb (y1 + (1 : Int32)) 559 then
      (if inb (y1 + (8 : Int32)) 559 then
        (if inb (y1 + (9 : Int32)) 559 then
          (Option.bind (f_Model_due (md.1, md.2.1, (md.2.2.1.1, true, upd (upd (upd (upd md.2.2.1.2.2 (y1 + (0 : Int32)).toNatClampNeg (0 : Int32)) (y1 + (1 : Int32)).toNatClampNeg (0 : Int32)) (y1 + (8 : Int32)).toNatClampNeg (0 : Int32)) (y1 + (9 : Int32)).toNatClampNeg (0 : Int32)), md.2.2.2.1, md.2.2.2.2.1, md.2.2.2.2.2.1, md.2.2.2.2.2.2.1, md.2.2.2.2.2.2.2.1, md.2.2.2.2.2.2.2.2) y1) fun u7 =>
            (Option.bind (f_Model_take u7 (59 : Int32)) fun u8 =>
              (some u8)
             )
           )
         else none)
       else none)
     else none)
   else none)
noncomputable def f_Model_generalRow (md : SModel) : Option (SModel) :=
  (if (bI md.2.2.1.2.1) = 0 then
    (f_Model_generalRow_21 md (516 : Int32))
   else
    (Option.bind (f_Model_fail md (md.2.1.2.2.1 - (1 : Int32))) fun u2 =>
      (f_Model_generalRow_21 u2 (516 : Int32))
     )
   )
set_option maxHeartbeats 4000000 in
set_option maxRecDepth 100000 in
theorem k_Model_generalRow (l : Launch) (dC : Nat → ClassId) (dI : Nat → Nat → Nat) (ad_md : Nat → Nat) (cA_md : Nat → ClassId) (sz : Nat) (md : SModel) (res : SModel) (hf : f_Model_generalRow md = some res) : Met l y_Model_generalRow w_Model_generalRow ({ frames := 4, cells := 0, slots := 0, locals := 89 }) (cPc (dC, dI) (uw_Model ad_md cA_md md) [(cA_md 1, .int), (cA_md 2, .int), (cA_md 3, .int), (cA_md 4, .int), (cA_md 5, .int), (cA_md 6, .int), (cA_md 7, .int), (cA_md 8, .int), (cA_md 9, .boolean), (cA_md 10, .int), (cA_md 11, .int), (cA_md 12, .int), (cA_md 13, .int)] sz [.ref (ad_md 0)]) (va_Qv (fun (u : SModel) => u = res) (fun (u : SModel) (t : State) => va_P (dC, dI) vwCl (uw_Model ad_md cA_md u) t.heap ∧ va_K (dC, dI) vwCl [(cA_md 1, .int), (cA_md 2, .int), (cA_md 3, .int), (cA_md 4, .int), (cA_md 5, .int), (cA_md 6, .int), (cA_md 7, .int), (cA_md 8, .int), (cA_md 9, .boolean), (cA_md 10, .int), (cA_md 11, .int), (cA_md 12, .int), (cA_md 13, .int)] t ∧ va_D (va_A (uw_Model ad_md cA_md md) sz) (uw_Model ad_md cA_md u)) (va_A (uw_Model ad_md cA_md md) sz)) 0 0 (va_A (uw_Model ad_md cA_md md) sz) := by
  refine Met.ofW (cc := b_Model_generalRow) (maxL := 2) (ret := none) (by decide) rfl ?_
  intro p e s m args below meth c s₁ B hml hv
  obtain ⟨rfl, hsz, hP, hK, hD0, hN⟩ := hv
  have hx := B.exec
  have hb := B.bytes
  have hr := B.returns
  have hts := atoms_spec (ws := w_Model_generalRow) B.pre
  have hown : s.vm.findClass "HazardTablesModel" = some m.cls := findClass_of_methodNamed B.named
  have hlocks := B.notSynchronized
  subst hsz
  have hD := hD0.self (sz := s.heap.size)
  generalize hAe : va_A (uw_Model ad_md cA_md md) s.heap.size = A at hD ⊢
  have hA : ∀ q : Nat, s.heap.size ≤ q → A q := fun q h => by rw [← hAe]; exact Or.inr h
  have hS : va_S A s.heap s.heap [] := va_S.rf
  have hP : va_P (dC, dI) vwCl (uw_Model ad_md cA_md md) s.heap := hP
  have fl_119 := (hts _ (List.mem_cons_of_mem _ wd_756))
  have fl_20 := (hts _ (List.mem_cons_of_mem _ wd_757))
  have fl_78 := (hts _ (List.mem_cons_of_mem _ wd_758))
  have hin_Model : ∀ w ∈ u_ws "HazardTablesModel" F_Model 30, w ∈ w_Model_generalRow := fun w h => List.mem_cons_of_mem _ (hinA_Model w h)
  have ret : ∀ (u : SModel) (H : Heap) (locs : List Loc) (ls : Array Slot) (pc : Nat), decode b_Model_generalRow pc = .ok (.return_, 1) → u = res → va_P (dC, dI) vwCl (uw_Model ad_md cA_md u) H → va_D A (uw_Model ad_md cA_md u) → va_S A s.heap H locs → W p l e (headSpec w_Model_generalRow ({ frames := 4, cells := 0, slots := 0, locals := 89 })).room s m ([.ref (ad_md 0)] : List Value).toArray below meth c H locs 0 0 (MQ below (va_Qv (fun (u : SModel) => u = res) (fun (u : SModel) (t : State) => va_P (dC, dI) vwCl (uw_Model ad_md cA_md u) t.heap ∧ va_K (dC, dI) vwCl [(cA_md 1, .int), (cA_md 2, .int), (cA_md 3, .int), (cA_md 4, .int), (cA_md 5, .int), (cA_md 6, .int), (cA_md 7, .int), (cA_md 8, .int), (cA_md 9, .boolean), (cA_md 10, .int), (cA_md 11, .int), (cA_md 12, .int), (cA_md 13, .int)] t ∧ va_D A (uw_Model ad_md cA_md u)) A) ([.ref (ad_md 0)] : List Value).toArray s 0 0 A) (F0 m pc ls []) := fun u H locs ls pc hd hp hP hD hS => W.vret hx hb hr (fun t ht hW => ⟨⟨u, rfl, hp, by rw [ht]; exact hP, va_K.moved hW.alike hK, hD⟩, hS.F ht⟩) hS.2.2 hd
  generalize (MQ below (va_Qv (fun (u : SModel) => u = res) (fun (u : SModel) (t : State) => va_P (dC, dI) vwCl (uw_Model ad_md cA_md u) t.heap ∧ va_K (dC, dI) vwCl [(cA_md 1, .int), (cA_md 2, .int), (cA_md 3, .int), (cA_md 4, .int), (cA_md 5, .int), (cA_md 6, .int), (cA_md 7, .int), (cA_md 8, .int), (cA_md 9, .boolean), (cA_md 10, .int), (cA_md 11, .int), (cA_md 12, .int), (cA_md 13, .int)] t ∧ va_D A (uw_Model ad_md cA_md u)) A) ([.ref (ad_md 0)] : List Value).toArray s 0 0 A) = Q at ret ⊢
  have w_21 : ∀ (md : SModel) (y1 : Int32) (H : Heap) (locs : List Loc) (ls : Array Slot), f_Model_generalRow_21 md y1 = some res → va_P (dC, dI) vwCl (uw_Model ad_md cA_md md) H → va_D A (uw_Model ad_md cA_md md) → va_S A s.heap H locs → lv_has ls 2 [(0, .ref (ad_md 0)), (1, .int y1)] → W p l e (headSpec w_Model_generalRow ({ frames := 4, cells := 0, slots := 0, locals := 89 })).room s m ([.ref (ad_md 0)] : List Value).toArray below meth c H locs 0 0 Q (F0 m 21 ls []) := by
    intro md y1 H locs ls hf hP hD hS hl
    rw [f_Model_generalRow_21] at hf
    refine lv_aload_n hx hb d_Model_generalRow_21 rfl (lv_at hl 0 rfl) ?_
    refine lv_iconst (v := (1 : Int32)) hx hb d_Model_generalRow_22 (by decide) ?_
    refine va_put (D := (dC, dI)) (ci := 6) (v := .int (1 : Int32)) (ty := .boolean) (C := "HazardTablesModel") (T := F_Model) (N := 30) hx hb hts hin_Model t_Model t_Model_ok n_Model hown hK hP hD hS 0 rfl rfl 8 (by decide) fl_119 (fun _ h9 => h9) rfl (by decide +kernel) (nar_bI true) (fit_bI true) (Nat.le_of_ble_eq_true rfl) d_Model_generalRow_23 (fun H locs hP hD hS => ?_)
    have hP : va_P (dC, dI) vwCl (uw_Model ad_md cA_md (md.1, md.2.1, (md.2.2.1.1, true, md.2.2.1.2.2), md.2.2.2.1, md.2.2.2.2.1, md.2.2.2.2.2.1, md.2.2.2.2.2.2.1, md.2.2.2.2.2.2.2.1, md.2.2.2.2.2.2.2.2)) H := hP
    have hD : va_D A (uw_Model ad_md cA_md (md.1, md.2.1, (md.2.2.1.1, true, md.2.2.1.2.2), md.2.2.2.1, md.2.2.2.2.1, md.2.2.2.2.2.1, md.2.2.2.2.2.2.1, md.2.2.2.2.2.2.2.1, md.2.2.2.2.2.2.2.2)) := hD
    refine lv_aload_n hx hb d_Model_generalRow_26 rfl (lv_at hl 0 rfl) ?_
    refine va_get (D := (dC, dI)) (ci := 6) (v := .ref (ad_md 3)) (C := "HazardTablesModel") (T := F_Model) (N := 30) hx hb hts hin_Model hown hK hP 0 rfl rfl 9 (by decide) fl_20 (fun _ h9 => h9) rfl d_Model_generalRow_27 ?_
    refine lv_iload_n hx hb d_Model_generalRow_30 rfl (lv_at hl 1 rfl) ?_
    refine lv_iconst (v := (0 : Int32)) hx hb d_Model_generalRow_31 (by decide) ?_
    refine lv_iadd hx hb d_Model_generalRow_32 ?_
    refine lv_iconst (v := (0 : Int32)) hx hb d_Model_generalRow_33 (by decide) ?_
    obtain ⟨hi3, hf⟩ := hf_g hf
    refine va_iast hx hb hK hP hD hS 3 2 rfl rfl hi3 d_Model_generalRow_34 (fun H locs hP hD hS => ?_)
    have hP : va_P (dC, dI) vwCl (uw_Model ad_md cA_md (md.1, md.2.1, (md.2.2.1.1, true, upd md.2.2.1.2.2 (y1 + (0 : Int32)).toNatClampNeg (0 : Int32)), md.2.2.2.1, md.2.2.2.2.1, md.2.2.2.2.2.1, md.2.2.2.2.2.2.1, md.2.2.2.2.2.2.2.1, md.2.2.2.2.2.2.2.2)) H := hP
    have hD : va_D A (uw_Model ad_md cA_md (md.1, md.2.1, (md.2.2.1.1, true, upd md.2.2.1.2.2 (y1 + (0 : Int32)).toNatClampNeg (0 : Int32)), md.2.2.2.1, md.2.2.2.2.1, md.2.2.2.2.2.1, md.2.2.2.2.2.2.1, md.2.2.2.2.2.2.2.1, md.2.2.2.2.2.2.2.2)) := hD
    refine lv_aload_n hx hb d_Model_generalRow_35 rfl (lv_at hl 0 rfl) ?_
    refine va_get (D := (dC, dI)) (ci := 6) (v := .ref (ad_md 3)) (C := "HazardTablesModel") (T := F_Model) (N := 30) hx hb hts hin_Model hown hK hP 0 rfl rfl 9 (by decide) fl_20 (fun _ h9 => h9) rfl d_Model_generalRow_36 ?_
    refine lv_iload_n hx hb d_Model_generalRow_39 rfl (lv_at hl 1 rfl) ?_
    refine lv_iconst (v := (1 : Int32)) hx hb d_Model_generalRow_40 (by decide) ?_
    refine lv_iadd hx hb d_Model_generalRow_41 ?_
    refine lv_iconst (v := (0 : Int32)) hx hb d_Model_generalRow_42 (by decide) ?_
    obtain ⟨hi4, hf⟩ := hf_g hf
    refine va_iast hx hb hK hP hD hS 3 2 rfl rfl hi4 d_Model_generalRow_43 (fun H locs hP hD hS => ?_)
    have hP : va_P (dC, dI) vwCl (uw_Model ad_md cA_md (md.1, md.2.1, (md.2.2.1.1, true, upd (upd md.2.2.1.2.2 (y1 + (0 : Int32)).toNatClampNeg (0 : Int32)) (y1 + (1 : Int32)).toNatClampNeg (0 : Int32)), md.2.2.2.1, md.2.2.2.2.1, md.2.2.2.2.2.1, md.2.2.2.2.2.2.1, md.2.2.2.2.2.2.2.1, md.2.2.2.2.2.2.2.2)) H := hP
    have hD : va_D A (uw_Model ad_md cA_md (md.1, md.2.1, (md.2.2.1.1, true, upd (upd md.2.2.1.2.2 (y1 + (0 : Int32)).toNatClampNeg (0 : Int32)) (y1 + (1 : Int32)).toNatClampNeg (0 : Int32)), md.2.2.2.1, md.2.2.2.2.1, md.2.2.2.2.2.1, md.2.2.2.2.2.2.1, md.2.2.2.2.2.2.2.1, md.2.2.2.2.2.2.2.2)) := hD
    refine lv_aload_n hx hb d_Model_generalRow_44 rfl (lv_at hl 0 rfl) ?_
    refine va_get (D := (dC, dI)) (ci := 6) (v := .ref (ad_md 3)) (C := "HazardTablesModel") (T := F_Model) (N := 30) hx hb hts hin_Model hown hK hP 0 rfl rfl 9 (by decide) fl_20 (fun _ h9 => h9) rfl d_Model_generalRow_45 ?_
    refine lv_iload_n hx hb d_Model_generalRow_48 rfl (lv_at hl 1 rfl) ?_
    refine lv_bipush (v := (8 : Int32)) hx hb d_Model_generalRow_49 (by decide) ?_
    refine lv_iadd hx hb d_Model_generalRow_51 ?_
    refine lv_iconst (v := (0 : Int32)) hx hb d_Model_generalRow_52 (by decide) ?_
    obtain ⟨hi5, hf⟩ := hf_g hf
    refine va_iast hx hb hK hP hD hS 3 2 rfl rfl hi5 d_Model_generalRow_53 (fun H locs hP hD hS => ?_)
    have hP : va_P (dC, dI) vwCl (uw_Model ad_md cA_md (md.1, md.2.1, (md.2.2.1.1, true, upd (upd (upd md.2.2.1.2.2 (y1 + (0 : Int32)).toNatClampNeg (0 : Int32)) (y1 + (1 : Int32)).toNatClampNeg (0 : Int32)) (y1 + (8 : Int32)).toNatClampNeg (0 : Int32)), md.2.2.2.1, md.2.2.2.2.1, md.2.2.2.2.2.1, md.2.2.2.2.2.2.1, md.2.2.2.2.2.2.2.1, md.2.2.2.2.2.2.2.2)) H := hP
    have hD : va_D A (uw_Model ad_md cA_md (md.1, md.2.1, (md.2.2.1.1, true, upd (upd (upd md.2.2.1.2.2 (y1 + (0 : Int32)).toNatClampNeg (0 : Int32)) (y1 + (1 : Int32)).toNatClampNeg (0 : Int32)) (y1 + (8 : Int32)).toNatClampNeg (0 : Int32)), md.2.2.2.1, md.2.2.2.2.1, md.2.2.2.2.2.1, md.2.2.2.2.2.2.1, md.2.2.2.2.2.2.2.1, md.2.2.2.2.2.2.2.2)) := hD
    refine lv_aload_n hx hb d_Model_generalRow_54 rfl (lv_at hl 0 rfl) ?_
    refine va_get (D := (dC, dI)) (ci := 6) (v := .ref (ad_md 3)) (C := "HazardTablesModel") (T := F_Model) (N := 30) hx hb hts hin_Model hown hK hP 0 rfl rfl 9 (by decide) fl_20 (fun _ h9 => h9) rfl d_Model_generalRow_55 ?_
    refine lv_iload_n hx hb d_Model_generalRow_58 rfl (lv_at hl 1 rfl) ?_
    refine lv_bipush (v := (9 : Int32)) hx hb d_Model_generalRow_59 (by decide) ?_
    refine lv_iadd hx hb d_Model_generalRow_61 ?_
    refine lv_iconst (v := (0 : Int32)) hx hb d_Model_generalRow_62 (by decide) ?_
    obtain ⟨hi6, hf⟩ := hf_g hf
    refine va_iast hx hb hK hP hD hS 3 2 rfl rfl hi6 d_Model_generalRow_63 (fun H locs hP hD hS => ?_)
    have hP : va_P (dC, dI) vwCl (uw_Model ad_md cA_md (md.1, md.2.1, (md.2.2.1.1, true, upd (upd (upd (upd md.2.2.1.2.2 (y1 + (0 : Int32)).toNatClampNeg (0 : Int32)) (y1 + (1 : Int32)).toNatClampNeg (0 : Int32)) (y1 + (8 : Int32)).toNatClampNeg (0 : Int32)) (y1 + (9 : Int32)).toNatClampNeg (0 : Int32)), md.2.2.2.1, md.2.2.2.2.1, md.2.2.2.2.2.1, md.2.2.2.2.2.2.1, md.2.2.2.2.2.2.2.1, md.2.2.2.2.2.2.2.2)) H := hP
    have hD : va_D A (uw_Model ad_md cA_md (md.1, md.2.1, (md.2.2.1.1, true, upd (upd (upd (upd md.2.2.1.2.2 (y1 + (0 : Int32)).toNatClampNeg (0 : Int32)) (y1 + (1 : Int32)).toNatClampNeg (0 : Int32)) (y1 + (8 : Int32)).toNatClampNeg (0 : Int32)) (y1 + (9 : Int32)).toNatClampNeg (0 : Int32)), md.2.2.2.1, md.2.2.2.2.1, md.2.2.2.2.2.1, md.2.2.2.2.2.2.1, md.2.2.2.2.2.2.2.1, md.2.2.2.2.2.2.2.2)) := hD
    refine lv_aload_n hx hb d_Model_generalRow_64 rfl (lv_at hl 0 rfl) ?_
    refine lv_iload_n hx hb d_Model_generalRow_65 rfl (lv_at hl 1 rfl) ?_
    obtain ⟨u7, hu7, hf⟩ := Option.bind_eq_some_iff.mp hf
    refine cl_v (wc := (uw_Model ad_md cA_md (md.1, md.2.1, (md.2.2.1.1, true, upd (upd (upd (upd md.2.2.1.2.2 (y1 + (0 : Int32)).toNatClampNeg (0 : Int32)) (y1 + (1 : Int32)).toNatClampNeg (0 : Int32)) (y1 + (8 : Int32)).toNatClampNeg (0 : Int32)) (y1 + (9 : Int32)).toNatClampNeg (0 : Int32)), md.2.2.2.1, md.2.2.2.2.1, md.2.2.2.2.2.1, md.2.2.2.2.2.2.1, md.2.2.2.2.2.2.2.1, md.2.2.2.2.2.2.2.2))) (wr := []) (tysC := [(cA_md 1, .int), (cA_md 2, .int), (cA_md 3, .int), (cA_md 4, .int), (cA_md 5, .int), (cA_md 6, .int), (cA_md 7, .int), (cA_md 8, .int), (cA_md 9, .boolean), (cA_md 10, .int), (cA_md 11, .int), (cA_md 12, .int), (cA_md 13, .int)]) (wu := fun (u : SModel) => (uw_Model ad_md cA_md u)) (wn := fun (u : SModel) => (uw_Model ad_md cA_md u)) [0, 1, 2, 3, 4, 5, 6, 7, 8, 9, 10, 11, 12, 13] [] [0, 1, 2, 3, 4, 5, 6, 7, 8, 9, 10, 11, 12, 13] [0, 1, 2, 3, 4, 5, 6, 7, 8, 9, 10, 11, 12] hP hD hS hA hK rfl rfl (by decide +kernel) (by decide +kernel) (by decide +kernel) rfl (fun _ => rfl) (by decide +kernel) (fun hPc hKc hDc => (va_runV (As := [.int y1]) (rest := []) ⟨hx, hb, hml, hown, hts⟩ (k_Model_due l dC dI ad_md cA_md H.size (md.1, md.2.1, (md.2.2.1.1, true, upd (upd (upd (upd md.2.2.1.2.2 (y1 + (0 : Int32)).toNatClampNeg (0 : Int32)) (y1 + (1 : Int32)).toNatClampNeg (0 : Int32)) (y1 + (8 : Int32)).toNatClampNeg (0 : Int32)) (y1 + (9 : Int32)).toNatClampNeg (0 : Int32)), md.2.2.2.1, md.2.2.2.2.1, md.2.2.2.2.2.1, md.2.2.2.2.2.2.1, md.2.2.2.2.2.2.2.1, md.2.2.2.2.2.2.2.2) y1 u7 hu7) (cwV 1 hts (gV wd_890 wd_892 wd_31 wd_49 wd_893) rfl rfl rfl (by decide +kernel) ⟨Nat.le_of_ble_eq_true rfl, Nat.le_of_ble_eq_true rfl⟩) (cl_preV hPc hKc hDc hN (ci := 6) 0 rfl rfl) rfl rfl hl.1 rfl (lv_room (Nat.le_of_ble_eq_true rfl)) d_Model_generalRow_66 ⟨Nat.le_of_ble_eq_true rfl, Nat.le_of_ble_eq_true rfl⟩)) (fun u H locs hw hP hD hS => ?_)
    have hw := hw.symm
    subst hw
    have hP : va_P (dC, dI) vwCl (uw_Model ad_md cA_md u7) H := hP
    have hD : va_D A (uw_Model ad_md cA_md u7) := hD
    refine lv_aload_n hx hb d_Model_generalRow_69 rfl (lv_at hl 0 rfl) ?_
    refine lv_bipush (v := (59 : Int32)) hx hb d_Model_generalRow_70 (by decide) ?_
    obtain ⟨u8, hu8, hf⟩ := Option.bind_eq_some_iff.mp hf
    refine cl_v (wc := (uw_Model ad_md cA_md u7)) (wr := []) (tysC := [(cA_md 1, .int), (cA_md 2, .int), (cA_md 3, .int), (cA_md 4, .int), (cA_md 5, .int), (cA_md 6, .int), (cA_md 7, .int), (cA_md 8, .int), (cA_md 9, .boolean), (cA_md 10, .int), (cA_md 11, .int), (cA_md 12, .int), (cA_md 13, .int)]) (wu := fun (u : SModel) => (uw_Model ad_md cA_md u)) (wn := fun (u : SModel) => (uw_Model ad_md cA_md u)) [0, 1, 2, 3, 4, 5, 6, 7, 8, 9, 10, 11, 12, 13] [] [0, 1, 2, 3, 4, 5, 6, 7, 8, 9, 10, 11, 12, 13] [0, 1, 2, 3, 4, 5, 6, 7, 8, 9, 10, 11, 12] hP hD hS hA hK rfl rfl (by decide +kernel) (by decide +kernel) (by decide +kernel) rfl (fun _ => rfl) (by decide +kernel) (fun hPc hKc hDc => (va_runV (As := [.int (59 : Int32)]) (rest := []) ⟨hx, hb, hml, hown, hts⟩ (k_Model_take l dC dI ad_md cA_md H.size u7 (59 : Int32) u8 hu8) (cwV 1 hts (gV wd_886 wd_888 wd_30 wd_49 wd_889) rfl rfl rfl (by decide +kernel) ⟨Nat.le_of_ble_eq_true rfl, Nat.le_of_ble_eq_true rfl⟩) (cl_preV hPc hKc hDc hN (ci := 6) 0 rfl rfl) rfl rfl hl.1 rfl (lv_room (Nat.le_of_ble_eq_true rfl)) d_Model_generalRow_72 ⟨Nat.le_of_ble_eq_true rfl, Nat.le_of_ble_eq_true rfl⟩)) (fun u H locs hw hP hD hS => ?_)
    have hw := hw.symm
    subst hw
    have hP : va_P (dC, dI) vwCl (uw_Model ad_md cA_md u8) H := hP
    have hD : va_D A (uw_Model ad_md cA_md u8) := hD
    exact ret  u8 H locs ls 75 d_Model_generalRow_75 (Option.some.inj hf) hP hD hS
  have hl := lv_entry ([.ref (ad_md 0)]) (n := 2) (Nat.le_of_ble_eq_true rfl)
  rw [lg_entry_eq]
  generalize (lg_sl ([.ref (ad_md 0)]) ++ List.replicate (2 - (lg_sl ([.ref (ad_md 0)])).length) Slot.unset).toArray = ls at hl ⊢
  have hl : lv_has ls 2 [(0, .ref (ad_md 0))] := hl
  have hf := hf
  rw [f_Model_generalRow] at hf
  obtain ⟨H, hH⟩ : ∃ H : Heap, H = s.heap := ⟨_, rfl⟩
  obtain ⟨locs, hlocs⟩ : ∃ L : List Loc, L = [] := ⟨_, rfl⟩
  have hP : va_P (dC, dI) vwCl (uw_Model ad_md cA_md md) H := by rw [hH]; exact hP
  have hS : va_S A s.heap H locs := by rw [hH, hlocs]; exact hS
  show W p l e (headSpec w_Model_generalRow ({ frames := 4, cells := 0, slots := 0, locals := 89 })).room s m ([.ref (ad_md 0)] : List Value).toArray below meth c s.heap [] 0 0 Q (F0 m 0 ls [])
  suffices hgo : W p l e (headSpec w_Model_generalRow ({ frames := 4, cells := 0, slots := 0, locals := 89 })).room s m ([.ref (ad_md 0)] : List Value).toArray below meth c H locs 0 0 Q (F0 m 0 ls []) by rw [hH, hlocs] at hgo; exact hgo
  clear hH hlocs
  refine lv_sipush (v := (516 : Int32)) hx hb d_Model_generalRow_0 (by decide) ?_
  refine lv_istore_n (lv' := [(1, .int (516 : Int32)), (0, .ref (ad_md 0))]) hx hb d_Model_generalRow_3 rfl hl (by decide) rfl (fun ls hl => ?_)
  refine lv_aload_n hx hb d_Model_generalRow_4 rfl (lv_at hl 1 rfl) ?_
  refine va_get (D := (dC, dI)) (ci := 6) (v := .int (bI md.2.2.1.2.1)) (C := "HazardTablesModel") (T := F_Model) (N := 30) hx hb hts hin_Model hown hK hP 0 rfl rfl 8 (by decide) fl_119 (fun _ h9 => h9) rfl d_Model_generalRow_5 ?_
  refine lv_if_eq (tgt := 21) hx hb d_Model_generalRow_8 (by decide) (fun hc1 => ?_) (fun hc1 => ?_)
  · have hf := hf_t hf hc1
    exact w_21 md (516 : Int32) H locs ls hf hP hD hS (lv_sub hl [1, 0] rfl)
  · have hf := hf_f hf hc1
    refine lv_aload_n hx hb d_Model_generalRow_11 rfl (lv_at hl 1 rfl) ?_
    refine lv_aload_n hx hb d_Model_generalRow_12 rfl (lv_at hl 1 rfl) ?_
    refine va_get (D := (dC, dI)) (ci := 6) (v := .int md.2.1.2.2.1) (C := "HazardTablesModel") (T := F_Model) (N := 30) hx hb hts hin_Model hown hK hP 0 rfl rfl 10 (by decide) fl_78 (fun _ h9 => h9) rfl d_Model_generalRow_13 ?_
    refine lv_iconst (v := (1 : Int32)) hx hb d_Model_generalRow_16 (by decide) ?_
    refine lv_isub hx hb d_Model_generalRow_17 ?_
    obtain ⟨u2, hu2, hf⟩ := Option.bind_eq_some_iff.mp hf
    refine cl_v (wc := (uw_Model ad_md cA_md md)) (wr := []) (tysC := [(cA_md 1, .int), (cA_md 2, .int), (cA_md 3, .int), (cA_md 4, .int), (cA_md 5, .int), (cA_md 6, .int), (cA_md 7, .int), (cA_md 8, .int), (cA_md 9, .boolean), (cA_md 10, .int), (cA_md 11, .int), (cA_md 12, .int), (cA_md 13, .int)]) (wu := fun (u : SModel) => (uw_Model ad_md cA_md u)) (wn := fun (u : SModel) => (uw_Model ad_md cA_md u)) [0, 1, 2, 3, 4, 5, 6, 7, 8, 9, 10, 11, 12, 13] [] [0, 1, 2, 3, 4, 5, 6, 7, 8, 9, 10, 11, 12, 13] [0, 1, 2, 3, 4, 5, 6, 7, 8, 9, 10, 11, 12] hP hD hS hA hK rfl rfl (by decide +kernel) (by decide +kernel) (by decide +kernel) rfl (fun _ => rfl) (by decide +kernel) (fun hPc hKc hDc => (va_runV (As := [.int (md.2.1.2.2.1 - (1 : Int32))]) (rest := []) ⟨hx, hb, hml, hown, hts⟩ (k_Model_fail l dC dI ad_md cA_md H.size md (md.2.1.2.2.1 - (1 : Int32)) u2 hu2) (cwV 1 hts (gV wd_870 wd_872 wd_26 wd_49 wd_873) rfl rfl rfl (by decide +kernel) ⟨Nat.le_of_ble_eq_true rfl, Nat.le_of_ble_eq_true rfl⟩) (cl_preV hPc hKc hDc hN (ci := 6) 0 rfl rfl) rfl rfl hl.1 rfl (lv_room (Nat.le_of_ble_eq_true rfl)) d_Model_generalRow_18 ⟨Nat.le_of_ble_eq_true rfl, Nat.le_of_ble_eq_true rfl⟩)) (fun u H locs hw hP hD hS => ?_)
    have hw := hw.symm
    subst hw
    have hP : va_P (dC, dI) vwCl (uw_Model ad_md cA_md u2) H := hP
    have hD : va_D A (uw_Model ad_md cA_md u2) := hD
    exact w_21 u2 (516 : Int32) H locs ls hf hP hD hS (lv_sub hl [1, 0] rfl)
