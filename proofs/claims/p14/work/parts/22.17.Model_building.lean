noncomputable def f_Model_building_20  (md : SModel) (y1 : Int32) (y2 : Int32) (z1 : Bool) (z2 : Bool) : Option (Int32 × SModel) :=
  (Option.bind (f_Model_goes md z1 z2 true) fun u3 =>
    (if (bI u3.1) = 0 then
      (some ((0 : Int32), u3.2))
     else
      (if inb u3.2.2.2.2.2.2.2.1.1 40 then
        (if inb u3.2.2.2.2.2.2.2.1.1 40 then
          (some ((u3.2.2.2.2.2.2.2.1.1 + (1 : Int32)) - (1 : Int32), (u3.2.1, u3.2.2.1, u3.2.2.2.1, u3.2.2.2.2.1, u3.2.2.2.2.2.1, u3.2.2.2.2.2.2.1, (u3.2.2.2.2.2.2.2.1.1 + (1 : Int32), upd u3.2.2.2.2.2.2.2.1.2.1 u3.2.2.2.2.2.2.2.1.1.toNatClampNeg y1, upd u3.2.2.2.2.2.2.2.1.2.2.1 u3.2.2.2.2.2.2.2.1.1.toNatClampNeg y2, u3.2.2.2.2.2.2.2.1.2.2.2.1, u3.2.2.2.2.2.2.2.1.2.2.2.2.1, u3.2.2.2.2.2.2.2.1.2.2.2.2.2), u3.2.2.2.2.2.2.2.2.1, u3.2.2.2.2.2.2.2.2.2)))
         else none)
       else none)
     )
   )
noncomputable def f_Model_building (md : SModel) (x1 : Int32) (x2 : Int32) : Option (Int32 × SModel) :=
  (Option.bind (f_Model_isPoint x1 x2) fun u1 =>
    (if (40 : Int32) ≤ md.2.2.2.2.2.2.1.1 then
      (f_Model_building_20 md x1 x2 u1 false)
     else
      (f_Model_building_20 md x1 x2 u1 true)
     )
   )
set_option maxHeartbeats 4000000 in
set_option maxRecDepth 100000 in
theorem k_Model_building (l : Launch) (dC : Nat → ClassId) (dI : Nat → Nat → Nat) (ad_md : Nat → Nat) (cA_md : Nat → ClassId) (sz : Nat) (md : SModel) (x1 : Int32) (x2 : Int32) (res : Int32 × SModel) (hf : f_Model_building md x1 x2 = some res) : Met l y_Model_building w_Model_building ({ frames := 2, cells := 0, slots := 0, locals := 43 }) (cPc (dC, dI) (uw_Model ad_md cA_md md) [(cA_md 1, .int), (cA_md 2, .int), (cA_md 3, .int), (cA_md 4, .int), (cA_md 5, .int), (cA_md 6, .int), (cA_md 7, .int), (cA_md 8, .int), (cA_md 9, .boolean), (cA_md 10, .int), (cA_md 11, .int), (cA_md 12, .int), (cA_md 13, .int)] sz [.ref (ad_md 0), .int x1, .int x2]) (va_Qi (fun (r : Int32) (u : SModel) => r = res.1 ∧ u = res.2) (fun (u : SModel) (t : State) => va_P (dC, dI) vwCl (uw_Model ad_md cA_md u) t.heap ∧ va_K (dC, dI) vwCl [(cA_md 1, .int), (cA_md 2, .int), (cA_md 3, .int), (cA_md 4, .int), (cA_md 5, .int), (cA_md 6, .int), (cA_md 7, .int), (cA_md 8, .int), (cA_md 9, .boolean), (cA_md 10, .int), (cA_md 11, .int), (cA_md 12, .int), (cA_md 13, .int)] t ∧ va_D (va_A (uw_Model ad_md cA_md md) sz) (uw_Model ad_md cA_md u)) (va_A (uw_Model ad_md cA_md md) sz)) 0 0 (va_A (uw_Model ad_md cA_md md) sz) := by
  refine Met.ofW (cc := b_Model_building) (maxL := 3) (ret := (some .int)) (by decide) rfl ?_
  intro p e s m args below meth c s₁ B hml hv
  obtain ⟨rfl, hsz, hP, hK, hD0, hN⟩ := hv
  have hx := B.exec
  have hb := B.bytes
  have hr := B.returns
  have hts := atoms_spec (ws := w_Model_building) B.pre
  have hown : s.vm.findClass "HazardTablesModel" = some m.cls := findClass_of_methodNamed B.named
  have hlocks := B.notSynchronized
  subst hsz
  have hD := hD0.self (sz := s.heap.size)
  generalize hAe : va_A (uw_Model ad_md cA_md md) s.heap.size = A at hD ⊢
  have hA : ∀ q : Nat, s.heap.size ≤ q → A q := fun q h => by rw [← hAe]; exact Or.inr h
  have hS : va_S A s.heap s.heap [] := va_S.rf
  have hP : va_P (dC, dI) vwCl (uw_Model ad_md cA_md md) s.heap := hP
  have fl_179 := (hts _ (List.mem_cons_of_mem _ wd_767))
  have fl_39 := (hts _ (List.mem_cons_of_mem _ wd_768))
  have fl_42 := (hts _ (List.mem_cons_of_mem _ wd_769))
  have hin_Model : ∀ w ∈ u_ws "HazardTablesModel" F_Model 30, w ∈ w_Model_building := fun w h => List.mem_cons_of_mem _ (hinA_Model w h)
  have ret : ∀ (v : Int32) (u : SModel) (H : Heap) (locs : List Loc) (ls : Array Slot) (pc : Nat), decode b_Model_building pc = .ok (.ireturn, 1) → (v = res.1 ∧ u = res.2) → va_P (dC, dI) vwCl (uw_Model ad_md cA_md u) H → va_D A (uw_Model ad_md cA_md u) → va_S A s.heap H locs → W p l e (headSpec w_Model_building ({ frames := 2, cells := 0, slots := 0, locals := 43 })).room s m ([.ref (ad_md 0), .int x1, .int x2] : List Value).toArray below meth c H locs 0 0 (MQ below (va_Qi (fun (r : Int32) (u : SModel) => r = res.1 ∧ u = res.2) (fun (u : SModel) (t : State) => va_P (dC, dI) vwCl (uw_Model ad_md cA_md u) t.heap ∧ va_K (dC, dI) vwCl [(cA_md 1, .int), (cA_md 2, .int), (cA_md 3, .int), (cA_md 4, .int), (cA_md 5, .int), (cA_md 6, .int), (cA_md 7, .int), (cA_md 8, .int), (cA_md 9, .boolean), (cA_md 10, .int), (cA_md 11, .int), (cA_md 12, .int), (cA_md 13, .int)] t ∧ va_D A (uw_Model ad_md cA_md u)) A) ([.ref (ad_md 0), .int x1, .int x2] : List Value).toArray s 0 0 A) (F0 m pc ls [.int v]) := fun v u H locs ls pc hd hp hP hD hS => W.iret (v := v) hx hb hr (fun t ht hW => ⟨⟨v, u, rfl, hp, by rw [ht]; exact hP, va_K.moved hW.alike hK, hD⟩, hS.F ht⟩) hS.2.2 hd
  generalize (MQ below (va_Qi (fun (r : Int32) (u : SModel) => r = res.1 ∧ u = res.2) (fun (u : SModel) (t : State) => va_P (dC, dI) vwCl (uw_Model ad_md cA_md u) t.heap ∧ va_K (dC, dI) vwCl [(cA_md 1, .int), (cA_md 2, .int), (cA_md 3, .int), (cA_md 4, .int), (cA_md 5, .int), (cA_md 6, .int), (cA_md 7, .int), (cA_md 8, .int), (cA_md 9, .boolean), (cA_md 10, .int), (cA_md 11, .int), (cA_md 12, .int), (cA_md 13, .int)] t ∧ va_D A (uw_Model ad_md cA_md u)) A) ([.ref (ad_md 0), .int x1, .int x2] : List Value).toArray s 0 0 A) = Q at ret ⊢
  have w_20 : ∀ (md : SModel) (y1 : Int32) (y2 : Int32) (z1 : Bool) (z2 : Bool) (H : Heap) (locs : List Loc) (ls : Array Slot), f_Model_building_20 md y1 y2 z1 z2 = some res → va_P (dC, dI) vwCl (uw_Model ad_md cA_md md) H → va_D A (uw_Model ad_md cA_md md) → va_S A s.heap H locs → lv_has ls 3 [(0, .ref (ad_md 0)), (1, .int y1), (2, .int y2)] → W p l e (headSpec w_Model_building ({ frames := 2, cells := 0, slots := 0, locals := 43 })).room s m ([.ref (ad_md 0), .int x1, .int x2] : List Value).toArray below meth c H locs 0 0 Q (F0 m 20 ls [.int (bI z2), .int (bI z1), .ref (ad_md 0)]) := by
    intro md y1 y2 z1 z2 H locs ls hf hP hD hS hl
    rw [f_Model_building_20] at hf
    refine lv_iconst (v := (1 : Int32)) hx hb d_Model_building_20 (by decide) ?_
    obtain ⟨u3, hu3, hf⟩ := Option.bind_eq_some_iff.mp hf
    refine cl_i (wc := (uw_Model ad_md cA_md md)) (wr := []) (tysC := [(cA_md 1, .int), (cA_md 2, .int), (cA_md 3, .int), (cA_md 4, .int), (cA_md 5, .int), (cA_md 6, .int), (cA_md 7, .int), (cA_md 8, .int), (cA_md 9, .boolean), (cA_md 10, .int), (cA_md 11, .int), (cA_md 12, .int), (cA_md 13, .int)]) (wu := fun (u : SModel) => (uw_Model ad_md cA_md u)) (wn := fun (u : SModel) => (uw_Model ad_md cA_md u)) [0, 1, 2, 3, 4, 5, 6, 7, 8, 9, 10, 11, 12, 13] [] [0, 1, 2, 3, 4, 5, 6, 7, 8, 9, 10, 11, 12, 13] [0, 1, 2, 3, 4, 5, 6, 7, 8, 9, 10, 11, 12] hP hD hS hA hK rfl rfl (by decide +kernel) (by decide +kernel) (by decide +kernel) rfl (fun _ => rfl) (by decide +kernel) (fun hPc hKc hDc => (va_runV (As := [.int (bI z1), .int (bI z2), .int (1 : Int32)]) (rest := []) ⟨hx, hb, hml, hown, hts⟩ (k_Model_goes l dC dI ad_md cA_md H.size md z1 z2 true u3 hu3) (cwV 3 hts (gV wd_850 wd_852 wd_22 wd_49 wd_853) rfl rfl rfl (by decide +kernel) ⟨Nat.le_of_ble_eq_true rfl, Nat.le_of_ble_eq_true rfl⟩) (cl_preV hPc hKc hDc hN (ci := 6) 0 rfl rfl) rfl rfl hl.1 rfl (lv_room (Nat.le_of_ble_eq_true rfl)) d_Model_building_21 ⟨Nat.le_of_ble_eq_true rfl, Nat.le_of_ble_eq_true rfl⟩)) (fun r u H locs hw hP hD hS => ?_)
    obtain ⟨hw1, hw2⟩ := hw
    have hw1 := hw1.symm
    have hw2 := hw2.symm
    subst hw1
    subst hw2
    have hP : va_P (dC, dI) vwCl (uw_Model ad_md cA_md u3.2) H := hP
    have hD : va_D A (uw_Model ad_md cA_md u3.2) := hD
    refine lv_if_ne (tgt := 29) hx hb d_Model_building_24 (by decide) (fun hc4 => ?_) (fun hc4 => ?_)
    · have hf := hf_f hf hc4
      refine lv_aload_n hx hb d_Model_building_29 rfl (lv_at hl 0 rfl) ?_
      refine va_get (D := (dC, dI)) (ci := 6) (v := .ref (ad_md 7)) (C := "HazardTablesModel") (T := F_Model) (N := 30) hx hb hts hin_Model hown hK hP 0 rfl rfl 20 (by decide) fl_39 (fun _ h9 => h9) rfl d_Model_building_30 ?_
      refine lv_aload_n hx hb d_Model_building_33 rfl (lv_at hl 0 rfl) ?_
      refine va_get (D := (dC, dI)) (ci := 6) (v := .int u3.2.2.2.2.2.2.2.1.1) (C := "HazardTablesModel") (T := F_Model) (N := 30) hx hb hts hin_Model hown hK hP 0 rfl rfl 19 (by decide) fl_179 (fun _ h9 => h9) rfl d_Model_building_34 ?_
      refine lv_iload_n hx hb d_Model_building_37 rfl (lv_at hl 1 rfl) ?_
      obtain ⟨hi5, hf⟩ := hf_g hf
      refine va_iast hx hb hK hP hD hS 7 6 rfl rfl hi5 d_Model_building_38 (fun H locs hP hD hS => ?_)
      have hP : va_P (dC, dI) vwCl (uw_Model ad_md cA_md (u3.2.1, u3.2.2.1, u3.2.2.2.1, u3.2.2.2.2.1, u3.2.2.2.2.2.1, u3.2.2.2.2.2.2.1, (u3.2.2.2.2.2.2.2.1.1, upd u3.2.2.2.2.2.2.2.1.2.1 u3.2.2.2.2.2.2.2.1.1.toNatClampNeg y1, u3.2.2.2.2.2.2.2.1.2.2.1, u3.2.2.2.2.2.2.2.1.2.2.2.1, u3.2.2.2.2.2.2.2.1.2.2.2.2.1, u3.2.2.2.2.2.2.2.1.2.2.2.2.2), u3.2.2.2.2.2.2.2.2.1, u3.2.2.2.2.2.2.2.2.2)) H := hP
      have hD : va_D A (uw_Model ad_md cA_md (u3.2.1, u3.2.2.1, u3.2.2.2.1, u3.2.2.2.2.1, u3.2.2.2.2.2.1, u3.2.2.2.2.2.2.1, (u3.2.2.2.2.2.2.2.1.1, upd u3.2.2.2.2.2.2.2.1.2.1 u3.2.2.2.2.2.2.2.1.1.toNatClampNeg y1, u3.2.2.2.2.2.2.2.1.2.2.1, u3.2.2.2.2.2.2.2.1.2.2.2.1, u3.2.2.2.2.2.2.2.1.2.2.2.2.1, u3.2.2.2.2.2.2.2.1.2.2.2.2.2), u3.2.2.2.2.2.2.2.2.1, u3.2.2.2.2.2.2.2.2.2)) := hD
      refine lv_aload_n hx hb d_Model_building_39 rfl (lv_at hl 0 rfl) ?_
      refine va_get (D := (dC, dI)) (ci := 6) (v := .ref (ad_md 8)) (C := "HazardTablesModel") (T := F_Model) (N := 30) hx hb hts hin_Model hown hK hP 0 rfl rfl 21 (by decide) fl_42 (fun _ h9 => h9) rfl d_Model_building_40 ?_
      refine lv_aload_n hx hb d_Model_building_43 rfl (lv_at hl 0 rfl) ?_
      refine va_get (D := (dC, dI)) (ci := 6) (v := .int u3.2.2.2.2.2.2.2.1.1) (C := "HazardTablesModel") (T := F_Model) (N := 30) hx hb hts hin_Model hown hK hP 0 rfl rfl 19 (by decide) fl_179 (fun _ h9 => h9) rfl d_Model_building_44 ?_
      refine lv_iload_n hx hb d_Model_building_47 rfl (lv_at hl 2 rfl) ?_
      obtain ⟨hi6, hf⟩ := hf_g hf
      refine va_iast hx hb hK hP hD hS 8 7 rfl rfl hi6 d_Model_building_48 (fun H locs hP hD hS => ?_)
      have hP : va_P (dC, dI) vwCl (uw_Model ad_md cA_md (u3.2.1, u3.2.2.1, u3.2.2.2.1, u3.2.2.2.2.1, u3.2.2.2.2.2.1, u3.2.2.2.2.2.2.1, (u3.2.2.2.2.2.2.2.1.1, upd u3.2.2.2.2.2.2.2.1.2.1 u3.2.2.2.2.2.2.2.1.1.toNatClampNeg y1, upd u3.2.2.2.2.2.2.2.1.2.2.1 u3.2.2.2.2.2.2.2.1.1.toNatClampNeg y2, u3.2.2.2.2.2.2.2.1.2.2.2.1, u3.2.2.2.2.2.2.2.1.2.2.2.2.1, u3.2.2.2.2.2.2.2.1.2.2.2.2.2), u3.2.2.2.2.2.2.2.2.1, u3.2.2.2.2.2.2.2.2.2)) H := hP
      have hD : va_D A (uw_Model ad_md cA_md (u3.2.1, u3.2.2.1, u3.2.2.2.1, u3.2.2.2.2.1, u3.2.2.2.2.2.1, u3.2.2.2.2.2.2.1, (u3.2.2.2.2.2.2.2.1.1, upd u3.2.2.2.2.2.2.2.1.2.1 u3.2.2.2.2.2.2.2.1.1.toNatClampNeg y1, upd u3.2.2.2.2.2.2.2.1.2.2.1 u3.2.2.2.2.2.2.2.1.1.toNatClampNeg y2, u3.2.2.2.2.2.2.2.1.2.2.2.1, u3.2.2.2.2.2.2.2.1.2.2.2.2.1, u3.2.2.2.2.2.2.2.1.2.2.2.2.2), u3.2.2.2.2.2.2.2.2.1, u3.2.2.2.2.2.2.2.2.2)) := hD
      refine lv_aload_n hx hb d_Model_building_49 rfl (lv_at hl 0 rfl) ?_
      refine lv_dup hx hb d_Model_building_50 rfl ?_
      refine va_get (D := (dC, dI)) (ci := 6) (v := .int u3.2.2.2.2.2.2.2.1.1) (C := "HazardTablesModel") (T := F_Model) (N := 30) hx hb hts hin_Model hown hK hP 0 rfl rfl 19 (by decide) fl_179 (fun _ h9 => h9) rfl d_Model_building_51 ?_
      refine lv_iconst (v := (1 : Int32)) hx hb d_Model_building_54 (by decide) ?_
      refine lv_iadd hx hb d_Model_building_55 ?_
      refine va_put (D := (dC, dI)) (ci := 6) (v := .int (u3.2.2.2.2.2.2.2.1.1 + (1 : Int32))) (ty := .int) (C := "HazardTablesModel") (T := F_Model) (N := 30) hx hb hts hin_Model t_Model t_Model_ok n_Model hown hK hP hD hS 0 rfl rfl 19 (by decide) fl_179 (fun _ h9 => h9) rfl (by decide +kernel) rfl rfl (Nat.le_of_ble_eq_true rfl) d_Model_building_56 (fun H locs hP hD hS => ?_)
      have hP : va_P (dC, dI) vwCl (uw_Model ad_md cA_md (u3.2.1, u3.2.2.1, u3.2.2.2.1, u3.2.2.2.2.1, u3.2.2.2.2.2.1, u3.2.2.2.2.2.2.1, (u3.2.2.2.2.2.2.2.1.1 + (1 : Int32), upd u3.2.2.2.2.2.2.2.1.2.1 u3.2.2.2.2.2.2.2.1.1.toNatClampNeg y1, upd u3.2.2.2.2.2.2.2.1.2.2.1 u3.2.2.2.2.2.2.2.1.1.toNatClampNeg y2, u3.2.2.2.2.2.2.2.1.2.2.2.1, u3.2.2.2.2.2.2.2.1.2.2.2.2.1, u3.2.2.2.2.2.2.2.1.2.2.2.2.2), u3.2.2.2.2.2.2.2.2.1, u3.2.2.2.2.2.2.2.2.2)) H := hP
      have hD : va_D A (uw_Model ad_md cA_md (u3.2.1, u3.2.2.1, u3.2.2.2.1, u3.2.2.2.2.1, u3.2.2.2.2.2.1, u3.2.2.2.2.2.2.1, (u3.2.2.2.2.2.2.2.1.1 + (1 : Int32), upd u3.2.2.2.2.2.2.2.1.2.1 u3.2.2.2.2.2.2.2.1.1.toNatClampNeg y1, upd u3.2.2.2.2.2.2.2.1.2.2.1 u3.2.2.2.2.2.2.2.1.1.toNatClampNeg y2, u3.2.2.2.2.2.2.2.1.2.2.2.1, u3.2.2.2.2.2.2.2.1.2.2.2.2.1, u3.2.2.2.2.2.2.2.1.2.2.2.2.2), u3.2.2.2.2.2.2.2.2.1, u3.2.2.2.2.2.2.2.2.2)) := hD
      refine lv_aload_n hx hb d_Model_building_59 rfl (lv_at hl 0 rfl) ?_
      refine va_get (D := (dC, dI)) (ci := 6) (v := .int (u3.2.2.2.2.2.2.2.1.1 + (1 : Int32))) (C := "HazardTablesModel") (T := F_Model) (N := 30) hx hb hts hin_Model hown hK hP 0 rfl rfl 19 (by decide) fl_179 (fun _ h9 => h9) rfl d_Model_building_60 ?_
      refine lv_iconst (v := (1 : Int32)) hx hb d_Model_building_63 (by decide) ?_
      refine lv_isub hx hb d_Model_building_64 ?_
      exact ret ((u3.2.2.2.2.2.2.2.1.1 + (1 : Int32)) - (1 : Int32)) (u3.2.1, u3.2.2.1, u3.2.2.2.1, u3.2.2.2.2.1, u3.2.2.2.2.2.1, u3.2.2.2.2.2.2.1, (u3.2.2.2.2.2.2.2.1.1 + (1 : Int32), upd u3.2.2.2.2.2.2.2.1.2.1 u3.2.2.2.2.2.2.2.1.1.toNatClampNeg y1, upd u3.2.2.2.2.2.2.2.1.2.2.1 u3.2.2.2.2.2.2.2.1.1.toNatClampNeg y2, u3.2.2.2.2.2.2.2.1.2.2.2.1, u3.2.2.2.2.2.2.2.1.2.2.2.2.1, u3.2.2.2.2.2.2.2.1.2.2.2.2.2), u3.2.2.2.2.2.2.2.2.1, u3.2.2.2.2.2.2.2.2.2) H locs ls 65 d_Model_building_65 (hf_e hf) hP hD hS
    · have hf := hf_t hf hc4
      refine lv_iconst (v := (0 : Int32)) hx hb d_Model_building_27 (by decide) ?_
      exact ret (0 : Int32) u3.2 H locs ls 28 d_Model_building_28 (hf_e hf) hP hD hS
  have hl := lv_entry ([.ref (ad_md 0), .int x1, .int x2]) (n := 3) (Nat.le_of_ble_eq_true rfl)
  rw [lg_entry_eq]
  generalize (lg_sl ([.ref (ad_md 0), .int x1, .int x2]) ++ List.replicate (3 - (lg_sl ([.ref (ad_md 0), .int x1, .int x2])).length) Slot.unset).toArray = ls at hl ⊢
  have hl : lv_has ls 3 [(0, .ref (ad_md 0)), (1, .int x1), (2, .int x2)] := hl
  have hf := hf
  rw [f_Model_building] at hf
  obtain ⟨H, hH⟩ : ∃ H : Heap, H = s.heap := ⟨_, rfl⟩
  obtain ⟨locs, hlocs⟩ : ∃ L : List Loc, L = [] := ⟨_, rfl⟩
  have hP : va_P (dC, dI) vwCl (uw_Model ad_md cA_md md) H := by rw [hH]; exact hP
  have hS : va_S A s.heap H locs := by rw [hH, hlocs]; exact hS
  show W p l e (headSpec w_Model_building ({ frames := 2, cells := 0, slots := 0, locals := 43 })).room s m ([.ref (ad_md 0), .int x1, .int x2] : List Value).toArray below meth c s.heap [] 0 0 Q (F0 m 0 ls [])
  suffices hgo : W p l e (headSpec w_Model_building ({ frames := 2, cells := 0, slots := 0, locals := 43 })).room s m ([.ref (ad_md 0), .int x1, .int x2] : List Value).toArray below meth c H locs 0 0 Q (F0 m 0 ls []) by rw [hH, hlocs] at hgo; exact hgo
  clear hH hlocs
  refine lv_aload_n hx hb d_Model_building_0 rfl (lv_at hl 0 rfl) ?_
  refine lv_iload_n hx hb d_Model_building_1 rfl (lv_at hl 1 rfl) ?_
  refine lv_iload_n hx hb d_Model_building_2 rfl (lv_at hl 2 rfl) ?_
  obtain ⟨u1, hu1, hf⟩ := Option.bind_eq_some_iff.mp hf
  refine cl_i (wc := []) (wr := (uw_Model ad_md cA_md md)) (tysC := []) (wu := fun (u : Unit) => []) (wn := fun (u : Unit) => (uw_Model ad_md cA_md md)) [] [0, 1, 2, 3, 4, 5, 6, 7, 8, 9, 10, 11, 12, 13] [0, 1, 2, 3, 4, 5, 6, 7, 8, 9, 10, 11, 12, 13] [] hP hD hS hA hK rfl rfl (by decide +kernel) (by decide +kernel) (by decide +kernel) rfl (fun _ => rfl) (by decide +kernel) (fun hPc hKc hDc => (va_runS (As := [.int x1, .int x2]) (rest := [.ref (ad_md 0)]) ⟨hx, hb, hml, hown, hts⟩ (k_Model_isPoint l dC dI  H.size x1 x2 u1 hu1) (cwS 2 hts (gS wd_971 wd_972 wd_49 wd_973) rfl rfl rfl (by decide +kernel) ⟨Nat.le_of_ble_eq_true rfl, Nat.le_of_ble_eq_true rfl⟩) (cl_preS hPc hKc hDc hN) rfl rfl hl.1 rfl (lv_room (Nat.le_of_ble_eq_true rfl)) d_Model_building_3 ⟨Nat.le_of_ble_eq_true rfl, Nat.le_of_ble_eq_true rfl⟩)) (fun r u H locs hw hP hD hS => ?_)
  have hw := hw.symm
  subst hw
  have hP : va_P (dC, dI) vwCl (uw_Model ad_md cA_md md) H := hP
  have hD : va_D A (uw_Model ad_md cA_md md) := hD
  refine lv_aload_n hx hb d_Model_building_6 rfl (lv_at hl 0 rfl) ?_
  refine va_get (D := (dC, dI)) (ci := 6) (v := .int md.2.2.2.2.2.2.1.1) (C := "HazardTablesModel") (T := F_Model) (N := 30) hx hb hts hin_Model hown hK hP 0 rfl rfl 19 (by decide) fl_179 (fun _ h9 => h9) rfl d_Model_building_7 ?_
  refine lv_bipush (v := (40 : Int32)) hx hb d_Model_building_10 (by decide) ?_
  refine lv_icmp_ge (tgt := 19) hx hb d_Model_building_12 (by decide) (fun hc2 => ?_) (fun hc2 => ?_)
  · have hf := hf_t hf hc2
    refine lv_iconst (v := (0 : Int32)) hx hb d_Model_building_19 (by decide) ?_
    exact w_20 md x1 x2 u1 false H locs ls hf hP hD hS (lv_sub hl [0, 1, 2] rfl)
  · have hf := hf_f hf hc2
    refine lv_iconst (v := (1 : Int32)) hx hb d_Model_building_15 (by decide) ?_
    refine lv_goto (tgt := 20) hx hb d_Model_building_16 (by decide) ?_
    exact w_20 md x1 x2 u1 true H locs ls hf hP hD hS (lv_sub hl [0, 1, 2] rfl)
