noncomputable def f_Model_goes (md : SModel) (x1 : Bool) (x2 : Bool) (x3 : Bool) : Option (Bool × SModel) :=
  (if (bI x1) = 0 then
    (if (1 : Int32) = 0 then
      (some (true, (((1 : Int32), md.1.2), md.2.1, md.2.2.1, md.2.2.2.1, md.2.2.2.2.1, md.2.2.2.2.2.1, md.2.2.2.2.2.2.1, md.2.2.2.2.2.2.2.1, md.2.2.2.2.2.2.2.2)))
     else
      (some (false, (((1 : Int32), md.1.2), md.2.1, md.2.2.1, md.2.2.2.1, md.2.2.2.2.1, md.2.2.2.2.2.1, md.2.2.2.2.2.2.1, md.2.2.2.2.2.2.2.1, md.2.2.2.2.2.2.2.2)))
     )
   else
    (if (bI x2) = 0 then
      (if (2 : Int32) = 0 then
        (some (true, (((2 : Int32), md.1.2), md.2.1, md.2.2.1, md.2.2.2.1, md.2.2.2.2.1, md.2.2.2.2.2.1, md.2.2.2.2.2.2.1, md.2.2.2.2.2.2.2.1, md.2.2.2.2.2.2.2.2)))
       else
        (some (false, (((2 : Int32), md.1.2), md.2.1, md.2.2.1, md.2.2.2.1, md.2.2.2.2.1, md.2.2.2.2.2.1, md.2.2.2.2.2.2.1, md.2.2.2.2.2.2.2.1, md.2.2.2.2.2.2.2.2)))
       )
     else
      (if (bI x3) = 0 then
        (if (3 : Int32) = 0 then
          (some (true, (((3 : Int32), md.1.2), md.2.1, md.2.2.1, md.2.2.2.1, md.2.2.2.2.1, md.2.2.2.2.2.1, md.2.2.2.2.2.2.1, md.2.2.2.2.2.2.2.1, md.2.2.2.2.2.2.2.2)))
         else
          (some (false, (((3 : Int32), md.1.2), md.2.1, md.2.2.1, md.2.2.2.1, md.2.2.2.2.1, md.2.2.2.2.2.1, md.2.2.2.2.2.2.1, md.2.2.2.2.2.2.2.1, md.2.2.2.2.2.2.2.2)))
         )
       else
        (if (0 : Int32) = 0 then
          (some (true, (((0 : Int32), md.1.2), md.2.1, md.2.2.1, md.2.2.2.1, md.2.2.2.2.1, md.2.2.2.2.2.1, md.2.2.2.2.2.2.1, md.2.2.2.2.2.2.2.1, md.2.2.2.2.2.2.2.2)))
         else
          (some (false, (((0 : Int32), md.1.2), md.2.1, md.2.2.1, md.2.2.2.1, md.2.2.2.2.1, md.2.2.2.2.2.1, md.2.2.2.2.2.2.1, md.2.2.2.2.2.2.2.1, md.2.2.2.2.2.2.2.2)))
         )
       )
     )
   )
set_option maxHeartbeats 4000000 in
set_option maxRecDepth 100000 in
theorem k_Model_goes (l : Launch) (dC : Nat → ClassId) (dI : Nat → Nat → Nat) (ad_md : Nat → Nat) (cA_md : Nat → ClassId) (sz : Nat) (md : SModel) (x1 : Bool) (x2 : Bool) (x3 : Bool) (res : Bool × SModel) (hf : f_Model_goes md x1 x2 x3 = some res) : Met l y_Model_goes w_Model_goes ({ frames := 0, cells := 0, slots := 0, locals := 0 }) (cPc (dC, dI) (uw_Model ad_md cA_md md) [(cA_md 1, .int), (cA_md 2, .int), (cA_md 3, .int), (cA_md 4, .int), (cA_md 5, .int), (cA_md 6, .int), (cA_md 7, .int), (cA_md 8, .int), (cA_md 9, .boolean), (cA_md 10, .int), (cA_md 11, .int), (cA_md 12, .int), (cA_md 13, .int)] sz [.ref (ad_md 0), .int (bI x1), .int (bI x2), .int (bI x3)]) (va_Qi (fun (r : Int32) (u : SModel) => r = bI res.1 ∧ u = res.2) (fun (u : SModel) (t : State) => va_P (dC, dI) vwCl (uw_Model ad_md cA_md u) t.heap ∧ va_K (dC, dI) vwCl [(cA_md 1, .int), (cA_md 2, .int), (cA_md 3, .int), (cA_md 4, .int), (cA_md 5, .int), (cA_md 6, .int), (cA_md 7, .int), (cA_md 8, .int), (cA_md 9, .boolean), (cA_md 10, .int), (cA_md 11, .int), (cA_md 12, .int), (cA_md 13, .int)] t ∧ va_D (va_A (uw_Model ad_md cA_md md) sz) (uw_Model ad_md cA_md u)) (va_A (uw_Model ad_md cA_md md) sz)) 0 0 (va_A (uw_Model ad_md cA_md md) sz) := by
  refine Met.ofW (cc := b_Model_goes) (maxL := 4) (ret := (some .boolean)) (by decide) rfl ?_
  intro p e s m args below meth c s₁ B hml hv
  obtain ⟨rfl, hsz, hP, hK, hD0, hN⟩ := hv
  have hx := B.exec
  have hb := B.bytes
  have hr := B.returns
  have hts := atoms_spec (ws := w_Model_goes) B.pre
  have hown : s.vm.findClass "HazardTablesModel" = some m.cls := findClass_of_methodNamed B.named
  have hlocks := B.notSynchronized
  subst hsz
  have hD := hD0.self (sz := s.heap.size)
  generalize hAe : va_A (uw_Model ad_md cA_md md) s.heap.size = A at hD ⊢
  have hA : ∀ q : Nat, s.heap.size ≤ q → A q := fun q h => by rw [← hAe]; exact Or.inr h
  have hS : va_S A s.heap s.heap [] := va_S.rf
  have hP : va_P (dC, dI) vwCl (uw_Model ad_md cA_md md) s.heap := hP
  have fl_64 := (hts _ (List.mem_cons_of_mem _ wd_748))
  have hin_Model : ∀ w ∈ u_ws "HazardTablesModel" F_Model 30, w ∈ w_Model_goes := fun w h => List.mem_cons_of_mem _ (hinA_Model w h)
  have ret : ∀ (v : Bool) (u : SModel) (H : Heap) (locs : List Loc) (ls : Array Slot) (pc : Nat), decode b_Model_goes pc = .ok (.ireturn, 1) → (v = res.1 ∧ u = res.2) → va_P (dC, dI) vwCl (uw_Model ad_md cA_md u) H → va_D A (uw_Model ad_md cA_md u) → va_S A s.heap H locs → W p l e (headSpec w_Model_goes ({ frames := 0, cells := 0, slots := 0, locals := 0 })).room s m ([.ref (ad_md 0), .int (bI x1), .int (bI x2), .int (bI x3)] : List Value).toArray below meth c H locs 0 0 (MQ below (va_Qi (fun (r : Int32) (u : SModel) => r = bI res.1 ∧ u = res.2) (fun (u : SModel) (t : State) => va_P (dC, dI) vwCl (uw_Model ad_md cA_md u) t.heap ∧ va_K (dC, dI) vwCl [(cA_md 1, .int), (cA_md 2, .int), (cA_md 3, .int), (cA_md 4, .int), (cA_md 5, .int), (cA_md 6, .int), (cA_md 7, .int), (cA_md 8, .int), (cA_md 9, .boolean), (cA_md 10, .int), (cA_md 11, .int), (cA_md 12, .int), (cA_md 13, .int)] t ∧ va_D A (uw_Model ad_md cA_md u)) A) ([.ref (ad_md 0), .int (bI x1), .int (bI x2), .int (bI x3)] : List Value).toArray s 0 0 A) (F0 m pc ls [.int (bI v)]) := fun v u H locs ls pc hd hp hP hD hS => W.zret (v := bI v) (ty := .boolean) hx hb hr (nar_bI v) (fun t ht hW => ⟨⟨bI v, u, rfl, ⟨by rw [hp.1], hp.2⟩, by rw [ht]; exact hP, va_K.moved hW.alike hK, hD⟩, hS.F ht⟩) hS.2.2 hd
  generalize (MQ below (va_Qi (fun (r : Int32) (u : SModel) => r = bI res.1 ∧ u = res.2) (fun (u : SModel) (t : State) => va_P (dC, dI) vwCl (uw_Model ad_md cA_md u) t.heap ∧ va_K (dC, dI) vwCl [(cA_md 1, .int), (cA_md 2, .int), (cA_md 3, .int), (cA_md 4, .int), (cA_md 5, .int), (cA_md 6, .int), (cA_md 7, .int), (cA_md 8, .int), (cA_md 9, .boolean), (cA_md 10, .int), (cA_md 11, .int), (cA_md 12, .int), (cA_md 13, .int)] t ∧ va_D A (uw_Model ad_md cA_md u)) A) ([.ref (ad_md 0), .int (bI x1), .int (bI x2), .int (bI x3)] : List Value).toArray s 0 0 A) = Q at ret ⊢
  have hl := lv_entry ([.ref (ad_md 0), .int (bI x1), .int (bI x2), .int (bI x3)]) (n := 4) (Nat.le_of_ble_eq_true rfl)
  rw [lg_entry_eq]
  generalize (lg_sl ([.ref (ad_md 0), .int (bI x1), .int (bI x2), .int (bI x3)]) ++ List.replicate (4 - (lg_sl ([.ref (ad_md 0), .int (bI x1), .int (bI x2), .int (bI x3)])).length) Slot.unset).toArray = ls at hl ⊢
  have hl : lv_has ls 4 [(0, .ref (ad_md 0)), (1, .int (bI x1)), (2, .int (bI x2)), (3, .int (bI x3))] := hl
  have hf := hf
  rw [f_Model_goes] at hf
  obtain ⟨H, hH⟩ : ∃ H : Heap, H = s.heap := ⟨_, rfl⟩
  obtain ⟨locs, hlocs⟩ : ∃ L : List Loc, L = [] := ⟨_, rfl⟩
  have hP : va_P (dC, dI) vwCl (uw_Model ad_md cA_md md) H := by rw [hH]; exact hP
  have hS : va_S A s.heap H locs := by rw [hH, hlocs]; exact hS
  show W p l e (headSpec w_Model_goes ({ frames := 0, cells := 0, slots := 0, locals := 0 })).room s m ([.ref (ad_md 0), .int (bI x1), .int (bI x2), .int (bI x3)] : List Value).toArray below meth c s.heap [] 0 0 Q (F0 m 0 ls [])
  suffices hgo : W p l e (headSpec w_Model_goes ({ frames := 0, cells := 0, slots := 0, locals := 0 })).room s m ([.ref (ad_md 0), .int (bI x1), .int (bI x2), .int (bI x3)] : List Value).toArray below meth c H locs 0 0 Q (F0 m 0 ls []) by rw [hH, hlocs] at hgo; exact hgo
  clear hH hlocs
  refine lv_aload_n hx hb d_Model_goes_0 rfl (lv_at hl 0 rfl) ?_
  refine lv_iload_n hx hb d_Model_goes_1 rfl (lv_at hl 1 rfl) ?_
  refine lv_if_ne (tgt := 9) hx hb d_Model_goes_2 (by decide) (fun hc1 => ?_) (fun hc1 => ?_)
  · have hf := hf_f hf hc1
    refine lv_iload_n hx hb d_Model_goes_9 rfl (lv_at hl 2 rfl) ?_
    refine lv_if_ne (tgt := 17) hx hb d_Model_goes_10 (by decide) (fun hc2 => ?_) (fun hc2 => ?_)
    · have hf := hf_f hf hc2
      refine lv_iload_n hx hb d_Model_goes_17 rfl (lv_at hl 3 rfl) ?_
      refine lv_if_ne (tgt := 25) hx hb d_Model_goes_18 (by decide) (fun hc3 => ?_) (fun hc3 => ?_)
      · have hf := hf_f hf hc3
        refine lv_iconst (v := (0 : Int32)) hx hb d_Model_goes_25 (by decide) ?_
        refine va_put (D := (dC, dI)) (ci := 6) (v := .int (0 : Int32)) (ty := .int) (C := "HazardTablesModel") (T := F_Model) (N := 30) hx hb hts hin_Model t_Model t_Model_ok n_Model hown hK hP hD hS 0 rfl rfl 0 (by decide) fl_64 (fun _ h9 => h9) rfl (by decide +kernel) rfl rfl (Nat.le_of_ble_eq_true rfl) d_Model_goes_26 (fun H locs hP hD hS => ?_)
        have hP : va_P (dC, dI) vwCl (uw_Model ad_md cA_md (((0 : Int32), md.1.2), md.2.1, md.2.2.1, md.2.2.2.1, md.2.2.2.2.1, md.2.2.2.2.2.1, md.2.2.2.2.2.2.1, md.2.2.2.2.2.2.2.1, md.2.2.2.2.2.2.2.2)) H := hP
        have hD : va_D A (uw_Model ad_md cA_md (((0 : Int32), md.1.2), md.2.1, md.2.2.1, md.2.2.2.1, md.2.2.2.2.1, md.2.2.2.2.2.1, md.2.2.2.2.2.2.1, md.2.2.2.2.2.2.2.1, md.2.2.2.2.2.2.2.2)) := hD
        refine lv_aload_n hx hb d_Model_goes_29 rfl (lv_at hl 0 rfl) ?_
        refine va_get (D := (dC, dI)) (ci := 6) (v := .int (0 : Int32)) (C := "HazardTablesModel") (T := F_Model) (N := 30) hx hb hts hin_Model hown hK hP 0 rfl rfl 0 (by decide) fl_64 (fun _ h9 => h9) rfl d_Model_goes_30 ?_
        refine lv_if_ne (tgt := 40) hx hb d_Model_goes_33 (by decide) (fun hc4 => ?_) (fun hc4 => ?_)
        · have hf := hf_f hf hc4
          refine lv_iconst (v := (0 : Int32)) hx hb d_Model_goes_40 (by decide) ?_
          exact ret false (((0 : Int32), md.1.2), md.2.1, md.2.2.1, md.2.2.2.1, md.2.2.2.2.1, md.2.2.2.2.2.1, md.2.2.2.2.2.2.1, md.2.2.2.2.2.2.2.1, md.2.2.2.2.2.2.2.2) H locs ls 41 d_Model_goes_41 (hf_e hf) hP hD hS
        · have hf := hf_t hf hc4
          refine lv_iconst (v := (1 : Int32)) hx hb d_Model_goes_36 (by decide) ?_
          refine lv_goto (tgt := 41) hx hb d_Model_goes_37 (by decide) ?_
          exact ret true (((0 : Int32), md.1.2), md.2.1, md.2.2.1, md.2.2.2.1, md.2.2.2.2.1, md.2.2.2.2.2.1, md.2.2.2.2.2.2.1, md.2.2.2.2.2.2.2.1, md.2.2.2.2.2.2.2.2) H locs ls 41 d_Model_goes_41 (hf_e hf) hP hD hS
      · have hf := hf_t hf hc3
        refine lv_iconst (v := (3 : Int32)) hx hb d_Model_goes_21 (by decide) ?_
        refine lv_goto (tgt := 26) hx hb d_Model_goes_22 (by decide) ?_
        refine va_put (D := (dC, dI)) (ci := 6) (v := .int (3 : Int32)) (ty := .int) (C := "HazardTablesModel") (T := F_Model) (N := 30) hx hb hts hin_Model t_Model t_Model_ok n_Model hown hK hP hD hS 0 rfl rfl 0 (by decide) fl_64 (fun _ h9 => h9) rfl (by decide +kernel) rfl rfl (Nat.le_of_ble_eq_true rfl) d_Model_goes_26 (fun H locs hP hD hS => ?_)
        have hP : va_P (dC, dI) vwCl (uw_Model ad_md cA_md (((3 : Int32), md.1.2), md.2.1, md.2.2.1, md.2.2.2.1, md.2.2.2.2.1, md.2.2.2.2.2.1, md.2.2.2.2.2.2.1, md.2.2.2.2.2.2.2.1, md.2.2.2.2.2.2.2.2)) H := hP
        have hD : va_D A (uw_Model ad_md cA_md (((3 : Int32), md.1.2), md.2.1, md.2.2.1, md.2.2.2.1, md.2.2.2.2.1, md.2.2.2.2.2.1, md.2.2.2.2.2.2.1, md.2.2.2.2.2.2.2.1, md.2.2.2.2.2.2.2.2)) := hD
        refine lv_aload_n hx hb d_Model_goes_29 rfl (lv_at hl 0 rfl) ?_
        refine va_get (D := (dC, dI)) (ci := 6) (v := .int (3 : Int32)) (C := "HazardTablesModel") (T := F_Model) (N := 30) hx hb hts hin_Model hown hK hP 0 rfl rfl 0 (by decide) fl_64 (fun _ h9 => h9) rfl d_Model_goes_30 ?_
        refine lv_if_ne (tgt := 40) hx hb d_Model_goes_33 (by decide) (fun hc5 => ?_) (fun hc5 => ?_)
        · have hf := hf_f hf hc5
          refine lv_iconst (v := (0 : Int32)) hx hb d_Model_goes_40 (by decide) ?_
          exact ret false (((3 : Int32), md.1.2), md.2.1, md.2.2.1, md.2.2.2.1, md.2.2.2.2.1, md.2.2.2.2.2.1, md.2.2.2.2.2.2.1, md.2.2.2.2.2.2.2.1, md.2.2.2.2.2.2.2.2) H locs ls 41 d_Model_goes_41 (hf_e hf) hP hD hS
        · have hf := hf_t hf hc5
          refine lv_iconst (v := (1 : Int32)) hx hb d_Model_goes_36 (by decide) ?_
          refine lv_goto (tgt := 41) hx hb d_Model_goes_37 (by decide) ?_
          exact ret true (((3 : Int32), md.1.2), md.2.1, md.2.2.1, md.2.2.2.1, md.2.2.2.2.1, md.2.2.2.2.2.1, md.2.2.2.2.2.2.1, md.2.2.2.2.2.2.2.1, md.2.2.2.2.2.2.2.2) H locs ls 41 d_Model_goes_41 (hf_e hf) hP hD hS
    · have hf := hf_t hf hc2
      refine lv_iconst (v := (2 : Int32)) hx hb d_Model_goes_13 (by decide) ?_
      refine lv_goto (tgt := 26) hx hb d_Model_goes_14 (by decide) ?_
      refine va_put (D := (dC, dI)) (ci := 6) (v := .int (2 : Int32)) (ty := .int) (C := "HazardTablesModel") (T := F_Model) (N := 30) hx hb hts hin_Model t_Model t_Model_ok n_Model hown hK hP hD hS 0 rfl rfl 0 (by decide) fl_64 (fun _ h9 => h9) rfl (by decide +kernel) rfl rfl (Nat.le_of_ble_eq_true rfl) d_Model_goes_26 (fun H locs hP hD hS => ?_)
      have hP : va_P (dC, dI) vwCl (uw_Model ad_md cA_md (((2 : Int32), md.1.2), md.2.1, md.2.2.1, md.2.2.2.1, md.2.2.2.2.1, md.2.2.2.2.2.1, md.2.2.2.2.2.2.1, md.2.2.2.2.2.2.2.1, md.2.2.2.2.2.2.2.2)) H := hP
      have hD : va_D A (uw_Model ad_md cA_md (((2 : Int32), md.1.2), md.2.1, md.2.2.1, md.2.2.2.1, md.2.2.2.2.1, md.2.2.2.2.2.1, md.2.2.2.2.2.2.1, md.2.2.2.2.2.2.2.1, md.2.2.2.2.2.2.2.2)) := hD
      refine lv_aload_n hx hb d_Model_goes_29 rfl (lv_at hl 0 rfl) ?_
      refine va_get (D := (dC, dI)) (ci := 6) (v := .int (2 : Int32)) (C := "HazardTablesModel") (T := F_Model) (N := 30) hx hb hts hin_Model hown hK hP 0 rfl rfl 0 (by decide) fl_64 (fun _ h9 => h9) rfl d_Model_goes_30 ?_
      refine lv_if_ne (tgt := 40) hx hb d_Model_goes_33 (by decide) (fun hc6 => ?_) (fun hc6 => ?_)
      · have hf := hf_f hf hc6
        refine lv_iconst (v := (0 : Int32)) hx hb d_Model_goes_40 (by decide) ?_
        exact ret false (((2 : Int32), md.1.2), md.2.1, md.2.2.1, md.2.2.2.1, md.2.2.2.2.1, md.2.2.2.2.2.1, md.2.2.2.2.2.2.1, md.2.2.2.2.2.2.2.1, md.2.2.2.2.2.2.2.2) H locs ls 41 d_Model_goes_41 (hf_e hf) hP hD hS
      · have hf := hf_t hf hc6
        refine lv_iconst (v := (1 : Int32)) hx hb d_Model_goes_36 (by decide) ?_
        refine lv_goto (tgt := 41) hx hb d_Model_goes_37 (by decide) ?_
        exact ret true (((2 : Int32), md.1.2), md.2.1, md.2.2.1, md.2.2.2.1, md.2.2.2.2.1, md.2.2.2.2.2.1, md.2.2.2.2.2.2.1, md.2.2.2.2.2.2.2.1, md.2.2.2.2.2.2.2.2) H locs ls 41 d_Model_goes_41 (hf_e hf) hP hD hS
  · have hf := hf_t hf hc1
    refine lv_iconst (v := (1 : Int32)) hx hb d_Model_goes_5 (by decide) ?_
    refine lv_goto (tgt := 26) hx hb d_Model_goes_6 (by decide) ?_
    refine va_put (D := (dC, dI)) (ci := 6) (v := .int (1 : Int32)) (ty := .int) (C := "HazardTablesModel") (T := F_Model) (N := 30) hx hb hts hin_Model t_Model t_Model_ok n_Model hown hK hP hD hS 0 rfl rfl 0 (by decide) fl_64 (fun _ h9 => h9) rfl (by decide +kernel) rfl rfl (Nat.le_of_ble_eq_true rfl) d_Model_goes_26 (fun H locs hP hD hS => ?_)
    have hP : va_P (dC, dI) vwCl (uw_Model ad_md cA_md (((1 : Int32), md.1.2), md.2.1, md.2.2.1, md.2.2.2.1, md.2.2.2.2.1, md.2.2.2.2.2.1, md.2.2.2.2.2.2.1, md.2.2.2.2.2.2.2.1, md.2.2.2.2.2.2.2.2)) H := hP
    have hD : va_D A (uw_Model ad_md cA_md (((1 : Int32), md.1.2), md.2.1, md.2.2.1, md.2.2.2.1, md.2.2.2.2.1, md.2.2.2.2.2.1, md.2.2.2.2.2.2.1, md.2.2.2.2.2.2.2.1, md.2.2.2.2.2.2.2.2)) := hD
    refine lv_aload_n hx hb d_Model_goes_29 rfl (lv_at hl 0 rfl) ?_
    refine va_get (D := (dC, dI)) (ci := 6) (v := .int (1 : Int32)) (C := "HazardTablesModel") (T := F_Model) (N := 30) hx hb hts hin_Model hown hK hP 0 rfl rfl 0 (by decide) fl_64 (fun _ h9 => h9) rfl d_Model_goes_30 ?_
    refine lv_if_ne (tgt := 40) hx hb d_Model_goes_33 (by decide) (fun hc7 => ?_) (fun hc7 => ?_)
    · have hf := hf_f hf hc7
      refine lv_iconst (v := (0 : Int32)) hx hb d_Model_goes_40 (by decide) ?_
      exact ret false (((1 : Int32), md.1.2), md.2.1, md.2.2.1, md.2.2.2.1, md.2.2.2.2.1, md.2.2.2.2.2.1, md.2.2.2.2.2.2.1, md.2.2.2.2.2.2.2.1, md.2.2.2.2.2.2.2.2) H locs ls 41 d_Model_goes_41 (hf_e hf) hP hD hS
    · have hf := hf_t hf hc7
      refine lv_iconst (v := (1 : Int32)) hx hb d_Model_goes_36 (by decide) ?_
      refine lv_goto (tgt := 41) hx hb d_Model_goes_37 (by decide) ?_
      exact ret true (((1 : Int32), md.1.2), md.2.1, md.2.2.1, md.2.2.2.1, md.2.2.2.2.1, md.2.2.2.2.2.1, md.2.2.2.2.2.2.1, md.2.2.2.2.2.2.2.1, md.2.2.2.2.2.2.2.2) H locs ls 41 d_Model_goes_41 (hf_e hf) hP hD hS
