noncomputable def f_Model_near_67  (md : SModel) (y2 : Int32) : Option (Int32 × SModel) :=
  (if 0 ≤ y2 then
    (if inb (y2 * (43 : Int32)) 559 then
      (some (md.2.2.2.1.2.2 (y2 * (43 : Int32)).toNatClampNeg, md))
     else none)
   else
    (some ((-1 : Int32), md))
   )
noncomputable def f_Model_near_46  : Nat → SModel → Int32 → Int32 → Int32 → Option (Int32 × SModel)
  | 0, _, _, _, _ => none
  | n + 1, md, y1, y2, y3 =>
    (if y1 ≤ y3 then
      (f_Model_near_67 md y2)
     else
      (if y2 < 0 then
        (f_Model_near_67 md y2)
       else
        (Option.bind (f_Model_following md y2) fun u10 =>
          (f_Model_near_46 n u10.2 y1 u10.1 (y3 + (1 : Int32)))
         )
       )
     )
noncomputable def f_Model_near_10  (md : SModel) (y1 : Int32) (z1 : Bool) : Option (Int32 × SModel) :=
  (Option.bind (f_Model_goes md z1 true true) fun u2 =>
    (if (bI u2.1) = 0 then
      (if u2.2.1.1 ≤ 0 then
        (some ((-1 : Int32), u2.2))
       else
        (some ((0 : Int32), u2.2))
       )
     else
      (if u2.2.2.2.2.2.2.2.2.2.1 = 0 then
        (if u2.2.1.1 ≤ 0 then
          (some ((-1 : Int32), u2.2))
         else
          (some ((0 : Int32), u2.2))
         )
       else
        (Option.bind (f_Model_following u2.2 (-1 : Int32)) fun u6 =>
          (f_Model_near_46 4096 u6.2 y1 u6.1 (0 : Int32))
         )
       )
     )
   )
noncomputable def f_Model_near (md : SModel) (x1 : Int32) : Option (Int32 × SModel) :=
  (if x1 < 0 then
    (f_Model_near_10 md x1 false)
   else
    (f_Model_near_10 md x1 true)
   )
set_option maxHeartbeats 4000000 in
set_option maxRecDepth 100000 in
theorem k_Model_near (l : Launch) (dC : Nat → ClassId) (dI : Nat → Nat → Nat) (ad_md : Nat → Nat) (cA_md : Nat → ClassId) (sz : Nat) (md : SModel) (x1 : Int32) (res : Int32 × SModel) (hf : f_Model_near md x1 = some res) : Met l y_Model_near w_Model_near ({ frames := 4, cells := 0, slots := 0, locals := 94 }) (cPc (dC, dI) (uw_Model ad_md cA_md md) [(cA_md 1, .int), (cA_md 2, .int), (cA_md 3, .int), (cA_md 4, .int), (cA_md 5, .int), (cA_md 6, .int), (cA_md 7, .int), (cA_md 8, .int), (cA_md 9, .boolean), (cA_md 10, .int), (cA_md 11, .int), (cA_md 12, .int), (cA_md 13, .int)] sz [.ref (ad_md 0), .int x1]) (va_Qi (fun (r : Int32) (u : SModel) => r = res.1 ∧ u = res.2) (fun (u : SModel) (t : State) => va_P (dC, dI) vwCl (uw_Model ad_md cA_md u) t.heap ∧ va_K (dC, dI) vwCl [(cA_md 1, .int), (cA_md 2, .int), (cA_md 3, .int), (cA_md 4, .int), (cA_md 5, .int), (cA_md 6, .int), (cA_md 7, .int), (cA_md 8, .int), (cA_md 9, .boolean), (cA_md 10, .int), (cA_md 11, .int), (cA_md 12, .int), (cA_md 13, .int)] t ∧ va_D (va_A (uw_Model ad_md cA_md md) sz) (uw_Model ad_md cA_md u)) (va_A (uw_Model ad_md cA_md md) sz)) 0 0 (va_A (uw_Model ad_md cA_md md) sz) := by
  refine Met.ofW (cc := b_Model_near) (maxL := 4) (ret := (some .int)) (by decide) rfl ?_
  intro p e s m args below meth c s₁ B hml hv
  obtain ⟨rfl, hsz, hP, hK, hD0, hN⟩ := hv
  have hx := B.exec
  have hb := B.bytes
  have hr := B.returns
  have hts := atoms_spec (ws := w_Model_near) B.pre
  have hown : s.vm.findClass "HazardTablesModel" = some m.cls := findClass_of_methodNamed B.named
  have hlocks := B.notSynchronized
  subst hsz
  have hD := hD0.self (sz := s.heap.size)
  generalize hAe : va_A (uw_Model ad_md cA_md md) s.heap.size = A at hD ⊢
  have hA : ∀ q : Nat, s.heap.size ≤ q → A q := fun q h => by rw [← hAe]; exact Or.inr h
  have hS : va_S A s.heap s.heap [] := va_S.rf
  have hP : va_P (dC, dI) vwCl (uw_Model ad_md cA_md md) s.heap := hP
  have fl_134 := (hts _ (List.mem_cons_of_mem _ wd_775))
  have fl_17 := (hts _ (List.mem_cons_of_mem _ wd_754))
  have fl_64 := (hts _ (List.mem_cons_of_mem _ wd_748))
  have hin_Model : ∀ w ∈ u_ws "HazardTablesModel" F_Model 30, w ∈ w_Model_near := fun w h => List.mem_cons_of_mem _ (hinA_Model w h)
  have ret : ∀ (v : Int32) (u : SModel) (H : Heap) (locs : List Loc) (ls : Array Slot) (pc : Nat), decode b_Model_near pc = .ok (.ireturn, 1) → (v = res.1 ∧ u = res.2) → va_P (dC, dI) vwCl (uw_Model ad_md cA_md u) H → va_D A (uw_Model ad_md cA_md u) → va_S A s.heap H locs → W p l e (headSpec w_Model_near ({ frames := 4, cells := 0, slots := 0, locals := 94 })).room s m ([.ref (ad_md 0), .int x1] : List Value).toArray below meth c H locs 0 0 (MQ below (va_Qi (fun (r : Int32) (u : SModel) => r = res.1 ∧ u = res.2) (fun (u : SModel) (t : State) => va_P (dC, dI) vwCl (uw_Model ad_md cA_md u) t.heap ∧ va_K (dC, dI) vwCl [(cA_md 1, .int), (cA_md 2, .int), (cA_md 3, .int), (cA_md 4, .int), (cA_md 5, .int), (cA_md 6, .int), (cA_md 7, .int), (cA_md 8, .int), (cA_md 9, .boolean), (cA_md 10, .int), (cA_md 11, .int), (cA_md 12, .int), (cA_md 13, .int)] t ∧ va_D A (uw_Model ad_md cA_md u)) A) ([.ref (ad_md 0), .int x1] : List Value).toArray s 0 0 A) (F0 m pc ls [.int v]) := fun v u H locs ls pc hd hp hP hD hS => W.iret (v := v) hx hb hr (fun t ht hW => ⟨⟨v, u, rfl, hp, by rw [ht]; exact hP, va_K.moved hW.alike hK, hD⟩, hS.F ht⟩) hS.2.2 hd
  generalize (MQ below (va_Qi (fun (r : Int32) (u : SModel) => r = res.1 ∧ u = res.2) (fun (u : SModel) (t : State) => va_P (dC, dI) vwCl (uw_Model ad_md cA_md u) t.heap ∧ va_K (dC, dI) vwCl [(cA_md 1, .int), (cA_md 2, .int), (cA_md 3, .int), (cA_md 4, .int), (cA_md 5, .int), (cA_md 6, .int), (cA_md 7, .int), (cA_md 8, .int), (cA_md 9, .boolean), (cA_md 10, .int), (cA_md 11, .int), (cA_md 12, .int), (cA_md 13, .int)] t ∧ va_D A (uw_Model ad_md cA_md u)) A) ([.ref (ad_md 0), .int x1] : List Value).toArray s 0 0 A) = Q at ret ⊢
  have w_67 : ∀ (md : SModel) (y2 : Int32) (H : Heap) (locs : List Loc) (ls : Array Slot), f_Model_near_67 md y2 = some res → va_P (dC, dI) vwCl (uw_Model ad_md cA_md md) H → va_D A (uw_Model ad_md cA_md md) → va_S A s.heap H locs → lv_has ls 4 [(0, .ref (ad_md 0)), (2, .int y2)] → W p l e (headSpec w_Model_near ({ frames := 4, cells := 0, slots := 0, locals := 94 })).room s m ([.ref (ad_md 0), .int x1] : List Value).toArray below meth c H locs 0 0 Q (F0 m 67 ls []) := by
    intro md y2 H locs ls hf hP hD hS hl
    rw [f_Model_near_67] at hf
    refine lv_iload_n hx hb d_Model_near_67 rfl (lv_at hl 1 rfl) ?_
    refine lv_if_ge (tgt := 75) hx hb d_Model_near_68 (by decide) (fun hc11 => ?_) (fun hc11 => ?_)
    · have hf := hf_t hf hc11
      refine lv_aload_n hx hb d_Model_near_75 rfl (lv_at hl 0 rfl) ?_
      refine va_get (D := (dC, dI)) (ci := 6) (v := .ref (ad_md 2)) (C := "HazardTablesModel") (T := F_Model) (N := 30) hx hb hts hin_Model hown hK hP 0 rfl rfl 6 (by decide) fl_17 (fun _ h9 => h9) rfl d_Model_near_76 ?_
      refine lv_iload_n hx hb d_Model_near_79 rfl (lv_at hl 1 rfl) ?_
      refine lv_bipush (v := (43 : Int32)) hx hb d_Model_near_80 (by decide) ?_
      refine lv_imul hx hb d_Model_near_82 ?_
      obtain ⟨hi12, hf⟩ := hf_g hf
      refine va_iald hx hb hK hP 2 1 rfl rfl hi12 d_Model_near_83 ?_
      exact ret (md.2.2.2.1.2.2 (y2 * (43 : Int32)).toNatClampNeg) md H locs ls 84 d_Model_near_84 (hf_e hf) hP hD hS
    · have hf := hf_f hf hc11
      refine lv_iconst (v := (-1 : Int32)) hx hb d_Model_near_71 (by decide) ?_
      refine lv_goto (tgt := 84) hx hb d_Model_near_72 (by decide) ?_
      exact ret (-1 : Int32) md H locs ls 84 d_Model_near_84 (hf_e hf) hP hD hS
  have w_46 : ∀ (n : Nat) (md : SModel) (y1 : Int32) (y2 : Int32) (y3 : Int32) (H : Heap) (locs : List Loc) (ls : Array Slot), f_Model_near_46 n md y1 y2 y3 = some res → va_P (dC, dI) vwCl (uw_Model ad_md cA_md md) H → va_D A (uw_Model ad_md cA_md md) → va_S A s.heap H locs → lv_has ls 4 [(0, .ref (ad_md 0)), (1, .int y1), (2, .int y2), (3, .int y3)] → W p l e (headSpec w_Model_near ({ frames := 4, cells := 0, slots := 0, locals := 94 })).room s m ([.ref (ad_md 0), .int x1] : List Value).toArray below meth c H locs 0 0 Q (F0 m 46 ls []) := by
    intro n
    induction n with
    | zero =>
      intro md y1 y2 y3 H locs ls hf hP hD hS hl
      rw [f_Model_near_46] at hf; cases hf
    | succ n ih =>
      intro md y1 y2 y3 H locs ls hf hP hD hS hl
      rw [f_Model_near_46] at hf
      refine lv_iload_n hx hb d_Model_near_46 rfl (lv_at hl 3 rfl) ?_
      refine lv_iload_n hx hb d_Model_near_47 rfl (lv_at hl 1 rfl) ?_
      refine lv_icmp_ge (tgt := 67) hx hb d_Model_near_48 (by decide) (fun hc8 => ?_) (fun hc8 => ?_)
      · have hf := hf_t hf hc8
        exact w_67 md y2 H locs ls hf hP hD hS (lv_sub hl [0, 2] rfl)
      · have hf := hf_f hf hc8
        refine lv_iload_n hx hb d_Model_near_51 rfl (lv_at hl 2 rfl) ?_
        refine lv_if_lt (tgt := 67) hx hb d_Model_near_52 (by decide) (fun hc9 => ?_) (fun hc9 => ?_)
        · have hf := hf_t hf hc9
          exact w_67 md y2 H locs ls hf hP hD hS (lv_sub hl [0, 2] rfl)
        · have hf := hf_f hf hc9
          refine lv_aload_n hx hb d_Model_near_55 rfl (lv_at hl 0 rfl) ?_
          refine lv_iload_n hx hb d_Model_near_56 rfl (lv_at hl 2 rfl) ?_
          obtain ⟨u10, hu10, hf⟩ := Option.bind_eq_some_iff.mp hf
          refine cl_i (wc := (uw_Model ad_md cA_md md)) (wr := []) (tysC := [(cA_md 1, .int), (cA_md 2, .int), (cA_md 3, .int), (cA_md 4, .int), (cA_md 5, .int), (cA_md 6, .int), (cA_md 7, .int), (cA_md 8, .int), (cA_md 9, .boolean), (cA_md 10, .int), (cA_md 11, .int), (cA_md 12, .int), (cA_md 13, .int)]) (wu := fun (u : SModel) => (uw_Model ad_md cA_md u)) (wn := fun (u : SModel) => (uw_Model ad_md cA_md u)) [0, 1, 2, 3, 4, 5, 6, 7, 8, 9, 10, 11, 12, 13] [] [0, 1, 2, 3, 4, 5, 6, 7, 8, 9, 10, 11, 12, 13] [0, 1, 2, 3, 4, 5, 6, 7, 8, 9, 10, 11, 12] hP hD hS hA hK rfl rfl (by decide +kernel) (by decide +kernel) (by decide +kernel) rfl (fun _ => rfl) (by decide +kernel) (fun hPc hKc hDc => (va_runV (As := [.int y2]) (rest := []) ⟨hx, hb, hml, hown, hts⟩ (k_Model_following l dC dI ad_md cA_md H.size md y2 u10 hu10) (cwV 1 hts (gV wd_922 wd_924 wd_35 wd_49 wd_925) rfl rfl rfl (by decide +kernel) ⟨Nat.le_of_ble_eq_true rfl, Nat.le_of_ble_eq_true rfl⟩) (cl_preV hPc hKc hDc hN (ci := 6) 0 rfl rfl) rfl rfl hl.1 rfl (lv_room (Nat.le_of_ble_eq_true rfl)) d_Model_near_57 ⟨Nat.le_of_ble_eq_true rfl, Nat.le_of_ble_eq_true rfl⟩)) (fun r u H locs hw hP hD hS => ?_)
          obtain ⟨hw1, hw2⟩ := hw
          have hw1 := hw1.symm
          have hw2 := hw2.symm
          subst hw1
          subst hw2
          have hP : va_P (dC, dI) vwCl (uw_Model ad_md cA_md u10.2) H := hP
          have hD : va_D A (uw_Model ad_md cA_md u10.2) := hD
          refine lv_istore_n (lv' := [(2, .int u10.1), (0, .ref (ad_md 0)), (1, .int y1), (3, .int y3)]) hx hb d_Model_near_60 rfl hl (by decide) rfl (fun ls hl => ?_)
          refine lv_iinc (v := y3 + (1 : Int32)) (lv' := [(3, .int (y3 + (1 : Int32))), (2, .int u10.1), (0, .ref (ad_md 0)), (1, .int y1)]) hx hb d_Model_near_61 hl (k := 3) rfl rfl (by decide) rfl (fun ls hl => ?_)
          refine lv_goto (tgt := 46) hx hb d_Model_near_64 (by decide) ?_
          exact ih u10.2 y1 u10.1 (y3 + (1 : Int32)) H locs ls hf hP hD hS (lv_sub hl [2, 3, 1, 0] rfl)
  have w_10 : ∀ (md : SModel) (y1 : Int32) (z1 : Bool) (H : Heap) (locs : List Loc) (ls : Array Slot), f_Model_near_10 md y1 z1 = some res → va_P (dC, dI) vwCl (uw_Model ad_md cA_md md) H → va_D A (uw_Model ad_md cA_md md) → va_S A s.heap H locs → lv_has ls 4 [(0, .ref (ad_md 0)), (1, .int y1)] → W p l e (headSpec w_Model_near ({ frames := 4, cells := 0, slots := 0, locals := 94 })).room s m ([.ref (ad_md 0), .int x1] : List Value).toArray below meth c H locs 0 0 Q (F0 m 10 ls [.int (bI z1), .ref (ad_md 0)]) := by
    intro md y1 z1 H locs ls hf hP hD hS hl
    rw [f_Model_near_10] at hf
    refine lv_iconst (v := (1 : Int32)) hx hb d_Model_near_10 (by decide) ?_
    refine lv_iconst (v := (1 : Int32)) hx hb d_Model_near_11 (by decide) ?_
    obtain ⟨u2, hu2, hf⟩ := Option.bind_eq_some_iff.mp hf
    refine cl_i (wc := (uw_Model ad_md cA_md md)) (wr := []) (tysC := [(cA_md 1, .int), (cA_md 2, .int), (cA_md 3, .int), (cA_md 4, .int), (cA_md 5, .int), (cA_md 6, .int), (cA_md 7, .int), (cA_md 8, .int), (cA_md 9, .boolean), (cA_md 10, .int), (cA_md 11, .int), (cA_md 12, .int), (cA_md 13, .int)]) (wu := fun (u : SModel) => (uw_Model ad_md cA_md u)) (wn := fun (u : SModel) => (uw_Model ad_md cA_md u)) [0, 1, 2, 3, 4, 5, 6, 7, 8, 9, 10, 11, 12, 13] [] [0, 1, 2, 3, 4, 5, 6, 7, 8, 9, 10, 11, 12, 13] [0, 1, 2, 3, 4, 5, 6, 7, 8, 9, 10, 11, 12] hP hD hS hA hK rfl rfl (by decide +kernel) (by decide +kernel) (by decide +kernel) rfl (fun _ => rfl) (by decide +kernel) (fun hPc hKc hDc => (va_runV (As := [.int (bI z1), .int (1 : Int32), .int (1 : Int32)]) (rest := []) ⟨hx, hb, hml, hown, hts⟩ (k_Model_goes l dC dI ad_md cA_md H.size md z1 true true u2 hu2) (cwV 3 hts (gV wd_850 wd_852 wd_22 wd_49 wd_853) rfl rfl rfl (by decide +kernel) ⟨Nat.le_of_ble_eq_true rfl, Nat.le_of_ble_eq_true rfl⟩) (cl_preV hPc hKc hDc hN (ci := 6) 0 rfl rfl) rfl rfl hl.1 rfl (lv_room (Nat.le_of_ble_eq_true rfl)) d_Model_near_12 ⟨Nat.le_of_ble_eq_true rfl, Nat.le_of_ble_eq_true rfl⟩)) (fun r u H locs hw hP hD hS => ?_)
    obtain ⟨hw1, hw2⟩ := hw
    have hw1 := hw1.symm
    have hw2 := hw2.symm
    subst hw1
    subst hw2
    have hP : va_P (dC, dI) vwCl (uw_Model ad_md cA_md u2.2) H := hP
    have hD : va_D A (uw_Model ad_md cA_md u2.2) := hD
    refine lv_if_eq (tgt := 25) hx hb d_Model_near_15 (by decide) (fun hc3 => ?_) (fun hc3 => ?_)
    · have hf := hf_t hf hc3
      refine lv_aload_n hx hb d_Model_near_25 rfl (lv_at hl 0 rfl) ?_
      refine va_get (D := (dC, dI)) (ci := 6) (v := .int u2.2.1.1) (C := "HazardTablesModel") (T := F_Model) (N := 30) hx hb hts hin_Model hown hK hP 0 rfl rfl 0 (by decide) fl_64 (fun _ h9 => h9) rfl d_Model_near_26 ?_
      refine lv_if_le (tgt := 36) hx hb d_Model_near_29 (by decide) (fun hc4 => ?_) (fun hc4 => ?_)
      · have hf := hf_t hf hc4
        refine lv_iconst (v := (-1 : Int32)) hx hb d_Model_near_36 (by decide) ?_
        exact ret (-1 : Int32) u2.2 H locs ls 37 d_Model_near_37 (hf_e hf) hP hD hS
      · have hf := hf_f hf hc4
        refine lv_iconst (v := (0 : Int32)) hx hb d_Model_near_32 (by decide) ?_
        refine lv_goto (tgt := 37) hx hb d_Model_near_33 (by decide) ?_
        exact ret (0 : Int32) u2.2 H locs ls 37 d_Model_near_37 (hf_e hf) hP hD hS
    · have hf := hf_f hf hc3
      refine lv_aload_n hx hb d_Model_near_18 rfl (lv_at hl 0 rfl) ?_
      refine va_get (D := (dC, dI)) (ci := 6) (v := .int u2.2.2.2.2.2.2.2.2.2.1) (C := "HazardTablesModel") (T := F_Model) (N := 30) hx hb hts hin_Model hown hK hP 0 rfl rfl 27 (by decide) fl_134 (fun _ h9 => h9) rfl d_Model_near_19 ?_
      refine lv_if_ne (tgt := 38) hx hb d_Model_near_22 (by decide) (fun hc5 => ?_) (fun hc5 => ?_)
      · have hf := hf_f hf hc5
        refine lv_aload_n hx hb d_Model_near_38 rfl (lv_at hl 0 rfl) ?_
        refine lv_iconst (v := (-1 : Int32)) hx hb d_Model_near_39 (by decide) ?_
        obtain ⟨u6, hu6, hf⟩ := Option.bind_eq_some_iff.mp hf
        refine cl_i (wc := (uw_Model ad_md cA_md u2.2)) (wr := []) (tysC := [(cA_md 1, .int), (cA_md 2, .int), (cA_md 3, .int), (cA_md 4, .int), (cA_md 5, .int), (cA_md 6, .int), (cA_md 7, .int), (cA_md 8, .int), (cA_md 9, .boolean), (cA_md 10, .int), (cA_md 11, .int), (cA_md 12, .int), (cA_md 13, .int)]) (wu := fun (u : SModel) => (uw_Model ad_md cA_md u)) (wn := fun (u : SModel) => (uw_Model ad_md cA_md u)) [0, 1, 2, 3, 4, 5, 6, 7, 8, 9, 10, 11, 12, 13] [] [0, 1, 2, 3, 4, 5, 6, 7, 8, 9, 10, 11, 12, 13] [0, 1, 2, 3, 4, 5, 6, 7, 8, 9, 10, 11, 12] hP hD hS hA hK rfl rfl (by decide +kernel) (by decide +kernel) (by decide +kernel) rfl (fun _ => rfl) (by decide +kernel) (fun hPc hKc hDc => (va_runV (As := [.int (-1 : Int32)]) (rest := []) ⟨hx, hb, hml, hown, hts⟩ (k_Model_following l dC dI ad_md cA_md H.size u2.2 (-1 : Int32) u6 hu6) (cwV 1 hts (gV wd_922 wd_924 wd_35 wd_49 wd_925) rfl rfl rfl (by decide +kernel) ⟨Nat.le_of_ble_eq_true rfl, Nat.le_of_ble_eq_true rfl⟩) (cl_preV hPc hKc hDc hN (ci := 6) 0 rfl rfl) rfl rfl hl.1 rfl (lv_room (Nat.le_of_ble_eq_true rfl)) d_Model_near_40 ⟨Nat.le_of_ble_eq_true rfl, Nat.le_of_ble_eq_true rfl⟩)) (fun r u H locs hw hP hD hS => ?_)
        obtain ⟨hw1, hw2⟩ := hw
        have hw1 := hw1.symm
        have hw2 := hw2.symm
        subst hw1
        subst hw2
        have hP : va_P (dC, dI) vwCl (uw_Model ad_md cA_md u6.2) H := hP
        have hD : va_D A (uw_Model ad_md cA_md u6.2) := hD
        refine lv_istore_n (lv' := [(2, .int u6.1), (0, .ref (ad_md 0)), (1, .int y1)]) hx hb d_Model_near_43 rfl hl (by decide) rfl (fun ls hl => ?_)
        refine lv_iconst (v := (0 : Int32)) hx hb d_Model_near_44 (by decide) ?_
        refine lv_istore_n (lv' := [(3, .int (0 : Int32)), (2, .int u6.1), (0, .ref (ad_md 0)), (1, .int y1)]) hx hb d_Model_near_45 rfl hl (by decide) rfl (fun ls hl => ?_)
        exact w_46 4096 u6.2 y1 u6.1 (0 : Int32) H locs ls hf hP hD hS (lv_sub hl [2, 3, 1, 0] rfl)
      · have hf := hf_t hf hc5
        refine lv_aload_n hx hb d_Model_near_25 rfl (lv_at hl 0 rfl) ?_
        refine va_get (D := (dC, dI)) (ci := 6) (v := .int u2.2.1.1) (C := "HazardTablesModel") (T := F_Model) (N := 30) hx hb hts hin_Model hown hK hP 0 rfl rfl 0 (by decide) fl_64 (fun _ h9 => h9) rfl d_Model_near_26 ?_
        refine lv_if_le (tgt := 36) hx hb d_Model_near_29 (by decide) (fun hc7 => ?_) (fun hc7 => ?_)
        · have hf := hf_t hf hc7
          refine lv_iconst (v := (-1 : Int32)) hx hb d_Model_near_36 (by decide) ?_
          exact ret (-1 : Int32) u2.2 H locs ls 37 d_Model_near_37 (hf_e hf) hP hD hS
        · have hf := hf_f hf hc7
          refine lv_iconst (v := (0 : Int32)) hx hb d_Model_near_32 (by decide) ?_
          refine lv_goto (tgt := 37) hx hb d_Model_near_33 (by decide) ?_
          exact ret (0 : Int32) u2.2 H locs ls 37 d_Model_near_37 (hf_e hf) hP hD hS
  have hl := lv_entry ([.ref (ad_md 0), .int x1]) (n := 4) (Nat.le_of_ble_eq_true rfl)
  rw [lg_entry_eq]
  generalize (lg_sl ([.ref (ad_md 0), .int x1]) ++ List.replicate (4 - (lg_sl ([.ref (ad_md 0), .int x1])).length) Slot.unset).toArray = ls at hl ⊢
  have hl : lv_has ls 4 [(0, .ref (ad_md 0)), (1, .int x1)] := hl
  have hf := hf
  rw [f_Model_near] at hf
  obtain ⟨H, hH⟩ : ∃ H : Heap, H = s.heap := ⟨_, rfl⟩
  obtain ⟨locs, hlocs⟩ : ∃ L : List Loc, L = [] := ⟨_, rfl⟩
  have hP : va_P (dC, dI) vwCl (uw_Model ad_md cA_md md) H := by rw [hH]; exact hP
  have hS : va_S A s.heap H locs := by rw [hH, hlocs]; exact hS
  show W p l e (headSpec w_Model_near ({ frames := 4, cells := 0, slots := 0, locals := 94 })).room s m ([.ref (ad_md 0), .int x1] : List Value).toArray below meth c s.heap [] 0 0 Q (F0 m 0 ls [])
  suffices hgo : W p l e (headSpec w_Model_near ({ frames := 4, cells := 0, slots := 0, locals := 94 })).room s m ([.ref (ad_md 0), .int x1] : List Value).toArray below meth c H locs 0 0 Q (F0 m 0 ls []) by rw [hH, hlocs] at hgo; exact hgo
  clear hH hlocs
  refine lv_aload_n hx hb d_Model_near_0 rfl (lv_at hl 0 rfl) ?_
  refine lv_iload_n hx hb d_Model_near_1 rfl (lv_at hl 1 rfl) ?_
  refine lv_if_lt (tgt := 9) hx hb d_Model_near_2 (by decide) (fun hc1 => ?_) (fun hc1 => ?_)
  · have hf := hf_t hf hc1
    refine lv_iconst (v := (0 : Int32)) hx hb d_Model_near_9 (by decide) ?_
    exact w_10 md x1 false H locs ls hf hP hD hS (lv_sub hl [0, 1] rfl)
  · have hf := hf_f hf hc1
    refine lv_iconst (v := (1 : Int32)) hx hb d_Model_near_5 (by decide) ?_
    refine lv_goto (tgt := 10) hx hb d_Model_near_6 (by decide) ?_
    exact w_10 md x1 true H locs ls hf hP hD hS (lv_sub hl [0, 1] rfl)
