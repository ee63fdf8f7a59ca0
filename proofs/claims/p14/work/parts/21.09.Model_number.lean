noncomputable def f_Model_number_63 (k_34 : SModel → Int32 → Int32 → Int32 → Int32 → Option (Int32 × SModel)) (md : SModel) (y1 : Int32) (y2 : Int32) (y3 : Int32) (y4 : Int32) : Option (Int32 × SModel) :=
  (Option.bind (f_Model_here md) fun u15 =>
    (k_34 (md.1, (md.2.1.1, md.2.1.2.1, md.2.1.2.2.1 + (1 : Int32), md.2.1.2.2.2), md.2.2.1, md.2.2.2.1, md.2.2.2.2.1, md.2.2.2.2.2.1, md.2.2.2.2.2.2.1, md.2.2.2.2.2.2.2.1, md.2.2.2.2.2.2.2.2) y1 y2 ((((10 : Int32) * y3) + u15) - (48 : Int32)) (y4 + (1 : Int32)))
   )
noncomputable def f_Model_number_111  (md : SModel) (y1 : Int32) (y3 : Int32) (y4 : Int32) : Option (Int32 × SModel) :=
  (if y4 = (4 : Int32) then
    (Option.bind (f_Model_isDigit md) fun u18 =>
      (if (bI u18) = 0 then
        (if 0 ≤ md.2.1.2.2.2 then
          (some (y1, md))
         else
          (some (y3, md))
         )
       else
        (Option.bind (f_Model_fail md md.2.1.2.2.1) fun u21 =>
          (if 0 ≤ u21.2.1.2.2.2 then
            (some (y1, u21))
           else
            (some (y3, u21))
           )
         )
       )
     )
   else
    (if 0 ≤ md.2.1.2.2.2 then
      (some (y1, md))
     else
      (some (y3, md))
     )
   )
noncomputable def f_Model_number_92  (md : SModel) (y1 : Int32) (y2 : Int32) (y3 : Int32) (y4 : Int32) : Option (Int32 × SModel) :=
  (Option.bind (f_Model_within y3 y1 y2) fun u12 =>
    (if (bI u12) = 0 then
      (Option.bind (f_Model_fail md (md.2.1.2.2.1 - (1 : Int32))) fun u14 =>
        (f_Model_number_111 u14 y1 y3 y4)
       )
     else
      (f_Model_number_111 md y1 y3 y4)
     )
   )
noncomputable def f_Model_number_34  : Nat → SModel → Int32 → Int32 → Int32 → Int32 → Option (Int32 × SModel)
  | 0, _, _, _, _, _ => none
  | n + 1, md, y1, y2, y3, y4 =>
    (if 0 ≤ md.2.1.2.2.2 then
      (f_Model_number_92 md y1 y2 y3 y4)
     else
      (Option.bind (f_Model_isDigit md) fun u7 =>
        (if (bI u7) = 0 then
          (f_Model_number_92 md y1 y2 y3 y4)
         else
          (if (4 : Int32) ≤ y4 then
            (f_Model_number_92 md y1 y2 y3 y4)
           else
            (if y4 = 0 then
              (f_Model_number_63 (f_Model_number_34 n) md y1 y2 y3 y4)
             else
              (if y3 ≤ 0 then
                (f_Model_number_92 md y1 y2 y3 y4)
               else
                (f_Model_number_63 (f_Model_number_34 n) md y1 y2 y3 y4)
               )
             )
           )
         )
       )
     )
noncomputable def f_Model_number (md : SModel) (x1 : Int32) (x2 : Int32) : Option (Int32 × SModel) :=
  (if md.2.1.2.2.2 < 0 then
    (Option.bind (f_Model_see md) fun u2 =>
      (Option.bind (f_Model_isDigit u2.2) fun u3 =>
        (if (bI u3) = 0 then
          (Option.bind (f_Model_fail u2.2 u2.2.2.1.2.2.1) fun u5 =>
            (f_Model_number_34 4096 u5 x1 x2 (0 : Int32) (0 : Int32))
           )
         else
          (f_Model_number_34 4096 u2.2 x1 x2 (0 : Int32) (0 : Int32))
         )
       )
     )
   else
    (some (x1, md))
   )
set_option maxHeartbeats 4000000 in
set_option maxRecDepth 100000 in
theorem k_Model_number (l : Launch) (dC : Nat → ClassId) (dI : Nat → Nat → Nat) (ad_md : Nat → Nat) (cA_md : Nat → ClassId) (sz : Nat) (md : SModel) (x1 : Int32) (x2 : Int32) (res : Int32 × SModel) (hf : f_Model_number md x1 x2 = some res) : Met l y_Model_number w_Model_number ({ frames := 2, cells := 0, slots := 0, locals := 42 }) (cPc (dC, dI) (uw_Model ad_md cA_md md) [(cA_md 1, .int), (cA_md 2, .int), (cA_md 3, .int), (cA_md 4, .int), (cA_md 5, .int), (cA_md 6, .int), (cA_md 7, .int), (cA_md 8, .int), (cA_md 9, .boolean), (cA_md 10, .int), (cA_md 11, .int), (cA_md 12, .int), (cA_md 13, .int)] sz [.ref (ad_md 0), .int x1, .int x2]) (va_Qi (fun (r : Int32) (u : SModel) => r = res.1 ∧ u = res.2) (fun (u : SModel) (t : State) => va_P (dC, dI) vwCl (uw_Model ad_md cA_md u) t.heap ∧ va_K (dC, dI) vwCl [(cA_md 1, .int), (cA_md 2, .int), (cA_md 3, .int), (cA_md 4, .int), (cA_md 5, .int), (cA_md 6, .int), (cA_md 7, .int), (cA_md 8, .int), (cA_md 9, .boolean), (cA_md 10, .int), (cA_md 11, .int), (cA_md 12, .int), (cA_md 13, .int)] t ∧ va_D (va_A (uw_Model ad_md cA_md md) sz) (uw_Model ad_md cA_md u)) (va_A (uw_Model ad_md cA_md md) sz)) 0 0 (va_A (uw_Model ad_md cA_md md) sz) := by
  refine Met.ofW (cc := b_Model_number) (maxL := 5) (ret := (some .int)) (by decide) rfl ?_
  intro p e s m args below meth c s₁ B hml hv
  obtain ⟨rfl, hsz, hP, hK, hD0, hN⟩ := hv
  have hx := B.exec
  have hb := B.bytes
  have hr := B.returns
  have hts := atoms_spec (ws := w_Model_number) B.pre
  have hown : s.vm.findClass "HazardTablesModel" = some m.cls := findClass_of_methodNamed B.named
  have hlocks := B.notSynchronized
  subst hsz
  have hD := hD0.self (sz := s.heap.size)
  generalize hAe : va_A (uw_Model ad_md cA_md md) s.heap.size = A at hD ⊢
  have hA : ∀ q : Nat, s.heap.size ≤ q → A q := fun q h => by rw [← hAe]; exact Or.inr h
  have hS : va_S A s.heap s.heap [] := va_S.rf
  have hP : va_P (dC, dI) vwCl (uw_Model ad_md cA_md md) s.heap := hP
  have fl_78 := (hts _ (List.mem_cons_of_mem _ wd_758))
  have fl_85 := (hts _ (List.mem_cons_of_mem _ wd_759))
  have hin_Model : ∀ w ∈ u_ws "HazardTablesModel" F_Model 30, w ∈ w_Model_number := fun w h => List.mem_cons_of_mem _ (hinA_Model w h)
  have ret : ∀ (v : Int32) (u : SModel) (H : Heap) (locs : List Loc) (ls : Array Slot) (pc : Nat), decode b_Model_number pc = .ok (.ireturn, 1) → (v = res.1 ∧ u = res.2) → va_P (dC, dI) vwCl (uw_Model ad_md cA_md u) H → va_D A (uw_Model ad_md cA_md u) → va_S A s.heap H locs → W p l e (headSpec w_Model_number ({ frames := 2, cells := 0, slots := 0, locals := 42 })).room s m ([.ref (ad_md 0), .int x1, .int x2] : List Value).toArray below meth c H locs 0 0 (MQ below (va_Qi (fun (r : Int32) (u : SModel) => r = res.1 ∧ u = res.2) (fun (u : SModel) (t : State) => va_P (dC, dI) vwCl (uw_Model ad_md cA_md u) t.heap ∧ va_K (dC, dI) vwCl [(cA_md 1, .int), (cA_md 2, .int), (cA_md 3, .int), (cA_md 4, .int), (cA_md 5, .int), (cA_md 6, .int), (cA_md 7, .int), (cA_md 8, .int), (cA_md 9, .boolean), (cA_md 10, .int), (cA_md 11, .int), (cA_md 12, .int), (cA_md 13, .int)] t ∧ va_D A (uw_Model ad_md cA_md u)) A) ([.ref (ad_md 0), .int x1, .int x2] : List Value).toArray s 0 0 A) (F0 m pc ls [.int v]) := fun v u H locs ls pc hd hp hP hD hS => W.iret (v := v) hx hb hr (fun t ht hW => ⟨⟨v, u, rfl, hp, by rw [ht]; exact hP, va_K.moved hW.alike hK, hD⟩, hS.F ht⟩) hS.2.2 hd
  generalize (MQ below (va_Qi (fun (r : Int32) (u : SModel) => r = res.1 ∧ u = res.2) (fun (u : SModel) (t : State) => va_P (dC, dI) vwCl (uw_Model ad_md cA_md u) t.heap ∧ va_K (dC, dI) vwCl [(cA_md 1, .int), (cA_md 2, .int), (cA_md 3, .int), (cA_md 4, .int), (cA_md 5, .int), (cA_md 6, .int), (cA_md 7, .int), (cA_md 8, .int), (cA_md 9, .boolean), (cA_md 10, .int), (cA_md 11, .int), (cA_md 12, .int), (cA_md 13, .int)] t ∧ va_D A (uw_Model ad_md cA_md u)) A) ([.ref (ad_md 0), .int x1, .int x2] : List Value).toArray s 0 0 A) = Q at ret ⊢
  have w_63 : ∀ (k_34 : SModel → Int32 → Int32 → Int32 → Int32 → Option (Int32 × SModel)), (∀ (md : SModel) (y1 : Int32) (y2 : Int32) (y3 : Int32) (y4 : Int32) (H : Heap) (locs : List Loc) (ls : Array Slot), k_34 md y1 y2 y3 y4 = some res → va_P (dC, dI) vwCl (uw_Model ad_md cA_md md) H → va_D A (uw_Model ad_md cA_md md) → va_S A s.heap H locs → lv_has ls 5 [(0, .ref (ad_md 0)), (1, .int y1), (2, .int y2), (3, .int y3), (4, .int y4)] → W p l e (headSpec w_Model_number ({ frames := 2, cells := 0, slots := 0, locals := 42 })).room s m ([.ref (ad_md 0), .int x1, .int x2] : List Value).toArray below meth c H locs 0 0 Q (F0 m 34 ls [])) → ∀ (md : SModel) (y1 : Int32) (y2 : Int32) (y3 : Int32) (y4 : Int32) (H : Heap) (locs : List Loc) (ls : Array Slot), f_Model_number_63 k_34 md y1 y2 y3 y4 = some res → va_P (dC, dI) vwCl (uw_Model ad_md cA_md md) H → va_D A (uw_Model ad_md cA_md md) → va_S A s.heap H locs → lv_has ls 5 [(0, .ref (ad_md 0)), (1, .int y1), (2, .int y2), (3, .int y3), (4, .int y4)] → W p l e (headSpec w_Model_number ({ frames := 2, cells := 0, slots := 0, locals := 42 })).room s m ([.ref (ad_md 0), .int x1, .int x2] : List Value).toArray below meth c H locs 0 0 Q (F0 m 63 ls []) := by
    intro k_34 hk_34
    intro md y1 y2 y3 y4 H locs ls hf hP hD hS hl
    rw [f_Model_number_63] at hf
    refine lv_bipush (v := (10 : Int32)) hx hb d_Model_number_63 (by decide) ?_
    refine lv_iload_n hx hb d_Model_number_65 rfl (lv_at hl 3 rfl) ?_
    refine lv_imul hx hb d_Model_number_66 ?_
    refine lv_aload_n hx hb d_Model_number_67 rfl (lv_at hl 0 rfl) ?_
    obtain ⟨u15, hu15, hf⟩ := Option.bind_eq_some_iff.mp hf
    refine cl_i (wc := (uw_Model ad_md cA_md md)) (wr := []) (tysC := [(cA_md 1, .int), (cA_md 2, .int), (cA_md 3, .int), (cA_md 4, .int), (cA_md 5, .int), (cA_md 6, .int), (cA_md 7, .int), (cA_md 8, .int), (cA_md 9, .boolean), (cA_md 10, .int), (cA_md 11, .int), (cA_md 12, .int), (cA_md 13, .int)]) (wu := fun (u : Unit) => (uw_Model ad_md cA_md md)) (wn := fun (u : Unit) => (uw_Model ad_md cA_md md)) [0, 1, 2, 3, 4, 5, 6, 7, 8, 9, 10, 11, 12, 13] [] [0, 1, 2, 3, 4, 5, 6, 7, 8, 9, 10, 11, 12, 13] [0, 1, 2, 3, 4, 5, 6, 7, 8, 9, 10, 11, 12] hP hD hS hA hK rfl rfl (by decide +kernel) (by decide +kernel) (by decide +kernel) rfl (fun _ => rfl) (by decide +kernel) (fun hPc hKc hDc => (va_runV (As := []) (rest := [.int ((10 : Int32) * y3)]) ⟨hx, hb, hml, hown, hts⟩ (k_Model_here l dC dI ad_md cA_md H.size md u15 hu15) (cwV 0 hts (gV wd_862 wd_864 wd_24 wd_49 wd_865) rfl rfl rfl (by decide +kernel) ⟨Nat.le_of_ble_eq_true rfl, Nat.le_of_ble_eq_true rfl⟩) (cl_preV hPc hKc hDc hN (ci := 6) 0 rfl rfl) rfl rfl hl.1 rfl (lv_room (Nat.le_of_ble_eq_true rfl)) d_Model_number_68 ⟨Nat.le_of_ble_eq_true rfl, Nat.le_of_ble_eq_true rfl⟩)) (fun r u H locs hw hP hD hS => ?_)
    have hw := hw.symm
    subst hw
    have hP : va_P (dC, dI) vwCl (uw_Model ad_md cA_md md) H := hP
    have hD : va_D A (uw_Model ad_md cA_md md) := hD
    refine lv_iadd hx hb d_Model_number_71 ?_
    refine lv_bipush (v := (48 : Int32)) hx hb d_Model_number_72 (by decide) ?_
    refine lv_isub hx hb d_Model_number_74 ?_
    refine lv_istore_n (lv' := [(3, .int ((((10 : Int32) * y3) + u15) - (48 : Int32))), (0, .ref (ad_md 0)), (1, .int y1), (2, .int y2), (4, .int y4)]) hx hb d_Model_number_75 rfl hl (by decide) rfl (fun ls hl => ?_)
    refine lv_iinc (v := y4 + (1 : Int32)) (lv' := [(4, .int (y4 + (1 : Int32))), (3, .int ((((10 : Int32) * y3) + u15) - (48 : Int32))), (0, .ref (ad_md 0)), (1, .int y1), (2, .int y2)]) hx hb d_Model_number_76 hl (k := 4) rfl rfl (by decide) rfl (fun ls hl => ?_)
    refine lv_aload_n hx hb d_Model_number_79 rfl (lv_at hl 2 rfl) ?_
    refine lv_dup hx hb d_Model_number_80 rfl ?_
    refine va_get (D := (dC, dI)) (ci := 6) (v := .int md.2.1.2.2.1) (C := "HazardTablesModel") (T := F_Model) (N := 30) hx hb hts hin_Model hown hK hP 0 rfl rfl 10 (by decide) fl_78 (fun _ h9 => h9) rfl d_Model_number_81 ?_
    refine lv_iconst (v := (1 : Int32)) hx hb d_Model_number_84 (by decide) ?_
    refine lv_iadd hx hb d_Model_number_85 ?_
    refine va_put (D := (dC, dI)) (ci := 6) (v := .int (md.2.1.2.2.1 + (1 : Int32))) (ty := .int) (C := "HazardTablesModel") (T := F_Model) (N := 30) hx hb hts hin_Model t_Model t_Model_ok n_Model hown hK hP hD hS 0 rfl rfl 10 (by decide) fl_78 (fun _ h9 => h9) rfl (by decide +kernel) rfl rfl (Nat.le_of_ble_eq_true rfl) d_Model_number_86 (fun H locs hP hD hS => ?_)
    have hP : va_P (dC, dI) vwCl (uw_Model ad_md cA_md (md.1, (md.2.1.1, md.2.1.2.1, md.2.1.2.2.1 + (1 : Int32), md.2.1.2.2.2), md.2.2.1, md.2.2.2.1, md.2.2.2.2.1, md.2.2.2.2.2.1, md.2.2.2.2.2.2.1, md.2.2.2.2.2.2.2.1, md.2.2.2.2.2.2.2.2)) H := hP
    have hD : va_D A (uw_Model ad_md cA_md (md.1, (md.2.1.1, md.2.1.2.1, md.2.1.2.2.1 + (1 : Int32), md.2.1.2.2.2), md.2.2.1, md.2.2.2.1, md.2.2.2.2.1, md.2.2.2.2.2.1, md.2.2.2.2.2.2.1, md.2.2.2.2.2.2.2.1, md.2.2.2.2.2.2.2.2)) := hD
    refine lv_goto (tgt := 34) hx hb d_Model_number_89 (by decide) ?_
    exact hk_34 (md.1, (md.2.1.1, md.2.1.2.1, md.2.1.2.2.1 + (1 : Int32), md.2.1.2.2.2), md.2.2.1, md.2.2.2.1, md.2.2.2.2.1, md.2.2.2.2.2.1, md.2.2.2.2.2.2.1, md.2.2.2.2.2.2.2.1, md.2.2.2.2.2.2.2.2) y1 y2 ((((10 : Int32) * y3) + u15) - (48 : Int32)) (y4 + (1 : Int32)) H locs ls hf hP hD hS (lv_sub hl [2, 3, 4, 1, 0] rfl)
  have w_111 : ∀ (md : SModel) (y1 : Int32) (y3 : Int32) (y4 : Int32) (H : Heap) (locs : List Loc) (ls : Array Slot), f_Model_number_111 md y1 y3 y4 = some res → va_P (dC, dI) vwCl (uw_Model ad_md cA_md md) H → va_D A (uw_Model ad_md cA_md md) → va_S A s.heap H locs → lv_has ls 5 [(0, .ref (ad_md 0)), (1, .int y1), (3, .int y3), (4, .int y4)] → W p l e (headSpec w_Model_number ({ frames := 2, cells := 0, slots := 0, locals := 42 })).room s m ([.ref (ad_md 0), .int x1, .int x2] : List Value).toArray below meth c H locs 0 0 Q (F0 m 111 ls []) := by
    intro md y1 y3 y4 H locs ls hf hP hD hS hl
    rw [f_Model_number_111] at hf
    refine lv_iload hx hb d_Model_number_111 (lv_at hl 3 rfl) ?_
    refine lv_iconst (v := (4 : Int32)) hx hb d_Model_number_113 (by decide) ?_
    refine lv_icmp_ne (tgt := 132) hx hb d_Model_number_114 (by decide) (fun hc16 => ?_) (fun hc16 => ?_)
    · have hf := hf_f hf hc16
      refine lv_aload_n hx hb d_Model_number_132 rfl (lv_at hl 0 rfl) ?_
      refine va_get (D := (dC, dI)) (ci := 6) (v := .int md.2.1.2.2.2) (C := "HazardTablesModel") (T := F_Model) (N := 30) hx hb hts hin_Model hown hK hP 0 rfl rfl 11 (by decide) fl_85 (fun _ h9 => h9) rfl d_Model_number_133 ?_
      refine lv_if_ge (tgt := 143) hx hb d_Model_number_136 (by decide) (fun hc17 => ?_) (fun hc17 => ?_)
      · have hf := hf_t hf hc17
        refine lv_iload_n hx hb d_Model_number_143 rfl (lv_at hl 1 rfl) ?_
        exact ret y1 md H locs ls 144 d_Model_number_144 (hf_e hf) hP hD hS
      · have hf := hf_f hf hc17
        refine lv_iload_n hx hb d_Model_number_139 rfl (lv_at hl 2 rfl) ?_
        refine lv_goto (tgt := 144) hx hb d_Model_number_140 (by decide) ?_
        exact ret y3 md H locs ls 144 d_Model_number_144 (hf_e hf) hP hD hS
    · have hf := hf_t hf hc16
      refine lv_aload_n hx hb d_Model_number_117 rfl (lv_at hl 0 rfl) ?_
      obtain ⟨u18, hu18, hf⟩ := Option.bind_eq_some_iff.mp hf
      refine cl_i (wc := (uw_Model ad_md cA_md md)) (wr := []) (tysC := [(cA_md 1, .int), (cA_md 2, .int), (cA_md 3, .int), (cA_md 4, .int), (cA_md 5, .int), (cA_md 6, .int), (cA_md 7, .int), (cA_md 8, .int), (cA_md 9, .boolean), (cA_md 10, .int), (cA_md 11, .int), (cA_md 12, .int), (cA_md 13, .int)]) (wu := fun (u : Unit) => (uw_Model ad_md cA_md md)) (wn := fun (u : Unit) => (uw_Model ad_md cA_md md)) [0, 1, 2, 3, 4, 5, 6, 7, 8, 9, 10, 11, 12, 13] [] [0, 1, 2, 3, 4, 5, 6, 7, 8, 9, 10, 11, 12, 13] [0, 1, 2, 3, 4, 5, 6, 7, 8, 9, 10, 11, 12] hP hD hS hA hK rfl rfl (by decide +kernel) (by decide +kernel) (by decide +kernel) rfl (fun _ => rfl) (by decide +kernel) (fun hPc hKc hDc => (va_runV (As := []) (rest := []) ⟨hx, hb, hml, hown, hts⟩ (k_Model_isDigit l dC dI ad_md cA_md H.size md u18 hu18) (cwV 0 hts (gV wd_878 wd_880 wd_28 wd_49 wd_881) rfl rfl rfl (by decide +kernel) ⟨Nat.le_of_ble_eq_true rfl, Nat.le_of_ble_eq_true rfl⟩) (cl_preV hPc hKc hDc hN (ci := 6) 0 rfl rfl) rfl rfl hl.1 rfl (lv_room (Nat.le_of_ble_eq_true rfl)) d_Model_number_118 ⟨Nat.le_of_ble_eq_true rfl, Nat.le_of_ble_eq_true rfl⟩)) (fun r u H locs hw hP hD hS => ?_)
      have hw := hw.symm
      subst hw
      have hP : va_P (dC, dI) vwCl (uw_Model ad_md cA_md md) H := hP
      have hD : va_D A (uw_Model ad_md cA_md md) := hD
      refine lv_if_eq (tgt := 132) hx hb d_Model_number_121 (by decide) (fun hc19 => ?_) (fun hc19 => ?_)
      · have hf := hf_t hf hc19
        refine lv_aload_n hx hb d_Model_number_132 rfl (lv_at hl 0 rfl) ?_
        refine va_get (D := (dC, dI)) (ci := 6) (v := .int md.2.1.2.2.2) (C := "HazardTablesModel") (T := F_Model) (N := 30) hx hb hts hin_Model hown hK hP 0 rfl rfl 11 (by decide) fl_85 (fun _ h9 => h9) rfl d_Model_number_133 ?_
        refine lv_if_ge (tgt := 143) hx hb d_Model_number_136 (by decide) (fun hc20 => ?_) (fun hc20 => ?_)
        · have hf := hf_t hf hc20
          refine lv_iload_n hx hb d_Model_number_143 rfl (lv_at hl 1 rfl) ?_
          exact ret y1 md H locs ls 144 d_Model_number_144 (hf_e hf) hP hD hS
        · have hf := hf_f hf hc20
          refine lv_iload_n hx hb d_Model_number_139 rfl (lv_at hl 2 rfl) ?_
          refine lv_goto (tgt := 144) hx hb d_Model_number_140 (by decide) ?_
          exact ret y3 md H locs ls 144 d_Model_number_144 (hf_e hf) hP hD hS
      · have hf := hf_f hf hc19
        refine lv_aload_n hx hb d_Model_number_124 rfl (lv_at hl 0 rfl) ?_
        refine lv_aload_n hx hb d_Model_number_125 rfl (lv_at hl 0 rfl) ?_
        refine va_get (D := (dC, dI)) (ci := 6) (v := .int md.2.1.2.2.1) (C := "HazardTablesModel") (T := F_Model) (N := 30) hx hb hts hin_Model hown hK hP 0 rfl rfl 10 (by decide) fl_78 (fun _ h9 => h9) rfl d_Model_number_126 ?_
        obtain ⟨u21, hu21, hf⟩ := Option.bind_eq_some_iff.mp hf
        refine cl_v (wc := (uw_Model ad_md cA_md md)) (wr := []) (tysC := [(cA_md 1, .int), (cA_md 2, .int), (cA_md 3, .int), (cA_md 4, .int), (cA_md 5, .int), (cA_md 6, .int), (cA_md 7, .int), (cA_md 8, .int), (cA_md 9, .boolean), (cA_md 10, .int), (cA_md 11, .int), (cA_md 12, .int), (cA_md 13, .int)]) (wu := fun (u : SModel) => (uw_Model ad_md cA_md u)) (wn := fun (u : SModel) => (uw_Model ad_md cA_md u)) [0, 1, 2, 3, 4, 5, 6, 7, 8, 9, 10, 11, 12, 13] [] [0, 1, 2, 3, 4, 5, 6, 7, 8, 9, 10, 11, 12, 13] [0, 1, 2, 3, 4, 5, 6, 7, 8, 9, 10, 11, 12] hP hD hS hA hK rfl rfl (by decide +kernel) (by decide +kernel) (by decide +kernel) rfl (fun _ => rfl) (by decide +kernel) (fun hPc hKc hDc => (va_runV (As := [.int md.2.1.2.2.1]) (rest := []) ⟨hx, hb, hml, hown, hts⟩ (k_Model_fail l dC dI ad_md cA_md H.size md md.2.1.2.2.1 u21 hu21) (cwV 1 hts (gV wd_870 wd_872 wd_26 wd_49 wd_873) rfl rfl rfl (by decide +kernel) ⟨Nat.le_of_ble_eq_true rfl, Nat.le_of_ble_eq_true rfl⟩) (cl_preV hPc hKc hDc hN (ci := 6) 0 rfl rfl) rfl rfl hl.1 rfl (lv_room (Nat.le_of_ble_eq_true rfl)) d_Model_number_129 ⟨Nat.le_of_ble_eq_true rfl, Nat.le_of_ble_eq_true rfl⟩)) (fun u H locs hw hP hD hS => ?_)
        have hw := hw.symm
        subst hw
        have hP : va_P (dC, dI) vwCl (uw_Model ad_md cA_md u21) H := hP
        have hD : va_D A (uw_Model ad_md cA_md u21) := hD
        refine lv_aload_n hx hb d_Model_number_132 rfl (lv_at hl 0 rfl) ?_
        refine va_get (D := (dC, dI)) (ci := 6) (v := .int u21.2.1.2.2.2) (C := "HazardTablesModel") (T := F_Model) (N := 30) hx hb hts hin_Model hown hK hP 0 rfl rfl 11 (by decide) fl_85 (fun _ h9 => h9) rfl d_Model_number_133 ?_
        refine lv_if_ge (tgt := 143) hx hb d_Model_number_136 (by decide) (fun hc22 => ?_) (fun hc22 => ?_)
        · have hf := hf_t hf hc22
          refine lv_iload_n hx hb d_Model_number_143 rfl (lv_at hl 1 rfl) ?_
          exact ret y1 u21 H locs ls 144 d_Model_number_144 (hf_e hf) hP hD hS
        · have hf := hf_f hf hc22
          refine lv_iload_n hx hb d_Model_number_139 rfl (lv_at hl 2 rfl) ?_
          refine lv_goto (tgt := 144) hx hb d_Model_number_140 (by decide) ?_
          exact ret y3 u21 H locs ls 144 d_Model_number_144 (hf_e hf) hP hD hS
  have w_92 : ∀ (md : SModel) (y1 : Int32) (y2 : Int32) (y3 : Int32) (y4 : Int32) (H : Heap) (locs : List Loc) (ls : Array Slot), f_Model_number_92 md y1 y2 y3 y4 = some res → va_P (dC, dI) vwCl (uw_Model ad_md cA_md md) H → va_D A (uw_Model ad_md cA_md md) → va_S A s.heap H locs → lv_has ls 5 [(0, .ref (ad_md 0)), (1, .int y1), (2, .int y2), (3, .int y3), (4, .int y4)] → W p l e (headSpec w_Model_number ({ frames := 2, cells := 0, slots := 0, locals := 42 })).room s m ([.ref (ad_md 0), .int x1, .int x2] : List Value).toArray below meth c H locs 0 0 Q (F0 m 92 ls []) := by
    intro md y1 y2 y3 y4 H locs ls hf hP hD hS hl
    rw [f_Model_number_92] at hf
    refine lv_iload_n hx hb d_Model_number_92 rfl (lv_at hl 3 rfl) ?_
    refine lv_iload_n hx hb d_Model_number_93 rfl (lv_at hl 1 rfl) ?_
    refine lv_iload_n hx hb d_Model_number_94 rfl (lv_at hl 2 rfl) ?_
    obtain ⟨u12, hu12, hf⟩ := Option.bind_eq_some_iff.mp hf
    refine cl_i (wc := []) (wr := (uw_Model ad_md cA_md md)) (tysC := []) (wu := fun (u : Unit) => []) (wn := fun (u : Unit) => (uw_Model ad_md cA_md md)) [] [0, 1, 2, 3, 4, 5, 6, 7, 8, 9, 10, 11, 12, 13] [0, 1, 2, 3, 4, 5, 6, 7, 8, 9, 10, 11, 12, 13] [] hP hD hS hA hK rfl rfl (by decide +kernel) (by decide +kernel) (by decide +kernel) rfl (fun _ => rfl) (by decide +kernel) (fun hPc hKc hDc => (va_runS (As := [.int y3, .int y1, .int y2]) (rest := []) ⟨hx, hb, hml, hown, hts⟩ (k_Model_within l dC dI  H.size y3 y1 y2 u12 hu12) (cwS 3 hts (gS wd_847 wd_848 wd_49 wd_849) rfl rfl rfl (by decide +kernel) ⟨Nat.le_of_ble_eq_true rfl, Nat.le_of_ble_eq_true rfl⟩) (cl_preS hPc hKc hDc hN) rfl rfl hl.1 rfl (lv_room (Nat.le_of_ble_eq_true rfl)) d_Model_number_95 ⟨Nat.le_of_ble_eq_true rfl, Nat.le_of_ble_eq_true rfl⟩)) (fun r u H locs hw hP hD hS => ?_)
    have hw := hw.symm
    subst hw
    have hP : va_P (dC, dI) vwCl (uw_Model ad_md cA_md md) H := hP
    have hD : va_D A (uw_Model ad_md cA_md md) := hD
    refine lv_if_ne (tgt := 111) hx hb d_Model_number_98 (by decide) (fun hc13 => ?_) (fun hc13 => ?_)
    · have hf := hf_f hf hc13
      exact w_111 md y1 y3 y4 H locs ls hf hP hD hS (lv_sub hl [0, 1, 3, 4] rfl)
    · have hf := hf_t hf hc13
      refine lv_aload_n hx hb d_Model_number_101 rfl (lv_at hl 0 rfl) ?_
      refine lv_aload_n hx hb d_Model_number_102 rfl (lv_at hl 0 rfl) ?_
      refine va_get (D := (dC, dI)) (ci := 6) (v := .int md.2.1.2.2.1) (C := "HazardTablesModel") (T := F_Model) (N := 30) hx hb hts hin_Model hown hK hP 0 rfl rfl 10 (by decide) fl_78 (fun _ h9 => h9) rfl d_Model_number_103 ?_
      refine lv_iconst (v := (1 : Int32)) hx hb d_Model_number_106 (by decide) ?_
      refine lv_isub hx hb d_Model_number_107 ?_
      obtain ⟨u14, hu14, hf⟩ := Option.bind_eq_some_iff.mp hf
      refine cl_v (wc := (uw_Model ad_md cA_md md)) (wr := []) (tysC := [(cA_md 1, .int), (cA_md 2, .int), (cA_md 3, .int), (cA_md 4, .int), (cA_md 5, .int), (cA_md 6, .int), (cA_md 7, .int), (cA_md 8, .int), (cA_md 9, .boolean), (cA_md 10, .int), (cA_md 11, .int), (cA_md 12, .int), (cA_md 13, .int)]) (wu := fun (u : SModel) => (uw_Model ad_md cA_md u)) (wn := fun (u : SModel) => (uw_Model ad_md cA_md u)) [0, 1, 2, 3, 4, 5, 6, 7, 8, 9, 10, 11, 12, 13] [] [0, 1, 2, 3, 4, 5, 6, 7, 8, 9, 10, 11, 12, 13] [0, 1, 2, 3, 4, 5, 6, 7, 8, 9, 10, 11, 12] hP hD hS hA hK rfl rfl (by decide +kernel) (by decide +kernel) (by decide +kernel) rfl (fun _ => rfl) (by decide +kernel) (fun hPc hKc hDc => (va_runV (As := [.int (md.2.1.2.2.1 - (1 : Int32))]) (rest := []) ⟨hx, hb, hml, hown, hts⟩ (k_Model_fail l dC dI ad_md cA_md H.size md (md.2.1.2.2.1 - (1 : Int32)) u14 hu14) (cwV 1 hts (gV wd_870 wd_872 wd_26 wd_49 wd_873) rfl rfl rfl (by decide +kernel) ⟨Nat.le_of_ble_eq_true rfl, Nat.le_of_ble_eq_true rfl⟩) (cl_preV hPc hKc hDc hN (ci := 6) 0 rfl rfl) rfl rfl hl.1 rfl (lv_room (Nat.le_of_ble_eq_true rfl)) d_Model_number_108 ⟨Nat.le_of_ble_eq_true rfl, Nat.le_of_ble_eq_true rfl⟩)) (fun u H locs hw hP hD hS => ?_)
      have hw := hw.symm
      subst hw
      have hP : va_P (dC, dI) vwCl (uw_Model ad_md cA_md u14) H := hP
      have hD : va_D A (uw_Model ad_md cA_md u14) := hD
      exact w_111 u14 y1 y3 y4 H locs ls hf hP hD hS (lv_sub hl [0, 1, 3, 4] rfl)
  have w_34 : ∀ (n : Nat) (md : SModel) (y1 : Int32) (y2 : Int32) (y3 : Int32) (y4 : Int32) (H : Heap) (locs : List Loc) (ls : Array Slot), f_Model_number_34 n md y1 y2 y3 y4 = some res → va_P (dC, dI) vwCl (uw_Model ad_md cA_md md) H → va_D A (uw_Model ad_md cA_md md) → va_S A s.heap H locs → lv_has ls 5 [(0, .ref (ad_md 0)), (1, .int y1), (2, .int y2), (3, .int y3), (4, .int y4)] → W p l e (headSpec w_Model_number ({ frames := 2, cells := 0, slots := 0, locals := 42 })).room s m ([.ref (ad_md 0), .int x1, .int x2] : List Value).toArray below meth c H locs 0 0 Q (F0 m 34 ls []) := by
    intro n
    induction n with
    | zero =>
      intro md y1 y2 y3 y4 H locs ls hf hP hD hS hl
      rw [f_Model_number_34] at hf; cases hf
    | succ n ih =>
      intro md y1 y2 y3 y4 H locs ls hf hP hD hS hl
      rw [f_Model_number_34] at hf
      refine lv_aload_n hx hb d_Model_number_34 rfl (lv_at hl 0 rfl) ?_
      refine va_get (D := (dC, dI)) (ci := 6) (v := .int md.2.1.2.2.2) (C := "HazardTablesModel") (T := F_Model) (N := 30) hx hb hts hin_Model hown hK hP 0 rfl rfl 11 (by decide) fl_85 (fun _ h9 => h9) rfl d_Model_number_35 ?_
      refine lv_if_ge (tgt := 92) hx hb d_Model_number_38 (by decide) (fun hc6 => ?_) (fun hc6 => ?_)
      · have hf := hf_t hf hc6
        exact w_92 md y1 y2 y3 y4 H locs ls hf hP hD hS (lv_sub hl [0, 1, 2, 3, 4] rfl)
      · have hf := hf_f hf hc6
        refine lv_aload_n hx hb d_Model_number_41 rfl (lv_at hl 0 rfl) ?_
        obtain ⟨u7, hu7, hf⟩ := Option.bind_eq_some_iff.mp hf
        refine cl_i (wc := (uw_Model ad_md cA_md md)) (wr := []) (tysC := [(cA_md 1, .int), (cA_md 2, .int), (cA_md 3, .int), (cA_md 4, .int), (cA_md 5, .int), (cA_md 6, .int), (cA_md 7, .int), (cA_md 8, .int), (cA_md 9, .boolean), (cA_md 10, .int), (cA_md 11, .int), (cA_md 12, .int), (cA_md 13, .int)]) (wu := fun (u : Unit) => (uw_Model ad_md cA_md md)) (wn := fun (u : Unit) => (uw_Model ad_md cA_md md)) [0, 1, 2, 3, 4, 5, 6, 7, 8, 9, 10, 11, 12, 13] [] [0, 1, 2, 3, 4, 5, 6, 7, 8, 9, 10, 11, 12, 13] [0, 1, 2, 3, 4, 5, 6, 7, 8, 9, 10, 11, 12] hP hD hS hA hK rfl rfl (by decide +kernel) (by decide +kernel) (by decide +kernel) rfl (fun _ => rfl) (by decide +kernel) (fun hPc hKc hDc => (va_runV (As := []) (rest := []) ⟨hx, hb, hml, hown, hts⟩ (k_Model_isDigit l dC dI ad_md cA_md H.size md u7 hu7) (cwV 0 hts (gV wd_878 wd_880 wd_28 wd_49 wd_881) rfl rfl rfl (by decide +kernel) ⟨Nat.le_of_ble_eq_true rfl, Nat.le_of_ble_eq_true rfl⟩) (cl_preV hPc hKc hDc hN (ci := 6) 0 rfl rfl) rfl rfl hl.1 rfl (lv_room (Nat.le_of_ble_eq_true rfl)) d_Model_number_42 ⟨Nat.le_of_ble_eq_true rfl, Nat.le_of_ble_eq_true rfl⟩)) (fun r u H locs hw hP hD hS => ?_)
        have hw := hw.symm
        subst hw
        have hP : va_P (dC, dI) vwCl (uw_Model ad_md cA_md md) H := hP
        have hD : va_D A (uw_Model ad_md cA_md md) := hD
        refine lv_if_eq (tgt := 92) hx hb d_Model_number_45 (by decide) (fun hc8 => ?_) (fun hc8 => ?_)
        · have hf := hf_t hf hc8
          exact w_92 md y1 y2 y3 y4 H locs ls hf hP hD hS (lv_sub hl [0, 1, 2, 3, 4] rfl)
        · have hf := hf_f hf hc8
          refine lv_iload hx hb d_Model_number_48 (lv_at hl 4 rfl) ?_
          refine lv_iconst (v := (4 : Int32)) hx hb d_Model_number_50 (by decide) ?_
          refine lv_icmp_ge (tgt := 92) hx hb d_Model_number_51 (by decide) (fun hc9 => ?_) (fun hc9 => ?_)
          · have hf := hf_t hf hc9
            exact w_92 md y1 y2 y3 y4 H locs ls hf hP hD hS (lv_sub hl [0, 1, 2, 3, 4] rfl)
          · have hf := hf_f hf hc9
            refine lv_iload hx hb d_Model_number_54 (lv_at hl 4 rfl) ?_
            refine lv_if_eq (tgt := 63) hx hb d_Model_number_56 (by decide) (fun hc10 => ?_) (fun hc10 => ?_)
            · have hf := hf_t hf hc10
              exact w_63 (f_Model_number_34 n) ih md y1 y2 y3 y4 H locs ls hf hP hD hS (lv_sub hl [0, 1, 2, 3, 4] rfl)
            · have hf := hf_f hf hc10
              refine lv_iload_n hx hb d_Model_number_59 rfl (lv_at hl 3 rfl) ?_
              refine lv_if_le (tgt := 92) hx hb d_Model_number_60 (by decide) (fun hc11 => ?_) (fun hc11 => ?_)
              · have hf := hf_t hf hc11
                exact w_92 md y1 y2 y3 y4 H locs ls hf hP hD hS (lv_sub hl [0, 1, 2, 3, 4] rfl)
              · have hf := hf_f hf hc11
                exact w_63 (f_Model_number_34 n) ih md y1 y2 y3 y4 H locs ls hf hP hD hS (lv_sub hl [0, 1, 2, 3, 4] rfl)
  have hl := lv_entry ([.ref (ad_md 0), .int x1, .int x2]) (n := 5) (Nat.le_of_ble_eq_true rfl)
  rw [lg_entry_eq]
  generalize (lg_sl ([.ref (ad_md 0), .int x1, .int x2]) ++ List.replicate (5 - (lg_sl ([.ref (ad_md 0), .int x1, .int x2])).length) Slot.unset).toArray = ls at hl ⊢
  have hl : lv_has ls 5 [(0, .ref (ad_md 0)), (1, .int x1), (2, .int x2)] := hl
  have hf := hf
  rw [f_Model_number] at hf
  obtain ⟨H, hH⟩ : ∃ H : Heap, H = s.heap := ⟨_, rfl⟩
  obtain ⟨locs, hlocs⟩ : ∃ L : List Loc, L = [] := ⟨_, rfl⟩
  have hP : va_P (dC, dI) vwCl (uw_Model ad_md cA_md md) H := by rw [hH]; exact hP
  have hS : va_S A s.heap H locs := by rw [hH, hlocs]; exact hS
  show W p l e (headSpec w_Model_number ({ frames := 2, cells := 0, slots := 0, locals := 42 })).room s m ([.ref (ad_md 0), .int x1, .int x2] : List Value).toArray below meth c s.heap [] 0 0 Q (F0 m 0 ls [])
  suffices hgo : W p l e (headSpec w_Model_number ({ frames := 2, cells := 0, slots := 0, locals := 42 })).room s m ([.ref (ad_md 0), .int x1, .int x2] : List Value).toArray below meth c H locs 0 0 Q (F0 m 0 ls []) by rw [hH, hlocs] at hgo; exact hgo
  clear hH hlocs
  refine lv_aload_n hx hb d_Model_number_0 rfl (lv_at hl 0 rfl) ?_
  refine va_get (D := (dC, dI)) (ci := 6) (v := .int md.2.1.2.2.2) (C := "HazardTablesModel") (T := F_Model) (N := 30) hx hb hts hin_Model hown hK hP 0 rfl rfl 11 (by decide) fl_85 (fun _ h9 => h9) rfl d_Model_number_1 ?_
  refine lv_if_lt (tgt := 9) hx hb d_Model_number_4 (by decide) (fun hc1 => ?_) (fun hc1 => ?_)
  · have hf := hf_t hf hc1
    refine lv_aload_n hx hb d_Model_number_9 rfl (lv_at hl 0 rfl) ?_
    obtain ⟨u2, hu2, hf⟩ := Option.bind_eq_some_iff.mp hf
    refine cl_i (wc := (uw_Model ad_md cA_md md)) (wr := []) (tysC := [(cA_md 1, .int), (cA_md 2, .int), (cA_md 3, .int), (cA_md 4, .int), (cA_md 5, .int), (cA_md 6, .int), (cA_md 7, .int), (cA_md 8, .int), (cA_md 9, .boolean), (cA_md 10, .int), (cA_md 11, .int), (cA_md 12, .int), (cA_md 13, .int)]) (wu := fun (u : SModel) => (uw_Model ad_md cA_md u)) (wn := fun (u : SModel) => (uw_Model ad_md cA_md u)) [0, 1, 2, 3, 4, 5, 6, 7, 8, 9, 10, 11, 12, 13] [] [0, 1, 2, 3, 4, 5, 6, 7, 8, 9, 10, 11, 12, 13] [0, 1, 2, 3, 4, 5, 6, 7, 8, 9, 10, 11, 12] hP hD hS hA hK rfl rfl (by decide +kernel) (by decide +kernel) (by decide +kernel) rfl (fun _ => rfl) (by decide +kernel) (fun hPc hKc hDc => (va_runV (As := []) (rest := []) ⟨hx, hb, hml, hown, hts⟩ (k_Model_see l dC dI ad_md cA_md H.size md u2 hu2) (cwV 0 hts (gV wd_858 wd_860 wd_23 wd_49 wd_861) rfl rfl rfl (by decide +kernel) ⟨Nat.le_of_ble_eq_true rfl, Nat.le_of_ble_eq_true rfl⟩) (cl_preV hPc hKc hDc hN (ci := 6) 0 rfl rfl) rfl rfl hl.1 rfl (lv_room (Nat.le_of_ble_eq_true rfl)) d_Model_number_10 ⟨Nat.le_of_ble_eq_true rfl, Nat.le_of_ble_eq_true rfl⟩)) (fun r u H locs hw hP hD hS => ?_)
    obtain ⟨hw1, hw2⟩ := hw
    have hw1 := hw1.symm
    have hw2 := hw2.symm
    subst hw1
    subst hw2
    have hP : va_P (dC, dI) vwCl (uw_Model ad_md cA_md u2.2) H := hP
    have hD : va_D A (uw_Model ad_md cA_md u2.2) := hD
    refine lv_pop hx hb d_Model_number_13 rfl ?_
    refine lv_aload_n hx hb d_Model_number_14 rfl (lv_at hl 0 rfl) ?_
    obtain ⟨u3, hu3, hf⟩ := Option.bind_eq_some_iff.mp hf
    refine cl_i (wc := (uw_Model ad_md cA_md u2.2)) (wr := []) (tysC := [(cA_md 1, .int), (cA_md 2, .int), (cA_md 3, .int), (cA_md 4, .int), (cA_md 5, .int), (cA_md 6, .int), (cA_md 7, .int), (cA_md 8, .int), (cA_md 9, .boolean), (cA_md 10, .int), (cA_md 11, .int), (cA_md 12, .int), (cA_md 13, .int)]) (wu := fun (u : Unit) => (uw_Model ad_md cA_md u2.2)) (wn := fun (u : Unit) => (uw_Model ad_md cA_md u2.2)) [0, 1, 2, 3, 4, 5, 6, 7, 8, 9, 10, 11, 12, 13] [] [0, 1, 2, 3, 4, 5, 6, 7, 8, 9, 10, 11, 12, 13] [0, 1, 2, 3, 4, 5, 6, 7, 8, 9, 10, 11, 12] hP hD hS hA hK rfl rfl (by decide +kernel) (by decide +kernel) (by decide +kernel) rfl (fun _ => rfl) (by decide +kernel) (fun hPc hKc hDc => (va_runV (As := []) (rest := []) ⟨hx, hb, hml, hown, hts⟩ (k_Model_isDigit l dC dI ad_md cA_md H.size u2.2 u3 hu3) (cwV 0 hts (gV wd_878 wd_880 wd_28 wd_49 wd_881) rfl rfl rfl (by decide +kernel) ⟨Nat.le_of_ble_eq_true rfl, Nat.le_of_ble_eq_true rfl⟩) (cl_preV hPc hKc hDc hN (ci := 6) 0 rfl rfl) rfl rfl hl.1 rfl (lv_room (Nat.le_of_ble_eq_true rfl)) d_Model_number_15 ⟨Nat.le_of_ble_eq_true rfl, Nat.le_of_ble_eq_true rfl⟩)) (fun r u H locs hw hP hD hS => ?_)
    have hw := hw.symm
    subst hw
    have hP : va_P (dC, dI) vwCl (uw_Model ad_md cA_md u2.2) H := hP
    have hD : va_D A (uw_Model ad_md cA_md u2.2) := hD
    refine lv_if_ne (tgt := 29) hx hb d_Model_number_18 (by decide) (fun hc4 => ?_) (fun hc4 => ?_)
    · have hf := hf_f hf hc4
      refine lv_iconst (v := (0 : Int32)) hx hb d_Model_number_29 (by decide) ?_
      refine lv_istore_n (lv' := [(3, .int (0 : Int32)), (0, .ref (ad_md 0)), (1, .int x1), (2, .int x2)]) hx hb d_Model_number_30 rfl hl (by decide) rfl (fun ls hl => ?_)
      refine lv_iconst (v := (0 : Int32)) hx hb d_Model_number_31 (by decide) ?_
      refine lv_istore (lv' := [(4, .int (0 : Int32)), (3, .int (0 : Int32)), (0, .ref (ad_md 0)), (1, .int x1), (2, .int x2)]) hx hb d_Model_number_32 hl (by decide) rfl (fun ls hl => ?_)
      exact w_34 4096 u2.2 x1 x2 (0 : Int32) (0 : Int32) H locs ls hf hP hD hS (lv_sub hl [2, 3, 4, 1, 0] rfl)
    · have hf := hf_t hf hc4
      refine lv_aload_n hx hb d_Model_number_21 rfl (lv_at hl 0 rfl) ?_
      refine lv_aload_n hx hb d_Model_number_22 rfl (lv_at hl 0 rfl) ?_
      refine va_get (D := (dC, dI)) (ci := 6) (v := .int u2.2.2.1.2.2.1) (C := "HazardTablesModel") (T := F_Model) (N := 30) hx hb hts hin_Model hown hK hP 0 rfl rfl 10 (by decide) fl_78 (fun _ h9 => h9) rfl d_Model_number_23 ?_
      obtain ⟨u5, hu5, hf⟩ := Option.bind_eq_some_iff.mp hf
      refine cl_v (wc := (uw_Model ad_md cA_md u2.2)) (wr := []) (tysC := [(cA_md 1, .int), (cA_md 2, .int), (cA_md 3, .int), (cA_md 4, .int), (cA_md 5, .int), (cA_md 6, .int), (cA_md 7, .int), (cA_md 8, .int), (cA_md 9, .boolean), (cA_md 10, .int), (cA_md 11, .int), (cA_md 12, .int), (cA_md 13, .int)]) (wu := fun (u : SModel) => (uw_Model ad_md cA_md u)) (wn := fun (u : SModel) => (uw_Model ad_md cA_md u)) [0, 1, 2, 3, 4, 5, 6, 7, 8, 9, 10, 11, 12, 13] [] [0, 1, 2, 3, 4, 5, 6, 7, 8, 9, 10, 11, 12, 13] [0, 1, 2, 3, 4, 5, 6, 7, 8, 9, 10, 11, 12] hP hD hS hA hK rfl rfl (by decide +kernel) (by decide +kernel) (by decide +kernel) rfl (fun _ => rfl) (by decide +kernel) (fun hPc hKc hDc => (va_runV (As := [.int u2.2.2.1.2.2.1]) (rest := []) ⟨hx, hb, hml, hown, hts⟩ (k_Model_fail l dC dI ad_md cA_md H.size u2.2 u2.2.2.1.2.2.1 u5 hu5) (cwV 1 hts (gV wd_870 wd_872 wd_26 wd_49 wd_873) rfl rfl rfl (by decide +kernel) ⟨Nat.le_of_ble_eq_true rfl, Nat.le_of_ble_eq_true rfl⟩) (cl_preV hPc hKc hDc hN (ci := 6) 0 rfl rfl) rfl rfl hl.1 rfl (lv_room (Nat.le_of_ble_eq_true rfl)) d_Model_number_26 ⟨Nat.le_of_ble_eq_true rfl, Nat.le_of_ble_eq_true rfl⟩)) (fun u H locs hw hP hD hS => ?_)
      have hw := hw.symm
      subst hw
      have hP : va_P (dC, dI) vwCl (uw_Model ad_md cA_md u5) H := hP
      have hD : va_D A (uw_Model ad_md cA_md u5) := hD
      refine lv_iconst (v := (0 : Int32)) hx hb d_Model_number_29 (by decide) ?_
      refine lv_istore_n (lv' := [(3, .int (0 : Int32)), (0, .ref (ad_md 0)), (1, .int x1), (2, .int x2)]) hx hb d_Model_number_30 rfl hl (by decide) rfl (fun ls hl => ?_)
      refine lv_iconst (v := (0 : Int32)) hx hb d_Model_number_31 (by decide) ?_
      refine lv_istore (lv' := [(4, .int (0 : Int32)), (3, .int (0 : Int32)), (0, .ref (ad_md 0)), (1, .int x1), (2, .int x2)]) hx hb d_Model_number_32 hl (by decide) rfl (fun ls hl => ?_)
      exact w_34 4096 u5 x1 x2 (0 : Int32) (0 : Int32) H locs ls hf hP hD hS (lv_sub hl [2, 3, 4, 1, 0] rfl)
  · have hf := hf_f hf hc1
    refine lv_iload_n hx hb d_Model_number_7 rfl (lv_at hl 1 rfl) ?_
    exact ret x1 md H locs ls 8 d_Model_number_8 (hf_e hf) hP hD hS
