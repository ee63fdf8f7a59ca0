noncomputable def f_Model_rising_72 (k_11 : SModel → Int32 → Int32 → Int32 → Int32 → Int32 → Int32 → Option (Int32 × SModel)) (md : SModel) (y1 : Int32) (y2 : Int32) (y3 : Int32) (y4 : Int32) (y6 : Int32) (y7 : Int32) : Option (Int32 × SModel) :=
  (if md.2.1.2.2.2 < 0 then
    (k_11 (md.1, (md.2.1.1, md.2.1.2.1, md.2.1.2.2.1 + (1 : Int32), md.2.1.2.2.2), md.2.2.1, md.2.2.2.1, md.2.2.2.2.1, md.2.2.2.2.2.1, md.2.2.2.2.2.2.1, md.2.2.2.2.2.2.2.1, md.2.2.2.2.2.2.2.2) y1 y2 y3 (y4 ||| ((1 : Int32) <<< ((y7 - y1) &&& 31))) y7 (y6 + (1 : Int32)))
   else
    (some (y4, md))
   )
noncomputable def f_Model_rising_64 (k_11 : SModel → Int32 → Int32 → Int32 → Int32 → Int32 → Int32 → Option (Int32 × SModel)) (md : SModel) (y1 : Int32) (y2 : Int32) (y3 : Int32) (y4 : Int32) (y6 : Int32) (y7 : Int32) : Option (Int32 × SModel) :=
  (Option.bind (f_Model_fail md md.2.1.2.2.1) fun u11 =>
    (f_Model_rising_72 k_11 u11 y1 y2 y3 y4 y6 y7)
   )
noncomputable def f_Model_rising_41 (k_11 : SModel → Int32 → Int32 → Int32 → Int32 → Int32 → Int32 → Option (Int32 × SModel)) (md : SModel) (y1 : Int32) (y2 : Int32) (y3 : Int32) (y4 : Int32) (y5 : Int32) (y6 : Int32) : Option (Int32 × SModel) :=
  (Option.bind (f_Model_see md) fun u7 =>
    (Option.bind (f_Model_within u7.1 y1 y2) fun u8 =>
      (if (bI u8) = 0 then
        (f_Model_rising_64 k_11 u7.2 y1 y2 y3 y4 y6 u7.1)
       else
        (if y5 < u7.1 then
          (f_Model_rising_72 k_11 u7.2 y1 y2 y3 y4 y6 u7.1)
         else
          (f_Model_rising_64 k_11 u7.2 y1 y2 y3 y4 y6 u7.1)
         )
       )
     )
   )
noncomputable def f_Model_rising_11  : Nat → SModel → Int32 → Int32 → Int32 → Int32 → Int32 → Int32 → Option (Int32 × SModel)
  | 0, _, _, _, _, _, _, _ => none
  | n + 1, md, y1, y2, y3, y4, y5, y6 =>
    (if 0 ≤ md.2.1.2.2.2 then
      (some (y4, md))
     else
      (if y3 ≤ y6 then
        (some (y4, md))
       else
        (if y6 = 0 then
          (f_Model_rising_41 (f_Model_rising_11 n) md y1 y2 y3 y4 y5 y6)
         else
          (Option.bind (f_Model_see md) fun u4 =>
            (Option.bind (f_Model_within u4.1 y1 y2) fun u5 =>
              (if (bI u5) = 0 then
                (some (y4, u4.2))
               else
                (f_Model_rising_41 (f_Model_rising_11 n) u4.2 y1 y2 y3 y4 y5 y6)
               )
             )
           )
         )
       )
     )
noncomputable def f_Model_rising (md : SModel) (x1 : Int32) (x2 : Int32) (x3 : Int32) : Option (Int32 × SModel) :=
  (f_Model_rising_11 4096 md x1 x2 x3 (0 : Int32) (x1 - (1 : Int32)) (0 : Int32))
set_option maxHeartbeats 4000000 in
set_option maxRecDepth 100000 in
theorem k_Model_rising (l : Launch) (dC : Nat → ClassId) (dI : Nat → Nat → Nat) (ad_md : Nat → Nat) (cA_md : Nat → ClassId) (sz : Nat) (md : SModel) (x1 : Int32) (x2 : Int32) (x3 : Int32) (res : Int32 × SModel) (hf : f_Model_rising md x1 x2 x3 = some res) : Met l y_Model_rising w_Model_rising ({ frames := 2, cells := 0, slots := 0, locals := 40 }) (cPc (dC, dI) (uw_Model ad_md cA_md md) [(cA_md 1, .int), (cA_md 2, .int), (cA_md 3, .int), (cA_md 4, .int), (cA_md 5, .int), (cA_md 6, .int), (cA_md 7, .int), (cA_md 8, .int), (cA_md 9, .boolean), (cA_md 10, .int), (cA_md 11, .int), (cA_md 12, .int), (cA_md 13, .int)] sz [.ref (ad_md 0), .int x1, .int x2, .int x3]) (va_Qi (fun (r : Int32) (u : SModel) => r = res.1 ∧ u = res.2) (fun (u : SModel) (t : State) => va_P (dC, dI) vwCl (uw_Model ad_md cA_md u) t.heap ∧ va_K (dC, dI) vwCl [(cA_md 1, .int), (cA_md 2, .int), (cA_md 3, .int), (cA_md 4, .int), (cA_md 5, .int), (cA_md 6, .int), (cA_md 7, .int), (cA_md 8, .int), (cA_md 9, .boolean), (cA_md 10, .int), (cA_md 11, .int), (cA_md 12, .int), (cA_md 13, .int)] t ∧ va_D (va_A (uw_Model ad_md cA_md md) sz) (uw_Model ad_md cA_md u)) (va_A (uw_Model ad_md cA_md md) sz)) 0 0 (va_A (uw_Model ad_md cA_md md) sz) := by
  refine Met.ofW (cc := b_Model_rising) (maxL := 8) (ret := (some .int)) (by decide) rfl ?_
  intro p e s m args below meth c s₁ B hml hv
  obtain ⟨rfl, hsz, hP, hK, hD0, hN⟩ := hv
  have hx := B.exec
  have hb := B.bytes
  have hr := B.returns
  have hts := atoms_spec (ws := w_Model_rising) B.pre
  have hown : s.vm.findClass "HazardTablesModel" = some m.cls := findClass_of_methodNamed B.named
  have hlocks := B.notSynchronized
  subst hsz
  have hD := hD0.self (sz := s.heap.size)
  generalize hAe : va_A (uw_Model ad_md cA_md md) s.heap.size = A at hD ⊢
  have hA : ∀ q : Nat, s.heap.size ≤ q → A q := fun q h => by rw [← hAe]; exact Or.inr h
  have hS : va_S A s.heap s.heap [] := va_S.rf
  have hP : va_P (dC, dI) vwCl (uw_Model ad_md cA_md md) s.heap := hP
  have fl_78 := (hts _ (List.mem_cons_of_mem _ wd_758))
  have fl_85 := (hts _ (List.mem_cons_of_mem _ wd_759))
  have hin_Model : ∀ w ∈ u_ws "HazardTablesModel" F_Model 30, w ∈ w_Model_rising := fun w h => List.mem_cons_of_mem _ (hinA_Model w h)
  have ret : ∀ (v : Int32) (u : SModel) (H : Heap) (locs : List Loc) (ls : Array Slot) (pc : Nat), decode b_Model_rising pc = .ok (.ireturn, 1) → (v = res.1 ∧ u = res.2) → va_P (dC, dI) vwCl (uw_Model ad_md cA_md u) H → va_D A (uw_Model ad_md cA_md u) → va_S A s.heap H locs → W p l e (headSpec w_Model_rising ({ frames := 2, cells := 0, slots := 0, locals := 40 })).room s m ([.ref (ad_md 0), .int x1, .int x2, .int x3] : List Value).toArray below meth c H locs 0 0 (MQ below (va_Qi (fun (r : Int32) (u : SModel) => r = res.1 ∧ u = res.2) (fun (u : SModel) (t : State) => va_P (dC, dI) vwCl (uw_Model ad_md cA_md u) t.heap ∧ va_K (dC, dI) vwCl [(cA_md 1, .int), (cA_md 2, .int), (cA_md 3, .int), (cA_md 4, .int), (cA_md 5, .int), (cA_md 6, .int), (cA_md 7, .int), (cA_md 8, .int), (cA_md 9, .boolean), (cA_md 10, .int), (cA_md 11, .int), (cA_md 12, .int), (cA_md 13, .int)] t ∧ va_D A (uw_Model ad_md cA_md u)) A) ([.ref (ad_md 0), .int x1, .int x2, .int x3] : List Value).toArray s 0 0 A) (F0 m pc ls [.int v]) := fun v u H locs ls pc hd hp hP hD hS => W.iret (v := v) hx hb hr (fun t ht hW => ⟨⟨v, u, rfl, hp, by rw [ht]; exact hP, va_K.moved hW.alike hK, hD⟩, hS.F ht⟩) hS.2.2 hd
  generalize (MQ below (va_Qi (fun (r : Int32) (u : SModel) => r = res.1 ∧ u = res.2) (fun (u : SModel) (t : State) => va_P (dC, dI) vwCl (uw_Model ad_md cA_md u) t.heap ∧ va_K (dC, dI) vwCl [(cA_md 1, .int), (cA_md 2, .int), (cA_md 3, .int), (cA_md 4, .int), (cA_md 5, .int), (cA_md 6, .int), (cA_md 7, .int), (cA_md 8, .int), (cA_md 9, .boolean), (cA_md 10, .int), (cA_md 11, .int), (cA_md 12, .int), (cA_md 13, .int)] t ∧ va_D A (uw_Model ad_md cA_md u)) A) ([.ref (ad_md 0), .int x1, .int x2, .int x3] : List Value).toArray s 0 0 A) = Q at ret ⊢
  have w_72 : ∀ (k_11 : SModel → Int32 → Int32 → Int32 → Int32 → Int32 → Int32 → Option (Int32 × SModel)), (∀ (md : SModel) (y1 : Int32) (y2 : Int32) (y3 : Int32) (y4 : Int32) (y5 : Int32) (y6 : Int32) (H : Heap) (locs : List Loc) (ls : Array Slot), k_11 md y1 y2 y3 y4 y5 y6 = some res → va_P (dC, dI) vwCl (uw_Model ad_md cA_md md) H → va_D A (uw_Model ad_md cA_md md) → va_S A s.heap H locs → lv_has ls 8 [(0, .ref (ad_md 0)), (1, .int y1), (2, .int y2), (3, .int y3), (4, .int y4), (5, .int y5), (6, .int y6)] → W p l e (headSpec w_Model_rising ({ frames := 2, cells := 0, slots := 0, locals := 40 })).room s m ([.ref (ad_md 0), .int x1, .int x2, .int x3] : List Value).toArray below meth c H locs 0 0 Q (F0 m 11 ls [])) → ∀ (md : SModel) (y1 : Int32) (y2 : Int32) (y3 : Int32) (y4 : Int32) (y6 : Int32) (y7 : Int32) (H : Heap) (locs : List Loc) (ls : Array Slot), f_Model_rising_72 k_11 md y1 y2 y3 y4 y6 y7 = some res → va_P (dC, dI) vwCl (uw_Model ad_md cA_md md) H → va_D A (uw_Model ad_md cA_md md) → va_S A s.heap H locs → lv_has ls 8 [(0, .ref (ad_md 0)), (1, .int y1), (2, .int y2), (3, .int y3), (4, .int y4), (6, .int y6), (7, .int y7)] → W p l e (headSpec w_Model_rising ({ frames := 2, cells := 0, slots := 0, locals := 40 })).room s m ([.ref (ad_md 0), .int x1, .int x2, .int x3] : List Value).toArray below meth c H locs 0 0 Q (F0 m 72 ls []) := by
    intro k_11 hk_11
    intro md y1 y2 y3 y4 y6 y7 H locs ls hf hP hD hS hl
    rw [f_Model_rising_72] at hf
    refine lv_aload_n hx hb d_Model_rising_72 rfl (lv_at hl 0 rfl) ?_
    refine va_get (D := (dC, dI)) (ci := 6) (v := .int md.2.1.2.2.2) (C := "HazardTablesModel") (T := F_Model) (N := 30) hx hb hts hin_Model hown hK hP 0 rfl rfl 11 (by decide) fl_85 (fun _ h9 => h9) rfl d_Model_rising_73 ?_
    refine lv_if_lt (tgt := 82) hx hb d_Model_rising_76 (by decide) (fun hc12 => ?_) (fun hc12 => ?_)
    · have hf := hf_t hf hc12
      refine lv_iload hx hb d_Model_rising_82 (lv_at hl 4 rfl) ?_
      refine lv_iconst (v := (1 : Int32)) hx hb d_Model_rising_84 (by decide) ?_
      refine lv_iload hx hb d_Model_rising_85 (lv_at hl 6 rfl) ?_
      refine lv_iload_n hx hb d_Model_rising_87 rfl (lv_at hl 1 rfl) ?_
      refine lv_isub hx hb d_Model_rising_88 ?_
      refine lv_ishl hx hb d_Model_rising_89 ?_
      refine lv_ior hx hb d_Model_rising_90 ?_
      refine lv_istore (lv' := [(4, .int (y4 ||| ((1 : Int32) <<< ((y7 - y1) &&& 31)))), (0, .ref (ad_md 0)), (1, .int y1), (2, .int y2), (3, .int y3), (6, .int y6), (7, .int y7)]) hx hb d_Model_rising_91 hl (by decide) rfl (fun ls hl => ?_)
      refine lv_iload hx hb d_Model_rising_93 (lv_at hl 6 rfl) ?_
      refine lv_istore (lv' := [(5, .int y7), (4, .int (y4 ||| ((1 : Int32) <<< ((y7 - y1) &&& 31)))), (0, .ref (ad_md 0)), (1, .int y1), (2, .int y2), (3, .int y3), (6, .int y6), (7, .int y7)]) hx hb d_Model_rising_95 hl (by decide) rfl (fun ls hl => ?_)
      refine lv_iinc (v := y6 + (1 : Int32)) (lv' := [(6, .int (y6 + (1 : Int32))), (5, .int y7), (4, .int (y4 ||| ((1 : Int32) <<< ((y7 - y1) &&& 31)))), (0, .ref (ad_md 0)), (1, .int y1), (2, .int y2), (3, .int y3), (7, .int y7)]) hx hb d_Model_rising_97 hl (k := 6) rfl rfl (by decide) rfl (fun ls hl => ?_)
      refine lv_aload_n hx hb d_Model_rising_100 rfl (lv_at hl 3 rfl) ?_
      refine lv_dup hx hb d_Model_rising_101 rfl ?_
      refine va_get (D := (dC, dI)) (ci := 6) (v := .int md.2.1.2.2.1) (C := "HazardTablesModel") (T := F_Model) (N := 30) hx hb hts hin_Model hown hK hP 0 rfl rfl 10 (by decide) fl_78 (fun _ h9 => h9) rfl d_Model_rising_102 ?_
      refine lv_iconst (v := (1 : Int32)) hx hb d_Model_rising_105 (by decide) ?_
      refine lv_iadd hx hb d_Model_rising_106 ?_
      refine va_put (D := (dC, dI)) (ci := 6) (v := .int (md.2.1.2.2.1 + (1 : Int32))) (ty := .int) (C := "HazardTablesModel") (T := F_Model) (N := 30) hx hb hts hin_Model t_Model t_Model_ok n_Model hown hK hP hD hS 0 rfl rfl 10 (by decide) fl_78 (fun _ h9 => h9) rfl (by decide +kernel) rfl rfl (Nat.le_of_ble_eq_true rfl) d_Model_rising_107 (fun H locs hP hD hS => ?_)
      have hP : va_P (dC, dI) vwCl (uw_Model ad_md cA_md (md.1, (md.2.1.1, md.2.1.2.1, md.2.1.2.2.1 + (1 : Int32), md.2.1.2.2.2), md.2.2.1, md.2.2.2.1, md.2.2.2.2.1, md.2.2.2.2.2.1, md.2.2.2.2.2.2.1, md.2.2.2.2.2.2.2.1, md.2.2.2.2.2.2.2.2)) H := hP
      have hD : va_D A (uw_Model ad_md cA_md (md.1, (md.2.1.1, md.2.1.2.1, md.2.1.2.2.1 + (1 : Int32), md.2.1.2.2.2), md.2.2.1, md.2.2.2.1, md.2.2.2.2.1, md.2.2.2.2.2.1, md.2.2.2.2.2.2.1, md.2.2.2.2.2.2.2.1, md.2.2.2.2.2.2.2.2)) := hD
      refine lv_goto (tgt := 11) hx hb d_Model_rising_110 (by decide) ?_
      exact hk_11 (md.1, (md.2.1.1, md.2.1.2.1, md.2.1.2.2.1 + (1 : Int32), md.2.1.2.2.2), md.2.2.1, md.2.2.2.1, md.2.2.2.2.1, md.2.2.2.2.2.1, md.2.2.2.2.2.2.1, md.2.2.2.2.2.2.2.1, md.2.2.2.2.2.2.2.2) y1 y2 y3 (y4 ||| ((1 : Int32) <<< ((y7 - y1) &&& 31))) y7 (y6 + (1 : Int32)) H locs ls hf hP hD hS (lv_sub hl [3, 4, 5, 6, 2, 1, 0] rfl)
    · have hf := hf_f hf hc12
      refine lv_iload hx hb d_Model_rising_79 (lv_at hl 4 rfl) ?_
      exact ret y4 md H locs ls 81 d_Model_rising_81 (hf_e hf) hP hD hS
  have w_64 : ∀ (k_11 : SModel → Int32 → Int32 → Int32 → Int32 → Int32 → Int32 → Option (Int32 × SModel)), (∀ (md : SModel) (y1 : Int32) (y2 : Int32) (y3 : Int32) (y4 : Int32) (y5 : Int32) (y6 : Int32) (H : Heap) (locs : List Loc) (ls : Array Slot), k_11 md y1 y2 y3 y4 y5 y6 = some res → va_P (dC, dI) vwCl (uw_Model ad_md cA_md md) H → va_D A (uw_Model ad_md cA_md md) → va_S A s.heap H locs → lv_has ls 8 [(0, .ref (ad_md 0)), (1, .int y1), (2, .int y2), (3, .int y3), (4, .int y4), (5, .int y5), (6, .int y6)] → W p l e (headSpec w_Model_rising ({ frames := 2, cells := 0, slots := 0, locals := 40 })).room s m ([.ref (ad_md 0), .int x1, .int x2, .int x3] : List Value).toArray below meth c H locs 0 0 Q (F0 m 11 ls [])) → ∀ (md : SModel) (y1 : Int32) (y2 : Int32) (y3 : Int32) (y4 : Int32) (y6 : Int32) (y7 : Int32) (H : Heap) (locs : List Loc) (ls : Array Slot), f_Model_rising_64 k_11 md y1 y2 y3 y4 y6 y7 = some res → va_P (dC, dI) vwCl (uw_Model ad_md cA_md md) H → va_D A (uw_Model ad_md cA_md md) → va_S A s.heap H locs → lv_has ls 8 [(0, .ref (ad_md 0)), (1, .int y1), (2, .int y2), (3, .int y3), (4, .int y4), (6, .int y6), (7, .int y7)] → W p l e (headSpec w_Model_rising ({ frames := 2, cells := 0, slots := 0, locals := 40 })).room s m ([.ref (ad_md 0), .int x1, .int x2, .int x3] : List Value).toArray below meth c H locs 0 0 Q (F0 m 64 ls []) := by
    intro k_11 hk_11
    intro md y1 y2 y3 y4 y6 y7 H locs ls hf hP hD hS hl
    rw [f_Model_rising_64] at hf
    refine lv_aload_n hx hb d_Model_rising_64 rfl (lv_at hl 0 rfl) ?_
    refine lv_aload_n hx hb d_Model_rising_65 rfl (lv_at hl 0 rfl) ?_
    refine va_get (D := (dC, dI)) (ci := 6) (v := .int md.2.1.2.2.1) (C := "HazardTablesModel") (T := F_Model) (N := 30) hx hb hts hin_Model hown hK hP 0 rfl rfl 10 (by decide) fl_78 (fun _ h9 => h9) rfl d_Model_rising_66 ?_
    obtain ⟨u11, hu11, hf⟩ := Option.bind_eq_some_iff.mp hf
    refine cl_v (wc := (uw_Model ad_md cA_md md)) (wr := []) (tysC := [(cA_md 1, .int), (cA_md 2, .int), (cA_md 3, .int), (cA_md 4, .int), (cA_md 5, .int), (cA_md 6, .int), (cA_md 7, .int), (cA_md 8, .int), (cA_md 9, .boolean), (cA_md 10, .int), (cA_md 11, .int), (cA_md 12, .int), (cA_md 13, .int)]) (wu := fun (u : SModel) => (uw_Model ad_md cA_md u)) (wn := fun (u : SModel) => (uw_Model ad_md cA_md u)) [0, 1, 2, 3, 4, 5, 6, 7, 8, 9, 10, 11, 12, 13] [] [0, 1, 2, 3, 4, 5, 6, 7, 8, 9, 10, 11, 12, 13] [0, 1, 2, 3, 4, 5, 6, 7, 8, 9, 10, 11, 12] hP hD hS hA hK rfl rfl (by decide +kernel) (by decide +kernel) (by decide +kernel) rfl (fun _ => rfl) (by decide +kernel) (fun hPc hKc hDc => (va_runV (As := [.int md.2.1.2.2.1]) (rest := []) ⟨hx, hb, hml, hown, hts⟩ (k_Model_fail l dC dI ad_md cA_md H.size md md.2.1.2.2.1 u11 hu11) (cwV 1 hts (gV wd_870 wd_872 wd_26 wd_49 wd_873) rfl rfl rfl (by decide +kernel) ⟨Nat.le_of_ble_eq_true rfl, Nat.le_of_ble_eq_true rfl⟩) (cl_preV hPc hKc hDc hN (ci := 6) 0 rfl rfl) rfl rfl hl.1 rfl (lv_room (Nat.le_of_ble_eq_true rfl)) d_Model_rising_69 ⟨Nat.le_of_ble_eq_true rfl, Nat.le_of_ble_eq_true rfl⟩)) (fun u H locs hw hP hD hS => ?_)
    have hw := hw.symm
    subst hw
    have hP : va_P (dC, dI) vwCl (uw_Model ad_md cA_md u11) H := hP
    have hD : va_D A (uw_Model ad_md cA_md u11) := hD
    exact w_72 k_11 hk_11 u11 y1 y2 y3 y4 y6 y7 H locs ls hf hP hD hS (lv_sub hl [0, 1, 2, 3, 4, 5, 6] rfl)
  have w_41 : ∀ (k_11 : SModel → Int32 → Int32 → Int32 → Int32 → Int32 → Int32 → Option (Int32 × SModel)), (∀ (md : SModel) (y1 : Int32) (y2 : Int32) (y3 : Int32) (y4 : Int32) (y5 : Int32) (y6 : Int32) (H : Heap) (locs : List Loc) (ls : Array Slot), k_11 md y1 y2 y3 y4 y5 y6 = some res → va_P (dC, dI) vwCl (uw_Model ad_md cA_md md) H → va_D A (uw_Model ad_md cA_md md) → va_S A s.heap H locs → lv_has ls 8 [(0, .ref (ad_md 0)), (1, .int y1), (2, .int y2), (3, .int y3), (4, .int y4), (5, .int y5), (6, .int y6)] → W p l e (headSpec w_Model_rising ({ frames := 2, cells := 0, slots := 0, locals := 40 })).room s m ([.ref (ad_md 0), .int x1, .int x2, .int x3] : List Value).toArray below meth c H locs 0 0 Q (F0 m 11 ls [])) → ∀ (md : SModel) (y1 : Int32) (y2 : Int32) (y3 : Int32) (y4 : Int32) (y5 : Int32) (y6 : Int32) (H : Heap) (locs : List Loc) (ls : Array Slot), f_Model_rising_41 k_11 md y1 y2 y3 y4 y5 y6 = some res → va_P (dC, dI) vwCl (uw_Model ad_md cA_md md) H → va_D A (uw_Model ad_md cA_md md) → va_S A s.heap H locs → lv_has ls 8 [(0, .ref (ad_md 0)), (1, .int y1), (2, .int y2), (3, .int y3), (4, .int y4), (5, .int y5), (6, .int y6)] → W p l e (headSpec w_Model_rising ({ frames := 2, cells := 0, slots := 0, locals := 40 })).room s m ([.ref (ad_md 0), .int x1, .int x2, .int x3] : List Value).toArray below meth c H locs 0 0 Q (F0 m 41 ls []) := by
    intro k_11 hk_11
    intro md y1 y2 y3 y4 y5 y6 H locs ls hf hP hD hS hl
    rw [f_Model_rising_41] at hf
    refine lv_aload_n hx hb d_Model_rising_41 rfl (lv_at hl 0 rfl) ?_
    obtain ⟨u7, hu7, hf⟩ := Option.bind_eq_some_iff.mp hf
    refine cl_i (wc := (uw_Model ad_md cA_md md)) (wr := []) (tysC := [(cA_md 1, .int), (cA_md 2, .int), (cA_md 3, .int), (cA_md 4, .int), (cA_md 5, .int), (cA_md 6, .int), (cA_md 7, .int), (cA_md 8, .int), (cA_md 9, .boolean), (cA_md 10, .int), (cA_md 11, .int), (cA_md 12, .int), (cA_md 13, .int)]) (wu := fun (u : SModel) => (uw_Model ad_md cA_md u)) (wn := fun (u : SModel) => (uw_Model ad_md cA_md u)) [0, 1, 2, 3, 4, 5, 6, 7, 8, 9, 10, 11, 12, 13] [] [0, 1, 2, 3, 4, 5, 6, 7, 8, 9, 10, 11, 12, 13] [0, 1, 2, 3, 4, 5, 6, 7, 8, 9, 10, 11, 12] hP hD hS hA hK rfl rfl (by decide +kernel) (by decide +kernel) (by decide +kernel) rfl (fun _ => rfl) (by decide +kernel) (fun hPc hKc hDc => (va_runV (As := []) (rest := []) ⟨hx, hb, hml, hown, hts⟩ (k_Model_see l dC dI ad_md cA_md H.size md u7 hu7) (cwV 0 hts (gV wd_858 wd_860 wd_23 wd_49 wd_861) rfl rfl rfl (by decide +kernel) ⟨Nat.le_of_ble_eq_true rfl, Nat.le_of_ble_eq_true rfl⟩) (cl_preV hPc hKc hDc hN (ci := 6) 0 rfl rfl) rfl rfl hl.1 rfl (lv_room (Nat.le_of_ble_eq_true rfl)) d_Model_rising_42 ⟨Nat.le_of_ble_eq_true rfl, Nat.le_of_ble_eq_true rfl⟩)) (fun r u H locs hw hP hD hS => ?_)
    obtain ⟨hw1, hw2⟩ := hw
    have hw1 := hw1.symm
    have hw2 := hw2.symm
    subst hw1
    subst hw2
    have hP : va_P (dC, dI) vwCl (uw_Model ad_md cA_md u7.2) H := hP
    have hD : va_D A (uw_Model ad_md cA_md u7.2) := hD
    refine lv_istore (lv' := [(7, .int u7.1), (0, .ref (ad_md 0)), (1, .int y1), (2, .int y2), (3, .int y3), (4, .int y4), (5, .int y5), (6, .int y6)]) hx hb d_Model_rising_45 hl (by decide) rfl (fun ls hl => ?_)
    refine lv_iload hx hb d_Model_rising_47 (lv_at hl 0 rfl) ?_
    refine lv_iload_n hx hb d_Model_rising_49 rfl (lv_at hl 2 rfl) ?_
    refine lv_iload_n hx hb d_Model_rising_50 rfl (lv_at hl 3 rfl) ?_
    obtain ⟨u8, hu8, hf⟩ := Option.bind_eq_some_iff.mp hf
    refine cl_i (wc := []) (wr := (uw_Model ad_md cA_md u7.2)) (tysC := []) (wu := fun (u : Unit) => []) (wn := fun (u : Unit) => (uw_Model ad_md cA_md u7.2)) [] [0, 1, 2, 3, 4, 5, 6, 7, 8, 9, 10, 11, 12, 13] [0, 1, 2, 3, 4, 5, 6, 7, 8, 9, 10, 11, 12, 13] [] hP hD hS hA hK rfl rfl (by decide +kernel) (by decide +kernel) (by decide +kernel) rfl (fun _ => rfl) (by decide +kernel) (fun hPc hKc hDc => (va_runS (As := [.int u7.1, .int y1, .int y2]) (rest := []) ⟨hx, hb, hml, hown, hts⟩ (k_Model_within l dC dI  H.size u7.1 y1 y2 u8 hu8) (cwS 3 hts (gS wd_847 wd_848 wd_49 wd_849) rfl rfl rfl (by decide +kernel) ⟨Nat.le_of_ble_eq_true rfl, Nat.le_of_ble_eq_true rfl⟩) (cl_preS hPc hKc hDc hN) rfl rfl hl.1 rfl (lv_room (Nat.le_of_ble_eq_true rfl)) d_Model_rising_51 ⟨Nat.le_of_ble_eq_true rfl, Nat.le_of_ble_eq_true rfl⟩)) (fun r u H locs hw hP hD hS => ?_)
    have hw := hw.symm
    subst hw
    have hP : va_P (dC, dI) vwCl (uw_Model ad_md cA_md u7.2) H := hP
    have hD : va_D A (uw_Model ad_md cA_md u7.2) := hD
    refine lv_if_eq (tgt := 64) hx hb d_Model_rising_54 (by decide) (fun hc9 => ?_) (fun hc9 => ?_)
    · have hf := hf_t hf hc9
      exact w_64 k_11 hk_11 u7.2 y1 y2 y3 y4 y6 u7.1 H locs ls hf hP hD hS (lv_sub hl [1, 2, 3, 4, 5, 7, 0] rfl)
    · have hf := hf_f hf hc9
      refine lv_iload hx hb d_Model_rising_57 (lv_at hl 0 rfl) ?_
      refine lv_iload hx hb d_Model_rising_59 (lv_at hl 6 rfl) ?_
      refine lv_icmp_gt (tgt := 72) hx hb d_Model_rising_61 (by decide) (fun hc10 => ?_) (fun hc10 => ?_)
      · have hf := hf_t hf hc10
        exact w_72 k_11 hk_11 u7.2 y1 y2 y3 y4 y6 u7.1 H locs ls hf hP hD hS (lv_sub hl [1, 2, 3, 4, 5, 7, 0] rfl)
      · have hf := hf_f hf hc10
        exact w_64 k_11 hk_11 u7.2 y1 y2 y3 y4 y6 u7.1 H locs ls hf hP hD hS (lv_sub hl [1, 2, 3, 4, 5, 7, 0] rfl)
  have w_11 : ∀ (n : Nat) (md : SModel) (y1 : Int32) (y2 : Int32) (y3 : Int32) (y4 : Int32) (y5 : Int32) (y6 : Int32) (H : Heap) (locs : List Loc) (ls : Array Slot), f_Model_rising_11 n md y1 y2 y3 y4 y5 y6 = some res → va_P (dC, dI) vwCl (uw_Model ad_md cA_md md) H → va_D A (uw_Model ad_md cA_md md) → va_S A s.heap H locs → lv_has ls 8 [(0, .ref (ad_md 0)), (1, .int y1), (2, .int y2), (3, .int y3), (4, .int y4), (5, .int y5), (6, .int y6)] → W p l e (headSpec w_Model_rising ({ frames := 2, cells := 0, slots := 0, locals := 40 })).room s m ([.ref (ad_md 0), .int x1, .int x2, .int x3] : List Value).toArray below meth c H locs 0 0 Q (F0 m 11 ls []) := by
    intro n
    induction n with
    | zero =>
      intro md y1 y2 y3 y4 y5 y6 H locs ls hf hP hD hS hl
      rw [f_Model_rising_11] at hf; cases hf
    | succ n ih =>
      intro md y1 y2 y3 y4 y5 y6 H locs ls hf hP hD hS hl
      rw [f_Model_rising_11] at hf
      refine lv_aload_n hx hb d_Model_rising_11 rfl (lv_at hl 0 rfl) ?_
      refine va_get (D := (dC, dI)) (ci := 6) (v := .int md.2.1.2.2.2) (C := "HazardTablesModel") (T := F_Model) (N := 30) hx hb hts hin_Model hown hK hP 0 rfl rfl 11 (by decide) fl_85 (fun _ h9 => h9) rfl d_Model_rising_12 ?_
      refine lv_if_ge (tgt := 113) hx hb d_Model_rising_15 (by decide) (fun hc1 => ?_) (fun hc1 => ?_)
      · have hf := hf_t hf hc1
        refine lv_iload hx hb d_Model_rising_113 (lv_at hl 4 rfl) ?_
        exact ret y4 md H locs ls 115 d_Model_rising_115 (hf_e hf) hP hD hS
      · have hf := hf_f hf hc1
        refine lv_iload hx hb d_Model_rising_18 (lv_at hl 6 rfl) ?_
        refine lv_iload_n hx hb d_Model_rising_20 rfl (lv_at hl 3 rfl) ?_
        refine lv_icmp_ge (tgt := 113) hx hb d_Model_rising_21 (by decide) (fun hc2 => ?_) (fun hc2 => ?_)
        · have hf := hf_t hf hc2
          refine lv_iload hx hb d_Model_rising_113 (lv_at hl 4 rfl) ?_
          exact ret y4 md H locs ls 115 d_Model_rising_115 (hf_e hf) hP hD hS
        · have hf := hf_f hf hc2
          refine lv_iload hx hb d_Model_rising_24 (lv_at hl 6 rfl) ?_
          refine lv_if_eq (tgt := 41) hx hb d_Model_rising_26 (by decide) (fun hc3 => ?_) (fun hc3 => ?_)
          · have hf := hf_t hf hc3
            exact w_41 (f_Model_rising_11 n) ih md y1 y2 y3 y4 y5 y6 H locs ls hf hP hD hS (lv_sub hl [0, 1, 2, 3, 4, 5, 6] rfl)
          · have hf := hf_f hf hc3
            refine lv_aload_n hx hb d_Model_rising_29 rfl (lv_at hl 0 rfl) ?_
            obtain ⟨u4, hu4, hf⟩ := Option.bind_eq_some_iff.mp hf
            refine cl_i (wc := (uw_Model ad_md cA_md md)) (wr := []) (tysC := [(cA_md 1, .int), (cA_md 2, .int), (cA_md 3, .int), (cA_md 4, .int), (cA_md 5, .int), (cA_md 6, .int), (cA_md 7, .int), (cA_md 8, .int), (cA_md 9, .boolean), (cA_md 10, .int), (cA_md 11, .int), (cA_md 12, .int), (cA_md 13, .int)]) (wu := fun (u : SModel) => (uw_Model ad_md cA_md u)) (wn := fun (u : SModel) => (uw_Model ad_md cA_md u)) [0, 1, 2, 3, 4, 5, 6, 7, 8, 9, 10, 11, 12, 13] [] [0, 1, 2, 3, 4, 5, 6, 7, 8, 9, 10, 11, 12, 13] [0, 1, 2, 3, 4, 5, 6, 7, 8, 9, 10, 11, 12] hP hD hS hA hK rfl rfl (by decide +kernel) (by decide +kernel) (by decide +kernel) rfl (fun _ => rfl) (by decide +kernel) (fun hPc hKc hDc => (va_runV (As := []) (rest := []) ⟨hx, hb, hml, hown, hts⟩ (k_Model_see l dC dI ad_md cA_md H.size md u4 hu4) (cwV 0 hts (gV wd_858 wd_860 wd_23 wd_49 wd_861) rfl rfl rfl (by decide +kernel) ⟨Nat.le_of_ble_eq_true rfl, Nat.le_of_ble_eq_true rfl⟩) (cl_preV hPc hKc hDc hN (ci := 6) 0 rfl rfl) rfl rfl hl.1 rfl (lv_room (Nat.le_of_ble_eq_true rfl)) d_Model_rising_30 ⟨Nat.le_of_ble_eq_true rfl, Nat.le_of_ble_eq_true rfl⟩)) (fun r u H locs hw hP hD hS => ?_)
            obtain ⟨hw1, hw2⟩ := hw
            have hw1 := hw1.symm
            have hw2 := hw2.symm
            subst hw1
            subst hw2
            have hP : va_P (dC, dI) vwCl (uw_Model ad_md cA_md u4.2) H := hP
            have hD : va_D A (uw_Model ad_md cA_md u4.2) := hD
            refine lv_iload_n hx hb d_Model_rising_33 rfl (lv_at hl 1 rfl) ?_
            refine lv_iload_n hx hb d_Model_rising_34 rfl (lv_at hl 2 rfl) ?_
            obtain ⟨u5, hu5, hf⟩ := Option.bind_eq_some_iff.mp hf
            refine cl_i (wc := []) (wr := (uw_Model ad_md cA_md u4.2)) (tysC := []) (wu := fun (u : Unit) => []) (wn := fun (u : Unit) => (uw_Model ad_md cA_md u4.2)) [] [0, 1, 2, 3, 4, 5, 6, 7, 8, 9, 10, 11, 12, 13] [0, 1, 2, 3, 4, 5, 6, 7, 8, 9, 10, 11, 12, 13] [] hP hD hS hA hK rfl rfl (by decide +kernel) (by decide +kernel) (by decide +kernel) rfl (fun _ => rfl) (by decide +kernel) (fun hPc hKc hDc => (va_runS (As := [.int u4.1, .int y1, .int y2]) (rest := []) ⟨hx, hb, hml, hown, hts⟩ (k_Model_within l dC dI  H.size u4.1 y1 y2 u5 hu5) (cwS 3 hts (gS wd_847 wd_848 wd_49 wd_849) rfl rfl rfl (by decide +kernel) ⟨Nat.le_of_ble_eq_true rfl, Nat.le_of_ble_eq_true rfl⟩) (cl_preS hPc hKc hDc hN) rfl rfl hl.1 rfl (lv_room (Nat.le_of_ble_eq_true rfl)) d_Model_rising_35 ⟨Nat.le_of_ble_eq_true rfl, Nat.le_of_ble_eq_true rfl⟩)) (fun r u H locs hw hP hD hS => ?_)
            have hw := hw.symm
            subst hw
            have hP : va_P (dC, dI) vwCl (uw_Model ad_md cA_md u4.2) H := hP
            have hD : va_D A (uw_Model ad_md cA_md u4.2) := hD
            refine lv_if_eq (tgt := 113) hx hb d_Model_rising_38 (by decide) (fun hc6 => ?_) (fun hc6 => ?_)
            · have hf := hf_t hf hc6
              refine lv_iload hx hb d_Model_rising_113 (lv_at hl 4 rfl) ?_
              exact ret y4 u4.2 H locs ls 115 d_Model_rising_115 (hf_e hf) hP hD hS
            · have hf := hf_f hf hc6
              exact w_41 (f_Model_rising_11 n) ih u4.2 y1 y2 y3 y4 y5 y6 H locs ls hf hP hD hS (lv_sub hl [0, 1, 2, 3, 4, 5, 6] rfl)
  have hl := lv_entry ([.ref (ad_md 0), .int x1, .int x2, .int x3]) (n := 8) (Nat.le_of_ble_eq_true rfl)
  rw [lg_entry_eq]
  generalize (lg_sl ([.ref (ad_md 0), .int x1, .int x2, .int x3]) ++ List.replicate (8 - (lg_sl ([.ref (ad_md 0), .int x1, .int x2, .int x3])).length) Slot.unset).toArray = ls at hl ⊢
  have hl : lv_has ls 8 [(0, .ref (ad_md 0)), (1, .int x1), (2, .int x2), (3, .int x3)] := hl
  have hf := hf
  rw [f_Model_rising] at hf
  obtain ⟨H, hH⟩ : ∃ H : Heap, H = s.heap := ⟨_, rfl⟩
  obtain ⟨locs, hlocs⟩ : ∃ L : List Loc, L = [] := ⟨_, rfl⟩
  have hP : va_P (dC, dI) vwCl (uw_Model ad_md cA_md md) H := by rw [hH]; exact hP
  have hS : va_S A s.heap H locs := by rw [hH, hlocs]; exact hS
  show W p l e (headSpec w_Model_rising ({ frames := 2, cells := 0, slots := 0, locals := 40 })).room s m ([.ref (ad_md 0), .int x1, .int x2, .int x3] : List Value).toArray below meth c s.heap [] 0 0 Q (F0 m 0 ls [])
  suffices hgo : W p l e (headSpec w_Model_rising ({ frames := 2, cells := 0, slots := 0, locals := 40 })).room s m ([.ref (ad_md 0), .int x1, .int x2, .int x3] : List Value).toArray below meth c H locs 0 0 Q (F0 m 0 ls []) by rw [hH, hlocs] at hgo; exact hgo
  clear hH hlocs
  refine lv_iconst (v := (0 : Int32)) hx hb d_Model_rising_0 (by decide) ?_
  refine lv_istore (lv' := [(4, .int (0 : Int32)), (0, .ref (ad_md 0)), (1, .int x1), (2, .int x2), (3, .int x3)]) hx hb d_Model_rising_1 hl (by decide) rfl (fun ls hl => ?_)
  refine lv_iload_n hx hb d_Model_rising_3 rfl (lv_at hl 2 rfl) ?_
  refine lv_iconst (v := (1 : Int32)) hx hb d_Model_rising_4 (by decide) ?_
  refine lv_isub hx hb d_Model_rising_5 ?_
  refine lv_istore (lv' := [(5, .int (x1 - (1 : Int32))), (4, .int (0 : Int32)), (0, .ref (ad_md 0)), (1, .int x1), (2, .int x2), (3, .int x3)]) hx hb d_Model_rising_6 hl (by decide) rfl (fun ls hl => ?_)
  refine lv_iconst (v := (0 : Int32)) hx hb d_Model_rising_8 (by decide) ?_
  refine lv_istore (lv' := [(6, .int (0 : Int32)), (5, .int (x1 - (1 : Int32))), (4, .int (0 : Int32)), (0, .ref (ad_md 0)), (1, .int x1), (2, .int x2), (3, .int x3)]) hx hb d_Model_rising_9 hl (by decide) rfl (fun ls hl => ?_)
  exact w_11 4096 md x1 x2 x3 (0 : Int32) (x1 - (1 : Int32)) (0 : Int32) H locs ls hf hP hD hS (lv_sub hl [3, 4, 5, 6, 2, 1, 0] rfl)
