noncomputable def f_Model_following_66 (k_4 : SModel → Int32 → Int32 → Int32 → Option (Int32 × SModel)) (md : SModel) (y1 : Int32) (y2 : Int32) (y3 : Int32) (y4 : Int32) (z0 : Bool) : Option (Int32 × SModel) :=
  (if (bI z0) = 0 then
    (k_4 md y1 y2 (y3 + (1 : Int32)))
   else
    (if y2 < 0 then
      (k_4 md y1 y3 (y3 + (1 : Int32)))
     else
      (Option.bind (f_Model_nearest md y2) fun u10 =>
        (if inb (y2 * (43 : Int32)) 559 then
          (if ((u10.1 * (10000 : Int32)) + (u10.2.2.2.2.1.2.2 (y2 * (43 : Int32)).toNatClampNeg)) ≤ y4 then
            (k_4 u10.2 y1 y2 (y3 + (1 : Int32)))
           else
            (k_4 u10.2 y1 y3 (y3 + (1 : Int32)))
           )
         else none)
       )
     )
   )
noncomputable def f_Model_following_61 (k_4 : SModel → Int32 → Int32 → Int32 → Option (Int32 × SModel)) (md : SModel) (y1 : Int32) (y2 : Int32) (y3 : Int32) (y4 : Int32) : Option (Int32 × SModel) :=
  (f_Model_following_66 k_4 md y1 y2 y3 y4 true)
noncomputable def f_Model_following_4  : Nat → SModel → Int32 → Int32 → Int32 → Option (Int32 × SModel)
  | 0, _, _, _, _ => none
  | n + 1, md, y1, y2, y3 =>
    (if md.2.2.2.1.1 ≤ y3 then
      (some (y2, md))
     else
      (Option.bind (f_Model_nearest md y3) fun u2 =>
        (if inb (y3 * (43 : Int32)) 559 then
          (if y1 < 0 then
            (f_Model_following_61 (f_Model_following_4 n) u2.2 y1 y2 y3 ((u2.1 * (10000 : Int32)) + (u2.2.2.2.2.1.2.2 (y3 * (43 : Int32)).toNatClampNeg)))
           else
            (Option.bind (f_Model_nearest u2.2 y1) fun u5 =>
              (if inb (y1 * (43 : Int32)) 559 then
                (if ((u2.1 * (10000 : Int32)) + (u2.2.2.2.2.1.2.2 (y3 * (43 : Int32)).toNatClampNeg)) ≤ ((u5.1 * (10000 : Int32)) + (u5.2.2.2.2.1.2.2 (y1 * (43 : Int32)).toNatClampNeg)) then
                  (f_Model_following_66 (f_Model_following_4 n) u5.2 y1 y2 y3 ((u2.1 * (10000 : Int32)) + (u2.2.2.2.2.1.2.2 (y3 * (43 : Int32)).toNatClampNeg)) false)
                 else
                  (f_Model_following_61 (f_Model_following_4 n) u5.2 y1 y2 y3 ((u2.1 * (10000 : Int32)) + (u2.2.2.2.2.1.2.2 (y3 * (43 : Int32)).toNatClampNeg)))
                 )
               else none)
             )
           )
         else none)
       )
     )
noncomputable def f_Model_following (md : SModel) (x1 : Int32) : Option (Int32 × SModel) :=
  (f_Model_following_4 4096 md x1 (-1 : Int32) (0 : Int32))
set_option maxHeartbeats 4000000 in
set_option maxRecDepth 100000 in
theorem k_Model_following (l : Launch) (dC : Nat → ClassId) (dI : Nat → Nat → Nat) (ad_md : Nat → Nat) (cA_md : Nat → ClassId) (sz : Nat) (md : SModel) (x1 : Int32) (res : Int32 × SModel) (hf : f_Model_following md x1 = some res) : Met l y_Model_following w_Model_following ({ frames := 3, cells := 0, slots := 0, locals := 69 }) (cPc (dC, dI) (uw_Model ad_md cA_md md) [(cA_md 1, .int), (cA_md 2, .int), (cA_md 3, .int), (cA_md 4, .int), (cA_md 5, .int), (cA_md 6, .int), (cA_md 7, .int), (cA_md 8, .int), (cA_md 9, .boolean), (cA_md 10, .int), (cA_md 11, .int), (cA_md 12, .int), (cA_md 13, .int)] sz [.ref (ad_md 0), .int x1]) (va_Qi (fun (r : Int32) (u : SModel) => r = res.1 ∧ u = res.2) (fun (u : SModel) (t : State) => va_P (dC, dI) vwCl (uw_Model ad_md cA_md u) t.heap ∧ va_K (dC, dI) vwCl [(cA_md 1, .int), (cA_md 2, .int), (cA_md 3, .int), (cA_md 4, .int), (cA_md 5, .int), (cA_md 6, .int), (cA_md 7, .int), (cA_md 8, .int), (cA_md 9, .boolean), (cA_md 10, .int), (cA_md 11, .int), (cA_md 12, .int), (cA_md 13, .int)] t ∧ va_D (va_A (uw_Model ad_md cA_md md) sz) (uw_Model ad_md cA_md u)) (va_A (uw_Model ad_md cA_md md) sz)) 0 0 (va_A (uw_Model ad_md cA_md md) sz) := by
  refine Met.ofW (cc := b_Model_following) (maxL := 6) (ret := (some .int)) (by decide) rfl ?_
  intro p e s m args below meth c s₁ B hml hv
  obtain ⟨rfl, hsz, hP, hK, hD0, hN⟩ := hv
  have hx := B.exec
  have hb := B.bytes
  have hr := B.returns
  have hts := atoms_spec (ws := w_Model_following) B.pre
  have hown : s.vm.findClass "HazardTablesModel" = some m.cls := findClass_of_methodNamed B.named
  have hlocks := B.notSynchronized
  subst hsz
  have hD := hD0.self (sz := s.heap.size)
  generalize hAe : va_A (uw_Model ad_md cA_md md) s.heap.size = A at hD ⊢
  have hA : ∀ q : Nat, s.heap.size ≤ q → A q := fun q h => by rw [← hAe]; exact Or.inr h
  have hS : va_S A s.heap s.heap [] := va_S.rf
  have hP : va_P (dC, dI) vwCl (uw_Model ad_md cA_md md) s.heap := hP
  have fl_128 := (hts _ (List.mem_cons_of_mem _ wd_752))
  have fl_17 := (hts _ (List.mem_cons_of_mem _ wd_754))
  have hin_Model : ∀ w ∈ u_ws "HazardTablesModel" F_Model 30, w ∈ w_Model_following := fun w h => List.mem_cons_of_mem _ (hinA_Model w h)
  have ret : ∀ (v : Int32) (u : SModel) (H : Heap) (locs : List Loc) (ls : Array Slot) (pc : Nat), decode b_Model_following pc = .ok (.ireturn, 1) → (v = res.1 ∧ u = res.2) → va_P (dC, dI) vwCl (uw_Model ad_md cA_md u) H → va_D A (uw_Model ad_md cA_md u) → va_S A s.heap H locs → W p l e (headSpec w_Model_following ({ frames := 3, cells := 0, slots := 0, locals := 69 })).room s m ([.ref (ad_md 0), .int x1] : List Value).toArray below meth c H locs 0 0 (MQ below (va_Qi (fun (r : Int32) (u : SModel) => r = res.1 ∧ u = res.2) (fun (u : SModel) (t : State) => va_P (dC, dI) vwCl (uw_Model ad_md cA_md u) t.heap ∧ va_K (dC, dI) vwCl [(cA_md 1, .int), (cA_md 2, .int), (cA_md 3, .int), (cA_md 4, .int), (cA_md 5, .int), (cA_md 6, .int), (cA_md 7, .int), (cA_md 8, .int), (cA_md 9, .boolean), (cA_md 10, .int), (cA_md 11, .int), (cA_md 12, .int), (cA_md 13, .int)] t ∧ va_D A (uw_Model ad_md cA_md u)) A) ([.ref (ad_md 0), .int x1] : List Value).toArray s 0 0 A) (F0 m pc ls [.int v]) := fun v u H locs ls pc hd hp hP hD hS => W.iret (v := v) hx hb hr (fun t ht hW => ⟨⟨v, u, rfl, hp, by rw [ht]; exact hP, va_K.moved hW.alike hK, hD⟩, hS.F ht⟩) hS.2.2 hd
  generalize (MQ below (va_Qi (fun (r : Int32) (u : SModel) => r = res.1 ∧ u = res.2) (fun (u : SModel) (t : State) => va_P (dC, dI) vwCl (uw_Model ad_md cA_md u) t.heap ∧ va_K (dC, dI) vwCl [(cA_md 1, .int), (cA_md 2, .int), (cA_md 3, .int), (cA_md 4, .int), (cA_md 5, .int), (cA_md 6, .int), (cA_md 7, .int), (cA_md 8, .int), (cA_md 9, .boolean), (cA_md 10, .int), (cA_md 11, .int), (cA_md 12, .int), (cA_md 13, .int)] t ∧ va_D A (uw_Model ad_md cA_md u)) A) ([.ref (ad_md 0), .int x1] : List Value).toArray s 0 0 A) = Q at ret ⊢
  have w_66 : ∀ (k_4 : SModel → Int32 → Int32 → Int32 → Option (Int32 × SModel)), (∀ (md : SModel) (y1 : Int32) (y2 : Int32) (y3 : Int32) (H : Heap) (locs : List Loc) (ls : Array Slot), k_4 md y1 y2 y3 = some res → va_P (dC, dI) vwCl (uw_Model ad_md cA_md md) H → va_D A (uw_Model ad_md cA_md md) → va_S A s.heap H locs → lv_has ls 6 [(0, .ref (ad_md 0)), (1, .int y1), (2, .int y2), (3, .int y3)] → W p l e (headSpec w_Model_following ({ frames := 3, cells := 0, slots := 0, locals := 69 })).room s m ([.ref (ad_md 0), .int x1] : List Value).toArray below meth c H locs 0 0 Q (F0 m 4 ls [])) → ∀ (md : SModel) (y1 : Int32) (y2 : Int32) (y3 : Int32) (y4 : Int32) (z0 : Bool) (H : Heap) (locs : List Loc) (ls : Array Slot), f_Model_following_66 k_4 md y1 y2 y3 y4 z0 = some res → va_P (dC, dI) vwCl (uw_Model ad_md cA_md md) H → va_D A (uw_Model ad_md cA_md md) → va_S A s.heap H locs → lv_has ls 6 [(0, .ref (ad_md 0)), (1, .int y1), (2, .int y2), (3, .int y3), (4, .int y4)] → W p l e (headSpec w_Model_following ({ frames := 3, cells := 0, slots := 0, locals := 69 })).room s m ([.ref (ad_md 0), .int x1] : List Value).toArray below meth c H locs 0 0 Q (F0 m 66 ls [.int (bI z0)]) := by
    intro k_4 hk_4
    intro md y1 y2 y3 y4 z0 H locs ls hf hP hD hS hl
    rw [f_Model_following_66] at hf
    refine lv_istore (lv' := [(5, .int (bI z0)), (0, .ref (ad_md 0)), (1, .int y1), (2, .int y2), (3, .int y3), (4, .int y4)]) hx hb d_Model_following_66 hl (by decide) rfl (fun ls hl => ?_)
    refine lv_iload hx hb d_Model_following_68 (lv_at hl 0 rfl) ?_
    refine lv_if_eq (tgt := 103) hx hb d_Model_following_70 (by decide) (fun hc8 => ?_) (fun hc8 => ?_)
    · have hf := hf_t hf hc8
      refine lv_iinc (v := y3 + (1 : Int32)) (lv' := [(3, .int (y3 + (1 : Int32))), (5, .int (bI z0)), (0, .ref (ad_md 0)), (1, .int y1), (2, .int y2), (4, .int y4)]) hx hb d_Model_following_103 hl (k := 4) rfl rfl (by decide) rfl (fun ls hl => ?_)
      refine lv_goto (tgt := 4) hx hb d_Model_following_106 (by decide) ?_
      exact hk_4 md y1 y2 (y3 + (1 : Int32)) H locs ls hf hP hD hS (lv_sub hl [2, 3, 4, 0] rfl)
    · have hf := hf_f hf hc8
      refine lv_iload_n hx hb d_Model_following_73 rfl (lv_at hl 3 rfl) ?_
      refine lv_if_lt (tgt := 101) hx hb d_Model_following_74 (by decide) (fun hc9 => ?_) (fun hc9 => ?_)
      · have hf := hf_t hf hc9
        refine lv_iload_n hx hb d_Model_following_101 rfl (lv_at hl 4 rfl) ?_
        refine lv_istore_n (lv' := [(2, .int y3), (5, .int (bI z0)), (0, .ref (ad_md 0)), (1, .int y1), (3, .int y3), (4, .int y4)]) hx hb d_Model_following_102 rfl hl (by decide) rfl (fun ls hl => ?_)
        refine lv_iinc (v := y3 + (1 : Int32)) (lv' := [(3, .int (y3 + (1 : Int32))), (2, .int y3), (5, .int (bI z0)), (0, .ref (ad_md 0)), (1, .int y1), (4, .int y4)]) hx hb d_Model_following_103 hl (k := 4) rfl rfl (by decide) rfl (fun ls hl => ?_)
        refine lv_goto (tgt := 4) hx hb d_Model_following_106 (by decide) ?_
        exact hk_4 md y1 y3 (y3 + (1 : Int32)) H locs ls hf hP hD hS (lv_sub hl [3, 4, 1, 0] rfl)
      · have hf := hf_f hf hc9
        refine lv_iload hx hb d_Model_following_77 (lv_at hl 5 rfl) ?_
        refine lv_aload_n hx hb d_Model_following_79 rfl (lv_at hl 1 rfl) ?_
        refine lv_iload_n hx hb d_Model_following_80 rfl (lv_at hl 3 rfl) ?_
        obtain ⟨u10, hu10, hf⟩ := Option.bind_eq_some_iff.mp hf
        refine cl_i (wc := (uw_Model ad_md cA_md md)) (wr := []) (tysC := [(cA_md 1, .int), (cA_md 2, .int), (cA_md 3, .int), (cA_md 4, .int), (cA_md 5, .int), (cA_md 6, .int), (cA_md 7, .int), (cA_md 8, .int), (cA_md 9, .boolean), (cA_md 10, .int), (cA_md 11, .int), (cA_md 12, .int), (cA_md 13, .int)]) (wu := fun (u : SModel) => (uw_Model ad_md cA_md u)) (wn := fun (u : SModel) => (uw_Model ad_md cA_md u)) [0, 1, 2, 3, 4, 5, 6, 7, 8, 9, 10, 11, 12, 13] [] [0, 1, 2, 3, 4, 5, 6, 7, 8, 9, 10, 11, 12, 13] [0, 1, 2, 3, 4, 5, 6, 7, 8, 9, 10, 11, 12] hP hD hS hA hK rfl rfl (by decide +kernel) (by decide +kernel) (by decide +kernel) rfl (fun _ => rfl) (by decide +kernel) (fun hPc hKc hDc => (va_runV (As := [.int y2]) (rest := [.int y4]) ⟨hx, hb, hml, hown, hts⟩ (k_Model_nearest l dC dI ad_md cA_md H.size md y2 u10 hu10) (cwV 1 hts (gV wd_926 wd_928 wd_36 wd_49 wd_929) rfl rfl rfl (by decide +kernel) ⟨Nat.le_of_ble_eq_true rfl, Nat.le_of_ble_eq_true rfl⟩) (cl_preV hPc hKc hDc hN (ci := 6) 0 rfl rfl) rfl rfl hl.1 rfl (lv_room (Nat.le_of_ble_eq_true rfl)) d_Model_following_81 ⟨Nat.le_of_ble_eq_true rfl, Nat.le_of_ble_eq_true rfl⟩)) (fun r u H locs hw hP hD hS => ?_)
        obtain ⟨hw1, hw2⟩ := hw
        have hw1 := hw1.symm
        have hw2 := hw2.symm
        subst hw1
        subst hw2
        have hP : va_P (dC, dI) vwCl (uw_Model ad_md cA_md u10.2) H := hP
        have hD : va_D A (uw_Model ad_md cA_md u10.2) := hD
        refine lv_sipush (v := (10000 : Int32)) hx hb d_Model_following_84 (by decide) ?_
        refine lv_imul hx hb d_Model_following_87 ?_
        refine lv_aload_n hx hb d_Model_following_88 rfl (lv_at hl 1 rfl) ?_
        refine va_get (D := (dC, dI)) (ci := 6) (v := .ref (ad_md 2)) (C := "HazardTablesModel") (T := F_Model) (N := 30) hx hb hts hin_Model hown hK hP 0 rfl rfl 6 (by decide) fl_17 (fun _ h9 => h9) rfl d_Model_following_89 ?_
        refine lv_iload_n hx hb d_Model_following_92 rfl (lv_at hl 3 rfl) ?_
        refine lv_bipush (v := (43 : Int32)) hx hb d_Model_following_93 (by decide) ?_
        refine lv_imul hx hb d_Model_following_95 ?_
        obtain ⟨hi11, hf⟩ := hf_g hf
        refine va_iald hx hb hK hP 2 1 rfl rfl hi11 d_Model_following_96 ?_
        refine lv_iadd hx hb d_Model_following_97 ?_
        refine lv_icmp_ge (tgt := 103) hx hb d_Model_following_98 (by decide) (fun hc12 => ?_) (fun hc12 => ?_)
        · have hf := hf_t hf hc12
          refine lv_iinc (v := y3 + (1 : Int32)) (lv' := [(3, .int (y3 + (1 : Int32))), (5, .int (bI z0)), (0, .ref (ad_md 0)), (1, .int y1), (2, .int y2), (4, .int y4)]) hx hb d_Model_following_103 hl (k := 4) rfl rfl (by decide) rfl (fun ls hl => ?_)
          refine lv_goto (tgt := 4) hx hb d_Model_following_106 (by decide) ?_
          exact hk_4 u10.2 y1 y2 (y3 + (1 : Int32)) H locs ls hf hP hD hS (lv_sub hl [2, 3, 4, 0] rfl)
        · have hf := hf_f hf hc12
          refine lv_iload_n hx hb d_Model_following_101 rfl (lv_at hl 4 rfl) ?_
          refine lv_istore_n (lv' := [(2, .int y3), (5, .int (bI z0)), (0, .ref (ad_md 0)), (1, .int y1), (3, .int y3), (4, .int y4)]) hx hb d_Model_following_102 rfl hl (by decide) rfl (fun ls hl => ?_)
          refine lv_iinc (v := y3 + (1 : Int32)) (lv' := [(3, .int (y3 + (1 : Int32))), (2, .int y3), (5, .int (bI z0)), (0, .ref (ad_md 0)), (1, .int y1), (4, .int y4)]) hx hb d_Model_following_103 hl (k := 4) rfl rfl (by decide) rfl (fun ls hl => ?_)
          refine lv_goto (tgt := 4) hx hb d_Model_following_106 (by decide) ?_
          exact hk_4 u10.2 y1 y3 (y3 + (1 : Int32)) H locs ls hf hP hD hS (lv_sub hl [3, 4, 1, 0] rfl)
  have w_61 : ∀ (k_4 : SModel → Int32 → Int32 → Int32 → Option (Int32 × SModel)), (∀ (md : SModel) (y1 : Int32) (y2 : Int32) (y3 : Int32) (H : Heap) (locs : List Loc) (ls : Array Slot), k_4 md y1 y2 y3 = some res → va_P (dC, dI) vwCl (uw_Model ad_md cA_md md) H → va_D A (uw_Model ad_md cA_md md) → va_S A s.heap H locs → lv_has ls 6 [(0, .ref (ad_md 0)), (1, .int y1), (2, .int y2), (3, .int y3)] → W p l e (headSpec w_Model_following ({ frames := 3, cells := 0, slots := 0, locals := 69 })).room s m ([.ref (ad_md 0), .int x1] : List Value).toArray below meth c H locs 0 0 Q (F0 m 4 ls [])) → ∀ (md : SModel) (y1 : Int32) (y2 : Int32) (y3 : Int32) (y4 : Int32) (H : Heap) (locs : List Loc) (ls : Array Slot), f_Model_following_61 k_4 md y1 y2 y3 y4 = some res → va_P (dC, dI) vwCl (uw_Model ad_md cA_md md) H → va_D A (uw_Model ad_md cA_md md) → va_S A s.heap H locs → lv_has ls 6 [(0, .ref (ad_md 0)), (1, .int y1), (2, .int y2), (3, .int y3), (4, .int y4)] → W p l e (headSpec w_Model_following ({ frames := 3, cells := 0, slots := 0, locals := 69 })).room s m ([.ref (ad_md 0), .int x1] : List Value).toArray below meth c H locs 0 0 Q (F0 m 61 ls []) := by
    intro k_4 hk_4
    intro md y1 y2 y3 y4 H locs ls hf hP hD hS hl
    rw [f_Model_following_61] at hf
    refine lv_iconst (v := (1 : Int32)) hx hb d_Model_following_61 (by decide) ?_
    refine lv_goto (tgt := 66) hx hb d_Model_following_62 (by decide) ?_
    exact w_66 k_4 hk_4 md y1 y2 y3 y4 true H locs ls hf hP hD hS (lv_sub hl [0, 1, 2, 3, 4] rfl)
  have w_4 : ∀ (n : Nat) (md : SModel) (y1 : Int32) (y2 : Int32) (y3 : Int32) (H : Heap) (locs : List Loc) (ls : Array Slot), f_Model_following_4 n md y1 y2 y3 = some res → va_P (dC, dI) vwCl (uw_Model ad_md cA_md md) H → va_D A (uw_Model ad_md cA_md md) → va_S A s.heap H locs → lv_has ls 6 [(0, .ref (ad_md 0)), (1, .int y1), (2, .int y2), (3, .int y3)] → W p l e (headSpec w_Model_following ({ frames := 3, cells := 0, slots := 0, locals := 69 })).room s m ([.ref (ad_md 0), .int x1] : List Value).toArray below meth c H locs 0 0 Q (F0 m 4 ls []) := by
    intro n
    induction n with
    | zero =>
      intro md y1 y2 y3 H locs ls hf hP hD hS hl
      rw [f_Model_following_4] at hf; cases hf
    | succ n ih =>
      intro md y1 y2 y3 H locs ls hf hP hD hS hl
      rw [f_Model_following_4] at hf
      refine lv_iload_n hx hb d_Model_following_4 rfl (lv_at hl 3 rfl) ?_
      refine lv_aload_n hx hb d_Model_following_5 rfl (lv_at hl 0 rfl) ?_
      refine va_get (D := (dC, dI)) (ci := 6) (v := .int md.2.2.2.1.1) (C := "HazardTablesModel") (T := F_Model) (N := 30) hx hb hts hin_Model hown hK hP 0 rfl rfl 4 (by decide) fl_128 (fun _ h9 => h9) rfl d_Model_following_6 ?_
      refine lv_icmp_ge (tgt := 109) hx hb d_Model_following_9 (by decide) (fun hc1 => ?_) (fun hc1 => ?_)
      · have hf := hf_t hf hc1
        refine lv_iload_n hx hb d_Model_following_109 rfl (lv_at hl 2 rfl) ?_
        exact ret y2 md H locs ls 110 d_Model_following_110 (hf_e hf) hP hD hS
      · have hf := hf_f hf hc1
        refine lv_aload_n hx hb d_Model_following_12 rfl (lv_at hl 0 rfl) ?_
        refine lv_iload_n hx hb d_Model_following_13 rfl (lv_at hl 3 rfl) ?_
        obtain ⟨u2, hu2, hf⟩ := Option.bind_eq_some_iff.mp hf
        refine cl_i (wc := (uw_Model ad_md cA_md md)) (wr := []) (tysC := [(cA_md 1, .int), (cA_md 2, .int), (cA_md 3, .int), (cA_md 4, .int), (cA_md 5, .int), (cA_md 6, .int), (cA_md 7, .int), (cA_md 8, .int), (cA_md 9, .boolean), (cA_md 10, .int), (cA_md 11, .int), (cA_md 12, .int), (cA_md 13, .int)]) (wu := fun (u : SModel) => (uw_Model ad_md cA_md u)) (wn := fun (u : SModel) => (uw_Model ad_md cA_md u)) [0, 1, 2, 3, 4, 5, 6, 7, 8, 9, 10, 11, 12, 13] [] [0, 1, 2, 3, 4, 5, 6, 7, 8, 9, 10, 11, 12, 13] [0, 1, 2, 3, 4, 5, 6, 7, 8, 9, 10, 11, 12] hP hD hS hA hK rfl rfl (by decide +kernel) (by decide +kernel) (by decide +kernel) rfl (fun _ => rfl) (by decide +kernel) (fun hPc hKc hDc => (va_runV (As := [.int y3]) (rest := []) ⟨hx, hb, hml, hown, hts⟩ (k_Model_nearest l dC dI ad_md cA_md H.size md y3 u2 hu2) (cwV 1 hts (gV wd_926 wd_928 wd_36 wd_49 wd_929) rfl rfl rfl (by decide +kernel) ⟨Nat.le_of_ble_eq_true rfl, Nat.le_of_ble_eq_true rfl⟩) (cl_preV hPc hKc hDc hN (ci := 6) 0 rfl rfl) rfl rfl hl.1 rfl (lv_room (Nat.le_of_ble_eq_true rfl)) d_Model_following_14 ⟨Nat.le_of_ble_eq_true rfl, Nat.le_of_ble_eq_true rfl⟩)) (fun r u H locs hw hP hD hS => ?_)
        obtain ⟨hw1, hw2⟩ := hw
        have hw1 := hw1.symm
        have hw2 := hw2.symm
        subst hw1
        subst hw2
        have hP : va_P (dC, dI) vwCl (uw_Model ad_md cA_md u2.2) H := hP
        have hD : va_D A (uw_Model ad_md cA_md u2.2) := hD
        refine lv_sipush (v := (10000 : Int32)) hx hb d_Model_following_17 (by decide) ?_
        refine lv_imul hx hb d_Model_following_20 ?_
        refine lv_aload_n hx hb d_Model_following_21 rfl (lv_at hl 0 rfl) ?_
        refine va_get (D := (dC, dI)) (ci := 6) (v := .ref (ad_md 2)) (C := "HazardTablesModel") (T := F_Model) (N := 30) hx hb hts hin_Model hown hK hP 0 rfl rfl 6 (by decide) fl_17 (fun _ h9 => h9) rfl d_Model_following_22 ?_
        refine lv_iload_n hx hb d_Model_following_25 rfl (lv_at hl 3 rfl) ?_
        refine lv_bipush (v := (43 : Int32)) hx hb d_Model_following_26 (by decide) ?_
        refine lv_imul hx hb d_Model_following_28 ?_
        obtain ⟨hi3, hf⟩ := hf_g hf
        refine va_iald hx hb hK hP 2 1 rfl rfl hi3 d_Model_following_29 ?_
        refine lv_iadd hx hb d_Model_following_30 ?_
        refine lv_istore (lv' := [(4, .int ((u2.1 * (10000 : Int32)) + (u2.2.2.2.2.1.2.2 (y3 * (43 : Int32)).toNatClampNeg))), (0, .ref (ad_md 0)), (1, .int y1), (2, .int y2), (3, .int y3)]) hx hb d_Model_following_31 hl (by decide) rfl (fun ls hl => ?_)
        refine lv_iload_n hx hb d_Model_following_33 rfl (lv_at hl 2 rfl) ?_
        refine lv_if_lt (tgt := 61) hx hb d_Model_following_34 (by decide) (fun hc4 => ?_) (fun hc4 => ?_)
        · have hf := hf_t hf hc4
          exact w_61 (f_Model_following_4 n) ih u2.2 y1 y2 y3 ((u2.1 * (10000 : Int32)) + (u2.2.2.2.2.1.2.2 (y3 * (43 : Int32)).toNatClampNeg)) H locs ls hf hP hD hS (lv_sub hl [1, 2, 3, 4, 0] rfl)
        · have hf := hf_f hf hc4
          refine lv_iload hx hb d_Model_following_37 (lv_at hl 0 rfl) ?_
          refine lv_aload_n hx hb d_Model_following_39 rfl (lv_at hl 1 rfl) ?_
          refine lv_iload_n hx hb d_Model_following_40 rfl (lv_at hl 2 rfl) ?_
          obtain ⟨u5, hu5, hf⟩ := Option.bind_eq_some_iff.mp hf
          refine cl_i (wc := (uw_Model ad_md cA_md u2.2)) (wr := []) (tysC := [(cA_md 1, .int), (cA_md 2, .int), (cA_md 3, .int), (cA_md 4, .int), (cA_md 5, .int), (cA_md 6, .int), (cA_md 7, .int), (cA_md 8, .int), (cA_md 9, .boolean), (cA_md 10, .int), (cA_md 11, .int), (cA_md 12, .int), (cA_md 13, .int)]) (wu := fun (u : SModel) => (uw_Model ad_md cA_md u)) (wn := fun (u : SModel) => (uw_Model ad_md cA_md u)) [0, 1, 2, 3, 4, 5, 6, 7, 8, 9, 10, 11, 12, 13] [] [0, 1, 2, 3, 4, 5, 6, 7, 8, 9, 10, 11, 12, 13] [0, 1, 2, 3, 4, 5, 6, 7, 8, 9, 10, 11, 12] hP hD hS hA hK rfl rfl (by decide +kernel) (by decide +kernel) (by decide +kernel) rfl (fun _ => rfl) (by decide +kernel) (fun hPc hKc hDc => (va_runV (As := [.int y1]) (rest := [.int ((u2.1 * (10000 : Int32)) + (u2.2.2.2.2.1.2.2 (y3 * (43 : Int32)).toNatClampNeg))]) ⟨hx, hb, hml, hown, hts⟩ (k_Model_nearest l dC dI ad_md cA_md H.size u2.2 y1 u5 hu5) (cwV 1 hts (gV wd_926 wd_928 wd_36 wd_49 wd_929) rfl rfl rfl (by decide +kernel) ⟨Nat.le_of_ble_eq_true rfl, Nat.le_of_ble_eq_true rfl⟩) (cl_preV hPc hKc hDc hN (ci := 6) 0 rfl rfl) rfl rfl hl.1 rfl (lv_room (Nat.le_of_ble_eq_true rfl)) d_Model_following_41 ⟨Nat.le_of_ble_eq_true rfl, Nat.le_of_ble_eq_true rfl⟩)) (fun r u H locs hw hP hD hS => ?_)
          obtain ⟨hw1, hw2⟩ := hw
          have hw1 := hw1.symm
          have hw2 := hw2.symm
          subst hw1
          subst hw2
          have hP : va_P (dC, dI) vwCl (uw_Model ad_md cA_md u5.2) H := hP
          have hD : va_D A (uw_Model ad_md cA_md u5.2) := hD
          refine lv_sipush (v := (10000 : Int32)) hx hb d_Model_following_44 (by decide) ?_
          refine lv_imul hx hb d_Model_following_47 ?_
          refine lv_aload_n hx hb d_Model_following_48 rfl (lv_at hl 1 rfl) ?_
          refine va_get (D := (dC, dI)) (ci := 6) (v := .ref (ad_md 2)) (C := "HazardTablesModel") (T := F_Model) (N := 30) hx hb hts hin_Model hown hK hP 0 rfl rfl 6 (by decide) fl_17 (fun _ h9 => h9) rfl d_Model_following_49 ?_
          refine lv_iload_n hx hb d_Model_following_52 rfl (lv_at hl 2 rfl) ?_
          refine lv_bipush (v := (43 : Int32)) hx hb d_Model_following_53 (by decide) ?_
          refine lv_imul hx hb d_Model_following_55 ?_
          obtain ⟨hi6, hf⟩ := hf_g hf
          refine va_iald hx hb hK hP 2 1 rfl rfl hi6 d_Model_following_56 ?_
          refine lv_iadd hx hb d_Model_following_57 ?_
          refine lv_icmp_le (tgt := 65) hx hb d_Model_following_58 (by decide) (fun hc7 => ?_) (fun hc7 => ?_)
          · have hf := hf_t hf hc7
            refine lv_iconst (v := (0 : Int32)) hx hb d_Model_following_65 (by decide) ?_
            exact w_66 (f_Model_following_4 n) ih u5.2 y1 y2 y3 ((u2.1 * (10000 : Int32)) + (u2.2.2.2.2.1.2.2 (y3 * (43 : Int32)).toNatClampNeg)) false H locs ls hf hP hD hS (lv_sub hl [1, 2, 3, 4, 0] rfl)
          · have hf := hf_f hf hc7
            exact w_61 (f_Model_following_4 n) ih u5.2 y1 y2 y3 ((u2.1 * (10000 : Int32)) + (u2.2.2.2.2.1.2.2 (y3 * (43 : Int32)).toNatClampNeg)) H locs ls hf hP hD hS (lv_sub hl [1, 2, 3, 4, 0] rfl)
  have hl := lv_entry ([.ref (ad_md 0), .int x1]) (n := 6) (Nat.le_of_ble_eq_true rfl)
  rw [lg_entry_eq]
  generalize (lg_sl ([.ref (ad_md 0), .int x1]) ++ List.replicate (6 - (lg_sl ([.ref (ad_md 0), .int x1])).length) Slot.unset).toArray = ls at hl ⊢
  have hl : lv_has ls 6 [(0, .ref (ad_md 0)), (1, .int x1)] := hl
  have hf := hf
  rw [f_Model_following] at hf
  obtain ⟨H, hH⟩ : ∃ H : Heap, H = s.heap := ⟨_, rfl⟩
  obtain ⟨locs, hlocs⟩ : ∃ L : List Loc, L = [] := ⟨_, rfl⟩
  have hP : va_P (dC, dI) vwCl (uw_Model ad_md cA_md md) H := by rw [hH]; exact hP
  have hS : va_S A s.heap H locs := by rw [hH, hlocs]; exact hS
  show W p l e (headSpec w_Model_following ({ frames := 3, cells := 0, slots := 0, locals := 69 })).room s m ([.ref (ad_md 0), .int x1] : List Value).toArray below meth c s.heap [] 0 0 Q (F0 m 0 ls [])
  suffices hgo : W p l e (headSpec w_Model_following ({ frames := 3, cells := 0, slots := 0, locals := 69 })).room s m ([.ref (ad_md 0), .int x1] : List Value).toArray below meth c H locs 0 0 Q (F0 m 0 ls []) by rw [hH, hlocs] at hgo; exact hgo
  clear hH hlocs
  refine lv_iconst (v := (-1 : Int32)) hx hb d_Model_following_0 (by decide) ?_
  refine lv_istore_n (lv' := [(2, .int (-1 : Int32)), (0, .ref (ad_md 0)), (1, .int x1)]) hx hb d_Model_following_1 rfl hl (by decide) rfl (fun ls hl => ?_)
  refine lv_iconst (v := (0 : Int32)) hx hb d_Model_following_2 (by decide) ?_
  refine lv_istore_n (lv' := [(3, .int (0 : Int32)), (2, .int (-1 : Int32)), (0, .ref (ad_md 0)), (1, .int x1)]) hx hb d_Model_following_3 rfl hl (by decide) rfl (fun ls hl => ?_)
  exact w_4 4096 md x1 (-1 : Int32) (0 : Int32) H locs ls hf hP hD hS (lv_sub hl [2, 3, 1, 0] rfl)
