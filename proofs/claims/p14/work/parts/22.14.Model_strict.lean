noncomputable def f_Model_strict_24  : Nat → SModel → Int32 → Int32 → Option (Int32 × SModel)
  | 0, _, _, _ => none
  | n + 1, md, y2, y3 =>
    (if md.2.2.2.2.1.1 ≤ y3 then
      (some ((-1 : Int32), md))
     else
      (if inb y3 8 then
        (if inb (((md.2.2.2.2.1.2.2.2.1 y3.toNatClampNeg) * (43 : Int32)) + (2 : Int32)) 559 then
          (Option.bind (f_Model_strictness md) fun u7 =>
            (if (md.2.2.2.1.2.2 (((md.2.2.2.2.1.2.2.2.1 y3.toNatClampNeg) * (43 : Int32)) + (2 : Int32)).toNatClampNeg) = u7 then
              (if y2 = 0 then
                (if inb y3 8 then
                  (some (md.2.2.2.2.1.2.1 y3.toNatClampNeg, md))
                 else none)
               else
                (f_Model_strict_24 n md (y2 + (-1 : Int32)) (y3 + (1 : Int32)))
               )
             else
              (f_Model_strict_24 n md y2 (y3 + (1 : Int32)))
             )
           )
         else none)
       else none)
     )
noncomputable def f_Model_strict_10  (md : SModel) (y1 : Int32) (z1 : Bool) : Option (Int32 × SModel) :=
  (Option.bind (f_Model_goes md z1 true true) fun u2 =>
    (if (bI u2.1) = 0 then
      (some ((0 : Int32), u2.2))
     else
      (f_Model_strict_24 4096 u2.2 y1 (0 : Int32))
     )
   )
noncomputable def f_Model_strict (md : SModel) (x1 : Int32) : Option (Int32 × SModel) :=
  (if x1 < 0 then
    (f_Model_strict_10 md x1 false)
   else
    (f_Model_strict_10 md x1 true)
   )
set_option maxHeartbeats 4000000 in
set_option maxRecDepth 100000 in
theorem k_Model_strict (l : Launch) (dC : Nat → ClassId) (dI : Nat → Nat → Nat) (ad_md : Nat → Nat) (cA_md : Nat → ClassId) (sz : Nat) (md : SModel) (x1 : Int32) (res : Int32 × SModel) (hf : f_Model_strict md x1 = some res) : Met l y_Model_strict w_Model_strict ({ frames := 1, cells := 0, slots := 0, locals := 23 }) (cPc (dC, dI) (uw_Model ad_md cA_md md) [(cA_md 1, .int), (cA_md 2, .int), (cA_md 3, .int), (cA_md 4, .int), (cA_md 5, .int), (cA_md 6, .int), (cA_md 7, .int), (cA_md 8, .int), (cA_md 9, .boolean), (cA_md 10, .int), (cA_md 11, .int), (cA_md 12, .int), (cA_md 13, .int)] sz [.ref (ad_md 0), .int x1]) (va_Qi (fun (r : Int32) (u : SModel) => r = res.1 ∧ u = res.2) (fun (u : SModel) (t : State) => va_P (dC, dI) vwCl (uw_Model ad_md cA_md u) t.heap ∧ va_K (dC, dI) vwCl [(cA_md 1, .int), (cA_md 2, .int), (cA_md 3, .int), (cA_md 4, .int), (cA_md 5, .int), (cA_md 6, .int), (cA_md 7, .int), (cA_md 8, .int), (cA_md 9, .boolean), (cA_md 10, .int), (cA_md 11, .int), (cA_md 12, .int), (cA_md 13, .int)] t ∧ va_D (va_A (uw_Model ad_md cA_md md) sz) (uw_Model ad_md cA_md u)) (va_A (uw_Model ad_md cA_md md) sz)) 0 0 (va_A (uw_Model ad_md cA_md md) sz) := by
  refine Met.ofW (cc := b_Model_strict) (maxL := 4) (ret := (some .int)) (by decide) rfl ?_
  intro p e s m args below meth c s₁ B hml hv
  obtain ⟨rfl, hsz, hP, hK, hD0, hN⟩ := hv
  have hx := B.exec
  have hb := B.bytes
  have hr := B.returns
  have hts := atoms_spec (ws := w_Model_strict) B.pre
  have hown : s.vm.findClass "HazardTablesModel" = some m.cls := findClass_of_methodNamed B.named
  have hlocks := B.notSynchronized
  subst hsz
  have hD := hD0.self (sz := s.heap.size)
  generalize hAe : va_A (uw_Model ad_md cA_md md) s.heap.size = A at hD ⊢
  have hA : ∀ q : Nat, s.heap.size ≤ q → A q := fun q h => by rw [← hAe]; exact Or.inr h
  have hS : va_S A s.heap s.heap [] := va_S.rf
  have hP : va_P (dC, dI) vwCl (uw_Model ad_md cA_md md) s.heap := hP
  have fl_157 := (hts _ (List.mem_cons_of_mem _ wd_760))
  have fl_17 := (hts _ (List.mem_cons_of_mem _ wd_754))
  have fl_23 := (hts _ (List.mem_cons_of_mem _ wd_761))
  have fl_29 := (hts _ (List.mem_cons_of_mem _ wd_763))
  have hin_Model : ∀ w ∈ u_ws "HazardTablesModel" F_Model 30, w ∈ w_Model_strict := fun w h => List.mem_cons_of_mem _ (hinA_Model w h)
  have ret : ∀ (v : Int32) (u : SModel) (H : Heap) (locs : List Loc) (ls : Array Slot) (pc : Nat), decode b_Model_strict pc = .ok (.ireturn, 1) → (v = res.1 ∧ u = res.2) → va_P (dC, dI) vwCl (uw_Model ad_md cA_md u) H → va_D A (uw_Model ad_md cA_md u) → va_S A s.heap H locs → W p l e (headSpec w_Model_strict ({ frames := 1, cells := 0, slots := 0, locals := 23 })).room s m ([.ref (ad_md 0), .int x1] : List Value).toArray below meth c H locs 0 0 (MQ below (va_Qi (fun (r : Int32) (u : SModel) => r = res.1 ∧ u = res.2) (fun (u : SModel) (t : State) => va_P (dC, dI) vwCl (uw_Model ad_md cA_md u) t.heap ∧ va_K (dC, dI) vwCl [(cA_md 1, .int), (cA_md 2, .int), (cA_md 3, .int), (cA_md 4, .int), (cA_md 5, .int), (cA_md 6, .int), (cA_md 7, .int), (cA_md 8, .int), (cA_md 9, .boolean), (cA_md 10, .int), (cA_md 11, .int), (cA_md 12, .int), (cA_md 13, .int)] t ∧ va_D A (uw_Model ad_md cA_md u)) A) ([.ref (ad_md 0), .int x1] : List Value).toArray s 0 0 A) (F0 m pc ls [.int v]) := fun v u H locs ls pc hd hp hP hD hS => W.iret (v := v) hx hb hr (fun t ht hW => ⟨⟨v, u, rfl, hp, by rw [ht]; exact hP, va_K.moved hW.alike hK, hD⟩, hS.F ht⟩) hS.2.2 hd
  generalize (MQ below (va_Qi (fun (r : Int32) (u : SModel) => r = res.1 ∧ u = res.2) (fun (u : SModel) (t : State) => va_P (dC, dI) vwCl (uw_Model ad_md cA_md u) t.heap ∧ va_K (dC, dI) vwCl [(cA_md 1, .int), (cA_md 2, .int), (cA_md 3, .int), (cA_md 4, .int), (cA_md 5, .int), (cA_md 6, .int), (cA_md 7, .int), (cA_md 8, .int), (cA_md 9, .boolean), (cA_md 10, .int), (cA_md 11, .int), (cA_md 12, .int), (cA_md 13, .int)] t ∧ va_D A (uw_Model ad_md cA_md u)) A) ([.ref (ad_md 0), .int x1] : List Value).toArray s 0 0 A) = Q at ret ⊢
  have w_24 : ∀ (n : Nat) (md : SModel) (y2 : Int32) (y3 : Int32) (H : Heap) (locs : List Loc) (ls : Array Slot), f_Model_strict_24 n md y2 y3 = some res → va_P (dC, dI) vwCl (uw_Model ad_md cA_md md) H → va_D A (uw_Model ad_md cA_md md) → va_S A s.heap H locs → lv_has ls 4 [(0, .ref (ad_md 0)), (2, .int y2), (3, .int y3)] → W p l e (headSpec w_Model_strict ({ frames := 1, cells := 0, slots := 0, locals := 23 })).room s m ([.ref (ad_md 0), .int x1] : List Value).toArray below meth c H locs 0 0 Q (F0 m 24 ls []) := by
    intro n
    induction n with
    | zero =>
      intro md y2 y3 H locs ls hf hP hD hS hl
      rw [f_Model_strict_24] at hf; cases hf
    | succ n ih =>
      intro md y2 y3 H locs ls hf hP hD hS hl
      rw [f_Model_strict_24] at hf
      refine lv_iload_n hx hb d_Model_strict_24 rfl (lv_at hl 2 rfl) ?_
      refine lv_aload_n hx hb d_Model_strict_25 rfl (lv_at hl 0 rfl) ?_
      refine va_get (D := (dC, dI)) (ci := 6) (v := .int md.2.2.2.2.1.1) (C := "HazardTablesModel") (T := F_Model) (N := 30) hx hb hts hin_Model hown hK hP 0 rfl rfl 12 (by decide) fl_157 (fun _ h9 => h9) rfl d_Model_strict_26 ?_
      refine lv_icmp_ge (tgt := 78) hx hb d_Model_strict_29 (by decide) (fun hc4 => ?_) (fun hc4 => ?_)
      · have hf := hf_t hf hc4
        refine lv_iconst (v := (-1 : Int32)) hx hb d_Model_strict_78 (by decide) ?_
        exact ret (-1 : Int32) md H locs ls 79 d_Model_strict_79 (hf_e hf) hP hD hS
      · have hf := hf_f hf hc4
        refine lv_aload_n hx hb d_Model_strict_32 rfl (lv_at hl 0 rfl) ?_
        refine va_get (D := (dC, dI)) (ci := 6) (v := .ref (ad_md 2)) (C := "HazardTablesModel") (T := F_Model) (N := 30) hx hb hts hin_Model hown hK hP 0 rfl rfl 6 (by decide) fl_17 (fun _ h9 => h9) rfl d_Model_strict_33 ?_
        refine lv_aload_n hx hb d_Model_strict_36 rfl (lv_at hl 0 rfl) ?_
        refine va_get (D := (dC, dI)) (ci := 6) (v := .ref (ad_md 6)) (C := "HazardTablesModel") (T := F_Model) (N := 30) hx hb hts hin_Model hown hK hP 0 rfl rfl 15 (by decide) fl_29 (fun _ h9 => h9) rfl d_Model_strict_37 ?_
        refine lv_iload_n hx hb d_Model_strict_40 rfl (lv_at hl 2 rfl) ?_
        obtain ⟨hi5, hf⟩ := hf_g hf
        refine va_iald hx hb hK hP 6 5 rfl rfl hi5 d_Model_strict_41 ?_
        refine lv_bipush (v := (43 : Int32)) hx hb d_Model_strict_42 (by decide) ?_
        refine lv_imul hx hb d_Model_strict_44 ?_
        refine lv_iconst (v := (2 : Int32)) hx hb d_Model_strict_45 (by decide) ?_
        refine lv_iadd hx hb d_Model_strict_46 ?_
        obtain ⟨hi6, hf⟩ := hf_g hf
        refine va_iald hx hb hK hP 2 1 rfl rfl hi6 d_Model_strict_47 ?_
        refine lv_aload_n hx hb d_Model_strict_48 rfl (lv_at hl 0 rfl) ?_
        obtain ⟨u7, hu7, hf⟩ := Option.bind_eq_some_iff.mp hf
        refine cl_i (wc := (uw_Model ad_md cA_md md)) (wr := []) (tysC := [(cA_md 1, .int), (cA_md 2, .int), (cA_md 3, .int), (cA_md 4, .int), (cA_md 5, .int), (cA_md 6, .int), (cA_md 7, .int), (cA_md 8, .int), (cA_md 9, .boolean), (cA_md 10, .int), (cA_md 11, .int), (cA_md 12, .int), (cA_md 13, .int)]) (wu := fun (u : Unit) => (uw_Model ad_md cA_md md)) (wn := fun (u : Unit) => (uw_Model ad_md cA_md md)) [0, 1, 2, 3, 4, 5, 6, 7, 8, 9, 10, 11, 12, 13] [] [0, 1, 2, 3, 4, 5, 6, 7, 8, 9, 10, 11, 12, 13] [0, 1, 2, 3, 4, 5, 6, 7, 8, 9, 10, 11, 12] hP hD hS hA hK rfl rfl (by decide +kernel) (by decide +kernel) (by decide +kernel) rfl (fun _ => rfl) (by decide +kernel) (fun hPc hKc hDc => (va_runV (As := []) (rest := [.int (md.2.2.2.1.2.2 (((md.2.2.2.2.1.2.2.2.1 y3.toNatClampNeg) * (43 : Int32)) + (2 : Int32)).toNatClampNeg)]) ⟨hx, hb, hml, hown, hts⟩ (k_Model_strictness l dC dI ad_md cA_md H.size md u7 hu7) (cwV 0 hts (gV wd_955 wd_957 wd_39 wd_49 wd_958) rfl rfl rfl (by decide +kernel) ⟨Nat.le_of_ble_eq_true rfl, Nat.le_of_ble_eq_true rfl⟩) (cl_preV hPc hKc hDc hN (ci := 6) 0 rfl rfl) rfl rfl hl.1 rfl (lv_room (Nat.le_of_ble_eq_true rfl)) d_Model_strict_49 ⟨Nat.le_of_ble_eq_true rfl, Nat.le_of_ble_eq_true rfl⟩)) (fun r u H locs hw hP hD hS => ?_)
        have hw := hw.symm
        subst hw
        have hP : va_P (dC, dI) vwCl (uw_Model ad_md cA_md md) H := hP
        have hD : va_D A (uw_Model ad_md cA_md md) := hD
        refine lv_icmp_eq (tgt := 58) hx hb d_Model_strict_52 (by decide) (fun hc8 => ?_) (fun hc8 => ?_)
        · have hf := hf_t hf hc8
          refine lv_iload_n hx hb d_Model_strict_58 rfl (lv_at hl 1 rfl) ?_
          refine lv_if_ne (tgt := 69) hx hb d_Model_strict_59 (by decide) (fun hc9 => ?_) (fun hc9 => ?_)
          · have hf := hf_f hf hc9
            refine lv_iinc (v := y2 + (-1 : Int32)) (lv' := [(2, .int (y2 + (-1 : Int32))), (0, .ref (ad_md 0)), (3, .int y3)]) hx hb d_Model_strict_69 hl (k := 1) rfl rfl (by decide) rfl (fun ls hl => ?_)
            refine lv_iinc (v := y3 + (1 : Int32)) (lv' := [(3, .int (y3 + (1 : Int32))), (2, .int (y2 + (-1 : Int32))), (0, .ref (ad_md 0))]) hx hb d_Model_strict_72 hl (k := 2) rfl rfl (by decide) rfl (fun ls hl => ?_)
            refine lv_goto (tgt := 24) hx hb d_Model_strict_75 (by decide) ?_
            exact ih md (y2 + (-1 : Int32)) (y3 + (1 : Int32)) H locs ls hf hP hD hS (lv_sub hl [2, 1, 0] rfl)
          · have hf := hf_t hf hc9
            refine lv_aload_n hx hb d_Model_strict_62 rfl (lv_at hl 0 rfl) ?_
            refine va_get (D := (dC, dI)) (ci := 6) (v := .ref (ad_md 4)) (C := "HazardTablesModel") (T := F_Model) (N := 30) hx hb hts hin_Model hown hK hP 0 rfl rfl 13 (by decide) fl_23 (fun _ h9 => h9) rfl d_Model_strict_63 ?_
            refine lv_iload_n hx hb d_Model_strict_66 rfl (lv_at hl 2 rfl) ?_
            obtain ⟨hi10, hf⟩ := hf_g hf
            refine va_iald hx hb hK hP 4 3 rfl rfl hi10 d_Model_strict_67 ?_
            exact ret (md.2.2.2.2.1.2.1 y3.toNatClampNeg) md H locs ls 68 d_Model_strict_68 (hf_e hf) hP hD hS
        · have hf := hf_f hf hc8
          refine lv_goto (tgt := 72) hx hb d_Model_strict_55 (by decide) ?_
          refine lv_iinc (v := y3 + (1 : Int32)) (lv' := [(3, .int (y3 + (1 : Int32))), (0, .ref (ad_md 0)), (2, .int y2)]) hx hb d_Model_strict_72 hl (k := 2) rfl rfl (by decide) rfl (fun ls hl => ?_)
          refine lv_goto (tgt := 24) hx hb d_Model_strict_75 (by decide) ?_
          exact ih md y2 (y3 + (1 : Int32)) H locs ls hf hP hD hS (lv_sub hl [1, 2, 0] rfl)
  have w_10 : ∀ (md : SModel) (y1 : Int32) (z1 : Bool) (H : Heap) (locs : List Loc) (ls : Array Slot), f_Model_strict_10 md y1 z1 = some res → va_P (dC, dI) vwCl (uw_Model ad_md cA_md md) H → va_D A (uw_Model ad_md cA_md md) → va_S A s.heap H locs → lv_has ls 4 [(0, .ref (ad_md 0)), (1, .int y1)] → W p l e (headSpec w_Model_strict ({ frames := 1, cells := 0, slots := 0, locals := 23 })).room s m ([.ref (ad_md 0), .int x1] : List Value).toArray below meth c H locs 0 0 Q (F0 m 10 ls [.int (bI z1), .ref (ad_md 0)]) := by
    intro md y1 z1 H locs ls hf hP hD hS hl
    rw [f_Model_strict_10] at hf
    refine lv_iconst (v := (1 : Int32)) hx hb d_Model_strict_10 (by decide) ?_
    refine lv_iconst (v := (1 : Int32)) hx hb d_Model_strict_11 (by decide) ?_
    obtain ⟨u2, hu2, hf⟩ := Option.bind_eq_some_iff.mp hf
    refine cl_i (wc := (uw_Model ad_md cA_md md)) (wr := []) (tysC := [(cA_md 1, .int), (cA_md 2, .int), (cA_md 3, .int), (cA_md 4, .int), (cA_md 5, .int), (cA_md 6, .int), (cA_md 7, .int), (cA_md 8, .int), (cA_md 9, .boolean), (cA_md 10, .int), (cA_md 11, .int), (cA_md 12, .int), (cA_md 13, .int)]) (wu := fun (u : SModel) => (uw_Model ad_md cA_md u)) (wn := fun (u : SModel) => (uw_Model ad_md cA_md u)) [0, 1, 2, 3, 4, 5, 6, 7, 8, 9, 10, 11, 12, 13] [] [0, 1, 2, 3, 4, 5, 6, 7, 8, 9, 10, 11, 12, 13] [0, 1, 2, 3, 4, 5, 6, 7, 8, 9, 10, 11, 12] hP hD hS hA hK rfl rfl (by decide +kernel) (by decide +kernel) (by decide +kernel) rfl (fun _ => rfl) (by decide +kernel) (fun hPc hKc hDc => (va_runV (As := [.int (bI z1), .int (1 : Int32), .int (1 : Int32)]) (rest := []) ⟨hx, hb, hml, hown, hts⟩ (k_Model_goes l dC dI ad_md cA_md H.size md z1 true true u2 hu2) (cwV 3 hts (gV wd_850 wd_852 wd_22 wd_49 wd_853) rfl rfl rfl (by decide +kernel) ⟨Nat.le_of_ble_eq_true rfl, Nat.le_of_ble_eq_true rfl⟩) (cl_preV hPc hKc hDc hN (ci := 6) 0 rfl rfl) rfl rfl hl.1 rfl (lv_room (Nat.le_of_ble_eq_true rfl)) d_Model_strict_12 ⟨Nat.le_of_ble_eq_true rfl, Nat.le_of_ble_eq_true rfl⟩)) (fun r u H locs hw hP hD hS => ?_)
    obtain ⟨hw1, hw2⟩ := hw
    have hw1 := hw1.symm
    have hw2 := hw2.symm
    subst hw1
    subst hw2
    have hP : va_P (dC, dI) vwCl (uw_Model ad_md cA_md u2.2) H := hP
    have hD : va_D A (uw_Model ad_md cA_md u2.2) := hD
    refine lv_if_ne (tgt := 20) hx hb d_Model_strict_15 (by decide) (fun hc3 => ?_) (fun hc3 => ?_)
    · have hf := hf_f hf hc3
      refine lv_iload_n hx hb d_Model_strict_20 rfl (lv_at hl 1 rfl) ?_
      refine lv_istore_n (lv' := [(2, .int y1), (0, .ref (ad_md 0)), (1, .int y1)]) hx hb d_Model_strict_21 rfl hl (by decide) rfl (fun ls hl => ?_)
      refine lv_iconst (v := (0 : Int32)) hx hb d_Model_strict_22 (by decide) ?_
      refine lv_istore_n (lv' := [(3, .int (0 : Int32)), (2, .int y1), (0, .ref (ad_md 0)), (1, .int y1)]) hx hb d_Model_strict_23 rfl hl (by decide) rfl (fun ls hl => ?_)
      exact w_24 4096 u2.2 y1 (0 : Int32) H locs ls hf hP hD hS (lv_sub hl [2, 1, 0] rfl)
    · have hf := hf_t hf hc3
      refine lv_iconst (v := (0 : Int32)) hx hb d_Model_strict_18 (by decide) ?_
      exact ret (0 : Int32) u2.2 H locs ls 19 d_Model_strict_19 (hf_e hf) hP hD hS
  have hl := lv_entry ([.ref (ad_md 0), .int x1]) (n := 4) (Nat.le_of_ble_eq_true rfl)
  rw [lg_entry_eq]
  generalize (lg_sl ([.ref (ad_md 0), .int x1]) ++ List.replicate (4 - (lg_sl ([.ref (ad_md 0), .int x1])).length) Slot.unset).toArray = ls at hl ⊢
  have hl : lv_has ls 4 [(0, .ref (ad_md 0)), (1, .int x1)] := hl
  have hf := hf
  rw [f_Model_strict] at hf
  obtain ⟨H, hH⟩ : ∃ H : Heap, H = s.heap := ⟨_, rfl⟩
  obtain ⟨locs, hlocs⟩ : ∃ L : List Loc, L = [] := ⟨_, rfl⟩
  have hP : va_P (dC, dI) vwCl (uw_Model ad_md cA_md md) H := by rw [hH]; exact hP
  have hS : va_S A s.heap H locs := by rw [hH, hlocs]; exact hS
  show W p l e (headSpec w_Model_strict ({ frames := 1, cells := 0, slots := 0, locals := 23 })).room s m ([.ref (ad_md 0), .int x1] : List Value).toArray below meth c s.heap [] 0 0 Q (F0 m 0 ls [])
  suffices hgo : W p l e (headSpec w_Model_strict ({ frames := 1, cells := 0, slots := 0, locals := 23 })).room s m ([.ref (ad_md 0), .int x1] : List Value).toArray below meth c H locs 0 0 Q (F0 m 0 ls []) by rw [hH, hlocs] at hgo; exact hgo
  clear hH hlocs
  refine lv_aload_n hx hb d_Model_strict_0 rfl (lv_at hl 0 rfl) ?_
  refine lv_iload_n hx hb d_Model_strict_1 rfl (lv_at hl 1 rfl) ?_
  refine lv_if_lt (tgt := 9) hx hb d_Model_strict_2 (by decide) (fun hc1 => ?_) (fun hc1 => ?_)
  · have hf := hf_t hf hc1
    refine lv_iconst (v := (0 : Int32)) hx hb d_Model_strict_9 (by decide) ?_
    exact w_10 md x1 false H locs ls hf hP hD hS (lv_sub hl [0, 1] rfl)
  · have hf := hf_f hf hc1
    refine lv_iconst (v := (1 : Int32)) hx hb d_Model_strict_5 (by decide) ?_
    refine lv_goto (tgt := 10) hx hb d_Model_strict_6 (by decide) ?_
    exact w_10 md x1 true H locs ls hf hP hD hS (lv_sub hl [0, 1] rfl)
