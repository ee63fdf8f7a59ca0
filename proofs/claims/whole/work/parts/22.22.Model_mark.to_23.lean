noncomputable def f_Model_mark (md : SModel) (x1 : Int32) (x2 : Int32) : Option (SModel) :=
  (Option.bind (f_Model_within x1 (0 : Int32) (4 : Int32)) fun u1 =>
    (if x2 < 0 then
      (Option.bind (f_Model_goes md u1 false true) fun u3 =>
        (if (bI u3.1) = 0 then
          (some u3.2)
         else
          (if inb x1 5 then
            (some (u3.2.1, u3.2.2.1, u3.2.2.2.1, u3.2.2.2.2.1, u3.2.2.2.2.2.1, u3.2.2.2.2.2.2.1, u3.2.2.2.2.2.2.2.1, upd u3.2.2.2.2.2.2.2.2.1 x1.toNatClampNeg x2, u3.2.2.2.2.2.2.2.2.2))
           else none)
         )
       )
     else
      (Option.bind (f_Model_goes md u1 true true) fun u6 =>
        (if (bI u6.1) = 0 then
          (some u6.2)
         else
          (if inb x1 5 then
            (some (u6.2.1, u6.2.2.1, u6.2.2.2.1, u6.2.2.2.2.1, u6.2.2.2.2.2.1, u6.2.2.2.2.2.2.1, u6.2.2.2.2.2.2.2.1, upd u6.2.2.2.2.2.2.2.2.1 x1.toNatClampNeg x2, u6.2.2.2.2.2.2.2.2.2))
           else none)
         )
       )
     )
   )
set_option maxHeartbeats 4000000 in
set_option maxRecDepth 100000 in
theorem k_Model_mark (l : Launch) (dC : Nat → ClassId) (dI : Nat → Nat → Nat) (ad_md : Nat → Nat) (cA_md : Nat → ClassId) (sz : Nat) (md : SModel) (x1 : Int32) (x2 : Int32) (res : SModel) (hf : f_Model_mark md x1 x2 = some res) : Met l y_Model_mark w_Model_mark ({ frames := 1, cells := 0, slots := 0, locals := 23 }) (cPc (dC, dI) (uw_Model ad_md cA_md md) [(cA_md 1, .int), (cA_md 2, .int), (cA_md 3, .int), (cA_md 4, .int), (cA_md 5, .int), (cA_md 6, .int), (cA_md 7, .int), (cA_md 8, .int), (cA_md 9, .boolean), (cA_md 10, .int), (cA_md 11, .int), (cA_md 12, .int), (cA_md 13, .int)] sz [.ref (ad_md 0), .int x1, .int x2]) (va_Qv (fun (u : SModel) => u = res) (fun (u : SModel) (t : State) => va_P (dC, dI) vwCl (uw_Model ad_md cA_md u) t.heap ∧ va_K (dC, dI) vwCl [(cA_md 1, .int), (cA_md 2, .int), (cA_md 3, .int), (cA_md 4, .int), (cA_md 5, .int), (cA_md 6, .int), (cA_md 7, .int), (cA_md 8, .int), (cA_md 9, .boolean), (cA_md 10, .int), (cA_md 11, .int), (cA_md 12, .int), (cA_md 13, .int)] t ∧ va_D (va_A (uw_Model ad_md cA_md md) sz) (uw_Model ad_md cA_md u)) (va_A (uw_Model ad_md cA_md md) sz)) 0 0 (va_A (uw_Model ad_md cA_md md) sz) := by
  refine Met.ofW (cc := b_Model_mark) (maxL := 3) (ret := none) (by decide) rfl ?_
  intro p e s m args below meth c s₁ B hml hv
  obtain ⟨rfl, hsz, hP, hK, hD0, hN⟩ := hv
  have hx := B.exec
  have hb := B.bytes
  have hr := B.returns
  have hts := atoms_spec (ws := w_Model_mark) B.pre
  have hown : s.vm.findClass "HazardTablesModel" = some m.cls := findClass_of_methodNamed B.named
  have hlocks := B.notSynchronized
  subst hsz
  have hD := hD0.self (sz := s.heap.size)
  generalize hAe : va_A (uw_Model ad_md cA_md md) s.heap.size = A at hD ⊢
  have hA : ∀ q : Nat, s.heap.size ≤ q → A q := fun q h => by rw [← hAe]; exact Or.inr h
  have hS : va_S A s.heap s.heap [] := va_S.rf
  have hP : va_P (dC, dI) vwCl (uw_Model ad_md cA_md md) s.heap := hP
  have fl_55 := (hts _ (List.mem_cons_of_mem _ wd_774))
  have hin_Model : ∀ w ∈ u_ws "HazardTablesModel" F_Model 30, w ∈ w_Model_mark := fun w h => List.mem_cons_of_mem _ (hinA_Model w h)
  have ret : ∀ (u : SModel) (H : Heap) (locs : List Loc) (ls : Array Slot) (pc : Nat), decode b_Model_mark pc = .ok (.return_, 1) → u = res → va_P (dC, dI) vwCl (uw_Model ad_md cA_md u) H → va_D A (uw_Model ad_md cA_md u) → va_S A s.heap H locs → W p l e (headSpec w_Model_mark ({ frames := 1, cells := 0, slots := 0, locals := 23 })).room s m ([.ref (ad_md 0), .int x1, .int x2] : List Value).toArray below meth c H locs 0 0 (MQ below (va_Qv (fun (u : SModel) => u = res) (fun (u : SModel) (t : State) => va_P (dC, dI) vwCl (uw_Model ad_md cA_md u) t.heap ∧ va_K (dC, dI) vwCl [(cA_md 1, .int), (cA_md 2, .int), (cA_md 3, .int), (cA_md 4, .int), (cA_md 5, .int), (cA_md 6, .int), (cA_md 7, .int), (cA_md 8, .int), (cA_md 9, .boolean), (cA_md 10, .int), (cA_md 11, .int), (cA_md 12, .int), (cA_md 13, .int)] t ∧ va_D A (uw_Model ad_md cA_md u)) A) ([.ref (ad_md 0), .int x1, .int x2] : List Value).toArray s 0 0 A) (F0 m pc ls []) := fun u H locs ls pc hd hp hP hD hS => W.vret hx hb hr (fun t ht hW => ⟨⟨u, rfl, hp, by rw [ht]; exact hP, va_K.moved hW.alike hK, hD⟩, hS.F ht⟩) hS.2.2 hd
  generalize (MQ below (va_Qv (fun (u : SModel) => u = res) (fun (u : SModel) (t : State) => va_P (dC, dI) vwCl (uw_Model ad_md cA_md u) t.heap ∧ va_K (dC, dI) vwCl [(cA_md 1, .int), (cA_md 2, .int), (cA_md 3, .int), (cA_md 4, .int), (cA_md 5, .int), (cA_md 6, .int), (cA_md 7, .int), (cA_md 8, .int), (cA_md 9, .boolean), (cA_md 10, .int), (cA_md 11, .int), (cA_md 12, .int), (cA_md 13, .int)] t ∧ va_D A (uw_Model ad_md cA_md u)) A) ([.ref (ad_md 0), .int x1, .int x2] : List Value).toArray s 0 0 A) = Q at ret ⊢
  have hl := lv_entry ([.ref (ad_md 0), .int x1, .int x2]) (n := 3) (Nat.le_of_ble_eq_true rfl)
  rw [lg_entry_eq]
  generalize (lg_sl ([.ref (ad_md 0), .int x1, .int x2]) ++ List.replicate (3 - (lg_sl ([.ref (ad_md 0), .int x1, .int x2])).length) Slot.unset).toArray = ls at hl ⊢
  have hl : lv_has ls 3 [(0, .ref (ad_md 0)), (1, .int x1), (2, .int x2)] := hl
  have hf := hf
  rw [f_Model_mark] at hf
  obtain ⟨H, hH⟩ : ∃ H : Heap, H = s.heap := ⟨_, rfl⟩
  obtain ⟨locs, hlocs⟩ : ∃ L : List Loc, L = [] := ⟨_, rfl⟩
  have hP : va_P (dC, dI) vwCl (uw_Model ad_md cA_md md) H := by rw [hH]; exact hP
  have hS : va_S A s.heap H locs := by rw [hH, hlocs]; exact hS
  show W p l e (headSpec w_Model_mark ({ frames := 1, cells := 0, slots := 0, locals := 23 })).room s m ([.ref (ad_md 0), .int x1, .int x2] : List Value).toArray below meth c s.heap [] 0 0 Q (F0 m 0 ls [])
  suffices hgo : W p l e (headSpec w_Model_mark ({ frames := 1, cells := 0, slots := 0, locals := 23 })).room s m ([.ref (ad_md 0), .int x1, .int x2] : List Value).toArray below meth c H locs 0 0 Q (F0 m 0 ls []) by rw [hH, hlocs] at hgo; exact hgo
  clear hH hlocs
  refine lv_aload_n hx hb d_Model_mark_0 rfl (lv_at hl 0 rfl) ?_
  refine lv_iload_n hx hb d_Model_mark_1 rfl (lv_at hl 1 rfl) ?_
  refine lv_iconst (v := (0 : Int32)) hx hb d_Model_mark_2 (by decide) ?_
  refine lv_iconst (v := (4 : Int32)) hx hb d_Model_mark_3 (by decide) ?_
  obtain ⟨u1, hu1, hf⟩ := Option.bind_eq_some_iff.mp hf
  refine cl_i (wc := []) (wr := (uw_Model ad_md cA_md md)) (tysC := []) (wu := fun (u : Unit) => []) (wn := fun (u : Unit) => (uw_Model ad_md cA_md md)) [] [0, 1, 2, 3, 4, 5, 6, 7, 8, 9, 10, 11, 12, 13] [0, 1, 2, 3, 4, 5, 6, 7, 8, 9, 10, 11, 12, 13] [] hP hD hS hA hK rfl rfl (by decide +kernel) (by decide +kernel) (by decide +kernel) rfl (fun _ => rfl) (by decide +kernel) (fun hPc hKc hDc => (va_runS (As := [.int x1, .int (0 : Int32), .int (4 : Int32)]) (rest := [.ref (ad_md 0)]) ⟨hx, hb, hml, hown, hts⟩ (k_Model_within l dC dI  H.size x1 (0 : Int32) (4 : Int32) u1 hu1) (cwS 3 hts (gS wd_847 wd_848 wd_49 wd_849) rfl rfl rfl (by decide +kernel) ⟨Nat.le_of_ble_eq_true rfl, Nat.le_of_ble_eq_true rfl⟩) (cl_preS hPc hKc hDc hN) rfl rfl hl.1 rfl (lv_room (Nat.le_of_ble_eq_true rfl)) d_Model_mark_4 ⟨Nat.le_of_ble_eq_true rfl, Nat.le_of_ble_eq_true rfl⟩)) (fun r u H locs hw hP hD hS => ?_)
  have hw := hw.symm
  subst hw
  have hP : va_P (dC, dI) vwCl (uw_Model ad_md cA_md md) H := hP
  have hD : va_D A (uw_Model ad_md cA_md md) := hD
  refine lv_iload_n hx hb d_Model_mark_7 rfl (lv_at hl 2 rfl) ?_
  refine lv_if_lt (tgt := 15) hx hb d_Model_mark_8 (by decide) (fun hc2 => ?_) (fun hc2 => ?_)
  · have hf := hf_t hf hc2
    refine lv_iconst (v := (0 : Int32)) hx hb d_Model_mark_15 (by decide) ?_
    refine lv_iconst (v := (1 : Int32)) hx hb d_Model_mark_16 (by decide) ?_
    obtain ⟨u3, hu3, hf⟩ := Option.bind_eq_some_iff.mp hf
    refine cl_i (wc := (uw_Model ad_md cA_md md)) (wr := []) (tysC := [(cA_md 1, .int), (cA_md 2, .int), (cA_md 3, .int), (cA_md 4, .int), (cA_md 5, .int), (cA_md 6, .int), (cA_md 7, .int), (cA_md 8, .int), (cA_md 9, .boolean), (cA_md 10, .int), (cA_md 11, .int), (cA_md 12, .int), (cA_md 13, .int)]) (wu := fun (u : SModel) => (uw_Model ad_md cA_md u)) (wn := fun (u : SModel) => (uw_Model ad_md cA_md u)) [0, 1, 2, 3, 4, 5, 6, 7, 8, 9, 10, 11, 12, 13] [] [0, 1, 2, 3, 4, 5, 6, 7, 8, 9, 10, 11, 12, 13] [0, 1, 2, 3, 4, 5, 6, 7, 8, 9, 10, 11, 12] hP hD hS hA hK rfl rfl (by decide +kernel) (by decide +kernel) (by decide +kernel) rfl (fun _ => rfl) (by decide +kernel) (fun hPc hKc hDc => (va_runV (As := [.int (bI u1), .int (0 : Int32), .int (1 : Int32)]) (rest := []) ⟨hx, hb, hml, hown, hts⟩ (k_Model_goes l dC dI ad_md cA_md H.size md u1 false true u3 hu3) (cwV 3 hts (gV wd_850 wd_852 wd_22 wd_49 wd_853) rfl rfl rfl (by decide +kernel) ⟨Nat.le_of_ble_eq_true rfl, Nat.le_of_ble_eq_true rfl⟩) (cl_preV hPc hKc hDc hN (ci := 6) 0 rfl rfl) rfl rfl hl.1 rfl (lv_room (Nat.le_of_ble_eq_true rfl)) d_Model_mark_17 ⟨Nat.le_of_ble_eq_true rfl, Nat.le_of_ble_eq_true rfl⟩)) (fun r u H locs hw hP hD hS => ?_)
    obtain ⟨hw1, hw2⟩ := hw
    have hw1 := hw1.symm
    have hw2 := hw2.symm
    subst hw1
    subst hw2
    have hP : va_P (dC, dI) vwCl (uw_Model ad_md cA_md u3.2) H := hP
    have hD : va_D A (uw_Model ad_md cA_md u3.2) := hD
    refine lv_if_eq (tgt := 30) hx hb d_Model_mark_20 (by decide) (fun hc4 => ?_) (fun hc4 => ?_)
    · have hf := hf_t hf hc4
      exact ret  u3.2 H locs ls 30 d_Model_mark_30 (Option.some.inj hf) hP hD hS
    · have hf := hf_f hf hc4
      refine lv_aload_n hx hb d_Model_mark_23 rfl (lv_at hl 0 rfl) ?_
      refine va_get (D := (dC, dI)) (ci := 6) (v := .ref (ad_md 11)) (C := "HazardTablesModel") (T := F_Model) (N := 30) hx hb hts hin_Model hown hK hP 0 rfl rfl 26 (by decide) fl_55 (fun _ h9 => h9) rfl d_Model_mark_24 ?_
      refine lv_iload_n hx hb d_Model_mark_27 rfl (lv_at hl 1 rfl) ?_
      refine lv_iload_n hx hb d_Model_mark_28 rfl (lv_at hl 2 rfl) ?_
      obtain ⟨hi5, hf⟩ := hf_g hf
      refine va_iast hx hb hK hP hD hS 11 10 rfl rfl hi5 d_Model_mark_29 (fun H locs hP hD hS => ?_)
      have hP : va_P (dC, dI) vwCl (uw_Model ad_md cA_md (u3.2.1, u3.2.2.1, u3.2.2.2.1, u3.2.2.2.2.1, u3.2.2.2.2.2.1, u3.2.2.2.2.2.2.1, u3.2.2.2.2.2.2.2.1, upd u3.2.2.2.2.2.2.2.2.1 x1.toNatClampNeg x2, u3.2.2.2.2.2.2.2.2.2)) H := hP
      have hD : va_D A (uw_Model ad_md cA_md (u3.2.1, u3.2.2.1, u3.2.2.2.1, u3.2.2.2.2.1, u3.2.2.2.2.2.1, u3.2.2.2.2.2.2.1, u3.2.2.2.2.2.2.2.1, upd u3.2.2.2.2.2.2.2.2.1 x1.toNatClampNeg x2, u3.2.2.2.2.2.2.2.2.2)) := hD
      exact ret  (u3.2.1, u3.2.2.1, u3.2.2.2.1, u3.2.2.2.2.1, u3.2.2.2.2.2.1, u3.2.2.2.2.2.2.1, u3.2.2.2.2.2.2.2.1, upd u3.2.2.2.2.2.2.2.2.1 x1.toNatClampNeg x2, u3.2.2.2.2.2.2.2.2.2) H locs ls 30 d_Model_mark_30 (Option.some.inj hf) hP hD hS
  · have hf := hf_f hf hc2
    refine lv_iconst (v := (1 : Int32)) hx hb d_Model_mark_11 (by decide) ?_
    refine lv_goto (tgt := 16) hx hb d_Model_mark_12 (by decide) ?_
    refine lv_iconst (v := (1 : Int32)) hx hb d_Model_mark_16 (by decide) ?_
    obtain ⟨u6, hu6, hf⟩ := Option.bind_eq_some_iff.mp hf
    refine cl_i (wc := (uw_Model ad_md cA_md md)) (wr := []) (tysC := [(cA_md 1, .int), (cA_md 2, .int), (cA_md 3, .int), (cA_md 4, .int), (cA_md 5, .int), (cA_md 6, .int), (cA_md 7, .int), (cA_md 8, .int), (cA_md 9, .boolean), (cA_md 10, .int), (cA_md 11, .int), (cA_md 12, .int), (cA_md 13, .int)]) (wu := fun (u : SModel) => (uw_Model ad_md cA_md u)) (wn := fun (u : SModel) => (uw_Model ad_md cA_md u)) [0, 1, 2, 3, 4, 5, 6, 7, 8, 9, 10, 11, 12, 13] [] [0, 1, 2, 3, 4, 5, 6, 7, 8, 9, 10, 11, 12, 13] [0, 1, 2, 3, 4, 5, 6, 7, 8, 9, 10, 11, 12] hP hD hS hA hK rfl rfl (by decide +kernel) (by decide +kernel) (by decide +kernel) rfl (fun _ => rfl) (by decide +kernel) (fun hPc hKc hDc => (va_runV (As := [.int (bI u1), .int (1 : Int32), .int (1 : Int32)]) (rest := []) ⟨hx, hb, hml, hown, hts⟩ (k_Model_goes l dC dI ad_md cA_md H.size md u1 true true u6 hu6) (cwV 3 hts (gV wd_850 wd_852 wd_22 wd_49 wd_853) rfl rfl rfl (by decide +kernel) ⟨Nat.le_of_ble_eq_true rfl, Nat.le_of_ble_eq_true rfl⟩) (cl_preV hPc hKc hDc hN (ci := 6) 0 rfl rfl) rfl rfl hl.1 rfl (lv_room (Nat.le_of_ble_eq_true rfl)) d_Model_mark_17 ⟨Nat.le_of_ble_eq_true rfl, Nat.le_of_ble_eq_true rfl⟩)) (fun r u H locs hw hP hD hS => ?_)
    obtain ⟨hw1, hw2⟩ := hw
    have hw1 := hw1.symm
    have hw2 := hw2.symm
    subst hw1
    subst hw2
    have hP : va_P (dC, dI) vwCl (uw_Model ad_md cA_md u6.2) H := hP
    have hD : va_D A (uw_Model ad_md cA_md u6.2) := hD
    refine lv_if_eq (tgt := 30) hx hb d_Model_mark_20 (by decide) (fun hc7 => ?_) (fun hc7 => ?_)
    · have hf := hf_t hf hc7
      exact ret  u6.2 H locs ls 30 d_Model_mark_30 (Option.some.inj hf) hP hD hS
    · have hf := hf_f hf hc7
      refine lv_aload_n hx hb d_Model_mark_23 rfl (lv_at hl 0 rfl) ?_
      refine va_get (D := (dC, dI)) (ci := 6) (v := .ref (ad_md 11)) (C := "HazardTablesModel") (T := F_Model) (N := 30) hx hb hts hin_Model hown hK hP 0 rfl rfl 26 (by decide) fl_55 (fun _ h9 => h9) rfl d_Model_mark_24 ?_
      refine lv_iload_n hx hb d_Model_mark_27 rfl (lv_at hl 1 rfl) ?_
      refine lv_iload_n hx hb d_Model_mark_28 rfl (lv_at hl 2 rfl) ?_
      obtain ⟨hi8, hf⟩ := hf_g hf
      refine va_iast hx hb hK hP hD hS 11 10 rfl rfl hi8 d_Model_mark_29 (fun H locs hP hD hS => ?_)
      have hP : va_P (dC, dI) vwCl (uw_Model ad_md cA_md (u6.2.1, u6.2.2.1, u6.2.2.2.1, u6.2.2.2.2.1, u6.2.2.2.2.2.1, u6.2.2.2.2.2.2.1, u6.2.2.2.2.2.2.2.1, upd u6.2.2.2.2.2.2.2.2.1 x1.toNatClampNeg x2, u6.2.2.2.2.2.2.2.2.2)) H := hP
      have hD : va_D A (uw_Model ad_md cA_md (u6.2.1, u6.2.2.1, u6.2.2.2.1, u6.2.2.2.2.1, u6.2.2.2.2.2.1, u6.2.2.2.2.2.2.1, u6.2.2.2.2.2.2.2.1, upd u6.2.2.2.2.2.2.2.2.1 x1.toNatClampNeg x2, u6.2.2.2.2.2.2.2.2.2)) := hD
      exact ret  (u6.2.1, u6.2.2.1, u6.2.2.2.1, u6.2.2.2.2.1, u6.2.2.2.2.2.1, u6.2.2.2.2.2.2.1, u6.2.2.2.2.2.2.2.1, upd u6.2.2.2.2.2.2.2.2.1 x1.toNatClampNeg x2, u6.2.2.2.2.2.2.2.2.2) H locs ls 30 d_Model_mark_30 (Option.some.inj hf) hP hD hS
noncomputable def f_Model_over (md : SModel) (x1 : Int32) (x2 : Int32) : Option (Bool × SModel) :=
  (Option.bind (f_Model_within x1 (0 : Int32) (4 : Int32)) fun u1 =>
    (Option.bind (f_Model_goes md u1 true true) fun u2 =>
      (if (bI u2.1) = 0 then
        (some (false, u2.2))
       else
        (if inb x1 5 then
          (if x2 < (u2.2.2.2.2.2.2.2.2.1 x1.toNatClampNeg) then
            (some (false, u2.2))
           else
            (some (true, u2.2))
           )
         else none)
       )
     )
   )
set_option maxHeartbeats 4000000 in
set_option maxRecDepth 100000 in
theorem k_Model_over (l : Launch) (dC : Nat → ClassId) (dI : Nat → Nat → Nat) (ad_md : Nat → Nat) (cA_md : Nat → ClassId) (sz : Nat) (md : SModel) (x1 : Int32) (x2 : Int32) (res : Bool × SModel) (hf : f_Model_over md x1 x2 = some res) : Met l y_Model_over w_Model_over ({ frames := 1, cells := 0, slots := 0, locals := 23 }) (cPc (dC, dI) (uw_Model ad_md cA_md md) [(cA_md 1, .int), (cA_md 2, .int), (cA_md 3, .int), (cA_md 4, .int), (cA_md 5, .int), (cA_md 6, .int), (cA_md 7, .int), (cA_md 8, .int), (cA_md 9, .boolean), (cA_md 10, .int), (cA_md 11, .int), (cA_md 12, .int), (cA_md 13, .int)] sz [.ref (ad_md 0), .int x1, .int x2]) (va_Qi (fun (r : Int32) (u : SModel) => r = bI res.1 ∧ u = res.2) (fun (u : SModel) (t : State) => va_P (dC, dI) vwCl (uw_Model ad_md cA_md u) t.heap ∧ va_K (dC, dI) vwCl [(cA_md 1, .int), (cA_md 2, .int), (cA_md 3, .int), (cA_md 4, .int), (cA_md 5, .int), (cA_md 6, .int), (cA_md 7, .int), (cA_md 8, .int), (cA_md 9, .boolean), (cA_md 10, .int), (cA_md 11, .int), (cA_md 12, .int), (cA_md 13, .int)] t ∧ va_D (va_A (uw_Model ad_md cA_md md) sz) (uw_Model ad_md cA_md u)) (va_A (uw_Model ad_md cA_md md) sz)) 0 0 (va_A (uw_Model ad_md cA_md md) sz) := by
  refine Met.ofW (cc := b_Model_over) (maxL := 3) (ret := (some .boolean)) (by decide) rfl ?_
  intro p e s m args below meth c s₁ B hml hv
  obtain ⟨rfl, hsz, hP, hK, hD0, hN⟩ := hv
  have hx := B.exec
  have hb := B.bytes
  have hr := B.returns
  have hts := atoms_spec (ws := w_Model_over) B.pre
  have hown : s.vm.findClass "HazardTablesModel" = some m.cls := findClass_of_methodNamed B.named
  have hlocks := B.notSynchronized
  subst hsz
  have hD := hD0.self (sz := s.heap.size)
  generalize hAe : va_A (uw_Model ad_md cA_md md) s.heap.size = A at hD ⊢
  have hA : ∀ q : Nat, s.heap.size ≤ q → A q := fun q h => by rw [← hAe]; exact Or.inr h
  have hS : va_S A s.heap s.heap [] := va_S.rf
  have hP : va_P (dC, dI) vwCl (uw_Model ad_md cA_md md) s.heap := hP
  have fl_55 := (hts _ (List.mem_cons_of_mem _ wd_774))
  have hin_Model : ∀ w ∈ u_ws "HazardTablesModel" F_Model 30, w ∈ w_Model_over := fun w h => List.mem_cons_of_mem _ (hinA_Model w h)
  have ret : ∀ (v : Bool) (u : SModel) (H : Heap) (locs : List Loc) (ls : Array Slot) (pc : Nat), decode b_Model_over pc = .ok (.ireturn, 1) → (v = res.1 ∧ u = res.2) → va_P (dC, dI) vwCl (uw_Model ad_md cA_md u) H → va_D A (uw_Model ad_md cA_md u) → va_S A s.heap H locs → W p l e (headSpec w_Model_over ({ frames := 1, cells := 0, slots := 0, locals := 23 })).room s m ([.ref (ad_md 0), .int x1, .int x2] : List Value).toArray below meth c H locs 0 0 (MQ below (va_Qi (fun (r : Int32) (u : SModel) => r = bI res.1 ∧ u = res.2) (fun (u : SModel) (t : State) => va_P (dC, dI) vwCl (uw_Model ad_md cA_md u) t.heap ∧ va_K (dC, dI) vwCl [(cA_md 1, .int), (cA_md 2, .int), (cA_md 3, .int), (cA_md 4, .int), (cA_md 5, .int), (cA_md 6, .int), (cA_md 7, .int), (cA_md 8, .int), (cA_md 9, .boolean), (cA_md 10, .int), (cA_md 11, .int), (cA_md 12, .int), (cA_md 13, .int)] t ∧ va_D A (uw_Model ad_md cA_md u)) A) ([.ref (ad_md 0), .int x1, .int x2] : List Value).toArray s 0 0 A) (F0 m pc ls [.int (bI v)]) := fun v u H locs ls pc hd hp hP hD hS => W.zret (v := bI v) (ty := .boolean) hx hb hr (nar_bI v) (fun t ht hW => ⟨⟨bI v, u, rfl, ⟨by rw [hp.1], hp.2⟩, by rw [ht]; exact hP, va_K.moved hW.alike hK, hD⟩, hS.F ht⟩) hS.2.2 hd
  generalize (MQ below (va_Qi (fun (r : Int32) (u : SModel) => r = bI res.1 ∧ u = res.2) (fun (u : SModel) (t : State) => va_P (dC, dI) vwCl (uw_Model ad_md cA_md u) t.heap ∧ va_K (dC, dI) vwCl [(cA_md 1, .int), (cA_md 2, .int), (cA_md 3, .int), (cA_md 4, .int), (cA_md 5, .int), (cA_md 6, .int), (cA_md 7, .int), (cA_md 8, .int), (cA_md 9, .boolean), (cA_md 10, .int), (cA_md 11, .int), (cA_md 12, .int), (cA_md 13, .int)] t ∧ va_D A (uw_Model ad_md cA_md u)) A) ([.ref (ad_md 0), .int x1, .int x2] : List Value).toArray s 0 0 A) = Q at ret ⊢
  have hl := lv_entry ([.ref (ad_md 0), .int x1, .int x2]) (n := 3) (Nat.le_of_ble_eq_true rfl)
  rw [lg_entry_eq]
  generalize (lg_sl ([.ref (ad_md 0), .int x1, .int x2]) ++ List.replicate (3 - (lg_sl ([.ref (ad_md 0), .int x1, .int x2])).length) Slot.unset).toArray = ls at hl ⊢
  have hl : lv_has ls 3 [(0, .ref (ad_md 0)), (1, .int x1), (2, .int x2)] := hl
  have hf := hf
  rw [f_Model_over] at hf
  obtain ⟨H, hH⟩ : ∃ H : Heap, H = s.heap := ⟨_, rfl⟩
  obtain ⟨locs, hlocs⟩ : ∃ L : List Loc, L = [] := ⟨_, rfl⟩
  have hP : va_P (dC, dI) vwCl (uw_Model ad_md cA_md md) H := by rw [hH]; exact hP
  have hS : va_S A s.heap H locs := by rw [hH, hlocs]; exact hS
  show W p l e (headSpec w_Model_over ({ frames := 1, cells := 0, slots := 0, locals := 23 })).room s m ([.ref (ad_md 0), .int x1, .int x2] : List Value).toArray below meth c s.heap [] 0 0 Q (F0 m 0 ls [])
  suffices hgo : W p l e (headSpec w_Model_over ({ frames := 1, cells := 0, slots := 0, locals := 23 })).room s m ([.ref (ad_md 0), .int x1, .int x2] : List Value).toArray below meth c H locs 0 0 Q (F0 m 0 ls []) by rw [hH, hlocs] at hgo; exact hgo
  clear hH hlocs
  refine lv_aload_n hx hb d_Model_over_0 rfl (lv_at hl 0 rfl) ?_
  refine lv_iload_n hx hb d_Model_over_1 rfl (lv_at hl 1 rfl) ?_
  refine lv_iconst (v := (0 : Int32)) hx hb d_Model_over_2 (by decide) ?_
  refine lv_iconst (v := (4 : Int32)) hx hb d_Model_over_3 (by decide) ?_
  obtain ⟨u1, hu1, hf⟩ := Option.bind_eq_some_iff.mp hf
  refine cl_i (wc := []) (wr := (uw_Model ad_md cA_md md)) (tysC := []) (wu := fun (u : Unit) => []) (wn := fun (u : Unit) => (uw_Model ad_md cA_md md)) [] [0, 1, 2, 3, 4, 5, 6, 7, 8, 9, 10, 11, 12, 13] [0, 1, 2, 3, 4, 5, 6, 7, 8, 9, 10, 11, 12, 13] [] hP hD hS hA hK rfl rfl (by decide +kernel) (by decide +kernel) (by decide +kernel) rfl (fun _ => rfl) (by decide +kernel) (fun hPc hKc hDc => (va_runS (As := [.int x1, .int (0 : Int32), .int (4 : Int32)]) (rest := [.ref (ad_md 0)]) ⟨hx, hb, hml, hown, hts⟩ (k_Model_within l dC dI  H.size x1 (0 : Int32) (4 : Int32) u1 hu1) (cwS 3 hts (gS wd_847 wd_848 wd_49 wd_849) rfl rfl rfl (by decide +kernel) ⟨Nat.le_of_ble_eq_true rfl, Nat.le_of_ble_eq_true rfl⟩) (cl_preS hPc hKc hDc hN) rfl rfl hl.1 rfl (lv_room (Nat.le_of_ble_eq_true rfl)) d_Model_over_4 ⟨Nat.le_of_ble_eq_true rfl, Nat.le_of_ble_eq_true rfl⟩)) (fun r u H locs hw hP hD hS => ?_)
  have hw := hw.symm
  subst hw
  have hP : va_P (dC, dI) vwCl (uw_Model ad_md cA_md md) H := hP
  have hD : va_D A (uw_Model ad_md cA_md md) := hD
  refine lv_iconst (v := (1 : Int32)) hx hb d_Model_over_7 (by decide) ?_
  refine lv_iconst (v := (1 : Int32)) hx hb d_Model_over_8 (by decide) ?_
  obtain ⟨u2, hu2, hf⟩ := Option.bind_eq_some_iff.mp hf
  refine cl_i (wc := (uw_Model ad_md cA_md md)) (wr := []) (tysC := [(cA_md 1, .int), (cA_md 2, .int), (cA_md 3, .int), (cA_md 4, .int), (cA_md 5, .int), (cA_md 6, .int), (cA_md 7, .int), (cA_md 8, .int), (cA_md 9, .boolean), (cA_md 10, .int), (cA_md 11, .int), (cA_md 12, .int), (cA_md 13, .int)]) (wu := fun (u : SModel) => (uw_Model ad_md cA_md u)) (wn := fun (u : SModel) => (uw_Model ad_md cA_md u)) [0, 1, 2, 3, 4, 5, 6, 7, 8, 9, 10, 11, 12, 13] [] [0, 1, 2, 3, 4, 5, 6, 7, 8, 9, 10, 11, 12, 13] [0, 1, 2, 3, 4, 5, 6, 7, 8, 9, 10, 11, 12] hP hD hS hA hK rfl rfl (by decide +kernel) (by decide +kernel) (by decide +kernel) rfl (fun _ => rfl) (by decide +kernel) (fun hPc hKc hDc => (va_runV (As := [.int (bI u1), .int (1 : Int32), .int (1 : Int32)]) (rest := []) ⟨hx, hb, hml, hown, hts⟩ (k_Model_goes l dC dI ad_md cA_md H.size md u1 true true u2 hu2) (cwV 3 hts (gV wd_850 wd_852 wd_22 wd_49 wd_853) rfl rfl rfl (by decide +kernel) ⟨Nat.le_of_ble_eq_true rfl, Nat.le_of_ble_eq_true rfl⟩) (cl_preV hPc hKc hDc hN (ci := 6) 0 rfl rfl) rfl rfl hl.1 rfl (lv_room (Nat.le_of_ble_eq_true rfl)) d_Model_over_9 ⟨Nat.le_of_ble_eq_true rfl, Nat.le_of_ble_eq_true rfl⟩)) (fun r u H locs hw hP hD hS => ?_)
  obtain ⟨hw1, hw2⟩ := hw
  have hw1 := hw1.symm
  have hw2 := hw2.symm
  subst hw1
  subst hw2
  have hP : va_P (dC, dI) vwCl (uw_Model ad_md cA_md u2.2) H := hP
  have hD : va_D A (uw_Model ad_md cA_md u2.2) := hD
  refine lv_if_eq (tgt := 29) hx hb d_Model_over_12 (by decide) (fun hc3 => ?_) (fun hc3 => ?_)
  · have hf := hf_t hf hc3
    refine lv_iconst (v := (0 : Int32)) hx hb d_Model_over_29 (by decide) ?_
    exact ret false u2.2 H locs ls 30 d_Model_over_30 (hf_e hf) hP hD hS
  · have hf := hf_f hf hc3
    refine lv_iload_n hx hb d_Model_over_15 rfl (lv_at hl 2 rfl) ?_
    refine lv_aload_n hx hb d_Model_over_16 rfl (lv_at hl 0 rfl) ?_
    refine va_get (D := (dC, dI)) (ci := 6) (v := .ref (ad_md 11)) (C := "HazardTablesModel") (T := F_Model) (N := 30) hx hb hts hin_Model hown hK hP 0 rfl rfl 26 (by decide) fl_55 (fun _ h9 => h9) rfl d_Model_over_17 ?_
    refine lv_iload_n hx hb d_Model_over_20 rfl (lv_at hl 1 rfl) ?_
    obtain ⟨hi4, hf⟩ := hf_g hf
    refine va_iald hx hb hK hP 11 10 rfl rfl hi4 d_Model_over_21 ?_
    refine lv_icmp_lt (tgt := 29) hx hb d_Model_over_22 (by decide) (fun hc5 => ?_) (fun hc5 => ?_)
    · have hf := hf_t hf hc5
      refine lv_iconst (v := (0 : Int32)) hx hb d_Model_over_29 (by decide) ?_
      exact ret false u2.2 H locs ls 30 d_Model_over_30 (hf_e hf) hP hD hS
    · have hf := hf_f hf hc5
      refine lv_iconst (v := (1 : Int32)) hx hb d_Model_over_25 (by decide) ?_
      refine lv_goto (tgt := 30) hx hb d_Model_over_26 (by decide) ?_
      exact ret true u2.2 H locs ls 30 d_Model_over_30 (hf_e hf) hP hD hS
