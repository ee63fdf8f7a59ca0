noncomputable def f_Model_fresh_10  (md : SModel) (y1 : Int32) (z1 : Bool) : Option (Int32 × SModel) :=
  (Option.bind (f_Model_goes md z1 true true) fun u2 =>
    (if (bI u2.1) = 0 then
      (some ((0 : Int32), u2.2))
     else
      (if u2.2.2.2.2.2.2.2.1.2.2.2.2.1 ≤ y1 then
        (some ((-1 : Int32), u2.2))
       else
        (if inb y1 40 then
          (some (u2.2.2.2.2.2.2.2.1.2.2.2.2.2 y1.toNatClampNeg, u2.2))
         else none)
       )
     )
   )
noncomputable def f_Model_fresh (md : SModel) (x1 : Int32) : Option (Int32 × SModel) :=
  (if x1 < 0 then
    (f_Model_fresh_10 md x1 false)
   else
    (f_Model_fresh_10 md x1 true)
   )
set_option maxHeartbeats 4000000 in
set_option maxRecDepth 100000 in
theorem k_Model_fresh (l : Launch) (dC : Nat → ClassId) (dI : Nat → Nat → Nat) (ad_md : Nat → Nat) (cA_md : Nat → ClassId) (sz : Nat) (md : SModel) (x1 : Int32) (res : Int32 × SModel) (hf : f_Model_fresh md x1 = some res) : Met l y_Model_fresh w_Model_fresh ({ frames := 1, cells := 0, slots := 0, locals := 23 }) (cPc (dC, dI) (uw_Model ad_md cA_md md) [(cA_md 1, .int), (cA_md 2, .int), (cA_md 3, .int), (cA_md 4, .int), (cA_md 5, .int), (cA_md 6, .int), (cA_md 7, .int), (cA_md 8, .int), (cA_md 9, .boolean), (cA_md 10, .int), (cA_md 11, .int), (cA_md 12, .int), (cA_md 13, .int)] sz [.ref (ad_md 0), .int x1]) (va_Qi (fun (r : Int32) (u : SModel) => r = res.1 ∧ u = res.2) (fun (u : SModel) (t : State) => va_P (dC, dI) vwCl (uw_Model ad_md cA_md u) t.heap ∧ va_K (dC, dI) vwCl [(cA_md 1, .int), (cA_md 2, .int), (cA_md 3, .int), (cA_md 4, .int), (cA_md 5, .int), (cA_md 6, .int), (cA_md 7, .int), (cA_md 8, .int), (cA_md 9, .boolean), (cA_md 10, .int), (cA_md 11, .int), (cA_md 12, .int), (cA_md 13, .int)] t ∧ va_D (va_A (uw_Model ad_md cA_md md) sz) (uw_Model ad_md cA_md u)) (va_A (uw_Model ad_md cA_md md) sz)) 0 0 (va_A (uw_Model ad_md cA_md md) sz) := by
  refine Met.ofW (cc := b_Model_fresh) (maxL := 2) (ret := (some .int)) (by decide) rfl ?_
  intro p e s m args below meth c s₁ B hml hv
  obtain ⟨rfl, hsz, hP, hK, hD0, hN⟩ := hv
  have hx := B.exec
  have hb := B.bytes
  have hr := B.returns
  have hts := atoms_spec (ws := w_Model_fresh) B.pre
  have hown : s.vm.findClass "HazardTablesModel" = some m.cls := findClass_of_methodNamed B.named
  have hlocks := B.notSynchronized
  subst hsz
  have hD := hD0.self (sz := s.heap.size)
  generalize hAe : va_A (uw_Model ad_md cA_md md) s.heap.size = A at hD ⊢
  have hA : ∀ q : Nat, s.heap.size ≤ q → A q := fun q h => by rw [← hAe]; exact Or.inr h
  have hS : va_S A s.heap s.heap [] := va_S.rf
  have hP : va_P (dC, dI) vwCl (uw_Model ad_md cA_md md) s.heap := hP
  have fl_185 := (hts _ (List.mem_cons_of_mem _ wd_771))
  have fl_49 := (hts _ (List.mem_cons_of_mem _ wd_772))
  have hin_Model : ∀ w ∈ u_ws "HazardTablesModel" F_Model 30, w ∈ w_Model_fresh := fun w h => List.mem_cons_of_mem _ (hinA_Model w h)
  have ret : ∀ (v : Int32) (u : SModel) (H : Heap) (locs : List Loc) (ls : Array Slot) (pc : Nat), decode b_Model_fresh pc = .ok (.ireturn, 1) → (v = res.1 ∧ u = res.2) → va_P (dC, dI) vwCl (uw_Model ad_md cA_md u) H → va_D A (uw_Model ad_md cA_md u) → va_S A s.heap H locs → W p l e (headSpec w_Model_fresh ({ frames := 1, cells := 0, slots := 0, locals := 23 })).room s m ([.ref (ad_md 0), .int x1] : List Value).toArray below meth c H locs 0 0 (MQ below (va_Qi (fun (r : Int32) (u : SModel) => r = res.1 ∧ u = res.2) (fun (u : SModel) (t : State) => va_P (dC, dI) vwCl (uw_Model ad_md cA_md u) t.heap ∧ va_K (dC, dI) vwCl [(cA_md 1, .int), (cA_md 2, .int), (cA_md 3, .int), (cA_md 4, .int), (cA_md 5, .int), (cA_md 6, .int), (cA_md 7, .int), (cA_md 8, .int), (cA_md 9, .boolean), (cA_md 10, .int), (cA_md 11, .int), (cA_md 12, .int), (cA_md 13, .int)] t ∧ va_D A (uw_Model ad_md cA_md u)) A) ([.ref (ad_md 0), .int x1] : List Value).toArray s 0 0 A) (F0 m pc ls [.int v]) := fun v u H locs ls pc hd hp hP hD hS => W.iret (v := v) hx hb hr (fun t ht hW => ⟨⟨v, u, rfl, hp, by rw [ht]; exact hP, va_K.moved hW.alike hK, hD⟩, hS.F ht⟩) hS.2.2 hd
  generalize (MQ below (va_Qi (fun (r : Int32) (u : SModel) => r = res.1 ∧ u = res.2) (fun (u : SModel) (t : State) => va_P (dC, dI) vwCl (uw_Model ad_md cA_md u) t.heap ∧ va_K (dC, dI) vwCl [(cA_md 1, .int), (cA_md 2, .int), (cA_md 3, .int), (cA_md 4, .int), (cA_md 5, .int), (cA_md 6, .int), (cA_md 7, .int), (cA_md 8, .int), (cA_md 9, .boolean), (cA_md 10, .int), (cA_md 11, .int), (cA_md 12, .int), (cA_md 13, .int)] t ∧ va_D A (uw_Model ad_md cA_md u)) A) ([.ref (ad_md 0), .int x1] : List Value).toArray s 0 0 A) = Q at ret ⊢
  have w_10 : ∀ (md : SModel) (y1 : Int32) (z1 : Bool) (H : Heap) (locs : List Loc) (ls : Array Slot), f_Model_fresh_10 md y1 z1 = some res → va_P (dC, dI) vwCl (uw_Model ad_md cA_md md) H → va_D A (uw_Model ad_md cA_md md) → va_S A s.heap H locs → lv_has ls 2 [(0, .ref (ad_md 0)), (1, .int y1)] → W p l e (headSpec w_Model_fresh ({ frames := 1, cells := 0, slots := 0, locals := 23 })).room s m ([.ref (ad_md 0), .int x1] : List Value).toArray below meth c H locs 0 0 Q (F0 m 10 ls [.int (bI z1), .ref (ad_md 0)]) := by
    intro md y1 z1 H locs ls hf hP hD hS hl
    rw [f_Model_fresh_10] at hf
    refine lv_iconst (v := (1 : Int32)) hx hb d_Model_fresh_10 (by decide) ?_
    refine lv_iconst (v := (1 : Int32)) hx hb d_Model_fresh_11 (by decide) ?_
    obtain ⟨u2, hu2, hf⟩ := Option.bind_eq_some_iff.mp hf
    refine cl_i (wc := (uw_Model ad_md cA_md md)) (wr := []) (tysC := [(cA_md 1, .int), (cA_md 2, .int), (cA_md 3, .int), (cA_md 4, .int), (cA_md 5, .int), (cA_md 6, .int), (cA_md 7, .int), (cA_md 8, .int), (cA_md 9, .boolean), (cA_md 10, .int), (cA_md 11, .int), (cA_md 12, .int), (cA_md 13, .int)]) (wu := fun (u : SModel) => (uw_Model ad_md cA_md u)) (wn := fun (u : SModel) => (uw_Model ad_md cA_md u)) [0, 1, 2, 3, 4, 5, 6, 7, 8, 9, 10, 11, 12, 13] [] [0, 1, 2, 3, 4, 5, 6, 7, 8, 9, 10, 11, 12, 13] [0, 1, 2, 3, 4, 5, 6, 7, 8, 9, 10, 11, 12] hP hD hS hA hK rfl rfl (by decide +kernel) (by decide +kernel) (by decide +kernel) rfl (fun _ => rfl) (by decide +kernel) (fun hPc hKc hDc => (va_runV (As := [.int (bI z1), .int (1 : Int32), .int (1 : Int32)]) (rest := []) ⟨hx, hb, hml, hown, hts⟩ (k_Model_goes l dC dI ad_md cA_md H.size md z1 true true u2 hu2) (cwV 3 hts (gV wd_850 wd_852 wd_22 wd_49 wd_853) rfl rfl rfl (by decide +kernel) ⟨Nat.le_of_ble_eq_true rfl, Nat.le_of_ble_eq_true rfl⟩) (cl_preV hPc hKc hDc hN (ci := 6) 0 rfl rfl) rfl rfl hl.1 rfl (lv_room (Nat.le_of_ble_eq_true rfl)) d_Model_fresh_12 ⟨Nat.le_of_ble_eq_true rfl, Nat.le_of_ble_eq_true rfl⟩)) (fun r u H locs hw hP hD hS => ?_)
    obtain ⟨hw1, hw2⟩ := hw
    have hw1 := hw1.symm
    have hw2 := hw2.symm
    subst hw1
    subst hw2
    have hP : va_P (dC, dI) vwCl (uw_Model ad_md cA_md u2.2) H := hP
    have hD : va_D A (uw_Model ad_md cA_md u2.2) := hD
    refine lv_if_ne (tgt := 20) hx hb d_Model_fresh_15 (by decide) (fun hc3 => ?_) (fun hc3 => ?_)
    · have hf := hf_f hf hc3
      refine lv_iload_n hx hb d_Model_fresh_20 rfl (lv_at hl 1 rfl) ?_
      refine lv_aload_n hx hb d_Model_fresh_21 rfl (lv_at hl 0 rfl) ?_
      refine va_get (D := (dC, dI)) (ci := 6) (v := .int u2.2.2.2.2.2.2.2.1.2.2.2.2.1) (C := "HazardTablesModel") (T := F_Model) (N := 30) hx hb hts hin_Model hown hK hP 0 rfl rfl 23 (by decide) fl_185 (fun _ h9 => h9) rfl d_Model_fresh_22 ?_
      refine lv_icmp_ge (tgt := 37) hx hb d_Model_fresh_25 (by decide) (fun hc4 => ?_) (fun hc4 => ?_)
      · have hf := hf_t hf hc4
        refine lv_iconst (v := (-1 : Int32)) hx hb d_Model_fresh_37 (by decide) ?_
        exact ret (-1 : Int32) u2.2 H locs ls 38 d_Model_fresh_38 (hf_e hf) hP hD hS
      · have hf := hf_f hf hc4
        refine lv_aload_n hx hb d_Model_fresh_28 rfl (lv_at hl 0 rfl) ?_
        refine va_get (D := (dC, dI)) (ci := 6) (v := .ref (ad_md 10)) (C := "HazardTablesModel") (T := F_Model) (N := 30) hx hb hts hin_Model hown hK hP 0 rfl rfl 24 (by decide) fl_49 (fun _ h9 => h9) rfl d_Model_fresh_29 ?_
        refine lv_iload_n hx hb d_Model_fresh_32 rfl (lv_at hl 1 rfl) ?_
        obtain ⟨hi5, hf⟩ := hf_g hf
        refine va_iald hx hb hK hP 10 9 rfl rfl hi5 d_Model_fresh_33 ?_
        refine lv_goto (tgt := 38) hx hb d_Model_fresh_34 (by decide) ?_
        exact ret (u2.2.2.2.2.2.2.2.1.2.2.2.2.2 y1.toNatClampNeg) u2.2 H locs ls 38 d_Model_fresh_38 (hf_e hf) hP hD hS
    · have hf := hf_t hf hc3
      refine lv_iconst (v := (0 : Int32)) hx hb d_Model_fresh_18 (by decide) ?_
      exact ret (0 : Int32) u2.2 H locs ls 19 d_Model_fresh_19 (hf_e hf) hP hD hS
  have hl := lv_entry ([.ref (ad_md 0), .int x1]) (n := 2) (Nat.le_of_ble_eq_true rfl)
  rw [lg_entry_eq]
  generalize (lg_sl ([.ref (ad_md 0), .int x1]) ++ List.replicate (2 - (lg_sl ([.ref (ad_md 0), .int x1])).length) Slot.unset).toArray = ls at hl ⊢
  have hl : lv_has ls 2 [(0, .ref (ad_md 0)), (1, .int x1)] := hl
  have hf := hf
  rw [f_Model_fresh] at hf
  obtain ⟨H, hH⟩ : ∃ H : Heap, H = s.heap := ⟨_, rfl⟩
  obtain ⟨locs, hlocs⟩ : ∃ L : List Loc, L = [] := ⟨_, rfl⟩
  have hP : va_P (dC, dI) vwCl (uw_Model ad_md cA_md md) H := by rw [hH]; exact hP
  have hS : va_S A s.heap H locs := by rw [hH, hlocs]; exact hS
  show W p l e (headSpec w_Model_fresh ({ frames := 1, cells := 0, slots := 0, locals := 23 })).room s m ([.ref (ad_md 0), .int x1] : List Value).toArray below meth c s.heap [] 0 0 Q (F0 m 0 ls [])
  suffices hgo : W p l e (headSpec w_Model_fresh ({ frames := 1, cells := 0, slots := 0, locals := 23 })).room s m ([.ref (ad_md 0), .int x1] : List Value).toArray below meth c H locs 0 0 Q (F0 m 0 ls []) by rw [hH, hlocs] at hgo; exact hgo
  clear hH hlocs
  refine lv_aload_n hx hb d_Model_fresh_0 rfl (lv_at hl 0 rfl) ?_
  refine lv_iload_n hx hb d_Model_fresh_1 rfl (lv_at hl 1 rfl) ?_
  refine lv_if_lt (tgt := 9) hx hb d_Model_fresh_2 (by decide) (fun hc1 => ?_) (fun hc1 => ?_)
  · have hf := hf_t hf hc1
    refine lv_iconst (v := (0 : Int32)) hx hb d_Model_fresh_9 (by decide) ?_
    exact w_10 md x1 false H locs ls hf hP hD hS (lv_sub hl [0, 1] rfl)
  · have hf := hf_f hf hc1
    refine lv_iconst (v := (1 : Int32)) hx hb d_Model_fresh_5 (by decide) ?_
    refine lv_goto (tgt := 10) hx hb d_Model_fresh_6 (by decide) ?_
    exact w_10 md x1 true H locs ls hf hP hD hS (lv_sub hl [0, 1] rfl)
