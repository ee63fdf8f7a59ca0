noncomputable def f_Model_see_0  : Nat → SModel → Option (Int32 × SModel)
  | 0, _ => none
  | n + 1, md =>
    (Option.bind (f_Model_here md) fun u1 =>
      (if u1 = (32 : Int32) then
        (f_Model_see_0 n (md.1, (md.2.1.1, md.2.1.2.1, md.2.1.2.2.1 + (1 : Int32), md.2.1.2.2.2), md.2.2.1, md.2.2.2.1, md.2.2.2.2.1, md.2.2.2.2.2.1, md.2.2.2.2.2.2.1, md.2.2.2.2.2.2.2.1, md.2.2.2.2.2.2.2.2))
       else
        (Option.bind (f_Model_here md) fun u3 =>
          (some (u3, md))
         )
       )
     )
noncomputable def f_Model_see (md : SModel) : Option (Int32 × SModel) :=
  (f_Model_see_0 4096 md)
set_option maxHeartbeats 4000000 in
set_option maxRecDepth 100000 in
theorem k_Model_see (l : Launch) (dC : Nat → ClassId) (dI : Nat → Nat → Nat) (ad_md : Nat → Nat) (cA_md : Nat → ClassId) (sz : Nat) (md : SModel) (res : Int32 × SModel) (hf : f_Model_see md = some res) : Met l y_Model_see w_Model_see ({ frames := 1, cells := 0, slots := 0, locals := 20 }) (cPc (dC, dI) (uw_Model ad_md cA_md md) [(cA_md 1, .int), (cA_md 2, .int), (cA_md 3, .int), (cA_md 4, .int), (cA_md 5, .int), (cA_md 6, .int), (cA_md 7, .int), (cA_md 8, .int), (cA_md 9, .boolean), (cA_md 10, .int), (cA_md 11, .int), (cA_md 12, .int), (cA_md 13, .int)] sz [.ref (ad_md 0)]) (va_Qi (fun (r : Int32) (u : SModel) => r = res.1 ∧ u = res.2) (fun (u : SModel) (t : State) => va_P (dC, dI) vwCl (uw_Model ad_md cA_md u) t.heap ∧ va_K (dC, dI) vwCl [(cA_md 1, .int), (cA_md 2, .int), (cA_md 3, .int), (cA_md 4, .int), (cA_md 5, .int), (cA_md 6, .int), (cA_md 7, .int), (cA_md 8, .int), (cA_md 9, .boolean), (cA_md 10, .int), (cA_md 11, .int), (cA_md 12, .int), (cA_md 13, .int)] t ∧ va_D (va_A (uw_Model ad_md cA_md md) sz) (uw_Model ad_md cA_md u)) (va_A (uw_Model ad_md cA_md md) sz)) 0 0 (va_A (uw_Model ad_md cA_md md) sz) := by
  refine Met.ofW (cc := b_Model_see) (maxL := 1) (ret := (some .int)) (by decide) rfl ?_
  intro p e s m args below meth c s₁ B hml hv
  obtain ⟨rfl, hsz, hP, hK, hD0, hN⟩ := hv
  have hx := B.exec
  have hb := B.bytes
  have hr := B.returns
  have hts := atoms_spec (ws := w_Model_see) B.pre
  have hown : s.vm.findClass "HazardTablesModel" = some m.cls := findClass_of_methodNamed B.named
  have hlocks := B.notSynchronized
  subst hsz
  have hD := hD0.self (sz := s.heap.size)
  generalize hAe : va_A (uw_Model ad_md cA_md md) s.heap.size = A at hD ⊢
  have hA : ∀ q : Nat, s.heap.size ≤ q → A q := fun q h => by rw [← hAe]; exact Or.inr h
  have hS : va_S A s.heap s.heap [] := va_S.rf
  have hP : va_P (dC, dI) vwCl (uw_Model ad_md cA_md md) s.heap := hP
  have fl_78 := (hts _ (List.mem_cons_of_mem _ wd_758))
  have hin_Model : ∀ w ∈ u_ws "HazardTablesModel" F_Model 30, w ∈ w_Model_see := fun w h => List.mem_cons_of_mem _ (hinA_Model w h)
  have ret : ∀ (v : Int32) (u : SModel) (H : Heap) (locs : List Loc) (ls : Array Slot) (pc : Nat), decode b_Model_see pc = .ok (.ireturn, 1) → (v = res.1 ∧ u = res.2) → va_P (dC, dI) vwCl (uw_Model ad_md cA_md u) H → va_D A (uw_Model ad_md cA_md u) → va_S A s.heap H locs → W p l e (headSpec w_Model_see ({ frames := 1, cells := 0, slots := 0, locals := 20 })).room s m ([.ref (ad_md 0)] : List Value).toArray below meth c H locs 0 0 (MQ below (va_Qi (fun (r : Int32) (u : SModel) => r = res.1 ∧ u = res.2) (fun (u : SModel) (t : State) => va_P (dC, dI) vwCl (uw_Model ad_md cA_md u) t.heap ∧ va_K (dC, dI) vwCl [(cA_md 1, .int), (cA_md 2, .int), (cA_md 3, .int), (cA_md 4, .int), (cA_md 5, .int), (cA_md 6, .int), (cA_md 7, .int), (cA_md 8, .int), (cA_md 9, .boolean), (cA_md 10, .int), (cA_md 11, .int), (cA_md 12, .int), (cA_md 13, .int)] t ∧ va_D A (uw_Model ad_md cA_md u)) A) ([.ref (ad_md 0)] : List Value).toArray s 0 0 A) (F0 m pc ls [.int v]) := fun v u H locs ls pc hd hp hP hD hS => W.iret (v := v) hx hb hr (fun t ht hW => ⟨⟨v, u, rfl, hp, by rw [ht]; exact hP, va_K.moved hW.alike hK, hD⟩, hS.F ht⟩) hS.2.2 hd
  generalize (MQ below (va_Qi (fun (r : Int32) (u : SModel) => r = res.1 ∧ u = res.2) (fun (u : SModel) (t : State) => va_P (dC, dI) vwCl (uw_Model ad_md cA_md u) t.heap ∧ va_K (dC, dI) vwCl [(cA_md 1, .int), (cA_md 2, .int), (cA_md 3, .int), (cA_md 4, .int), (cA_md 5, .int), (cA_md 6, .int), (cA_md 7, .int), (cA_md 8, .int), (cA_md 9, .boolean), (cA_md 10, .int), (cA_md 11, .int), (cA_md 12, .int), (cA_md 13, .int)] t ∧ va_D A (uw_Model ad_md cA_md u)) A) ([.ref (ad_md 0)] : List Value).toArray s 0 0 A) = Q at ret ⊢
  have w_0 : ∀ (n : Nat) (md : SModel)  (H : Heap) (locs : List Loc) (ls : Array Slot), f_Model_see_0 n md = some res → va_P (dC, dI) vwCl (uw_Model ad_md cA_md md) H → va_D A (uw_Model ad_md cA_md md) → va_S A s.heap H locs → lv_has ls 1 [(0, .ref (ad_md 0))] → W p l e (headSpec w_Model_see ({ frames := 1, cells := 0, slots := 0, locals := 20 })).room s m ([.ref (ad_md 0)] : List Value).toArray below meth c H locs 0 0 Q (F0 m 0 ls []) := by
    intro n
    induction n with
    | zero =>
      intro md H locs ls hf hP hD hS hl
      rw [f_Model_see_0] at hf; cases hf
    | succ n ih =>
      intro md H locs ls hf hP hD hS hl
      rw [f_Model_see_0] at hf
      refine lv_aload_n hx hb d_Model_see_0 rfl (lv_at hl 0 rfl) ?_
      obtain ⟨u1, hu1, hf⟩ := Option.bind_eq_some_iff.mp hf
      refine cl_i (wc := (uw_Model ad_md cA_md md)) (wr := []) (tysC := [(cA_md 1, .int), (cA_md 2, .int), (cA_md 3, .int), (cA_md 4, .int), (cA_md 5, .int), (cA_md 6, .int), (cA_md 7, .int), (cA_md 8, .int), (cA_md 9, .boolean), (cA_md 10, .int), (cA_md 11, .int), (cA_md 12, .int), (cA_md 13, .int)]) (wu := fun (u : Unit) => (uw_Model ad_md cA_md md)) (wn := fun (u : Unit) => (uw_Model ad_md cA_md md)) [0, 1, 2, 3, 4, 5, 6, 7, 8, 9, 10, 11, 12, 13] [] [0, 1, 2, 3, 4, 5, 6, 7, 8, 9, 10, 11, 12, 13] [0, 1, 2, 3, 4, 5, 6, 7, 8, 9, 10, 11, 12] hP hD hS hA hK rfl rfl (by decide +kernel) (by decide +kernel) (by decide +kernel) rfl (fun _ => rfl) (by decide +kernel) (fun hPc hKc hDc => (va_runV (As := []) (rest := []) ⟨hx, hb, hml, hown, hts⟩ (k_Model_here l dC dI ad_md cA_md H.size md u1 hu1) (cwV 0 hts (gV wd_862 wd_864 wd_24 wd_49 wd_865) rfl rfl rfl (by decide +kernel) ⟨Nat.le_of_ble_eq_true rfl, Nat.le_of_ble_eq_true rfl⟩) (cl_preV hPc hKc hDc hN (ci := 6) 0 rfl rfl) rfl rfl hl.1 rfl (lv_room (Nat.le_of_ble_eq_true rfl)) d_Model_see_1 ⟨Nat.le_of_ble_eq_true rfl, Nat.le_of_ble_eq_true rfl⟩)) (fun r u H locs hw hP hD hS => ?_)
      have hw := hw.symm
      subst hw
      have hP : va_P (dC, dI) vwCl (uw_Model ad_md cA_md md) H := hP
      have hD : va_D A (uw_Model ad_md cA_md md) := hD
      refine lv_bipush (v := (32 : Int32)) hx hb d_Model_see_4 (by decide) ?_
      refine lv_icmp_ne (tgt := 22) hx hb d_Model_see_6 (by decide) (fun hc2 => ?_) (fun hc2 => ?_)
      · have hf := hf_f hf hc2
        refine lv_aload_n hx hb d_Model_see_22 rfl (lv_at hl 0 rfl) ?_
        obtain ⟨u3, hu3, hf⟩ := Option.bind_eq_some_iff.mp hf
        refine cl_i (wc := (uw_Model ad_md cA_md md)) (wr := []) (tysC := [(cA_md 1, .int), (cA_md 2, .int), (cA_md 3, .int), (cA_md 4, .int), (cA_md 5, .int), (cA_md 6, .int), (cA_md 7, .int), (cA_md 8, .int), (cA_md 9, .boolean), (cA_md 10, .int), (cA_md 11, .int), (cA_md 12, .int), (cA_md 13, .int)]) (wu := fun (u : Unit) => (uw_Model ad_md cA_md md)) (wn := fun (u : Unit) => (uw_Model ad_md cA_md md)) [0, 1, 2, 3, 4, 5, 6, 7, 8, 9, 10, 11, 12, 13] [] [0, 1, 2, 3, 4, 5, 6, 7, 8, 9, 10, 11, 12, 13] [0, 1, 2, 3, 4, 5, 6, 7, 8, 9, 10, 11, 12] hP hD hS hA hK rfl rfl (by decide +kernel) (by decide +kernel) (by decide +kernel) rfl (fun _ => rfl) (by decide +kernel) (fun hPc hKc hDc => (va_runV (As := []) (rest := []) ⟨hx, hb, hml, hown, hts⟩ (k_Model_here l dC dI ad_md cA_md H.size md u3 hu3) (cwV 0 hts (gV wd_862 wd_864 wd_24 wd_49 wd_865) rfl rfl rfl (by decide +kernel) ⟨Nat.le_of_ble_eq_true rfl, Nat.le_of_ble_eq_true rfl⟩) (cl_preV hPc hKc hDc hN (ci := 6) 0 rfl rfl) rfl rfl hl.1 rfl (lv_room (Nat.le_of_ble_eq_true rfl)) d_Model_see_23 ⟨Nat.le_of_ble_eq_true rfl, Nat.le_of_ble_eq_true rfl⟩)) (fun r u H locs hw hP hD hS => ?_)
        have hw := hw.symm
        subst hw
        have hP : va_P (dC, dI) vwCl (uw_Model ad_md cA_md md) H := hP
        have hD : va_D A (uw_Model ad_md cA_md md) := hD
        exact ret u3 md H locs ls 26 d_Model_see_26 (hf_e hf) hP hD hS
      · have hf := hf_t hf hc2
        refine lv_aload_n hx hb d_Model_see_9 rfl (lv_at hl 0 rfl) ?_
        refine lv_dup hx hb d_Model_see_10 rfl ?_
        refine va_get (D := (dC, dI)) (ci := 6) (v := .int md.2.1.2.2.1) (C := "HazardTablesModel") (T := F_Model) (N := 30) hx hb hts hin_Model hown hK hP 0 rfl rfl 10 (by decide) fl_78 (fun _ h9 => h9) rfl d_Model_see_11 ?_
        refine lv_iconst (v := (1 : Int32)) hx hb d_Model_see_14 (by decide) ?_
        refine lv_iadd hx hb d_Model_see_15 ?_
        refine va_put (D := (dC, dI)) (ci := 6) (v := .int (md.2.1.2.2.1 + (1 : Int32))) (ty := .int) (C := "HazardTablesModel") (T := F_Model) (N := 30) hx hb hts hin_Model t_Model t_Model_ok n_Model hown hK hP hD hS 0 rfl rfl 10 (by decide) fl_78 (fun _ h9 => h9) rfl (by decide +kernel) rfl rfl (Nat.le_of_ble_eq_true rfl) d_Model_see_16 (fun H locs hP hD hS => ?_)
        have hP : va_P (dC, dI) vwCl (uw_Model ad_md cA_md (md.1, (md.2.1.1, md.2.1.2.1, md.2.1.2.2.1 + (1 : Int32), md.2.1.2.2.2), md.2.2.1, md.2.2.2.1, md.2.2.2.2.1, md.2.2.2.2.2.1, md.2.2.2.2.2.2.1, md.2.2.2.2.2.2.2.1, md.2.2.2.2.2.2.2.2)) H := hP
        have hD : va_D A (uw_Model ad_md cA_md (md.1, (md.2.1.1, md.2.1.2.1, md.2.1.2.2.1 + (1 : Int32), md.2.1.2.2.2), md.2.2.1, md.2.2.2.1, md.2.2.2.2.1, md.2.2.2.2.2.1, md.2.2.2.2.2.2.1, md.2.2.2.2.2.2.2.1, md.2.2.2.2.2.2.2.2)) := hD
        refine lv_goto (tgt := 0) hx hb d_Model_see_19 (by decide) ?_
        exact ih (md.1, (md.2.1.1, md.2.1.2.1, md.2.1.2.2.1 + (1 : Int32), md.2.1.2.2.2), md.2.2.1, md.2.2.2.1, md.2.2.2.2.1, md.2.2.2.2.2.1, md.2.2.2.2.2.2.1, md.2.2.2.2.2.2.2.1, md.2.2.2.2.2.2.2.2) H locs ls hf hP hD hS (lv_sub hl [0] rfl)
  have hl := lv_entry ([.ref (ad_md 0)]) (n := 1) (Nat.le_of_ble_eq_true rfl)
  rw [lg_entry_eq]
  generalize (lg_sl ([.ref (ad_md 0)]) ++ List.replicate (1 - (lg_sl ([.ref (ad_md 0)])).length) Slot.unset).toArray = ls at hl ⊢
  have hl : lv_has ls 1 [(0, .ref (ad_md 0))] := hl
  have hf := hf
  rw [f_Model_see] at hf
  obtain ⟨H, hH⟩ : ∃ H : Heap, H = s.heap := ⟨_, rfl⟩
  obtain ⟨locs, hlocs⟩ : ∃ L : List Loc, L = [] := ⟨_, rfl⟩
  have hP : va_P (dC, dI) vwCl (uw_Model ad_md cA_md md) H := by rw [hH]; exact hP
  have hS : va_S A s.heap H locs := by rw [hH, hlocs]; exact hS
  show W p l e (headSpec w_Model_see ({ frames := 1, cells := 0, slots := 0, locals := 20 })).room s m ([.ref (ad_md 0)] : List Value).toArray below meth c s.heap [] 0 0 Q (F0 m 0 ls [])
  suffices hgo : W p l e (headSpec w_Model_see ({ frames := 1, cells := 0, slots := 0, locals := 20 })).room s m ([.ref (ad_md 0)] : List Value).toArray below meth c H locs 0 0 Q (F0 m 0 ls []) by rw [hH, hlocs] at hgo; exact hgo
  clear hH hlocs
  exact w_0 4096 md H locs ls hf hP hD hS (lv_sub hl [0] rfl)
