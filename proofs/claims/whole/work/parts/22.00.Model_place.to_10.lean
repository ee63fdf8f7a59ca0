noncomputable def f_Model_place (md : SModel) : Option (Int32 × SModel) :=
  (some (md.1.2, (((0 : Int32), md.1.2), md.2.1, md.2.2.1, md.2.2.2.1, md.2.2.2.2.1, md.2.2.2.2.2.1, md.2.2.2.2.2.2.1, md.2.2.2.2.2.2.2.1, md.2.2.2.2.2.2.2.2)))
set_option maxHeartbeats 4000000 in
set_option maxRecDepth 100000 in
theorem k_Model_place (l : Launch) (dC : Nat → ClassId) (dI : Nat → Nat → Nat) (ad_md : Nat → Nat) (cA_md : Nat → ClassId) (sz : Nat) (md : SModel) (res : Int32 × SModel) (hf : f_Model_place md = some res) : Met l y_Model_place w_Model_place ({ frames := 0, cells := 0, slots := 0, locals := 0 }) (cPc (dC, dI) (uw_Model ad_md cA_md md) [(cA_md 1, .int), (cA_md 2, .int), (cA_md 3, .int), (cA_md 4, .int), (cA_md 5, .int), (cA_md 6, .int), (cA_md 7, .int), (cA_md 8, .int), (cA_md 9, .boolean), (cA_md 10, .int), (cA_md 11, .int), (cA_md 12, .int), (cA_md 13, .int)] sz [.ref (ad_md 0)]) (va_Qi (fun (r : Int32) (u : SModel) => r = res.1 ∧ u = res.2) (fun (u : SModel) (t : State) => va_P (dC, dI) vwCl (uw_Model ad_md cA_md u) t.heap ∧ va_K (dC, dI) vwCl [(cA_md 1, .int), (cA_md 2, .int), (cA_md 3, .int), (cA_md 4, .int), (cA_md 5, .int), (cA_md 6, .int), (cA_md 7, .int), (cA_md 8, .int), (cA_md 9, .boolean), (cA_md 10, .int), (cA_md 11, .int), (cA_md 12, .int), (cA_md 13, .int)] t ∧ va_D (va_A (uw_Model ad_md cA_md md) sz) (uw_Model ad_md cA_md u)) (va_A (uw_Model ad_md cA_md md) sz)) 0 0 (va_A (uw_Model ad_md cA_md md) sz) := by
  refine Met.ofW (cc := b_Model_place) (maxL := 1) (ret := (some .int)) (by decide) rfl ?_
  intro p e s m args below meth c s₁ B hml hv
  obtain ⟨rfl, hsz, hP, hK, hD0, hN⟩ := hv
  have hx := B.exec
  have hb := B.bytes
  have hr := B.returns
  have hts := atoms_spec (ws := w_Model_place) B.pre
  have hown : s.vm.findClass "HazardTablesModel" = some m.cls := findClass_of_methodNamed B.named
  have hlocks := B.notSynchronized
  subst hsz
  have hD := hD0.self (sz := s.heap.size)
  generalize hAe : va_A (uw_Model ad_md cA_md md) s.heap.size = A at hD ⊢
  have hA : ∀ q : Nat, s.heap.size ≤ q → A q := fun q h => by rw [← hAe]; exact Or.inr h
  have hS : va_S A s.heap s.heap [] := va_S.rf
  have hP : va_P (dC, dI) vwCl (uw_Model ad_md cA_md md) s.heap := hP
  have fl_13 := (hts _ (List.mem_cons_of_mem _ wd_751))
  have fl_64 := (hts _ (List.mem_cons_of_mem _ wd_748))
  have hin_Model : ∀ w ∈ u_ws "HazardTablesModel" F_Model 30, w ∈ w_Model_place := fun w h => List.mem_cons_of_mem _ (hinA_Model w h)
  have ret : ∀ (v : Int32) (u : SModel) (H : Heap) (locs : List Loc) (ls : Array Slot) (pc : Nat), decode b_Model_place pc = .ok (.ireturn, 1) → (v = res.1 ∧ u = res.2) → va_P (dC, dI) vwCl (uw_Model ad_md cA_md u) H → va_D A (uw_Model ad_md cA_md u) → va_S A s.heap H locs → W p l e (headSpec w_Model_place ({ frames := 0, cells := 0, slots := 0, locals := 0 })).room s m ([.ref (ad_md 0)] : List Value).toArray below meth c H locs 0 0 (MQ below (va_Qi (fun (r : Int32) (u : SModel) => r = res.1 ∧ u = res.2) (fun (u : SModel) (t : State) => va_P (dC, dI) vwCl (uw_Model ad_md cA_md u) t.heap ∧ va_K (dC, dI) vwCl [(cA_md 1, .int), (cA_md 2, .int), (cA_md 3, .int), (cA_md 4, .int), (cA_md 5, .int), (cA_md 6, .int), (cA_md 7, .int), (cA_md 8, .int), (cA_md 9, .boolean), (cA_md 10, .int), (cA_md 11, .int), (cA_md 12, .int), (cA_md 13, .int)] t ∧ va_D A (uw_Model ad_md cA_md u)) A) ([.ref (ad_md 0)] : List Value).toArray s 0 0 A) (F0 m pc ls [.int v]) := fun v u H locs ls pc hd hp hP hD hS => W.iret (v := v) hx hb hr (fun t ht hW => ⟨⟨v, u, rfl, hp, by rw [ht]; exact hP, va_K.moved hW.alike hK, hD⟩, hS.F ht⟩) hS.2.2 hd
  generalize (MQ below (va_Qi (fun (r : Int32) (u : SModel) => r = res.1 ∧ u = res.2) (fun (u : SModel) (t : State) => va_P (dC, dI) vwCl (uw_Model ad_md cA_md u) t.heap ∧ va_K (dC, dI) vwCl [(cA_md 1, .int), (cA_md 2, .int), (cA_md 3, .int), (cA_md 4, .int), (cA_md 5, .int), (cA_md 6, .int), (cA_md 7, .int), (cA_md 8, .int), (cA_md 9, .boolean), (cA_md 10, .int), (cA_md 11, .int), (cA_md 12, .int), (cA_md 13, .int)] t ∧ va_D A (uw_Model ad_md cA_md u)) A) ([.ref (ad_md 0)] : List Value).toArray s 0 0 A) = Q at ret ⊢
  have hl := lv_entry ([.ref (ad_md 0)]) (n := 1) (Nat.le_of_ble_eq_true rfl)
  rw [lg_entry_eq]
  generalize (lg_sl ([.ref (ad_md 0)]) ++ List.replicate (1 - (lg_sl ([.ref (ad_md 0)])).length) Slot.unset).toArray = ls at hl ⊢
  have hl : lv_has ls 1 [(0, .ref (ad_md 0))] := hl
  have hf := hf
  rw [f_Model_place] at hf
  obtain ⟨H, hH⟩ : ∃ H : Heap, H = s.heap := ⟨_, rfl⟩
  obtain ⟨locs, hlocs⟩ : ∃ L : List Loc, L = [] := ⟨_, rfl⟩
  have hP : va_P (dC, dI) vwCl (uw_Model ad_md cA_md md) H := by rw [hH]; exact hP
  have hS : va_S A s.heap H locs := by rw [hH, hlocs]; exact hS
  show W p l e (headSpec w_Model_place ({ frames := 0, cells := 0, slots := 0, locals := 0 })).room s m ([.ref (ad_md 0)] : List Value).toArray below meth c s.heap [] 0 0 Q (F0 m 0 ls [])
  suffices hgo : W p l e (headSpec w_Model_place ({ frames := 0, cells := 0, slots := 0, locals := 0 })).room s m ([.ref (ad_md 0)] : List Value).toArray below meth c H locs 0 0 Q (F0 m 0 ls []) by rw [hH, hlocs] at hgo; exact hgo
  clear hH hlocs
  refine lv_aload_n hx hb d_Model_place_0 rfl (lv_at hl 0 rfl) ?_
  refine lv_iconst (v := (0 : Int32)) hx hb d_Model_place_1 (by decide) ?_
  refine va_put (D := (dC, dI)) (ci := 6) (v := .int (0 : Int32)) (ty := .int) (C := "HazardTablesModel") (T := F_Model) (N := 30) hx hb hts hin_Model t_Model t_Model_ok n_Model hown hK hP hD hS 0 rfl rfl 0 (by decide) fl_64 (fun _ h9 => h9) rfl (by decide +kernel) rfl rfl (Nat.le_of_ble_eq_true rfl) d_Model_place_2 (fun H locs hP hD hS => ?_)
  have hP : va_P (dC, dI) vwCl (uw_Model ad_md cA_md (((0 : Int32), md.1.2), md.2.1, md.2.2.1, md.2.2.2.1, md.2.2.2.2.1, md.2.2.2.2.2.1, md.2.2.2.2.2.2.1, md.2.2.2.2.2.2.2.1, md.2.2.2.2.2.2.2.2)) H := hP
  have hD : va_D A (uw_Model ad_md cA_md (((0 : Int32), md.1.2), md.2.1, md.2.2.1, md.2.2.2.1, md.2.2.2.2.1, md.2.2.2.2.2.1, md.2.2.2.2.2.2.1, md.2.2.2.2.2.2.2.1, md.2.2.2.2.2.2.2.2)) := hD
  refine lv_aload_n hx hb d_Model_place_5 rfl (lv_at hl 0 rfl) ?_
  refine va_get (D := (dC, dI)) (ci := 6) (v := .int md.1.2) (C := "HazardTablesModel") (T := F_Model) (N := 30) hx hb hts hin_Model hown hK hP 0 rfl rfl 3 (by decide) fl_13 (fun _ h9 => h9) rfl d_Model_place_6 ?_
  exact ret md.1.2 (((0 : Int32), md.1.2), md.2.1, md.2.2.1, md.2.2.2.1, md.2.2.2.2.1, md.2.2.2.2.2.1, md.2.2.2.2.2.2.1, md.2.2.2.2.2.2.2.1, md.2.2.2.2.2.2.2.2) H locs ls 9 d_Model_place_9 (hf_e hf) hP hD hS
noncomputable def f_Model_find_2  : Nat → SModel → Int32 → Int32 → Option (Int32)
  | 0, _, _, _ => none
  | n + 1, md, y1, y2 =>
    (if md.2.2.2.1.1 ≤ y2 then
      (some ((-1 : Int32)))
     else
      (if inb ((y2 * (43 : Int32)) + (0 : Int32)) 559 then
        (if (md.2.2.2.1.2.2 ((y2 * (43 : Int32)) + (0 : Int32)).toNatClampNeg) = y1 then
          (some (y2))
         else
          (f_Model_find_2 n md y1 (y2 + (1 : Int32)))
         )
       else none)
     )
noncomputable def f_Model_find (md : SModel) (x1 : Int32) : Option (Int32) :=
  (f_Model_find_2 4096 md x1 (0 : Int32))
set_option maxHeartbeats 4000000 in
set_option maxRecDepth 100000 in
theorem k_Model_find (l : Launch) (dC : Nat → ClassId) (dI : Nat → Nat → Nat) (ad_md : Nat → Nat) (cA_md : Nat → ClassId) (sz : Nat) (md : SModel) (x1 : Int32) (res : Int32) (hf : f_Model_find md x1 = some res) : Met l y_Model_find w_Model_find ({ frames := 0, cells := 0, slots := 0, locals := 0 }) (cPc (dC, dI) (uw_Model ad_md cA_md md) [(cA_md 1, .int), (cA_md 2, .int), (cA_md 3, .int), (cA_md 4, .int), (cA_md 5, .int), (cA_md 6, .int), (cA_md 7, .int), (cA_md 8, .int), (cA_md 9, .boolean), (cA_md 10, .int), (cA_md 11, .int), (cA_md 12, .int), (cA_md 13, .int)] sz [.ref (ad_md 0), .int x1]) (va_Qi (fun (r : Int32) (u : Unit) => r = res) (fun (u : Unit) (t : State) => va_P (dC, dI) vwCl (uw_Model ad_md cA_md md) t.heap ∧ va_K (dC, dI) vwCl [(cA_md 1, .int), (cA_md 2, .int), (cA_md 3, .int), (cA_md 4, .int), (cA_md 5, .int), (cA_md 6, .int), (cA_md 7, .int), (cA_md 8, .int), (cA_md 9, .boolean), (cA_md 10, .int), (cA_md 11, .int), (cA_md 12, .int), (cA_md 13, .int)] t ∧ va_D (va_A (uw_Model ad_md cA_md md) sz) (uw_Model ad_md cA_md md)) (va_A (uw_Model ad_md cA_md md) sz)) 0 0 (va_A (uw_Model ad_md cA_md md) sz) := by
  refine Met.ofW (cc := b_Model_find) (maxL := 3) (ret := (some .int)) (by decide) rfl ?_
  intro p e s m args below meth c s₁ B hml hv
  obtain ⟨rfl, hsz, hP, hK, hD0, hN⟩ := hv
  have hx := B.exec
  have hb := B.bytes
  have hr := B.returns
  have hts := atoms_spec (ws := w_Model_find) B.pre
  have hown : s.vm.findClass "HazardTablesModel" = some m.cls := findClass_of_methodNamed B.named
  have hlocks := B.notSynchronized
  subst hsz
  have hD := hD0.self (sz := s.heap.size)
  generalize hAe : va_A (uw_Model ad_md cA_md md) s.heap.size = A at hD ⊢
  have hA : ∀ q : Nat, s.heap.size ≤ q → A q := fun q h => by rw [← hAe]; exact Or.inr h
  have hS : va_S A s.heap s.heap [] := va_S.rf
  have hP : va_P (dC, dI) vwCl (uw_Model ad_md cA_md md) s.heap := hP
  have fl_128 := (hts _ (List.mem_cons_of_mem _ wd_752))
  have fl_17 := (hts _ (List.mem_cons_of_mem _ wd_754))
  have hin_Model : ∀ w ∈ u_ws "HazardTablesModel" F_Model 30, w ∈ w_Model_find := fun w h => List.mem_cons_of_mem _ (hinA_Model w h)
  have ret : ∀ (v : Int32) (u : Unit) (H : Heap) (locs : List Loc) (ls : Array Slot) (pc : Nat), decode b_Model_find pc = .ok (.ireturn, 1) → (v = res) → va_P (dC, dI) vwCl (uw_Model ad_md cA_md md) H → va_D A (uw_Model ad_md cA_md md) → va_S A s.heap H locs → W p l e (headSpec w_Model_find ({ frames := 0, cells := 0, slots := 0, locals := 0 })).room s m ([.ref (ad_md 0), .int x1] : List Value).toArray below meth c H locs 0 0 (MQ below (va_Qi (fun (r : Int32) (u : Unit) => r = res) (fun (u : Unit) (t : State) => va_P (dC, dI) vwCl (uw_Model ad_md cA_md md) t.heap ∧ va_K (dC, dI) vwCl [(cA_md 1, .int), (cA_md 2, .int), (cA_md 3, .int), (cA_md 4, .int), (cA_md 5, .int), (cA_md 6, .int), (cA_md 7, .int), (cA_md 8, .int), (cA_md 9, .boolean), (cA_md 10, .int), (cA_md 11, .int), (cA_md 12, .int), (cA_md 13, .int)] t ∧ va_D A (uw_Model ad_md cA_md md)) A) ([.ref (ad_md 0), .int x1] : List Value).toArray s 0 0 A) (F0 m pc ls [.int v]) := fun v u H locs ls pc hd hp hP hD hS => W.iret (v := v) hx hb hr (fun t ht hW => ⟨⟨v, u, rfl, hp, by rw [ht]; exact hP, va_K.moved hW.alike hK, hD⟩, hS.F ht⟩) hS.2.2 hd
  generalize (MQ below (va_Qi (fun (r : Int32) (u : Unit) => r = res) (fun (u : Unit) (t : State) => va_P (dC, dI) vwCl (uw_Model ad_md cA_md md) t.heap ∧ va_K (dC, dI) vwCl [(cA_md 1, .int), (cA_md 2, .int), (cA_md 3, .int), (cA_md 4, .int), (cA_md 5, .int), (cA_md 6, .int), (cA_md 7, .int), (cA_md 8, .int), (cA_md 9, .boolean), (cA_md 10, .int), (cA_md 11, .int), (cA_md 12, .int), (cA_md 13, .int)] t ∧ va_D A (uw_Model ad_md cA_md md)) A) ([.ref (ad_md 0), .int x1] : List Value).toArray s 0 0 A) = Q at ret ⊢
  have w_2 : ∀ (n : Nat)  (y1 : Int32) (y2 : Int32) (H : Heap) (locs : List Loc) (ls : Array Slot), f_Model_find_2 n md y1 y2 = some res → va_P (dC, dI) vwCl (uw_Model ad_md cA_md md) H → va_D A (uw_Model ad_md cA_md md) → va_S A s.heap H locs → lv_has ls 3 [(0, .ref (ad_md 0)), (1, .int y1), (2, .int y2)] → W p l e (headSpec w_Model_find ({ frames := 0, cells := 0, slots := 0, locals := 0 })).room s m ([.ref (ad_md 0), .int x1] : List Value).toArray below meth c H locs 0 0 Q (F0 m 2 ls []) := by
    intro n
    induction n with
    | zero =>
      intro y1 y2 H locs ls hf hP hD hS hl
      rw [f_Model_find_2] at hf; cases hf
    | succ n ih =>
      intro y1 y2 H locs ls hf hP hD hS hl
      rw [f_Model_find_2] at hf
      refine lv_iload_n hx hb d_Model_find_2 rfl (lv_at hl 2 rfl) ?_
      refine lv_aload_n hx hb d_Model_find_3 rfl (lv_at hl 0 rfl) ?_
      refine va_get (D := (dC, dI)) (ci := 6) (v := .int md.2.2.2.1.1) (C := "HazardTablesModel") (T := F_Model) (N := 30) hx hb hts hin_Model hown hK hP 0 rfl rfl 4 (by decide) fl_128 (fun _ h9 => h9) rfl d_Model_find_4 ?_
      refine lv_icmp_ge (tgt := 33) hx hb d_Model_find_7 (by decide) (fun hc1 => ?_) (fun hc1 => ?_)
      · have hf := hf_t hf hc1
        refine lv_iconst (v := (-1 : Int32)) hx hb d_Model_find_33 (by decide) ?_
        exact ret (-1 : Int32) () H locs ls 34 d_Model_find_34 (Option.some.inj hf) hP hD hS
      · have hf := hf_f hf hc1
        refine lv_aload_n hx hb d_Model_find_10 rfl (lv_at hl 0 rfl) ?_
        refine va_get (D := (dC, dI)) (ci := 6) (v := .ref (ad_md 2)) (C := "HazardTablesModel") (T := F_Model) (N := 30) hx hb hts hin_Model hown hK hP 0 rfl rfl 6 (by decide) fl_17 (fun _ h9 => h9) rfl d_Model_find_11 ?_
        refine lv_iload_n hx hb d_Model_find_14 rfl (lv_at hl 2 rfl) ?_
        refine lv_bipush (v := (43 : Int32)) hx hb d_Model_find_15 (by decide) ?_
        refine lv_imul hx hb d_Model_find_17 ?_
        refine lv_iconst (v := (0 : Int32)) hx hb d_Model_find_18 (by decide) ?_
        refine lv_iadd hx hb d_Model_find_19 ?_
        obtain ⟨hi2, hf⟩ := hf_g hf
        refine va_iald hx hb hK hP 2 1 rfl rfl hi2 d_Model_find_20 ?_
        refine lv_iload_n hx hb d_Model_find_21 rfl (lv_at hl 1 rfl) ?_
        refine lv_icmp_ne (tgt := 27) hx hb d_Model_find_22 (by decide) (fun hc3 => ?_) (fun hc3 => ?_)
        · have hf := hf_f hf hc3
          refine lv_iinc (v := y2 + (1 : Int32)) (lv' := [(2, .int (y2 + (1 : Int32))), (0, .ref (ad_md 0)), (1, .int y1)]) hx hb d_Model_find_27 hl (k := 2) rfl rfl (by decide) rfl (fun ls hl => ?_)
          refine lv_goto (tgt := 2) hx hb d_Model_find_30 (by decide) ?_
          exact ih y1 (y2 + (1 : Int32)) H locs ls hf hP hD hS (lv_sub hl [1, 2, 0] rfl)
        · have hf := hf_t hf hc3
          refine lv_iload_n hx hb d_Model_find_25 rfl (lv_at hl 2 rfl) ?_
          exact ret y2 () H locs ls 26 d_Model_find_26 (Option.some.inj hf) hP hD hS
  have hl := lv_entry ([.ref (ad_md 0), .int x1]) (n := 3) (Nat.le_of_ble_eq_true rfl)
  rw [lg_entry_eq]
  generalize (lg_sl ([.ref (ad_md 0), .int x1]) ++ List.replicate (3 - (lg_sl ([.ref (ad_md 0), .int x1])).length) Slot.unset).toArray = ls at hl ⊢
  have hl : lv_has ls 3 [(0, .ref (ad_md 0)), (1, .int x1)] := hl
  have hf := hf
  rw [f_Model_find] at hf
  obtain ⟨H, hH⟩ : ∃ H : Heap, H = s.heap := ⟨_, rfl⟩
  obtain ⟨locs, hlocs⟩ : ∃ L : List Loc, L = [] := ⟨_, rfl⟩
  have hP : va_P (dC, dI) vwCl (uw_Model ad_md cA_md md) H := by rw [hH]; exact hP
  have hS : va_S A s.heap H locs := by rw [hH, hlocs]; exact hS
  show W p l e (headSpec w_Model_find ({ frames := 0, cells := 0, slots := 0, locals := 0 })).room s m ([.ref (ad_md 0), .int x1] : List Value).toArray below meth c s.heap [] 0 0 Q (F0 m 0 ls [])
  suffices hgo : W p l e (headSpec w_Model_find ({ frames := 0, cells := 0, slots := 0, locals := 0 })).room s m ([.ref (ad_md 0), .int x1] : List Value).toArray below meth c H locs 0 0 Q (F0 m 0 ls []) by rw [hH, hlocs] at hgo; exact hgo
  clear hH hlocs
  refine lv_iconst (v := (0 : Int32)) hx hb d_Model_find_0 (by decide) ?_
  refine lv_istore_n (lv' := [(2, .int (0 : Int32)), (0, .ref (ad_md 0)), (1, .int x1)]) hx hb d_Model_find_1 rfl hl (by decide) rfl (fun ls hl => ?_)
  exact w_2 4096 x1 (0 : Int32) H locs ls hf hP hD hS (lv_sub hl [1, 2, 0] rfl)
noncomputable def f_Model_material_46  (md : SModel) (y2 : Int32) (y3 : Int32) (z1 : Bool) : Option (Int32 × SModel) :=
  (Option.bind (f_Model_goes md z1 true true) fun u7 =>
    (if (bI u7.1) = 0 then
      (some ((0 : Int32), u7.2))
     else
      (if (3 : Int32) ≤ y2 then
        (if (7 : Int32) ≤ y2 then
          (if y2 = (7 : Int32) then
            (if inb ((y3 * (43 : Int32)) + (8 : Int32)) 559 then
              (some (u7.2.2.2.2.1.2.2 ((y3 * (43 : Int32)) + (8 : Int32)).toNatClampNeg, u7.2))
             else none)
           else
            (if inb ((y3 * (43 : Int32)) + (9 : Int32)) 559 then
              (some (u7.2.2.2.2.1.2.2 ((y3 * (43 : Int32)) + (9 : Int32)).toNatClampNeg, u7.2))
             else none)
           )
         else
          (if inb ((y3 * (43 : Int32)) + (((4 : Int32) + y2) - (3 : Int32))) 559 then
            (some (u7.2.2.2.2.1.2.2 ((y3 * (43 : Int32)) + (((4 : Int32) + y2) - (3 : Int32))).toNatClampNeg, u7.2))
           else none)
         )
       else
        (if inb ((y3 * (43 : Int32)) + ((1 : Int32) + y2)) 559 then
          (some (u7.2.2.2.2.1.2.2 ((y3 * (43 : Int32)) + ((1 : Int32) + y2)).toNatClampNeg, u7.2))
         else none)
       )
     )
   )
noncomputable def f_Model_material_45  (md : SModel) (y2 : Int32) (y3 : Int32) : Option (Int32 × SModel) :=
  (f_Model_material_46 md y2 y3 false)
noncomputable def f_Model_material_25  (md : SModel) (y2 : Int32) (z0 : Int32) : Option (Int32 × SModel) :=
  (if z0 < 0 then
    (f_Model_material_45 md y2 z0)
   else
    (Option.bind (f_Model_within y2 (0 : Int32) (8 : Int32)) fun u5 =>
      (if (bI u5) = 0 then
        (f_Model_material_45 md y2 z0)
       else
        (f_Model_material_46 md y2 z0 true)
       )
     )
   )
noncomputable def f_Model_material (md : SModel) (x1 : Int32) (x2 : Int32) : Option (Int32 × SModel) :=
  (if x1 = 0 then
    (if (bI md.2.2.2.1.2.1) = 0 then
      (f_Model_material_25 md x2 (-1 : Int32))
     else
      (f_Model_material_25 md x2 (12 : Int32))
     )
   else
    (Option.bind (f_Model_find md x1) fun u2 =>
      (f_Model_material_25 md x2 u2)
     )
   )
set_option maxHeartbeats 4000000 in
set_option maxRecDepth 100000 in
theorem k_Model_material (l : Launch) (dC : Nat → ClassId) (dI : Nat → Nat → Nat) (ad_md : Nat → Nat) (cA_md : Nat → ClassId) (sz : Nat) (md : SModel) (x1 : Int32) (x2 : Int32) (res : Int32 × SModel) (hf : f_Model_material md x1 x2 = some res) : Met l y_Model_material w_Model_material ({ frames := 1, cells := 0, slots := 0, locals := 23 }) (cPc (dC, dI) (uw_Model ad_md cA_md md) [(cA_md 1, .int), (cA_md 2, .int), (cA_md 3, .int), (cA_md 4, .int), (cA_md 5, .int), (cA_md 6, .int), (cA_md 7, .int), (cA_md 8, .int), (cA_md 9, .boolean), (cA_md 10, .int), (cA_md 11, .int), (cA_md 12, .int), (cA_md 13, .int)] sz [.ref (ad_md 0), .int x1, .int x2]) (va_Qi (fun (r : Int32) (u : SModel) => r = res.1 ∧ u = res.2) (fun (u : SModel) (t : State) => va_P (dC, dI) vwCl (uw_Model ad_md cA_md u) t.heap ∧ va_K (dC, dI) vwCl [(cA_md 1, .int), (cA_md 2, .int), (cA_md 3, .int), (cA_md 4, .int), (cA_md 5, .int), (cA_md 6, .int), (cA_md 7, .int), (cA_md 8, .int), (cA_md 9, .boolean), (cA_md 10, .int), (cA_md 11, .int), (cA_md 12, .int), (cA_md 13, .int)] t ∧ va_D (va_A (uw_Model ad_md cA_md md) sz) (uw_Model ad_md cA_md u)) (va_A (uw_Model ad_md cA_md md) sz)) 0 0 (va_A (uw_Model ad_md cA_md md) sz) := by
  refine Met.ofW (cc := b_Model_material) (maxL := 4) (ret := (some .int)) (by decide) rfl ?_
  intro p e s m args below meth c s₁ B hml hv
  obtain ⟨rfl, hsz, hP, hK, hD0, hN⟩ := hv
  have hx := B.exec
  have hb := B.bytes
  have hr := B.returns
  have hts := atoms_spec (ws := w_Model_material) B.pre
  have hown : s.vm.findClass "HazardTablesModel" = some m.cls := findClass_of_methodNamed B.named
  have hlocks := B.notSynchronized
  subst hsz
  have hD := hD0.self (sz := s.heap.size)
  generalize hAe : va_A (uw_Model ad_md cA_md md) s.heap.size = A at hD ⊢
  have hA : ∀ q : Nat, s.heap.size ≤ q → A q := fun q h => by rw [← hAe]; exact Or.inr h
  have hS : va_S A s.heap s.heap [] := va_S.rf
  have hP : va_P (dC, dI) vwCl (uw_Model ad_md cA_md md) s.heap := hP
  have fl_131 := (hts _ (List.mem_cons_of_mem _ wd_753))
  have fl_17 := (hts _ (List.mem_cons_of_mem _ wd_754))
  have hin_Model : ∀ w ∈ u_ws "HazardTablesModel" F_Model 30, w ∈ w_Model_material := fun w h => List.mem_cons_of_mem _ (hinA_Model w h)
  have ret : ∀ (v : Int32) (u : SModel) (H : Heap) (locs : List Loc) (ls : Array Slot) (pc : Nat), decode b_Model_material pc = .ok (.ireturn, 1) → (v = res.1 ∧ u = res.2) → va_P (dC, dI) vwCl (uw_Model ad_md cA_md u) H → va_D A (uw_Model ad_md cA_md u) → va_S A s.heap H locs → W p l e (headSpec w_Model_material ({ frames := 1, cells := 0, slots := 0, locals := 23 })).room s m ([.ref (ad_md 0), .int x1, .int x2] : List Value).toArray below meth c H locs 0 0 (MQ below (va_Qi (fun (r : Int32) (u : SModel) => r = res.1 ∧ u = res.2) (fun (u : SModel) (t : State) => va_P (dC, dI) vwCl (uw_Model ad_md cA_md u) t.heap ∧ va_K (dC, dI) vwCl [(cA_md 1, .int), (cA_md 2, .int), (cA_md 3, .int), (cA_md 4, .int), (cA_md 5, .int), (cA_md 6, .int), (cA_md 7, .int), (cA_md 8, .int), (cA_md 9, .boolean), (cA_md 10, .int), (cA_md 11, .int), (cA_md 12, .int), (cA_md 13, .int)] t ∧ va_D A (uw_Model ad_md cA_md u)) A) ([.ref (ad_md 0), .int x1, .int x2] : List Value).toArray s 0 0 A) (F0 m pc ls [.int v]) := fun v u H locs ls pc hd hp hP hD hS => W.iret (v := v) hx hb hr (fun t ht hW => ⟨⟨v, u, rfl, hp, by rw [ht]; exact hP, va_K.moved hW.alike hK, hD⟩, hS.F ht⟩) hS.2.2 hd
  generalize (MQ below (va_Qi (fun (r : Int32) (u : SModel) => r = res.1 ∧ u = res.2) (fun (u : SModel) (t : State) => va_P (dC, dI) vwCl (uw_Model ad_md cA_md u) t.heap ∧ va_K (dC, dI) vwCl [(cA_md 1, .int), (cA_md 2, .int), (cA_md 3, .int), (cA_md 4, .int), (cA_md 5, .int), (cA_md 6, .int), (cA_md 7, .int), (cA_md 8, .int), (cA_md 9, .boolean), (cA_md 10, .int), (cA_md 11, .int), (cA_md 12, .int), (cA_md 13, .int)] t ∧ va_D A (uw_Model ad_md cA_md u)) A) ([.ref (ad_md 0), .int x1, .int x2] : List Value).toArray s 0 0 A) = Q at ret ⊢
  have w_46 : ∀ (md : SModel) (y2 : Int32) (y3 : Int32) (z1 : Bool) (H : Heap) (locs : List Loc) (ls : Array Slot), f_Model_material_46 md y2 y3 z1 = some res → va_P (dC, dI) vwCl (uw_Model ad_md cA_md md) H → va_D A (uw_Model ad_md cA_md md) → va_S A s.heap H locs → lv_has ls 4 [(0, .ref (ad_md 0)), (2, .int y2), (3, .int y3)] → W p l e (headSpec w_Model_material ({ frames := 1, cells := 0, slots := 0, locals := 23 })).room s m ([.ref (ad_md 0), .int x1, .int x2] : List Value).toArray below meth c H locs 0 0 Q (F0 m 46 ls [.int (bI z1), .ref (ad_md 0)]) := by
    intro md y2 y3 z1 H locs ls hf hP hD hS hl
    rw [f_Model_material_46] at hf
    refine lv_iconst (v := (1 : Int32)) hx hb d_Model_material_46 (by decide) ?_
    refine lv_iconst (v := (1 : Int32)) hx hb d_Model_material_47 (by decide) ?_
    obtain ⟨u7, hu7, hf⟩ := Option.bind_eq_some_iff.mp hf
    refine cl_i (wc := (uw_Model ad_md cA_md md)) (wr := []) (tysC := [(cA_md 1, .int), (cA_md 2, .int), (cA_md 3, .int), (cA_md 4, .int), (cA_md 5, .int), (cA_md 6, .int), (cA_md 7, .int), (cA_md 8, .int), (cA_md 9, .boolean), (cA_md 10, .int), (cA_md 11, .int), (cA_md 12, .int), (cA_md 13, .int)]) (wu := fun (u : SModel) => (uw_Model ad_md cA_md u)) (wn := fun (u : SModel) => (uw_Model ad_md cA_md u)) [0, 1, 2, 3, 4, 5, 6, 7, 8, 9, 10, 11, 12, 13] [] [0, 1, 2, 3, 4, 5, 6, 7, 8, 9, 10, 11, 12, 13] [0, 1, 2, 3, 4, 5, 6, 7, 8, 9, 10, 11, 12] hP hD hS hA hK rfl rfl (by decide +kernel) (by decide +kernel) (by decide +kernel) rfl (fun _ => rfl) (by decide +kernel) (fun hPc hKc hDc => (va_runV (As := [.int (bI z1), .int (1 : Int32), .int (1 : Int32)]) (rest := []) ⟨hx, hb, hml, hown, hts⟩ (k_Model_goes l dC dI ad_md cA_md H.size md z1 true true u7 hu7) (cwV 3 hts (gV wd_850 wd_852 wd_22 wd_49 wd_853) rfl rfl rfl (by decide +kernel) ⟨Nat.le_of_ble_eq_true rfl, Nat.le_of_ble_eq_true rfl⟩) (cl_preV hPc hKc hDc hN (ci := 6) 0 rfl rfl) rfl rfl hl.1 rfl (lv_room (Nat.le_of_ble_eq_true rfl)) d_Model_material_48 ⟨Nat.le_of_ble_eq_true rfl, Nat.le_of_ble_eq_true rfl⟩)) (fun r u H locs hw hP hD hS => ?_)
    obtain ⟨hw1, hw2⟩ := hw
    have hw1 := hw1.symm
    have hw2 := hw2.symm
    subst hw1
    subst hw2
    have hP : va_P (dC, dI) vwCl (uw_Model ad_md cA_md u7.2) H := hP
    have hD : va_D A (uw_Model ad_md cA_md u7.2) := hD
    refine lv_if_ne (tgt := 56) hx hb d_Model_material_51 (by decide) (fun hc8 => ?_) (fun hc8 => ?_)
    · have hf := hf_f hf hc8
      refine lv_aload_n hx hb d_Model_material_56 rfl (lv_at hl 0 rfl) ?_
      refine va_get (D := (dC, dI)) (ci := 6) (v := .ref (ad_md 2)) (C := "HazardTablesModel") (T := F_Model) (N := 30) hx hb hts hin_Model hown hK hP 0 rfl rfl 6 (by decide) fl_17 (fun _ h9 => h9) rfl d_Model_material_57 ?_
      refine lv_iload_n hx hb d_Model_material_60 rfl (lv_at hl 2 rfl) ?_
      refine lv_bipush (v := (43 : Int32)) hx hb d_Model_material_61 (by decide) ?_
      refine lv_imul hx hb d_Model_material_63 ?_
      refine lv_iload_n hx hb d_Model_material_64 rfl (lv_at hl 1 rfl) ?_
      refine lv_iconst (v := (3 : Int32)) hx hb d_Model_material_65 (by decide) ?_
      refine lv_icmp_ge (tgt := 75) hx hb d_Model_material_66 (by decide) (fun hc9 => ?_) (fun hc9 => ?_)
      · have hf := hf_t hf hc9
        refine lv_iload_n hx hb d_Model_material_75 rfl (lv_at hl 1 rfl) ?_
        refine lv_bipush (v := (7 : Int32)) hx hb d_Model_material_76 (by decide) ?_
        refine lv_icmp_ge (tgt := 89) hx hb d_Model_material_78 (by decide) (fun hc10 => ?_) (fun hc10 => ?_)
        · have hf := hf_t hf hc10
          refine lv_iload_n hx hb d_Model_material_89 rfl (lv_at hl 1 rfl) ?_
          refine lv_bipush (v := (7 : Int32)) hx hb d_Model_material_90 (by decide) ?_
          refine lv_icmp_ne (tgt := 100) hx hb d_Model_material_92 (by decide) (fun hc11 => ?_) (fun hc11 => ?_)
          · have hf := hf_f hf hc11
            refine lv_bipush (v := (9 : Int32)) hx hb d_Model_material_100 (by decide) ?_
            refine lv_iadd hx hb d_Model_material_102 ?_
            obtain ⟨hi12, hf⟩ := hf_g hf
            refine va_iald hx hb hK hP 2 1 rfl rfl hi12 d_Model_material_103 ?_
            exact ret (u7.2.2.2.2.1.2.2 ((y3 * (43 : Int32)) + (9 : Int32)).toNatClampNeg) u7.2 H locs ls 104 d_Model_material_104 (hf_e hf) hP hD hS
          · have hf := hf_t hf hc11
            refine lv_bipush (v := (8 : Int32)) hx hb d_Model_material_95 (by decide) ?_
            refine lv_goto (tgt := 102) hx hb d_Model_material_97 (by decide) ?_
            refine lv_iadd hx hb d_Model_material_102 ?_
            obtain ⟨hi13, hf⟩ := hf_g hf
            refine va_iald hx hb hK hP 2 1 rfl rfl hi13 d_Model_material_103 ?_
            exact ret (u7.2.2.2.2.1.2.2 ((y3 * (43 : Int32)) + (8 : Int32)).toNatClampNeg) u7.2 H locs ls 104 d_Model_material_104 (hf_e hf) hP hD hS
        · have hf := hf_f hf hc10
          refine lv_iconst (v := (4 : Int32)) hx hb d_Model_material_81 (by decide) ?_
          refine lv_iload_n hx hb d_Model_material_82 rfl (lv_at hl 1 rfl) ?_
          refine lv_iadd hx hb d_Model_material_83 ?_
          refine lv_iconst (v := (3 : Int32)) hx hb d_Model_material_84 (by decide) ?_
          refine lv_isub hx hb d_Model_material_85 ?_
          refine lv_goto (tgt := 102) hx hb d_Model_material_86 (by decide) ?_
          refine lv_iadd hx hb d_Model_material_102 ?_
          obtain ⟨hi14, hf⟩ := hf_g hf
          refine va_iald hx hb hK hP 2 1 rfl rfl hi14 d_Model_material_103 ?_
          exact ret (u7.2.2.2.2.1.2.2 ((y3 * (43 : Int32)) + (((4 : Int32) + y2) - (3 : Int32))).toNatClampNeg) u7.2 H locs ls 104 d_Model_material_104 (hf_e hf) hP hD hS
      · have hf := hf_f hf hc9
        refine lv_iconst (v := (1 : Int32)) hx hb d_Model_material_69 (by decide) ?_
        refine lv_iload_n hx hb d_Model_material_70 rfl (lv_at hl 1 rfl) ?_
        refine lv_iadd hx hb d_Model_material_71 ?_
        refine lv_goto (tgt := 102) hx hb d_Model_material_72 (by decide) ?_
        refine lv_iadd hx hb d_Model_material_102 ?_
        obtain ⟨hi15, hf⟩ := hf_g hf
        refine va_iald hx hb hK hP 2 1 rfl rfl hi15 d_Model_material_103 ?_
        exact ret (u7.2.2.2.2.1.2.2 ((y3 * (43 : Int32)) + ((1 : Int32) + y2)).toNatClampNeg) u7.2 H locs ls 104 d_Model_material_104 (hf_e hf) hP hD hS
    · have hf := hf_t hf hc8
      refine lv_iconst (v := (0 : Int32)) hx hb d_Model_material_54 (by decide) ?_
      exact ret (0 : Int32) u7.2 H locs ls 55 d_Model_material_55 (hf_e hf) hP hD hS
  have w_45 : ∀ (md : SModel) (y2 : Int32) (y3 : Int32) (H : Heap) (locs : List Loc) (ls : Array Slot), f_Model_material_45 md y2 y3 = some res → va_P (dC, dI) vwCl (uw_Model ad_md cA_md md) H → va_D A (uw_Model ad_md cA_md md) → va_S A s.heap H locs → lv_has ls 4 [(0, .ref (ad_md 0)), (2, .int y2), (3, .int y3)] → W p l e (headSpec w_Model_material ({ frames := 1, cells := 0, slots := 0, locals := 23 })).room s m ([.ref (ad_md 0), .int x1, .int x2] : List Value).toArray below meth c H locs 0 0 Q (F0 m 45 ls [.ref (ad_md 0)]) := by
    intro md y2 y3 H locs ls hf hP hD hS hl
    rw [f_Model_material_45] at hf
    refine lv_iconst (v := (0 : Int32)) hx hb d_Model_material_45 (by decide) ?_
    exact w_46 md y2 y3 false H locs ls hf hP hD hS (lv_sub hl [0, 1, 2] rfl)
  have w_25 : ∀ (md : SModel) (y2 : Int32) (z0 : Int32) (H : Heap) (locs : List Loc) (ls : Array Slot), f_Model_material_25 md y2 z0 = some res → va_P (dC, dI) vwCl (uw_Model ad_md cA_md md) H → va_D A (uw_Model ad_md cA_md md) → va_S A s.heap H locs → lv_has ls 4 [(0, .ref (ad_md 0)), (2, .int y2)] → W p l e (headSpec w_Model_material ({ frames := 1, cells := 0, slots := 0, locals := 23 })).room s m ([.ref (ad_md 0), .int x1, .int x2] : List Value).toArray below meth c H locs 0 0 Q (F0 m 25 ls [.int z0]) := by
    intro md y2 z0 H locs ls hf hP hD hS hl
    rw [f_Model_material_25] at hf
    refine lv_istore_n (lv' := [(3, .int z0), (0, .ref (ad_md 0)), (2, .int y2)]) hx hb d_Model_material_25 rfl hl (by decide) rfl (fun ls hl => ?_)
    refine lv_aload_n hx hb d_Model_material_26 rfl (lv_at hl 1 rfl) ?_
    refine lv_iload_n hx hb d_Model_material_27 rfl (lv_at hl 0 rfl) ?_
    refine lv_if_lt (tgt := 45) hx hb d_Model_material_28 (by decide) (fun hc4 => ?_) (fun hc4 => ?_)
    · have hf := hf_t hf hc4
      exact w_45 md y2 z0 H locs ls hf hP hD hS (lv_sub hl [1, 2, 0] rfl)
    · have hf := hf_f hf hc4
      refine lv_iload_n hx hb d_Model_material_31 rfl (lv_at hl 2 rfl) ?_
      refine lv_iconst (v := (0 : Int32)) hx hb d_Model_material_32 (by decide) ?_
      refine lv_bipush (v := (8 : Int32)) hx hb d_Model_material_33 (by decide) ?_
      obtain ⟨u5, hu5, hf⟩ := Option.bind_eq_some_iff.mp hf
      refine cl_i (wc := []) (wr := (uw_Model ad_md cA_md md)) (tysC := []) (wu := fun (u : Unit) => []) (wn := fun (u : Unit) => (uw_Model ad_md cA_md md)) [] [0, 1, 2, 3, 4, 5, 6, 7, 8, 9, 10, 11, 12, 13] [0, 1, 2, 3, 4, 5, 6, 7, 8, 9, 10, 11, 12, 13] [] hP hD hS hA hK rfl rfl (by decide +kernel) (by decide +kernel) (by decide +kernel) rfl (fun _ => rfl) (by decide +kernel) (fun hPc hKc hDc => (va_runS (As := [.int y2, .int (0 : Int32), .int (8 : Int32)]) (rest := [.ref (ad_md 0)]) ⟨hx, hb, hml, hown, hts⟩ (k_Model_within l dC dI  H.size y2 (0 : Int32) (8 : Int32) u5 hu5) (cwS 3 hts (gS wd_847 wd_848 wd_49 wd_849) rfl rfl rfl (by decide +kernel) ⟨Nat.le_of_ble_eq_true rfl, Nat.le_of_ble_eq_true rfl⟩) (cl_preS hPc hKc hDc hN) rfl rfl hl.1 rfl (lv_room (Nat.le_of_ble_eq_true rfl)) d_Model_material_35 ⟨Nat.le_of_ble_eq_true rfl, Nat.le_of_ble_eq_true rfl⟩)) (fun r u H locs hw hP hD hS => ?_)
      have hw := hw.symm
      subst hw
      have hP : va_P (dC, dI) vwCl (uw_Model ad_md cA_md md) H := hP
      have hD : va_D A (uw_Model ad_md cA_md md) := hD
      refine lv_if_eq (tgt := 45) hx hb d_Model_material_38 (by decide) (fun hc6 => ?_) (fun hc6 => ?_)
      · have hf := hf_t hf hc6
        exact w_45 md y2 z0 H locs ls hf hP hD hS (lv_sub hl [1, 2, 0] rfl)
      · have hf := hf_f hf hc6
        refine lv_iconst (v := (1 : Int32)) hx hb d_Model_material_41 (by decide) ?_
        refine lv_goto (tgt := 46) hx hb d_Model_material_42 (by decide) ?_
        exact w_46 md y2 z0 true H locs ls hf hP hD hS (lv_sub hl [1, 2, 0] rfl)
  have hl := lv_entry ([.ref (ad_md 0), .int x1, .int x2]) (n := 4) (Nat.le_of_ble_eq_true rfl)
  rw [lg_entry_eq]
  generalize (lg_sl ([.ref (ad_md 0), .int x1, .int x2]) ++ List.replicate (4 - (lg_sl ([.ref (ad_md 0), .int x1, .int x2])).length) Slot.unset).toArray = ls at hl ⊢
  have hl : lv_has ls 4 [(0, .ref (ad_md 0)), (1, .int x1), (2, .int x2)] := hl
  have hf := hf
  rw [f_Model_material] at hf
  obtain ⟨H, hH⟩ : ∃ H : Heap, H = s.heap := ⟨_, rfl⟩
  obtain ⟨locs, hlocs⟩ : ∃ L : List Loc, L = [] := ⟨_, rfl⟩
  have hP : va_P (dC, dI) vwCl (uw_Model ad_md cA_md md) H := by rw [hH]; exact hP
  have hS : va_S A s.heap H locs := by rw [hH, hlocs]; exact hS
  show W p l e (headSpec w_Model_material ({ frames := 1, cells := 0, slots := 0, locals := 23 })).room s m ([.ref (ad_md 0), .int x1, .int x2] : List Value).toArray below meth c s.heap [] 0 0 Q (F0 m 0 ls [])
  suffices hgo : W p l e (headSpec w_Model_material ({ frames := 1, cells := 0, slots := 0, locals := 23 })).room s m ([.ref (ad_md 0), .int x1, .int x2] : List Value).toArray below meth c H locs 0 0 Q (F0 m 0 ls []) by rw [hH, hlocs] at hgo; exact hgo
  clear hH hlocs
  refine lv_iload_n hx hb d_Model_material_0 rfl (lv_at hl 1 rfl) ?_
  refine lv_if_ne (tgt := 20) hx hb d_Model_material_1 (by decide) (fun hc1 => ?_) (fun hc1 => ?_)
  · have hf := hf_f hf hc1
    refine lv_aload_n hx hb d_Model_material_20 rfl (lv_at hl 0 rfl) ?_
    refine lv_iload_n hx hb d_Model_material_21 rfl (lv_at hl 1 rfl) ?_
    obtain ⟨u2, hu2, hf⟩ := Option.bind_eq_some_iff.mp hf
    refine cl_i (wc := (uw_Model ad_md cA_md md)) (wr := []) (tysC := [(cA_md 1, .int), (cA_md 2, .int), (cA_md 3, .int), (cA_md 4, .int), (cA_md 5, .int), (cA_md 6, .int), (cA_md 7, .int), (cA_md 8, .int), (cA_md 9, .boolean), (cA_md 10, .int), (cA_md 11, .int), (cA_md 12, .int), (cA_md 13, .int)]) (wu := fun (u : Unit) => (uw_Model ad_md cA_md md)) (wn := fun (u : Unit) => (uw_Model ad_md cA_md md)) [0, 1, 2, 3, 4, 5, 6, 7, 8, 9, 10, 11, 12, 13] [] [0, 1, 2, 3, 4, 5, 6, 7, 8, 9, 10, 11, 12, 13] [0, 1, 2, 3, 4, 5, 6, 7, 8, 9, 10, 11, 12] hP hD hS hA hK rfl rfl (by decide +kernel) (by decide +kernel) (by decide +kernel) rfl (fun _ => rfl) (by decide +kernel) (fun hPc hKc hDc => (va_runV (As := [.int x1]) (rest := []) ⟨hx, hb, hml, hown, hts⟩ (k_Model_find l dC dI ad_md cA_md H.size md x1 u2 hu2) (cwV 1 hts (gV wd_914 wd_916 wd_34 wd_49 wd_917) rfl rfl rfl (by decide +kernel) ⟨Nat.le_of_ble_eq_true rfl, Nat.le_of_ble_eq_true rfl⟩) (cl_preV hPc hKc hDc hN (ci := 6) 0 rfl rfl) rfl rfl hl.1 rfl (lv_room (Nat.le_of_ble_eq_true rfl)) d_Model_material_22 ⟨Nat.le_of_ble_eq_true rfl, Nat.le_of_ble_eq_true rfl⟩)) (fun r u H locs hw hP hD hS => ?_)
    have hw := hw.symm
    subst hw
    have hP : va_P (dC, dI) vwCl (uw_Model ad_md cA_md md) H := hP
    have hD : va_D A (uw_Model ad_md cA_md md) := hD
    exact w_25 md x2 u2 H locs ls hf hP hD hS (lv_sub hl [0, 2] rfl)
  · have hf := hf_t hf hc1
    refine lv_aload_n hx hb d_Model_material_4 rfl (lv_at hl 0 rfl) ?_
    refine va_get (D := (dC, dI)) (ci := 6) (v := .int (bI md.2.2.2.1.2.1)) (C := "HazardTablesModel") (T := F_Model) (N := 30) hx hb hts hin_Model hown hK hP 0 rfl rfl 5 (by decide) fl_131 (fun _ h9 => h9) rfl d_Model_material_5 ?_
    refine lv_if_eq (tgt := 16) hx hb d_Model_material_8 (by decide) (fun hc3 => ?_) (fun hc3 => ?_)
    · have hf := hf_t hf hc3
      refine lv_iconst (v := (-1 : Int32)) hx hb d_Model_material_16 (by decide) ?_
      refine lv_goto (tgt := 25) hx hb d_Model_material_17 (by decide) ?_
      exact w_25 md x2 (-1 : Int32) H locs ls hf hP hD hS (lv_sub hl [0, 2] rfl)
    · have hf := hf_f hf hc3
      refine lv_bipush (v := (12 : Int32)) hx hb d_Model_material_11 (by decide) ?_
      refine lv_goto (tgt := 25) hx hb d_Model_material_13 (by decide) ?_
      exact w_25 md x2 (12 : Int32) H locs ls hf hP hD hS (lv_sub hl [0, 2] rfl)
noncomputable def f_Model_least (x0 : Int32) (x1 : Int32) : Option (Int32) :=
  (if x1 ≤ x0 then
    (some (x1))
   else
    (some (x0))
   )
set_option maxHeartbeats 4000000 in
set_option maxRecDepth 100000 in
theorem k_Model_least (l : Launch) (dC : Nat → ClassId) (dI : Nat → Nat → Nat)  (sz : Nat) (x0 : Int32) (x1 : Int32) (res : Int32) (hf : f_Model_least x0 x1 = some res) : Met l y_Model_least w_Model_least ({ frames := 0, cells := 0, slots := 0, locals := 0 }) (cPc (dC, dI) [] [] sz [.int x0, .int x1]) (va_Qi (fun (r : Int32) (u : Unit) => r = res) (fun (u : Unit) (t : State) => va_P (dC, dI) vwCl [] t.heap ∧ va_K (dC, dI) vwCl [] t ∧ va_D (va_A [] sz) []) (va_A [] sz)) 0 0 (va_A [] sz) := by
  refine Met.ofW (cc := b_Model_least) (maxL := 2) (ret := (some .int)) (by decide) rfl ?_
  intro p e s m args below meth c s₁ B hml hv
  obtain ⟨rfl, hsz, hP, hK, hD0, hN⟩ := hv
  have hx := B.exec
  have hb := B.bytes
  have hr := B.returns
  have hts := atoms_spec (ws := w_Model_least) B.pre
  have hown : s.vm.findClass "HazardTablesModel" = some m.cls := findClass_of_methodNamed B.named
  have hlocks := B.notSynchronized
  subst hsz
  have hD := hD0.self (sz := s.heap.size)
  generalize hAe : va_A [] s.heap.size = A at hD ⊢
  have hA : ∀ q : Nat, s.heap.size ≤ q → A q := fun q h => by rw [← hAe]; exact Or.inr h
  have hS : va_S A s.heap s.heap [] := va_S.rf
  have hP : va_P (dC, dI) vwCl [] s.heap := hP
  have ret : ∀ (v : Int32) (u : Unit) (H : Heap) (locs : List Loc) (ls : Array Slot) (pc : Nat), decode b_Model_least pc = .ok (.ireturn, 1) → (v = res) → va_P (dC, dI) vwCl [] H → va_D A [] → va_S A s.heap H locs → W p l e (headSpec w_Model_least ({ frames := 0, cells := 0, slots := 0, locals := 0 })).room s m ([.int x0, .int x1] : List Value).toArray below meth c H locs 0 0 (MQ below (va_Qi (fun (r : Int32) (u : Unit) => r = res) (fun (u : Unit) (t : State) => va_P (dC, dI) vwCl [] t.heap ∧ va_K (dC, dI) vwCl [] t ∧ va_D A []) A) ([.int x0, .int x1] : List Value).toArray s 0 0 A) (F0 m pc ls [.int v]) := fun v u H locs ls pc hd hp hP hD hS => W.iret (v := v) hx hb hr (fun t ht hW => ⟨⟨v, u, rfl, hp, by rw [ht]; exact hP, va_K.moved hW.alike hK, hD⟩, hS.F ht⟩) hS.2.2 hd
  generalize (MQ below (va_Qi (fun (r : Int32) (u : Unit) => r = res) (fun (u : Unit) (t : State) => va_P (dC, dI) vwCl [] t.heap ∧ va_K (dC, dI) vwCl [] t ∧ va_D A []) A) ([.int x0, .int x1] : List Value).toArray s 0 0 A) = Q at ret ⊢
  have hl := lv_entry ([.int x0, .int x1]) (n := 2) (Nat.le_of_ble_eq_true rfl)
  rw [lg_entry_eq]
  generalize (lg_sl ([.int x0, .int x1]) ++ List.replicate (2 - (lg_sl ([.int x0, .int x1])).length) Slot.unset).toArray = ls at hl ⊢
  have hl : lv_has ls 2 [(0, .int x0), (1, .int x1)] := hl
  have hf := hf
  rw [f_Model_least] at hf
  obtain ⟨H, hH⟩ : ∃ H : Heap, H = s.heap := ⟨_, rfl⟩
  obtain ⟨locs, hlocs⟩ : ∃ L : List Loc, L = [] := ⟨_, rfl⟩
  have hP : va_P (dC, dI) vwCl [] H := by rw [hH]; exact hP
  have hS : va_S A s.heap H locs := by rw [hH, hlocs]; exact hS
  show W p l e (headSpec w_Model_least ({ frames := 0, cells := 0, slots := 0, locals := 0 })).room s m ([.int x0, .int x1] : List Value).toArray below meth c s.heap [] 0 0 Q (F0 m 0 ls [])
  suffices hgo : W p l e (headSpec w_Model_least ({ frames := 0, cells := 0, slots := 0, locals := 0 })).room s m ([.int x0, .int x1] : List Value).toArray below meth c H locs 0 0 Q (F0 m 0 ls []) by rw [hH, hlocs] at hgo; exact hgo
  clear hH hlocs
  refine lv_iload_n hx hb d_Model_least_0 rfl (lv_at hl 0 rfl) ?_
  refine lv_iload_n hx hb d_Model_least_1 rfl (lv_at hl 1 rfl) ?_
  refine lv_icmp_ge (tgt := 9) hx hb d_Model_least_2 (by decide) (fun hc1 => ?_) (fun hc1 => ?_)
  · have hf := hf_t hf hc1
    refine lv_iload_n hx hb d_Model_least_9 rfl (lv_at hl 1 rfl) ?_
    exact ret x1 () H locs ls 10 d_Model_least_10 (Option.some.inj hf) hP hD hS
  · have hf := hf_f hf hc1
    refine lv_iload_n hx hb d_Model_least_5 rfl (lv_at hl 0 rfl) ?_
    refine lv_goto (tgt := 10) hx hb d_Model_least_6 (by decide) ?_
    exact ret x0 () H locs ls 10 d_Model_least_10 (Option.some.inj hf) hP hD hS
noncomputable def f_Model_apart_125 (k_9 : SModel → Int32 → Int32 → Int32 → Option (Int32 × SModel)) (k_20 : SModel → Int32 → Int32 → Int32 → Int32 → Option (Int32 × SModel)) (md : SModel) (y1 : Int32) (y2 : Int32) (y3 : Int32) (y4 : Int32) (y5 : Int32) : Option (Int32 × SModel) :=
  (if inb ((y3 * (11 : Int32)) + y4) 99 then
    (k_20 (md.1, md.2.1, md.2.2.1, md.2.2.2.1, md.2.2.2.2.1, md.2.2.2.2.2.1, md.2.2.2.2.2.2.1, md.2.2.2.2.2.2.2.1, (md.2.2.2.2.2.2.2.2.1, md.2.2.2.2.2.2.2.2.2.1, upd md.2.2.2.2.2.2.2.2.2.2 ((y3 * (11 : Int32)) + y4).toNatClampNeg y5)) y1 y2 y3 (y4 + (1 : Int32)))
   else none)
noncomputable def f_Model_apart_82 (k_9 : SModel → Int32 → Int32 → Int32 → Option (Int32 × SModel)) (k_20 : SModel → Int32 → Int32 → Int32 → Int32 → Option (Int32 × SModel)) (md : SModel) (y1 : Int32) (y2 : Int32) (y3 : Int32) (y4 : Int32) (z0 : Int32) (z1 : Bool) : Option (Int32 × SModel) :=
  (if inb (((y3 - (1 : Int32)) * (11 : Int32)) + y4) 99 then
    (if inb (((y3 * (11 : Int32)) + y4) - (1 : Int32)) 99 then
      (Option.bind (f_Model_least (md.2.2.2.2.2.2.2.2.2.2 (((y3 - (1 : Int32)) * (11 : Int32)) + y4).toNatClampNeg) (md.2.2.2.2.2.2.2.2.2.2 (((y3 * (11 : Int32)) + y4) - (1 : Int32)).toNatClampNeg)) fun u14 =>
        (Option.bind (f_Model_least (z0 + (bI z1)) (u14 + (1 : Int32))) fun u15 =>
          (f_Model_apart_125 k_9 k_20 md y1 y2 y3 y4 u15)
         )
       )
     else none)
   else none)
noncomputable def f_Model_apart_20 (k_9 : SModel → Int32 → Int32 → Int32 → Option (Int32 × SModel)) : Nat → SModel → Int32 → Int32 → Int32 → Int32 → Option (Int32 × SModel)
  | 0, _, _, _, _, _ => none
  | n + 1, md, y1, y2, y3, y4 =>
    (if y2 < y4 then
      (k_9 md y1 y2 (y3 + (1 : Int32)))
     else
      (if y3 ≤ 0 then
        (f_Model_apart_125 k_9 (f_Model_apart_20 k_9 n) md y1 y2 y3 y4 (y3 + y4))
       else
        (if y4 ≤ 0 then
          (f_Model_apart_125 k_9 (f_Model_apart_20 k_9 n) md y1 y2 y3 y4 (y3 + y4))
         else
          (if inb ((((y3 - (1 : Int32)) * (11 : Int32)) + y4) - (1 : Int32)) 99 then
            (if inb (y3 - (1 : Int32)) 8 then
              (if inb (y1 + y4) 559 then
                (if (md.2.2.2.2.2.2.2.2.2.1 (y3 - (1 : Int32)).toNatClampNeg) = (md.2.2.2.1.2.2 (y1 + y4).toNatClampNeg) then
                  (f_Model_apart_82 k_9 (f_Model_apart_20 k_9 n) md y1 y2 y3 y4 (md.2.2.2.2.2.2.2.2.2.2 ((((y3 - (1 : Int32)) * (11 : Int32)) + y4) - (1 : Int32)).toNatClampNeg) false)
                 else
                  (f_Model_apart_82 k_9 (f_Model_apart_20 k_9 n) md y1 y2 y3 y4 (md.2.2.2.2.2.2.2.2.2.2 ((((y3 - (1 : Int32)) * (11 : Int32)) + y4) - (1 : Int32)).toNatClampNeg) true)
                 )
               else none)
             else none)
           else none)
         )
       )
     )
noncomputable def f_Model_apart_9  : Nat → SModel → Int32 → Int32 → Int32 → Option (Int32 × SModel)
  | 0, _, _, _, _ => none
  | n + 1, md, y1, y2, y3 =>
    (if md.2.2.2.2.2.2.2.2.1 < y3 then
      (if inb ((md.2.2.2.2.2.2.2.2.1 * (11 : Int32)) + y2) 99 then
        (some (md.2.2.2.2.2.2.2.2.2.2 ((md.2.2.2.2.2.2.2.2.1 * (11 : Int32)) + y2).toNatClampNeg, md))
       else none)
     else
      (f_Model_apart_20 (f_Model_apart_9 n) 4096 md y1 y2 y3 (0 : Int32))
     )
noncomputable def f_Model_apart (md : SModel) (x1 : Int32) : Option (Int32 × SModel) :=
  (if inb x1 559 then
    (f_Model_apart_9 4096 md x1 (md.2.2.2.1.2.2 x1.toNatClampNeg) (0 : Int32))
   else none)
set_option maxHeartbeats 4000000 in
set_option maxRecDepth 100000 in
theorem k_Model_apart (l : Launch) (dC : Nat → ClassId) (dI : Nat → Nat → Nat) (ad_md : Nat → Nat) (cA_md : Nat → ClassId) (sz : Nat) (md : SModel) (x1 : Int32) (res : Int32 × SModel) (hf : f_Model_apart md x1 = some res) : Met l y_Model_apart w_Model_apart ({ frames := 1, cells := 0, slots := 0, locals := 21 }) (cPc (dC, dI) (uw_Model ad_md cA_md md) [(cA_md 1, .int), (cA_md 2, .int), (cA_md 3, .int), (cA_md 4, .int), (cA_md 5, .int), (cA_md 6, .int), (cA_md 7, .int), (cA_md 8, .int), (cA_md 9, .boolean), (cA_md 10, .int), (cA_md 11, .int), (cA_md 12, .int), (cA_md 13, .int)] sz [.ref (ad_md 0), .int x1]) (va_Qi (fun (r : Int32) (u : SModel) => r = res.1 ∧ u = res.2) (fun (u : SModel) (t : State) => va_P (dC, dI) vwCl (uw_Model ad_md cA_md u) t.heap ∧ va_K (dC, dI) vwCl [(cA_md 1, .int), (cA_md 2, .int), (cA_md 3, .int), (cA_md 4, .int), (cA_md 5, .int), (cA_md 6, .int), (cA_md 7, .int), (cA_md 8, .int), (cA_md 9, .boolean), (cA_md 10, .int), (cA_md 11, .int), (cA_md 12, .int), (cA_md 13, .int)] t ∧ va_D (va_A (uw_Model ad_md cA_md md) sz) (uw_Model ad_md cA_md u)) (va_A (uw_Model ad_md cA_md md) sz)) 0 0 (va_A (uw_Model ad_md cA_md md) sz) := by
  refine Met.ofW (cc := b_Model_apart) (maxL := 6) (ret := (some .int)) (by decide) rfl ?_
  intro p e s m args below meth c s₁ B hml hv
  obtain ⟨rfl, hsz, hP, hK, hD0, hN⟩ := hv
  have hx := B.exec
  have hb := B.bytes
  have hr := B.returns
  have hts := atoms_spec (ws := w_Model_apart) B.pre
  have hown : s.vm.findClass "HazardTablesModel" = some m.cls := findClass_of_methodNamed B.named
  have hlocks := B.notSynchronized
  subst hsz
  have hD := hD0.self (sz := s.heap.size)
  generalize hAe : va_A (uw_Model ad_md cA_md md) s.heap.size = A at hD ⊢
  have hA : ∀ q : Nat, s.heap.size ≤ q → A q := fun q h => by rw [← hAe]; exact Or.inr h
  have hS : va_S A s.heap s.heap [] := va_S.rf
  have hP : va_P (dC, dI) vwCl (uw_Model ad_md cA_md md) s.heap := hP
  have fl_134 := (hts _ (List.mem_cons_of_mem _ wd_775))
  have fl_17 := (hts _ (List.mem_cons_of_mem _ wd_754))
  have fl_58 := (hts _ (List.mem_cons_of_mem _ wd_776))
  have fl_61 := (hts _ (List.mem_cons_of_mem _ wd_777))
  have hin_Model : ∀ w ∈ u_ws "HazardTablesModel" F_Model 30, w ∈ w_Model_apart := fun w h => List.mem_cons_of_mem _ (hinA_Model w h)
  have ret : ∀ (v : Int32) (u : SModel) (H : Heap) (locs : List Loc) (ls : Array Slot) (pc : Nat), decode b_Model_apart pc = .ok (.ireturn, 1) → (v = res.1 ∧ u = res.2) → va_P (dC, dI) vwCl (uw_Model ad_md cA_md u) H → va_D A (uw_Model ad_md cA_md u) → va_S A s.heap H locs → W p l e (headSpec w_Model_apart ({ frames := 1, cells := 0, slots := 0, locals := 21 })).room s m ([.ref (ad_md 0), .int x1] : List Value).toArray below meth c H locs 0 0 (MQ below (va_Qi (fun (r : Int32) (u : SModel) => r = res.1 ∧ u = res.2) (fun (u : SModel) (t : State) => va_P (dC, dI) vwCl (uw_Model ad_md cA_md u) t.heap ∧ va_K (dC, dI) vwCl [(cA_md 1, .int), (cA_md 2, .int), (cA_md 3, .int), (cA_md 4, .int), (cA_md 5, .int), (cA_md 6, .int), (cA_md 7, .int), (cA_md 8, .int), (cA_md 9, .boolean), (cA_md 10, .int), (cA_md 11, .int), (cA_md 12, .int), (cA_md 13, .int)] t ∧ va_D A (uw_Model ad_md cA_md u)) A) ([.ref (ad_md 0), .int x1] : List Value).toArray s 0 0 A) (F0 m pc ls [.int v]) := fun v u H locs ls pc hd hp hP hD hS => W.iret (v := v) hx hb hr (fun t ht hW => ⟨⟨v, u, rfl, hp, by rw [ht]; exact hP, va_K.moved hW.alike hK, hD⟩, hS.F ht⟩) hS.2.2 hd
  generalize (MQ below (va_Qi (fun (r : Int32) (u : SModel) => r = res.1 ∧ u = res.2) (fun (u : SModel) (t : State) => va_P (dC, dI) vwCl (uw_Model ad_md cA_md u) t.heap ∧ va_K (dC, dI) vwCl [(cA_md 1, .int), (cA_md 2, .int), (cA_md 3, .int), (cA_md 4, .int), (cA_md 5, .int), (cA_md 6, .int), (cA_md 7, .int), (cA_md 8, .int), (cA_md 9, .boolean), (cA_md 10, .int), (cA_md 11, .int), (cA_md 12, .int), (cA_md 13, .int)] t ∧ va_D A (uw_Model ad_md cA_md u)) A) ([.ref (ad_md 0), .int x1] : List Value).toArray s 0 0 A) = Q at ret ⊢
  have w_125 : ∀ (k_9 : SModel → Int32 → Int32 → Int32 → Option (Int32 × SModel)), (∀ (md : SModel) (y1 : Int32) (y2 : Int32) (y3 : Int32) (H : Heap) (locs : List Loc) (ls : Array Slot), k_9 md y1 y2 y3 = some res → va_P (dC, dI) vwCl (uw_Model ad_md cA_md md) H → va_D A (uw_Model ad_md cA_md md) → va_S A s.heap H locs → lv_has ls 6 [(0, .ref (ad_md 0)), (1, .int y1), (2, .int y2), (3, .int y3)] → W p l e (headSpec w_Model_apart ({ frames := 1, cells := 0, slots := 0, locals := 21 })).room s m ([.ref (ad_md 0), .int x1] : List Value).toArray below meth c H locs 0 0 Q (F0 m 9 ls [])) → ∀ (k_20 : SModel → Int32 → Int32 → Int32 → Int32 → Option (Int32 × SModel)), (∀ (md : SModel) (y1 : Int32) (y2 : Int32) (y3 : Int32) (y4 : Int32) (H : Heap) (locs : List Loc) (ls : Array Slot), k_20 md y1 y2 y3 y4 = some res → va_P (dC, dI) vwCl (uw_Model ad_md cA_md md) H → va_D A (uw_Model ad_md cA_md md) → va_S A s.heap H locs → lv_has ls 6 [(0, .ref (ad_md 0)), (1, .int y1), (2, .int y2), (3, .int y3), (4, .int y4)] → W p l e (headSpec w_Model_apart ({ frames := 1, cells := 0, slots := 0, locals := 21 })).room s m ([.ref (ad_md 0), .int x1] : List Value).toArray below meth c H locs 0 0 Q (F0 m 20 ls [])) → ∀ (md : SModel) (y1 : Int32) (y2 : Int32) (y3 : Int32) (y4 : Int32) (y5 : Int32) (H : Heap) (locs : List Loc) (ls : Array Slot), f_Model_apart_125 k_9 k_20 md y1 y2 y3 y4 y5 = some res → va_P (dC, dI) vwCl (uw_Model ad_md cA_md md) H → va_D A (uw_Model ad_md cA_md md) → va_S A s.heap H locs → lv_has ls 6 [(0, .ref (ad_md 0)), (1, .int y1), (2, .int y2), (3, .int y3), (4, .int y4), (5, .int y5)] → W p l e (headSpec w_Model_apart ({ frames := 1, cells := 0, slots := 0, locals := 21 })).room s m ([.ref (ad_md 0), .int x1] : List Value).toArray below meth c H locs 0 0 Q (F0 m 125 ls []) := by
    intro k_9 hk_9 k_20 hk_20
    intro md y1 y2 y3 y4 y5 H locs ls hf hP hD hS hl
    rw [f_Model_apart_125] at hf
    refine lv_aload_n hx hb d_Model_apart_125 rfl (lv_at hl 0 rfl) ?_
    refine va_get (D := (dC, dI)) (ci := 6) (v := .ref (ad_md 13)) (C := "HazardTablesModel") (T := F_Model) (N := 30) hx hb hts hin_Model hown hK hP 0 rfl rfl 29 (by decide) fl_61 (fun _ h9 => h9) rfl d_Model_apart_126 ?_
    refine lv_iload_n hx hb d_Model_apart_129 rfl (lv_at hl 3 rfl) ?_
    refine lv_bipush (v := (11 : Int32)) hx hb d_Model_apart_130 (by decide) ?_
    refine lv_imul hx hb d_Model_apart_132 ?_
    refine lv_iload hx hb d_Model_apart_133 (lv_at hl 4 rfl) ?_
    refine lv_iadd hx hb d_Model_apart_135 ?_
    refine lv_iload hx hb d_Model_apart_136 (lv_at hl 5 rfl) ?_
    obtain ⟨hi11, hf⟩ := hf_g hf
    refine va_iast hx hb hK hP hD hS 13 12 rfl rfl hi11 d_Model_apart_138 (fun H locs hP hD hS => ?_)
    have hP : va_P (dC, dI) vwCl (uw_Model ad_md cA_md (md.1, md.2.1, md.2.2.1, md.2.2.2.1, md.2.2.2.2.1, md.2.2.2.2.2.1, md.2.2.2.2.2.2.1, md.2.2.2.2.2.2.2.1, (md.2.2.2.2.2.2.2.2.1, md.2.2.2.2.2.2.2.2.2.1, upd md.2.2.2.2.2.2.2.2.2.2 ((y3 * (11 : Int32)) + y4).toNatClampNeg y5))) H := hP
    have hD : va_D A (uw_Model ad_md cA_md (md.1, md.2.1, md.2.2.1, md.2.2.2.1, md.2.2.2.2.1, md.2.2.2.2.2.1, md.2.2.2.2.2.2.1, md.2.2.2.2.2.2.2.1, (md.2.2.2.2.2.2.2.2.1, md.2.2.2.2.2.2.2.2.2.1, upd md.2.2.2.2.2.2.2.2.2.2 ((y3 * (11 : Int32)) + y4).toNatClampNeg y5))) := hD
    refine lv_iinc (v := y4 + (1 : Int32)) (lv' := [(4, .int (y4 + (1 : Int32))), (0, .ref (ad_md 0)), (1, .int y1), (2, .int y2), (3, .int y3), (5, .int y5)]) hx hb d_Model_apart_139 hl (k := 4) rfl rfl (by decide) rfl (fun ls hl => ?_)
    refine lv_goto (tgt := 20) hx hb d_Model_apart_142 (by decide) ?_
    exact hk_20 (md.1, md.2.1, md.2.2.1, md.2.2.2.1, md.2.2.2.2.1, md.2.2.2.2.2.1, md.2.2.2.2.2.2.1, md.2.2.2.2.2.2.2.1, (md.2.2.2.2.2.2.2.2.1, md.2.2.2.2.2.2.2.2.2.1, upd md.2.2.2.2.2.2.2.2.2.2 ((y3 * (11 : Int32)) + y4).toNatClampNeg y5)) y1 y2 y3 (y4 + (1 : Int32)) H locs ls hf hP hD hS (lv_sub hl [1, 2, 3, 4, 0] rfl)
  have w_82 : ∀ (k_9 : SModel → Int32 → Int32 → Int32 → Option (Int32 × SModel)), (∀ (md : SModel) (y1 : Int32) (y2 : Int32) (y3 : Int32) (H : Heap) (locs : List Loc) (ls : Array Slot), k_9 md y1 y2 y3 = some res → va_P (dC, dI) vwCl (uw_Model ad_md cA_md md) H → va_D A (uw_Model ad_md cA_md md) → va_S A s.heap H locs → lv_has ls 6 [(0, .ref (ad_md 0)), (1, .int y1), (2, .int y2), (3, .int y3)] → W p l e (headSpec w_Model_apart ({ frames := 1, cells := 0, slots := 0, locals := 21 })).room s m ([.ref (ad_md 0), .int x1] : List Value).toArray below meth c H locs 0 0 Q (F0 m 9 ls [])) → ∀ (k_20 : SModel → Int32 → Int32 → Int32 → Int32 → Option (Int32 × SModel)), (∀ (md : SModel) (y1 : Int32) (y2 : Int32) (y3 : Int32) (y4 : Int32) (H : Heap) (locs : List Loc) (ls : Array Slot), k_20 md y1 y2 y3 y4 = some res → va_P (dC, dI) vwCl (uw_Model ad_md cA_md md) H → va_D A (uw_Model ad_md cA_md md) → va_S A s.heap H locs → lv_has ls 6 [(0, .ref (ad_md 0)), (1, .int y1), (2, .int y2), (3, .int y3), (4, .int y4)] → W p l e (headSpec w_Model_apart ({ frames := 1, cells := 0, slots := 0, locals := 21 })).room s m ([.ref (ad_md 0), .int x1] : List Value).toArray below meth c H locs 0 0 Q (F0 m 20 ls [])) → ∀ (md : SModel) (y1 : Int32) (y2 : Int32) (y3 : Int32) (y4 : Int32) (z0 : Int32) (z1 : Bool) (H : Heap) (locs : List Loc) (ls : Array Slot), f_Model_apart_82 k_9 k_20 md y1 y2 y3 y4 z0 z1 = some res → va_P (dC, dI) vwCl (uw_Model ad_md cA_md md) H → va_D A (uw_Model ad_md cA_md md) → va_S A s.heap H locs → lv_has ls 6 [(0, .ref (ad_md 0)), (1, .int y1), (2, .int y2), (3, .int y3), (4, .int y4)] → W p l e (headSpec w_Model_apart ({ frames := 1, cells := 0, slots := 0, locals := 21 })).room s m ([.ref (ad_md 0), .int x1] : List Value).toArray below meth c H locs 0 0 Q (F0 m 82 ls [.int (bI z1), .int z0]) := by
    intro k_9 hk_9 k_20 hk_20
    intro md y1 y2 y3 y4 z0 z1 H locs ls hf hP hD hS hl
    rw [f_Model_apart_82] at hf
    refine lv_iadd hx hb d_Model_apart_82 ?_
    refine lv_istore (lv' := [(5, .int (z0 + (bI z1))), (0, .ref (ad_md 0)), (1, .int y1), (2, .int y2), (3, .int y3), (4, .int y4)]) hx hb d_Model_apart_83 hl (by decide) rfl (fun ls hl => ?_)
    refine lv_iload hx hb d_Model_apart_85 (lv_at hl 0 rfl) ?_
    refine lv_aload_n hx hb d_Model_apart_87 rfl (lv_at hl 1 rfl) ?_
    refine va_get (D := (dC, dI)) (ci := 6) (v := .ref (ad_md 13)) (C := "HazardTablesModel") (T := F_Model) (N := 30) hx hb hts hin_Model hown hK hP 0 rfl rfl 29 (by decide) fl_61 (fun _ h9 => h9) rfl d_Model_apart_88 ?_
    refine lv_iload_n hx hb d_Model_apart_91 rfl (lv_at hl 4 rfl) ?_
    refine lv_iconst (v := (1 : Int32)) hx hb d_Model_apart_92 (by decide) ?_
    refine lv_isub hx hb d_Model_apart_93 ?_
    refine lv_bipush (v := (11 : Int32)) hx hb d_Model_apart_94 (by decide) ?_
    refine lv_imul hx hb d_Model_apart_96 ?_
    refine lv_iload hx hb d_Model_apart_97 (lv_at hl 5 rfl) ?_
    refine lv_iadd hx hb d_Model_apart_99 ?_
    obtain ⟨hi12, hf⟩ := hf_g hf
    refine va_iald hx hb hK hP 13 12 rfl rfl hi12 d_Model_apart_100 ?_
    refine lv_aload_n hx hb d_Model_apart_101 rfl (lv_at hl 1 rfl) ?_
    refine va_get (D := (dC, dI)) (ci := 6) (v := .ref (ad_md 13)) (C := "HazardTablesModel") (T := F_Model) (N := 30) hx hb hts hin_Model hown hK hP 0 rfl rfl 29 (by decide) fl_61 (fun _ h9 => h9) rfl d_Model_apart_102 ?_
    refine lv_iload_n hx hb d_Model_apart_105 rfl (lv_at hl 4 rfl) ?_
    refine lv_bipush (v := (11 : Int32)) hx hb d_Model_apart_106 (by decide) ?_
    refine lv_imul hx hb d_Model_apart_108 ?_
    refine lv_iload hx hb d_Model_apart_109 (lv_at hl 5 rfl) ?_
    refine lv_iadd hx hb d_Model_apart_111 ?_
    refine lv_iconst (v := (1 : Int32)) hx hb d_Model_apart_112 (by decide) ?_
    refine lv_isub hx hb d_Model_apart_113 ?_
    obtain ⟨hi13, hf⟩ := hf_g hf
    refine va_iald hx hb hK hP 13 12 rfl rfl hi13 d_Model_apart_114 ?_
    obtain ⟨u14, hu14, hf⟩ := Option.bind_eq_some_iff.mp hf
    refine cl_i (wc := []) (wr := (uw_Model ad_md cA_md md)) (tysC := []) (wu := fun (u : Unit) => []) (wn := fun (u : Unit) => (uw_Model ad_md cA_md md)) [] [0, 1, 2, 3, 4, 5, 6, 7, 8, 9, 10, 11, 12, 13] [0, 1, 2, 3, 4, 5, 6, 7, 8, 9, 10, 11, 12, 13] [] hP hD hS hA hK rfl rfl (by decide +kernel) (by decide +kernel) (by decide +kernel) rfl (fun _ => rfl) (by decide +kernel) (fun hPc hKc hDc => (va_runS (As := [.int (md.2.2.2.2.2.2.2.2.2.2 (((y3 - (1 : Int32)) * (11 : Int32)) + y4).toNatClampNeg), .int (md.2.2.2.2.2.2.2.2.2.2 (((y3 * (11 : Int32)) + y4) - (1 : Int32)).toNatClampNeg)]) (rest := [.int (z0 + (bI z1))]) ⟨hx, hb, hml, hown, hts⟩ (k_Model_least l dC dI  H.size (md.2.2.2.2.2.2.2.2.2.2 (((y3 - (1 : Int32)) * (11 : Int32)) + y4).toNatClampNeg) (md.2.2.2.2.2.2.2.2.2.2 (((y3 * (11 : Int32)) + y4) - (1 : Int32)).toNatClampNeg) u14 hu14) (cwS 2 hts (gS wd_934 wd_935 wd_49 wd_936) rfl rfl rfl (by decide +kernel) ⟨Nat.le_of_ble_eq_true rfl, Nat.le_of_ble_eq_true rfl⟩) (cl_preS hPc hKc hDc hN) rfl rfl hl.1 rfl (lv_room (Nat.le_of_ble_eq_true rfl)) d_Model_apart_115 ⟨Nat.le_of_ble_eq_true rfl, Nat.le_of_ble_eq_true rfl⟩)) (fun r u H locs hw hP hD hS => ?_)
    have hw := hw.symm
    subst hw
    have hP : va_P (dC, dI) vwCl (uw_Model ad_md cA_md md) H := hP
    have hD : va_D A (uw_Model ad_md cA_md md) := hD
    refine lv_iconst (v := (1 : Int32)) hx hb d_Model_apart_118 (by decide) ?_
    refine lv_iadd hx hb d_Model_apart_119 ?_
    obtain ⟨u15, hu15, hf⟩ := Option.bind_eq_some_iff.mp hf
    refine cl_i (wc := []) (wr := (uw_Model ad_md cA_md md)) (tysC := []) (wu := fun (u : Unit) => []) (wn := fun (u : Unit) => (uw_Model ad_md cA_md md)) [] [0, 1, 2, 3, 4, 5, 6, 7, 8, 9, 10, 11, 12, 13] [0, 1, 2, 3, 4, 5, 6, 7, 8, 9, 10, 11, 12, 13] [] hP hD hS hA hK rfl rfl (by decide +kernel) (by decide +kernel) (by decide +kernel) rfl (fun _ => rfl) (by decide +kernel) (fun hPc hKc hDc => (va_runS (As := [.int (z0 + (bI z1)), .int (u14 + (1 : Int32))]) (rest := []) ⟨hx, hb, hml, hown, hts⟩ (k_Model_least l dC dI  H.size (z0 + (bI z1)) (u14 + (1 : Int32)) u15 hu15) (cwS 2 hts (gS wd_934 wd_935 wd_49 wd_936) rfl rfl rfl (by decide +kernel) ⟨Nat.le_of_ble_eq_true rfl, Nat.le_of_ble_eq_true rfl⟩) (cl_preS hPc hKc hDc hN) rfl rfl hl.1 rfl (lv_room (Nat.le_of_ble_eq_true rfl)) d_Model_apart_120 ⟨Nat.le_of_ble_eq_true rfl, Nat.le_of_ble_eq_true rfl⟩)) (fun r u H locs hw hP hD hS => ?_)
    have hw := hw.symm
    subst hw
    have hP : va_P (dC, dI) vwCl (uw_Model ad_md cA_md md) H := hP
    have hD : va_D A (uw_Model ad_md cA_md md) := hD
    refine lv_istore (lv' := [(5, .int u15), (0, .ref (ad_md 0)), (1, .int y1), (2, .int y2), (3, .int y3), (4, .int y4)]) hx hb d_Model_apart_123 hl (by decide) rfl (fun ls hl => ?_)
    exact w_125 k_9 hk_9 k_20 hk_20 md y1 y2 y3 y4 u15 H locs ls hf hP hD hS (lv_sub hl [1, 2, 3, 4, 5, 0] rfl)
  have w_20 : ∀ (k_9 : SModel → Int32 → Int32 → Int32 → Option (Int32 × SModel)), (∀ (md : SModel) (y1 : Int32) (y2 : Int32) (y3 : Int32) (H : Heap) (locs : List Loc) (ls : Array Slot), k_9 md y1 y2 y3 = some res → va_P (dC, dI) vwCl (uw_Model ad_md cA_md md) H → va_D A (uw_Model ad_md cA_md md) → va_S A s.heap H locs → lv_has ls 6 [(0, .ref (ad_md 0)), (1, .int y1), (2, .int y2), (3, .int y3)] → W p l e (headSpec w_Model_apart ({ frames := 1, cells := 0, slots := 0, locals := 21 })).room s m ([.ref (ad_md 0), .int x1] : List Value).toArray below meth c H locs 0 0 Q (F0 m 9 ls [])) → ∀ (n : Nat) (md : SModel) (y1 : Int32) (y2 : Int32) (y3 : Int32) (y4 : Int32) (H : Heap) (locs : List Loc) (ls : Array Slot), f_Model_apart_20 k_9 n md y1 y2 y3 y4 = some res → va_P (dC, dI) vwCl (uw_Model ad_md cA_md md) H → va_D A (uw_Model ad_md cA_md md) → va_S A s.heap H locs → lv_has ls 6 [(0, .ref (ad_md 0)), (1, .int y1), (2, .int y2), (3, .int y3), (4, .int y4)] → W p l e (headSpec w_Model_apart ({ frames := 1, cells := 0, slots := 0, locals := 21 })).room s m ([.ref (ad_md 0), .int x1] : List Value).toArray below meth c H locs 0 0 Q (F0 m 20 ls []) := by
    intro k_9 hk_9
    intro n
    induction n with
    | zero =>
      intro md y1 y2 y3 y4 H locs ls hf hP hD hS hl
      rw [f_Model_apart_20] at hf; cases hf
    | succ n ih =>
      intro md y1 y2 y3 y4 H locs ls hf hP hD hS hl
      rw [f_Model_apart_20] at hf
      refine lv_iload hx hb d_Model_apart_20 (lv_at hl 4 rfl) ?_
      refine lv_iload_n hx hb d_Model_apart_22 rfl (lv_at hl 2 rfl) ?_
      refine lv_icmp_gt (tgt := 145) hx hb d_Model_apart_23 (by decide) (fun hc4 => ?_) (fun hc4 => ?_)
      · have hf := hf_t hf hc4
        refine lv_iinc (v := y3 + (1 : Int32)) (lv' := [(3, .int (y3 + (1 : Int32))), (0, .ref (ad_md 0)), (1, .int y1), (2, .int y2), (4, .int y4)]) hx hb d_Model_apart_145 hl (k := 3) rfl rfl (by decide) rfl (fun ls hl => ?_)
        refine lv_goto (tgt := 9) hx hb d_Model_apart_148 (by decide) ?_
        exact hk_9 md y1 y2 (y3 + (1 : Int32)) H locs ls hf hP hD hS (lv_sub hl [1, 2, 3, 0] rfl)
      · have hf := hf_f hf hc4
        refine lv_iload_n hx hb d_Model_apart_26 rfl (lv_at hl 3 rfl) ?_
        refine lv_iload hx hb d_Model_apart_27 (lv_at hl 4 rfl) ?_
        refine lv_iadd hx hb d_Model_apart_29 ?_
        refine lv_istore (lv' := [(5, .int (y3 + y4)), (0, .ref (ad_md 0)), (1, .int y1), (2, .int y2), (3, .int y3), (4, .int y4)]) hx hb d_Model_apart_30 hl (by decide) rfl (fun ls hl => ?_)
        refine lv_iload_n hx hb d_Model_apart_32 rfl (lv_at hl 4 rfl) ?_
        refine lv_if_le (tgt := 125) hx hb d_Model_apart_33 (by decide) (fun hc5 => ?_) (fun hc5 => ?_)
        · have hf := hf_t hf hc5
          exact w_125 k_9 hk_9 (f_Model_apart_20 k_9 n) ih md y1 y2 y3 y4 (y3 + y4) H locs ls hf hP hD hS (lv_sub hl [1, 2, 3, 4, 5, 0] rfl)
        · have hf := hf_f hf hc5
          refine lv_iload hx hb d_Model_apart_36 (lv_at hl 5 rfl) ?_
          refine lv_if_le (tgt := 125) hx hb d_Model_apart_38 (by decide) (fun hc6 => ?_) (fun hc6 => ?_)
          · have hf := hf_t hf hc6
            exact w_125 k_9 hk_9 (f_Model_apart_20 k_9 n) ih md y1 y2 y3 y4 (y3 + y4) H locs ls hf hP hD hS (lv_sub hl [1, 2, 3, 4, 5, 0] rfl)
          · have hf := hf_f hf hc6
            refine lv_aload_n hx hb d_Model_apart_41 rfl (lv_at hl 1 rfl) ?_
            refine va_get (D := (dC, dI)) (ci := 6) (v := .ref (ad_md 13)) (C := "HazardTablesModel") (T := F_Model) (N := 30) hx hb hts hin_Model hown hK hP 0 rfl rfl 29 (by decide) fl_61 (fun _ h9 => h9) rfl d_Model_apart_42 ?_
            refine lv_iload_n hx hb d_Model_apart_45 rfl (lv_at hl 4 rfl) ?_
            refine lv_iconst (v := (1 : Int32)) hx hb d_Model_apart_46 (by decide) ?_
            refine lv_isub hx hb d_Model_apart_47 ?_
            refine lv_bipush (v := (11 : Int32)) hx hb d_Model_apart_48 (by decide) ?_
            refine lv_imul hx hb d_Model_apart_50 ?_
            refine lv_iload hx hb d_Model_apart_51 (lv_at hl 5 rfl) ?_
            refine lv_iadd hx hb d_Model_apart_53 ?_
            refine lv_iconst (v := (1 : Int32)) hx hb d_Model_apart_54 (by decide) ?_
            refine lv_isub hx hb d_Model_apart_55 ?_
            obtain ⟨hi7, hf⟩ := hf_g hf
            refine va_iald hx hb hK hP 13 12 rfl rfl hi7 d_Model_apart_56 ?_
            refine lv_aload_n hx hb d_Model_apart_57 rfl (lv_at hl 1 rfl) ?_
            refine va_get (D := (dC, dI)) (ci := 6) (v := .ref (ad_md 12)) (C := "HazardTablesModel") (T := F_Model) (N := 30) hx hb hts hin_Model hown hK hP 0 rfl rfl 28 (by decide) fl_58 (fun _ h9 => h9) rfl d_Model_apart_58 ?_
            refine lv_iload_n hx hb d_Model_apart_61 rfl (lv_at hl 4 rfl) ?_
            refine lv_iconst (v := (1 : Int32)) hx hb d_Model_apart_62 (by decide) ?_
            refine lv_isub hx hb d_Model_apart_63 ?_
            obtain ⟨hi8, hf⟩ := hf_g hf
            refine va_iald hx hb hK hP 12 11 rfl rfl hi8 d_Model_apart_64 ?_
            refine lv_aload_n hx hb d_Model_apart_65 rfl (lv_at hl 1 rfl) ?_
            refine va_get (D := (dC, dI)) (ci := 6) (v := .ref (ad_md 2)) (C := "HazardTablesModel") (T := F_Model) (N := 30) hx hb hts hin_Model hown hK hP 0 rfl rfl 6 (by decide) fl_17 (fun _ h9 => h9) rfl d_Model_apart_66 ?_
            refine lv_iload_n hx hb d_Model_apart_69 rfl (lv_at hl 2 rfl) ?_
            refine lv_iload hx hb d_Model_apart_70 (lv_at hl 5 rfl) ?_
            refine lv_iadd hx hb d_Model_apart_72 ?_
            obtain ⟨hi9, hf⟩ := hf_g hf
            refine va_iald hx hb hK hP 2 1 rfl rfl hi9 d_Model_apart_73 ?_
            refine lv_icmp_ne (tgt := 81) hx hb d_Model_apart_74 (by decide) (fun hc10 => ?_) (fun hc10 => ?_)
            · have hf := hf_f hf hc10
              refine lv_iconst (v := (1 : Int32)) hx hb d_Model_apart_81 (by decide) ?_
              exact w_82 k_9 hk_9 (f_Model_apart_20 k_9 n) ih md y1 y2 y3 y4 (md.2.2.2.2.2.2.2.2.2.2 ((((y3 - (1 : Int32)) * (11 : Int32)) + y4) - (1 : Int32)).toNatClampNeg) true H locs ls hf hP hD hS (lv_sub hl [1, 2, 3, 4, 5] rfl)
            · have hf := hf_t hf hc10
              refine lv_iconst (v := (0 : Int32)) hx hb d_Model_apart_77 (by decide) ?_
              refine lv_goto (tgt := 82) hx hb d_Model_apart_78 (by decide) ?_
              exact w_82 k_9 hk_9 (f_Model_apart_20 k_9 n) ih md y1 y2 y3 y4 (md.2.2.2.2.2.2.2.2.2.2 ((((y3 - (1 : Int32)) * (11 : Int32)) + y4) - (1 : Int32)).toNatClampNeg) false H locs ls hf hP hD hS (lv_sub hl [1, 2, 3, 4, 5] rfl)
  have w_9 : ∀ (n : Nat) (md : SModel) (y1 : Int32) (y2 : Int32) (y3 : Int32) (H : Heap) (locs : List Loc) (ls : Array Slot), f_Model_apart_9 n md y1 y2 y3 = some res → va_P (dC, dI) vwCl (uw_Model ad_md cA_md md) H → va_D A (uw_Model ad_md cA_md md) → va_S A s.heap H locs → lv_has ls 6 [(0, .ref (ad_md 0)), (1, .int y1), (2, .int y2), (3, .int y3)] → W p l e (headSpec w_Model_apart ({ frames := 1, cells := 0, slots := 0, locals := 21 })).room s m ([.ref (ad_md 0), .int x1] : List Value).toArray below meth c H locs 0 0 Q (F0 m 9 ls []) := by
    intro n
    induction n with
    | zero =>
      intro md y1 y2 y3 H locs ls hf hP hD hS hl
      rw [f_Model_apart_9] at hf; cases hf
    | succ n ih =>
      intro md y1 y2 y3 H locs ls hf hP hD hS hl
      rw [f_Model_apart_9] at hf
      refine lv_iload_n hx hb d_Model_apart_9 rfl (lv_at hl 3 rfl) ?_
      refine lv_aload_n hx hb d_Model_apart_10 rfl (lv_at hl 0 rfl) ?_
      refine va_get (D := (dC, dI)) (ci := 6) (v := .int md.2.2.2.2.2.2.2.2.1) (C := "HazardTablesModel") (T := F_Model) (N := 30) hx hb hts hin_Model hown hK hP 0 rfl rfl 27 (by decide) fl_134 (fun _ h9 => h9) rfl d_Model_apart_11 ?_
      refine lv_icmp_gt (tgt := 151) hx hb d_Model_apart_14 (by decide) (fun hc2 => ?_) (fun hc2 => ?_)
      · have hf := hf_t hf hc2
        refine lv_aload_n hx hb d_Model_apart_151 rfl (lv_at hl 0 rfl) ?_
        refine va_get (D := (dC, dI)) (ci := 6) (v := .ref (ad_md 13)) (C := "HazardTablesModel") (T := F_Model) (N := 30) hx hb hts hin_Model hown hK hP 0 rfl rfl 29 (by decide) fl_61 (fun _ h9 => h9) rfl d_Model_apart_152 ?_
        refine lv_aload_n hx hb d_Model_apart_155 rfl (lv_at hl 0 rfl) ?_
        refine va_get (D := (dC, dI)) (ci := 6) (v := .int md.2.2.2.2.2.2.2.2.1) (C := "HazardTablesModel") (T := F_Model) (N := 30) hx hb hts hin_Model hown hK hP 0 rfl rfl 27 (by decide) fl_134 (fun _ h9 => h9) rfl d_Model_apart_156 ?_
        refine lv_bipush (v := (11 : Int32)) hx hb d_Model_apart_159 (by decide) ?_
        refine lv_imul hx hb d_Model_apart_161 ?_
        refine lv_iload_n hx hb d_Model_apart_162 rfl (lv_at hl 2 rfl) ?_
        refine lv_iadd hx hb d_Model_apart_163 ?_
        obtain ⟨hi3, hf⟩ := hf_g hf
        refine va_iald hx hb hK hP 13 12 rfl rfl hi3 d_Model_apart_164 ?_
        exact ret (md.2.2.2.2.2.2.2.2.2.2 ((md.2.2.2.2.2.2.2.2.1 * (11 : Int32)) + y2).toNatClampNeg) md H locs ls 165 d_Model_apart_165 (hf_e hf) hP hD hS
      · have hf := hf_f hf hc2
        refine lv_iconst (v := (0 : Int32)) hx hb d_Model_apart_17 (by decide) ?_
        refine lv_istore (lv' := [(4, .int (0 : Int32)), (0, .ref (ad_md 0)), (1, .int y1), (2, .int y2), (3, .int y3)]) hx hb d_Model_apart_18 hl (by decide) rfl (fun ls hl => ?_)
        exact w_20 (f_Model_apart_9 n) ih 4096 md y1 y2 y3 (0 : Int32) H locs ls hf hP hD hS (lv_sub hl [1, 2, 3, 4, 0] rfl)
  have hl := lv_entry ([.ref (ad_md 0), .int x1]) (n := 6) (Nat.le_of_ble_eq_true rfl)
  rw [lg_entry_eq]
  generalize (lg_sl ([.ref (ad_md 0), .int x1]) ++ List.replicate (6 - (lg_sl ([.ref (ad_md 0), .int x1])).length) Slot.unset).toArray = ls at hl ⊢
  have hl : lv_has ls 6 [(0, .ref (ad_md 0)), (1, .int x1)] := hl
  have hf := hf
  rw [f_Model_apart] at hf
  obtain ⟨H, hH⟩ : ∃ H : Heap, H = s.heap := ⟨_, rfl⟩
  obtain ⟨locs, hlocs⟩ : ∃ L : List Loc, L = [] := ⟨_, rfl⟩
  have hP : va_P (dC, dI) vwCl (uw_Model ad_md cA_md md) H := by rw [hH]; exact hP
  have hS : va_S A s.heap H locs := by rw [hH, hlocs]; exact hS
  show W p l e (headSpec w_Model_apart ({ frames := 1, cells := 0, slots := 0, locals := 21 })).room s m ([.ref (ad_md 0), .int x1] : List Value).toArray below meth c s.heap [] 0 0 Q (F0 m 0 ls [])
  suffices hgo : W p l e (headSpec w_Model_apart ({ frames := 1, cells := 0, slots := 0, locals := 21 })).room s m ([.ref (ad_md 0), .int x1] : List Value).toArray below meth c H locs 0 0 Q (F0 m 0 ls []) by rw [hH, hlocs] at hgo; exact hgo
  clear hH hlocs
  refine lv_aload_n hx hb d_Model_apart_0 rfl (lv_at hl 0 rfl) ?_
  refine va_get (D := (dC, dI)) (ci := 6) (v := .ref (ad_md 2)) (C := "HazardTablesModel") (T := F_Model) (N := 30) hx hb hts hin_Model hown hK hP 0 rfl rfl 6 (by decide) fl_17 (fun _ h9 => h9) rfl d_Model_apart_1 ?_
  refine lv_iload_n hx hb d_Model_apart_4 rfl (lv_at hl 1 rfl) ?_
  obtain ⟨hi1, hf⟩ := hf_g hf
  refine va_iald hx hb hK hP 2 1 rfl rfl hi1 d_Model_apart_5 ?_
  refine lv_istore_n (lv' := [(2, .int (md.2.2.2.1.2.2 x1.toNatClampNeg)), (0, .ref (ad_md 0)), (1, .int x1)]) hx hb d_Model_apart_6 rfl hl (by decide) rfl (fun ls hl => ?_)
  refine lv_iconst (v := (0 : Int32)) hx hb d_Model_apart_7 (by decide) ?_
  refine lv_istore_n (lv' := [(3, .int (0 : Int32)), (2, .int (md.2.2.2.1.2.2 x1.toNatClampNeg)), (0, .ref (ad_md 0)), (1, .int x1)]) hx hb d_Model_apart_8 rfl hl (by decide) rfl (fun ls hl => ?_)
  exact w_9 4096 md x1 (md.2.2.2.1.2.2 x1.toNatClampNeg) (0 : Int32) H locs ls hf hP hD hS (lv_sub hl [2, 3, 1, 0] rfl)
noncomputable def f_Model_nearest_5  : Nat → SModel → Int32 → Int32 → Int32 → Option (Int32 × SModel)
  | 0, _, _, _, _ => none
  | n + 1, md, y1, y2, y3 =>
    (if inb ((y1 * (43 : Int32)) + (9 : Int32)) 559 then
      (if (md.2.2.2.1.2.2 ((y1 * (43 : Int32)) + (9 : Int32)).toNatClampNeg) ≤ y3 then
        (some (y2, md))
       else
        (Option.bind (f_Model_apart md (((y1 * (43 : Int32)) + (10 : Int32)) + ((11 : Int32) * y3))) fun u3 =>
          (Option.bind (f_Model_least y2 u3.1) fun u4 =>
            (f_Model_nearest_5 n u3.2 y1 u4 (y3 + (1 : Int32)))
           )
         )
       )
     else none)
noncomputable def f_Model_nearest (md : SModel) (x1 : Int32) : Option (Int32 × SModel) :=
  (f_Model_nearest_5 4096 md x1 (99 : Int32) (0 : Int32))
set_option maxHeartbeats 4000000 in
set_option maxRecDepth 100000 in
theorem k_Model_nearest (l : Launch) (dC : Nat → ClassId) (dI : Nat → Nat → Nat) (ad_md : Nat → Nat) (cA_md : Nat → ClassId) (sz : Nat) (md : SModel) (x1 : Int32) (res : Int32 × SModel) (hf : f_Model_nearest md x1 = some res) : Met l y_Model_nearest w_Model_nearest ({ frames := 2, cells := 0, slots := 0, locals := 46 }) (cPc (dC, dI) (uw_Model ad_md cA_md md) [(cA_md 1, .int), (cA_md 2, .int), (cA_md 3, .int), (cA_md 4, .int), (cA_md 5, .int), (cA_md 6, .int), (cA_md 7, .int), (cA_md 8, .int), (cA_md 9, .boolean), (cA_md 10, .int), (cA_md 11, .int), (cA_md 12, .int), (cA_md 13, .int)] sz [.ref (ad_md 0), .int x1]) (va_Qi (fun (r : Int32) (u : SModel) => r = res.1 ∧ u = res.2) (fun (u : SModel) (t : State) => va_P (dC, dI) vwCl (uw_Model ad_md cA_md u) t.heap ∧ va_K (dC, dI) vwCl [(cA_md 1, .int), (cA_md 2, .int), (cA_md 3, .int), (cA_md 4, .int), (cA_md 5, .int), (cA_md 6, .int), (cA_md 7, .int), (cA_md 8, .int), (cA_md 9, .boolean), (cA_md 10, .int), (cA_md 11, .int), (cA_md 12, .int), (cA_md 13, .int)] t ∧ va_D (va_A (uw_Model ad_md cA_md md) sz) (uw_Model ad_md cA_md u)) (va_A (uw_Model ad_md cA_md md) sz)) 0 0 (va_A (uw_Model ad_md cA_md md) sz) := by
  refine Met.ofW (cc := b_Model_nearest) (maxL := 4) (ret := (some .int)) (by decide) rfl ?_
  intro p e s m args below meth c s₁ B hml hv
  obtain ⟨rfl, hsz, hP, hK, hD0, hN⟩ := hv
  have hx := B.exec
  have hb := B.bytes
  have hr := B.returns
  have hts := atoms_spec (ws := w_Model_nearest) B.pre
  have hown : s.vm.findClass "HazardTablesModel" = some m.cls := findClass_of_methodNamed B.named
  have hlocks := B.notSynchronized
  subst hsz
  have hD := hD0.self (sz := s.heap.size)
  generalize hAe : va_A (uw_Model ad_md cA_md md) s.heap.size = A at hD ⊢
  have hA : ∀ q : Nat, s.heap.size ≤ q → A q := fun q h => by rw [← hAe]; exact Or.inr h
  have hS : va_S A s.heap s.heap [] := va_S.rf
  have hP : va_P (dC, dI) vwCl (uw_Model ad_md cA_md md) s.heap := hP
  have fl_17 := (hts _ (List.mem_cons_of_mem _ wd_754))
  have hin_Model : ∀ w ∈ u_ws "HazardTablesModel" F_Model 30, w ∈ w_Model_nearest := fun w h => List.mem_cons_of_mem _ (hinA_Model w h)
  have ret : ∀ (v : Int32) (u : SModel) (H : Heap) (locs : List Loc) (ls : Array Slot) (pc : Nat), decode b_Model_nearest pc = .ok (.ireturn, 1) → (v = res.1 ∧ u = res.2) → va_P (dC, dI) vwCl (uw_Model ad_md cA_md u) H → va_D A (uw_Model ad_md cA_md u) → va_S A s.heap H locs → W p l e (headSpec w_Model_nearest ({ frames := 2, cells := 0, slots := 0, locals := 46 })).room s m ([.ref (ad_md 0), .int x1] : List Value).toArray below meth c H locs 0 0 (MQ below (va_Qi (fun (r : Int32) (u : SModel) => r = res.1 ∧ u = res.2) (fun (u : SModel) (t : State) => va_P (dC, dI) vwCl (uw_Model ad_md cA_md u) t.heap ∧ va_K (dC, dI) vwCl [(cA_md 1, .int), (cA_md 2, .int), (cA_md 3, .int), (cA_md 4, .int), (cA_md 5, .int), (cA_md 6, .int), (cA_md 7, .int), (cA_md 8, .int), (cA_md 9, .boolean), (cA_md 10, .int), (cA_md 11, .int), (cA_md 12, .int), (cA_md 13, .int)] t ∧ va_D A (uw_Model ad_md cA_md u)) A) ([.ref (ad_md 0), .int x1] : List Value).toArray s 0 0 A) (F0 m pc ls [.int v]) := fun v u H locs ls pc hd hp hP hD hS => W.iret (v := v) hx hb hr (fun t ht hW => ⟨⟨v, u, rfl, hp, by rw [ht]; exact hP, va_K.moved hW.alike hK, hD⟩, hS.F ht⟩) hS.2.2 hd
  generalize (MQ below (va_Qi (fun (r : Int32) (u : SModel) => r = res.1 ∧ u = res.2) (fun (u : SModel) (t : State) => va_P (dC, dI) vwCl (uw_Model ad_md cA_md u) t.heap ∧ va_K (dC, dI) vwCl [(cA_md 1, .int), (cA_md 2, .int), (cA_md 3, .int), (cA_md 4, .int), (cA_md 5, .int), (cA_md 6, .int), (cA_md 7, .int), (cA_md 8, .int), (cA_md 9, .boolean), (cA_md 10, .int), (cA_md 11, .int), (cA_md 12, .int), (cA_md 13, .int)] t ∧ va_D A (uw_Model ad_md cA_md u)) A) ([.ref (ad_md 0), .int x1] : List Value).toArray s 0 0 A) = Q at ret ⊢
  have w_5 : ∀ (n : Nat) (md : SModel) (y1 : Int32) (y2 : Int32) (y3 : Int32) (H : Heap) (locs : List Loc) (ls : Array Slot), f_Model_nearest_5 n md y1 y2 y3 = some res → va_P (dC, dI) vwCl (uw_Model ad_md cA_md md) H → va_D A (uw_Model ad_md cA_md md) → va_S A s.heap H locs → lv_has ls 4 [(0, .ref (ad_md 0)), (1, .int y1), (2, .int y2), (3, .int y3)] → W p l e (headSpec w_Model_nearest ({ frames := 2, cells := 0, slots := 0, locals := 46 })).room s m ([.ref (ad_md 0), .int x1] : List Value).toArray below meth c H locs 0 0 Q (F0 m 5 ls []) := by
    intro n
    induction n with
    | zero =>
      intro md y1 y2 y3 H locs ls hf hP hD hS hl
      rw [f_Model_nearest_5] at hf; cases hf
    | succ n ih =>
      intro md y1 y2 y3 H locs ls hf hP hD hS hl
      rw [f_Model_nearest_5] at hf
      refine lv_iload_n hx hb d_Model_nearest_5 rfl (lv_at hl 3 rfl) ?_
      refine lv_aload_n hx hb d_Model_nearest_6 rfl (lv_at hl 0 rfl) ?_
      refine va_get (D := (dC, dI)) (ci := 6) (v := .ref (ad_md 2)) (C := "HazardTablesModel") (T := F_Model) (N := 30) hx hb hts hin_Model hown hK hP 0 rfl rfl 6 (by decide) fl_17 (fun _ h9 => h9) rfl d_Model_nearest_7 ?_
      refine lv_iload_n hx hb d_Model_nearest_10 rfl (lv_at hl 1 rfl) ?_
      refine lv_bipush (v := (43 : Int32)) hx hb d_Model_nearest_11 (by decide) ?_
      refine lv_imul hx hb d_Model_nearest_13 ?_
      refine lv_bipush (v := (9 : Int32)) hx hb d_Model_nearest_14 (by decide) ?_
      refine lv_iadd hx hb d_Model_nearest_16 ?_
      obtain ⟨hi1, hf⟩ := hf_g hf
      refine va_iald hx hb hK hP 2 1 rfl rfl hi1 d_Model_nearest_17 ?_
      refine lv_icmp_ge (tgt := 48) hx hb d_Model_nearest_18 (by decide) (fun hc2 => ?_) (fun hc2 => ?_)
      · have hf := hf_t hf hc2
        refine lv_iload_n hx hb d_Model_nearest_48 rfl (lv_at hl 2 rfl) ?_
        exact ret y2 md H locs ls 49 d_Model_nearest_49 (hf_e hf) hP hD hS
      · have hf := hf_f hf hc2
        refine lv_iload_n hx hb d_Model_nearest_21 rfl (lv_at hl 2 rfl) ?_
        refine lv_aload_n hx hb d_Model_nearest_22 rfl (lv_at hl 0 rfl) ?_
        refine lv_iload_n hx hb d_Model_nearest_23 rfl (lv_at hl 1 rfl) ?_
        refine lv_bipush (v := (43 : Int32)) hx hb d_Model_nearest_24 (by decide) ?_
        refine lv_imul hx hb d_Model_nearest_26 ?_
        refine lv_bipush (v := (10 : Int32)) hx hb d_Model_nearest_27 (by decide) ?_
        refine lv_iadd hx hb d_Model_nearest_29 ?_
        refine lv_bipush (v := (11 : Int32)) hx hb d_Model_nearest_30 (by decide) ?_
        refine lv_iload_n hx hb d_Model_nearest_32 rfl (lv_at hl 3 rfl) ?_
        refine lv_imul hx hb d_Model_nearest_33 ?_
        refine lv_iadd hx hb d_Model_nearest_34 ?_
        obtain ⟨u3, hu3, hf⟩ := Option.bind_eq_some_iff.mp hf
        refine cl_i (wc := (uw_Model ad_md cA_md md)) (wr := []) (tysC := [(cA_md 1, .int), (cA_md 2, .int), (cA_md 3, .int), (cA_md 4, .int), (cA_md 5, .int), (cA_md 6, .int), (cA_md 7, .int), (cA_md 8, .int), (cA_md 9, .boolean), (cA_md 10, .int), (cA_md 11, .int), (cA_md 12, .int), (cA_md 13, .int)]) (wu := fun (u : SModel) => (uw_Model ad_md cA_md u)) (wn := fun (u : SModel) => (uw_Model ad_md cA_md u)) [0, 1, 2, 3, 4, 5, 6, 7, 8, 9, 10, 11, 12, 13] [] [0, 1, 2, 3, 4, 5, 6, 7, 8, 9, 10, 11, 12, 13] [0, 1, 2, 3, 4, 5, 6, 7, 8, 9, 10, 11, 12] hP hD hS hA hK rfl rfl (by decide +kernel) (by decide +kernel) (by decide +kernel) rfl (fun _ => rfl) (by decide +kernel) (fun hPc hKc hDc => (va_runV (As := [.int (((y1 * (43 : Int32)) + (10 : Int32)) + ((11 : Int32) * y3))]) (rest := [.int y2]) ⟨hx, hb, hml, hown, hts⟩ (k_Model_apart l dC dI ad_md cA_md H.size md (((y1 * (43 : Int32)) + (10 : Int32)) + ((11 : Int32) * y3)) u3 hu3) (cwV 1 hts (gV wd_930 wd_932 wd_37 wd_49 wd_933) rfl rfl rfl (by decide +kernel) ⟨Nat.le_of_ble_eq_true rfl, Nat.le_of_ble_eq_true rfl⟩) (cl_preV hPc hKc hDc hN (ci := 6) 0 rfl rfl) rfl rfl hl.1 rfl (lv_room (Nat.le_of_ble_eq_true rfl)) d_Model_nearest_35 ⟨Nat.le_of_ble_eq_true rfl, Nat.le_of_ble_eq_true rfl⟩)) (fun r u H locs hw hP hD hS => ?_)
        obtain ⟨hw1, hw2⟩ := hw
        have hw1 := hw1.symm
        have hw2 := hw2.symm
        subst hw1
        subst hw2
        have hP : va_P (dC, dI) vwCl (uw_Model ad_md cA_md u3.2) H := hP
        have hD : va_D A (uw_Model ad_md cA_md u3.2) := hD
        obtain ⟨u4, hu4, hf⟩ := Option.bind_eq_some_iff.mp hf
        refine cl_i (wc := []) (wr := (uw_Model ad_md cA_md u3.2)) (tysC := []) (wu := fun (u : Unit) => []) (wn := fun (u : Unit) => (uw_Model ad_md cA_md u3.2)) [] [0, 1, 2, 3, 4, 5, 6, 7, 8, 9, 10, 11, 12, 13] [0, 1, 2, 3, 4, 5, 6, 7, 8, 9, 10, 11, 12, 13] [] hP hD hS hA hK rfl rfl (by decide +kernel) (by decide +kernel) (by decide +kernel) rfl (fun _ => rfl) (by decide +kernel) (fun hPc hKc hDc => (va_runS (As := [.int y2, .int u3.1]) (rest := []) ⟨hx, hb, hml, hown, hts⟩ (k_Model_least l dC dI  H.size y2 u3.1 u4 hu4) (cwS 2 hts (gS wd_934 wd_935 wd_49 wd_936) rfl rfl rfl (by decide +kernel) ⟨Nat.le_of_ble_eq_true rfl, Nat.le_of_ble_eq_true rfl⟩) (cl_preS hPc hKc hDc hN) rfl rfl hl.1 rfl (lv_room (Nat.le_of_ble_eq_true rfl)) d_Model_nearest_38 ⟨Nat.le_of_ble_eq_true rfl, Nat.le_of_ble_eq_true rfl⟩)) (fun r u H locs hw hP hD hS => ?_)
        have hw := hw.symm
        subst hw
        have hP : va_P (dC, dI) vwCl (uw_Model ad_md cA_md u3.2) H := hP
        have hD : va_D A (uw_Model ad_md cA_md u3.2) := hD
        refine lv_istore_n (lv' := [(2, .int u4), (0, .ref (ad_md 0)), (1, .int y1), (3, .int y3)]) hx hb d_Model_nearest_41 rfl hl (by decide) rfl (fun ls hl => ?_)
        refine lv_iinc (v := y3 + (1 : Int32)) (lv' := [(3, .int (y3 + (1 : Int32))), (2, .int u4), (0, .ref (ad_md 0)), (1, .int y1)]) hx hb d_Model_nearest_42 hl (k := 3) rfl rfl (by decide) rfl (fun ls hl => ?_)
        refine lv_goto (tgt := 5) hx hb d_Model_nearest_45 (by decide) ?_
        exact ih u3.2 y1 u4 (y3 + (1 : Int32)) H locs ls hf hP hD hS (lv_sub hl [2, 3, 1, 0] rfl)
  have hl := lv_entry ([.ref (ad_md 0), .int x1]) (n := 4) (Nat.le_of_ble_eq_true rfl)
  rw [lg_entry_eq]
  generalize (lg_sl ([.ref (ad_md 0), .int x1]) ++ List.replicate (4 - (lg_sl ([.ref (ad_md 0), .int x1])).length) Slot.unset).toArray = ls at hl ⊢
  have hl : lv_has ls 4 [(0, .ref (ad_md 0)), (1, .int x1)] := hl
  have hf := hf
  rw [f_Model_nearest] at hf
  obtain ⟨H, hH⟩ : ∃ H : Heap, H = s.heap := ⟨_, rfl⟩
  obtain ⟨locs, hlocs⟩ : ∃ L : List Loc, L = [] := ⟨_, rfl⟩
  have hP : va_P (dC, dI) vwCl (uw_Model ad_md cA_md md) H := by rw [hH]; exact hP
  have hS : va_S A s.heap H locs := by rw [hH, hlocs]; exact hS
  show W p l e (headSpec w_Model_nearest ({ frames := 2, cells := 0, slots := 0, locals := 46 })).room s m ([.ref (ad_md 0), .int x1] : List Value).toArray below meth c s.heap [] 0 0 Q (F0 m 0 ls [])
  suffices hgo : W p l e (headSpec w_Model_nearest ({ frames := 2, cells := 0, slots := 0, locals := 46 })).room s m ([.ref (ad_md 0), .int x1] : List Value).toArray below meth c H locs 0 0 Q (F0 m 0 ls []) by rw [hH, hlocs] at hgo; exact hgo
  clear hH hlocs
  refine lv_bipush (v := (99 : Int32)) hx hb d_Model_nearest_0 (by decide) ?_
  refine lv_istore_n (lv' := [(2, .int (99 : Int32)), (0, .ref (ad_md 0)), (1, .int x1)]) hx hb d_Model_nearest_2 rfl hl (by decide) rfl (fun ls hl => ?_)
  refine lv_iconst (v := (0 : Int32)) hx hb d_Model_nearest_3 (by decide) ?_
  refine lv_istore_n (lv' := [(3, .int (0 : Int32)), (2, .int (99 : Int32)), (0, .ref (ad_md 0)), (1, .int x1)]) hx hb d_Model_nearest_4 rfl hl (by decide) rfl (fun ls hl => ?_)
  exact w_5 4096 md x1 (99 : Int32) (0 : Int32) H locs ls hf hP hD hS (lv_sub hl [2, 3, 1, 0] rfl)
noncomputable def f_Model_following_66 (k_4 : SModel → Int32 → Int32 → Int32 → Option (Int32 × SModel)) (md : SModel) (y1 : Int32) (y2 : Int32) (y3 : Int32) (y4 : Int32) (z0 : Bool) : Option (Int32 × SModel) :=
  (if (bI z0) = 0 then
    (k_4 md y1 y2 (y3 + (1 : Int32)))
   else
    (if y2 < 0 then
      (k_4 md y1 y3 (y3 + (1 : Int32)))
     else
      (Option.bind (f_Model_nearest md y2) fun u10 =>
        (if inb (y2 * (43 : Int32)) 559 then
          (if ((u10.1 * (10000 : Int32)) + (u10.2.2.2.2.1.2.2 (y2 * (43 : Int32)).toNatClampNeg)) ≤ y4 then
            (k_4 u10.2 y1 y2 (y3 + (1 : Int32)))
           else
            (k_4 u10.2 y1 y3 (y3 + (1 : Int32)))
           )
         else none)
       )
     )
   )
noncomputable def f_Model_following_61 (k_4 : SModel → Int32 → Int32 → Int32 → Option (Int32 × SModel)) (md : SModel) (y1 : Int32) (y2 : Int32) (y3 : Int32) (y4 : Int32) : Option (Int32 × SModel) :=
  (f_Model_following_66 k_4 md y1 y2 y3 y4 true)
noncomputable def f_Model_following_4  : Nat → SModel → Int32 → Int32 → Int32 → Option (Int32 × SModel)
  | 0, _, _, _, _ => none
  | n + 1, md, y1, y2, y3 =>
    (if md.2.2.2.1.1 ≤ y3 then
      (some (y2, md))
     else
      (Option.bind (f_Model_nearest md y3) fun u2 =>
        (if inb (y3 * (43 : Int32)) 559 then
          (if y1 < 0 then
            (f_Model_following_61 (f_Model_following_4 n) u2.2 y1 y2 y3 ((u2.1 * (10000 : Int32)) + (u2.2.2.2.2.1.2.2 (y3 * (43 : Int32)).toNatClampNeg)))
           else
            (Option.bind (f_Model_nearest u2.2 y1) fun u5 =>
              (if inb (y1 * (43 : Int32)) 559 then
                (if ((u2.1 * (10000 : Int32)) + (u2.2.2.2.2.1.2.2 (y3 * (43 : Int32)).toNatClampNeg)) ≤ ((u5.1 * (10000 : Int32)) + (u5.2.2.2.2.1.2.2 (y1 * (43 : Int32)).toNatClampNeg)) then
                  (f_Model_following_66 (f_Model_following_4 n) u5.2 y1 y2 y3 ((u2.1 * (10000 : Int32)) + (u2.2.2.2.2.1.2.2 (y3 * (43 : Int32)).toNatClampNeg)) false)
                 else
                  (f_Model_following_61 (f_Model_following_4 n) u5.2 y1 y2 y3 ((u2.1 * (10000 : Int32)) + (u2.2.2.2.2.1.2.2 (y3 * (43 : Int32)).toNatClampNeg)))
                 )
               else none)
             )
           )
         else none)
       )
     )
noncomputable def f_Model_following (md : SModel) (x1 : Int32) : Option (Int32 × SModel) :=
  (f_Model_following_4 4096 md x1 (-1 : Int32) (0 : Int32))
set_option maxHeartbeats 4000000 in
set_option maxRecDepth 100000 in
theorem k_Model_following (l : Launch) (dC : Nat → ClassId) (dI : Nat → Nat → Nat) (ad_md : Nat → Nat) (cA_md : Nat → ClassId) (sz : Nat) (md : SModel) (x1 : Int32) (res : Int32 × SModel) (hf : f_Model_following md x1 = some res) : Met l y_Model_following w_Model_following ({ frames := 3, cells := 0, slots := 0, locals := 69 }) (cPc (dC, dI) (uw_Model ad_md cA_md md) [(cA_md 1, .int), (cA_md 2, .int), (cA_md 3, .int), (cA_md 4, .int), (cA_md 5, .int), (cA_md 6, .int), (cA_md 7, .int), (cA_md 8, .int), (cA_md 9, .boolean), (cA_md 10, .int), (cA_md 11, .int), (cA_md 12, .int), (cA_md 13, .int)] sz [.ref (ad_md 0), .int x1]) (va_Qi (fun (r : Int32) (u : SModel) => r = res.1 ∧ u = res.2) (fun (u : SModel) (t : State) => va_P (dC, dI) vwCl (uw_Model ad_md cA_md u) t.heap ∧ va_K (dC, dI) vwCl [(cA_md 1, .int), (cA_md 2, .int), (cA_md 3, .int), (cA_md 4, .int), (cA_md 5, .int), (cA_md 6, .int), (cA_md 7, .int), (cA_md 8, .int), (cA_md 9, .boolean), (cA_md 10, .int), (cA_md 11, .int), (cA_md 12, .int), (cA_md 13, .int)] t ∧ va_D (va_A (uw_Model ad_md cA_md md) sz) (uw_Model ad_md cA_md u)) (va_A (uw_Model ad_md cA_md md) sz)) 0 0 (va_A (uw_Model ad_md cA_md md) sz) := by
  refine Met.ofW (cc := b_Model_following) (maxL := 6) (ret := (some .int)) (by decide) rfl ?_
  intro p e s m args below meth c s₁ B hml hv
  obtain ⟨rfl, hsz, hP, hK, hD0, hN⟩ := hv
  have hx := B.exec
  have hb := B.bytes
  have hr := B.returns
  have hts := atoms_spec (ws := w_Model_following) B.pre
  have hown : s.vm.findClass "HazardTablesModel" = some m.cls := findClass_of_methodNamed B.named
  have hlocks := B.notSynchronized
  subst hsz
  have hD := hD0.self (sz := s.heap.size)
  generalize hAe : va_A (uw_Model ad_md cA_md md) s.heap.size = A at hD ⊢
  have hA : ∀ q : Nat, s.heap.size ≤ q → A q := fun q h => by rw [← hAe]; exact Or.inr h
  have hS : va_S A s.heap s.heap [] := va_S.rf
  have hP : va_P (dC, dI) vwCl (uw_Model ad_md cA_md md) s.heap := hP
  have fl_128 := (hts _ (List.mem_cons_of_mem _ wd_752))
  have fl_17 := (hts _ (List.mem_cons_of_mem _ wd_754))
  have hin_Model : ∀ w ∈ u_ws "HazardTablesModel" F_Model 30, w ∈ w_Model_following := fun w h => List.mem_cons_of_mem _ (hinA_Model w h)
  have ret : ∀ (v : Int32) (u : SModel) (H : Heap) (locs : List Loc) (ls : Array Slot) (pc : Nat), decode b_Model_following pc = .ok (.ireturn, 1) → (v = res.1 ∧ u = res.2) → va_P (dC, dI) vwCl (uw_Model ad_md cA_md u) H → va_D A (uw_Model ad_md cA_md u) → va_S A s.heap H locs → W p l e (headSpec w_Model_following ({ frames := 3, cells := 0, slots := 0, locals := 69 })).room s m ([.ref (ad_md 0), .int x1] : List Value).toArray below meth c H locs 0 0 (MQ below (va_Qi (fun (r : Int32) (u : SModel) => r = res.1 ∧ u = res.2) (fun (u : SModel) (t : State) => va_P (dC, dI) vwCl (uw_Model ad_md cA_md u) t.heap ∧ va_K (dC, dI) vwCl [(cA_md 1, .int), (cA_md 2, .int), (cA_md 3, .int), (cA_md 4, .int), (cA_md 5, .int), (cA_md 6, .int), (cA_md 7, .int), (cA_md 8, .int), (cA_md 9, .boolean), (cA_md 10, .int), (cA_md 11, .int), (cA_md 12, .int), (cA_md 13, .int)] t ∧ va_D A (uw_Model ad_md cA_md u)) A) ([.ref (ad_md 0), .int x1] : List Value).toArray s 0 0 A) (F0 m pc ls [.int v]) := fun v u H locs ls pc hd hp hP hD hS => W.iret (v := v) hx hb hr (fun t ht hW => ⟨⟨v, u, rfl, hp, by rw [ht]; exact hP, va_K.moved hW.alike hK, hD⟩, hS.F ht⟩) hS.2.2 hd
  generalize (MQ below (va_Qi (fun (r : Int32) (u : SModel) => r = res.1 ∧ u = res.2) (fun (u : SModel) (t : State) => va_P (dC, dI) vwCl (uw_Model ad_md cA_md u) t.heap ∧ va_K (dC, dI) vwCl [(cA_md 1, .int), (cA_md 2, .int), (cA_md 3, .int), (cA_md 4, .int), (cA_md 5, .int), (cA_md 6, .int), (cA_md 7, .int), (cA_md 8, .int), (cA_md 9, .boolean), (cA_md 10, .int), (cA_md 11, .int), (cA_md 12, .int), (cA_md 13, .int)] t ∧ va_D A (uw_Model ad_md cA_md u)) A) ([.ref (ad_md 0), .int x1] : List Value).toArray s 0 0 A) = Q at ret ⊢
  have w_66 : ∀ (k_4 : SModel → Int32 → Int32 → Int32 → Option (Int32 × SModel)), (∀ (md : SModel) (y1 : Int32) (y2 : Int32) (y3 : Int32) (H : Heap) (locs : List Loc) (ls : Array Slot), k_4 md y1 y2 y3 = some res → va_P (dC, dI) vwCl (uw_Model ad_md cA_md md) H → va_D A (uw_Model ad_md cA_md md) → va_S A s.heap H locs → lv_has ls 6 [(0, .ref (ad_md 0)), (1, .int y1), (2, .int y2), (3, .int y3)] → W p l e (headSpec w_Model_following ({ frames := 3, cells := 0, slots := 0, locals := 69 })).room s m ([.ref (ad_md 0), .int x1] : List Value).toArray below meth c H locs 0 0 Q (F0 m 4 ls [])) → ∀ (md : SModel) (y1 : Int32) (y2 : Int32) (y3 : Int32) (y4 : Int32) (z0 : Bool) (H : Heap) (locs : List Loc) (ls : Array Slot), f_Model_following_66 k_4 md y1 y2 y3 y4 z0 = some res → va_P (dC, dI) vwCl (uw_Model ad_md cA_md md) H → va_D A (uw_Model ad_md cA_md md) → va_S A s.heap H locs → lv_has ls 6 [(0, .ref (ad_md 0)), (1, .int y1), (2, .int y2), (3, .int y3), (4, .int y4)] → W p l e (headSpec w_Model_following ({ frames := 3, cells := 0, slots := 0, locals := 69 })).room s m ([.ref (ad_md 0), .int x1] : List Value).toArray below meth c H locs 0 0 Q (F0 m 66 ls [.int (bI z0)]) := by
    intro k_4 hk_4
    intro md y1 y2 y3 y4 z0 H locs ls hf hP hD hS hl
    rw [f_Model_following_66] at hf
    refine lv_istore (lv' := [(5, .int (bI z0)), (0, .ref (ad_md 0)), (1, .int y1), (2, .int y2), (3, .int y3), (4, .int y4)]) hx hb d_Model_following_66 hl (by decide) rfl (fun ls hl => ?_)
    refine lv_iload hx hb d_Model_following_68 (lv_at hl 0 rfl) ?_
    refine lv_if_eq (tgt := 103) hx hb d_Model_following_70 (by decide) (fun hc8 => ?_) (fun hc8 => ?_)
    · have hf := hf_t hf hc8
      refine lv_iinc (v := y3 + (1 : Int32)) (lv' := [(3, .int (y3 + (1 : Int32))), (5, .int (bI z0)), (0, .ref (ad_md 0)), (1, .int y1), (2, .int y2), (4, .int y4)]) hx hb d_Model_following_103 hl (k := 4) rfl rfl (by decide) rfl (fun ls hl => ?_)
      refine lv_goto (tgt := 4) hx hb d_Model_following_106 (by decide) ?_
      exact hk_4 md y1 y2 (y3 + (1 : Int32)) H locs ls hf hP hD hS (lv_sub hl [2, 3, 4, 0] rfl)
    · have hf := hf_f hf hc8
      refine lv_iload_n hx hb d_Model_following_73 rfl (lv_at hl 3 rfl) ?_
      refine lv_if_lt (tgt := 101) hx hb d_Model_following_74 (by decide) (fun hc9 => ?_) (fun hc9 => ?_)
      · have hf := hf_t hf hc9
        refine lv_iload_n hx hb d_Model_following_101 rfl (lv_at hl 4 rfl) ?_
        refine lv_istore_n (lv' := [(2, .int y3), (5, .int (bI z0)), (0, .ref (ad_md 0)), (1, .int y1), (3, .int y3), (4, .int y4)]) hx hb d_Model_following_102 rfl hl (by decide) rfl (fun ls hl => ?_)
        refine lv_iinc (v := y3 + (1 : Int32)) (lv' := [(3, .int (y3 + (1 : Int32))), (2, .int y3), (5, .int (bI z0)), (0, .ref (ad_md 0)), (1, .int y1), (4, .int y4)]) hx hb d_Model_following_103 hl (k := 4) rfl rfl (by decide) rfl (fun ls hl => ?_)
        refine lv_goto (tgt := 4) hx hb d_Model_following_106 (by decide) ?_
        exact hk_4 md y1 y3 (y3 + (1 : Int32)) H locs ls hf hP hD hS (lv_sub hl [3, 4, 1, 0] rfl)
      · have hf := hf_f hf hc9
        refine lv_iload hx hb d_Model_following_77 (lv_at hl 5 rfl) ?_
        refine lv_aload_n hx hb d_Model_following_79 rfl (lv_at hl 1 rfl) ?_
        refine lv_iload_n hx hb d_Model_following_80 rfl (lv_at hl 3 rfl) ?_
        obtain ⟨u10, hu10, hf⟩ := Option.bind_eq_some_iff.mp hf
        refine cl_i (wc := (uw_Model ad_md cA_md md)) (wr := []) (tysC := [(cA_md 1, .int), (cA_md 2, .int), (cA_md 3, .int), (cA_md 4, .int), (cA_md 5, .int), (cA_md 6, .int), (cA_md 7, .int), (cA_md 8, .int), (cA_md 9, .boolean), (cA_md 10, .int), (cA_md 11, .int), (cA_md 12, .int), (cA_md 13, .int)]) (wu := fun (u : SModel) => (uw_Model ad_md cA_md u)) (wn := fun (u : SModel) => (uw_Model ad_md cA_md u)) [0, 1, 2, 3, 4, 5, 6, 7, 8, 9, 10, 11, 12, 13] [] [0, 1, 2, 3, 4, 5, 6, 7, 8, 9, 10, 11, 12, 13] [0, 1, 2, 3, 4, 5, 6, 7, 8, 9, 10, 11, 12] hP hD hS hA hK rfl rfl (by decide +kernel) (by decide +kernel) (by decide +kernel) rfl (fun _ => rfl) (by decide +kernel) (fun hPc hKc hDc => (va_runV (As := [.int y2]) (rest := [.int y4]) ⟨hx, hb, hml, hown, hts⟩ (k_Model_nearest l dC dI ad_md cA_md H.size md y2 u10 hu10) (cwV 1 hts (gV wd_926 wd_928 wd_36 wd_49 wd_929) rfl rfl rfl (by decide +kernel) ⟨Nat.le_of_ble_eq_true rfl, Nat.le_of_ble_eq_true rfl⟩) (cl_preV hPc hKc hDc hN (ci := 6) 0 rfl rfl) rfl rfl hl.1 rfl (lv_room (Nat.le_of_ble_eq_true rfl)) d_Model_following_81 ⟨Nat.le_of_ble_eq_true rfl, Nat.le_of_ble_eq_true rfl⟩)) (fun r u H locs hw hP hD hS => ?_)
        obtain ⟨hw1, hw2⟩ := hw
        have hw1 := hw1.symm
        have hw2 := hw2.symm
        subst hw1
        subst hw2
        have hP : va_P (dC, dI) vwCl (uw_Model ad_md cA_md u10.2) H := hP
        have hD : va_D A (uw_Model ad_md cA_md u10.2) := hD
        refine lv_sipush (v := (10000 : Int32)) hx hb d_Model_following_84 (by decide) ?_
        refine lv_imul hx hb d_Model_following_87 ?_
        refine lv_aload_n hx hb d_Model_following_88 rfl (lv_at hl 1 rfl) ?_
        refine va_get (D := (dC, dI)) (ci := 6) (v := .ref (ad_md 2)) (C := "HazardTablesModel") (T := F_Model) (N := 30) hx hb hts hin_Model hown hK hP 0 rfl rfl 6 (by decide) fl_17 (fun _ h9 => h9) rfl d_Model_following_89 ?_
        refine lv_iload_n hx hb d_Model_following_92 rfl (lv_at hl 3 rfl) ?_
        refine lv_bipush (v := (43 : Int32)) hx hb d_Model_following_93 (by decide) ?_
        refine lv_imul hx hb d_Model_following_95 ?_
        obtain ⟨hi11, hf⟩ := hf_g hf
        refine va_iald hx hb hK hP 2 1 rfl rfl hi11 d_Model_following_96 ?_
        refine lv_iadd hx hb d_Model_following_97 ?_
        refine lv_icmp_ge (tgt := 103) hx hb d_Model_following_98 (by decide) (fun hc12 => ?_) (fun hc12 => ?_)
        · have hf := hf_t hf hc12
          refine lv_iinc (v := y3 + (1 : Int32)) (lv' := [(3, .int (y3 + (1 : Int32))), (5, .int (bI z0)), (0, .ref (ad_md 0)), (1, .int y1), (2, .int y2), (4, .int y4)]) hx hb d_Model_following_103 hl (k := 4) rfl rfl (by decide) rfl (fun ls hl => ?_)
          refine lv_goto (tgt := 4) hx hb d_Model_following_106 (by decide) ?_
          exact hk_4 u10.2 y1 y2 (y3 + (1 : Int32)) H locs ls hf hP hD hS (lv_sub hl [2, 3, 4, 0] rfl)
        · have hf := hf_f hf hc12
          refine lv_iload_n hx hb d_Model_following_101 rfl (lv_at hl 4 rfl) ?_
          refine lv_istore_n (lv' := [(2, .int y3), (5, .int (bI z0)), (0, .ref (ad_md 0)), (1, .int y1), (3, .int y3), (4, .int y4)]) hx hb d_Model_following_102 rfl hl (by decide) rfl (fun ls hl => ?_)
          refine lv_iinc (v := y3 + (1 : Int32)) (lv' := [(3, .int (y3 + (1 : Int32))), (2, .int y3), (5, .int (bI z0)), (0, .ref (ad_md 0)), (1, .int y1), (4, .int y4)]) hx hb d_Model_following_103 hl (k := 4) rfl rfl (by decide) rfl (fun ls hl => ?_)
          refine lv_goto (tgt := 4) hx hb d_Model_following_106 (by decide) ?_
          exact hk_4 u10.2 y1 y3 (y3 + (1 : Int32)) H locs ls hf hP hD hS (lv_sub hl [3, 4, 1, 0] rfl)
  have w_61 : ∀ (k_4 : SModel → Int32 → Int32 → Int32 → Option (Int32 × SModel)), (∀ (md : SModel) (y1 : Int32) (y2 : Int32) (y3 : Int32) (H : Heap) (locs : List Loc) (ls : Array Slot), k_4 md y1 y2 y3 = some res → va_P (dC, dI) vwCl (uw_Model ad_md cA_md md) H → va_D A (uw_Model ad_md cA_md md) → va_S A s.heap H locs → lv_has ls 6 [(0, .ref (ad_md 0)), (1, .int y1), (2, .int y2), (3, .int y3)] → W p l e (headSpec w_Model_following ({ frames := 3, cells := 0, slots := 0, locals := 69 })).room s m ([.ref (ad_md 0), .int x1] : List Value).toArray below meth c H locs 0 0 Q (F0 m 4 ls [])) → ∀ (md : SModel) (y1 : Int32) (y2 : Int32) (y3 : Int32) (y4 : Int32) (H : Heap) (locs : List Loc) (ls : Array Slot), f_Model_following_61 k_4 md y1 y2 y3 y4 = some res → va_P (dC, dI) vwCl (uw_Model ad_md cA_md md) H → va_D A (uw_Model ad_md cA_md md) → va_S A s.heap H locs → lv_has ls 6 [(0, .ref (ad_md 0)), (1, .int y1), (2, .int y2), (3, .int y3), (4, .int y4)] → W p l e (headSpec w_Model_following ({ frames := 3, cells := 0, slots := 0, locals := 69 })).room s m ([.ref (ad_md 0), .int x1] : List Value).toArray below meth c H locs 0 0 Q (F0 m 61 ls []) := by
    intro k_4 hk_4
    intro md y1 y2 y3 y4 H locs ls hf hP hD hS hl
    rw [f_Model_following_61] at hf
    refine lv_iconst (v := (1 : Int32)) hx hb d_Model_following_61 (by decide) ?_
    refine lv_goto (tgt := 66) hx hb d_Model_following_62 (by decide) ?_
    exact w_66 k_4 hk_4 md y1 y2 y3 y4 true H locs ls hf hP hD hS (lv_sub hl [0, 1, 2, 3, 4] rfl)
  have w_4 : ∀ (n : Nat) (md : SModel) (y1 : Int32) (y2 : Int32) (y3 : Int32) (H : Heap) (locs : List Loc) (ls : Array Slot), f_Model_following_4 n md y1 y2 y3 = some res → va_P (dC, dI) vwCl (uw_Model ad_md cA_md md) H → va_D A (uw_Model ad_md cA_md md) → va_S A s.heap H locs → lv_has ls 6 [(0, .ref (ad_md 0)), (1, .int y1), (2, .int y2), (3, .int y3)] → W p l e (headSpec w_Model_following ({ frames := 3, cells := 0, slots := 0, locals := 69 })).room s m ([.ref (ad_md 0), .int x1] : List Value).toArray below meth c H locs 0 0 Q (F0 m 4 ls []) := by
    intro n
    induction n with
    | zero =>
      intro md y1 y2 y3 H locs ls hf hP hD hS hl
      rw [f_Model_following_4] at hf; cases hf
    | succ n ih =>
      intro md y1 y2 y3 H locs ls hf hP hD hS hl
      rw [f_Model_following_4] at hf
      refine lv_iload_n hx hb d_Model_following_4 rfl (lv_at hl 3 rfl) ?_
      refine lv_aload_n hx hb d_Model_following_5 rfl (lv_at hl 0 rfl) ?_
      refine va_get (D := (dC, dI)) (ci := 6) (v := .int md.2.2.2.1.1) (C := "HazardTablesModel") (T := F_Model) (N := 30) hx hb hts hin_Model hown hK hP 0 rfl rfl 4 (by decide) fl_128 (fun _ h9 => h9) rfl d_Model_following_6 ?_
      refine lv_icmp_ge (tgt := 109) hx hb d_Model_following_9 (by decide) (fun hc1 => ?_) (fun hc1 => ?_)
      · have hf := hf_t hf hc1
        refine lv_iload_n hx hb d_Model_following_109 rfl (lv_at hl 2 rfl) ?_
        exact ret y2 md H locs ls 110 d_Model_following_110 (hf_e hf) hP hD hS
      · have hf := hf_f hf hc1
        refine lv_aload_n hx hb d_Model_following_12 rfl (lv_at hl 0 rfl) ?_
        refine lv_iload_n hx hb d_Model_following_13 rfl (lv_at hl 3 rfl) ?_
        obtain ⟨u2, hu2, hf⟩ := Option.bind_eq_some_iff.mp hf
        refine cl_i (wc := (uw_Model ad_md cA_md md)) (wr := []) (tysC := [(cA_md 1, .int), (cA_md 2, .int), (cA_md 3, .int), (cA_md 4, .int), (cA_md 5, .int), (cA_md 6, .int), (cA_md 7, .int), (cA_md 8, .int), (cA_md 9, .boolean), (cA_md 10, .int), (cA_md 11, .int), (cA_md 12, .int), (cA_md 13, .int)]) (wu := fun (u : SModel) => (uw_Model ad_md cA_md u)) (wn := fun (u : SModel) => (uw_Model ad_md cA_md u)) [0, 1, 2, 3, 4, 5, 6, 7, 8, 9, 10, 11, 12, 13] [] [0, 1, 2, 3, 4, 5, 6, 7, 8, 9, 10, 11, 12, 13] [0, 1, 2, 3, 4, 5, 6, 7, 8, 9, 10, 11, 12] hP hD hS hA hK rfl rfl (by decide +kernel) (by decide +kernel) (by decide +kernel) rfl (fun _ => rfl) (by decide +kernel) (fun hPc hKc hDc => (va_runV (As := [.int y3]) (rest := []) ⟨hx, hb, hml, hown, hts⟩ (k_Model_nearest l dC dI ad_md cA_md H.size md y3 u2 hu2) (cwV 1 hts (gV wd_926 wd_928 wd_36 wd_49 wd_929) rfl rfl rfl (by decide +kernel) ⟨Nat.le_of_ble_eq_true rfl, Nat.le_of_ble_eq_true rfl⟩) (cl_preV hPc hKc hDc hN (ci := 6) 0 rfl rfl) rfl rfl hl.1 rfl (lv_room (Nat.le_of_ble_eq_true rfl)) d_Model_following_14 ⟨Nat.le_of_ble_eq_true rfl, Nat.le_of_ble_eq_true rfl⟩)) (fun r u H locs hw hP hD hS => ?_)
        obtain ⟨hw1, hw2⟩ := hw
        have hw1 := hw1.symm
        have hw2 := hw2.symm
        subst hw1
        subst hw2
        have hP : va_P (dC, dI) vwCl (uw_Model ad_md cA_md u2.2) H := hP
        have hD : va_D A (uw_Model ad_md cA_md u2.2) := hD
        refine lv_sipush (v := (10000 : Int32)) hx hb d_Model_following_17 (by decide) ?_
        refine lv_imul hx hb d_Model_following_20 ?_
        refine lv_aload_n hx hb d_Model_following_21 rfl (lv_at hl 0 rfl) ?_
        refine va_get (D := (dC, dI)) (ci := 6) (v := .ref (ad_md 2)) (C := "HazardTablesModel") (T := F_Model) (N := 30) hx hb hts hin_Model hown hK hP 0 rfl rfl 6 (by decide) fl_17 (fun _ h9 => h9) rfl d_Model_following_22 ?_
        refine lv_iload_n hx hb d_Model_following_25 rfl (lv_at hl 3 rfl) ?_
        refine lv_bipush (v := (43 : Int32)) hx hb d_Model_following_26 (by decide) ?_
        refine lv_imul hx hb d_Model_following_28 ?_
        obtain ⟨hi3, hf⟩ := hf_g hf
        refine va_iald hx hb hK hP 2 1 rfl rfl hi3 d_Model_following_29 ?_
        refine lv_iadd hx hb d_Model_following_30 ?_
        refine lv_istore (lv' := [(4, .int ((u2.1 * (10000 : Int32)) + (u2.2.2.2.2.1.2.2 (y3 * (43 : Int32)).toNatClampNeg))), (0, .ref (ad_md 0)), (1, .int y1), (2, .int y2), (3, .int y3)]) hx hb d_Model_following_31 hl (by decide) rfl (fun ls hl => ?_)
        refine lv_iload_n hx hb d_Model_following_33 rfl (lv_at hl 2 rfl) ?_
        refine lv_if_lt (tgt := 61) hx hb d_Model_following_34 (by decide) (fun hc4 => ?_) (fun hc4 => ?_)
        · have hf := hf_t hf hc4
          exact w_61 (f_Model_following_4 n) ih u2.2 y1 y2 y3 ((u2.1 * (10000 : Int32)) + (u2.2.2.2.2.1.2.2 (y3 * (43 : Int32)).toNatClampNeg)) H locs ls hf hP hD hS (lv_sub hl [1, 2, 3, 4, 0] rfl)
        · have hf := hf_f hf hc4
          refine lv_iload hx hb d_Model_following_37 (lv_at hl 0 rfl) ?_
          refine lv_aload_n hx hb d_Model_following_39 rfl (lv_at hl 1 rfl) ?_
          refine lv_iload_n hx hb d_Model_following_40 rfl (lv_at hl 2 rfl) ?_
          obtain ⟨u5, hu5, hf⟩ := Option.bind_eq_some_iff.mp hf
          refine cl_i (wc := (uw_Model ad_md cA_md u2.2)) (wr := []) (tysC := [(cA_md 1, .int), (cA_md 2, .int), (cA_md 3, .int), (cA_md 4, .int), (cA_md 5, .int), (cA_md 6, .int), (cA_md 7, .int), (cA_md 8, .int), (cA_md 9, .boolean), (cA_md 10, .int), (cA_md 11, .int), (cA_md 12, .int), (cA_md 13, .int)]) (wu := fun (u : SModel) => (uw_Model ad_md cA_md u)) (wn := fun (u : SModel) => (uw_Model ad_md cA_md u)) [0, 1, 2, 3, 4, 5, 6, 7, 8, 9, 10, 11, 12, 13] [] [0, 1, 2, 3, 4, 5, 6, 7, 8, 9, 10, 11, 12, 13] [0, 1, 2, 3, 4, 5, 6, 7, 8, 9, 10, 11, 12] hP hD hS hA hK rfl rfl (by decide +kernel) (by decide +kernel) (by decide +kernel) rfl (fun _ => rfl) (by decide +kernel) (fun hPc hKc hDc => (va_runV (As := [.int y1]) (rest := [.int ((u2.1 * (10000 : Int32)) + (u2.2.2.2.2.1.2.2 (y3 * (43 : Int32)).toNatClampNeg))]) ⟨hx, hb, hml, hown, hts⟩ (k_Model_nearest l dC dI ad_md cA_md H.size u2.2 y1 u5 hu5) (cwV 1 hts (gV wd_926 wd_928 wd_36 wd_49 wd_929) rfl rfl rfl (by decide +kernel) ⟨Nat.le_of_ble_eq_true rfl, Nat.le_of_ble_eq_true rfl⟩) (cl_preV hPc hKc hDc hN (ci := 6) 0 rfl rfl) rfl rfl hl.1 rfl (lv_room (Nat.le_of_ble_eq_true rfl)) d_Model_following_41 ⟨Nat.le_of_ble_eq_true rfl, Nat.le_of_ble_eq_true rfl⟩)) (fun r u H locs hw hP hD hS => ?_)
          obtain ⟨hw1, hw2⟩ := hw
          have hw1 := hw1.symm
          have hw2 := hw2.symm
          subst hw1
          subst hw2
          have hP : va_P (dC, dI) vwCl (uw_Model ad_md cA_md u5.2) H := hP
          have hD : va_D A (uw_Model ad_md cA_md u5.2) := hD
          refine lv_sipush (v := (10000 : Int32)) hx hb d_Model_following_44 (by decide) ?_
          refine lv_imul hx hb d_Model_following_47 ?_
          refine lv_aload_n hx hb d_Model_following_48 rfl (lv_at hl 1 rfl) ?_
          refine va_get (D := (dC, dI)) (ci := 6) (v := .ref (ad_md 2)) (C := "HazardTablesModel") (T := F_Model) (N := 30) hx hb hts hin_Model hown hK hP 0 rfl rfl 6 (by decide) fl_17 (fun _ h9 => h9) rfl d_Model_following_49 ?_
          refine lv_iload_n hx hb d_Model_following_52 rfl (lv_at hl 2 rfl) ?_
          refine lv_bipush (v := (43 : Int32)) hx hb d_Model_following_53 (by decide) ?_
          refine lv_imul hx hb d_Model_following_55 ?_
          obtain ⟨hi6, hf⟩ := hf_g hf
          refine va_iald hx hb hK hP 2 1 rfl rfl hi6 d_Model_following_56 ?_
          refine lv_iadd hx hb d_Model_following_57 ?_
          refine lv_icmp_le (tgt := 65) hx hb d_Model_following_58 (by decide) (fun hc7 => ?_) (fun hc7 => ?_)
          · have hf := hf_t hf hc7
            refine lv_iconst (v := (0 : Int32)) hx hb d_Model_following_65 (by decide) ?_
            exact w_66 (f_Model_following_4 n) ih u5.2 y1 y2 y3 ((u2.1 * (10000 : Int32)) + (u2.2.2.2.2.1.2.2 (y3 * (43 : Int32)).toNatClampNeg)) false H locs ls hf hP hD hS (lv_sub hl [1, 2, 3, 4, 0] rfl)
          · have hf := hf_f hf hc7
            exact w_61 (f_Model_following_4 n) ih u5.2 y1 y2 y3 ((u2.1 * (10000 : Int32)) + (u2.2.2.2.2.1.2.2 (y3 * (43 : Int32)).toNatClampNeg)) H locs ls hf hP hD hS (lv_sub hl [1, 2, 3, 4, 0] rfl)
  have hl := lv_entry ([.ref (ad_md 0), .int x1]) (n := 6) (Nat.le_of_ble_eq_true rfl)
  rw [lg_entry_eq]
  generalize (lg_sl ([.ref (ad_md 0), .int x1]) ++ List.replicate (6 - (lg_sl ([.ref (ad_md 0), .int x1])).length) Slot.unset).toArray = ls at hl ⊢
  have hl : lv_has ls 6 [(0, .ref (ad_md 0)), (1, .int x1)] := hl
  have hf := hf
  rw [f_Model_following] at hf
  obtain ⟨H, hH⟩ : ∃ H : Heap, H = s.heap := ⟨_, rfl⟩
  obtain ⟨locs, hlocs⟩ : ∃ L : List Loc, L = [] := ⟨_, rfl⟩
  have hP : va_P (dC, dI) vwCl (uw_Model ad_md cA_md md) H := by rw [hH]; exact hP
  have hS : va_S A s.heap H locs := by rw [hH, hlocs]; exact hS
  show W p l e (headSpec w_Model_following ({ frames := 3, cells := 0, slots := 0, locals := 69 })).room s m ([.ref (ad_md 0), .int x1] : List Value).toArray below meth c s.heap [] 0 0 Q (F0 m 0 ls [])
  suffices hgo : W p l e (headSpec w_Model_following ({ frames := 3, cells := 0, slots := 0, locals := 69 })).room s m ([.ref (ad_md 0), .int x1] : List Value).toArray below meth c H locs 0 0 Q (F0 m 0 ls []) by rw [hH, hlocs] at hgo; exact hgo
  clear hH hlocs
  refine lv_iconst (v := (-1 : Int32)) hx hb d_Model_following_0 (by decide) ?_
  refine lv_istore_n (lv' := [(2, .int (-1 : Int32)), (0, .ref (ad_md 0)), (1, .int x1)]) hx hb d_Model_following_1 rfl hl (by decide) rfl (fun ls hl => ?_)
  refine lv_iconst (v := (0 : Int32)) hx hb d_Model_following_2 (by decide) ?_
  refine lv_istore_n (lv' := [(3, .int (0 : Int32)), (2, .int (-1 : Int32)), (0, .ref (ad_md 0)), (1, .int x1)]) hx hb d_Model_following_3 rfl hl (by decide) rfl (fun ls hl => ?_)
  exact w_4 4096 md x1 (-1 : Int32) (0 : Int32) H locs ls hf hP hD hS (lv_sub hl [2, 3, 1, 0] rfl)
noncomputable def f_Model_say_82  : Nat → SModel → Int64 → Int32 → Int32 → Option (Int32 × SModel)
  | 0, _, _, _, _ => none
  | n + 1, md, y1, y3, y5 =>
    (if y3 ≤ y5 then
      (Option.bind (f_Model_following md (-1 : Int32)) fun u9 =>
        (if inb (u9.1 * (43 : Int32)) 559 then
          (some (u9.2.2.2.2.1.2.2 (u9.1 * (43 : Int32)).toNatClampNeg, u9.2))
         else none)
       )
     else
      (if inb y5 8 then
        (f_Model_say_82 n (md.1, md.2.1, md.2.2.1, md.2.2.2.1, md.2.2.2.2.1, md.2.2.2.2.2.1, md.2.2.2.2.2.2.1, md.2.2.2.2.2.2.2.1, (md.2.2.2.2.2.2.2.2.1, upd md.2.2.2.2.2.2.2.2.2.1 y5.toNatClampNeg (((y1 >>> (((8 : Int32) * ((y3 - (1 : Int32)) - y5)).toInt64 &&& 63)).toInt32) &&& (255 : Int32)), md.2.2.2.2.2.2.2.2.2.2)) y1 y3 (y5 + (1 : Int32)))
       else none)
     )
noncomputable def f_Model_say_65  (md : SModel) (y1 : Int64) (y3 : Int32) (z1 : Bool) (z2 : Bool) : Option (Int32 × SModel) :=
  (Option.bind (f_Model_goes md z1 z2 true) fun u6 =>
    (if (bI u6.1) = 0 then
      (some ((0 : Int32), u6.2))
     else
      (f_Model_say_82 4096 (u6.2.1, u6.2.2.1, u6.2.2.2.1, u6.2.2.2.2.1, u6.2.2.2.2.2.1, u6.2.2.2.2.2.2.1, u6.2.2.2.2.2.2.2.1, u6.2.2.2.2.2.2.2.2.1, (y3, u6.2.2.2.2.2.2.2.2.2.2.1, u6.2.2.2.2.2.2.2.2.2.2.2)) y1 y3 (0 : Int32))
     )
   )
noncomputable def f_Model_say_50  (md : SModel) (y1 : Int64) (y3 : Int32) (y4 : Bool) : Option (Int32 × SModel) :=
  (if md.2.2.2.1.1 ≤ 0 then
    (f_Model_say_65 md y1 y3 y4 false)
   else
    (f_Model_say_65 md y1 y3 y4 true)
   )
noncomputable def f_Model_say_12  : Nat → SModel → Int64 → Int32 → Bool → Int32 → Option (Int32 × SModel)
  | 0, _, _, _, _, _ => none
  | n + 1, md, y1, y3, y4, y5 =>
    (if y3 ≤ y5 then
      (f_Model_say_50 md y1 y3 y4)
     else
      (if (bI y4) = 0 then
        (f_Model_say_50 md y1 y3 y4)
       else
        (Option.bind (f_Model_within (((y1 >>> (((8 : Int32) * y5).toInt64 &&& 63)).toInt32) &&& (255 : Int32)) (97 : Int32) (122 : Int32)) fun u4 =>
          (f_Model_say_12 n md y1 y3 u4 (y5 + (1 : Int32)))
         )
       )
     )
noncomputable def f_Model_say (md : SModel) (x1 : Int64) (x3 : Int32) : Option (Int32 × SModel) :=
  (Option.bind (f_Model_within x3 (1 : Int32) (8 : Int32)) fun u1 =>
    (f_Model_say_12 4096 md x1 x3 u1 (0 : Int32))
   )
set_option maxHeartbeats 4000000 in
set_option maxRecDepth 100000 in
theorem k_Model_say (l : Launch) (dC : Nat → ClassId) (dI : Nat → Nat → Nat) (ad_md : Nat → Nat) (cA_md : Nat → ClassId) (sz : Nat) (md : SModel) (x1 : Int64) (x3 : Int32) (res : Int32 × SModel) (hf : f_Model_say md x1 x3 = some res) : Met l y_Model_say w_Model_say ({ frames := 4, cells := 0, slots := 0, locals := 94 }) (cPc (dC, dI) (uw_Model ad_md cA_md md) [(cA_md 1, .int), (cA_md 2, .int), (cA_md 3, .int), (cA_md 4, .int), (cA_md 5, .int), (cA_md 6, .int), (cA_md 7, .int), (cA_md 8, .int), (cA_md 9, .boolean), (cA_md 10, .int), (cA_md 11, .int), (cA_md 12, .int), (cA_md 13, .int)] sz [.ref (ad_md 0), .long x1, .int x3]) (va_Qi (fun (r : Int32) (u : SModel) => r = res.1 ∧ u = res.2) (fun (u : SModel) (t : State) => va_P (dC, dI) vwCl (uw_Model ad_md cA_md u) t.heap ∧ va_K (dC, dI) vwCl [(cA_md 1, .int), (cA_md 2, .int), (cA_md 3, .int), (cA_md 4, .int), (cA_md 5, .int), (cA_md 6, .int), (cA_md 7, .int), (cA_md 8, .int), (cA_md 9, .boolean), (cA_md 10, .int), (cA_md 11, .int), (cA_md 12, .int), (cA_md 13, .int)] t ∧ va_D (va_A (uw_Model ad_md cA_md md) sz) (uw_Model ad_md cA_md u)) (va_A (uw_Model ad_md cA_md md) sz)) 0 0 (va_A (uw_Model ad_md cA_md md) sz) := by
  refine Met.ofW (cc := b_Model_say) (maxL := 6) (ret := (some .int)) (by decide) rfl ?_
  intro p e s m args below meth c s₁ B hml hv
  obtain ⟨rfl, hsz, hP, hK, hD0, hN⟩ := hv
  have hx := B.exec
  have hb := B.bytes
  have hr := B.returns
  have hts := atoms_spec (ws := w_Model_say) B.pre
  have hown : s.vm.findClass "HazardTablesModel" = some m.cls := findClass_of_methodNamed B.named
  have hlocks := B.notSynchronized
  subst hsz
  have hD := hD0.self (sz := s.heap.size)
  generalize hAe : va_A (uw_Model ad_md cA_md md) s.heap.size = A at hD ⊢
  have hA : ∀ q : Nat, s.heap.size ≤ q → A q := fun q h => by rw [← hAe]; exact Or.inr h
  have hS : va_S A s.heap s.heap [] := va_S.rf
  have hP : va_P (dC, dI) vwCl (uw_Model ad_md cA_md md) s.heap := hP
  have fl_128 := (hts _ (List.mem_cons_of_mem _ wd_752))
  have fl_134 := (hts _ (List.mem_cons_of_mem _ wd_775))
  have fl_17 := (hts _ (List.mem_cons_of_mem _ wd_754))
  have fl_58 := (hts _ (List.mem_cons_of_mem _ wd_776))
  have hin_Model : ∀ w ∈ u_ws "HazardTablesModel" F_Model 30, w ∈ w_Model_say := fun w h => List.mem_cons_of_mem _ (hinA_Model w h)
  have ret : ∀ (v : Int32) (u : SModel) (H : Heap) (locs : List Loc) (ls : Array Slot) (pc : Nat), decode b_Model_say pc = .ok (.ireturn, 1) → (v = res.1 ∧ u = res.2) → va_P (dC, dI) vwCl (uw_Model ad_md cA_md u) H → va_D A (uw_Model ad_md cA_md u) → va_S A s.heap H locs → W p l e (headSpec w_Model_say ({ frames := 4, cells := 0, slots := 0, locals := 94 })).room s m ([.ref (ad_md 0), .long x1, .int x3] : List Value).toArray below meth c H locs 0 0 (MQ below (va_Qi (fun (r : Int32) (u : SModel) => r = res.1 ∧ u = res.2) (fun (u : SModel) (t : State) => va_P (dC, dI) vwCl (uw_Model ad_md cA_md u) t.heap ∧ va_K (dC, dI) vwCl [(cA_md 1, .int), (cA_md 2, .int), (cA_md 3, .int), (cA_md 4, .int), (cA_md 5, .int), (cA_md 6, .int), (cA_md 7, .int), (cA_md 8, .int), (cA_md 9, .boolean), (cA_md 10, .int), (cA_md 11, .int), (cA_md 12, .int), (cA_md 13, .int)] t ∧ va_D A (uw_Model ad_md cA_md u)) A) ([.ref (ad_md 0), .long x1, .int x3] : List Value).toArray s 0 0 A) (F0 m pc ls [.int v]) := fun v u H locs ls pc hd hp hP hD hS => W.iret (v := v) hx hb hr (fun t ht hW => ⟨⟨v, u, rfl, hp, by rw [ht]; exact hP, va_K.moved hW.alike hK, hD⟩, hS.F ht⟩) hS.2.2 hd
  generalize (MQ below (va_Qi (fun (r : Int32) (u : SModel) => r = res.1 ∧ u = res.2) (fun (u : SModel) (t : State) => va_P (dC, dI) vwCl (uw_Model ad_md cA_md u) t.heap ∧ va_K (dC, dI) vwCl [(cA_md 1, .int), (cA_md 2, .int), (cA_md 3, .int), (cA_md 4, .int), (cA_md 5, .int), (cA_md 6, .int), (cA_md 7, .int), (cA_md 8, .int), (cA_md 9, .boolean), (cA_md 10, .int), (cA_md 11, .int), (cA_md 12, .int), (cA_md 13, .int)] t ∧ va_D A (uw_Model ad_md cA_md u)) A) ([.ref (ad_md 0), .long x1, .int x3] : List Value).toArray s 0 0 A) = Q at ret ⊢
  have w_82 : ∀ (n : Nat) (md : SModel) (y1 : Int64) (y3 : Int32) (y5 : Int32) (H : Heap) (locs : List Loc) (ls : Array Slot), f_Model_say_82 n md y1 y3 y5 = some res → va_P (dC, dI) vwCl (uw_Model ad_md cA_md md) H → va_D A (uw_Model ad_md cA_md md) → va_S A s.heap H locs → lv_has ls 6 [(0, .ref (ad_md 0)), (1, .long y1), (3, .int y3), (5, .int y5)] → W p l e (headSpec w_Model_say ({ frames := 4, cells := 0, slots := 0, locals := 94 })).room s m ([.ref (ad_md 0), .long x1, .int x3] : List Value).toArray below meth c H locs 0 0 Q (F0 m 82 ls []) := by
    intro n
    induction n with
    | zero =>
      intro md y1 y3 y5 H locs ls hf hP hD hS hl
      rw [f_Model_say_82] at hf; cases hf
    | succ n ih =>
      intro md y1 y3 y5 H locs ls hf hP hD hS hl
      rw [f_Model_say_82] at hf
      refine lv_iload hx hb d_Model_say_82 (lv_at hl 3 rfl) ?_
      refine lv_iload_n hx hb d_Model_say_84 rfl (lv_at hl 2 rfl) ?_
      refine lv_icmp_ge (tgt := 117) hx hb d_Model_say_85 (by decide) (fun hc8 => ?_) (fun hc8 => ?_)
      · have hf := hf_t hf hc8
        refine lv_aload_n hx hb d_Model_say_117 rfl (lv_at hl 0 rfl) ?_
        refine va_get (D := (dC, dI)) (ci := 6) (v := .ref (ad_md 2)) (C := "HazardTablesModel") (T := F_Model) (N := 30) hx hb hts hin_Model hown hK hP 0 rfl rfl 6 (by decide) fl_17 (fun _ h9 => h9) rfl d_Model_say_118 ?_
        refine lv_aload_n hx hb d_Model_say_121 rfl (lv_at hl 0 rfl) ?_
        refine lv_iconst (v := (-1 : Int32)) hx hb d_Model_say_122 (by decide) ?_
        obtain ⟨u9, hu9, hf⟩ := Option.bind_eq_some_iff.mp hf
        refine cl_i (wc := (uw_Model ad_md cA_md md)) (wr := []) (tysC := [(cA_md 1, .int), (cA_md 2, .int), (cA_md 3, .int), (cA_md 4, .int), (cA_md 5, .int), (cA_md 6, .int), (cA_md 7, .int), (cA_md 8, .int), (cA_md 9, .boolean), (cA_md 10, .int), (cA_md 11, .int), (cA_md 12, .int), (cA_md 13, .int)]) (wu := fun (u : SModel) => (uw_Model ad_md cA_md u)) (wn := fun (u : SModel) => (uw_Model ad_md cA_md u)) [0, 1, 2, 3, 4, 5, 6, 7, 8, 9, 10, 11, 12, 13] [] [0, 1, 2, 3, 4, 5, 6, 7, 8, 9, 10, 11, 12, 13] [0, 1, 2, 3, 4, 5, 6, 7, 8, 9, 10, 11, 12] hP hD hS hA hK rfl rfl (by decide +kernel) (by decide +kernel) (by decide +kernel) rfl (fun _ => rfl) (by decide +kernel) (fun hPc hKc hDc => (va_runV (As := [.int (-1 : Int32)]) (rest := [.ref (ad_md 2)]) ⟨hx, hb, hml, hown, hts⟩ (k_Model_following l dC dI ad_md cA_md H.size md (-1 : Int32) u9 hu9) (cwV 1 hts (gV wd_922 wd_924 wd_35 wd_49 wd_925) rfl rfl rfl (by decide +kernel) ⟨Nat.le_of_ble_eq_true rfl, Nat.le_of_ble_eq_true rfl⟩) (cl_preV hPc hKc hDc hN (ci := 6) 0 rfl rfl) rfl rfl hl.1 rfl (lv_room (Nat.le_of_ble_eq_true rfl)) d_Model_say_123 ⟨Nat.le_of_ble_eq_true rfl, Nat.le_of_ble_eq_true rfl⟩)) (fun r u H locs hw hP hD hS => ?_)
        obtain ⟨hw1, hw2⟩ := hw
        have hw1 := hw1.symm
        have hw2 := hw2.symm
        subst hw1
        subst hw2
        have hP : va_P (dC, dI) vwCl (uw_Model ad_md cA_md u9.2) H := hP
        have hD : va_D A (uw_Model ad_md cA_md u9.2) := hD
        refine lv_bipush (v := (43 : Int32)) hx hb d_Model_say_126 (by decide) ?_
        refine lv_imul hx hb d_Model_say_128 ?_
        obtain ⟨hi10, hf⟩ := hf_g hf
        refine va_iald hx hb hK hP 2 1 rfl rfl hi10 d_Model_say_129 ?_
        exact ret (u9.2.2.2.2.1.2.2 (u9.1 * (43 : Int32)).toNatClampNeg) u9.2 H locs ls 130 d_Model_say_130 (hf_e hf) hP hD hS
      · have hf := hf_f hf hc8
        refine lv_aload_n hx hb d_Model_say_88 rfl (lv_at hl 0 rfl) ?_
        refine va_get (D := (dC, dI)) (ci := 6) (v := .ref (ad_md 12)) (C := "HazardTablesModel") (T := F_Model) (N := 30) hx hb hts hin_Model hown hK hP 0 rfl rfl 28 (by decide) fl_58 (fun _ h9 => h9) rfl d_Model_say_89 ?_
        refine lv_iload hx hb d_Model_say_92 (lv_at hl 3 rfl) ?_
        refine lv_lload_n hx hb d_Model_say_94 rfl (lv_at hl 1 rfl) ?_
        refine lv_bipush (v := (8 : Int32)) hx hb d_Model_say_95 (by decide) ?_
        refine lv_iload_n hx hb d_Model_say_97 rfl (lv_at hl 2 rfl) ?_
        refine lv_iconst (v := (1 : Int32)) hx hb d_Model_say_98 (by decide) ?_
        refine lv_isub hx hb d_Model_say_99 ?_
        refine lv_iload hx hb d_Model_say_100 (lv_at hl 3 rfl) ?_
        refine lv_isub hx hb d_Model_say_102 ?_
        refine lv_imul hx hb d_Model_say_103 ?_
        refine lv_lshr (v := y1 >>> (((8 : Int32) * ((y3 - (1 : Int32)) - y5)).toInt64 &&& 63)) hx hb d_Model_say_104 rfl ?_
        refine lv_l2i (v := (y1 >>> (((8 : Int32) * ((y3 - (1 : Int32)) - y5)).toInt64 &&& 63)).toInt32) hx hb d_Model_say_105 rfl ?_
        refine lv_sipush (v := (255 : Int32)) hx hb d_Model_say_106 (by decide) ?_
        refine lv_iand hx hb d_Model_say_109 ?_
        obtain ⟨hi11, hf⟩ := hf_g hf
        refine va_iast hx hb hK hP hD hS 12 11 rfl rfl hi11 d_Model_say_110 (fun H locs hP hD hS => ?_)
        have hP : va_P (dC, dI) vwCl (uw_Model ad_md cA_md (md.1, md.2.1, md.2.2.1, md.2.2.2.1, md.2.2.2.2.1, md.2.2.2.2.2.1, md.2.2.2.2.2.2.1, md.2.2.2.2.2.2.2.1, (md.2.2.2.2.2.2.2.2.1, upd md.2.2.2.2.2.2.2.2.2.1 y5.toNatClampNeg (((y1 >>> (((8 : Int32) * ((y3 - (1 : Int32)) - y5)).toInt64 &&& 63)).toInt32) &&& (255 : Int32)), md.2.2.2.2.2.2.2.2.2.2))) H := hP
        have hD : va_D A (uw_Model ad_md cA_md (md.1, md.2.1, md.2.2.1, md.2.2.2.1, md.2.2.2.2.1, md.2.2.2.2.2.1, md.2.2.2.2.2.2.1, md.2.2.2.2.2.2.2.1, (md.2.2.2.2.2.2.2.2.1, upd md.2.2.2.2.2.2.2.2.2.1 y5.toNatClampNeg (((y1 >>> (((8 : Int32) * ((y3 - (1 : Int32)) - y5)).toInt64 &&& 63)).toInt32) &&& (255 : Int32)), md.2.2.2.2.2.2.2.2.2.2))) := hD
        refine lv_iinc (v := y5 + (1 : Int32)) (lv' := [(5, .int (y5 + (1 : Int32))), (0, .ref (ad_md 0)), (1, .long y1), (3, .int y3)]) hx hb d_Model_say_111 hl (k := 3) rfl rfl (by decide) rfl (fun ls hl => ?_)
        refine lv_goto (tgt := 82) hx hb d_Model_say_114 (by decide) ?_
        exact ih (md.1, md.2.1, md.2.2.1, md.2.2.2.1, md.2.2.2.2.1, md.2.2.2.2.2.1, md.2.2.2.2.2.2.1, md.2.2.2.2.2.2.2.1, (md.2.2.2.2.2.2.2.2.1, upd md.2.2.2.2.2.2.2.2.2.1 y5.toNatClampNeg (((y1 >>> (((8 : Int32) * ((y3 - (1 : Int32)) - y5)).toInt64 &&& 63)).toInt32) &&& (255 : Int32)), md.2.2.2.2.2.2.2.2.2.2)) y1 y3 (y5 + (1 : Int32)) H locs ls hf hP hD hS (lv_sub hl [1, 2, 3, 0] rfl)
  have w_65 : ∀ (md : SModel) (y1 : Int64) (y3 : Int32) (z1 : Bool) (z2 : Bool) (H : Heap) (locs : List Loc) (ls : Array Slot), f_Model_say_65 md y1 y3 z1 z2 = some res → va_P (dC, dI) vwCl (uw_Model ad_md cA_md md) H → va_D A (uw_Model ad_md cA_md md) → va_S A s.heap H locs → lv_has ls 6 [(0, .ref (ad_md 0)), (1, .long y1), (3, .int y3)] → W p l e (headSpec w_Model_say ({ frames := 4, cells := 0, slots := 0, locals := 94 })).room s m ([.ref (ad_md 0), .long x1, .int x3] : List Value).toArray below meth c H locs 0 0 Q (F0 m 65 ls [.int (bI z2), .int (bI z1), .ref (ad_md 0)]) := by
    intro md y1 y3 z1 z2 H locs ls hf hP hD hS hl
    rw [f_Model_say_65] at hf
    refine lv_iconst (v := (1 : Int32)) hx hb d_Model_say_65 (by decide) ?_
    obtain ⟨u6, hu6, hf⟩ := Option.bind_eq_some_iff.mp hf
    refine cl_i (wc := (uw_Model ad_md cA_md md)) (wr := []) (tysC := [(cA_md 1, .int), (cA_md 2, .int), (cA_md 3, .int), (cA_md 4, .int), (cA_md 5, .int), (cA_md 6, .int), (cA_md 7, .int), (cA_md 8, .int), (cA_md 9, .boolean), (cA_md 10, .int), (cA_md 11, .int), (cA_md 12, .int), (cA_md 13, .int)]) (wu := fun (u : SModel) => (uw_Model ad_md cA_md u)) (wn := fun (u : SModel) => (uw_Model ad_md cA_md u)) [0, 1, 2, 3, 4, 5, 6, 7, 8, 9, 10, 11, 12, 13] [] [0, 1, 2, 3, 4, 5, 6, 7, 8, 9, 10, 11, 12, 13] [0, 1, 2, 3, 4, 5, 6, 7, 8, 9, 10, 11, 12] hP hD hS hA hK rfl rfl (by decide +kernel) (by decide +kernel) (by decide +kernel) rfl (fun _ => rfl) (by decide +kernel) (fun hPc hKc hDc => (va_runV (As := [.int (bI z1), .int (bI z2), .int (1 : Int32)]) (rest := []) ⟨hx, hb, hml, hown, hts⟩ (k_Model_goes l dC dI ad_md cA_md H.size md z1 z2 true u6 hu6) (cwV 3 hts (gV wd_850 wd_852 wd_22 wd_49 wd_853) rfl rfl rfl (by decide +kernel) ⟨Nat.le_of_ble_eq_true rfl, Nat.le_of_ble_eq_true rfl⟩) (cl_preV hPc hKc hDc hN (ci := 6) 0 rfl rfl) rfl rfl hl.1 rfl (lv_room (Nat.le_of_ble_eq_true rfl)) d_Model_say_66 ⟨Nat.le_of_ble_eq_true rfl, Nat.le_of_ble_eq_true rfl⟩)) (fun r u H locs hw hP hD hS => ?_)
    obtain ⟨hw1, hw2⟩ := hw
    have hw1 := hw1.symm
    have hw2 := hw2.symm
    subst hw1
    subst hw2
    have hP : va_P (dC, dI) vwCl (uw_Model ad_md cA_md u6.2) H := hP
    have hD : va_D A (uw_Model ad_md cA_md u6.2) := hD
    refine lv_if_ne (tgt := 74) hx hb d_Model_say_69 (by decide) (fun hc7 => ?_) (fun hc7 => ?_)
    · have hf := hf_f hf hc7
      refine lv_aload_n hx hb d_Model_say_74 rfl (lv_at hl 0 rfl) ?_
      refine lv_iload_n hx hb d_Model_say_75 rfl (lv_at hl 2 rfl) ?_
      refine va_put (D := (dC, dI)) (ci := 6) (v := .int y3) (ty := .int) (C := "HazardTablesModel") (T := F_Model) (N := 30) hx hb hts hin_Model t_Model t_Model_ok n_Model hown hK hP hD hS 0 rfl rfl 27 (by decide) fl_134 (fun _ h9 => h9) rfl (by decide +kernel) rfl rfl (Nat.le_of_ble_eq_true rfl) d_Model_say_76 (fun H locs hP hD hS => ?_)
      have hP : va_P (dC, dI) vwCl (uw_Model ad_md cA_md (u6.2.1, u6.2.2.1, u6.2.2.2.1, u6.2.2.2.2.1, u6.2.2.2.2.2.1, u6.2.2.2.2.2.2.1, u6.2.2.2.2.2.2.2.1, u6.2.2.2.2.2.2.2.2.1, (y3, u6.2.2.2.2.2.2.2.2.2.2.1, u6.2.2.2.2.2.2.2.2.2.2.2))) H := hP
      have hD : va_D A (uw_Model ad_md cA_md (u6.2.1, u6.2.2.1, u6.2.2.2.1, u6.2.2.2.2.1, u6.2.2.2.2.2.1, u6.2.2.2.2.2.2.1, u6.2.2.2.2.2.2.2.1, u6.2.2.2.2.2.2.2.2.1, (y3, u6.2.2.2.2.2.2.2.2.2.2.1, u6.2.2.2.2.2.2.2.2.2.2.2))) := hD
      refine lv_iconst (v := (0 : Int32)) hx hb d_Model_say_79 (by decide) ?_
      refine lv_istore (lv' := [(5, .int (0 : Int32)), (0, .ref (ad_md 0)), (1, .long y1), (3, .int y3)]) hx hb d_Model_say_80 hl (by decide) rfl (fun ls hl => ?_)
      exact w_82 4096 (u6.2.1, u6.2.2.1, u6.2.2.2.1, u6.2.2.2.2.1, u6.2.2.2.2.2.1, u6.2.2.2.2.2.2.1, u6.2.2.2.2.2.2.2.1, u6.2.2.2.2.2.2.2.2.1, (y3, u6.2.2.2.2.2.2.2.2.2.2.1, u6.2.2.2.2.2.2.2.2.2.2.2)) y1 y3 (0 : Int32) H locs ls hf hP hD hS (lv_sub hl [1, 2, 3, 0] rfl)
    · have hf := hf_t hf hc7
      refine lv_iconst (v := (0 : Int32)) hx hb d_Model_say_72 (by decide) ?_
      exact ret (0 : Int32) u6.2 H locs ls 73 d_Model_say_73 (hf_e hf) hP hD hS
  have w_50 : ∀ (md : SModel) (y1 : Int64) (y3 : Int32) (y4 : Bool) (H : Heap) (locs : List Loc) (ls : Array Slot), f_Model_say_50 md y1 y3 y4 = some res → va_P (dC, dI) vwCl (uw_Model ad_md cA_md md) H → va_D A (uw_Model ad_md cA_md md) → va_S A s.heap H locs → lv_has ls 6 [(0, .ref (ad_md 0)), (1, .long y1), (3, .int y3), (4, .int (bI y4))] → W p l e (headSpec w_Model_say ({ frames := 4, cells := 0, slots := 0, locals := 94 })).room s m ([.ref (ad_md 0), .long x1, .int x3] : List Value).toArray below meth c H locs 0 0 Q (F0 m 50 ls []) := by
    intro md y1 y3 y4 H locs ls hf hP hD hS hl
    rw [f_Model_say_50] at hf
    refine lv_aload_n hx hb d_Model_say_50 rfl (lv_at hl 0 rfl) ?_
    refine lv_iload hx hb d_Model_say_51 (lv_at hl 3 rfl) ?_
    refine lv_aload_n hx hb d_Model_say_53 rfl (lv_at hl 0 rfl) ?_
    refine va_get (D := (dC, dI)) (ci := 6) (v := .int md.2.2.2.1.1) (C := "HazardTablesModel") (T := F_Model) (N := 30) hx hb hts hin_Model hown hK hP 0 rfl rfl 4 (by decide) fl_128 (fun _ h9 => h9) rfl d_Model_say_54 ?_
    refine lv_if_le (tgt := 64) hx hb d_Model_say_57 (by decide) (fun hc5 => ?_) (fun hc5 => ?_)
    · have hf := hf_t hf hc5
      refine lv_iconst (v := (0 : Int32)) hx hb d_Model_say_64 (by decide) ?_
      exact w_65 md y1 y3 y4 false H locs ls hf hP hD hS (lv_sub hl [0, 1, 2] rfl)
    · have hf := hf_f hf hc5
      refine lv_iconst (v := (1 : Int32)) hx hb d_Model_say_60 (by decide) ?_
      refine lv_goto (tgt := 65) hx hb d_Model_say_61 (by decide) ?_
      exact w_65 md y1 y3 y4 true H locs ls hf hP hD hS (lv_sub hl [0, 1, 2] rfl)
  have w_12 : ∀ (n : Nat) (md : SModel) (y1 : Int64) (y3 : Int32) (y4 : Bool) (y5 : Int32) (H : Heap) (locs : List Loc) (ls : Array Slot), f_Model_say_12 n md y1 y3 y4 y5 = some res → va_P (dC, dI) vwCl (uw_Model ad_md cA_md md) H → va_D A (uw_Model ad_md cA_md md) → va_S A s.heap H locs → lv_has ls 6 [(0, .ref (ad_md 0)), (1, .long y1), (3, .int y3), (4, .int (bI y4)), (5, .int y5)] → W p l e (headSpec w_Model_say ({ frames := 4, cells := 0, slots := 0, locals := 94 })).room s m ([.ref (ad_md 0), .long x1, .int x3] : List Value).toArray below meth c H locs 0 0 Q (F0 m 12 ls []) := by
    intro n
    induction n with
    | zero =>
      intro md y1 y3 y4 y5 H locs ls hf hP hD hS hl
      rw [f_Model_say_12] at hf; cases hf
    | succ n ih =>
      intro md y1 y3 y4 y5 H locs ls hf hP hD hS hl
      rw [f_Model_say_12] at hf
      refine lv_iload hx hb d_Model_say_12 (lv_at hl 4 rfl) ?_
      refine lv_iload_n hx hb d_Model_say_14 rfl (lv_at hl 2 rfl) ?_
      refine lv_icmp_ge (tgt := 50) hx hb d_Model_say_15 (by decide) (fun hc2 => ?_) (fun hc2 => ?_)
      · have hf := hf_t hf hc2
        exact w_50 md y1 y3 y4 H locs ls hf hP hD hS (lv_sub hl [0, 1, 2, 3] rfl)
      · have hf := hf_f hf hc2
        refine lv_iload hx hb d_Model_say_18 (lv_at hl 3 rfl) ?_
        refine lv_if_eq (tgt := 50) hx hb d_Model_say_20 (by decide) (fun hc3 => ?_) (fun hc3 => ?_)
        · have hf := hf_t hf hc3
          exact w_50 md y1 y3 y4 H locs ls hf hP hD hS (lv_sub hl [0, 1, 2, 3] rfl)
        · have hf := hf_f hf hc3
          refine lv_lload_n hx hb d_Model_say_23 rfl (lv_at hl 1 rfl) ?_
          refine lv_bipush (v := (8 : Int32)) hx hb d_Model_say_24 (by decide) ?_
          refine lv_iload hx hb d_Model_say_26 (lv_at hl 4 rfl) ?_
          refine lv_imul hx hb d_Model_say_28 ?_
          refine lv_lshr (v := y1 >>> (((8 : Int32) * y5).toInt64 &&& 63)) hx hb d_Model_say_29 rfl ?_
          refine lv_l2i (v := (y1 >>> (((8 : Int32) * y5).toInt64 &&& 63)).toInt32) hx hb d_Model_say_30 rfl ?_
          refine lv_sipush (v := (255 : Int32)) hx hb d_Model_say_31 (by decide) ?_
          refine lv_iand hx hb d_Model_say_34 ?_
          refine lv_bipush (v := (97 : Int32)) hx hb d_Model_say_35 (by decide) ?_
          refine lv_bipush (v := (122 : Int32)) hx hb d_Model_say_37 (by decide) ?_
          obtain ⟨u4, hu4, hf⟩ := Option.bind_eq_some_iff.mp hf
          refine cl_i (wc := []) (wr := (uw_Model ad_md cA_md md)) (tysC := []) (wu := fun (u : Unit) => []) (wn := fun (u : Unit) => (uw_Model ad_md cA_md md)) [] [0, 1, 2, 3, 4, 5, 6, 7, 8, 9, 10, 11, 12, 13] [0, 1, 2, 3, 4, 5, 6, 7, 8, 9, 10, 11, 12, 13] [] hP hD hS hA hK rfl rfl (by decide +kernel) (by decide +kernel) (by decide +kernel) rfl (fun _ => rfl) (by decide +kernel) (fun hPc hKc hDc => (va_runS (As := [.int (((y1 >>> (((8 : Int32) * y5).toInt64 &&& 63)).toInt32) &&& (255 : Int32)), .int (97 : Int32), .int (122 : Int32)]) (rest := []) ⟨hx, hb, hml, hown, hts⟩ (k_Model_within l dC dI  H.size (((y1 >>> (((8 : Int32) * y5).toInt64 &&& 63)).toInt32) &&& (255 : Int32)) (97 : Int32) (122 : Int32) u4 hu4) (cwS 3 hts (gS wd_847 wd_848 wd_49 wd_849) rfl rfl rfl (by decide +kernel) ⟨Nat.le_of_ble_eq_true rfl, Nat.le_of_ble_eq_true rfl⟩) (cl_preS hPc hKc hDc hN) rfl rfl hl.1 rfl (lv_room (Nat.le_of_ble_eq_true rfl)) d_Model_say_39 ⟨Nat.le_of_ble_eq_true rfl, Nat.le_of_ble_eq_true rfl⟩)) (fun r u H locs hw hP hD hS => ?_)
          have hw := hw.symm
          subst hw
          have hP : va_P (dC, dI) vwCl (uw_Model ad_md cA_md md) H := hP
          have hD : va_D A (uw_Model ad_md cA_md md) := hD
          refine lv_istore (lv' := [(4, .int (bI u4)), (0, .ref (ad_md 0)), (1, .long y1), (3, .int y3), (5, .int y5)]) hx hb d_Model_say_42 hl (by decide) rfl (fun ls hl => ?_)
          refine lv_iinc (v := y5 + (1 : Int32)) (lv' := [(5, .int (y5 + (1 : Int32))), (4, .int (bI u4)), (0, .ref (ad_md 0)), (1, .long y1), (3, .int y3)]) hx hb d_Model_say_44 hl (k := 4) rfl rfl (by decide) rfl (fun ls hl => ?_)
          refine lv_goto (tgt := 12) hx hb d_Model_say_47 (by decide) ?_
          exact ih md y1 y3 u4 (y5 + (1 : Int32)) H locs ls hf hP hD hS (lv_sub hl [2, 3, 4, 1, 0] rfl)
  have hl := lv_entry ([.ref (ad_md 0), .long x1, .int x3]) (n := 6) (Nat.le_of_ble_eq_true rfl)
  rw [lg_entry_eq]
  generalize (lg_sl ([.ref (ad_md 0), .long x1, .int x3]) ++ List.replicate (6 - (lg_sl ([.ref (ad_md 0), .long x1, .int x3])).length) Slot.unset).toArray = ls at hl ⊢
  have hl : lv_has ls 6 [(0, .ref (ad_md 0)), (1, .long x1), (3, .int x3)] := hl
  have hf := hf
  rw [f_Model_say] at hf
  obtain ⟨H, hH⟩ : ∃ H : Heap, H = s.heap := ⟨_, rfl⟩
  obtain ⟨locs, hlocs⟩ : ∃ L : List Loc, L = [] := ⟨_, rfl⟩
  have hP : va_P (dC, dI) vwCl (uw_Model ad_md cA_md md) H := by rw [hH]; exact hP
  have hS : va_S A s.heap H locs := by rw [hH, hlocs]; exact hS
  show W p l e (headSpec w_Model_say ({ frames := 4, cells := 0, slots := 0, locals := 94 })).room s m ([.ref (ad_md 0), .long x1, .int x3] : List Value).toArray below meth c s.heap [] 0 0 Q (F0 m 0 ls [])
  suffices hgo : W p l e (headSpec w_Model_say ({ frames := 4, cells := 0, slots := 0, locals := 94 })).room s m ([.ref (ad_md 0), .long x1, .int x3] : List Value).toArray below meth c H locs 0 0 Q (F0 m 0 ls []) by rw [hH, hlocs] at hgo; exact hgo
  clear hH hlocs
  refine lv_iload_n hx hb d_Model_say_0 rfl (lv_at hl 2 rfl) ?_
  refine lv_iconst (v := (1 : Int32)) hx hb d_Model_say_1 (by decide) ?_
  refine lv_bipush (v := (8 : Int32)) hx hb d_Model_say_2 (by decide) ?_
  obtain ⟨u1, hu1, hf⟩ := Option.bind_eq_some_iff.mp hf
  refine cl_i (wc := []) (wr := (uw_Model ad_md cA_md md)) (tysC := []) (wu := fun (u : Unit) => []) (wn := fun (u : Unit) => (uw_Model ad_md cA_md md)) [] [0, 1, 2, 3, 4, 5, 6, 7, 8, 9, 10, 11, 12, 13] [0, 1, 2, 3, 4, 5, 6, 7, 8, 9, 10, 11, 12, 13] [] hP hD hS hA hK rfl rfl (by decide +kernel) (by decide +kernel) (by decide +kernel) rfl (fun _ => rfl) (by decide +kernel) (fun hPc hKc hDc => (va_runS (As := [.int x3, .int (1 : Int32), .int (8 : Int32)]) (rest := []) ⟨hx, hb, hml, hown, hts⟩ (k_Model_within l dC dI  H.size x3 (1 : Int32) (8 : Int32) u1 hu1) (cwS 3 hts (gS wd_847 wd_848 wd_49 wd_849) rfl rfl rfl (by decide +kernel) ⟨Nat.le_of_ble_eq_true rfl, Nat.le_of_ble_eq_true rfl⟩) (cl_preS hPc hKc hDc hN) rfl rfl hl.1 rfl (lv_room (Nat.le_of_ble_eq_true rfl)) d_Model_say_4 ⟨Nat.le_of_ble_eq_true rfl, Nat.le_of_ble_eq_true rfl⟩)) (fun r u H locs hw hP hD hS => ?_)
  have hw := hw.symm
  subst hw
  have hP : va_P (dC, dI) vwCl (uw_Model ad_md cA_md md) H := hP
  have hD : va_D A (uw_Model ad_md cA_md md) := hD
  refine lv_istore (lv' := [(4, .int (bI u1)), (0, .ref (ad_md 0)), (1, .long x1), (3, .int x3)]) hx hb d_Model_say_7 hl (by decide) rfl (fun ls hl => ?_)
  refine lv_iconst (v := (0 : Int32)) hx hb d_Model_say_9 (by decide) ?_
  refine lv_istore (lv' := [(5, .int (0 : Int32)), (4, .int (bI u1)), (0, .ref (ad_md 0)), (1, .long x1), (3, .int x3)]) hx hb d_Model_say_10 hl (by decide) rfl (fun ls hl => ?_)
  exact w_12 4096 md x1 x3 u1 (0 : Int32) H locs ls hf hP hD hS (lv_sub hl [2, 3, 4, 1, 0] rfl)
noncomputable def f_Model_near_67  (md : SModel) (y2 : Int32) : Option (Int32 × SModel) :=
  (if 0 ≤ y2 then
    (if inb (y2 * (43 : Int32)) 559 then
      (some (md.2.2.2.1.2.2 (y2 * (43 : Int32)).toNatClampNeg, md))
     else none)
   else
    (some ((-1 : Int32), md))
   )
noncomputable def f_Model_near_46  : Nat → SModel → Int32 → Int32 → Int32 → Option (Int32 × SModel)
  | 0, _, _, _, _ => none
  | n + 1, md, y1, y2, y3 =>
    (if y1 ≤ y3 then
      (f_Model_near_67 md y2)
     else
      (if y2 < 0 then
        (f_Model_near_67 md y2)
       else
        (Option.bind (f_Model_following md y2) fun u10 =>
          (f_Model_near_46 n u10.2 y1 u10.1 (y3 + (1 : Int32)))
         )
       )
     )
noncomputable def f_Model_near_10  (md : SModel) (y1 : Int32) (z1 : Bool) : Option (Int32 × SModel) :=
  (Option.bind (f_Model_goes md z1 true true) fun u2 =>
    (if (bI u2.1) = 0 then
      (if u2.2.1.1 ≤ 0 then
        (some ((-1 : Int32), u2.2))
       else
        (some ((0 : Int32), u2.2))
       )
     else
      (if u2.2.2.2.2.2.2.2.2.2.1 = 0 then
        (if u2.2.1.1 ≤ 0 then
          (some ((-1 : Int32), u2.2))
         else
          (some ((0 : Int32), u2.2))
         )
       else
        (Option.bind (f_Model_following u2.2 (-1 : Int32)) fun u6 =>
          (f_Model_near_46 4096 u6.2 y1 u6.1 (0 : Int32))
         )
       )
     )
   )
noncomputable def f_Model_near (md : SModel) (x1 : Int32) : Option (Int32 × SModel) :=
  (if x1 < 0 then
    (f_Model_near_10 md x1 false)
   else
    (f_Model_near_10 md x1 true)
   )
set_option maxHeartbeats 4000000 in
set_option maxRecDepth 100000 in
theorem k_Model_near (l : Launch) (dC : Nat → ClassId) (dI : Nat → Nat → Nat) (ad_md : Nat → Nat) (cA_md : Nat → ClassId) (sz : Nat) (md : SModel) (x1 : Int32) (res : Int32 × SModel) (hf : f_Model_near md x1 = some res) : Met l y_Model_near w_Model_near ({ frames := 4, cells := 0, slots := 0, locals := 94 }) (cPc (dC, dI) (uw_Model ad_md cA_md md) [(cA_md 1, .int), (cA_md 2, .int), (cA_md 3, .int), (cA_md 4, .int), (cA_md 5, .int), (cA_md 6, .int), (cA_md 7, .int), (cA_md 8, .int), (cA_md 9, .boolean), (cA_md 10, .int), (cA_md 11, .int), (cA_md 12, .int), (cA_md 13, .int)] sz [.ref (ad_md 0), .int x1]) (va_Qi (fun (r : Int32) (u : SModel) => r = res.1 ∧ u = res.2) (fun (u : SModel) (t : State) => va_P (dC, dI) vwCl (uw_Model ad_md cA_md u) t.heap ∧ va_K (dC, dI) vwCl [(cA_md 1, .int), (cA_md 2, .int), (cA_md 3, .int), (cA_md 4, .int), (cA_md 5, .int), (cA_md 6, .int), (cA_md 7, .int), (cA_md 8, .int), (cA_md 9, .boolean), (cA_md 10, .int), (cA_md 11, .int), (cA_md 12, .int), (cA_md 13, .int)] t ∧ va_D (va_A (uw_Model ad_md cA_md md) sz) (uw_Model ad_md cA_md u)) (va_A (uw_Model ad_md cA_md md) sz)) 0 0 (va_A (uw_Model ad_md cA_md md) sz) := by
  refine Met.ofW (cc := b_Model_near) (maxL := 4) (ret := (some .int)) (by decide) rfl ?_
  intro p e s m args below meth c s₁ B hml hv
  obtain ⟨rfl, hsz, hP, hK, hD0, hN⟩ := hv
  have hx := B.exec
  have hb := B.bytes
  have hr := B.returns
  have hts := atoms_spec (ws := w_Model_near) B.pre
  have hown : s.vm.findClass "HazardTablesModel" = some m.cls := findClass_of_methodNamed B.named
  have hlocks := B.notSynchronized
  subst hsz
  have hD := hD0.self (sz := s.heap.size)
  generalize hAe : va_A (uw_Model ad_md cA_md md) s.heap.size = A at hD ⊢
  have hA : ∀ q : Nat, s.heap.size ≤ q → A q := fun q h => by rw [← hAe]; exact Or.inr h
  have hS : va_S A s.heap s.heap [] := va_S.rf
  have hP : va_P (dC, dI) vwCl (uw_Model ad_md cA_md md) s.heap := hP
  have fl_134 := (hts _ (List.mem_cons_of_mem _ wd_775))
  have fl_17 := (hts _ (List.mem_cons_of_mem _ wd_754))
  have fl_64 := (hts _ (List.mem_cons_of_mem _ wd_748))
  have hin_Model : ∀ w ∈ u_ws "HazardTablesModel" F_Model 30, w ∈ w_Model_near := fun w h => List.mem_cons_of_mem _ (hinA_Model w h)
  have ret : ∀ (v : Int32) (u : SModel) (H : Heap) (locs : List Loc) (ls : Array Slot) (pc : Nat), decode b_Model_near pc = .ok (.ireturn, 1) → (v = res.1 ∧ u = res.2) → va_P (dC, dI) vwCl (uw_Model ad_md cA_md u) H → va_D A (uw_Model ad_md cA_md u) → va_S A s.heap H locs → W p l e (headSpec w_Model_near ({ frames := 4, cells := 0, slots := 0, locals := 94 })).room s m ([.ref (ad_md 0), .int x1] : List Value).toArray below meth c H locs 0 0 (MQ below (va_Qi (fun (r : Int32) (u : SModel) => r = res.1 ∧ u = res.2) (fun (u : SModel) (t : State) => va_P (dC, dI) vwCl (uw_Model ad_md cA_md u) t.heap ∧ va_K (dC, dI) vwCl [(cA_md 1, .int), (cA_md 2, .int), (cA_md 3, .int), (cA_md 4, .int), (cA_md 5, .int), (cA_md 6, .int), (cA_md 7, .int), (cA_md 8, .int), (cA_md 9, .boolean), (cA_md 10, .int), (cA_md 11, .int), (cA_md 12, .int), (cA_md 13, .int)] t ∧ va_D A (uw_Model ad_md cA_md u)) A) ([.ref (ad_md 0), .int x1] : List Value).toArray s 0 0 A) (F0 m pc ls [.int v]) := fun v u H locs ls pc hd hp hP hD hS => W.iret (v := v) hx hb hr (fun t ht hW => ⟨⟨v, u, rfl, hp, by rw [ht]; exact hP, va_K.moved hW.alike hK, hD⟩, hS.F ht⟩) hS.2.2 hd
  generalize (MQ below (va_Qi (fun (r : Int32) (u : SModel) => r = res.1 ∧ u = res.2) (fun (u : SModel) (t : State) => va_P (dC, dI) vwCl (uw_Model ad_md cA_md u) t.heap ∧ va_K (dC, dI) vwCl [(cA_md 1, .int), (cA_md 2, .int), (cA_md 3, .int), (cA_md 4, .int), (cA_md 5, .int), (cA_md 6, .int), (cA_md 7, .int), (cA_md 8, .int), (cA_md 9, .boolean), (cA_md 10, .int), (cA_md 11, .int), (cA_md 12, .int), (cA_md 13, .int)] t ∧ va_D A (uw_Model ad_md cA_md u)) A) ([.ref (ad_md 0), .int x1] : List Value).toArray s 0 0 A) = Q at ret ⊢
  have w_67 : ∀ (md : SModel) (y2 : Int32) (H : Heap) (locs : List Loc) (ls : Array Slot), f_Model_near_67 md y2 = some res → va_P (dC, dI) vwCl (uw_Model ad_md cA_md md) H → va_D A (uw_Model ad_md cA_md md) → va_S A s.heap H locs → lv_has ls 4 [(0, .ref (ad_md 0)), (2, .int y2)] → W p l e (headSpec w_Model_near ({ frames := 4, cells := 0, slots := 0, locals := 94 })).room s m ([.ref (ad_md 0), .int x1] : List Value).toArray below meth c H locs 0 0 Q (F0 m 67 ls []) := by
    intro md y2 H locs ls hf hP hD hS hl
    rw [f_Model_near_67] at hf
    refine lv_iload_n hx hb d_Model_near_67 rfl (lv_at hl 1 rfl) ?_
    refine lv_if_ge (tgt := 75) hx hb d_Model_near_68 (by decide) (fun hc11 => ?_) (fun hc11 => ?_)
    · have hf := hf_t hf hc11
      refine lv_aload_n hx hb d_Model_near_75 rfl (lv_at hl 0 rfl) ?_
      refine va_get (D := (dC, dI)) (ci := 6) (v := .ref (ad_md 2)) (C := "HazardTablesModel") (T := F_Model) (N := 30) hx hb hts hin_Model hown hK hP 0 rfl rfl 6 (by decide) fl_17 (fun _ h9 => h9) rfl d_Model_near_76 ?_
      refine lv_iload_n hx hb d_Model_near_79 rfl (lv_at hl 1 rfl) ?_
      refine lv_bipush (v := (43 : Int32)) hx hb d_Model_near_80 (by decide) ?_
      refine lv_imul hx hb d_Model_near_82 ?_
      obtain ⟨hi12, hf⟩ := hf_g hf
      refine va_iald hx hb hK hP 2 1 rfl rfl hi12 d_Model_near_83 ?_
      exact ret (md.2.2.2.1.2.2 (y2 * (43 : Int32)).toNatClampNeg) md H locs ls 84 d_Model_near_84 (hf_e hf) hP hD hS
    · have hf := hf_f hf hc11
      refine lv_iconst (v := (-1 : Int32)) hx hb d_Model_near_71 (by decide) ?_
      refine lv_goto (tgt := 84) hx hb d_Model_near_72 (by decide) ?_
      exact ret (-1 : Int32) md H locs ls 84 d_Model_near_84 (hf_e hf) hP hD hS
  have w_46 : ∀ (n : Nat) (md : SModel) (y1 : Int32) (y2 : Int32) (y3 : Int32) (H : Heap) (locs : List Loc) (ls : Array Slot), f_Model_near_46 n md y1 y2 y3 = some res → va_P (dC, dI) vwCl (uw_Model ad_md cA_md md) H → va_D A (uw_Model ad_md cA_md md) → va_S A s.heap H locs → lv_has ls 4 [(0, .ref (ad_md 0)), (1, .int y1), (2, .int y2), (3, .int y3)] → W p l e (headSpec w_Model_near ({ frames := 4, cells := 0, slots := 0, locals := 94 })).room s m ([.ref (ad_md 0), .int x1] : List Value).toArray below meth c H locs 0 0 Q (F0 m 46 ls []) := by
    intro n
    induction n with
    | zero =>
      intro md y1 y2 y3 H locs ls hf hP hD hS hl
      rw [f_Model_near_46] at hf; cases hf
    | succ n ih =>
      intro md y1 y2 y3 H locs ls hf hP hD hS hl
      rw [f_Model_near_46] at hf
      refine lv_iload_n hx hb d_Model_near_46 rfl (lv_at hl 3 rfl) ?_
      refine lv_iload_n hx hb d_Model_near_47 rfl (lv_at hl 1 rfl) ?_
      refine lv_icmp_ge (tgt := 67) hx hb d_Model_near_48 (by decide) (fun hc8 => ?_) (fun hc8 => ?_)
      · have hf := hf_t hf hc8
        exact w_67 md y2 H locs ls hf hP hD hS (lv_sub hl [0, 2] rfl)
      · have hf := hf_f hf hc8
        refine lv_iload_n hx hb d_Model_near_51 rfl (lv_at hl 2 rfl) ?_
        refine lv_if_lt (tgt := 67) hx hb d_Model_near_52 (by decide) (fun hc9 => ?_) (fun hc9 => ?_)
        · have hf := hf_t hf hc9
          exact w_67 md y2 H locs ls hf hP hD hS (lv_sub hl [0, 2] rfl)
        · have hf := hf_f hf hc9
          refine lv_aload_n hx hb d_Model_near_55 rfl (lv_at hl 0 rfl) ?_
          refine lv_iload_n hx hb d_Model_near_56 rfl (lv_at hl 2 rfl) ?_
          obtain ⟨u10, hu10, hf⟩ := Option.bind_eq_some_iff.mp hf
          refine cl_i (wc := (uw_Model ad_md cA_md md)) (wr := []) (tysC := [(cA_md 1, .int), (cA_md 2, .int), (cA_md 3, .int), (cA_md 4, .int), (cA_md 5, .int), (cA_md 6, .int), (cA_md 7, .int), (cA_md 8, .int), (cA_md 9, .boolean), (cA_md 10, .int), (cA_md 11, .int), (cA_md 12, .int), (cA_md 13, .int)]) (wu := fun (u : SModel) => (uw_Model ad_md cA_md u)) (wn := fun (u : SModel) => (uw_Model ad_md cA_md u)) [0, 1, 2, 3, 4, 5, 6, 7, 8, 9, 10, 11, 12, 13] [] [0, 1, 2, 3, 4, 5, 6, 7, 8, 9, 10, 11, 12, 13] [0, 1, 2, 3, 4, 5, 6, 7, 8, 9, 10, 11, 12] hP hD hS hA hK rfl rfl (by decide +kernel) (by decide +kernel) (by decide +kernel) rfl (fun _ => rfl) (by decide +kernel) (fun hPc hKc hDc => (va_runV (As := [.int y2]) (rest := []) ⟨hx, hb, hml, hown, hts⟩ (k_Model_following l dC dI ad_md cA_md H.size md y2 u10 hu10) (cwV 1 hts (gV wd_922 wd_924 wd_35 wd_49 wd_925) rfl rfl rfl (by decide +kernel) ⟨Nat.le_of_ble_eq_true rfl, Nat.le_of_ble_eq_true rfl⟩) (cl_preV hPc hKc hDc hN (ci := 6) 0 rfl rfl) rfl rfl hl.1 rfl (lv_room (Nat.le_of_ble_eq_true rfl)) d_Model_near_57 ⟨Nat.le_of_ble_eq_true rfl, Nat.le_of_ble_eq_true rfl⟩)) (fun r u H locs hw hP hD hS => ?_)
          obtain ⟨hw1, hw2⟩ := hw
          have hw1 := hw1.symm
          have hw2 := hw2.symm
          subst hw1
          subst hw2
          have hP : va_P (dC, dI) vwCl (uw_Model ad_md cA_md u10.2) H := hP
          have hD : va_D A (uw_Model ad_md cA_md u10.2) := hD
          refine lv_istore_n (lv' := [(2, .int u10.1), (0, .ref (ad_md 0)), (1, .int y1), (3, .int y3)]) hx hb d_Model_near_60 rfl hl (by decide) rfl (fun ls hl => ?_)
          refine lv_iinc (v := y3 + (1 : Int32)) (lv' := [(3, .int (y3 + (1 : Int32))), (2, .int u10.1), (0, .ref (ad_md 0)), (1, .int y1)]) hx hb d_Model_near_61 hl (k := 3) rfl rfl (by decide) rfl (fun ls hl => ?_)
          refine lv_goto (tgt := 46) hx hb d_Model_near_64 (by decide) ?_
          exact ih u10.2 y1 u10.1 (y3 + (1 : Int32)) H locs ls hf hP hD hS (lv_sub hl [2, 3, 1, 0] rfl)
  have w_10 : ∀ (md : SModel) (y1 : Int32) (z1 : Bool) (H : Heap) (locs : List Loc) (ls : Array Slot), f_Model_near_10 md y1 z1 = some res → va_P (dC, dI) vwCl (uw_Model ad_md cA_md md) H → va_D A (uw_Model ad_md cA_md md) → va_S A s.heap H locs → lv_has ls 4 [(0, .ref (ad_md 0)), (1, .int y1)] → W p l e (headSpec w_Model_near ({ frames := 4, cells := 0, slots := 0, locals := 94 })).room s m ([.ref (ad_md 0), .int x1] : List Value).toArray below meth c H locs 0 0 Q (F0 m 10 ls [.int (bI z1), .ref (ad_md 0)]) := by
    intro md y1 z1 H locs ls hf hP hD hS hl
    rw [f_Model_near_10] at hf
    refine lv_iconst (v := (1 : Int32)) hx hb d_Model_near_10 (by decide) ?_
    refine lv_iconst (v := (1 : Int32)) hx hb d_Model_near_11 (by decide) ?_
    obtain ⟨u2, hu2, hf⟩ := Option.bind_eq_some_iff.mp hf
    refine cl_i (wc := (uw_Model ad_md cA_md md)) (wr := []) (tysC := [(cA_md 1, .int), (cA_md 2, .int), (cA_md 3, .int), (cA_md 4, .int), (cA_md 5, .int), (cA_md 6, .int), (cA_md 7, .int), (cA_md 8, .int), (cA_md 9, .boolean), (cA_md 10, .int), (cA_md 11, .int), (cA_md 12, .int), (cA_md 13, .int)]) (wu := fun (u : SModel) => (uw_Model ad_md cA_md u)) (wn := fun (u : SModel) => (uw_Model ad_md cA_md u)) [0, 1, 2, 3, 4, 5, 6, 7, 8, 9, 10, 11, 12, 13] [] [0, 1, 2, 3, 4, 5, 6, 7, 8, 9, 10, 11, 12, 13] [0, 1, 2, 3, 4, 5, 6, 7, 8, 9, 10, 11, 12] hP hD hS hA hK rfl rfl (by decide +kernel) (by decide +kernel) (by decide +kernel) rfl (fun _ => rfl) (by decide +kernel) (fun hPc hKc hDc => (va_runV (As := [.int (bI z1), .int (1 : Int32), .int (1 : Int32)]) (rest := []) ⟨hx, hb, hml, hown, hts⟩ (k_Model_goes l dC dI ad_md cA_md H.size md z1 true true u2 hu2) (cwV 3 hts (gV wd_850 wd_852 wd_22 wd_49 wd_853) rfl rfl rfl (by decide +kernel) ⟨Nat.le_of_ble_eq_true rfl, Nat.le_of_ble_eq_true rfl⟩) (cl_preV hPc hKc hDc hN (ci := 6) 0 rfl rfl) rfl rfl hl.1 rfl (lv_room (Nat.le_of_ble_eq_true rfl)) d_Model_near_12 ⟨Nat.le_of_ble_eq_true rfl, Nat.le_of_ble_eq_true rfl⟩)) (fun r u H locs hw hP hD hS => ?_)
    obtain ⟨hw1, hw2⟩ := hw
    have hw1 := hw1.symm
    have hw2 := hw2.symm
    subst hw1
    subst hw2
    have hP : va_P (dC, dI) vwCl (uw_Model ad_md cA_md u2.2) H := hP
    have hD : va_D A (uw_Model ad_md cA_md u2.2) := hD
    refine lv_if_eq (tgt := 25) hx hb d_Model_near_15 (by decide) (fun hc3 => ?_) (fun hc3 => ?_)
    · have hf := hf_t hf hc3
      refine lv_aload_n hx hb d_Model_near_25 rfl (lv_at hl 0 rfl) ?_
      refine va_get (D := (dC, dI)) (ci := 6) (v := .int u2.2.1.1) (C := "HazardTablesModel") (T := F_Model) (N := 30) hx hb hts hin_Model hown hK hP 0 rfl rfl 0 (by decide) fl_64 (fun _ h9 => h9) rfl d_Model_near_26 ?_
      refine lv_if_le (tgt := 36) hx hb d_Model_near_29 (by decide) (fun hc4 => ?_) (fun hc4 => ?_)
      · have hf := hf_t hf hc4
        refine lv_iconst (v := (-1 : Int32)) hx hb d_Model_near_36 (by decide) ?_
        exact ret (-1 : Int32) u2.2 H locs ls 37 d_Model_near_37 (hf_e hf) hP hD hS
      · have hf := hf_f hf hc4
        refine lv_iconst (v := (0 : Int32)) hx hb d_Model_near_32 (by decide) ?_
        refine lv_goto (tgt := 37) hx hb d_Model_near_33 (by decide) ?_
        exact ret (0 : Int32) u2.2 H locs ls 37 d_Model_near_37 (hf_e hf) hP hD hS
    · have hf := hf_f hf hc3
      refine lv_aload_n hx hb d_Model_near_18 rfl (lv_at hl 0 rfl) ?_
      refine va_get (D := (dC, dI)) (ci := 6) (v := .int u2.2.2.2.2.2.2.2.2.2.1) (C := "HazardTablesModel") (T := F_Model) (N := 30) hx hb hts hin_Model hown hK hP 0 rfl rfl 27 (by decide) fl_134 (fun _ h9 => h9) rfl d_Model_near_19 ?_
      refine lv_if_ne (tgt := 38) hx hb d_Model_near_22 (by decide) (fun hc5 => ?_) (fun hc5 => ?_)
      · have hf := hf_f hf hc5
        refine lv_aload_n hx hb d_Model_near_38 rfl (lv_at hl 0 rfl) ?_
        refine lv_iconst (v := (-1 : Int32)) hx hb d_Model_near_39 (by decide) ?_
        obtain ⟨u6, hu6, hf⟩ := Option.bind_eq_some_iff.mp hf
        refine cl_i (wc := (uw_Model ad_md cA_md u2.2)) (wr := []) (tysC := [(cA_md 1, .int), (cA_md 2, .int), (cA_md 3, .int), (cA_md 4, .int), (cA_md 5, .int), (cA_md 6, .int), (cA_md 7, .int), (cA_md 8, .int), (cA_md 9, .boolean), (cA_md 10, .int), (cA_md 11, .int), (cA_md 12, .int), (cA_md 13, .int)]) (wu := fun (u : SModel) => (uw_Model ad_md cA_md u)) (wn := fun (u : SModel) => (uw_Model ad_md cA_md u)) [0, 1, 2, 3, 4, 5, 6, 7, 8, 9, 10, 11, 12, 13] [] [0, 1, 2, 3, 4, 5, 6, 7, 8, 9, 10, 11, 12, 13] [0, 1, 2, 3, 4, 5, 6, 7, 8, 9, 10, 11, 12] hP hD hS hA hK rfl rfl (by decide +kernel) (by decide +kernel) (by decide +kernel) rfl (fun _ => rfl) (by decide +kernel) (fun hPc hKc hDc => (va_runV (As := [.int (-1 : Int32)]) (rest := []) ⟨hx, hb, hml, hown, hts⟩ (k_Model_following l dC dI ad_md cA_md H.size u2.2 (-1 : Int32) u6 hu6) (cwV 1 hts (gV wd_922 wd_924 wd_35 wd_49 wd_925) rfl rfl rfl (by decide +kernel) ⟨Nat.le_of_ble_eq_true rfl, Nat.le_of_ble_eq_true rfl⟩) (cl_preV hPc hKc hDc hN (ci := 6) 0 rfl rfl) rfl rfl hl.1 rfl (lv_room (Nat.le_of_ble_eq_true rfl)) d_Model_near_40 ⟨Nat.le_of_ble_eq_true rfl, Nat.le_of_ble_eq_true rfl⟩)) (fun r u H locs hw hP hD hS => ?_)
        obtain ⟨hw1, hw2⟩ := hw
        have hw1 := hw1.symm
        have hw2 := hw2.symm
        subst hw1
        subst hw2
        have hP : va_P (dC, dI) vwCl (uw_Model ad_md cA_md u6.2) H := hP
        have hD : va_D A (uw_Model ad_md cA_md u6.2) := hD
        refine lv_istore_n (lv' := [(2, .int u6.1), (0, .ref (ad_md 0)), (1, .int y1)]) hx hb d_Model_near_43 rfl hl (by decide) rfl (fun ls hl => ?_)
        refine lv_iconst (v := (0 : Int32)) hx hb d_Model_near_44 (by decide) ?_
        refine lv_istore_n (lv' := [(3, .int (0 : Int32)), (2, .int u6.1), (0, .ref (ad_md 0)), (1, .int y1)]) hx hb d_Model_near_45 rfl hl (by decide) rfl (fun ls hl => ?_)
        exact w_46 4096 u6.2 y1 u6.1 (0 : Int32) H locs ls hf hP hD hS (lv_sub hl [2, 3, 1, 0] rfl)
      · have hf := hf_t hf hc5
        refine lv_aload_n hx hb d_Model_near_25 rfl (lv_at hl 0 rfl) ?_
        refine va_get (D := (dC, dI)) (ci := 6) (v := .int u2.2.1.1) (C := "HazardTablesModel") (T := F_Model) (N := 30) hx hb hts hin_Model hown hK hP 0 rfl rfl 0 (by decide) fl_64 (fun _ h9 => h9) rfl d_Model_near_26 ?_
        refine lv_if_le (tgt := 36) hx hb d_Model_near_29 (by decide) (fun hc7 => ?_) (fun hc7 => ?_)
        · have hf := hf_t hf hc7
          refine lv_iconst (v := (-1 : Int32)) hx hb d_Model_near_36 (by decide) ?_
          exact ret (-1 : Int32) u2.2 H locs ls 37 d_Model_near_37 (hf_e hf) hP hD hS
        · have hf := hf_f hf hc7
          refine lv_iconst (v := (0 : Int32)) hx hb d_Model_near_32 (by decide) ?_
          refine lv_goto (tgt := 37) hx hb d_Model_near_33 (by decide) ?_
          exact ret (0 : Int32) u2.2 H locs ls 37 d_Model_near_37 (hf_e hf) hP hD hS
  have hl := lv_entry ([.ref (ad_md 0), .int x1]) (n := 4) (Nat.le_of_ble_eq_true rfl)
  rw [lg_entry_eq]
  generalize (lg_sl ([.ref (ad_md 0), .int x1]) ++ List.replicate (4 - (lg_sl ([.ref (ad_md 0), .int x1])).length) Slot.unset).toArray = ls at hl ⊢
  have hl : lv_has ls 4 [(0, .ref (ad_md 0)), (1, .int x1)] := hl
  have hf := hf
  rw [f_Model_near] at hf
  obtain ⟨H, hH⟩ : ∃ H : Heap, H = s.heap := ⟨_, rfl⟩
  obtain ⟨locs, hlocs⟩ : ∃ L : List Loc, L = [] := ⟨_, rfl⟩
  have hP : va_P (dC, dI) vwCl (uw_Model ad_md cA_md md) H := by rw [hH]; exact hP
  have hS : va_S A s.heap H locs := by rw [hH, hlocs]; exact hS
  show W p l e (headSpec w_Model_near ({ frames := 4, cells := 0, slots := 0, locals := 94 })).room s m ([.ref (ad_md 0), .int x1] : List Value).toArray below meth c s.heap [] 0 0 Q (F0 m 0 ls [])
  suffices hgo : W p l e (headSpec w_Model_near ({ frames := 4, cells := 0, slots := 0, locals := 94 })).room s m ([.ref (ad_md 0), .int x1] : List Value).toArray below meth c H locs 0 0 Q (F0 m 0 ls []) by rw [hH, hlocs] at hgo; exact hgo
  clear hH hlocs
  refine lv_aload_n hx hb d_Model_near_0 rfl (lv_at hl 0 rfl) ?_
  refine lv_iload_n hx hb d_Model_near_1 rfl (lv_at hl 1 rfl) ?_
  refine lv_if_lt (tgt := 9) hx hb d_Model_near_2 (by decide) (fun hc1 => ?_) (fun hc1 => ?_)
  · have hf := hf_t hf hc1
    refine lv_iconst (v := (0 : Int32)) hx hb d_Model_near_9 (by decide) ?_
    exact w_10 md x1 false H locs ls hf hP hD hS (lv_sub hl [0, 1] rfl)
  · have hf := hf_f hf hc1
    refine lv_iconst (v := (1 : Int32)) hx hb d_Model_near_5 (by decide) ?_
    refine lv_goto (tgt := 10) hx hb d_Model_near_6 (by decide) ?_
    exact w_10 md x1 true H locs ls hf hP hD hS (lv_sub hl [0, 1] rfl)
noncomputable def f_Model_contradict (md : SModel) (x1 : Int32) (x2 : Int32) : Option (Bool) :=
  (if inb x1 8 then
    (if inb x2 8 then
      (if inb (((md.2.2.2.2.1.2.2.2.1 x1.toNatClampNeg) * (43 : Int32)) + (8 : Int32)) 559 then
        (if inb (((md.2.2.2.2.1.2.2.2.1 x2.toNatClampNeg) * (43 : Int32)) + (1 : Int32)) 559 then
          (if (((md.2.2.2.1.2.2 (((md.2.2.2.2.1.2.2.2.1 x1.toNatClampNeg) * (43 : Int32)) + (8 : Int32)).toNatClampNeg) >>> ((md.2.2.2.1.2.2 (((md.2.2.2.2.1.2.2.2.1 x2.toNatClampNeg) * (43 : Int32)) + (1 : Int32)).toNatClampNeg) &&& 31)) &&& (1 : Int32)) = (1 : Int32) then
            (some (true))
           else
            (if inb (((md.2.2.2.2.1.2.2.2.1 x2.toNatClampNeg) * (43 : Int32)) + (8 : Int32)) 559 then
              (if inb (((md.2.2.2.2.1.2.2.2.1 x1.toNatClampNeg) * (43 : Int32)) + (1 : Int32)) 559 then
                (if (((md.2.2.2.1.2.2 (((md.2.2.2.2.1.2.2.2.1 x2.toNatClampNeg) * (43 : Int32)) + (8 : Int32)).toNatClampNeg) >>> ((md.2.2.2.1.2.2 (((md.2.2.2.2.1.2.2.2.1 x1.toNatClampNeg) * (43 : Int32)) + (1 : Int32)).toNatClampNeg) &&& 31)) &&& (1 : Int32)) = (1 : Int32) then
                  (some (true))
                 else
                  (some (false))
                 )
               else none)
             else none)
           )
         else none)
       else none)
     else none)
   else none)
set_option maxHeartbeats 4000000 in
set_option maxRecDepth 100000 in
theorem k_Model_contradict (l : Launch) (dC : Nat → ClassId) (dI : Nat → Nat → Nat) (ad_md : Nat → Nat) (cA_md : Nat → ClassId) (sz : Nat) (md : SModel) (x1 : Int32) (x2 : Int32) (res : Bool) (hf : f_Model_contradict md x1 x2 = some res) : Met l y_Model_contradict w_Model_contradict ({ frames := 0, cells := 0, slots := 0, locals := 0 }) (cPc (dC, dI) (uw_Model ad_md cA_md md) [(cA_md 1, .int), (cA_md 2, .int), (cA_md 3, .int), (cA_md 4, .int), (cA_md 5, .int), (cA_md 6, .int), (cA_md 7, .int), (cA_md 8, .int), (cA_md 9, .boolean), (cA_md 10, .int), (cA_md 11, .int), (cA_md 12, .int), (cA_md 13, .int)] sz [.ref (ad_md 0), .int x1, .int x2]) (va_Qi (fun (r : Int32) (u : Unit) => r = bI res) (fun (u : Unit) (t : State) => va_P (dC, dI) vwCl (uw_Model ad_md cA_md md) t.heap ∧ va_K (dC, dI) vwCl [(cA_md 1, .int), (cA_md 2, .int), (cA_md 3, .int), (cA_md 4, .int), (cA_md 5, .int), (cA_md 6, .int), (cA_md 7, .int), (cA_md 8, .int), (cA_md 9, .boolean), (cA_md 10, .int), (cA_md 11, .int), (cA_md 12, .int), (cA_md 13, .int)] t ∧ va_D (va_A (uw_Model ad_md cA_md md) sz) (uw_Model ad_md cA_md md)) (va_A (uw_Model ad_md cA_md md) sz)) 0 0 (va_A (uw_Model ad_md cA_md md) sz) := by
  refine Met.ofW (cc := b_Model_contradict) (maxL := 5) (ret := (some .boolean)) (by decide) rfl ?_
  intro p e s m args below meth c s₁ B hml hv
  obtain ⟨rfl, hsz, hP, hK, hD0, hN⟩ := hv
  have hx := B.exec
  have hb := B.bytes
  have hr := B.returns
  have hts := atoms_spec (ws := w_Model_contradict) B.pre
  have hown : s.vm.findClass "HazardTablesModel" = some m.cls := findClass_of_methodNamed B.named
  have hlocks := B.notSynchronized
  subst hsz
  have hD := hD0.self (sz := s.heap.size)
  generalize hAe : va_A (uw_Model ad_md cA_md md) s.heap.size = A at hD ⊢
  have hA : ∀ q : Nat, s.heap.size ≤ q → A q := fun q h => by rw [← hAe]; exact Or.inr h
  have hS : va_S A s.heap s.heap [] := va_S.rf
  have hP : va_P (dC, dI) vwCl (uw_Model ad_md cA_md md) s.heap := hP
  have fl_17 := (hts _ (List.mem_cons_of_mem _ wd_754))
  have fl_29 := (hts _ (List.mem_cons_of_mem _ wd_763))
  have hin_Model : ∀ w ∈ u_ws "HazardTablesModel" F_Model 30, w ∈ w_Model_contradict := fun w h => List.mem_cons_of_mem _ (hinA_Model w h)
  have ret : ∀ (v : Bool) (u : Unit) (H : Heap) (locs : List Loc) (ls : Array Slot) (pc : Nat), decode b_Model_contradict pc = .ok (.ireturn, 1) → (v = res) → va_P (dC, dI) vwCl (uw_Model ad_md cA_md md) H → va_D A (uw_Model ad_md cA_md md) → va_S A s.heap H locs → W p l e (headSpec w_Model_contradict ({ frames := 0, cells := 0, slots := 0, locals := 0 })).room s m ([.ref (ad_md 0), .int x1, .int x2] : List Value).toArray below meth c H locs 0 0 (MQ below (va_Qi (fun (r : Int32) (u : Unit) => r = bI res) (fun (u : Unit) (t : State) => va_P (dC, dI) vwCl (uw_Model ad_md cA_md md) t.heap ∧ va_K (dC, dI) vwCl [(cA_md 1, .int), (cA_md 2, .int), (cA_md 3, .int), (cA_md 4, .int), (cA_md 5, .int), (cA_md 6, .int), (cA_md 7, .int), (cA_md 8, .int), (cA_md 9, .boolean), (cA_md 10, .int), (cA_md 11, .int), (cA_md 12, .int), (cA_md 13, .int)] t ∧ va_D A (uw_Model ad_md cA_md md)) A) ([.ref (ad_md 0), .int x1, .int x2] : List Value).toArray s 0 0 A) (F0 m pc ls [.int (bI v)]) := fun v u H locs ls pc hd hp hP hD hS => W.zret (v := bI v) (ty := .boolean) hx hb hr (nar_bI v) (fun t ht hW => ⟨⟨bI v, u, rfl, (by rw [hp]), by rw [ht]; exact hP, va_K.moved hW.alike hK, hD⟩, hS.F ht⟩) hS.2.2 hd
  generalize (MQ below (va_Qi (fun (r : Int32) (u : Unit) => r = bI res) (fun (u : Unit) (t : State) => va_P (dC, dI) vwCl (uw_Model ad_md cA_md md) t.heap ∧ va_K (dC, dI) vwCl [(cA_md 1, .int), (cA_md 2, .int), (cA_md 3, .int), (cA_md 4, .int), (cA_md 5, .int), (cA_md 6, .int), (cA_md 7, .int), (cA_md 8, .int), (cA_md 9, .boolean), (cA_md 10, .int), (cA_md 11, .int), (cA_md 12, .int), (cA_md 13, .int)] t ∧ va_D A (uw_Model ad_md cA_md md)) A) ([.ref (ad_md 0), .int x1, .int x2] : List Value).toArray s 0 0 A) = Q at ret ⊢
  have hl := lv_entry ([.ref (ad_md 0), .int x1, .int x2]) (n := 5) (Nat.le_of_ble_eq_true rfl)
  rw [lg_entry_eq]
  generalize (lg_sl ([.ref (ad_md 0), .int x1, .int x2]) ++ List.replicate (5 - (lg_sl ([.ref (ad_md 0), .int x1, .int x2])).length) Slot.unset).toArray = ls at hl ⊢
  have hl : lv_has ls 5 [(0, .ref (ad_md 0)), (1, .int x1), (2, .int x2)] := hl
  have hf := hf
  rw [f_Model_contradict] at hf
  obtain ⟨H, hH⟩ : ∃ H : Heap, H = s.heap := ⟨_, rfl⟩
  obtain ⟨locs, hlocs⟩ : ∃ L : List Loc, L = [] := ⟨_, rfl⟩
  have hP : va_P (dC, dI) vwCl (uw_Model ad_md cA_md md) H := by rw [hH]; exact hP
  have hS : va_S A s.heap H locs := by rw [hH, hlocs]; exact hS
  show W p l e (headSpec w_Model_contradict ({ frames := 0, cells := 0, slots := 0, locals := 0 })).room s m ([.ref (ad_md 0), .int x1, .int x2] : List Value).toArray below meth c s.heap [] 0 0 Q (F0 m 0 ls [])
  suffices hgo : W p l e (headSpec w_Model_contradict ({ frames := 0, cells := 0, slots := 0, locals := 0 })).room s m ([.ref (ad_md 0), .int x1, .int x2] : List Value).toArray below meth c H locs 0 0 Q (F0 m 0 ls []) by rw [hH, hlocs] at hgo; exact hgo
  clear hH hlocs
  refine lv_aload_n hx hb d_Model_contradict_0 rfl (lv_at hl 0 rfl) ?_
  refine va_get (D := (dC, dI)) (ci := 6) (v := .ref (ad_md 6)) (C := "HazardTablesModel") (T := F_Model) (N := 30) hx hb hts hin_Model hown hK hP 0 rfl rfl 15 (by decide) fl_29 (fun _ h9 => h9) rfl d_Model_contradict_1 ?_
  refine lv_iload_n hx hb d_Model_contradict_4 rfl (lv_at hl 1 rfl) ?_
  obtain ⟨hi1, hf⟩ := hf_g hf
  refine va_iald hx hb hK hP 6 5 rfl rfl hi1 d_Model_contradict_5 ?_
  refine lv_bipush (v := (43 : Int32)) hx hb d_Model_contradict_6 (by decide) ?_
  refine lv_imul hx hb d_Model_contradict_8 ?_
  refine lv_istore_n (lv' := [(3, .int ((md.2.2.2.2.1.2.2.2.1 x1.toNatClampNeg) * (43 : Int32))), (0, .ref (ad_md 0)), (1, .int x1), (2, .int x2)]) hx hb d_Model_contradict_9 rfl hl (by decide) rfl (fun ls hl => ?_)
  refine lv_aload_n hx hb d_Model_contradict_10 rfl (lv_at hl 1 rfl) ?_
  refine va_get (D := (dC, dI)) (ci := 6) (v := .ref (ad_md 6)) (C := "HazardTablesModel") (T := F_Model) (N := 30) hx hb hts hin_Model hown hK hP 0 rfl rfl 15 (by decide) fl_29 (fun _ h9 => h9) rfl d_Model_contradict_11 ?_
  refine lv_iload_n hx hb d_Model_contradict_14 rfl (lv_at hl 3 rfl) ?_
  obtain ⟨hi2, hf⟩ := hf_g hf
  refine va_iald hx hb hK hP 6 5 rfl rfl hi2 d_Model_contradict_15 ?_
  refine lv_bipush (v := (43 : Int32)) hx hb d_Model_contradict_16 (by decide) ?_
  refine lv_imul hx hb d_Model_contradict_18 ?_
  refine lv_istore (lv' := [(4, .int ((md.2.2.2.2.1.2.2.2.1 x2.toNatClampNeg) * (43 : Int32))), (3, .int ((md.2.2.2.2.1.2.2.2.1 x1.toNatClampNeg) * (43 : Int32))), (0, .ref (ad_md 0)), (1, .int x1), (2, .int x2)]) hx hb d_Model_contradict_19 hl (by decide) rfl (fun ls hl => ?_)
  refine lv_aload_n hx hb d_Model_contradict_21 rfl (lv_at hl 2 rfl) ?_
  refine va_get (D := (dC, dI)) (ci := 6) (v := .ref (ad_md 2)) (C := "HazardTablesModel") (T := F_Model) (N := 30) hx hb hts hin_Model hown hK hP 0 rfl rfl 6 (by decide) fl_17 (fun _ h9 => h9) rfl d_Model_contradict_22 ?_
  refine lv_iload_n hx hb d_Model_contradict_25 rfl (lv_at hl 1 rfl) ?_
  refine lv_bipush (v := (8 : Int32)) hx hb d_Model_contradict_26 (by decide) ?_
  refine lv_iadd hx hb d_Model_contradict_28 ?_
  obtain ⟨hi3, hf⟩ := hf_g hf
  refine va_iald hx hb hK hP 2 1 rfl rfl hi3 d_Model_contradict_29 ?_
  refine lv_aload_n hx hb d_Model_contradict_30 rfl (lv_at hl 2 rfl) ?_
  refine va_get (D := (dC, dI)) (ci := 6) (v := .ref (ad_md 2)) (C := "HazardTablesModel") (T := F_Model) (N := 30) hx hb hts hin_Model hown hK hP 0 rfl rfl 6 (by decide) fl_17 (fun _ h9 => h9) rfl d_Model_contradict_31 ?_
  refine lv_iload hx hb d_Model_contradict_34 (lv_at hl 0 rfl) ?_
  refine lv_iconst (v := (1 : Int32)) hx hb d_Model_contradict_36 (by decide) ?_
  refine lv_iadd hx hb d_Model_contradict_37 ?_
  obtain ⟨hi4, hf⟩ := hf_g hf
  refine va_iald hx hb hK hP 2 1 rfl rfl hi4 d_Model_contradict_38 ?_
  refine lv_ishr hx hb d_Model_contradict_39 ?_
  refine lv_iconst (v := (1 : Int32)) hx hb d_Model_contradict_40 (by decide) ?_
  refine lv_iand hx hb d_Model_contradict_41 ?_
  refine lv_iconst (v := (1 : Int32)) hx hb d_Model_contradict_42 (by decide) ?_
  refine lv_icmp_eq (tgt := 71) hx hb d_Model_contradict_43 (by decide) (fun hc5 => ?_) (fun hc5 => ?_)
  · have hf := hf_t hf hc5
    refine lv_iconst (v := (1 : Int32)) hx hb d_Model_contradict_71 (by decide) ?_
    refine lv_goto (tgt := 76) hx hb d_Model_contradict_72 (by decide) ?_
    exact ret true () H locs ls 76 d_Model_contradict_76 (Option.some.inj hf) hP hD hS
  · have hf := hf_f hf hc5
    refine lv_aload_n hx hb d_Model_contradict_46 rfl (lv_at hl 2 rfl) ?_
    refine va_get (D := (dC, dI)) (ci := 6) (v := .ref (ad_md 2)) (C := "HazardTablesModel") (T := F_Model) (N := 30) hx hb hts hin_Model hown hK hP 0 rfl rfl 6 (by decide) fl_17 (fun _ h9 => h9) rfl d_Model_contradict_47 ?_
    refine lv_iload hx hb d_Model_contradict_50 (lv_at hl 0 rfl) ?_
    refine lv_bipush (v := (8 : Int32)) hx hb d_Model_contradict_52 (by decide) ?_
    refine lv_iadd hx hb d_Model_contradict_54 ?_
    obtain ⟨hi6, hf⟩ := hf_g hf
    refine va_iald hx hb hK hP 2 1 rfl rfl hi6 d_Model_contradict_55 ?_
    refine lv_aload_n hx hb d_Model_contradict_56 rfl (lv_at hl 2 rfl) ?_
    refine va_get (D := (dC, dI)) (ci := 6) (v := .ref (ad_md 2)) (C := "HazardTablesModel") (T := F_Model) (N := 30) hx hb hts hin_Model hown hK hP 0 rfl rfl 6 (by decide) fl_17 (fun _ h9 => h9) rfl d_Model_contradict_57 ?_
    refine lv_iload_n hx hb d_Model_contradict_60 rfl (lv_at hl 1 rfl) ?_
    refine lv_iconst (v := (1 : Int32)) hx hb d_Model_contradict_61 (by decide) ?_
    refine lv_iadd hx hb d_Model_contradict_62 ?_
    obtain ⟨hi7, hf⟩ := hf_g hf
    refine va_iald hx hb hK hP 2 1 rfl rfl hi7 d_Model_contradict_63 ?_
    refine lv_ishr hx hb d_Model_contradict_64 ?_
    refine lv_iconst (v := (1 : Int32)) hx hb d_Model_contradict_65 (by decide) ?_
    refine lv_iand hx hb d_Model_contradict_66 ?_
    refine lv_iconst (v := (1 : Int32)) hx hb d_Model_contradict_67 (by decide) ?_
    refine lv_icmp_ne (tgt := 75) hx hb d_Model_contradict_68 (by decide) (fun hc8 => ?_) (fun hc8 => ?_)
    · have hf := hf_f hf hc8
      refine lv_iconst (v := (0 : Int32)) hx hb d_Model_contradict_75 (by decide) ?_
      exact ret false () H locs ls 76 d_Model_contradict_76 (Option.some.inj hf) hP hD hS
    · have hf := hf_t hf hc8
      refine lv_iconst (v := (1 : Int32)) hx hb d_Model_contradict_71 (by decide) ?_
      refine lv_goto (tgt := 76) hx hb d_Model_contradict_72 (by decide) ?_
      exact ret true () H locs ls 76 d_Model_contradict_76 (Option.some.inj hf) hP hD hS
noncomputable def f_Model_add_124  : Nat → SModel → Int32 → Int32 → Option (Int32 × SModel)
  | 0, _, _, _ => none
  | n + 1, md, y4, y5 =>
    (if (md.2.2.2.2.1.1 - (1 : Int32)) ≤ y5 then
      (some (y4, md))
     else
      (Option.bind (f_Model_contradict md y5 (md.2.2.2.2.1.1 - (1 : Int32))) fun u16 =>
        (if (bI u16) = 0 then
          (f_Model_add_124 n md y4 (y5 + (1 : Int32)))
         else
          (f_Model_add_124 n md (y4 + (1 : Int32)) (y5 + (1 : Int32)))
         )
       )
     )
noncomputable def f_Model_add_70  (md : SModel) (y1 : Int32) (y2 : Int32) (y3 : Int32) (z1 : Bool) (z2 : Bool) (z3 : Bool) : Option (Int32 × SModel) :=
  (Option.bind (f_Model_goes md z1 z2 z3) fun u10 =>
    (if (bI u10.1) = 0 then
      (some ((0 : Int32), u10.2))
     else
      (if inb u10.2.2.2.2.2.1.1 8 then
        (if inb u10.2.2.2.2.2.1.1 8 then
          (if inb u10.2.2.2.2.2.1.1 8 then
            (f_Model_add_124 4096 (u10.2.1, u10.2.2.1, u10.2.2.2.1, u10.2.2.2.2.1, (u10.2.2.2.2.2.1.1 + (1 : Int32), upd u10.2.2.2.2.2.1.2.1 u10.2.2.2.2.2.1.1.toNatClampNeg y1, upd u10.2.2.2.2.2.1.2.2.1 u10.2.2.2.2.2.1.1.toNatClampNeg y2, upd u10.2.2.2.2.2.1.2.2.2.1 u10.2.2.2.2.2.1.1.toNatClampNeg y3, u10.2.2.2.2.2.1.2.2.2.2), u10.2.2.2.2.2.2.1, u10.2.2.2.2.2.2.2.1, u10.2.2.2.2.2.2.2.2.1, u10.2.2.2.2.2.2.2.2.2) (0 : Int32) (0 : Int32))
           else none)
         else none)
       else none)
     )
   )
noncomputable def f_Model_add_56  (md : SModel) (y1 : Int32) (y2 : Int32) (y3 : Int32) (z1 : Bool) (z2 : Bool) : Option (Int32 × SModel) :=
  (if (8 : Int32) ≤ md.2.2.2.2.1.1 then
    (f_Model_add_70 md y1 y2 y3 z1 z2 false)
   else
    (f_Model_add_70 md y1 y2 y3 z1 z2 true)
   )
noncomputable def f_Model_add_55  (md : SModel) (y1 : Int32) (y2 : Int32) (y3 : Int32) (z1 : Bool) : Option (Int32 × SModel) :=
  (f_Model_add_56 md y1 y2 y3 z1 false)
noncomputable def f_Model_add_30  (md : SModel) (y1 : Int32) (y2 : Int32) (y3 : Int32) (z1 : Bool) : Option (Int32 × SModel) :=
  (Option.bind (f_Model_within y1 (1 : Int32) (9999 : Int32)) fun u5 =>
    (if (bI u5) = 0 then
      (f_Model_add_55 md y1 y2 y3 z1)
     else
      (Option.bind (f_Model_within y2 (1 : Int32) (100000 : Int32)) fun u7 =>
        (if (bI u7) = 0 then
          (f_Model_add_55 md y1 y2 y3 z1)
         else
          (f_Model_add_56 md y1 y2 y3 z1 true)
         )
       )
     )
   )
noncomputable def f_Model_add_20  (md : SModel) (y1 : Int32) (y2 : Int32) (y3 : Int32) : Option (Int32 × SModel) :=
  (if y3 < 0 then
    (f_Model_add_30 md y1 y2 y3 false)
   else
    (f_Model_add_30 md y1 y2 y3 true)
   )
noncomputable def f_Model_add (md : SModel) (x1 : Int32) (x2 : Int32) : Option (Int32 × SModel) :=
  (Option.bind (f_Model_find md x1) fun u1 =>
    (if 0 ≤ u1 then
      (f_Model_add_20 md x1 x2 u1)
     else
      (if (bI md.2.2.2.1.2.1) = 0 then
        (f_Model_add_20 md x1 x2 u1)
       else
        (f_Model_add_20 md x1 x2 (12 : Int32))
       )
     )
   )
set_option maxHeartbeats 4000000 in
set_option maxRecDepth 100000 in
theorem k_Model_add (l : Launch) (dC : Nat → ClassId) (dI : Nat → Nat → Nat) (ad_md : Nat → Nat) (cA_md : Nat → ClassId) (sz : Nat) (md : SModel) (x1 : Int32) (x2 : Int32) (res : Int32 × SModel) (hf : f_Model_add md x1 x2 = some res) : Met l y_Model_add w_Model_add ({ frames := 1, cells := 0, slots := 0, locals := 24 }) (cPc (dC, dI) (uw_Model ad_md cA_md md) [(cA_md 1, .int), (cA_md 2, .int), (cA_md 3, .int), (cA_md 4, .int), (cA_md 5, .int), (cA_md 6, .int), (cA_md 7, .int), (cA_md 8, .int), (cA_md 9, .boolean), (cA_md 10, .int), (cA_md 11, .int), (cA_md 12, .int), (cA_md 13, .int)] sz [.ref (ad_md 0), .int x1, .int x2]) (va_Qi (fun (r : Int32) (u : SModel) => r = res.1 ∧ u = res.2) (fun (u : SModel) (t : State) => va_P (dC, dI) vwCl (uw_Model ad_md cA_md u) t.heap ∧ va_K (dC, dI) vwCl [(cA_md 1, .int), (cA_md 2, .int), (cA_md 3, .int), (cA_md 4, .int), (cA_md 5, .int), (cA_md 6, .int), (cA_md 7, .int), (cA_md 8, .int), (cA_md 9, .boolean), (cA_md 10, .int), (cA_md 11, .int), (cA_md 12, .int), (cA_md 13, .int)] t ∧ va_D (va_A (uw_Model ad_md cA_md md) sz) (uw_Model ad_md cA_md u)) (va_A (uw_Model ad_md cA_md md) sz)) 0 0 (va_A (uw_Model ad_md cA_md md) sz) := by
  refine Met.ofW (cc := b_Model_add) (maxL := 6) (ret := (some .int)) (by decide) rfl ?_
  intro p e s m args below meth c s₁ B hml hv
  obtain ⟨rfl, hsz, hP, hK, hD0, hN⟩ := hv
  have hx := B.exec
  have hb := B.bytes
  have hr := B.returns
  have hts := atoms_spec (ws := w_Model_add) B.pre
  have hown : s.vm.findClass "HazardTablesModel" = some m.cls := findClass_of_methodNamed B.named
  have hlocks := B.notSynchronized
  subst hsz
  have hD := hD0.self (sz := s.heap.size)
  generalize hAe : va_A (uw_Model ad_md cA_md md) s.heap.size = A at hD ⊢
  have hA : ∀ q : Nat, s.heap.size ≤ q → A q := fun q h => by rw [← hAe]; exact Or.inr h
  have hS : va_S A s.heap s.heap [] := va_S.rf
  have hP : va_P (dC, dI) vwCl (uw_Model ad_md cA_md md) s.heap := hP
  have fl_131 := (hts _ (List.mem_cons_of_mem _ wd_753))
  have fl_157 := (hts _ (List.mem_cons_of_mem _ wd_760))
  have fl_23 := (hts _ (List.mem_cons_of_mem _ wd_761))
  have fl_26 := (hts _ (List.mem_cons_of_mem _ wd_762))
  have fl_29 := (hts _ (List.mem_cons_of_mem _ wd_763))
  have hin_Model : ∀ w ∈ u_ws "HazardTablesModel" F_Model 30, w ∈ w_Model_add := fun w h => List.mem_cons_of_mem _ (hinA_Model w h)
  have ret : ∀ (v : Int32) (u : SModel) (H : Heap) (locs : List Loc) (ls : Array Slot) (pc : Nat), decode b_Model_add pc = .ok (.ireturn, 1) → (v = res.1 ∧ u = res.2) → va_P (dC, dI) vwCl (uw_Model ad_md cA_md u) H → va_D A (uw_Model ad_md cA_md u) → va_S A s.heap H locs → W p l e (headSpec w_Model_add ({ frames := 1, cells := 0, slots := 0, locals := 24 })).room s m ([.ref (ad_md 0), .int x1, .int x2] : List Value).toArray below meth c H locs 0 0 (MQ below (va_Qi (fun (r : Int32) (u : SModel) => r = res.1 ∧ u = res.2) (fun (u : SModel) (t : State) => va_P (dC, dI) vwCl (uw_Model ad_md cA_md u) t.heap ∧ va_K (dC, dI) vwCl [(cA_md 1, .int), (cA_md 2, .int), (cA_md 3, .int), (cA_md 4, .int), (cA_md 5, .int), (cA_md 6, .int), (cA_md 7, .int), (cA_md 8, .int), (cA_md 9, .boolean), (cA_md 10, .int), (cA_md 11, .int), (cA_md 12, .int), (cA_md 13, .int)] t ∧ va_D A (uw_Model ad_md cA_md u)) A) ([.ref (ad_md 0), .int x1, .int x2] : List Value).toArray s 0 0 A) (F0 m pc ls [.int v]) := fun v u H locs ls pc hd hp hP hD hS => W.iret (v := v) hx hb hr (fun t ht hW => ⟨⟨v, u, rfl, hp, by rw [ht]; exact hP, va_K.moved hW.alike hK, hD⟩, hS.F ht⟩) hS.2.2 hd
  generalize (MQ below (va_Qi (fun (r : Int32) (u : SModel) => r = res.1 ∧ u = res.2) (fun (u : SModel) (t : State) => va_P (dC, dI) vwCl (uw_Model ad_md cA_md u) t.heap ∧ va_K (dC, dI) vwCl [(cA_md 1, .int), (cA_md 2, .int), (cA_md 3, .int), (cA_md 4, .int), (cA_md 5, .int), (cA_md 6, .int), (cA_md 7, .int), (cA_md 8, .int), (cA_md 9, .boolean), (cA_md 10, .int), (cA_md 11, .int), (cA_md 12, .int), (cA_md 13, .int)] t ∧ va_D A (uw_Model ad_md cA_md u)) A) ([.ref (ad_md 0), .int x1, .int x2] : List Value).toArray s 0 0 A) = Q at ret ⊢
  have w_124 : ∀ (n : Nat) (md : SModel) (y4 : Int32) (y5 : Int32) (H : Heap) (locs : List Loc) (ls : Array Slot), f_Model_add_124 n md y4 y5 = some res → va_P (dC, dI) vwCl (uw_Model ad_md cA_md md) H → va_D A (uw_Model ad_md cA_md md) → va_S A s.heap H locs → lv_has ls 6 [(0, .ref (ad_md 0)), (4, .int y4), (5, .int y5)] → W p l e (headSpec w_Model_add ({ frames := 1, cells := 0, slots := 0, locals := 24 })).room s m ([.ref (ad_md 0), .int x1, .int x2] : List Value).toArray below meth c H locs 0 0 Q (F0 m 124 ls []) := by
    intro n
    induction n with
    | zero =>
      intro md y4 y5 H locs ls hf hP hD hS hl
      rw [f_Model_add_124] at hf; cases hf
    | succ n ih =>
      intro md y4 y5 H locs ls hf hP hD hS hl
      rw [f_Model_add_124] at hf
      refine lv_iload hx hb d_Model_add_124 (lv_at hl 2 rfl) ?_
      refine lv_aload_n hx hb d_Model_add_126 rfl (lv_at hl 0 rfl) ?_
      refine va_get (D := (dC, dI)) (ci := 6) (v := .int md.2.2.2.2.1.1) (C := "HazardTablesModel") (T := F_Model) (N := 30) hx hb hts hin_Model hown hK hP 0 rfl rfl 12 (by decide) fl_157 (fun _ h9 => h9) rfl d_Model_add_127 ?_
      refine lv_iconst (v := (1 : Int32)) hx hb d_Model_add_130 (by decide) ?_
      refine lv_isub hx hb d_Model_add_131 ?_
      refine lv_icmp_ge (tgt := 159) hx hb d_Model_add_132 (by decide) (fun hc15 => ?_) (fun hc15 => ?_)
      · have hf := hf_t hf hc15
        refine lv_iload hx hb d_Model_add_159 (lv_at hl 1 rfl) ?_
        exact ret y4 md H locs ls 161 d_Model_add_161 (hf_e hf) hP hD hS
      · have hf := hf_f hf hc15
        refine lv_aload_n hx hb d_Model_add_135 rfl (lv_at hl 0 rfl) ?_
        refine lv_iload hx hb d_Model_add_136 (lv_at hl 2 rfl) ?_
        refine lv_aload_n hx hb d_Model_add_138 rfl (lv_at hl 0 rfl) ?_
        refine va_get (D := (dC, dI)) (ci := 6) (v := .int md.2.2.2.2.1.1) (C := "HazardTablesModel") (T := F_Model) (N := 30) hx hb hts hin_Model hown hK hP 0 rfl rfl 12 (by decide) fl_157 (fun _ h9 => h9) rfl d_Model_add_139 ?_
        refine lv_iconst (v := (1 : Int32)) hx hb d_Model_add_142 (by decide) ?_
        refine lv_isub hx hb d_Model_add_143 ?_
        obtain ⟨u16, hu16, hf⟩ := Option.bind_eq_some_iff.mp hf
        refine cl_i (wc := (uw_Model ad_md cA_md md)) (wr := []) (tysC := [(cA_md 1, .int), (cA_md 2, .int), (cA_md 3, .int), (cA_md 4, .int), (cA_md 5, .int), (cA_md 6, .int), (cA_md 7, .int), (cA_md 8, .int), (cA_md 9, .boolean), (cA_md 10, .int), (cA_md 11, .int), (cA_md 12, .int), (cA_md 13, .int)]) (wu := fun (u : Unit) => (uw_Model ad_md cA_md md)) (wn := fun (u : Unit) => (uw_Model ad_md cA_md md)) [0, 1, 2, 3, 4, 5, 6, 7, 8, 9, 10, 11, 12, 13] [] [0, 1, 2, 3, 4, 5, 6, 7, 8, 9, 10, 11, 12, 13] [0, 1, 2, 3, 4, 5, 6, 7, 8, 9, 10, 11, 12] hP hD hS hA hK rfl rfl (by decide +kernel) (by decide +kernel) (by decide +kernel) rfl (fun _ => rfl) (by decide +kernel) (fun hPc hKc hDc => (va_runV (As := [.int y5, .int (md.2.2.2.2.1.1 - (1 : Int32))]) (rest := []) ⟨hx, hb, hml, hown, hts⟩ (k_Model_contradict l dC dI ad_md cA_md H.size md y5 (md.2.2.2.2.1.1 - (1 : Int32)) u16 hu16) (cwV 2 hts (gV wd_946 wd_948 wd_38 wd_49 wd_949) rfl rfl rfl (by decide +kernel) ⟨Nat.le_of_ble_eq_true rfl, Nat.le_of_ble_eq_true rfl⟩) (cl_preV hPc hKc hDc hN (ci := 6) 0 rfl rfl) rfl rfl hl.1 rfl (lv_room (Nat.le_of_ble_eq_true rfl)) d_Model_add_144 ⟨Nat.le_of_ble_eq_true rfl, Nat.le_of_ble_eq_true rfl⟩)) (fun r u H locs hw hP hD hS => ?_)
        have hw := hw.symm
        subst hw
        have hP : va_P (dC, dI) vwCl (uw_Model ad_md cA_md md) H := hP
        have hD : va_D A (uw_Model ad_md cA_md md) := hD
        refine lv_if_eq (tgt := 153) hx hb d_Model_add_147 (by decide) (fun hc17 => ?_) (fun hc17 => ?_)
        · have hf := hf_t hf hc17
          refine lv_iinc (v := y5 + (1 : Int32)) (lv' := [(5, .int (y5 + (1 : Int32))), (0, .ref (ad_md 0)), (4, .int y4)]) hx hb d_Model_add_153 hl (k := 2) rfl rfl (by decide) rfl (fun ls hl => ?_)
          refine lv_goto (tgt := 124) hx hb d_Model_add_156 (by decide) ?_
          exact ih md y4 (y5 + (1 : Int32)) H locs ls hf hP hD hS (lv_sub hl [1, 2, 0] rfl)
        · have hf := hf_f hf hc17
          refine lv_iinc (v := y4 + (1 : Int32)) (lv' := [(4, .int (y4 + (1 : Int32))), (0, .ref (ad_md 0)), (5, .int y5)]) hx hb d_Model_add_150 hl (k := 1) rfl rfl (by decide) rfl (fun ls hl => ?_)
          refine lv_iinc (v := y5 + (1 : Int32)) (lv' := [(5, .int (y5 + (1 : Int32))), (4, .int (y4 + (1 : Int32))), (0, .ref (ad_md 0))]) hx hb d_Model_add_153 hl (k := 2) rfl rfl (by decide) rfl (fun ls hl => ?_)
          refine lv_goto (tgt := 124) hx hb d_Model_add_156 (by decide) ?_
          exact ih md (y4 + (1 : Int32)) (y5 + (1 : Int32)) H locs ls hf hP hD hS (lv_sub hl [2, 1, 0] rfl)
  have w_70 : ∀ (md : SModel) (y1 : Int32) (y2 : Int32) (y3 : Int32) (z1 : Bool) (z2 : Bool) (z3 : Bool) (H : Heap) (locs : List Loc) (ls : Array Slot), f_Model_add_70 md y1 y2 y3 z1 z2 z3 = some res → va_P (dC, dI) vwCl (uw_Model ad_md cA_md md) H → va_D A (uw_Model ad_md cA_md md) → va_S A s.heap H locs → lv_has ls 6 [(0, .ref (ad_md 0)), (1, .int y1), (2, .int y2), (3, .int y3)] → W p l e (headSpec w_Model_add ({ frames := 1, cells := 0, slots := 0, locals := 24 })).room s m ([.ref (ad_md 0), .int x1, .int x2] : List Value).toArray below meth c H locs 0 0 Q (F0 m 70 ls [.int (bI z3), .int (bI z2), .int (bI z1), .ref (ad_md 0)]) := by
    intro md y1 y2 y3 z1 z2 z3 H locs ls hf hP hD hS hl
    rw [f_Model_add_70] at hf
    obtain ⟨u10, hu10, hf⟩ := Option.bind_eq_some_iff.mp hf
    refine cl_i (wc := (uw_Model ad_md cA_md md)) (wr := []) (tysC := [(cA_md 1, .int), (cA_md 2, .int), (cA_md 3, .int), (cA_md 4, .int), (cA_md 5, .int), (cA_md 6, .int), (cA_md 7, .int), (cA_md 8, .int), (cA_md 9, .boolean), (cA_md 10, .int), (cA_md 11, .int), (cA_md 12, .int), (cA_md 13, .int)]) (wu := fun (u : SModel) => (uw_Model ad_md cA_md u)) (wn := fun (u : SModel) => (uw_Model ad_md cA_md u)) [0, 1, 2, 3, 4, 5, 6, 7, 8, 9, 10, 11, 12, 13] [] [0, 1, 2, 3, 4, 5, 6, 7, 8, 9, 10, 11, 12, 13] [0, 1, 2, 3, 4, 5, 6, 7, 8, 9, 10, 11, 12] hP hD hS hA hK rfl rfl (by decide +kernel) (by decide +kernel) (by decide +kernel) rfl (fun _ => rfl) (by decide +kernel) (fun hPc hKc hDc => (va_runV (As := [.int (bI z1), .int (bI z2), .int (bI z3)]) (rest := []) ⟨hx, hb, hml, hown, hts⟩ (k_Model_goes l dC dI ad_md cA_md H.size md z1 z2 z3 u10 hu10) (cwV 3 hts (gV wd_850 wd_852 wd_22 wd_49 wd_853) rfl rfl rfl (by decide +kernel) ⟨Nat.le_of_ble_eq_true rfl, Nat.le_of_ble_eq_true rfl⟩) (cl_preV hPc hKc hDc hN (ci := 6) 0 rfl rfl) rfl rfl hl.1 rfl (lv_room (Nat.le_of_ble_eq_true rfl)) d_Model_add_70 ⟨Nat.le_of_ble_eq_true rfl, Nat.le_of_ble_eq_true rfl⟩)) (fun r u H locs hw hP hD hS => ?_)
    obtain ⟨hw1, hw2⟩ := hw
    have hw1 := hw1.symm
    have hw2 := hw2.symm
    subst hw1
    subst hw2
    have hP : va_P (dC, dI) vwCl (uw_Model ad_md cA_md u10.2) H := hP
    have hD : va_D A (uw_Model ad_md cA_md u10.2) := hD
    refine lv_if_ne (tgt := 78) hx hb d_Model_add_73 (by decide) (fun hc11 => ?_) (fun hc11 => ?_)
    · have hf := hf_f hf hc11
      refine lv_aload_n hx hb d_Model_add_78 rfl (lv_at hl 0 rfl) ?_
      refine va_get (D := (dC, dI)) (ci := 6) (v := .ref (ad_md 4)) (C := "HazardTablesModel") (T := F_Model) (N := 30) hx hb hts hin_Model hown hK hP 0 rfl rfl 13 (by decide) fl_23 (fun _ h9 => h9) rfl d_Model_add_79 ?_
      refine lv_aload_n hx hb d_Model_add_82 rfl (lv_at hl 0 rfl) ?_
      refine va_get (D := (dC, dI)) (ci := 6) (v := .int u10.2.2.2.2.2.1.1) (C := "HazardTablesModel") (T := F_Model) (N := 30) hx hb hts hin_Model hown hK hP 0 rfl rfl 12 (by decide) fl_157 (fun _ h9 => h9) rfl d_Model_add_83 ?_
      refine lv_iload_n hx hb d_Model_add_86 rfl (lv_at hl 1 rfl) ?_
      obtain ⟨hi12, hf⟩ := hf_g hf
      refine va_iast hx hb hK hP hD hS 4 3 rfl rfl hi12 d_Model_add_87 (fun H locs hP hD hS => ?_)
      have hP : va_P (dC, dI) vwCl (uw_Model ad_md cA_md (u10.2.1, u10.2.2.1, u10.2.2.2.1, u10.2.2.2.2.1, (u10.2.2.2.2.2.1.1, upd u10.2.2.2.2.2.1.2.1 u10.2.2.2.2.2.1.1.toNatClampNeg y1, u10.2.2.2.2.2.1.2.2.1, u10.2.2.2.2.2.1.2.2.2.1, u10.2.2.2.2.2.1.2.2.2.2), u10.2.2.2.2.2.2.1, u10.2.2.2.2.2.2.2.1, u10.2.2.2.2.2.2.2.2.1, u10.2.2.2.2.2.2.2.2.2)) H := hP
      have hD : va_D A (uw_Model ad_md cA_md (u10.2.1, u10.2.2.1, u10.2.2.2.1, u10.2.2.2.2.1, (u10.2.2.2.2.2.1.1, upd u10.2.2.2.2.2.1.2.1 u10.2.2.2.2.2.1.1.toNatClampNeg y1, u10.2.2.2.2.2.1.2.2.1, u10.2.2.2.2.2.1.2.2.2.1, u10.2.2.2.2.2.1.2.2.2.2), u10.2.2.2.2.2.2.1, u10.2.2.2.2.2.2.2.1, u10.2.2.2.2.2.2.2.2.1, u10.2.2.2.2.2.2.2.2.2)) := hD
      refine lv_aload_n hx hb d_Model_add_88 rfl (lv_at hl 0 rfl) ?_
      refine va_get (D := (dC, dI)) (ci := 6) (v := .ref (ad_md 5)) (C := "HazardTablesModel") (T := F_Model) (N := 30) hx hb hts hin_Model hown hK hP 0 rfl rfl 14 (by decide) fl_26 (fun _ h9 => h9) rfl d_Model_add_89 ?_
      refine lv_aload_n hx hb d_Model_add_92 rfl (lv_at hl 0 rfl) ?_
      refine va_get (D := (dC, dI)) (ci := 6) (v := .int u10.2.2.2.2.2.1.1) (C := "HazardTablesModel") (T := F_Model) (N := 30) hx hb hts hin_Model hown hK hP 0 rfl rfl 12 (by decide) fl_157 (fun _ h9 => h9) rfl d_Model_add_93 ?_
      refine lv_iload_n hx hb d_Model_add_96 rfl (lv_at hl 2 rfl) ?_
      obtain ⟨hi13, hf⟩ := hf_g hf
      refine va_iast hx hb hK hP hD hS 5 4 rfl rfl hi13 d_Model_add_97 (fun H locs hP hD hS => ?_)
      have hP : va_P (dC, dI) vwCl (uw_Model ad_md cA_md (u10.2.1, u10.2.2.1, u10.2.2.2.1, u10.2.2.2.2.1, (u10.2.2.2.2.2.1.1, upd u10.2.2.2.2.2.1.2.1 u10.2.2.2.2.2.1.1.toNatClampNeg y1, upd u10.2.2.2.2.2.1.2.2.1 u10.2.2.2.2.2.1.1.toNatClampNeg y2, u10.2.2.2.2.2.1.2.2.2.1, u10.2.2.2.2.2.1.2.2.2.2), u10.2.2.2.2.2.2.1, u10.2.2.2.2.2.2.2.1, u10.2.2.2.2.2.2.2.2.1, u10.2.2.2.2.2.2.2.2.2)) H := hP
      have hD : va_D A (uw_Model ad_md cA_md (u10.2.1, u10.2.2.1, u10.2.2.2.1, u10.2.2.2.2.1, (u10.2.2.2.2.2.1.1, upd u10.2.2.2.2.2.1.2.1 u10.2.2.2.2.2.1.1.toNatClampNeg y1, upd u10.2.2.2.2.2.1.2.2.1 u10.2.2.2.2.2.1.1.toNatClampNeg y2, u10.2.2.2.2.2.1.2.2.2.1, u10.2.2.2.2.2.1.2.2.2.2), u10.2.2.2.2.2.2.1, u10.2.2.2.2.2.2.2.1, u10.2.2.2.2.2.2.2.2.1, u10.2.2.2.2.2.2.2.2.2)) := hD
      refine lv_aload_n hx hb d_Model_add_98 rfl (lv_at hl 0 rfl) ?_
      refine va_get (D := (dC, dI)) (ci := 6) (v := .ref (ad_md 6)) (C := "HazardTablesModel") (T := F_Model) (N := 30) hx hb hts hin_Model hown hK hP 0 rfl rfl 15 (by decide) fl_29 (fun _ h9 => h9) rfl d_Model_add_99 ?_
      refine lv_aload_n hx hb d_Model_add_102 rfl (lv_at hl 0 rfl) ?_
      refine va_get (D := (dC, dI)) (ci := 6) (v := .int u10.2.2.2.2.2.1.1) (C := "HazardTablesModel") (T := F_Model) (N := 30) hx hb hts hin_Model hown hK hP 0 rfl rfl 12 (by decide) fl_157 (fun _ h9 => h9) rfl d_Model_add_103 ?_
      refine lv_iload_n hx hb d_Model_add_106 rfl (lv_at hl 3 rfl) ?_
      obtain ⟨hi14, hf⟩ := hf_g hf
      refine va_iast hx hb hK hP hD hS 6 5 rfl rfl hi14 d_Model_add_107 (fun H locs hP hD hS => ?_)
      have hP : va_P (dC, dI) vwCl (uw_Model ad_md cA_md (u10.2.1, u10.2.2.1, u10.2.2.2.1, u10.2.2.2.2.1, (u10.2.2.2.2.2.1.1, upd u10.2.2.2.2.2.1.2.1 u10.2.2.2.2.2.1.1.toNatClampNeg y1, upd u10.2.2.2.2.2.1.2.2.1 u10.2.2.2.2.2.1.1.toNatClampNeg y2, upd u10.2.2.2.2.2.1.2.2.2.1 u10.2.2.2.2.2.1.1.toNatClampNeg y3, u10.2.2.2.2.2.1.2.2.2.2), u10.2.2.2.2.2.2.1, u10.2.2.2.2.2.2.2.1, u10.2.2.2.2.2.2.2.2.1, u10.2.2.2.2.2.2.2.2.2)) H := hP
      have hD : va_D A (uw_Model ad_md cA_md (u10.2.1, u10.2.2.1, u10.2.2.2.1, u10.2.2.2.2.1, (u10.2.2.2.2.2.1.1, upd u10.2.2.2.2.2.1.2.1 u10.2.2.2.2.2.1.1.toNatClampNeg y1, upd u10.2.2.2.2.2.1.2.2.1 u10.2.2.2.2.2.1.1.toNatClampNeg y2, upd u10.2.2.2.2.2.1.2.2.2.1 u10.2.2.2.2.2.1.1.toNatClampNeg y3, u10.2.2.2.2.2.1.2.2.2.2), u10.2.2.2.2.2.2.1, u10.2.2.2.2.2.2.2.1, u10.2.2.2.2.2.2.2.2.1, u10.2.2.2.2.2.2.2.2.2)) := hD
      refine lv_aload_n hx hb d_Model_add_108 rfl (lv_at hl 0 rfl) ?_
      refine lv_dup hx hb d_Model_add_109 rfl ?_
      refine va_get (D := (dC, dI)) (ci := 6) (v := .int u10.2.2.2.2.2.1.1) (C := "HazardTablesModel") (T := F_Model) (N := 30) hx hb hts hin_Model hown hK hP 0 rfl rfl 12 (by decide) fl_157 (fun _ h9 => h9) rfl d_Model_add_110 ?_
      refine lv_iconst (v := (1 : Int32)) hx hb d_Model_add_113 (by decide) ?_
      refine lv_iadd hx hb d_Model_add_114 ?_
      refine va_put (D := (dC, dI)) (ci := 6) (v := .int (u10.2.2.2.2.2.1.1 + (1 : Int32))) (ty := .int) (C := "HazardTablesModel") (T := F_Model) (N := 30) hx hb hts hin_Model t_Model t_Model_ok n_Model hown hK hP hD hS 0 rfl rfl 12 (by decide) fl_157 (fun _ h9 => h9) rfl (by decide +kernel) rfl rfl (Nat.le_of_ble_eq_true rfl) d_Model_add_115 (fun H locs hP hD hS => ?_)
      have hP : va_P (dC, dI) vwCl (uw_Model ad_md cA_md (u10.2.1, u10.2.2.1, u10.2.2.2.1, u10.2.2.2.2.1, (u10.2.2.2.2.2.1.1 + (1 : Int32), upd u10.2.2.2.2.2.1.2.1 u10.2.2.2.2.2.1.1.toNatClampNeg y1, upd u10.2.2.2.2.2.1.2.2.1 u10.2.2.2.2.2.1.1.toNatClampNeg y2, upd u10.2.2.2.2.2.1.2.2.2.1 u10.2.2.2.2.2.1.1.toNatClampNeg y3, u10.2.2.2.2.2.1.2.2.2.2), u10.2.2.2.2.2.2.1, u10.2.2.2.2.2.2.2.1, u10.2.2.2.2.2.2.2.2.1, u10.2.2.2.2.2.2.2.2.2)) H := hP
      have hD : va_D A (uw_Model ad_md cA_md (u10.2.1, u10.2.2.1, u10.2.2.2.1, u10.2.2.2.2.1, (u10.2.2.2.2.2.1.1 + (1 : Int32), upd u10.2.2.2.2.2.1.2.1 u10.2.2.2.2.2.1.1.toNatClampNeg y1, upd u10.2.2.2.2.2.1.2.2.1 u10.2.2.2.2.2.1.1.toNatClampNeg y2, upd u10.2.2.2.2.2.1.2.2.2.1 u10.2.2.2.2.2.1.1.toNatClampNeg y3, u10.2.2.2.2.2.1.2.2.2.2), u10.2.2.2.2.2.2.1, u10.2.2.2.2.2.2.2.1, u10.2.2.2.2.2.2.2.2.1, u10.2.2.2.2.2.2.2.2.2)) := hD
      refine lv_iconst (v := (0 : Int32)) hx hb d_Model_add_118 (by decide) ?_
      refine lv_istore (lv' := [(4, .int (0 : Int32)), (0, .ref (ad_md 0)), (1, .int y1), (2, .int y2), (3, .int y3)]) hx hb d_Model_add_119 hl (by decide) rfl (fun ls hl => ?_)
      refine lv_iconst (v := (0 : Int32)) hx hb d_Model_add_121 (by decide) ?_
      refine lv_istore (lv' := [(5, .int (0 : Int32)), (4, .int (0 : Int32)), (0, .ref (ad_md 0)), (1, .int y1), (2, .int y2), (3, .int y3)]) hx hb d_Model_add_122 hl (by decide) rfl (fun ls hl => ?_)
      exact w_124 4096 (u10.2.1, u10.2.2.1, u10.2.2.2.1, u10.2.2.2.2.1, (u10.2.2.2.2.2.1.1 + (1 : Int32), upd u10.2.2.2.2.2.1.2.1 u10.2.2.2.2.2.1.1.toNatClampNeg y1, upd u10.2.2.2.2.2.1.2.2.1 u10.2.2.2.2.2.1.1.toNatClampNeg y2, upd u10.2.2.2.2.2.1.2.2.2.1 u10.2.2.2.2.2.1.1.toNatClampNeg y3, u10.2.2.2.2.2.1.2.2.2.2), u10.2.2.2.2.2.2.1, u10.2.2.2.2.2.2.2.1, u10.2.2.2.2.2.2.2.2.1, u10.2.2.2.2.2.2.2.2.2) (0 : Int32) (0 : Int32) H locs ls hf hP hD hS (lv_sub hl [2, 1, 0] rfl)
    · have hf := hf_t hf hc11
      refine lv_iconst (v := (0 : Int32)) hx hb d_Model_add_76 (by decide) ?_
      exact ret (0 : Int32) u10.2 H locs ls 77 d_Model_add_77 (hf_e hf) hP hD hS
  have w_56 : ∀ (md : SModel) (y1 : Int32) (y2 : Int32) (y3 : Int32) (z1 : Bool) (z2 : Bool) (H : Heap) (locs : List Loc) (ls : Array Slot), f_Model_add_56 md y1 y2 y3 z1 z2 = some res → va_P (dC, dI) vwCl (uw_Model ad_md cA_md md) H → va_D A (uw_Model ad_md cA_md md) → va_S A s.heap H locs → lv_has ls 6 [(0, .ref (ad_md 0)), (1, .int y1), (2, .int y2), (3, .int y3)] → W p l e (headSpec w_Model_add ({ frames := 1, cells := 0, slots := 0, locals := 24 })).room s m ([.ref (ad_md 0), .int x1, .int x2] : List Value).toArray below meth c H locs 0 0 Q (F0 m 56 ls [.int (bI z2), .int (bI z1), .ref (ad_md 0)]) := by
    intro md y1 y2 y3 z1 z2 H locs ls hf hP hD hS hl
    rw [f_Model_add_56] at hf
    refine lv_aload_n hx hb d_Model_add_56 rfl (lv_at hl 0 rfl) ?_
    refine va_get (D := (dC, dI)) (ci := 6) (v := .int md.2.2.2.2.1.1) (C := "HazardTablesModel") (T := F_Model) (N := 30) hx hb hts hin_Model hown hK hP 0 rfl rfl 12 (by decide) fl_157 (fun _ h9 => h9) rfl d_Model_add_57 ?_
    refine lv_bipush (v := (8 : Int32)) hx hb d_Model_add_60 (by decide) ?_
    refine lv_icmp_ge (tgt := 69) hx hb d_Model_add_62 (by decide) (fun hc9 => ?_) (fun hc9 => ?_)
    · have hf := hf_t hf hc9
      refine lv_iconst (v := (0 : Int32)) hx hb d_Model_add_69 (by decide) ?_
      exact w_70 md y1 y2 y3 z1 z2 false H locs ls hf hP hD hS (lv_sub hl [0, 1, 2, 3] rfl)
    · have hf := hf_f hf hc9
      refine lv_iconst (v := (1 : Int32)) hx hb d_Model_add_65 (by decide) ?_
      refine lv_goto (tgt := 70) hx hb d_Model_add_66 (by decide) ?_
      exact w_70 md y1 y2 y3 z1 z2 true H locs ls hf hP hD hS (lv_sub hl [0, 1, 2, 3] rfl)
  have w_55 : ∀ (md : SModel) (y1 : Int32) (y2 : Int32) (y3 : Int32) (z1 : Bool) (H : Heap) (locs : List Loc) (ls : Array Slot), f_Model_add_55 md y1 y2 y3 z1 = some res → va_P (dC, dI) vwCl (uw_Model ad_md cA_md md) H → va_D A (uw_Model ad_md cA_md md) → va_S A s.heap H locs → lv_has ls 6 [(0, .ref (ad_md 0)), (1, .int y1), (2, .int y2), (3, .int y3)] → W p l e (headSpec w_Model_add ({ frames := 1, cells := 0, slots := 0, locals := 24 })).room s m ([.ref (ad_md 0), .int x1, .int x2] : List Value).toArray below meth c H locs 0 0 Q (F0 m 55 ls [.int (bI z1), .ref (ad_md 0)]) := by
    intro md y1 y2 y3 z1 H locs ls hf hP hD hS hl
    rw [f_Model_add_55] at hf
    refine lv_iconst (v := (0 : Int32)) hx hb d_Model_add_55 (by decide) ?_
    exact w_56 md y1 y2 y3 z1 false H locs ls hf hP hD hS (lv_sub hl [0, 1, 2, 3] rfl)
  have w_30 : ∀ (md : SModel) (y1 : Int32) (y2 : Int32) (y3 : Int32) (z1 : Bool) (H : Heap) (locs : List Loc) (ls : Array Slot), f_Model_add_30 md y1 y2 y3 z1 = some res → va_P (dC, dI) vwCl (uw_Model ad_md cA_md md) H → va_D A (uw_Model ad_md cA_md md) → va_S A s.heap H locs → lv_has ls 6 [(0, .ref (ad_md 0)), (1, .int y1), (2, .int y2), (3, .int y3)] → W p l e (headSpec w_Model_add ({ frames := 1, cells := 0, slots := 0, locals := 24 })).room s m ([.ref (ad_md 0), .int x1, .int x2] : List Value).toArray below meth c H locs 0 0 Q (F0 m 30 ls [.int (bI z1), .ref (ad_md 0)]) := by
    intro md y1 y2 y3 z1 H locs ls hf hP hD hS hl
    rw [f_Model_add_30] at hf
    refine lv_iload_n hx hb d_Model_add_30 rfl (lv_at hl 1 rfl) ?_
    refine lv_iconst (v := (1 : Int32)) hx hb d_Model_add_31 (by decide) ?_
    refine lv_sipush (v := (9999 : Int32)) hx hb d_Model_add_32 (by decide) ?_
    obtain ⟨u5, hu5, hf⟩ := Option.bind_eq_some_iff.mp hf
    refine cl_i (wc := []) (wr := (uw_Model ad_md cA_md md)) (tysC := []) (wu := fun (u : Unit) => []) (wn := fun (u : Unit) => (uw_Model ad_md cA_md md)) [] [0, 1, 2, 3, 4, 5, 6, 7, 8, 9, 10, 11, 12, 13] [0, 1, 2, 3, 4, 5, 6, 7, 8, 9, 10, 11, 12, 13] [] hP hD hS hA hK rfl rfl (by decide +kernel) (by decide +kernel) (by decide +kernel) rfl (fun _ => rfl) (by decide +kernel) (fun hPc hKc hDc => (va_runS (As := [.int y1, .int (1 : Int32), .int (9999 : Int32)]) (rest := [.int (bI z1), .ref (ad_md 0)]) ⟨hx, hb, hml, hown, hts⟩ (k_Model_within l dC dI  H.size y1 (1 : Int32) (9999 : Int32) u5 hu5) (cwS 3 hts (gS wd_847 wd_848 wd_49 wd_849) rfl rfl rfl (by decide +kernel) ⟨Nat.le_of_ble_eq_true rfl, Nat.le_of_ble_eq_true rfl⟩) (cl_preS hPc hKc hDc hN) rfl rfl hl.1 rfl (lv_room (Nat.le_of_ble_eq_true rfl)) d_Model_add_35 ⟨Nat.le_of_ble_eq_true rfl, Nat.le_of_ble_eq_true rfl⟩)) (fun r u H locs hw hP hD hS => ?_)
    have hw := hw.symm
    subst hw
    have hP : va_P (dC, dI) vwCl (uw_Model ad_md cA_md md) H := hP
    have hD : va_D A (uw_Model ad_md cA_md md) := hD
    refine lv_if_eq (tgt := 55) hx hb d_Model_add_38 (by decide) (fun hc6 => ?_) (fun hc6 => ?_)
    · have hf := hf_t hf hc6
      exact w_55 md y1 y2 y3 z1 H locs ls hf hP hD hS (lv_sub hl [0, 1, 2, 3] rfl)
    · have hf := hf_f hf hc6
      refine lv_iload_n hx hb d_Model_add_41 rfl (lv_at hl 2 rfl) ?_
      refine lv_iconst (v := (1 : Int32)) hx hb d_Model_add_42 (by decide) ?_
      refine lv_ldc (v := (100000 : Int32)) hx hb hown (hts _ (List.mem_cons_of_mem _ wd_945)) d_Model_add_43 ?_
      obtain ⟨u7, hu7, hf⟩ := Option.bind_eq_some_iff.mp hf
      refine cl_i (wc := []) (wr := (uw_Model ad_md cA_md md)) (tysC := []) (wu := fun (u : Unit) => []) (wn := fun (u : Unit) => (uw_Model ad_md cA_md md)) [] [0, 1, 2, 3, 4, 5, 6, 7, 8, 9, 10, 11, 12, 13] [0, 1, 2, 3, 4, 5, 6, 7, 8, 9, 10, 11, 12, 13] [] hP hD hS hA hK rfl rfl (by decide +kernel) (by decide +kernel) (by decide +kernel) rfl (fun _ => rfl) (by decide +kernel) (fun hPc hKc hDc => (va_runS (As := [.int y2, .int (1 : Int32), .int (100000 : Int32)]) (rest := [.int (bI z1), .ref (ad_md 0)]) ⟨hx, hb, hml, hown, hts⟩ (k_Model_within l dC dI  H.size y2 (1 : Int32) (100000 : Int32) u7 hu7) (cwS 3 hts (gS wd_847 wd_848 wd_49 wd_849) rfl rfl rfl (by decide +kernel) ⟨Nat.le_of_ble_eq_true rfl, Nat.le_of_ble_eq_true rfl⟩) (cl_preS hPc hKc hDc hN) rfl rfl hl.1 rfl (lv_room (Nat.le_of_ble_eq_true rfl)) d_Model_add_45 ⟨Nat.le_of_ble_eq_true rfl, Nat.le_of_ble_eq_true rfl⟩)) (fun r u H locs hw hP hD hS => ?_)
      have hw := hw.symm
      subst hw
      have hP : va_P (dC, dI) vwCl (uw_Model ad_md cA_md md) H := hP
      have hD : va_D A (uw_Model ad_md cA_md md) := hD
      refine lv_if_eq (tgt := 55) hx hb d_Model_add_48 (by decide) (fun hc8 => ?_) (fun hc8 => ?_)
      · have hf := hf_t hf hc8
        exact w_55 md y1 y2 y3 z1 H locs ls hf hP hD hS (lv_sub hl [0, 1, 2, 3] rfl)
      · have hf := hf_f hf hc8
        refine lv_iconst (v := (1 : Int32)) hx hb d_Model_add_51 (by decide) ?_
        refine lv_goto (tgt := 56) hx hb d_Model_add_52 (by decide) ?_
        exact w_56 md y1 y2 y3 z1 true H locs ls hf hP hD hS (lv_sub hl [0, 1, 2, 3] rfl)
  have w_20 : ∀ (md : SModel) (y1 : Int32) (y2 : Int32) (y3 : Int32) (H : Heap) (locs : List Loc) (ls : Array Slot), f_Model_add_20 md y1 y2 y3 = some res → va_P (dC, dI) vwCl (uw_Model ad_md cA_md md) H → va_D A (uw_Model ad_md cA_md md) → va_S A s.heap H locs → lv_has ls 6 [(0, .ref (ad_md 0)), (1, .int y1), (2, .int y2), (3, .int y3)] → W p l e (headSpec w_Model_add ({ frames := 1, cells := 0, slots := 0, locals := 24 })).room s m ([.ref (ad_md 0), .int x1, .int x2] : List Value).toArray below meth c H locs 0 0 Q (F0 m 20 ls []) := by
    intro md y1 y2 y3 H locs ls hf hP hD hS hl
    rw [f_Model_add_20] at hf
    refine lv_aload_n hx hb d_Model_add_20 rfl (lv_at hl 0 rfl) ?_
    refine lv_iload_n hx hb d_Model_add_21 rfl (lv_at hl 3 rfl) ?_
    refine lv_if_lt (tgt := 29) hx hb d_Model_add_22 (by decide) (fun hc4 => ?_) (fun hc4 => ?_)
    · have hf := hf_t hf hc4
      refine lv_iconst (v := (0 : Int32)) hx hb d_Model_add_29 (by decide) ?_
      exact w_30 md y1 y2 y3 false H locs ls hf hP hD hS (lv_sub hl [0, 1, 2, 3] rfl)
    · have hf := hf_f hf hc4
      refine lv_iconst (v := (1 : Int32)) hx hb d_Model_add_25 (by decide) ?_
      refine lv_goto (tgt := 30) hx hb d_Model_add_26 (by decide) ?_
      exact w_30 md y1 y2 y3 true H locs ls hf hP hD hS (lv_sub hl [0, 1, 2, 3] rfl)
  have hl := lv_entry ([.ref (ad_md 0), .int x1, .int x2]) (n := 6) (Nat.le_of_ble_eq_true rfl)
  rw [lg_entry_eq]
  generalize (lg_sl ([.ref (ad_md 0), .int x1, .int x2]) ++ List.replicate (6 - (lg_sl ([.ref (ad_md 0), .int x1, .int x2])).length) Slot.unset).toArray = ls at hl ⊢
  have hl : lv_has ls 6 [(0, .ref (ad_md 0)), (1, .int x1), (2, .int x2)] := hl
  have hf := hf
  rw [f_Model_add] at hf
  obtain ⟨H, hH⟩ : ∃ H : Heap, H = s.heap := ⟨_, rfl⟩
  obtain ⟨locs, hlocs⟩ : ∃ L : List Loc, L = [] := ⟨_, rfl⟩
  have hP : va_P (dC, dI) vwCl (uw_Model ad_md cA_md md) H := by rw [hH]; exact hP
  have hS : va_S A s.heap H locs := by rw [hH, hlocs]; exact hS
  show W p l e (headSpec w_Model_add ({ frames := 1, cells := 0, slots := 0, locals := 24 })).room s m ([.ref (ad_md 0), .int x1, .int x2] : List Value).toArray below meth c s.heap [] 0 0 Q (F0 m 0 ls [])
  suffices hgo : W p l e (headSpec w_Model_add ({ frames := 1, cells := 0, slots := 0, locals := 24 })).room s m ([.ref (ad_md 0), .int x1, .int x2] : List Value).toArray below meth c H locs 0 0 Q (F0 m 0 ls []) by rw [hH, hlocs] at hgo; exact hgo
  clear hH hlocs
  refine lv_aload_n hx hb d_Model_add_0 rfl (lv_at hl 0 rfl) ?_
  refine lv_iload_n hx hb d_Model_add_1 rfl (lv_at hl 1 rfl) ?_
  obtain ⟨u1, hu1, hf⟩ := Option.bind_eq_some_iff.mp hf
  refine cl_i (wc := (uw_Model ad_md cA_md md)) (wr := []) (tysC := [(cA_md 1, .int), (cA_md 2, .int), (cA_md 3, .int), (cA_md 4, .int), (cA_md 5, .int), (cA_md 6, .int), (cA_md 7, .int), (cA_md 8, .int), (cA_md 9, .boolean), (cA_md 10, .int), (cA_md 11, .int), (cA_md 12, .int), (cA_md 13, .int)]) (wu := fun (u : Unit) => (uw_Model ad_md cA_md md)) (wn := fun (u : Unit) => (uw_Model ad_md cA_md md)) [0, 1, 2, 3, 4, 5, 6, 7, 8, 9, 10, 11, 12, 13] [] [0, 1, 2, 3, 4, 5, 6, 7, 8, 9, 10, 11, 12, 13] [0, 1, 2, 3, 4, 5, 6, 7, 8, 9, 10, 11, 12] hP hD hS hA hK rfl rfl (by decide +kernel) (by decide +kernel) (by decide +kernel) rfl (fun _ => rfl) (by decide +kernel) (fun hPc hKc hDc => (va_runV (As := [.int x1]) (rest := []) ⟨hx, hb, hml, hown, hts⟩ (k_Model_find l dC dI ad_md cA_md H.size md x1 u1 hu1) (cwV 1 hts (gV wd_914 wd_916 wd_34 wd_49 wd_917) rfl rfl rfl (by decide +kernel) ⟨Nat.le_of_ble_eq_true rfl, Nat.le_of_ble_eq_true rfl⟩) (cl_preV hPc hKc hDc hN (ci := 6) 0 rfl rfl) rfl rfl hl.1 rfl (lv_room (Nat.le_of_ble_eq_true rfl)) d_Model_add_2 ⟨Nat.le_of_ble_eq_true rfl, Nat.le_of_ble_eq_true rfl⟩)) (fun r u H locs hw hP hD hS => ?_)
  have hw := hw.symm
  subst hw
  have hP : va_P (dC, dI) vwCl (uw_Model ad_md cA_md md) H := hP
  have hD : va_D A (uw_Model ad_md cA_md md) := hD
  refine lv_istore_n (lv' := [(3, .int u1), (0, .ref (ad_md 0)), (1, .int x1), (2, .int x2)]) hx hb d_Model_add_5 rfl hl (by decide) rfl (fun ls hl => ?_)
  refine lv_iload_n hx hb d_Model_add_6 rfl (lv_at hl 0 rfl) ?_
  refine lv_if_ge (tgt := 20) hx hb d_Model_add_7 (by decide) (fun hc2 => ?_) (fun hc2 => ?_)
  · have hf := hf_t hf hc2
    exact w_20 md x1 x2 u1 H locs ls hf hP hD hS (lv_sub hl [1, 2, 3, 0] rfl)
  · have hf := hf_f hf hc2
    refine lv_aload_n hx hb d_Model_add_10 rfl (lv_at hl 1 rfl) ?_
    refine va_get (D := (dC, dI)) (ci := 6) (v := .int (bI md.2.2.2.1.2.1)) (C := "HazardTablesModel") (T := F_Model) (N := 30) hx hb hts hin_Model hown hK hP 0 rfl rfl 5 (by decide) fl_131 (fun _ h9 => h9) rfl d_Model_add_11 ?_
    refine lv_if_eq (tgt := 20) hx hb d_Model_add_14 (by decide) (fun hc3 => ?_) (fun hc3 => ?_)
    · have hf := hf_t hf hc3
      exact w_20 md x1 x2 u1 H locs ls hf hP hD hS (lv_sub hl [1, 2, 3, 0] rfl)
    · have hf := hf_f hf hc3
      refine lv_bipush (v := (12 : Int32)) hx hb d_Model_add_17 (by decide) ?_
      refine lv_istore_n (lv' := [(3, .int (12 : Int32)), (0, .ref (ad_md 0)), (1, .int x1), (2, .int x2)]) hx hb d_Model_add_19 rfl hl (by decide) rfl (fun ls hl => ?_)
      exact w_20 md x1 x2 (12 : Int32) H locs ls hf hP hD hS (lv_sub hl [1, 2, 3, 0] rfl)
