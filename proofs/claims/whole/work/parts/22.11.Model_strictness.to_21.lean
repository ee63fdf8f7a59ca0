noncomputable def f_Model_strictness_4  : Nat → SModel → Int32 → Int32 → Option (Int32)
  | 0, _, _, _ => none
  | n + 1, md, y1, y2 =>
    (if md.2.2.2.2.1.1 ≤ y2 then
      (some (y1))
     else
      (if inb y2 8 then
        (if inb (((md.2.2.2.2.1.2.2.2.1 y2.toNatClampNeg) * (43 : Int32)) + (2 : Int32)) 559 then
          (if (md.2.2.2.1.2.2 (((md.2.2.2.2.1.2.2.2.1 y2.toNatClampNeg) * (43 : Int32)) + (2 : Int32)).toNatClampNeg) ≤ y1 then
            (f_Model_strictness_4 n md y1 (y2 + (1 : Int32)))
           else
            (if inb y2 8 then
              (if inb (((md.2.2.2.2.1.2.2.2.1 y2.toNatClampNeg) * (43 : Int32)) + (2 : Int32)) 559 then
                (f_Model_strictness_4 n md (md.2.2.2.1.2.2 (((md.2.2.2.2.1.2.2.2.1 y2.toNatClampNeg) * (43 : Int32)) + (2 : Int32)).toNatClampNeg) (y2 + (1 : Int32)))
               else none)
             else none)
           )
         else none)
       else none)
     )
noncomputable def f_Model_strictness (md : SModel) : Option (Int32) :=
  (f_Model_strictness_4 4096 md (0 : Int32) (0 : Int32))
set_option maxHeartbeats 4000000 in
set_option maxRecDepth 100000 in
theorem k_Model_strictness (l : Launch) (dC : Nat → ClassId) (dI : Nat → Nat → Nat) (ad_md : Nat → Nat) (cA_md : Nat → ClassId) (sz : Nat) (md : SModel) (res : Int32) (hf : f_Model_strictness md = some res) : Met l y_Model_strictness w_Model_strictness ({ frames := 0, cells := 0, slots := 0, locals := 0 }) (cPc (dC, dI) (uw_Model ad_md cA_md md) [(cA_md 1, .int), (cA_md 2, .int), (cA_md 3, .int), (cA_md 4, .int), (cA_md 5, .int), (cA_md 6, .int), (cA_md 7, .int), (cA_md 8, .int), (cA_md 9, .boolean), (cA_md 10, .int), (cA_md 11, .int), (cA_md 12, .int), (cA_md 13, .int)] sz [.ref (ad_md 0)]) (va_Qi (fun (r : Int32) (u : Unit) => r = res) (fun (u : Unit) (t : State) => va_P (dC, dI) vwCl (uw_Model ad_md cA_md md) t.heap ∧ va_K (dC, dI) vwCl [(cA_md 1, .int), (cA_md 2, .int), (cA_md 3, .int), (cA_md 4, .int), (cA_md 5, .int), (cA_md 6, .int), (cA_md 7, .int), (cA_md 8, .int), (cA_md 9, .boolean), (cA_md 10, .int), (cA_md 11, .int), (cA_md 12, .int), (cA_md 13, .int)] t ∧ va_D (va_A (uw_Model ad_md cA_md md) sz) (uw_Model ad_md cA_md md)) (va_A (uw_Model ad_md cA_md md) sz)) 0 0 (va_A (uw_Model ad_md cA_md md) sz) := by
  refine Met.ofW (cc := b_Model_strictness) (maxL := 3) (ret := (some .int)) (by decide) rfl ?_
  intro p e s m args below meth c s₁ B hml hv
  obtain ⟨rfl, hsz, hP, hK, hD0, hN⟩ := hv
  have hx := B.exec
  have hb := B.bytes
  have hr := B.returns
  have hts := atoms_spec (ws := w_Model_strictness) B.pre
  have hown : s.vm.findClass "HazardTablesModel" = some m.cls := findClass_of_methodNamed B.named
  have hlocks := B.notSynchronized
  subst hsz
  have hD := hD0.self (sz := s.heap.size)
  generalize hAe : va_A (uw_Model ad_md cA_md md) s.heap.size = A at hD ⊢
  have hA : ∀ q : Nat, s.heap.size ≤ q → A q := fun q h => by rw [← hAe]; exact Or.inr h
  have hS : va_S A s.heap s.heap [] := va_S.rf
  have hP : va_P (dC, dI) vwCl (uw_Model ad_md cA_md md) s.heap := hP
  have fl_157 := (hts _ (List.mem_cons_of_mem _ wd_760))
  have fl_17 := (hts _ (List.mem_cons_of_mem _ wd_754))
  have fl_29 := (hts _ (List.mem_cons_of_mem _ wd_763))
  have hin_Model : ∀ w ∈ u_ws "HazardTablesModel" F_Model 30, w ∈ w_Model_strictness := fun w h => List.mem_cons_of_mem _ (hinA_Model w h)
  have ret : ∀ (v : Int32) (u : Unit) (H : Heap) (locs : List Loc) (ls : Array Slot) (pc : Nat), decode b_Model_strictness pc = .ok (.ireturn, 1) → (v = res) → va_P (dC, dI) vwCl (uw_Model ad_md cA_md md) H → va_D A (uw_Model ad_md cA_md md) → va_S A s.heap H locs → W p l e (headSpec w_Model_strictness ({ frames := 0, cells := 0, slots := 0, locals := 0 })).room s m ([.ref (ad_md 0)] : List Value).toArray below meth c H locs 0 0 (MQ below (va_Qi (fun (r : Int32) (u : Unit) => r = res) (fun (u : Unit) (t : State) => va_P (dC, dI) vwCl (uw_Model ad_md cA_md md) t.heap ∧ va_K (dC, dI) vwCl [(cA_md 1, .int), (cA_md 2, .int), (cA_md 3, .int), (cA_md 4, .int), (cA_md 5, .int), (cA_md 6, .int), (cA_md 7, .int), (cA_md 8, .int), (cA_md 9, .boolean), (cA_md 10, .int), (cA_md 11, .int), (cA_md 12, .int), (cA_md 13, .int)] t ∧ va_D A (uw_Model ad_md cA_md md)) A) ([.ref (ad_md 0)] : List Value).toArray s 0 0 A) (F0 m pc ls [.int v]) := fun v u H locs ls pc hd hp hP hD hS => W.iret (v := v) hx hb hr (fun t ht hW => ⟨⟨v, u, rfl, hp, by rw [ht]; exact hP, va_K.moved hW.alike hK, hD⟩, hS.F ht⟩) hS.2.2 hd
  generalize (MQ below (va_Qi (fun (r : Int32) (u : Unit) => r = res) (fun (u : Unit) (t : State) => va_P (dC, dI) vwCl (uw_Model ad_md cA_md md) t.heap ∧ va_K (dC, dI) vwCl [(cA_md 1, .int), (cA_md 2, .int), (cA_md 3, .int), (cA_md 4, .int), (cA_md 5, .int), (cA_md 6, .int), (cA_md 7, .int), (cA_md 8, .int), (cA_md 9, .boolean), (cA_md 10, .int), (cA_md 11, .int), (cA_md 12, .int), (cA_md 13, .int)] t ∧ va_D A (uw_Model ad_md cA_md md)) A) ([.ref (ad_md 0)] : List Value).toArray s 0 0 A) = Q at ret ⊢
  have w_4 : ∀ (n : Nat)  (y1 : Int32) (y2 : Int32) (H : Heap) (locs : List Loc) (ls : Array Slot), f_Model_strictness_4 n md y1 y2 = some res → va_P (dC, dI) vwCl (uw_Model ad_md cA_md md) H → va_D A (uw_Model ad_md cA_md md) → va_S A s.heap H locs → lv_has ls 3 [(0, .ref (ad_md 0)), (1, .int y1), (2, .int y2)] → W p l e (headSpec w_Model_strictness ({ frames := 0, cells := 0, slots := 0, locals := 0 })).room s m ([.ref (ad_md 0)] : List Value).toArray below meth c H locs 0 0 Q (F0 m 4 ls []) := by
    intro n
    induction n with
    | zero =>
      intro y1 y2 H locs ls hf hP hD hS hl
      rw [f_Model_strictness_4] at hf; cases hf
    | succ n ih =>
      intro y1 y2 H locs ls hf hP hD hS hl
      rw [f_Model_strictness_4] at hf
      refine lv_iload_n hx hb d_Model_strictness_4 rfl (lv_at hl 2 rfl) ?_
      refine lv_aload_n hx hb d_Model_strictness_5 rfl (lv_at hl 0 rfl) ?_
      refine va_get (D := (dC, dI)) (ci := 6) (v := .int md.2.2.2.2.1.1) (C := "HazardTablesModel") (T := F_Model) (N := 30) hx hb hts hin_Model hown hK hP 0 rfl rfl 12 (by decide) fl_157 (fun _ h9 => h9) rfl d_Model_strictness_6 ?_
      refine lv_icmp_ge (tgt := 55) hx hb d_Model_strictness_9 (by decide) (fun hc1 => ?_) (fun hc1 => ?_)
      · have hf := hf_t hf hc1
        refine lv_iload_n hx hb d_Model_strictness_55 rfl (lv_at hl 1 rfl) ?_
        exact ret y1 () H locs ls 56 d_Model_strictness_56 (Option.some.inj hf) hP hD hS
      · have hf := hf_f hf hc1
        refine lv_aload_n hx hb d_Model_strictness_12 rfl (lv_at hl 0 rfl) ?_
        refine va_get (D := (dC, dI)) (ci := 6) (v := .ref (ad_md 2)) (C := "HazardTablesModel") (T := F_Model) (N := 30) hx hb hts hin_Model hown hK hP 0 rfl rfl 6 (by decide) fl_17 (fun _ h9 => h9) rfl d_Model_strictness_13 ?_
        refine lv_aload_n hx hb d_Model_strictness_16 rfl (lv_at hl 0 rfl) ?_
        refine va_get (D := (dC, dI)) (ci := 6) (v := .ref (ad_md 6)) (C := "HazardTablesModel") (T := F_Model) (N := 30) hx hb hts hin_Model hown hK hP 0 rfl rfl 15 (by decide) fl_29 (fun _ h9 => h9) rfl d_Model_strictness_17 ?_
        refine lv_iload_n hx hb d_Model_strictness_20 rfl (lv_at hl 2 rfl) ?_
        obtain ⟨hi2, hf⟩ := hf_g hf
        refine va_iald hx hb hK hP 6 5 rfl rfl hi2 d_Model_strictness_21 ?_
        refine lv_bipush (v := (43 : Int32)) hx hb d_Model_strictness_22 (by decide) ?_
        refine lv_imul hx hb d_Model_strictness_24 ?_
        refine lv_iconst (v := (2 : Int32)) hx hb d_Model_strictness_25 (by decide) ?_
        refine lv_iadd hx hb d_Model_strictness_26 ?_
        obtain ⟨hi3, hf⟩ := hf_g hf
        refine va_iald hx hb hK hP 2 1 rfl rfl hi3 d_Model_strictness_27 ?_
        refine lv_iload_n hx hb d_Model_strictness_28 rfl (lv_at hl 1 rfl) ?_
        refine lv_icmp_le (tgt := 49) hx hb d_Model_strictness_29 (by decide) (fun hc4 => ?_) (fun hc4 => ?_)
        · have hf := hf_t hf hc4
          refine lv_iinc (v := y2 + (1 : Int32)) (lv' := [(2, .int (y2 + (1 : Int32))), (0, .ref (ad_md 0)), (1, .int y1)]) hx hb d_Model_strictness_49 hl (k := 2) rfl rfl (by decide) rfl (fun ls hl => ?_)
          refine lv_goto (tgt := 4) hx hb d_Model_strictness_52 (by decide) ?_
          exact ih y1 (y2 + (1 : Int32)) H locs ls hf hP hD hS (lv_sub hl [1, 2, 0] rfl)
        · have hf := hf_f hf hc4
          refine lv_aload_n hx hb d_Model_strictness_32 rfl (lv_at hl 0 rfl) ?_
          refine va_get (D := (dC, dI)) (ci := 6) (v := .ref (ad_md 2)) (C := "HazardTablesModel") (T := F_Model) (N := 30) hx hb hts hin_Model hown hK hP 0 rfl rfl 6 (by decide) fl_17 (fun _ h9 => h9) rfl d_Model_strictness_33 ?_
          refine lv_aload_n hx hb d_Model_strictness_36 rfl (lv_at hl 0 rfl) ?_
          refine va_get (D := (dC, dI)) (ci := 6) (v := .ref (ad_md 6)) (C := "HazardTablesModel") (T := F_Model) (N := 30) hx hb hts hin_Model hown hK hP 0 rfl rfl 15 (by decide) fl_29 (fun _ h9 => h9) rfl d_Model_strictness_37 ?_
          refine lv_iload_n hx hb d_Model_strictness_40 rfl (lv_at hl 2 rfl) ?_
          obtain ⟨hi5, hf⟩ := hf_g hf
          refine va_iald hx hb hK hP 6 5 rfl rfl hi5 d_Model_strictness_41 ?_
          refine lv_bipush (v := (43 : Int32)) hx hb d_Model_strictness_42 (by decide) ?_
          refine lv_imul hx hb d_Model_strictness_44 ?_
          refine lv_iconst (v := (2 : Int32)) hx hb d_Model_strictness_45 (by decide) ?_
          refine lv_iadd hx hb d_Model_strictness_46 ?_
          obtain ⟨hi6, hf⟩ := hf_g hf
          refine va_iald hx hb hK hP 2 1 rfl rfl hi6 d_Model_strictness_47 ?_
          refine lv_istore_n (lv' := [(1, .int (md.2.2.2.1.2.2 (((md.2.2.2.2.1.2.2.2.1 y2.toNatClampNeg) * (43 : Int32)) + (2 : Int32)).toNatClampNeg)), (0, .ref (ad_md 0)), (2, .int y2)]) hx hb d_Model_strictness_48 rfl hl (by decide) rfl (fun ls hl => ?_)
          refine lv_iinc (v := y2 + (1 : Int32)) (lv' := [(2, .int (y2 + (1 : Int32))), (1, .int (md.2.2.2.1.2.2 (((md.2.2.2.2.1.2.2.2.1 y2.toNatClampNeg) * (43 : Int32)) + (2 : Int32)).toNatClampNeg)), (0, .ref (ad_md 0))]) hx hb d_Model_strictness_49 hl (k := 2) rfl rfl (by decide) rfl (fun ls hl => ?_)
          refine lv_goto (tgt := 4) hx hb d_Model_strictness_52 (by decide) ?_
          exact ih (md.2.2.2.1.2.2 (((md.2.2.2.2.1.2.2.2.1 y2.toNatClampNeg) * (43 : Int32)) + (2 : Int32)).toNatClampNeg) (y2 + (1 : Int32)) H locs ls hf hP hD hS (lv_sub hl [2, 1, 0] rfl)
  have hl := lv_entry ([.ref (ad_md 0)]) (n := 3) (Nat.le_of_ble_eq_true rfl)
  rw [lg_entry_eq]
  generalize (lg_sl ([.ref (ad_md 0)]) ++ List.replicate (3 - (lg_sl ([.ref (ad_md 0)])).length) Slot.unset).toArray = ls at hl ⊢
  have hl : lv_has ls 3 [(0, .ref (ad_md 0))] := hl
  have hf := hf
  rw [f_Model_strictness] at hf
  obtain ⟨H, hH⟩ : ∃ H : Heap, H = s.heap := ⟨_, rfl⟩
  obtain ⟨locs, hlocs⟩ : ∃ L : List Loc, L = [] := ⟨_, rfl⟩
  have hP : va_P (dC, dI) vwCl (uw_Model ad_md cA_md md) H := by rw [hH]; exact hP
  have hS : va_S A s.heap H locs := by rw [hH, hlocs]; exact hS
  show W p l e (headSpec w_Model_strictness ({ frames := 0, cells := 0, slots := 0, locals := 0 })).room s m ([.ref (ad_md 0)] : List Value).toArray below meth c s.heap [] 0 0 Q (F0 m 0 ls [])
  suffices hgo : W p l e (headSpec w_Model_strictness ({ frames := 0, cells := 0, slots := 0, locals := 0 })).room s m ([.ref (ad_md 0)] : List Value).toArray below meth c H locs 0 0 Q (F0 m 0 ls []) by rw [hH, hlocs] at hgo; exact hgo
  clear hH hlocs
  refine lv_iconst (v := (0 : Int32)) hx hb d_Model_strictness_0 (by decide) ?_
  refine lv_istore_n (lv' := [(1, .int (0 : Int32)), (0, .ref (ad_md 0))]) hx hb d_Model_strictness_1 rfl hl (by decide) rfl (fun ls hl => ?_)
  refine lv_iconst (v := (0 : Int32)) hx hb d_Model_strictness_2 (by decide) ?_
  refine lv_istore_n (lv' := [(2, .int (0 : Int32)), (1, .int (0 : Int32)), (0, .ref (ad_md 0))]) hx hb d_Model_strictness_3 rfl hl (by decide) rfl (fun ls hl => ?_)
  exact w_4 4096 (0 : Int32) (0 : Int32) H locs ls hf hP hD hS (lv_sub hl [2, 1, 0] rfl)
noncomputable def f_Model_distance_54 (k_4 : SModel → Bool → Int32 → Int32 → Option (Int32)) (md : SModel) (y1 : Bool) (y2 : Int32) (y3 : Int32) (z1 : Int32) (z2 : Bool) : Option (Int32) :=
  (if inb (z1 + (bI z2)) 559 then
    (if (md.2.2.2.1.2.2 (z1 + (bI z2)).toNatClampNeg) ≤ y2 then
      (k_4 md y1 y2 (y3 + (1 : Int32)))
     else
      (k_4 md y1 (md.2.2.2.1.2.2 (z1 + (bI z2)).toNatClampNeg) (y3 + (1 : Int32)))
     )
   else none)
noncomputable def f_Model_distance_44 (k_4 : SModel → Bool → Int32 → Int32 → Option (Int32)) (md : SModel) (y1 : Bool) (y2 : Int32) (y3 : Int32) (z1 : Int32) (z2 : Int32) : Option (Int32) :=
  (if (bI y1) = 0 then
    (f_Model_distance_54 k_4 md y1 y2 y3 (z1 + z2) true)
   else
    (f_Model_distance_54 k_4 md y1 y2 y3 (z1 + z2) false)
   )
noncomputable def f_Model_distance_4  : Nat → SModel → Bool → Int32 → Int32 → Option (Int32)
  | 0, _, _, _, _ => none
  | n + 1, md, y1, y2, y3 =>
    (if md.2.2.2.2.1.1 ≤ y3 then
      (some (y2))
     else
      (if inb y3 8 then
        (if inb y3 8 then
          (if (md.2.2.2.2.1.2.2.1 y3.toNatClampNeg) ≤ (200 : Int32) then
            (f_Model_distance_44 (f_Model_distance_4 n) md y1 y2 y3 (((md.2.2.2.2.1.2.2.2.1 y3.toNatClampNeg) * (43 : Int32)) + (4 : Int32)) (0 : Int32))
           else
            (f_Model_distance_44 (f_Model_distance_4 n) md y1 y2 y3 (((md.2.2.2.2.1.2.2.2.1 y3.toNatClampNeg) * (43 : Int32)) + (4 : Int32)) (2 : Int32))
           )
         else none)
       else none)
     )
noncomputable def f_Model_distance (md : SModel) (x1 : Bool) : Option (Int32) :=
  (f_Model_distance_4 4096 md x1 (0 : Int32) (0 : Int32))
set_option maxHeartbeats 4000000 in
set_option maxRecDepth 100000 in
theorem k_Model_distance (l : Launch) (dC : Nat → ClassId) (dI : Nat → Nat → Nat) (ad_md : Nat → Nat) (cA_md : Nat → ClassId) (sz : Nat) (md : SModel) (x1 : Bool) (res : Int32) (hf : f_Model_distance md x1 = some res) : Met l y_Model_distance w_Model_distance ({ frames := 0, cells := 0, slots := 0, locals := 0 }) (cPc (dC, dI) (uw_Model ad_md cA_md md) [(cA_md 1, .int), (cA_md 2, .int), (cA_md 3, .int), (cA_md 4, .int), (cA_md 5, .int), (cA_md 6, .int), (cA_md 7, .int), (cA_md 8, .int), (cA_md 9, .boolean), (cA_md 10, .int), (cA_md 11, .int), (cA_md 12, .int), (cA_md 13, .int)] sz [.ref (ad_md 0), .int (bI x1)]) (va_Qi (fun (r : Int32) (u : Unit) => r = res) (fun (u : Unit) (t : State) => va_P (dC, dI) vwCl (uw_Model ad_md cA_md md) t.heap ∧ va_K (dC, dI) vwCl [(cA_md 1, .int), (cA_md 2, .int), (cA_md 3, .int), (cA_md 4, .int), (cA_md 5, .int), (cA_md 6, .int), (cA_md 7, .int), (cA_md 8, .int), (cA_md 9, .boolean), (cA_md 10, .int), (cA_md 11, .int), (cA_md 12, .int), (cA_md 13, .int)] t ∧ va_D (va_A (uw_Model ad_md cA_md md) sz) (uw_Model ad_md cA_md md)) (va_A (uw_Model ad_md cA_md md) sz)) 0 0 (va_A (uw_Model ad_md cA_md md) sz) := by
  refine Met.ofW (cc := b_Model_distance) (maxL := 5) (ret := (some .int)) (by decide) rfl ?_
  intro p e s m args below meth c s₁ B hml hv
  obtain ⟨rfl, hsz, hP, hK, hD0, hN⟩ := hv
  have hx := B.exec
  have hb := B.bytes
  have hr := B.returns
  have hts := atoms_spec (ws := w_Model_distance) B.pre
  have hown : s.vm.findClass "HazardTablesModel" = some m.cls := findClass_of_methodNamed B.named
  have hlocks := B.notSynchronized
  subst hsz
  have hD := hD0.self (sz := s.heap.size)
  generalize hAe : va_A (uw_Model ad_md cA_md md) s.heap.size = A at hD ⊢
  have hA : ∀ q : Nat, s.heap.size ≤ q → A q := fun q h => by rw [← hAe]; exact Or.inr h
  have hS : va_S A s.heap s.heap [] := va_S.rf
  have hP : va_P (dC, dI) vwCl (uw_Model ad_md cA_md md) s.heap := hP
  have fl_157 := (hts _ (List.mem_cons_of_mem _ wd_760))
  have fl_17 := (hts _ (List.mem_cons_of_mem _ wd_754))
  have fl_26 := (hts _ (List.mem_cons_of_mem _ wd_762))
  have fl_29 := (hts _ (List.mem_cons_of_mem _ wd_763))
  have hin_Model : ∀ w ∈ u_ws "HazardTablesModel" F_Model 30, w ∈ w_Model_distance := fun w h => List.mem_cons_of_mem _ (hinA_Model w h)
  have ret : ∀ (v : Int32) (u : Unit) (H : Heap) (locs : List Loc) (ls : Array Slot) (pc : Nat), decode b_Model_distance pc = .ok (.ireturn, 1) → (v = res) → va_P (dC, dI) vwCl (uw_Model ad_md cA_md md) H → va_D A (uw_Model ad_md cA_md md) → va_S A s.heap H locs → W p l e (headSpec w_Model_distance ({ frames := 0, cells := 0, slots := 0, locals := 0 })).room s m ([.ref (ad_md 0), .int (bI x1)] : List Value).toArray below meth c H locs 0 0 (MQ below (va_Qi (fun (r : Int32) (u : Unit) => r = res) (fun (u : Unit) (t : State) => va_P (dC, dI) vwCl (uw_Model ad_md cA_md md) t.heap ∧ va_K (dC, dI) vwCl [(cA_md 1, .int), (cA_md 2, .int), (cA_md 3, .int), (cA_md 4, .int), (cA_md 5, .int), (cA_md 6, .int), (cA_md 7, .int), (cA_md 8, .int), (cA_md 9, .boolean), (cA_md 10, .int), (cA_md 11, .int), (cA_md 12, .int), (cA_md 13, .int)] t ∧ va_D A (uw_Model ad_md cA_md md)) A) ([.ref (ad_md 0), .int (bI x1)] : List Value).toArray s 0 0 A) (F0 m pc ls [.int v]) := fun v u H locs ls pc hd hp hP hD hS => W.iret (v := v) hx hb hr (fun t ht hW => ⟨⟨v, u, rfl, hp, by rw [ht]; exact hP, va_K.moved hW.alike hK, hD⟩, hS.F ht⟩) hS.2.2 hd
  generalize (MQ below (va_Qi (fun (r : Int32) (u : Unit) => r = res) (fun (u : Unit) (t : State) => va_P (dC, dI) vwCl (uw_Model ad_md cA_md md) t.heap ∧ va_K (dC, dI) vwCl [(cA_md 1, .int), (cA_md 2, .int), (cA_md 3, .int), (cA_md 4, .int), (cA_md 5, .int), (cA_md 6, .int), (cA_md 7, .int), (cA_md 8, .int), (cA_md 9, .boolean), (cA_md 10, .int), (cA_md 11, .int), (cA_md 12, .int), (cA_md 13, .int)] t ∧ va_D A (uw_Model ad_md cA_md md)) A) ([.ref (ad_md 0), .int (bI x1)] : List Value).toArray s 0 0 A) = Q at ret ⊢
  have w_54 : ∀ (k_4 : SModel → Bool → Int32 → Int32 → Option (Int32)), (∀  (y1 : Bool) (y2 : Int32) (y3 : Int32) (H : Heap) (locs : List Loc) (ls : Array Slot), k_4 md y1 y2 y3 = some res → va_P (dC, dI) vwCl (uw_Model ad_md cA_md md) H → va_D A (uw_Model ad_md cA_md md) → va_S A s.heap H locs → lv_has ls 5 [(0, .ref (ad_md 0)), (1, .int (bI y1)), (2, .int y2), (3, .int y3)] → W p l e (headSpec w_Model_distance ({ frames := 0, cells := 0, slots := 0, locals := 0 })).room s m ([.ref (ad_md 0), .int (bI x1)] : List Value).toArray below meth c H locs 0 0 Q (F0 m 4 ls [])) → ∀  (y1 : Bool) (y2 : Int32) (y3 : Int32) (z1 : Int32) (z2 : Bool) (H : Heap) (locs : List Loc) (ls : Array Slot), f_Model_distance_54 k_4 md y1 y2 y3 z1 z2 = some res → va_P (dC, dI) vwCl (uw_Model ad_md cA_md md) H → va_D A (uw_Model ad_md cA_md md) → va_S A s.heap H locs → lv_has ls 5 [(0, .ref (ad_md 0)), (1, .int (bI y1)), (2, .int y2), (3, .int y3)] → W p l e (headSpec w_Model_distance ({ frames := 0, cells := 0, slots := 0, locals := 0 })).room s m ([.ref (ad_md 0), .int (bI x1)] : List Value).toArray below meth c H locs 0 0 Q (F0 m 54 ls [.int (bI z2), .int z1, .ref (ad_md 2)]) := by
    intro k_4 hk_4
    intro y1 y2 y3 z1 z2 H locs ls hf hP hD hS hl
    rw [f_Model_distance_54] at hf
    refine lv_iadd hx hb d_Model_distance_54 ?_
    obtain ⟨hi6, hf⟩ := hf_g hf
    refine va_iald hx hb hK hP 2 1 rfl rfl hi6 d_Model_distance_55 ?_
    refine lv_istore (lv' := [(4, .int (md.2.2.2.1.2.2 (z1 + (bI z2)).toNatClampNeg)), (0, .ref (ad_md 0)), (1, .int (bI y1)), (2, .int y2), (3, .int y3)]) hx hb d_Model_distance_56 hl (by decide) rfl (fun ls hl => ?_)
    refine lv_iload hx hb d_Model_distance_58 (lv_at hl 0 rfl) ?_
    refine lv_iload_n hx hb d_Model_distance_60 rfl (lv_at hl 3 rfl) ?_
    refine lv_icmp_le (tgt := 67) hx hb d_Model_distance_61 (by decide) (fun hc7 => ?_) (fun hc7 => ?_)
    · have hf := hf_t hf hc7
      refine lv_iinc (v := y3 + (1 : Int32)) (lv' := [(3, .int (y3 + (1 : Int32))), (4, .int (md.2.2.2.1.2.2 (z1 + (bI z2)).toNatClampNeg)), (0, .ref (ad_md 0)), (1, .int (bI y1)), (2, .int y2)]) hx hb d_Model_distance_67 hl (k := 4) rfl rfl (by decide) rfl (fun ls hl => ?_)
      refine lv_goto (tgt := 4) hx hb d_Model_distance_70 (by decide) ?_
      exact hk_4 y1 y2 (y3 + (1 : Int32)) H locs ls hf hP hD hS (lv_sub hl [2, 3, 4, 0] rfl)
    · have hf := hf_f hf hc7
      refine lv_iload hx hb d_Model_distance_64 (lv_at hl 0 rfl) ?_
      refine lv_istore_n (lv' := [(2, .int (md.2.2.2.1.2.2 (z1 + (bI z2)).toNatClampNeg)), (4, .int (md.2.2.2.1.2.2 (z1 + (bI z2)).toNatClampNeg)), (0, .ref (ad_md 0)), (1, .int (bI y1)), (3, .int y3)]) hx hb d_Model_distance_66 rfl hl (by decide) rfl (fun ls hl => ?_)
      refine lv_iinc (v := y3 + (1 : Int32)) (lv' := [(3, .int (y3 + (1 : Int32))), (2, .int (md.2.2.2.1.2.2 (z1 + (bI z2)).toNatClampNeg)), (4, .int (md.2.2.2.1.2.2 (z1 + (bI z2)).toNatClampNeg)), (0, .ref (ad_md 0)), (1, .int (bI y1))]) hx hb d_Model_distance_67 hl (k := 4) rfl rfl (by decide) rfl (fun ls hl => ?_)
      refine lv_goto (tgt := 4) hx hb d_Model_distance_70 (by decide) ?_
      exact hk_4 y1 (md.2.2.2.1.2.2 (z1 + (bI z2)).toNatClampNeg) (y3 + (1 : Int32)) H locs ls hf hP hD hS (lv_sub hl [3, 4, 1, 0] rfl)
  have w_44 : ∀ (k_4 : SModel → Bool → Int32 → Int32 → Option (Int32)), (∀  (y1 : Bool) (y2 : Int32) (y3 : Int32) (H : Heap) (locs : List Loc) (ls : Array Slot), k_4 md y1 y2 y3 = some res → va_P (dC, dI) vwCl (uw_Model ad_md cA_md md) H → va_D A (uw_Model ad_md cA_md md) → va_S A s.heap H locs → lv_has ls 5 [(0, .ref (ad_md 0)), (1, .int (bI y1)), (2, .int y2), (3, .int y3)] → W p l e (headSpec w_Model_distance ({ frames := 0, cells := 0, slots := 0, locals := 0 })).room s m ([.ref (ad_md 0), .int (bI x1)] : List Value).toArray below meth c H locs 0 0 Q (F0 m 4 ls [])) → ∀  (y1 : Bool) (y2 : Int32) (y3 : Int32) (z1 : Int32) (z2 : Int32) (H : Heap) (locs : List Loc) (ls : Array Slot), f_Model_distance_44 k_4 md y1 y2 y3 z1 z2 = some res → va_P (dC, dI) vwCl (uw_Model ad_md cA_md md) H → va_D A (uw_Model ad_md cA_md md) → va_S A s.heap H locs → lv_has ls 5 [(0, .ref (ad_md 0)), (1, .int (bI y1)), (2, .int y2), (3, .int y3)] → W p l e (headSpec w_Model_distance ({ frames := 0, cells := 0, slots := 0, locals := 0 })).room s m ([.ref (ad_md 0), .int (bI x1)] : List Value).toArray below meth c H locs 0 0 Q (F0 m 44 ls [.int z2, .int z1, .ref (ad_md 2)]) := by
    intro k_4 hk_4
    intro y1 y2 y3 z1 z2 H locs ls hf hP hD hS hl
    rw [f_Model_distance_44] at hf
    refine lv_iadd hx hb d_Model_distance_44 ?_
    refine lv_iload_n hx hb d_Model_distance_45 rfl (lv_at hl 1 rfl) ?_
    refine lv_if_eq (tgt := 53) hx hb d_Model_distance_46 (by decide) (fun hc5 => ?_) (fun hc5 => ?_)
    · have hf := hf_t hf hc5
      refine lv_iconst (v := (1 : Int32)) hx hb d_Model_distance_53 (by decide) ?_
      exact w_54 k_4 hk_4 y1 y2 y3 (z1 + z2) true H locs ls hf hP hD hS (lv_sub hl [0, 1, 2, 3] rfl)
    · have hf := hf_f hf hc5
      refine lv_iconst (v := (0 : Int32)) hx hb d_Model_distance_49 (by decide) ?_
      refine lv_goto (tgt := 54) hx hb d_Model_distance_50 (by decide) ?_
      exact w_54 k_4 hk_4 y1 y2 y3 (z1 + z2) false H locs ls hf hP hD hS (lv_sub hl [0, 1, 2, 3] rfl)
  have w_4 : ∀ (n : Nat)  (y1 : Bool) (y2 : Int32) (y3 : Int32) (H : Heap) (locs : List Loc) (ls : Array Slot), f_Model_distance_4 n md y1 y2 y3 = some res → va_P (dC, dI) vwCl (uw_Model ad_md cA_md md) H → va_D A (uw_Model ad_md cA_md md) → va_S A s.heap H locs → lv_has ls 5 [(0, .ref (ad_md 0)), (1, .int (bI y1)), (2, .int y2), (3, .int y3)] → W p l e (headSpec w_Model_distance ({ frames := 0, cells := 0, slots := 0, locals := 0 })).room s m ([.ref (ad_md 0), .int (bI x1)] : List Value).toArray below meth c H locs 0 0 Q (F0 m 4 ls []) := by
    intro n
    induction n with
    | zero =>
      intro y1 y2 y3 H locs ls hf hP hD hS hl
      rw [f_Model_distance_4] at hf; cases hf
    | succ n ih =>
      intro y1 y2 y3 H locs ls hf hP hD hS hl
      rw [f_Model_distance_4] at hf
      refine lv_iload_n hx hb d_Model_distance_4 rfl (lv_at hl 3 rfl) ?_
      refine lv_aload_n hx hb d_Model_distance_5 rfl (lv_at hl 0 rfl) ?_
      refine va_get (D := (dC, dI)) (ci := 6) (v := .int md.2.2.2.2.1.1) (C := "HazardTablesModel") (T := F_Model) (N := 30) hx hb hts hin_Model hown hK hP 0 rfl rfl 12 (by decide) fl_157 (fun _ h9 => h9) rfl d_Model_distance_6 ?_
      refine lv_icmp_ge (tgt := 73) hx hb d_Model_distance_9 (by decide) (fun hc1 => ?_) (fun hc1 => ?_)
      · have hf := hf_t hf hc1
        refine lv_iload_n hx hb d_Model_distance_73 rfl (lv_at hl 2 rfl) ?_
        exact ret y2 () H locs ls 74 d_Model_distance_74 (Option.some.inj hf) hP hD hS
      · have hf := hf_f hf hc1
        refine lv_aload_n hx hb d_Model_distance_12 rfl (lv_at hl 0 rfl) ?_
        refine va_get (D := (dC, dI)) (ci := 6) (v := .ref (ad_md 2)) (C := "HazardTablesModel") (T := F_Model) (N := 30) hx hb hts hin_Model hown hK hP 0 rfl rfl 6 (by decide) fl_17 (fun _ h9 => h9) rfl d_Model_distance_13 ?_
        refine lv_aload_n hx hb d_Model_distance_16 rfl (lv_at hl 0 rfl) ?_
        refine va_get (D := (dC, dI)) (ci := 6) (v := .ref (ad_md 6)) (C := "HazardTablesModel") (T := F_Model) (N := 30) hx hb hts hin_Model hown hK hP 0 rfl rfl 15 (by decide) fl_29 (fun _ h9 => h9) rfl d_Model_distance_17 ?_
        refine lv_iload_n hx hb d_Model_distance_20 rfl (lv_at hl 3 rfl) ?_
        obtain ⟨hi2, hf⟩ := hf_g hf
        refine va_iald hx hb hK hP 6 5 rfl rfl hi2 d_Model_distance_21 ?_
        refine lv_bipush (v := (43 : Int32)) hx hb d_Model_distance_22 (by decide) ?_
        refine lv_imul hx hb d_Model_distance_24 ?_
        refine lv_iconst (v := (4 : Int32)) hx hb d_Model_distance_25 (by decide) ?_
        refine lv_iadd hx hb d_Model_distance_26 ?_
        refine lv_aload_n hx hb d_Model_distance_27 rfl (lv_at hl 0 rfl) ?_
        refine va_get (D := (dC, dI)) (ci := 6) (v := .ref (ad_md 5)) (C := "HazardTablesModel") (T := F_Model) (N := 30) hx hb hts hin_Model hown hK hP 0 rfl rfl 14 (by decide) fl_26 (fun _ h9 => h9) rfl d_Model_distance_28 ?_
        refine lv_iload_n hx hb d_Model_distance_31 rfl (lv_at hl 3 rfl) ?_
        obtain ⟨hi3, hf⟩ := hf_g hf
        refine va_iald hx hb hK hP 5 4 rfl rfl hi3 d_Model_distance_32 ?_
        refine lv_sipush (v := (200 : Int32)) hx hb d_Model_distance_33 (by decide) ?_
        refine lv_icmp_le (tgt := 43) hx hb d_Model_distance_36 (by decide) (fun hc4 => ?_) (fun hc4 => ?_)
        · have hf := hf_t hf hc4
          refine lv_iconst (v := (0 : Int32)) hx hb d_Model_distance_43 (by decide) ?_
          exact w_44 (f_Model_distance_4 n) ih y1 y2 y3 (((md.2.2.2.2.1.2.2.2.1 y3.toNatClampNeg) * (43 : Int32)) + (4 : Int32)) (0 : Int32) H locs ls hf hP hD hS (lv_sub hl [0, 1, 2, 3] rfl)
        · have hf := hf_f hf hc4
          refine lv_iconst (v := (2 : Int32)) hx hb d_Model_distance_39 (by decide) ?_
          refine lv_goto (tgt := 44) hx hb d_Model_distance_40 (by decide) ?_
          exact w_44 (f_Model_distance_4 n) ih y1 y2 y3 (((md.2.2.2.2.1.2.2.2.1 y3.toNatClampNeg) * (43 : Int32)) + (4 : Int32)) (2 : Int32) H locs ls hf hP hD hS (lv_sub hl [0, 1, 2, 3] rfl)
  have hl := lv_entry ([.ref (ad_md 0), .int (bI x1)]) (n := 5) (Nat.le_of_ble_eq_true rfl)
  rw [lg_entry_eq]
  generalize (lg_sl ([.ref (ad_md 0), .int (bI x1)]) ++ List.replicate (5 - (lg_sl ([.ref (ad_md 0), .int (bI x1)])).length) Slot.unset).toArray = ls at hl ⊢
  have hl : lv_has ls 5 [(0, .ref (ad_md 0)), (1, .int (bI x1))] := hl
  have hf := hf
  rw [f_Model_distance] at hf
  obtain ⟨H, hH⟩ : ∃ H : Heap, H = s.heap := ⟨_, rfl⟩
  obtain ⟨locs, hlocs⟩ : ∃ L : List Loc, L = [] := ⟨_, rfl⟩
  have hP : va_P (dC, dI) vwCl (uw_Model ad_md cA_md md) H := by rw [hH]; exact hP
  have hS : va_S A s.heap H locs := by rw [hH, hlocs]; exact hS
  show W p l e (headSpec w_Model_distance ({ frames := 0, cells := 0, slots := 0, locals := 0 })).room s m ([.ref (ad_md 0), .int (bI x1)] : List Value).toArray below meth c s.heap [] 0 0 Q (F0 m 0 ls [])
  suffices hgo : W p l e (headSpec w_Model_distance ({ frames := 0, cells := 0, slots := 0, locals := 0 })).room s m ([.ref (ad_md 0), .int (bI x1)] : List Value).toArray below meth c H locs 0 0 Q (F0 m 0 ls []) by rw [hH, hlocs] at hgo; exact hgo
  clear hH hlocs
  refine lv_iconst (v := (0 : Int32)) hx hb d_Model_distance_0 (by decide) ?_
  refine lv_istore_n (lv' := [(2, .int (0 : Int32)), (0, .ref (ad_md 0)), (1, .int (bI x1))]) hx hb d_Model_distance_1 rfl hl (by decide) rfl (fun ls hl => ?_)
  refine lv_iconst (v := (0 : Int32)) hx hb d_Model_distance_2 (by decide) ?_
  refine lv_istore_n (lv' := [(3, .int (0 : Int32)), (2, .int (0 : Int32)), (0, .ref (ad_md 0)), (1, .int (bI x1))]) hx hb d_Model_distance_3 rfl hl (by decide) rfl (fun ls hl => ?_)
  exact w_4 4096 x1 (0 : Int32) (0 : Int32) H locs ls hf hP hD hS (lv_sub hl [2, 3, 1, 0] rfl)
noncomputable def f_Model_mixture_67 (k_35 : SModel → Int32 → Int32 → Int32 → Int32 → Option (Int32 × SModel)) : Nat → SModel → Int32 → Int32 → Int32 → Int32 → Int32 → Option (Int32 × SModel)
  | 0, _, _, _, _, _, _ => none
  | n + 1, md, y1, y2, y3, y4, y5 =>
    (if y4 ≤ y5 then
      (k_35 md y1 y2 y3 (y4 + (1 : Int32)))
     else
      (Option.bind (f_Model_contradict md y4 y5) fun u17 =>
        (if (bI u17) = 0 then
          (f_Model_mixture_67 k_35 n md y1 y2 y3 y4 (y5 + (1 : Int32)))
         else
          (f_Model_mixture_67 k_35 n md y1 y2 (y3 + (1 : Int32)) y4 (y5 + (1 : Int32)))
         )
       )
     )
noncomputable def f_Model_mixture_35  : Nat → SModel → Int32 → Int32 → Int32 → Int32 → Option (Int32 × SModel)
  | 0, _, _, _, _, _ => none
  | n + 1, md, y1, y2, y3, y4 =>
    (if md.2.2.2.2.1.1 ≤ y4 then
      (if y1 = 0 then
        (Option.bind (f_Model_strictness md) fun u13 =>
          (some (u13, md))
         )
       else
        (if y1 = (1 : Int32) then
          (some (y2, md))
         else
          (if (4 : Int32) ≤ y1 then
            (if y1 = (4 : Int32) then
              (some (md.2.2.2.2.1.1, md))
             else
              (some (y3, md))
             )
           else
            (if y1 = (2 : Int32) then
              (Option.bind (f_Model_distance md true) fun u12 =>
                (some (u12, md))
               )
             else
              (Option.bind (f_Model_distance md false) fun u11 =>
                (some (u11, md))
               )
             )
           )
         )
       )
     else
      (if inb y4 8 then
        (if inb (((md.2.2.2.2.1.2.2.2.1 y4.toNatClampNeg) * (43 : Int32)) + (3 : Int32)) 559 then
          (f_Model_mixture_67 (f_Model_mixture_35 n) 4096 md y1 (y2 ||| (md.2.2.2.1.2.2 (((md.2.2.2.2.1.2.2.2.1 y4.toNatClampNeg) * (43 : Int32)) + (3 : Int32)).toNatClampNeg)) y3 y4 (0 : Int32))
         else none)
       else none)
     )
noncomputable def f_Model_mixture_19  (md : SModel) (y1 : Int32) (z1 : Bool) (z2 : Bool) : Option (Int32 × SModel) :=
  (Option.bind (f_Model_goes md z1 z2 true) fun u3 =>
    (if (bI u3.1) = 0 then
      (some ((0 : Int32), u3.2))
     else
      (f_Model_mixture_35 4096 u3.2 y1 (0 : Int32) (0 : Int32) (0 : Int32))
     )
   )
noncomputable def f_Model_mixture (md : SModel) (x1 : Int32) : Option (Int32 × SModel) :=
  (Option.bind (f_Model_within x1 (0 : Int32) (5 : Int32)) fun u1 =>
    (if md.2.2.2.2.1.1 ≤ 0 then
      (f_Model_mixture_19 md x1 u1 false)
     else
      (f_Model_mixture_19 md x1 u1 true)
     )
   )
set_option maxHeartbeats 4000000 in
set_option maxRecDepth 100000 in
theorem k_Model_mixture (l : Launch) (dC : Nat → ClassId) (dI : Nat → Nat → Nat) (ad_md : Nat → Nat) (cA_md : Nat → ClassId) (sz : Nat) (md : SModel) (x1 : Int32) (res : Int32 × SModel) (hf : f_Model_mixture md x1 = some res) : Met l y_Model_mixture w_Model_mixture ({ frames := 1, cells := 0, slots := 0, locals := 24 }) (cPc (dC, dI) (uw_Model ad_md cA_md md) [(cA_md 1, .int), (cA_md 2, .int), (cA_md 3, .int), (cA_md 4, .int), (cA_md 5, .int), (cA_md 6, .int), (cA_md 7, .int), (cA_md 8, .int), (cA_md 9, .boolean), (cA_md 10, .int), (cA_md 11, .int), (cA_md 12, .int), (cA_md 13, .int)] sz [.ref (ad_md 0), .int x1]) (va_Qi (fun (r : Int32) (u : SModel) => r = res.1 ∧ u = res.2) (fun (u : SModel) (t : State) => va_P (dC, dI) vwCl (uw_Model ad_md cA_md u) t.heap ∧ va_K (dC, dI) vwCl [(cA_md 1, .int), (cA_md 2, .int), (cA_md 3, .int), (cA_md 4, .int), (cA_md 5, .int), (cA_md 6, .int), (cA_md 7, .int), (cA_md 8, .int), (cA_md 9, .boolean), (cA_md 10, .int), (cA_md 11, .int), (cA_md 12, .int), (cA_md 13, .int)] t ∧ va_D (va_A (uw_Model ad_md cA_md md) sz) (uw_Model ad_md cA_md u)) (va_A (uw_Model ad_md cA_md md) sz)) 0 0 (va_A (uw_Model ad_md cA_md md) sz) := by
  refine Met.ofW (cc := b_Model_mixture) (maxL := 6) (ret := (some .int)) (by decide) rfl ?_
  intro p e s m args below meth c s₁ B hml hv
  obtain ⟨rfl, hsz, hP, hK, hD0, hN⟩ := hv
  have hx := B.exec
  have hb := B.bytes
  have hr := B.returns
  have hts := atoms_spec (ws := w_Model_mixture) B.pre
  have hown : s.vm.findClass "HazardTablesModel" = some m.cls := findClass_of_methodNamed B.named
  have hlocks := B.notSynchronized
  subst hsz
  have hD := hD0.self (sz := s.heap.size)
  generalize hAe : va_A (uw_Model ad_md cA_md md) s.heap.size = A at hD ⊢
  have hA : ∀ q : Nat, s.heap.size ≤ q → A q := fun q h => by rw [← hAe]; exact Or.inr h
  have hS : va_S A s.heap s.heap [] := va_S.rf
  have hP : va_P (dC, dI) vwCl (uw_Model ad_md cA_md md) s.heap := hP
  have fl_157 := (hts _ (List.mem_cons_of_mem _ wd_760))
  have fl_17 := (hts _ (List.mem_cons_of_mem _ wd_754))
  have fl_29 := (hts _ (List.mem_cons_of_mem _ wd_763))
  have hin_Model : ∀ w ∈ u_ws "HazardTablesModel" F_Model 30, w ∈ w_Model_mixture := fun w h => List.mem_cons_of_mem _ (hinA_Model w h)
  have ret : ∀ (v : Int32) (u : SModel) (H : Heap) (locs : List Loc) (ls : Array Slot) (pc : Nat), decode b_Model_mixture pc = .ok (.ireturn, 1) → (v = res.1 ∧ u = res.2) → va_P (dC, dI) vwCl (uw_Model ad_md cA_md u) H → va_D A (uw_Model ad_md cA_md u) → va_S A s.heap H locs → W p l e (headSpec w_Model_mixture ({ frames := 1, cells := 0, slots := 0, locals := 24 })).room s m ([.ref (ad_md 0), .int x1] : List Value).toArray below meth c H locs 0 0 (MQ below (va_Qi (fun (r : Int32) (u : SModel) => r = res.1 ∧ u = res.2) (fun (u : SModel) (t : State) => va_P (dC, dI) vwCl (uw_Model ad_md cA_md u) t.heap ∧ va_K (dC, dI) vwCl [(cA_md 1, .int), (cA_md 2, .int), (cA_md 3, .int), (cA_md 4, .int), (cA_md 5, .int), (cA_md 6, .int), (cA_md 7, .int), (cA_md 8, .int), (cA_md 9, .boolean), (cA_md 10, .int), (cA_md 11, .int), (cA_md 12, .int), (cA_md 13, .int)] t ∧ va_D A (uw_Model ad_md cA_md u)) A) ([.ref (ad_md 0), .int x1] : List Value).toArray s 0 0 A) (F0 m pc ls [.int v]) := fun v u H locs ls pc hd hp hP hD hS => W.iret (v := v) hx hb hr (fun t ht hW => ⟨⟨v, u, rfl, hp, by rw [ht]; exact hP, va_K.moved hW.alike hK, hD⟩, hS.F ht⟩) hS.2.2 hd
  generalize (MQ below (va_Qi (fun (r : Int32) (u : SModel) => r = res.1 ∧ u = res.2) (fun (u : SModel) (t : State) => va_P (dC, dI) vwCl (uw_Model ad_md cA_md u) t.heap ∧ va_K (dC, dI) vwCl [(cA_md 1, .int), (cA_md 2, .int), (cA_md 3, .int), (cA_md 4, .int), (cA_md 5, .int), (cA_md 6, .int), (cA_md 7, .int), (cA_md 8, .int), (cA_md 9, .boolean), (cA_md 10, .int), (cA_md 11, .int), (cA_md 12, .int), (cA_md 13, .int)] t ∧ va_D A (uw_Model ad_md cA_md u)) A) ([.ref (ad_md 0), .int x1] : List Value).toArray s 0 0 A) = Q at ret ⊢
  have w_67 : ∀ (k_35 : SModel → Int32 → Int32 → Int32 → Int32 → Option (Int32 × SModel)), (∀ (md : SModel) (y1 : Int32) (y2 : Int32) (y3 : Int32) (y4 : Int32) (H : Heap) (locs : List Loc) (ls : Array Slot), k_35 md y1 y2 y3 y4 = some res → va_P (dC, dI) vwCl (uw_Model ad_md cA_md md) H → va_D A (uw_Model ad_md cA_md md) → va_S A s.heap H locs → lv_has ls 6 [(0, .ref (ad_md 0)), (1, .int y1), (2, .int y2), (3, .int y3), (4, .int y4)] → W p l e (headSpec w_Model_mixture ({ frames := 1, cells := 0, slots := 0, locals := 24 })).room s m ([.ref (ad_md 0), .int x1] : List Value).toArray below meth c H locs 0 0 Q (F0 m 35 ls [])) → ∀ (n : Nat) (md : SModel) (y1 : Int32) (y2 : Int32) (y3 : Int32) (y4 : Int32) (y5 : Int32) (H : Heap) (locs : List Loc) (ls : Array Slot), f_Model_mixture_67 k_35 n md y1 y2 y3 y4 y5 = some res → va_P (dC, dI) vwCl (uw_Model ad_md cA_md md) H → va_D A (uw_Model ad_md cA_md md) → va_S A s.heap H locs → lv_has ls 6 [(0, .ref (ad_md 0)), (1, .int y1), (2, .int y2), (3, .int y3), (4, .int y4), (5, .int y5)] → W p l e (headSpec w_Model_mixture ({ frames := 1, cells := 0, slots := 0, locals := 24 })).room s m ([.ref (ad_md 0), .int x1] : List Value).toArray below meth c H locs 0 0 Q (F0 m 67 ls []) := by
    intro k_35 hk_35
    intro n
    induction n with
    | zero =>
      intro md y1 y2 y3 y4 y5 H locs ls hf hP hD hS hl
      rw [f_Model_mixture_67] at hf; cases hf
    | succ n ih =>
      intro md y1 y2 y3 y4 y5 H locs ls hf hP hD hS hl
      rw [f_Model_mixture_67] at hf
      refine lv_iload hx hb d_Model_mixture_67 (lv_at hl 5 rfl) ?_
      refine lv_iload hx hb d_Model_mixture_69 (lv_at hl 4 rfl) ?_
      refine lv_icmp_ge (tgt := 94) hx hb d_Model_mixture_71 (by decide) (fun hc16 => ?_) (fun hc16 => ?_)
      · have hf := hf_t hf hc16
        refine lv_iinc (v := y4 + (1 : Int32)) (lv' := [(4, .int (y4 + (1 : Int32))), (0, .ref (ad_md 0)), (1, .int y1), (2, .int y2), (3, .int y3), (5, .int y5)]) hx hb d_Model_mixture_94 hl (k := 4) rfl rfl (by decide) rfl (fun ls hl => ?_)
        refine lv_goto (tgt := 35) hx hb d_Model_mixture_97 (by decide) ?_
        exact hk_35 md y1 y2 y3 (y4 + (1 : Int32)) H locs ls hf hP hD hS (lv_sub hl [1, 2, 3, 4, 0] rfl)
      · have hf := hf_f hf hc16
        refine lv_aload_n hx hb d_Model_mixture_74 rfl (lv_at hl 0 rfl) ?_
        refine lv_iload hx hb d_Model_mixture_75 (lv_at hl 4 rfl) ?_
        refine lv_iload hx hb d_Model_mixture_77 (lv_at hl 5 rfl) ?_
        obtain ⟨u17, hu17, hf⟩ := Option.bind_eq_some_iff.mp hf
        refine cl_i (wc := (uw_Model ad_md cA_md md)) (wr := []) (tysC := [(cA_md 1, .int), (cA_md 2, .int), (cA_md 3, .int), (cA_md 4, .int), (cA_md 5, .int), (cA_md 6, .int), (cA_md 7, .int), (cA_md 8, .int), (cA_md 9, .boolean), (cA_md 10, .int), (cA_md 11, .int), (cA_md 12, .int), (cA_md 13, .int)]) (wu := fun (u : Unit) => (uw_Model ad_md cA_md md)) (wn := fun (u : Unit) => (uw_Model ad_md cA_md md)) [0, 1, 2, 3, 4, 5, 6, 7, 8, 9, 10, 11, 12, 13] [] [0, 1, 2, 3, 4, 5, 6, 7, 8, 9, 10, 11, 12, 13] [0, 1, 2, 3, 4, 5, 6, 7, 8, 9, 10, 11, 12] hP hD hS hA hK rfl rfl (by decide +kernel) (by decide +kernel) (by decide +kernel) rfl (fun _ => rfl) (by decide +kernel) (fun hPc hKc hDc => (va_runV (As := [.int y4, .int y5]) (rest := []) ⟨hx, hb, hml, hown, hts⟩ (k_Model_contradict l dC dI ad_md cA_md H.size md y4 y5 u17 hu17) (cwV 2 hts (gV wd_946 wd_948 wd_38 wd_49 wd_949) rfl rfl rfl (by decide +kernel) ⟨Nat.le_of_ble_eq_true rfl, Nat.le_of_ble_eq_true rfl⟩) (cl_preV hPc hKc hDc hN (ci := 6) 0 rfl rfl) rfl rfl hl.1 rfl (lv_room (Nat.le_of_ble_eq_true rfl)) d_Model_mixture_79 ⟨Nat.le_of_ble_eq_true rfl, Nat.le_of_ble_eq_true rfl⟩)) (fun r u H locs hw hP hD hS => ?_)
        have hw := hw.symm
        subst hw
        have hP : va_P (dC, dI) vwCl (uw_Model ad_md cA_md md) H := hP
        have hD : va_D A (uw_Model ad_md cA_md md) := hD
        refine lv_if_eq (tgt := 88) hx hb d_Model_mixture_82 (by decide) (fun hc18 => ?_) (fun hc18 => ?_)
        · have hf := hf_t hf hc18
          refine lv_iinc (v := y5 + (1 : Int32)) (lv' := [(5, .int (y5 + (1 : Int32))), (0, .ref (ad_md 0)), (1, .int y1), (2, .int y2), (3, .int y3), (4, .int y4)]) hx hb d_Model_mixture_88 hl (k := 5) rfl rfl (by decide) rfl (fun ls hl => ?_)
          refine lv_goto (tgt := 67) hx hb d_Model_mixture_91 (by decide) ?_
          exact ih md y1 y2 y3 y4 (y5 + (1 : Int32)) H locs ls hf hP hD hS (lv_sub hl [1, 2, 3, 4, 5, 0] rfl)
        · have hf := hf_f hf hc18
          refine lv_iinc (v := y3 + (1 : Int32)) (lv' := [(3, .int (y3 + (1 : Int32))), (0, .ref (ad_md 0)), (1, .int y1), (2, .int y2), (4, .int y4), (5, .int y5)]) hx hb d_Model_mixture_85 hl (k := 3) rfl rfl (by decide) rfl (fun ls hl => ?_)
          refine lv_iinc (v := y5 + (1 : Int32)) (lv' := [(5, .int (y5 + (1 : Int32))), (3, .int (y3 + (1 : Int32))), (0, .ref (ad_md 0)), (1, .int y1), (2, .int y2), (4, .int y4)]) hx hb d_Model_mixture_88 hl (k := 5) rfl rfl (by decide) rfl (fun ls hl => ?_)
          refine lv_goto (tgt := 67) hx hb d_Model_mixture_91 (by decide) ?_
          exact ih md y1 y2 (y3 + (1 : Int32)) y4 (y5 + (1 : Int32)) H locs ls hf hP hD hS (lv_sub hl [2, 3, 4, 1, 5, 0] rfl)
  have w_35 : ∀ (n : Nat) (md : SModel) (y1 : Int32) (y2 : Int32) (y3 : Int32) (y4 : Int32) (H : Heap) (locs : List Loc) (ls : Array Slot), f_Model_mixture_35 n md y1 y2 y3 y4 = some res → va_P (dC, dI) vwCl (uw_Model ad_md cA_md md) H → va_D A (uw_Model ad_md cA_md md) → va_S A s.heap H locs → lv_has ls 6 [(0, .ref (ad_md 0)), (1, .int y1), (2, .int y2), (3, .int y3), (4, .int y4)] → W p l e (headSpec w_Model_mixture ({ frames := 1, cells := 0, slots := 0, locals := 24 })).room s m ([.ref (ad_md 0), .int x1] : List Value).toArray below meth c H locs 0 0 Q (F0 m 35 ls []) := by
    intro n
    induction n with
    | zero =>
      intro md y1 y2 y3 y4 H locs ls hf hP hD hS hl
      rw [f_Model_mixture_35] at hf; cases hf
    | succ n ih =>
      intro md y1 y2 y3 y4 H locs ls hf hP hD hS hl
      rw [f_Model_mixture_35] at hf
      refine lv_iload hx hb d_Model_mixture_35 (lv_at hl 4 rfl) ?_
      refine lv_aload_n hx hb d_Model_mixture_37 rfl (lv_at hl 0 rfl) ?_
      refine va_get (D := (dC, dI)) (ci := 6) (v := .int md.2.2.2.2.1.1) (C := "HazardTablesModel") (T := F_Model) (N := 30) hx hb hts hin_Model hown hK hP 0 rfl rfl 12 (by decide) fl_157 (fun _ h9 => h9) rfl d_Model_mixture_38 ?_
      refine lv_icmp_ge (tgt := 100) hx hb d_Model_mixture_41 (by decide) (fun hc5 => ?_) (fun hc5 => ?_)
      · have hf := hf_t hf hc5
        refine lv_iload_n hx hb d_Model_mixture_100 rfl (lv_at hl 1 rfl) ?_
        refine lv_if_ne (tgt := 111) hx hb d_Model_mixture_101 (by decide) (fun hc6 => ?_) (fun hc6 => ?_)
        · have hf := hf_f hf hc6
          refine lv_iload_n hx hb d_Model_mixture_111 rfl (lv_at hl 1 rfl) ?_
          refine lv_iconst (v := (1 : Int32)) hx hb d_Model_mixture_112 (by decide) ?_
          refine lv_icmp_ne (tgt := 120) hx hb d_Model_mixture_113 (by decide) (fun hc7 => ?_) (fun hc7 => ?_)
          · have hf := hf_f hf hc7
            refine lv_iload_n hx hb d_Model_mixture_120 rfl (lv_at hl 1 rfl) ?_
            refine lv_iconst (v := (4 : Int32)) hx hb d_Model_mixture_121 (by decide) ?_
            refine lv_icmp_ge (tgt := 142) hx hb d_Model_mixture_122 (by decide) (fun hc8 => ?_) (fun hc8 => ?_)
            · have hf := hf_t hf hc8
              refine lv_iload_n hx hb d_Model_mixture_142 rfl (lv_at hl 1 rfl) ?_
              refine lv_iconst (v := (4 : Int32)) hx hb d_Model_mixture_143 (by decide) ?_
              refine lv_icmp_ne (tgt := 154) hx hb d_Model_mixture_144 (by decide) (fun hc9 => ?_) (fun hc9 => ?_)
              · have hf := hf_f hf hc9
                refine lv_iload_n hx hb d_Model_mixture_154 rfl (lv_at hl 3 rfl) ?_
                exact ret y3 md H locs ls 155 d_Model_mixture_155 (hf_e hf) hP hD hS
              · have hf := hf_t hf hc9
                refine lv_aload_n hx hb d_Model_mixture_147 rfl (lv_at hl 0 rfl) ?_
                refine va_get (D := (dC, dI)) (ci := 6) (v := .int md.2.2.2.2.1.1) (C := "HazardTablesModel") (T := F_Model) (N := 30) hx hb hts hin_Model hown hK hP 0 rfl rfl 12 (by decide) fl_157 (fun _ h9 => h9) rfl d_Model_mixture_148 ?_
                refine lv_goto (tgt := 155) hx hb d_Model_mixture_151 (by decide) ?_
                exact ret md.2.2.2.2.1.1 md H locs ls 155 d_Model_mixture_155 (hf_e hf) hP hD hS
            · have hf := hf_f hf hc8
              refine lv_aload_n hx hb d_Model_mixture_125 rfl (lv_at hl 0 rfl) ?_
              refine lv_iload_n hx hb d_Model_mixture_126 rfl (lv_at hl 1 rfl) ?_
              refine lv_iconst (v := (2 : Int32)) hx hb d_Model_mixture_127 (by decide) ?_
              refine lv_icmp_ne (tgt := 135) hx hb d_Model_mixture_128 (by decide) (fun hc10 => ?_) (fun hc10 => ?_)
              · have hf := hf_f hf hc10
                refine lv_iconst (v := (0 : Int32)) hx hb d_Model_mixture_135 (by decide) ?_
                obtain ⟨u11, hu11, hf⟩ := Option.bind_eq_some_iff.mp hf
                refine cl_i (wc := (uw_Model ad_md cA_md md)) (wr := []) (tysC := [(cA_md 1, .int), (cA_md 2, .int), (cA_md 3, .int), (cA_md 4, .int), (cA_md 5, .int), (cA_md 6, .int), (cA_md 7, .int), (cA_md 8, .int), (cA_md 9, .boolean), (cA_md 10, .int), (cA_md 11, .int), (cA_md 12, .int), (cA_md 13, .int)]) (wu := fun (u : Unit) => (uw_Model ad_md cA_md md)) (wn := fun (u : Unit) => (uw_Model ad_md cA_md md)) [0, 1, 2, 3, 4, 5, 6, 7, 8, 9, 10, 11, 12, 13] [] [0, 1, 2, 3, 4, 5, 6, 7, 8, 9, 10, 11, 12, 13] [0, 1, 2, 3, 4, 5, 6, 7, 8, 9, 10, 11, 12] hP hD hS hA hK rfl rfl (by decide +kernel) (by decide +kernel) (by decide +kernel) rfl (fun _ => rfl) (by decide +kernel) (fun hPc hKc hDc => (va_runV (As := [.int (0 : Int32)]) (rest := []) ⟨hx, hb, hml, hown, hts⟩ (k_Model_distance l dC dI ad_md cA_md H.size md false u11 hu11) (cwV 1 hts (gV wd_959 wd_961 wd_40 wd_49 wd_962) rfl rfl rfl (by decide +kernel) ⟨Nat.le_of_ble_eq_true rfl, Nat.le_of_ble_eq_true rfl⟩) (cl_preV hPc hKc hDc hN (ci := 6) 0 rfl rfl) rfl rfl hl.1 rfl (lv_room (Nat.le_of_ble_eq_true rfl)) d_Model_mixture_136 ⟨Nat.le_of_ble_eq_true rfl, Nat.le_of_ble_eq_true rfl⟩)) (fun r u H locs hw hP hD hS => ?_)
                have hw := hw.symm
                subst hw
                have hP : va_P (dC, dI) vwCl (uw_Model ad_md cA_md md) H := hP
                have hD : va_D A (uw_Model ad_md cA_md md) := hD
                refine lv_goto (tgt := 155) hx hb d_Model_mixture_139 (by decide) ?_
                exact ret u11 md H locs ls 155 d_Model_mixture_155 (hf_e hf) hP hD hS
              · have hf := hf_t hf hc10
                refine lv_iconst (v := (1 : Int32)) hx hb d_Model_mixture_131 (by decide) ?_
                refine lv_goto (tgt := 136) hx hb d_Model_mixture_132 (by decide) ?_
                obtain ⟨u12, hu12, hf⟩ := Option.bind_eq_some_iff.mp hf
                refine cl_i (wc := (uw_Model ad_md cA_md md)) (wr := []) (tysC := [(cA_md 1, .int), (cA_md 2, .int), (cA_md 3, .int), (cA_md 4, .int), (cA_md 5, .int), (cA_md 6, .int), (cA_md 7, .int), (cA_md 8, .int), (cA_md 9, .boolean), (cA_md 10, .int), (cA_md 11, .int), (cA_md 12, .int), (cA_md 13, .int)]) (wu := fun (u : Unit) => (uw_Model ad_md cA_md md)) (wn := fun (u : Unit) => (uw_Model ad_md cA_md md)) [0, 1, 2, 3, 4, 5, 6, 7, 8, 9, 10, 11, 12, 13] [] [0, 1, 2, 3, 4, 5, 6, 7, 8, 9, 10, 11, 12, 13] [0, 1, 2, 3, 4, 5, 6, 7, 8, 9, 10, 11, 12] hP hD hS hA hK rfl rfl (by decide +kernel) (by decide +kernel) (by decide +kernel) rfl (fun _ => rfl) (by decide +kernel) (fun hPc hKc hDc => (va_runV (As := [.int (1 : Int32)]) (rest := []) ⟨hx, hb, hml, hown, hts⟩ (k_Model_distance l dC dI ad_md cA_md H.size md true u12 hu12) (cwV 1 hts (gV wd_959 wd_961 wd_40 wd_49 wd_962) rfl rfl rfl (by decide +kernel) ⟨Nat.le_of_ble_eq_true rfl, Nat.le_of_ble_eq_true rfl⟩) (cl_preV hPc hKc hDc hN (ci := 6) 0 rfl rfl) rfl rfl hl.1 rfl (lv_room (Nat.le_of_ble_eq_true rfl)) d_Model_mixture_136 ⟨Nat.le_of_ble_eq_true rfl, Nat.le_of_ble_eq_true rfl⟩)) (fun r u H locs hw hP hD hS => ?_)
                have hw := hw.symm
                subst hw
                have hP : va_P (dC, dI) vwCl (uw_Model ad_md cA_md md) H := hP
                have hD : va_D A (uw_Model ad_md cA_md md) := hD
                refine lv_goto (tgt := 155) hx hb d_Model_mixture_139 (by decide) ?_
                exact ret u12 md H locs ls 155 d_Model_mixture_155 (hf_e hf) hP hD hS
          · have hf := hf_t hf hc7
            refine lv_iload_n hx hb d_Model_mixture_116 rfl (lv_at hl 2 rfl) ?_
            refine lv_goto (tgt := 155) hx hb d_Model_mixture_117 (by decide) ?_
            exact ret y2 md H locs ls 155 d_Model_mixture_155 (hf_e hf) hP hD hS
        · have hf := hf_t hf hc6
          refine lv_aload_n hx hb d_Model_mixture_104 rfl (lv_at hl 0 rfl) ?_
          obtain ⟨u13, hu13, hf⟩ := Option.bind_eq_some_iff.mp hf
          refine cl_i (wc := (uw_Model ad_md cA_md md)) (wr := []) (tysC := [(cA_md 1, .int), (cA_md 2, .int), (cA_md 3, .int), (cA_md 4, .int), (cA_md 5, .int), (cA_md 6, .int), (cA_md 7, .int), (cA_md 8, .int), (cA_md 9, .boolean), (cA_md 10, .int), (cA_md 11, .int), (cA_md 12, .int), (cA_md 13, .int)]) (wu := fun (u : Unit) => (uw_Model ad_md cA_md md)) (wn := fun (u : Unit) => (uw_Model ad_md cA_md md)) [0, 1, 2, 3, 4, 5, 6, 7, 8, 9, 10, 11, 12, 13] [] [0, 1, 2, 3, 4, 5, 6, 7, 8, 9, 10, 11, 12, 13] [0, 1, 2, 3, 4, 5, 6, 7, 8, 9, 10, 11, 12] hP hD hS hA hK rfl rfl (by decide +kernel) (by decide +kernel) (by decide +kernel) rfl (fun _ => rfl) (by decide +kernel) (fun hPc hKc hDc => (va_runV (As := []) (rest := []) ⟨hx, hb, hml, hown, hts⟩ (k_Model_strictness l dC dI ad_md cA_md H.size md u13 hu13) (cwV 0 hts (gV wd_955 wd_957 wd_39 wd_49 wd_958) rfl rfl rfl (by decide +kernel) ⟨Nat.le_of_ble_eq_true rfl, Nat.le_of_ble_eq_true rfl⟩) (cl_preV hPc hKc hDc hN (ci := 6) 0 rfl rfl) rfl rfl hl.1 rfl (lv_room (Nat.le_of_ble_eq_true rfl)) d_Model_mixture_105 ⟨Nat.le_of_ble_eq_true rfl, Nat.le_of_ble_eq_true rfl⟩)) (fun r u H locs hw hP hD hS => ?_)
          have hw := hw.symm
          subst hw
          have hP : va_P (dC, dI) vwCl (uw_Model ad_md cA_md md) H := hP
          have hD : va_D A (uw_Model ad_md cA_md md) := hD
          refine lv_goto (tgt := 155) hx hb d_Model_mixture_108 (by decide) ?_
          exact ret u13 md H locs ls 155 d_Model_mixture_155 (hf_e hf) hP hD hS
      · have hf := hf_f hf hc5
        refine lv_iload_n hx hb d_Model_mixture_44 rfl (lv_at hl 2 rfl) ?_
        refine lv_aload_n hx hb d_Model_mixture_45 rfl (lv_at hl 0 rfl) ?_
        refine va_get (D := (dC, dI)) (ci := 6) (v := .ref (ad_md 2)) (C := "HazardTablesModel") (T := F_Model) (N := 30) hx hb hts hin_Model hown hK hP 0 rfl rfl 6 (by decide) fl_17 (fun _ h9 => h9) rfl d_Model_mixture_46 ?_
        refine lv_aload_n hx hb d_Model_mixture_49 rfl (lv_at hl 0 rfl) ?_
        refine va_get (D := (dC, dI)) (ci := 6) (v := .ref (ad_md 6)) (C := "HazardTablesModel") (T := F_Model) (N := 30) hx hb hts hin_Model hown hK hP 0 rfl rfl 15 (by decide) fl_29 (fun _ h9 => h9) rfl d_Model_mixture_50 ?_
        refine lv_iload hx hb d_Model_mixture_53 (lv_at hl 4 rfl) ?_
        obtain ⟨hi14, hf⟩ := hf_g hf
        refine va_iald hx hb hK hP 6 5 rfl rfl hi14 d_Model_mixture_55 ?_
        refine lv_bipush (v := (43 : Int32)) hx hb d_Model_mixture_56 (by decide) ?_
        refine lv_imul hx hb d_Model_mixture_58 ?_
        refine lv_iconst (v := (3 : Int32)) hx hb d_Model_mixture_59 (by decide) ?_
        refine lv_iadd hx hb d_Model_mixture_60 ?_
        obtain ⟨hi15, hf⟩ := hf_g hf
        refine va_iald hx hb hK hP 2 1 rfl rfl hi15 d_Model_mixture_61 ?_
        refine lv_ior hx hb d_Model_mixture_62 ?_
        refine lv_istore_n (lv' := [(2, .int (y2 ||| (md.2.2.2.1.2.2 (((md.2.2.2.2.1.2.2.2.1 y4.toNatClampNeg) * (43 : Int32)) + (3 : Int32)).toNatClampNeg))), (0, .ref (ad_md 0)), (1, .int y1), (3, .int y3), (4, .int y4)]) hx hb d_Model_mixture_63 rfl hl (by decide) rfl (fun ls hl => ?_)
        refine lv_iconst (v := (0 : Int32)) hx hb d_Model_mixture_64 (by decide) ?_
        refine lv_istore (lv' := [(5, .int (0 : Int32)), (2, .int (y2 ||| (md.2.2.2.1.2.2 (((md.2.2.2.2.1.2.2.2.1 y4.toNatClampNeg) * (43 : Int32)) + (3 : Int32)).toNatClampNeg))), (0, .ref (ad_md 0)), (1, .int y1), (3, .int y3), (4, .int y4)]) hx hb d_Model_mixture_65 hl (by decide) rfl (fun ls hl => ?_)
        exact w_67 (f_Model_mixture_35 n) ih 4096 md y1 (y2 ||| (md.2.2.2.1.2.2 (((md.2.2.2.2.1.2.2.2.1 y4.toNatClampNeg) * (43 : Int32)) + (3 : Int32)).toNatClampNeg)) y3 y4 (0 : Int32) H locs ls hf hP hD hS (lv_sub hl [2, 3, 1, 4, 5, 0] rfl)
  have w_19 : ∀ (md : SModel) (y1 : Int32) (z1 : Bool) (z2 : Bool) (H : Heap) (locs : List Loc) (ls : Array Slot), f_Model_mixture_19 md y1 z1 z2 = some res → va_P (dC, dI) vwCl (uw_Model ad_md cA_md md) H → va_D A (uw_Model ad_md cA_md md) → va_S A s.heap H locs → lv_has ls 6 [(0, .ref (ad_md 0)), (1, .int y1)] → W p l e (headSpec w_Model_mixture ({ frames := 1, cells := 0, slots := 0, locals := 24 })).room s m ([.ref (ad_md 0), .int x1] : List Value).toArray below meth c H locs 0 0 Q (F0 m 19 ls [.int (bI z2), .int (bI z1), .ref (ad_md 0)]) := by
    intro md y1 z1 z2 H locs ls hf hP hD hS hl
    rw [f_Model_mixture_19] at hf
    refine lv_iconst (v := (1 : Int32)) hx hb d_Model_mixture_19 (by decide) ?_
    obtain ⟨u3, hu3, hf⟩ := Option.bind_eq_some_iff.mp hf
    refine cl_i (wc := (uw_Model ad_md cA_md md)) (wr := []) (tysC := [(cA_md 1, .int), (cA_md 2, .int), (cA_md 3, .int), (cA_md 4, .int), (cA_md 5, .int), (cA_md 6, .int), (cA_md 7, .int), (cA_md 8, .int), (cA_md 9, .boolean), (cA_md 10, .int), (cA_md 11, .int), (cA_md 12, .int), (cA_md 13, .int)]) (wu := fun (u : SModel) => (uw_Model ad_md cA_md u)) (wn := fun (u : SModel) => (uw_Model ad_md cA_md u)) [0, 1, 2, 3, 4, 5, 6, 7, 8, 9, 10, 11, 12, 13] [] [0, 1, 2, 3, 4, 5, 6, 7, 8, 9, 10, 11, 12, 13] [0, 1, 2, 3, 4, 5, 6, 7, 8, 9, 10, 11, 12] hP hD hS hA hK rfl rfl (by decide +kernel) (by decide +kernel) (by decide +kernel) rfl (fun _ => rfl) (by decide +kernel) (fun hPc hKc hDc => (va_runV (As := [.int (bI z1), .int (bI z2), .int (1 : Int32)]) (rest := []) ⟨hx, hb, hml, hown, hts⟩ (k_Model_goes l dC dI ad_md cA_md H.size md z1 z2 true u3 hu3) (cwV 3 hts (gV wd_850 wd_852 wd_22 wd_49 wd_853) rfl rfl rfl (by decide +kernel) ⟨Nat.le_of_ble_eq_true rfl, Nat.le_of_ble_eq_true rfl⟩) (cl_preV hPc hKc hDc hN (ci := 6) 0 rfl rfl) rfl rfl hl.1 rfl (lv_room (Nat.le_of_ble_eq_true rfl)) d_Model_mixture_20 ⟨Nat.le_of_ble_eq_true rfl, Nat.le_of_ble_eq_true rfl⟩)) (fun r u H locs hw hP hD hS => ?_)
    obtain ⟨hw1, hw2⟩ := hw
    have hw1 := hw1.symm
    have hw2 := hw2.symm
    subst hw1
    subst hw2
    have hP : va_P (dC, dI) vwCl (uw_Model ad_md cA_md u3.2) H := hP
    have hD : va_D A (uw_Model ad_md cA_md u3.2) := hD
    refine lv_if_ne (tgt := 28) hx hb d_Model_mixture_23 (by decide) (fun hc4 => ?_) (fun hc4 => ?_)
    · have hf := hf_f hf hc4
      refine lv_iconst (v := (0 : Int32)) hx hb d_Model_mixture_28 (by decide) ?_
      refine lv_istore_n (lv' := [(2, .int (0 : Int32)), (0, .ref (ad_md 0)), (1, .int y1)]) hx hb d_Model_mixture_29 rfl hl (by decide) rfl (fun ls hl => ?_)
      refine lv_iconst (v := (0 : Int32)) hx hb d_Model_mixture_30 (by decide) ?_
      refine lv_istore_n (lv' := [(3, .int (0 : Int32)), (2, .int (0 : Int32)), (0, .ref (ad_md 0)), (1, .int y1)]) hx hb d_Model_mixture_31 rfl hl (by decide) rfl (fun ls hl => ?_)
      refine lv_iconst (v := (0 : Int32)) hx hb d_Model_mixture_32 (by decide) ?_
      refine lv_istore (lv' := [(4, .int (0 : Int32)), (3, .int (0 : Int32)), (2, .int (0 : Int32)), (0, .ref (ad_md 0)), (1, .int y1)]) hx hb d_Model_mixture_33 hl (by decide) rfl (fun ls hl => ?_)
      exact w_35 4096 u3.2 y1 (0 : Int32) (0 : Int32) (0 : Int32) H locs ls hf hP hD hS (lv_sub hl [3, 4, 2, 1, 0] rfl)
    · have hf := hf_t hf hc4
      refine lv_iconst (v := (0 : Int32)) hx hb d_Model_mixture_26 (by decide) ?_
      exact ret (0 : Int32) u3.2 H locs ls 27 d_Model_mixture_27 (hf_e hf) hP hD hS
  have hl := lv_entry ([.ref (ad_md 0), .int x1]) (n := 6) (Nat.le_of_ble_eq_true rfl)
  rw [lg_entry_eq]
  generalize (lg_sl ([.ref (ad_md 0), .int x1]) ++ List.replicate (6 - (lg_sl ([.ref (ad_md 0), .int x1])).length) Slot.unset).toArray = ls at hl ⊢
  have hl : lv_has ls 6 [(0, .ref (ad_md 0)), (1, .int x1)] := hl
  have hf := hf
  rw [f_Model_mixture] at hf
  obtain ⟨H, hH⟩ : ∃ H : Heap, H = s.heap := ⟨_, rfl⟩
  obtain ⟨locs, hlocs⟩ : ∃ L : List Loc, L = [] := ⟨_, rfl⟩
  have hP : va_P (dC, dI) vwCl (uw_Model ad_md cA_md md) H := by rw [hH]; exact hP
  have hS : va_S A s.heap H locs := by rw [hH, hlocs]; exact hS
  show W p l e (headSpec w_Model_mixture ({ frames := 1, cells := 0, slots := 0, locals := 24 })).room s m ([.ref (ad_md 0), .int x1] : List Value).toArray below meth c s.heap [] 0 0 Q (F0 m 0 ls [])
  suffices hgo : W p l e (headSpec w_Model_mixture ({ frames := 1, cells := 0, slots := 0, locals := 24 })).room s m ([.ref (ad_md 0), .int x1] : List Value).toArray below meth c H locs 0 0 Q (F0 m 0 ls []) by rw [hH, hlocs] at hgo; exact hgo
  clear hH hlocs
  refine lv_aload_n hx hb d_Model_mixture_0 rfl (lv_at hl 0 rfl) ?_
  refine lv_iload_n hx hb d_Model_mixture_1 rfl (lv_at hl 1 rfl) ?_
  refine lv_iconst (v := (0 : Int32)) hx hb d_Model_mixture_2 (by decide) ?_
  refine lv_iconst (v := (5 : Int32)) hx hb d_Model_mixture_3 (by decide) ?_
  obtain ⟨u1, hu1, hf⟩ := Option.bind_eq_some_iff.mp hf
  refine cl_i (wc := []) (wr := (uw_Model ad_md cA_md md)) (tysC := []) (wu := fun (u : Unit) => []) (wn := fun (u : Unit) => (uw_Model ad_md cA_md md)) [] [0, 1, 2, 3, 4, 5, 6, 7, 8, 9, 10, 11, 12, 13] [0, 1, 2, 3, 4, 5, 6, 7, 8, 9, 10, 11, 12, 13] [] hP hD hS hA hK rfl rfl (by decide +kernel) (by decide +kernel) (by decide +kernel) rfl (fun _ => rfl) (by decide +kernel) (fun hPc hKc hDc => (va_runS (As := [.int x1, .int (0 : Int32), .int (5 : Int32)]) (rest := [.ref (ad_md 0)]) ⟨hx, hb, hml, hown, hts⟩ (k_Model_within l dC dI  H.size x1 (0 : Int32) (5 : Int32) u1 hu1) (cwS 3 hts (gS wd_847 wd_848 wd_49 wd_849) rfl rfl rfl (by decide +kernel) ⟨Nat.le_of_ble_eq_true rfl, Nat.le_of_ble_eq_true rfl⟩) (cl_preS hPc hKc hDc hN) rfl rfl hl.1 rfl (lv_room (Nat.le_of_ble_eq_true rfl)) d_Model_mixture_4 ⟨Nat.le_of_ble_eq_true rfl, Nat.le_of_ble_eq_true rfl⟩)) (fun r u H locs hw hP hD hS => ?_)
  have hw := hw.symm
  subst hw
  have hP : va_P (dC, dI) vwCl (uw_Model ad_md cA_md md) H := hP
  have hD : va_D A (uw_Model ad_md cA_md md) := hD
  refine lv_aload_n hx hb d_Model_mixture_7 rfl (lv_at hl 0 rfl) ?_
  refine va_get (D := (dC, dI)) (ci := 6) (v := .int md.2.2.2.2.1.1) (C := "HazardTablesModel") (T := F_Model) (N := 30) hx hb hts hin_Model hown hK hP 0 rfl rfl 12 (by decide) fl_157 (fun _ h9 => h9) rfl d_Model_mixture_8 ?_
  refine lv_if_le (tgt := 18) hx hb d_Model_mixture_11 (by decide) (fun hc2 => ?_) (fun hc2 => ?_)
  · have hf := hf_t hf hc2
    refine lv_iconst (v := (0 : Int32)) hx hb d_Model_mixture_18 (by decide) ?_
    exact w_19 md x1 u1 false H locs ls hf hP hD hS (lv_sub hl [0, 1] rfl)
  · have hf := hf_f hf hc2
    refine lv_iconst (v := (1 : Int32)) hx hb d_Model_mixture_14 (by decide) ?_
    refine lv_goto (tgt := 19) hx hb d_Model_mixture_15 (by decide) ?_
    exact w_19 md x1 u1 true H locs ls hf hP hD hS (lv_sub hl [0, 1] rfl)
noncomputable def f_Model_strict_24  : Nat → SModel → Int32 → Int32 → Option (Int32 × SModel)
  | 0, _, _, _ => none
  | n + 1, md, y2, y3 =>
    (if md.2.2.2.2.1.1 ≤ y3 then
      (some ((-1 : Int32), md))
     else
      (if inb y3 8 then
        (if inb (((md.2.2.2.2.1.2.2.2.1 y3.toNatClampNeg) * (43 : Int32)) + (2 : Int32)) 559 then
          (Option.bind (f_Model_strictness md) fun u7 =>
            (if (md.2.2.2.1.2.2 (((md.2.2.2.2.1.2.2.2.1 y3.toNatClampNeg) * (43 : Int32)) + (2 : Int32)).toNatClampNeg) = u7 then
              (if y2 = 0 then
                (if inb y3 8 then
                  (some (md.2.2.2.2.1.2.1 y3.toNatClampNeg, md))
                 else none)
               else
                (f_Model_strict_24 n md (y2 + (-1 : Int32)) (y3 + (1 : Int32)))
               )
             else
              (f_Model_strict_24 n md y2 (y3 + (1 : Int32)))
             )
           )
         else none)
       else none)
     )
noncomputable def f_Model_strict_10  (md : SModel) (y1 : Int32) (z1 : Bool) : Option (Int32 × SModel) :=
  (Option.bind (f_Model_goes md z1 true true) fun u2 =>
    (if (bI u2.1) = 0 then
      (some ((0 : Int32), u2.2))
     else
      (f_Model_strict_24 4096 u2.2 y1 (0 : Int32))
     )
   )
noncomputable def f_Model_strict (md : SModel) (x1 : Int32) : Option (Int32 × SModel) :=
  (if x1 < 0 then
    (f_Model_strict_10 md x1 false)
   else
    (f_Model_strict_10 md x1 true)
   )
set_option maxHeartbeats 4000000 in
set_option maxRecDepth 100000 in
theorem k_Model_strict (l : Launch) (dC : Nat → ClassId) (dI : Nat → Nat → Nat) (ad_md : Nat → Nat) (cA_md : Nat → ClassId) (sz : Nat) (md : SModel) (x1 : Int32) (res : Int32 × SModel) (hf : f_Model_strict md x1 = some res) : Met l y_Model_strict w_Model_strict ({ frames := 1, cells := 0, slots := 0, locals := 23 }) (cPc (dC, dI) (uw_Model ad_md cA_md md) [(cA_md 1, .int), (cA_md 2, .int), (cA_md 3, .int), (cA_md 4, .int), (cA_md 5, .int), (cA_md 6, .int), (cA_md 7, .int), (cA_md 8, .int), (cA_md 9, .boolean), (cA_md 10, .int), (cA_md 11, .int), (cA_md 12, .int), (cA_md 13, .int)] sz [.ref (ad_md 0), .int x1]) (va_Qi (fun (r : Int32) (u : SModel) => r = res.1 ∧ u = res.2) (fun (u : SModel) (t : State) => va_P (dC, dI) vwCl (uw_Model ad_md cA_md u) t.heap ∧ va_K (dC, dI) vwCl [(cA_md 1, .int), (cA_md 2, .int), (cA_md 3, .int), (cA_md 4, .int), (cA_md 5, .int), (cA_md 6, .int), (cA_md 7, .int), (cA_md 8, .int), (cA_md 9, .boolean), (cA_md 10, .int), (cA_md 11, .int), (cA_md 12, .int), (cA_md 13, .int)] t ∧ va_D (va_A (uw_Model ad_md cA_md md) sz) (uw_Model ad_md cA_md u)) (va_A (uw_Model ad_md cA_md md) sz)) 0 0 (va_A (uw_Model ad_md cA_md md) sz) := by
  refine Met.ofW (cc := b_Model_strict) (maxL := 4) (ret := (some .int)) (by decide) rfl ?_
  intro p e s m args below meth c s₁ B hml hv
  obtain ⟨rfl, hsz, hP, hK, hD0, hN⟩ := hv
  have hx := B.exec
  have hb := B.bytes
  have hr := B.returns
  have hts := atoms_spec (ws := w_Model_strict) B.pre
  have hown : s.vm.findClass "HazardTablesModel" = some m.cls := findClass_of_methodNamed B.named
  have hlocks := B.notSynchronized
  subst hsz
  have hD := hD0.self (sz := s.heap.size)
  generalize hAe : va_A (uw_Model ad_md cA_md md) s.heap.size = A at hD ⊢
  have hA : ∀ q : Nat, s.heap.size ≤ q → A q := fun q h => by rw [← hAe]; exact Or.inr h
  have hS : va_S A s.heap s.heap [] := va_S.rf
  have hP : va_P (dC, dI) vwCl (uw_Model ad_md cA_md md) s.heap := hP
  have fl_157 := (hts _ (List.mem_cons_of_mem _ wd_760))
  have fl_17 := (hts _ (List.mem_cons_of_mem _ wd_754))
  have fl_23 := (hts _ (List.mem_cons_of_mem _ wd_761))
  have fl_29 := (hts _ (List.mem_cons_of_mem _ wd_763))
  have hin_Model : ∀ w ∈ u_ws "HazardTablesModel" F_Model 30, w ∈ w_Model_strict := fun w h => List.mem_cons_of_mem _ (hinA_Model w h)
  have ret : ∀ (v : Int32) (u : SModel) (H : Heap) (locs : List Loc) (ls : Array Slot) (pc : Nat), decode b_Model_strict pc = .ok (.ireturn, 1) → (v = res.1 ∧ u = res.2) → va_P (dC, dI) vwCl (uw_Model ad_md cA_md u) H → va_D A (uw_Model ad_md cA_md u) → va_S A s.heap H locs → W p l e (headSpec w_Model_strict ({ frames := 1, cells := 0, slots := 0, locals := 23 })).room s m ([.ref (ad_md 0), .int x1] : List Value).toArray below meth c H locs 0 0 (MQ below (va_Qi (fun (r : Int32) (u : SModel) => r = res.1 ∧ u = res.2) (fun (u : SModel) (t : State) => va_P (dC, dI) vwCl (uw_Model ad_md cA_md u) t.heap ∧ va_K (dC, dI) vwCl [(cA_md 1, .int), (cA_md 2, .int), (cA_md 3, .int), (cA_md 4, .int), (cA_md 5, .int), (cA_md 6, .int), (cA_md 7, .int), (cA_md 8, .int), (cA_md 9, .boolean), (cA_md 10, .int), (cA_md 11, .int), (cA_md 12, .int), (cA_md 13, .int)] t ∧ va_D A (uw_Model ad_md cA_md u)) A) ([.ref (ad_md 0), .int x1] : List Value).toArray s 0 0 A) (F0 m pc ls [.int v]) := fun v u H locs ls pc hd hp hP hD hS => W.iret (v := v) hx hb hr (fun t ht hW => ⟨⟨v, u, rfl, hp, by rw [ht]; exact hP, va_K.moved hW.alike hK, hD⟩, hS.F ht⟩) hS.2.2 hd
  generalize (MQ below (va_Qi (fun (r : Int32) (u : SModel) => r = res.1 ∧ u = res.2) (fun (u : SModel) (t : State) => va_P (dC, dI) vwCl (uw_Model ad_md cA_md u) t.heap ∧ va_K (dC, dI) vwCl [(cA_md 1, .int), (cA_md 2, .int), (cA_md 3, .int), (cA_md 4, .int), (cA_md 5, .int), (cA_md 6, .int), (cA_md 7, .int), (cA_md 8, .int), (cA_md 9, .boolean), (cA_md 10, .int), (cA_md 11, .int), (cA_md 12, .int), (cA_md 13, .int)] t ∧ va_D A (uw_Model ad_md cA_md u)) A) ([.ref (ad_md 0), .int x1] : List Value).toArray s 0 0 A) = Q at ret ⊢
  have w_24 : ∀ (n : Nat) (md : SModel) (y2 : Int32) (y3 : Int32) (H : Heap) (locs : List Loc) (ls : Array Slot), f_Model_strict_24 n md y2 y3 = some res → va_P (dC, dI) vwCl (uw_Model ad_md cA_md md) H → va_D A (uw_Model ad_md cA_md md) → va_S A s.heap H locs → lv_has ls 4 [(0, .ref (ad_md 0)), (2, .int y2), (3, .int y3)] → W p l e (headSpec w_Model_strict ({ frames := 1, cells := 0, slots := 0, locals := 23 })).room s m ([.ref (ad_md 0), .int x1] : List Value).toArray below meth c H locs 0 0 Q (F0 m 24 ls []) := by
    intro n
    induction n with
    | zero =>
      intro md y2 y3 H locs ls hf hP hD hS hl
      rw [f_Model_strict_24] at hf; cases hf
    | succ n ih =>
      intro md y2 y3 H locs ls hf hP hD hS hl
      rw [f_Model_strict_24] at hf
      refine lv_iload_n hx hb d_Model_strict_24 rfl (lv_at hl 2 rfl) ?_
      refine lv_aload_n hx hb d_Model_strict_25 rfl (lv_at hl 0 rfl) ?_
      refine va_get (D := (dC, dI)) (ci := 6) (v := .int md.2.2.2.2.1.1) (C := "HazardTablesModel") (T := F_Model) (N := 30) hx hb hts hin_Model hown hK hP 0 rfl rfl 12 (by decide) fl_157 (fun _ h9 => h9) rfl d_Model_strict_26 ?_
      refine lv_icmp_ge (tgt := 78) hx hb d_Model_strict_29 (by decide) (fun hc4 => ?_) (fun hc4 => ?_)
      · have hf := hf_t hf hc4
        refine lv_iconst (v := (-1 : Int32)) hx hb d_Model_strict_78 (by decide) ?_
        exact ret (-1 : Int32) md H locs ls 79 d_Model_strict_79 (hf_e hf) hP hD hS
      · have hf := hf_f hf hc4
        refine lv_aload_n hx hb d_Model_strict_32 rfl (lv_at hl 0 rfl) ?_
        refine va_get (D := (dC, dI)) (ci := 6) (v := .ref (ad_md 2)) (C := "HazardTablesModel") (T := F_Model) (N := 30) hx hb hts hin_Model hown hK hP 0 rfl rfl 6 (by decide) fl_17 (fun _ h9 => h9) rfl d_Model_strict_33 ?_
        refine lv_aload_n hx hb d_Model_strict_36 rfl (lv_at hl 0 rfl) ?_
        refine va_get (D := (dC, dI)) (ci := 6) (v := .ref (ad_md 6)) (C := "HazardTablesModel") (T := F_Model) (N := 30) hx hb hts hin_Model hown hK hP 0 rfl rfl 15 (by decide) fl_29 (fun _ h9 => h9) rfl d_Model_strict_37 ?_
        refine lv_iload_n hx hb d_Model_strict_40 rfl (lv_at hl 2 rfl) ?_
        obtain ⟨hi5, hf⟩ := hf_g hf
        refine va_iald hx hb hK hP 6 5 rfl rfl hi5 d_Model_strict_41 ?_
        refine lv_bipush (v := (43 : Int32)) hx hb d_Model_strict_42 (by decide) ?_
        refine lv_imul hx hb d_Model_strict_44 ?_
        refine lv_iconst (v := (2 : Int32)) hx hb d_Model_strict_45 (by decide) ?_
        refine lv_iadd hx hb d_Model_strict_46 ?_
        obtain ⟨hi6, hf⟩ := hf_g hf
        refine va_iald hx hb hK hP 2 1 rfl rfl hi6 d_Model_strict_47 ?_
        refine lv_aload_n hx hb d_Model_strict_48 rfl (lv_at hl 0 rfl) ?_
        obtain ⟨u7, hu7, hf⟩ := Option.bind_eq_some_iff.mp hf
        refine cl_i (wc := (uw_Model ad_md cA_md md)) (wr := []) (tysC := [(cA_md 1, .int), (cA_md 2, .int), (cA_md 3, .int), (cA_md 4, .int), (cA_md 5, .int), (cA_md 6, .int), (cA_md 7, .int), (cA_md 8, .int), (cA_md 9, .boolean), (cA_md 10, .int), (cA_md 11, .int), (cA_md 12, .int), (cA_md 13, .int)]) (wu := fun (u : Unit) => (uw_Model ad_md cA_md md)) (wn := fun (u : Unit) => (uw_Model ad_md cA_md md)) [0, 1, 2, 3, 4, 5, 6, 7, 8, 9, 10, 11, 12, 13] [] [0, 1, 2, 3, 4, 5, 6, 7, 8, 9, 10, 11, 12, 13] [0, 1, 2, 3, 4, 5, 6, 7, 8, 9, 10, 11, 12] hP hD hS hA hK rfl rfl (by decide +kernel) (by decide +kernel) (by decide +kernel) rfl (fun _ => rfl) (by decide +kernel) (fun hPc hKc hDc => (va_runV (As := []) (rest := [.int (md.2.2.2.1.2.2 (((md.2.2.2.2.1.2.2.2.1 y3.toNatClampNeg) * (43 : Int32)) + (2 : Int32)).toNatClampNeg)]) ⟨hx, hb, hml, hown, hts⟩ (k_Model_strictness l dC dI ad_md cA_md H.size md u7 hu7) (cwV 0 hts (gV wd_955 wd_957 wd_39 wd_49 wd_958) rfl rfl rfl (by decide +kernel) ⟨Nat.le_of_ble_eq_true rfl, Nat.le_of_ble_eq_true rfl⟩) (cl_preV hPc hKc hDc hN (ci := 6) 0 rfl rfl) rfl rfl hl.1 rfl (lv_room (Nat.le_of_ble_eq_true rfl)) d_Model_strict_49 ⟨Nat.le_of_ble_eq_true rfl, Nat.le_of_ble_eq_true rfl⟩)) (fun r u H locs hw hP hD hS => ?_)
        have hw := hw.symm
        subst hw
        have hP : va_P (dC, dI) vwCl (uw_Model ad_md cA_md md) H := hP
        have hD : va_D A (uw_Model ad_md cA_md md) := hD
        refine lv_icmp_eq (tgt := 58) hx hb d_Model_strict_52 (by decide) (fun hc8 => ?_) (fun hc8 => ?_)
        · have hf := hf_t hf hc8
          refine lv_iload_n hx hb d_Model_strict_58 rfl (lv_at hl 1 rfl) ?_
          refine lv_if_ne (tgt := 69) hx hb d_Model_strict_59 (by decide) (fun hc9 => ?_) (fun hc9 => ?_)
          · have hf := hf_f hf hc9
            refine lv_iinc (v := y2 + (-1 : Int32)) (lv' := [(2, .int (y2 + (-1 : Int32))), (0, .ref (ad_md 0)), (3, .int y3)]) hx hb d_Model_strict_69 hl (k := 1) rfl rfl (by decide) rfl (fun ls hl => ?_)
            refine lv_iinc (v := y3 + (1 : Int32)) (lv' := [(3, .int (y3 + (1 : Int32))), (2, .int (y2 + (-1 : Int32))), (0, .ref (ad_md 0))]) hx hb d_Model_strict_72 hl (k := 2) rfl rfl (by decide) rfl (fun ls hl => ?_)
            refine lv_goto (tgt := 24) hx hb d_Model_strict_75 (by decide) ?_
            exact ih md (y2 + (-1 : Int32)) (y3 + (1 : Int32)) H locs ls hf hP hD hS (lv_sub hl [2, 1, 0] rfl)
          · have hf := hf_t hf hc9
            refine lv_aload_n hx hb d_Model_strict_62 rfl (lv_at hl 0 rfl) ?_
            refine va_get (D := (dC, dI)) (ci := 6) (v := .ref (ad_md 4)) (C := "HazardTablesModel") (T := F_Model) (N := 30) hx hb hts hin_Model hown hK hP 0 rfl rfl 13 (by decide) fl_23 (fun _ h9 => h9) rfl d_Model_strict_63 ?_
            refine lv_iload_n hx hb d_Model_strict_66 rfl (lv_at hl 2 rfl) ?_
            obtain ⟨hi10, hf⟩ := hf_g hf
            refine va_iald hx hb hK hP 4 3 rfl rfl hi10 d_Model_strict_67 ?_
            exact ret (md.2.2.2.2.1.2.1 y3.toNatClampNeg) md H locs ls 68 d_Model_strict_68 (hf_e hf) hP hD hS
        · have hf := hf_f hf hc8
          refine lv_goto (tgt := 72) hx hb d_Model_strict_55 (by decide) ?_
          refine lv_iinc (v := y3 + (1 : Int32)) (lv' := [(3, .int (y3 + (1 : Int32))), (0, .ref (ad_md 0)), (2, .int y2)]) hx hb d_Model_strict_72 hl (k := 2) rfl rfl (by decide) rfl (fun ls hl => ?_)
          refine lv_goto (tgt := 24) hx hb d_Model_strict_75 (by decide) ?_
          exact ih md y2 (y3 + (1 : Int32)) H locs ls hf hP hD hS (lv_sub hl [1, 2, 0] rfl)
  have w_10 : ∀ (md : SModel) (y1 : Int32) (z1 : Bool) (H : Heap) (locs : List Loc) (ls : Array Slot), f_Model_strict_10 md y1 z1 = some res → va_P (dC, dI) vwCl (uw_Model ad_md cA_md md) H → va_D A (uw_Model ad_md cA_md md) → va_S A s.heap H locs → lv_has ls 4 [(0, .ref (ad_md 0)), (1, .int y1)] → W p l e (headSpec w_Model_strict ({ frames := 1, cells := 0, slots := 0, locals := 23 })).room s m ([.ref (ad_md 0), .int x1] : List Value).toArray below meth c H locs 0 0 Q (F0 m 10 ls [.int (bI z1), .ref (ad_md 0)]) := by
    intro md y1 z1 H locs ls hf hP hD hS hl
    rw [f_Model_strict_10] at hf
    refine lv_iconst (v := (1 : Int32)) hx hb d_Model_strict_10 (by decide) ?_
    refine lv_iconst (v := (1 : Int32)) hx hb d_Model_strict_11 (by decide) ?_
    obtain ⟨u2, hu2, hf⟩ := Option.bind_eq_some_iff.mp hf
    refine cl_i (wc := (uw_Model ad_md cA_md md)) (wr := []) (tysC := [(cA_md 1, .int), (cA_md 2, .int), (cA_md 3, .int), (cA_md 4, .int), (cA_md 5, .int), (cA_md 6, .int), (cA_md 7, .int), (cA_md 8, .int), (cA_md 9, .boolean), (cA_md 10, .int), (cA_md 11, .int), (cA_md 12, .int), (cA_md 13, .int)]) (wu := fun (u : SModel) => (uw_Model ad_md cA_md u)) (wn := fun (u : SModel) => (uw_Model ad_md cA_md u)) [0, 1, 2, 3, 4, 5, 6, 7, 8, 9, 10, 11, 12, 13] [] [0, 1, 2, 3, 4, 5, 6, 7, 8, 9, 10, 11, 12, 13] [0, 1, 2, 3, 4, 5, 6, 7, 8, 9, 10, 11, 12] hP hD hS hA hK rfl rfl (by decide +kernel) (by decide +kernel) (by decide +kernel) rfl (fun _ => rfl) (by decide +kernel) (fun hPc hKc hDc => (va_runV (As := [.int (bI z1), .int (1 : Int32), .int (1 : Int32)]) (rest := []) ⟨hx, hb, hml, hown, hts⟩ (k_Model_goes l dC dI ad_md cA_md H.size md z1 true true u2 hu2) (cwV 3 hts (gV wd_850 wd_852 wd_22 wd_49 wd_853) rfl rfl rfl (by decide +kernel) ⟨Nat.le_of_ble_eq_true rfl, Nat.le_of_ble_eq_true rfl⟩) (cl_preV hPc hKc hDc hN (ci := 6) 0 rfl rfl) rfl rfl hl.1 rfl (lv_room (Nat.le_of_ble_eq_true rfl)) d_Model_strict_12 ⟨Nat.le_of_ble_eq_true rfl, Nat.le_of_ble_eq_true rfl⟩)) (fun r u H locs hw hP hD hS => ?_)
    obtain ⟨hw1, hw2⟩ := hw
    have hw1 := hw1.symm
    have hw2 := hw2.symm
    subst hw1
    subst hw2
    have hP : va_P (dC, dI) vwCl (uw_Model ad_md cA_md u2.2) H := hP
    have hD : va_D A (uw_Model ad_md cA_md u2.2) := hD
    refine lv_if_ne (tgt := 20) hx hb d_Model_strict_15 (by decide) (fun hc3 => ?_) (fun hc3 => ?_)
    · have hf := hf_f hf hc3
      refine lv_iload_n hx hb d_Model_strict_20 rfl (lv_at hl 1 rfl) ?_
      refine lv_istore_n (lv' := [(2, .int y1), (0, .ref (ad_md 0)), (1, .int y1)]) hx hb d_Model_strict_21 rfl hl (by decide) rfl (fun ls hl => ?_)
      refine lv_iconst (v := (0 : Int32)) hx hb d_Model_strict_22 (by decide) ?_
      refine lv_istore_n (lv' := [(3, .int (0 : Int32)), (2, .int y1), (0, .ref (ad_md 0)), (1, .int y1)]) hx hb d_Model_strict_23 rfl hl (by decide) rfl (fun ls hl => ?_)
      exact w_24 4096 u2.2 y1 (0 : Int32) H locs ls hf hP hD hS (lv_sub hl [2, 1, 0] rfl)
    · have hf := hf_t hf hc3
      refine lv_iconst (v := (0 : Int32)) hx hb d_Model_strict_18 (by decide) ?_
      exact ret (0 : Int32) u2.2 H locs ls 19 d_Model_strict_19 (hf_e hf) hP hD hS
  have hl := lv_entry ([.ref (ad_md 0), .int x1]) (n := 4) (Nat.le_of_ble_eq_true rfl)
  rw [lg_entry_eq]
  generalize (lg_sl ([.ref (ad_md 0), .int x1]) ++ List.replicate (4 - (lg_sl ([.ref (ad_md 0), .int x1])).length) Slot.unset).toArray = ls at hl ⊢
  have hl : lv_has ls 4 [(0, .ref (ad_md 0)), (1, .int x1)] := hl
  have hf := hf
  rw [f_Model_strict] at hf
  obtain ⟨H, hH⟩ : ∃ H : Heap, H = s.heap := ⟨_, rfl⟩
  obtain ⟨locs, hlocs⟩ : ∃ L : List Loc, L = [] := ⟨_, rfl⟩
  have hP : va_P (dC, dI) vwCl (uw_Model ad_md cA_md md) H := by rw [hH]; exact hP
  have hS : va_S A s.heap H locs := by rw [hH, hlocs]; exact hS
  show W p l e (headSpec w_Model_strict ({ frames := 1, cells := 0, slots := 0, locals := 23 })).room s m ([.ref (ad_md 0), .int x1] : List Value).toArray below meth c s.heap [] 0 0 Q (F0 m 0 ls [])
  suffices hgo : W p l e (headSpec w_Model_strict ({ frames := 1, cells := 0, slots := 0, locals := 23 })).room s m ([.ref (ad_md 0), .int x1] : List Value).toArray below meth c H locs 0 0 Q (F0 m 0 ls []) by rw [hH, hlocs] at hgo; exact hgo
  clear hH hlocs
  refine lv_aload_n hx hb d_Model_strict_0 rfl (lv_at hl 0 rfl) ?_
  refine lv_iload_n hx hb d_Model_strict_1 rfl (lv_at hl 1 rfl) ?_
  refine lv_if_lt (tgt := 9) hx hb d_Model_strict_2 (by decide) (fun hc1 => ?_) (fun hc1 => ?_)
  · have hf := hf_t hf hc1
    refine lv_iconst (v := (0 : Int32)) hx hb d_Model_strict_9 (by decide) ?_
    exact w_10 md x1 false H locs ls hf hP hD hS (lv_sub hl [0, 1] rfl)
  · have hf := hf_f hf hc1
    refine lv_iconst (v := (1 : Int32)) hx hb d_Model_strict_5 (by decide) ?_
    refine lv_goto (tgt := 10) hx hb d_Model_strict_6 (by decide) ?_
    exact w_10 md x1 true H locs ls hf hP hD hS (lv_sub hl [0, 1] rfl)
noncomputable def f_Model_isPoint (x0 : Int32) (x1 : Int32) : Option (Bool) :=
  (Option.bind (f_Model_within x0 (-10000 : Int32) (10000 : Int32)) fun u1 =>
    (if (bI u1) = 0 then
      (some (false))
     else
      (Option.bind (f_Model_within x1 (-10000 : Int32) (10000 : Int32)) fun u3 =>
        (if (bI u3) = 0 then
          (some (false))
         else
          (some (true))
         )
       )
     )
   )
set_option maxHeartbeats 4000000 in
set_option maxRecDepth 100000 in
theorem k_Model_isPoint (l : Launch) (dC : Nat → ClassId) (dI : Nat → Nat → Nat)  (sz : Nat) (x0 : Int32) (x1 : Int32) (res : Bool) (hf : f_Model_isPoint x0 x1 = some res) : Met l y_Model_isPoint w_Model_isPoint ({ frames := 1, cells := 0, slots := 0, locals := 22 }) (cPc (dC, dI) [] [] sz [.int x0, .int x1]) (va_Qi (fun (r : Int32) (u : Unit) => r = bI res) (fun (u : Unit) (t : State) => va_P (dC, dI) vwCl [] t.heap ∧ va_K (dC, dI) vwCl [] t ∧ va_D (va_A [] sz) []) (va_A [] sz)) 0 0 (va_A [] sz) := by
  refine Met.ofW (cc := b_Model_isPoint) (maxL := 2) (ret := (some .boolean)) (by decide) rfl ?_
  intro p e s m args below meth c s₁ B hml hv
  obtain ⟨rfl, hsz, hP, hK, hD0, hN⟩ := hv
  have hx := B.exec
  have hb := B.bytes
  have hr := B.returns
  have hts := atoms_spec (ws := w_Model_isPoint) B.pre
  have hown : s.vm.findClass "HazardTablesModel" = some m.cls := findClass_of_methodNamed B.named
  have hlocks := B.notSynchronized
  subst hsz
  have hD := hD0.self (sz := s.heap.size)
  generalize hAe : va_A [] s.heap.size = A at hD ⊢
  have hA : ∀ q : Nat, s.heap.size ≤ q → A q := fun q h => by rw [← hAe]; exact Or.inr h
  have hS : va_S A s.heap s.heap [] := va_S.rf
  have hP : va_P (dC, dI) vwCl [] s.heap := hP
  have ret : ∀ (v : Bool) (u : Unit) (H : Heap) (locs : List Loc) (ls : Array Slot) (pc : Nat), decode b_Model_isPoint pc = .ok (.ireturn, 1) → (v = res) → va_P (dC, dI) vwCl [] H → va_D A [] → va_S A s.heap H locs → W p l e (headSpec w_Model_isPoint ({ frames := 1, cells := 0, slots := 0, locals := 22 })).room s m ([.int x0, .int x1] : List Value).toArray below meth c H locs 0 0 (MQ below (va_Qi (fun (r : Int32) (u : Unit) => r = bI res) (fun (u : Unit) (t : State) => va_P (dC, dI) vwCl [] t.heap ∧ va_K (dC, dI) vwCl [] t ∧ va_D A []) A) ([.int x0, .int x1] : List Value).toArray s 0 0 A) (F0 m pc ls [.int (bI v)]) := fun v u H locs ls pc hd hp hP hD hS => W.zret (v := bI v) (ty := .boolean) hx hb hr (nar_bI v) (fun t ht hW => ⟨⟨bI v, u, rfl, (by rw [hp]), by rw [ht]; exact hP, va_K.moved hW.alike hK, hD⟩, hS.F ht⟩) hS.2.2 hd
  generalize (MQ below (va_Qi (fun (r : Int32) (u : Unit) => r = bI res) (fun (u : Unit) (t : State) => va_P (dC, dI) vwCl [] t.heap ∧ va_K (dC, dI) vwCl [] t ∧ va_D A []) A) ([.int x0, .int x1] : List Value).toArray s 0 0 A) = Q at ret ⊢
  have hl := lv_entry ([.int x0, .int x1]) (n := 2) (Nat.le_of_ble_eq_true rfl)
  rw [lg_entry_eq]
  generalize (lg_sl ([.int x0, .int x1]) ++ List.replicate (2 - (lg_sl ([.int x0, .int x1])).length) Slot.unset).toArray = ls at hl ⊢
  have hl : lv_has ls 2 [(0, .int x0), (1, .int x1)] := hl
  have hf := hf
  rw [f_Model_isPoint] at hf
  obtain ⟨H, hH⟩ : ∃ H : Heap, H = s.heap := ⟨_, rfl⟩
  obtain ⟨locs, hlocs⟩ : ∃ L : List Loc, L = [] := ⟨_, rfl⟩
  have hP : va_P (dC, dI) vwCl [] H := by rw [hH]; exact hP
  have hS : va_S A s.heap H locs := by rw [hH, hlocs]; exact hS
  show W p l e (headSpec w_Model_isPoint ({ frames := 1, cells := 0, slots := 0, locals := 22 })).room s m ([.int x0, .int x1] : List Value).toArray below meth c s.heap [] 0 0 Q (F0 m 0 ls [])
  suffices hgo : W p l e (headSpec w_Model_isPoint ({ frames := 1, cells := 0, slots := 0, locals := 22 })).room s m ([.int x0, .int x1] : List Value).toArray below meth c H locs 0 0 Q (F0 m 0 ls []) by rw [hH, hlocs] at hgo; exact hgo
  clear hH hlocs
  refine lv_iload_n hx hb d_Model_isPoint_0 rfl (lv_at hl 0 rfl) ?_
  refine lv_sipush (v := (-10000 : Int32)) hx hb d_Model_isPoint_1 (by decide) ?_
  refine lv_sipush (v := (10000 : Int32)) hx hb d_Model_isPoint_4 (by decide) ?_
  obtain ⟨u1, hu1, hf⟩ := Option.bind_eq_some_iff.mp hf
  refine cl_i (wc := []) (wr := []) (tysC := []) (wu := fun (u : Unit) => []) (wn := fun (u : Unit) => []) [] [] [] [] hP hD hS hA hK rfl rfl (by decide +kernel) (by decide +kernel) (by decide +kernel) rfl (fun _ => rfl) (by decide +kernel) (fun hPc hKc hDc => (va_runS (As := [.int x0, .int (-10000 : Int32), .int (10000 : Int32)]) (rest := []) ⟨hx, hb, hml, hown, hts⟩ (k_Model_within l dC dI  H.size x0 (-10000 : Int32) (10000 : Int32) u1 hu1) (cwS 3 hts (gS wd_847 wd_848 wd_49 wd_849) rfl rfl rfl (by decide +kernel) ⟨Nat.le_of_ble_eq_true rfl, Nat.le_of_ble_eq_true rfl⟩) (cl_preS hPc hKc hDc hN) rfl rfl hl.1 rfl (lv_room (Nat.le_of_ble_eq_true rfl)) d_Model_isPoint_7 ⟨Nat.le_of_ble_eq_true rfl, Nat.le_of_ble_eq_true rfl⟩)) (fun r u H locs hw hP hD hS => ?_)
  have hw := hw.symm
  subst hw
  have hP : va_P (dC, dI) vwCl [] H := hP
  have hD : va_D A [] := hD
  refine lv_if_eq (tgt := 30) hx hb d_Model_isPoint_10 (by decide) (fun hc2 => ?_) (fun hc2 => ?_)
  · have hf := hf_t hf hc2
    refine lv_iconst (v := (0 : Int32)) hx hb d_Model_isPoint_30 (by decide) ?_
    exact ret false () H locs ls 31 d_Model_isPoint_31 (Option.some.inj hf) hP hD hS
  · have hf := hf_f hf hc2
    refine lv_iload_n hx hb d_Model_isPoint_13 rfl (lv_at hl 1 rfl) ?_
    refine lv_sipush (v := (-10000 : Int32)) hx hb d_Model_isPoint_14 (by decide) ?_
    refine lv_sipush (v := (10000 : Int32)) hx hb d_Model_isPoint_17 (by decide) ?_
    obtain ⟨u3, hu3, hf⟩ := Option.bind_eq_some_iff.mp hf
    refine cl_i (wc := []) (wr := []) (tysC := []) (wu := fun (u : Unit) => []) (wn := fun (u : Unit) => []) [] [] [] [] hP hD hS hA hK rfl rfl (by decide +kernel) (by decide +kernel) (by decide +kernel) rfl (fun _ => rfl) (by decide +kernel) (fun hPc hKc hDc => (va_runS (As := [.int x1, .int (-10000 : Int32), .int (10000 : Int32)]) (rest := []) ⟨hx, hb, hml, hown, hts⟩ (k_Model_within l dC dI  H.size x1 (-10000 : Int32) (10000 : Int32) u3 hu3) (cwS 3 hts (gS wd_847 wd_848 wd_49 wd_849) rfl rfl rfl (by decide +kernel) ⟨Nat.le_of_ble_eq_true rfl, Nat.le_of_ble_eq_true rfl⟩) (cl_preS hPc hKc hDc hN) rfl rfl hl.1 rfl (lv_room (Nat.le_of_ble_eq_true rfl)) d_Model_isPoint_20 ⟨Nat.le_of_ble_eq_true rfl, Nat.le_of_ble_eq_true rfl⟩)) (fun r u H locs hw hP hD hS => ?_)
    have hw := hw.symm
    subst hw
    have hP : va_P (dC, dI) vwCl [] H := hP
    have hD : va_D A [] := hD
    refine lv_if_eq (tgt := 30) hx hb d_Model_isPoint_23 (by decide) (fun hc4 => ?_) (fun hc4 => ?_)
    · have hf := hf_t hf hc4
      refine lv_iconst (v := (0 : Int32)) hx hb d_Model_isPoint_30 (by decide) ?_
      exact ret false () H locs ls 31 d_Model_isPoint_31 (Option.some.inj hf) hP hD hS
    · have hf := hf_f hf hc4
      refine lv_iconst (v := (1 : Int32)) hx hb d_Model_isPoint_26 (by decide) ?_
      refine lv_goto (tgt := 31) hx hb d_Model_isPoint_27 (by decide) ?_
      exact ret true () H locs ls 31 d_Model_isPoint_31 (Option.some.inj hf) hP hD hS
noncomputable def f_Model_isIn_19  (md : SModel) (y1 : Int32) (y2 : Int32) : Option (Bool) :=
  (Option.bind (f_Model_distance md md.2.2.2.2.2.1.2.2) fun u4 =>
    (if 0 < (lg_cmp ((y1.toInt64 * y1.toInt64) + (y2.toInt64 * y2.toInt64)) (u4.toInt64 * u4.toInt64)) then
      (some (false))
     else
      (if (lg_cmp ((y1.toInt64 * md.2.2.2.2.2.1.1.toInt64) + (y2.toInt64 * md.2.2.2.2.2.1.2.1.toInt64)) (0 : Int64)) ≤ 0 then
        (some (false))
       else
        (if (lg_cmp (((2 : Int64) * ((y1.toInt64 * md.2.2.2.2.2.1.1.toInt64) + (y2.toInt64 * md.2.2.2.2.2.1.2.1.toInt64))) * ((y1.toInt64 * md.2.2.2.2.2.1.1.toInt64) + (y2.toInt64 * md.2.2.2.2.2.1.2.1.toInt64))) (((y1.toInt64 * y1.toInt64) + (y2.toInt64 * y2.toInt64)) * ((md.2.2.2.2.2.1.1.toInt64 * md.2.2.2.2.2.1.1.toInt64) + (md.2.2.2.2.2.1.2.1.toInt64 * md.2.2.2.2.2.1.2.1.toInt64)))) < 0 then
          (some (false))
         else
          (some (true))
         )
       )
     )
   )
noncomputable def f_Model_isIn (md : SModel) (x1 : Int32) (x2 : Int32) : Option (Bool) :=
  (if md.2.2.2.2.1.1 = 0 then
    (some (false))
   else
    (if x1 = 0 then
      (if x2 = 0 then
        (some (true))
       else
        (f_Model_isIn_19 md x1 x2)
       )
     else
      (f_Model_isIn_19 md x1 x2)
     )
   )
set_option maxHeartbeats 4000000 in
set_option maxRecDepth 100000 in
theorem k_Model_isIn (l : Launch) (dC : Nat → ClassId) (dI : Nat → Nat → Nat) (ad_md : Nat → Nat) (cA_md : Nat → ClassId) (sz : Nat) (md : SModel) (x1 : Int32) (x2 : Int32) (res : Bool) (hf : f_Model_isIn md x1 x2 = some res) : Met l y_Model_isIn w_Model_isIn ({ frames := 1, cells := 0, slots := 0, locals := 24 }) (cPc (dC, dI) (uw_Model ad_md cA_md md) [(cA_md 1, .int), (cA_md 2, .int), (cA_md 3, .int), (cA_md 4, .int), (cA_md 5, .int), (cA_md 6, .int), (cA_md 7, .int), (cA_md 8, .int), (cA_md 9, .boolean), (cA_md 10, .int), (cA_md 11, .int), (cA_md 12, .int), (cA_md 13, .int)] sz [.ref (ad_md 0), .int x1, .int x2]) (va_Qi (fun (r : Int32) (u : Unit) => r = bI res) (fun (u : Unit) (t : State) => va_P (dC, dI) vwCl (uw_Model ad_md cA_md md) t.heap ∧ va_K (dC, dI) vwCl [(cA_md 1, .int), (cA_md 2, .int), (cA_md 3, .int), (cA_md 4, .int), (cA_md 5, .int), (cA_md 6, .int), (cA_md 7, .int), (cA_md 8, .int), (cA_md 9, .boolean), (cA_md 10, .int), (cA_md 11, .int), (cA_md 12, .int), (cA_md 13, .int)] t ∧ va_D (va_A (uw_Model ad_md cA_md md) sz) (uw_Model ad_md cA_md md)) (va_A (uw_Model ad_md cA_md md) sz)) 0 0 (va_A (uw_Model ad_md cA_md md) sz) := by
  refine Met.ofW (cc := b_Model_isIn) (maxL := 9) (ret := (some .boolean)) (by decide) rfl ?_
  intro p e s m args below meth c s₁ B hml hv
  obtain ⟨rfl, hsz, hP, hK, hD0, hN⟩ := hv
  have hx := B.exec
  have hb := B.bytes
  have hr := B.returns
  have hts := atoms_spec (ws := w_Model_isIn) B.pre
  have hown : s.vm.findClass "HazardTablesModel" = some m.cls := findClass_of_methodNamed B.named
  have hlocks := B.notSynchronized
  subst hsz
  have hD := hD0.self (sz := s.heap.size)
  generalize hAe : va_A (uw_Model ad_md cA_md md) s.heap.size = A at hD ⊢
  have hA : ∀ q : Nat, s.heap.size ≤ q → A q := fun q h => by rw [← hAe]; exact Or.inr h
  have hS : va_S A s.heap s.heap [] := va_S.rf
  have hP : va_P (dC, dI) vwCl (uw_Model ad_md cA_md md) s.heap := hP
  have fl_157 := (hts _ (List.mem_cons_of_mem _ wd_760))
  have fl_171 := (hts _ (List.mem_cons_of_mem _ wd_765))
  have fl_32 := (hts _ (List.mem_cons_of_mem _ wd_764))
  have fl_35 := (hts _ (List.mem_cons_of_mem _ wd_766))
  have hin_Model : ∀ w ∈ u_ws "HazardTablesModel" F_Model 30, w ∈ w_Model_isIn := fun w h => List.mem_cons_of_mem _ (hinA_Model w h)
  have ret : ∀ (v : Bool) (u : Unit) (H : Heap) (locs : List Loc) (ls : Array Slot) (pc : Nat), decode b_Model_isIn pc = .ok (.ireturn, 1) → (v = res) → va_P (dC, dI) vwCl (uw_Model ad_md cA_md md) H → va_D A (uw_Model ad_md cA_md md) → va_S A s.heap H locs → W p l e (headSpec w_Model_isIn ({ frames := 1, cells := 0, slots := 0, locals := 24 })).room s m ([.ref (ad_md 0), .int x1, .int x2] : List Value).toArray below meth c H locs 0 0 (MQ below (va_Qi (fun (r : Int32) (u : Unit) => r = bI res) (fun (u : Unit) (t : State) => va_P (dC, dI) vwCl (uw_Model ad_md cA_md md) t.heap ∧ va_K (dC, dI) vwCl [(cA_md 1, .int), (cA_md 2, .int), (cA_md 3, .int), (cA_md 4, .int), (cA_md 5, .int), (cA_md 6, .int), (cA_md 7, .int), (cA_md 8, .int), (cA_md 9, .boolean), (cA_md 10, .int), (cA_md 11, .int), (cA_md 12, .int), (cA_md 13, .int)] t ∧ va_D A (uw_Model ad_md cA_md md)) A) ([.ref (ad_md 0), .int x1, .int x2] : List Value).toArray s 0 0 A) (F0 m pc ls [.int (bI v)]) := fun v u H locs ls pc hd hp hP hD hS => W.zret (v := bI v) (ty := .boolean) hx hb hr (nar_bI v) (fun t ht hW => ⟨⟨bI v, u, rfl, (by rw [hp]), by rw [ht]; exact hP, va_K.moved hW.alike hK, hD⟩, hS.F ht⟩) hS.2.2 hd
  generalize (MQ below (va_Qi (fun (r : Int32) (u : Unit) => r = bI res) (fun (u : Unit) (t : State) => va_P (dC, dI) vwCl (uw_Model ad_md cA_md md) t.heap ∧ va_K (dC, dI) vwCl [(cA_md 1, .int), (cA_md 2, .int), (cA_md 3, .int), (cA_md 4, .int), (cA_md 5, .int), (cA_md 6, .int), (cA_md 7, .int), (cA_md 8, .int), (cA_md 9, .boolean), (cA_md 10, .int), (cA_md 11, .int), (cA_md 12, .int), (cA_md 13, .int)] t ∧ va_D A (uw_Model ad_md cA_md md)) A) ([.ref (ad_md 0), .int x1, .int x2] : List Value).toArray s 0 0 A) = Q at ret ⊢
  have w_19 : ∀  (y1 : Int32) (y2 : Int32) (H : Heap) (locs : List Loc) (ls : Array Slot), f_Model_isIn_19 md y1 y2 = some res → va_P (dC, dI) vwCl (uw_Model ad_md cA_md md) H → va_D A (uw_Model ad_md cA_md md) → va_S A s.heap H locs → lv_has ls 9 [(0, .ref (ad_md 0)), (1, .int y1), (2, .int y2)] → W p l e (headSpec w_Model_isIn ({ frames := 1, cells := 0, slots := 0, locals := 24 })).room s m ([.ref (ad_md 0), .int x1, .int x2] : List Value).toArray below meth c H locs 0 0 Q (F0 m 19 ls []) := by
    intro y1 y2 H locs ls hf hP hD hS hl
    rw [f_Model_isIn_19] at hf
    refine lv_aload_n hx hb d_Model_isIn_19 rfl (lv_at hl 0 rfl) ?_
    refine lv_aload_n hx hb d_Model_isIn_20 rfl (lv_at hl 0 rfl) ?_
    refine va_get (D := (dC, dI)) (ci := 6) (v := .int (bI md.2.2.2.2.2.1.2.2)) (C := "HazardTablesModel") (T := F_Model) (N := 30) hx hb hts hin_Model hown hK hP 0 rfl rfl 18 (by decide) fl_35 (fun _ h9 => h9) rfl d_Model_isIn_21 ?_
    obtain ⟨u4, hu4, hf⟩ := Option.bind_eq_some_iff.mp hf
    refine cl_i (wc := (uw_Model ad_md cA_md md)) (wr := []) (tysC := [(cA_md 1, .int), (cA_md 2, .int), (cA_md 3, .int), (cA_md 4, .int), (cA_md 5, .int), (cA_md 6, .int), (cA_md 7, .int), (cA_md 8, .int), (cA_md 9, .boolean), (cA_md 10, .int), (cA_md 11, .int), (cA_md 12, .int), (cA_md 13, .int)]) (wu := fun (u : Unit) => (uw_Model ad_md cA_md md)) (wn := fun (u : Unit) => (uw_Model ad_md cA_md md)) [0, 1, 2, 3, 4, 5, 6, 7, 8, 9, 10, 11, 12, 13] [] [0, 1, 2, 3, 4, 5, 6, 7, 8, 9, 10, 11, 12, 13] [0, 1, 2, 3, 4, 5, 6, 7, 8, 9, 10, 11, 12] hP hD hS hA hK rfl rfl (by decide +kernel) (by decide +kernel) (by decide +kernel) rfl (fun _ => rfl) (by decide +kernel) (fun hPc hKc hDc => (va_runV (As := [.int (bI md.2.2.2.2.2.1.2.2)]) (rest := []) ⟨hx, hb, hml, hown, hts⟩ (k_Model_distance l dC dI ad_md cA_md H.size md md.2.2.2.2.2.1.2.2 u4 hu4) (cwV 1 hts (gV wd_959 wd_961 wd_40 wd_49 wd_962) rfl rfl rfl (by decide +kernel) ⟨Nat.le_of_ble_eq_true rfl, Nat.le_of_ble_eq_true rfl⟩) (cl_preV hPc hKc hDc hN (ci := 6) 0 rfl rfl) rfl rfl hl.1 rfl (lv_room (Nat.le_of_ble_eq_true rfl)) d_Model_isIn_24 ⟨Nat.le_of_ble_eq_true rfl, Nat.le_of_ble_eq_true rfl⟩)) (fun r u H locs hw hP hD hS => ?_)
    have hw := hw.symm
    subst hw
    have hP : va_P (dC, dI) vwCl (uw_Model ad_md cA_md md) H := hP
    have hD : va_D A (uw_Model ad_md cA_md md) := hD
    refine lv_i2l (v := u4.toInt64) hx hb d_Model_isIn_27 rfl ?_
    refine lv_lstore_n (lv' := [(3, .long u4.toInt64), (0, .ref (ad_md 0)), (1, .int y1), (2, .int y2)]) hx hb d_Model_isIn_28 rfl hl (by decide) rfl (fun ls hl => ?_)
    refine lv_iload_n hx hb d_Model_isIn_29 rfl (lv_at hl 2 rfl) ?_
    refine lv_i2l (v := y1.toInt64) hx hb d_Model_isIn_30 rfl ?_
    refine lv_iload_n hx hb d_Model_isIn_31 rfl (lv_at hl 2 rfl) ?_
    refine lv_i2l (v := y1.toInt64) hx hb d_Model_isIn_32 rfl ?_
    refine lv_lmul hx hb d_Model_isIn_33 ?_
    refine lv_iload_n hx hb d_Model_isIn_34 rfl (lv_at hl 3 rfl) ?_
    refine lv_i2l (v := y2.toInt64) hx hb d_Model_isIn_35 rfl ?_
    refine lv_iload_n hx hb d_Model_isIn_36 rfl (lv_at hl 3 rfl) ?_
    refine lv_i2l (v := y2.toInt64) hx hb d_Model_isIn_37 rfl ?_
    refine lv_lmul hx hb d_Model_isIn_38 ?_
    refine lv_ladd hx hb d_Model_isIn_39 ?_
    refine lv_lstore (lv' := [(5, .long ((y1.toInt64 * y1.toInt64) + (y2.toInt64 * y2.toInt64))), (3, .long u4.toInt64), (0, .ref (ad_md 0)), (1, .int y1), (2, .int y2)]) hx hb d_Model_isIn_40 hl (by decide) rfl (fun ls hl => ?_)
    refine lv_iload_n hx hb d_Model_isIn_42 rfl (lv_at hl 3 rfl) ?_
    refine lv_i2l (v := y1.toInt64) hx hb d_Model_isIn_43 rfl ?_
    refine lv_aload_n hx hb d_Model_isIn_44 rfl (lv_at hl 2 rfl) ?_
    refine va_get (D := (dC, dI)) (ci := 6) (v := .int md.2.2.2.2.2.1.1) (C := "HazardTablesModel") (T := F_Model) (N := 30) hx hb hts hin_Model hown hK hP 0 rfl rfl 16 (by decide) fl_32 (fun _ h9 => h9) rfl d_Model_isIn_45 ?_
    refine lv_i2l (v := md.2.2.2.2.2.1.1.toInt64) hx hb d_Model_isIn_48 rfl ?_
    refine lv_lmul hx hb d_Model_isIn_49 ?_
    refine lv_iload_n hx hb d_Model_isIn_50 rfl (lv_at hl 4 rfl) ?_
    refine lv_i2l (v := y2.toInt64) hx hb d_Model_isIn_51 rfl ?_
    refine lv_aload_n hx hb d_Model_isIn_52 rfl (lv_at hl 2 rfl) ?_
    refine va_get (D := (dC, dI)) (ci := 6) (v := .int md.2.2.2.2.2.1.2.1) (C := "HazardTablesModel") (T := F_Model) (N := 30) hx hb hts hin_Model hown hK hP 0 rfl rfl 17 (by decide) fl_171 (fun _ h9 => h9) rfl d_Model_isIn_53 ?_
    refine lv_i2l (v := md.2.2.2.2.2.1.2.1.toInt64) hx hb d_Model_isIn_56 rfl ?_
    refine lv_lmul hx hb d_Model_isIn_57 ?_
    refine lv_ladd hx hb d_Model_isIn_58 ?_
    refine lv_lstore (lv' := [(7, .long ((y1.toInt64 * md.2.2.2.2.2.1.1.toInt64) + (y2.toInt64 * md.2.2.2.2.2.1.2.1.toInt64))), (5, .long ((y1.toInt64 * y1.toInt64) + (y2.toInt64 * y2.toInt64))), (3, .long u4.toInt64), (0, .ref (ad_md 0)), (1, .int y1), (2, .int y2)]) hx hb d_Model_isIn_59 hl (by decide) rfl (fun ls hl => ?_)
    refine lv_lload hx hb d_Model_isIn_61 (lv_at hl 1 rfl) ?_
    refine lv_lload_n hx hb d_Model_isIn_63 rfl (lv_at hl 2 rfl) ?_
    refine lv_lload_n hx hb d_Model_isIn_64 rfl (lv_at hl 2 rfl) ?_
    refine lv_lmul hx hb d_Model_isIn_65 ?_
    refine W.lcmp hx hb d_Model_isIn_66 ?_
    refine lv_if_gt (tgt := 120) hx hb d_Model_isIn_67 (by decide) (fun hc5 => ?_) (fun hc5 => ?_)
    · have hf := hf_t hf hc5
      refine lv_iconst (v := (0 : Int32)) hx hb d_Model_isIn_120 (by decide) ?_
      exact ret false () H locs ls 121 d_Model_isIn_121 (Option.some.inj hf) hP hD hS
    · have hf := hf_f hf hc5
      refine lv_lload hx hb d_Model_isIn_70 (lv_at hl 0 rfl) ?_
      refine lv_lconst (v := (0 : Int64)) hx hb d_Model_isIn_72 (by decide) ?_
      refine W.lcmp hx hb d_Model_isIn_73 ?_
      refine lv_if_le (tgt := 120) hx hb d_Model_isIn_74 (by decide) (fun hc6 => ?_) (fun hc6 => ?_)
      · have hf := hf_t hf hc6
        refine lv_iconst (v := (0 : Int32)) hx hb d_Model_isIn_120 (by decide) ?_
        exact ret false () H locs ls 121 d_Model_isIn_121 (Option.some.inj hf) hP hD hS
      · have hf := hf_f hf hc6
        refine lv_ldc2 (v := (2 : Int64)) hx hb hown (hts _ (List.mem_cons_of_mem _ wd_982)) d_Model_isIn_77 ?_
        refine lv_lload hx hb d_Model_isIn_80 (lv_at hl 0 rfl) ?_
        refine lv_lmul hx hb d_Model_isIn_82 ?_
        refine lv_lload hx hb d_Model_isIn_83 (lv_at hl 0 rfl) ?_
        refine lv_lmul hx hb d_Model_isIn_85 ?_
        refine lv_lload hx hb d_Model_isIn_86 (lv_at hl 1 rfl) ?_
        refine lv_aload_n hx hb d_Model_isIn_88 rfl (lv_at hl 3 rfl) ?_
        refine va_get (D := (dC, dI)) (ci := 6) (v := .int md.2.2.2.2.2.1.1) (C := "HazardTablesModel") (T := F_Model) (N := 30) hx hb hts hin_Model hown hK hP 0 rfl rfl 16 (by decide) fl_32 (fun _ h9 => h9) rfl d_Model_isIn_89 ?_
        refine lv_i2l (v := md.2.2.2.2.2.1.1.toInt64) hx hb d_Model_isIn_92 rfl ?_
        refine lv_aload_n hx hb d_Model_isIn_93 rfl (lv_at hl 3 rfl) ?_
        refine va_get (D := (dC, dI)) (ci := 6) (v := .int md.2.2.2.2.2.1.1) (C := "HazardTablesModel") (T := F_Model) (N := 30) hx hb hts hin_Model hown hK hP 0 rfl rfl 16 (by decide) fl_32 (fun _ h9 => h9) rfl d_Model_isIn_94 ?_
        refine lv_i2l (v := md.2.2.2.2.2.1.1.toInt64) hx hb d_Model_isIn_97 rfl ?_
        refine lv_lmul hx hb d_Model_isIn_98 ?_
        refine lv_aload_n hx hb d_Model_isIn_99 rfl (lv_at hl 3 rfl) ?_
        refine va_get (D := (dC, dI)) (ci := 6) (v := .int md.2.2.2.2.2.1.2.1) (C := "HazardTablesModel") (T := F_Model) (N := 30) hx hb hts hin_Model hown hK hP 0 rfl rfl 17 (by decide) fl_171 (fun _ h9 => h9) rfl d_Model_isIn_100 ?_
        refine lv_i2l (v := md.2.2.2.2.2.1.2.1.toInt64) hx hb d_Model_isIn_103 rfl ?_
        refine lv_aload_n hx hb d_Model_isIn_104 rfl (lv_at hl 3 rfl) ?_
        refine va_get (D := (dC, dI)) (ci := 6) (v := .int md.2.2.2.2.2.1.2.1) (C := "HazardTablesModel") (T := F_Model) (N := 30) hx hb hts hin_Model hown hK hP 0 rfl rfl 17 (by decide) fl_171 (fun _ h9 => h9) rfl d_Model_isIn_105 ?_
        refine lv_i2l (v := md.2.2.2.2.2.1.2.1.toInt64) hx hb d_Model_isIn_108 rfl ?_
        refine lv_lmul hx hb d_Model_isIn_109 ?_
        refine lv_ladd hx hb d_Model_isIn_110 ?_
        refine lv_lmul hx hb d_Model_isIn_111 ?_
        refine W.lcmp hx hb d_Model_isIn_112 ?_
        refine lv_if_lt (tgt := 120) hx hb d_Model_isIn_113 (by decide) (fun hc7 => ?_) (fun hc7 => ?_)
        · have hf := hf_t hf hc7
          refine lv_iconst (v := (0 : Int32)) hx hb d_Model_isIn_120 (by decide) ?_
          exact ret false () H locs ls 121 d_Model_isIn_121 (Option.some.inj hf) hP hD hS
        · have hf := hf_f hf hc7
          refine lv_iconst (v := (1 : Int32)) hx hb d_Model_isIn_116 (by decide) ?_
          refine lv_goto (tgt := 121) hx hb d_Model_isIn_117 (by decide) ?_
          exact ret true () H locs ls 121 d_Model_isIn_121 (Option.some.inj hf) hP hD hS
  have hl := lv_entry ([.ref (ad_md 0), .int x1, .int x2]) (n := 9) (Nat.le_of_ble_eq_true rfl)
  rw [lg_entry_eq]
  generalize (lg_sl ([.ref (ad_md 0), .int x1, .int x2]) ++ List.replicate (9 - (lg_sl ([.ref (ad_md 0), .int x1, .int x2])).length) Slot.unset).toArray = ls at hl ⊢
  have hl : lv_has ls 9 [(0, .ref (ad_md 0)), (1, .int x1), (2, .int x2)] := hl
  have hf := hf
  rw [f_Model_isIn] at hf
  obtain ⟨H, hH⟩ : ∃ H : Heap, H = s.heap := ⟨_, rfl⟩
  obtain ⟨locs, hlocs⟩ : ∃ L : List Loc, L = [] := ⟨_, rfl⟩
  have hP : va_P (dC, dI) vwCl (uw_Model ad_md cA_md md) H := by rw [hH]; exact hP
  have hS : va_S A s.heap H locs := by rw [hH, hlocs]; exact hS
  show W p l e (headSpec w_Model_isIn ({ frames := 1, cells := 0, slots := 0, locals := 24 })).room s m ([.ref (ad_md 0), .int x1, .int x2] : List Value).toArray below meth c s.heap [] 0 0 Q (F0 m 0 ls [])
  suffices hgo : W p l e (headSpec w_Model_isIn ({ frames := 1, cells := 0, slots := 0, locals := 24 })).room s m ([.ref (ad_md 0), .int x1, .int x2] : List Value).toArray below meth c H locs 0 0 Q (F0 m 0 ls []) by rw [hH, hlocs] at hgo; exact hgo
  clear hH hlocs
  refine lv_aload_n hx hb d_Model_isIn_0 rfl (lv_at hl 0 rfl) ?_
  refine va_get (D := (dC, dI)) (ci := 6) (v := .int md.2.2.2.2.1.1) (C := "HazardTablesModel") (T := F_Model) (N := 30) hx hb hts hin_Model hown hK hP 0 rfl rfl 12 (by decide) fl_157 (fun _ h9 => h9) rfl d_Model_isIn_1 ?_
  refine lv_if_ne (tgt := 9) hx hb d_Model_isIn_4 (by decide) (fun hc1 => ?_) (fun hc1 => ?_)
  · have hf := hf_f hf hc1
    refine lv_iload_n hx hb d_Model_isIn_9 rfl (lv_at hl 1 rfl) ?_
    refine lv_if_ne (tgt := 19) hx hb d_Model_isIn_10 (by decide) (fun hc2 => ?_) (fun hc2 => ?_)
    · have hf := hf_f hf hc2
      exact w_19 x1 x2 H locs ls hf hP hD hS (lv_sub hl [0, 1, 2] rfl)
    · have hf := hf_t hf hc2
      refine lv_iload_n hx hb d_Model_isIn_13 rfl (lv_at hl 2 rfl) ?_
      refine lv_if_ne (tgt := 19) hx hb d_Model_isIn_14 (by decide) (fun hc3 => ?_) (fun hc3 => ?_)
      · have hf := hf_f hf hc3
        exact w_19 x1 x2 H locs ls hf hP hD hS (lv_sub hl [0, 1, 2] rfl)
      · have hf := hf_t hf hc3
        refine lv_iconst (v := (1 : Int32)) hx hb d_Model_isIn_17 (by decide) ?_
        exact ret true () H locs ls 18 d_Model_isIn_18 (Option.some.inj hf) hP hD hS
  · have hf := hf_t hf hc1
    refine lv_iconst (v := (0 : Int32)) hx hb d_Model_isIn_7 (by decide) ?_
    exact ret false () H locs ls 8 d_Model_isIn_8 (Option.some.inj hf) hP hD hS
noncomputable def f_Model_building_20  (md : SModel) (y1 : Int32) (y2 : Int32) (z1 : Bool) (z2 : Bool) : Option (Int32 × SModel) :=
  (Option.bind (f_Model_goes md z1 z2 true) fun u3 =>
    (if (bI u3.1) = 0 then
      (some ((0 : Int32), u3.2))
     else
      (if inb u3.2.2.2.2.2.2.2.1.1 40 then
        (if inb u3.2.2.2.2.2.2.2.1.1 40 then
          (some ((u3.2.2.2.2.2.2.2.1.1 + (1 : Int32)) - (1 : Int32), (u3.2.1, u3.2.2.1, u3.2.2.2.1, u3.2.2.2.2.1, u3.2.2.2.2.2.1, u3.2.2.2.2.2.2.1, (u3.2.2.2.2.2.2.2.1.1 + (1 : Int32), upd u3.2.2.2.2.2.2.2.1.2.1 u3.2.2.2.2.2.2.2.1.1.toNatClampNeg y1, upd u3.2.2.2.2.2.2.2.1.2.2.1 u3.2.2.2.2.2.2.2.1.1.toNatClampNeg y2, u3.2.2.2.2.2.2.2.1.2.2.2.1, u3.2.2.2.2.2.2.2.1.2.2.2.2.1, u3.2.2.2.2.2.2.2.1.2.2.2.2.2), u3.2.2.2.2.2.2.2.2.1, u3.2.2.2.2.2.2.2.2.2)))
         else none)
       else none)
     )
   )
noncomputable def f_Model_building (md : SModel) (x1 : Int32) (x2 : Int32) : Option (Int32 × SModel) :=
  (Option.bind (f_Model_isPoint x1 x2) fun u1 =>
    (if (40 : Int32) ≤ md.2.2.2.2.2.2.1.1 then
      (f_Model_building_20 md x1 x2 u1 false)
     else
      (f_Model_building_20 md x1 x2 u1 true)
     )
   )
set_option maxHeartbeats 4000000 in
set_option maxRecDepth 100000 in
theorem k_Model_building (l : Launch) (dC : Nat → ClassId) (dI : Nat → Nat → Nat) (ad_md : Nat → Nat) (cA_md : Nat → ClassId) (sz : Nat) (md : SModel) (x1 : Int32) (x2 : Int32) (res : Int32 × SModel) (hf : f_Model_building md x1 x2 = some res) : Met l y_Model_building w_Model_building ({ frames := 2, cells := 0, slots := 0, locals := 43 }) (cPc (dC, dI) (uw_Model ad_md cA_md md) [(cA_md 1, .int), (cA_md 2, .int), (cA_md 3, .int), (cA_md 4, .int), (cA_md 5, .int), (cA_md 6, .int), (cA_md 7, .int), (cA_md 8, .int), (cA_md 9, .boolean), (cA_md 10, .int), (cA_md 11, .int), (cA_md 12, .int), (cA_md 13, .int)] sz [.ref (ad_md 0), .int x1, .int x2]) (va_Qi (fun (r : Int32) (u : SModel) => r = res.1 ∧ u = res.2) (fun (u : SModel) (t : State) => va_P (dC, dI) vwCl (uw_Model ad_md cA_md u) t.heap ∧ va_K (dC, dI) vwCl [(cA_md 1, .int), (cA_md 2, .int), (cA_md 3, .int), (cA_md 4, .int), (cA_md 5, .int), (cA_md 6, .int), (cA_md 7, .int), (cA_md 8, .int), (cA_md 9, .boolean), (cA_md 10, .int), (cA_md 11, .int), (cA_md 12, .int), (cA_md 13, .int)] t ∧ va_D (va_A (uw_Model ad_md cA_md md) sz) (uw_Model ad_md cA_md u)) (va_A (uw_Model ad_md cA_md md) sz)) 0 0 (va_A (uw_Model ad_md cA_md md) sz) := by
  refine Met.ofW (cc := b_Model_building) (maxL := 3) (ret := (some .int)) (by decide) rfl ?_
  intro p e s m args below meth c s₁ B hml hv
  obtain ⟨rfl, hsz, hP, hK, hD0, hN⟩ := hv
  have hx := B.exec
  have hb := B.bytes
  have hr := B.returns
  have hts := atoms_spec (ws := w_Model_building) B.pre
  have hown : s.vm.findClass "HazardTablesModel" = some m.cls := findClass_of_methodNamed B.named
  have hlocks := B.notSynchronized
  subst hsz
  have hD := hD0.self (sz := s.heap.size)
  generalize hAe : va_A (uw_Model ad_md cA_md md) s.heap.size = A at hD ⊢
  have hA : ∀ q : Nat, s.heap.size ≤ q → A q := fun q h => by rw [← hAe]; exact Or.inr h
  have hS : va_S A s.heap s.heap [] := va_S.rf
  have hP : va_P (dC, dI) vwCl (uw_Model ad_md cA_md md) s.heap := hP
  have fl_179 := (hts _ (List.mem_cons_of_mem _ wd_767))
  have fl_39 := (hts _ (List.mem_cons_of_mem _ wd_768))
  have fl_42 := (hts _ (List.mem_cons_of_mem _ wd_769))
  have hin_Model : ∀ w ∈ u_ws "HazardTablesModel" F_Model 30, w ∈ w_Model_building := fun w h => List.mem_cons_of_mem _ (hinA_Model w h)
  have ret : ∀ (v : Int32) (u : SModel) (H : Heap) (locs : List Loc) (ls : Array Slot) (pc : Nat), decode b_Model_building pc = .ok (.ireturn, 1) → (v = res.1 ∧ u = res.2) → va_P (dC, dI) vwCl (uw_Model ad_md cA_md u) H → va_D A (uw_Model ad_md cA_md u) → va_S A s.heap H locs → W p l e (headSpec w_Model_building ({ frames := 2, cells := 0, slots := 0, locals := 43 })).room s m ([.ref (ad_md 0), .int x1, .int x2] : List Value).toArray below meth c H locs 0 0 (MQ below (va_Qi (fun (r : Int32) (u : SModel) => r = res.1 ∧ u = res.2) (fun (u : SModel) (t : State) => va_P (dC, dI) vwCl (uw_Model ad_md cA_md u) t.heap ∧ va_K (dC, dI) vwCl [(cA_md 1, .int), (cA_md 2, .int), (cA_md 3, .int), (cA_md 4, .int), (cA_md 5, .int), (cA_md 6, .int), (cA_md 7, .int), (cA_md 8, .int), (cA_md 9, .boolean), (cA_md 10, .int), (cA_md 11, .int), (cA_md 12, .int), (cA_md 13, .int)] t ∧ va_D A (uw_Model ad_md cA_md u)) A) ([.ref (ad_md 0), .int x1, .int x2] : List Value).toArray s 0 0 A) (F0 m pc ls [.int v]) := fun v u H locs ls pc hd hp hP hD hS => W.iret (v := v) hx hb hr (fun t ht hW => ⟨⟨v, u, rfl, hp, by rw [ht]; exact hP, va_K.moved hW.alike hK, hD⟩, hS.F ht⟩) hS.2.2 hd
  generalize (MQ below (va_Qi (fun (r : Int32) (u : SModel) => r = res.1 ∧ u = res.2) (fun (u : SModel) (t : State) => va_P (dC, dI) vwCl (uw_Model ad_md cA_md u) t.heap ∧ va_K (dC, dI) vwCl [(cA_md 1, .int), (cA_md 2, .int), (cA_md 3, .int), (cA_md 4, .int), (cA_md 5, .int), (cA_md 6, .int), (cA_md 7, .int), (cA_md 8, .int), (cA_md 9, .boolean), (cA_md 10, .int), (cA_md 11, .int), (cA_md 12, .int), (cA_md 13, .int)] t ∧ va_D A (uw_Model ad_md cA_md u)) A) ([.ref (ad_md 0), .int x1, .int x2] : List Value).toArray s 0 0 A) = Q at ret ⊢
  have w_20 : ∀ (md : SModel) (y1 : Int32) (y2 : Int32) (z1 : Bool) (z2 : Bool) (H : Heap) (locs : List Loc) (ls : Array Slot), f_Model_building_20 md y1 y2 z1 z2 = some res → va_P (dC, dI) vwCl (uw_Model ad_md cA_md md) H → va_D A (uw_Model ad_md cA_md md) → va_S A s.heap H locs → lv_has ls 3 [(0, .ref (ad_md 0)), (1, .int y1), (2, .int y2)] → W p l e (headSpec w_Model_building ({ frames := 2, cells := 0, slots := 0, locals := 43 })).room s m ([.ref (ad_md 0), .int x1, .int x2] : List Value).toArray below meth c H locs 0 0 Q (F0 m 20 ls [.int (bI z2), .int (bI z1), .ref (ad_md 0)]) := by
    intro md y1 y2 z1 z2 H locs ls hf hP hD hS hl
    rw [f_Model_building_20] at hf
    refine lv_iconst (v := (1 : Int32)) hx hb d_Model_building_20 (by decide) ?_
    obtain ⟨u3, hu3, hf⟩ := Option.bind_eq_some_iff.mp hf
    refine cl_i (wc := (uw_Model ad_md cA_md md)) (wr := []) (tysC := [(cA_md 1, .int), (cA_md 2, .int), (cA_md 3, .int), (cA_md 4, .int), (cA_md 5, .int), (cA_md 6, .int), (cA_md 7, .int), (cA_md 8, .int), (cA_md 9, .boolean), (cA_md 10, .int), (cA_md 11, .int), (cA_md 12, .int), (cA_md 13, .int)]) (wu := fun (u : SModel) => (uw_Model ad_md cA_md u)) (wn := fun (u : SModel) => (uw_Model ad_md cA_md u)) [0, 1, 2, 3, 4, 5, 6, 7, 8, 9, 10, 11, 12, 13] [] [0, 1, 2, 3, 4, 5, 6, 7, 8, 9, 10, 11, 12, 13] [0, 1, 2, 3, 4, 5, 6, 7, 8, 9, 10, 11, 12] hP hD hS hA hK rfl rfl (by decide +kernel) (by decide +kernel) (by decide +kernel) rfl (fun _ => rfl) (by decide +kernel) (fun hPc hKc hDc => (va_runV (As := [.int (bI z1), .int (bI z2), .int (1 : Int32)]) (rest := []) ⟨hx, hb, hml, hown, hts⟩ (k_Model_goes l dC dI ad_md cA_md H.size md z1 z2 true u3 hu3) (cwV 3 hts (gV wd_850 wd_852 wd_22 wd_49 wd_853) rfl rfl rfl (by decide +kernel) ⟨Nat.le_of_ble_eq_true rfl, Nat.le_of_ble_eq_true rfl⟩) (cl_preV hPc hKc hDc hN (ci := 6) 0 rfl rfl) rfl rfl hl.1 rfl (lv_room (Nat.le_of_ble_eq_true rfl)) d_Model_building_21 ⟨Nat.le_of_ble_eq_true rfl, Nat.le_of_ble_eq_true rfl⟩)) (fun r u H locs hw hP hD hS => ?_)
    obtain ⟨hw1, hw2⟩ := hw
    have hw1 := hw1.symm
    have hw2 := hw2.symm
    subst hw1
    subst hw2
    have hP : va_P (dC, dI) vwCl (uw_Model ad_md cA_md u3.2) H := hP
    have hD : va_D A (uw_Model ad_md cA_md u3.2) := hD
    refine lv_if_ne (tgt := 29) hx hb d_Model_building_24 (by decide) (fun hc4 => ?_) (fun hc4 => ?_)
    · have hf := hf_f hf hc4
      refine lv_aload_n hx hb d_Model_building_29 rfl (lv_at hl 0 rfl) ?_
      refine va_get (D := (dC, dI)) (ci := 6) (v := .ref (ad_md 7)) (C := "HazardTablesModel") (T := F_Model) (N := 30) hx hb hts hin_Model hown hK hP 0 rfl rfl 20 (by decide) fl_39 (fun _ h9 => h9) rfl d_Model_building_30 ?_
      refine lv_aload_n hx hb d_Model_building_33 rfl (lv_at hl 0 rfl) ?_
      refine va_get (D := (dC, dI)) (ci := 6) (v := .int u3.2.2.2.2.2.2.2.1.1) (C := "HazardTablesModel") (T := F_Model) (N := 30) hx hb hts hin_Model hown hK hP 0 rfl rfl 19 (by decide) fl_179 (fun _ h9 => h9) rfl d_Model_building_34 ?_
      refine lv_iload_n hx hb d_Model_building_37 rfl (lv_at hl 1 rfl) ?_
      obtain ⟨hi5, hf⟩ := hf_g hf
      refine va_iast hx hb hK hP hD hS 7 6 rfl rfl hi5 d_Model_building_38 (fun H locs hP hD hS => ?_)
      have hP : va_P (dC, dI) vwCl (uw_Model ad_md cA_md (u3.2.1, u3.2.2.1, u3.2.2.2.1, u3.2.2.2.2.1, u3.2.2.2.2.2.1, u3.2.2.2.2.2.2.1, (u3.2.2.2.2.2.2.2.1.1, upd u3.2.2.2.2.2.2.2.1.2.1 u3.2.2.2.2.2.2.2.1.1.toNatClampNeg y1, u3.2.2.2.2.2.2.2.1.2.2.1, u3.2.2.2.2.2.2.2.1.2.2.2.1, u3.2.2.2.2.2.2.2.1.2.2.2.2.1, u3.2.2.2.2.2.2.2.1.2.2.2.2.2), u3.2.2.2.2.2.2.2.2.1, u3.2.2.2.2.2.2.2.2.2)) H := hP
      have hD : va_D A (uw_Model ad_md cA_md (u3.2.1, u3.2.2.1, u3.2.2.2.1, u3.2.2.2.2.1, u3.2.2.2.2.2.1, u3.2.2.2.2.2.2.1, (u3.2.2.2.2.2.2.2.1.1, upd u3.2.2.2.2.2.2.2.1.2.1 u3.2.2.2.2.2.2.2.1.1.toNatClampNeg y1, u3.2.2.2.2.2.2.2.1.2.2.1, u3.2.2.2.2.2.2.2.1.2.2.2.1, u3.2.2.2.2.2.2.2.1.2.2.2.2.1, u3.2.2.2.2.2.2.2.1.2.2.2.2.2), u3.2.2.2.2.2.2.2.2.1, u3.2.2.2.2.2.2.2.2.2)) := hD
      refine lv_aload_n hx hb d_Model_building_39 rfl (lv_at hl 0 rfl) ?_
      refine va_get (D := (dC, dI)) (ci := 6) (v := .ref (ad_md 8)) (C := "HazardTablesModel") (T := F_Model) (N := 30) hx hb hts hin_Model hown hK hP 0 rfl rfl 21 (by decide) fl_42 (fun _ h9 => h9) rfl d_Model_building_40 ?_
      refine lv_aload_n hx hb d_Model_building_43 rfl (lv_at hl 0 rfl) ?_
      refine va_get (D := (dC, dI)) (ci := 6) (v := .int u3.2.2.2.2.2.2.2.1.1) (C := "HazardTablesModel") (T := F_Model) (N := 30) hx hb hts hin_Model hown hK hP 0 rfl rfl 19 (by decide) fl_179 (fun _ h9 => h9) rfl d_Model_building_44 ?_
      refine lv_iload_n hx hb d_Model_building_47 rfl (lv_at hl 2 rfl) ?_
      obtain ⟨hi6, hf⟩ := hf_g hf
      refine va_iast hx hb hK hP hD hS 8 7 rfl rfl hi6 d_Model_building_48 (fun H locs hP hD hS => ?_)
      have hP : va_P (dC, dI) vwCl (uw_Model ad_md cA_md (u3.2.1, u3.2.2.1, u3.2.2.2.1, u3.2.2.2.2.1, u3.2.2.2.2.2.1, u3.2.2.2.2.2.2.1, (u3.2.2.2.2.2.2.2.1.1, upd u3.2.2.2.2.2.2.2.1.2.1 u3.2.2.2.2.2.2.2.1.1.toNatClampNeg y1, upd u3.2.2.2.2.2.2.2.1.2.2.1 u3.2.2.2.2.2.2.2.1.1.toNatClampNeg y2, u3.2.2.2.2.2.2.2.1.2.2.2.1, u3.2.2.2.2.2.2.2.1.2.2.2.2.1, u3.2.2.2.2.2.2.2.1.2.2.2.2.2), u3.2.2.2.2.2.2.2.2.1, u3.2.2.2.2.2.2.2.2.2)) H := hP
      have hD : va_D A (uw_Model ad_md cA_md (u3.2.1, u3.2.2.1, u3.2.2.2.1, u3.2.2.2.2.1, u3.2.2.2.2.2.1, u3.2.2.2.2.2.2.1, (u3.2.2.2.2.2.2.2.1.1, upd u3.2.2.2.2.2.2.2.1.2.1 u3.2.2.2.2.2.2.2.1.1.toNatClampNeg y1, upd u3.2.2.2.2.2.2.2.1.2.2.1 u3.2.2.2.2.2.2.2.1.1.toNatClampNeg y2, u3.2.2.2.2.2.2.2.1.2.2.2.1, u3.2.2.2.2.2.2.2.1.2.2.2.2.1, u3.2.2.2.2.2.2.2.1.2.2.2.2.2), u3.2.2.2.2.2.2.2.2.1, u3.2.2.2.2.2.2.2.2.2)) := hD
      refine lv_aload_n hx hb d_Model_building_49 rfl (lv_at hl 0 rfl) ?_
      refine lv_dup hx hb d_Model_building_50 rfl ?_
      refine va_get (D := (dC, dI)) (ci := 6) (v := .int u3.2.2.2.2.2.2.2.1.1) (C := "HazardTablesModel") (T := F_Model) (N := 30) hx hb hts hin_Model hown hK hP 0 rfl rfl 19 (by decide) fl_179 (fun _ h9 => h9) rfl d_Model_building_51 ?_
      refine lv_iconst (v := (1 : Int32)) hx hb d_Model_building_54 (by decide) ?_
      refine lv_iadd hx hb d_Model_building_55 ?_
      refine va_put (D := (dC, dI)) (ci := 6) (v := .int (u3.2.2.2.2.2.2.2.1.1 + (1 : Int32))) (ty := .int) (C := "HazardTablesModel") (T := F_Model) (N := 30) hx hb hts hin_Model t_Model t_Model_ok n_Model hown hK hP hD hS 0 rfl rfl 19 (by decide) fl_179 (fun _ h9 => h9) rfl (by decide +kernel) rfl rfl (Nat.le_of_ble_eq_true rfl) d_Model_building_56 (fun H locs hP hD hS => ?_)
      have hP : va_P (dC, dI) vwCl (uw_Model ad_md cA_md (u3.2.1, u3.2.2.1, u3.2.2.2.1, u3.2.2.2.2.1, u3.2.2.2.2.2.1, u3.2.2.2.2.2.2.1, (u3.2.2.2.2.2.2.2.1.1 + (1 : Int32), upd u3.2.2.2.2.2.2.2.1.2.1 u3.2.2.2.2.2.2.2.1.1.toNatClampNeg y1, upd u3.2.2.2.2.2.2.2.1.2.2.1 u3.2.2.2.2.2.2.2.1.1.toNatClampNeg y2, u3.2.2.2.2.2.2.2.1.2.2.2.1, u3.2.2.2.2.2.2.2.1.2.2.2.2.1, u3.2.2.2.2.2.2.2.1.2.2.2.2.2), u3.2.2.2.2.2.2.2.2.1, u3.2.2.2.2.2.2.2.2.2)) H := hP
      have hD : va_D A (uw_Model ad_md cA_md (u3.2.1, u3.2.2.1, u3.2.2.2.1, u3.2.2.2.2.1, u3.2.2.2.2.2.1, u3.2.2.2.2.2.2.1, (u3.2.2.2.2.2.2.2.1.1 + (1 : Int32), upd u3.2.2.2.2.2.2.2.1.2.1 u3.2.2.2.2.2.2.2.1.1.toNatClampNeg y1, upd u3.2.2.2.2.2.2.2.1.2.2.1 u3.2.2.2.2.2.2.2.1.1.toNatClampNeg y2, u3.2.2.2.2.2.2.2.1.2.2.2.1, u3.2.2.2.2.2.2.2.1.2.2.2.2.1, u3.2.2.2.2.2.2.2.1.2.2.2.2.2), u3.2.2.2.2.2.2.2.2.1, u3.2.2.2.2.2.2.2.2.2)) := hD
      refine lv_aload_n hx hb d_Model_building_59 rfl (lv_at hl 0 rfl) ?_
      refine va_get (D := (dC, dI)) (ci := 6) (v := .int (u3.2.2.2.2.2.2.2.1.1 + (1 : Int32))) (C := "HazardTablesModel") (T := F_Model) (N := 30) hx hb hts hin_Model hown hK hP 0 rfl rfl 19 (by decide) fl_179 (fun _ h9 => h9) rfl d_Model_building_60 ?_
      refine lv_iconst (v := (1 : Int32)) hx hb d_Model_building_63 (by decide) ?_
      refine lv_isub hx hb d_Model_building_64 ?_
      exact ret ((u3.2.2.2.2.2.2.2.1.1 + (1 : Int32)) - (1 : Int32)) (u3.2.1, u3.2.2.1, u3.2.2.2.1, u3.2.2.2.2.1, u3.2.2.2.2.2.1, u3.2.2.2.2.2.2.1, (u3.2.2.2.2.2.2.2.1.1 + (1 : Int32), upd u3.2.2.2.2.2.2.2.1.2.1 u3.2.2.2.2.2.2.2.1.1.toNatClampNeg y1, upd u3.2.2.2.2.2.2.2.1.2.2.1 u3.2.2.2.2.2.2.2.1.1.toNatClampNeg y2, u3.2.2.2.2.2.2.2.1.2.2.2.1, u3.2.2.2.2.2.2.2.1.2.2.2.2.1, u3.2.2.2.2.2.2.2.1.2.2.2.2.2), u3.2.2.2.2.2.2.2.2.1, u3.2.2.2.2.2.2.2.2.2) H locs ls 65 d_Model_building_65 (hf_e hf) hP hD hS
    · have hf := hf_t hf hc4
      refine lv_iconst (v := (0 : Int32)) hx hb d_Model_building_27 (by decide) ?_
      exact ret (0 : Int32) u3.2 H locs ls 28 d_Model_building_28 (hf_e hf) hP hD hS
  have hl := lv_entry ([.ref (ad_md 0), .int x1, .int x2]) (n := 3) (Nat.le_of_ble_eq_true rfl)
  rw [lg_entry_eq]
  generalize (lg_sl ([.ref (ad_md 0), .int x1, .int x2]) ++ List.replicate (3 - (lg_sl ([.ref (ad_md 0), .int x1, .int x2])).length) Slot.unset).toArray = ls at hl ⊢
  have hl : lv_has ls 3 [(0, .ref (ad_md 0)), (1, .int x1), (2, .int x2)] := hl
  have hf := hf
  rw [f_Model_building] at hf
  obtain ⟨H, hH⟩ : ∃ H : Heap, H = s.heap := ⟨_, rfl⟩
  obtain ⟨locs, hlocs⟩ : ∃ L : List Loc, L = [] := ⟨_, rfl⟩
  have hP : va_P (dC, dI) vwCl (uw_Model ad_md cA_md md) H := by rw [hH]; exact hP
  have hS : va_S A s.heap H locs := by rw [hH, hlocs]; exact hS
  show W p l e (headSpec w_Model_building ({ frames := 2, cells := 0, slots := 0, locals := 43 })).room s m ([.ref (ad_md 0), .int x1, .int x2] : List Value).toArray below meth c s.heap [] 0 0 Q (F0 m 0 ls [])
  suffices hgo : W p l e (headSpec w_Model_building ({ frames := 2, cells := 0, slots := 0, locals := 43 })).room s m ([.ref (ad_md 0), .int x1, .int x2] : List Value).toArray below meth c H locs 0 0 Q (F0 m 0 ls []) by rw [hH, hlocs] at hgo; exact hgo
  clear hH hlocs
  refine lv_aload_n hx hb d_Model_building_0 rfl (lv_at hl 0 rfl) ?_
  refine lv_iload_n hx hb d_Model_building_1 rfl (lv_at hl 1 rfl) ?_
  refine lv_iload_n hx hb d_Model_building_2 rfl (lv_at hl 2 rfl) ?_
  obtain ⟨u1, hu1, hf⟩ := Option.bind_eq_some_iff.mp hf
  refine cl_i (wc := []) (wr := (uw_Model ad_md cA_md md)) (tysC := []) (wu := fun (u : Unit) => []) (wn := fun (u : Unit) => (uw_Model ad_md cA_md md)) [] [0, 1, 2, 3, 4, 5, 6, 7, 8, 9, 10, 11, 12, 13] [0, 1, 2, 3, 4, 5, 6, 7, 8, 9, 10, 11, 12, 13] [] hP hD hS hA hK rfl rfl (by decide +kernel) (by decide +kernel) (by decide +kernel) rfl (fun _ => rfl) (by decide +kernel) (fun hPc hKc hDc => (va_runS (As := [.int x1, .int x2]) (rest := [.ref (ad_md 0)]) ⟨hx, hb, hml, hown, hts⟩ (k_Model_isPoint l dC dI  H.size x1 x2 u1 hu1) (cwS 2 hts (gS wd_971 wd_972 wd_49 wd_973) rfl rfl rfl (by decide +kernel) ⟨Nat.le_of_ble_eq_true rfl, Nat.le_of_ble_eq_true rfl⟩) (cl_preS hPc hKc hDc hN) rfl rfl hl.1 rfl (lv_room (Nat.le_of_ble_eq_true rfl)) d_Model_building_3 ⟨Nat.le_of_ble_eq_true rfl, Nat.le_of_ble_eq_true rfl⟩)) (fun r u H locs hw hP hD hS => ?_)
  have hw := hw.symm
  subst hw
  have hP : va_P (dC, dI) vwCl (uw_Model ad_md cA_md md) H := hP
  have hD : va_D A (uw_Model ad_md cA_md md) := hD
  refine lv_aload_n hx hb d_Model_building_6 rfl (lv_at hl 0 rfl) ?_
  refine va_get (D := (dC, dI)) (ci := 6) (v := .int md.2.2.2.2.2.2.1.1) (C := "HazardTablesModel") (T := F_Model) (N := 30) hx hb hts hin_Model hown hK hP 0 rfl rfl 19 (by decide) fl_179 (fun _ h9 => h9) rfl d_Model_building_7 ?_
  refine lv_bipush (v := (40 : Int32)) hx hb d_Model_building_10 (by decide) ?_
  refine lv_icmp_ge (tgt := 19) hx hb d_Model_building_12 (by decide) (fun hc2 => ?_) (fun hc2 => ?_)
  · have hf := hf_t hf hc2
    refine lv_iconst (v := (0 : Int32)) hx hb d_Model_building_19 (by decide) ?_
    exact w_20 md x1 x2 u1 false H locs ls hf hP hD hS (lv_sub hl [0, 1, 2] rfl)
  · have hf := hf_f hf hc2
    refine lv_iconst (v := (1 : Int32)) hx hb d_Model_building_15 (by decide) ?_
    refine lv_goto (tgt := 20) hx hb d_Model_building_16 (by decide) ?_
    exact w_20 md x1 x2 u1 true H locs ls hf hP hD hS (lv_sub hl [0, 1, 2] rfl)
noncomputable def f_Model_wind_112  : Nat → SModel → Int32 → Option (Int32 × SModel)
  | 0, _, _ => none
  | n + 1, md, y4 =>
    (if md.2.2.2.2.2.2.1.1 ≤ y4 then
      (some (md.2.2.2.2.2.2.1.2.2.2.2.1, md))
     else
      (if inb y4 40 then
        (if (md.2.2.2.2.2.2.1.2.2.2.1 y4.toNatClampNeg) = 0 then
          (if inb y4 40 then
            (if inb y4 40 then
              (Option.bind (f_Model_isIn md (md.2.2.2.2.2.2.1.2.1 y4.toNatClampNeg) (md.2.2.2.2.2.2.1.2.2.1 y4.toNatClampNeg)) fun u21 =>
                (if (bI u21) = 0 then
                  (f_Model_wind_112 n md (y4 + (1 : Int32)))
                 else
                  (if inb md.2.2.2.2.2.2.1.2.2.2.2.1 40 then
                    (f_Model_wind_112 n (md.1, md.2.1, md.2.2.1, md.2.2.2.1, md.2.2.2.2.1, md.2.2.2.2.2.1, (md.2.2.2.2.2.2.1.1, md.2.2.2.2.2.2.1.2.1, md.2.2.2.2.2.2.1.2.2.1, md.2.2.2.2.2.2.1.2.2.2.1, md.2.2.2.2.2.2.1.2.2.2.2.1 + (1 : Int32), upd md.2.2.2.2.2.2.1.2.2.2.2.2 md.2.2.2.2.2.2.1.2.2.2.2.1.toNatClampNeg y4), md.2.2.2.2.2.2.2.1, md.2.2.2.2.2.2.2.2) (y4 + (1 : Int32)))
                   else none)
                 )
               )
             else none)
           else none)
         else
          (f_Model_wind_112 n md (y4 + (1 : Int32)))
         )
       else none)
     )
noncomputable def f_Model_wind_49  : Nat → SModel → Int32 → Int32 → Bool → Int32 → Option (Int32 × SModel)
  | 0, _, _, _, _, _ => none
  | n + 1, md, y1, y2, y3, y4 =>
    (if md.2.2.2.2.2.2.1.1 ≤ y4 then
      (f_Model_wind_112 4096 (md.1, md.2.1, md.2.2.1, md.2.2.2.1, md.2.2.2.2.1, (y1, y2, y3), (md.2.2.2.2.2.2.1.1, md.2.2.2.2.2.2.1.2.1, md.2.2.2.2.2.2.1.2.2.1, md.2.2.2.2.2.2.1.2.2.2.1, (0 : Int32), md.2.2.2.2.2.2.1.2.2.2.2.2), md.2.2.2.2.2.2.2.1, md.2.2.2.2.2.2.2.2) (0 : Int32))
     else
      (if inb y4 40 then
        (if inb y4 40 then
          (Option.bind (f_Model_isIn md (md.2.2.2.2.2.2.1.2.1 y4.toNatClampNeg) (md.2.2.2.2.2.2.1.2.2.1 y4.toNatClampNeg)) fun u14 =>
            (if inb y4 40 then
              (f_Model_wind_49 n (md.1, md.2.1, md.2.2.1, md.2.2.2.1, md.2.2.2.2.1, md.2.2.2.2.2.1, (md.2.2.2.2.2.2.1.1, md.2.2.2.2.2.2.1.2.1, md.2.2.2.2.2.2.1.2.2.1, upd md.2.2.2.2.2.2.1.2.2.2.1 y4.toNatClampNeg (vp_nar .boolean (bI u14)), md.2.2.2.2.2.2.1.2.2.2.2.1, md.2.2.2.2.2.2.1.2.2.2.2.2), md.2.2.2.2.2.2.2.1, md.2.2.2.2.2.2.2.2) y1 y2 y3 (y4 + (1 : Int32)))
             else none)
           )
         else none)
       else none)
     )
noncomputable def f_Model_wind_31  (md : SModel) (y1 : Int32) (y2 : Int32) (y3 : Bool) : Option (Int32 × SModel) :=
  (Option.bind (f_Model_goes md true true true) fun u7 =>
    (if (bI u7.1) = 0 then
      (some ((0 : Int32), u7.2))
     else
      (f_Model_wind_49 4096 u7.2 y1 y2 y3 (0 : Int32))
     )
   )
noncomputable def f_Model_wind_35  (md : SModel) (y1 : Int32) (y2 : Int32) (y3 : Bool) : Option (Int32 × SModel) :=
  (Option.bind (f_Model_goes md false true true) fun u9 =>
    (if (bI u9.1) = 0 then
      (some ((0 : Int32), u9.2))
     else
      (f_Model_wind_49 4096 u9.2 y1 y2 y3 (0 : Int32))
     )
   )
noncomputable def f_Model_wind (md : SModel) (x1 : Int32) (x2 : Int32) (x3 : Bool) : Option (Int32 × SModel) :=
  (Option.bind (f_Model_within x1 (-100 : Int32) (100 : Int32)) fun u1 =>
    (if (bI u1) = 0 then
      (f_Model_wind_35 md x1 x2 x3)
     else
      (Option.bind (f_Model_within x2 (-100 : Int32) (100 : Int32)) fun u3 =>
        (if (bI u3) = 0 then
          (f_Model_wind_35 md x1 x2 x3)
         else
          (if x1 = 0 then
            (if x2 = 0 then
              (f_Model_wind_35 md x1 x2 x3)
             else
              (f_Model_wind_31 md x1 x2 x3)
             )
           else
            (f_Model_wind_31 md x1 x2 x3)
           )
         )
       )
     )
   )
set_option maxHeartbeats 4000000 in
set_option maxRecDepth 100000 in
theorem k_Model_wind (l : Launch) (dC : Nat → ClassId) (dI : Nat → Nat → Nat) (ad_md : Nat → Nat) (cA_md : Nat → ClassId) (sz : Nat) (md : SModel) (x1 : Int32) (x2 : Int32) (x3 : Bool) (res : Int32 × SModel) (hf : f_Model_wind md x1 x2 x3 = some res) : Met l y_Model_wind w_Model_wind ({ frames := 2, cells := 0, slots := 0, locals := 52 }) (cPc (dC, dI) (uw_Model ad_md cA_md md) [(cA_md 1, .int), (cA_md 2, .int), (cA_md 3, .int), (cA_md 4, .int), (cA_md 5, .int), (cA_md 6, .int), (cA_md 7, .int), (cA_md 8, .int), (cA_md 9, .boolean), (cA_md 10, .int), (cA_md 11, .int), (cA_md 12, .int), (cA_md 13, .int)] sz [.ref (ad_md 0), .int x1, .int x2, .int (bI x3)]) (va_Qi (fun (r : Int32) (u : SModel) => r = res.1 ∧ u = res.2) (fun (u : SModel) (t : State) => va_P (dC, dI) vwCl (uw_Model ad_md cA_md u) t.heap ∧ va_K (dC, dI) vwCl [(cA_md 1, .int), (cA_md 2, .int), (cA_md 3, .int), (cA_md 4, .int), (cA_md 5, .int), (cA_md 6, .int), (cA_md 7, .int), (cA_md 8, .int), (cA_md 9, .boolean), (cA_md 10, .int), (cA_md 11, .int), (cA_md 12, .int), (cA_md 13, .int)] t ∧ va_D (va_A (uw_Model ad_md cA_md md) sz) (uw_Model ad_md cA_md u)) (va_A (uw_Model ad_md cA_md md) sz)) 0 0 (va_A (uw_Model ad_md cA_md md) sz) := by
  refine Met.ofW (cc := b_Model_wind) (maxL := 5) (ret := (some .int)) (by decide) rfl ?_
  intro p e s m args below meth c s₁ B hml hv
  obtain ⟨rfl, hsz, hP, hK, hD0, hN⟩ := hv
  have hx := B.exec
  have hb := B.bytes
  have hr := B.returns
  have hts := atoms_spec (ws := w_Model_wind) B.pre
  have hown : s.vm.findClass "HazardTablesModel" = some m.cls := findClass_of_methodNamed B.named
  have hlocks := B.notSynchronized
  subst hsz
  have hD := hD0.self (sz := s.heap.size)
  generalize hAe : va_A (uw_Model ad_md cA_md md) s.heap.size = A at hD ⊢
  have hA : ∀ q : Nat, s.heap.size ≤ q → A q := fun q h => by rw [← hAe]; exact Or.inr h
  have hS : va_S A s.heap s.heap [] := va_S.rf
  have hP : va_P (dC, dI) vwCl (uw_Model ad_md cA_md md) s.heap := hP
  have fl_171 := (hts _ (List.mem_cons_of_mem _ wd_765))
  have fl_179 := (hts _ (List.mem_cons_of_mem _ wd_767))
  have fl_185 := (hts _ (List.mem_cons_of_mem _ wd_771))
  have fl_32 := (hts _ (List.mem_cons_of_mem _ wd_764))
  have fl_35 := (hts _ (List.mem_cons_of_mem _ wd_766))
  have fl_39 := (hts _ (List.mem_cons_of_mem _ wd_768))
  have fl_42 := (hts _ (List.mem_cons_of_mem _ wd_769))
  have fl_45 := (hts _ (List.mem_cons_of_mem _ wd_770))
  have fl_49 := (hts _ (List.mem_cons_of_mem _ wd_772))
  have hin_Model : ∀ w ∈ u_ws "HazardTablesModel" F_Model 30, w ∈ w_Model_wind := fun w h => List.mem_cons_of_mem _ (hinA_Model w h)
  have ret : ∀ (v : Int32) (u : SModel) (H : Heap) (locs : List Loc) (ls : Array Slot) (pc : Nat), decode b_Model_wind pc = .ok (.ireturn, 1) → (v = res.1 ∧ u = res.2) → va_P (dC, dI) vwCl (uw_Model ad_md cA_md u) H → va_D A (uw_Model ad_md cA_md u) → va_S A s.heap H locs → W p l e (headSpec w_Model_wind ({ frames := 2, cells := 0, slots := 0, locals := 52 })).room s m ([.ref (ad_md 0), .int x1, .int x2, .int (bI x3)] : List Value).toArray below meth c H locs 0 0 (MQ below (va_Qi (fun (r : Int32) (u : SModel) => r = res.1 ∧ u = res.2) (fun (u : SModel) (t : State) => va_P (dC, dI) vwCl (uw_Model ad_md cA_md u) t.heap ∧ va_K (dC, dI) vwCl [(cA_md 1, .int), (cA_md 2, .int), (cA_md 3, .int), (cA_md 4, .int), (cA_md 5, .int), (cA_md 6, .int), (cA_md 7, .int), (cA_md 8, .int), (cA_md 9, .boolean), (cA_md 10, .int), (cA_md 11, .int), (cA_md 12, .int), (cA_md 13, .int)] t ∧ va_D A (uw_Model ad_md cA_md u)) A) ([.ref (ad_md 0), .int x1, .int x2, .int (bI x3)] : List Value).toArray s 0 0 A) (F0 m pc ls [.int v]) := fun v u H locs ls pc hd hp hP hD hS => W.iret (v := v) hx hb hr (fun t ht hW => ⟨⟨v, u, rfl, hp, by rw [ht]; exact hP, va_K.moved hW.alike hK, hD⟩, hS.F ht⟩) hS.2.2 hd
  generalize (MQ below (va_Qi (fun (r : Int32) (u : SModel) => r = res.1 ∧ u = res.2) (fun (u : SModel) (t : State) => va_P (dC, dI) vwCl (uw_Model ad_md cA_md u) t.heap ∧ va_K (dC, dI) vwCl [(cA_md 1, .int), (cA_md 2, .int), (cA_md 3, .int), (cA_md 4, .int), (cA_md 5, .int), (cA_md 6, .int), (cA_md 7, .int), (cA_md 8, .int), (cA_md 9, .boolean), (cA_md 10, .int), (cA_md 11, .int), (cA_md 12, .int), (cA_md 13, .int)] t ∧ va_D A (uw_Model ad_md cA_md u)) A) ([.ref (ad_md 0), .int x1, .int x2, .int (bI x3)] : List Value).toArray s 0 0 A) = Q at ret ⊢
  have w_112 : ∀ (n : Nat) (md : SModel) (y4 : Int32) (H : Heap) (locs : List Loc) (ls : Array Slot), f_Model_wind_112 n md y4 = some res → va_P (dC, dI) vwCl (uw_Model ad_md cA_md md) H → va_D A (uw_Model ad_md cA_md md) → va_S A s.heap H locs → lv_has ls 5 [(0, .ref (ad_md 0)), (4, .int y4)] → W p l e (headSpec w_Model_wind ({ frames := 2, cells := 0, slots := 0, locals := 52 })).room s m ([.ref (ad_md 0), .int x1, .int x2, .int (bI x3)] : List Value).toArray below meth c H locs 0 0 Q (F0 m 112 ls []) := by
    intro n
    induction n with
    | zero =>
      intro md y4 H locs ls hf hP hD hS hl
      rw [f_Model_wind_112] at hf; cases hf
    | succ n ih =>
      intro md y4 H locs ls hf hP hD hS hl
      rw [f_Model_wind_112] at hf
      refine lv_iload hx hb d_Model_wind_112 (lv_at hl 1 rfl) ?_
      refine lv_aload_n hx hb d_Model_wind_114 rfl (lv_at hl 0 rfl) ?_
      refine va_get (D := (dC, dI)) (ci := 6) (v := .int md.2.2.2.2.2.2.1.1) (C := "HazardTablesModel") (T := F_Model) (N := 30) hx hb hts hin_Model hown hK hP 0 rfl rfl 19 (by decide) fl_179 (fun _ h9 => h9) rfl d_Model_wind_115 ?_
      refine lv_icmp_ge (tgt := 182) hx hb d_Model_wind_118 (by decide) (fun hc16 => ?_) (fun hc16 => ?_)
      · have hf := hf_t hf hc16
        refine lv_aload_n hx hb d_Model_wind_182 rfl (lv_at hl 0 rfl) ?_
        refine va_get (D := (dC, dI)) (ci := 6) (v := .int md.2.2.2.2.2.2.1.2.2.2.2.1) (C := "HazardTablesModel") (T := F_Model) (N := 30) hx hb hts hin_Model hown hK hP 0 rfl rfl 23 (by decide) fl_185 (fun _ h9 => h9) rfl d_Model_wind_183 ?_
        exact ret md.2.2.2.2.2.2.1.2.2.2.2.1 md H locs ls 186 d_Model_wind_186 (hf_e hf) hP hD hS
      · have hf := hf_f hf hc16
        refine lv_aload_n hx hb d_Model_wind_121 rfl (lv_at hl 0 rfl) ?_
        refine va_get (D := (dC, dI)) (ci := 6) (v := .ref (ad_md 9)) (C := "HazardTablesModel") (T := F_Model) (N := 30) hx hb hts hin_Model hown hK hP 0 rfl rfl 22 (by decide) fl_45 (fun _ h9 => h9) rfl d_Model_wind_122 ?_
        refine lv_iload hx hb d_Model_wind_125 (lv_at hl 1 rfl) ?_
        obtain ⟨hi17, hf⟩ := hf_g hf
        refine va_zald hx hb hK hP 9 8 rfl rfl hi17 d_Model_wind_127 ?_
        refine lv_if_ne (tgt := 176) hx hb d_Model_wind_128 (by decide) (fun hc18 => ?_) (fun hc18 => ?_)
        · have hf := hf_f hf hc18
          refine lv_iinc (v := y4 + (1 : Int32)) (lv' := [(4, .int (y4 + (1 : Int32))), (0, .ref (ad_md 0))]) hx hb d_Model_wind_176 hl (k := 1) rfl rfl (by decide) rfl (fun ls hl => ?_)
          refine lv_goto (tgt := 112) hx hb d_Model_wind_179 (by decide) ?_
          exact ih md (y4 + (1 : Int32)) H locs ls hf hP hD hS (lv_sub hl [1, 0] rfl)
        · have hf := hf_t hf hc18
          refine lv_aload_n hx hb d_Model_wind_131 rfl (lv_at hl 0 rfl) ?_
          refine lv_aload_n hx hb d_Model_wind_132 rfl (lv_at hl 0 rfl) ?_
          refine va_get (D := (dC, dI)) (ci := 6) (v := .ref (ad_md 7)) (C := "HazardTablesModel") (T := F_Model) (N := 30) hx hb hts hin_Model hown hK hP 0 rfl rfl 20 (by decide) fl_39 (fun _ h9 => h9) rfl d_Model_wind_133 ?_
          refine lv_iload hx hb d_Model_wind_136 (lv_at hl 1 rfl) ?_
          obtain ⟨hi19, hf⟩ := hf_g hf
          refine va_iald hx hb hK hP 7 6 rfl rfl hi19 d_Model_wind_138 ?_
          refine lv_aload_n hx hb d_Model_wind_139 rfl (lv_at hl 0 rfl) ?_
          refine va_get (D := (dC, dI)) (ci := 6) (v := .ref (ad_md 8)) (C := "HazardTablesModel") (T := F_Model) (N := 30) hx hb hts hin_Model hown hK hP 0 rfl rfl 21 (by decide) fl_42 (fun _ h9 => h9) rfl d_Model_wind_140 ?_
          refine lv_iload hx hb d_Model_wind_143 (lv_at hl 1 rfl) ?_
          obtain ⟨hi20, hf⟩ := hf_g hf
          refine va_iald hx hb hK hP 8 7 rfl rfl hi20 d_Model_wind_145 ?_
          obtain ⟨u21, hu21, hf⟩ := Option.bind_eq_some_iff.mp hf
          refine cl_i (wc := (uw_Model ad_md cA_md md)) (wr := []) (tysC := [(cA_md 1, .int), (cA_md 2, .int), (cA_md 3, .int), (cA_md 4, .int), (cA_md 5, .int), (cA_md 6, .int), (cA_md 7, .int), (cA_md 8, .int), (cA_md 9, .boolean), (cA_md 10, .int), (cA_md 11, .int), (cA_md 12, .int), (cA_md 13, .int)]) (wu := fun (u : Unit) => (uw_Model ad_md cA_md md)) (wn := fun (u : Unit) => (uw_Model ad_md cA_md md)) [0, 1, 2, 3, 4, 5, 6, 7, 8, 9, 10, 11, 12, 13] [] [0, 1, 2, 3, 4, 5, 6, 7, 8, 9, 10, 11, 12, 13] [0, 1, 2, 3, 4, 5, 6, 7, 8, 9, 10, 11, 12] hP hD hS hA hK rfl rfl (by decide +kernel) (by decide +kernel) (by decide +kernel) rfl (fun _ => rfl) (by decide +kernel) (fun hPc hKc hDc => (va_runV (As := [.int (md.2.2.2.2.2.2.1.2.1 y4.toNatClampNeg), .int (md.2.2.2.2.2.2.1.2.2.1 y4.toNatClampNeg)]) (rest := []) ⟨hx, hb, hml, hown, hts⟩ (k_Model_isIn l dC dI ad_md cA_md H.size md (md.2.2.2.2.2.2.1.2.1 y4.toNatClampNeg) (md.2.2.2.2.2.2.1.2.2.1 y4.toNatClampNeg) u21 hu21) (cwV 2 hts (gV wd_978 wd_980 wd_41 wd_49 wd_981) rfl rfl rfl (by decide +kernel) ⟨Nat.le_of_ble_eq_true rfl, Nat.le_of_ble_eq_true rfl⟩) (cl_preV hPc hKc hDc hN (ci := 6) 0 rfl rfl) rfl rfl hl.1 rfl (lv_room (Nat.le_of_ble_eq_true rfl)) d_Model_wind_146 ⟨Nat.le_of_ble_eq_true rfl, Nat.le_of_ble_eq_true rfl⟩)) (fun r u H locs hw hP hD hS => ?_)
          have hw := hw.symm
          subst hw
          have hP : va_P (dC, dI) vwCl (uw_Model ad_md cA_md md) H := hP
          have hD : va_D A (uw_Model ad_md cA_md md) := hD
          refine lv_if_ne (tgt := 155) hx hb d_Model_wind_149 (by decide) (fun hc22 => ?_) (fun hc22 => ?_)
          · have hf := hf_f hf hc22
            refine lv_aload_n hx hb d_Model_wind_155 rfl (lv_at hl 0 rfl) ?_
            refine va_get (D := (dC, dI)) (ci := 6) (v := .ref (ad_md 10)) (C := "HazardTablesModel") (T := F_Model) (N := 30) hx hb hts hin_Model hown hK hP 0 rfl rfl 24 (by decide) fl_49 (fun _ h9 => h9) rfl d_Model_wind_156 ?_
            refine lv_aload_n hx hb d_Model_wind_159 rfl (lv_at hl 0 rfl) ?_
            refine va_get (D := (dC, dI)) (ci := 6) (v := .int md.2.2.2.2.2.2.1.2.2.2.2.1) (C := "HazardTablesModel") (T := F_Model) (N := 30) hx hb hts hin_Model hown hK hP 0 rfl rfl 23 (by decide) fl_185 (fun _ h9 => h9) rfl d_Model_wind_160 ?_
            refine lv_iload hx hb d_Model_wind_163 (lv_at hl 1 rfl) ?_
            obtain ⟨hi23, hf⟩ := hf_g hf
            refine va_iast hx hb hK hP hD hS 10 9 rfl rfl hi23 d_Model_wind_165 (fun H locs hP hD hS => ?_)
            have hP : va_P (dC, dI) vwCl (uw_Model ad_md cA_md (md.1, md.2.1, md.2.2.1, md.2.2.2.1, md.2.2.2.2.1, md.2.2.2.2.2.1, (md.2.2.2.2.2.2.1.1, md.2.2.2.2.2.2.1.2.1, md.2.2.2.2.2.2.1.2.2.1, md.2.2.2.2.2.2.1.2.2.2.1, md.2.2.2.2.2.2.1.2.2.2.2.1, upd md.2.2.2.2.2.2.1.2.2.2.2.2 md.2.2.2.2.2.2.1.2.2.2.2.1.toNatClampNeg y4), md.2.2.2.2.2.2.2.1, md.2.2.2.2.2.2.2.2)) H := hP
            have hD : va_D A (uw_Model ad_md cA_md (md.1, md.2.1, md.2.2.1, md.2.2.2.1, md.2.2.2.2.1, md.2.2.2.2.2.1, (md.2.2.2.2.2.2.1.1, md.2.2.2.2.2.2.1.2.1, md.2.2.2.2.2.2.1.2.2.1, md.2.2.2.2.2.2.1.2.2.2.1, md.2.2.2.2.2.2.1.2.2.2.2.1, upd md.2.2.2.2.2.2.1.2.2.2.2.2 md.2.2.2.2.2.2.1.2.2.2.2.1.toNatClampNeg y4), md.2.2.2.2.2.2.2.1, md.2.2.2.2.2.2.2.2)) := hD
            refine lv_aload_n hx hb d_Model_wind_166 rfl (lv_at hl 0 rfl) ?_
            refine lv_dup hx hb d_Model_wind_167 rfl ?_
            refine va_get (D := (dC, dI)) (ci := 6) (v := .int md.2.2.2.2.2.2.1.2.2.2.2.1) (C := "HazardTablesModel") (T := F_Model) (N := 30) hx hb hts hin_Model hown hK hP 0 rfl rfl 23 (by decide) fl_185 (fun _ h9 => h9) rfl d_Model_wind_168 ?_
            refine lv_iconst (v := (1 : Int32)) hx hb d_Model_wind_171 (by decide) ?_
            refine lv_iadd hx hb d_Model_wind_172 ?_
            refine va_put (D := (dC, dI)) (ci := 6) (v := .int (md.2.2.2.2.2.2.1.2.2.2.2.1 + (1 : Int32))) (ty := .int) (C := "HazardTablesModel") (T := F_Model) (N := 30) hx hb hts hin_Model t_Model t_Model_ok n_Model hown hK hP hD hS 0 rfl rfl 23 (by decide) fl_185 (fun _ h9 => h9) rfl (by decide +kernel) rfl rfl (Nat.le_of_ble_eq_true rfl) d_Model_wind_173 (fun H locs hP hD hS => ?_)
            have hP : va_P (dC, dI) vwCl (uw_Model ad_md cA_md (md.1, md.2.1, md.2.2.1, md.2.2.2.1, md.2.2.2.2.1, md.2.2.2.2.2.1, (md.2.2.2.2.2.2.1.1, md.2.2.2.2.2.2.1.2.1, md.2.2.2.2.2.2.1.2.2.1, md.2.2.2.2.2.2.1.2.2.2.1, md.2.2.2.2.2.2.1.2.2.2.2.1 + (1 : Int32), upd md.2.2.2.2.2.2.1.2.2.2.2.2 md.2.2.2.2.2.2.1.2.2.2.2.1.toNatClampNeg y4), md.2.2.2.2.2.2.2.1, md.2.2.2.2.2.2.2.2)) H := hP
            have hD : va_D A (uw_Model ad_md cA_md (md.1, md.2.1, md.2.2.1, md.2.2.2.1, md.2.2.2.2.1, md.2.2.2.2.2.1, (md.2.2.2.2.2.2.1.1, md.2.2.2.2.2.2.1.2.1, md.2.2.2.2.2.2.1.2.2.1, md.2.2.2.2.2.2.1.2.2.2.1, md.2.2.2.2.2.2.1.2.2.2.2.1 + (1 : Int32), upd md.2.2.2.2.2.2.1.2.2.2.2.2 md.2.2.2.2.2.2.1.2.2.2.2.1.toNatClampNeg y4), md.2.2.2.2.2.2.2.1, md.2.2.2.2.2.2.2.2)) := hD
            refine lv_iinc (v := y4 + (1 : Int32)) (lv' := [(4, .int (y4 + (1 : Int32))), (0, .ref (ad_md 0))]) hx hb d_Model_wind_176 hl (k := 1) rfl rfl (by decide) rfl (fun ls hl => ?_)
            refine lv_goto (tgt := 112) hx hb d_Model_wind_179 (by decide) ?_
            exact ih (md.1, md.2.1, md.2.2.1, md.2.2.2.1, md.2.2.2.2.1, md.2.2.2.2.2.1, (md.2.2.2.2.2.2.1.1, md.2.2.2.2.2.2.1.2.1, md.2.2.2.2.2.2.1.2.2.1, md.2.2.2.2.2.2.1.2.2.2.1, md.2.2.2.2.2.2.1.2.2.2.2.1 + (1 : Int32), upd md.2.2.2.2.2.2.1.2.2.2.2.2 md.2.2.2.2.2.2.1.2.2.2.2.1.toNatClampNeg y4), md.2.2.2.2.2.2.2.1, md.2.2.2.2.2.2.2.2) (y4 + (1 : Int32)) H locs ls hf hP hD hS (lv_sub hl [1, 0] rfl)
          · have hf := hf_t hf hc22
            refine lv_goto (tgt := 176) hx hb d_Model_wind_152 (by decide) ?_
            refine lv_iinc (v := y4 + (1 : Int32)) (lv' := [(4, .int (y4 + (1 : Int32))), (0, .ref (ad_md 0))]) hx hb d_Model_wind_176 hl (k := 1) rfl rfl (by decide) rfl (fun ls hl => ?_)
            refine lv_goto (tgt := 112) hx hb d_Model_wind_179 (by decide) ?_
            exact ih md (y4 + (1 : Int32)) H locs ls hf hP hD hS (lv_sub hl [1, 0] rfl)
  have w_49 : ∀ (n : Nat) (md : SModel) (y1 : Int32) (y2 : Int32) (y3 : Bool) (y4 : Int32) (H : Heap) (locs : List Loc) (ls : Array Slot), f_Model_wind_49 n md y1 y2 y3 y4 = some res → va_P (dC, dI) vwCl (uw_Model ad_md cA_md md) H → va_D A (uw_Model ad_md cA_md md) → va_S A s.heap H locs → lv_has ls 5 [(0, .ref (ad_md 0)), (1, .int y1), (2, .int y2), (3, .int (bI y3)), (4, .int y4)] → W p l e (headSpec w_Model_wind ({ frames := 2, cells := 0, slots := 0, locals := 52 })).room s m ([.ref (ad_md 0), .int x1, .int x2, .int (bI x3)] : List Value).toArray below meth c H locs 0 0 Q (F0 m 49 ls []) := by
    intro n
    induction n with
    | zero =>
      intro md y1 y2 y3 y4 H locs ls hf hP hD hS hl
      rw [f_Model_wind_49] at hf; cases hf
    | succ n ih =>
      intro md y1 y2 y3 y4 H locs ls hf hP hD hS hl
      rw [f_Model_wind_49] at hf
      refine lv_iload hx hb d_Model_wind_49 (lv_at hl 4 rfl) ?_
      refine lv_aload_n hx hb d_Model_wind_51 rfl (lv_at hl 0 rfl) ?_
      refine va_get (D := (dC, dI)) (ci := 6) (v := .int md.2.2.2.2.2.2.1.1) (C := "HazardTablesModel") (T := F_Model) (N := 30) hx hb hts hin_Model hown hK hP 0 rfl rfl 19 (by decide) fl_179 (fun _ h9 => h9) rfl d_Model_wind_52 ?_
      refine lv_icmp_ge (tgt := 89) hx hb d_Model_wind_55 (by decide) (fun hc11 => ?_) (fun hc11 => ?_)
      · have hf := hf_t hf hc11
        refine lv_aload_n hx hb d_Model_wind_89 rfl (lv_at hl 0 rfl) ?_
        refine lv_iload_n hx hb d_Model_wind_90 rfl (lv_at hl 1 rfl) ?_
        refine va_put (D := (dC, dI)) (ci := 6) (v := .int y1) (ty := .int) (C := "HazardTablesModel") (T := F_Model) (N := 30) hx hb hts hin_Model t_Model t_Model_ok n_Model hown hK hP hD hS 0 rfl rfl 16 (by decide) fl_32 (fun _ h9 => h9) rfl (by decide +kernel) rfl rfl (Nat.le_of_ble_eq_true rfl) d_Model_wind_91 (fun H locs hP hD hS => ?_)
        have hP : va_P (dC, dI) vwCl (uw_Model ad_md cA_md (md.1, md.2.1, md.2.2.1, md.2.2.2.1, md.2.2.2.2.1, (y1, md.2.2.2.2.2.1.2.1, md.2.2.2.2.2.1.2.2), md.2.2.2.2.2.2.1, md.2.2.2.2.2.2.2.1, md.2.2.2.2.2.2.2.2)) H := hP
        have hD : va_D A (uw_Model ad_md cA_md (md.1, md.2.1, md.2.2.1, md.2.2.2.1, md.2.2.2.2.1, (y1, md.2.2.2.2.2.1.2.1, md.2.2.2.2.2.1.2.2), md.2.2.2.2.2.2.1, md.2.2.2.2.2.2.2.1, md.2.2.2.2.2.2.2.2)) := hD
        refine lv_aload_n hx hb d_Model_wind_94 rfl (lv_at hl 0 rfl) ?_
        refine lv_iload_n hx hb d_Model_wind_95 rfl (lv_at hl 2 rfl) ?_
        refine va_put (D := (dC, dI)) (ci := 6) (v := .int y2) (ty := .int) (C := "HazardTablesModel") (T := F_Model) (N := 30) hx hb hts hin_Model t_Model t_Model_ok n_Model hown hK hP hD hS 0 rfl rfl 17 (by decide) fl_171 (fun _ h9 => h9) rfl (by decide +kernel) rfl rfl (Nat.le_of_ble_eq_true rfl) d_Model_wind_96 (fun H locs hP hD hS => ?_)
        have hP : va_P (dC, dI) vwCl (uw_Model ad_md cA_md (md.1, md.2.1, md.2.2.1, md.2.2.2.1, md.2.2.2.2.1, (y1, y2, md.2.2.2.2.2.1.2.2), md.2.2.2.2.2.2.1, md.2.2.2.2.2.2.2.1, md.2.2.2.2.2.2.2.2)) H := hP
        have hD : va_D A (uw_Model ad_md cA_md (md.1, md.2.1, md.2.2.1, md.2.2.2.1, md.2.2.2.2.1, (y1, y2, md.2.2.2.2.2.1.2.2), md.2.2.2.2.2.2.1, md.2.2.2.2.2.2.2.1, md.2.2.2.2.2.2.2.2)) := hD
        refine lv_aload_n hx hb d_Model_wind_99 rfl (lv_at hl 0 rfl) ?_
        refine lv_iload_n hx hb d_Model_wind_100 rfl (lv_at hl 3 rfl) ?_
        refine va_put (D := (dC, dI)) (ci := 6) (v := .int (bI y3)) (ty := .boolean) (C := "HazardTablesModel") (T := F_Model) (N := 30) hx hb hts hin_Model t_Model t_Model_ok n_Model hown hK hP hD hS 0 rfl rfl 18 (by decide) fl_35 (fun _ h9 => h9) rfl (by decide +kernel) (nar_bI y3) (fit_bI y3) (Nat.le_of_ble_eq_true rfl) d_Model_wind_101 (fun H locs hP hD hS => ?_)
        have hP : va_P (dC, dI) vwCl (uw_Model ad_md cA_md (md.1, md.2.1, md.2.2.1, md.2.2.2.1, md.2.2.2.2.1, (y1, y2, y3), md.2.2.2.2.2.2.1, md.2.2.2.2.2.2.2.1, md.2.2.2.2.2.2.2.2)) H := hP
        have hD : va_D A (uw_Model ad_md cA_md (md.1, md.2.1, md.2.2.1, md.2.2.2.1, md.2.2.2.2.1, (y1, y2, y3), md.2.2.2.2.2.2.1, md.2.2.2.2.2.2.2.1, md.2.2.2.2.2.2.2.2)) := hD
        refine lv_aload_n hx hb d_Model_wind_104 rfl (lv_at hl 0 rfl) ?_
        refine lv_iconst (v := (0 : Int32)) hx hb d_Model_wind_105 (by decide) ?_
        refine va_put (D := (dC, dI)) (ci := 6) (v := .int (0 : Int32)) (ty := .int) (C := "HazardTablesModel") (T := F_Model) (N := 30) hx hb hts hin_Model t_Model t_Model_ok n_Model hown hK hP hD hS 0 rfl rfl 23 (by decide) fl_185 (fun _ h9 => h9) rfl (by decide +kernel) rfl rfl (Nat.le_of_ble_eq_true rfl) d_Model_wind_106 (fun H locs hP hD hS => ?_)
        have hP : va_P (dC, dI) vwCl (uw_Model ad_md cA_md (md.1, md.2.1, md.2.2.1, md.2.2.2.1, md.2.2.2.2.1, (y1, y2, y3), (md.2.2.2.2.2.2.1.1, md.2.2.2.2.2.2.1.2.1, md.2.2.2.2.2.2.1.2.2.1, md.2.2.2.2.2.2.1.2.2.2.1, (0 : Int32), md.2.2.2.2.2.2.1.2.2.2.2.2), md.2.2.2.2.2.2.2.1, md.2.2.2.2.2.2.2.2)) H := hP
        have hD : va_D A (uw_Model ad_md cA_md (md.1, md.2.1, md.2.2.1, md.2.2.2.1, md.2.2.2.2.1, (y1, y2, y3), (md.2.2.2.2.2.2.1.1, md.2.2.2.2.2.2.1.2.1, md.2.2.2.2.2.2.1.2.2.1, md.2.2.2.2.2.2.1.2.2.2.1, (0 : Int32), md.2.2.2.2.2.2.1.2.2.2.2.2), md.2.2.2.2.2.2.2.1, md.2.2.2.2.2.2.2.2)) := hD
        refine lv_iconst (v := (0 : Int32)) hx hb d_Model_wind_109 (by decide) ?_
        refine lv_istore (lv' := [(4, .int (0 : Int32)), (0, .ref (ad_md 0)), (1, .int y1), (2, .int y2), (3, .int (bI y3))]) hx hb d_Model_wind_110 hl (by decide) rfl (fun ls hl => ?_)
        exact w_112 4096 (md.1, md.2.1, md.2.2.1, md.2.2.2.1, md.2.2.2.2.1, (y1, y2, y3), (md.2.2.2.2.2.2.1.1, md.2.2.2.2.2.2.1.2.1, md.2.2.2.2.2.2.1.2.2.1, md.2.2.2.2.2.2.1.2.2.2.1, (0 : Int32), md.2.2.2.2.2.2.1.2.2.2.2.2), md.2.2.2.2.2.2.2.1, md.2.2.2.2.2.2.2.2) (0 : Int32) H locs ls hf hP hD hS (lv_sub hl [1, 0] rfl)
      · have hf := hf_f hf hc11
        refine lv_aload_n hx hb d_Model_wind_58 rfl (lv_at hl 0 rfl) ?_
        refine va_get (D := (dC, dI)) (ci := 6) (v := .ref (ad_md 9)) (C := "HazardTablesModel") (T := F_Model) (N := 30) hx hb hts hin_Model hown hK hP 0 rfl rfl 22 (by decide) fl_45 (fun _ h9 => h9) rfl d_Model_wind_59 ?_
        refine lv_iload hx hb d_Model_wind_62 (lv_at hl 4 rfl) ?_
        refine lv_aload_n hx hb d_Model_wind_64 rfl (lv_at hl 0 rfl) ?_
        refine lv_aload_n hx hb d_Model_wind_65 rfl (lv_at hl 0 rfl) ?_
        refine va_get (D := (dC, dI)) (ci := 6) (v := .ref (ad_md 7)) (C := "HazardTablesModel") (T := F_Model) (N := 30) hx hb hts hin_Model hown hK hP 0 rfl rfl 20 (by decide) fl_39 (fun _ h9 => h9) rfl d_Model_wind_66 ?_
        refine lv_iload hx hb d_Model_wind_69 (lv_at hl 4 rfl) ?_
        obtain ⟨hi12, hf⟩ := hf_g hf
        refine va_iald hx hb hK hP 7 6 rfl rfl hi12 d_Model_wind_71 ?_
        refine lv_aload_n hx hb d_Model_wind_72 rfl (lv_at hl 0 rfl) ?_
        refine va_get (D := (dC, dI)) (ci := 6) (v := .ref (ad_md 8)) (C := "HazardTablesModel") (T := F_Model) (N := 30) hx hb hts hin_Model hown hK hP 0 rfl rfl 21 (by decide) fl_42 (fun _ h9 => h9) rfl d_Model_wind_73 ?_
        refine lv_iload hx hb d_Model_wind_76 (lv_at hl 4 rfl) ?_
        obtain ⟨hi13, hf⟩ := hf_g hf
        refine va_iald hx hb hK hP 8 7 rfl rfl hi13 d_Model_wind_78 ?_
        obtain ⟨u14, hu14, hf⟩ := Option.bind_eq_some_iff.mp hf
        refine cl_i (wc := (uw_Model ad_md cA_md md)) (wr := []) (tysC := [(cA_md 1, .int), (cA_md 2, .int), (cA_md 3, .int), (cA_md 4, .int), (cA_md 5, .int), (cA_md 6, .int), (cA_md 7, .int), (cA_md 8, .int), (cA_md 9, .boolean), (cA_md 10, .int), (cA_md 11, .int), (cA_md 12, .int), (cA_md 13, .int)]) (wu := fun (u : Unit) => (uw_Model ad_md cA_md md)) (wn := fun (u : Unit) => (uw_Model ad_md cA_md md)) [0, 1, 2, 3, 4, 5, 6, 7, 8, 9, 10, 11, 12, 13] [] [0, 1, 2, 3, 4, 5, 6, 7, 8, 9, 10, 11, 12, 13] [0, 1, 2, 3, 4, 5, 6, 7, 8, 9, 10, 11, 12] hP hD hS hA hK rfl rfl (by decide +kernel) (by decide +kernel) (by decide +kernel) rfl (fun _ => rfl) (by decide +kernel) (fun hPc hKc hDc => (va_runV (As := [.int (md.2.2.2.2.2.2.1.2.1 y4.toNatClampNeg), .int (md.2.2.2.2.2.2.1.2.2.1 y4.toNatClampNeg)]) (rest := [.int y4, .ref (ad_md 9)]) ⟨hx, hb, hml, hown, hts⟩ (k_Model_isIn l dC dI ad_md cA_md H.size md (md.2.2.2.2.2.2.1.2.1 y4.toNatClampNeg) (md.2.2.2.2.2.2.1.2.2.1 y4.toNatClampNeg) u14 hu14) (cwV 2 hts (gV wd_978 wd_980 wd_41 wd_49 wd_981) rfl rfl rfl (by decide +kernel) ⟨Nat.le_of_ble_eq_true rfl, Nat.le_of_ble_eq_true rfl⟩) (cl_preV hPc hKc hDc hN (ci := 6) 0 rfl rfl) rfl rfl hl.1 rfl (lv_room (Nat.le_of_ble_eq_true rfl)) d_Model_wind_79 ⟨Nat.le_of_ble_eq_true rfl, Nat.le_of_ble_eq_true rfl⟩)) (fun r u H locs hw hP hD hS => ?_)
        have hw := hw.symm
        subst hw
        have hP : va_P (dC, dI) vwCl (uw_Model ad_md cA_md md) H := hP
        have hD : va_D A (uw_Model ad_md cA_md md) := hD
        obtain ⟨hi15, hf⟩ := hf_g hf
        refine va_zast hx hb hK hP hD hS 9 8 rfl rfl hi15 d_Model_wind_82 (fun H locs hP hD hS => ?_)
        have hP : va_P (dC, dI) vwCl (uw_Model ad_md cA_md (md.1, md.2.1, md.2.2.1, md.2.2.2.1, md.2.2.2.2.1, md.2.2.2.2.2.1, (md.2.2.2.2.2.2.1.1, md.2.2.2.2.2.2.1.2.1, md.2.2.2.2.2.2.1.2.2.1, upd md.2.2.2.2.2.2.1.2.2.2.1 y4.toNatClampNeg (vp_nar .boolean (bI u14)), md.2.2.2.2.2.2.1.2.2.2.2.1, md.2.2.2.2.2.2.1.2.2.2.2.2), md.2.2.2.2.2.2.2.1, md.2.2.2.2.2.2.2.2)) H := hP
        have hD : va_D A (uw_Model ad_md cA_md (md.1, md.2.1, md.2.2.1, md.2.2.2.1, md.2.2.2.2.1, md.2.2.2.2.2.1, (md.2.2.2.2.2.2.1.1, md.2.2.2.2.2.2.1.2.1, md.2.2.2.2.2.2.1.2.2.1, upd md.2.2.2.2.2.2.1.2.2.2.1 y4.toNatClampNeg (vp_nar .boolean (bI u14)), md.2.2.2.2.2.2.1.2.2.2.2.1, md.2.2.2.2.2.2.1.2.2.2.2.2), md.2.2.2.2.2.2.2.1, md.2.2.2.2.2.2.2.2)) := hD
        refine lv_iinc (v := y4 + (1 : Int32)) (lv' := [(4, .int (y4 + (1 : Int32))), (0, .ref (ad_md 0)), (1, .int y1), (2, .int y2), (3, .int (bI y3))]) hx hb d_Model_wind_83 hl (k := 4) rfl rfl (by decide) rfl (fun ls hl => ?_)
        refine lv_goto (tgt := 49) hx hb d_Model_wind_86 (by decide) ?_
        exact ih (md.1, md.2.1, md.2.2.1, md.2.2.2.1, md.2.2.2.2.1, md.2.2.2.2.2.1, (md.2.2.2.2.2.2.1.1, md.2.2.2.2.2.2.1.2.1, md.2.2.2.2.2.2.1.2.2.1, upd md.2.2.2.2.2.2.1.2.2.2.1 y4.toNatClampNeg (vp_nar .boolean (bI u14)), md.2.2.2.2.2.2.1.2.2.2.2.1, md.2.2.2.2.2.2.1.2.2.2.2.2), md.2.2.2.2.2.2.2.1, md.2.2.2.2.2.2.2.2) y1 y2 y3 (y4 + (1 : Int32)) H locs ls hf hP hD hS (lv_sub hl [1, 2, 3, 4, 0] rfl)
  have w_31 : ∀ (md : SModel) (y1 : Int32) (y2 : Int32) (y3 : Bool) (H : Heap) (locs : List Loc) (ls : Array Slot), f_Model_wind_31 md y1 y2 y3 = some res → va_P (dC, dI) vwCl (uw_Model ad_md cA_md md) H → va_D A (uw_Model ad_md cA_md md) → va_S A s.heap H locs → lv_has ls 5 [(0, .ref (ad_md 0)), (1, .int y1), (2, .int y2), (3, .int (bI y3))] → W p l e (headSpec w_Model_wind ({ frames := 2, cells := 0, slots := 0, locals := 52 })).room s m ([.ref (ad_md 0), .int x1, .int x2, .int (bI x3)] : List Value).toArray below meth c H locs 0 0 Q (F0 m 31 ls [.ref (ad_md 0)]) := by
    intro md y1 y2 y3 H locs ls hf hP hD hS hl
    rw [f_Model_wind_31] at hf
    refine lv_iconst (v := (1 : Int32)) hx hb d_Model_wind_31 (by decide) ?_
    refine lv_goto (tgt := 36) hx hb d_Model_wind_32 (by decide) ?_
    refine lv_iconst (v := (1 : Int32)) hx hb d_Model_wind_36 (by decide) ?_
    refine lv_iconst (v := (1 : Int32)) hx hb d_Model_wind_37 (by decide) ?_
    obtain ⟨u7, hu7, hf⟩ := Option.bind_eq_some_iff.mp hf
    refine cl_i (wc := (uw_Model ad_md cA_md md)) (wr := []) (tysC := [(cA_md 1, .int), (cA_md 2, .int), (cA_md 3, .int), (cA_md 4, .int), (cA_md 5, .int), (cA_md 6, .int), (cA_md 7, .int), (cA_md 8, .int), (cA_md 9, .boolean), (cA_md 10, .int), (cA_md 11, .int), (cA_md 12, .int), (cA_md 13, .int)]) (wu := fun (u : SModel) => (uw_Model ad_md cA_md u)) (wn := fun (u : SModel) => (uw_Model ad_md cA_md u)) [0, 1, 2, 3, 4, 5, 6, 7, 8, 9, 10, 11, 12, 13] [] [0, 1, 2, 3, 4, 5, 6, 7, 8, 9, 10, 11, 12, 13] [0, 1, 2, 3, 4, 5, 6, 7, 8, 9, 10, 11, 12] hP hD hS hA hK rfl rfl (by decide +kernel) (by decide +kernel) (by decide +kernel) rfl (fun _ => rfl) (by decide +kernel) (fun hPc hKc hDc => (va_runV (As := [.int (1 : Int32), .int (1 : Int32), .int (1 : Int32)]) (rest := []) ⟨hx, hb, hml, hown, hts⟩ (k_Model_goes l dC dI ad_md cA_md H.size md true true true u7 hu7) (cwV 3 hts (gV wd_850 wd_852 wd_22 wd_49 wd_853) rfl rfl rfl (by decide +kernel) ⟨Nat.le_of_ble_eq_true rfl, Nat.le_of_ble_eq_true rfl⟩) (cl_preV hPc hKc hDc hN (ci := 6) 0 rfl rfl) rfl rfl hl.1 rfl (lv_room (Nat.le_of_ble_eq_true rfl)) d_Model_wind_38 ⟨Nat.le_of_ble_eq_true rfl, Nat.le_of_ble_eq_true rfl⟩)) (fun r u H locs hw hP hD hS => ?_)
    obtain ⟨hw1, hw2⟩ := hw
    have hw1 := hw1.symm
    have hw2 := hw2.symm
    subst hw1
    subst hw2
    have hP : va_P (dC, dI) vwCl (uw_Model ad_md cA_md u7.2) H := hP
    have hD : va_D A (uw_Model ad_md cA_md u7.2) := hD
    refine lv_if_ne (tgt := 46) hx hb d_Model_wind_41 (by decide) (fun hc8 => ?_) (fun hc8 => ?_)
    · have hf := hf_f hf hc8
      refine lv_iconst (v := (0 : Int32)) hx hb d_Model_wind_46 (by decide) ?_
      refine lv_istore (lv' := [(4, .int (0 : Int32)), (0, .ref (ad_md 0)), (1, .int y1), (2, .int y2), (3, .int (bI y3))]) hx hb d_Model_wind_47 hl (by decide) rfl (fun ls hl => ?_)
      exact w_49 4096 u7.2 y1 y2 y3 (0 : Int32) H locs ls hf hP hD hS (lv_sub hl [1, 2, 3, 4, 0] rfl)
    · have hf := hf_t hf hc8
      refine lv_iconst (v := (0 : Int32)) hx hb d_Model_wind_44 (by decide) ?_
      exact ret (0 : Int32) u7.2 H locs ls 45 d_Model_wind_45 (hf_e hf) hP hD hS
  have w_35 : ∀ (md : SModel) (y1 : Int32) (y2 : Int32) (y3 : Bool) (H : Heap) (locs : List Loc) (ls : Array Slot), f_Model_wind_35 md y1 y2 y3 = some res → va_P (dC, dI) vwCl (uw_Model ad_md cA_md md) H → va_D A (uw_Model ad_md cA_md md) → va_S A s.heap H locs → lv_has ls 5 [(0, .ref (ad_md 0)), (1, .int y1), (2, .int y2), (3, .int (bI y3))] → W p l e (headSpec w_Model_wind ({ frames := 2, cells := 0, slots := 0, locals := 52 })).room s m ([.ref (ad_md 0), .int x1, .int x2, .int (bI x3)] : List Value).toArray below meth c H locs 0 0 Q (F0 m 35 ls [.ref (ad_md 0)]) := by
    intro md y1 y2 y3 H locs ls hf hP hD hS hl
    rw [f_Model_wind_35] at hf
    refine lv_iconst (v := (0 : Int32)) hx hb d_Model_wind_35 (by decide) ?_
    refine lv_iconst (v := (1 : Int32)) hx hb d_Model_wind_36 (by decide) ?_
    refine lv_iconst (v := (1 : Int32)) hx hb d_Model_wind_37 (by decide) ?_
    obtain ⟨u9, hu9, hf⟩ := Option.bind_eq_some_iff.mp hf
    refine cl_i (wc := (uw_Model ad_md cA_md md)) (wr := []) (tysC := [(cA_md 1, .int), (cA_md 2, .int), (cA_md 3, .int), (cA_md 4, .int), (cA_md 5, .int), (cA_md 6, .int), (cA_md 7, .int), (cA_md 8, .int), (cA_md 9, .boolean), (cA_md 10, .int), (cA_md 11, .int), (cA_md 12, .int), (cA_md 13, .int)]) (wu := fun (u : SModel) => (uw_Model ad_md cA_md u)) (wn := fun (u : SModel) => (uw_Model ad_md cA_md u)) [0, 1, 2, 3, 4, 5, 6, 7, 8, 9, 10, 11, 12, 13] [] [0, 1, 2, 3, 4, 5, 6, 7, 8, 9, 10, 11, 12, 13] [0, 1, 2, 3, 4, 5, 6, 7, 8, 9, 10, 11, 12] hP hD hS hA hK rfl rfl (by decide +kernel) (by decide +kernel) (by decide +kernel) rfl (fun _ => rfl) (by decide +kernel) (fun hPc hKc hDc => (va_runV (As := [.int (0 : Int32), .int (1 : Int32), .int (1 : Int32)]) (rest := []) ⟨hx, hb, hml, hown, hts⟩ (k_Model_goes l dC dI ad_md cA_md H.size md false true true u9 hu9) (cwV 3 hts (gV wd_850 wd_852 wd_22 wd_49 wd_853) rfl rfl rfl (by decide +kernel) ⟨Nat.le_of_ble_eq_true rfl, Nat.le_of_ble_eq_true rfl⟩) (cl_preV hPc hKc hDc hN (ci := 6) 0 rfl rfl) rfl rfl hl.1 rfl (lv_room (Nat.le_of_ble_eq_true rfl)) d_Model_wind_38 ⟨Nat.le_of_ble_eq_true rfl, Nat.le_of_ble_eq_true rfl⟩)) (fun r u H locs hw hP hD hS => ?_)
    obtain ⟨hw1, hw2⟩ := hw
    have hw1 := hw1.symm
    have hw2 := hw2.symm
    subst hw1
    subst hw2
    have hP : va_P (dC, dI) vwCl (uw_Model ad_md cA_md u9.2) H := hP
    have hD : va_D A (uw_Model ad_md cA_md u9.2) := hD
    refine lv_if_ne (tgt := 46) hx hb d_Model_wind_41 (by decide) (fun hc10 => ?_) (fun hc10 => ?_)
    · have hf := hf_f hf hc10
      refine lv_iconst (v := (0 : Int32)) hx hb d_Model_wind_46 (by decide) ?_
      refine lv_istore (lv' := [(4, .int (0 : Int32)), (0, .ref (ad_md 0)), (1, .int y1), (2, .int y2), (3, .int (bI y3))]) hx hb d_Model_wind_47 hl (by decide) rfl (fun ls hl => ?_)
      exact w_49 4096 u9.2 y1 y2 y3 (0 : Int32) H locs ls hf hP hD hS (lv_sub hl [1, 2, 3, 4, 0] rfl)
    · have hf := hf_t hf hc10
      refine lv_iconst (v := (0 : Int32)) hx hb d_Model_wind_44 (by decide) ?_
      exact ret (0 : Int32) u9.2 H locs ls 45 d_Model_wind_45 (hf_e hf) hP hD hS
  have hl := lv_entry ([.ref (ad_md 0), .int x1, .int x2, .int (bI x3)]) (n := 5) (Nat.le_of_ble_eq_true rfl)
  rw [lg_entry_eq]
  generalize (lg_sl ([.ref (ad_md 0), .int x1, .int x2, .int (bI x3)]) ++ List.replicate (5 - (lg_sl ([.ref (ad_md 0), .int x1, .int x2, .int (bI x3)])).length) Slot.unset).toArray = ls at hl ⊢
  have hl : lv_has ls 5 [(0, .ref (ad_md 0)), (1, .int x1), (2, .int x2), (3, .int (bI x3))] := hl
  have hf := hf
  rw [f_Model_wind] at hf
  obtain ⟨H, hH⟩ : ∃ H : Heap, H = s.heap := ⟨_, rfl⟩
  obtain ⟨locs, hlocs⟩ : ∃ L : List Loc, L = [] := ⟨_, rfl⟩
  have hP : va_P (dC, dI) vwCl (uw_Model ad_md cA_md md) H := by rw [hH]; exact hP
  have hS : va_S A s.heap H locs := by rw [hH, hlocs]; exact hS
  show W p l e (headSpec w_Model_wind ({ frames := 2, cells := 0, slots := 0, locals := 52 })).room s m ([.ref (ad_md 0), .int x1, .int x2, .int (bI x3)] : List Value).toArray below meth c s.heap [] 0 0 Q (F0 m 0 ls [])
  suffices hgo : W p l e (headSpec w_Model_wind ({ frames := 2, cells := 0, slots := 0, locals := 52 })).room s m ([.ref (ad_md 0), .int x1, .int x2, .int (bI x3)] : List Value).toArray below meth c H locs 0 0 Q (F0 m 0 ls []) by rw [hH, hlocs] at hgo; exact hgo
  clear hH hlocs
  refine lv_aload_n hx hb d_Model_wind_0 rfl (lv_at hl 0 rfl) ?_
  refine lv_iload_n hx hb d_Model_wind_1 rfl (lv_at hl 1 rfl) ?_
  refine lv_bipush (v := (-100 : Int32)) hx hb d_Model_wind_2 (by decide) ?_
  refine lv_bipush (v := (100 : Int32)) hx hb d_Model_wind_4 (by decide) ?_
  obtain ⟨u1, hu1, hf⟩ := Option.bind_eq_some_iff.mp hf
  refine cl_i (wc := []) (wr := (uw_Model ad_md cA_md md)) (tysC := []) (wu := fun (u : Unit) => []) (wn := fun (u : Unit) => (uw_Model ad_md cA_md md)) [] [0, 1, 2, 3, 4, 5, 6, 7, 8, 9, 10, 11, 12, 13] [0, 1, 2, 3, 4, 5, 6, 7, 8, 9, 10, 11, 12, 13] [] hP hD hS hA hK rfl rfl (by decide +kernel) (by decide +kernel) (by decide +kernel) rfl (fun _ => rfl) (by decide +kernel) (fun hPc hKc hDc => (va_runS (As := [.int x1, .int (-100 : Int32), .int (100 : Int32)]) (rest := [.ref (ad_md 0)]) ⟨hx, hb, hml, hown, hts⟩ (k_Model_within l dC dI  H.size x1 (-100 : Int32) (100 : Int32) u1 hu1) (cwS 3 hts (gS wd_847 wd_848 wd_49 wd_849) rfl rfl rfl (by decide +kernel) ⟨Nat.le_of_ble_eq_true rfl, Nat.le_of_ble_eq_true rfl⟩) (cl_preS hPc hKc hDc hN) rfl rfl hl.1 rfl (lv_room (Nat.le_of_ble_eq_true rfl)) d_Model_wind_6 ⟨Nat.le_of_ble_eq_true rfl, Nat.le_of_ble_eq_true rfl⟩)) (fun r u H locs hw hP hD hS => ?_)
  have hw := hw.symm
  subst hw
  have hP : va_P (dC, dI) vwCl (uw_Model ad_md cA_md md) H := hP
  have hD : va_D A (uw_Model ad_md cA_md md) := hD
  refine lv_if_eq (tgt := 35) hx hb d_Model_wind_9 (by decide) (fun hc2 => ?_) (fun hc2 => ?_)
  · have hf := hf_t hf hc2
    exact w_35 md x1 x2 x3 H locs ls hf hP hD hS (lv_sub hl [0, 1, 2, 3] rfl)
  · have hf := hf_f hf hc2
    refine lv_iload_n hx hb d_Model_wind_12 rfl (lv_at hl 2 rfl) ?_
    refine lv_bipush (v := (-100 : Int32)) hx hb d_Model_wind_13 (by decide) ?_
    refine lv_bipush (v := (100 : Int32)) hx hb d_Model_wind_15 (by decide) ?_
    obtain ⟨u3, hu3, hf⟩ := Option.bind_eq_some_iff.mp hf
    refine cl_i (wc := []) (wr := (uw_Model ad_md cA_md md)) (tysC := []) (wu := fun (u : Unit) => []) (wn := fun (u : Unit) => (uw_Model ad_md cA_md md)) [] [0, 1, 2, 3, 4, 5, 6, 7, 8, 9, 10, 11, 12, 13] [0, 1, 2, 3, 4, 5, 6, 7, 8, 9, 10, 11, 12, 13] [] hP hD hS hA hK rfl rfl (by decide +kernel) (by decide +kernel) (by decide +kernel) rfl (fun _ => rfl) (by decide +kernel) (fun hPc hKc hDc => (va_runS (As := [.int x2, .int (-100 : Int32), .int (100 : Int32)]) (rest := [.ref (ad_md 0)]) ⟨hx, hb, hml, hown, hts⟩ (k_Model_within l dC dI  H.size x2 (-100 : Int32) (100 : Int32) u3 hu3) (cwS 3 hts (gS wd_847 wd_848 wd_49 wd_849) rfl rfl rfl (by decide +kernel) ⟨Nat.le_of_ble_eq_true rfl, Nat.le_of_ble_eq_true rfl⟩) (cl_preS hPc hKc hDc hN) rfl rfl hl.1 rfl (lv_room (Nat.le_of_ble_eq_true rfl)) d_Model_wind_17 ⟨Nat.le_of_ble_eq_true rfl, Nat.le_of_ble_eq_true rfl⟩)) (fun r u H locs hw hP hD hS => ?_)
    have hw := hw.symm
    subst hw
    have hP : va_P (dC, dI) vwCl (uw_Model ad_md cA_md md) H := hP
    have hD : va_D A (uw_Model ad_md cA_md md) := hD
    refine lv_if_eq (tgt := 35) hx hb d_Model_wind_20 (by decide) (fun hc4 => ?_) (fun hc4 => ?_)
    · have hf := hf_t hf hc4
      exact w_35 md x1 x2 x3 H locs ls hf hP hD hS (lv_sub hl [0, 1, 2, 3] rfl)
    · have hf := hf_f hf hc4
      refine lv_iload_n hx hb d_Model_wind_23 rfl (lv_at hl 1 rfl) ?_
      refine lv_if_ne (tgt := 31) hx hb d_Model_wind_24 (by decide) (fun hc5 => ?_) (fun hc5 => ?_)
      · have hf := hf_f hf hc5
        exact w_31 md x1 x2 x3 H locs ls hf hP hD hS (lv_sub hl [0, 1, 2, 3] rfl)
      · have hf := hf_t hf hc5
        refine lv_iload_n hx hb d_Model_wind_27 rfl (lv_at hl 2 rfl) ?_
        refine lv_if_eq (tgt := 35) hx hb d_Model_wind_28 (by decide) (fun hc6 => ?_) (fun hc6 => ?_)
        · have hf := hf_t hf hc6
          exact w_35 md x1 x2 x3 H locs ls hf hP hD hS (lv_sub hl [0, 1, 2, 3] rfl)
        · have hf := hf_f hf hc6
          exact w_31 md x1 x2 x3 H locs ls hf hP hD hS (lv_sub hl [0, 1, 2, 3] rfl)
noncomputable def f_Model_fresh_10  (md : SModel) (y1 : Int32) (z1 : Bool) : Option (Int32 × SModel) :=
  (Option.bind (f_Model_goes md z1 true true) fun u2 =>
    (if (bI u2.1) = 0 then
      (some ((0 : Int32), u2.2))
     else
      (if u2.2.2.2.2.2.2.2.1.2.2.2.2.1 ≤ y1 then
        (some ((-1 : Int32), u2.2))
       else
        (if inb y1 40 then
          (some (u2.2.2.2.2.2.2.2.1.2.2.2.2.2 y1.toNatClampNeg, u2.2))
         else none)
       )
     )
   )
noncomputable def f_Model_fresh (md : SModel) (x1 : Int32) : Option (Int32 × SModel) :=
  (if x1 < 0 then
    (f_Model_fresh_10 md x1 false)
   else
    (f_Model_fresh_10 md x1 true)
   )
set_option maxHeartbeats 4000000 in
set_option maxRecDepth 100000 in
theorem k_Model_fresh (l : Launch) (dC : Nat → ClassId) (dI : Nat → Nat → Nat) (ad_md : Nat → Nat) (cA_md : Nat → ClassId) (sz : Nat) (md : SModel) (x1 : Int32) (res : Int32 × SModel) (hf : f_Model_fresh md x1 = some res) : Met l y_Model_fresh w_Model_fresh ({ frames := 1, cells := 0, slots := 0, locals := 23 }) (cPc (dC, dI) (uw_Model ad_md cA_md md) [(cA_md 1, .int), (cA_md 2, .int), (cA_md 3, .int), (cA_md 4, .int), (cA_md 5, .int), (cA_md 6, .int), (cA_md 7, .int), (cA_md 8, .int), (cA_md 9, .boolean), (cA_md 10, .int), (cA_md 11, .int), (cA_md 12, .int), (cA_md 13, .int)] sz [.ref (ad_md 0), .int x1]) (va_Qi (fun (r : Int32) (u : SModel) => r = res.1 ∧ u = res.2) (fun (u : SModel) (t : State) => va_P (dC, dI) vwCl (uw_Model ad_md cA_md u) t.heap ∧ va_K (dC, dI) vwCl [(cA_md 1, .int), (cA_md 2, .int), (cA_md 3, .int), (cA_md 4, .int), (cA_md 5, .int), (cA_md 6, .int), (cA_md 7, .int), (cA_md 8, .int), (cA_md 9, .boolean), (cA_md 10, .int), (cA_md 11, .int), (cA_md 12, .int), (cA_md 13, .int)] t ∧ va_D (va_A (uw_Model ad_md cA_md md) sz) (uw_Model ad_md cA_md u)) (va_A (uw_Model ad_md cA_md md) sz)) 0 0 (va_A (uw_Model ad_md cA_md md) sz) := by
  refine Met.ofW (cc := b_Model_fresh) (maxL := 2) (ret := (some .int)) (by decide) rfl ?_
  intro p e s m args below meth c s₁ B hml hv
  obtain ⟨rfl, hsz, hP, hK, hD0, hN⟩ := hv
  have hx := B.exec
  have hb := B.bytes
  have hr := B.returns
  have hts := atoms_spec (ws := w_Model_fresh) B.pre
  have hown : s.vm.findClass "HazardTablesModel" = some m.cls := findClass_of_methodNamed B.named
  have hlocks := B.notSynchronized
  subst hsz
  have hD := hD0.self (sz := s.heap.size)
  generalize hAe : va_A (uw_Model ad_md cA_md md) s.heap.size = A at hD ⊢
  have hA : ∀ q : Nat, s.heap.size ≤ q → A q := fun q h => by rw [← hAe]; exact Or.inr h
  have hS : va_S A s.heap s.heap [] := va_S.rf
  have hP : va_P (dC, dI) vwCl (uw_Model ad_md cA_md md) s.heap := hP
  have fl_185 := (hts _ (List.mem_cons_of_mem _ wd_771))
  have fl_49 := (hts _ (List.mem_cons_of_mem _ wd_772))
  have hin_Model : ∀ w ∈ u_ws "HazardTablesModel" F_Model 30, w ∈ w_Model_fresh := fun w h => List.mem_cons_of_mem _ (hinA_Model w h)
  have ret : ∀ (v : Int32) (u : SModel) (H : Heap) (locs : List Loc) (ls : Array Slot) (pc : Nat), decode b_Model_fresh pc = .ok (.ireturn, 1) → (v = res.1 ∧ u = res.2) → va_P (dC, dI) vwCl (uw_Model ad_md cA_md u) H → va_D A (uw_Model ad_md cA_md u) → va_S A s.heap H locs → W p l e (headSpec w_Model_fresh ({ frames := 1, cells := 0, slots := 0, locals := 23 })).room s m ([.ref (ad_md 0), .int x1] : List Value).toArray below meth c H locs 0 0 (MQ below (va_Qi (fun (r : Int32) (u : SModel) => r = res.1 ∧ u = res.2) (fun (u : SModel) (t : State) => va_P (dC, dI) vwCl (uw_Model ad_md cA_md u) t.heap ∧ va_K (dC, dI) vwCl [(cA_md 1, .int), (cA_md 2, .int), (cA_md 3, .int), (cA_md 4, .int), (cA_md 5, .int), (cA_md 6, .int), (cA_md 7, .int), (cA_md 8, .int), (cA_md 9, .boolean), (cA_md 10, .int), (cA_md 11, .int), (cA_md 12, .int), (cA_md 13, .int)] t ∧ va_D A (uw_Model ad_md cA_md u)) A) ([.ref (ad_md 0), .int x1] : List Value).toArray s 0 0 A) (F0 m pc ls [.int v]) := fun v u H locs ls pc hd hp hP hD hS => W.iret (v := v) hx hb hr (fun t ht hW => ⟨⟨v, u, rfl, hp, by rw [ht]; exact hP, va_K.moved hW.alike hK, hD⟩, hS.F ht⟩) hS.2.2 hd
  generalize (MQ below (va_Qi (fun (r : Int32) (u : SModel) => r = res.1 ∧ u = res.2) (fun (u : SModel) (t : State) => va_P (dC, dI) vwCl (uw_Model ad_md cA_md u) t.heap ∧ va_K (dC, dI) vwCl [(cA_md 1, .int), (cA_md 2, .int), (cA_md 3, .int), (cA_md 4, .int), (cA_md 5, .int), (cA_md 6, .int), (cA_md 7, .int), (cA_md 8, .int), (cA_md 9, .boolean), (cA_md 10, .int), (cA_md 11, .int), (cA_md 12, .int), (cA_md 13, .int)] t ∧ va_D A (uw_Model ad_md cA_md u)) A) ([.ref (ad_md 0), .int x1] : List Value).toArray s 0 0 A) = Q at ret ⊢
  have w_10 : ∀ (md : SModel) (y1 : Int32) (z1 : Bool) (H : Heap) (locs : List Loc) (ls : Array Slot), f_Model_fresh_10 md y1 z1 = some res → va_P (dC, dI) vwCl (uw_Model ad_md cA_md md) H → va_D A (uw_Model ad_md cA_md md) → va_S A s.heap H locs → lv_has ls 2 [(0, .ref (ad_md 0)), (1, .int y1)] → W p l e (headSpec w_Model_fresh ({ frames := 1, cells := 0, slots := 0, locals := 23 })).room s m ([.ref (ad_md 0), .int x1] : List Value).toArray below meth c H locs 0 0 Q (F0 m 10 ls [.int (bI z1), .ref (ad_md 0)]) := by
    intro md y1 z1 H locs ls hf hP hD hS hl
    rw [f_Model_fresh_10] at hf
    refine lv_iconst (v := (1 : Int32)) hx hb d_Model_fresh_10 (by decide) ?_
    refine lv_iconst (v := (1 : Int32)) hx hb d_Model_fresh_11 (by decide) ?_
    obtain ⟨u2, hu2, hf⟩ := Option.bind_eq_some_iff.mp hf
    refine cl_i (wc := (uw_Model ad_md cA_md md)) (wr := []) (tysC := [(cA_md 1, .int), (cA_md 2, .int), (cA_md 3, .int), (cA_md 4, .int), (cA_md 5, .int), (cA_md 6, .int), (cA_md 7, .int), (cA_md 8, .int), (cA_md 9, .boolean), (cA_md 10, .int), (cA_md 11, .int), (cA_md 12, .int), (cA_md 13, .int)]) (wu := fun (u : SModel) => (uw_Model ad_md cA_md u)) (wn := fun (u : SModel) => (uw_Model ad_md cA_md u)) [0, 1, 2, 3, 4, 5, 6, 7, 8, 9, 10, 11, 12, 13] [] [0, 1, 2, 3, 4, 5, 6, 7, 8, 9, 10, 11, 12, 13] [0, 1, 2, 3, 4, 5, 6, 7, 8, 9, 10, 11, 12] hP hD hS hA hK rfl rfl (by decide +kernel) (by decide +kernel) (by decide +kernel) rfl (fun _ => rfl) (by decide +kernel) (fun hPc hKc hDc => (va_runV (As := [.int (bI z1), .int (1 : Int32), .int (1 : Int32)]) (rest := []) ⟨hx, hb, hml, hown, hts⟩ (k_Model_goes l dC dI ad_md cA_md H.size md z1 true true u2 hu2) (cwV 3 hts (gV wd_850 wd_852 wd_22 wd_49 wd_853) rfl rfl rfl (by decide +kernel) ⟨Nat.le_of_ble_eq_true rfl, Nat.le_of_ble_eq_true rfl⟩) (cl_preV hPc hKc hDc hN (ci := 6) 0 rfl rfl) rfl rfl hl.1 rfl (lv_room (Nat.le_of_ble_eq_true rfl)) d_Model_fresh_12 ⟨Nat.le_of_ble_eq_true rfl, Nat.le_of_ble_eq_true rfl⟩)) (fun r u H locs hw hP hD hS => ?_)
    obtain ⟨hw1, hw2⟩ := hw
    have hw1 := hw1.symm
    have hw2 := hw2.symm
    subst hw1
    subst hw2
    have hP : va_P (dC, dI) vwCl (uw_Model ad_md cA_md u2.2) H := hP
    have hD : va_D A (uw_Model ad_md cA_md u2.2) := hD
    refine lv_if_ne (tgt := 20) hx hb d_Model_fresh_15 (by decide) (fun hc3 => ?_) (fun hc3 => ?_)
    · have hf := hf_f hf hc3
      refine lv_iload_n hx hb d_Model_fresh_20 rfl (lv_at hl 1 rfl) ?_
      refine lv_aload_n hx hb d_Model_fresh_21 rfl (lv_at hl 0 rfl) ?_
      refine va_get (D := (dC, dI)) (ci := 6) (v := .int u2.2.2.2.2.2.2.2.1.2.2.2.2.1) (C := "HazardTablesModel") (T := F_Model) (N := 30) hx hb hts hin_Model hown hK hP 0 rfl rfl 23 (by decide) fl_185 (fun _ h9 => h9) rfl d_Model_fresh_22 ?_
      refine lv_icmp_ge (tgt := 37) hx hb d_Model_fresh_25 (by decide) (fun hc4 => ?_) (fun hc4 => ?_)
      · have hf := hf_t hf hc4
        refine lv_iconst (v := (-1 : Int32)) hx hb d_Model_fresh_37 (by decide) ?_
        exact ret (-1 : Int32) u2.2 H locs ls 38 d_Model_fresh_38 (hf_e hf) hP hD hS
      · have hf := hf_f hf hc4
        refine lv_aload_n hx hb d_Model_fresh_28 rfl (lv_at hl 0 rfl) ?_
        refine va_get (D := (dC, dI)) (ci := 6) (v := .ref (ad_md 10)) (C := "HazardTablesModel") (T := F_Model) (N := 30) hx hb hts hin_Model hown hK hP 0 rfl rfl 24 (by decide) fl_49 (fun _ h9 => h9) rfl d_Model_fresh_29 ?_
        refine lv_iload_n hx hb d_Model_fresh_32 rfl (lv_at hl 1 rfl) ?_
        obtain ⟨hi5, hf⟩ := hf_g hf
        refine va_iald hx hb hK hP 10 9 rfl rfl hi5 d_Model_fresh_33 ?_
        refine lv_goto (tgt := 38) hx hb d_Model_fresh_34 (by decide) ?_
        exact ret (u2.2.2.2.2.2.2.2.1.2.2.2.2.2 y1.toNatClampNeg) u2.2 H locs ls 38 d_Model_fresh_38 (hf_e hf) hP hD hS
    · have hf := hf_t hf hc3
      refine lv_iconst (v := (0 : Int32)) hx hb d_Model_fresh_18 (by decide) ?_
      exact ret (0 : Int32) u2.2 H locs ls 19 d_Model_fresh_19 (hf_e hf) hP hD hS
  have hl := lv_entry ([.ref (ad_md 0), .int x1]) (n := 2) (Nat.le_of_ble_eq_true rfl)
  rw [lg_entry_eq]
  generalize (lg_sl ([.ref (ad_md 0), .int x1]) ++ List.replicate (2 - (lg_sl ([.ref (ad_md 0), .int x1])).length) Slot.unset).toArray = ls at hl ⊢
  have hl : lv_has ls 2 [(0, .ref (ad_md 0)), (1, .int x1)] := hl
  have hf := hf
  rw [f_Model_fresh] at hf
  obtain ⟨H, hH⟩ : ∃ H : Heap, H = s.heap := ⟨_, rfl⟩
  obtain ⟨locs, hlocs⟩ : ∃ L : List Loc, L = [] := ⟨_, rfl⟩
  have hP : va_P (dC, dI) vwCl (uw_Model ad_md cA_md md) H := by rw [hH]; exact hP
  have hS : va_S A s.heap H locs := by rw [hH, hlocs]; exact hS
  show W p l e (headSpec w_Model_fresh ({ frames := 1, cells := 0, slots := 0, locals := 23 })).room s m ([.ref (ad_md 0), .int x1] : List Value).toArray below meth c s.heap [] 0 0 Q (F0 m 0 ls [])
  suffices hgo : W p l e (headSpec w_Model_fresh ({ frames := 1, cells := 0, slots := 0, locals := 23 })).room s m ([.ref (ad_md 0), .int x1] : List Value).toArray below meth c H locs 0 0 Q (F0 m 0 ls []) by rw [hH, hlocs] at hgo; exact hgo
  clear hH hlocs
  refine lv_aload_n hx hb d_Model_fresh_0 rfl (lv_at hl 0 rfl) ?_
  refine lv_iload_n hx hb d_Model_fresh_1 rfl (lv_at hl 1 rfl) ?_
  refine lv_if_lt (tgt := 9) hx hb d_Model_fresh_2 (by decide) (fun hc1 => ?_) (fun hc1 => ?_)
  · have hf := hf_t hf hc1
    refine lv_iconst (v := (0 : Int32)) hx hb d_Model_fresh_9 (by decide) ?_
    exact w_10 md x1 false H locs ls hf hP hD hS (lv_sub hl [0, 1] rfl)
  · have hf := hf_f hf hc1
    refine lv_iconst (v := (1 : Int32)) hx hb d_Model_fresh_5 (by decide) ?_
    refine lv_goto (tgt := 10) hx hb d_Model_fresh_6 (by decide) ?_
    exact w_10 md x1 true H locs ls hf hP hD hS (lv_sub hl [0, 1] rfl)
noncomputable def f_Model_in_18  (md : SModel) (y1 : Int32) (y2 : Int32) (z1 : Bool) (z2 : Bool) : Option (Bool × SModel) :=
  (Option.bind (f_Model_goes md z1 z2 true) fun u3 =>
    (if (bI u3.1) = 0 then
      (some (false, u3.2))
     else
      (Option.bind (f_Model_isIn u3.2 y1 y2) fun u5 =>
        (if (bI u5) = 0 then
          (some (false, u3.2))
         else
          (some (true, u3.2))
         )
       )
     )
   )
noncomputable def f_Model_in (md : SModel) (x1 : Int32) (x2 : Int32) : Option (Bool × SModel) :=
  (Option.bind (f_Model_isPoint x1 x2) fun u1 =>
    (if md.2.2.2.2.1.1 ≤ 0 then
      (f_Model_in_18 md x1 x2 u1 false)
     else
      (f_Model_in_18 md x1 x2 u1 true)
     )
   )
set_option maxHeartbeats 4000000 in
set_option maxRecDepth 100000 in
theorem k_Model_in (l : Launch) (dC : Nat → ClassId) (dI : Nat → Nat → Nat) (ad_md : Nat → Nat) (cA_md : Nat → ClassId) (sz : Nat) (md : SModel) (x1 : Int32) (x2 : Int32) (res : Bool × SModel) (hf : f_Model_in md x1 x2 = some res) : Met l y_Model_in w_Model_in ({ frames := 2, cells := 0, slots := 0, locals := 52 }) (cPc (dC, dI) (uw_Model ad_md cA_md md) [(cA_md 1, .int), (cA_md 2, .int), (cA_md 3, .int), (cA_md 4, .int), (cA_md 5, .int), (cA_md 6, .int), (cA_md 7, .int), (cA_md 8, .int), (cA_md 9, .boolean), (cA_md 10, .int), (cA_md 11, .int), (cA_md 12, .int), (cA_md 13, .int)] sz [.ref (ad_md 0), .int x1, .int x2]) (va_Qi (fun (r : Int32) (u : SModel) => r = bI res.1 ∧ u = res.2) (fun (u : SModel) (t : State) => va_P (dC, dI) vwCl (uw_Model ad_md cA_md u) t.heap ∧ va_K (dC, dI) vwCl [(cA_md 1, .int), (cA_md 2, .int), (cA_md 3, .int), (cA_md 4, .int), (cA_md 5, .int), (cA_md 6, .int), (cA_md 7, .int), (cA_md 8, .int), (cA_md 9, .boolean), (cA_md 10, .int), (cA_md 11, .int), (cA_md 12, .int), (cA_md 13, .int)] t ∧ va_D (va_A (uw_Model ad_md cA_md md) sz) (uw_Model ad_md cA_md u)) (va_A (uw_Model ad_md cA_md md) sz)) 0 0 (va_A (uw_Model ad_md cA_md md) sz) := by
  refine Met.ofW (cc := b_Model_in) (maxL := 3) (ret := (some .boolean)) (by decide) rfl ?_
  intro p e s m args below meth c s₁ B hml hv
  obtain ⟨rfl, hsz, hP, hK, hD0, hN⟩ := hv
  have hx := B.exec
  have hb := B.bytes
  have hr := B.returns
  have hts := atoms_spec (ws := w_Model_in) B.pre
  have hown : s.vm.findClass "HazardTablesModel" = some m.cls := findClass_of_methodNamed B.named
  have hlocks := B.notSynchronized
  subst hsz
  have hD := hD0.self (sz := s.heap.size)
  generalize hAe : va_A (uw_Model ad_md cA_md md) s.heap.size = A at hD ⊢
  have hA : ∀ q : Nat, s.heap.size ≤ q → A q := fun q h => by rw [← hAe]; exact Or.inr h
  have hS : va_S A s.heap s.heap [] := va_S.rf
  have hP : va_P (dC, dI) vwCl (uw_Model ad_md cA_md md) s.heap := hP
  have fl_157 := (hts _ (List.mem_cons_of_mem _ wd_760))
  have hin_Model : ∀ w ∈ u_ws "HazardTablesModel" F_Model 30, w ∈ w_Model_in := fun w h => List.mem_cons_of_mem _ (hinA_Model w h)
  have ret : ∀ (v : Bool) (u : SModel) (H : Heap) (locs : List Loc) (ls : Array Slot) (pc : Nat), decode b_Model_in pc = .ok (.ireturn, 1) → (v = res.1 ∧ u = res.2) → va_P (dC, dI) vwCl (uw_Model ad_md cA_md u) H → va_D A (uw_Model ad_md cA_md u) → va_S A s.heap H locs → W p l e (headSpec w_Model_in ({ frames := 2, cells := 0, slots := 0, locals := 52 })).room s m ([.ref (ad_md 0), .int x1, .int x2] : List Value).toArray below meth c H locs 0 0 (MQ below (va_Qi (fun (r : Int32) (u : SModel) => r = bI res.1 ∧ u = res.2) (fun (u : SModel) (t : State) => va_P (dC, dI) vwCl (uw_Model ad_md cA_md u) t.heap ∧ va_K (dC, dI) vwCl [(cA_md 1, .int), (cA_md 2, .int), (cA_md 3, .int), (cA_md 4, .int), (cA_md 5, .int), (cA_md 6, .int), (cA_md 7, .int), (cA_md 8, .int), (cA_md 9, .boolean), (cA_md 10, .int), (cA_md 11, .int), (cA_md 12, .int), (cA_md 13, .int)] t ∧ va_D A (uw_Model ad_md cA_md u)) A) ([.ref (ad_md 0), .int x1, .int x2] : List Value).toArray s 0 0 A) (F0 m pc ls [.int (bI v)]) := fun v u H locs ls pc hd hp hP hD hS => W.zret (v := bI v) (ty := .boolean) hx hb hr (nar_bI v) (fun t ht hW => ⟨⟨bI v, u, rfl, ⟨by rw [hp.1], hp.2⟩, by rw [ht]; exact hP, va_K.moved hW.alike hK, hD⟩, hS.F ht⟩) hS.2.2 hd
  generalize (MQ below (va_Qi (fun (r : Int32) (u : SModel) => r = bI res.1 ∧ u = res.2) (fun (u : SModel) (t : State) => va_P (dC, dI) vwCl (uw_Model ad_md cA_md u) t.heap ∧ va_K (dC, dI) vwCl [(cA_md 1, .int), (cA_md 2, .int), (cA_md 3, .int), (cA_md 4, .int), (cA_md 5, .int), (cA_md 6, .int), (cA_md 7, .int), (cA_md 8, .int), (cA_md 9, .boolean), (cA_md 10, .int), (cA_md 11, .int), (cA_md 12, .int), (cA_md 13, .int)] t ∧ va_D A (uw_Model ad_md cA_md u)) A) ([.ref (ad_md 0), .int x1, .int x2] : List Value).toArray s 0 0 A) = Q at ret ⊢
  have w_18 : ∀ (md : SModel) (y1 : Int32) (y2 : Int32) (z1 : Bool) (z2 : Bool) (H : Heap) (locs : List Loc) (ls : Array Slot), f_Model_in_18 md y1 y2 z1 z2 = some res → va_P (dC, dI) vwCl (uw_Model ad_md cA_md md) H → va_D A (uw_Model ad_md cA_md md) → va_S A s.heap H locs → lv_has ls 3 [(0, .ref (ad_md 0)), (1, .int y1), (2, .int y2)] → W p l e (headSpec w_Model_in ({ frames := 2, cells := 0, slots := 0, locals := 52 })).room s m ([.ref (ad_md 0), .int x1, .int x2] : List Value).toArray below meth c H locs 0 0 Q (F0 m 18 ls [.int (bI z2), .int (bI z1), .ref (ad_md 0)]) := by
    intro md y1 y2 z1 z2 H locs ls hf hP hD hS hl
    rw [f_Model_in_18] at hf
    refine lv_iconst (v := (1 : Int32)) hx hb d_Model_in_18 (by decide) ?_
    obtain ⟨u3, hu3, hf⟩ := Option.bind_eq_some_iff.mp hf
    refine cl_i (wc := (uw_Model ad_md cA_md md)) (wr := []) (tysC := [(cA_md 1, .int), (cA_md 2, .int), (cA_md 3, .int), (cA_md 4, .int), (cA_md 5, .int), (cA_md 6, .int), (cA_md 7, .int), (cA_md 8, .int), (cA_md 9, .boolean), (cA_md 10, .int), (cA_md 11, .int), (cA_md 12, .int), (cA_md 13, .int)]) (wu := fun (u : SModel) => (uw_Model ad_md cA_md u)) (wn := fun (u : SModel) => (uw_Model ad_md cA_md u)) [0, 1, 2, 3, 4, 5, 6, 7, 8, 9, 10, 11, 12, 13] [] [0, 1, 2, 3, 4, 5, 6, 7, 8, 9, 10, 11, 12, 13] [0, 1, 2, 3, 4, 5, 6, 7, 8, 9, 10, 11, 12] hP hD hS hA hK rfl rfl (by decide +kernel) (by decide +kernel) (by decide +kernel) rfl (fun _ => rfl) (by decide +kernel) (fun hPc hKc hDc => (va_runV (As := [.int (bI z1), .int (bI z2), .int (1 : Int32)]) (rest := []) ⟨hx, hb, hml, hown, hts⟩ (k_Model_goes l dC dI ad_md cA_md H.size md z1 z2 true u3 hu3) (cwV 3 hts (gV wd_850 wd_852 wd_22 wd_49 wd_853) rfl rfl rfl (by decide +kernel) ⟨Nat.le_of_ble_eq_true rfl, Nat.le_of_ble_eq_true rfl⟩) (cl_preV hPc hKc hDc hN (ci := 6) 0 rfl rfl) rfl rfl hl.1 rfl (lv_room (Nat.le_of_ble_eq_true rfl)) d_Model_in_19 ⟨Nat.le_of_ble_eq_true rfl, Nat.le_of_ble_eq_true rfl⟩)) (fun r u H locs hw hP hD hS => ?_)
    obtain ⟨hw1, hw2⟩ := hw
    have hw1 := hw1.symm
    have hw2 := hw2.symm
    subst hw1
    subst hw2
    have hP : va_P (dC, dI) vwCl (uw_Model ad_md cA_md u3.2) H := hP
    have hD : va_D A (uw_Model ad_md cA_md u3.2) := hD
    refine lv_if_eq (tgt := 38) hx hb d_Model_in_22 (by decide) (fun hc4 => ?_) (fun hc4 => ?_)
    · have hf := hf_t hf hc4
      refine lv_iconst (v := (0 : Int32)) hx hb d_Model_in_38 (by decide) ?_
      exact ret false u3.2 H locs ls 39 d_Model_in_39 (hf_e hf) hP hD hS
    · have hf := hf_f hf hc4
      refine lv_aload_n hx hb d_Model_in_25 rfl (lv_at hl 0 rfl) ?_
      refine lv_iload_n hx hb d_Model_in_26 rfl (lv_at hl 1 rfl) ?_
      refine lv_iload_n hx hb d_Model_in_27 rfl (lv_at hl 2 rfl) ?_
      obtain ⟨u5, hu5, hf⟩ := Option.bind_eq_some_iff.mp hf
      refine cl_i (wc := (uw_Model ad_md cA_md u3.2)) (wr := []) (tysC := [(cA_md 1, .int), (cA_md 2, .int), (cA_md 3, .int), (cA_md 4, .int), (cA_md 5, .int), (cA_md 6, .int), (cA_md 7, .int), (cA_md 8, .int), (cA_md 9, .boolean), (cA_md 10, .int), (cA_md 11, .int), (cA_md 12, .int), (cA_md 13, .int)]) (wu := fun (u : Unit) => (uw_Model ad_md cA_md u3.2)) (wn := fun (u : Unit) => (uw_Model ad_md cA_md u3.2)) [0, 1, 2, 3, 4, 5, 6, 7, 8, 9, 10, 11, 12, 13] [] [0, 1, 2, 3, 4, 5, 6, 7, 8, 9, 10, 11, 12, 13] [0, 1, 2, 3, 4, 5, 6, 7, 8, 9, 10, 11, 12] hP hD hS hA hK rfl rfl (by decide +kernel) (by decide +kernel) (by decide +kernel) rfl (fun _ => rfl) (by decide +kernel) (fun hPc hKc hDc => (va_runV (As := [.int y1, .int y2]) (rest := []) ⟨hx, hb, hml, hown, hts⟩ (k_Model_isIn l dC dI ad_md cA_md H.size u3.2 y1 y2 u5 hu5) (cwV 2 hts (gV wd_978 wd_980 wd_41 wd_49 wd_981) rfl rfl rfl (by decide +kernel) ⟨Nat.le_of_ble_eq_true rfl, Nat.le_of_ble_eq_true rfl⟩) (cl_preV hPc hKc hDc hN (ci := 6) 0 rfl rfl) rfl rfl hl.1 rfl (lv_room (Nat.le_of_ble_eq_true rfl)) d_Model_in_28 ⟨Nat.le_of_ble_eq_true rfl, Nat.le_of_ble_eq_true rfl⟩)) (fun r u H locs hw hP hD hS => ?_)
      have hw := hw.symm
      subst hw
      have hP : va_P (dC, dI) vwCl (uw_Model ad_md cA_md u3.2) H := hP
      have hD : va_D A (uw_Model ad_md cA_md u3.2) := hD
      refine lv_if_eq (tgt := 38) hx hb d_Model_in_31 (by decide) (fun hc6 => ?_) (fun hc6 => ?_)
      · have hf := hf_t hf hc6
        refine lv_iconst (v := (0 : Int32)) hx hb d_Model_in_38 (by decide) ?_
        exact ret false u3.2 H locs ls 39 d_Model_in_39 (hf_e hf) hP hD hS
      · have hf := hf_f hf hc6
        refine lv_iconst (v := (1 : Int32)) hx hb d_Model_in_34 (by decide) ?_
        refine lv_goto (tgt := 39) hx hb d_Model_in_35 (by decide) ?_
        exact ret true u3.2 H locs ls 39 d_Model_in_39 (hf_e hf) hP hD hS
  have hl := lv_entry ([.ref (ad_md 0), .int x1, .int x2]) (n := 3) (Nat.le_of_ble_eq_true rfl)
  rw [lg_entry_eq]
  generalize (lg_sl ([.ref (ad_md 0), .int x1, .int x2]) ++ List.replicate (3 - (lg_sl ([.ref (ad_md 0), .int x1, .int x2])).length) Slot.unset).toArray = ls at hl ⊢
  have hl : lv_has ls 3 [(0, .ref (ad_md 0)), (1, .int x1), (2, .int x2)] := hl
  have hf := hf
  rw [f_Model_in] at hf
  obtain ⟨H, hH⟩ : ∃ H : Heap, H = s.heap := ⟨_, rfl⟩
  obtain ⟨locs, hlocs⟩ : ∃ L : List Loc, L = [] := ⟨_, rfl⟩
  have hP : va_P (dC, dI) vwCl (uw_Model ad_md cA_md md) H := by rw [hH]; exact hP
  have hS : va_S A s.heap H locs := by rw [hH, hlocs]; exact hS
  show W p l e (headSpec w_Model_in ({ frames := 2, cells := 0, slots := 0, locals := 52 })).room s m ([.ref (ad_md 0), .int x1, .int x2] : List Value).toArray below meth c s.heap [] 0 0 Q (F0 m 0 ls [])
  suffices hgo : W p l e (headSpec w_Model_in ({ frames := 2, cells := 0, slots := 0, locals := 52 })).room s m ([.ref (ad_md 0), .int x1, .int x2] : List Value).toArray below meth c H locs 0 0 Q (F0 m 0 ls []) by rw [hH, hlocs] at hgo; exact hgo
  clear hH hlocs
  refine lv_aload_n hx hb d_Model_in_0 rfl (lv_at hl 0 rfl) ?_
  refine lv_iload_n hx hb d_Model_in_1 rfl (lv_at hl 1 rfl) ?_
  refine lv_iload_n hx hb d_Model_in_2 rfl (lv_at hl 2 rfl) ?_
  obtain ⟨u1, hu1, hf⟩ := Option.bind_eq_some_iff.mp hf
  refine cl_i (wc := []) (wr := (uw_Model ad_md cA_md md)) (tysC := []) (wu := fun (u : Unit) => []) (wn := fun (u : Unit) => (uw_Model ad_md cA_md md)) [] [0, 1, 2, 3, 4, 5, 6, 7, 8, 9, 10, 11, 12, 13] [0, 1, 2, 3, 4, 5, 6, 7, 8, 9, 10, 11, 12, 13] [] hP hD hS hA hK rfl rfl (by decide +kernel) (by decide +kernel) (by decide +kernel) rfl (fun _ => rfl) (by decide +kernel) (fun hPc hKc hDc => (va_runS (As := [.int x1, .int x2]) (rest := [.ref (ad_md 0)]) ⟨hx, hb, hml, hown, hts⟩ (k_Model_isPoint l dC dI  H.size x1 x2 u1 hu1) (cwS 2 hts (gS wd_971 wd_972 wd_49 wd_973) rfl rfl rfl (by decide +kernel) ⟨Nat.le_of_ble_eq_true rfl, Nat.le_of_ble_eq_true rfl⟩) (cl_preS hPc hKc hDc hN) rfl rfl hl.1 rfl (lv_room (Nat.le_of_ble_eq_true rfl)) d_Model_in_3 ⟨Nat.le_of_ble_eq_true rfl, Nat.le_of_ble_eq_true rfl⟩)) (fun r u H locs hw hP hD hS => ?_)
  have hw := hw.symm
  subst hw
  have hP : va_P (dC, dI) vwCl (uw_Model ad_md cA_md md) H := hP
  have hD : va_D A (uw_Model ad_md cA_md md) := hD
  refine lv_aload_n hx hb d_Model_in_6 rfl (lv_at hl 0 rfl) ?_
  refine va_get (D := (dC, dI)) (ci := 6) (v := .int md.2.2.2.2.1.1) (C := "HazardTablesModel") (T := F_Model) (N := 30) hx hb hts hin_Model hown hK hP 0 rfl rfl 12 (by decide) fl_157 (fun _ h9 => h9) rfl d_Model_in_7 ?_
  refine lv_if_le (tgt := 17) hx hb d_Model_in_10 (by decide) (fun hc2 => ?_) (fun hc2 => ?_)
  · have hf := hf_t hf hc2
    refine lv_iconst (v := (0 : Int32)) hx hb d_Model_in_17 (by decide) ?_
    exact w_18 md x1 x2 u1 false H locs ls hf hP hD hS (lv_sub hl [0, 1, 2] rfl)
  · have hf := hf_f hf hc2
    refine lv_iconst (v := (1 : Int32)) hx hb d_Model_in_13 (by decide) ?_
    refine lv_goto (tgt := 18) hx hb d_Model_in_14 (by decide) ?_
    exact w_18 md x1 x2 u1 true H locs ls hf hP hD hS (lv_sub hl [0, 1, 2] rfl)
noncomputable def f_Model_step_53  (md : SModel) (y1 : Int32) (z1 : Int32) (z2 : Int32) : Option (Int32 × SModel) :=
  (if z1 = z2 then
    (some ((1 : Int32), (md.1, md.2.1, md.2.2.1, md.2.2.2.1, (md.2.2.2.2.1.1, md.2.2.2.2.1.2.1, md.2.2.2.2.1.2.2.1, md.2.2.2.2.1.2.2.2.1, (1 : Int32)), md.2.2.2.2.2.1, md.2.2.2.2.2.2.1, md.2.2.2.2.2.2.2.1, md.2.2.2.2.2.2.2.2)))
   else
    (some (y1 + (1 : Int32), (md.1, md.2.1, md.2.2.1, md.2.2.2.1, (md.2.2.2.2.1.1, md.2.2.2.2.1.2.1, md.2.2.2.2.1.2.2.1, md.2.2.2.2.1.2.2.2.1, y1 + (1 : Int32)), md.2.2.2.2.2.1, md.2.2.2.2.2.2.1, md.2.2.2.2.2.2.2.1, md.2.2.2.2.2.2.2.2)))
   )
noncomputable def f_Model_step_28  (md : SModel) (y1 : Int32) (z1 : Bool) (z2 : Bool) : Option (Int32 × SModel) :=
  (Option.bind (f_Model_goes md z1 z2 true) fun u4 =>
    (if (bI u4.1) = 0 then
      (some ((0 : Int32), u4.2))
     else
      (Option.bind (f_Model_strictness u4.2) fun u6 =>
        (if (5 : Int32) ≤ u6 then
          (f_Model_step_53 u4.2 y1 y1 (6 : Int32))
         else
          (f_Model_step_53 u4.2 y1 y1 (3 : Int32))
         )
       )
     )
   )
noncomputable def f_Model_step_27  (md : SModel) (y1 : Int32) (z1 : Bool) : Option (Int32 × SModel) :=
  (f_Model_step_28 md y1 z1 false)
noncomputable def f_Model_step (md : SModel) (x1 : Int32) : Option (Int32 × SModel) :=
  (Option.bind (f_Model_within x1 (1 : Int32) (6 : Int32)) fun u1 =>
    (if md.2.2.2.2.1.1 ≤ 0 then
      (f_Model_step_27 md x1 u1)
     else
      (if x1 = md.2.2.2.2.1.2.2.2.2 then
        (f_Model_step_28 md x1 u1 true)
       else
        (f_Model_step_27 md x1 u1)
       )
     )
   )
set_option maxHeartbeats 4000000 in
set_option maxRecDepth 100000 in
theorem k_Model_step (l : Launch) (dC : Nat → ClassId) (dI : Nat → Nat → Nat) (ad_md : Nat → Nat) (cA_md : Nat → ClassId) (sz : Nat) (md : SModel) (x1 : Int32) (res : Int32 × SModel) (hf : f_Model_step md x1 = some res) : Met l y_Model_step w_Model_step ({ frames := 1, cells := 0, slots := 0, locals := 23 }) (cPc (dC, dI) (uw_Model ad_md cA_md md) [(cA_md 1, .int), (cA_md 2, .int), (cA_md 3, .int), (cA_md 4, .int), (cA_md 5, .int), (cA_md 6, .int), (cA_md 7, .int), (cA_md 8, .int), (cA_md 9, .boolean), (cA_md 10, .int), (cA_md 11, .int), (cA_md 12, .int), (cA_md 13, .int)] sz [.ref (ad_md 0), .int x1]) (va_Qi (fun (r : Int32) (u : SModel) => r = res.1 ∧ u = res.2) (fun (u : SModel) (t : State) => va_P (dC, dI) vwCl (uw_Model ad_md cA_md u) t.heap ∧ va_K (dC, dI) vwCl [(cA_md 1, .int), (cA_md 2, .int), (cA_md 3, .int), (cA_md 4, .int), (cA_md 5, .int), (cA_md 6, .int), (cA_md 7, .int), (cA_md 8, .int), (cA_md 9, .boolean), (cA_md 10, .int), (cA_md 11, .int), (cA_md 12, .int), (cA_md 13, .int)] t ∧ va_D (va_A (uw_Model ad_md cA_md md) sz) (uw_Model ad_md cA_md u)) (va_A (uw_Model ad_md cA_md md) sz)) 0 0 (va_A (uw_Model ad_md cA_md md) sz) := by
  refine Met.ofW (cc := b_Model_step) (maxL := 2) (ret := (some .int)) (by decide) rfl ?_
  intro p e s m args below meth c s₁ B hml hv
  obtain ⟨rfl, hsz, hP, hK, hD0, hN⟩ := hv
  have hx := B.exec
  have hb := B.bytes
  have hr := B.returns
  have hts := atoms_spec (ws := w_Model_step) B.pre
  have hown : s.vm.findClass "HazardTablesModel" = some m.cls := findClass_of_methodNamed B.named
  have hlocks := B.notSynchronized
  subst hsz
  have hD := hD0.self (sz := s.heap.size)
  generalize hAe : va_A (uw_Model ad_md cA_md md) s.heap.size = A at hD ⊢
  have hA : ∀ q : Nat, s.heap.size ≤ q → A q := fun q h => by rw [← hAe]; exact Or.inr h
  have hS : va_S A s.heap s.heap [] := va_S.rf
  have hP : va_P (dC, dI) vwCl (uw_Model ad_md cA_md md) s.heap := hP
  have fl_157 := (hts _ (List.mem_cons_of_mem _ wd_760))
  have fl_52 := (hts _ (List.mem_cons_of_mem _ wd_773))
  have hin_Model : ∀ w ∈ u_ws "HazardTablesModel" F_Model 30, w ∈ w_Model_step := fun w h => List.mem_cons_of_mem _ (hinA_Model w h)
  have ret : ∀ (v : Int32) (u : SModel) (H : Heap) (locs : List Loc) (ls : Array Slot) (pc : Nat), decode b_Model_step pc = .ok (.ireturn, 1) → (v = res.1 ∧ u = res.2) → va_P (dC, dI) vwCl (uw_Model ad_md cA_md u) H → va_D A (uw_Model ad_md cA_md u) → va_S A s.heap H locs → W p l e (headSpec w_Model_step ({ frames := 1, cells := 0, slots := 0, locals := 23 })).room s m ([.ref (ad_md 0), .int x1] : List Value).toArray below meth c H locs 0 0 (MQ below (va_Qi (fun (r : Int32) (u : SModel) => r = res.1 ∧ u = res.2) (fun (u : SModel) (t : State) => va_P (dC, dI) vwCl (uw_Model ad_md cA_md u) t.heap ∧ va_K (dC, dI) vwCl [(cA_md 1, .int), (cA_md 2, .int), (cA_md 3, .int), (cA_md 4, .int), (cA_md 5, .int), (cA_md 6, .int), (cA_md 7, .int), (cA_md 8, .int), (cA_md 9, .boolean), (cA_md 10, .int), (cA_md 11, .int), (cA_md 12, .int), (cA_md 13, .int)] t ∧ va_D A (uw_Model ad_md cA_md u)) A) ([.ref (ad_md 0), .int x1] : List Value).toArray s 0 0 A) (F0 m pc ls [.int v]) := fun v u H locs ls pc hd hp hP hD hS => W.iret (v := v) hx hb hr (fun t ht hW => ⟨⟨v, u, rfl, hp, by rw [ht]; exact hP, va_K.moved hW.alike hK, hD⟩, hS.F ht⟩) hS.2.2 hd
  generalize (MQ below (va_Qi (fun (r : Int32) (u : SModel) => r = res.1 ∧ u = res.2) (fun (u : SModel) (t : State) => va_P (dC, dI) vwCl (uw_Model ad_md cA_md u) t.heap ∧ va_K (dC, dI) vwCl [(cA_md 1, .int), (cA_md 2, .int), (cA_md 3, .int), (cA_md 4, .int), (cA_md 5, .int), (cA_md 6, .int), (cA_md 7, .int), (cA_md 8, .int), (cA_md 9, .boolean), (cA_md 10, .int), (cA_md 11, .int), (cA_md 12, .int), (cA_md 13, .int)] t ∧ va_D A (uw_Model ad_md cA_md u)) A) ([.ref (ad_md 0), .int x1] : List Value).toArray s 0 0 A) = Q at ret ⊢
  have w_53 : ∀ (md : SModel) (y1 : Int32) (z1 : Int32) (z2 : Int32) (H : Heap) (locs : List Loc) (ls : Array Slot), f_Model_step_53 md y1 z1 z2 = some res → va_P (dC, dI) vwCl (uw_Model ad_md cA_md md) H → va_D A (uw_Model ad_md cA_md md) → va_S A s.heap H locs → lv_has ls 2 [(0, .ref (ad_md 0)), (1, .int y1)] → W p l e (headSpec w_Model_step ({ frames := 1, cells := 0, slots := 0, locals := 23 })).room s m ([.ref (ad_md 0), .int x1] : List Value).toArray below meth c H locs 0 0 Q (F0 m 53 ls [.int z2, .int z1, .ref (ad_md 0)]) := by
    intro md y1 z1 z2 H locs ls hf hP hD hS hl
    rw [f_Model_step_53] at hf
    refine lv_icmp_ne (tgt := 60) hx hb d_Model_step_53 (by decide) (fun hc8 => ?_) (fun hc8 => ?_)
    · have hf := hf_f hf hc8
      refine lv_iload_n hx hb d_Model_step_60 rfl (lv_at hl 1 rfl) ?_
      refine lv_iconst (v := (1 : Int32)) hx hb d_Model_step_61 (by decide) ?_
      refine lv_iadd hx hb d_Model_step_62 ?_
      refine va_put (D := (dC, dI)) (ci := 6) (v := .int (y1 + (1 : Int32))) (ty := .int) (C := "HazardTablesModel") (T := F_Model) (N := 30) hx hb hts hin_Model t_Model t_Model_ok n_Model hown hK hP hD hS 0 rfl rfl 25 (by decide) fl_52 (fun _ h9 => h9) rfl (by decide +kernel) rfl rfl (Nat.le_of_ble_eq_true rfl) d_Model_step_63 (fun H locs hP hD hS => ?_)
      have hP : va_P (dC, dI) vwCl (uw_Model ad_md cA_md (md.1, md.2.1, md.2.2.1, md.2.2.2.1, (md.2.2.2.2.1.1, md.2.2.2.2.1.2.1, md.2.2.2.2.1.2.2.1, md.2.2.2.2.1.2.2.2.1, y1 + (1 : Int32)), md.2.2.2.2.2.1, md.2.2.2.2.2.2.1, md.2.2.2.2.2.2.2.1, md.2.2.2.2.2.2.2.2)) H := hP
      have hD : va_D A (uw_Model ad_md cA_md (md.1, md.2.1, md.2.2.1, md.2.2.2.1, (md.2.2.2.2.1.1, md.2.2.2.2.1.2.1, md.2.2.2.2.1.2.2.1, md.2.2.2.2.1.2.2.2.1, y1 + (1 : Int32)), md.2.2.2.2.2.1, md.2.2.2.2.2.2.1, md.2.2.2.2.2.2.2.1, md.2.2.2.2.2.2.2.2)) := hD
      refine lv_aload_n hx hb d_Model_step_66 rfl (lv_at hl 0 rfl) ?_
      refine va_get (D := (dC, dI)) (ci := 6) (v := .int (y1 + (1 : Int32))) (C := "HazardTablesModel") (T := F_Model) (N := 30) hx hb hts hin_Model hown hK hP 0 rfl rfl 25 (by decide) fl_52 (fun _ h9 => h9) rfl d_Model_step_67 ?_
      exact ret (y1 + (1 : Int32)) (md.1, md.2.1, md.2.2.1, md.2.2.2.1, (md.2.2.2.2.1.1, md.2.2.2.2.1.2.1, md.2.2.2.2.1.2.2.1, md.2.2.2.2.1.2.2.2.1, y1 + (1 : Int32)), md.2.2.2.2.2.1, md.2.2.2.2.2.2.1, md.2.2.2.2.2.2.2.1, md.2.2.2.2.2.2.2.2) H locs ls 70 d_Model_step_70 (hf_e hf) hP hD hS
    · have hf := hf_t hf hc8
      refine lv_iconst (v := (1 : Int32)) hx hb d_Model_step_56 (by decide) ?_
      refine lv_goto (tgt := 63) hx hb d_Model_step_57 (by decide) ?_
      refine va_put (D := (dC, dI)) (ci := 6) (v := .int (1 : Int32)) (ty := .int) (C := "HazardTablesModel") (T := F_Model) (N := 30) hx hb hts hin_Model t_Model t_Model_ok n_Model hown hK hP hD hS 0 rfl rfl 25 (by decide) fl_52 (fun _ h9 => h9) rfl (by decide +kernel) rfl rfl (Nat.le_of_ble_eq_true rfl) d_Model_step_63 (fun H locs hP hD hS => ?_)
      have hP : va_P (dC, dI) vwCl (uw_Model ad_md cA_md (md.1, md.2.1, md.2.2.1, md.2.2.2.1, (md.2.2.2.2.1.1, md.2.2.2.2.1.2.1, md.2.2.2.2.1.2.2.1, md.2.2.2.2.1.2.2.2.1, (1 : Int32)), md.2.2.2.2.2.1, md.2.2.2.2.2.2.1, md.2.2.2.2.2.2.2.1, md.2.2.2.2.2.2.2.2)) H := hP
      have hD : va_D A (uw_Model ad_md cA_md (md.1, md.2.1, md.2.2.1, md.2.2.2.1, (md.2.2.2.2.1.1, md.2.2.2.2.1.2.1, md.2.2.2.2.1.2.2.1, md.2.2.2.2.1.2.2.2.1, (1 : Int32)), md.2.2.2.2.2.1, md.2.2.2.2.2.2.1, md.2.2.2.2.2.2.2.1, md.2.2.2.2.2.2.2.2)) := hD
      refine lv_aload_n hx hb d_Model_step_66 rfl (lv_at hl 0 rfl) ?_
      refine va_get (D := (dC, dI)) (ci := 6) (v := .int (1 : Int32)) (C := "HazardTablesModel") (T := F_Model) (N := 30) hx hb hts hin_Model hown hK hP 0 rfl rfl 25 (by decide) fl_52 (fun _ h9 => h9) rfl d_Model_step_67 ?_
      exact ret (1 : Int32) (md.1, md.2.1, md.2.2.1, md.2.2.2.1, (md.2.2.2.2.1.1, md.2.2.2.2.1.2.1, md.2.2.2.2.1.2.2.1, md.2.2.2.2.1.2.2.2.1, (1 : Int32)), md.2.2.2.2.2.1, md.2.2.2.2.2.2.1, md.2.2.2.2.2.2.2.1, md.2.2.2.2.2.2.2.2) H locs ls 70 d_Model_step_70 (hf_e hf) hP hD hS
  have w_28 : ∀ (md : SModel) (y1 : Int32) (z1 : Bool) (z2 : Bool) (H : Heap) (locs : List Loc) (ls : Array Slot), f_Model_step_28 md y1 z1 z2 = some res → va_P (dC, dI) vwCl (uw_Model ad_md cA_md md) H → va_D A (uw_Model ad_md cA_md md) → va_S A s.heap H locs → lv_has ls 2 [(0, .ref (ad_md 0)), (1, .int y1)] → W p l e (headSpec w_Model_step ({ frames := 1, cells := 0, slots := 0, locals := 23 })).room s m ([.ref (ad_md 0), .int x1] : List Value).toArray below meth c H locs 0 0 Q (F0 m 28 ls [.int (bI z2), .int (bI z1), .ref (ad_md 0)]) := by
    intro md y1 z1 z2 H locs ls hf hP hD hS hl
    rw [f_Model_step_28] at hf
    refine lv_iconst (v := (1 : Int32)) hx hb d_Model_step_28 (by decide) ?_
    obtain ⟨u4, hu4, hf⟩ := Option.bind_eq_some_iff.mp hf
    refine cl_i (wc := (uw_Model ad_md cA_md md)) (wr := []) (tysC := [(cA_md 1, .int), (cA_md 2, .int), (cA_md 3, .int), (cA_md 4, .int), (cA_md 5, .int), (cA_md 6, .int), (cA_md 7, .int), (cA_md 8, .int), (cA_md 9, .boolean), (cA_md 10, .int), (cA_md 11, .int), (cA_md 12, .int), (cA_md 13, .int)]) (wu := fun (u : SModel) => (uw_Model ad_md cA_md u)) (wn := fun (u : SModel) => (uw_Model ad_md cA_md u)) [0, 1, 2, 3, 4, 5, 6, 7, 8, 9, 10, 11, 12, 13] [] [0, 1, 2, 3, 4, 5, 6, 7, 8, 9, 10, 11, 12, 13] [0, 1, 2, 3, 4, 5, 6, 7, 8, 9, 10, 11, 12] hP hD hS hA hK rfl rfl (by decide +kernel) (by decide +kernel) (by decide +kernel) rfl (fun _ => rfl) (by decide +kernel) (fun hPc hKc hDc => (va_runV (As := [.int (bI z1), .int (bI z2), .int (1 : Int32)]) (rest := []) ⟨hx, hb, hml, hown, hts⟩ (k_Model_goes l dC dI ad_md cA_md H.size md z1 z2 true u4 hu4) (cwV 3 hts (gV wd_850 wd_852 wd_22 wd_49 wd_853) rfl rfl rfl (by decide +kernel) ⟨Nat.le_of_ble_eq_true rfl, Nat.le_of_ble_eq_true rfl⟩) (cl_preV hPc hKc hDc hN (ci := 6) 0 rfl rfl) rfl rfl hl.1 rfl (lv_room (Nat.le_of_ble_eq_true rfl)) d_Model_step_29 ⟨Nat.le_of_ble_eq_true rfl, Nat.le_of_ble_eq_true rfl⟩)) (fun r u H locs hw hP hD hS => ?_)
    obtain ⟨hw1, hw2⟩ := hw
    have hw1 := hw1.symm
    have hw2 := hw2.symm
    subst hw1
    subst hw2
    have hP : va_P (dC, dI) vwCl (uw_Model ad_md cA_md u4.2) H := hP
    have hD : va_D A (uw_Model ad_md cA_md u4.2) := hD
    refine lv_if_ne (tgt := 37) hx hb d_Model_step_32 (by decide) (fun hc5 => ?_) (fun hc5 => ?_)
    · have hf := hf_f hf hc5
      refine lv_aload_n hx hb d_Model_step_37 rfl (lv_at hl 0 rfl) ?_
      refine lv_iload_n hx hb d_Model_step_38 rfl (lv_at hl 1 rfl) ?_
      refine lv_aload_n hx hb d_Model_step_39 rfl (lv_at hl 0 rfl) ?_
      obtain ⟨u6, hu6, hf⟩ := Option.bind_eq_some_iff.mp hf
      refine cl_i (wc := (uw_Model ad_md cA_md u4.2)) (wr := []) (tysC := [(cA_md 1, .int), (cA_md 2, .int), (cA_md 3, .int), (cA_md 4, .int), (cA_md 5, .int), (cA_md 6, .int), (cA_md 7, .int), (cA_md 8, .int), (cA_md 9, .boolean), (cA_md 10, .int), (cA_md 11, .int), (cA_md 12, .int), (cA_md 13, .int)]) (wu := fun (u : Unit) => (uw_Model ad_md cA_md u4.2)) (wn := fun (u : Unit) => (uw_Model ad_md cA_md u4.2)) [0, 1, 2, 3, 4, 5, 6, 7, 8, 9, 10, 11, 12, 13] [] [0, 1, 2, 3, 4, 5, 6, 7, 8, 9, 10, 11, 12, 13] [0, 1, 2, 3, 4, 5, 6, 7, 8, 9, 10, 11, 12] hP hD hS hA hK rfl rfl (by decide +kernel) (by decide +kernel) (by decide +kernel) rfl (fun _ => rfl) (by decide +kernel) (fun hPc hKc hDc => (va_runV (As := []) (rest := [.int y1, .ref (ad_md 0)]) ⟨hx, hb, hml, hown, hts⟩ (k_Model_strictness l dC dI ad_md cA_md H.size u4.2 u6 hu6) (cwV 0 hts (gV wd_955 wd_957 wd_39 wd_49 wd_958) rfl rfl rfl (by decide +kernel) ⟨Nat.le_of_ble_eq_true rfl, Nat.le_of_ble_eq_true rfl⟩) (cl_preV hPc hKc hDc hN (ci := 6) 0 rfl rfl) rfl rfl hl.1 rfl (lv_room (Nat.le_of_ble_eq_true rfl)) d_Model_step_40 ⟨Nat.le_of_ble_eq_true rfl, Nat.le_of_ble_eq_true rfl⟩)) (fun r u H locs hw hP hD hS => ?_)
      have hw := hw.symm
      subst hw
      have hP : va_P (dC, dI) vwCl (uw_Model ad_md cA_md u4.2) H := hP
      have hD : va_D A (uw_Model ad_md cA_md u4.2) := hD
      refine lv_iconst (v := (5 : Int32)) hx hb d_Model_step_43 (by decide) ?_
      refine lv_icmp_ge (tgt := 51) hx hb d_Model_step_44 (by decide) (fun hc7 => ?_) (fun hc7 => ?_)
      · have hf := hf_t hf hc7
        refine lv_bipush (v := (6 : Int32)) hx hb d_Model_step_51 (by decide) ?_
        exact w_53 u4.2 y1 y1 (6 : Int32) H locs ls hf hP hD hS (lv_sub hl [0, 1] rfl)
      · have hf := hf_f hf hc7
        refine lv_iconst (v := (3 : Int32)) hx hb d_Model_step_47 (by decide) ?_
        refine lv_goto (tgt := 53) hx hb d_Model_step_48 (by decide) ?_
        exact w_53 u4.2 y1 y1 (3 : Int32) H locs ls hf hP hD hS (lv_sub hl [0, 1] rfl)
    · have hf := hf_t hf hc5
      refine lv_iconst (v := (0 : Int32)) hx hb d_Model_step_35 (by decide) ?_
      exact ret (0 : Int32) u4.2 H locs ls 36 d_Model_step_36 (hf_e hf) hP hD hS
  have w_27 : ∀ (md : SModel) (y1 : Int32) (z1 : Bool) (H : Heap) (locs : List Loc) (ls : Array Slot), f_Model_step_27 md y1 z1 = some res → va_P (dC, dI) vwCl (uw_Model ad_md cA_md md) H → va_D A (uw_Model ad_md cA_md md) → va_S A s.heap H locs → lv_has ls 2 [(0, .ref (ad_md 0)), (1, .int y1)] → W p l e (headSpec w_Model_step ({ frames := 1, cells := 0, slots := 0, locals := 23 })).room s m ([.ref (ad_md 0), .int x1] : List Value).toArray below meth c H locs 0 0 Q (F0 m 27 ls [.int (bI z1), .ref (ad_md 0)]) := by
    intro md y1 z1 H locs ls hf hP hD hS hl
    rw [f_Model_step_27] at hf
    refine lv_iconst (v := (0 : Int32)) hx hb d_Model_step_27 (by decide) ?_
    exact w_28 md y1 z1 false H locs ls hf hP hD hS (lv_sub hl [0, 1] rfl)
  have hl := lv_entry ([.ref (ad_md 0), .int x1]) (n := 2) (Nat.le_of_ble_eq_true rfl)
  rw [lg_entry_eq]
  generalize (lg_sl ([.ref (ad_md 0), .int x1]) ++ List.replicate (2 - (lg_sl ([.ref (ad_md 0), .int x1])).length) Slot.unset).toArray = ls at hl ⊢
  have hl : lv_has ls 2 [(0, .ref (ad_md 0)), (1, .int x1)] := hl
  have hf := hf
  rw [f_Model_step] at hf
  obtain ⟨H, hH⟩ : ∃ H : Heap, H = s.heap := ⟨_, rfl⟩
  obtain ⟨locs, hlocs⟩ : ∃ L : List Loc, L = [] := ⟨_, rfl⟩
  have hP : va_P (dC, dI) vwCl (uw_Model ad_md cA_md md) H := by rw [hH]; exact hP
  have hS : va_S A s.heap H locs := by rw [hH, hlocs]; exact hS
  show W p l e (headSpec w_Model_step ({ frames := 1, cells := 0, slots := 0, locals := 23 })).room s m ([.ref (ad_md 0), .int x1] : List Value).toArray below meth c s.heap [] 0 0 Q (F0 m 0 ls [])
  suffices hgo : W p l e (headSpec w_Model_step ({ frames := 1, cells := 0, slots := 0, locals := 23 })).room s m ([.ref (ad_md 0), .int x1] : List Value).toArray below meth c H locs 0 0 Q (F0 m 0 ls []) by rw [hH, hlocs] at hgo; exact hgo
  clear hH hlocs
  refine lv_aload_n hx hb d_Model_step_0 rfl (lv_at hl 0 rfl) ?_
  refine lv_iload_n hx hb d_Model_step_1 rfl (lv_at hl 1 rfl) ?_
  refine lv_iconst (v := (1 : Int32)) hx hb d_Model_step_2 (by decide) ?_
  refine lv_bipush (v := (6 : Int32)) hx hb d_Model_step_3 (by decide) ?_
  obtain ⟨u1, hu1, hf⟩ := Option.bind_eq_some_iff.mp hf
  refine cl_i (wc := []) (wr := (uw_Model ad_md cA_md md)) (tysC := []) (wu := fun (u : Unit) => []) (wn := fun (u : Unit) => (uw_Model ad_md cA_md md)) [] [0, 1, 2, 3, 4, 5, 6, 7, 8, 9, 10, 11, 12, 13] [0, 1, 2, 3, 4, 5, 6, 7, 8, 9, 10, 11, 12, 13] [] hP hD hS hA hK rfl rfl (by decide +kernel) (by decide +kernel) (by decide +kernel) rfl (fun _ => rfl) (by decide +kernel) (fun hPc hKc hDc => (va_runS (As := [.int x1, .int (1 : Int32), .int (6 : Int32)]) (rest := [.ref (ad_md 0)]) ⟨hx, hb, hml, hown, hts⟩ (k_Model_within l dC dI  H.size x1 (1 : Int32) (6 : Int32) u1 hu1) (cwS 3 hts (gS wd_847 wd_848 wd_49 wd_849) rfl rfl rfl (by decide +kernel) ⟨Nat.le_of_ble_eq_true rfl, Nat.le_of_ble_eq_true rfl⟩) (cl_preS hPc hKc hDc hN) rfl rfl hl.1 rfl (lv_room (Nat.le_of_ble_eq_true rfl)) d_Model_step_5 ⟨Nat.le_of_ble_eq_true rfl, Nat.le_of_ble_eq_true rfl⟩)) (fun r u H locs hw hP hD hS => ?_)
  have hw := hw.symm
  subst hw
  have hP : va_P (dC, dI) vwCl (uw_Model ad_md cA_md md) H := hP
  have hD : va_D A (uw_Model ad_md cA_md md) := hD
  refine lv_aload_n hx hb d_Model_step_8 rfl (lv_at hl 0 rfl) ?_
  refine va_get (D := (dC, dI)) (ci := 6) (v := .int md.2.2.2.2.1.1) (C := "HazardTablesModel") (T := F_Model) (N := 30) hx hb hts hin_Model hown hK hP 0 rfl rfl 12 (by decide) fl_157 (fun _ h9 => h9) rfl d_Model_step_9 ?_
  refine lv_if_le (tgt := 27) hx hb d_Model_step_12 (by decide) (fun hc2 => ?_) (fun hc2 => ?_)
  · have hf := hf_t hf hc2
    exact w_27 md x1 u1 H locs ls hf hP hD hS (lv_sub hl [0, 1] rfl)
  · have hf := hf_f hf hc2
    refine lv_iload_n hx hb d_Model_step_15 rfl (lv_at hl 1 rfl) ?_
    refine lv_aload_n hx hb d_Model_step_16 rfl (lv_at hl 0 rfl) ?_
    refine va_get (D := (dC, dI)) (ci := 6) (v := .int md.2.2.2.2.1.2.2.2.2) (C := "HazardTablesModel") (T := F_Model) (N := 30) hx hb hts hin_Model hown hK hP 0 rfl rfl 25 (by decide) fl_52 (fun _ h9 => h9) rfl d_Model_step_17 ?_
    refine lv_icmp_ne (tgt := 27) hx hb d_Model_step_20 (by decide) (fun hc3 => ?_) (fun hc3 => ?_)
    · have hf := hf_f hf hc3
      exact w_27 md x1 u1 H locs ls hf hP hD hS (lv_sub hl [0, 1] rfl)
    · have hf := hf_t hf hc3
      refine lv_iconst (v := (1 : Int32)) hx hb d_Model_step_23 (by decide) ?_
      refine lv_goto (tgt := 28) hx hb d_Model_step_24 (by decide) ?_
      exact w_28 md x1 u1 true H locs ls hf hP hD hS (lv_sub hl [0, 1] rfl)
