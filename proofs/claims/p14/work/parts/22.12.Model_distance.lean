noncomputable def f_Model_distance_54 (k_4 : SModel → Bool → Int32 → Int32 → Option (Int32)) (md : SModel) (y1 : Bool) (y2 : Int32) (y3 : Int32) (z1 : Int32) (z2 : Bool) : Option (Int32) :=
  (if inb (z1 + (bI z2)) 559 then
    (if (md.2.2.2.1.2.2 (z1 + (bI z2)).toNatClampNeg) ≤ y2 then
      (k_4 md y1 y2 (y3 + (1 : Int32)))
     else
      (k_4 md y1 (md.2.2.2.1.2.2 (z1 + (bI z2)).toNatClampNeg) (y3 + (1 : Int32)))
     )
   else none)
noncomputable def f_Model_distance_44 (k_4 : SModel → Bool → Int32 → Int32 → Option (Int32)) (md : SModel) (y1 : Bool) (y2 : Int32) (y3 : Int32) (z1 : Int32) (z2 : Int32) : Option (Int32) :=
  (if (bI y1) = 0 then
    (f_Model_distance_54 k_4 md y1 y2 y3 (z1 + z2) true)
   else
    (f_Model_distance_54 k_4 md y1 y2 y3 (z1 + z2) false)
   )
noncomputable def f_Model_distance_4  : Nat → SModel → Bool → Int32 → Int32 → Option (Int32)
  | 0, _, _, _, _ => none
  | n + 1, md, y1, y2, y3 =>
    (if md.2.2.2.2.1.1 ≤ y3 then
      (some (y2))
     else
      (if inb y3 8 then
        (if inb y3 8 then
          (if (md.2.2.2.2.1.2.2.1 y3.toNatClampNeg) ≤ (200 : Int32) then
            (f_Model_distance_44 (f_Model_distance_4 n) md y1 y2 y3 (((md.2.2.2.2.1.2.2.2.1 y3.toNatClampNeg) * (43 : Int32)) + (4 : Int32)) (0 : Int32))
           else
            (f_Model_distance_44 (f_Model_distance_4 n) md y1 y2 y3 (((md.2.2.2.2.1.2.2.2.1 y3.toNatClampNeg) * (43 : Int32)) + (4 : Int32)) (2 : Int32))
           )
         else none)
       else none)
     )
noncomputable def f_Model_distance (md : SModel) (x1 : Bool) : Option (Int32) :=
  (f_Model_distance_4 4096 md x1 (0 : Int32) (0 : Int32))
set_option maxHeartbeats 4000000 in
set_option maxRecDepth 100000 in
theorem k_Model_distance (l : Launch) (dC : Nat → ClassId) (dI : Nat → Nat → Nat) (ad_md : Nat → Nat) (cA_md : Nat → ClassId) (sz : Nat) (md : SModel) (x1 : Bool) (res : Int32) (hf : f_Model_distance md x1 = some res) : Met l y_Model_distance w_Model_distance ({ frames := 0, cells := 0, slots := 0, locals := 0 }) (cPc (dC, dI) (uw_Model ad_md cA_md md) [(cA_md 1, .int), (cA_md 2, .int), (cA_md 3, .int), (cA_md 4, .int), (cA_md 5, .int), (cA_md 6, .int), (cA_md 7, .int), (cA_md 8, .int), (cA_md 9, .boolean), (cA_md 10, .int), (cA_md 11, .int), (cA_md 12, .int), (cA_md 13, .int)] sz [.ref (ad_md 0), .int (bI x1)]) (va_Qi (fun (r : Int32) (u : Unit) => r = res) (fun (u : Unit) (t : State) => va_P (dC, dI) vwCl (uw_Model ad_md cA_md md) t.heap ∧ va_K (dC, dI) vwCl [(cA_md 1, .int), (cA_md 2, .int), (cA_md 3, .int), (cA_md 4, .int), (cA_md 5, .int), (cA_md 6, .int), (cA_md 7, .int), (cA_md 8, .int), (cA_md 9, .boolean), (cA_md 10, .int), (cA_md 11, .int), (cA_md 12, .int), (cA_md 13, .int)] t ∧ va_D (va_A (uw_Model ad_md cA_md md) sz) (uw_Model ad_md cA_md md)) (va_A (uw_Model ad_md cA_md md) sz)) 0 0 (va_A (uw_Model ad_md cA_md md) sz) := by
  refine Met.ofW (cc := b_Model_distance) (maxL := 5) (ret := (some .int)) (by decide) rfl ?_
  intro p e s m args below meth c s₁ B hml hv
  obtain ⟨rfl, hsz, hP, hK, hD0, hN⟩ := hv
  have hx := B.exec
  have hb := B.bytes
  have hr := B.returns
  have hts := atoms_spec (ws := w_Model_distance) B.pre
  have hown : s.vm.findClass "HazardTablesModel" = some m.cls := findClass_of_methodNamed B.named
  have hlocks := B.notSynchronized
  subst hsz
  have hD := hD0.self (sz := s.heap.size)
  generalize hAe : va_A (uw_Model ad_md cA_md md) s.heap.size = A at hD ⊢
  have hA : ∀ q : Nat, s.heap.size ≤ q → A q := fun q h => by rw [← hAe]; exact Or.inr h
  have hS : va_S A s.heap s.heap [] := va_S.rf
  have hP : va_P (dC, dI) vwCl (uw_Model ad_md cA_md md) s.heap := hP
  have fl_157 := (hts _ (List.mem_cons_of_mem _ wd_760))
  have fl_17 := (hts _ (List.mem_cons_of_mem _ wd_754))
  have fl_26 := (hts _ (List.mem_cons_of_mem _ wd_762))
  have fl_29 := (hts _ (List.mem_cons_of_mem _ wd_763))
  have hin_Model : ∀ w ∈ u_ws "HazardTablesModel" F_Model 30, w ∈ w_Model_distance := fun w h => List.mem_cons_of_mem _ (hinA_Model w h)
  have ret : ∀ (v : Int32) (u : Unit) (H : Heap) (locs : List Loc) (ls : Array Slot) (pc : Nat), decode b_Model_distance pc = .ok (.ireturn, 1) → (v = res) → va_P (dC, dI) vwCl (uw_Model ad_md cA_md md) H → va_D A (uw_Model ad_md cA_md md) → va_S A s.heap H locs → W p l e (headSpec w_Model_distance ({ frames := 0, cells := 0, slots := 0, locals := 0 })).room s m ([.ref (ad_md 0), .int (bI x1)] : List Value).toArray below meth c H locs 0 0 (MQ below (va_Qi (fun (r : Int32) (u : Unit) => r = res) (fun (u : Unit) (t : State) => va_P (dC, dI) vwCl (uw_Model ad_md cA_md md) t.heap ∧ va_K (dC, dI) vwCl [(cA_md 1, .int), (cA_md 2, .int), (cA_md 3, .int), (cA_md 4, .int), (cA_md 5, .int), (cA_md 6, .int), (cA_md 7, .int), (cA_md 8, .int), (cA_md 9, .boolean), (cA_md 10, .int), (cA_md 11, .int), (cA_md 12, .int), (cA_md 13, .int)] t ∧ va_D A (uw_Model ad_md cA_md md)) A) ([.ref (ad_md 0), .int (bI x1)] : List Value).toArray s 0 0 A) (F0 m pc ls [.int v]) := fun v u H locs ls pc hd hp hP hD hS => W.iret (v := v) hx hb hr (fun t ht hW => ⟨⟨v, u, rfl, hp, by rw [ht]; exact hP, va_K.moved hW.alike hK, hD⟩, hS.F ht⟩) hS.2.2 hd
  generalize (MQ below (va_Qi (fun (r : Int32) (u : Unit) => r = res) (fun (u : Unit) (t : State) => va_P (dC, dI) vwCl (uw_Model ad_md cA_md md) t.heap ∧ va_K (dC, dI) vwCl [(cA_md 1, .int), (cA_md 2, .int), (cA_md 3, .int), (cA_md 4, .int), (cA_md 5, .int), (cA_md 6, .int), (cA_md 7, .int), (cA_md 8, .int), (cA_md 9, .boolean), (cA_md 10, .int), (cA_md 11, .int), (cA_md 12, .int), (cA_md 13, .int)] t ∧ va_D A (uw_Model ad_md cA_md md)) A) ([.ref (ad_md 0), .int (bI x1)] : List Value).toArray s 0 0 A) = Q at ret ⊢
  have w_54 : ∀ (k_4 : SModel → Bool → Int32 → Int32 → Option (Int32)), (∀  (y1 : Bool) (y2 : Int32) (y3 : Int32) (H : Heap) (locs : List Loc) (ls : Array Slot), k_4 md y1 y2 y3 = some res → va_P (dC, dI) vwCl (uw_Model ad_md cA_md md) H → va_D A (uw_Model ad_md cA_md md) → va_S A s.heap H locs → lv_has ls 5 [(0, .ref (ad_md 0)), (1, .int (bI y1)), (2, .int y2), (3, .int y3)] → W p l e (headSpec w_Model_distance ({ frames := 0, cells := 0, slots := 0, locals := 0 })).room s m ([.ref (ad_md 0), .int (bI x1)] : List Value).toArray below meth c H locs 0 0 Q (F0 m 4 ls [])) → ∀  (y1 : Bool) (y2 : Int32) (y3 : Int32) (z1 : Int32) (z2 : Bool) (H : Heap) (locs : List Loc) (ls : Array Slot), f_Model_distance_54 k_4 md y1 y2 y3 z1 z2 = some res → va_P (dC, dI) vwCl (uw_Model ad_md cA_md md) H → va_D A (uw_Model ad_md cA_md md) → va_S A s.heap H locs → lv_has ls 5 [(0, .ref (ad_md 0)), (1, .int (bI y1)), (2, .int y2), (3, .int y3)] → W p l e (headSpec w_Model_distance ({ frames := 0, cells := 0, slots := 0, locals := 0 })).room s m ([.ref (ad_md 0), .int (bI x1)] : List Value).toArray below meth c H locs 0 0 Q (F0 m 54 ls [.int (bI z2), .int z1, .ref (ad_md 2)]) := by
    intro k_4 hk_4
    intro y1 y2 y3 z1 z2 H locs ls hf hP hD hS hl
    rw [f_Model_distance_54] at hf
    refine lv_iadd hx hb d_Model_distance_54 ?_
    obtain ⟨hi6, hf⟩ := hf_g hf
    refine va_iald hx hb hK hP 2 1 rfl rfl hi6 d_Model_distance_55 ?_
    refine lv_istore (lv' := [(4, .int (md.2.2.2.1.2.2 (z1 + (bI z2)).toNatClampNeg)), (0, .ref (ad_md 0)), (1, .int (bI y1)), (2, .int y2), (3, .int y3)]) hx hb d_Model_distance_56 hl (by decide) rfl (fun ls hl => ?_)
    refine lv_iload hx hb d_Model_distance_58 (lv_at hl 0 rfl) ?_
    refine lv_iload_n hx hb d_Model_distance_60 rfl (lv_at hl 3 rfl) ?_
    refine lv_icmp_le (tgt := 67) hx hb d_Model_distance_61 (by decide) (fun hc7 => ?_) (fun hc7 => ?_)
    · have hf := hf_t hf hc7
      refine lv_iinc (v := y3 + (1 : Int32)) (lv' := [(3, .int (y3 + (1 : Int32))), (4, .int (md.2.2.2.1.2.2 (z1 + (bI z2)).toNatClampNeg)), (0, .ref (ad_md 0)), (1, .int (bI y1)), (2, .int y2)]) hx hb d_Model_distance_67 hl (k := 4) rfl rfl (by decide) rfl (fun ls hl => ?_)
      refine lv_goto (tgt := 4) hx hb d_Model_distance_70 (by decide) ?_
      exact hk_4 y1 y2 (y3 + (1 : Int32)) H locs ls hf hP hD hS (lv_sub hl [2, 3, 4, 0] rfl)
    · have hf := hf_f hf hc7
      refine lv_iload hx hb d_Model_distance_64 (lv_at hl 0 rfl) ?_
      refine lv_istore_n (lv' := [(2, .int (md.2.2.2.1.2.2 (z1 + (bI z2)).toNatClampNeg)), (4, .int (md.2.2.2.1.2.2 (z1 + (bI z2)).toNatClampNeg)), (0, .ref (ad_md 0)), (1, .int (bI y1)), (3, .int y3)]) hx hb d_Model_distance_66 rfl hl (by decide) rfl (fun ls hl => ?_)
      refine lv_iinc (v := y3 + (1 : Int32)) (lv' := [(3, .int (y3 + (1 : Int32))), (2, .int (md.2.2.2.1.2.2 (z1 + (bI z2)).toNatClampNeg)), (4, .int (md.2.2.2.1.2.2 (z1 + (bI z2)).toNatClampNeg)), (0, .ref (ad_md 0)), (1, .int (bI y1))]) hx hb d_Model_distance_67 hl (k := 4) rfl rfl (by decide) rfl (fun ls hl => ?_)
      refine lv_goto (tgt := 4) hx hb d_Model_distance_70 (by decide) ?_
      exact hk_4 y1 (md.2.2.2.1.2.2 (z1 + (bI z2)).toNatClampNeg) (y3 + (1 : Int32)) H locs ls hf hP hD hS (lv_sub hl [3, 4, 1, 0] rfl)
  have w_44 : ∀ (k_4 : SModel → Bool → Int32 → Int32 → Option (Int32)), (∀  (y1 : Bool) (y2 : Int32) (y3 : Int32) (H : Heap) (locs : List Loc) (ls : Array Slot), k_4 md y1 y2 y3 = some res → va_P (dC, dI) vwCl (uw_Model ad_md cA_md md) H → va_D A (uw_Model ad_md cA_md md) → va_S A s.heap H locs → lv_has ls 5 [(0, .ref (ad_md 0)), (1, .int (bI y1)), (2, .int y2), (3, .int y3)] → W p l e (headSpec w_Model_distance ({ frames := 0, cells := 0, slots := 0, locals := 0 })).room s m ([.ref (ad_md 0), .int (bI x1)] : List Value).toArray below meth c H locs 0 0 Q (F0 m 4 ls [])) → ∀  (y1 : Bool) (y2 : Int32) (y3 : Int32) (z1 : Int32) (z2 : Int32) (H : Heap) (locs : List Loc) (ls : Array Slot), f_Model_distance_44 k_4 md y1 y2 y3 z1 z2 = some res → va_P (dC, dI) vwCl (uw_Model ad_md cA_md md) H → va_D A (uw_Model ad_md cA_md md) → va_S A s.heap H locs → lv_has ls 5 [(0, .ref (ad_md 0)), (1, .int (bI y1)), (2, .int y2), (3, .int y3)] → W p l e (headSpec w_Model_distance ({ frames := 0, cells := 0, slots := 0, locals := 0 })).room s m ([.ref (ad_md 0), .int (bI x1)] : List Value).toArray below meth c H locs 0 0 Q (F0 m 44 ls [.int z2, .int z1, .ref (ad_md 2)]) := by
    intro k_4 hk_4
    intro y1 y2 y3 z1 z2 H locs ls hf hP hD hS hl
    rw [f_Model_distance_44] at hf
    refine lv_iadd hx hb d_Model_distance_44 ?_
    refine lv_iload_n hx hb d_Model_distance_45 rfl (lv_at hl 1 rfl) ?_
    refine lv_if_eq (tgt := 53) hx hb d_Model_distance_46 (by decide) (fun hc5 => ?_) (fun hc5 => ?_)
    · have hf := hf_t hf hc5
      refine lv_iconst (v := (1 : Int32)) hx hb d_Model_distance_53 (by decide) ?_
      exact w_54 k_4 hk_4 y1 y2 y3 (z1 + z2) true H locs ls hf hP hD hS (lv_sub hl [0, 1, 2, 3] rfl)
    · have hf := hf_f hf hc5
      refine lv_iconst (v := (0 : Int32)) hx hb d_Model_distance_49 (by decide) ?_
      refine lv_goto (tgt := 54) hx hb d_Model_distance_50 (by decide) ?_
      exact w_54 k_4 hk_4 y1 y2 y3 (z1 + z2) false H locs ls hf hP hD hS (lv_sub hl [0, 1, 2, 3] rfl)
  have w_4 : ∀ (n : Nat)  (y1 : Bool) (y2 : Int32) (y3 : Int32) (H : Heap) (locs : List Loc) (ls : Array Slot), f_Model_distance_4 n md y1 y2 y3 = some res → va_P (dC, dI) vwCl (uw_Model ad_md cA_md md) H → va_D A (uw_Model ad_md cA_md md) → va_S A s.heap H locs → lv_has ls 5 [(0, .ref (ad_md 0)), (1, .int (bI y1)), (2, .int y2), (3, .int y3)] → W p l e (headSpec w_Model_distance ({ frames := 0, cells := 0, slots := 0, locals := 0 })).room s m ([.ref (ad_md 0), .int (bI x1)] : List Value).toArray below meth c H locs 0 0 Q (F0 m 4 ls []) := by
    intro n
    induction n with
    | zero =>
      intro y1 y2 y3 H locs ls hf hP hD hS hl
      rw [f_Model_distance_4] at hf; cases hf
    | succ n ih =>
      intro y1 y2 y3 H locs ls hf hP hD hS hl
      rw [f_Model_distance_4] at hf
      refine lv_iload_n hx hb d_Model_distance_4 rfl (lv_at hl 3 rfl) ?_
      refine lv_aload_n hx hb d_Model_distance_5 rfl (lv_at hl 0 rfl) ?_
      refine va_get (D := (dC, dI)) (ci := 6) (v := .int md.2.2.2.2.1.1) (C := "HazardTablesModel") (T := F_Model) (N := 30) hx hb hts hin_Model hown hK hP 0 rfl rfl 12 (by decide) fl_157 (fun _ h9 => h9) rfl d_Model_distance_6 ?_
      refine lv_icmp_ge (tgt := 73) hx hb d_Model_distance_9 (by decide) (fun hc1 => ?_) (fun hc1 => ?_)
      · have hf := hf_t hf hc1
        refine lv_iload_n hx hb d_Model_distance_73 rfl (lv_at hl 2 rfl) ?_
        exact ret y2 () H locs ls 74 d_Model_distance_74 (Option.some.inj hf) hP hD hS
      · have hf := hf_f hf hc1
        refine lv_aload_n hx hb d_Model_distance_12 rfl (lv_at hl 0 rfl) ?_
        refine va_get (D := (dC, dI)) (ci := 6) (v := .ref (ad_md 2)) (C := "HazardTablesModel") (T := F_Model) (N := 30) hx hb hts hin_Model hown hK hP 0 rfl rfl 6 (by decide) fl_17 (fun _ h9 => h9) rfl d_Model_distance_13 ?_
        refine lv_aload_n hx hb d_Model_distance_16 rfl (lv_at hl 0 rfl) ?_
        refine va_get (D := (dC, dI)) (ci := 6) (v := .ref (ad_md 6)) (C := "HazardTablesModel") (T := F_Model) (N := 30) hx hb hts hin_Model hown hK hP 0 rfl rfl 15 (by decide) fl_29 (fun _ h9 => h9) rfl d_Model_distance_17 ?_
        refine lv_iload_n hx hb d_Model_distance_20 rfl (lv_at hl 3 rfl) ?_
        obtain ⟨hi2, hf⟩ := hf_g hf
        refine va_iald hx hb hK hP 6 5 rfl rfl hi2 d_Model_distance_21 ?_
        refine lv_bipush (v := (43 : Int32)) hx hb d_Model_distance_22 (by decide) ?_
        refine lv_imul hx hb d_Model_distance_24 ?_
        refine lv_iconst (v := (4 : Int32)) hx hb d_Model_distance_25 (by decide) ?_
        refine lv_iadd hx hb d_Model_distance_26 ?_
        refine lv_aload_n hx hb d_Model_distance_27 rfl (lv_at hl 0 rfl) ?_
        refine va_get (D := (dC, dI)) (ci := 6) (v := .ref (ad_md 5)) (C := "HazardTablesModel") (T := F_Model) (N := 30) hx hb hts hin_Model hown hK hP 0 rfl rfl 14 (by decide) fl_26 (fun _ h9 => h9) rfl d_Model_distance_28 ?_
        refine lv_iload_n hx hb d_Model_distance_31 rfl (lv_at hl 3 rfl) ?_
        obtain ⟨hi3, hf⟩ := hf_g hf
        refine va_iald hx hb hK hP 5 4 rfl rfl hi3 d_Model_distance_32 ?_
        refine lv_sipush (v := (200 : Int32)) hx hb d_Model_distance_33 (by decide) ?_
        refine lv_icmp_le (tgt := 43) hx hb d_Model_distance_36 (by decide) (fun hc4 => ?_) (fun hc4 => ?_)
        · have hf := hf_t hf hc4
          refine lv_iconst (v := (0 : Int32)) hx hb d_Model_distance_43 (by decide) ?_
          exact w_44 (f_Model_distance_4 n) ih y1 y2 y3 (((md.2.2.2.2.1.2.2.2.1 y3.toNatClampNeg) * (43 : Int32)) + (4 : Int32)) (0 : Int32) H locs ls hf hP hD hS (lv_sub hl [0, 1, 2, 3] rfl)
        · have hf := hf_f hf hc4
          refine lv_iconst (v := (2 : Int32)) hx hb d_Model_distance_39 (by decide) ?_
          refine lv_goto (tgt := 44) hx hb d_Model_distance_40 (by decide) ?_
          exact w_44 (f_Model_distance_4 n) ih y1 y2 y3 (((md.2.2.2.2.1.2.2.2.1 y3.toNatClampNeg) * (43 : Int32)) + (4 : Int32)) (2 : Int32) H locs ls hf hP hD hS (lv_sub hl [0, 1, 2, 3] rfl)
  have hl := lv_entry ([.ref (ad_md 0), .int (bI x1)]) (n := 5) (Nat.le_of_ble_eq_true rfl)
  rw [lg_entry_eq]
  generalize (lg_sl ([.ref (ad_md 0), .int (bI x1)]) ++ List.replicate (5 - (lg_sl ([.ref (ad_md 0), .int (bI x1)])).length) Slot.unset).toArray = ls at hl ⊢
  have hl : lv_has ls 5 [(0, .ref (ad_md 0)), (1, .int (bI x1))] := hl
  have hf := hf
  rw [f_Model_distance] at hf
  obtain ⟨H, hH⟩ : ∃ H : Heap, H = s.heap := ⟨_, rfl⟩
  obtain ⟨locs, hlocs⟩ : ∃ L : List Loc, L = [] := ⟨_, rfl⟩
  have hP : va_P (dC, dI) vwCl (uw_Model ad_md cA_md md) H := by rw [hH]; exact hP
  have hS : va_S A s.heap H locs := by rw [hH, hlocs]; exact hS
  show W p l e (headSpec w_Model_distance ({ frames := 0, cells := 0, slots := 0, locals := 0 })).room s m ([.ref (ad_md 0), .int (bI x1)] : List Value).toArray below meth c s.heap [] 0 0 Q (F0 m 0 ls [])
  suffices hgo : W p l e (headSpec w_Model_distance ({ frames := 0, cells := 0, slots := 0, locals := 0 })).room s m ([.ref (ad_md 0), .int (bI x1)] : List Value).toArray below meth c H locs 0 0 Q (F0 m 0 ls []) by rw [hH, hlocs] at hgo; exact hgo
  clear hH hlocs
  refine lv_iconst (v := (0 : Int32)) hx hb d_Model_distance_0 (by decide) ?_
  refine lv_istore_n (lv' := [(2, .int (0 : Int32)), (0, .ref (ad_md 0)), (1, .int (bI x1))]) hx hb d_Model_distance_1 rfl hl (by decide) rfl (fun ls hl => ?_)
  refine lv_iconst (v := (0 : Int32)) hx hb d_Model_distance_2 (by decide) ?_
  refine lv_istore_n (lv' := [(3, .int (0 : Int32)), (2, .int (0 : Int32)), (0, .ref (ad_md 0)), (1, .int (bI x1))]) hx hb d_Model_distance_3 rfl hl (by decide) rfl (fun ls hl => ?_)
  exact w_4 4096 x1 (0 : Int32) (0 : Int32) H locs ls hf hP hD hS (lv_sub hl [2, 3, 1, 0] rfl)
