noncomputable def f_Model_strictness_4  : Nat → SModel → Int32 → Int32 → Option (Int32)
  | 0, _, _, _ => none
  | n + 1, md, y1, y2 =>
    (if md.2.2.2.2.1.1 ≤ y2 then
      (some (y1))
     else
      (if inb y2 8 then
        (if inb (((md.2.2.2.2.1.2.2.2.1 y2.toNatClampNeg) * (43 : Int32)) + (2 : Int32)) 559 then
          (if (md.2.2.2.1.2.2 (((md.2.2.2.2.1.2.2.2.1 y2.toNatClampNeg) * (43 : Int32)) + (2 : Int32)).toNatClampNeg) ≤ y1 then
            (f_Model_strictness_4 n md y1 (y2 + (1 : Int32)))
           else
            (if inb y2 8 then
              (if inb (((md.2.2.2.2.1.2.2.2.1 y2.toNatClampNeg) * (43 : Int32)) + (2 : Int32)) 559 then
                (f_Model_strictness_4 n md (md.2.2.2.1.2.2 (((md.2.2.2.2.1.2.2.2.1 y2.toNatClampNeg) * (43 : Int32)) + (2 : Int32)).toNatClampNeg) (y2 + (1 : Int32)))
               else none)
             else none)
           )
         else none)
       else none)
     )
noncomputable def f_Model_strictness (md : SModel) : Option (Int32) :=
  (f_Model_strictness_4 4096 md (0 : Int32) (0 : Int32))
set_option maxHeartbeats 4000000 in
set_option maxRecDepth 100000 in
theorem k_Model_strictness (l : Launch) (dC : Nat → ClassId) (dI : Nat → Nat → Nat) (ad_md : Nat → Nat) (cA_md : Nat → ClassId) (sz : Nat) (md : SModel) (res : Int32) (hf : f_Model_strictness md = some res) : Met l y_Model_strictness w_Model_strictness ({ frames := 0, cells := 0, slots := 0, locals := 0 }) (cPc (dC, dI) (uw_Model ad_md cA_md md) [(cA_md 1, .int), (cA_md 2, .int), (cA_md 3, .int), (cA_md 4, .int), (cA_md 5, .int), (cA_md 6, .int), (cA_md 7, .int), (cA_md 8, .int), (cA_md 9, .boolean), (cA_md 10, .int), (cA_md 11, .int), (cA_md 12, .int), (cA_md 13, .int)] sz [.ref (ad_md 0)]) (va_Qi (fun (r : Int32) (u : Unit) => r = res) (fun (u : Unit) (t : State) => va_P (dC, dI) vwCl (uw_Model ad_md cA_md md) t.heap ∧ va_K (dC, dI) vwCl [(cA_md 1, .int), (cA_md 2, .int), (cA_md 3, .int), (cA_md 4, .int), (cA_md 5, .int), (cA_md 6, .int), (cA_md 7, .int), (cA_md 8, .int), (cA_md 9, .boolean), (cA_md 10, .int), (cA_md 11, .int), (cA_md 12, .int), (cA_md 13, .int)] t ∧ va_D (va_A (uw_Model ad_md cA_md md) sz) (uw_Model ad_md cA_md md)) (va_A (uw_Model ad_md cA_md md) sz)) 0 0 (va_A (uw_Model ad_md cA_md md) sz) := by
  refine Met.ofW (cc := b_Model_strictness) (maxL := 3) (ret := (some .int)) (by decide) rfl ?_
  intro p e s m args below meth c s₁ B hml hv
  obtain ⟨rfl, hsz, hP, hK, hD0, hN⟩ := hv
  have hx := B.exec
  have hb := B.bytes
  have hr := B.returns
  have hts := atoms_spec (ws := w_Model_strictness) B.pre
  have hown : s.vm.findClass "HazardTablesModel" = some m.cls := findClass_of_methodNamed B.named
  have hlocks := B.notSynchronized
  subst hsz
  have hD := hD0.self (sz := s.heap.size)
  generalize hAe : va_A (uw_Model ad_md cA_md md) s.heap.size = A at hD ⊢
  have hA : ∀ q : Nat, s.heap.size ≤ q → A q := fun q h => by rw [← hAe]; exact Or.inr h
  have hS : va_S A s.heap s.heap [] := va_S.rf
  have hP : va_P (dC, dI) vwCl (uw_Model ad_md cA_md md) s.heap := hP
  have fl_157 := (hts _ (List.mem_cons_of_mem _ wd_760))
  have fl_17 := (hts _ (List.mem_cons_of_mem _ wd_754))
  have fl_29 := (hts _ (List.mem_cons_of_mem _ wd_763))
  have hin_Model : ∀ w ∈ u_ws "HazardTablesModel" F_Model 30, w ∈ w_Model_strictness := fun w h => List.mem_cons_of_mem _ (hinA_Model w h)
  have ret : ∀ (v : Int32) (u : Unit) (H : Heap) (locs : List Loc) (ls : Array Slot) (pc : Nat), decode b_Model_strictness pc = .ok (.ireturn, 1) → (v = res) → va_P (dC, dI) vwCl (uw_Model ad_md cA_md md) H → va_D A (uw_Model ad_md cA_md md) → va_S A s.heap H locs → W p l e (headSpec w_Model_strictness ({ frames := 0, cells := 0, slots := 0, locals := 0 })).room s m ([.ref (ad_md 0)] : List Value).toArray below meth c H locs 0 0 (MQ below (va_Qi (fun (r : Int32) (u : Unit) => r = res) (fun (u : Unit) (t : State) => va_P (dC, dI) vwCl (uw_Model ad_md cA_md md) t.heap ∧ va_K (dC, dI) vwCl [(cA_md 1, .int), (cA_md 2, .int), (cA_md 3, .int), (cA_md 4, .int), (cA_md 5, .int), (cA_md 6, .int), (cA_md 7, .int), (cA_md 8, .int), (cA_md 9, .boolean), (cA_md 10, .int), (cA_md 11, .int), (cA_md 12, .int), (cA_md 13, .int)] t ∧ va_D A (uw_Model ad_md cA_md md)) A) ([.ref (ad_md 0)] : List Value).toArray s 0 0 A) (F0 m pc ls [.int v]) := fun v u H locs ls pc hd hp hP hD hS => W.iret (v := v) hx hb hr (fun t ht hW => ⟨⟨v, u, rfl, hp, by rw [ht]; exact hP, va_K.moved hW.alike hK, hD⟩, hS.F ht⟩) hS.2.2 hd
  generalize (MQ below (va_Qi (fun (r : Int32) (u : Unit) => r = res) (fun (u : Unit) (t : State) => va_P (dC, dI) vwCl (uw_Model ad_md cA_md md) t.heap ∧ va_K (dC, dI) vwCl [(cA_md 1, .int), (cA_md 2, .int), (cA_md 3, .int), (cA_md 4, .int), (cA_md 5, .int), (cA_md 6, .int), (cA_md 7, .int), (cA_md 8, .int), (cA_md 9, .boolean), (cA_md 10, .int), (cA_md 11, .int), (cA_md 12, .int), (cA_md 13, .int)] t ∧ va_D A (uw_Model ad_md cA_md md)) A) ([.ref (ad_md 0)] : List Value).toArray s 0 0 A) = Q at ret ⊢
  have w_4 : ∀ (n : Nat)  (y1 : Int32) (y2 : Int32) (H : Heap) (locs : List Loc) (ls : Array Slot), f_Model_strictness_4 n md y1 y2 = some res → va_P (dC, dI) vwCl (uw_Model ad_md cA_md md) H → va_D A (uw_Model ad_md cA_md md) → va_S A s.heap H locs → lv_has ls 3 [(0, .ref (ad_md 0)), (1, .int y1), (2, .int y2)] → W p l e (headSpec w_Model_strictness ({ frames := 0, cells := 0, slots := 0, locals := 0 })).room s m ([.ref (ad_md 0)] : List Value).toArray below meth c H locs 0 0 Q (F0 m 4 ls []) := by
    intro n
    induction n with
    | zero =>
      intro y1 y2 H locs ls hf hP hD hS hl
      rw [f_Model_strictness_4] at hf; cases hf
    | succ n ih =>
      intro y1 y2 H locs ls hf hP hD hS hl
      rw [f_Model_strictness_4] at hf
      refine lv_iload_n hx hb d_Model_strictness_4 rfl (lv_at hl 2 rfl) ?_
      refine lv_aload_n hx hb d_Model_strictness_5 rfl (lv_at hl 0 rfl) ?_
      refine va_get (D := (dC, dI)) (ci := 6) (v := .int md.2.2.2.2.1.1) (C := "HazardTablesModel") (T := F_Model) (N := 30) hx hb hts hin_Model hown hK hP 0 rfl rfl 12 (by decide) fl_157 (fun _ h9 => h9) rfl d_Model_strictness_6 ?_
      refine lv_icmp_ge (tgt := 55) hx hb d_Model_strictness_9 (by decide) (fun hc1 => ?_) (fun hc1 => ?_)
      · have hf := hf_t hf hc1
        refine lv_iload_n hx hb d_Model_strictness_55 rfl (lv_at hl 1 rfl) ?_
        exact ret y1 () H locs ls 56 d_Model_strictness_56 (Option.some.inj hf) hP hD hS
      · have hf := hf_f hf hc1
        refine lv_aload_n hx hb d_Model_strictness_12 rfl (lv_at hl 0 rfl) ?_
        refine va_get (D := (dC, dI)) (ci := 6) (v := .ref (ad_md 2)) (C := "HazardTablesModel") (T := F_Model) (N := 30) hx hb hts hin_Model hown hK hP 0 rfl rfl 6 (by decide) fl_17 (fun _ h9 => h9) rfl d_Model_strictness_13 ?_
        refine lv_aload_n hx hb d_Model_strictness_16 rfl (lv_at hl 0 rfl) ?_
        refine va_get (D := (dC, dI)) (ci := 6) (v := .ref (ad_md 6)) (C := "HazardTablesModel") (T := F_Model) (N := 30) hx hb hts hin_Model hown hK hP 0 rfl rfl 15 (by decide) fl_29 (fun _ h9 => h9) rfl d_Model_strictness_17 ?_
        refine lv_iload_n hx hb d_Model_strictness_20 rfl (lv_at hl 2 rfl) ?_
        obtain ⟨hi2, hf⟩ := hf_g hf
        refine va_iald hx hb hK hP 6 5 rfl rfl hi2 d_Model_strictness_21 ?_
        refine lv_bipush (v := (43 : Int32)) hx hb d_Model_strictness_22 (by decide) ?_
        refine lv_imul hx hb d_Model_strictness_24 ?_
        refine lv_iconst (v := (2 : Int32)) hx hb d_Model_strictness_25 (by decide) ?_
        refine lv_iadd hx hb d_Model_strictness_26 ?_
        obtain ⟨hi3, hf⟩ := hf_g hf
        refine va_iald hx hb hK hP 2 1 rfl rfl hi3 d_Model_strictness_27 ?_
        refine lv_iload_n hx hb d_Model_strictness_28 rfl (lv_at hl 1 rfl) ?_
        refine lv_icmp_le (tgt := 49) hx hb d_Model_strictness_29 (by decide) (fun hc4 => ?_) (fun hc4 => ?_)
        · have hf := hf_t hf hc4
          refine lv_iinc (v := y2 + (1 : Int32)) (lv' := [(2, .int (y2 + (1 : Int32))), (0, .ref (ad_md 0)), (1, .int y1)]) hx hb d_Model_strictness_49 hl (k := 2) rfl rfl (by decide) rfl (fun ls hl => ?_)
          refine lv_goto (tgt := 4) hx hb d_Model_strictness_52 (by decide) ?_
          exact ih y1 (y2 + (1 : Int32)) H locs ls hf hP hD hS (lv_sub hl [1, 2, 0] rfl)
        · have hf := hf_f hf hc4
          refine lv_aload_n hx hb d_Model_strictness_32 rfl (lv_at hl 0 rfl) ?_
          refine va_get (D := (dC, dI)) (ci := 6) (v := .ref (ad_md 2)) (C := "HazardTablesModel") (T := F_Model) (N := 30) hx hb hts hin_Model hown hK hP 0 rfl rfl 6 (by decide) fl_17 (fun _ h9 => h9) rfl d_Model_strictness_33 ?_
          refine lv_aload_n hx hb d_Model_strictness_36 rfl (lv_at hl 0 rfl) ?_
          refine va_get (D := (dC, dI)) (ci := 6) (v := .ref (ad_md 6)) (C := "HazardTablesModel") (T := F_Model) (N := 30) hx hb hts hin_Model hown hK hP 0 rfl rfl 15 (by decide) fl_29 (fun _ h9 => h9) rfl d_Model_strictness_37 ?_
          refine lv_iload_n hx hb d_Model_strictness_40 rfl (lv_at hl 2 rfl) ?_
          obtain ⟨hi5, hf⟩ := hf_g hf
          refine va_iald hx hb hK hP 6 5 rfl rfl hi5 d_Model_strictness_41 ?_
          refine lv_bipush (v := (43 : Int32)) hx hb d_Model_strictness_42 (by decide) ?_
          refine lv_imul hx hb d_Model_strictness_44 ?_
          refine lv_iconst (v := (2 : Int32)) hx hb d_Model_strictness_45 (by decide) ?_
          refine lv_iadd hx hb d_Model_strictness_46 ?_
          obtain ⟨hi6, hf⟩ := hf_g hf
          refine va_iald hx hb hK hP 2 1 rfl rfl hi6 d_Model_strictness_47 ?_
          refine lv_istore_n (lv' := [(1, .int (md.2.2.2.1.2.2 (((md.2.2.2.2.1.2.2.2.1 y2.toNatClampNeg) * (43 : Int32)) + (2 : Int32)).toNatClampNeg)), (0, .ref (ad_md 0)), (2, .int y2)]) hx hb d_Model_strictness_48 rfl hl (by decide) rfl (fun ls hl => ?_)
          refine lv_iinc (v := y2 + (1 : Int32)) (lv' := [(2, .int (y2 + (1 : Int32))), (1, .int (md.2.2.2.1.2.2 (((md.2.2.2.2.1.2.2.2.1 y2.toNatClampNeg) * (43 : Int32)) + (2 : Int32)).toNatClampNeg)), (0, .ref (ad_md 0))]) hx hb d_Model_strictness_49 hl (k := 2) rfl rfl (by decide) rfl (fun ls hl => ?_)
          refine lv_goto (tgt := 4) hx hb d_Model_strictness_52 (by decide) ?_
          exact ih (md.2.2.2.1.2.2 (((md.2.2.2.2.1.2.2.2.1 y2.toNatClampNeg) * (43 : Int32)) + (2 : Int32)).toNatClampNeg) (y2 + (1 : Int32)) H locs ls hf hP hD hS (lv_sub hl [2, 1, 0] rfl)
  have hl := lv_entry ([.ref (ad_md 0)]) (n := 3) (Nat.le_of_ble_eq_true rfl)
  rw [lg_entry_eq]
  generalize (lg_sl ([.ref (ad_md 0)]) ++ List.replicate (3 - (lg_sl ([.ref (ad_md 0)])).length) Slot.unset).toArray = ls at hl ⊢
  have hl : lv_has ls 3 [(0, .ref (ad_md 0))] := hl
  have hf := hf
  rw [f_Model_strictness] at hf
  obtain ⟨H, hH⟩ : ∃ H : Heap, H = s.heap := ⟨_, rfl⟩
  obtain ⟨locs, hlocs⟩ : ∃ L : List Loc, L = [] := ⟨_, rfl⟩
  have hP : va_P (dC, dI) vwCl (uw_Model ad_md cA_md md) H := by rw [hH]; exact hP
  have hS : va_S A s.heap H locs := by rw [hH, hlocs]; exact hS
  show W p l e (headSpec w_Model_strictness ({ frames := 0, cells := 0, slots := 0, locals := 0 })).room s m ([.ref (ad_md 0)] : List Value).toArray below meth c s.heap [] 0 0 Q (F0 m 0 ls [])
  suffices hgo : W p l e (headSpec w_Model_strictness ({ frames := 0, cells := 0, slots := 0, locals := 0 })).room s m ([.ref (ad_md 0)] : List Value).toArray below meth c H locs 0 0 Q (F0 m 0 ls []) by rw [hH, hlocs] at hgo; exact hgo
  clear hH hlocs
  refine lv_iconst (v := (0 : Int32)) hx hb d_Model_strictness_0 (by decide) ?_
  refine lv_istore_n (lv' := [(1, .int (0 : Int32)), (0, .ref (ad_md 0))]) hx hb d_Model_strictness_1 rfl hl (by decide) rfl (fun ls hl => ?_)
  refine lv_iconst (v := (0 : Int32)) hx hb d_Model_strictness_2 (by decide) ?_
  refine lv_istore_n (lv' := [(2, .int (0 : Int32)), (1, .int (0 : Int32)), (0, .ref (ad_md 0))]) hx hb d_Model_strictness_3 rfl hl (by decide) rfl (fun ls hl => ?_)
  exact w_4 4096 (0 : Int32) (0 : Int32) H locs ls hf hP hD hS (lv_sub hl [2, 1, 0] rfl)
