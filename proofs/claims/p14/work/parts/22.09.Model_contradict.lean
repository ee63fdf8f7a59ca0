noncomputable def f_Model_contradict (md : SModel) (x1 : Int32) (x2 : Int32) : Option (Bool) :=
  (if inb x1 8 then
    (if inb x2 8 then
      (if inb (((md.2.2.2.2.1.2.2.2.1 x1.toNatClampNeg) * (43 : Int32)) + (8 : Int32)) 559 then
        (if inb (((md.2.2.2.2.1.2.2.2.1 x2.toNatClampNeg) * (43 : Int32)) + (1 : Int32)) 559 then
          (if (((md.2.2.2.1.2.2 (((md.2.2.2.2.1.2.2.2.1 x1.toNatClampNeg) * (43 : Int32)) + (8 : Int32)).toNatClampNeg) >>> ((md.2.2.2.1.2.2 (((md.2.2.2.2.1.2.2.2.1 x2.toNatClampNeg) * (43 : Int32)) + (1 : Int32)).toNatClampNeg) &&& 31)) &&& (1 : Int32)) = (1 : Int32) then
            (some (true))
           else
            (if inb (((md.2.2.2.2.1.2.2.2.1 x2.toNatClampNeg) * (43 : Int32)) + (8 : Int32)) 559 then
              (if inb (((md.2.2.2.2.1.2.2.2.1 x1.toNatClampNeg) * (43 : Int32)) + (1 : Int32)) 559 then
                (if (((md.2.2.2.1.2.2 (((md.2.2.2.2.1.2.2.2.1 x2.toNatClampNeg) * (43 : Int32)) + (8 : Int32)).toNatClampNeg) >>> ((md.2.2.2.1.2.2 (((md.2.2.2.2.1.2.2.2.1 x1.toNatClampNeg) * (43 : Int32)) + (1 : Int32)).toNatClampNeg) &&& 31)) &&& (1 : Int32)) = (1 : Int32) then
                  (some (true))
                 else
                  (some (false))
                 )
               else none)
             else none)
           )
         else none)
       else none)
     else none)
   else none)
set_option maxHeartbeats 4000000 in
set_option maxRecDepth 100000 in
theorem k_Model_contradict (l : Launch) (dC : Nat → ClassId) (dI : Nat → Nat → Nat) (ad_md : Nat → Nat) (cA_md : Nat → ClassId) (sz : Nat) (md : SModel) (x1 : Int32) (x2 : Int32) (res : Bool) (hf : f_Model_contradict md x1 x2 = some res) : Met l y_Model_contradict w_Model_contradict ({ frames := 0, cells := 0, slots := 0, locals := 0 }) (cPc (dC, dI) (uw_Model ad_md cA_md md) [(cA_md 1, .int), (cA_md 2, .int), (cA_md 3, .int), (cA_md 4, .int), (cA_md 5, .int), (cA_md 6, .int), (cA_md 7, .int), (cA_md 8, .int), (cA_md 9, .boolean), (cA_md 10, .int), (cA_md 11, .int), (cA_md 12, .int), (cA_md 13, .int)] sz [.ref (ad_md 0), .int x1, .int x2]) (va_Qi (fun (r : Int32) (u : Unit) => r = bI res) (fun (u : Unit) (t : State) => va_P (dC, dI) vwCl (uw_Model ad_md cA_md md) t.heap ∧ va_K (dC, dI) vwCl [(cA_md 1, .int), (cA_md 2, .int), (cA_md 3, .int), (cA_md 4, .int), (cA_md 5, .int), (cA_md 6, .int), (cA_md 7, .int), (cA_md 8, .int), (cA_md 9, .boolean), (cA_md 10, .int), (cA_md 11, .int), (cA_md 12, .int), (cA_md 13, .int)] t ∧ va_D (va_A (uw_Model ad_md cA_md md) sz) (uw_Model ad_md cA_md md)) (va_A (uw_Model ad_md cA_md md) sz)) 0 0 (va_A (uw_Model ad_md cA_md md) sz) := by
  refine Met.ofW (cc := b_Model_contradict) (maxL := 5) (ret := (some .boolean)) (by decide) rfl ?_
  intro p e s m args below meth c s₁ B hml hv
  obtain ⟨rfl, hsz, hP, hK, hD0, hN⟩ := hv
  have hx := B.exec
  have hb := B.bytes
  have hr := B.returns
  have hts := atoms_spec (ws := w_Model_contradict) B.pre
  have hown : s.vm.findClass "HazardTablesModel" = some m.cls := findClass_of_methodNamed B.named
  have hlocks := B.notSynchronized
  subst hsz
  have hD := hD0.self (sz := s.heap.size)
  generalize hAe : va_A (uw_Model ad_md cA_md md) s.heap.size = A at hD ⊢
  have hA : ∀ q : Nat, s.heap.size ≤ q → A q := fun q h => by rw [← hAe]; exact Or.inr h
  have hS : va_S A s.heap s.heap [] := va_S.rf
  have hP : va_P (dC, dI) vwCl (uw_Model ad_md cA_md md) s.heap := hP
  have fl_17 := (hts _ (List.mem_cons_of_mem _ wd_754))
  have fl_29 := (hts _ (List.mem_cons_of_mem _ wd_763))
  have hin_Model : ∀ w ∈ u_ws "HazardTablesModel" F_Model 30, w ∈ w_Model_contradict := fun w h => List.mem_cons_of_mem _ (hinA_Model w h)
  have ret : ∀ (v : Bool) (u : Unit) (H : Heap) (locs : List Loc) (ls : Array Slot) (pc : Nat), decode b_Model_contradict pc = .ok (.ireturn, 1) → (v = res) → va_P (dC, dI) vwCl (uw_Model ad_md cA_md md) H → va_D A (uw_Model ad_md cA_md md) → va_S A s.heap H locs → W p l e (headSpec w_Model_contradict ({ frames := 0, cells := 0, slots := 0, locals := 0 })).room s m ([.ref (ad_md 0), .int x1, .int x2] : List Value).toArray below meth c H locs 0 0 (MQ below (va_Qi (fun (r : Int32) (u : Unit) => r = bI res) (fun (u : Unit) (t : State) => va_P (dC, dI) vwCl (uw_Model ad_md cA_md md) t.heap ∧ va_K (dC, dI) vwCl [(cA_md 1, .int), (cA_md 2, .int), (cA_md 3, .int), (cA_md 4, .int), (cA_md 5, .int), (cA_md 6, .int), (cA_md 7, .int), (cA_md 8, .int), (cA_md 9, .boolean), (cA_md 10, .int), (cA_md 11, .int), (cA_md 12, .int), (cA_md 13, .int)] t ∧ va_D A (uw_Model ad_md cA_md md)) A) ([.ref (ad_md 0), .int x1, .int x2] : List Value).toArray s 0 0 A) (F0 m pc ls [.int (bI v)]) := fun v u H locs ls pc hd hp hP hD hS => W.zret (v := bI v) (ty := .boolean) hx hb hr (nar_bI v) (fun t ht hW => ⟨⟨bI v, u, rfl, (by rw [hp]), by rw [ht]; exact hP, va_K.moved hW.alike hK, hD⟩, hS.F ht⟩) hS.2.2 hd
  generalize (MQ below (va_Qi (fun (r : Int32) (u : Unit) => r = bI res) (fun (u : Unit) (t : State) => va_P (dC, dI) vwCl (uw_Model ad_md cA_md md) t.heap ∧ va_K (dC, dI) vwCl [(cA_md 1, .int), (cA_md 2, .int), (cA_md 3, .int), (cA_md 4, .int), (cA_md 5, .int), (cA_md 6, .int), (cA_md 7, .int), (cA_md 8, .int), (cA_md 9, .boolean), (cA_md 10, .int), (cA_md 11, .int), (cA_md 12, .int), (cA_md 13, .int)] t ∧ va_D A (uw_Model ad_md cA_md md)) A) ([.ref (ad_md 0), .int x1, .int x2] : List Value).toArray s 0 0 A) = Q at ret ⊢
  have hl := lv_entry ([.ref (ad_md 0), .int x1, .int x2]) (n := 5) (Nat.le_of_ble_eq_true rfl)
  rw [lg_entry_eq]
  generalize (lg_sl ([.ref (ad_md 0), .int x1, .int x2]) ++ List.replicate (5 - (lg_sl ([.ref (ad_md 0), .int x1, .int x2])).length) Slot.unset).toArray = ls at hl ⊢
  have hl : lv_has ls 5 [(0, .ref (ad_md 0)), (1, .int x1), (2, .int x2)] := hl
  have hf := hf
  rw [f_Model_contradict] at hf
  obtain ⟨H, hH⟩ : ∃ H : Heap, H = s.heap := ⟨_, rfl⟩
  obtain ⟨locs, hlocs⟩ : ∃ L : List Loc, L = [] := ⟨_, rfl⟩
  have hP : va_P (dC, dI) vwCl (uw_Model ad_md cA_md md) H := by rw [hH]; exact hP
  have hS : va_S A s.heap H locs := by rw [hH, hlocs]; exact hS
  show W p l e (headSpec w_Model_contradict ({ frames := 0, cells := 0, slots := 0, locals := 0 })).room s m ([.ref (ad_md 0), .int x1, .int x2] : List Value).toArray below meth c s.heap [] 0 0 Q (F0 m 0 ls [])
  suffices hgo : W p l e (headSpec w_Model_contradict ({ frames := 0, cells := 0, slots := 0, locals := 0 })).room s m ([.ref (ad_md 0), .int x1, .int x2] : List Value).toArray below meth c H locs 0 0 Q (F0 m 0 ls []) by rw [hH, hlocs] at hgo; exact hgo
  clear hH hlocs
  refine lv_aload_n hx hb d_Model_contradict_0 rfl (lv_at hl 0 rfl) ?_
  refine va_get (D := (dC, dI)) (ci := 6) (v := .ref (ad_md 6)) (C := "HazardTablesModel") (T := F_Model) (N := 30) hx hb hts hin_Model hown hK hP 0 rfl rfl 15 (by decide) fl_29 (fun _ h9 => h9) rfl d_Model_contradict_1 ?_
  refine lv_iload_n hx hb d_Model_contradict_4 rfl (lv_at hl 1 rfl) ?_
  obtain ⟨hi1, hf⟩ := hf_g hf
  refine va_iald hx hb hK hP 6 5 rfl rfl hi1 d_Model_contradict_5 ?_
  refine lv_bipush (v := (43 : Int32)) hx hb d_Model_contradict_6 (by decide) ?_
  refine lv_imul hx hb d_Model_contradict_8 ?_
  refine lv_istore_n (lv' := [(3, .int ((md.2.2.2.2.1.2.2.2.1 x1.toNatClampNeg) * (43 : Int32))), (0, .ref (ad_md 0)), (1, .int x1), (2, .int x2)]) hx hb d_Model_contradict_9 rfl hl (by decide) rfl (fun ls hl => ?_)
  refine lv_aload_n hx hb d_Model_contradict_10 rfl (lv_at hl 1 rfl) ?_
  refine va_get (D := (dC, dI)) (ci := 6) (v := .ref (ad_md 6)) (C := "HazardTablesModel") (T := F_Model) (N := 30) hx hb hts hin_Model hown hK hP 0 rfl rfl 15 (by decide) fl_29 (fun _ h9 => h9) rfl d_Model_contradict_11 ?_
  refine lv_iload_n hx hb d_Model_contradict_14 rfl (lv_at hl 3 rfl) ?_
  obtain ⟨hi2, hf⟩ := hf_g hf
  refine va_iald hx hb hK hP 6 5 rfl rfl hi2 d_Model_contradict_15 ?_
  refine lv_bipush (v := (43 : Int32)) hx hb d_Model_contradict_16 (by decide) ?_
  refine lv_imul hx hb d_Model_contradict_18 ?_
  refine lv_istore (lv' := [(4, .int ((md.2.2.2.2.1.2.2.2.1 x2.toNatClampNeg) * (43 : Int32))), (3, .int ((md.2.2.2.2.1.2.2.2.1 x1.toNatClampNeg) * (43 : Int32))), (0, .ref (ad_md 0)), (1, .int x1), (2, .int x2)]) hx hb d_Model_contradict_19 hl (by decide) rfl (fun ls hl => ?_)
  refine lv_aload_n hx hb d_Model_contradict_21 rfl (lv_at hl 2 rfl) ?_
  refine va_get (D := (dC, dI)) (ci := 6) (v := .ref (ad_md 2)) (C := "HazardTablesModel") (T := F_Model) (N := 30) hx hb hts hin_Model hown hK hP 0 rfl rfl 6 (by decide) fl_17 (fun _ h9 => h9) rfl d_Model_contradict_22 ?_
  refine lv_iload_n hx hb d_Model_contradict_25 rfl (lv_at hl 1 rfl) ?_
  refine lv_bipush (v := (8 : Int32)) hx hb d_Model_contradict_26 (by decide) ?_
  refine lv_iadd hx hb d_Model_contradict_28 ?_
  obtain ⟨hi3, hf⟩ := hf_g hf
  refine va_iald hx hb hK hP 2 1 rfl rfl hi3 d_Model_contradict_29 ?_
  refine lv_aload_n hx hb d_Model_contradict_30 rfl (lv_at hl 2 rfl) ?_
  refine va_get (D := (dC, dI)) (ci := 6) (v := .ref (ad_md 2)) (C := "HazardTablesModel") (T := F_Model) (N := 30) hx hb hts hin_Model hown hK hP 0 rfl rfl 6 (by decide) fl_17 (fun _ h9 => h9) rfl d_Model_contradict_31 ?_
  refine lv_iload hx hb d_Model_contradict_34 (lv_at hl 0 rfl) ?_
  refine lv_iconst (v := (1 : Int32)) hx hb d_Model_contradict_36 (by decide) ?_
  refine lv_iadd hx hb d_Model_contradict_37 ?_
  obtain ⟨hi4, hf⟩ := hf_g hf
  refine va_iald hx hb hK hP 2 1 rfl rfl hi4 d_Model_contradict_38 ?_
  refine lv_ishr hx hb d_Model_contradict_39 ?_
  refine lv_iconst (v := (1 : Int32)) hx hb d_Model_contradict_40 (by decide) ?_
  refine lv_iand hx hb d_Model_contradict_41 ?_
  refine lv_iconst (v := (1 : Int32)) hx hb d_Model_contradict_42 (by decide) ?_
  refine lv_icmp_eq (tgt := 71) hx hb d_Model_contradict_43 (by decide) (fun hc5 => ?_) (fun hc5 => ?_)
  · have hf := hf_t hf hc5
    refine lv_iconst (v := (1 : Int32)) hx hb d_Model_contradict_71 (by decide) ?_
    refine lv_goto (tgt := 76) hx hb d_Model_contradict_72 (by decide) ?_
    exact ret true () H locs ls 76 d_Model_contradict_76 (Option.some.inj hf) hP hD hS
  · have hf := hf_f hf hc5
    refine lv_aload_n hx hb d_Model_contradict_46 rfl (lv_at hl 2 rfl) ?_
    refine va_get (D := (dC, dI)) (ci := 6) (v := .ref (ad_md 2)) (C := "HazardTablesModel") (T := F_Model) (N := 30) hx hb hts hin_Model hown hK hP 0 rfl rfl 6 (by decide) fl_17 (fun _ h9 => h9) rfl d_Model_contradict_47 ?_
    refine lv_iload hx hb d_Model_contradict_50 (lv_at hl 0 rfl) ?_
    refine lv_bipush (v := (8 : Int32)) hx hb d_Model_contradict_52 (by decide) ?_
    refine lv_iadd hx hb d_Model_contradict_54 ?_
    obtain ⟨hi6, hf⟩ := hf_g hf
    refine va_iald hx hb hK hP 2 1 rfl rfl hi6 d_Model_contradict_55 ?_
    refine lv_aload_n hx hb d_Model_contradict_56 rfl (lv_at hl 2 rfl) ?_
    refine va_get (D := (dC, dI)) (ci := 6) (v := .ref (ad_md 2)) (C := "HazardTablesModel") (T := F_Model) (N := 30) hx hb hts hin_Model hown hK hP 0 rfl rfl 6 (by decide) fl_17 (fun _ h9 => h9) rfl d_Model_contradict_57 ?_
    refine lv_iload_n hx hb d_Model_contradict_60 rfl (lv_at hl 1 rfl) ?_
    refine lv_iconst (v := (1 : Int32)) hx hb d_Model_contradict_61 (by decide) ?_
    refine lv_iadd hx hb d_Model_contradict_62 ?_
    obtain ⟨hi7, hf⟩ := hf_g hf
    refine va_iald hx hb hK hP 2 1 rfl rfl hi7 d_Model_contradict_63 ?_
    refine lv_ishr hx hb d_Model_contradict_64 ?_
    refine lv_iconst (v := (1 : Int32)) hx hb d_Model_contradict_65 (by decide) ?_
    refine lv_iand hx hb d_Model_contradict_66 ?_
    refine lv_iconst (v := (1 : Int32)) hx hb d_Model_contradict_67 (by decide) ?_
    refine lv_icmp_ne (tgt := 75) hx hb d_Model_contradict_68 (by decide) (fun hc8 => ?_) (fun hc8 => ?_)
    · have hf := hf_f hf hc8
      refine lv_iconst (v := (0 : Int32)) hx hb d_Model_contradict_75 (by decide) ?_
      exact ret false () H locs ls 76 d_Model_contradict_76 (Option.some.inj hf) hP hD hS
    · have hf := hf_t hf hc8
      refine lv_iconst (v := (1 : Int32)) hx hb d_Model_contradict_71 (by decide) ?_
      refine lv_goto (tgt := 76) hx hb d_Model_contradict_72 (by decide) ?_
      exact ret true () H locs ls 76 d_Model_contradict_76 (Option.some.inj hf) hP hD hS
