noncomputable def init_HT : SHT := upd (upd (upd (upd (upd (fun _ => 0) (0 : Int32).toNatClampNeg 1000) (1 : Int32).toNatClampNeg 1000) (2 : Int32).toNatClampNeg 1000) (3 : Int32).toNatClampNeg 1000) (4 : Int32).toNatClampNeg 1000
set_option maxHeartbeats 4000000 in
set_option maxRecDepth 100000 in
theorem k_HT_init (l : Launch) (dC : Nat → ClassId) (dI : Nat → Nat → Nat) (h0 sz : Nat) : Met l y_HT_init w_HT_init ({ frames := 2, cells := 26, slots := 1744, locals := 32 }) (cPc (dC, dI) [(h0, .inr (5, [.null, .null, .null, .null, .null, .null, .null]))] [] sz [.ref h0]) (va_Qv (fun (_ : Unit) => True) (fun (_ : Unit) (t : State) => ∃ (ad_ht : Nat → Nat) (cA_ht : Nat → ClassId) (ad_rd : Nat → Nat) (cA_rd : Nat → ClassId) (ad_sp : Nat → Nat) (cA_sp : Nat → ClassId) (ad_mx : Nat → Nat) (cA_mx : Nat → ClassId) (ad_ar : Nat → Nat) (cA_ar : Nat → ClassId) (ad_tb : Nat → Nat) (cA_tb : Nat → ClassId) (ad_tc : Nat → Nat) (cA_tc : Nat → ClassId), ad_ht 0 = h0 ∧ va_P (dC, dI) vwCl (uw_HT ad_ht cA_ht (ad_rd 0) (ad_sp 0) (ad_mx 0) (ad_ar 0) (ad_tb 0) (ad_tc 0) init_HT ++ uw_Reader ad_rd cA_rd init_Reader ++ uw_Speller ad_sp cA_sp init_Speller ++ uw_Mixture ad_mx cA_mx init_Mixture ++ uw_Surroundings ad_ar cA_ar init_Surroundings ++ uw_Table ad_tb cA_tb init_Table ++ uw_Table ad_tc cA_tc init_Table) t.heap ∧ va_K (dC, dI) vwCl [(cA_ht 1, .int), (cA_rd 1, .int), (cA_sp 1, .int), (cA_sp 2, .int), (cA_sp 3, .int), (cA_sp 4, .int), (cA_mx 1, .int), (cA_mx 2, .int), (cA_mx 3, .boolean), (cA_ar 1, .int), (cA_ar 2, .int), (cA_ar 3, .int), (cA_tb 1, .int), (cA_tb 2, .int), (cA_tb 3, .int), (cA_tb 4, .byte), (cA_tc 1, .int), (cA_tc 2, .int), (cA_tc 3, .int), (cA_tc 4, .byte)] t ∧ va_D (va_A [(h0, .inr (5, [.null, .null, .null, .null, .null, .null, .null]))] sz) (uw_HT ad_ht cA_ht (ad_rd 0) (ad_sp 0) (ad_mx 0) (ad_ar 0) (ad_tb 0) (ad_tc 0) init_HT ++ uw_Reader ad_rd cA_rd init_Reader ++ uw_Speller ad_sp cA_sp init_Speller ++ uw_Mixture ad_mx cA_mx init_Mixture ++ uw_Surroundings ad_ar cA_ar init_Surroundings ++ uw_Table ad_tb cA_tb init_Table ++ uw_Table ad_tc cA_tc init_Table)) (va_A [(h0, .inr (5, [.null, .null, .null, .null, .null, .null, .null]))] sz)) 26 1744 (va_A [(h0, .inr (5, [.null, .null, .null, .null, .null, .null, .null]))] sz) := by
  refine Met.ofW (cc := b_HT_init) (maxL := 2) (ret := none) (by decide) rfl ?_
  intro p e s m args below meth c s₁ B hml hv
  obtain ⟨rfl, hsz, hP, hK, hD0, hN⟩ := hv
  have hx := B.exec
  have hb := B.bytes
  have hr := B.returns
  have hts := atoms_spec (ws := w_HT_init) B.pre
  have hown : s.vm.findClass "HazardTables" = some m.cls := findClass_of_methodNamed B.named
  have hlocks := B.notSynchronized
  have hin : meth.name = "<init>" := (name_of_methodNamed B.named B.method).1
  subst hsz
  have hD := hD0.self (sz := s.heap.size)
  generalize hAe : va_A [(h0, .inr (5, [.null, .null, .null, .null, .null, .null, .null]))] s.heap.size = A at hD ⊢
  have hA : ∀ q : Nat, s.heap.size ≤ q → A q := fun q h => by rw [← hAe]; exact Or.inr h
  have hS : va_S A s.heap s.heap [] := va_S.rf
  have hP : va_P (dC, dI) vwCl [(h0, .inr (5, [.null, .null, .null, .null, .null, .null, .null]))] s.heap := hP
  have hin_HT : ∀ w ∈ u_ws "HazardTables" F_HT 7, w ∈ w_HT_init := fun w h => List.mem_cons_of_mem _ (hinA_HT w h)
  have fl_10 := (hts _ (List.mem_cons_of_mem _ wd_204))
  have fl_19 := (hts _ (List.mem_cons_of_mem _ wd_205))
  have fl_26 := (hts _ (List.mem_cons_of_mem _ wd_206))
  have fl_33 := (hts _ (List.mem_cons_of_mem _ wd_207))
  have fl_37 := (hts _ (List.mem_cons_of_mem _ wd_208))
  have fl_44 := (hts _ (List.mem_cons_of_mem _ wd_209))
  have fl_48 := (hts _ (List.mem_cons_of_mem _ wd_210))
  have hl := lv_entry ([.ref h0]) (n := 2) (Nat.le_of_ble_eq_true rfl)
  rw [lg_entry_eq]
  generalize (lg_sl ([.ref h0]) ++ List.replicate (2 - (lg_sl ([.ref h0])).length) Slot.unset).toArray = ls at hl ⊢
  have hl : lv_has ls 2 [(0, .ref h0)] := hl
  refine lv_aload_n hx hb d_HT_init_0 rfl (lv_at hl 0 rfl) ?_
  refine W.objInit hx hb hown (hts _ (List.mem_cons_of_mem _ wd_63)) (hts _ (List.mem_cons_of_mem _ wd_64)) (hts _ (List.mem_cons_of_mem _ wd_65)) rfl (by rw [hml]; exact hl.1) rfl d_HT_init_1 (Nat.le_of_ble_eq_true rfl) (Nat.le_of_ble_eq_true rfl) ?_
  refine W.eq (g2 := F0 m 4 ls []) rfl ?_
  refine lv_aload_n hx hb d_HT_init_4 rfl (lv_at hl 0 rfl) ?_
  refine va_new (ci := 1) (fs := [.null, .int 0, .int 0, .int 0, .int 0]) (C := "HazardTables$Reader") (T := F_Reader) (N := 5) hx hb hts (fun w h => List.mem_cons_of_mem _ (hinA_Reader w h)) t_Reader t_Reader_ok hown (hts _ (List.mem_cons_of_mem _ wd_66)) (hts _ (List.mem_cons_of_mem _ wd_67)) (hts _ (List.mem_cons_of_mem _ wd_44)) hK hP hD hS hA rfl (fun j hj => by rcases (show j = 0 ∨ j = 1 ∨ j = 2 ∨ j = 3 ∨ j = 4 by omega) with rfl | rfl | rfl | rfl | rfl <;> rfl) (Nat.le_of_ble_eq_true rfl) (Nat.le_of_ble_eq_true rfl) d_HT_init_5 (fun q5 H hP hD hS => ?_)
  have hP : va_P (dC, dI) vwCl ([(h0, .inr (5, [.null, .null, .null, .null, .null, .null, .null]))] ++ [(q5, .inr (1, [.null, .int 0, .int 0, .int 0, .int 0]))]) H := hP
  have hD : va_D A ([(h0, .inr (5, [.null, .null, .null, .null, .null, .null, .null]))] ++ [(q5, .inr (1, [.null, .int 0, .int 0, .int 0, .int 0]))]) := hD
  refine W.widen (k := 1) (n := 5) (Nat.le_refl _) (Nat.le_refl _) ?_
  refine lv_dup hx hb d_HT_init_8 rfl ?_
  have hPc := hP.sub (ws' := [(q5, .inr (1, [.null, .int 0, .int 0, .int 0, .int 0]))]) [1] rfl
  have hDc := hD.sub (ws' := [(q5, .inr (1, [.null, .int 0, .int 0, .int 0, .int 0]))]) [1] (by decide) rfl
  have hKc := hK.sub (tys' := []) [] rfl
  have hFc := va_free (wc := [(q5, .inr (1, [.null, .int 0, .int 0, .int 0, .int 0]))]) hD hS hA [1] rfl
  refine va_callv (va_runI (As := []) (rest := [.ref q5, .ref h0]) ⟨hx, hb, hml, hown, hts⟩ (k_Reader_init l dC dI q5 H.size) (cwI 0 hts (gC wd_70) rfl rfl rfl (hts _ (List.mem_cons_of_mem _ wd_44)) (hts _ (List.mem_cons_of_mem _ wd_68)) (hts _ (List.mem_cons_of_mem _ wd_69)) rfl (by decide +kernel) ⟨Nat.le_of_ble_eq_true rfl, Nat.le_of_ble_eq_true rfl⟩) (cl_preS hPc hKc hDc hN) rfl rfl hl.1 rfl (lv_room (Nat.le_of_ble_eq_true rfl)) d_HT_init_9 ⟨Nat.le_of_ble_eq_true rfl, Nat.le_of_ble_eq_true rfl⟩) hS (fun q _ h => hFc q h) hFc (fun u t H1 locs ht hvm hw hB hz1 hk1 hS => ?_)
  subst hw
  obtain ⟨ad_rd, cA_rd, had, hP1, hK1, hD1⟩ := hB
  rw [ht] at hP1
  have hK1 := va_K.moved hvm.symm hK1
  obtain ⟨hP2, hD2⟩ := va_join (wr := ([(h0, .inr (5, [.null, .null, .null, .null, .null, .null, .null]))])) (w1 := uw_Reader ad_rd cA_rd init_Reader) hP hD [1] [0] rfl rfl (by decide) (by decide) hk1 hFc hP1 hD1
  have hK := hK.app hK1
  clear hPc hDc hKc hFc hP1 hK1 hD1 hk1 hz1 hP hD
  subst had
  generalize H1 = H at hP2 hS ⊢
  have hP := hP2
  have hD := hD2
  clear hP2 hD2
  have hP : va_P (dC, dI) vwCl ([(h0, .inr (5, [.null, .null, .null, .null, .null, .null, .null]))] ++ uw_Reader ad_rd cA_rd init_Reader) H := hP
  have hD : va_D A ([(h0, .inr (5, [.null, .null, .null, .null, .null, .null, .null]))] ++ uw_Reader ad_rd cA_rd init_Reader) := hD
  have hK : va_K (dC, dI) vwCl [(cA_rd 1, .int)] s := hK
  refine W.widen (k := 2) (n := 405) (Nat.le_refl _) (Nat.le_refl _) ?_
  refine va_putF (D := (dC, dI)) (ci := 5) (v := .ref (ad_rd 0)) (ty := .object "HazardTables$Reader") (C := "HazardTables") (T := F_HT) (N := 7) hx hb hts hin_HT t_HT t_HT_ok n_HT hown hK hP hD hS 0 rfl rfl 0 (by decide) fl_10 (fun _ h9 => h9) rfl hin rfl (by decide +kernel) rfl rfl (Nat.le_of_ble_eq_true rfl) d_HT_init_12 (fun H locs hP hD hS => ?_)
  have hP : va_P (dC, dI) vwCl ([(h0, .inr (5, [.ref (ad_rd 0), .null, .null, .null, .null, .null, .null]))] ++ uw_Reader ad_rd cA_rd init_Reader) H := hP
  have hD : va_D A ([(h0, .inr (5, [.ref (ad_rd 0), .null, .null, .null, .null, .null, .null]))] ++ uw_Reader ad_rd cA_rd init_Reader) := hD
  refine lv_aload_n hx hb d_HT_init_15 rfl (lv_at hl 0 rfl) ?_
  refine va_new (ci := 2) (fs := [.null, .null, .null, .null, .int 0, .int 0]) (C := "HazardTables$Speller") (T := F_Speller) (N := 6) hx hb hts (fun w h => List.mem_cons_of_mem _ (hinA_Speller w h)) t_Speller t_Speller_ok hown (hts _ (List.mem_cons_of_mem _ wd_90)) (hts _ (List.mem_cons_of_mem _ wd_91)) (hts _ (List.mem_cons_of_mem _ wd_45)) hK hP hD hS hA rfl (fun j hj => by rcases (show j = 0 ∨ j = 1 ∨ j = 2 ∨ j = 3 ∨ j = 4 ∨ j = 5 by omega) with rfl | rfl | rfl | rfl | rfl | rfl <;> rfl) (Nat.le_of_ble_eq_true rfl) (Nat.le_of_ble_eq_true rfl) d_HT_init_16 (fun q16 H hP hD hS => ?_)
  have hP : va_P (dC, dI) vwCl ([(h0, .inr (5, [.ref (ad_rd 0), .null, .null, .null, .null, .null, .null]))] ++ uw_Reader ad_rd cA_rd init_Reader ++ [(q16, .inr (2, [.null, .null, .null, .null, .int 0, .int 0]))]) H := hP
  have hD : va_D A ([(h0, .inr (5, [.ref (ad_rd 0), .null, .null, .null, .null, .null, .null]))] ++ uw_Reader ad_rd cA_rd init_Reader ++ [(q16, .inr (2, [.null, .null, .null, .null, .int 0, .int 0]))]) := hD
  refine W.widen (k := 3) (n := 411) (Nat.le_refl _) (Nat.le_refl _) ?_
  refine lv_dup hx hb d_HT_init_19 rfl ?_
  have hPc := hP.sub (ws' := [(q16, .inr (2, [.null, .null, .null, .null, .int 0, .int 0]))]) [3] rfl
  have hDc := hD.sub (ws' := [(q16, .inr (2, [.null, .null, .null, .null, .int 0, .int 0]))]) [3] (by decide) rfl
  have hKc := hK.sub (tys' := []) [] rfl
  have hFc := va_free (wc := [(q16, .inr (2, [.null, .null, .null, .null, .int 0, .int 0]))]) hD hS hA [3] rfl
  refine va_callv (va_runI (As := []) (rest := [.ref q16, .ref h0]) ⟨hx, hb, hml, hown, hts⟩ (k_Speller_init l dC dI q16 H.size) (cwI 0 hts (gC wd_94) rfl rfl rfl (hts _ (List.mem_cons_of_mem _ wd_45)) (hts _ (List.mem_cons_of_mem _ wd_92)) (hts _ (List.mem_cons_of_mem _ wd_93)) rfl (by decide +kernel) ⟨Nat.le_of_ble_eq_true rfl, Nat.le_of_ble_eq_true rfl⟩) (cl_preS hPc hKc hDc hN) rfl rfl hl.1 rfl (lv_room (Nat.le_of_ble_eq_true rfl)) d_HT_init_20 ⟨Nat.le_of_ble_eq_true rfl, Nat.le_of_ble_eq_true rfl⟩) hS (fun q _ h => hFc q h) hFc (fun u t H1 locs ht hvm hw hB hz1 hk1 hS => ?_)
  subst hw
  obtain ⟨ad_sp, cA_sp, had, hP1, hK1, hD1⟩ := hB
  rw [ht] at hP1
  have hK1 := va_K.moved hvm.symm hK1
  obtain ⟨hP2, hD2⟩ := va_join (wr := ([(h0, .inr (5, [.ref (ad_rd 0), .null, .null, .null, .null, .null, .null]))] ++ uw_Reader ad_rd cA_rd init_Reader)) (w1 := uw_Speller ad_sp cA_sp init_Speller) hP hD [3] [0, 1, 2] rfl rfl (by decide) (by decide) hk1 hFc hP1 hD1
  have hK := hK.app hK1
  clear hPc hDc hKc hFc hP1 hK1 hD1 hk1 hz1 hP hD
  subst had
  generalize H1 = H at hP2 hS ⊢
  have hP := hP2
  have hD := hD2
  clear hP2 hD2
  have hP : va_P (dC, dI) vwCl ([(h0, .inr (5, [.ref (ad_rd 0), .null, .null, .null, .null, .null, .null]))] ++ uw_Reader ad_rd cA_rd init_Reader ++ uw_Speller ad_sp cA_sp init_Speller) H := hP
  have hD : va_D A ([(h0, .inr (5, [.ref (ad_rd 0), .null, .null, .null, .null, .null, .null]))] ++ uw_Reader ad_rd cA_rd init_Reader ++ uw_Speller ad_sp cA_sp init_Speller) := hD
  have hK : va_K (dC, dI) vwCl [(cA_rd 1, .int), (cA_sp 1, .int), (cA_sp 2, .int), (cA_sp 3, .int), (cA_sp 4, .int)] s := hK
  refine W.widen (k := 7) (n := 452) (Nat.le_refl _) (Nat.le_refl _) ?_
  refine va_putF (D := (dC, dI)) (ci := 5) (v := .ref (ad_sp 0)) (ty := .object "HazardTables$Speller") (C := "HazardTables") (T := F_HT) (N := 7) hx hb hts hin_HT t_HT t_HT_ok n_HT hown hK hP hD hS 0 rfl rfl 1 (by decide) fl_19 (fun _ h9 => h9) rfl hin rfl (by decide +kernel) rfl rfl (Nat.le_of_ble_eq_true rfl) d_HT_init_23 (fun H locs hP hD hS => ?_)
  have hP : va_P (dC, dI) vwCl ([(h0, .inr (5, [.ref (ad_rd 0), .ref (ad_sp 0), .null, .null, .null, .null, .null]))] ++ uw_Reader ad_rd cA_rd init_Reader ++ uw_Speller ad_sp cA_sp init_Speller) H := hP
  have hD : va_D A ([(h0, .inr (5, [.ref (ad_rd 0), .ref (ad_sp 0), .null, .null, .null, .null, .null]))] ++ uw_Reader ad_rd cA_rd init_Reader ++ uw_Speller ad_sp cA_sp init_Speller) := hD
  refine lv_aload_n hx hb d_HT_init_26 rfl (lv_at hl 0 rfl) ?_
  refine va_new (ci := 0) (fs := [.null, .null, .null, .int 0, .int 0]) (C := "HazardTables$Mixture") (T := F_Mixture) (N := 5) hx hb hts (fun w h => List.mem_cons_of_mem _ (hinA_Mixture w h)) t_Mixture t_Mixture_ok hown (hts _ (List.mem_cons_of_mem _ wd_115)) (hts _ (List.mem_cons_of_mem _ wd_116)) (hts _ (List.mem_cons_of_mem _ wd_46)) hK hP hD hS hA rfl (fun j hj => by rcases (show j = 0 ∨ j = 1 ∨ j = 2 ∨ j = 3 ∨ j = 4 by omega) with rfl | rfl | rfl | rfl | rfl <;> rfl) (Nat.le_of_ble_eq_true rfl) (Nat.le_of_ble_eq_true rfl) d_HT_init_27 (fun q27 H hP hD hS => ?_)
  have hP : va_P (dC, dI) vwCl ([(h0, .inr (5, [.ref (ad_rd 0), .ref (ad_sp 0), .null, .null, .null, .null, .null]))] ++ uw_Reader ad_rd cA_rd init_Reader ++ uw_Speller ad_sp cA_sp init_Speller ++ [(q27, .inr (0, [.null, .null, .null, .int 0, .int 0]))]) H := hP
  have hD : va_D A ([(h0, .inr (5, [.ref (ad_rd 0), .ref (ad_sp 0), .null, .null, .null, .null, .null]))] ++ uw_Reader ad_rd cA_rd init_Reader ++ uw_Speller ad_sp cA_sp init_Speller ++ [(q27, .inr (0, [.null, .null, .null, .int 0, .int 0]))]) := hD
  refine W.widen (k := 8) (n := 457) (Nat.le_refl _) (Nat.le_refl _) ?_
  refine lv_dup hx hb d_HT_init_30 rfl ?_
  have hPc := hP.sub (ws' := [(q27, .inr (0, [.null, .null, .null, .int 0, .int 0]))]) [8] rfl
  have hDc := hD.sub (ws' := [(q27, .inr (0, [.null, .null, .null, .int 0, .int 0]))]) [8] (by decide) rfl
  have hKc := hK.sub (tys' := []) [] rfl
  have hFc := va_free (wc := [(q27, .inr (0, [.null, .null, .null, .int 0, .int 0]))]) hD hS hA [8] rfl
  refine va_callv (va_runI (As := []) (rest := [.ref q27, .ref h0]) ⟨hx, hb, hml, hown, hts⟩ (k_Mixture_init l dC dI q27 H.size) (cwI 0 hts (gC wd_119) rfl rfl rfl (hts _ (List.mem_cons_of_mem _ wd_46)) (hts _ (List.mem_cons_of_mem _ wd_117)) (hts _ (List.mem_cons_of_mem _ wd_118)) rfl (by decide +kernel) ⟨Nat.le_of_ble_eq_true rfl, Nat.le_of_ble_eq_true rfl⟩) (cl_preS hPc hKc hDc hN) rfl rfl hl.1 rfl (lv_room (Nat.le_of_ble_eq_true rfl)) d_HT_init_31 ⟨Nat.le_of_ble_eq_true rfl, Nat.le_of_ble_eq_true rfl⟩) hS (fun q _ h => hFc q h) hFc (fun u t H1 locs ht hvm hw hB hz1 hk1 hS => ?_)
  subst hw
  obtain ⟨ad_mx, cA_mx, had, hP1, hK1, hD1⟩ := hB
  rw [ht] at hP1
  have hK1 := va_K.moved hvm.symm hK1
  obtain ⟨hP2, hD2⟩ := va_join (wr := ([(h0, .inr (5, [.ref (ad_rd 0), .ref (ad_sp 0), .null, .null, .null, .null, .null]))] ++ uw_Reader ad_rd cA_rd init_Reader ++ uw_Speller ad_sp cA_sp init_Speller)) (w1 := uw_Mixture ad_mx cA_mx init_Mixture) hP hD [8] [0, 1, 2, 3, 4, 5, 6, 7] rfl rfl (by decide) (by decide) hk1 hFc hP1 hD1
  have hK := hK.app hK1
  clear hPc hDc hKc hFc hP1 hK1 hD1 hk1 hz1 hP hD
  subst had
  generalize H1 = H at hP2 hS ⊢
  have hP := hP2
  have hD := hD2
  clear hP2 hD2
  have hP : va_P (dC, dI) vwCl ([(h0, .inr (5, [.ref (ad_rd 0), .ref (ad_sp 0), .null, .null, .null, .null, .null]))] ++ uw_Reader ad_rd cA_rd init_Reader ++ uw_Speller ad_sp cA_sp init_Speller ++ uw_Mixture ad_mx cA_mx init_Mixture) H := hP
  have hD : va_D A ([(h0, .inr (5, [.ref (ad_rd 0), .ref (ad_sp 0), .null, .null, .null, .null, .null]))] ++ uw_Reader ad_rd cA_rd init_Reader ++ uw_Speller ad_sp cA_sp init_Speller ++ uw_Mixture ad_mx cA_mx init_Mixture) := hD
  have hK : va_K (dC, dI) vwCl [(cA_rd 1, .int), (cA_sp 1, .int), (cA_sp 2, .int), (cA_sp 3, .int), (cA_sp 4, .int), (cA_mx 1, .int), (cA_mx 2, .int), (cA_mx 3, .boolean)] s := hK
  refine W.widen (k := 11) (n := 481) (Nat.le_refl _) (Nat.le_refl _) ?_
  refine va_putF (D := (dC, dI)) (ci := 5) (v := .ref (ad_mx 0)) (ty := .object "HazardTables$Mixture") (C := "HazardTables") (T := F_HT) (N := 7) hx hb hts hin_HT t_HT t_HT_ok n_HT hown hK hP hD hS 0 rfl rfl 2 (by decide) fl_26 (fun _ h9 => h9) rfl hin rfl (by decide +kernel) rfl rfl (Nat.le_of_ble_eq_true rfl) d_HT_init_34 (fun H locs hP hD hS => ?_)
  have hP : va_P (dC, dI) vwCl ([(h0, .inr (5, [.ref (ad_rd 0), .ref (ad_sp 0), .ref (ad_mx 0), .null, .null, .null, .null]))] ++ uw_Reader ad_rd cA_rd init_Reader ++ uw_Speller ad_sp cA_sp init_Speller ++ uw_Mixture ad_mx cA_mx init_Mixture) H := hP
  have hD : va_D A ([(h0, .inr (5, [.ref (ad_rd 0), .ref (ad_sp 0), .ref (ad_mx 0), .null, .null, .null, .null]))] ++ uw_Reader ad_rd cA_rd init_Reader ++ uw_Speller ad_sp cA_sp init_Speller ++ uw_Mixture ad_mx cA_mx init_Mixture) := hD
  refine lv_aload_n hx hb d_HT_init_37 rfl (lv_at hl 0 rfl) ?_
  refine va_new (ci := 3) (fs := [.null, .null, .null, .int 0, .int 0, .int 0, .int 0, .int 0]) (C := "HazardTables$Surroundings") (T := F_Surroundings) (N := 8) hx hb hts (fun w h => List.mem_cons_of_mem _ (hinA_Surroundings w h)) t_Surroundings t_Surroundings_ok hown (hts _ (List.mem_cons_of_mem _ wd_140)) (hts _ (List.mem_cons_of_mem _ wd_141)) (hts _ (List.mem_cons_of_mem _ wd_47)) hK hP hD hS hA rfl (fun j hj => by rcases (show j = 0 ∨ j = 1 ∨ j = 2 ∨ j = 3 ∨ j = 4 ∨ j = 5 ∨ j = 6 ∨ j = 7 by omega) with rfl | rfl | rfl | rfl | rfl | rfl | rfl | rfl <;> rfl) (Nat.le_of_ble_eq_true rfl) (Nat.le_of_ble_eq_true rfl) d_HT_init_38 (fun q38 H hP hD hS => ?_)
  have hP : va_P (dC, dI) vwCl ([(h0, .inr (5, [.ref (ad_rd 0), .ref (ad_sp 0), .ref (ad_mx 0), .null, .null, .null, .null]))] ++ uw_Reader ad_rd cA_rd init_Reader ++ uw_Speller ad_sp cA_sp init_Speller ++ uw_Mixture ad_mx cA_mx init_Mixture ++ [(q38, .inr (3, [.null, .null, .null, .int 0, .int 0, .int 0, .int 0, .int 0]))]) H := hP
  have hD : va_D A ([(h0, .inr (5, [.ref (ad_rd 0), .ref (ad_sp 0), .ref (ad_mx 0), .null, .null, .null, .null]))] ++ uw_Reader ad_rd cA_rd init_Reader ++ uw_Speller ad_sp cA_sp init_Speller ++ uw_Mixture ad_mx cA_mx init_Mixture ++ [(q38, .inr (3, [.null, .null, .null, .int 0, .int 0, .int 0, .int 0, .int 0]))]) := hD
  refine W.widen (k := 12) (n := 489) (Nat.le_refl _) (Nat.le_refl _) ?_
  refine lv_dup hx hb d_HT_init_41 rfl ?_
  have hPc := hP.sub (ws' := [(q38, .inr (3, [.null, .null, .null, .int 0, .int 0, .int 0, .int 0, .int 0]))]) [12] rfl
  have hDc := hD.sub (ws' := [(q38, .inr (3, [.null, .null, .null, .int 0, .int 0, .int 0, .int 0, .int 0]))]) [12] (by decide) rfl
  have hKc := hK.sub (tys' := []) [] rfl
  have hFc := va_free (wc := [(q38, .inr (3, [.null, .null, .null, .int 0, .int 0, .int 0, .int 0, .int 0]))]) hD hS hA [12] rfl
  refine va_callv (va_runI (As := []) (rest := [.ref q38, .ref h0]) ⟨hx, hb, hml, hown, hts⟩ (k_Surroundings_init l dC dI q38 H.size) (cwI 0 hts (gC wd_144) rfl rfl rfl (hts _ (List.mem_cons_of_mem _ wd_47)) (hts _ (List.mem_cons_of_mem _ wd_142)) (hts _ (List.mem_cons_of_mem _ wd_143)) rfl (by decide +kernel) ⟨Nat.le_of_ble_eq_true rfl, Nat.le_of_ble_eq_true rfl⟩) (cl_preS hPc hKc hDc hN) rfl rfl hl.1 rfl (lv_room (Nat.le_of_ble_eq_true rfl)) d_HT_init_42 ⟨Nat.le_of_ble_eq_true rfl, Nat.le_of_ble_eq_true rfl⟩) hS (fun q _ h => hFc q h) hFc (fun u t H1 locs ht hvm hw hB hz1 hk1 hS => ?_)
  subst hw
  obtain ⟨ad_ar, cA_ar, had, hP1, hK1, hD1⟩ := hB
  rw [ht] at hP1
  have hK1 := va_K.moved hvm.symm hK1
  obtain ⟨hP2, hD2⟩ := va_join (wr := ([(h0, .inr (5, [.ref (ad_rd 0), .ref (ad_sp 0), .ref (ad_mx 0), .null, .null, .null, .null]))] ++ uw_Reader ad_rd cA_rd init_Reader ++ uw_Speller ad_sp cA_sp init_Speller ++ uw_Mixture ad_mx cA_mx init_Mixture)) (w1 := uw_Surroundings ad_ar cA_ar init_Surroundings) hP hD [12] [0, 1, 2, 3, 4, 5, 6, 7, 8, 9, 10, 11] rfl rfl (by decide) (by decide) hk1 hFc hP1 hD1
  have hK := hK.app hK1
  clear hPc hDc hKc hFc hP1 hK1 hD1 hk1 hz1 hP hD
  subst had
  generalize H1 = H at hP2 hS ⊢
  have hP := hP2
  have hD := hD2
  clear hP2 hD2
  have hP : va_P (dC, dI) vwCl ([(h0, .inr (5, [.ref (ad_rd 0), .ref (ad_sp 0), .ref (ad_mx 0), .null, .null, .null, .null]))] ++ uw_Reader ad_rd cA_rd init_Reader ++ uw_Speller ad_sp cA_sp init_Speller ++ uw_Mixture ad_mx cA_mx init_Mixture ++ uw_Surroundings ad_ar cA_ar init_Surroundings) H := hP
  have hD : va_D A ([(h0, .inr (5, [.ref (ad_rd 0), .ref (ad_sp 0), .ref (ad_mx 0), .null, .null, .null, .null]))] ++ uw_Reader ad_rd cA_rd init_Reader ++ uw_Speller ad_sp cA_sp init_Speller ++ uw_Mixture ad_mx cA_mx init_Mixture ++ uw_Surroundings ad_ar cA_ar init_Surroundings) := hD
  have hK : va_K (dC, dI) vwCl [(cA_rd 1, .int), (cA_sp 1, .int), (cA_sp 2, .int), (cA_sp 3, .int), (cA_sp 4, .int), (cA_mx 1, .int), (cA_mx 2, .int), (cA_mx 3, .boolean), (cA_ar 1, .int), (cA_ar 2, .int), (cA_ar 3, .int)] s := hK
  refine W.widen (k := 15) (n := 609) (Nat.le_refl _) (Nat.le_refl _) ?_
  refine va_putF (D := (dC, dI)) (ci := 5) (v := .ref (ad_ar 0)) (ty := .object "HazardTables$Surroundings") (C := "HazardTables") (T := F_HT) (N := 7) hx hb hts hin_HT t_HT t_HT_ok n_HT hown hK hP hD hS 0 rfl rfl 3 (by decide) fl_33 (fun _ h9 => h9) rfl hin rfl (by decide +kernel) rfl rfl (Nat.le_of_ble_eq_true rfl) d_HT_init_45 (fun H locs hP hD hS => ?_)
  have hP : va_P (dC, dI) vwCl ([(h0, .inr (5, [.ref (ad_rd 0), .ref (ad_sp 0), .ref (ad_mx 0), .ref (ad_ar 0), .null, .null, .null]))] ++ uw_Reader ad_rd cA_rd init_Reader ++ uw_Speller ad_sp cA_sp init_Speller ++ uw_Mixture ad_mx cA_mx init_Mixture ++ uw_Surroundings ad_ar cA_ar init_Surroundings) H := hP
  have hD : va_D A ([(h0, .inr (5, [.ref (ad_rd 0), .ref (ad_sp 0), .ref (ad_mx 0), .ref (ad_ar 0), .null, .null, .null]))] ++ uw_Reader ad_rd cA_rd init_Reader ++ uw_Speller ad_sp cA_sp init_Speller ++ uw_Mixture ad_mx cA_mx init_Mixture ++ uw_Surroundings ad_ar cA_ar init_Surroundings) := hD
  refine lv_aload_n hx hb d_HT_init_48 rfl (lv_at hl 0 rfl) ?_
  refine lv_iconst (v := 5) hx hb d_HT_init_49 (by decide) ?_
  refine va_newa (atype := .int) (ty := .int) (n := 5) (N' := 5) (a0 := (5, .inl (fun _ => 0))) hx hb (hts _ (List.mem_cons_of_mem _ wd_89)) rfl hK hP hD hS hA (fun _ => rfl) (by decide) (by decide) (by decide) (Nat.le_of_ble_eq_true rfl) (Nat.le_of_ble_eq_true rfl) d_HT_init_50 (fun qm cm H hK hP hD hS => ?_)
  have hP : va_P (dC, dI) vwCl ([(h0, .inr (5, [.ref (ad_rd 0), .ref (ad_sp 0), .ref (ad_mx 0), .ref (ad_ar 0), .null, .null, .null]))] ++ uw_Reader ad_rd cA_rd init_Reader ++ uw_Speller ad_sp cA_sp init_Speller ++ uw_Mixture ad_mx cA_mx init_Mixture ++ uw_Surroundings ad_ar cA_ar init_Surroundings ++ [(qm, .inl (cm, 5, .inl (fun _ => 0)))]) H := hP
  have hD : va_D A ([(h0, .inr (5, [.ref (ad_rd 0), .ref (ad_sp 0), .ref (ad_mx 0), .ref (ad_ar 0), .null, .null, .null]))] ++ uw_Reader ad_rd cA_rd init_Reader ++ uw_Speller ad_sp cA_sp init_Speller ++ uw_Mixture ad_mx cA_mx init_Mixture ++ uw_Surroundings ad_ar cA_ar init_Surroundings ++ [(qm, .inl (cm, 5, .inl (fun _ => 0)))]) := hD
  have hK : va_K (dC, dI) vwCl [(cA_rd 1, .int), (cA_sp 1, .int), (cA_sp 2, .int), (cA_sp 3, .int), (cA_sp 4, .int), (cA_mx 1, .int), (cA_mx 2, .int), (cA_mx 3, .boolean), (cA_ar 1, .int), (cA_ar 2, .int), (cA_ar 3, .int), (cm, .int)] s := hK
  refine W.widen (k := 16) (n := 614) (Nat.le_refl _) (Nat.le_refl _) ?_
  refine va_putF (D := (dC, dI)) (ci := 5) (v := .ref qm) (ty := .array .int) (C := "HazardTables") (T := F_HT) (N := 7) hx hb hts hin_HT t_HT t_HT_ok n_HT hown hK hP hD hS 0 rfl rfl 4 (by decide) fl_37 (fun _ h9 => h9) rfl hin rfl (by decide +kernel) rfl rfl (Nat.le_of_ble_eq_true rfl) d_HT_init_52 (fun H locs hP hD hS => ?_)
  have hP : va_P (dC, dI) vwCl ([(h0, .inr (5, [.ref (ad_rd 0), .ref (ad_sp 0), .ref (ad_mx 0), .ref (ad_ar 0), .ref qm, .null, .null]))] ++ uw_Reader ad_rd cA_rd init_Reader ++ uw_Speller ad_sp cA_sp init_Speller ++ uw_Mixture ad_mx cA_mx init_Mixture ++ uw_Surroundings ad_ar cA_ar init_Surroundings ++ [(qm, .inl (cm, 5, .inl (fun _ => 0)))]) H := hP
  have hD : va_D A ([(h0, .inr (5, [.ref (ad_rd 0), .ref (ad_sp 0), .ref (ad_mx 0), .ref (ad_ar 0), .ref qm, .null, .null]))] ++ uw_Reader ad_rd cA_rd init_Reader ++ uw_Speller ad_sp cA_sp init_Speller ++ uw_Mixture ad_mx cA_mx init_Mixture ++ uw_Surroundings ad_ar cA_ar init_Surroundings ++ [(qm, .inl (cm, 5, .inl (fun _ => 0)))]) := hD
  refine lv_iconst (v := 0) hx hb d_HT_init_55 (by decide) ?_
  refine lv_istore_n (lv' := [(1, .int (0)), (0, .ref h0)]) hx hb d_HT_init_56 rfl hl (by decide) rfl (fun ls hl => ?_)
  refine lv_iload_n hx hb d_HT_init_57 rfl (lv_at hl 0 rfl) ?_
  refine lv_iconst (v := 5) hx hb d_HT_init_58 (by decide) ?_
  refine lv_icmp_ge (tgt := 77) hx hb d_HT_init_59 (by decide) (fun hc => absurd hc (by decide)) (fun hc => ?_)
  refine lv_aload_n hx hb d_HT_init_62 rfl (lv_at hl 1 rfl) ?_
  refine va_get (D := (dC, dI)) (ci := 5) (v := .ref qm) (C := "HazardTables") (T := F_HT) (N := 7) hx hb hts hin_HT hown hK hP 0 rfl rfl 4 (by decide) fl_37 (fun _ h9 => h9) rfl d_HT_init_63 ?_
  refine lv_iload_n hx hb d_HT_init_66 rfl (lv_at hl 0 rfl) ?_
  refine lv_sipush (v := 1000) hx hb d_HT_init_67 (by decide) ?_
  refine va_iast hx hb hK hP hD hS 16 11 rfl rfl (i := 0) (x := 1000) (show inb 0 5 by decide) d_HT_init_70 (fun H locs hP hD hS => ?_)
  have hP : va_P (dC, dI) vwCl ([(h0, .inr (5, [.ref (ad_rd 0), .ref (ad_sp 0), .ref (ad_mx 0), .ref (ad_ar 0), .ref qm, .null, .null]))] ++ uw_Reader ad_rd cA_rd init_Reader ++ uw_Speller ad_sp cA_sp init_Speller ++ uw_Mixture ad_mx cA_mx init_Mixture ++ uw_Surroundings ad_ar cA_ar init_Surroundings ++ [(qm, .inl (cm, 5, .inl (upd (fun _ => 0) (0 : Int32).toNatClampNeg 1000)))]) H := hP
  have hD : va_D A ([(h0, .inr (5, [.ref (ad_rd 0), .ref (ad_sp 0), .ref (ad_mx 0), .ref (ad_ar 0), .ref qm, .null, .null]))] ++ uw_Reader ad_rd cA_rd init_Reader ++ uw_Speller ad_sp cA_sp init_Speller ++ uw_Mixture ad_mx cA_mx init_Mixture ++ uw_Surroundings ad_ar cA_ar init_Surroundings ++ [(qm, .inl (cm, 5, .inl (upd (fun _ => 0) (0 : Int32).toNatClampNeg 1000)))]) := hD
  refine lv_iinc (v := 1) (lv' := [(1, .int (1)), (0, .ref h0)]) hx hb d_HT_init_71 hl (k := 0) rfl (by decide) (by decide) rfl (fun ls hl => ?_)
  refine lv_goto (tgt := 57) hx hb d_HT_init_74 (by decide) ?_
  refine lv_iload_n hx hb d_HT_init_57 rfl (lv_at hl 0 rfl) ?_
  refine lv_iconst (v := 5) hx hb d_HT_init_58 (by decide) ?_
  refine lv_icmp_ge (tgt := 77) hx hb d_HT_init_59 (by decide) (fun hc => absurd hc (by decide)) (fun hc => ?_)
  refine lv_aload_n hx hb d_HT_init_62 rfl (lv_at hl 1 rfl) ?_
  refine va_get (D := (dC, dI)) (ci := 5) (v := .ref qm) (C := "HazardTables") (T := F_HT) (N := 7) hx hb hts hin_HT hown hK hP 0 rfl rfl 4 (by decide) fl_37 (fun _ h9 => h9) rfl d_HT_init_63 ?_
  refine lv_iload_n hx hb d_HT_init_66 rfl (lv_at hl 0 rfl) ?_
  refine lv_sipush (v := 1000) hx hb d_HT_init_67 (by decide) ?_
  refine va_iast hx hb hK hP hD hS 16 11 rfl rfl (i := 1) (x := 1000) (show inb 1 5 by decide) d_HT_init_70 (fun H locs hP hD hS => ?_)
  have hP : va_P (dC, dI) vwCl ([(h0, .inr (5, [.ref (ad_rd 0), .ref (ad_sp 0), .ref (ad_mx 0), .ref (ad_ar 0), .ref qm, .null, .null]))] ++ uw_Reader ad_rd cA_rd init_Reader ++ uw_Speller ad_sp cA_sp init_Speller ++ uw_Mixture ad_mx cA_mx init_Mixture ++ uw_Surroundings ad_ar cA_ar init_Surroundings ++ [(qm, .inl (cm, 5, .inl (upd (upd (fun _ => 0) (0 : Int32).toNatClampNeg 1000) (1 : Int32).toNatClampNeg 1000)))]) H := hP
  have hD : va_D A ([(h0, .inr (5, [.ref (ad_rd 0), .ref (ad_sp 0), .ref (ad_mx 0), .ref (ad_ar 0), .ref qm, .null, .null]))] ++ uw_Reader ad_rd cA_rd init_Reader ++ uw_Speller ad_sp cA_sp init_Speller ++ uw_Mixture ad_mx cA_mx init_Mixture ++ uw_Surroundings ad_ar cA_ar init_Surroundings ++ [(qm, .inl (cm, 5, .inl (upd (upd (fun _ => 0) (0 : Int32).toNatClampNeg 1000) (1 : Int32).toNatClampNeg 1000)))]) := hD
  refine lv_iinc (v := 2) (lv' := [(1, .int (2)), (0, .ref h0)]) hx hb d_HT_init_71 hl (k := 0) rfl (by decide) (by decide) rfl (fun ls hl => ?_)
  refine lv_goto (tgt := 57) hx hb d_HT_init_74 (by decide) ?_
  refine lv_iload_n hx hb d_HT_init_57 rfl (lv_at hl 0 rfl) ?_
  refine lv_iconst (v := 5) hx hb d_HT_init_58 (by decide) ?_
  refine lv_icmp_ge (tgt := 77) hx hb d_HT_init_59 (by decide) (fun hc => absurd hc (by decide)) (fun hc => ?_)
  refine lv_aload_n hx hb d_HT_init_62 rfl (lv_at hl 1 rfl) ?_
  refine va_get (D := (dC, dI)) (ci := 5) (v := .ref qm) (C := "HazardTables") (T := F_HT) (N := 7) hx hb hts hin_HT hown hK hP 0 rfl rfl 4 (by decide) fl_37 (fun _ h9 => h9) rfl d_HT_init_63 ?_
  refine lv_iload_n hx hb d_HT_init_66 rfl (lv_at hl 0 rfl) ?_
  refine lv_sipush (v := 1000) hx hb d_HT_init_67 (by decide) ?_
  refine va_iast hx hb hK hP hD hS 16 11 rfl rfl (i := 2) (x := 1000) (show inb 2 5 by decide) d_HT_init_70 (fun H locs hP hD hS => ?_)
  have hP : va_P (dC, dI) vwCl ([(h0, .inr (5, [.ref (ad_rd 0), .ref (ad_sp 0), .ref (ad_mx 0), .ref (ad_ar 0), .ref qm, .null, .null]))] ++ uw_Reader ad_rd cA_rd init_Reader ++ uw_Speller ad_sp cA_sp init_Speller ++ uw_Mixture ad_mx cA_mx init_Mixture ++ uw_Surroundings ad_ar cA_ar init_Surroundings ++ [(qm, .inl (cm, 5, .inl (upd (upd (upd (fun _ => 0) (0 : Int32).toNatClampNeg 1000) (1 : Int32).toNatClampNeg 1000) (2 : Int32).toNatClampNeg 1000)))]) H := hP
  have hD : va_D A ([(h0, .inr (5, [.ref (ad_rd 0), .ref (ad_sp 0), .ref (ad_mx 0), .ref (ad_ar 0), .ref qm, .null, .null]))] ++ uw_Reader ad_rd cA_rd init_Reader ++ uw_Speller ad_sp cA_sp init_Speller ++ uw_Mixture ad_mx cA_mx init_Mixture ++ uw_Surroundings ad_ar cA_ar init_Surroundings ++ [(qm, .inl (cm, 5, .inl (upd (upd (upd (fun _ => 0) (0 : Int32).toNatClampNeg 1000) (1 : Int32).toNatClampNeg 1000) (2 : Int32).toNatClampNeg 1000)))]) := hD
  refine lv_iinc (v := 3) (lv' := [(1, .int (3)), (0, .ref h0)]) hx hb d_HT_init_71 hl (k := 0) rfl (by decide) (by decide) rfl (fun ls hl => ?_)
  refine lv_goto (tgt := 57) hx hb d_HT_init_74 (by decide) ?_
  refine lv_iload_n hx hb d_HT_init_57 rfl (lv_at hl 0 rfl) ?_
  refine lv_iconst (v := 5) hx hb d_HT_init_58 (by decide) ?_
  refine lv_icmp_ge (tgt := 77) hx hb d_HT_init_59 (by decide) (fun hc => absurd hc (by decide)) (fun hc => ?_)
  refine lv_aload_n hx hb d_HT_init_62 rfl (lv_at hl 1 rfl) ?_
  refine va_get (D := (dC, dI)) (ci := 5) (v := .ref qm) (C := "HazardTables") (T := F_HT) (N := 7) hx hb hts hin_HT hown hK hP 0 rfl rfl 4 (by decide) fl_37 (fun _ h9 => h9) rfl d_HT_init_63 ?_
  refine lv_iload_n hx hb d_HT_init_66 rfl (lv_at hl 0 rfl) ?_
  refine lv_sipush (v := 1000) hx hb d_HT_init_67 (by decide) ?_
  refine va_iast hx hb hK hP hD hS 16 11 rfl rfl (i := 3) (x := 1000) (show inb 3 5 by decide) d_HT_init_70 (fun H locs hP hD hS => ?_)
  have hP : va_P (dC, dI) vwCl ([(h0, .inr (5, [.ref (ad_rd 0), .ref (ad_sp 0), .ref (ad_mx 0), .ref (ad_ar 0), .ref qm, .null, .null]))] ++ uw_Reader ad_rd cA_rd init_Reader ++ uw_Speller ad_sp cA_sp init_Speller ++ uw_Mixture ad_mx cA_mx init_Mixture ++ uw_Surroundings ad_ar cA_ar init_Surroundings ++ [(qm, .inl (cm, 5, .inl (upd (upd (upd (upd (fun _ => 0) (0 : Int32).toNatClampNeg 1000) (1 : Int32).toNatClampNeg 1000) (2 : Int32).toNatClampNeg 1000) (3 : Int32).toNatClampNeg 1000)))]) H := hP
  have hD : va_D A ([(h0, .inr (5, [.ref (ad_rd 0), .ref (ad_sp 0), .ref (ad_mx 0), .ref (ad_ar 0), .ref qm, .null, .null]))] ++ uw_Reader ad_rd cA_rd init_Reader ++ uw_Speller ad_sp cA_sp init_Speller ++ uw_Mixture ad_mx cA_mx init_Mixture ++ uw_Surroundings ad_ar cA_ar init_Surroundings ++ [(qm, .inl (cm, 5, .inl (upd (upd (upd (upd (fun _ => 0) (0 : Int32).toNatClampNeg 1000) (1 : Int32).toNatClampNeg 1000) (2 : Int32).toNatClampNeg 1000) (3 : Int32).toNatClampNeg 1000)))]) := hD
  refine lv_iinc (v := 4) (lv' := [(1, .int (4)), (0, .ref h0)]) hx hb d_HT_init_71 hl (k := 0) rfl (by decide) (by decide) rfl (fun ls hl => ?_)
  refine lv_goto (tgt := 57) hx hb d_HT_init_74 (by decide) ?_
  refine lv_iload_n hx hb d_HT_init_57 rfl (lv_at hl 0 rfl) ?_
  refine lv_iconst (v := 5) hx hb d_HT_init_58 (by decide) ?_
  refine lv_icmp_ge (tgt := 77) hx hb d_HT_init_59 (by decide) (fun hc => absurd hc (by decide)) (fun hc => ?_)
  refine lv_aload_n hx hb d_HT_init_62 rfl (lv_at hl 1 rfl) ?_
  refine va_get (D := (dC, dI)) (ci := 5) (v := .ref qm) (C := "HazardTables") (T := F_HT) (N := 7) hx hb hts hin_HT hown hK hP 0 rfl rfl 4 (by decide) fl_37 (fun _ h9 => h9) rfl d_HT_init_63 ?_
  refine lv_iload_n hx hb d_HT_init_66 rfl (lv_at hl 0 rfl) ?_
  refine lv_sipush (v := 1000) hx hb d_HT_init_67 (by decide) ?_
  refine va_iast hx hb hK hP hD hS 16 11 rfl rfl (i := 4) (x := 1000) (show inb 4 5 by decide) d_HT_init_70 (fun H locs hP hD hS => ?_)
  have hP : va_P (dC, dI) vwCl ([(h0, .inr (5, [.ref (ad_rd 0), .ref (ad_sp 0), .ref (ad_mx 0), .ref (ad_ar 0), .ref qm, .null, .null]))] ++ uw_Reader ad_rd cA_rd init_Reader ++ uw_Speller ad_sp cA_sp init_Speller ++ uw_Mixture ad_mx cA_mx init_Mixture ++ uw_Surroundings ad_ar cA_ar init_Surroundings ++ [(qm, .inl (cm, 5, .inl (upd (upd (upd (upd (upd (fun _ => 0) (0 : Int32).toNatClampNeg 1000) (1 : Int32).toNatClampNeg 1000) (2 : Int32).toNatClampNeg 1000) (3 : Int32).toNatClampNeg 1000) (4 : Int32).toNatClampNeg 1000)))]) H := hP
  have hD : va_D A ([(h0, .inr (5, [.ref (ad_rd 0), .ref (ad_sp 0), .ref (ad_mx 0), .ref (ad_ar 0), .ref qm, .null, .null]))] ++ uw_Reader ad_rd cA_rd init_Reader ++ uw_Speller ad_sp cA_sp init_Speller ++ uw_Mixture ad_mx cA_mx init_Mixture ++ uw_Surroundings ad_ar cA_ar init_Surroundings ++ [(qm, .inl (cm, 5, .inl (upd (upd (upd (upd (upd (fun _ => 0) (0 : Int32).toNatClampNeg 1000) (1 : Int32).toNatClampNeg 1000) (2 : Int32).toNatClampNeg 1000) (3 : Int32).toNatClampNeg 1000) (4 : Int32).toNatClampNeg 1000)))]) := hD
  refine lv_iinc (v := 5) (lv' := [(1, .int (5)), (0, .ref h0)]) hx hb d_HT_init_71 hl (k := 0) rfl (by decide) (by decide) rfl (fun ls hl => ?_)
  refine lv_goto (tgt := 57) hx hb d_HT_init_74 (by decide) ?_
  refine lv_iload_n hx hb d_HT_init_57 rfl (lv_at hl 0 rfl) ?_
  refine lv_iconst (v := 5) hx hb d_HT_init_58 (by decide) ?_
  refine lv_icmp_ge (tgt := 77) hx hb d_HT_init_59 (by decide) (fun hc => ?_) (fun hc => absurd hc (by decide))
  refine lv_aload_n hx hb d_HT_init_77 rfl (lv_at hl 1 rfl) ?_
  refine va_new (ci := 4) (fs := [.null, .null, .null, .null, .int 0, .int 0]) (C := "HazardTables$Table") (T := F_Table) (N := 6) hx hb hts (fun w h => List.mem_cons_of_mem _ (hinA_Table w h)) t_Table t_Table_ok hown (hts _ (List.mem_cons_of_mem _ wd_173)) (hts _ (List.mem_cons_of_mem _ wd_174)) (hts _ (List.mem_cons_of_mem _ wd_48)) hK hP hD hS hA rfl (fun j hj => by rcases (show j = 0 ∨ j = 1 ∨ j = 2 ∨ j = 3 ∨ j = 4 ∨ j = 5 by omega) with rfl | rfl | rfl | rfl | rfl | rfl <;> rfl) (Nat.le_of_ble_eq_true rfl) (Nat.le_of_ble_eq_true rfl) d_HT_init_78 (fun q78 H hP hD hS => ?_)
  have hP : va_P (dC, dI) vwCl ([(h0, .inr (5, [.ref (ad_rd 0), .ref (ad_sp 0), .ref (ad_mx 0), .ref (ad_ar 0), .ref qm, .null, .null]))] ++ uw_Reader ad_rd cA_rd init_Reader ++ uw_Speller ad_sp cA_sp init_Speller ++ uw_Mixture ad_mx cA_mx init_Mixture ++ uw_Surroundings ad_ar cA_ar init_Surroundings ++ [(qm, .inl (cm, 5, .inl (upd (upd (upd (upd (upd (fun _ => 0) (0 : Int32).toNatClampNeg 1000) (1 : Int32).toNatClampNeg 1000) (2 : Int32).toNatClampNeg 1000) (3 : Int32).toNatClampNeg 1000) (4 : Int32).toNatClampNeg 1000)))] ++ [(q78, .inr (4, [.null, .null, .null, .null, .int 0, .int 0]))]) H := hP
  have hD : va_D A ([(h0, .inr (5, [.ref (ad_rd 0), .ref (ad_sp 0), .ref (ad_mx 0), .ref (ad_ar 0), .ref qm, .null, .null]))] ++ uw_Reader ad_rd cA_rd init_Reader ++ uw_Speller ad_sp cA_sp init_Speller ++ uw_Mixture ad_mx cA_mx init_Mixture ++ uw_Surroundings ad_ar cA_ar init_Surroundings ++ [(qm, .inl (cm, 5, .inl (upd (upd (upd (upd (upd (fun _ => 0) (0 : Int32).toNatClampNeg 1000) (1 : Int32).toNatClampNeg 1000) (2 : Int32).toNatClampNeg 1000) (3 : Int32).toNatClampNeg 1000) (4 : Int32).toNatClampNeg 1000)))] ++ [(q78, .inr (4, [.null, .null, .null, .null, .int 0, .int 0]))]) := hD
  refine W.widen (k := 17) (n := 620) (Nat.le_refl _) (Nat.le_refl _) ?_
  refine lv_dup hx hb d_HT_init_81 rfl ?_
  have hPc := hP.sub (ws' := [(q78, .inr (4, [.null, .null, .null, .null, .int 0, .int 0]))]) [17] rfl
  have hDc := hD.sub (ws' := [(q78, .inr (4, [.null, .null, .null, .null, .int 0, .int 0]))]) [17] (by decide) rfl
  have hKc := hK.sub (tys' := []) [] rfl
  have hFc := va_free (wc := [(q78, .inr (4, [.null, .null, .null, .null, .int 0, .int 0]))]) hD hS hA [17] rfl
  refine va_callv (va_runI (As := []) (rest := [.ref q78, .ref h0]) ⟨hx, hb, hml, hown, hts⟩ (k_Table_init l dC dI q78 H.size) (cwI 0 hts (gC wd_177) rfl rfl rfl (hts _ (List.mem_cons_of_mem _ wd_48)) (hts _ (List.mem_cons_of_mem _ wd_175)) (hts _ (List.mem_cons_of_mem _ wd_176)) rfl (by decide +kernel) ⟨Nat.le_of_ble_eq_true rfl, Nat.le_of_ble_eq_true rfl⟩) (cl_preS hPc hKc hDc hN) rfl rfl hl.1 rfl (lv_room (Nat.le_of_ble_eq_true rfl)) d_HT_init_82 ⟨Nat.le_of_ble_eq_true rfl, Nat.le_of_ble_eq_true rfl⟩) hS (fun q _ h => hFc q h) hFc (fun u t H1 locs ht hvm hw hB hz1 hk1 hS => ?_)
  subst hw
  obtain ⟨ad_tb, cA_tb, had, hP1, hK1, hD1⟩ := hB
  rw [ht] at hP1
  have hK1 := va_K.moved hvm.symm hK1
  obtain ⟨hP2, hD2⟩ := va_join (wr := ([(h0, .inr (5, [.ref (ad_rd 0), .ref (ad_sp 0), .ref (ad_mx 0), .ref (ad_ar 0), .ref qm, .null, .null]))] ++ uw_Reader ad_rd cA_rd init_Reader ++ uw_Speller ad_sp cA_sp init_Speller ++ uw_Mixture ad_mx cA_mx init_Mixture ++ uw_Surroundings ad_ar cA_ar init_Surroundings ++ [(qm, .inl (cm, 5, .inl (upd (upd (upd (upd (upd (fun _ => 0) (0 : Int32).toNatClampNeg 1000) (1 : Int32).toNatClampNeg 1000) (2 : Int32).toNatClampNeg 1000) (3 : Int32).toNatClampNeg 1000) (4 : Int32).toNatClampNeg 1000)))])) (w1 := uw_Table ad_tb cA_tb init_Table) hP hD [17] [0, 1, 2, 3, 4, 5, 6, 7, 8, 9, 10, 11, 12, 13, 14, 15, 16] rfl rfl (by decide) (by decide) hk1 hFc hP1 hD1
  have hK := hK.app hK1
  clear hPc hDc hKc hFc hP1 hK1 hD1 hk1 hz1 hP hD
  subst had
  generalize H1 = H at hP2 hS ⊢
  have hP := hP2
  have hD := hD2
  clear hP2 hD2
  have hP : va_P (dC, dI) vwCl ([(h0, .inr (5, [.ref (ad_rd 0), .ref (ad_sp 0), .ref (ad_mx 0), .ref (ad_ar 0), .ref qm, .null, .null]))] ++ uw_Reader ad_rd cA_rd init_Reader ++ uw_Speller ad_sp cA_sp init_Speller ++ uw_Mixture ad_mx cA_mx init_Mixture ++ uw_Surroundings ad_ar cA_ar init_Surroundings ++ [(qm, .inl (cm, 5, .inl (upd (upd (upd (upd (upd (fun _ => 0) (0 : Int32).toNatClampNeg 1000) (1 : Int32).toNatClampNeg 1000) (2 : Int32).toNatClampNeg 1000) (3 : Int32).toNatClampNeg 1000) (4 : Int32).toNatClampNeg 1000)))] ++ uw_Table ad_tb cA_tb init_Table) H := hP
  have hD : va_D A ([(h0, .inr (5, [.ref (ad_rd 0), .ref (ad_sp 0), .ref (ad_mx 0), .ref (ad_ar 0), .ref qm, .null, .null]))] ++ uw_Reader ad_rd cA_rd init_Reader ++ uw_Speller ad_sp cA_sp init_Speller ++ uw_Mixture ad_mx cA_mx init_Mixture ++ uw_Surroundings ad_ar cA_ar init_Surroundings ++ [(qm, .inl (cm, 5, .inl (upd (upd (upd (upd (upd (fun _ => 0) (0 : Int32).toNatClampNeg 1000) (1 : Int32).toNatClampNeg 1000) (2 : Int32).toNatClampNeg 1000) (3 : Int32).toNatClampNeg 1000) (4 : Int32).toNatClampNeg 1000)))] ++ uw_Table ad_tb cA_tb init_Table) := hD
  have hK : va_K (dC, dI) vwCl [(cA_rd 1, .int), (cA_sp 1, .int), (cA_sp 2, .int), (cA_sp 3, .int), (cA_sp 4, .int), (cA_mx 1, .int), (cA_mx 2, .int), (cA_mx 3, .boolean), (cA_ar 1, .int), (cA_ar 2, .int), (cA_ar 3, .int), (cm, .int), (cA_tb 1, .int), (cA_tb 2, .int), (cA_tb 3, .int), (cA_tb 4, .byte)] s := hK
  refine W.widen (k := 21) (n := 1179) (Nat.le_refl _) (Nat.le_refl _) ?_
  refine va_put (D := (dC, dI)) (ci := 5) (v := .ref (ad_tb 0)) (ty := .object "HazardTables$Table") (C := "HazardTables") (T := F_HT) (N := 7) hx hb hts hin_HT t_HT t_HT_ok n_HT hown hK hP hD hS 0 rfl rfl 5 (by decide) fl_44 (fun _ h9 => h9) rfl (by decide +kernel) rfl rfl (Nat.le_of_ble_eq_true rfl) d_HT_init_85 (fun H locs hP hD hS => ?_)
  have hP : va_P (dC, dI) vwCl ([(h0, .inr (5, [.ref (ad_rd 0), .ref (ad_sp 0), .ref (ad_mx 0), .ref (ad_ar 0), .ref qm, .ref (ad_tb 0), .null]))] ++ uw_Reader ad_rd cA_rd init_Reader ++ uw_Speller ad_sp cA_sp init_Speller ++ uw_Mixture ad_mx cA_mx init_Mixture ++ uw_Surroundings ad_ar cA_ar init_Surroundings ++ [(qm, .inl (cm, 5, .inl (upd (upd (upd (upd (upd (fun _ => 0) (0 : Int32).toNatClampNeg 1000) (1 : Int32).toNatClampNeg 1000) (2 : Int32).toNatClampNeg 1000) (3 : Int32).toNatClampNeg 1000) (4 : Int32).toNatClampNeg 1000)))] ++ uw_Table ad_tb cA_tb init_Table) H := hP
  have hD : va_D A ([(h0, .inr (5, [.ref (ad_rd 0), .ref (ad_sp 0), .ref (ad_mx 0), .ref (ad_ar 0), .ref qm, .ref (ad_tb 0), .null]))] ++ uw_Reader ad_rd cA_rd init_Reader ++ uw_Speller ad_sp cA_sp init_Speller ++ uw_Mixture ad_mx cA_mx init_Mixture ++ uw_Surroundings ad_ar cA_ar init_Surroundings ++ [(qm, .inl (cm, 5, .inl (upd (upd (upd (upd (upd (fun _ => 0) (0 : Int32).toNatClampNeg 1000) (1 : Int32).toNatClampNeg 1000) (2 : Int32).toNatClampNeg 1000) (3 : Int32).toNatClampNeg 1000) (4 : Int32).toNatClampNeg 1000)))] ++ uw_Table ad_tb cA_tb init_Table) := hD
  refine lv_aload_n hx hb d_HT_init_88 rfl (lv_at hl 1 rfl) ?_
  refine va_new (ci := 4) (fs := [.null, .null, .null, .null, .int 0, .int 0]) (C := "HazardTables$Table") (T := F_Table) (N := 6) hx hb hts (fun w h => List.mem_cons_of_mem _ (hinA_Table w h)) t_Table t_Table_ok hown (hts _ (List.mem_cons_of_mem _ wd_173)) (hts _ (List.mem_cons_of_mem _ wd_174)) (hts _ (List.mem_cons_of_mem _ wd_48)) hK hP hD hS hA rfl (fun j hj => by rcases (show j = 0 ∨ j = 1 ∨ j = 2 ∨ j = 3 ∨ j = 4 ∨ j = 5 by omega) with rfl | rfl | rfl | rfl | rfl | rfl <;> rfl) (Nat.le_of_ble_eq_true rfl) (Nat.le_of_ble_eq_true rfl) d_HT_init_89 (fun q89 H hP hD hS => ?_)
  have hP : va_P (dC, dI) vwCl ([(h0, .inr (5, [.ref (ad_rd 0), .ref (ad_sp 0), .ref (ad_mx 0), .ref (ad_ar 0), .ref qm, .ref (ad_tb 0), .null]))] ++ uw_Reader ad_rd cA_rd init_Reader ++ uw_Speller ad_sp cA_sp init_Speller ++ uw_Mixture ad_mx cA_mx init_Mixture ++ uw_Surroundings ad_ar cA_ar init_Surroundings ++ [(qm, .inl (cm, 5, .inl (upd (upd (upd (upd (upd (fun _ => 0) (0 : Int32).toNatClampNeg 1000) (1 : Int32).toNatClampNeg 1000) (2 : Int32).toNatClampNeg 1000) (3 : Int32).toNatClampNeg 1000) (4 : Int32).toNatClampNeg 1000)))] ++ uw_Table ad_tb cA_tb init_Table ++ [(q89, .inr (4, [.null, .null, .null, .null, .int 0, .int 0]))]) H := hP
  have hD : va_D A ([(h0, .inr (5, [.ref (ad_rd 0), .ref (ad_sp 0), .ref (ad_mx 0), .ref (ad_ar 0), .ref qm, .ref (ad_tb 0), .null]))] ++ uw_Reader ad_rd cA_rd init_Reader ++ uw_Speller ad_sp cA_sp init_Speller ++ uw_Mixture ad_mx cA_mx init_Mixture ++ uw_Surroundings ad_ar cA_ar init_Surroundings ++ [(qm, .inl (cm, 5, .inl (upd (upd (upd (upd (upd (fun _ => 0) (0 : Int32).toNatClampNeg 1000) (1 : Int32).toNatClampNeg 1000) (2 : Int32).toNatClampNeg 1000) (3 : Int32).toNatClampNeg 1000) (4 : Int32).toNatClampNeg 1000)))] ++ uw_Table ad_tb cA_tb init_Table ++ [(q89, .inr (4, [.null, .null, .null, .null, .int 0, .int 0]))]) := hD
  refine W.widen (k := 22) (n := 1185) (Nat.le_refl _) (Nat.le_refl _) ?_
  refine lv_dup hx hb d_HT_init_92 rfl ?_
  have hPc := hP.sub (ws' := [(q89, .inr (4, [.null, .null, .null, .null, .int 0, .int 0]))]) [22] rfl
  have hDc := hD.sub (ws' := [(q89, .inr (4, [.null, .null, .null, .null, .int 0, .int 0]))]) [22] (by decide) rfl
  have hKc := hK.sub (tys' := []) [] rfl
  have hFc := va_free (wc := [(q89, .inr (4, [.null, .null, .null, .null, .int 0, .int 0]))]) hD hS hA [22] rfl
  refine va_callv (va_runI (As := []) (rest := [.ref q89, .ref h0]) ⟨hx, hb, hml, hown, hts⟩ (k_Table_init l dC dI q89 H.size) (cwI 0 hts (gC wd_177) rfl rfl rfl (hts _ (List.mem_cons_of_mem _ wd_48)) (hts _ (List.mem_cons_of_mem _ wd_175)) (hts _ (List.mem_cons_of_mem _ wd_176)) rfl (by decide +kernel) ⟨Nat.le_of_ble_eq_true rfl, Nat.le_of_ble_eq_true rfl⟩) (cl_preS hPc hKc hDc hN) rfl rfl hl.1 rfl (lv_room (Nat.le_of_ble_eq_true rfl)) d_HT_init_93 ⟨Nat.le_of_ble_eq_true rfl, Nat.le_of_ble_eq_true rfl⟩) hS (fun q _ h => hFc q h) hFc (fun u t H1 locs ht hvm hw hB hz1 hk1 hS => ?_)
  subst hw
  obtain ⟨ad_tb1, cA_tb1, had, hP1, hK1, hD1⟩ := hB
  rw [ht] at hP1
  have hK1 := va_K.moved hvm.symm hK1
  obtain ⟨hP2, hD2⟩ := va_join (wr := ([(h0, .inr (5, [.ref (ad_rd 0), .ref (ad_sp 0), .ref (ad_mx 0), .ref (ad_ar 0), .ref qm, .ref (ad_tb 0), .null]))] ++ uw_Reader ad_rd cA_rd init_Reader ++ uw_Speller ad_sp cA_sp init_Speller ++ uw_Mixture ad_mx cA_mx init_Mixture ++ uw_Surroundings ad_ar cA_ar init_Surroundings ++ [(qm, .inl (cm, 5, .inl (upd (upd (upd (upd (upd (fun _ => 0) (0 : Int32).toNatClampNeg 1000) (1 : Int32).toNatClampNeg 1000) (2 : Int32).toNatClampNeg 1000) (3 : Int32).toNatClampNeg 1000) (4 : Int32).toNatClampNeg 1000)))] ++ uw_Table ad_tb cA_tb init_Table)) (w1 := uw_Table ad_tb1 cA_tb1 init_Table) hP hD [22] [0, 1, 2, 3, 4, 5, 6, 7, 8, 9, 10, 11, 12, 13, 14, 15, 16, 17, 18, 19, 20, 21] rfl rfl (by decide) (by decide) hk1 hFc hP1 hD1
  have hK := hK.app hK1
  clear hPc hDc hKc hFc hP1 hK1 hD1 hk1 hz1 hP hD
  subst had
  generalize H1 = H at hP2 hS ⊢
  have hP := hP2
  have hD := hD2
  clear hP2 hD2
  have hP : va_P (dC, dI) vwCl ([(h0, .inr (5, [.ref (ad_rd 0), .ref (ad_sp 0), .ref (ad_mx 0), .ref (ad_ar 0), .ref qm, .ref (ad_tb 0), .null]))] ++ uw_Reader ad_rd cA_rd init_Reader ++ uw_Speller ad_sp cA_sp init_Speller ++ uw_Mixture ad_mx cA_mx init_Mixture ++ uw_Surroundings ad_ar cA_ar init_Surroundings ++ [(qm, .inl (cm, 5, .inl (upd (upd (upd (upd (upd (fun _ => 0) (0 : Int32).toNatClampNeg 1000) (1 : Int32).toNatClampNeg 1000) (2 : Int32).toNatClampNeg 1000) (3 : Int32).toNatClampNeg 1000) (4 : Int32).toNatClampNeg 1000)))] ++ uw_Table ad_tb cA_tb init_Table ++ uw_Table ad_tb1 cA_tb1 init_Table) H := hP
  have hD : va_D A ([(h0, .inr (5, [.ref (ad_rd 0), .ref (ad_sp 0), .ref (ad_mx 0), .ref (ad_ar 0), .ref qm, .ref (ad_tb 0), .null]))] ++ uw_Reader ad_rd cA_rd init_Reader ++ uw_Speller ad_sp cA_sp init_Speller ++ uw_Mixture ad_mx cA_mx init_Mixture ++ uw_Surroundings ad_ar cA_ar init_Surroundings ++ [(qm, .inl (cm, 5, .inl (upd (upd (upd (upd (upd (fun _ => 0) (0 : Int32).toNatClampNeg 1000) (1 : Int32).toNatClampNeg 1000) (2 : Int32).toNatClampNeg 1000) (3 : Int32).toNatClampNeg 1000) (4 : Int32).toNatClampNeg 1000)))] ++ uw_Table ad_tb cA_tb init_Table ++ uw_Table ad_tb1 cA_tb1 init_Table) := hD
  have hK : va_K (dC, dI) vwCl [(cA_rd 1, .int), (cA_sp 1, .int), (cA_sp 2, .int), (cA_sp 3, .int), (cA_sp 4, .int), (cA_mx 1, .int), (cA_mx 2, .int), (cA_mx 3, .boolean), (cA_ar 1, .int), (cA_ar 2, .int), (cA_ar 3, .int), (cm, .int), (cA_tb 1, .int), (cA_tb 2, .int), (cA_tb 3, .int), (cA_tb 4, .byte), (cA_tb1 1, .int), (cA_tb1 2, .int), (cA_tb1 3, .int), (cA_tb1 4, .byte)] s := hK
  refine W.widen (k := 26) (n := 1744) (Nat.le_refl _) (Nat.le_refl _) ?_
  refine va_put (D := (dC, dI)) (ci := 5) (v := .ref (ad_tb1 0)) (ty := .object "HazardTables$Table") (C := "HazardTables") (T := F_HT) (N := 7) hx hb hts hin_HT t_HT t_HT_ok n_HT hown hK hP hD hS 0 rfl rfl 6 (by decide) fl_48 (fun _ h9 => h9) rfl (by decide +kernel) rfl rfl (Nat.le_of_ble_eq_true rfl) d_HT_init_96 (fun H locs hP hD hS => ?_)
  have hP : va_P (dC, dI) vwCl ([(h0, .inr (5, [.ref (ad_rd 0), .ref (ad_sp 0), .ref (ad_mx 0), .ref (ad_ar 0), .ref qm, .ref (ad_tb 0), .ref (ad_tb1 0)]))] ++ uw_Reader ad_rd cA_rd init_Reader ++ uw_Speller ad_sp cA_sp init_Speller ++ uw_Mixture ad_mx cA_mx init_Mixture ++ uw_Surroundings ad_ar cA_ar init_Surroundings ++ [(qm, .inl (cm, 5, .inl (upd (upd (upd (upd (upd (fun _ => 0) (0 : Int32).toNatClampNeg 1000) (1 : Int32).toNatClampNeg 1000) (2 : Int32).toNatClampNeg 1000) (3 : Int32).toNatClampNeg 1000) (4 : Int32).toNatClampNeg 1000)))] ++ uw_Table ad_tb cA_tb init_Table ++ uw_Table ad_tb1 cA_tb1 init_Table) H := hP
  have hD : va_D A ([(h0, .inr (5, [.ref (ad_rd 0), .ref (ad_sp 0), .ref (ad_mx 0), .ref (ad_ar 0), .ref qm, .ref (ad_tb 0), .ref (ad_tb1 0)]))] ++ uw_Reader ad_rd cA_rd init_Reader ++ uw_Speller ad_sp cA_sp init_Speller ++ uw_Mixture ad_mx cA_mx init_Mixture ++ uw_Surroundings ad_ar cA_ar init_Surroundings ++ [(qm, .inl (cm, 5, .inl (upd (upd (upd (upd (upd (fun _ => 0) (0 : Int32).toNatClampNeg 1000) (1 : Int32).toNatClampNeg 1000) (2 : Int32).toNatClampNeg 1000) (3 : Int32).toNatClampNeg 1000) (4 : Int32).toNatClampNeg 1000)))] ++ uw_Table ad_tb cA_tb init_Table ++ uw_Table ad_tb1 cA_tb1 init_Table) := hD
  have hP9 := hP.sub [0, 16, 1, 2, 3, 4, 5, 6, 7, 8, 9, 10, 11, 12, 13, 14, 15, 17, 18, 19, 20, 21, 22, 23, 24, 25, 26] rfl
  have hD9 := hD.sub (ws' := [0, 16, 1, 2, 3, 4, 5, 6, 7, 8, 9, 10, 11, 12, 13, 14, 15, 17, 18, 19, 20, 21, 22, 23, 24, 25, 26].filterMap (fun i => ([(h0, .inr (5, [.ref (ad_rd 0), .ref (ad_sp 0), .ref (ad_mx 0), .ref (ad_ar 0), .ref qm, .ref (ad_tb 0), .ref (ad_tb1 0)]))] ++ uw_Reader ad_rd cA_rd init_Reader ++ uw_Speller ad_sp cA_sp init_Speller ++ uw_Mixture ad_mx cA_mx init_Mixture ++ uw_Surroundings ad_ar cA_ar init_Surroundings ++ [(qm, .inl (cm, 5, .inl (upd (upd (upd (upd (upd (fun _ => 0) (0 : Int32).toNatClampNeg 1000) (1 : Int32).toNatClampNeg 1000) (2 : Int32).toNatClampNeg 1000) (3 : Int32).toNatClampNeg 1000) (4 : Int32).toNatClampNeg 1000)))] ++ uw_Table ad_tb cA_tb init_Table ++ uw_Table ad_tb1 cA_tb1 init_Table)[i]?)) [0, 16, 1, 2, 3, 4, 5, 6, 7, 8, 9, 10, 11, 12, 13, 14, 15, 17, 18, 19, 20, 21, 22, 23, 24, 25, 26] (by decide) rfl
  have hK9 := hK.sub [11, 0, 1, 2, 3, 4, 5, 6, 7, 8, 9, 10, 12, 13, 14, 15, 16, 17, 18, 19] rfl
  exact W.vret hx hb hr (fun t ht hW => ⟨⟨(), rfl, trivial, (fun k => match k with | 0 => h0 | _ => qm), (fun _ => cm), ad_rd, cA_rd, ad_sp, cA_sp, ad_mx, cA_mx, ad_ar, cA_ar, ad_tb, cA_tb, ad_tb1, cA_tb1, rfl, by rw [ht]; exact hP9, va_K.moved hW.alike hK9, hD9⟩, hS.F ht⟩) hS.2.2 d_HT_init_99
