theorem st_tr {l : Launch} (h : l.flags = flags0) : l.stackTraces = false := by
  unfold Launch.stackTraces
  rw [h]
  decide +kernel
set_option maxHeartbeats 4000000 in
set_option maxRecDepth 100000 in
theorem law_start {rv : Bool} {p : Program} {e : Env} {s : State} {m : MethodId} {below : List Frame} {meth : Method} {c : Code} (l : Launch) {b L : Nat} {xs : Nat → Int32} (htr : l.stackTraces = false) (C0 : lw_At p s m meth c b L xs) (hf : f_Law_loop L xs 513 init_HT init_Reader init_Speller init_Mixture init_Surroundings init_Table init_Table (fun _ => 0) init_Model 0 = some rv) : W p l e room_1 s m #[Value.ref b] below meth c s.heap [] 0 0 (lw_Zb rv below #[Value.ref b] s) (entryFrame m ([Value.ref b] : List Value).toArray 7) := by
  obtain ⟨hx, hb, hr, hml, hown, hts0, hX0, hbl, hlocks, hgv⟩ := id C0
  have hown : s.vm.findClass "HazardTablesLaw" = some m.cls := hown
  have hts : ∀ w ∈ (Cond.initialized "HazardTables" :: WA), w.before #[Value.ref b] s = true := fun w h => hts0 w ((List.mem_cons.mp h).elim (fun e => by rw [e]; exact (List.mem_filter.mp wd_43).1) (fun h => (List.mem_filter.mp h).1))
  have hA : ∀ q : Nat, s.heap.size ≤ q → (fun q : Nat => s.heap.size ≤ q) q := fun _ h => h
  have hA2 : ∀ q : Nat, (fun q : Nat => s.heap.size ≤ q) q → s.heap.size ≤ q := fun _ h => h
  have hN : nwAll s := st_nw hts0
  have hX : xAll (fun q => s.heap.size ≤ q) s := st_x hts0 (flat_of_before _ hgv)
  have hnc : ncAll s := st_nc (flat_of_before _ hgv)
  obtain ⟨c0, iS0, hKn0⟩ := u_known (C := "HazardTables$Mixture") (T := F_Mixture) (N := 5) (n := 5) hts (fun w h => List.mem_cons_of_mem _ (hinA_Mixture w h)) (hts _ (List.mem_cons_of_mem _ wd_116))
  obtain ⟨c1, iS1, hKn1⟩ := u_known (C := "HazardTables$Reader") (T := F_Reader) (N := 5) (n := 5) hts (fun w h => List.mem_cons_of_mem _ (hinA_Reader w h)) (hts _ (List.mem_cons_of_mem _ wd_67))
  obtain ⟨c2, iS2, hKn2⟩ := u_known (C := "HazardTables$Speller") (T := F_Speller) (N := 6) (n := 6) hts (fun w h => List.mem_cons_of_mem _ (hinA_Speller w h)) (hts _ (List.mem_cons_of_mem _ wd_91))
  obtain ⟨c3, iS3, hKn3⟩ := u_known (C := "HazardTables$Surroundings") (T := F_Surroundings) (N := 8) (n := 8) hts (fun w h => List.mem_cons_of_mem _ (hinA_Surroundings w h)) (hts _ (List.mem_cons_of_mem _ wd_141))
  obtain ⟨c4, iS4, hKn4⟩ := u_known (C := "HazardTables$Table") (T := F_Table) (N := 6) (n := 6) hts (fun w h => List.mem_cons_of_mem _ (hinA_Table w h)) (hts _ (List.mem_cons_of_mem _ wd_174))
  obtain ⟨c5, iS5, hKn5⟩ := u_known (C := "HazardTables") (T := F_HT) (N := 7) (n := 7) hts (fun w h => List.mem_cons_of_mem _ (hinA_HT w h)) (hts _ (List.mem_cons_of_mem _ wd_59))
  obtain ⟨c6, iS6, hKn6⟩ := u_known (C := "HazardTablesModel") (T := F_Model) (N := 30) (n := 30) hts (fun w h => List.mem_cons_of_mem _ (hinA_Model w h)) (hts _ (List.mem_cons_of_mem _ wd_743))
  obtain ⟨dC, dI, hKc⟩ : ∃ (dC : Nat → ClassId) (dI : Nat → Nat → Nat), ∀ (k : Nat) (q : vw_C), vwCl[k]? = some q → u_Kn s q.1 q.2.1 q.2.2 (dC k) (dI k) := by
    refine ⟨fun k => match k with | 0 => c0 | 1 => c1 | 2 => c2 | 3 => c3 | 4 => c4 | 5 => c5 | _ => c6, fun k => match k with | 0 => iS0 | 1 => iS1 | 2 => iS2 | 3 => iS3 | 4 => iS4 | 5 => iS5 | _ => iS6, ?_⟩
    intro k q hq
    match k, hq with
    | 0, hq => cases hq; exact hKn0
    | 1, hq => cases hq; exact hKn1
    | 2, hq => cases hq; exact hKn2
    | 3, hq => cases hq; exact hKn3
    | 4, hq => cases hq; exact hKn4
    | 5, hq => cases hq; exact hKn5
    | 6, hq => cases hq; exact hKn6
    | k + 7, hq => simp [vwCl] at hq
  have hS : va_S (fun q : Nat => s.heap.size ≤ q) s.heap s.heap [] := va_S.rf
  have hK : va_K (dC, dI) vwCl [] s := ⟨hKc, fun k q h => by simp at h⟩
  have hP : va_P (dC, dI) vwCl [] s.heap := fun k q h => by simp at h
  have hD : va_D (fun q : Nat => s.heap.size ≤ q) [] := ⟨fun i j p q h => by simp at h, fun k q h => by simp at h⟩
  generalize hAe : (fun q : Nat => s.heap.size ≤ q) = A at hA hA2 hX hS hD
  have hl := lv_entry ([.ref b]) (n := 7) (Nat.le_of_ble_eq_true rfl)
  rw [lg_entry_eq]
  generalize (lg_sl ([.ref b]) ++ List.replicate (7 - (lg_sl ([.ref b])).length) Slot.unset).toArray = ls at hl ⊢
  have hl : lv_has ls 7 [(0, .ref b)] := hl
  refine va_new (ci := 5) (fs := [.null, .null, .null, .null, .null, .null, .null]) (C := "HazardTables") (T := F_HT) (N := 7) hx hb hts (fun w h => List.mem_cons_of_mem _ (hinA_HT w h)) t_HT t_HT_ok hown (hts _ (List.mem_cons_of_mem _ wd_58)) (hts _ (List.mem_cons_of_mem _ wd_59)) (hts _ (List.mem_cons_of_mem _ wd_43)) hK hP hD hS hA rfl (fun j hj => by rcases (show j = 0 ∨ j = 1 ∨ j = 2 ∨ j = 3 ∨ j = 4 ∨ j = 5 ∨ j = 6 by omega) with rfl | rfl | rfl | rfl | rfl | rfl | rfl <;> rfl) (Nat.le_of_ble_eq_true rfl) (Nat.le_of_ble_eq_true rfl) d_Law_law_0 (fun q0 H hP hD hS => ?_)
  have hP : va_P (dC, dI) vwCl [(q0, .inr (5, [.null, .null, .null, .null, .null, .null, .null]))] H := hP
  have hD : va_D A [(q0, .inr (5, [.null, .null, .null, .null, .null, .null, .null]))] := hD
  refine W.widen (k := 1) (n := 7) (Nat.le_refl _) (Nat.le_refl _) ?_
  refine lv_dup hx hb d_Law_law_3 rfl ?_
  have hPc := hP.sub (ws' := [(q0, .inr (5, [.null, .null, .null, .null, .null, .null, .null]))]) [0] rfl
  have hDc := hD.sub (ws' := [(q0, .inr (5, [.null, .null, .null, .null, .null, .null, .null]))]) [0] (by decide) rfl
  have hKc9 := hK.sub (tys' := []) [] rfl
  have hFc := va_free (wc := [(q0, .inr (5, [.null, .null, .null, .null, .null, .null, .null]))]) hD hS hA [0] rfl
  refine va_callv (va_runI (As := []) (rest := [.ref q0]) ⟨hx, hb, hml, hown, hts⟩ (k_HT_init l dC dI q0 H.size) (cwI 0 hts (gC wd_62) rfl rfl rfl (hts _ (List.mem_cons_of_mem _ wd_43)) (hts _ (List.mem_cons_of_mem _ wd_60)) (hts _ (List.mem_cons_of_mem _ wd_61)) rfl (by decide +kernel) ⟨Nat.le_of_ble_eq_true rfl, Nat.le_of_ble_eq_true rfl⟩) (cl_preS hPc hKc9 hDc hN) rfl rfl hl.1 rfl (lv_room (Nat.le_of_ble_eq_true rfl)) d_Law_law_4 ⟨Nat.le_of_ble_eq_true rfl, Nat.le_of_ble_eq_true rfl⟩) hS (fun q _ h => hFc q h) hFc (fun u t H1 locs ht hvm hw hB hz1 hk1 hS => ?_)
  obtain ⟨ad_ht, cA_ht, ad_rd, cA_rd, ad_sp, cA_sp, ad_mx, cA_mx, ad_ar, cA_ar, ad_tb, cA_tb, ad_tc, cA_tc, had, hP1, hK1, hD1⟩ := hB
  rw [ht] at hP1
  have hK1 := va_K.moved hvm.symm hK1
  obtain ⟨hP2, hD2⟩ := va_join (wr := []) (w1 := (uw_HT ad_ht cA_ht (ad_rd 0) (ad_sp 0) (ad_mx 0) (ad_ar 0) (ad_tb 0) (ad_tc 0) init_HT ++ uw_Reader ad_rd cA_rd init_Reader ++ uw_Speller ad_sp cA_sp init_Speller ++ uw_Mixture ad_mx cA_mx init_Mixture ++ uw_Surroundings ad_ar cA_ar init_Surroundings ++ uw_Table ad_tb cA_tb init_Table ++ uw_Table ad_tc cA_tc init_Table)) hP hD [0] [] rfl rfl (by decide) (by decide) hk1 hFc hP1 hD1
  have hK := hK.app hK1
  clear hPc hDc hKc9 hFc hP1 hK1 hD1 hk1 hz1 hP hD
  subst had
  generalize H1 = H at hP2 hS ⊢
  have hP : va_P (dC, dI) vwCl (uw_HT ad_ht cA_ht (ad_rd 0) (ad_sp 0) (ad_mx 0) (ad_ar 0) (ad_tb 0) (ad_tc 0) init_HT ++ uw_Reader ad_rd cA_rd init_Reader ++ uw_Speller ad_sp cA_sp init_Speller ++ uw_Mixture ad_mx cA_mx init_Mixture ++ uw_Surroundings ad_ar cA_ar init_Surroundings ++ uw_Table ad_tb cA_tb init_Table ++ uw_Table ad_tc cA_tc init_Table) H := hP2
  have hD : va_D A (uw_HT ad_ht cA_ht (ad_rd 0) (ad_sp 0) (ad_mx 0) (ad_ar 0) (ad_tb 0) (ad_tc 0) init_HT ++ uw_Reader ad_rd cA_rd init_Reader ++ uw_Speller ad_sp cA_sp init_Speller ++ uw_Mixture ad_mx cA_mx init_Mixture ++ uw_Surroundings ad_ar cA_ar init_Surroundings ++ uw_Table ad_tb cA_tb init_Table ++ uw_Table ad_tc cA_tc init_Table) := hD2
  clear hP2 hD2
  have hK : va_K (dC, dI) vwCl [(cA_ht 1, .int), (cA_rd 1, .int), (cA_sp 1, .int), (cA_sp 2, .int), (cA_sp 3, .int), (cA_sp 4, .int), (cA_mx 1, .int), (cA_mx 2, .int), (cA_mx 3, .boolean), (cA_ar 1, .int), (cA_ar 2, .int), (cA_ar 3, .int), (cA_tb 1, .int), (cA_tb 2, .int), (cA_tb 3, .int), (cA_tb 4, .byte), (cA_tc 1, .int), (cA_tc 2, .int), (cA_tc 3, .int), (cA_tc 4, .byte)] s := hK
  refine W.widen (k := 27) (n := 1751) (Nat.le_refl _) (Nat.le_refl _) ?_
  refine lv_astore_n (lv' := [(1, .ref (ad_ht 0)), (0, .ref b)]) hx hb d_Law_law_7 rfl hl (by decide) rfl (fun ls hl => ?_)
  refine va_new (ci := 6) (fs := [.int 0, .int 0, .null, .int 0, .int 0, .int 0, .null, .int 0, .int 0, .null, .int 0, .int 0, .int 0, .null, .null, .null, .int 0, .int 0, .int 0, .int 0, .null, .null, .null, .int 0, .null, .int 0, .null, .int 0, .null, .null]) (C := "HazardTablesModel") (T := F_Model) (N := 30) hx hb hts (fun w h => List.mem_cons_of_mem _ (hinA_Model w h)) t_Model t_Model_ok hown (hts _ (List.mem_cons_of_mem _ wd_742)) (hts _ (List.mem_cons_of_mem _ wd_743)) (hts _ (List.mem_cons_of_mem _ wd_49)) hK hP hD hS hA rfl (fun j hj => by rcases (show j = 0 ∨ j = 1 ∨ j = 2 ∨ j = 3 ∨ j = 4 ∨ j = 5 ∨ j = 6 ∨ j = 7 ∨ j = 8 ∨ j = 9 ∨ j = 10 ∨ j = 11 ∨ j = 12 ∨ j = 13 ∨ j = 14 ∨ j = 15 ∨ j = 16 ∨ j = 17 ∨ j = 18 ∨ j = 19 ∨ j = 20 ∨ j = 21 ∨ j = 22 ∨ j = 23 ∨ j = 24 ∨ j = 25 ∨ j = 26 ∨ j = 27 ∨ j = 28 ∨ j = 29 by omega) with rfl | rfl | rfl | rfl | rfl | rfl | rfl | rfl | rfl | rfl | rfl | rfl | rfl | rfl | rfl | rfl | rfl | rfl | rfl | rfl | rfl | rfl | rfl | rfl | rfl | rfl | rfl | rfl | rfl | rfl <;> rfl) (Nat.le_of_ble_eq_true rfl) (Nat.le_of_ble_eq_true rfl) d_Law_law_8 (fun q8 H hP hD hS => ?_)
  have hP : va_P (dC, dI) vwCl ((uw_HT ad_ht cA_ht (ad_rd 0) (ad_sp 0) (ad_mx 0) (ad_ar 0) (ad_tb 0) (ad_tc 0) init_HT ++ uw_Reader ad_rd cA_rd init_Reader ++ uw_Speller ad_sp cA_sp init_Speller ++ uw_Mixture ad_mx cA_mx init_Mixture ++ uw_Surroundings ad_ar cA_ar init_Surroundings ++ uw_Table ad_tb cA_tb init_Table ++ uw_Table ad_tc cA_tc init_Table) ++ [(q8, .inr (6, [.int 0, .int 0, .null, .int 0, .int 0, .int 0, .null, .int 0, .int 0, .null, .int 0, .int 0, .int 0, .null, .null, .null, .int 0, .int 0, .int 0, .int 0, .null, .null, .null, .int 0, .null, .int 0, .null, .int 0, .null, .null]))]) H := hP
  have hD : va_D A ((uw_HT ad_ht cA_ht (ad_rd 0) (ad_sp 0) (ad_mx 0) (ad_ar 0) (ad_tb 0) (ad_tc 0) init_HT ++ uw_Reader ad_rd cA_rd init_Reader ++ uw_Speller ad_sp cA_sp init_Speller ++ uw_Mixture ad_mx cA_mx init_Mixture ++ uw_Surroundings ad_ar cA_ar init_Surroundings ++ uw_Table ad_tb cA_tb init_Table ++ uw_Table ad_tc cA_tc init_Table) ++ [(q8, .inr (6, [.int 0, .int 0, .null, .int 0, .int 0, .int 0, .null, .int 0, .int 0, .null, .int 0, .int 0, .int 0, .null, .null, .null, .int 0, .int 0, .int 0, .int 0, .null, .null, .null, .int 0, .null, .int 0, .null, .int 0, .null, .null]))]) := hD
  refine W.widen (k := 28) (n := 1781) (Nat.le_refl _) (Nat.le_refl _) ?_
  refine lv_dup hx hb d_Law_law_11 rfl ?_
  have hPc := hP.sub (ws' := [(q8, .inr (6, [.int 0, .int 0, .null, .int 0, .int 0, .int 0, .null, .int 0, .int 0, .null, .int 0, .int 0, .int 0, .null, .null, .null, .int 0, .int 0, .int 0, .int 0, .null, .null, .null, .int 0, .null, .int 0, .null, .int 0, .null, .null]))]) [27] rfl
  have hDc := hD.sub (ws' := [(q8, .inr (6, [.int 0, .int 0, .null, .int 0, .int 0, .int 0, .null, .int 0, .int 0, .null, .int 0, .int 0, .int 0, .null, .null, .null, .int 0, .int 0, .int 0, .int 0, .null, .null, .null, .int 0, .null, .int 0, .null, .int 0, .null, .null]))]) [27] (by decide) rfl
  have hKc9 := hK.sub (tys' := []) [] rfl
  have hFc := va_free (wc := [(q8, .inr (6, [.int 0, .int 0, .null, .int 0, .int 0, .int 0, .null, .int 0, .int 0, .null, .int 0, .int 0, .int 0, .null, .null, .null, .int 0, .int 0, .int 0, .int 0, .null, .null, .null, .int 0, .null, .int 0, .null, .int 0, .null, .null]))]) hD hS hA [27] rfl
  refine va_callv (va_runI (As := []) (rest := [.ref q8]) ⟨hx, hb, hml, hown, hts⟩ (k_Model_init l dC dI q8 H.size) (cwI 0 hts (gC wd_746) rfl rfl rfl (hts _ (List.mem_cons_of_mem _ wd_49)) (hts _ (List.mem_cons_of_mem _ wd_744)) (hts _ (List.mem_cons_of_mem _ wd_745)) rfl (by decide +kernel) ⟨Nat.le_of_ble_eq_true rfl, Nat.le_of_ble_eq_true rfl⟩) (cl_preS hPc hKc9 hDc hN) rfl rfl hl.1 rfl (lv_room (Nat.le_of_ble_eq_true rfl)) d_Law_law_12 ⟨Nat.le_of_ble_eq_true rfl, Nat.le_of_ble_eq_true rfl⟩) hS (fun q _ h => hFc q h) hFc (fun u t H1 locs ht hvm hw hB hz1 hk1 hS => ?_)
  subst hw
  obtain ⟨ad_md, cA_md, had, hP1, hK1, hD1⟩ := hB
  rw [ht] at hP1
  have hK1 := va_K.moved hvm.symm hK1
  obtain ⟨hP2, hD2⟩ := va_join (wr := (uw_HT ad_ht cA_ht (ad_rd 0) (ad_sp 0) (ad_mx 0) (ad_ar 0) (ad_tb 0) (ad_tc 0) init_HT ++ uw_Reader ad_rd cA_rd init_Reader ++ uw_Speller ad_sp cA_sp init_Speller ++ uw_Mixture ad_mx cA_mx init_Mixture ++ uw_Surroundings ad_ar cA_ar init_Surroundings ++ uw_Table ad_tb cA_tb init_Table ++ uw_Table ad_tc cA_tc init_Table)) (w1 := uw_Model ad_md cA_md init_Model) hP hD [27] [0, 1, 2, 3, 4, 5, 6, 7, 8, 9, 10, 11, 12, 13, 14, 15, 16, 17, 18, 19, 20, 21, 22, 23, 24, 25, 26] rfl rfl (by decide) (by decide) hk1 hFc hP1 hD1
  have hK := hK.app hK1
  clear hPc hDc hKc9 hFc hP1 hK1 hD1 hk1 hz1 hP hD
  subst had
  generalize H1 = H at hP2 hS ⊢
  have hP : va_P (dC, dI) vwCl ((uw_HT ad_ht cA_ht (ad_rd 0) (ad_sp 0) (ad_mx 0) (ad_ar 0) (ad_tb 0) (ad_tc 0) init_HT ++ uw_Reader ad_rd cA_rd init_Reader ++ uw_Speller ad_sp cA_sp init_Speller ++ uw_Mixture ad_mx cA_mx init_Mixture ++ uw_Surroundings ad_ar cA_ar init_Surroundings ++ uw_Table ad_tb cA_tb init_Table ++ uw_Table ad_tc cA_tc init_Table) ++ uw_Model ad_md cA_md init_Model) H := hP2
  have hD : va_D A ((uw_HT ad_ht cA_ht (ad_rd 0) (ad_sp 0) (ad_mx 0) (ad_ar 0) (ad_tb 0) (ad_tc 0) init_HT ++ uw_Reader ad_rd cA_rd init_Reader ++ uw_Speller ad_sp cA_sp init_Speller ++ uw_Mixture ad_mx cA_mx init_Mixture ++ uw_Surroundings ad_ar cA_ar init_Surroundings ++ uw_Table ad_tb cA_tb init_Table ++ uw_Table ad_tc cA_tc init_Table) ++ uw_Model ad_md cA_md init_Model) := hD2
  clear hP2 hD2
  have hK : va_K (dC, dI) vwCl ([(cA_ht 1, .int), (cA_rd 1, .int), (cA_sp 1, .int), (cA_sp 2, .int), (cA_sp 3, .int), (cA_sp 4, .int), (cA_mx 1, .int), (cA_mx 2, .int), (cA_mx 3, .boolean), (cA_ar 1, .int), (cA_ar 2, .int), (cA_ar 3, .int), (cA_tb 1, .int), (cA_tb 2, .int), (cA_tb 3, .int), (cA_tb 4, .byte), (cA_tc 1, .int), (cA_tc 2, .int), (cA_tc 3, .int), (cA_tc 4, .byte)] ++ [(cA_md 1, .int), (cA_md 2, .int), (cA_md 3, .int), (cA_md 4, .int), (cA_md 5, .int), (cA_md 6, .int), (cA_md 7, .int), (cA_md 8, .int), (cA_md 9, .boolean), (cA_md 10, .int), (cA_md 11, .int), (cA_md 12, .int), (cA_md 13, .int)]) s := hK
  refine W.widen (k := 41) (n := 3595) (Nat.le_refl _) (Nat.le_refl _) ?_
  refine lv_astore_n (lv' := [(2, .ref (ad_md 0)), (1, .ref (ad_ht 0)), (0, .ref b)]) hx hb d_Law_law_15 rfl hl (by decide) rfl (fun ls hl => ?_)
  refine lv_iconst (v := 1) hx hb d_Law_law_16 (by decide) ?_
  refine va_newa (atype := .long) (ty := .long) (n := 1) (N' := 1) (a0 := (1, .inr (.inl (fun _ => 0)))) hx hb (hts _ (List.mem_cons_of_mem _ wd_1004)) rfl hK hP hD hS hA (fun _ => rfl) (by decide) (by decide) (by decide) (Nat.le_of_ble_eq_true rfl) (Nat.le_of_ble_eq_true rfl) d_Law_law_17 (fun qo co H hK hP hD hS => ?_)
  refine W.widen (k := 42) (n := 3596) (Nat.le_refl _) (Nat.le_refl _) ?_
  refine lv_astore_n (lv' := [(3, .ref qo), (2, .ref (ad_md 0)), (1, .ref (ad_ht 0)), (0, .ref b)]) hx hb d_Law_law_19 rfl hl (by decide) rfl (fun ls hl => ?_)
  refine lv_iconst (v := 0) hx hb d_Law_law_20 (by decide) ?_
  refine lv_istore (lv' := [(4, .int 0), (3, .ref qo), (2, .ref (ad_md 0)), (1, .ref (ad_ht 0)), (0, .ref b)]) hx hb d_Law_law_21 hl (by decide) rfl (fun ls hl => ?_)
  have hP9 := hP.sub (ws' := (uw_HT ad_ht cA_ht (ad_rd 0) (ad_sp 0) (ad_mx 0) (ad_ar 0) (ad_tb 0) (ad_tc 0) init_HT ++ (uw_Reader ad_rd cA_rd init_Reader ++ (uw_Speller ad_sp cA_sp init_Speller ++ (uw_Mixture ad_mx cA_mx init_Mixture ++ (uw_Surroundings ad_ar cA_ar init_Surroundings ++ (uw_Table ad_tb cA_tb init_Table ++ (uw_Table ad_tc cA_tc init_Table ++ (uw_Out (fun _ => qo) (fun _ => co) (fun _ => 0) ++ (uw_Model ad_md cA_md init_Model)))))))))) [0, 1, 2, 3, 4, 5, 6, 7, 8, 9, 10, 11, 12, 13, 14, 15, 16, 17, 18, 19, 20, 21, 22, 23, 24, 25, 26, 41, 27, 28, 29, 30, 31, 32, 33, 34, 35, 36, 37, 38, 39, 40] rfl
  have hD9 := hD.sub (ws' := (uw_HT ad_ht cA_ht (ad_rd 0) (ad_sp 0) (ad_mx 0) (ad_ar 0) (ad_tb 0) (ad_tc 0) init_HT ++ (uw_Reader ad_rd cA_rd init_Reader ++ (uw_Speller ad_sp cA_sp init_Speller ++ (uw_Mixture ad_mx cA_mx init_Mixture ++ (uw_Surroundings ad_ar cA_ar init_Surroundings ++ (uw_Table ad_tb cA_tb init_Table ++ (uw_Table ad_tc cA_tc init_Table ++ (uw_Out (fun _ => qo) (fun _ => co) (fun _ => 0) ++ (uw_Model ad_md cA_md init_Model)))))))))) [0, 1, 2, 3, 4, 5, 6, 7, 8, 9, 10, 11, 12, 13, 14, 15, 16, 17, 18, 19, 20, 21, 22, 23, 24, 25, 26, 41, 27, 28, 29, 30, 31, 32, 33, 34, 35, 36, 37, 38, 39, 40] (by decide) rfl
  have hK9 := hK.sub [0, 1, 2, 3, 4, 5, 6, 7, 8, 9, 10, 11, 12, 13, 14, 15, 16, 17, 18, 19, 33, 20, 21, 22, 23, 24, 25, 26, 27, 28, 29, 30, 31, 32] rfl
  exact k_Law_loop htr C0 hN hX hnc hA hA2 513 (Nat.le_refl _) ad_ht cA_ht ad_rd cA_rd ad_sp cA_sp ad_mx cA_mx ad_ar cA_ar ad_tb cA_tb ad_tc cA_tc (fun _ => qo) (fun _ => co) ad_md cA_md init_HT init_Reader init_Speller init_Mixture init_Surroundings init_Table init_Table (fun _ => 0) init_Model 0 H _ ls hf hK9 hP9 hD9 hS (lv_sub hl [4, 3, 2, 1, 0] rfl)
