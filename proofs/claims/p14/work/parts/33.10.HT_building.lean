noncomputable def f_HT_building (ht : SHT) (ar : SSurroundings) (x1 : Int32) (x2 : Int32) : Option (Sum (Int32 × SSurroundings) (Nat × (SSurroundings))) :=
  (Option.bind (f_HT_isNoPoint x1 x2) fun u1 =>
    (if (bI u1) = 0 then
      (Option.bind (f_Surroundings_isFull ar) fun u3 =>
        (if (bI u3) = 0 then
          (Option.bind (f_Surroundings_append ar x1 x2) fun u5 =>
            (some (.inl (u5.1, u5.2)))
           )
         else
          (some (.inr (3, ar)))
         )
       )
     else
      (some (.inr (1, ar)))
     )
   )
set_option maxHeartbeats 4000000 in
set_option maxRecDepth 100000 in
theorem k_HT_building (l : Launch) (dC : Nat → ClassId) (dI : Nat → Nat → Nat) (ad_ht : Nat → Nat) (cA_ht : Nat → ClassId) (ad_ar : Nat → Nat) (cA_ar : Nat → ClassId) (ad_rd : Nat → Nat) (cA_rd : Nat → ClassId) (ad_sp : Nat → Nat) (cA_sp : Nat → ClassId) (ad_mx : Nat → Nat) (cA_mx : Nat → ClassId) (ad_tb : Nat → Nat) (cA_tb : Nat → ClassId) (ad_tc : Nat → Nat) (cA_tc : Nat → ClassId) (sz : Nat) (ht : SHT) (ar : SSurroundings) (x1 : Int32) (x2 : Int32) (res : Sum (Int32 × SSurroundings) (Nat × (SSurroundings))) (hf : f_HT_building ht ar x1 x2 = some res) (htr : l.stackTraces = false) : vx_Met l y_HT_building w_HT_building ({ frames := 6, cells := 1, slots := 6, locals := 82 }) (xPc (dC, dI) (uw_HT ad_ht cA_ht (ad_rd 0) (ad_sp 0) (ad_mx 0) (ad_ar 0) (ad_tb 0) (ad_tc 0) ht ++ (uw_Surroundings ad_ar cA_ar ar)) [(cA_ht 1, .int), (cA_ar 1, .int), (cA_ar 2, .int), (cA_ar 3, .int)] sz [.ref (ad_ht 0), .int x1, .int x2]) (va_Qi (fun (r : Int32) (u : SSurroundings) => res = .inl (r, u)) (fun (u : SSurroundings) (t : State) => va_P (dC, dI) vwCl (uw_HT ad_ht cA_ht (ad_rd 0) (ad_sp 0) (ad_mx 0) (ad_ar 0) (ad_tb 0) (ad_tc 0) ht ++ (uw_Surroundings ad_ar cA_ar u)) t.heap ∧ va_K (dC, dI) vwCl [(cA_ht 1, .int), (cA_ar 1, .int), (cA_ar 2, .int), (cA_ar 3, .int)] t ∧ va_D (va_A (uw_HT ad_ht cA_ht (ad_rd 0) (ad_sp 0) (ad_mx 0) (ad_ar 0) (ad_tb 0) (ad_tc 0) ht ++ (uw_Surroundings ad_ar cA_ar ar)) sz) (uw_HT ad_ht cA_ht (ad_rd 0) (ad_sp 0) (ad_mx 0) (ad_ar 0) (ad_tb 0) (ad_tc 0) ht ++ (uw_Surroundings ad_ar cA_ar u))) (va_A (uw_HT ad_ht cA_ht (ad_rd 0) (ad_sp 0) (ad_mx 0) (ad_ar 0) (ad_tb 0) (ad_tc 0) ht ++ (uw_Surroundings ad_ar cA_ar ar)) sz)) (vx_X (fun (u : Nat × (SSurroundings)) => res = .inr u) (fun (E : String) (u : Nat × (SSurroundings)) (t : State) => E = xn u.1 ∧ va_P (dC, dI) vwCl (uw_HT ad_ht cA_ht (ad_rd 0) (ad_sp 0) (ad_mx 0) (ad_ar 0) (ad_tb 0) (ad_tc 0) ht ++ (uw_Surroundings ad_ar cA_ar u.2)) t.heap ∧ va_K (dC, dI) vwCl [(cA_ht 1, .int), (cA_ar 1, .int), (cA_ar 2, .int), (cA_ar 3, .int)] t ∧ va_D (va_A (uw_HT ad_ht cA_ht (ad_rd 0) (ad_sp 0) (ad_mx 0) (ad_ar 0) (ad_tb 0) (ad_tc 0) ht ++ (uw_Surroundings ad_ar cA_ar ar)) sz) (uw_HT ad_ht cA_ht (ad_rd 0) (ad_sp 0) (ad_mx 0) (ad_ar 0) (ad_tb 0) (ad_tc 0) ht ++ (uw_Surroundings ad_ar cA_ar u.2))) (va_A (uw_HT ad_ht cA_ht (ad_rd 0) (ad_sp 0) (ad_mx 0) (ad_ar 0) (ad_tb 0) (ad_tc 0) ht ++ (uw_Surroundings ad_ar cA_ar ar)) sz)) 1 6 (va_A (uw_HT ad_ht cA_ht (ad_rd 0) (ad_sp 0) (ad_mx 0) (ad_ar 0) (ad_tb 0) (ad_tc 0) ht ++ (uw_Surroundings ad_ar cA_ar ar)) sz) := by
  refine vx_ofW (cc := b_HT_building) (maxL := 3) (ret := (some .int)) (by decide) rfl ?_
  intro p e s m args below meth c s₁ B hml htab hv
  obtain ⟨rfl, hsz, hP, hK, hD0, hN, hX⟩ := hv
  have hx := B.exec
  have hb := B.bytes
  have hr := B.returns
  have hts := atoms_spec (ws := w_HT_building) B.pre
  have hown : s.vm.findClass "HazardTables" = some m.cls := findClass_of_methodNamed B.named
  have hlocks := B.notSynchronized
  subst hsz
  have hD := hD0.self (sz := s.heap.size)
  generalize hAe : va_A (uw_HT ad_ht cA_ht (ad_rd 0) (ad_sp 0) (ad_mx 0) (ad_ar 0) (ad_tb 0) (ad_tc 0) ht ++ (uw_Surroundings ad_ar cA_ar ar)) s.heap.size = A at hD hX ⊢
  have hA : ∀ q : Nat, s.heap.size ≤ q → A q := fun q h => by rw [← hAe]; exact Or.inr h
  have hS : va_S A s.heap s.heap [] := va_S.rf
  have hP : va_P (dC, dI) vwCl (uw_HT ad_ht cA_ht (ad_rd 0) (ad_sp 0) (ad_mx 0) (ad_ar 0) (ad_tb 0) (ad_tc 0) ht ++ (uw_Surroundings ad_ar cA_ar ar)) s.heap := hP
  have fl_33 := (hts _ (List.mem_cons_of_mem _ wd_207))
  have hin_HT : ∀ w ∈ u_ws "HazardTables" F_HT 7, w ∈ w_HT_building := fun w h => List.mem_cons_of_mem _ (hinA_HT w h)
  have thr_8 : ∀ (u : SSurroundings) (H : Heap) (locs : List Loc) (ls : Array Slot), res = .inr (1, u) → va_P (dC, dI) vwCl (uw_HT ad_ht cA_ht (ad_rd 0) (ad_sp 0) (ad_mx 0) (ad_ar 0) (ad_tb 0) (ad_tc 0) ht ++ (uw_Surroundings ad_ar cA_ar u)) H → va_D A (uw_HT ad_ht cA_ht (ad_rd 0) (ad_sp 0) (ad_mx 0) (ad_ar 0) (ad_tb 0) (ad_tc 0) ht ++ (uw_Surroundings ad_ar cA_ar u)) → va_S A s.heap H locs → ls.size = 3 → W p l e (headSpec w_HT_building ({ frames := 6, cells := 1, slots := 6, locals := 82 })).room s m ([.ref (ad_ht 0), .int x1, .int x2] : List Value).toArray below meth c H locs 0 0 (vx_MQ below (va_Qi (fun (r : Int32) (u : SSurroundings) => res = .inl (r, u)) (fun (u : SSurroundings) (t : State) => va_P (dC, dI) vwCl (uw_HT ad_ht cA_ht (ad_rd 0) (ad_sp 0) (ad_mx 0) (ad_ar 0) (ad_tb 0) (ad_tc 0) ht ++ (uw_Surroundings ad_ar cA_ar u)) t.heap ∧ va_K (dC, dI) vwCl [(cA_ht 1, .int), (cA_ar 1, .int), (cA_ar 2, .int), (cA_ar 3, .int)] t ∧ va_D A (uw_HT ad_ht cA_ht (ad_rd 0) (ad_sp 0) (ad_mx 0) (ad_ar 0) (ad_tb 0) (ad_tc 0) ht ++ (uw_Surroundings ad_ar cA_ar u))) A) (vx_X (fun (u : Nat × (SSurroundings)) => res = .inr u) (fun (E : String) (u : Nat × (SSurroundings)) (t : State) => E = xn u.1 ∧ va_P (dC, dI) vwCl (uw_HT ad_ht cA_ht (ad_rd 0) (ad_sp 0) (ad_mx 0) (ad_ar 0) (ad_tb 0) (ad_tc 0) ht ++ (uw_Surroundings ad_ar cA_ar u.2)) t.heap ∧ va_K (dC, dI) vwCl [(cA_ht 1, .int), (cA_ar 1, .int), (cA_ar 2, .int), (cA_ar 3, .int)] t ∧ va_D A (uw_HT ad_ht cA_ht (ad_rd 0) (ad_sp 0) (ad_mx 0) (ad_ar 0) (ad_tb 0) (ad_tc 0) ht ++ (uw_Surroundings ad_ar cA_ar u.2))) A) ([.ref (ad_ht 0), .int x1, .int x2] : List Value).toArray s 1 6 A) (F0 m 8 ls []) := by
    intro u H locs ls hres hP hD hS hsz
    obtain ⟨sa, hstr⟩ := hX.2.2.1 (178, "the point is out of range") (by decide)
    refine vx_throwS (cls := "java/lang/IndexOutOfBoundsException") (text := "the point is out of range") (names := xch) (ik := 51) (is := 178) (ic := 55) (sa := sa) hx hb htr hown (by decide) (by decide) (hts _ (List.mem_cons_of_mem _ wd_247)) (hts _ (List.mem_cons_of_mem _ wd_53)) hstr (x_hat_55 hts hX) x_good_55 hX.1 hX.2.1 hS (hsz.trans hml.symm) d_HT_building_8 d_HT_building_11 d_HT_building_12 d_HT_building_14 d_HT_building_17 (fun x hx9 => (htab x hx9).elim) (by decide) (by decide) (by decide) (by decide) hlocks (fun t hvm hz hk => ?_) hS.2.2 (by decide) (by decide)
    obtain ⟨hP9, hF9⟩ := cl_thrown hP hS hz hk
    exact ⟨(1, u), hres, ⟨rfl, hP9, va_K.moved hvm hK, hD⟩, hF9⟩
  have thr_28 : ∀ (u : SSurroundings) (H : Heap) (locs : List Loc) (ls : Array Slot), res = .inr (3, u) → va_P (dC, dI) vwCl (uw_HT ad_ht cA_ht (ad_rd 0) (ad_sp 0) (ad_mx 0) (ad_ar 0) (ad_tb 0) (ad_tc 0) ht ++ (uw_Surroundings ad_ar cA_ar u)) H → va_D A (uw_HT ad_ht cA_ht (ad_rd 0) (ad_sp 0) (ad_mx 0) (ad_ar 0) (ad_tb 0) (ad_tc 0) ht ++ (uw_Surroundings ad_ar cA_ar u)) → va_S A s.heap H locs → ls.size = 3 → W p l e (headSpec w_HT_building ({ frames := 6, cells := 1, slots := 6, locals := 82 })).room s m ([.ref (ad_ht 0), .int x1, .int x2] : List Value).toArray below meth c H locs 0 0 (vx_MQ below (va_Qi (fun (r : Int32) (u : SSurroundings) => res = .inl (r, u)) (fun (u : SSurroundings) (t : State) => va_P (dC, dI) vwCl (uw_HT ad_ht cA_ht (ad_rd 0) (ad_sp 0) (ad_mx 0) (ad_ar 0) (ad_tb 0) (ad_tc 0) ht ++ (uw_Surroundings ad_ar cA_ar u)) t.heap ∧ va_K (dC, dI) vwCl [(cA_ht 1, .int), (cA_ar 1, .int), (cA_ar 2, .int), (cA_ar 3, .int)] t ∧ va_D A (uw_HT ad_ht cA_ht (ad_rd 0) (ad_sp 0) (ad_mx 0) (ad_ar 0) (ad_tb 0) (ad_tc 0) ht ++ (uw_Surroundings ad_ar cA_ar u))) A) (vx_X (fun (u : Nat × (SSurroundings)) => res = .inr u) (fun (E : String) (u : Nat × (SSurroundings)) (t : State) => E = xn u.1 ∧ va_P (dC, dI) vwCl (uw_HT ad_ht cA_ht (ad_rd 0) (ad_sp 0) (ad_mx 0) (ad_ar 0) (ad_tb 0) (ad_tc 0) ht ++ (uw_Surroundings ad_ar cA_ar u.2)) t.heap ∧ va_K (dC, dI) vwCl [(cA_ht 1, .int), (cA_ar 1, .int), (cA_ar 2, .int), (cA_ar 3, .int)] t ∧ va_D A (uw_HT ad_ht cA_ht (ad_rd 0) (ad_sp 0) (ad_mx 0) (ad_ar 0) (ad_tb 0) (ad_tc 0) ht ++ (uw_Surroundings ad_ar cA_ar u.2))) A) ([.ref (ad_ht 0), .int x1, .int x2] : List Value).toArray s 1 6 A) (F0 m 28 ls []) := by
    intro u H locs ls hres hP hD hS hsz
    obtain ⟨sa, hstr⟩ := hX.2.2.1 (181, "there are at most 40 buildings") (by decide)
    refine vx_throwS (cls := "java/lang/UnsupportedOperationException") (text := "there are at most 40 buildings") (names := xch) (ik := 62) (is := 181) (ic := 66) (sa := sa) hx hb htr hown (by decide) (by decide) (hts _ (List.mem_cons_of_mem _ wd_319)) (hts _ (List.mem_cons_of_mem _ wd_54)) hstr (x_hat_66 hts hX) x_good_66 hX.1 hX.2.1 hS (hsz.trans hml.symm) d_HT_building_28 d_HT_building_31 d_HT_building_32 d_HT_building_34 d_HT_building_37 (fun x hx9 => (htab x hx9).elim) (by decide) (by decide) (by decide) (by decide) hlocks (fun t hvm hz hk => ?_) hS.2.2 (by decide) (by decide)
    obtain ⟨hP9, hF9⟩ := cl_thrown hP hS hz hk
    exact ⟨(3, u), hres, ⟨rfl, hP9, va_K.moved hvm hK, hD⟩, hF9⟩
  have ret : ∀ (v : Int32) (u : SSurroundings) (H : Heap) (locs : List Loc) (ls : Array Slot) (pc : Nat), decode b_HT_building pc = .ok (.ireturn, 1) → res = .inl (v, u) → va_P (dC, dI) vwCl (uw_HT ad_ht cA_ht (ad_rd 0) (ad_sp 0) (ad_mx 0) (ad_ar 0) (ad_tb 0) (ad_tc 0) ht ++ (uw_Surroundings ad_ar cA_ar u)) H → va_D A (uw_HT ad_ht cA_ht (ad_rd 0) (ad_sp 0) (ad_mx 0) (ad_ar 0) (ad_tb 0) (ad_tc 0) ht ++ (uw_Surroundings ad_ar cA_ar u)) → va_S A s.heap H locs → W p l e (headSpec w_HT_building ({ frames := 6, cells := 1, slots := 6, locals := 82 })).room s m ([.ref (ad_ht 0), .int x1, .int x2] : List Value).toArray below meth c H locs 0 0 (vx_MQ below (va_Qi (fun (r : Int32) (u : SSurroundings) => res = .inl (r, u)) (fun (u : SSurroundings) (t : State) => va_P (dC, dI) vwCl (uw_HT ad_ht cA_ht (ad_rd 0) (ad_sp 0) (ad_mx 0) (ad_ar 0) (ad_tb 0) (ad_tc 0) ht ++ (uw_Surroundings ad_ar cA_ar u)) t.heap ∧ va_K (dC, dI) vwCl [(cA_ht 1, .int), (cA_ar 1, .int), (cA_ar 2, .int), (cA_ar 3, .int)] t ∧ va_D A (uw_HT ad_ht cA_ht (ad_rd 0) (ad_sp 0) (ad_mx 0) (ad_ar 0) (ad_tb 0) (ad_tc 0) ht ++ (uw_Surroundings ad_ar cA_ar u))) A) (vx_X (fun (u : Nat × (SSurroundings)) => res = .inr u) (fun (E : String) (u : Nat × (SSurroundings)) (t : State) => E = xn u.1 ∧ va_P (dC, dI) vwCl (uw_HT ad_ht cA_ht (ad_rd 0) (ad_sp 0) (ad_mx 0) (ad_ar 0) (ad_tb 0) (ad_tc 0) ht ++ (uw_Surroundings ad_ar cA_ar u.2)) t.heap ∧ va_K (dC, dI) vwCl [(cA_ht 1, .int), (cA_ar 1, .int), (cA_ar 2, .int), (cA_ar 3, .int)] t ∧ va_D A (uw_HT ad_ht cA_ht (ad_rd 0) (ad_sp 0) (ad_mx 0) (ad_ar 0) (ad_tb 0) (ad_tc 0) ht ++ (uw_Surroundings ad_ar cA_ar u.2))) A) ([.ref (ad_ht 0), .int x1, .int x2] : List Value).toArray s 1 6 A) (F0 m pc ls [.int v]) := fun v u H locs ls pc hd hp hP hD hS => W.widen (k := 1) (n := 6) (Nat.zero_le _) (Nat.zero_le _) (vx_ret (W.iret (v := v) hx hb hr (fun t ht hW => ⟨⟨v, u, rfl, hp, by rw [ht]; exact hP, va_K.moved hW.alike hK, hD⟩, hS.F ht⟩) hS.2.2 hd))
  generalize (vx_MQ below (va_Qi (fun (r : Int32) (u : SSurroundings) => res = .inl (r, u)) (fun (u : SSurroundings) (t : State) => va_P (dC, dI) vwCl (uw_HT ad_ht cA_ht (ad_rd 0) (ad_sp 0) (ad_mx 0) (ad_ar 0) (ad_tb 0) (ad_tc 0) ht ++ (uw_Surroundings ad_ar cA_ar u)) t.heap ∧ va_K (dC, dI) vwCl [(cA_ht 1, .int), (cA_ar 1, .int), (cA_ar 2, .int), (cA_ar 3, .int)] t ∧ va_D A (uw_HT ad_ht cA_ht (ad_rd 0) (ad_sp 0) (ad_mx 0) (ad_ar 0) (ad_tb 0) (ad_tc 0) ht ++ (uw_Surroundings ad_ar cA_ar u))) A) (vx_X (fun (u : Nat × (SSurroundings)) => res = .inr u) (fun (E : String) (u : Nat × (SSurroundings)) (t : State) => E = xn u.1 ∧ va_P (dC, dI) vwCl (uw_HT ad_ht cA_ht (ad_rd 0) (ad_sp 0) (ad_mx 0) (ad_ar 0) (ad_tb 0) (ad_tc 0) ht ++ (uw_Surroundings ad_ar cA_ar u.2)) t.heap ∧ va_K (dC, dI) vwCl [(cA_ht 1, .int), (cA_ar 1, .int), (cA_ar 2, .int), (cA_ar 3, .int)] t ∧ va_D A (uw_HT ad_ht cA_ht (ad_rd 0) (ad_sp 0) (ad_mx 0) (ad_ar 0) (ad_tb 0) (ad_tc 0) ht ++ (uw_Surroundings ad_ar cA_ar u.2))) A) ([.ref (ad_ht 0), .int x1, .int x2] : List Value).toArray s 1 6 A) = Q at ret thr_8 thr_28 ⊢
  have hl := lv_entry ([.ref (ad_ht 0), .int x1, .int x2]) (n := 3) (Nat.le_of_ble_eq_true rfl)
  rw [lg_entry_eq]
  generalize (lg_sl ([.ref (ad_ht 0), .int x1, .int x2]) ++ List.replicate (3 - (lg_sl ([.ref (ad_ht 0), .int x1, .int x2])).length) Slot.unset).toArray = ls at hl ⊢
  have hl : lv_has ls 3 [(0, .ref (ad_ht 0)), (1, .int x1), (2, .int x2)] := hl
  have hf := hf
  rw [f_HT_building] at hf
  obtain ⟨H, hH⟩ : ∃ H : Heap, H = s.heap := ⟨_, rfl⟩
  obtain ⟨locs, hlocs⟩ : ∃ L : List Loc, L = [] := ⟨_, rfl⟩
  have hP : va_P (dC, dI) vwCl (uw_HT ad_ht cA_ht (ad_rd 0) (ad_sp 0) (ad_mx 0) (ad_ar 0) (ad_tb 0) (ad_tc 0) ht ++ (uw_Surroundings ad_ar cA_ar ar)) H := by rw [hH]; exact hP
  have hS : va_S A s.heap H locs := by rw [hH, hlocs]; exact hS
  show W p l e (headSpec w_HT_building ({ frames := 6, cells := 1, slots := 6, locals := 82 })).room s m ([.ref (ad_ht 0), .int x1, .int x2] : List Value).toArray below meth c s.heap [] 0 0 Q (F0 m 0 ls [])
  suffices hgo : W p l e (headSpec w_HT_building ({ frames := 6, cells := 1, slots := 6, locals := 82 })).room s m ([.ref (ad_ht 0), .int x1, .int x2] : List Value).toArray below meth c H locs 0 0 Q (F0 m 0 ls []) by rw [hH, hlocs] at hgo; exact hgo
  clear hH hlocs
  refine lv_iload_n hx hb d_HT_building_0 rfl (lv_at hl 1 rfl) ?_
  refine lv_iload_n hx hb d_HT_building_1 rfl (lv_at hl 2 rfl) ?_
  obtain ⟨u1, hu1, hf⟩ := Option.bind_eq_some_iff.mp hf
  refine cl_i (wc := []) (wr := (uw_HT ad_ht cA_ht (ad_rd 0) (ad_sp 0) (ad_mx 0) (ad_ar 0) (ad_tb 0) (ad_tc 0) ht ++ (uw_Surroundings ad_ar cA_ar ar))) (tysC := []) (wu := fun (u : Unit) => []) (wn := fun (u : Unit) => (uw_HT ad_ht cA_ht (ad_rd 0) (ad_sp 0) (ad_mx 0) (ad_ar 0) (ad_tb 0) (ad_tc 0) ht ++ (uw_Surroundings ad_ar cA_ar ar))) [] [0, 1, 2, 3, 4, 5] [0, 1, 2, 3, 4, 5] [] hP hD hS hA hK rfl rfl (by decide +kernel) (by decide +kernel) (by decide +kernel) rfl (fun _ => rfl) (by decide +kernel) (fun hPc hKc hDc => (va_runS (As := [.int x1, .int x2]) (rest := []) ⟨hx, hb, hml, hown, hts⟩ (k_HT_isNoPoint l dC dI  H.size x1 x2 u1 hu1) (cwS 2 hts (gS wd_653 wd_654 wd_43 wd_655) rfl rfl rfl (by decide +kernel) ⟨Nat.le_of_ble_eq_true rfl, Nat.le_of_ble_eq_true rfl⟩) (cl_preS hPc hKc hDc hN) rfl rfl hl.1 rfl (lv_room (Nat.le_of_ble_eq_true rfl)) d_HT_building_2 ⟨Nat.le_of_ble_eq_true rfl, Nat.le_of_ble_eq_true rfl⟩)) (fun r u H locs hw hP hD hS => ?_)
  have hw := hw.symm
  subst hw
  have hP : va_P (dC, dI) vwCl (uw_HT ad_ht cA_ht (ad_rd 0) (ad_sp 0) (ad_mx 0) (ad_ar 0) (ad_tb 0) (ad_tc 0) ht ++ (uw_Surroundings ad_ar cA_ar ar)) H := hP
  have hD : va_D A (uw_HT ad_ht cA_ht (ad_rd 0) (ad_sp 0) (ad_mx 0) (ad_ar 0) (ad_tb 0) (ad_tc 0) ht ++ (uw_Surroundings ad_ar cA_ar ar)) := hD
  refine lv_if_eq (tgt := 18) hx hb d_HT_building_5 (by decide) (fun hc2 => ?_) (fun hc2 => ?_)
  · have hf := hf_t hf hc2
    refine lv_aload_n hx hb d_HT_building_18 rfl (lv_at hl 0 rfl) ?_
    refine va_get (D := (dC, dI)) (ci := 5) (v := .ref (ad_ar 0)) (C := "HazardTables") (T := F_HT) (N := 7) hx hb hts hin_HT hown hK hP 0 rfl rfl 3 (by decide) fl_33 (fun _ h9 => h9) rfl d_HT_building_19 ?_
    obtain ⟨u3, hu3, hf⟩ := Option.bind_eq_some_iff.mp hf
    refine cl_i (wc := (uw_Surroundings ad_ar cA_ar ar)) (wr := (uw_HT ad_ht cA_ht (ad_rd 0) (ad_sp 0) (ad_mx 0) (ad_ar 0) (ad_tb 0) (ad_tc 0) ht)) (tysC := [(cA_ar 1, .int), (cA_ar 2, .int), (cA_ar 3, .int)]) (wu := fun (u : Unit) => (uw_Surroundings ad_ar cA_ar ar)) (wn := fun (u : Unit) => (uw_HT ad_ht cA_ht (ad_rd 0) (ad_sp 0) (ad_mx 0) (ad_ar 0) (ad_tb 0) (ad_tc 0) ht ++ (uw_Surroundings ad_ar cA_ar ar))) [2, 3, 4, 5] [0, 1] [0, 1, 2, 3, 4, 5] [1, 2, 3] hP hD hS hA hK rfl rfl (by decide +kernel) (by decide +kernel) (by decide +kernel) rfl (fun _ => rfl) (by decide +kernel) (fun hPc hKc hDc => (va_runV (As := []) (rest := []) ⟨hx, hb, hml, hown, hts⟩ (k_Surroundings_isFull l dC dI ad_ar cA_ar H.size ar u3 hu3) (cwV 0 hts (gV wd_657 wd_658 wd_659 wd_47 wd_660) rfl rfl rfl (by decide +kernel) ⟨Nat.le_of_ble_eq_true rfl, Nat.le_of_ble_eq_true rfl⟩) (cl_preV hPc hKc hDc hN (ci := 3) 0 rfl rfl) rfl rfl hl.1 rfl (lv_room (Nat.le_of_ble_eq_true rfl)) d_HT_building_22 ⟨Nat.le_of_ble_eq_true rfl, Nat.le_of_ble_eq_true rfl⟩)) (fun r u H locs hw hP hD hS => ?_)
    have hw := hw.symm
    subst hw
    have hP : va_P (dC, dI) vwCl (uw_HT ad_ht cA_ht (ad_rd 0) (ad_sp 0) (ad_mx 0) (ad_ar 0) (ad_tb 0) (ad_tc 0) ht ++ (uw_Surroundings ad_ar cA_ar ar)) H := hP
    have hD : va_D A (uw_HT ad_ht cA_ht (ad_rd 0) (ad_sp 0) (ad_mx 0) (ad_ar 0) (ad_tb 0) (ad_tc 0) ht ++ (uw_Surroundings ad_ar cA_ar ar)) := hD
    refine lv_if_eq (tgt := 38) hx hb d_HT_building_25 (by decide) (fun hc4 => ?_) (fun hc4 => ?_)
    · have hf := hf_t hf hc4
      refine lv_aload_n hx hb d_HT_building_38 rfl (lv_at hl 0 rfl) ?_
      refine va_get (D := (dC, dI)) (ci := 5) (v := .ref (ad_ar 0)) (C := "HazardTables") (T := F_HT) (N := 7) hx hb hts hin_HT hown hK hP 0 rfl rfl 3 (by decide) fl_33 (fun _ h9 => h9) rfl d_HT_building_39 ?_
      refine lv_iload_n hx hb d_HT_building_42 rfl (lv_at hl 1 rfl) ?_
      refine lv_iload_n hx hb d_HT_building_43 rfl (lv_at hl 2 rfl) ?_
      obtain ⟨u5, hu5, hf⟩ := Option.bind_eq_some_iff.mp hf
      refine cl_i (wc := (uw_Surroundings ad_ar cA_ar ar)) (wr := (uw_HT ad_ht cA_ht (ad_rd 0) (ad_sp 0) (ad_mx 0) (ad_ar 0) (ad_tb 0) (ad_tc 0) ht)) (tysC := [(cA_ar 1, .int), (cA_ar 2, .int), (cA_ar 3, .int)]) (wu := fun (u : SSurroundings) => (uw_Surroundings ad_ar cA_ar u)) (wn := fun (u : SSurroundings) => (uw_HT ad_ht cA_ht (ad_rd 0) (ad_sp 0) (ad_mx 0) (ad_ar 0) (ad_tb 0) (ad_tc 0) ht ++ (uw_Surroundings ad_ar cA_ar u))) [2, 3, 4, 5] [0, 1] [0, 1, 2, 3, 4, 5] [1, 2, 3] hP hD hS hA hK rfl rfl (by decide +kernel) (by decide +kernel) (by decide +kernel) rfl (fun _ => rfl) (by decide +kernel) (fun hPc hKc hDc => (va_runV (As := [.int x1, .int x2]) (rest := []) ⟨hx, hb, hml, hown, hts⟩ (k_Surroundings_append l dC dI ad_ar cA_ar H.size ar x1 x2 u5 hu5) (cwV 2 hts (gV wd_662 wd_663 wd_664 wd_47 wd_665) rfl rfl rfl (by decide +kernel) ⟨Nat.le_of_ble_eq_true rfl, Nat.le_of_ble_eq_true rfl⟩) (cl_preV hPc hKc hDc hN (ci := 3) 0 rfl rfl) rfl rfl hl.1 rfl (lv_room (Nat.le_of_ble_eq_true rfl)) d_HT_building_44 ⟨Nat.le_of_ble_eq_true rfl, Nat.le_of_ble_eq_true rfl⟩)) (fun r u H locs hw hP hD hS => ?_)
      obtain ⟨hw1, hw2⟩ := hw
      have hw1 := hw1.symm
      have hw2 := hw2.symm
      subst hw1
      subst hw2
      have hP : va_P (dC, dI) vwCl (uw_HT ad_ht cA_ht (ad_rd 0) (ad_sp 0) (ad_mx 0) (ad_ar 0) (ad_tb 0) (ad_tc 0) ht ++ (uw_Surroundings ad_ar cA_ar u5.2)) H := hP
      have hD : va_D A (uw_HT ad_ht cA_ht (ad_rd 0) (ad_sp 0) (ad_mx 0) (ad_ar 0) (ad_tb 0) (ad_tc 0) ht ++ (uw_Surroundings ad_ar cA_ar u5.2)) := hD
      exact ret u5.1 u5.2 H locs ls 47 d_HT_building_47 (Option.some.inj hf).symm hP hD hS
    · have hf := hf_f hf hc4
      exact thr_28 ar H locs ls (Option.some.inj hf).symm hP hD hS hl.1
  · have hf := hf_f hf hc2
    exact thr_8 ar H locs ls (Option.some.inj hf).symm hP hD hS hl.1
