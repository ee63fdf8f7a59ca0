noncomputable def f_HT_building (ht : SHT) (ar : SSurroundings) (x1 : Int32) (x2 : Int32) : Option (Sum (Int32 × SSurroundings) (Nat × (SSurroundings))) :=
  (Option.bind (f_HT_isNoPoint x1 x2) fun u1 =>
    (if (bI u1) = 0 then
      (Option.bind (f_Surroundings_isFull ar) fun u3 =>
        (if (bI u3) = 0 then
          (Option.bind (f_Surroundings_append ar x1 x2) fun u5 =>
            (some (.inl (u5.1, u5.2)))
           )
         else
          (some (.inr (3, ar)))
         )
       )
     else
      (some (.inr (1, ar)))
     )
   )
set_option maxHeartbeats 4000000 in
set_option maxRecDepth 100000 in
theorem k_HT_building (l : Launch) (dC : Nat → ClassId) (dI : Nat → Nat → Nat) (ad_ht : Nat → Nat) (cA_ht : Nat → ClassId) (ad_ar : Nat → Nat) (cA_ar : Nat → ClassId) (ad_rd : Nat → Nat) (cA_rd : Nat → ClassId) (ad_sp : Nat → Nat) (cA_sp : Nat → ClassId) (ad_mx : Nat → Nat) (cA_mx : Nat → ClassId) (ad_tb : Nat → Nat) (cA_tb : Nat → ClassId) (ad_tc : Nat → Nat) (cA_tc : Nat → ClassId) (sz : Nat) (ht : SHT) (ar : SSurroundings) (x1 : Int32) (x2 : Int32) (res : Sum (Int32 × SSurroundings) (Nat × (SSurroundings))) (hf : f_HT_building ht ar x1 x2 = some res) (htr : l.stackTraces = false) : vx_Met l y_HT_building w_HT_building ({ frames := 6, cells := 1, slots := 6, locals := 82 }) (xPc (dC, dI) (uw_HT ad_ht cA_ht (ad_rd 0) (ad_sp 0) (ad_mx 0) (ad_ar 0) (ad_tb 0) (ad_tc 0) ht ++ (uw_Surroundings ad_ar cA_ar ar)) [(cA_ht 1, .int), (cA_ar 1, .int), (cA_ar 2, .int), (cA_ar 3, .int)] sz [.ref (ad_ht 0), .int x1, .int x2]) (va_Qi (fun (r : Int32) (u : SSurroundings) => res = .inl (r, u)) (fun (u : SSurroundings) (t : State) => va_P (dC, dI) vwCl (uw_HT ad_ht cA_ht (ad_rd 0) (ad_sp 0) (ad_mx 0) (ad_ar 0) (ad_tb 0) (ad_tc 0) ht ++ (uw_Surroundings ad_ar cA_ar u)) t.heap ∧ va_K (dC, dI) vwCl [(cA_ht 1, .int), (cA_ar 1, .int), (cA_ar 2, .int), (cA_ar 3, .int)] t ∧ va_D (va_A (uw_HT ad_ht cA_ht (ad_rd 0) (ad_sp 0) (ad_mx 0) (ad_ar 0) (ad_tb 0) (ad_tc 0) ht ++ (uw_Surroundings ad_ar cA_ar ar)) sz) (uw_HT ad_ht cA_ht (ad_rd 0) (ad_sp 0) (ad_mx 0) (ad_ar 0) (ad_tb 0) (ad_tc 0) ht ++ (uw_Surroundings ad_ar cA_ar u))) (va_A (uw_HT ad_ht cA_ht (ad_rd 0) (ad_sp 0) (ad_mx 0) (ad_ar 0) (ad_tb 0) (ad_tc 0) ht ++ (uw_Surroundings ad_ar cA_ar ar)) sz)) (vx_X (fun (u : Nat × (SSurroundings)) => res = .inr u) (fun (E : String) (u : Nat × (SSurroundings)) (t : State) => E = xn u.1 ∧ va_P (dC, dI) vwCl (uw_HT ad_ht cA_ht (ad_rd 0) (ad_sp 0) (ad_mx 0) (ad_ar 0) (ad_tb 0) (ad_tc 0) ht ++ (uw_Surroundings ad_ar cA_ar u.2)) t.heap ∧ va_K (dC, dI) vwCl [(cA_ht 1, .int), (cA_ar 1, .int), (cA_ar 2, .int), (cA_ar 3, .int)] t ∧ va_D (va_A (uw_HT ad_ht cA_ht (ad_rd 0) (ad_sp 0) (ad_mx 0) (ad_ar 0) (ad_tb 0) (ad_tc 0) ht ++ (uw_Surroundings ad_ar cA_ar ar)) sz) (uw_HT ad_ht cA_ht (ad_rd 0) (ad_sp 0) (ad_mx 0) (ad_ar 0) (ad_tb 0) (ad_tc 0) ht ++ (uw_Surroundings ad_ar cA_ar u.2))) (va_A (uw_HT ad_ht cA_ht (ad_rd 0) (ad_sp 0) (ad_mx 0) (ad_ar 0) (ad_tb 0) (ad_tc 0) ht ++ (uw_Surroundings ad_ar cA_ar ar)) sz)) 1 6 (va_A (uw_HT ad_ht cA_ht (ad_rd 0) (ad_sp 0) (ad_mx 0) (ad_ar 0) (ad_tb 0) (ad_tc 0) ht ++ (uw_Surroundings ad_ar cA_ar ar)) sz) := by
  refine vx_ofW (cc := b_HT_building) (maxL := 3) (ret := (some .int)) (by decide) rfl ?_
  intro p e s m args below meth c s₁ B hml htab hv
  obtain ⟨rfl, hsz, hP, hK, hD0, hN, hX⟩ := hv
  have hx := B.exec
  have hb := B.bytes
  have hr := B.returns
  have hts := atoms_spec (ws := w_HT_building) B.pre
  have hown : s.vm.findClass "HazardTables" = some m.cls := findClass_of_methodNamed B.named
  have hlocks := B.notSynchronized
  subst hsz
  have hD := hD0.self (sz := s.heap.size)
  generalize hAe : va_A (uw_HT ad_ht cA_ht (ad_rd 0) (ad_sp 0) (ad_mx 0) (ad_ar 0) (ad_tb 0) (ad_tc 0) ht ++ (uw_Surroundings ad_ar cA_ar ar)) s.heap.size = A at hD hX ⊢
  have hA : ∀ q : Nat, s.heap.size ≤ q → A q := fun q h => by rw [← hAe]; exact Or.inr h
  have hS : va_S A s.heap s.heap [] := va_S.rf
  have hP : va_P (dC, dI) vwCl (uw_HT ad_ht cA_ht (ad_rd 0) (ad_sp 0) (ad_mx 0) (ad_ar 0) (ad_tb 0) (ad_tc 0) ht ++ (uw_Surroundings ad_ar cA_ar ar)) s.heap := hP
  have fl_33 := (hts _ (List.mem_cons_of_mem _ wd_207))
  have hin_HT : ∀ w ∈ u_ws "HazardTables" F_HT 7, w ∈ w_HT_building := fun w h => List.mem_cons_of_mem _ (hinA_HT w h)
  have thr_8 : ∀ (u : SSurroundings) (H : Heap) (locs : List Loc) (ls : Array Slot), res = .inr (1, u) → va_P (dC, dI) vwCl (uw_HT ad_ht cA_ht (ad_rd 0) (ad_sp 0) (ad_mx 0) (ad_ar 0) (ad_tb 0) (ad_tc 0) ht ++ (uw_Surroundings ad_ar cA_ar u)) H → va_D A (uw_HT ad_ht cA_ht (ad_rd 0) (ad_sp 0) (ad_mx 0) (ad_ar 0) (ad_tb 0) (ad_tc 0) ht ++ (uw_Surroundings ad_ar cA_ar u)) → va_S A s.heap H locs → ls.size = 3 → W p l e (headSpec w_HT_building ({ frames := 6, cells := 1, slots := 6, locals := 82 })).room s m ([.ref (ad_ht 0), .int x1, .int x2] : List Value).toArray below meth c H locs 0 0 (vx_MQ below (va_Qi (fun (r : Int32) (u : SSurroundings) => res = .inl (r, u)) (fun (u : SSurroundings) (t : State) => va_P (dC, dI) vwCl (uw_HT ad_ht cA_ht (ad_rd 0) (ad_sp 0) (ad_mx 0) (ad_ar 0) (ad_tb 0) (ad_tc 0) ht ++ (uw_Surroundings ad_ar cA_ar u)) t.heap ∧ va_K (dC, dI) vwCl [(cA_ht 1, .int), (cA_ar 1, .int), (cA_ar 2, .int), (cA_ar 3, .int)] t ∧ va_D A (uw_HT ad_ht cA_ht (ad_rd 0) (ad_sp 0) (ad_mx 0) (ad_ar 0) (ad_tb 0) (ad_tc 0) ht ++ (uw_Surroundings ad_ar cA_ar u))) A) (vx_X (fun (u : Nat × (SSurroundings)) => res = .inr u) (fun (E : String) (u : Nat × (SSurroundings)) (t : State) => E = xn u.1 ∧ va_P (dC, dI) vwCl (uw_HT ad_ht cA_ht (ad_rd 0) (ad_sp 0) (ad_mx 0) (ad_ar 0) (ad_tb 0) (ad_tc 0) ht ++ (uw_Surroundings ad_ar cA_ar u.2)) t.heap ∧ va_K (dC, dI) vwCl [(cA_ht 1, .int), (cA_ar 1, .int), (cA_ar 2, .int), (cA_ar 3, .int)] t ∧ va_D A (uw_HT ad_ht cA_ht (ad_rd 0) (ad_sp 0) (ad_mx 0) (ad_ar 0) (ad_tb 0) (ad_tc 0) ht ++ (uw_Surroundings ad_ar cA_ar u.2))) A) ([.ref (ad_ht 0), .int x1, .int x2] : List Value).toArray s 1 6 A) (F0 m 8 ls []) := by
    intro u H locs ls hres hP hD hS hsz
    obtain ⟨sa, hstr⟩ := hX.2.2.1 (178, "the point is out of range") (by decide)
    refine vx_throwS (cls := "java/lang/IndexOutOfBoundsException") (text := "the point is out of range") (names := xch) (ik := 51) (is := 178) (ic := 55) (sa := sa) hx hb htr hown (by decide) (by decide) (hts _ (List.mem_cons_of_mem _ wd_247)) (hts _ (List.mem_cons_of_mem _ wd_53)) hstr (x_hat_55 hts hX) x_good_55 hX.1 hX.2.1 hS (hsz.trans hml.symm) d_HT_building_8 d_HT_building_11 d_HT_building_12 d_HT_building_14 d_HT_building_17 (fun x hx9 => (htab x hx9).elim) (by decide) (by decide) (by decide) (by decide) hlocks (fun t hvm hz hk => ?_) hS.2.2 (by decide) (by decide)
    obtain ⟨hP9, hF9⟩ := cl_thrown hP hS hz hk
    exact ⟨(1, u), hres, ⟨rfl, hP9, va_K.moved hvm hK, hD⟩, hF9⟩
  have thr_28 : ∀ (u : SSurroundings) (H : Heap) (locs : List Loc) (ls : Array Slot), res = .inr (3, u) → va_P (dC, dI) vwCl (uw_HT ad_ht cA_ht (ad_rd 0) (ad_sp 0) (ad_mx 0) (ad_ar 0) (ad_tb 0) (ad_tc 0) ht ++ (uw_Surroundings ad_ar cA_ar u)) H → va_D A (uw_HT ad_ht cA_ht (ad_rd 0) (ad_sp 0) (ad_mx 0) (ad_ar 0) (ad_tb 0) (ad_tc 0) ht ++ (uw_Surroundings ad_ar cA_ar u)) → va_S A s.heap H locs → ls.size = 3 → W p l e (headSpec w_HT_building ({ frames := 6, cells := 1, slots := 6, locals := 82 })).room s m ([.ref (ad_ht 0), .int x1, .int x2] : List Value).toArray below meth c H locs 0 0 (vx_MQ below (va_Qi (fun (r : Int32) (u : SSurroundings) => res = .inl (r, u)) (fun (u : SSurroundings) (t : State) => va_P (dC, dI) vwCl (uw_HT ad_ht cA_ht (ad_rd 0) (ad_sp 0) (ad_mx 0) (ad_ar 0) (ad_tb 0) (ad_tc 0) ht ++ (uw_Surroundings ad_ar cA_ar u)) t.heap ∧ va_K (dC, dI) vwCl [(cA_ht 1, .int), (cA_ar 1, .int), (cA_ar 2, .int), (cA_ar 3, .int)] t ∧ va_D A (uw_HT ad_ht cA_ht (ad_rd 0) (ad_sp 0) (ad_mx 0) (ad_ar 0) (ad_tb 0) (ad_tc 0) ht ++ (uw_Surroundings ad_ar cA_ar u))) A) (vx_X (fun (u : Nat × (SSurroundings)) => res = .inr u) (fun (E : String) (u : Nat × (SSurroundings)) (t : State) => E = xn u.1 ∧ va_P (dC, dI) vwCl (uw_HT ad_ht cA_ht (ad_rd 0) (ad_sp 0) (ad_mx 0) (ad_ar 0) (ad_tb 0) (ad_tc 0) ht ++ (uw_Surroundings ad_ar cA_ar u.2)) t.heap ∧ va_K (dC, dI) vwCl [(cA_ht 1, .int), (cA_ar 1, .int), (cA_ar 2, .int), (cA_ar 3, .int)] t ∧ va_D A (uw_HT ad_ht cA_ht (ad_rd 0) (ad_sp 0) (ad_mx 0) (ad_ar 0) (ad_tb 0) (ad_tc 0) ht ++ (uw_Surroundings ad_ar cA_ar u.2))) A) ([.ref (ad_ht 0), .int x1, .int x2] : List Value).toArray s 1 6 A) (F0 m 28 ls []) := by
    intro u H locs ls hres hP hD hS hsz
    obtain ⟨sa, hstr⟩ := hX.2.2.1 (181, "there are at most 40 buildings") (by decide)
    refine vx_throwS (cls := "java/lang/UnsupportedOperationException") (text := "there are at most 40 buildings") (names := xch) (ik := 62) (is := 181) (ic := 66) (sa := sa) hx hb htr hown (by decide) (by decide) (hts _ (List.mem_cons_of_mem _ wd_319)) (hts _ (List.mem_cons_of_mem _ wd_54)) hstr (x_hat_66 hts hX) x_good_66 hX.1 hX.2.1 hS (hsz.trans hml.symm) d_HT_building_28 d_HT_building_31 d_HT_building_32 d_HT_building_34 d_HT_building_37 (fun x hx9 => (htab x hx9).elim) (by decide) (by decide) (by decide) (by decide) hlocks (fun t hvm hz hk => ?_) hS.2.2 (by decide) (by decide)
    obtain ⟨hP9, hF9⟩ := cl_thrown hP hS hz hk
    exact ⟨(3, u), hres, ⟨rfl, hP9, va_K.moved hvm hK, hD⟩, hF9⟩
  have ret : ∀ (v : Int32) (u : SSurroundings) (H : Heap) (locs : List Loc) (ls : Array Slot) (pc : Nat), decode b_HT_building pc = .ok (.ireturn, 1) → res = .inl (v, u) → va_P (dC, dI) vwCl (uw_HT ad_ht cA_ht (ad_rd 0) (ad_sp 0) (ad_mx 0) (ad_ar 0) (ad_tb 0) (ad_tc 0) ht ++ (uw_Surroundings ad_ar cA_ar u)) H → va_D A (uw_HT ad_ht cA_ht (ad_rd 0) (ad_sp 0) (ad_mx 0) (ad_ar 0) (ad_tb 0) (ad_tc 0) ht ++ (uw_Surroundings ad_ar cA_ar u)) → va_S A s.heap H locs → W p l e (headSpec w_HT_building ({ frames := 6, cells := 1, slots := 6, locals := 82 })).room s m ([.ref (ad_ht 0), .int x1, .int x2] : List Value).toArray below meth c H locs 0 0 (vx_MQ below (va_Qi (fun (r : Int32) (u : SSurroundings) => res = .inl (r, u)) (fun (u : SSurroundings) (t : State) => va_P (dC, dI) vwCl (uw_HT ad_ht cA_ht (ad_rd 0) (ad_sp 0) (ad_mx 0) (ad_ar 0) (ad_tb 0) (ad_tc 0) ht ++ (uw_Surroundings ad_ar cA_ar u)) t.heap ∧ va_K (dC, dI) vwCl [(cA_ht 1, .int), (cA_ar 1, .int), (cA_ar 2, .int), (cA_ar 3, .int)] t ∧ va_D A (uw_HT ad_ht cA_ht (ad_rd 0) (ad_sp 0) (ad_mx 0) (ad_ar 0) (ad_tb 0) (ad_tc 0) ht ++ (uw_Surroundings ad_ar cA_ar u))) A) (vx_X (fun (u : Nat × (SSurroundings)) => res = .inr u) (fun (E : String) (u : Nat × (SSurroundings)) (t : State) => E = xn u.1 ∧ va_P (dC, dI) vwCl (uw_HT ad_ht cA_ht (ad_rd 0) (ad_sp 0) (ad_mx 0) (ad_ar 0) (ad_tb 0) (ad_tc 0) ht ++ (uw_Surroundings ad_ar cA_ar u.2)) t.heap ∧ va_K (dC, dI) vwCl [(cA_ht 1, .int), (cA_ar 1, .int), (cA_ar 2, .int), (cA_ar 3, .int)] t ∧ va_D A (uw_HT ad_ht cA_ht (ad_rd 0) (ad_sp 0) (ad_mx 0) (ad_ar 0) (ad_tb 0) (ad_tc 0) ht ++ (uw_Surroundings ad_ar cA_ar u.2))) A) ([.ref (ad_ht 0), .int x1, .int x2] : List Value).toArray s 1 6 A) (F0 m pc ls [.int v]) := fun v u H locs ls pc hd hp hP hD hS => W.widen (k := 1) (n := 6) (Nat.zero_le _) (Nat.zero_le _) (vx_ret (W.iret (v := v) hx hb hr (fun t ht hW => ⟨⟨v, u, rfl, hp, by rw [ht]; exact hP, va_K.moved hW.alike hK, hD⟩, hS.F ht⟩) hS.2.2 hd))
  generalize (vx_MQ below (va_Qi (fun (r : Int32) (u : SSurroundings) => res = .inl (r, u)) (fun (u : SSurroundings) (t : State) => va_P (dC, dI) vwCl (uw_HT ad_ht cA_ht (ad_rd 0) (ad_sp 0) (ad_mx 0) (ad_ar 0) (ad_tb 0) (ad_tc 0) ht ++ (uw_Surroundings ad_ar cA_ar u)) t.heap ∧ va_K (dC, dI) vwCl [(cA_ht 1, .int), (cA_ar 1, .int), (cA_ar 2, .int), (cA_ar 3, .int)] t ∧ va_D A (uw_HT ad_ht cA_ht (ad_rd 0) (ad_sp 0) (ad_mx 0) (ad_ar 0) (ad_tb 0) (ad_tc 0) ht ++ (uw_Surroundings ad_ar cA_ar u))) A) (vx_X (fun (u : Nat × (SSurroundings)) => res = .inr u) (fun (E : String) (u : Nat × (SSurroundings)) (t : State) => E = xn u.1 ∧ va_P (dC, dI) vwCl (uw_HT ad_ht cA_ht (ad_rd 0) (ad_sp 0) (ad_mx 0) (ad_ar 0) (ad_tb 0) (ad_tc 0) ht ++ (uw_Surroundings ad_ar cA_ar u.2)) t.heap ∧ va_K (dC, dI) vwCl [(cA_ht 1, .int), (cA_ar 1, .int), (cA_ar 2, .int), (cA_ar 3, .int)] t ∧ va_D A (uw_HT ad_ht cA_ht (ad_rd 0) (ad_sp 0) (ad_mx 0) (ad_ar 0) (ad_tb 0) (ad_tc 0) ht ++ (uw_Surroundings ad_ar cA_ar u.2))) A) ([.ref (ad_ht 0), .int x1, .int x2] : List Value).toArray s 1 6 A) = Q at ret thr_8 thr_28 ⊢
  have hl := lv_entry ([.ref (ad_ht 0), .int x1, .int x2]) (n := 3) (Nat.le_of_ble_eq_true rfl)
  rw [lg_entry_eq]
  generalize (lg_sl ([.ref (ad_ht 0), .int x1, .int x2]) ++ List.replicate (3 - (lg_sl ([.ref (ad_ht 0), .int x1, .int x2])).length) Slot.unset).toArray = ls at hl ⊢
  have hl : lv_has ls 3 [(0, .ref (ad_ht 0)), (1, .int x1), (2, .int x2)] := hl
  have hf := hf
  rw [f_HT_building] at hf
  obtain ⟨H, hH⟩ : ∃ H : Heap, H = s.heap := ⟨_, rfl⟩
  obtain ⟨locs, hlocs⟩ : ∃ L : List Loc, L = [] := ⟨_, rfl⟩
  have hP : va_P (dC, dI) vwCl (uw_HT ad_ht cA_ht (ad_rd 0) (ad_sp 0) (ad_mx 0) (ad_ar 0) (ad_tb 0) (ad_tc 0) ht ++ (uw_Surroundings ad_ar cA_ar ar)) H := by rw [hH]; exact hP
  have hS : va_S A s.heap H locs := by rw [hH, hlocs]; exact hS
  show W p l e (headSpec w_HT_building ({ frames := 6, cells := 1, slots := 6, locals := 82 })).room s m ([.ref (ad_ht 0), .int x1, .int x2] : List Value).toArray below meth c s.heap [] 0 0 Q (F0 m 0 ls [])
  suffices hgo : W p l e (headSpec w_HT_building ({ frames := 6, cells := 1, slots := 6, locals := 82 })).room s m ([.ref (ad_ht 0), .int x1, .int x2] : List Value).toArray below meth c H locs 0 0 Q (F0 m 0 ls []) by rw [hH, hlocs] at hgo; exact hgo
  clear hH hlocs
  refine lv_iload_n hx hb d_HT_building_0 rfl (lv_at hl 1 rfl) ?_
  refine lv_iload_n hx hb d_HT_building_1 rfl (lv_at hl 2 rfl) ?_
  obtain ⟨u1, hu1, hf⟩ := Option.bind_eq_some_iff.mp hf
  refine cl_i (wc := []) (wr := (uw_HT ad_ht cA_ht (ad_rd 0) (ad_sp 0) (ad_mx 0) (ad_ar 0) (ad_tb 0) (ad_tc 0) ht ++ (uw_Surroundings ad_ar cA_ar ar))) (tysC := []) (wu := fun (u : Unit) => []) (wn := fun (u : Unit) => (uw_HT ad_ht cA_ht (ad_rd 0) (ad_sp 0) (ad_mx 0) (ad_ar 0) (ad_tb 0) (ad_tc 0) ht ++ (uw_Surroundings ad_ar cA_ar ar))) [] [0, 1, 2, 3, 4, 5] [0, 1, 2, 3, 4, 5] [] hP hD hS hA hK rfl rfl (by decide +kernel) (by decide +kernel) (by decide +kernel) rfl (fun _ => rfl) (by decide +kernel) (fun hPc hKc hDc => (va_runS (As := [.int x1, .int x2]) (rest := []) ⟨hx, hb, hml, hown, hts⟩ (k_HT_isNoPoint l dC dI  H.size x1 x2 u1 hu1) (cwS 2 hts (gS wd_653 wd_654 wd_43 wd_655) rfl rfl rfl (by decide +kernel) ⟨Nat.le_of_ble_eq_true rfl, Nat.le_of_ble_eq_true rfl⟩) (cl_preS hPc hKc hDc hN) rfl rfl hl.1 rfl (lv_room (Nat.le_of_ble_eq_true rfl)) d_HT_building_2 ⟨Nat.le_of_ble_eq_true rfl, Nat.le_of_ble_eq_true rfl⟩)) (fun r u H locs hw hP hD hS => ?_)
  have hw := hw.symm
  subst hw
  have hP : va_P (dC, dI) vwCl (uw_HT ad_ht cA_ht (ad_rd 0) (ad_sp 0) (ad_mx 0) (ad_ar 0) (ad_tb 0) (ad_tc 0) ht ++ (uw_Surroundings ad_ar cA_ar ar)) H := hP
  have hD : va_D A (uw_HT ad_ht cA_ht (ad_rd 0) (ad_sp 0) (ad_mx 0) (ad_ar 0) (ad_tb 0) (ad_tc 0) ht ++ (uw_Surroundings ad_ar cA_ar ar)) := hD
  refine lv_if_eq (tgt := 18) hx hb d_HT_building_5 (by decide) (fun hc2 => ?_) (fun hc2 => ?_)
  · have hf := hf_t hf hc2
    refine lv_aload_n hx hb d_HT_building_18 rfl (lv_at hl 0 rfl) ?_
    refine va_get (D := (dC, dI)) (ci := 5) (v := .ref (ad_ar 0)) (C := "HazardTables") (T := F_HT) (N := 7) hx hb hts hin_HT hown hK hP 0 rfl rfl 3 (by decide) fl_33 (fun _ h9 => h9) rfl d_HT_building_19 ?_
    obtain ⟨u3, hu3, hf⟩ := Option.bind_eq_some_iff.mp hf
    refine cl_i (wc := (uw_Surroundings ad_ar cA_ar ar)) (wr := (uw_HT ad_ht cA_ht (ad_rd 0) (ad_sp 0) (ad_mx 0) (ad_ar 0) (ad_tb 0) (ad_tc 0) ht)) (tysC := [(cA_ar 1, .int), (cA_ar 2, .int), (cA_ar 3, .int)]) (wu := fun (u : Unit) => (uw_Surroundings ad_ar cA_ar ar)) (wn := fun (u : Unit) => (uw_HT ad_ht cA_ht (ad_rd 0) (ad_sp 0) (ad_mx 0) (ad_ar 0) (ad_tb 0) (ad_tc 0) ht ++ (uw_Surroundings ad_ar cA_ar ar))) [2, 3, 4, 5] [0, 1] [0, 1, 2, 3, 4, 5] [1, 2, 3] hP hD hS hA hK rfl rfl (by decide +kernel) (by decide +kernel) (by decide +kernel) rfl (fun _ => rfl) (by decide +kernel) (fun hPc hKc hDc => (va_runV (As := []) (rest := []) ⟨hx, hb, hml, hown, hts⟩ (k_Surroundings_isFull l dC dI ad_ar cA_ar H.size ar u3 hu3) (cwV 0 hts (gV wd_657 wd_658 wd_659 wd_47 wd_660) rfl rfl rfl (by decide +kernel) ⟨Nat.le_of_ble_eq_true rfl, Nat.le_of_ble_eq_true rfl⟩) (cl_preV hPc hKc hDc hN (ci := 3) 0 rfl rfl) rfl rfl hl.1 rfl (lv_room (Nat.le_of_ble_eq_true rfl)) d_HT_building_22 ⟨Nat.le_of_ble_eq_true rfl, Nat.le_of_ble_eq_true rfl⟩)) (fun r u H locs hw hP hD hS => ?_)
    have hw := hw.symm
    subst hw
    have hP : va_P (dC, dI) vwCl (uw_HT ad_ht cA_ht (ad_rd 0) (ad_sp 0) (ad_mx 0) (ad_ar 0) (ad_tb 0) (ad_tc 0) ht ++ (uw_Surroundings ad_ar cA_ar ar)) H := hP
    have hD : va_D A (uw_HT ad_ht cA_ht (ad_rd 0) (ad_sp 0) (ad_mx 0) (ad_ar 0) (ad_tb 0) (ad_tc 0) ht ++ (uw_Surroundings ad_ar cA_ar ar)) := hD
    refine lv_if_eq (tgt := 38) hx hb d_HT_building_25 (by decide) (fun hc4 => ?_) (fun hc4 => ?_)
    · have hf := hf_t hf hc4
      refine lv_aload_n hx hb d_HT_building_38 rfl (lv_at hl 0 rfl) ?_
      refine va_get (D := (dC, dI)) (ci := 5) (v := .ref (ad_ar 0)) (C := "HazardTables") (T := F_HT) (N := 7) hx hb hts hin_HT hown hK hP 0 rfl rfl 3 (by decide) fl_33 (fun _ h9 => h9) rfl d_HT_building_39 ?_
      refine lv_iload_n hx hb d_HT_building_42 rfl (lv_at hl 1 rfl) ?_
      refine lv_iload_n hx hb d_HT_building_43 rfl (lv_at hl 2 rfl) ?_
      obtain ⟨u5, hu5, hf⟩ := Option.bind_eq_some_iff.mp hf
      refine cl_i (wc := (uw_Surroundings ad_ar cA_ar ar)) (wr := (uw_HT ad_ht cA_ht (ad_rd 0) (ad_sp 0) (ad_mx 0) (ad_ar 0) (ad_tb 0) (ad_tc 0) ht)) (tysC := [(cA_ar 1, .int), (cA_ar 2, .int), (cA_ar 3, .int)]) (wu := fun (u : SSurroundings) => (uw_Surroundings ad_ar cA_ar u)) (wn := fun (u : SSurroundings) => (uw_HT ad_ht cA_ht (ad_rd 0) (ad_sp 0) (ad_mx 0) (ad_ar 0) (ad_tb 0) (ad_tc 0) ht ++ (uw_Surroundings ad_ar cA_ar u))) [2, 3, 4, 5] [0, 1] [0, 1, 2, 3, 4, 5] [1, 2, 3] hP hD hS hA hK rfl rfl (by decide +kernel) (by decide +kernel) (by decide +kernel) rfl (fun _ => rfl) (by decide +kernel) (fun hPc hKc hDc => (va_runV (As := [.int x1, .int x2]) (rest := []) ⟨hx, hb, hml, hown, hts⟩ (k_Surroundings_append l dC dI ad_ar cA_ar H.size ar x1 x2 u5 hu5) (cwV 2 hts (gV wd_662 wd_663 wd_664 wd_47 wd_665) rfl rfl rfl (by decide +kernel) ⟨Nat.le_of_ble_eq_true rfl, Nat.le_of_ble_eq_true rfl⟩) (cl_preV hPc hKc hDc hN (ci := 3) 0 rfl rfl) rfl rfl hl.1 rfl (lv_room (Nat.le_of_ble_eq_true rfl)) d_HT_building_44 ⟨Nat.le_of_ble_eq_true rfl, Nat.le_of_ble_eq_true rfl⟩)) (fun r u H locs hw hP hD hS => ?_)
      obtain ⟨hw1, hw2⟩ := hw
      have hw1 := hw1.symm
      have hw2 := hw2.symm
      subst hw1
      subst hw2
      have hP : va_P (dC, dI) vwCl (uw_HT ad_ht cA_ht (ad_rd 0) (ad_sp 0) (ad_mx 0) (ad_ar 0) (ad_tb 0) (ad_tc 0) ht ++ (uw_Surroundings ad_ar cA_ar u5.2)) H := hP
      have hD : va_D A (uw_HT ad_ht cA_ht (ad_rd 0) (ad_sp 0) (ad_mx 0) (ad_ar 0) (ad_tb 0) (ad_tc 0) ht ++ (uw_Surroundings ad_ar cA_ar u5.2)) := hD
      exact ret u5.1 u5.2 H locs ls 47 d_HT_building_47 (Option.some.inj hf).symm hP hD hS
    · have hf := hf_f hf hc4
      exact thr_28 ar H locs ls (Option.some.inj hf).symm hP hD hS hl.1
  · have hf := hf_f hf hc2
    exact thr_8 ar H locs ls (Option.some.inj hf).symm hP hD hS hl.1
noncomputable def f_HT_wind_50  (ht : SHT) (mx : SMixture) (ar : SSurroundings) (tb : STable) (y1 : Int32) (y2 : Int32) (y3 : Bool) : Option (Sum (Int32 × SSurroundings) (Nat × (SSurroundings))) :=
  (Option.bind (f_Mixture_distance mx tb ar.2.2.2.2.2.2.2) fun u7 =>
    (Option.bind (f_Mixture_distance mx tb y3) fun u8 =>
      (Option.bind (f_Surroundings_gather ar y1 y2 u8 u7) fun u9 =>
        (Option.bind (f_Surroundings_turn u9 y1 y2 y3) fun u10 =>
          (some (.inl (u10.2.2.2.2.1, u10)))
         )
       )
     )
   )
noncomputable def f_HT_wind (ht : SHT) (mx : SMixture) (ar : SSurroundings) (tb : STable) (x1 : Int32) (x2 : Int32) (x3 : Bool) : Option (Sum (Int32 × SSurroundings) (Nat × (SSurroundings))) :=
  (Option.bind (f_HT_isOutside x1 (-100 : Int32) (100 : Int32)) fun u1 =>
    (if (bI u1) = 0 then
      (Option.bind (f_HT_isOutside x2 (-100 : Int32) (100 : Int32)) fun u3 =>
        (if (bI u3) = 0 then
          (if x1 = 0 then
            (if x2 = 0 then
              (some (.inr (1, ar)))
             else
              (f_HT_wind_50 ht mx ar tb x1 x2 x3)
             )
           else
            (f_HT_wind_50 ht mx ar tb x1 x2 x3)
           )
         else
          (some (.inr (1, ar)))
         )
       )
     else
      (some (.inr (1, ar)))
     )
   )
set_option maxHeartbeats 4000000 in
set_option maxRecDepth 100000 in
theorem k_HT_wind (l : Launch) (dC : Nat → ClassId) (dI : Nat → Nat → Nat) (ad_ht : Nat → Nat) (cA_ht : Nat → ClassId) (ad_mx : Nat → Nat) (cA_mx : Nat → ClassId) (ad_ar : Nat → Nat) (cA_ar : Nat → ClassId) (ad_tb : Nat → Nat) (cA_tb : Nat → ClassId) (ad_rd : Nat → Nat) (cA_rd : Nat → ClassId) (ad_sp : Nat → Nat) (cA_sp : Nat → ClassId) (ad_tc : Nat → Nat) (cA_tc : Nat → ClassId) (sz : Nat) (ht : SHT) (mx : SMixture) (ar : SSurroundings) (tb : STable) (x1 : Int32) (x2 : Int32) (x3 : Bool) (res : Sum (Int32 × SSurroundings) (Nat × (SSurroundings))) (hf : f_HT_wind ht mx ar tb x1 x2 x3 = some res) (htr : l.stackTraces = false) : vx_Met l y_HT_wind w_HT_wind ({ frames := 6, cells := 1, slots := 6, locals := 96 }) (xPc (dC, dI) (uw_HT ad_ht cA_ht (ad_rd 0) (ad_sp 0) (ad_mx 0) (ad_ar 0) (ad_tb 0) (ad_tc 0) ht ++ (uw_Mixture ad_mx cA_mx mx ++ (uw_Surroundings ad_ar cA_ar ar ++ (uw_Table ad_tb cA_tb tb)))) [(cA_ht 1, .int), (cA_mx 1, .int), (cA_mx 2, .int), (cA_mx 3, .boolean), (cA_ar 1, .int), (cA_ar 2, .int), (cA_ar 3, .int), (cA_tb 1, .int), (cA_tb 2, .int), (cA_tb 3, .int), (cA_tb 4, .byte)] sz [.ref (ad_ht 0), .int x1, .int x2, .int (bI x3)]) (va_Qi (fun (r : Int32) (u : SSurroundings) => res = .inl (r, u)) (fun (u : SSurroundings) (t : State) => va_P (dC, dI) vwCl (uw_HT ad_ht cA_ht (ad_rd 0) (ad_sp 0) (ad_mx 0) (ad_ar 0) (ad_tb 0) (ad_tc 0) ht ++ (uw_Mixture ad_mx cA_mx mx ++ (uw_Surroundings ad_ar cA_ar u ++ (uw_Table ad_tb cA_tb tb)))) t.heap ∧ va_K (dC, dI) vwCl [(cA_ht 1, .int), (cA_mx 1, .int), (cA_mx 2, .int), (cA_mx 3, .boolean), (cA_ar 1, .int), (cA_ar 2, .int), (cA_ar 3, .int), (cA_tb 1, .int), (cA_tb 2, .int), (cA_tb 3, .int), (cA_tb 4, .byte)] t ∧ va_D (va_A (uw_HT ad_ht cA_ht (ad_rd 0) (ad_sp 0) (ad_mx 0) (ad_ar 0) (ad_tb 0) (ad_tc 0) ht ++ (uw_Mixture ad_mx cA_mx mx ++ (uw_Surroundings ad_ar cA_ar ar ++ (uw_Table ad_tb cA_tb tb)))) sz) (uw_HT ad_ht cA_ht (ad_rd 0) (ad_sp 0) (ad_mx 0) (ad_ar 0) (ad_tb 0) (ad_tc 0) ht ++ (uw_Mixture ad_mx cA_mx mx ++ (uw_Surroundings ad_ar cA_ar u ++ (uw_Table ad_tb cA_tb tb))))) (va_A (uw_HT ad_ht cA_ht (ad_rd 0) (ad_sp 0) (ad_mx 0) (ad_ar 0) (ad_tb 0) (ad_tc 0) ht ++ (uw_Mixture ad_mx cA_mx mx ++ (uw_Surroundings ad_ar cA_ar ar ++ (uw_Table ad_tb cA_tb tb)))) sz)) (vx_X (fun (u : Nat × (SSurroundings)) => res = .inr u) (fun (E : String) (u : Nat × (SSurroundings)) (t : State) => E = xn u.1 ∧ va_P (dC, dI) vwCl (uw_HT ad_ht cA_ht (ad_rd 0) (ad_sp 0) (ad_mx 0) (ad_ar 0) (ad_tb 0) (ad_tc 0) ht ++ (uw_Mixture ad_mx cA_mx mx ++ (uw_Surroundings ad_ar cA_ar u.2 ++ (uw_Table ad_tb cA_tb tb)))) t.heap ∧ va_K (dC, dI) vwCl [(cA_ht 1, .int), (cA_mx 1, .int), (cA_mx 2, .int), (cA_mx 3, .boolean), (cA_ar 1, .int), (cA_ar 2, .int), (cA_ar 3, .int), (cA_tb 1, .int), (cA_tb 2, .int), (cA_tb 3, .int), (cA_tb 4, .byte)] t ∧ va_D (va_A (uw_HT ad_ht cA_ht (ad_rd 0) (ad_sp 0) (ad_mx 0) (ad_ar 0) (ad_tb 0) (ad_tc 0) ht ++ (uw_Mixture ad_mx cA_mx mx ++ (uw_Surroundings ad_ar cA_ar ar ++ (uw_Table ad_tb cA_tb tb)))) sz) (uw_HT ad_ht cA_ht (ad_rd 0) (ad_sp 0) (ad_mx 0) (ad_ar 0) (ad_tb 0) (ad_tc 0) ht ++ (uw_Mixture ad_mx cA_mx mx ++ (uw_Surroundings ad_ar cA_ar u.2 ++ (uw_Table ad_tb cA_tb tb))))) (va_A (uw_HT ad_ht cA_ht (ad_rd 0) (ad_sp 0) (ad_mx 0) (ad_ar 0) (ad_tb 0) (ad_tc 0) ht ++ (uw_Mixture ad_mx cA_mx mx ++ (uw_Surroundings ad_ar cA_ar ar ++ (uw_Table ad_tb cA_tb tb)))) sz)) 1 6 (va_A (uw_HT ad_ht cA_ht (ad_rd 0) (ad_sp 0) (ad_mx 0) (ad_ar 0) (ad_tb 0) (ad_tc 0) ht ++ (uw_Mixture ad_mx cA_mx mx ++ (uw_Surroundings ad_ar cA_ar ar ++ (uw_Table ad_tb cA_tb tb)))) sz) := by
  refine vx_ofW (cc := b_HT_wind) (maxL := 6) (ret := (some .int)) (by decide) rfl ?_
  intro p e s m args below meth c s₁ B hml htab hv
  obtain ⟨rfl, hsz, hP, hK, hD0, hN, hX⟩ := hv
  have hx := B.exec
  have hb := B.bytes
  have hr := B.returns
  have hts := atoms_spec (ws := w_HT_wind) B.pre
  have hown : s.vm.findClass "HazardTables" = some m.cls := findClass_of_methodNamed B.named
  have hlocks := B.notSynchronized
  subst hsz
  have hD := hD0.self (sz := s.heap.size)
  generalize hAe : va_A (uw_HT ad_ht cA_ht (ad_rd 0) (ad_sp 0) (ad_mx 0) (ad_ar 0) (ad_tb 0) (ad_tc 0) ht ++ (uw_Mixture ad_mx cA_mx mx ++ (uw_Surroundings ad_ar cA_ar ar ++ (uw_Table ad_tb cA_tb tb)))) s.heap.size = A at hD hX ⊢
  have hA : ∀ q : Nat, s.heap.size ≤ q → A q := fun q h => by rw [← hAe]; exact Or.inr h
  have hS : va_S A s.heap s.heap [] := va_S.rf
  have hP : va_P (dC, dI) vwCl (uw_HT ad_ht cA_ht (ad_rd 0) (ad_sp 0) (ad_mx 0) (ad_ar 0) (ad_tb 0) (ad_tc 0) ht ++ (uw_Mixture ad_mx cA_mx mx ++ (uw_Surroundings ad_ar cA_ar ar ++ (uw_Table ad_tb cA_tb tb)))) s.heap := hP
  have fl_189 := (hts _ (List.mem_cons_of_mem _ wd_155))
  have fl_201 := (hts _ (List.mem_cons_of_mem _ wd_151))
  have fl_26 := (hts _ (List.mem_cons_of_mem _ wd_206))
  have fl_33 := (hts _ (List.mem_cons_of_mem _ wd_207))
  have fl_44 := (hts _ (List.mem_cons_of_mem _ wd_209))
  have hin_HT : ∀ w ∈ u_ws "HazardTables" F_HT 7, w ∈ w_HT_wind := fun w h => List.mem_cons_of_mem _ (hinA_HT w h)
  have hin_Surroundings : ∀ w ∈ u_ws "HazardTables$Surroundings" F_Surroundings 8, w ∈ w_HT_wind := fun w h => List.mem_cons_of_mem _ (hinA_Surroundings w h)
  have thr_22 : ∀ (u : SSurroundings) (H : Heap) (locs : List Loc) (ls : Array Slot), res = .inr (1, u) → va_P (dC, dI) vwCl (uw_HT ad_ht cA_ht (ad_rd 0) (ad_sp 0) (ad_mx 0) (ad_ar 0) (ad_tb 0) (ad_tc 0) ht ++ (uw_Mixture ad_mx cA_mx mx ++ (uw_Surroundings ad_ar cA_ar u ++ (uw_Table ad_tb cA_tb tb)))) H → va_D A (uw_HT ad_ht cA_ht (ad_rd 0) (ad_sp 0) (ad_mx 0) (ad_ar 0) (ad_tb 0) (ad_tc 0) ht ++ (uw_Mixture ad_mx cA_mx mx ++ (uw_Surroundings ad_ar cA_ar u ++ (uw_Table ad_tb cA_tb tb)))) → va_S A s.heap H locs → ls.size = 6 → W p l e (headSpec w_HT_wind ({ frames := 6, cells := 1, slots := 6, locals := 96 })).room s m ([.ref (ad_ht 0), .int x1, .int x2, .int (bI x3)] : List Value).toArray below meth c H locs 0 0 (vx_MQ below (va_Qi (fun (r : Int32) (u : SSurroundings) => res = .inl (r, u)) (fun (u : SSurroundings) (t : State) => va_P (dC, dI) vwCl (uw_HT ad_ht cA_ht (ad_rd 0) (ad_sp 0) (ad_mx 0) (ad_ar 0) (ad_tb 0) (ad_tc 0) ht ++ (uw_Mixture ad_mx cA_mx mx ++ (uw_Surroundings ad_ar cA_ar u ++ (uw_Table ad_tb cA_tb tb)))) t.heap ∧ va_K (dC, dI) vwCl [(cA_ht 1, .int), (cA_mx 1, .int), (cA_mx 2, .int), (cA_mx 3, .boolean), (cA_ar 1, .int), (cA_ar 2, .int), (cA_ar 3, .int), (cA_tb 1, .int), (cA_tb 2, .int), (cA_tb 3, .int), (cA_tb 4, .byte)] t ∧ va_D A (uw_HT ad_ht cA_ht (ad_rd 0) (ad_sp 0) (ad_mx 0) (ad_ar 0) (ad_tb 0) (ad_tc 0) ht ++ (uw_Mixture ad_mx cA_mx mx ++ (uw_Surroundings ad_ar cA_ar u ++ (uw_Table ad_tb cA_tb tb))))) A) (vx_X (fun (u : Nat × (SSurroundings)) => res = .inr u) (fun (E : String) (u : Nat × (SSurroundings)) (t : State) => E = xn u.1 ∧ va_P (dC, dI) vwCl (uw_HT ad_ht cA_ht (ad_rd 0) (ad_sp 0) (ad_mx 0) (ad_ar 0) (ad_tb 0) (ad_tc 0) ht ++ (uw_Mixture ad_mx cA_mx mx ++ (uw_Surroundings ad_ar cA_ar u.2 ++ (uw_Table ad_tb cA_tb tb)))) t.heap ∧ va_K (dC, dI) vwCl [(cA_ht 1, .int), (cA_mx 1, .int), (cA_mx 2, .int), (cA_mx 3, .boolean), (cA_ar 1, .int), (cA_ar 2, .int), (cA_ar 3, .int), (cA_tb 1, .int), (cA_tb 2, .int), (cA_tb 3, .int), (cA_tb 4, .byte)] t ∧ va_D A (uw_HT ad_ht cA_ht (ad_rd 0) (ad_sp 0) (ad_mx 0) (ad_ar 0) (ad_tb 0) (ad_tc 0) ht ++ (uw_Mixture ad_mx cA_mx mx ++ (uw_Surroundings ad_ar cA_ar u.2 ++ (uw_Table ad_tb cA_tb tb))))) A) ([.ref (ad_ht 0), .int x1, .int x2, .int (bI x3)] : List Value).toArray s 1 6 A) (F0 m 22 ls []) := by
    intro u H locs ls hres hP hD hS hsz
    obtain ⟨sa, hstr⟩ := hX.2.2.1 (185, "the wind is out of range") (by decide)
    refine vx_throwS (cls := "java/lang/IndexOutOfBoundsException") (text := "the wind is out of range") (names := xch) (ik := 51) (is := 185) (ic := 55) (sa := sa) hx hb htr hown (by decide) (by decide) (hts _ (List.mem_cons_of_mem _ wd_247)) (hts _ (List.mem_cons_of_mem _ wd_53)) hstr (x_hat_55 hts hX) x_good_55 hX.1 hX.2.1 hS (hsz.trans hml.symm) d_HT_wind_22 d_HT_wind_25 d_HT_wind_26 d_HT_wind_28 d_HT_wind_31 (fun x hx9 => (htab x hx9).elim) (by decide) (by decide) (by decide) (by decide) hlocks (fun t hvm hz hk => ?_) hS.2.2 (by decide) (by decide)
    obtain ⟨hP9, hF9⟩ := cl_thrown hP hS hz hk
    exact ⟨(1, u), hres, ⟨rfl, hP9, va_K.moved hvm hK, hD⟩, hF9⟩
  have thr_40 : ∀ (u : SSurroundings) (H : Heap) (locs : List Loc) (ls : Array Slot), res = .inr (1, u) → va_P (dC, dI) vwCl (uw_HT ad_ht cA_ht (ad_rd 0) (ad_sp 0) (ad_mx 0) (ad_ar 0) (ad_tb 0) (ad_tc 0) ht ++ (uw_Mixture ad_mx cA_mx mx ++ (uw_Surroundings ad_ar cA_ar u ++ (uw_Table ad_tb cA_tb tb)))) H → va_D A (uw_HT ad_ht cA_ht (ad_rd 0) (ad_sp 0) (ad_mx 0) (ad_ar 0) (ad_tb 0) (ad_tc 0) ht ++ (uw_Mixture ad_mx cA_mx mx ++ (uw_Surroundings ad_ar cA_ar u ++ (uw_Table ad_tb cA_tb tb)))) → va_S A s.heap H locs → ls.size = 6 → W p l e (headSpec w_HT_wind ({ frames := 6, cells := 1, slots := 6, locals := 96 })).room s m ([.ref (ad_ht 0), .int x1, .int x2, .int (bI x3)] : List Value).toArray below meth c H locs 0 0 (vx_MQ below (va_Qi (fun (r : Int32) (u : SSurroundings) => res = .inl (r, u)) (fun (u : SSurroundings) (t : State) => va_P (dC, dI) vwCl (uw_HT ad_ht cA_ht (ad_rd 0) (ad_sp 0) (ad_mx 0) (ad_ar 0) (ad_tb 0) (ad_tc 0) ht ++ (uw_Mixture ad_mx cA_mx mx ++ (uw_Surroundings ad_ar cA_ar u ++ (uw_Table ad_tb cA_tb tb)))) t.heap ∧ va_K (dC, dI) vwCl [(cA_ht 1, .int), (cA_mx 1, .int), (cA_mx 2, .int), (cA_mx 3, .boolean), (cA_ar 1, .int), (cA_ar 2, .int), (cA_ar 3, .int), (cA_tb 1, .int), (cA_tb 2, .int), (cA_tb 3, .int), (cA_tb 4, .byte)] t ∧ va_D A (uw_HT ad_ht cA_ht (ad_rd 0) (ad_sp 0) (ad_mx 0) (ad_ar 0) (ad_tb 0) (ad_tc 0) ht ++ (uw_Mixture ad_mx cA_mx mx ++ (uw_Surroundings ad_ar cA_ar u ++ (uw_Table ad_tb cA_tb tb))))) A) (vx_X (fun (u : Nat × (SSurroundings)) => res = .inr u) (fun (E : String) (u : Nat × (SSurroundings)) (t : State) => E = xn u.1 ∧ va_P (dC, dI) vwCl (uw_HT ad_ht cA_ht (ad_rd 0) (ad_sp 0) (ad_mx 0) (ad_ar 0) (ad_tb 0) (ad_tc 0) ht ++ (uw_Mixture ad_mx cA_mx mx ++ (uw_Surroundings ad_ar cA_ar u.2 ++ (uw_Table ad_tb cA_tb tb)))) t.heap ∧ va_K (dC, dI) vwCl [(cA_ht 1, .int), (cA_mx 1, .int), (cA_mx 2, .int), (cA_mx 3, .boolean), (cA_ar 1, .int), (cA_ar 2, .int), (cA_ar 3, .int), (cA_tb 1, .int), (cA_tb 2, .int), (cA_tb 3, .int), (cA_tb 4, .byte)] t ∧ va_D A (uw_HT ad_ht cA_ht (ad_rd 0) (ad_sp 0) (ad_mx 0) (ad_ar 0) (ad_tb 0) (ad_tc 0) ht ++ (uw_Mixture ad_mx cA_mx mx ++ (uw_Surroundings ad_ar cA_ar u.2 ++ (uw_Table ad_tb cA_tb tb))))) A) ([.ref (ad_ht 0), .int x1, .int x2, .int (bI x3)] : List Value).toArray s 1 6 A) (F0 m 40 ls []) := by
    intro u H locs ls hres hP hD hS hsz
    obtain ⟨sa, hstr⟩ := hX.2.2.1 (187, "a wind blows some way") (by decide)
    refine vx_throwS (cls := "java/lang/IndexOutOfBoundsException") (text := "a wind blows some way") (names := xch) (ik := 51) (is := 187) (ic := 55) (sa := sa) hx hb htr hown (by decide) (by decide) (hts _ (List.mem_cons_of_mem _ wd_247)) (hts _ (List.mem_cons_of_mem _ wd_53)) hstr (x_hat_55 hts hX) x_good_55 hX.1 hX.2.1 hS (hsz.trans hml.symm) d_HT_wind_40 d_HT_wind_43 d_HT_wind_44 d_HT_wind_46 d_HT_wind_49 (fun x hx9 => (htab x hx9).elim) (by decide) (by decide) (by decide) (by decide) hlocks (fun t hvm hz hk => ?_) hS.2.2 (by decide) (by decide)
    obtain ⟨hP9, hF9⟩ := cl_thrown hP hS hz hk
    exact ⟨(1, u), hres, ⟨rfl, hP9, va_K.moved hvm hK, hD⟩, hF9⟩
  have ret : ∀ (v : Int32) (u : SSurroundings) (H : Heap) (locs : List Loc) (ls : Array Slot) (pc : Nat), decode b_HT_wind pc = .ok (.ireturn, 1) → res = .inl (v, u) → va_P (dC, dI) vwCl (uw_HT ad_ht cA_ht (ad_rd 0) (ad_sp 0) (ad_mx 0) (ad_ar 0) (ad_tb 0) (ad_tc 0) ht ++ (uw_Mixture ad_mx cA_mx mx ++ (uw_Surroundings ad_ar cA_ar u ++ (uw_Table ad_tb cA_tb tb)))) H → va_D A (uw_HT ad_ht cA_ht (ad_rd 0) (ad_sp 0) (ad_mx 0) (ad_ar 0) (ad_tb 0) (ad_tc 0) ht ++ (uw_Mixture ad_mx cA_mx mx ++ (uw_Surroundings ad_ar cA_ar u ++ (uw_Table ad_tb cA_tb tb)))) → va_S A s.heap H locs → W p l e (headSpec w_HT_wind ({ frames := 6, cells := 1, slots := 6, locals := 96 })).room s m ([.ref (ad_ht 0), .int x1, .int x2, .int (bI x3)] : List Value).toArray below meth c H locs 0 0 (vx_MQ below (va_Qi (fun (r : Int32) (u : SSurroundings) => res = .inl (r, u)) (fun (u : SSurroundings) (t : State) => va_P (dC, dI) vwCl (uw_HT ad_ht cA_ht (ad_rd 0) (ad_sp 0) (ad_mx 0) (ad_ar 0) (ad_tb 0) (ad_tc 0) ht ++ (uw_Mixture ad_mx cA_mx mx ++ (uw_Surroundings ad_ar cA_ar u ++ (uw_Table ad_tb cA_tb tb)))) t.heap ∧ va_K (dC, dI) vwCl [(cA_ht 1, .int), (cA_mx 1, .int), (cA_mx 2, .int), (cA_mx 3, .boolean), (cA_ar 1, .int), (cA_ar 2, .int), (cA_ar 3, .int), (cA_tb 1, .int), (cA_tb 2, .int), (cA_tb 3, .int), (cA_tb 4, .byte)] t ∧ va_D A (uw_HT ad_ht cA_ht (ad_rd 0) (ad_sp 0) (ad_mx 0) (ad_ar 0) (ad_tb 0) (ad_tc 0) ht ++ (uw_Mixture ad_mx cA_mx mx ++ (uw_Surroundings ad_ar cA_ar u ++ (uw_Table ad_tb cA_tb tb))))) A) (vx_X (fun (u : Nat × (SSurroundings)) => res = .inr u) (fun (E : String) (u : Nat × (SSurroundings)) (t : State) => E = xn u.1 ∧ va_P (dC, dI) vwCl (uw_HT ad_ht cA_ht (ad_rd 0) (ad_sp 0) (ad_mx 0) (ad_ar 0) (ad_tb 0) (ad_tc 0) ht ++ (uw_Mixture ad_mx cA_mx mx ++ (uw_Surroundings ad_ar cA_ar u.2 ++ (uw_Table ad_tb cA_tb tb)))) t.heap ∧ va_K (dC, dI) vwCl [(cA_ht 1, .int), (cA_mx 1, .int), (cA_mx 2, .int), (cA_mx 3, .boolean), (cA_ar 1, .int), (cA_ar 2, .int), (cA_ar 3, .int), (cA_tb 1, .int), (cA_tb 2, .int), (cA_tb 3, .int), (cA_tb 4, .byte)] t ∧ va_D A (uw_HT ad_ht cA_ht (ad_rd 0) (ad_sp 0) (ad_mx 0) (ad_ar 0) (ad_tb 0) (ad_tc 0) ht ++ (uw_Mixture ad_mx cA_mx mx ++ (uw_Surroundings ad_ar cA_ar u.2 ++ (uw_Table ad_tb cA_tb tb))))) A) ([.ref (ad_ht 0), .int x1, .int x2, .int (bI x3)] : List Value).toArray s 1 6 A) (F0 m pc ls [.int v]) := fun v u H locs ls pc hd hp hP hD hS => W.widen (k := 1) (n := 6) (Nat.zero_le _) (Nat.zero_le _) (vx_ret (W.iret (v := v) hx hb hr (fun t ht hW => ⟨⟨v, u, rfl, hp, by rw [ht]; exact hP, va_K.moved hW.alike hK, hD⟩, hS.F ht⟩) hS.2.2 hd))
  generalize (vx_MQ below (va_Qi (fun (r : Int32) (u : SSurroundings) => res = .inl (r, u)) (fun (u : SSurroundings) (t : State) => va_P (dC, dI) vwCl (uw_HT ad_ht cA_ht (ad_rd 0) (ad_sp 0) (ad_mx 0) (ad_ar 0) (ad_tb 0) (ad_tc 0) ht ++ (uw_Mixture ad_mx cA_mx mx ++ (uw_Surroundings ad_ar cA_ar u ++ (uw_Table ad_tb cA_tb tb)))) t.heap ∧ va_K (dC, dI) vwCl [(cA_ht 1, .int), (cA_mx 1, .int), (cA_mx 2, .int), (cA_mx 3, .boolean), (cA_ar 1, .int), (cA_ar 2, .int), (cA_ar 3, .int), (cA_tb 1, .int), (cA_tb 2, .int), (cA_tb 3, .int), (cA_tb 4, .byte)] t ∧ va_D A (uw_HT ad_ht cA_ht (ad_rd 0) (ad_sp 0) (ad_mx 0) (ad_ar 0) (ad_tb 0) (ad_tc 0) ht ++ (uw_Mixture ad_mx cA_mx mx ++ (uw_Surroundings ad_ar cA_ar u ++ (uw_Table ad_tb cA_tb tb))))) A) (vx_X (fun (u : Nat × (SSurroundings)) => res = .inr u) (fun (E : String) (u : Nat × (SSurroundings)) (t : State) => E = xn u.1 ∧ va_P (dC, dI) vwCl (uw_HT ad_ht cA_ht (ad_rd 0) (ad_sp 0) (ad_mx 0) (ad_ar 0) (ad_tb 0) (ad_tc 0) ht ++ (uw_Mixture ad_mx cA_mx mx ++ (uw_Surroundings ad_ar cA_ar u.2 ++ (uw_Table ad_tb cA_tb tb)))) t.heap ∧ va_K (dC, dI) vwCl [(cA_ht 1, .int), (cA_mx 1, .int), (cA_mx 2, .int), (cA_mx 3, .boolean), (cA_ar 1, .int), (cA_ar 2, .int), (cA_ar 3, .int), (cA_tb 1, .int), (cA_tb 2, .int), (cA_tb 3, .int), (cA_tb 4, .byte)] t ∧ va_D A (uw_HT ad_ht cA_ht (ad_rd 0) (ad_sp 0) (ad_mx 0) (ad_ar 0) (ad_tb 0) (ad_tc 0) ht ++ (uw_Mixture ad_mx cA_mx mx ++ (uw_Surroundings ad_ar cA_ar u.2 ++ (uw_Table ad_tb cA_tb tb))))) A) ([.ref (ad_ht 0), .int x1, .int x2, .int (bI x3)] : List Value).toArray s 1 6 A) = Q at ret thr_22 thr_40 ⊢
  have w_50 : ∀ (ar : SSurroundings) (y1 : Int32) (y2 : Int32) (y3 : Bool) (H : Heap) (locs : List Loc) (ls : Array Slot), f_HT_wind_50 ht mx ar tb y1 y2 y3 = some res → va_P (dC, dI) vwCl (uw_HT ad_ht cA_ht (ad_rd 0) (ad_sp 0) (ad_mx 0) (ad_ar 0) (ad_tb 0) (ad_tc 0) ht ++ (uw_Mixture ad_mx cA_mx mx ++ (uw_Surroundings ad_ar cA_ar ar ++ (uw_Table ad_tb cA_tb tb)))) H → va_D A (uw_HT ad_ht cA_ht (ad_rd 0) (ad_sp 0) (ad_mx 0) (ad_ar 0) (ad_tb 0) (ad_tc 0) ht ++ (uw_Mixture ad_mx cA_mx mx ++ (uw_Surroundings ad_ar cA_ar ar ++ (uw_Table ad_tb cA_tb tb)))) → va_S A s.heap H locs → lv_has ls 6 [(0, .ref (ad_ht 0)), (1, .int y1), (2, .int y2), (3, .int (bI y3))] → W p l e (headSpec w_HT_wind ({ frames := 6, cells := 1, slots := 6, locals := 96 })).room s m ([.ref (ad_ht 0), .int x1, .int x2, .int (bI x3)] : List Value).toArray below meth c H locs 0 0 Q (F0 m 50 ls []) := by
    intro ar y1 y2 y3 H locs ls hf hP hD hS hl
    rw [f_HT_wind_50] at hf
    refine lv_aload_n hx hb d_HT_wind_50 rfl (lv_at hl 0 rfl) ?_
    refine va_get (D := (dC, dI)) (ci := 5) (v := .ref (ad_mx 0)) (C := "HazardTables") (T := F_HT) (N := 7) hx hb hts hin_HT hown hK hP 0 rfl rfl 2 (by decide) fl_26 (fun _ h9 => h9) rfl d_HT_wind_51 ?_
    refine lv_aload_n hx hb d_HT_wind_54 rfl (lv_at hl 0 rfl) ?_
    refine va_get (D := (dC, dI)) (ci := 5) (v := .ref (ad_tb 0)) (C := "HazardTables") (T := F_HT) (N := 7) hx hb hts hin_HT hown hK hP 0 rfl rfl 5 (by decide) fl_44 (fun _ h9 => h9) rfl d_HT_wind_55 ?_
    refine lv_aload_n hx hb d_HT_wind_58 rfl (lv_at hl 0 rfl) ?_
    refine va_get (D := (dC, dI)) (ci := 5) (v := .ref (ad_ar 0)) (C := "HazardTables") (T := F_HT) (N := 7) hx hb hts hin_HT hown hK hP 0 rfl rfl 3 (by decide) fl_33 (fun _ h9 => h9) rfl d_HT_wind_59 ?_
    refine va_get (D := (dC, dI)) (ci := 3) (v := .int (bI ar.2.2.2.2.2.2.2)) (C := "HazardTables$Surroundings") (T := F_Surroundings) (N := 8) hx hb hts hin_Surroundings hown hK hP 6 rfl rfl 7 (by decide) fl_189 (fun _ h9 => h9) rfl d_HT_wind_62 ?_
    obtain ⟨u7, hu7, hf⟩ := Option.bind_eq_some_iff.mp hf
    refine cl_i (wc := (uw_Mixture ad_mx cA_mx mx ++ (uw_Table ad_tb cA_tb tb))) (wr := (uw_HT ad_ht cA_ht (ad_rd 0) (ad_sp 0) (ad_mx 0) (ad_ar 0) (ad_tb 0) (ad_tc 0) ht ++ (uw_Surroundings ad_ar cA_ar ar))) (tysC := [(cA_mx 1, .int), (cA_mx 2, .int), (cA_mx 3, .boolean), (cA_tb 1, .int), (cA_tb 2, .int), (cA_tb 3, .int), (cA_tb 4, .byte)]) (wu := fun (u : Unit) => (uw_Mixture ad_mx cA_mx mx ++ (uw_Table ad_tb cA_tb tb))) (wn := fun (u : Unit) => (uw_HT ad_ht cA_ht (ad_rd 0) (ad_sp 0) (ad_mx 0) (ad_ar 0) (ad_tb 0) (ad_tc 0) ht ++ (uw_Mixture ad_mx cA_mx mx ++ (uw_Surroundings ad_ar cA_ar ar ++ (uw_Table ad_tb cA_tb tb))))) [2, 3, 4, 5, 10, 11, 12, 13, 14] [0, 1, 6, 7, 8, 9] [0, 1, 6, 7, 8, 9, 2, 3, 4, 5, 10, 11, 12, 13, 14] [1, 2, 3, 7, 8, 9, 10] hP hD hS hA hK rfl rfl (by decide +kernel) (by decide +kernel) (by decide +kernel) rfl (fun _ => rfl) (by decide +kernel) (fun hPc hKc hDc => (va_runV (As := [.ref (ad_tb 0), .int (bI ar.2.2.2.2.2.2.2)]) (rest := []) ⟨hx, hb, hml, hown, hts⟩ (k_Mixture_distance l dC dI ad_mx cA_mx ad_tb cA_tb H.size mx tb ar.2.2.2.2.2.2.2 u7 hu7) (cwV 2 hts (gV wd_626 wd_627 wd_628 wd_46 wd_629) rfl rfl rfl (by decide +kernel) ⟨Nat.le_of_ble_eq_true rfl, Nat.le_of_ble_eq_true rfl⟩) (cl_preV hPc hKc hDc hN (ci := 0) 0 rfl rfl) rfl rfl hl.1 rfl (lv_room (Nat.le_of_ble_eq_true rfl)) d_HT_wind_65 ⟨Nat.le_of_ble_eq_true rfl, Nat.le_of_ble_eq_true rfl⟩)) (fun r u H locs hw hP hD hS => ?_)
    have hw := hw.symm
    subst hw
    have hP : va_P (dC, dI) vwCl (uw_HT ad_ht cA_ht (ad_rd 0) (ad_sp 0) (ad_mx 0) (ad_ar 0) (ad_tb 0) (ad_tc 0) ht ++ (uw_Mixture ad_mx cA_mx mx ++ (uw_Surroundings ad_ar cA_ar ar ++ (uw_Table ad_tb cA_tb tb)))) H := hP
    have hD : va_D A (uw_HT ad_ht cA_ht (ad_rd 0) (ad_sp 0) (ad_mx 0) (ad_ar 0) (ad_tb 0) (ad_tc 0) ht ++ (uw_Mixture ad_mx cA_mx mx ++ (uw_Surroundings ad_ar cA_ar ar ++ (uw_Table ad_tb cA_tb tb)))) := hD
    refine lv_istore (lv' := [(4, .int u7), (0, .ref (ad_ht 0)), (1, .int y1), (2, .int y2), (3, .int (bI y3))]) hx hb d_HT_wind_68 hl (by decide) rfl (fun ls hl => ?_)
    refine lv_aload_n hx hb d_HT_wind_70 rfl (lv_at hl 1 rfl) ?_
    refine va_get (D := (dC, dI)) (ci := 5) (v := .ref (ad_mx 0)) (C := "HazardTables") (T := F_HT) (N := 7) hx hb hts hin_HT hown hK hP 0 rfl rfl 2 (by decide) fl_26 (fun _ h9 => h9) rfl d_HT_wind_71 ?_
    refine lv_aload_n hx hb d_HT_wind_74 rfl (lv_at hl 1 rfl) ?_
    refine va_get (D := (dC, dI)) (ci := 5) (v := .ref (ad_tb 0)) (C := "HazardTables") (T := F_HT) (N := 7) hx hb hts hin_HT hown hK hP 0 rfl rfl 5 (by decide) fl_44 (fun _ h9 => h9) rfl d_HT_wind_75 ?_
    refine lv_iload_n hx hb d_HT_wind_78 rfl (lv_at hl 4 rfl) ?_
    obtain ⟨u8, hu8, hf⟩ := Option.bind_eq_some_iff.mp hf
    refine cl_i (wc := (uw_Mixture ad_mx cA_mx mx ++ (uw_Table ad_tb cA_tb tb))) (wr := (uw_HT ad_ht cA_ht (ad_rd 0) (ad_sp 0) (ad_mx 0) (ad_ar 0) (ad_tb 0) (ad_tc 0) ht ++ (uw_Surroundings ad_ar cA_ar ar))) (tysC := [(cA_mx 1, .int), (cA_mx 2, .int), (cA_mx 3, .boolean), (cA_tb 1, .int), (cA_tb 2, .int), (cA_tb 3, .int), (cA_tb 4, .byte)]) (wu := fun (u : Unit) => (uw_Mixture ad_mx cA_mx mx ++ (uw_Table ad_tb cA_tb tb))) (wn := fun (u : Unit) => (uw_HT ad_ht cA_ht (ad_rd 0) (ad_sp 0) (ad_mx 0) (ad_ar 0) (ad_tb 0) (ad_tc 0) ht ++ (uw_Mixture ad_mx cA_mx mx ++ (uw_Surroundings ad_ar cA_ar ar ++ (uw_Table ad_tb cA_tb tb))))) [2, 3, 4, 5, 10, 11, 12, 13, 14] [0, 1, 6, 7, 8, 9] [0, 1, 6, 7, 8, 9, 2, 3, 4, 5, 10, 11, 12, 13, 14] [1, 2, 3, 7, 8, 9, 10] hP hD hS hA hK rfl rfl (by decide +kernel) (by decide +kernel) (by decide +kernel) rfl (fun _ => rfl) (by decide +kernel) (fun hPc hKc hDc => (va_runV (As := [.ref (ad_tb 0), .int (bI y3)]) (rest := []) ⟨hx, hb, hml, hown, hts⟩ (k_Mixture_distance l dC dI ad_mx cA_mx ad_tb cA_tb H.size mx tb y3 u8 hu8) (cwV 2 hts (gV wd_626 wd_627 wd_628 wd_46 wd_629) rfl rfl rfl (by decide +kernel) ⟨Nat.le_of_ble_eq_true rfl, Nat.le_of_ble_eq_true rfl⟩) (cl_preV hPc hKc hDc hN (ci := 0) 0 rfl rfl) rfl rfl hl.1 rfl (lv_room (Nat.le_of_ble_eq_true rfl)) d_HT_wind_79 ⟨Nat.le_of_ble_eq_true rfl, Nat.le_of_ble_eq_true rfl⟩)) (fun r u H locs hw hP hD hS => ?_)
    have hw := hw.symm
    subst hw
    have hP : va_P (dC, dI) vwCl (uw_HT ad_ht cA_ht (ad_rd 0) (ad_sp 0) (ad_mx 0) (ad_ar 0) (ad_tb 0) (ad_tc 0) ht ++ (uw_Mixture ad_mx cA_mx mx ++ (uw_Surroundings ad_ar cA_ar ar ++ (uw_Table ad_tb cA_tb tb)))) H := hP
    have hD : va_D A (uw_HT ad_ht cA_ht (ad_rd 0) (ad_sp 0) (ad_mx 0) (ad_ar 0) (ad_tb 0) (ad_tc 0) ht ++ (uw_Mixture ad_mx cA_mx mx ++ (uw_Surroundings ad_ar cA_ar ar ++ (uw_Table ad_tb cA_tb tb)))) := hD
    refine lv_istore (lv' := [(5, .int u8), (4, .int u7), (0, .ref (ad_ht 0)), (1, .int y1), (2, .int y2), (3, .int (bI y3))]) hx hb d_HT_wind_82 hl (by decide) rfl (fun ls hl => ?_)
    refine lv_aload_n hx hb d_HT_wind_84 rfl (lv_at hl 2 rfl) ?_
    refine va_get (D := (dC, dI)) (ci := 5) (v := .ref (ad_ar 0)) (C := "HazardTables") (T := F_HT) (N := 7) hx hb hts hin_HT hown hK hP 0 rfl rfl 3 (by decide) fl_33 (fun _ h9 => h9) rfl d_HT_wind_85 ?_
    refine lv_iload_n hx hb d_HT_wind_88 rfl (lv_at hl 3 rfl) ?_
    refine lv_iload_n hx hb d_HT_wind_89 rfl (lv_at hl 4 rfl) ?_
    refine lv_iload hx hb d_HT_wind_90 (lv_at hl 0 rfl) ?_
    refine lv_iload hx hb d_HT_wind_92 (lv_at hl 1 rfl) ?_
    obtain ⟨u9, hu9, hf⟩ := Option.bind_eq_some_iff.mp hf
    refine cl_v (wc := (uw_Surroundings ad_ar cA_ar ar)) (wr := (uw_HT ad_ht cA_ht (ad_rd 0) (ad_sp 0) (ad_mx 0) (ad_ar 0) (ad_tb 0) (ad_tc 0) ht ++ (uw_Mixture ad_mx cA_mx mx ++ (uw_Table ad_tb cA_tb tb)))) (tysC := [(cA_ar 1, .int), (cA_ar 2, .int), (cA_ar 3, .int)]) (wu := fun (u : SSurroundings) => (uw_Surroundings ad_ar cA_ar u)) (wn := fun (u : SSurroundings) => (uw_HT ad_ht cA_ht (ad_rd 0) (ad_sp 0) (ad_mx 0) (ad_ar 0) (ad_tb 0) (ad_tc 0) ht ++ (uw_Mixture ad_mx cA_mx mx ++ (uw_Surroundings ad_ar cA_ar u ++ (uw_Table ad_tb cA_tb tb))))) [6, 7, 8, 9] [0, 1, 2, 3, 4, 5, 10, 11, 12, 13, 14] [0, 1, 2, 3, 4, 5, 11, 12, 13, 14, 6, 7, 8, 9, 10] [4, 5, 6] hP hD hS hA hK rfl rfl (by decide +kernel) (by decide +kernel) (by decide +kernel) rfl (fun _ => rfl) (by decide +kernel) (fun hPc hKc hDc => (va_runV (As := [.int y1, .int y2, .int u8, .int u7]) (rest := []) ⟨hx, hb, hml, hown, hts⟩ (k_Surroundings_gather l dC dI ad_ar cA_ar H.size ar y1 y2 u8 u7 u9 hu9) (cwV 4 hts (gV wd_676 wd_677 wd_678 wd_47 wd_679) rfl rfl rfl (by decide +kernel) ⟨Nat.le_of_ble_eq_true rfl, Nat.le_of_ble_eq_true rfl⟩) (cl_preV hPc hKc hDc hN (ci := 3) 0 rfl rfl) rfl rfl hl.1 rfl (lv_room (Nat.le_of_ble_eq_true rfl)) d_HT_wind_94 ⟨Nat.le_of_ble_eq_true rfl, Nat.le_of_ble_eq_true rfl⟩)) (fun u H locs hw hP hD hS => ?_)
    have hw := hw.symm
    subst hw
    have hP : va_P (dC, dI) vwCl (uw_HT ad_ht cA_ht (ad_rd 0) (ad_sp 0) (ad_mx 0) (ad_ar 0) (ad_tb 0) (ad_tc 0) ht ++ (uw_Mixture ad_mx cA_mx mx ++ (uw_Surroundings ad_ar cA_ar u9 ++ (uw_Table ad_tb cA_tb tb)))) H := hP
    have hD : va_D A (uw_HT ad_ht cA_ht (ad_rd 0) (ad_sp 0) (ad_mx 0) (ad_ar 0) (ad_tb 0) (ad_tc 0) ht ++ (uw_Mixture ad_mx cA_mx mx ++ (uw_Surroundings ad_ar cA_ar u9 ++ (uw_Table ad_tb cA_tb tb)))) := hD
    refine lv_aload_n hx hb d_HT_wind_97 rfl (lv_at hl 2 rfl) ?_
    refine va_get (D := (dC, dI)) (ci := 5) (v := .ref (ad_ar 0)) (C := "HazardTables") (T := F_HT) (N := 7) hx hb hts hin_HT hown hK hP 0 rfl rfl 3 (by decide) fl_33 (fun _ h9 => h9) rfl d_HT_wind_98 ?_
    refine lv_iload_n hx hb d_HT_wind_101 rfl (lv_at hl 3 rfl) ?_
    refine lv_iload_n hx hb d_HT_wind_102 rfl (lv_at hl 4 rfl) ?_
    refine lv_iload_n hx hb d_HT_wind_103 rfl (lv_at hl 5 rfl) ?_
    obtain ⟨u10, hu10, hf⟩ := Option.bind_eq_some_iff.mp hf
    refine cl_v (wc := (uw_Surroundings ad_ar cA_ar u9)) (wr := (uw_HT ad_ht cA_ht (ad_rd 0) (ad_sp 0) (ad_mx 0) (ad_ar 0) (ad_tb 0) (ad_tc 0) ht ++ (uw_Mixture ad_mx cA_mx mx ++ (uw_Table ad_tb cA_tb tb)))) (tysC := [(cA_ar 1, .int), (cA_ar 2, .int), (cA_ar 3, .int)]) (wu := fun (u : SSurroundings) => (uw_Surroundings ad_ar cA_ar u)) (wn := fun (u : SSurroundings) => (uw_HT ad_ht cA_ht (ad_rd 0) (ad_sp 0) (ad_mx 0) (ad_ar 0) (ad_tb 0) (ad_tc 0) ht ++ (uw_Mixture ad_mx cA_mx mx ++ (uw_Surroundings ad_ar cA_ar u ++ (uw_Table ad_tb cA_tb tb))))) [6, 7, 8, 9] [0, 1, 2, 3, 4, 5, 10, 11, 12, 13, 14] [0, 1, 2, 3, 4, 5, 11, 12, 13, 14, 6, 7, 8, 9, 10] [4, 5, 6] hP hD hS hA hK rfl rfl (by decide +kernel) (by decide +kernel) (by decide +kernel) rfl (fun _ => rfl) (by decide +kernel) (fun hPc hKc hDc => (va_runV (As := [.int y1, .int y2, .int (bI y3)]) (rest := []) ⟨hx, hb, hml, hown, hts⟩ (k_Surroundings_turn l dC dI ad_ar cA_ar H.size u9 y1 y2 y3 u10 hu10) (cwV 3 hts (gV wd_690 wd_691 wd_692 wd_47 wd_693) rfl rfl rfl (by decide +kernel) ⟨Nat.le_of_ble_eq_true rfl, Nat.le_of_ble_eq_true rfl⟩) (cl_preV hPc hKc hDc hN (ci := 3) 0 rfl rfl) rfl rfl hl.1 rfl (lv_room (Nat.le_of_ble_eq_true rfl)) d_HT_wind_104 ⟨Nat.le_of_ble_eq_true rfl, Nat.le_of_ble_eq_true rfl⟩)) (fun u H locs hw hP hD hS => ?_)
    have hw := hw.symm
    subst hw
    have hP : va_P (dC, dI) vwCl (uw_HT ad_ht cA_ht (ad_rd 0) (ad_sp 0) (ad_mx 0) (ad_ar 0) (ad_tb 0) (ad_tc 0) ht ++ (uw_Mixture ad_mx cA_mx mx ++ (uw_Surroundings ad_ar cA_ar u10 ++ (uw_Table ad_tb cA_tb tb)))) H := hP
    have hD : va_D A (uw_HT ad_ht cA_ht (ad_rd 0) (ad_sp 0) (ad_mx 0) (ad_ar 0) (ad_tb 0) (ad_tc 0) ht ++ (uw_Mixture ad_mx cA_mx mx ++ (uw_Surroundings ad_ar cA_ar u10 ++ (uw_Table ad_tb cA_tb tb)))) := hD
    refine lv_aload_n hx hb d_HT_wind_107 rfl (lv_at hl 2 rfl) ?_
    refine va_get (D := (dC, dI)) (ci := 5) (v := .ref (ad_ar 0)) (C := "HazardTables") (T := F_HT) (N := 7) hx hb hts hin_HT hown hK hP 0 rfl rfl 3 (by decide) fl_33 (fun _ h9 => h9) rfl d_HT_wind_108 ?_
    refine va_get (D := (dC, dI)) (ci := 3) (v := .int u10.2.2.2.2.1) (C := "HazardTables$Surroundings") (T := F_Surroundings) (N := 8) hx hb hts hin_Surroundings hown hK hP 6 rfl rfl 4 (by decide) fl_201 (fun _ h9 => h9) rfl d_HT_wind_111 ?_
    exact ret u10.2.2.2.2.1 u10 H locs ls 114 d_HT_wind_114 (Option.some.inj hf).symm hP hD hS
  have hl := lv_entry ([.ref (ad_ht 0), .int x1, .int x2, .int (bI x3)]) (n := 6) (Nat.le_of_ble_eq_true rfl)
  rw [lg_entry_eq]
  generalize (lg_sl ([.ref (ad_ht 0), .int x1, .int x2, .int (bI x3)]) ++ List.replicate (6 - (lg_sl ([.ref (ad_ht 0), .int x1, .int x2, .int (bI x3)])).length) Slot.unset).toArray = ls at hl ⊢
  have hl : lv_has ls 6 [(0, .ref (ad_ht 0)), (1, .int x1), (2, .int x2), (3, .int (bI x3))] := hl
  have hf := hf
  rw [f_HT_wind] at hf
  obtain ⟨H, hH⟩ : ∃ H : Heap, H = s.heap := ⟨_, rfl⟩
  obtain ⟨locs, hlocs⟩ : ∃ L : List Loc, L = [] := ⟨_, rfl⟩
  have hP : va_P (dC, dI) vwCl (uw_HT ad_ht cA_ht (ad_rd 0) (ad_sp 0) (ad_mx 0) (ad_ar 0) (ad_tb 0) (ad_tc 0) ht ++ (uw_Mixture ad_mx cA_mx mx ++ (uw_Surroundings ad_ar cA_ar ar ++ (uw_Table ad_tb cA_tb tb)))) H := by rw [hH]; exact hP
  have hS : va_S A s.heap H locs := by rw [hH, hlocs]; exact hS
  show W p l e (headSpec w_HT_wind ({ frames := 6, cells := 1, slots := 6, locals := 96 })).room s m ([.ref (ad_ht 0), .int x1, .int x2, .int (bI x3)] : List Value).toArray below meth c s.heap [] 0 0 Q (F0 m 0 ls [])
  suffices hgo : W p l e (headSpec w_HT_wind ({ frames := 6, cells := 1, slots := 6, locals := 96 })).room s m ([.ref (ad_ht 0), .int x1, .int x2, .int (bI x3)] : List Value).toArray below meth c H locs 0 0 Q (F0 m 0 ls []) by rw [hH, hlocs] at hgo; exact hgo
  clear hH hlocs
  refine lv_iload_n hx hb d_HT_wind_0 rfl (lv_at hl 1 rfl) ?_
  refine lv_bipush (v := (-100 : Int32)) hx hb d_HT_wind_1 (by decide) ?_
  refine lv_bipush (v := (100 : Int32)) hx hb d_HT_wind_3 (by decide) ?_
  obtain ⟨u1, hu1, hf⟩ := Option.bind_eq_some_iff.mp hf
  refine cl_i (wc := []) (wr := (uw_HT ad_ht cA_ht (ad_rd 0) (ad_sp 0) (ad_mx 0) (ad_ar 0) (ad_tb 0) (ad_tc 0) ht ++ (uw_Mixture ad_mx cA_mx mx ++ (uw_Surroundings ad_ar cA_ar ar ++ (uw_Table ad_tb cA_tb tb))))) (tysC := []) (wu := fun (u : Unit) => []) (wn := fun (u : Unit) => (uw_HT ad_ht cA_ht (ad_rd 0) (ad_sp 0) (ad_mx 0) (ad_ar 0) (ad_tb 0) (ad_tc 0) ht ++ (uw_Mixture ad_mx cA_mx mx ++ (uw_Surroundings ad_ar cA_ar ar ++ (uw_Table ad_tb cA_tb tb))))) [] [0, 1, 2, 3, 4, 5, 6, 7, 8, 9, 10, 11, 12, 13, 14] [0, 1, 2, 3, 4, 5, 6, 7, 8, 9, 10, 11, 12, 13, 14] [] hP hD hS hA hK rfl rfl (by decide +kernel) (by decide +kernel) (by decide +kernel) rfl (fun _ => rfl) (by decide +kernel) (fun hPc hKc hDc => (va_runS (As := [.int x1, .int (-100 : Int32), .int (100 : Int32)]) (rest := []) ⟨hx, hb, hml, hown, hts⟩ (k_HT_isOutside l dC dI  H.size x1 (-100 : Int32) (100 : Int32) u1 hu1) (cwS 3 hts (gS wd_575 wd_576 wd_43 wd_577) rfl rfl rfl (by decide +kernel) ⟨Nat.le_of_ble_eq_true rfl, Nat.le_of_ble_eq_true rfl⟩) (cl_preS hPc hKc hDc hN) rfl rfl hl.1 rfl (lv_room (Nat.le_of_ble_eq_true rfl)) d_HT_wind_5 ⟨Nat.le_of_ble_eq_true rfl, Nat.le_of_ble_eq_true rfl⟩)) (fun r u H locs hw hP hD hS => ?_)
  have hw := hw.symm
  subst hw
  have hP : va_P (dC, dI) vwCl (uw_HT ad_ht cA_ht (ad_rd 0) (ad_sp 0) (ad_mx 0) (ad_ar 0) (ad_tb 0) (ad_tc 0) ht ++ (uw_Mixture ad_mx cA_mx mx ++ (uw_Surroundings ad_ar cA_ar ar ++ (uw_Table ad_tb cA_tb tb)))) H := hP
  have hD : va_D A (uw_HT ad_ht cA_ht (ad_rd 0) (ad_sp 0) (ad_mx 0) (ad_ar 0) (ad_tb 0) (ad_tc 0) ht ++ (uw_Mixture ad_mx cA_mx mx ++ (uw_Surroundings ad_ar cA_ar ar ++ (uw_Table ad_tb cA_tb tb)))) := hD
  refine lv_if_ne (tgt := 22) hx hb d_HT_wind_8 (by decide) (fun hc2 => ?_) (fun hc2 => ?_)
  · have hf := hf_f hf hc2
    exact thr_22 ar H locs ls (Option.some.inj hf).symm hP hD hS hl.1
  · have hf := hf_t hf hc2
    refine lv_iload_n hx hb d_HT_wind_11 rfl (lv_at hl 2 rfl) ?_
    refine lv_bipush (v := (-100 : Int32)) hx hb d_HT_wind_12 (by decide) ?_
    refine lv_bipush (v := (100 : Int32)) hx hb d_HT_wind_14 (by decide) ?_
    obtain ⟨u3, hu3, hf⟩ := Option.bind_eq_some_iff.mp hf
    refine cl_i (wc := []) (wr := (uw_HT ad_ht cA_ht (ad_rd 0) (ad_sp 0) (ad_mx 0) (ad_ar 0) (ad_tb 0) (ad_tc 0) ht ++ (uw_Mixture ad_mx cA_mx mx ++ (uw_Surroundings ad_ar cA_ar ar ++ (uw_Table ad_tb cA_tb tb))))) (tysC := []) (wu := fun (u : Unit) => []) (wn := fun (u : Unit) => (uw_HT ad_ht cA_ht (ad_rd 0) (ad_sp 0) (ad_mx 0) (ad_ar 0) (ad_tb 0) (ad_tc 0) ht ++ (uw_Mixture ad_mx cA_mx mx ++ (uw_Surroundings ad_ar cA_ar ar ++ (uw_Table ad_tb cA_tb tb))))) [] [0, 1, 2, 3, 4, 5, 6, 7, 8, 9, 10, 11, 12, 13, 14] [0, 1, 2, 3, 4, 5, 6, 7, 8, 9, 10, 11, 12, 13, 14] [] hP hD hS hA hK rfl rfl (by decide +kernel) (by decide +kernel) (by decide +kernel) rfl (fun _ => rfl) (by decide +kernel) (fun hPc hKc hDc => (va_runS (As := [.int x2, .int (-100 : Int32), .int (100 : Int32)]) (rest := []) ⟨hx, hb, hml, hown, hts⟩ (k_HT_isOutside l dC dI  H.size x2 (-100 : Int32) (100 : Int32) u3 hu3) (cwS 3 hts (gS wd_575 wd_576 wd_43 wd_577) rfl rfl rfl (by decide +kernel) ⟨Nat.le_of_ble_eq_true rfl, Nat.le_of_ble_eq_true rfl⟩) (cl_preS hPc hKc hDc hN) rfl rfl hl.1 rfl (lv_room (Nat.le_of_ble_eq_true rfl)) d_HT_wind_16 ⟨Nat.le_of_ble_eq_true rfl, Nat.le_of_ble_eq_true rfl⟩)) (fun r u H locs hw hP hD hS => ?_)
    have hw := hw.symm
    subst hw
    have hP : va_P (dC, dI) vwCl (uw_HT ad_ht cA_ht (ad_rd 0) (ad_sp 0) (ad_mx 0) (ad_ar 0) (ad_tb 0) (ad_tc 0) ht ++ (uw_Mixture ad_mx cA_mx mx ++ (uw_Surroundings ad_ar cA_ar ar ++ (uw_Table ad_tb cA_tb tb)))) H := hP
    have hD : va_D A (uw_HT ad_ht cA_ht (ad_rd 0) (ad_sp 0) (ad_mx 0) (ad_ar 0) (ad_tb 0) (ad_tc 0) ht ++ (uw_Mixture ad_mx cA_mx mx ++ (uw_Surroundings ad_ar cA_ar ar ++ (uw_Table ad_tb cA_tb tb)))) := hD
    refine lv_if_eq (tgt := 32) hx hb d_HT_wind_19 (by decide) (fun hc4 => ?_) (fun hc4 => ?_)
    · have hf := hf_t hf hc4
      refine lv_iload_n hx hb d_HT_wind_32 rfl (lv_at hl 1 rfl) ?_
      refine lv_if_ne (tgt := 50) hx hb d_HT_wind_33 (by decide) (fun hc5 => ?_) (fun hc5 => ?_)
      · have hf := hf_f hf hc5
        exact w_50 ar x1 x2 x3 H locs ls hf hP hD hS (lv_sub hl [0, 1, 2, 3] rfl)
      · have hf := hf_t hf hc5
        refine lv_iload_n hx hb d_HT_wind_36 rfl (lv_at hl 2 rfl) ?_
        refine lv_if_ne (tgt := 50) hx hb d_HT_wind_37 (by decide) (fun hc6 => ?_) (fun hc6 => ?_)
        · have hf := hf_f hf hc6
          exact w_50 ar x1 x2 x3 H locs ls hf hP hD hS (lv_sub hl [0, 1, 2, 3] rfl)
        · have hf := hf_t hf hc6
          exact thr_40 ar H locs ls (Option.some.inj hf).symm hP hD hS hl.1
    · have hf := hf_f hf hc4
      exact thr_22 ar H locs ls (Option.some.inj hf).symm hP hD hS hl.1
noncomputable def f_HT_fresh (ht : SHT) (ar : SSurroundings) (x1 : Int32) : Option (Sum (Int32) (Nat × (Unit))) :=
  (if 0 ≤ x1 then
    (Option.bind (f_Surroundings_freshOne ar x1) fun u2 =>
      (some (.inl (u2)))
     )
   else
    (some (.inr (1, ())))
   )
set_option maxHeartbeats 4000000 in
set_option maxRecDepth 100000 in
theorem k_HT_fresh (l : Launch) (dC : Nat → ClassId) (dI : Nat → Nat → Nat) (ad_ht : Nat → Nat) (cA_ht : Nat → ClassId) (ad_ar : Nat → Nat) (cA_ar : Nat → ClassId) (ad_rd : Nat → Nat) (cA_rd : Nat → ClassId) (ad_sp : Nat → Nat) (cA_sp : Nat → ClassId) (ad_mx : Nat → Nat) (cA_mx : Nat → ClassId) (ad_tb : Nat → Nat) (cA_tb : Nat → ClassId) (ad_tc : Nat → Nat) (cA_tc : Nat → ClassId) (sz : Nat) (ht : SHT) (ar : SSurroundings) (x1 : Int32) (res : Sum (Int32) (Nat × (Unit))) (hf : f_HT_fresh ht ar x1 = some res) (htr : l.stackTraces = false) : vx_Met l y_HT_fresh w_HT_fresh ({ frames := 6, cells := 1, slots := 6, locals := 82 }) (xPc (dC, dI) (uw_HT ad_ht cA_ht (ad_rd 0) (ad_sp 0) (ad_mx 0) (ad_ar 0) (ad_tb 0) (ad_tc 0) ht ++ (uw_Surroundings ad_ar cA_ar ar)) [(cA_ht 1, .int), (cA_ar 1, .int), (cA_ar 2, .int), (cA_ar 3, .int)] sz [.ref (ad_ht 0), .int x1]) (va_Qi (fun (r : Int32) (u : Unit) => res = .inl r) (fun (u : Unit) (t : State) => va_P (dC, dI) vwCl (uw_HT ad_ht cA_ht (ad_rd 0) (ad_sp 0) (ad_mx 0) (ad_ar 0) (ad_tb 0) (ad_tc 0) ht ++ (uw_Surroundings ad_ar cA_ar ar)) t.heap ∧ va_K (dC, dI) vwCl [(cA_ht 1, .int), (cA_ar 1, .int), (cA_ar 2, .int), (cA_ar 3, .int)] t ∧ va_D (va_A (uw_HT ad_ht cA_ht (ad_rd 0) (ad_sp 0) (ad_mx 0) (ad_ar 0) (ad_tb 0) (ad_tc 0) ht ++ (uw_Surroundings ad_ar cA_ar ar)) sz) (uw_HT ad_ht cA_ht (ad_rd 0) (ad_sp 0) (ad_mx 0) (ad_ar 0) (ad_tb 0) (ad_tc 0) ht ++ (uw_Surroundings ad_ar cA_ar ar))) (va_A (uw_HT ad_ht cA_ht (ad_rd 0) (ad_sp 0) (ad_mx 0) (ad_ar 0) (ad_tb 0) (ad_tc 0) ht ++ (uw_Surroundings ad_ar cA_ar ar)) sz)) (vx_X (fun (u : Nat × (Unit)) => res = .inr u) (fun (E : String) (u : Nat × (Unit)) (t : State) => E = xn u.1 ∧ va_P (dC, dI) vwCl (uw_HT ad_ht cA_ht (ad_rd 0) (ad_sp 0) (ad_mx 0) (ad_ar 0) (ad_tb 0) (ad_tc 0) ht ++ (uw_Surroundings ad_ar cA_ar ar)) t.heap ∧ va_K (dC, dI) vwCl [(cA_ht 1, .int), (cA_ar 1, .int), (cA_ar 2, .int), (cA_ar 3, .int)] t ∧ va_D (va_A (uw_HT ad_ht cA_ht (ad_rd 0) (ad_sp 0) (ad_mx 0) (ad_ar 0) (ad_tb 0) (ad_tc 0) ht ++ (uw_Surroundings ad_ar cA_ar ar)) sz) (uw_HT ad_ht cA_ht (ad_rd 0) (ad_sp 0) (ad_mx 0) (ad_ar 0) (ad_tb 0) (ad_tc 0) ht ++ (uw_Surroundings ad_ar cA_ar ar))) (va_A (uw_HT ad_ht cA_ht (ad_rd 0) (ad_sp 0) (ad_mx 0) (ad_ar 0) (ad_tb 0) (ad_tc 0) ht ++ (uw_Surroundings ad_ar cA_ar ar)) sz)) 1 6 (va_A (uw_HT ad_ht cA_ht (ad_rd 0) (ad_sp 0) (ad_mx 0) (ad_ar 0) (ad_tb 0) (ad_tc 0) ht ++ (uw_Surroundings ad_ar cA_ar ar)) sz) := by
  refine vx_ofW (cc := b_HT_fresh) (maxL := 2) (ret := (some .int)) (by decide) rfl ?_
  intro p e s m args below meth c s₁ B hml htab hv
  obtain ⟨rfl, hsz, hP, hK, hD0, hN, hX⟩ := hv
  have hx := B.exec
  have hb := B.bytes
  have hr := B.returns
  have hts := atoms_spec (ws := w_HT_fresh) B.pre
  have hown : s.vm.findClass "HazardTables" = some m.cls := findClass_of_methodNamed B.named
  have hlocks := B.notSynchronized
  subst hsz
  have hD := hD0.self (sz := s.heap.size)
  generalize hAe : va_A (uw_HT ad_ht cA_ht (ad_rd 0) (ad_sp 0) (ad_mx 0) (ad_ar 0) (ad_tb 0) (ad_tc 0) ht ++ (uw_Surroundings ad_ar cA_ar ar)) s.heap.size = A at hD hX ⊢
  have hA : ∀ q : Nat, s.heap.size ≤ q → A q := fun q h => by rw [← hAe]; exact Or.inr h
  have hS : va_S A s.heap s.heap [] := va_S.rf
  have hP : va_P (dC, dI) vwCl (uw_HT ad_ht cA_ht (ad_rd 0) (ad_sp 0) (ad_mx 0) (ad_ar 0) (ad_tb 0) (ad_tc 0) ht ++ (uw_Surroundings ad_ar cA_ar ar)) s.heap := hP
  have fl_33 := (hts _ (List.mem_cons_of_mem _ wd_207))
  have hin_HT : ∀ w ∈ u_ws "HazardTables" F_HT 7, w ∈ w_HT_fresh := fun w h => List.mem_cons_of_mem _ (hinA_HT w h)
  have thr_4 : ∀ (u : Unit) (H : Heap) (locs : List Loc) (ls : Array Slot), res = .inr (1, u) → va_P (dC, dI) vwCl (uw_HT ad_ht cA_ht (ad_rd 0) (ad_sp 0) (ad_mx 0) (ad_ar 0) (ad_tb 0) (ad_tc 0) ht ++ (uw_Surroundings ad_ar cA_ar ar)) H → va_D A (uw_HT ad_ht cA_ht (ad_rd 0) (ad_sp 0) (ad_mx 0) (ad_ar 0) (ad_tb 0) (ad_tc 0) ht ++ (uw_Surroundings ad_ar cA_ar ar)) → va_S A s.heap H locs → ls.size = 2 → W p l e (headSpec w_HT_fresh ({ frames := 6, cells := 1, slots := 6, locals := 82 })).room s m ([.ref (ad_ht 0), .int x1] : List Value).toArray below meth c H locs 0 0 (vx_MQ below (va_Qi (fun (r : Int32) (u : Unit) => res = .inl r) (fun (u : Unit) (t : State) => va_P (dC, dI) vwCl (uw_HT ad_ht cA_ht (ad_rd 0) (ad_sp 0) (ad_mx 0) (ad_ar 0) (ad_tb 0) (ad_tc 0) ht ++ (uw_Surroundings ad_ar cA_ar ar)) t.heap ∧ va_K (dC, dI) vwCl [(cA_ht 1, .int), (cA_ar 1, .int), (cA_ar 2, .int), (cA_ar 3, .int)] t ∧ va_D A (uw_HT ad_ht cA_ht (ad_rd 0) (ad_sp 0) (ad_mx 0) (ad_ar 0) (ad_tb 0) (ad_tc 0) ht ++ (uw_Surroundings ad_ar cA_ar ar))) A) (vx_X (fun (u : Nat × (Unit)) => res = .inr u) (fun (E : String) (u : Nat × (Unit)) (t : State) => E = xn u.1 ∧ va_P (dC, dI) vwCl (uw_HT ad_ht cA_ht (ad_rd 0) (ad_sp 0) (ad_mx 0) (ad_ar 0) (ad_tb 0) (ad_tc 0) ht ++ (uw_Surroundings ad_ar cA_ar ar)) t.heap ∧ va_K (dC, dI) vwCl [(cA_ht 1, .int), (cA_ar 1, .int), (cA_ar 2, .int), (cA_ar 3, .int)] t ∧ va_D A (uw_HT ad_ht cA_ht (ad_rd 0) (ad_sp 0) (ad_mx 0) (ad_ar 0) (ad_tb 0) (ad_tc 0) ht ++ (uw_Surroundings ad_ar cA_ar ar))) A) ([.ref (ad_ht 0), .int x1] : List Value).toArray s 1 6 A) (F0 m 4 ls []) := by
    intro u H locs ls hres hP hD hS hsz
    obtain ⟨sa, hstr⟩ := hX.2.2.1 (131, "i is below 0") (by decide)
    refine vx_throwS (cls := "java/lang/IndexOutOfBoundsException") (text := "i is below 0") (names := xch) (ik := 51) (is := 131) (ic := 55) (sa := sa) hx hb htr hown (by decide) (by decide) (hts _ (List.mem_cons_of_mem _ wd_247)) (hts _ (List.mem_cons_of_mem _ wd_53)) hstr (x_hat_55 hts hX) x_good_55 hX.1 hX.2.1 hS (hsz.trans hml.symm) d_HT_fresh_4 d_HT_fresh_7 d_HT_fresh_8 d_HT_fresh_10 d_HT_fresh_13 (fun x hx9 => (htab x hx9).elim) (by decide) (by decide) (by decide) (by decide) hlocks (fun t hvm hz hk => ?_) hS.2.2 (by decide) (by decide)
    obtain ⟨hP9, hF9⟩ := cl_thrown hP hS hz hk
    exact ⟨(1, u), hres, ⟨rfl, hP9, va_K.moved hvm hK, hD⟩, hF9⟩
  have ret : ∀ (v : Int32) (u : Unit) (H : Heap) (locs : List Loc) (ls : Array Slot) (pc : Nat), decode b_HT_fresh pc = .ok (.ireturn, 1) → res = .inl v → va_P (dC, dI) vwCl (uw_HT ad_ht cA_ht (ad_rd 0) (ad_sp 0) (ad_mx 0) (ad_ar 0) (ad_tb 0) (ad_tc 0) ht ++ (uw_Surroundings ad_ar cA_ar ar)) H → va_D A (uw_HT ad_ht cA_ht (ad_rd 0) (ad_sp 0) (ad_mx 0) (ad_ar 0) (ad_tb 0) (ad_tc 0) ht ++ (uw_Surroundings ad_ar cA_ar ar)) → va_S A s.heap H locs → W p l e (headSpec w_HT_fresh ({ frames := 6, cells := 1, slots := 6, locals := 82 })).room s m ([.ref (ad_ht 0), .int x1] : List Value).toArray below meth c H locs 0 0 (vx_MQ below (va_Qi (fun (r : Int32) (u : Unit) => res = .inl r) (fun (u : Unit) (t : State) => va_P (dC, dI) vwCl (uw_HT ad_ht cA_ht (ad_rd 0) (ad_sp 0) (ad_mx 0) (ad_ar 0) (ad_tb 0) (ad_tc 0) ht ++ (uw_Surroundings ad_ar cA_ar ar)) t.heap ∧ va_K (dC, dI) vwCl [(cA_ht 1, .int), (cA_ar 1, .int), (cA_ar 2, .int), (cA_ar 3, .int)] t ∧ va_D A (uw_HT ad_ht cA_ht (ad_rd 0) (ad_sp 0) (ad_mx 0) (ad_ar 0) (ad_tb 0) (ad_tc 0) ht ++ (uw_Surroundings ad_ar cA_ar ar))) A) (vx_X (fun (u : Nat × (Unit)) => res = .inr u) (fun (E : String) (u : Nat × (Unit)) (t : State) => E = xn u.1 ∧ va_P (dC, dI) vwCl (uw_HT ad_ht cA_ht (ad_rd 0) (ad_sp 0) (ad_mx 0) (ad_ar 0) (ad_tb 0) (ad_tc 0) ht ++ (uw_Surroundings ad_ar cA_ar ar)) t.heap ∧ va_K (dC, dI) vwCl [(cA_ht 1, .int), (cA_ar 1, .int), (cA_ar 2, .int), (cA_ar 3, .int)] t ∧ va_D A (uw_HT ad_ht cA_ht (ad_rd 0) (ad_sp 0) (ad_mx 0) (ad_ar 0) (ad_tb 0) (ad_tc 0) ht ++ (uw_Surroundings ad_ar cA_ar ar))) A) ([.ref (ad_ht 0), .int x1] : List Value).toArray s 1 6 A) (F0 m pc ls [.int v]) := fun v u H locs ls pc hd hp hP hD hS => W.widen (k := 1) (n := 6) (Nat.zero_le _) (Nat.zero_le _) (vx_ret (W.iret (v := v) hx hb hr (fun t ht hW => ⟨⟨v, u, rfl, hp, by rw [ht]; exact hP, va_K.moved hW.alike hK, hD⟩, hS.F ht⟩) hS.2.2 hd))
  generalize (vx_MQ below (va_Qi (fun (r : Int32) (u : Unit) => res = .inl r) (fun (u : Unit) (t : State) => va_P (dC, dI) vwCl (uw_HT ad_ht cA_ht (ad_rd 0) (ad_sp 0) (ad_mx 0) (ad_ar 0) (ad_tb 0) (ad_tc 0) ht ++ (uw_Surroundings ad_ar cA_ar ar)) t.heap ∧ va_K (dC, dI) vwCl [(cA_ht 1, .int), (cA_ar 1, .int), (cA_ar 2, .int), (cA_ar 3, .int)] t ∧ va_D A (uw_HT ad_ht cA_ht (ad_rd 0) (ad_sp 0) (ad_mx 0) (ad_ar 0) (ad_tb 0) (ad_tc 0) ht ++ (uw_Surroundings ad_ar cA_ar ar))) A) (vx_X (fun (u : Nat × (Unit)) => res = .inr u) (fun (E : String) (u : Nat × (Unit)) (t : State) => E = xn u.1 ∧ va_P (dC, dI) vwCl (uw_HT ad_ht cA_ht (ad_rd 0) (ad_sp 0) (ad_mx 0) (ad_ar 0) (ad_tb 0) (ad_tc 0) ht ++ (uw_Surroundings ad_ar cA_ar ar)) t.heap ∧ va_K (dC, dI) vwCl [(cA_ht 1, .int), (cA_ar 1, .int), (cA_ar 2, .int), (cA_ar 3, .int)] t ∧ va_D A (uw_HT ad_ht cA_ht (ad_rd 0) (ad_sp 0) (ad_mx 0) (ad_ar 0) (ad_tb 0) (ad_tc 0) ht ++ (uw_Surroundings ad_ar cA_ar ar))) A) ([.ref (ad_ht 0), .int x1] : List Value).toArray s 1 6 A) = Q at ret thr_4 ⊢
  have hl := lv_entry ([.ref (ad_ht 0), .int x1]) (n := 2) (Nat.le_of_ble_eq_true rfl)
  rw [lg_entry_eq]
  generalize (lg_sl ([.ref (ad_ht 0), .int x1]) ++ List.replicate (2 - (lg_sl ([.ref (ad_ht 0), .int x1])).length) Slot.unset).toArray = ls at hl ⊢
  have hl : lv_has ls 2 [(0, .ref (ad_ht 0)), (1, .int x1)] := hl
  have hf := hf
  rw [f_HT_fresh] at hf
  obtain ⟨H, hH⟩ : ∃ H : Heap, H = s.heap := ⟨_, rfl⟩
  obtain ⟨locs, hlocs⟩ : ∃ L : List Loc, L = [] := ⟨_, rfl⟩
  have hP : va_P (dC, dI) vwCl (uw_HT ad_ht cA_ht (ad_rd 0) (ad_sp 0) (ad_mx 0) (ad_ar 0) (ad_tb 0) (ad_tc 0) ht ++ (uw_Surroundings ad_ar cA_ar ar)) H := by rw [hH]; exact hP
  have hS : va_S A s.heap H locs := by rw [hH, hlocs]; exact hS
  show W p l e (headSpec w_HT_fresh ({ frames := 6, cells := 1, slots := 6, locals := 82 })).room s m ([.ref (ad_ht 0), .int x1] : List Value).toArray below meth c s.heap [] 0 0 Q (F0 m 0 ls [])
  suffices hgo : W p l e (headSpec w_HT_fresh ({ frames := 6, cells := 1, slots := 6, locals := 82 })).room s m ([.ref (ad_ht 0), .int x1] : List Value).toArray below meth c H locs 0 0 Q (F0 m 0 ls []) by rw [hH, hlocs] at hgo; exact hgo
  clear hH hlocs
  refine lv_iload_n hx hb d_HT_fresh_0 rfl (lv_at hl 1 rfl) ?_
  refine lv_if_ge (tgt := 14) hx hb d_HT_fresh_1 (by decide) (fun hc1 => ?_) (fun hc1 => ?_)
  · have hf := hf_t hf hc1
    refine lv_aload_n hx hb d_HT_fresh_14 rfl (lv_at hl 0 rfl) ?_
    refine va_get (D := (dC, dI)) (ci := 5) (v := .ref (ad_ar 0)) (C := "HazardTables") (T := F_HT) (N := 7) hx hb hts hin_HT hown hK hP 0 rfl rfl 3 (by decide) fl_33 (fun _ h9 => h9) rfl d_HT_fresh_15 ?_
    refine lv_iload_n hx hb d_HT_fresh_18 rfl (lv_at hl 1 rfl) ?_
    obtain ⟨u2, hu2, hf⟩ := Option.bind_eq_some_iff.mp hf
    refine cl_i (wc := (uw_Surroundings ad_ar cA_ar ar)) (wr := (uw_HT ad_ht cA_ht (ad_rd 0) (ad_sp 0) (ad_mx 0) (ad_ar 0) (ad_tb 0) (ad_tc 0) ht)) (tysC := [(cA_ar 1, .int), (cA_ar 2, .int), (cA_ar 3, .int)]) (wu := fun (u : Unit) => (uw_Surroundings ad_ar cA_ar ar)) (wn := fun (u : Unit) => (uw_HT ad_ht cA_ht (ad_rd 0) (ad_sp 0) (ad_mx 0) (ad_ar 0) (ad_tb 0) (ad_tc 0) ht ++ (uw_Surroundings ad_ar cA_ar ar))) [2, 3, 4, 5] [0, 1] [0, 1, 2, 3, 4, 5] [1, 2, 3] hP hD hS hA hK rfl rfl (by decide +kernel) (by decide +kernel) (by decide +kernel) rfl (fun _ => rfl) (by decide +kernel) (fun hPc hKc hDc => (va_runV (As := [.int x1]) (rest := []) ⟨hx, hb, hml, hown, hts⟩ (k_Surroundings_freshOne l dC dI ad_ar cA_ar H.size ar x1 u2 hu2) (cwV 1 hts (gV wd_701 wd_702 wd_703 wd_47 wd_704) rfl rfl rfl (by decide +kernel) ⟨Nat.le_of_ble_eq_true rfl, Nat.le_of_ble_eq_true rfl⟩) (cl_preV hPc hKc hDc hN (ci := 3) 0 rfl rfl) rfl rfl hl.1 rfl (lv_room (Nat.le_of_ble_eq_true rfl)) d_HT_fresh_19 ⟨Nat.le_of_ble_eq_true rfl, Nat.le_of_ble_eq_true rfl⟩)) (fun r u H locs hw hP hD hS => ?_)
    have hw := hw.symm
    subst hw
    have hP : va_P (dC, dI) vwCl (uw_HT ad_ht cA_ht (ad_rd 0) (ad_sp 0) (ad_mx 0) (ad_ar 0) (ad_tb 0) (ad_tc 0) ht ++ (uw_Surroundings ad_ar cA_ar ar)) H := hP
    have hD : va_D A (uw_HT ad_ht cA_ht (ad_rd 0) (ad_sp 0) (ad_mx 0) (ad_ar 0) (ad_tb 0) (ad_tc 0) ht ++ (uw_Surroundings ad_ar cA_ar ar)) := hD
    exact ret u2 () H locs ls 22 d_HT_fresh_22 (Option.some.inj hf).symm hP hD hS
  · have hf := hf_f hf hc1
    exact thr_4 () H locs ls (Option.some.inj hf).symm hP hD hS hl.1
noncomputable def f_HT_in (ht : SHT) (mx : SMixture) (ar : SSurroundings) (tb : STable) (x1 : Int32) (x2 : Int32) : Option (Sum (Bool) (Nat × (Unit))) :=
  (Option.bind (f_HT_isNoPoint x1 x2) fun u1 =>
    (if (bI u1) = 0 then
      (if mx.2.2.2.1 = 0 then
        (some (.inr (2, ())))
       else
        (Option.bind (f_Mixture_distance mx tb ar.2.2.2.2.2.2.2) fun u4 =>
          (Option.bind (f_Surroundings_covers ar x1 x2 u4) fun u5 =>
            (some (.inl (u5)))
           )
         )
       )
     else
      (some (.inr (1, ())))
     )
   )
set_option maxHeartbeats 4000000 in
set_option maxRecDepth 100000 in
theorem k_HT_in (l : Launch) (dC : Nat → ClassId) (dI : Nat → Nat → Nat) (ad_ht : Nat → Nat) (cA_ht : Nat → ClassId) (ad_mx : Nat → Nat) (cA_mx : Nat → ClassId) (ad_ar : Nat → Nat) (cA_ar : Nat → ClassId) (ad_tb : Nat → Nat) (cA_tb : Nat → ClassId) (ad_rd : Nat → Nat) (cA_rd : Nat → ClassId) (ad_sp : Nat → Nat) (cA_sp : Nat → ClassId) (ad_tc : Nat → Nat) (cA_tc : Nat → ClassId) (sz : Nat) (ht : SHT) (mx : SMixture) (ar : SSurroundings) (tb : STable) (x1 : Int32) (x2 : Int32) (res : Sum (Bool) (Nat × (Unit))) (hf : f_HT_in ht mx ar tb x1 x2 = some res) (htr : l.stackTraces = false) : vx_Met l y_HT_in w_HT_in ({ frames := 6, cells := 1, slots := 6, locals := 82 }) (xPc (dC, dI) (uw_HT ad_ht cA_ht (ad_rd 0) (ad_sp 0) (ad_mx 0) (ad_ar 0) (ad_tb 0) (ad_tc 0) ht ++ (uw_Mixture ad_mx cA_mx mx ++ (uw_Surroundings ad_ar cA_ar ar ++ (uw_Table ad_tb cA_tb tb)))) [(cA_ht 1, .int), (cA_mx 1, .int), (cA_mx 2, .int), (cA_mx 3, .boolean), (cA_ar 1, .int), (cA_ar 2, .int), (cA_ar 3, .int), (cA_tb 1, .int), (cA_tb 2, .int), (cA_tb 3, .int), (cA_tb 4, .byte)] sz [.ref (ad_ht 0), .int x1, .int x2]) (va_Qi (fun (r : Int32) (u : Unit) => ∃ b : Bool, r = bI b ∧ res = .inl b) (fun (u : Unit) (t : State) => va_P (dC, dI) vwCl (uw_HT ad_ht cA_ht (ad_rd 0) (ad_sp 0) (ad_mx 0) (ad_ar 0) (ad_tb 0) (ad_tc 0) ht ++ (uw_Mixture ad_mx cA_mx mx ++ (uw_Surroundings ad_ar cA_ar ar ++ (uw_Table ad_tb cA_tb tb)))) t.heap ∧ va_K (dC, dI) vwCl [(cA_ht 1, .int), (cA_mx 1, .int), (cA_mx 2, .int), (cA_mx 3, .boolean), (cA_ar 1, .int), (cA_ar 2, .int), (cA_ar 3, .int), (cA_tb 1, .int), (cA_tb 2, .int), (cA_tb 3, .int), (cA_tb 4, .byte)] t ∧ va_D (va_A (uw_HT ad_ht cA_ht (ad_rd 0) (ad_sp 0) (ad_mx 0) (ad_ar 0) (ad_tb 0) (ad_tc 0) ht ++ (uw_Mixture ad_mx cA_mx mx ++ (uw_Surroundings ad_ar cA_ar ar ++ (uw_Table ad_tb cA_tb tb)))) sz) (uw_HT ad_ht cA_ht (ad_rd 0) (ad_sp 0) (ad_mx 0) (ad_ar 0) (ad_tb 0) (ad_tc 0) ht ++ (uw_Mixture ad_mx cA_mx mx ++ (uw_Surroundings ad_ar cA_ar ar ++ (uw_Table ad_tb cA_tb tb))))) (va_A (uw_HT ad_ht cA_ht (ad_rd 0) (ad_sp 0) (ad_mx 0) (ad_ar 0) (ad_tb 0) (ad_tc 0) ht ++ (uw_Mixture ad_mx cA_mx mx ++ (uw_Surroundings ad_ar cA_ar ar ++ (uw_Table ad_tb cA_tb tb)))) sz)) (vx_X (fun (u : Nat × (Unit)) => res = .inr u) (fun (E : String) (u : Nat × (Unit)) (t : State) => E = xn u.1 ∧ va_P (dC, dI) vwCl (uw_HT ad_ht cA_ht (ad_rd 0) (ad_sp 0) (ad_mx 0) (ad_ar 0) (ad_tb 0) (ad_tc 0) ht ++ (uw_Mixture ad_mx cA_mx mx ++ (uw_Surroundings ad_ar cA_ar ar ++ (uw_Table ad_tb cA_tb tb)))) t.heap ∧ va_K (dC, dI) vwCl [(cA_ht 1, .int), (cA_mx 1, .int), (cA_mx 2, .int), (cA_mx 3, .boolean), (cA_ar 1, .int), (cA_ar 2, .int), (cA_ar 3, .int), (cA_tb 1, .int), (cA_tb 2, .int), (cA_tb 3, .int), (cA_tb 4, .byte)] t ∧ va_D (va_A (uw_HT ad_ht cA_ht (ad_rd 0) (ad_sp 0) (ad_mx 0) (ad_ar 0) (ad_tb 0) (ad_tc 0) ht ++ (uw_Mixture ad_mx cA_mx mx ++ (uw_Surroundings ad_ar cA_ar ar ++ (uw_Table ad_tb cA_tb tb)))) sz) (uw_HT ad_ht cA_ht (ad_rd 0) (ad_sp 0) (ad_mx 0) (ad_ar 0) (ad_tb 0) (ad_tc 0) ht ++ (uw_Mixture ad_mx cA_mx mx ++ (uw_Surroundings ad_ar cA_ar ar ++ (uw_Table ad_tb cA_tb tb))))) (va_A (uw_HT ad_ht cA_ht (ad_rd 0) (ad_sp 0) (ad_mx 0) (ad_ar 0) (ad_tb 0) (ad_tc 0) ht ++ (uw_Mixture ad_mx cA_mx mx ++ (uw_Surroundings ad_ar cA_ar ar ++ (uw_Table ad_tb cA_tb tb)))) sz)) 1 6 (va_A (uw_HT ad_ht cA_ht (ad_rd 0) (ad_sp 0) (ad_mx 0) (ad_ar 0) (ad_tb 0) (ad_tc 0) ht ++ (uw_Mixture ad_mx cA_mx mx ++ (uw_Surroundings ad_ar cA_ar ar ++ (uw_Table ad_tb cA_tb tb)))) sz) := by
  refine vx_ofW (cc := b_HT_in) (maxL := 3) (ret := (some .boolean)) (by decide) rfl ?_
  intro p e s m args below meth c s₁ B hml htab hv
  obtain ⟨rfl, hsz, hP, hK, hD0, hN, hX⟩ := hv
  have hx := B.exec
  have hb := B.bytes
  have hr := B.returns
  have hts := atoms_spec (ws := w_HT_in) B.pre
  have hown : s.vm.findClass "HazardTables" = some m.cls := findClass_of_methodNamed B.named
  have hlocks := B.notSynchronized
  subst hsz
  have hD := hD0.self (sz := s.heap.size)
  generalize hAe : va_A (uw_HT ad_ht cA_ht (ad_rd 0) (ad_sp 0) (ad_mx 0) (ad_ar 0) (ad_tb 0) (ad_tc 0) ht ++ (uw_Mixture ad_mx cA_mx mx ++ (uw_Surroundings ad_ar cA_ar ar ++ (uw_Table ad_tb cA_tb tb)))) s.heap.size = A at hD hX ⊢
  have hA : ∀ q : Nat, s.heap.size ≤ q → A q := fun q h => by rw [← hAe]; exact Or.inr h
  have hS : va_S A s.heap s.heap [] := va_S.rf
  have hP : va_P (dC, dI) vwCl (uw_HT ad_ht cA_ht (ad_rd 0) (ad_sp 0) (ad_mx 0) (ad_ar 0) (ad_tb 0) (ad_tc 0) ht ++ (uw_Mixture ad_mx cA_mx mx ++ (uw_Surroundings ad_ar cA_ar ar ++ (uw_Table ad_tb cA_tb tb)))) s.heap := hP
  have fl_151 := (hts _ (List.mem_cons_of_mem _ wd_125))
  have fl_189 := (hts _ (List.mem_cons_of_mem _ wd_155))
  have fl_26 := (hts _ (List.mem_cons_of_mem _ wd_206))
  have fl_33 := (hts _ (List.mem_cons_of_mem _ wd_207))
  have fl_44 := (hts _ (List.mem_cons_of_mem _ wd_209))
  have hin_HT : ∀ w ∈ u_ws "HazardTables" F_HT 7, w ∈ w_HT_in := fun w h => List.mem_cons_of_mem _ (hinA_HT w h)
  have hin_Mixture : ∀ w ∈ u_ws "HazardTables$Mixture" F_Mixture 5, w ∈ w_HT_in := fun w h => List.mem_cons_of_mem _ (hinA_Mixture w h)
  have hin_Surroundings : ∀ w ∈ u_ws "HazardTables$Surroundings" F_Surroundings 8, w ∈ w_HT_in := fun w h => List.mem_cons_of_mem _ (hinA_Surroundings w h)
  have thr_8 : ∀ (u : Unit) (H : Heap) (locs : List Loc) (ls : Array Slot), res = .inr (1, u) → va_P (dC, dI) vwCl (uw_HT ad_ht cA_ht (ad_rd 0) (ad_sp 0) (ad_mx 0) (ad_ar 0) (ad_tb 0) (ad_tc 0) ht ++ (uw_Mixture ad_mx cA_mx mx ++ (uw_Surroundings ad_ar cA_ar ar ++ (uw_Table ad_tb cA_tb tb)))) H → va_D A (uw_HT ad_ht cA_ht (ad_rd 0) (ad_sp 0) (ad_mx 0) (ad_ar 0) (ad_tb 0) (ad_tc 0) ht ++ (uw_Mixture ad_mx cA_mx mx ++ (uw_Surroundings ad_ar cA_ar ar ++ (uw_Table ad_tb cA_tb tb)))) → va_S A s.heap H locs → ls.size = 3 → W p l e (headSpec w_HT_in ({ frames := 6, cells := 1, slots := 6, locals := 82 })).room s m ([.ref (ad_ht 0), .int x1, .int x2] : List Value).toArray below meth c H locs 0 0 (vx_MQ below (va_Qi (fun (r : Int32) (u : Unit) => ∃ b : Bool, r = bI b ∧ res = .inl b) (fun (u : Unit) (t : State) => va_P (dC, dI) vwCl (uw_HT ad_ht cA_ht (ad_rd 0) (ad_sp 0) (ad_mx 0) (ad_ar 0) (ad_tb 0) (ad_tc 0) ht ++ (uw_Mixture ad_mx cA_mx mx ++ (uw_Surroundings ad_ar cA_ar ar ++ (uw_Table ad_tb cA_tb tb)))) t.heap ∧ va_K (dC, dI) vwCl [(cA_ht 1, .int), (cA_mx 1, .int), (cA_mx 2, .int), (cA_mx 3, .boolean), (cA_ar 1, .int), (cA_ar 2, .int), (cA_ar 3, .int), (cA_tb 1, .int), (cA_tb 2, .int), (cA_tb 3, .int), (cA_tb 4, .byte)] t ∧ va_D A (uw_HT ad_ht cA_ht (ad_rd 0) (ad_sp 0) (ad_mx 0) (ad_ar 0) (ad_tb 0) (ad_tc 0) ht ++ (uw_Mixture ad_mx cA_mx mx ++ (uw_Surroundings ad_ar cA_ar ar ++ (uw_Table ad_tb cA_tb tb))))) A) (vx_X (fun (u : Nat × (Unit)) => res = .inr u) (fun (E : String) (u : Nat × (Unit)) (t : State) => E = xn u.1 ∧ va_P (dC, dI) vwCl (uw_HT ad_ht cA_ht (ad_rd 0) (ad_sp 0) (ad_mx 0) (ad_ar 0) (ad_tb 0) (ad_tc 0) ht ++ (uw_Mixture ad_mx cA_mx mx ++ (uw_Surroundings ad_ar cA_ar ar ++ (uw_Table ad_tb cA_tb tb)))) t.heap ∧ va_K (dC, dI) vwCl [(cA_ht 1, .int), (cA_mx 1, .int), (cA_mx 2, .int), (cA_mx 3, .boolean), (cA_ar 1, .int), (cA_ar 2, .int), (cA_ar 3, .int), (cA_tb 1, .int), (cA_tb 2, .int), (cA_tb 3, .int), (cA_tb 4, .byte)] t ∧ va_D A (uw_HT ad_ht cA_ht (ad_rd 0) (ad_sp 0) (ad_mx 0) (ad_ar 0) (ad_tb 0) (ad_tc 0) ht ++ (uw_Mixture ad_mx cA_mx mx ++ (uw_Surroundings ad_ar cA_ar ar ++ (uw_Table ad_tb cA_tb tb))))) A) ([.ref (ad_ht 0), .int x1, .int x2] : List Value).toArray s 1 6 A) (F0 m 8 ls []) := by
    intro u H locs ls hres hP hD hS hsz
    obtain ⟨sa, hstr⟩ := hX.2.2.1 (178, "the point is out of range") (by decide)
    refine vx_throwS (cls := "java/lang/IndexOutOfBoundsException") (text := "the point is out of range") (names := xch) (ik := 51) (is := 178) (ic := 55) (sa := sa) hx hb htr hown (by decide) (by decide) (hts _ (List.mem_cons_of_mem _ wd_247)) (hts _ (List.mem_cons_of_mem _ wd_53)) hstr (x_hat_55 hts hX) x_good_55 hX.1 hX.2.1 hS (hsz.trans hml.symm) d_HT_in_8 d_HT_in_11 d_HT_in_12 d_HT_in_14 d_HT_in_17 (fun x hx9 => (htab x hx9).elim) (by decide) (by decide) (by decide) (by decide) hlocks (fun t hvm hz hk => ?_) hS.2.2 (by decide) (by decide)
    obtain ⟨hP9, hF9⟩ := cl_thrown hP hS hz hk
    exact ⟨(1, u), hres, ⟨rfl, hP9, va_K.moved hvm hK, hD⟩, hF9⟩
  have thr_28 : ∀ (u : Unit) (H : Heap) (locs : List Loc) (ls : Array Slot), res = .inr (2, u) → va_P (dC, dI) vwCl (uw_HT ad_ht cA_ht (ad_rd 0) (ad_sp 0) (ad_mx 0) (ad_ar 0) (ad_tb 0) (ad_tc 0) ht ++ (uw_Mixture ad_mx cA_mx mx ++ (uw_Surroundings ad_ar cA_ar ar ++ (uw_Table ad_tb cA_tb tb)))) H → va_D A (uw_HT ad_ht cA_ht (ad_rd 0) (ad_sp 0) (ad_mx 0) (ad_ar 0) (ad_tb 0) (ad_tc 0) ht ++ (uw_Mixture ad_mx cA_mx mx ++ (uw_Surroundings ad_ar cA_ar ar ++ (uw_Table ad_tb cA_tb tb)))) → va_S A s.heap H locs → ls.size = 3 → W p l e (headSpec w_HT_in ({ frames := 6, cells := 1, slots := 6, locals := 82 })).room s m ([.ref (ad_ht 0), .int x1, .int x2] : List Value).toArray below meth c H locs 0 0 (vx_MQ below (va_Qi (fun (r : Int32) (u : Unit) => ∃ b : Bool, r = bI b ∧ res = .inl b) (fun (u : Unit) (t : State) => va_P (dC, dI) vwCl (uw_HT ad_ht cA_ht (ad_rd 0) (ad_sp 0) (ad_mx 0) (ad_ar 0) (ad_tb 0) (ad_tc 0) ht ++ (uw_Mixture ad_mx cA_mx mx ++ (uw_Surroundings ad_ar cA_ar ar ++ (uw_Table ad_tb cA_tb tb)))) t.heap ∧ va_K (dC, dI) vwCl [(cA_ht 1, .int), (cA_mx 1, .int), (cA_mx 2, .int), (cA_mx 3, .boolean), (cA_ar 1, .int), (cA_ar 2, .int), (cA_ar 3, .int), (cA_tb 1, .int), (cA_tb 2, .int), (cA_tb 3, .int), (cA_tb 4, .byte)] t ∧ va_D A (uw_HT ad_ht cA_ht (ad_rd 0) (ad_sp 0) (ad_mx 0) (ad_ar 0) (ad_tb 0) (ad_tc 0) ht ++ (uw_Mixture ad_mx cA_mx mx ++ (uw_Surroundings ad_ar cA_ar ar ++ (uw_Table ad_tb cA_tb tb))))) A) (vx_X (fun (u : Nat × (Unit)) => res = .inr u) (fun (E : String) (u : Nat × (Unit)) (t : State) => E = xn u.1 ∧ va_P (dC, dI) vwCl (uw_HT ad_ht cA_ht (ad_rd 0) (ad_sp 0) (ad_mx 0) (ad_ar 0) (ad_tb 0) (ad_tc 0) ht ++ (uw_Mixture ad_mx cA_mx mx ++ (uw_Surroundings ad_ar cA_ar ar ++ (uw_Table ad_tb cA_tb tb)))) t.heap ∧ va_K (dC, dI) vwCl [(cA_ht 1, .int), (cA_mx 1, .int), (cA_mx 2, .int), (cA_mx 3, .boolean), (cA_ar 1, .int), (cA_ar 2, .int), (cA_ar 3, .int), (cA_tb 1, .int), (cA_tb 2, .int), (cA_tb 3, .int), (cA_tb 4, .byte)] t ∧ va_D A (uw_HT ad_ht cA_ht (ad_rd 0) (ad_sp 0) (ad_mx 0) (ad_ar 0) (ad_tb 0) (ad_tc 0) ht ++ (uw_Mixture ad_mx cA_mx mx ++ (uw_Surroundings ad_ar cA_ar ar ++ (uw_Table ad_tb cA_tb tb))))) A) ([.ref (ad_ht 0), .int x1, .int x2] : List Value).toArray s 1 6 A) (F0 m 28 ls []) := by
    intro u H locs ls hres hP hD hS hsz
    obtain ⟨sa, hstr⟩ := hX.2.2.1 (154, "the mixture is empty") (by decide)
    refine vx_throwS (cls := "java/lang/IllegalStateException") (text := "the mixture is empty") (names := xch) (ik := 75) (is := 154) (ic := 79) (sa := sa) hx hb htr hown (by decide) (by decide) (hts _ (List.mem_cons_of_mem _ wd_446)) (hts _ (List.mem_cons_of_mem _ wd_55)) hstr (x_hat_79 hts hX) x_good_79 hX.1 hX.2.1 hS (hsz.trans hml.symm) d_HT_in_28 d_HT_in_31 d_HT_in_32 d_HT_in_34 d_HT_in_37 (fun x hx9 => (htab x hx9).elim) (by decide) (by decide) (by decide) (by decide) hlocks (fun t hvm hz hk => ?_) hS.2.2 (by decide) (by decide)
    obtain ⟨hP9, hF9⟩ := cl_thrown hP hS hz hk
    exact ⟨(2, u), hres, ⟨rfl, hP9, va_K.moved hvm hK, hD⟩, hF9⟩
  have ret : ∀ (v : Bool) (u : Unit) (H : Heap) (locs : List Loc) (ls : Array Slot) (pc : Nat), decode b_HT_in pc = .ok (.ireturn, 1) → res = .inl v → va_P (dC, dI) vwCl (uw_HT ad_ht cA_ht (ad_rd 0) (ad_sp 0) (ad_mx 0) (ad_ar 0) (ad_tb 0) (ad_tc 0) ht ++ (uw_Mixture ad_mx cA_mx mx ++ (uw_Surroundings ad_ar cA_ar ar ++ (uw_Table ad_tb cA_tb tb)))) H → va_D A (uw_HT ad_ht cA_ht (ad_rd 0) (ad_sp 0) (ad_mx 0) (ad_ar 0) (ad_tb 0) (ad_tc 0) ht ++ (uw_Mixture ad_mx cA_mx mx ++ (uw_Surroundings ad_ar cA_ar ar ++ (uw_Table ad_tb cA_tb tb)))) → va_S A s.heap H locs → W p l e (headSpec w_HT_in ({ frames := 6, cells := 1, slots := 6, locals := 82 })).room s m ([.ref (ad_ht 0), .int x1, .int x2] : List Value).toArray below meth c H locs 0 0 (vx_MQ below (va_Qi (fun (r : Int32) (u : Unit) => ∃ b : Bool, r = bI b ∧ res = .inl b) (fun (u : Unit) (t : State) => va_P (dC, dI) vwCl (uw_HT ad_ht cA_ht (ad_rd 0) (ad_sp 0) (ad_mx 0) (ad_ar 0) (ad_tb 0) (ad_tc 0) ht ++ (uw_Mixture ad_mx cA_mx mx ++ (uw_Surroundings ad_ar cA_ar ar ++ (uw_Table ad_tb cA_tb tb)))) t.heap ∧ va_K (dC, dI) vwCl [(cA_ht 1, .int), (cA_mx 1, .int), (cA_mx 2, .int), (cA_mx 3, .boolean), (cA_ar 1, .int), (cA_ar 2, .int), (cA_ar 3, .int), (cA_tb 1, .int), (cA_tb 2, .int), (cA_tb 3, .int), (cA_tb 4, .byte)] t ∧ va_D A (uw_HT ad_ht cA_ht (ad_rd 0) (ad_sp 0) (ad_mx 0) (ad_ar 0) (ad_tb 0) (ad_tc 0) ht ++ (uw_Mixture ad_mx cA_mx mx ++ (uw_Surroundings ad_ar cA_ar ar ++ (uw_Table ad_tb cA_tb tb))))) A) (vx_X (fun (u : Nat × (Unit)) => res = .inr u) (fun (E : String) (u : Nat × (Unit)) (t : State) => E = xn u.1 ∧ va_P (dC, dI) vwCl (uw_HT ad_ht cA_ht (ad_rd 0) (ad_sp 0) (ad_mx 0) (ad_ar 0) (ad_tb 0) (ad_tc 0) ht ++ (uw_Mixture ad_mx cA_mx mx ++ (uw_Surroundings ad_ar cA_ar ar ++ (uw_Table ad_tb cA_tb tb)))) t.heap ∧ va_K (dC, dI) vwCl [(cA_ht 1, .int), (cA_mx 1, .int), (cA_mx 2, .int), (cA_mx 3, .boolean), (cA_ar 1, .int), (cA_ar 2, .int), (cA_ar 3, .int), (cA_tb 1, .int), (cA_tb 2, .int), (cA_tb 3, .int), (cA_tb 4, .byte)] t ∧ va_D A (uw_HT ad_ht cA_ht (ad_rd 0) (ad_sp 0) (ad_mx 0) (ad_ar 0) (ad_tb 0) (ad_tc 0) ht ++ (uw_Mixture ad_mx cA_mx mx ++ (uw_Surroundings ad_ar cA_ar ar ++ (uw_Table ad_tb cA_tb tb))))) A) ([.ref (ad_ht 0), .int x1, .int x2] : List Value).toArray s 1 6 A) (F0 m pc ls [.int (bI v)]) := fun v u H locs ls pc hd hp hP hD hS => W.widen (k := 1) (n := 6) (Nat.zero_le _) (Nat.zero_le _) (vx_ret (W.zret (v := bI v) (ty := .boolean) hx hb hr (nar_bI v) (fun t ht hW => ⟨⟨bI v, u, rfl, ⟨v, rfl, hp⟩, by rw [ht]; exact hP, va_K.moved hW.alike hK, hD⟩, hS.F ht⟩) hS.2.2 hd))
  generalize (vx_MQ below (va_Qi (fun (r : Int32) (u : Unit) => ∃ b : Bool, r = bI b ∧ res = .inl b) (fun (u : Unit) (t : State) => va_P (dC, dI) vwCl (uw_HT ad_ht cA_ht (ad_rd 0) (ad_sp 0) (ad_mx 0) (ad_ar 0) (ad_tb 0) (ad_tc 0) ht ++ (uw_Mixture ad_mx cA_mx mx ++ (uw_Surroundings ad_ar cA_ar ar ++ (uw_Table ad_tb cA_tb tb)))) t.heap ∧ va_K (dC, dI) vwCl [(cA_ht 1, .int), (cA_mx 1, .int), (cA_mx 2, .int), (cA_mx 3, .boolean), (cA_ar 1, .int), (cA_ar 2, .int), (cA_ar 3, .int), (cA_tb 1, .int), (cA_tb 2, .int), (cA_tb 3, .int), (cA_tb 4, .byte)] t ∧ va_D A (uw_HT ad_ht cA_ht (ad_rd 0) (ad_sp 0) (ad_mx 0) (ad_ar 0) (ad_tb 0) (ad_tc 0) ht ++ (uw_Mixture ad_mx cA_mx mx ++ (uw_Surroundings ad_ar cA_ar ar ++ (uw_Table ad_tb cA_tb tb))))) A) (vx_X (fun (u : Nat × (Unit)) => res = .inr u) (fun (E : String) (u : Nat × (Unit)) (t : State) => E = xn u.1 ∧ va_P (dC, dI) vwCl (uw_HT ad_ht cA_ht (ad_rd 0) (ad_sp 0) (ad_mx 0) (ad_ar 0) (ad_tb 0) (ad_tc 0) ht ++ (uw_Mixture ad_mx cA_mx mx ++ (uw_Surroundings ad_ar cA_ar ar ++ (uw_Table ad_tb cA_tb tb)))) t.heap ∧ va_K (dC, dI) vwCl [(cA_ht 1, .int), (cA_mx 1, .int), (cA_mx 2, .int), (cA_mx 3, .boolean), (cA_ar 1, .int), (cA_ar 2, .int), (cA_ar 3, .int), (cA_tb 1, .int), (cA_tb 2, .int), (cA_tb 3, .int), (cA_tb 4, .byte)] t ∧ va_D A (uw_HT ad_ht cA_ht (ad_rd 0) (ad_sp 0) (ad_mx 0) (ad_ar 0) (ad_tb 0) (ad_tc 0) ht ++ (uw_Mixture ad_mx cA_mx mx ++ (uw_Surroundings ad_ar cA_ar ar ++ (uw_Table ad_tb cA_tb tb))))) A) ([.ref (ad_ht 0), .int x1, .int x2] : List Value).toArray s 1 6 A) = Q at ret thr_8 thr_28 ⊢
  have hl := lv_entry ([.ref (ad_ht 0), .int x1, .int x2]) (n := 3) (Nat.le_of_ble_eq_true rfl)
  rw [lg_entry_eq]
  generalize (lg_sl ([.ref (ad_ht 0), .int x1, .int x2]) ++ List.replicate (3 - (lg_sl ([.ref (ad_ht 0), .int x1, .int x2])).length) Slot.unset).toArray = ls at hl ⊢
  have hl : lv_has ls 3 [(0, .ref (ad_ht 0)), (1, .int x1), (2, .int x2)] := hl
  have hf := hf
  rw [f_HT_in] at hf
  obtain ⟨H, hH⟩ : ∃ H : Heap, H = s.heap := ⟨_, rfl⟩
  obtain ⟨locs, hlocs⟩ : ∃ L : List Loc, L = [] := ⟨_, rfl⟩
  have hP : va_P (dC, dI) vwCl (uw_HT ad_ht cA_ht (ad_rd 0) (ad_sp 0) (ad_mx 0) (ad_ar 0) (ad_tb 0) (ad_tc 0) ht ++ (uw_Mixture ad_mx cA_mx mx ++ (uw_Surroundings ad_ar cA_ar ar ++ (uw_Table ad_tb cA_tb tb)))) H := by rw [hH]; exact hP
  have hS : va_S A s.heap H locs := by rw [hH, hlocs]; exact hS
  show W p l e (headSpec w_HT_in ({ frames := 6, cells := 1, slots := 6, locals := 82 })).room s m ([.ref (ad_ht 0), .int x1, .int x2] : List Value).toArray below meth c s.heap [] 0 0 Q (F0 m 0 ls [])
  suffices hgo : W p l e (headSpec w_HT_in ({ frames := 6, cells := 1, slots := 6, locals := 82 })).room s m ([.ref (ad_ht 0), .int x1, .int x2] : List Value).toArray below meth c H locs 0 0 Q (F0 m 0 ls []) by rw [hH, hlocs] at hgo; exact hgo
  clear hH hlocs
  refine lv_iload_n hx hb d_HT_in_0 rfl (lv_at hl 1 rfl) ?_
  refine lv_iload_n hx hb d_HT_in_1 rfl (lv_at hl 2 rfl) ?_
  obtain ⟨u1, hu1, hf⟩ := Option.bind_eq_some_iff.mp hf
  refine cl_i (wc := []) (wr := (uw_HT ad_ht cA_ht (ad_rd 0) (ad_sp 0) (ad_mx 0) (ad_ar 0) (ad_tb 0) (ad_tc 0) ht ++ (uw_Mixture ad_mx cA_mx mx ++ (uw_Surroundings ad_ar cA_ar ar ++ (uw_Table ad_tb cA_tb tb))))) (tysC := []) (wu := fun (u : Unit) => []) (wn := fun (u : Unit) => (uw_HT ad_ht cA_ht (ad_rd 0) (ad_sp 0) (ad_mx 0) (ad_ar 0) (ad_tb 0) (ad_tc 0) ht ++ (uw_Mixture ad_mx cA_mx mx ++ (uw_Surroundings ad_ar cA_ar ar ++ (uw_Table ad_tb cA_tb tb))))) [] [0, 1, 2, 3, 4, 5, 6, 7, 8, 9, 10, 11, 12, 13, 14] [0, 1, 2, 3, 4, 5, 6, 7, 8, 9, 10, 11, 12, 13, 14] [] hP hD hS hA hK rfl rfl (by decide +kernel) (by decide +kernel) (by decide +kernel) rfl (fun _ => rfl) (by decide +kernel) (fun hPc hKc hDc => (va_runS (As := [.int x1, .int x2]) (rest := []) ⟨hx, hb, hml, hown, hts⟩ (k_HT_isNoPoint l dC dI  H.size x1 x2 u1 hu1) (cwS 2 hts (gS wd_653 wd_654 wd_43 wd_655) rfl rfl rfl (by decide +kernel) ⟨Nat.le_of_ble_eq_true rfl, Nat.le_of_ble_eq_true rfl⟩) (cl_preS hPc hKc hDc hN) rfl rfl hl.1 rfl (lv_room (Nat.le_of_ble_eq_true rfl)) d_HT_in_2 ⟨Nat.le_of_ble_eq_true rfl, Nat.le_of_ble_eq_true rfl⟩)) (fun r u H locs hw hP hD hS => ?_)
  have hw := hw.symm
  subst hw
  have hP : va_P (dC, dI) vwCl (uw_HT ad_ht cA_ht (ad_rd 0) (ad_sp 0) (ad_mx 0) (ad_ar 0) (ad_tb 0) (ad_tc 0) ht ++ (uw_Mixture ad_mx cA_mx mx ++ (uw_Surroundings ad_ar cA_ar ar ++ (uw_Table ad_tb cA_tb tb)))) H := hP
  have hD : va_D A (uw_HT ad_ht cA_ht (ad_rd 0) (ad_sp 0) (ad_mx 0) (ad_ar 0) (ad_tb 0) (ad_tc 0) ht ++ (uw_Mixture ad_mx cA_mx mx ++ (uw_Surroundings ad_ar cA_ar ar ++ (uw_Table ad_tb cA_tb tb)))) := hD
  refine lv_if_eq (tgt := 18) hx hb d_HT_in_5 (by decide) (fun hc2 => ?_) (fun hc2 => ?_)
  · have hf := hf_t hf hc2
    refine lv_aload_n hx hb d_HT_in_18 rfl (lv_at hl 0 rfl) ?_
    refine va_get (D := (dC, dI)) (ci := 5) (v := .ref (ad_mx 0)) (C := "HazardTables") (T := F_HT) (N := 7) hx hb hts hin_HT hown hK hP 0 rfl rfl 2 (by decide) fl_26 (fun _ h9 => h9) rfl d_HT_in_19 ?_
    refine va_get (D := (dC, dI)) (ci := 0) (v := .int mx.2.2.2.1) (C := "HazardTables$Mixture") (T := F_Mixture) (N := 5) hx hb hts hin_Mixture hown hK hP 2 rfl rfl 3 (by decide) fl_151 (fun _ h9 => h9) rfl d_HT_in_22 ?_
    refine lv_if_ne (tgt := 38) hx hb d_HT_in_25 (by decide) (fun hc3 => ?_) (fun hc3 => ?_)
    · have hf := hf_f hf hc3
      refine lv_aload_n hx hb d_HT_in_38 rfl (lv_at hl 0 rfl) ?_
      refine va_get (D := (dC, dI)) (ci := 5) (v := .ref (ad_ar 0)) (C := "HazardTables") (T := F_HT) (N := 7) hx hb hts hin_HT hown hK hP 0 rfl rfl 3 (by decide) fl_33 (fun _ h9 => h9) rfl d_HT_in_39 ?_
      refine lv_iload_n hx hb d_HT_in_42 rfl (lv_at hl 1 rfl) ?_
      refine lv_iload_n hx hb d_HT_in_43 rfl (lv_at hl 2 rfl) ?_
      refine lv_aload_n hx hb d_HT_in_44 rfl (lv_at hl 0 rfl) ?_
      refine va_get (D := (dC, dI)) (ci := 5) (v := .ref (ad_mx 0)) (C := "HazardTables") (T := F_HT) (N := 7) hx hb hts hin_HT hown hK hP 0 rfl rfl 2 (by decide) fl_26 (fun _ h9 => h9) rfl d_HT_in_45 ?_
      refine lv_aload_n hx hb d_HT_in_48 rfl (lv_at hl 0 rfl) ?_
      refine va_get (D := (dC, dI)) (ci := 5) (v := .ref (ad_tb 0)) (C := "HazardTables") (T := F_HT) (N := 7) hx hb hts hin_HT hown hK hP 0 rfl rfl 5 (by decide) fl_44 (fun _ h9 => h9) rfl d_HT_in_49 ?_
      refine lv_aload_n hx hb d_HT_in_52 rfl (lv_at hl 0 rfl) ?_
      refine va_get (D := (dC, dI)) (ci := 5) (v := .ref (ad_ar 0)) (C := "HazardTables") (T := F_HT) (N := 7) hx hb hts hin_HT hown hK hP 0 rfl rfl 3 (by decide) fl_33 (fun _ h9 => h9) rfl d_HT_in_53 ?_
      refine va_get (D := (dC, dI)) (ci := 3) (v := .int (bI ar.2.2.2.2.2.2.2)) (C := "HazardTables$Surroundings") (T := F_Surroundings) (N := 8) hx hb hts hin_Surroundings hown hK hP 6 rfl rfl 7 (by decide) fl_189 (fun _ h9 => h9) rfl d_HT_in_56 ?_
      obtain ⟨u4, hu4, hf⟩ := Option.bind_eq_some_iff.mp hf
      refine cl_i (wc := (uw_Mixture ad_mx cA_mx mx ++ (uw_Table ad_tb cA_tb tb))) (wr := (uw_HT ad_ht cA_ht (ad_rd 0) (ad_sp 0) (ad_mx 0) (ad_ar 0) (ad_tb 0) (ad_tc 0) ht ++ (uw_Surroundings ad_ar cA_ar ar))) (tysC := [(cA_mx 1, .int), (cA_mx 2, .int), (cA_mx 3, .boolean), (cA_tb 1, .int), (cA_tb 2, .int), (cA_tb 3, .int), (cA_tb 4, .byte)]) (wu := fun (u : Unit) => (uw_Mixture ad_mx cA_mx mx ++ (uw_Table ad_tb cA_tb tb))) (wn := fun (u : Unit) => (uw_HT ad_ht cA_ht (ad_rd 0) (ad_sp 0) (ad_mx 0) (ad_ar 0) (ad_tb 0) (ad_tc 0) ht ++ (uw_Mixture ad_mx cA_mx mx ++ (uw_Surroundings ad_ar cA_ar ar ++ (uw_Table ad_tb cA_tb tb))))) [2, 3, 4, 5, 10, 11, 12, 13, 14] [0, 1, 6, 7, 8, 9] [0, 1, 6, 7, 8, 9, 2, 3, 4, 5, 10, 11, 12, 13, 14] [1, 2, 3, 7, 8, 9, 10] hP hD hS hA hK rfl rfl (by decide +kernel) (by decide +kernel) (by decide +kernel) rfl (fun _ => rfl) (by decide +kernel) (fun hPc hKc hDc => (va_runV (As := [.ref (ad_tb 0), .int (bI ar.2.2.2.2.2.2.2)]) (rest := [.int x2, .int x1, .ref (ad_ar 0)]) ⟨hx, hb, hml, hown, hts⟩ (k_Mixture_distance l dC dI ad_mx cA_mx ad_tb cA_tb H.size mx tb ar.2.2.2.2.2.2.2 u4 hu4) (cwV 2 hts (gV wd_626 wd_627 wd_628 wd_46 wd_629) rfl rfl rfl (by decide +kernel) ⟨Nat.le_of_ble_eq_true rfl, Nat.le_of_ble_eq_true rfl⟩) (cl_preV hPc hKc hDc hN (ci := 0) 0 rfl rfl) rfl rfl hl.1 rfl (lv_room (Nat.le_of_ble_eq_true rfl)) d_HT_in_59 ⟨Nat.le_of_ble_eq_true rfl, Nat.le_of_ble_eq_true rfl⟩)) (fun r u H locs hw hP hD hS => ?_)
      have hw := hw.symm
      subst hw
      have hP : va_P (dC, dI) vwCl (uw_HT ad_ht cA_ht (ad_rd 0) (ad_sp 0) (ad_mx 0) (ad_ar 0) (ad_tb 0) (ad_tc 0) ht ++ (uw_Mixture ad_mx cA_mx mx ++ (uw_Surroundings ad_ar cA_ar ar ++ (uw_Table ad_tb cA_tb tb)))) H := hP
      have hD : va_D A (uw_HT ad_ht cA_ht (ad_rd 0) (ad_sp 0) (ad_mx 0) (ad_ar 0) (ad_tb 0) (ad_tc 0) ht ++ (uw_Mixture ad_mx cA_mx mx ++ (uw_Surroundings ad_ar cA_ar ar ++ (uw_Table ad_tb cA_tb tb)))) := hD
      obtain ⟨u5, hu5, hf⟩ := Option.bind_eq_some_iff.mp hf
      refine cl_i (wc := (uw_Surroundings ad_ar cA_ar ar)) (wr := (uw_HT ad_ht cA_ht (ad_rd 0) (ad_sp 0) (ad_mx 0) (ad_ar 0) (ad_tb 0) (ad_tc 0) ht ++ (uw_Mixture ad_mx cA_mx mx ++ (uw_Table ad_tb cA_tb tb)))) (tysC := [(cA_ar 1, .int), (cA_ar 2, .int), (cA_ar 3, .int)]) (wu := fun (u : Unit) => (uw_Surroundings ad_ar cA_ar ar)) (wn := fun (u : Unit) => (uw_HT ad_ht cA_ht (ad_rd 0) (ad_sp 0) (ad_mx 0) (ad_ar 0) (ad_tb 0) (ad_tc 0) ht ++ (uw_Mixture ad_mx cA_mx mx ++ (uw_Surroundings ad_ar cA_ar ar ++ (uw_Table ad_tb cA_tb tb))))) [6, 7, 8, 9] [0, 1, 2, 3, 4, 5, 10, 11, 12, 13, 14] [0, 1, 2, 3, 4, 5, 11, 12, 13, 14, 6, 7, 8, 9, 10] [4, 5, 6] hP hD hS hA hK rfl rfl (by decide +kernel) (by decide +kernel) (by decide +kernel) rfl (fun _ => rfl) (by decide +kernel) (fun hPc hKc hDc => (va_runV (As := [.int x1, .int x2, .int u4]) (rest := []) ⟨hx, hb, hml, hown, hts⟩ (k_Surroundings_covers l dC dI ad_ar cA_ar H.size ar x1 x2 u4 u5 hu5) (cwV 3 hts (gV wd_712 wd_687 wd_688 wd_47 wd_689) rfl rfl rfl (by decide +kernel) ⟨Nat.le_of_ble_eq_true rfl, Nat.le_of_ble_eq_true rfl⟩) (cl_preV hPc hKc hDc hN (ci := 3) 0 rfl rfl) rfl rfl hl.1 rfl (lv_room (Nat.le_of_ble_eq_true rfl)) d_HT_in_62 ⟨Nat.le_of_ble_eq_true rfl, Nat.le_of_ble_eq_true rfl⟩)) (fun r u H locs hw hP hD hS => ?_)
      have hw := hw.symm
      subst hw
      have hP : va_P (dC, dI) vwCl (uw_HT ad_ht cA_ht (ad_rd 0) (ad_sp 0) (ad_mx 0) (ad_ar 0) (ad_tb 0) (ad_tc 0) ht ++ (uw_Mixture ad_mx cA_mx mx ++ (uw_Surroundings ad_ar cA_ar ar ++ (uw_Table ad_tb cA_tb tb)))) H := hP
      have hD : va_D A (uw_HT ad_ht cA_ht (ad_rd 0) (ad_sp 0) (ad_mx 0) (ad_ar 0) (ad_tb 0) (ad_tc 0) ht ++ (uw_Mixture ad_mx cA_mx mx ++ (uw_Surroundings ad_ar cA_ar ar ++ (uw_Table ad_tb cA_tb tb)))) := hD
      exact ret u5 () H locs ls 65 d_HT_in_65 (Option.some.inj hf).symm hP hD hS
    · have hf := hf_t hf hc3
      exact thr_28 () H locs ls (Option.some.inj hf).symm hP hD hS hl.1
  · have hf := hf_f hf hc2
    exact thr_8 () H locs ls (Option.some.inj hf).symm hP hD hS hl.1
noncomputable def f_HT_step (ht : SHT) (mx : SMixture) (tb : STable) (x1 : Int32) : Option (Sum (Int32 × SMixture) (Nat × (SMixture))) :=
  (Option.bind (f_HT_isOutside x1 (1 : Int32) (6 : Int32)) fun u1 =>
    (if (bI u1) = 0 then
      (if mx.2.2.2.1 = 0 then
        (some (.inr (2, mx)))
       else
        (if x1 = mx.2.2.2.2 then
          (Option.bind (f_Mixture_goOn mx tb) fun u5 =>
            (some (.inl (u5.1, u5.2)))
           )
         else
          (some (.inr (2, mx)))
         )
       )
     else
      (some (.inr (1, mx)))
     )
   )
set_option maxHeartbeats 4000000 in
set_option maxRecDepth 100000 in
theorem k_HT_step (l : Launch) (dC : Nat → ClassId) (dI : Nat → Nat → Nat) (ad_ht : Nat → Nat) (cA_ht : Nat → ClassId) (ad_mx : Nat → Nat) (cA_mx : Nat → ClassId) (ad_tb : Nat → Nat) (cA_tb : Nat → ClassId) (ad_rd : Nat → Nat) (cA_rd : Nat → ClassId) (ad_sp : Nat → Nat) (cA_sp : Nat → ClassId) (ad_ar : Nat → Nat) (cA_ar : Nat → ClassId) (ad_tc : Nat → Nat) (cA_tc : Nat → ClassId) (sz : Nat) (ht : SHT) (mx : SMixture) (tb : STable) (x1 : Int32) (res : Sum (Int32 × SMixture) (Nat × (SMixture))) (hf : f_HT_step ht mx tb x1 = some res) (htr : l.stackTraces = false) : vx_Met l y_HT_step w_HT_step ({ frames := 6, cells := 1, slots := 6, locals := 82 }) (xPc (dC, dI) (uw_HT ad_ht cA_ht (ad_rd 0) (ad_sp 0) (ad_mx 0) (ad_ar 0) (ad_tb 0) (ad_tc 0) ht ++ (uw_Mixture ad_mx cA_mx mx ++ (uw_Table ad_tb cA_tb tb))) [(cA_ht 1, .int), (cA_mx 1, .int), (cA_mx 2, .int), (cA_mx 3, .boolean), (cA_tb 1, .int), (cA_tb 2, .int), (cA_tb 3, .int), (cA_tb 4, .byte)] sz [.ref (ad_ht 0), .int x1]) (va_Qi (fun (r : Int32) (u : SMixture) => res = .inl (r, u)) (fun (u : SMixture) (t : State) => va_P (dC, dI) vwCl (uw_HT ad_ht cA_ht (ad_rd 0) (ad_sp 0) (ad_mx 0) (ad_ar 0) (ad_tb 0) (ad_tc 0) ht ++ (uw_Mixture ad_mx cA_mx u ++ (uw_Table ad_tb cA_tb tb))) t.heap ∧ va_K (dC, dI) vwCl [(cA_ht 1, .int), (cA_mx 1, .int), (cA_mx 2, .int), (cA_mx 3, .boolean), (cA_tb 1, .int), (cA_tb 2, .int), (cA_tb 3, .int), (cA_tb 4, .byte)] t ∧ va_D (va_A (uw_HT ad_ht cA_ht (ad_rd 0) (ad_sp 0) (ad_mx 0) (ad_ar 0) (ad_tb 0) (ad_tc 0) ht ++ (uw_Mixture ad_mx cA_mx mx ++ (uw_Table ad_tb cA_tb tb))) sz) (uw_HT ad_ht cA_ht (ad_rd 0) (ad_sp 0) (ad_mx 0) (ad_ar 0) (ad_tb 0) (ad_tc 0) ht ++ (uw_Mixture ad_mx cA_mx u ++ (uw_Table ad_tb cA_tb tb)))) (va_A (uw_HT ad_ht cA_ht (ad_rd 0) (ad_sp 0) (ad_mx 0) (ad_ar 0) (ad_tb 0) (ad_tc 0) ht ++ (uw_Mixture ad_mx cA_mx mx ++ (uw_Table ad_tb cA_tb tb))) sz)) (vx_X (fun (u : Nat × (SMixture)) => res = .inr u) (fun (E : String) (u : Nat × (SMixture)) (t : State) => E = xn u.1 ∧ va_P (dC, dI) vwCl (uw_HT ad_ht cA_ht (ad_rd 0) (ad_sp 0) (ad_mx 0) (ad_ar 0) (ad_tb 0) (ad_tc 0) ht ++ (uw_Mixture ad_mx cA_mx u.2 ++ (uw_Table ad_tb cA_tb tb))) t.heap ∧ va_K (dC, dI) vwCl [(cA_ht 1, .int), (cA_mx 1, .int), (cA_mx 2, .int), (cA_mx 3, .boolean), (cA_tb 1, .int), (cA_tb 2, .int), (cA_tb 3, .int), (cA_tb 4, .byte)] t ∧ va_D (va_A (uw_HT ad_ht cA_ht (ad_rd 0) (ad_sp 0) (ad_mx 0) (ad_ar 0) (ad_tb 0) (ad_tc 0) ht ++ (uw_Mixture ad_mx cA_mx mx ++ (uw_Table ad_tb cA_tb tb))) sz) (uw_HT ad_ht cA_ht (ad_rd 0) (ad_sp 0) (ad_mx 0) (ad_ar 0) (ad_tb 0) (ad_tc 0) ht ++ (uw_Mixture ad_mx cA_mx u.2 ++ (uw_Table ad_tb cA_tb tb)))) (va_A (uw_HT ad_ht cA_ht (ad_rd 0) (ad_sp 0) (ad_mx 0) (ad_ar 0) (ad_tb 0) (ad_tc 0) ht ++ (uw_Mixture ad_mx cA_mx mx ++ (uw_Table ad_tb cA_tb tb))) sz)) 1 6 (va_A (uw_HT ad_ht cA_ht (ad_rd 0) (ad_sp 0) (ad_mx 0) (ad_ar 0) (ad_tb 0) (ad_tc 0) ht ++ (uw_Mixture ad_mx cA_mx mx ++ (uw_Table ad_tb cA_tb tb))) sz) := by
  refine vx_ofW (cc := b_HT_step) (maxL := 2) (ret := (some .int)) (by decide) rfl ?_
  intro p e s m args below meth c s₁ B hml htab hv
  obtain ⟨rfl, hsz, hP, hK, hD0, hN, hX⟩ := hv
  have hx := B.exec
  have hb := B.bytes
  have hr := B.returns
  have hts := atoms_spec (ws := w_HT_step) B.pre
  have hown : s.vm.findClass "HazardTables" = some m.cls := findClass_of_methodNamed B.named
  have hlocks := B.notSynchronized
  subst hsz
  have hD := hD0.self (sz := s.heap.size)
  generalize hAe : va_A (uw_HT ad_ht cA_ht (ad_rd 0) (ad_sp 0) (ad_mx 0) (ad_ar 0) (ad_tb 0) (ad_tc 0) ht ++ (uw_Mixture ad_mx cA_mx mx ++ (uw_Table ad_tb cA_tb tb))) s.heap.size = A at hD hX ⊢
  have hA : ∀ q : Nat, s.heap.size ≤ q → A q := fun q h => by rw [← hAe]; exact Or.inr h
  have hS : va_S A s.heap s.heap [] := va_S.rf
  have hP : va_P (dC, dI) vwCl (uw_HT ad_ht cA_ht (ad_rd 0) (ad_sp 0) (ad_mx 0) (ad_ar 0) (ad_tb 0) (ad_tc 0) ht ++ (uw_Mixture ad_mx cA_mx mx ++ (uw_Table ad_tb cA_tb tb))) s.heap := hP
  have fl_151 := (hts _ (List.mem_cons_of_mem _ wd_125))
  have fl_212 := (hts _ (List.mem_cons_of_mem _ wd_127))
  have fl_26 := (hts _ (List.mem_cons_of_mem _ wd_206))
  have fl_44 := (hts _ (List.mem_cons_of_mem _ wd_209))
  have hin_HT : ∀ w ∈ u_ws "HazardTables" F_HT 7, w ∈ w_HT_step := fun w h => List.mem_cons_of_mem _ (hinA_HT w h)
  have hin_Mixture : ∀ w ∈ u_ws "HazardTables$Mixture" F_Mixture 5, w ∈ w_HT_step := fun w h => List.mem_cons_of_mem _ (hinA_Mixture w h)
  have thr_10 : ∀ (u : SMixture) (H : Heap) (locs : List Loc) (ls : Array Slot), res = .inr (1, u) → va_P (dC, dI) vwCl (uw_HT ad_ht cA_ht (ad_rd 0) (ad_sp 0) (ad_mx 0) (ad_ar 0) (ad_tb 0) (ad_tc 0) ht ++ (uw_Mixture ad_mx cA_mx u ++ (uw_Table ad_tb cA_tb tb))) H → va_D A (uw_HT ad_ht cA_ht (ad_rd 0) (ad_sp 0) (ad_mx 0) (ad_ar 0) (ad_tb 0) (ad_tc 0) ht ++ (uw_Mixture ad_mx cA_mx u ++ (uw_Table ad_tb cA_tb tb))) → va_S A s.heap H locs → ls.size = 2 → W p l e (headSpec w_HT_step ({ frames := 6, cells := 1, slots := 6, locals := 82 })).room s m ([.ref (ad_ht 0), .int x1] : List Value).toArray below meth c H locs 0 0 (vx_MQ below (va_Qi (fun (r : Int32) (u : SMixture) => res = .inl (r, u)) (fun (u : SMixture) (t : State) => va_P (dC, dI) vwCl (uw_HT ad_ht cA_ht (ad_rd 0) (ad_sp 0) (ad_mx 0) (ad_ar 0) (ad_tb 0) (ad_tc 0) ht ++ (uw_Mixture ad_mx cA_mx u ++ (uw_Table ad_tb cA_tb tb))) t.heap ∧ va_K (dC, dI) vwCl [(cA_ht 1, .int), (cA_mx 1, .int), (cA_mx 2, .int), (cA_mx 3, .boolean), (cA_tb 1, .int), (cA_tb 2, .int), (cA_tb 3, .int), (cA_tb 4, .byte)] t ∧ va_D A (uw_HT ad_ht cA_ht (ad_rd 0) (ad_sp 0) (ad_mx 0) (ad_ar 0) (ad_tb 0) (ad_tc 0) ht ++ (uw_Mixture ad_mx cA_mx u ++ (uw_Table ad_tb cA_tb tb)))) A) (vx_X (fun (u : Nat × (SMixture)) => res = .inr u) (fun (E : String) (u : Nat × (SMixture)) (t : State) => E = xn u.1 ∧ va_P (dC, dI) vwCl (uw_HT ad_ht cA_ht (ad_rd 0) (ad_sp 0) (ad_mx 0) (ad_ar 0) (ad_tb 0) (ad_tc 0) ht ++ (uw_Mixture ad_mx cA_mx u.2 ++ (uw_Table ad_tb cA_tb tb))) t.heap ∧ va_K (dC, dI) vwCl [(cA_ht 1, .int), (cA_mx 1, .int), (cA_mx 2, .int), (cA_mx 3, .boolean), (cA_tb 1, .int), (cA_tb 2, .int), (cA_tb 3, .int), (cA_tb 4, .byte)] t ∧ va_D A (uw_HT ad_ht cA_ht (ad_rd 0) (ad_sp 0) (ad_mx 0) (ad_ar 0) (ad_tb 0) (ad_tc 0) ht ++ (uw_Mixture ad_mx cA_mx u.2 ++ (uw_Table ad_tb cA_tb tb)))) A) ([.ref (ad_ht 0), .int x1] : List Value).toArray s 1 6 A) (F0 m 10 ls []) := by
    intro u H locs ls hres hP hD hS hsz
    obtain ⟨sa, hstr⟩ := hX.2.2.1 (210, "a step is 1 .. 6") (by decide)
    refine vx_throwS (cls := "java/lang/IndexOutOfBoundsException") (text := "a step is 1 .. 6") (names := xch) (ik := 51) (is := 210) (ic := 55) (sa := sa) hx hb htr hown (by decide) (by decide) (hts _ (List.mem_cons_of_mem _ wd_247)) (hts _ (List.mem_cons_of_mem _ wd_53)) hstr (x_hat_55 hts hX) x_good_55 hX.1 hX.2.1 hS (hsz.trans hml.symm) d_HT_step_10 d_HT_step_13 d_HT_step_14 d_HT_step_16 d_HT_step_19 (fun x hx9 => (htab x hx9).elim) (by decide) (by decide) (by decide) (by decide) hlocks (fun t hvm hz hk => ?_) hS.2.2 (by decide) (by decide)
    obtain ⟨hP9, hF9⟩ := cl_thrown hP hS hz hk
    exact ⟨(1, u), hres, ⟨rfl, hP9, va_K.moved hvm hK, hD⟩, hF9⟩
  have thr_41 : ∀ (u : SMixture) (H : Heap) (locs : List Loc) (ls : Array Slot), res = .inr (2, u) → va_P (dC, dI) vwCl (uw_HT ad_ht cA_ht (ad_rd 0) (ad_sp 0) (ad_mx 0) (ad_ar 0) (ad_tb 0) (ad_tc 0) ht ++ (uw_Mixture ad_mx cA_mx u ++ (uw_Table ad_tb cA_tb tb))) H → va_D A (uw_HT ad_ht cA_ht (ad_rd 0) (ad_sp 0) (ad_mx 0) (ad_ar 0) (ad_tb 0) (ad_tc 0) ht ++ (uw_Mixture ad_mx cA_mx u ++ (uw_Table ad_tb cA_tb tb))) → va_S A s.heap H locs → ls.size = 2 → W p l e (headSpec w_HT_step ({ frames := 6, cells := 1, slots := 6, locals := 82 })).room s m ([.ref (ad_ht 0), .int x1] : List Value).toArray below meth c H locs 0 0 (vx_MQ below (va_Qi (fun (r : Int32) (u : SMixture) => res = .inl (r, u)) (fun (u : SMixture) (t : State) => va_P (dC, dI) vwCl (uw_HT ad_ht cA_ht (ad_rd 0) (ad_sp 0) (ad_mx 0) (ad_ar 0) (ad_tb 0) (ad_tc 0) ht ++ (uw_Mixture ad_mx cA_mx u ++ (uw_Table ad_tb cA_tb tb))) t.heap ∧ va_K (dC, dI) vwCl [(cA_ht 1, .int), (cA_mx 1, .int), (cA_mx 2, .int), (cA_mx 3, .boolean), (cA_tb 1, .int), (cA_tb 2, .int), (cA_tb 3, .int), (cA_tb 4, .byte)] t ∧ va_D A (uw_HT ad_ht cA_ht (ad_rd 0) (ad_sp 0) (ad_mx 0) (ad_ar 0) (ad_tb 0) (ad_tc 0) ht ++ (uw_Mixture ad_mx cA_mx u ++ (uw_Table ad_tb cA_tb tb)))) A) (vx_X (fun (u : Nat × (SMixture)) => res = .inr u) (fun (E : String) (u : Nat × (SMixture)) (t : State) => E = xn u.1 ∧ va_P (dC, dI) vwCl (uw_HT ad_ht cA_ht (ad_rd 0) (ad_sp 0) (ad_mx 0) (ad_ar 0) (ad_tb 0) (ad_tc 0) ht ++ (uw_Mixture ad_mx cA_mx u.2 ++ (uw_Table ad_tb cA_tb tb))) t.heap ∧ va_K (dC, dI) vwCl [(cA_ht 1, .int), (cA_mx 1, .int), (cA_mx 2, .int), (cA_mx 3, .boolean), (cA_tb 1, .int), (cA_tb 2, .int), (cA_tb 3, .int), (cA_tb 4, .byte)] t ∧ va_D A (uw_HT ad_ht cA_ht (ad_rd 0) (ad_sp 0) (ad_mx 0) (ad_ar 0) (ad_tb 0) (ad_tc 0) ht ++ (uw_Mixture ad_mx cA_mx u.2 ++ (uw_Table ad_tb cA_tb tb)))) A) ([.ref (ad_ht 0), .int x1] : List Value).toArray s 1 6 A) (F0 m 41 ls []) := by
    intro u H locs ls hres hP hD hS hsz
    obtain ⟨sa, hstr⟩ := hX.2.2.1 (215, "not the next step, or the mixture is empty") (by decide)
    refine vx_throwS (cls := "java/lang/IllegalStateException") (text := "not the next step, or the mixture is empty") (names := xch) (ik := 75) (is := 215) (ic := 79) (sa := sa) hx hb htr hown (by decide) (by decide) (hts _ (List.mem_cons_of_mem _ wd_446)) (hts _ (List.mem_cons_of_mem _ wd_55)) hstr (x_hat_79 hts hX) x_good_79 hX.1 hX.2.1 hS (hsz.trans hml.symm) d_HT_step_41 d_HT_step_44 d_HT_step_45 d_HT_step_47 d_HT_step_50 (fun x hx9 => (htab x hx9).elim) (by decide) (by decide) (by decide) (by decide) hlocks (fun t hvm hz hk => ?_) hS.2.2 (by decide) (by decide)
    obtain ⟨hP9, hF9⟩ := cl_thrown hP hS hz hk
    exact ⟨(2, u), hres, ⟨rfl, hP9, va_K.moved hvm hK, hD⟩, hF9⟩
  have ret : ∀ (v : Int32) (u : SMixture) (H : Heap) (locs : List Loc) (ls : Array Slot) (pc : Nat), decode b_HT_step pc = .ok (.ireturn, 1) → res = .inl (v, u) → va_P (dC, dI) vwCl (uw_HT ad_ht cA_ht (ad_rd 0) (ad_sp 0) (ad_mx 0) (ad_ar 0) (ad_tb 0) (ad_tc 0) ht ++ (uw_Mixture ad_mx cA_mx u ++ (uw_Table ad_tb cA_tb tb))) H → va_D A (uw_HT ad_ht cA_ht (ad_rd 0) (ad_sp 0) (ad_mx 0) (ad_ar 0) (ad_tb 0) (ad_tc 0) ht ++ (uw_Mixture ad_mx cA_mx u ++ (uw_Table ad_tb cA_tb tb))) → va_S A s.heap H locs → W p l e (headSpec w_HT_step ({ frames := 6, cells := 1, slots := 6, locals := 82 })).room s m ([.ref (ad_ht 0), .int x1] : List Value).toArray below meth c H locs 0 0 (vx_MQ below (va_Qi (fun (r : Int32) (u : SMixture) => res = .inl (r, u)) (fun (u : SMixture) (t : State) => va_P (dC, dI) vwCl (uw_HT ad_ht cA_ht (ad_rd 0) (ad_sp 0) (ad_mx 0) (ad_ar 0) (ad_tb 0) (ad_tc 0) ht ++ (uw_Mixture ad_mx cA_mx u ++ (uw_Table ad_tb cA_tb tb))) t.heap ∧ va_K (dC, dI) vwCl [(cA_ht 1, .int), (cA_mx 1, .int), (cA_mx 2, .int), (cA_mx 3, .boolean), (cA_tb 1, .int), (cA_tb 2, .int), (cA_tb 3, .int), (cA_tb 4, .byte)] t ∧ va_D A (uw_HT ad_ht cA_ht (ad_rd 0) (ad_sp 0) (ad_mx 0) (ad_ar 0) (ad_tb 0) (ad_tc 0) ht ++ (uw_Mixture ad_mx cA_mx u ++ (uw_Table ad_tb cA_tb tb)))) A) (vx_X (fun (u : Nat × (SMixture)) => res = .inr u) (fun (E : String) (u : Nat × (SMixture)) (t : State) => E = xn u.1 ∧ va_P (dC, dI) vwCl (uw_HT ad_ht cA_ht (ad_rd 0) (ad_sp 0) (ad_mx 0) (ad_ar 0) (ad_tb 0) (ad_tc 0) ht ++ (uw_Mixture ad_mx cA_mx u.2 ++ (uw_Table ad_tb cA_tb tb))) t.heap ∧ va_K (dC, dI) vwCl [(cA_ht 1, .int), (cA_mx 1, .int), (cA_mx 2, .int), (cA_mx 3, .boolean), (cA_tb 1, .int), (cA_tb 2, .int), (cA_tb 3, .int), (cA_tb 4, .byte)] t ∧ va_D A (uw_HT ad_ht cA_ht (ad_rd 0) (ad_sp 0) (ad_mx 0) (ad_ar 0) (ad_tb 0) (ad_tc 0) ht ++ (uw_Mixture ad_mx cA_mx u.2 ++ (uw_Table ad_tb cA_tb tb)))) A) ([.ref (ad_ht 0), .int x1] : List Value).toArray s 1 6 A) (F0 m pc ls [.int v]) := fun v u H locs ls pc hd hp hP hD hS => W.widen (k := 1) (n := 6) (Nat.zero_le _) (Nat.zero_le _) (vx_ret (W.iret (v := v) hx hb hr (fun t ht hW => ⟨⟨v, u, rfl, hp, by rw [ht]; exact hP, va_K.moved hW.alike hK, hD⟩, hS.F ht⟩) hS.2.2 hd))
  generalize (vx_MQ below (va_Qi (fun (r : Int32) (u : SMixture) => res = .inl (r, u)) (fun (u : SMixture) (t : State) => va_P (dC, dI) vwCl (uw_HT ad_ht cA_ht (ad_rd 0) (ad_sp 0) (ad_mx 0) (ad_ar 0) (ad_tb 0) (ad_tc 0) ht ++ (uw_Mixture ad_mx cA_mx u ++ (uw_Table ad_tb cA_tb tb))) t.heap ∧ va_K (dC, dI) vwCl [(cA_ht 1, .int), (cA_mx 1, .int), (cA_mx 2, .int), (cA_mx 3, .boolean), (cA_tb 1, .int), (cA_tb 2, .int), (cA_tb 3, .int), (cA_tb 4, .byte)] t ∧ va_D A (uw_HT ad_ht cA_ht (ad_rd 0) (ad_sp 0) (ad_mx 0) (ad_ar 0) (ad_tb 0) (ad_tc 0) ht ++ (uw_Mixture ad_mx cA_mx u ++ (uw_Table ad_tb cA_tb tb)))) A) (vx_X (fun (u : Nat × (SMixture)) => res = .inr u) (fun (E : String) (u : Nat × (SMixture)) (t : State) => E = xn u.1 ∧ va_P (dC, dI) vwCl (uw_HT ad_ht cA_ht (ad_rd 0) (ad_sp 0) (ad_mx 0) (ad_ar 0) (ad_tb 0) (ad_tc 0) ht ++ (uw_Mixture ad_mx cA_mx u.2 ++ (uw_Table ad_tb cA_tb tb))) t.heap ∧ va_K (dC, dI) vwCl [(cA_ht 1, .int), (cA_mx 1, .int), (cA_mx 2, .int), (cA_mx 3, .boolean), (cA_tb 1, .int), (cA_tb 2, .int), (cA_tb 3, .int), (cA_tb 4, .byte)] t ∧ va_D A (uw_HT ad_ht cA_ht (ad_rd 0) (ad_sp 0) (ad_mx 0) (ad_ar 0) (ad_tb 0) (ad_tc 0) ht ++ (uw_Mixture ad_mx cA_mx u.2 ++ (uw_Table ad_tb cA_tb tb)))) A) ([.ref (ad_ht 0), .int x1] : List Value).toArray s 1 6 A) = Q at ret thr_10 thr_41 ⊢
  have hl := lv_entry ([.ref (ad_ht 0), .int x1]) (n := 2) (Nat.le_of_ble_eq_true rfl)
  rw [lg_entry_eq]
  generalize (lg_sl ([.ref (ad_ht 0), .int x1]) ++ List.replicate (2 - (lg_sl ([.ref (ad_ht 0), .int x1])).length) Slot.unset).toArray = ls at hl ⊢
  have hl : lv_has ls 2 [(0, .ref (ad_ht 0)), (1, .int x1)] := hl
  have hf := hf
  rw [f_HT_step] at hf
  obtain ⟨H, hH⟩ : ∃ H : Heap, H = s.heap := ⟨_, rfl⟩
  obtain ⟨locs, hlocs⟩ : ∃ L : List Loc, L = [] := ⟨_, rfl⟩
  have hP : va_P (dC, dI) vwCl (uw_HT ad_ht cA_ht (ad_rd 0) (ad_sp 0) (ad_mx 0) (ad_ar 0) (ad_tb 0) (ad_tc 0) ht ++ (uw_Mixture ad_mx cA_mx mx ++ (uw_Table ad_tb cA_tb tb))) H := by rw [hH]; exact hP
  have hS : va_S A s.heap H locs := by rw [hH, hlocs]; exact hS
  show W p l e (headSpec w_HT_step ({ frames := 6, cells := 1, slots := 6, locals := 82 })).room s m ([.ref (ad_ht 0), .int x1] : List Value).toArray below meth c s.heap [] 0 0 Q (F0 m 0 ls [])
  suffices hgo : W p l e (headSpec w_HT_step ({ frames := 6, cells := 1, slots := 6, locals := 82 })).room s m ([.ref (ad_ht 0), .int x1] : List Value).toArray below meth c H locs 0 0 Q (F0 m 0 ls []) by rw [hH, hlocs] at hgo; exact hgo
  clear hH hlocs
  refine lv_iload_n hx hb d_HT_step_0 rfl (lv_at hl 1 rfl) ?_
  refine lv_iconst (v := (1 : Int32)) hx hb d_HT_step_1 (by decide) ?_
  refine lv_bipush (v := (6 : Int32)) hx hb d_HT_step_2 (by decide) ?_
  obtain ⟨u1, hu1, hf⟩ := Option.bind_eq_some_iff.mp hf
  refine cl_i (wc := []) (wr := (uw_HT ad_ht cA_ht (ad_rd 0) (ad_sp 0) (ad_mx 0) (ad_ar 0) (ad_tb 0) (ad_tc 0) ht ++ (uw_Mixture ad_mx cA_mx mx ++ (uw_Table ad_tb cA_tb tb)))) (tysC := []) (wu := fun (u : Unit) => []) (wn := fun (u : Unit) => (uw_HT ad_ht cA_ht (ad_rd 0) (ad_sp 0) (ad_mx 0) (ad_ar 0) (ad_tb 0) (ad_tc 0) ht ++ (uw_Mixture ad_mx cA_mx mx ++ (uw_Table ad_tb cA_tb tb)))) [] [0, 1, 2, 3, 4, 5, 6, 7, 8, 9, 10] [0, 1, 2, 3, 4, 5, 6, 7, 8, 9, 10] [] hP hD hS hA hK rfl rfl (by decide +kernel) (by decide +kernel) (by decide +kernel) rfl (fun _ => rfl) (by decide +kernel) (fun hPc hKc hDc => (va_runS (As := [.int x1, .int (1 : Int32), .int (6 : Int32)]) (rest := []) ⟨hx, hb, hml, hown, hts⟩ (k_HT_isOutside l dC dI  H.size x1 (1 : Int32) (6 : Int32) u1 hu1) (cwS 3 hts (gS wd_575 wd_576 wd_43 wd_577) rfl rfl rfl (by decide +kernel) ⟨Nat.le_of_ble_eq_true rfl, Nat.le_of_ble_eq_true rfl⟩) (cl_preS hPc hKc hDc hN) rfl rfl hl.1 rfl (lv_room (Nat.le_of_ble_eq_true rfl)) d_HT_step_4 ⟨Nat.le_of_ble_eq_true rfl, Nat.le_of_ble_eq_true rfl⟩)) (fun r u H locs hw hP hD hS => ?_)
  have hw := hw.symm
  subst hw
  have hP : va_P (dC, dI) vwCl (uw_HT ad_ht cA_ht (ad_rd 0) (ad_sp 0) (ad_mx 0) (ad_ar 0) (ad_tb 0) (ad_tc 0) ht ++ (uw_Mixture ad_mx cA_mx mx ++ (uw_Table ad_tb cA_tb tb))) H := hP
  have hD : va_D A (uw_HT ad_ht cA_ht (ad_rd 0) (ad_sp 0) (ad_mx 0) (ad_ar 0) (ad_tb 0) (ad_tc 0) ht ++ (uw_Mixture ad_mx cA_mx mx ++ (uw_Table ad_tb cA_tb tb))) := hD
  refine lv_if_eq (tgt := 20) hx hb d_HT_step_7 (by decide) (fun hc2 => ?_) (fun hc2 => ?_)
  · have hf := hf_t hf hc2
    refine lv_aload_n hx hb d_HT_step_20 rfl (lv_at hl 0 rfl) ?_
    refine va_get (D := (dC, dI)) (ci := 5) (v := .ref (ad_mx 0)) (C := "HazardTables") (T := F_HT) (N := 7) hx hb hts hin_HT hown hK hP 0 rfl rfl 2 (by decide) fl_26 (fun _ h9 => h9) rfl d_HT_step_21 ?_
    refine va_get (D := (dC, dI)) (ci := 0) (v := .int mx.2.2.2.1) (C := "HazardTables$Mixture") (T := F_Mixture) (N := 5) hx hb hts hin_Mixture hown hK hP 2 rfl rfl 3 (by decide) fl_151 (fun _ h9 => h9) rfl d_HT_step_24 ?_
    refine lv_if_eq (tgt := 41) hx hb d_HT_step_27 (by decide) (fun hc3 => ?_) (fun hc3 => ?_)
    · have hf := hf_t hf hc3
      exact thr_41 mx H locs ls (Option.some.inj hf).symm hP hD hS hl.1
    · have hf := hf_f hf hc3
      refine lv_iload_n hx hb d_HT_step_30 rfl (lv_at hl 1 rfl) ?_
      refine lv_aload_n hx hb d_HT_step_31 rfl (lv_at hl 0 rfl) ?_
      refine va_get (D := (dC, dI)) (ci := 5) (v := .ref (ad_mx 0)) (C := "HazardTables") (T := F_HT) (N := 7) hx hb hts hin_HT hown hK hP 0 rfl rfl 2 (by decide) fl_26 (fun _ h9 => h9) rfl d_HT_step_32 ?_
      refine va_get (D := (dC, dI)) (ci := 0) (v := .int mx.2.2.2.2) (C := "HazardTables$Mixture") (T := F_Mixture) (N := 5) hx hb hts hin_Mixture hown hK hP 2 rfl rfl 4 (by decide) fl_212 (fun _ h9 => h9) rfl d_HT_step_35 ?_
      refine lv_icmp_eq (tgt := 51) hx hb d_HT_step_38 (by decide) (fun hc4 => ?_) (fun hc4 => ?_)
      · have hf := hf_t hf hc4
        refine lv_aload_n hx hb d_HT_step_51 rfl (lv_at hl 0 rfl) ?_
        refine va_get (D := (dC, dI)) (ci := 5) (v := .ref (ad_mx 0)) (C := "HazardTables") (T := F_HT) (N := 7) hx hb hts hin_HT hown hK hP 0 rfl rfl 2 (by decide) fl_26 (fun _ h9 => h9) rfl d_HT_step_52 ?_
        refine lv_aload_n hx hb d_HT_step_55 rfl (lv_at hl 0 rfl) ?_
        refine va_get (D := (dC, dI)) (ci := 5) (v := .ref (ad_tb 0)) (C := "HazardTables") (T := F_HT) (N := 7) hx hb hts hin_HT hown hK hP 0 rfl rfl 5 (by decide) fl_44 (fun _ h9 => h9) rfl d_HT_step_56 ?_
        obtain ⟨u5, hu5, hf⟩ := Option.bind_eq_some_iff.mp hf
        refine cl_i (wc := (uw_Mixture ad_mx cA_mx mx ++ (uw_Table ad_tb cA_tb tb))) (wr := (uw_HT ad_ht cA_ht (ad_rd 0) (ad_sp 0) (ad_mx 0) (ad_ar 0) (ad_tb 0) (ad_tc 0) ht)) (tysC := [(cA_mx 1, .int), (cA_mx 2, .int), (cA_mx 3, .boolean), (cA_tb 1, .int), (cA_tb 2, .int), (cA_tb 3, .int), (cA_tb 4, .byte)]) (wu := fun (u : SMixture) => (uw_Mixture ad_mx cA_mx u ++ (uw_Table ad_tb cA_tb tb))) (wn := fun (u : SMixture) => (uw_HT ad_ht cA_ht (ad_rd 0) (ad_sp 0) (ad_mx 0) (ad_ar 0) (ad_tb 0) (ad_tc 0) ht ++ (uw_Mixture ad_mx cA_mx u ++ (uw_Table ad_tb cA_tb tb)))) [2, 3, 4, 5, 6, 7, 8, 9, 10] [0, 1] [0, 1, 2, 3, 4, 5, 6, 7, 8, 9, 10] [1, 2, 3, 4, 5, 6, 7] hP hD hS hA hK rfl rfl (by decide +kernel) (by decide +kernel) (by decide +kernel) rfl (fun _ => rfl) (by decide +kernel) (fun hPc hKc hDc => (va_runV (As := [.ref (ad_tb 0)]) (rest := []) ⟨hx, hb, hml, hown, hts⟩ (k_Mixture_goOn l dC dI ad_mx cA_mx ad_tb cA_tb H.size mx tb u5 hu5) (cwV 1 hts (gV wd_722 wd_723 wd_724 wd_46 wd_725) rfl rfl rfl (by decide +kernel) ⟨Nat.le_of_ble_eq_true rfl, Nat.le_of_ble_eq_true rfl⟩) (cl_preV hPc hKc hDc hN (ci := 0) 0 rfl rfl) rfl rfl hl.1 rfl (lv_room (Nat.le_of_ble_eq_true rfl)) d_HT_step_59 ⟨Nat.le_of_ble_eq_true rfl, Nat.le_of_ble_eq_true rfl⟩)) (fun r u H locs hw hP hD hS => ?_)
        obtain ⟨hw1, hw2⟩ := hw
        have hw1 := hw1.symm
        have hw2 := hw2.symm
        subst hw1
        subst hw2
        have hP : va_P (dC, dI) vwCl (uw_HT ad_ht cA_ht (ad_rd 0) (ad_sp 0) (ad_mx 0) (ad_ar 0) (ad_tb 0) (ad_tc 0) ht ++ (uw_Mixture ad_mx cA_mx u5.2 ++ (uw_Table ad_tb cA_tb tb))) H := hP
        have hD : va_D A (uw_HT ad_ht cA_ht (ad_rd 0) (ad_sp 0) (ad_mx 0) (ad_ar 0) (ad_tb 0) (ad_tc 0) ht ++ (uw_Mixture ad_mx cA_mx u5.2 ++ (uw_Table ad_tb cA_tb tb))) := hD
        exact ret u5.1 u5.2 H locs ls 62 d_HT_step_62 (Option.some.inj hf).symm hP hD hS
      · have hf := hf_f hf hc4
        exact thr_41 mx H locs ls (Option.some.inj hf).symm hP hD hS hl.1
  · have hf := hf_f hf hc2
    exact thr_10 mx H locs ls (Option.some.inj hf).symm hP hD hS hl.1
noncomputable def f_HT_mark (ht : SHT) (x1 : Int32) (x2 : Int32) : Option (Sum (SHT) (Nat × (SHT))) :=
  (if x1 < 0 then
    (some (.inr (0, ht)))
   else
    (if x1 < (5 : Int32) then
      (if 0 ≤ x2 then
        (if inb x1 5 then
          (some (.inl (upd ht x1.toNatClampNeg x2)))
         else none)
       else
        (some (.inr (1, ht)))
       )
     else
      (some (.inr (0, ht)))
     )
   )
set_option maxHeartbeats 4000000 in
set_option maxRecDepth 100000 in
theorem k_HT_mark (l : Launch) (dC : Nat → ClassId) (dI : Nat → Nat → Nat) (ad_ht : Nat → Nat) (cA_ht : Nat → ClassId) (ad_rd : Nat → Nat) (cA_rd : Nat → ClassId) (ad_sp : Nat → Nat) (cA_sp : Nat → ClassId) (ad_mx : Nat → Nat) (cA_mx : Nat → ClassId) (ad_ar : Nat → Nat) (cA_ar : Nat → ClassId) (ad_tb : Nat → Nat) (cA_tb : Nat → ClassId) (ad_tc : Nat → Nat) (cA_tc : Nat → ClassId) (sz : Nat) (ht : SHT) (x1 : Int32) (x2 : Int32) (res : Sum (SHT) (Nat × (SHT))) (hf : f_HT_mark ht x1 x2 = some res) (htr : l.stackTraces = false) : vx_Met l y_HT_mark w_HT_mark ({ frames := 6, cells := 1, slots := 6, locals := 82 }) (xPc (dC, dI) (uw_HT ad_ht cA_ht (ad_rd 0) (ad_sp 0) (ad_mx 0) (ad_ar 0) (ad_tb 0) (ad_tc 0) ht) [(cA_ht 1, .int)] sz [.ref (ad_ht 0), .int x1, .int x2]) (va_Qv (fun (u : SHT) => res = .inl u) (fun (u : SHT) (t : State) => va_P (dC, dI) vwCl (uw_HT ad_ht cA_ht (ad_rd 0) (ad_sp 0) (ad_mx 0) (ad_ar 0) (ad_tb 0) (ad_tc 0) u) t.heap ∧ va_K (dC, dI) vwCl [(cA_ht 1, .int)] t ∧ va_D (va_A (uw_HT ad_ht cA_ht (ad_rd 0) (ad_sp 0) (ad_mx 0) (ad_ar 0) (ad_tb 0) (ad_tc 0) ht) sz) (uw_HT ad_ht cA_ht (ad_rd 0) (ad_sp 0) (ad_mx 0) (ad_ar 0) (ad_tb 0) (ad_tc 0) u)) (va_A (uw_HT ad_ht cA_ht (ad_rd 0) (ad_sp 0) (ad_mx 0) (ad_ar 0) (ad_tb 0) (ad_tc 0) ht) sz)) (vx_X (fun (u : Nat × (SHT)) => res = .inr u) (fun (E : String) (u : Nat × (SHT)) (t : State) => E = xn u.1 ∧ va_P (dC, dI) vwCl (uw_HT ad_ht cA_ht (ad_rd 0) (ad_sp 0) (ad_mx 0) (ad_ar 0) (ad_tb 0) (ad_tc 0) u.2) t.heap ∧ va_K (dC, dI) vwCl [(cA_ht 1, .int)] t ∧ va_D (va_A (uw_HT ad_ht cA_ht (ad_rd 0) (ad_sp 0) (ad_mx 0) (ad_ar 0) (ad_tb 0) (ad_tc 0) ht) sz) (uw_HT ad_ht cA_ht (ad_rd 0) (ad_sp 0) (ad_mx 0) (ad_ar 0) (ad_tb 0) (ad_tc 0) u.2)) (va_A (uw_HT ad_ht cA_ht (ad_rd 0) (ad_sp 0) (ad_mx 0) (ad_ar 0) (ad_tb 0) (ad_tc 0) ht) sz)) 1 6 (va_A (uw_HT ad_ht cA_ht (ad_rd 0) (ad_sp 0) (ad_mx 0) (ad_ar 0) (ad_tb 0) (ad_tc 0) ht) sz) := by
  refine vx_ofW (cc := b_HT_mark) (maxL := 3) (ret := none) (by decide) rfl ?_
  intro p e s m args below meth c s₁ B hml htab hv
  obtain ⟨rfl, hsz, hP, hK, hD0, hN, hX⟩ := hv
  have hx := B.exec
  have hb := B.bytes
  have hr := B.returns
  have hts := atoms_spec (ws := w_HT_mark) B.pre
  have hown : s.vm.findClass "HazardTables" = some m.cls := findClass_of_methodNamed B.named
  have hlocks := B.notSynchronized
  subst hsz
  have hD := hD0.self (sz := s.heap.size)
  generalize hAe : va_A (uw_HT ad_ht cA_ht (ad_rd 0) (ad_sp 0) (ad_mx 0) (ad_ar 0) (ad_tb 0) (ad_tc 0) ht) s.heap.size = A at hD hX ⊢
  have hA : ∀ q : Nat, s.heap.size ≤ q → A q := fun q h => by rw [← hAe]; exact Or.inr h
  have hS : va_S A s.heap s.heap [] := va_S.rf
  have hP : va_P (dC, dI) vwCl (uw_HT ad_ht cA_ht (ad_rd 0) (ad_sp 0) (ad_mx 0) (ad_ar 0) (ad_tb 0) (ad_tc 0) ht) s.heap := hP
  have fl_37 := (hts _ (List.mem_cons_of_mem _ wd_208))
  have hin_HT : ∀ w ∈ u_ws "HazardTables" F_HT 7, w ∈ w_HT_mark := fun w h => List.mem_cons_of_mem _ (hinA_HT w h)
  have thr_9 : ∀ (u : SHT) (H : Heap) (locs : List Loc) (ls : Array Slot), res = .inr (0, u) → va_P (dC, dI) vwCl (uw_HT ad_ht cA_ht (ad_rd 0) (ad_sp 0) (ad_mx 0) (ad_ar 0) (ad_tb 0) (ad_tc 0) u) H → va_D A (uw_HT ad_ht cA_ht (ad_rd 0) (ad_sp 0) (ad_mx 0) (ad_ar 0) (ad_tb 0) (ad_tc 0) u) → va_S A s.heap H locs → ls.size = 3 → W p l e (headSpec w_HT_mark ({ frames := 6, cells := 1, slots := 6, locals := 82 })).room s m ([.ref (ad_ht 0), .int x1, .int x2] : List Value).toArray below meth c H locs 0 0 (vx_MQ below (va_Qv (fun (u : SHT) => res = .inl u) (fun (u : SHT) (t : State) => va_P (dC, dI) vwCl (uw_HT ad_ht cA_ht (ad_rd 0) (ad_sp 0) (ad_mx 0) (ad_ar 0) (ad_tb 0) (ad_tc 0) u) t.heap ∧ va_K (dC, dI) vwCl [(cA_ht 1, .int)] t ∧ va_D A (uw_HT ad_ht cA_ht (ad_rd 0) (ad_sp 0) (ad_mx 0) (ad_ar 0) (ad_tb 0) (ad_tc 0) u)) A) (vx_X (fun (u : Nat × (SHT)) => res = .inr u) (fun (E : String) (u : Nat × (SHT)) (t : State) => E = xn u.1 ∧ va_P (dC, dI) vwCl (uw_HT ad_ht cA_ht (ad_rd 0) (ad_sp 0) (ad_mx 0) (ad_ar 0) (ad_tb 0) (ad_tc 0) u.2) t.heap ∧ va_K (dC, dI) vwCl [(cA_ht 1, .int)] t ∧ va_D A (uw_HT ad_ht cA_ht (ad_rd 0) (ad_sp 0) (ad_mx 0) (ad_ar 0) (ad_tb 0) (ad_tc 0) u.2)) A) ([.ref (ad_ht 0), .int x1, .int x2] : List Value).toArray s 1 6 A) (F0 m 9 ls []) := by
    intro u H locs ls hres hP hD hS hsz
    obtain ⟨sa, hstr⟩ := hX.2.2.1 (220, "no such kind") (by decide)
    refine vx_throwS (cls := "java/lang/IllegalArgumentException") (text := "no such kind") (names := xch) (ik := 101) (is := 220) (ic := 105) (sa := sa) hx hb htr hown (by decide) (by decide) (hts _ (List.mem_cons_of_mem _ wd_479)) (hts _ (List.mem_cons_of_mem _ wd_56)) hstr (x_hat_105 hts hX) x_good_105 hX.1 hX.2.1 hS (hsz.trans hml.symm) d_HT_mark_9 d_HT_mark_12 d_HT_mark_13 d_HT_mark_15 d_HT_mark_18 (fun x hx9 => (htab x hx9).elim) (by decide) (by decide) (by decide) (by decide) hlocks (fun t hvm hz hk => ?_) hS.2.2 (by decide) (by decide)
    obtain ⟨hP9, hF9⟩ := cl_thrown hP hS hz hk
    exact ⟨(0, u), hres, ⟨rfl, hP9, va_K.moved hvm hK, hD⟩, hF9⟩
  have thr_23 : ∀ (u : SHT) (H : Heap) (locs : List Loc) (ls : Array Slot), res = .inr (1, u) → va_P (dC, dI) vwCl (uw_HT ad_ht cA_ht (ad_rd 0) (ad_sp 0) (ad_mx 0) (ad_ar 0) (ad_tb 0) (ad_tc 0) u) H → va_D A (uw_HT ad_ht cA_ht (ad_rd 0) (ad_sp 0) (ad_mx 0) (ad_ar 0) (ad_tb 0) (ad_tc 0) u) → va_S A s.heap H locs → ls.size = 3 → W p l e (headSpec w_HT_mark ({ frames := 6, cells := 1, slots := 6, locals := 82 })).room s m ([.ref (ad_ht 0), .int x1, .int x2] : List Value).toArray below meth c H locs 0 0 (vx_MQ below (va_Qv (fun (u : SHT) => res = .inl u) (fun (u : SHT) (t : State) => va_P (dC, dI) vwCl (uw_HT ad_ht cA_ht (ad_rd 0) (ad_sp 0) (ad_mx 0) (ad_ar 0) (ad_tb 0) (ad_tc 0) u) t.heap ∧ va_K (dC, dI) vwCl [(cA_ht 1, .int)] t ∧ va_D A (uw_HT ad_ht cA_ht (ad_rd 0) (ad_sp 0) (ad_mx 0) (ad_ar 0) (ad_tb 0) (ad_tc 0) u)) A) (vx_X (fun (u : Nat × (SHT)) => res = .inr u) (fun (E : String) (u : Nat × (SHT)) (t : State) => E = xn u.1 ∧ va_P (dC, dI) vwCl (uw_HT ad_ht cA_ht (ad_rd 0) (ad_sp 0) (ad_mx 0) (ad_ar 0) (ad_tb 0) (ad_tc 0) u.2) t.heap ∧ va_K (dC, dI) vwCl [(cA_ht 1, .int)] t ∧ va_D A (uw_HT ad_ht cA_ht (ad_rd 0) (ad_sp 0) (ad_mx 0) (ad_ar 0) (ad_tb 0) (ad_tc 0) u.2)) A) ([.ref (ad_ht 0), .int x1, .int x2] : List Value).toArray s 1 6 A) (F0 m 23 ls []) := by
    intro u H locs ls hres hP hD hS hsz
    obtain ⟨sa, hstr⟩ := hX.2.2.1 (222, "a mark is not below 0") (by decide)
    refine vx_throwS (cls := "java/lang/IndexOutOfBoundsException") (text := "a mark is not below 0") (names := xch) (ik := 51) (is := 222) (ic := 55) (sa := sa) hx hb htr hown (by decide) (by decide) (hts _ (List.mem_cons_of_mem _ wd_247)) (hts _ (List.mem_cons_of_mem _ wd_53)) hstr (x_hat_55 hts hX) x_good_55 hX.1 hX.2.1 hS (hsz.trans hml.symm) d_HT_mark_23 d_HT_mark_26 d_HT_mark_27 d_HT_mark_29 d_HT_mark_32 (fun x hx9 => (htab x hx9).elim) (by decide) (by decide) (by decide) (by decide) hlocks (fun t hvm hz hk => ?_) hS.2.2 (by decide) (by decide)
    obtain ⟨hP9, hF9⟩ := cl_thrown hP hS hz hk
    exact ⟨(1, u), hres, ⟨rfl, hP9, va_K.moved hvm hK, hD⟩, hF9⟩
  have ret : ∀ (u : SHT) (H : Heap) (locs : List Loc) (ls : Array Slot) (pc : Nat), decode b_HT_mark pc = .ok (.return_, 1) → res = .inl u → va_P (dC, dI) vwCl (uw_HT ad_ht cA_ht (ad_rd 0) (ad_sp 0) (ad_mx 0) (ad_ar 0) (ad_tb 0) (ad_tc 0) u) H → va_D A (uw_HT ad_ht cA_ht (ad_rd 0) (ad_sp 0) (ad_mx 0) (ad_ar 0) (ad_tb 0) (ad_tc 0) u) → va_S A s.heap H locs → W p l e (headSpec w_HT_mark ({ frames := 6, cells := 1, slots := 6, locals := 82 })).room s m ([.ref (ad_ht 0), .int x1, .int x2] : List Value).toArray below meth c H locs 0 0 (vx_MQ below (va_Qv (fun (u : SHT) => res = .inl u) (fun (u : SHT) (t : State) => va_P (dC, dI) vwCl (uw_HT ad_ht cA_ht (ad_rd 0) (ad_sp 0) (ad_mx 0) (ad_ar 0) (ad_tb 0) (ad_tc 0) u) t.heap ∧ va_K (dC, dI) vwCl [(cA_ht 1, .int)] t ∧ va_D A (uw_HT ad_ht cA_ht (ad_rd 0) (ad_sp 0) (ad_mx 0) (ad_ar 0) (ad_tb 0) (ad_tc 0) u)) A) (vx_X (fun (u : Nat × (SHT)) => res = .inr u) (fun (E : String) (u : Nat × (SHT)) (t : State) => E = xn u.1 ∧ va_P (dC, dI) vwCl (uw_HT ad_ht cA_ht (ad_rd 0) (ad_sp 0) (ad_mx 0) (ad_ar 0) (ad_tb 0) (ad_tc 0) u.2) t.heap ∧ va_K (dC, dI) vwCl [(cA_ht 1, .int)] t ∧ va_D A (uw_HT ad_ht cA_ht (ad_rd 0) (ad_sp 0) (ad_mx 0) (ad_ar 0) (ad_tb 0) (ad_tc 0) u.2)) A) ([.ref (ad_ht 0), .int x1, .int x2] : List Value).toArray s 1 6 A) (F0 m pc ls []) := fun u H locs ls pc hd hp hP hD hS => W.widen (k := 1) (n := 6) (Nat.zero_le _) (Nat.zero_le _) (vx_ret (W.vret hx hb hr (fun t ht hW => ⟨⟨u, rfl, hp, by rw [ht]; exact hP, va_K.moved hW.alike hK, hD⟩, hS.F ht⟩) hS.2.2 hd))
  generalize (vx_MQ below (va_Qv (fun (u : SHT) => res = .inl u) (fun (u : SHT) (t : State) => va_P (dC, dI) vwCl (uw_HT ad_ht cA_ht (ad_rd 0) (ad_sp 0) (ad_mx 0) (ad_ar 0) (ad_tb 0) (ad_tc 0) u) t.heap ∧ va_K (dC, dI) vwCl [(cA_ht 1, .int)] t ∧ va_D A (uw_HT ad_ht cA_ht (ad_rd 0) (ad_sp 0) (ad_mx 0) (ad_ar 0) (ad_tb 0) (ad_tc 0) u)) A) (vx_X (fun (u : Nat × (SHT)) => res = .inr u) (fun (E : String) (u : Nat × (SHT)) (t : State) => E = xn u.1 ∧ va_P (dC, dI) vwCl (uw_HT ad_ht cA_ht (ad_rd 0) (ad_sp 0) (ad_mx 0) (ad_ar 0) (ad_tb 0) (ad_tc 0) u.2) t.heap ∧ va_K (dC, dI) vwCl [(cA_ht 1, .int)] t ∧ va_D A (uw_HT ad_ht cA_ht (ad_rd 0) (ad_sp 0) (ad_mx 0) (ad_ar 0) (ad_tb 0) (ad_tc 0) u.2)) A) ([.ref (ad_ht 0), .int x1, .int x2] : List Value).toArray s 1 6 A) = Q at ret thr_9 thr_23 ⊢
  have hl := lv_entry ([.ref (ad_ht 0), .int x1, .int x2]) (n := 3) (Nat.le_of_ble_eq_true rfl)
  rw [lg_entry_eq]
  generalize (lg_sl ([.ref (ad_ht 0), .int x1, .int x2]) ++ List.replicate (3 - (lg_sl ([.ref (ad_ht 0), .int x1, .int x2])).length) Slot.unset).toArray = ls at hl ⊢
  have hl : lv_has ls 3 [(0, .ref (ad_ht 0)), (1, .int x1), (2, .int x2)] := hl
  have hf := hf
  rw [f_HT_mark] at hf
  obtain ⟨H, hH⟩ : ∃ H : Heap, H = s.heap := ⟨_, rfl⟩
  obtain ⟨locs, hlocs⟩ : ∃ L : List Loc, L = [] := ⟨_, rfl⟩
  have hP : va_P (dC, dI) vwCl (uw_HT ad_ht cA_ht (ad_rd 0) (ad_sp 0) (ad_mx 0) (ad_ar 0) (ad_tb 0) (ad_tc 0) ht) H := by rw [hH]; exact hP
  have hS : va_S A s.heap H locs := by rw [hH, hlocs]; exact hS
  show W p l e (headSpec w_HT_mark ({ frames := 6, cells := 1, slots := 6, locals := 82 })).room s m ([.ref (ad_ht 0), .int x1, .int x2] : List Value).toArray below meth c s.heap [] 0 0 Q (F0 m 0 ls [])
  suffices hgo : W p l e (headSpec w_HT_mark ({ frames := 6, cells := 1, slots := 6, locals := 82 })).room s m ([.ref (ad_ht 0), .int x1, .int x2] : List Value).toArray below meth c H locs 0 0 Q (F0 m 0 ls []) by rw [hH, hlocs] at hgo; exact hgo
  clear hH hlocs
  refine lv_iload_n hx hb d_HT_mark_0 rfl (lv_at hl 1 rfl) ?_
  refine lv_if_lt (tgt := 9) hx hb d_HT_mark_1 (by decide) (fun hc1 => ?_) (fun hc1 => ?_)
  · have hf := hf_t hf hc1
    exact thr_9 ht H locs ls (Option.some.inj hf).symm hP hD hS hl.1
  · have hf := hf_f hf hc1
    refine lv_iload_n hx hb d_HT_mark_4 rfl (lv_at hl 1 rfl) ?_
    refine lv_iconst (v := (5 : Int32)) hx hb d_HT_mark_5 (by decide) ?_
    refine lv_icmp_lt (tgt := 19) hx hb d_HT_mark_6 (by decide) (fun hc2 => ?_) (fun hc2 => ?_)
    · have hf := hf_t hf hc2
      refine lv_iload_n hx hb d_HT_mark_19 rfl (lv_at hl 2 rfl) ?_
      refine lv_if_ge (tgt := 33) hx hb d_HT_mark_20 (by decide) (fun hc3 => ?_) (fun hc3 => ?_)
      · have hf := hf_t hf hc3
        refine lv_aload_n hx hb d_HT_mark_33 rfl (lv_at hl 0 rfl) ?_
        refine va_get (D := (dC, dI)) (ci := 5) (v := .ref (ad_ht 1)) (C := "HazardTables") (T := F_HT) (N := 7) hx hb hts hin_HT hown hK hP 0 rfl rfl 4 (by decide) fl_37 (fun _ h9 => h9) rfl d_HT_mark_34 ?_
        refine lv_iload_n hx hb d_HT_mark_37 rfl (lv_at hl 1 rfl) ?_
        refine lv_iload_n hx hb d_HT_mark_38 rfl (lv_at hl 2 rfl) ?_
        obtain ⟨hi4, hf⟩ := hf_g hf
        refine va_iast hx hb hK hP hD hS 1 0 rfl rfl hi4 d_HT_mark_39 (fun H locs hP hD hS => ?_)
        have hP : va_P (dC, dI) vwCl (uw_HT ad_ht cA_ht (ad_rd 0) (ad_sp 0) (ad_mx 0) (ad_ar 0) (ad_tb 0) (ad_tc 0) (upd ht x1.toNatClampNeg x2)) H := hP
        have hD : va_D A (uw_HT ad_ht cA_ht (ad_rd 0) (ad_sp 0) (ad_mx 0) (ad_ar 0) (ad_tb 0) (ad_tc 0) (upd ht x1.toNatClampNeg x2)) := hD
        exact ret  (upd ht x1.toNatClampNeg x2) H locs ls 40 d_HT_mark_40 (Option.some.inj hf).symm hP hD hS
      · have hf := hf_f hf hc3
        exact thr_23 ht H locs ls (Option.some.inj hf).symm hP hD hS hl.1
    · have hf := hf_f hf hc2
      exact thr_9 ht H locs ls (Option.some.inj hf).symm hP hD hS hl.1
noncomputable def f_HT_over (ht : SHT) (x1 : Int32) (x2 : Int32) : Option (Sum (Bool) (Nat × (Unit))) :=
  (if x1 < 0 then
    (some (.inr (0, ())))
   else
    (if x1 < (5 : Int32) then
      (if inb x1 5 then
        (if x2 < (ht x1.toNatClampNeg) then
          (some (.inl (false)))
         else
          (some (.inl (true)))
         )
       else none)
     else
      (some (.inr (0, ())))
     )
   )
set_option maxHeartbeats 4000000 in
set_option maxRecDepth 100000 in
theorem k_HT_over (l : Launch) (dC : Nat → ClassId) (dI : Nat → Nat → Nat) (ad_ht : Nat → Nat) (cA_ht : Nat → ClassId) (ad_rd : Nat → Nat) (cA_rd : Nat → ClassId) (ad_sp : Nat → Nat) (cA_sp : Nat → ClassId) (ad_mx : Nat → Nat) (cA_mx : Nat → ClassId) (ad_ar : Nat → Nat) (cA_ar : Nat → ClassId) (ad_tb : Nat → Nat) (cA_tb : Nat → ClassId) (ad_tc : Nat → Nat) (cA_tc : Nat → ClassId) (sz : Nat) (ht : SHT) (x1 : Int32) (x2 : Int32) (res : Sum (Bool) (Nat × (Unit))) (hf : f_HT_over ht x1 x2 = some res) (htr : l.stackTraces = false) : vx_Met l y_HT_over w_HT_over ({ frames := 6, cells := 1, slots := 6, locals := 82 }) (xPc (dC, dI) (uw_HT ad_ht cA_ht (ad_rd 0) (ad_sp 0) (ad_mx 0) (ad_ar 0) (ad_tb 0) (ad_tc 0) ht) [(cA_ht 1, .int)] sz [.ref (ad_ht 0), .int x1, .int x2]) (va_Qi (fun (r : Int32) (u : Unit) => ∃ b : Bool, r = bI b ∧ res = .inl b) (fun (u : Unit) (t : State) => va_P (dC, dI) vwCl (uw_HT ad_ht cA_ht (ad_rd 0) (ad_sp 0) (ad_mx 0) (ad_ar 0) (ad_tb 0) (ad_tc 0) ht) t.heap ∧ va_K (dC, dI) vwCl [(cA_ht 1, .int)] t ∧ va_D (va_A (uw_HT ad_ht cA_ht (ad_rd 0) (ad_sp 0) (ad_mx 0) (ad_ar 0) (ad_tb 0) (ad_tc 0) ht) sz) (uw_HT ad_ht cA_ht (ad_rd 0) (ad_sp 0) (ad_mx 0) (ad_ar 0) (ad_tb 0) (ad_tc 0) ht)) (va_A (uw_HT ad_ht cA_ht (ad_rd 0) (ad_sp 0) (ad_mx 0) (ad_ar 0) (ad_tb 0) (ad_tc 0) ht) sz)) (vx_X (fun (u : Nat × (Unit)) => res = .inr u) (fun (E : String) (u : Nat × (Unit)) (t : State) => E = xn u.1 ∧ va_P (dC, dI) vwCl (uw_HT ad_ht cA_ht (ad_rd 0) (ad_sp 0) (ad_mx 0) (ad_ar 0) (ad_tb 0) (ad_tc 0) ht) t.heap ∧ va_K (dC, dI) vwCl [(cA_ht 1, .int)] t ∧ va_D (va_A (uw_HT ad_ht cA_ht (ad_rd 0) (ad_sp 0) (ad_mx 0) (ad_ar 0) (ad_tb 0) (ad_tc 0) ht) sz) (uw_HT ad_ht cA_ht (ad_rd 0) (ad_sp 0) (ad_mx 0) (ad_ar 0) (ad_tb 0) (ad_tc 0) ht)) (va_A (uw_HT ad_ht cA_ht (ad_rd 0) (ad_sp 0) (ad_mx 0) (ad_ar 0) (ad_tb 0) (ad_tc 0) ht) sz)) 1 6 (va_A (uw_HT ad_ht cA_ht (ad_rd 0) (ad_sp 0) (ad_mx 0) (ad_ar 0) (ad_tb 0) (ad_tc 0) ht) sz) := by
  refine vx_ofW (cc := b_HT_over) (maxL := 3) (ret := (some .boolean)) (by decide) rfl ?_
  intro p e s m args below meth c s₁ B hml htab hv
  obtain ⟨rfl, hsz, hP, hK, hD0, hN, hX⟩ := hv
  have hx := B.exec
  have hb := B.bytes
  have hr := B.returns
  have hts := atoms_spec (ws := w_HT_over) B.pre
  have hown : s.vm.findClass "HazardTables" = some m.cls := findClass_of_methodNamed B.named
  have hlocks := B.notSynchronized
  subst hsz
  have hD := hD0.self (sz := s.heap.size)
  generalize hAe : va_A (uw_HT ad_ht cA_ht (ad_rd 0) (ad_sp 0) (ad_mx 0) (ad_ar 0) (ad_tb 0) (ad_tc 0) ht) s.heap.size = A at hD hX ⊢
  have hA : ∀ q : Nat, s.heap.size ≤ q → A q := fun q h => by rw [← hAe]; exact Or.inr h
  have hS : va_S A s.heap s.heap [] := va_S.rf
  have hP : va_P (dC, dI) vwCl (uw_HT ad_ht cA_ht (ad_rd 0) (ad_sp 0) (ad_mx 0) (ad_ar 0) (ad_tb 0) (ad_tc 0) ht) s.heap := hP
  have fl_37 := (hts _ (List.mem_cons_of_mem _ wd_208))
  have hin_HT : ∀ w ∈ u_ws "HazardTables" F_HT 7, w ∈ w_HT_over := fun w h => List.mem_cons_of_mem _ (hinA_HT w h)
  have thr_9 : ∀ (u : Unit) (H : Heap) (locs : List Loc) (ls : Array Slot), res = .inr (0, u) → va_P (dC, dI) vwCl (uw_HT ad_ht cA_ht (ad_rd 0) (ad_sp 0) (ad_mx 0) (ad_ar 0) (ad_tb 0) (ad_tc 0) ht) H → va_D A (uw_HT ad_ht cA_ht (ad_rd 0) (ad_sp 0) (ad_mx 0) (ad_ar 0) (ad_tb 0) (ad_tc 0) ht) → va_S A s.heap H locs → ls.size = 3 → W p l e (headSpec w_HT_over ({ frames := 6, cells := 1, slots := 6, locals := 82 })).room s m ([.ref (ad_ht 0), .int x1, .int x2] : List Value).toArray below meth c H locs 0 0 (vx_MQ below (va_Qi (fun (r : Int32) (u : Unit) => ∃ b : Bool, r = bI b ∧ res = .inl b) (fun (u : Unit) (t : State) => va_P (dC, dI) vwCl (uw_HT ad_ht cA_ht (ad_rd 0) (ad_sp 0) (ad_mx 0) (ad_ar 0) (ad_tb 0) (ad_tc 0) ht) t.heap ∧ va_K (dC, dI) vwCl [(cA_ht 1, .int)] t ∧ va_D A (uw_HT ad_ht cA_ht (ad_rd 0) (ad_sp 0) (ad_mx 0) (ad_ar 0) (ad_tb 0) (ad_tc 0) ht)) A) (vx_X (fun (u : Nat × (Unit)) => res = .inr u) (fun (E : String) (u : Nat × (Unit)) (t : State) => E = xn u.1 ∧ va_P (dC, dI) vwCl (uw_HT ad_ht cA_ht (ad_rd 0) (ad_sp 0) (ad_mx 0) (ad_ar 0) (ad_tb 0) (ad_tc 0) ht) t.heap ∧ va_K (dC, dI) vwCl [(cA_ht 1, .int)] t ∧ va_D A (uw_HT ad_ht cA_ht (ad_rd 0) (ad_sp 0) (ad_mx 0) (ad_ar 0) (ad_tb 0) (ad_tc 0) ht)) A) ([.ref (ad_ht 0), .int x1, .int x2] : List Value).toArray s 1 6 A) (F0 m 9 ls []) := by
    intro u H locs ls hres hP hD hS hsz
    obtain ⟨sa, hstr⟩ := hX.2.2.1 (220, "no such kind") (by decide)
    refine vx_throwS (cls := "java/lang/IllegalArgumentException") (text := "no such kind") (names := xch) (ik := 101) (is := 220) (ic := 105) (sa := sa) hx hb htr hown (by decide) (by decide) (hts _ (List.mem_cons_of_mem _ wd_479)) (hts _ (List.mem_cons_of_mem _ wd_56)) hstr (x_hat_105 hts hX) x_good_105 hX.1 hX.2.1 hS (hsz.trans hml.symm) d_HT_over_9 d_HT_over_12 d_HT_over_13 d_HT_over_15 d_HT_over_18 (fun x hx9 => (htab x hx9).elim) (by decide) (by decide) (by decide) (by decide) hlocks (fun t hvm hz hk => ?_) hS.2.2 (by decide) (by decide)
    obtain ⟨hP9, hF9⟩ := cl_thrown hP hS hz hk
    exact ⟨(0, u), hres, ⟨rfl, hP9, va_K.moved hvm hK, hD⟩, hF9⟩
  have ret : ∀ (v : Bool) (u : Unit) (H : Heap) (locs : List Loc) (ls : Array Slot) (pc : Nat), decode b_HT_over pc = .ok (.ireturn, 1) → res = .inl v → va_P (dC, dI) vwCl (uw_HT ad_ht cA_ht (ad_rd 0) (ad_sp 0) (ad_mx 0) (ad_ar 0) (ad_tb 0) (ad_tc 0) ht) H → va_D A (uw_HT ad_ht cA_ht (ad_rd 0) (ad_sp 0) (ad_mx 0) (ad_ar 0) (ad_tb 0) (ad_tc 0) ht) → va_S A s.heap H locs → W p l e (headSpec w_HT_over ({ frames := 6, cells := 1, slots := 6, locals := 82 })).room s m ([.ref (ad_ht 0), .int x1, .int x2] : List Value).toArray below meth c H locs 0 0 (vx_MQ below (va_Qi (fun (r : Int32) (u : Unit) => ∃ b : Bool, r = bI b ∧ res = .inl b) (fun (u : Unit) (t : State) => va_P (dC, dI) vwCl (uw_HT ad_ht cA_ht (ad_rd 0) (ad_sp 0) (ad_mx 0) (ad_ar 0) (ad_tb 0) (ad_tc 0) ht) t.heap ∧ va_K (dC, dI) vwCl [(cA_ht 1, .int)] t ∧ va_D A (uw_HT ad_ht cA_ht (ad_rd 0) (ad_sp 0) (ad_mx 0) (ad_ar 0) (ad_tb 0) (ad_tc 0) ht)) A) (vx_X (fun (u : Nat × (Unit)) => res = .inr u) (fun (E : String) (u : Nat × (Unit)) (t : State) => E = xn u.1 ∧ va_P (dC, dI) vwCl (uw_HT ad_ht cA_ht (ad_rd 0) (ad_sp 0) (ad_mx 0) (ad_ar 0) (ad_tb 0) (ad_tc 0) ht) t.heap ∧ va_K (dC, dI) vwCl [(cA_ht 1, .int)] t ∧ va_D A (uw_HT ad_ht cA_ht (ad_rd 0) (ad_sp 0) (ad_mx 0) (ad_ar 0) (ad_tb 0) (ad_tc 0) ht)) A) ([.ref (ad_ht 0), .int x1, .int x2] : List Value).toArray s 1 6 A) (F0 m pc ls [.int (bI v)]) := fun v u H locs ls pc hd hp hP hD hS => W.widen (k := 1) (n := 6) (Nat.zero_le _) (Nat.zero_le _) (vx_ret (W.zret (v := bI v) (ty := .boolean) hx hb hr (nar_bI v) (fun t ht hW => ⟨⟨bI v, u, rfl, ⟨v, rfl, hp⟩, by rw [ht]; exact hP, va_K.moved hW.alike hK, hD⟩, hS.F ht⟩) hS.2.2 hd))
  generalize (vx_MQ below (va_Qi (fun (r : Int32) (u : Unit) => ∃ b : Bool, r = bI b ∧ res = .inl b) (fun (u : Unit) (t : State) => va_P (dC, dI) vwCl (uw_HT ad_ht cA_ht (ad_rd 0) (ad_sp 0) (ad_mx 0) (ad_ar 0) (ad_tb 0) (ad_tc 0) ht) t.heap ∧ va_K (dC, dI) vwCl [(cA_ht 1, .int)] t ∧ va_D A (uw_HT ad_ht cA_ht (ad_rd 0) (ad_sp 0) (ad_mx 0) (ad_ar 0) (ad_tb 0) (ad_tc 0) ht)) A) (vx_X (fun (u : Nat × (Unit)) => res = .inr u) (fun (E : String) (u : Nat × (Unit)) (t : State) => E = xn u.1 ∧ va_P (dC, dI) vwCl (uw_HT ad_ht cA_ht (ad_rd 0) (ad_sp 0) (ad_mx 0) (ad_ar 0) (ad_tb 0) (ad_tc 0) ht) t.heap ∧ va_K (dC, dI) vwCl [(cA_ht 1, .int)] t ∧ va_D A (uw_HT ad_ht cA_ht (ad_rd 0) (ad_sp 0) (ad_mx 0) (ad_ar 0) (ad_tb 0) (ad_tc 0) ht)) A) ([.ref (ad_ht 0), .int x1, .int x2] : List Value).toArray s 1 6 A) = Q at ret thr_9 ⊢
  have hl := lv_entry ([.ref (ad_ht 0), .int x1, .int x2]) (n := 3) (Nat.le_of_ble_eq_true rfl)
  rw [lg_entry_eq]
  generalize (lg_sl ([.ref (ad_ht 0), .int x1, .int x2]) ++ List.replicate (3 - (lg_sl ([.ref (ad_ht 0), .int x1, .int x2])).length) Slot.unset).toArray = ls at hl ⊢
  have hl : lv_has ls 3 [(0, .ref (ad_ht 0)), (1, .int x1), (2, .int x2)] := hl
  have hf := hf
  rw [f_HT_over] at hf
  obtain ⟨H, hH⟩ : ∃ H : Heap, H = s.heap := ⟨_, rfl⟩
  obtain ⟨locs, hlocs⟩ : ∃ L : List Loc, L = [] := ⟨_, rfl⟩
  have hP : va_P (dC, dI) vwCl (uw_HT ad_ht cA_ht (ad_rd 0) (ad_sp 0) (ad_mx 0) (ad_ar 0) (ad_tb 0) (ad_tc 0) ht) H := by rw [hH]; exact hP
  have hS : va_S A s.heap H locs := by rw [hH, hlocs]; exact hS
  show W p l e (headSpec w_HT_over ({ frames := 6, cells := 1, slots := 6, locals := 82 })).room s m ([.ref (ad_ht 0), .int x1, .int x2] : List Value).toArray below meth c s.heap [] 0 0 Q (F0 m 0 ls [])
  suffices hgo : W p l e (headSpec w_HT_over ({ frames := 6, cells := 1, slots := 6, locals := 82 })).room s m ([.ref (ad_ht 0), .int x1, .int x2] : List Value).toArray below meth c H locs 0 0 Q (F0 m 0 ls []) by rw [hH, hlocs] at hgo; exact hgo
  clear hH hlocs
  refine lv_iload_n hx hb d_HT_over_0 rfl (lv_at hl 1 rfl) ?_
  refine lv_if_lt (tgt := 9) hx hb d_HT_over_1 (by decide) (fun hc1 => ?_) (fun hc1 => ?_)
  · have hf := hf_t hf hc1
    exact thr_9 () H locs ls (Option.some.inj hf).symm hP hD hS hl.1
  · have hf := hf_f hf hc1
    refine lv_iload_n hx hb d_HT_over_4 rfl (lv_at hl 1 rfl) ?_
    refine lv_iconst (v := (5 : Int32)) hx hb d_HT_over_5 (by decide) ?_
    refine lv_icmp_lt (tgt := 19) hx hb d_HT_over_6 (by decide) (fun hc2 => ?_) (fun hc2 => ?_)
    · have hf := hf_t hf hc2
      refine lv_iload_n hx hb d_HT_over_19 rfl (lv_at hl 2 rfl) ?_
      refine lv_aload_n hx hb d_HT_over_20 rfl (lv_at hl 0 rfl) ?_
      refine va_get (D := (dC, dI)) (ci := 5) (v := .ref (ad_ht 1)) (C := "HazardTables") (T := F_HT) (N := 7) hx hb hts hin_HT hown hK hP 0 rfl rfl 4 (by decide) fl_37 (fun _ h9 => h9) rfl d_HT_over_21 ?_
      refine lv_iload_n hx hb d_HT_over_24 rfl (lv_at hl 1 rfl) ?_
      obtain ⟨hi3, hf⟩ := hf_g hf
      refine va_iald hx hb hK hP 1 0 rfl rfl hi3 d_HT_over_25 ?_
      refine lv_icmp_lt (tgt := 33) hx hb d_HT_over_26 (by decide) (fun hc4 => ?_) (fun hc4 => ?_)
      · have hf := hf_t hf hc4
        refine lv_iconst (v := (0 : Int32)) hx hb d_HT_over_33 (by decide) ?_
        exact ret false () H locs ls 34 d_HT_over_34 (Option.some.inj hf).symm hP hD hS
      · have hf := hf_f hf hc4
        refine lv_iconst (v := (1 : Int32)) hx hb d_HT_over_29 (by decide) ?_
        refine lv_goto (tgt := 34) hx hb d_HT_over_30 (by decide) ?_
        exact ret true () H locs ls 34 d_HT_over_34 (Option.some.inj hf).symm hP hD hS
    · have hf := hf_f hf hc2
      exact thr_9 () H locs ls (Option.some.inj hf).symm hP hD hS hl.1
