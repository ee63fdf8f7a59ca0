noncomputable def f_HT_wind_50  (ht : SHT) (mx : SMixture) (ar : SSurroundings) (tb : STable) (y1 : Int32) (y2 : Int32) (y3 : Bool) : Option (Sum (Int32 × SSurroundings) (Nat × (SSurroundings))) :=
  (Option.bind (f_Mixture_distance mx tb ar.2.2.2.2.2.2.2) fun u7 =>
    (Option.bind (f_Mixture_distance mx tb y3) fun u8 =>
      (Option.bind (f_Surroundings_gather ar y1 y2 u8 u7) fun u9 =>
        (Option.bind (f_Surroundings_turn u9 y1 y2 y3) fun u10 =>
          (some (.inl (u10.2.2.2.2.1, u10)))
         )
       )
     )
   )
noncomputable def f_HT_wind (ht : SHT) (mx : SMixture) (ar : SSurroundings) (tb : STable) (x1 : Int32) (x2 : Int32) (x3 : Bool) : Option (Sum (Int32 × SSurroundings) (Nat × (SSurroundings))) :=
  (Option.bind (f_HT_isOutside x1 (-100 : Int32) (100 : Int32)) fun u1 =>
    (if (bI u1) = 0 then
      (Option.bind (f_HT_isOutside x2 (-100 : Int32) (100 : Int32)) fun u3 =>
        (if (bI u3) = 0 then
          (if x1 = 0 then
            (if x2 = 0 then
              (some (.inr (1, ar)))
             else
              (f_HT_wind_50 ht mx ar tb x1 x2 x3)
             )
           else
            (f_HT_wind_50 ht mx ar tb x1 x2 x3)
           )
         else
          (some (.inr (1, ar)))
         )
       )
     else
      (some (.inr (1, ar)))
     )
   )
set_option maxHeartbeats 4000000 in
set_option maxRecDepth 100000 in
theorem k_HT_wind (l : Launch) (dC : Nat → ClassId) (dI : Nat → Nat → Nat) (ad_ht : Nat → Nat) (cA_ht : Nat → ClassId) (ad_mx : Nat → Nat) (cA_mx : Nat → ClassId) (ad_ar : Nat → Nat) (cA_ar : Nat → ClassId) (ad_tb : Nat → Nat) (cA_tb : Nat → ClassId) (ad_rd : Nat → Nat) (cA_rd : Nat → ClassId) (ad_sp : Nat → Nat) (cA_sp : Nat → ClassId) (ad_tc : Nat → Nat) (cA_tc : Nat → ClassId) (sz : Nat) (ht : SHT) (mx : SMixture) (ar : SSurroundings) (tb : STable) (x1 : Int32) (x2 : Int32) (x3 : Bool) (res : Sum (Int32 × SSurroundings) (Nat × (SSurroundings))) (hf : f_HT_wind ht mx ar tb x1 x2 x3 = some res) (htr : l.stackTraces = false) : vx_Met l y_HT_wind w_HT_wind ({ frames := 6, cells := 1, slots := 6, locals := 96 }) (xPc (dC, dI) (uw_HT ad_ht cA_ht (ad_rd 0) (ad_sp 0) (ad_mx 0) (ad_ar 0) (ad_tb 0) (ad_tc 0) ht ++ (uw_Mixture ad_mx cA_mx mx ++ (uw_Surroundings ad_ar cA_ar ar ++ (uw_Table ad_tb cA_tb tb)))) [(cA_ht 1, .int), (cA_mx 1, .int), (cA_mx 2, .int), (cA_mx 3, .boolean), (cA_ar 1, .int), (cA_ar 2, .int), (cA_ar 3, .int), (cA_tb 1, .int), (cA_tb 2, .int), (cA_tb 3, .int), (cA_tb 4, .byte)] sz [.ref (ad_ht 0), .int x1, .int x2, .int (bI x3)]) (va_Qi (fun (r : Int32) (u : SSurroundings) => res = .inl (r, u)) (fun (u : SSurroundings) (t : State) => va_P (dC, dI) vwCl (uw_HT ad_ht cA_ht (ad_rd 0) (ad_sp 0) (ad_mx 0) (ad_ar 0) (ad_tb 0) (ad_tc 0) ht ++ (uw_Mixture ad_mx cA_mx mx ++ (uw_Surroundings ad_ar cA_ar u ++ (uw_Table ad_tb cA_tb tb)))) t.heap ∧ va_K (dC, dI) vwCl [(cA_ht 1, .int), (cA_mx 1, .int), (cA_mx 2, .int), (cA_mx 3, .boolean), (cA_ar 1, .int), (cA_ar 2, .int), (cA_ar 3, .int), (cA_tb 1, .int), (cA_tb 2, .int), (cA_tb 3, .int), (cA_tb 4, .byte)] t ∧ va_D (va_A (uw_HT ad_ht cA_ht (ad_rd 0) (ad_sp 0) (ad_mx 0) (ad_ar 0) (ad_tb 0) (ad_tc 0) ht ++ (uw_Mixture ad_mx cA_mx mx ++ (uw_Surroundings ad_ar cA_ar ar ++ (uw_Table ad_tb cA_tb tb)))) sz) (uw_HT ad_ht cA_ht (ad_rd 0) (ad_sp 0) (ad_mx 0) (ad_ar 0) (ad_tb 0) (ad_tc 0) ht ++ (uw_Mixture ad_mx cA_mx mx ++ (uw_Surroundings ad_ar cA_ar u ++ (uw_Table ad_tb cA_tb tb))))) (va_A (uw_HT ad_ht cA_ht (ad_rd 0) (ad_sp 0) (ad_mx 0) (ad_ar 0) (ad_tb 0) (ad_tc 0) ht ++ (uw_Mixture ad_mx cA_mx mx ++ (uw_Surroundings ad_ar cA_ar ar ++ (uw_Table ad_tb cA_tb tb)))) sz)) (vx_X (fun (u : Nat × (SSurroundings)) => res = .inr u) (fun (E : String) (u : Nat × (SSurroundings)) (t : State) => E = xn u.1 ∧ va_P (dC, dI) vwCl (uw_HT ad_ht cA_ht (ad_rd 0) (ad_sp 0) (ad_mx 0) (ad_ar 0) (ad_tb 0) (ad_tc 0) ht ++ (uw_Mixture ad_mx cA_mx mx ++ (uw_Surroundings ad_ar cA_ar u.2 ++ (uw_Table ad_tb cA_tb tb)))) t.heap ∧ va_K (dC, dI) vwCl [(cA_ht 1, .int), (cA_mx 1, .int), (cA_mx 2, .int), (cA_mx 3, .boolean), (cA_ar 1, .int), (cA_ar 2, .int), (cA_ar 3, .int), (cA_tb 1, .int), (cA_tb 2, .int), (cA_tb 3, .int), (cA_tb 4, .byte)] t ∧ va_D (va_A (uw_HT ad_ht cA_ht (ad_rd 0) (ad_sp 0) (ad_mx 0) (ad_ar 0) (ad_tb 0) (ad_tc 0) ht ++ (uw_Mixture ad_mx cA_mx mx ++ (uw_Surroundings ad_ar cA_ar ar ++ (uw_Table ad_tb cA_tb tb)))) sz) (uw_HT ad_ht cA_ht (ad_rd 0) (ad_sp 0) (ad_mx 0) (ad_ar 0) (ad_tb 0) (ad_tc 0) ht ++ (uw_Mixture ad_mx cA_mx mx ++ (uw_Surroundings ad_ar cA_ar u.2 ++ (uw_Table ad_tb cA_tb tb))))) (va_A (uw_HT ad_ht cA_ht (ad_rd 0) (ad_sp 0) (ad_mx 0) (ad_ar 0) (ad_tb 0) (ad_tc 0) ht ++ (uw_Mixture ad_mx cA_mx mx ++ (uw_Surroundings ad_ar cA_ar ar ++ (uw_Table ad_tb cA_tb tb)))) sz)) 1 6 (va_A (uw_HT ad_ht cA_ht (ad_rd 0) (ad_sp 0) (ad_mx 0) (ad_ar 0) (ad_tb 0) (ad_tc 0) ht ++ (uw_Mixture ad_mx cA_mx mx ++ (uw_Surroundings ad_ar cA_ar ar ++ (uw_Table ad_tb cA_tb tb)))) sz) := by
  refine vx_ofW (cc := b_HT_wind) (maxL := 6) (ret := (some .int)) (by decide) rfl ?_
  intro p e s m args below meth c s₁ B hml htab hv
  obtain ⟨rfl, hsz, hP, hK, hD0, hN, hX⟩ := hv
  have hx := B.exec
  have hb := B.bytes
  have hr := B.returns
  have hts := atoms_spec (ws := w_HT_wind) B.pre
  have hown : s.vm.findClass "HazardTables" = some m.cls := findClass_of_methodNamed B.named
  have hlocks := B.notSynchronized
  subst hsz
  have hD := hD0.self (sz := s.heap.size)
  generalize hAe : va_A (uw_HT ad_ht cA_ht (ad_rd 0) (ad_sp 0) (ad_mx 0) (ad_ar 0) (ad_tb 0) (ad_tc 0) ht ++ (uw_Mixture ad_mx cA_mx mx ++ (uw_Surroundings ad_ar cA_ar ar ++ (uw_Table ad_tb cA_tb tb)))) s.heap.size = A at hD hX ⊢
  have hA : ∀ q : Nat, s.heap.size ≤ q → A q := fun q h => by rw [← hAe]; exact Or.inr h
  have hS : va_S A s.heap s.heap [] := va_S.rf
  have hP : va_P (dC, dI) vwCl (uw_HT ad_ht cA_ht (ad_rd 0) (ad_sp 0) (ad_mx 0) (ad_ar 0) (ad_tb 0) (ad_tc 0) ht ++ (uw_Mixture ad_mx cA_mx mx ++ (uw_Surroundings ad_ar cA_ar ar ++ (uw_Table ad_tb cA_tb tb)))) s.heap := hP
  have fl_189 := (hts _ (List.mem_cons_of_mem _ wd_155))
  have fl_201 := (hts _ (List.mem_cons_of_mem _ wd_151))
  have fl_26 := (hts _ (List.mem_cons_of_mem _ wd_206))
  have fl_33 := (hts _ (List.mem_cons_of_mem _ wd_207))
  have fl_44 := (hts _ (List.mem_cons_of_mem _ wd_209))
  have hin_HT : ∀ w ∈ u_ws "HazardTables" F_HT 7, w ∈ w_HT_wind := fun w h => List.mem_cons_of_mem _ (hinA_HT w h)
  have hin_Surroundings : ∀ w ∈ u_ws "HazardTables$Surroundings" F_Surroundings 8, w ∈ w_HT_wind := fun w h => List.mem_cons_of_mem _ (hinA_Surroundings w h)
  have thr_22 : ∀ (u : SSurroundings) (H : Heap) (locs : List Loc) (ls : Array Slot), res = .inr (1, u) → va_P (dC, dI) vwCl (uw_HT ad_ht cA_ht (ad_rd 0) (ad_sp 0) (ad_mx 0) (ad_ar 0) (ad_tb 0) (ad_tc 0) ht ++ (uw_Mixture ad_mx cA_mx mx ++ (uw_Surroundings ad_ar cA_ar u ++ (uw_Table ad_tb cA_tb tb)))) H → va_D A (uw_HT ad_ht cA_ht (ad_rd 0) (ad_sp 0) (ad_mx 0) (ad_ar 0) (ad_tb 0) (ad_tc 0) ht ++ (uw_Mixture ad_mx cA_mx mx ++ (uw_Surroundings ad_ar cA_ar u ++ (uw_Table ad_tb cA_tb tb)))) → va_S A s.heap H locs → ls.size = 6 → W p l e (headSpec w_HT_wind ({ frames := 6, cells := 1, slots := 6, locals := 96 })).room s m ([.ref (ad_ht 0), .int x1, .int x2, .int (bI x3)] : List Value).toArray below meth c H locs 0 0 (vx_MQ below (va_Qi (fun (r : Int32) (u : SSurroundings) => res = .inl (r, u)) (fun (u : SSurroundings) (t : State) => va_P (dC, dI) vwCl (uw_HT ad_ht cA_ht (ad_rd 0) (ad_sp 0) (ad_mx 0) (ad_ar 0) (ad_tb 0) (ad_tc 0) ht ++ (uw_Mixture ad_mx cA_mx mx ++ (uw_Surroundings ad_ar cA_ar u ++ (uw_Table ad_tb cA_tb tb)))) t.heap ∧ va_K (dC, dI) vwCl [(cA_ht 1, .int), (cA_mx 1, .int), (cA_mx 2, .int), (cA_mx 3, .boolean), (cA_ar 1, .int), (cA_ar 2, .int), (cA_ar 3, .int), (cA_tb 1, .int), (cA_tb 2, .int), (cA_tb 3, .int), (cA_tb 4, .byte)] t ∧ va_D A (uw_HT ad_ht cA_ht (ad_rd 0) (ad_sp 0) (ad_mx 0) (ad_ar 0) (ad_tb 0) (ad_tc 0) ht ++ (uw_Mixture ad_mx cA_mx mx ++ (uw_Surroundings ad_ar cA_ar u ++ (uw_Table ad_tb cA_tb tb))))) A) (vx_X (fun (u : Nat × (SSurroundings)) => res = .inr u) (fun (E : String) (u : Nat × (SSurroundings)) (t : State) => E = xn u.1 ∧ va_P (dC, dI) vwCl (uw_HT ad_ht cA_ht (ad_rd 0) (ad_sp 0) (ad_mx 0) (ad_ar 0) (ad_tb 0) (ad_tc 0) ht ++ (uw_Mixture ad_mx cA_mx mx ++ (uw_Surroundings ad_ar cA_ar u.2 ++ (uw_Table ad_tb cA_tb tb)))) t.heap ∧ va_K (dC, dI) vwCl [(cA_ht 1, .int), (cA_mx 1, .int), (cA_mx 2, .int), (cA_mx 3, .boolean), (cA_ar 1, .int), (cA_ar 2, .int), (cA_ar 3, .int), (cA_tb 1, .int), (cA_tb 2, .int), (cA_tb 3, .int), (cA_tb 4, .byte)] t ∧ va_D A (uw_HT ad_ht cA_ht (ad_rd 0) (ad_sp 0) (ad_mx 0) (ad_ar 0) (ad_tb 0) (ad_tc 0) ht ++ (uw_Mixture ad_mx cA_mx mx ++ (uw_Surroundings ad_ar cA_ar u.2 ++ (uw_Table ad_tb cA_tb tb))))) A) ([.ref (ad_ht 0), .int x1, .int x2, .int (bI x3)] : List Value).toArray s 1 6 A) (F0 m 22 ls []) := by
    intro u H locs ls hres hP hD hS hsz
    obtain ⟨sa, hstr⟩ := hX.2.2.1 (185, "the wind is out of range") (by decide)
    refine vx_throwS (cls := "java/lang/IndexOutOfBoundsException") (text := "the wind is out of range") (names := xch) (ik := 51) (is := 185) (ic := 55) (sa := sa) hx hb htr hown (by decide) (by decide) (hts _ (List.mem_cons_of_mem _ wd_247)) (hts _ (List.mem_cons_of_mem _ wd_53)) hstr (x_hat_55 hts hX) x_good_55 hX.1 hX.2.1 hS (hsz.trans hml.symm) d_HT_wind_22 d_HT_wind_25 d_HT_wind_26 d_HT_wind_28 d_HT_wind_31 (fun x hx9 => (htab x hx9).elim) (by decide) (by decide) (by decide) (by decide) hlocks (fun t hvm hz hk => ?_) hS.2.2 (by decide) (by decide)
    obtain ⟨hP9, hF9⟩ := cl_thrown hP hS hz hk
    exact ⟨(1, u), hres, ⟨rfl, hP9, va_K.moved hvm hK, hD⟩, hF9⟩
  have thr_40 : ∀ (u : SSurroundings) (H : Heap) (locs : List Loc) (ls : Array Slot), res = .inr (1, u) → va_P (dC, dI) vwCl (uw_HT ad_ht cA_ht (ad_rd 0) (ad_sp 0) (ad_mx 0) (ad_ar 0) (ad_tb 0) (ad_tc 0) ht ++ (uw_Mixture ad_mx cA_mx mx ++ (uw_Surroundings ad_ar cA_ar u ++ (uw_Table ad_tb cA_tb tb)))) H → va_D A (uw_HT ad_ht cA_ht (ad_rd 0) (ad_sp 0) (ad_mx 0) (ad_ar 0) (ad_tb 0) (ad_tc 0) ht ++ (uw_Mixture ad_mx cA_mx mx ++ (uw_Surroundings ad_ar cA_ar u ++ (uw_Table ad_tb cA_tb tb)))) → va_S A s.heap H locs → ls.size = 6 → W p l e (headSpec w_HT_wind ({ frames := 6, cells := 1, slots := 6, locals := 96 })).room s m ([.ref (ad_ht 0), .int x1, .int x2, .int (bI x3)] : List Value).toArray below meth c H locs 0 0 (vx_MQ below (va_Qi (fun (r : Int32) (u : SSurroundings) => res = .inl (r, u)) (fun (u : SSurroundings) (t : State) => va_P (dC, dI) vwCl (uw_HT ad_ht cA_ht (ad_rd 0) (ad_sp 0) (ad_mx 0) (ad_ar 0) (ad_tb 0) (ad_tc 0) ht ++ (uw_Mixture ad_mx cA_mx mx ++ (uw_Surroundings ad_ar cA_ar u ++ (uw_Table ad_tb cA_tb tb)))) t.heap ∧ va_K (dC, dI) vwCl [(cA_ht 1, .int), (cA_mx 1, .int), (cA_mx 2, .int), (cA_mx 3, .boolean), (cA_ar 1, .int), (cA_ar 2, .int), (cA_ar 3, .int), (cA_tb 1, .int), (cA_tb 2, .int), (cA_tb 3, .int), (cA_tb 4, .byte)] t ∧ va_D A (uw_HT ad_ht cA_ht (ad_rd 0) (ad_sp 0) (ad_mx 0) (ad_ar 0) (ad_tb 0) (ad_tc 0) ht ++ (uw_Mixture ad_mx cA_mx mx ++ (uw_Surroundings ad_ar cA_ar u ++ (uw_Table ad_tb cA_tb tb))))) A) (vx_X (fun (u : Nat × (SSurroundings)) => res = .inr u) (fun (E : String) (u : Nat × (SSurroundings)) (t : State) => E = xn u.1 ∧ va_P (dC, dI) vwCl (uw_HT ad_ht cA_ht (ad_rd 0) (ad_sp 0) (ad_mx 0) (ad_ar 0) (ad_tb 0) (ad_tc 0) ht ++ (uw_Mixture ad_mx cA_mx mx ++ (uw_Surroundings ad_ar cA_ar u.2 ++ (uw_Table ad_tb cA_tb tb)))) t.heap ∧ va_K (dC, dI) vwCl [(cA_ht 1, .int), (cA_mx 1, .int), (cA_mx 2, .int), (cA_mx 3, .boolean), (cA_ar 1, .int), (cA_ar 2, .int), (cA_ar 3, .int), (cA_tb 1, .int), (cA_tb 2, .int), (cA_tb 3, .int), (cA_tb 4, .byte)] t ∧ va_D A (uw_HT ad_ht cA_ht (ad_rd 0) (ad_sp 0) (ad_mx 0) (ad_ar 0) (ad_tb 0) (ad_tc 0) ht ++ (uw_Mixture ad_mx cA_mx mx ++ (uw_Surroundings ad_ar cA_ar u.2 ++ (uw_Table ad_tb cA_tb tb))))) A) ([.ref (ad_ht 0), .int x1, .int x2, .int (bI x3)] : List Value).toArray s 1 6 A) (F0 m 40 ls []) := by
    intro u H locs ls hres hP hD hS hsz
    obtain ⟨sa, hstr⟩ := hX.2.2.1 (187, "a wind blows some way") (by decide)
    refine vx_throwS (cls := "java/lang/IndexOutOfBoundsException") (text := "a wind blows some way") (names := xch) (ik := 51) (is := 187) (ic := 55) (sa := sa) hx hb htr hown (by decide) (by decide) (hts _ (List.mem_cons_of_mem _ wd_247)) (hts _ (List.mem_cons_of_mem _ wd_53)) hstr (x_hat_55 hts hX) x_good_55 hX.1 hX.2.1 hS (hsz.trans hml.symm) d_HT_wind_40 d_HT_wind_43 d_HT_wind_44 d_HT_wind_46 d_HT_wind_49 (fun x hx9 => (htab x hx9).elim) (by decide) (by decide) (by decide) (by decide) hlocks (fun t hvm hz hk => ?_) hS.2.2 (by decide) (by decide)
    obtain ⟨hP9, hF9⟩ := cl_thrown hP hS hz hk
    exact ⟨(1, u), hres, ⟨rfl, hP9, va_K.moved hvm hK, hD⟩, hF9⟩
  have ret : ∀ (v : Int32) (u : SSurroundings) (H : Heap) (locs : List Loc) (ls : Array Slot) (pc : Nat), decode b_HT_wind pc = .ok (.ireturn, 1) → res = .inl (v, u) → va_P (dC, dI) vwCl (uw_HT ad_ht cA_ht (ad_rd 0) (ad_sp 0) (ad_mx 0) (ad_ar 0) (ad_tb 0) (ad_tc 0) ht ++ (uw_Mixture ad_mx cA_mx mx ++ (uw_Surroundings ad_ar cA_ar u ++ (uw_Table ad_tb cA_tb tb)))) H → va_D A (uw_HT ad_ht cA_ht (ad_rd 0) (ad_sp 0) (ad_mx 0) (ad_ar 0) (ad_tb 0) (ad_tc 0) ht ++ (uw_Mixture ad_mx cA_mx mx ++ (uw_Surroundings ad_ar cA_ar u ++ (uw_Table ad_tb cA_tb tb)))) → va_S A s.heap H locs → W p l e (headSpec w_HT_wind ({ frames := 6, cells := 1, slots := 6, locals := 96 })).room s m ([.ref (ad_ht 0), .int x1, .int x2, .int (bI x3)] : List Value).toArray below meth c H locs 0 0 (vx_MQ below (va_Qi (fun (r : Int32) (u : SSurroundings) => res = .inl (r, u)) (fun (u : SSurroundings) (t : State) => va_P (dC, dI) vwCl (uw_HT ad_ht cA_ht (ad_rd 0) (ad_sp 0) (ad_mx 0) (ad_ar 0) (ad_tb 0) (ad_tc 0) ht ++ (uw_Mixture ad_mx cA_mx mx ++ (uw_Surroundings ad_ar cA_ar u ++ (uw_Table ad_tb cA_tb tb)))) t.heap ∧ va_K (dC, dI) vwCl [(cA_ht 1, .int), (cA_mx 1, .int), (cA_mx 2, .int), (cA_mx 3, .boolean), (cA_ar 1, .int), (cA_ar 2, .int), (cA_ar 3, .int), (cA_tb 1, .int), (cA_tb 2, .int), (cA_tb 3, .int), (cA_tb 4, .byte)] t ∧ va_D A (uw_HT ad_ht cA_ht (ad_rd 0) (ad_sp 0) (ad_mx 0) (ad_ar 0) (ad_tb 0) (ad_tc 0) ht ++ (uw_Mixture ad_mx cA_mx mx ++ (uw_Surroundings ad_ar cA_ar u ++ (uw_Table ad_tb cA_tb tb))))) A) (vx_X (fun (u : Nat × (SSurroundings)) => res = .inr u) (fun (E : String) (u : Nat × (SSurroundings)) (t : State) => E = xn u.1 ∧ va_P (dC, dI) vwCl (uw_HT ad_ht cA_ht (ad_rd 0) (ad_sp 0) (ad_mx 0) (ad_ar 0) (ad_tb 0) (ad_tc 0) ht ++ (uw_Mixture ad_mx cA_mx mx ++ (uw_Surroundings ad_ar cA_ar u.2 ++ (uw_Table ad_tb cA_tb tb)))) t.heap ∧ va_K (dC, dI) vwCl [(cA_ht 1, .int), (cA_mx 1, .int), (cA_mx 2, .int), (cA_mx 3, .boolean), (cA_ar 1, .int), (cA_ar 2, .int), (cA_ar 3, .int), (cA_tb 1, .int), (cA_tb 2, .int), (cA_tb 3, .int), (cA_tb 4, .byte)] t ∧ va_D A (uw_HT ad_ht cA_ht (ad_rd 0) (ad_sp 0) (ad_mx 0) (ad_ar 0) (ad_tb 0) (ad_tc 0) ht ++ (uw_Mixture ad_mx cA_mx mx ++ (uw_Surroundings ad_ar cA_ar u.2 ++ (uw_Table ad_tb cA_tb tb))))) A) ([.ref (ad_ht 0), .int x1, .int x2, .int (bI x3)] : List Value).toArray s 1 6 A) (F0 m pc ls [.int v]) := fun v u H locs ls pc hd hp hP hD hS => W.widen (k := 1) (n := 6) (Nat.zero_le _) (Nat.zero_le _) (vx_ret (W.iret (v := v) hx hb hr (fun t ht hW => ⟨⟨v, u, rfl, hp, by rw [ht]; exact hP, va_K.moved hW.alike hK, hD⟩, hS.F ht⟩) hS.2.2 hd))
  generalize (vx_MQ below (va_Qi (fun (r : Int32) (u : SSurroundings) => res = .inl (r, u)) (fun (u : SSurroundings) (t : State) => va_P (dC, dI) vwCl (uw_HT ad_ht cA_ht (ad_rd 0) (ad_sp 0) (ad_mx 0) (ad_ar 0) (ad_tb 0) (ad_tc 0) ht ++ (uw_Mixture ad_mx cA_mx mx ++ (uw_Surroundings ad_ar cA_ar u ++ (uw_Table ad_tb cA_tb tb)))) t.heap ∧ va_K (dC, dI) vwCl [(cA_ht 1, .int), (cA_mx 1, .int), (cA_mx 2, .int), (cA_mx 3, .boolean), (cA_ar 1, .int), (cA_ar 2, .int), (cA_ar 3, .int), (cA_tb 1, .int), (cA_tb 2, .int), (cA_tb 3, .int), (cA_tb 4, .byte)] t ∧ va_D A (uw_HT ad_ht cA_ht (ad_rd 0) (ad_sp 0) (ad_mx 0) (ad_ar 0) (ad_tb 0) (ad_tc 0) ht ++ (uw_Mixture ad_mx cA_mx mx ++ (uw_Surroundings ad_ar cA_ar u ++ (uw_Table ad_tb cA_tb tb))))) A) (vx_X (fun (u : Nat × (SSurroundings)) => res = .inr u) (fun (E : String) (u : Nat × (SSurroundings)) (t : State) => E = xn u.1 ∧ va_P (dC, dI) vwCl (uw_HT ad_ht cA_ht (ad_rd 0) (ad_sp 0) (ad_mx 0) (ad_ar 0) (ad_tb 0) (ad_tc 0) ht ++ (uw_Mixture ad_mx cA_mx mx ++ (uw_Surroundings ad_ar cA_ar u.2 ++ (uw_Table ad_tb cA_tb tb)))) t.heap ∧ va_K (dC, dI) vwCl [(cA_ht 1, .int), (cA_mx 1, .int), (cA_mx 2, .int), (cA_mx 3, .boolean), (cA_ar 1, .int), (cA_ar 2, .int), (cA_ar 3, .int), (cA_tb 1, .int), (cA_tb 2, .int), (cA_tb 3, .int), (cA_tb 4, .byte)] t ∧ va_D A (uw_HT ad_ht cA_ht (ad_rd 0) (ad_sp 0) (ad_mx 0) (ad_ar 0) (ad_tb 0) (ad_tc 0) ht ++ (uw_Mixture ad_mx cA_mx mx ++ (uw_Surroundings ad_ar cA_ar u.2 ++ (uw_Table ad_tb cA_tb tb))))) A) ([.ref (ad_ht 0), .int x1, .int x2, .int (bI x3)] : List Value).toArray s 1 6 A) = Q at ret thr_22 thr_40 ⊢
  have w_50 : ∀ (ar : SSurroundings) (y1 : Int32) (y2 : Int32) (y3 : Bool) (H : Heap) (locs : List Loc) (ls : Array Slot), f_HT_wind_50 ht mx ar tb y1 y2 y3 = some res → va_P (dC, dI) vwCl (uw_HT ad_ht cA_ht (ad_rd 0) (ad_sp 0) (ad_mx 0) (ad_ar 0) (ad_tb 0) (ad_tc 0) ht ++ (uw_Mixture ad_mx cA_mx mx ++ (uw_Surroundings ad_ar cA_ar ar ++ (uw_Table ad_tb cA_tb tb)))) H → va_D A (uw_HT ad_ht cA_ht (ad_rd 0) (ad_sp 0) (ad_mx 0) (ad_ar 0) (ad_tb 0) (ad_tc 0) ht ++ (uw_Mixture ad_mx cA_mx mx ++ (uw_Surroundings ad_ar cA_ar ar ++ (uw_Table ad_tb cA_tb tb)))) → va_S A s.heap H locs → lv_has ls 6 [(0, .ref (ad_ht 0)), (1, .int y1), (2, .int y2), (3, .int (bI y3))] → W p l e (headSpec w_HT_wind ({ frames := 6, cells := 1, slots := 6, locals := 96 })).room s m ([.ref (ad_ht 0), .int x1, .int x2, .int (bI x3)] : List Value).toArray below meth c H locs 0 0 Q (F0 m 50 ls []) := by
    intro ar y1 y2 y3 H locs ls hf hP hD hS hl
    rw [f_HT_wind_50] at hf
    refine lv_aload_n hx hb d_HT_wind_50 rfl (lv_at hl 0 rfl) ?_
    refine va_get (D := (dC, dI)) (ci := 5) (v := .ref (ad_mx 0)) (C := "HazardTables") (T := F_HT) (N := 7) hx hb hts hin_HT hown hK hP 0 rfl rfl 2 (by decide) fl_26 (fun _ h9 => h9) rfl d_HT_wind_51 ?_
    refine lv_aload_n hx hb d_HT_wind_54 rfl (lv_at hl 0 rfl) ?_
    refine va_get (D := (dC, dI)) (ci := 5) (v := .ref (ad_tb 0)) (C := "HazardTables") (T := F_HT) (N := 7) hx hb hts hin_HT hown hK hP 0 rfl rfl 5 (by decide) fl_44 (fun _ h9 => h9) rfl d_HT_wind_55 ?_
    refine lv_aload_n hx hb d_HT_wind_58 rfl (lv_at hl 0 rfl) ?_
    refine va_get (D := (dC, dI)) (ci := 5) (v := .ref (ad_ar 0)) (C := "HazardTables") (T := F_HT) (N := 7) hx hb hts hin_HT hown hK hP 0 rfl rfl 3 (by decide) fl_33 (fun _ h9 => h9) rfl d_HT_wind_59 ?_
    refine va_get (D := (dC, dI)) (ci := 3) (v := .int (bI ar.2.2.2.2.2.2.2)) (C := "HazardTables$Surroundings") (T := F_Surroundings) (N := 8) hx hb hts hin_Surroundings hown hK hP 6 rfl rfl 7 (by decide) fl_189 (fun _ h9 => h9) rfl d_HT_wind_62 ?_
    obtain ⟨u7, hu7, hf⟩ := Option.bind_eq_some_iff.mp hf
    refine cl_i (wc := (uw_Mixture ad_mx cA_mx mx ++ (uw_Table ad_tb cA_tb tb))) (wr := (uw_HT ad_ht cA_ht (ad_rd 0) (ad_sp 0) (ad_mx 0) (ad_ar 0) (ad_tb 0) (ad_tc 0) ht ++ (uw_Surroundings ad_ar cA_ar ar))) (tysC := [(cA_mx 1, .int), (cA_mx 2, .int), (cA_mx 3, .boolean), (cA_tb 1, .int), (cA_tb 2, .int), (cA_tb 3, .int), (cA_tb 4, .byte)]) (wu := fun (u : Unit) => (uw_Mixture ad_mx cA_mx mx ++ (uw_Table ad_tb cA_tb tb))) (wn := fun (u : Unit) => (uw_HT ad_ht cA_ht (ad_rd 0) (ad_sp 0) (ad_mx 0) (ad_ar 0) (ad_tb 0) (ad_tc 0) ht ++ (uw_Mixture ad_mx cA_mx mx ++ (uw_Surroundings ad_ar cA_ar ar ++ (uw_Table ad_tb cA_tb tb))))) [2, 3, 4, 5, 10, 11, 12, 13, 14] [0, 1, 6, 7, 8, 9] [0, 1, 6, 7, 8, 9, 2, 3, 4, 5, 10, 11, 12, 13, 14] [1, 2, 3, 7, 8, 9, 10] hP hD hS hA hK rfl rfl (by decide +kernel) (by decide +kernel) (by decide +kernel) rfl (fun _ => rfl) (by decide +kernel) (fun hPc hKc hDc => (va_runV (As := [.ref (ad_tb 0), .int (bI ar.2.2.2.2.2.2.2)]) (rest := []) ⟨hx, hb, hml, hown, hts⟩ (k_Mixture_distance l dC dI ad_mx cA_mx ad_tb cA_tb H.size mx tb ar.2.2.2.2.2.2.2 u7 hu7) (cwV 2 hts (gV wd_626 wd_627 wd_628 wd_46 wd_629) rfl rfl rfl (by decide +kernel) ⟨Nat.le_of_ble_eq_true rfl, Nat.le_of_ble_eq_true rfl⟩) (cl_preV hPc hKc hDc hN (ci := 0) 0 rfl rfl) rfl rfl hl.1 rfl (lv_room (Nat.le_of_ble_eq_true rfl)) d_HT_wind_65 ⟨Nat.le_of_ble_eq_true rfl, Nat.le_of_ble_eq_true rfl⟩)) (fun r u H locs hw hP hD hS => ?_)
    have hw := hw.symm
    subst hw
    have hP : va_P (dC, dI) vwCl (uw_HT ad_ht cA_ht (ad_rd 0) (ad_sp 0) (ad_mx 0) (ad_ar 0) (ad_tb 0) (ad_tc 0) ht ++ (uw_Mixture ad_mx cA_mx mx ++ (uw_Surroundings ad_ar cA_ar ar ++ (uw_Table ad_tb cA_tb tb)))) H := hP
    have hD : va_D A (uw_HT ad_ht cA_ht (ad_rd 0) (ad_sp 0) (ad_mx 0) (ad_ar 0) (ad_tb 0) (ad_tc 0) ht ++ (uw_Mixture ad_mx cA_mx mx ++ (uw_Surroundings ad_ar cA_ar ar ++ (uw_Table ad_tb cA_tb tb)))) := hD
    refine lv_istore (lv' := [(4, .int u7), (0, .ref (ad_ht 0)), (1, .int y1), (2, .int y2), (3, .int (bI y3))]) hx hb d_HT_wind_68 hl (by decide) rfl (fun ls hl => ?_)
    refine lv_aload_n hx hb d_HT_wind_70 rfl (lv_at hl 1 rfl) ?_
    refine va_get (D := (dC, dI)) (ci := 5) (v := .ref (ad_mx 0)) (C := "HazardTables") (T := F_HT) (N := 7) hx hb hts hin_HT hown hK hP 0 rfl rfl 2 (by decide) fl_26 (fun _ h9 => h9) rfl d_HT_wind_71 ?_
    refine lv_aload_n hx hb d_HT_wind_74 rfl (lv_at hl 1 rfl) ?_
    refine va_get (D := (dC, dI)) (ci := 5) (v := .ref (ad_tb 0)) (C := "HazardTables") (T := F_HT) (N := 7) hx hb hts hin_HT hown hK hP 0 rfl rfl 5 (by decide) fl_44 (fun _ h9 => h9) rfl d_HT_wind_75 ?_
    refine lv_iload_n hx hb d_HT_wind_78 rfl (lv_at hl 4 rfl) ?_
    obtain ⟨u8, hu8, hf⟩ := Option.bind_eq_some_iff.mp hf
    refine cl_i (wc := (uw_Mixture ad_mx cA_mx mx ++ (uw_Table ad_tb cA_tb tb))) (wr := (uw_HT ad_ht cA_ht (ad_rd 0) (ad_sp 0) (ad_mx 0) (ad_ar 0) (ad_tb 0) (ad_tc 0) ht ++ (uw_Surroundings ad_ar cA_ar ar))) (tysC := [(cA_mx 1, .int), (cA_mx 2, .int), (cA_mx 3, .boolean), (cA_tb 1, .int), (cA_tb 2, .int), (cA_tb 3, .int), (cA_tb 4, .byte)]) (wu := fun (u : Unit) => (uw_Mixture ad_mx cA_mx mx ++ (uw_Table ad_tb cA_tb tb))) (wn := fun (u : Unit) => (uw_HT ad_ht cA_ht (ad_rd 0) (ad_sp 0) (ad_mx 0) (ad_ar 0) (ad_tb 0) (ad_tc 0) ht ++ (uw_Mixture ad_mx cA_mx mx ++ (uw_Surroundings ad_ar cA_ar ar ++ (uw_Table ad_tb cA_tb tb))))) [2, 3, 4, 5, 10, 11, 12, 13, 14] [0, 1, 6, 7, 8, 9] [0, 1, 6, 7, 8, 9, 2, 3, 4, 5, 10, 11, 12, 13, 14] [1, 2, 3, 7, 8, 9, 10] hP hD hS hA hK rfl rfl (by decide +kernel) (by decide +kernel) (by decide +kernel) rfl (fun _ => rfl) (by decide +kernel) (fun hPc hKc hDc => (va_runV (As := [.ref (ad_tb 0), .int (bI y3)]) (rest := []) ⟨hx, hb, hml, hown, hts⟩ (k_Mixture_distance l dC dI ad_mx cA_mx ad_tb cA_tb H.size mx tb y3 u8 hu8) (cwV 2 hts (gV wd_626 wd_627 wd_628 wd_46 wd_629) rfl rfl rfl (by decide +kernel) ⟨Nat.le_of_ble_eq_true rfl, Nat.le_of_ble_eq_true rfl⟩) (cl_preV hPc hKc hDc hN (ci := 0) 0 rfl rfl) rfl rfl hl.1 rfl (lv_room (Nat.le_of_ble_eq_true rfl)) d_HT_wind_79 ⟨Nat.le_of_ble_eq_true rfl, Nat.le_of_ble_eq_true rfl⟩)) (fun r u H locs hw hP hD hS => ?_)
    have hw := hw.symm
    subst hw
    have hP : va_P (dC, dI) vwCl (uw_HT ad_ht cA_ht (ad_rd 0) (ad_sp 0) (ad_mx 0) (ad_ar 0) (ad_tb 0) (ad_tc 0) ht ++ (uw_Mixture ad_mx cA_mx mx ++ (uw_Surroundings ad_ar cA_ar ar ++ (uw_Table ad_tb cA_tb tb)))) H := hP
    have hD : va_D A (uw_HT ad_ht cA_ht (ad_rd 0) (ad_sp 0) (ad_mx 0) (ad_ar 0) (ad_tb 0) (ad_tc 0) ht ++ (uw_Mixture ad_mx cA_mx mx ++ (uw_Surroundings ad_ar cA_ar ar ++ (uw_Table ad_tb cA_tb tb)))) := hD
    refine lv_istore (lv' := [(5, .int u8), (4, .int u7), (0, .ref (ad_ht 0)), (1, .int y1), (2, .int y2), (3, .int (bI y3))]) hx hb d_HT_wind_82 hl (by decide) rfl (fun ls hl => ?_)
    refine lv_aload_n hx hb d_HT_wind_84 rfl (lv_at hl 2 rfl) ?_
    refine va_get (D := (dC, dI)) (ci := 5) (v := .ref (ad_ar 0)) (C := "HazardTables") (T := F_HT) (N := 7) hx hb hts hin_HT hown hK hP 0 rfl rfl 3 (by decide) fl_33 (fun _ h9 => h9) rfl d_HT_wind_85 ?_
    refine lv_iload_n hx hb d_HT_wind_88 rfl (lv_at hl 3 rfl) ?_
    refine lv_iload_n hx hb d_HT_wind_89 rfl (lv_at hl 4 rfl) ?_
    refine lv_iload hx hb d_HT_wind_90 (lv_at hl 0 rfl) ?_
    refine lv_iload hx hb d_HT_wind_92 (lv_at hl 1 rfl) ?_
    obtain ⟨u9, hu9, hf⟩ := Option.bind_eq_some_iff.mp hf
    refine cl_v (wc := (uw_Surroundings ad_ar cA_ar ar)) (wr := (uw_HT ad_ht cA_ht (ad_rd 0) (ad_sp 0) (ad_mx 0) (ad_ar 0) (ad_tb 0) (ad_tc 0) ht ++ (uw_Mixture ad_mx cA_mx mx ++ (uw_Table ad_tb cA_tb tb)))) (tysC := [(cA_ar 1, .int), (cA_ar 2, .int), (cA_ar 3, .int)]) (wu := fun (u : SSurroundings) => (uw_Surroundings ad_ar cA_ar u)) (wn := fun (u : SSurroundings) => (uw_HT ad_ht cA_ht (ad_rd 0) (ad_sp 0) (ad_mx 0) (ad_ar 0) (ad_tb 0) (ad_tc 0) ht ++ (uw_Mixture ad_mx cA_mx mx ++ (uw_Surroundings ad_ar cA_ar u ++ (uw_Table ad_tb cA_tb tb))))) [6, 7, 8, 9] [0, 1, 2, 3, 4, 5, 10, 11, 12, 13, 14] [0, 1, 2, 3, 4, 5, 11, 12, 13, 14, 6, 7, 8, 9, 10] [4, 5, 6] hP hD hS hA hK rfl rfl (by decide +kernel) (by decide +kernel) (by decide +kernel) rfl (fun _ => rfl) (by decide +kernel) (fun hPc hKc hDc => (va_runV (As := [.int y1, .int y2, .int u8, .int u7]) (rest := []) ⟨hx, hb, hml, hown, hts⟩ (k_Surroundings_gather l dC dI ad_ar cA_ar H.size ar y1 y2 u8 u7 u9 hu9) (cwV 4 hts (gV wd_676 wd_677 wd_678 wd_47 wd_679) rfl rfl rfl (by decide +kernel) ⟨Nat.le_of_ble_eq_true rfl, Nat.le_of_ble_eq_true rfl⟩) (cl_preV hPc hKc hDc hN (ci := 3) 0 rfl rfl) rfl rfl hl.1 rfl (lv_room (Nat.le_of_ble_eq_true rfl)) d_HT_wind_94 ⟨Nat.le_of_ble_eq_true rfl, Nat.le_of_ble_eq_true rfl⟩)) (fun u H locs hw hP hD hS => ?_)
    have hw := hw.symm
    subst hw
    have hP : va_P (dC, dI) vwCl (uw_HT ad_ht cA_ht (ad_rd 0) (ad_sp 0) (ad_mx 0) (ad_ar 0) (ad_tb 0) (ad_tc 0) ht ++ (uw_Mixture ad_mx cA_mx mx ++ (uw_Surroundings ad_ar cA_ar u9 ++ (uw_Table ad_tb cA_tb tb)))) H := hP
    have hD : va_D A (uw_HT ad_ht cA_ht (ad_rd 0) (ad_sp 0) (ad_mx 0) (ad_ar 0) (ad_tb 0) (ad_tc 0) ht ++ (uw_Mixture ad_mx cA_mx mx ++ (uw_Surroundings ad_ar cA_ar u9 ++ (uw_Table ad_tb cA_tb tb)))) := hD
    refine lv_aload_n hx hb d_HT_wind_97 rfl (lv_at hl 2 rfl) ?_
    refine va_get (D := (dC, dI)) (ci := 5) (v := .ref (ad_ar 0)) (C := "HazardTables") (T := F_HT) (N := 7) hx hb hts hin_HT hown hK hP 0 rfl rfl 3 (by decide) fl_33 (fun _ h9 => h9) rfl d_HT_wind_98 ?_
    refine lv_iload_n hx hb d_HT_wind_101 rfl (lv_at hl 3 rfl) ?_
    refine lv_iload_n hx hb d_HT_wind_102 rfl (lv_at hl 4 rfl) ?_
    refine lv_iload_n hx hb d_HT_wind_103 rfl (lv_at hl 5 rfl) ?_
    obtain ⟨u10, hu10, hf⟩ := Option.bind_eq_some_iff.mp hf
    refine cl_v (wc := (uw_Surroundings ad_ar cA_ar u9)) (wr := (uw_HT ad_ht cA_ht (ad_rd 0) (ad_sp 0) (ad_mx 0) (ad_ar 0) (ad_tb 0) (ad_tc 0) ht ++ (uw_Mixture ad_mx cA_mx mx ++ (uw_Table ad_tb cA_tb tb)))) (tysC := [(cA_ar 1, .int), (cA_ar 2, .int), (cA_ar 3, .int)]) (wu := fun (u : SSurroundings) => (uw_Surroundings ad_ar cA_ar u)) (wn := fun (u : SSurroundings) => (uw_HT ad_ht cA_ht (ad_rd 0) (ad_sp 0) (ad_mx 0) (ad_ar 0) (ad_tb 0) (ad_tc 0) ht ++ (uw_Mixture ad_mx cA_mx mx ++ (uw_Surroundings ad_ar cA_ar u ++ (uw_Table ad_tb cA_tb tb))))) [6, 7, 8, 9] [0, 1, 2, 3, 4, 5, 10, 11, 12, 13, 14] [0, 1, 2, 3, 4, 5, 11, 12, 13, 14, 6, 7, 8, 9, 10] [4, 5, 6] hP hD hS hA hK rfl rfl (by decide +kernel) (by decide +kernel) (by decide +kernel) rfl (fun _ => rfl) (by decide +kernel) (fun hPc hKc hDc => (va_runV (As := [.int y1, .int y2, .int (bI y3)]) (rest := []) ⟨hx, hb, hml, hown, hts⟩ (k_Surroundings_turn l dC dI ad_ar cA_ar H.size u9 y1 y2 y3 u10 hu10) (cwV 3 hts (gV wd_690 wd_691 wd_692 wd_47 wd_693) rfl rfl rfl (by decide +kernel) ⟨Nat.le_of_ble_eq_true rfl, Nat.le_of_ble_eq_true rfl⟩) (cl_preV hPc hKc hDc hN (ci := 3) 0 rfl rfl) rfl rfl hl.1 rfl (lv_room (Nat.le_of_ble_eq_true rfl)) d_HT_wind_104 ⟨Nat.le_of_ble_eq_true rfl, Nat.le_of_ble_eq_true rfl⟩)) (fun u H locs hw hP hD hS => ?_)
    have hw := hw.symm
    subst hw
    have hP : va_P (dC, dI) vwCl (uw_HT ad_ht cA_ht (ad_rd 0) (ad_sp 0) (ad_mx 0) (ad_ar 0) (ad_tb 0) (ad_tc 0) ht ++ (uw_Mixture ad_mx cA_mx mx ++ (uw_Surroundings ad_ar cA_ar u10 ++ (uw_Table ad_tb cA_tb tb)))) H := hP
    have hD : va_D A (uw_HT ad_ht cA_ht (ad_rd 0) (ad_sp 0) (ad_mx 0) (ad_ar 0) (ad_tb 0) (ad_tc 0) ht ++ (uw_Mixture ad_mx cA_mx mx ++ (uw_Surroundings ad_ar cA_ar u10 ++ (uw_Table ad_tb cA_tb tb)))) := hD
    refine lv_aload_n hx hb d_HT_wind_107 rfl (lv_at hl 2 rfl) ?_
    refine va_get (D := (dC, dI)) (ci := 5) (v := .ref (ad_ar 0)) (C := "HazardTables") (T := F_HT) (N := 7) hx hb hts hin_HT hown hK hP 0 rfl rfl 3 (by decide) fl_33 (fun _ h9 => h9) rfl d_HT_wind_108 ?_
    refine va_get (D := (dC, dI)) (ci := 3) (v := .int u10.2.2.2.2.1) (C := "HazardTables$Surroundings") (T := F_Surroundings) (N := 8) hx hb hts hin_Surroundings hown hK hP 6 rfl rfl 4 (by decide) fl_201 (fun _ h9 => h9) rfl d_HT_wind_111 ?_
    exact ret u10.2.2.2.2.1 u10 H locs ls 114 d_HT_wind_114 (Option.some.inj hf).symm hP hD hS
  have hl := lv_entry ([.ref (ad_ht 0), .int x1, .int x2, .int (bI x3)]) (n := 6) (Nat.le_of_ble_eq_true rfl)
  rw [lg_entry_eq]
  generalize (lg_sl ([.ref (ad_ht 0), .int x1, .int x2, .int (bI x3)]) ++ List.replicate (6 - (lg_sl ([.ref (ad_ht 0), .int x1, .int x2, .int (bI x3)])).length) Slot.unset).toArray = ls at hl ⊢
  have hl : lv_has ls 6 [(0, .ref (ad_ht 0)), (1, .int x1), (2, .int x2), (3, .int (bI x3))] := hl
  have hf := hf
  rw [f_HT_wind] at hf
  obtain ⟨H, hH⟩ : ∃ H : Heap, H = s.heap := ⟨_, rfl⟩
  obtain ⟨locs, hlocs⟩ : ∃ L : List Loc, L = [] := ⟨_, rfl⟩
  have hP : va_P (dC, dI) vwCl (uw_HT ad_ht cA_ht (ad_rd 0) (ad_sp 0) (ad_mx 0) (ad_ar 0) (ad_tb 0) (ad_tc 0) ht ++ (uw_Mixture ad_mx cA_mx mx ++ (uw_Surroundings ad_ar cA_ar ar ++ (uw_Table ad_tb cA_tb tb)))) H := by rw [hH]; exact hP
  have hS : va_S A s.heap H locs := by rw [hH, hlocs]; exact hS
  show W p l e (headSpec w_HT_wind ({ frames := 6, cells := 1, slots := 6, locals := 96 })).room s m ([.ref (ad_ht 0), .int x1, .int x2, .int (bI x3)] : List Value).toArray below meth c s.heap [] 0 0 Q (F0 m 0 ls [])
  suffices hgo : W p l e (headSpec w_HT_wind ({ frames := 6, cells := 1, slots := 6, locals := 96 })).room s m ([.ref (ad_ht 0), .int x1, .int x2, .int (bI x3)] : List Value).toArray below meth c H locs 0 0 Q (F0 m 0 ls []) by rw [hH, hlocs] at hgo; exact hgo
  clear hH hlocs
  refine lv_iload_n hx hb d_HT_wind_0 rfl (lv_at hl 1 rfl) ?_
  refine lv_bipush (v := (-100 : Int32)) hx hb d_HT_wind_1 (by decide) ?_
  refine lv_bipush (v := (100 : Int32)) hx hb d_HT_wind_3 (by decide) ?_
  obtain ⟨u1, hu1, hf⟩ := Option.bind_eq_some_iff.mp hf
  refine cl_i (wc := []) (wr := (uw_HT ad_ht cA_ht (ad_rd 0) (ad_sp 0) (ad_mx 0) (ad_ar 0) (ad_tb 0) (ad_tc 0) ht ++ (uw_Mixture ad_mx cA_mx mx ++ (uw_Surroundings ad_ar cA_ar ar ++ (uw_Table ad_tb cA_tb tb))))) (tysC := []) (wu := fun (u : Unit) => []) (wn := fun (u : Unit) => (uw_HT ad_ht cA_ht (ad_rd 0) (ad_sp 0) (ad_mx 0) (ad_ar 0) (ad_tb 0) (ad_tc 0) ht ++ (uw_Mixture ad_mx cA_mx mx ++ (uw_Surroundings ad_ar cA_ar ar ++ (uw_Table ad_tb cA_tb tb))))) [] [0, 1, 2, 3, 4, 5, 6, 7, 8, 9, 10, 11, 12, 13, 14] [0, 1, 2, 3, 4, 5, 6, 7, 8, 9, 10, 11, 12, 13, 14] [] hP hD hS hA hK rfl rfl (by decide +kernel) (by decide +kernel) (by decide +kernel) rfl (fun _ => rfl) (by decide +kernel) (fun hPc hKc hDc => (va_runS (As := [.int x1, .int (-100 : Int32), .int (100 : Int32)]) (rest := []) ⟨hx, hb, hml, hown, hts⟩ (k_HT_isOutside l dC dI  H.size x1 (-100 : Int32) (100 : Int32) u1 hu1) (cwS 3 hts (gS wd_575 wd_576 wd_43 wd_577) rfl rfl rfl (by decide +kernel) ⟨Nat.le_of_ble_eq_true rfl, Nat.le_of_ble_eq_true rfl⟩) (cl_preS hPc hKc hDc hN) rfl rfl hl.1 rfl (lv_room (Nat.le_of_ble_eq_true rfl)) d_HT_wind_5 ⟨Nat.le_of_ble_eq_true rfl, Nat.le_of_ble_eq_true rfl⟩)) (fun r u H locs hw hP hD hS => ?_)
  have hw := hw.symm
  subst hw
  have hP : va_P (dC, dI) vwCl (uw_HT ad_ht cA_ht (ad_rd 0) (ad_sp 0) (ad_mx 0) (ad_ar 0) (ad_tb 0) (ad_tc 0) ht ++ (uw_Mixture ad_mx cA_mx mx ++ (uw_Surroundings ad_ar cA_ar ar ++ (uw_Table ad_tb cA_tb tb)))) H := hP
  have hD : va_D A (uw_HT ad_ht cA_ht (ad_rd 0) (ad_sp 0) (ad_mx 0) (ad_ar 0) (ad_tb 0) (ad_tc 0) ht ++ (uw_Mixture ad_mx cA_mx mx ++ (uw_Surroundings ad_ar cA_ar ar ++ (uw_Table ad_tb cA_tb tb)))) := hD
  refine lv_if_ne (tgt := 22) hx hb d_HT_wind_8 (by decide) (fun hc2 => ?_) (fun hc2 => ?_)
  · have hf := hf_f hf hc2
    exact thr_22 ar H locs ls (Option.some.inj hf).symm hP hD hS hl.1
  · have hf := hf_t hf hc2
    refine lv_iload_n hx hb d_HT_wind_11 rfl (lv_at hl 2 rfl) ?_
    refine lv_bipush (v := (-100 : Int32)) hx hb d_HT_wind_12 (by decide) ?_
    refine lv_bipush (v := (100 : Int32)) hx hb d_HT_wind_14 (by decide) ?_
    obtain ⟨u3, hu3, hf⟩ := Option.bind_eq_some_iff.mp hf
    refine cl_i (wc := []) (wr := (uw_HT ad_ht cA_ht (ad_rd 0) (ad_sp 0) (ad_mx 0) (ad_ar 0) (ad_tb 0) (ad_tc 0) ht ++ (uw_Mixture ad_mx cA_mx mx ++ (uw_Surroundings ad_ar cA_ar ar ++ (uw_Table ad_tb cA_tb tb))))) (tysC := []) (wu := fun (u : Unit) => []) (wn := fun (u : Unit) => (uw_HT ad_ht cA_ht (ad_rd 0) (ad_sp 0) (ad_mx 0) (ad_ar 0) (ad_tb 0) (ad_tc 0) ht ++ (uw_Mixture ad_mx cA_mx mx ++ (uw_Surroundings ad_ar cA_ar ar ++ (uw_Table ad_tb cA_tb tb))))) [] [0, 1, 2, 3, 4, 5, 6, 7, 8, 9, 10, 11, 12, 13, 14] [0, 1, 2, 3, 4, 5, 6, 7, 8, 9, 10, 11, 12, 13, 14] [] hP hD hS hA hK rfl rfl (by decide +kernel) (by decide +kernel) (by decide +kernel) rfl (fun _ => rfl) (by decide +kernel) (fun hPc hKc hDc => (va_runS (As := [.int x2, .int (-100 : Int32), .int (100 : Int32)]) (rest := []) ⟨hx, hb, hml, hown, hts⟩ (k_HT_isOutside l dC dI  H.size x2 (-100 : Int32) (100 : Int32) u3 hu3) (cwS 3 hts (gS wd_575 wd_576 wd_43 wd_577) rfl rfl rfl (by decide +kernel) ⟨Nat.le_of_ble_eq_true rfl, Nat.le_of_ble_eq_true rfl⟩) (cl_preS hPc hKc hDc hN) rfl rfl hl.1 rfl (lv_room (Nat.le_of_ble_eq_true rfl)) d_HT_wind_16 ⟨Nat.le_of_ble_eq_true rfl, Nat.le_of_ble_eq_true rfl⟩)) (fun r u H locs hw hP hD hS => ?_)
    have hw := hw.symm
    subst hw
    have hP : va_P (dC, dI) vwCl (uw_HT ad_ht cA_ht (ad_rd 0) (ad_sp 0) (ad_mx 0) (ad_ar 0) (ad_tb 0) (ad_tc 0) ht ++ (uw_Mixture ad_mx cA_mx mx ++ (uw_Surroundings ad_ar cA_ar ar ++ (uw_Table ad_tb cA_tb tb)))) H := hP
    have hD : va_D A (uw_HT ad_ht cA_ht (ad_rd 0) (ad_sp 0) (ad_mx 0) (ad_ar 0) (ad_tb 0) (ad_tc 0) ht ++ (uw_Mixture ad_mx cA_mx mx ++ (uw_Surroundings ad_ar cA_ar ar ++ (uw_Table ad_tb cA_tb tb)))) := hD
    refine lv_if_eq (tgt := 32) hx hb d_HT_wind_19 (by decide) (fun hc4 => ?_) (fun hc4 => ?_)
    · have hf := hf_t hf hc4
      refine lv_iload_n hx hb d_HT_wind_32 rfl (lv_at hl 1 rfl) ?_
      refine lv_if_ne (tgt := 50) hx hb d_HT_wind_33 (by decide) (fun hc5 => ?_) (fun hc5 => ?_)
      · have hf := hf_f hf hc5
        exact w_50 ar x1 x2 x3 H locs ls hf hP hD hS (lv_sub hl [0, 1, 2, 3] rfl)
      · have hf := hf_t hf hc5
        refine lv_iload_n hx hb d_HT_wind_36 rfl (lv_at hl 2 rfl) ?_
        refine lv_if_ne (tgt := 50) hx hb d_HT_wind_37 (by decide) (fun hc6 => ?_) (fun hc6 => ?_)
        · have hf := hf_f hf hc6
          exact w_50 ar x1 x2 x3 H locs ls hf hP hD hS (lv_sub hl [0, 1, 2, 3] rfl)
        · have hf := hf_t hf hc6
          exact thr_40 ar H locs ls (Option.some.inj hf).symm hP hD hS hl.1
    · have hf := hf_f hf hc4
      exact thr_22 ar H locs ls (Option.some.inj hf).symm hP hD hS hl.1
