noncomputable def f_HT_mixture (ht : SHT) (mx : SMixture) (tb : STable) (x1 : Int32) : Option (Sum (Int32) (Nat × (Unit))) :=
  (Option.bind (f_HT_isOutside x1 (0 : Int32) (5 : Int32)) fun u1 =>
    (if (bI u1) = 0 then
      (if mx.2.2.2.1 = 0 then
        (some (.inr (2, ())))
       else
        (if x1 = (0 : Int32) then
          (Option.bind (f_Mixture_strictness mx tb) fun u5 =>
            (some (.inl (u5)))
           )
         else
        (if x1 = (1 : Int32) then
          (Option.bind (f_Mixture_gear mx tb) fun u7 =>
            (some (.inl (u7)))
           )
         else
        (if x1 = (2 : Int32) then
          (Option.bind (f_Mixture_distance mx tb true) fun u9 =>
            (some (.inl (u9)))
           )
         else
        (if x1 = (3 : Int32) then
          (Option.bind (f_Mixture_distance mx tb false) fun u11 =>
            (some (.inl (u11)))
           )
         else
        (if x1 = (4 : Int32) then
          (some (.inl (mx.2.2.2.1)))
         else
          (Option.bind (f_Mixture_contradictingPairs mx tb) fun u13 =>
            (some (.inl (u13)))
           )
         )))))
       )
     else
      (some (.inr (0, ())))
     )
   )
set_option maxHeartbeats 4000000 in
set_option maxRecDepth 100000 in
theorem k_HT_mixture (l : Launch) (dC : Nat → ClassId) (dI : Nat → Nat → Nat) (ad_ht : Nat → Nat) (cA_ht : Nat → ClassId) (ad_mx : Nat → Nat) (cA_mx : Nat → ClassId) (ad_tb : Nat → Nat) (cA_tb : Nat → ClassId) (ad_rd : Nat → Nat) (cA_rd : Nat → ClassId) (ad_sp : Nat → Nat) (cA_sp : Nat → ClassId) (ad_ar : Nat → Nat) (cA_ar : Nat → ClassId) (ad_tc : Nat → Nat) (cA_tc : Nat → ClassId) (sz : Nat) (ht : SHT) (mx : SMixture) (tb : STable) (x1 : Int32) (res : Sum (Int32) (Nat × (Unit))) (hf : f_HT_mixture ht mx tb x1 = some res) (htr : l.stackTraces = false) : vx_Met l y_HT_mixture w_HT_mixture ({ frames := 6, cells := 1, slots := 6, locals := 92 }) (xPc (dC, dI) (uw_HT ad_ht cA_ht (ad_rd 0) (ad_sp 0) (ad_mx 0) (ad_ar 0) (ad_tb 0) (ad_tc 0) ht ++ (uw_Mixture ad_mx cA_mx mx ++ (uw_Table ad_tb cA_tb tb))) [(cA_ht 1, .int), (cA_mx 1, .int), (cA_mx 2, .int), (cA_mx 3, .boolean), (cA_tb 1, .int), (cA_tb 2, .int), (cA_tb 3, .int), (cA_tb 4, .byte)] sz [.ref (ad_ht 0), .int x1]) (va_Qi (fun (r : Int32) (u : Unit) => res = .inl r) (fun (u : Unit) (t : State) => va_P (dC, dI) vwCl (uw_HT ad_ht cA_ht (ad_rd 0) (ad_sp 0) (ad_mx 0) (ad_ar 0) (ad_tb 0) (ad_tc 0) ht ++ (uw_Mixture ad_mx cA_mx mx ++ (uw_Table ad_tb cA_tb tb))) t.heap ∧ va_K (dC, dI) vwCl [(cA_ht 1, .int), (cA_mx 1, .int), (cA_mx 2, .int), (cA_mx 3, .boolean), (cA_tb 1, .int), (cA_tb 2, .int), (cA_tb 3, .int), (cA_tb 4, .byte)] t ∧ va_D (va_A (uw_HT ad_ht cA_ht (ad_rd 0) (ad_sp 0) (ad_mx 0) (ad_ar 0) (ad_tb 0) (ad_tc 0) ht ++ (uw_Mixture ad_mx cA_mx mx ++ (uw_Table ad_tb cA_tb tb))) sz) (uw_HT ad_ht cA_ht (ad_rd 0) (ad_sp 0) (ad_mx 0) (ad_ar 0) (ad_tb 0) (ad_tc 0) ht ++ (uw_Mixture ad_mx cA_mx mx ++ (uw_Table ad_tb cA_tb tb)))) (va_A (uw_HT ad_ht cA_ht (ad_rd 0) (ad_sp 0) (ad_mx 0) (ad_ar 0) (ad_tb 0) (ad_tc 0) ht ++ (uw_Mixture ad_mx cA_mx mx ++ (uw_Table ad_tb cA_tb tb))) sz)) (vx_X (fun (u : Nat × (Unit)) => res = .inr u) (fun (E : String) (u : Nat × (Unit)) (t : State) => E = xn u.1 ∧ va_P (dC, dI) vwCl (uw_HT ad_ht cA_ht (ad_rd 0) (ad_sp 0) (ad_mx 0) (ad_ar 0) (ad_tb 0) (ad_tc 0) ht ++ (uw_Mixture ad_mx cA_mx mx ++ (uw_Table ad_tb cA_tb tb))) t.heap ∧ va_K (dC, dI) vwCl [(cA_ht 1, .int), (cA_mx 1, .int), (cA_mx 2, .int), (cA_mx 3, .boolean), (cA_tb 1, .int), (cA_tb 2, .int), (cA_tb 3, .int), (cA_tb 4, .byte)] t ∧ va_D (va_A (uw_HT ad_ht cA_ht (ad_rd 0) (ad_sp 0) (ad_mx 0) (ad_ar 0) (ad_tb 0) (ad_tc 0) ht ++ (uw_Mixture ad_mx cA_mx mx ++ (uw_Table ad_tb cA_tb tb))) sz) (uw_HT ad_ht cA_ht (ad_rd 0) (ad_sp 0) (ad_mx 0) (ad_ar 0) (ad_tb 0) (ad_tc 0) ht ++ (uw_Mixture ad_mx cA_mx mx ++ (uw_Table ad_tb cA_tb tb)))) (va_A (uw_HT ad_ht cA_ht (ad_rd 0) (ad_sp 0) (ad_mx 0) (ad_ar 0) (ad_tb 0) (ad_tc 0) ht ++ (uw_Mixture ad_mx cA_mx mx ++ (uw_Table ad_tb cA_tb tb))) sz)) 1 6 (va_A (uw_HT ad_ht cA_ht (ad_rd 0) (ad_sp 0) (ad_mx 0) (ad_ar 0) (ad_tb 0) (ad_tc 0) ht ++ (uw_Mixture ad_mx cA_mx mx ++ (uw_Table ad_tb cA_tb tb))) sz) := by
  refine vx_ofW (cc := b_HT_mixture) (maxL := 2) (ret := (some .int)) (by decide) rfl ?_
  intro p e s m args below meth c s₁ B hml htab hv
  obtain ⟨rfl, hsz, hP, hK, hD0, hN, hX⟩ := hv
  have hx := B.exec
  have hb := B.bytes
  have hr := B.returns
  have hts := atoms_spec (ws := w_HT_mixture) B.pre
  have hown : s.vm.findClass "HazardTables" = some m.cls := findClass_of_methodNamed B.named
  have hlocks := B.notSynchronized
  subst hsz
  have hD := hD0.self (sz := s.heap.size)
  generalize hAe : va_A (uw_HT ad_ht cA_ht (ad_rd 0) (ad_sp 0) (ad_mx 0) (ad_ar 0) (ad_tb 0) (ad_tc 0) ht ++ (uw_Mixture ad_mx cA_mx mx ++ (uw_Table ad_tb cA_tb tb))) s.heap.size = A at hD hX ⊢
  have hA : ∀ q : Nat, s.heap.size ≤ q → A q := fun q h => by rw [← hAe]; exact Or.inr h
  have hS : va_S A s.heap s.heap [] := va_S.rf
  have hP : va_P (dC, dI) vwCl (uw_HT ad_ht cA_ht (ad_rd 0) (ad_sp 0) (ad_mx 0) (ad_ar 0) (ad_tb 0) (ad_tc 0) ht ++ (uw_Mixture ad_mx cA_mx mx ++ (uw_Table ad_tb cA_tb tb))) s.heap := hP
  have fl_151 := (hts _ (List.mem_cons_of_mem _ wd_125))
  have fl_26 := (hts _ (List.mem_cons_of_mem _ wd_206))
  have fl_44 := (hts _ (List.mem_cons_of_mem _ wd_209))
  have hin_HT : ∀ w ∈ u_ws "HazardTables" F_HT 7, w ∈ w_HT_mixture := fun w h => List.mem_cons_of_mem _ (hinA_HT w h)
  have hin_Mixture : ∀ w ∈ u_ws "HazardTables$Mixture" F_Mixture 5, w ∈ w_HT_mixture := fun w h => List.mem_cons_of_mem _ (hinA_Mixture w h)
  have thr_9 : ∀ (u : Unit) (H : Heap) (locs : List Loc) (ls : Array Slot), res = .inr (0, u) → va_P (dC, dI) vwCl (uw_HT ad_ht cA_ht (ad_rd 0) (ad_sp 0) (ad_mx 0) (ad_ar 0) (ad_tb 0) (ad_tc 0) ht ++ (uw_Mixture ad_mx cA_mx mx ++ (uw_Table ad_tb cA_tb tb))) H → va_D A (uw_HT ad_ht cA_ht (ad_rd 0) (ad_sp 0) (ad_mx 0) (ad_ar 0) (ad_tb 0) (ad_tc 0) ht ++ (uw_Mixture ad_mx cA_mx mx ++ (uw_Table ad_tb cA_tb tb))) → va_S A s.heap H locs → ls.size = 2 → W p l e (headSpec w_HT_mixture ({ frames := 6, cells := 1, slots := 6, locals := 92 })).room s m ([.ref (ad_ht 0), .int x1] : List Value).toArray below meth c H locs 0 0 (vx_MQ below (va_Qi (fun (r : Int32) (u : Unit) => res = .inl r) (fun (u : Unit) (t : State) => va_P (dC, dI) vwCl (uw_HT ad_ht cA_ht (ad_rd 0) (ad_sp 0) (ad_mx 0) (ad_ar 0) (ad_tb 0) (ad_tc 0) ht ++ (uw_Mixture ad_mx cA_mx mx ++ (uw_Table ad_tb cA_tb tb))) t.heap ∧ va_K (dC, dI) vwCl [(cA_ht 1, .int), (cA_mx 1, .int), (cA_mx 2, .int), (cA_mx 3, .boolean), (cA_tb 1, .int), (cA_tb 2, .int), (cA_tb 3, .int), (cA_tb 4, .byte)] t ∧ va_D A (uw_HT ad_ht cA_ht (ad_rd 0) (ad_sp 0) (ad_mx 0) (ad_ar 0) (ad_tb 0) (ad_tc 0) ht ++ (uw_Mixture ad_mx cA_mx mx ++ (uw_Table ad_tb cA_tb tb)))) A) (vx_X (fun (u : Nat × (Unit)) => res = .inr u) (fun (E : String) (u : Nat × (Unit)) (t : State) => E = xn u.1 ∧ va_P (dC, dI) vwCl (uw_HT ad_ht cA_ht (ad_rd 0) (ad_sp 0) (ad_mx 0) (ad_ar 0) (ad_tb 0) (ad_tc 0) ht ++ (uw_Mixture ad_mx cA_mx mx ++ (uw_Table ad_tb cA_tb tb))) t.heap ∧ va_K (dC, dI) vwCl [(cA_ht 1, .int), (cA_mx 1, .int), (cA_mx 2, .int), (cA_mx 3, .boolean), (cA_tb 1, .int), (cA_tb 2, .int), (cA_tb 3, .int), (cA_tb 4, .byte)] t ∧ va_D A (uw_HT ad_ht cA_ht (ad_rd 0) (ad_sp 0) (ad_mx 0) (ad_ar 0) (ad_tb 0) (ad_tc 0) ht ++ (uw_Mixture ad_mx cA_mx mx ++ (uw_Table ad_tb cA_tb tb)))) A) ([.ref (ad_ht 0), .int x1] : List Value).toArray s 1 6 A) (F0 m 9 ls []) := by
    intro u H locs ls hres hP hD hS hsz
    obtain ⟨sa, hstr⟩ := hX.2.2.1 (106, "no such what") (by decide)
    refine vx_throwS (cls := "java/lang/IllegalArgumentException") (text := "no such what") (names := xch) (ik := 101) (is := 106) (ic := 105) (sa := sa) hx hb htr hown (by decide) (by decide) (hts _ (List.mem_cons_of_mem _ wd_479)) (hts _ (List.mem_cons_of_mem _ wd_56)) hstr (x_hat_105 hts hX) x_good_105 hX.1 hX.2.1 hS (hsz.trans hml.symm) d_HT_mixture_9 d_HT_mixture_12 d_HT_mixture_13 d_HT_mixture_15 d_HT_mixture_18 (fun x hx9 => (htab x hx9).elim) (by decide) (by decide) (by decide) (by decide) hlocks (fun t hvm hz hk => ?_) hS.2.2 (by decide) (by decide)
    obtain ⟨hP9, hF9⟩ := cl_thrown hP hS hz hk
    exact ⟨(0, u), hres, ⟨rfl, hP9, va_K.moved hvm hK, hD⟩, hF9⟩
  have thr_29 : ∀ (u : Unit) (H : Heap) (locs : List Loc) (ls : Array Slot), res = .inr (2, u) → va_P (dC, dI) vwCl (uw_HT ad_ht cA_ht (ad_rd 0) (ad_sp 0) (ad_mx 0) (ad_ar 0) (ad_tb 0) (ad_tc 0) ht ++ (uw_Mixture ad_mx cA_mx mx ++ (uw_Table ad_tb cA_tb tb))) H → va_D A (uw_HT ad_ht cA_ht (ad_rd 0) (ad_sp 0) (ad_mx 0) (ad_ar 0) (ad_tb 0) (ad_tc 0) ht ++ (uw_Mixture ad_mx cA_mx mx ++ (uw_Table ad_tb cA_tb tb))) → va_S A s.heap H locs → ls.size = 2 → W p l e (headSpec w_HT_mixture ({ frames := 6, cells := 1, slots := 6, locals := 92 })).room s m ([.ref (ad_ht 0), .int x1] : List Value).toArray below meth c H locs 0 0 (vx_MQ below (va_Qi (fun (r : Int32) (u : Unit) => res = .inl r) (fun (u : Unit) (t : State) => va_P (dC, dI) vwCl (uw_HT ad_ht cA_ht (ad_rd 0) (ad_sp 0) (ad_mx 0) (ad_ar 0) (ad_tb 0) (ad_tc 0) ht ++ (uw_Mixture ad_mx cA_mx mx ++ (uw_Table ad_tb cA_tb tb))) t.heap ∧ va_K (dC, dI) vwCl [(cA_ht 1, .int), (cA_mx 1, .int), (cA_mx 2, .int), (cA_mx 3, .boolean), (cA_tb 1, .int), (cA_tb 2, .int), (cA_tb 3, .int), (cA_tb 4, .byte)] t ∧ va_D A (uw_HT ad_ht cA_ht (ad_rd 0) (ad_sp 0) (ad_mx 0) (ad_ar 0) (ad_tb 0) (ad_tc 0) ht ++ (uw_Mixture ad_mx cA_mx mx ++ (uw_Table ad_tb cA_tb tb)))) A) (vx_X (fun (u : Nat × (Unit)) => res = .inr u) (fun (E : String) (u : Nat × (Unit)) (t : State) => E = xn u.1 ∧ va_P (dC, dI) vwCl (uw_HT ad_ht cA_ht (ad_rd 0) (ad_sp 0) (ad_mx 0) (ad_ar 0) (ad_tb 0) (ad_tc 0) ht ++ (uw_Mixture ad_mx cA_mx mx ++ (uw_Table ad_tb cA_tb tb))) t.heap ∧ va_K (dC, dI) vwCl [(cA_ht 1, .int), (cA_mx 1, .int), (cA_mx 2, .int), (cA_mx 3, .boolean), (cA_tb 1, .int), (cA_tb 2, .int), (cA_tb 3, .int), (cA_tb 4, .byte)] t ∧ va_D A (uw_HT ad_ht cA_ht (ad_rd 0) (ad_sp 0) (ad_mx 0) (ad_ar 0) (ad_tb 0) (ad_tc 0) ht ++ (uw_Mixture ad_mx cA_mx mx ++ (uw_Table ad_tb cA_tb tb)))) A) ([.ref (ad_ht 0), .int x1] : List Value).toArray s 1 6 A) (F0 m 29 ls []) := by
    intro u H locs ls hres hP hD hS hsz
    obtain ⟨sa, hstr⟩ := hX.2.2.1 (154, "the mixture is empty") (by decide)
    refine vx_throwS (cls := "java/lang/IllegalStateException") (text := "the mixture is empty") (names := xch) (ik := 75) (is := 154) (ic := 79) (sa := sa) hx hb htr hown (by decide) (by decide) (hts _ (List.mem_cons_of_mem _ wd_446)) (hts _ (List.mem_cons_of_mem _ wd_55)) hstr (x_hat_79 hts hX) x_good_79 hX.1 hX.2.1 hS (hsz.trans hml.symm) d_HT_mixture_29 d_HT_mixture_32 d_HT_mixture_33 d_HT_mixture_35 d_HT_mixture_38 (fun x hx9 => (htab x hx9).elim) (by decide) (by decide) (by decide) (by decide) hlocks (fun t hvm hz hk => ?_) hS.2.2 (by decide) (by decide)
    obtain ⟨hP9, hF9⟩ := cl_thrown hP hS hz hk
    exact ⟨(2, u), hres, ⟨rfl, hP9, va_K.moved hvm hK, hD⟩, hF9⟩
  have ret : ∀ (v : Int32) (u : Unit) (H : Heap) (locs : List Loc) (ls : Array Slot) (pc : Nat), decode b_HT_mixture pc = .ok (.ireturn, 1) → res = .inl v → va_P (dC, dI) vwCl (uw_HT ad_ht cA_ht (ad_rd 0) (ad_sp 0) (ad_mx 0) (ad_ar 0) (ad_tb 0) (ad_tc 0) ht ++ (uw_Mixture ad_mx cA_mx mx ++ (uw_Table ad_tb cA_tb tb))) H → va_D A (uw_HT ad_ht cA_ht (ad_rd 0) (ad_sp 0) (ad_mx 0) (ad_ar 0) (ad_tb 0) (ad_tc 0) ht ++ (uw_Mixture ad_mx cA_mx mx ++ (uw_Table ad_tb cA_tb tb))) → va_S A s.heap H locs → W p l e (headSpec w_HT_mixture ({ frames := 6, cells := 1, slots := 6, locals := 92 })).room s m ([.ref (ad_ht 0), .int x1] : List Value).toArray below meth c H locs 0 0 (vx_MQ below (va_Qi (fun (r : Int32) (u : Unit) => res = .inl r) (fun (u : Unit) (t : State) => va_P (dC, dI) vwCl (uw_HT ad_ht cA_ht (ad_rd 0) (ad_sp 0) (ad_mx 0) (ad_ar 0) (ad_tb 0) (ad_tc 0) ht ++ (uw_Mixture ad_mx cA_mx mx ++ (uw_Table ad_tb cA_tb tb))) t.heap ∧ va_K (dC, dI) vwCl [(cA_ht 1, .int), (cA_mx 1, .int), (cA_mx 2, .int), (cA_mx 3, .boolean), (cA_tb 1, .int), (cA_tb 2, .int), (cA_tb 3, .int), (cA_tb 4, .byte)] t ∧ va_D A (uw_HT ad_ht cA_ht (ad_rd 0) (ad_sp 0) (ad_mx 0) (ad_ar 0) (ad_tb 0) (ad_tc 0) ht ++ (uw_Mixture ad_mx cA_mx mx ++ (uw_Table ad_tb cA_tb tb)))) A) (vx_X (fun (u : Nat × (Unit)) => res = .inr u) (fun (E : String) (u : Nat × (Unit)) (t : State) => E = xn u.1 ∧ va_P (dC, dI) vwCl (uw_HT ad_ht cA_ht (ad_rd 0) (ad_sp 0) (ad_mx 0) (ad_ar 0) (ad_tb 0) (ad_tc 0) ht ++ (uw_Mixture ad_mx cA_mx mx ++ (uw_Table ad_tb cA_tb tb))) t.heap ∧ va_K (dC, dI) vwCl [(cA_ht 1, .int), (cA_mx 1, .int), (cA_mx 2, .int), (cA_mx 3, .boolean), (cA_tb 1, .int), (cA_tb 2, .int), (cA_tb 3, .int), (cA_tb 4, .byte)] t ∧ va_D A (uw_HT ad_ht cA_ht (ad_rd 0) (ad_sp 0) (ad_mx 0) (ad_ar 0) (ad_tb 0) (ad_tc 0) ht ++ (uw_Mixture ad_mx cA_mx mx ++ (uw_Table ad_tb cA_tb tb)))) A) ([.ref (ad_ht 0), .int x1] : List Value).toArray s 1 6 A) (F0 m pc ls [.int v]) := fun v u H locs ls pc hd hp hP hD hS => W.widen (k := 1) (n := 6) (Nat.zero_le _) (Nat.zero_le _) (vx_ret (W.iret (v := v) hx hb hr (fun t ht hW => ⟨⟨v, u, rfl, hp, by rw [ht]; exact hP, va_K.moved hW.alike hK, hD⟩, hS.F ht⟩) hS.2.2 hd))
  generalize (vx_MQ below (va_Qi (fun (r : Int32) (u : Unit) => res = .inl r) (fun (u : Unit) (t : State) => va_P (dC, dI) vwCl (uw_HT ad_ht cA_ht (ad_rd 0) (ad_sp 0) (ad_mx 0) (ad_ar 0) (ad_tb 0) (ad_tc 0) ht ++ (uw_Mixture ad_mx cA_mx mx ++ (uw_Table ad_tb cA_tb tb))) t.heap ∧ va_K (dC, dI) vwCl [(cA_ht 1, .int), (cA_mx 1, .int), (cA_mx 2, .int), (cA_mx 3, .boolean), (cA_tb 1, .int), (cA_tb 2, .int), (cA_tb 3, .int), (cA_tb 4, .byte)] t ∧ va_D A (uw_HT ad_ht cA_ht (ad_rd 0) (ad_sp 0) (ad_mx 0) (ad_ar 0) (ad_tb 0) (ad_tc 0) ht ++ (uw_Mixture ad_mx cA_mx mx ++ (uw_Table ad_tb cA_tb tb)))) A) (vx_X (fun (u : Nat × (Unit)) => res = .inr u) (fun (E : String) (u : Nat × (Unit)) (t : State) => E = xn u.1 ∧ va_P (dC, dI) vwCl (uw_HT ad_ht cA_ht (ad_rd 0) (ad_sp 0) (ad_mx 0) (ad_ar 0) (ad_tb 0) (ad_tc 0) ht ++ (uw_Mixture ad_mx cA_mx mx ++ (uw_Table ad_tb cA_tb tb))) t.heap ∧ va_K (dC, dI) vwCl [(cA_ht 1, .int), (cA_mx 1, .int), (cA_mx 2, .int), (cA_mx 3, .boolean), (cA_tb 1, .int), (cA_tb 2, .int), (cA_tb 3, .int), (cA_tb 4, .byte)] t ∧ va_D A (uw_HT ad_ht cA_ht (ad_rd 0) (ad_sp 0) (ad_mx 0) (ad_ar 0) (ad_tb 0) (ad_tc 0) ht ++ (uw_Mixture ad_mx cA_mx mx ++ (uw_Table ad_tb cA_tb tb)))) A) ([.ref (ad_ht 0), .int x1] : List Value).toArray s 1 6 A) = Q at ret thr_9 thr_29 ⊢
  have hl := lv_entry ([.ref (ad_ht 0), .int x1]) (n := 2) (Nat.le_of_ble_eq_true rfl)
  rw [lg_entry_eq]
  generalize (lg_sl ([.ref (ad_ht 0), .int x1]) ++ List.replicate (2 - (lg_sl ([.ref (ad_ht 0), .int x1])).length) Slot.unset).toArray = ls at hl ⊢
  have hl : lv_has ls 2 [(0, .ref (ad_ht 0)), (1, .int x1)] := hl
  have hf := hf
  rw [f_HT_mixture] at hf
  obtain ⟨H, hH⟩ : ∃ H : Heap, H = s.heap := ⟨_, rfl⟩
  obtain ⟨locs, hlocs⟩ : ∃ L : List Loc, L = [] := ⟨_, rfl⟩
  have hP : va_P (dC, dI) vwCl (uw_HT ad_ht cA_ht (ad_rd 0) (ad_sp 0) (ad_mx 0) (ad_ar 0) (ad_tb 0) (ad_tc 0) ht ++ (uw_Mixture ad_mx cA_mx mx ++ (uw_Table ad_tb cA_tb tb))) H := by rw [hH]; exact hP
  have hS : va_S A s.heap H locs := by rw [hH, hlocs]; exact hS
  show W p l e (headSpec w_HT_mixture ({ frames := 6, cells := 1, slots := 6, locals := 92 })).room s m ([.ref (ad_ht 0), .int x1] : List Value).toArray below meth c s.heap [] 0 0 Q (F0 m 0 ls [])
  suffices hgo : W p l e (headSpec w_HT_mixture ({ frames := 6, cells := 1, slots := 6, locals := 92 })).room s m ([.ref (ad_ht 0), .int x1] : List Value).toArray below meth c H locs 0 0 Q (F0 m 0 ls []) by rw [hH, hlocs] at hgo; exact hgo
  clear hH hlocs
  refine lv_iload_n hx hb d_HT_mixture_0 rfl (lv_at hl 1 rfl) ?_
  refine lv_iconst (v := (0 : Int32)) hx hb d_HT_mixture_1 (by decide) ?_
  refine lv_iconst (v := (5 : Int32)) hx hb d_HT_mixture_2 (by decide) ?_
  obtain ⟨u1, hu1, hf⟩ := Option.bind_eq_some_iff.mp hf
  refine cl_i (wc := []) (wr := (uw_HT ad_ht cA_ht (ad_rd 0) (ad_sp 0) (ad_mx 0) (ad_ar 0) (ad_tb 0) (ad_tc 0) ht ++ (uw_Mixture ad_mx cA_mx mx ++ (uw_Table ad_tb cA_tb tb)))) (tysC := []) (wu := fun (u : Unit) => []) (wn := fun (u : Unit) => (uw_HT ad_ht cA_ht (ad_rd 0) (ad_sp 0) (ad_mx 0) (ad_ar 0) (ad_tb 0) (ad_tc 0) ht ++ (uw_Mixture ad_mx cA_mx mx ++ (uw_Table ad_tb cA_tb tb)))) [] [0, 1, 2, 3, 4, 5, 6, 7, 8, 9, 10] [0, 1, 2, 3, 4, 5, 6, 7, 8, 9, 10] [] hP hD hS hA hK rfl rfl (by decide +kernel) (by decide +kernel) (by decide +kernel) rfl (fun _ => rfl) (by decide +kernel) (fun hPc hKc hDc => (va_runS (As := [.int x1, .int (0 : Int32), .int (5 : Int32)]) (rest := []) ⟨hx, hb, hml, hown, hts⟩ (k_HT_isOutside l dC dI  H.size x1 (0 : Int32) (5 : Int32) u1 hu1) (cwS 3 hts (gS wd_575 wd_576 wd_43 wd_577) rfl rfl rfl (by decide +kernel) ⟨Nat.le_of_ble_eq_true rfl, Nat.le_of_ble_eq_true rfl⟩) (cl_preS hPc hKc hDc hN) rfl rfl hl.1 rfl (lv_room (Nat.le_of_ble_eq_true rfl)) d_HT_mixture_3 ⟨Nat.le_of_ble_eq_true rfl, Nat.le_of_ble_eq_true rfl⟩)) (fun r u H locs hw hP hD hS => ?_)
  have hw := hw.symm
  subst hw
  have hP : va_P (dC, dI) vwCl (uw_HT ad_ht cA_ht (ad_rd 0) (ad_sp 0) (ad_mx 0) (ad_ar 0) (ad_tb 0) (ad_tc 0) ht ++ (uw_Mixture ad_mx cA_mx mx ++ (uw_Table ad_tb cA_tb tb))) H := hP
  have hD : va_D A (uw_HT ad_ht cA_ht (ad_rd 0) (ad_sp 0) (ad_mx 0) (ad_ar 0) (ad_tb 0) (ad_tc 0) ht ++ (uw_Mixture ad_mx cA_mx mx ++ (uw_Table ad_tb cA_tb tb))) := hD
  refine lv_if_eq (tgt := 19) hx hb d_HT_mixture_6 (by decide) (fun hc2 => ?_) (fun hc2 => ?_)
  · have hf := hf_t hf hc2
    refine lv_aload_n hx hb d_HT_mixture_19 rfl (lv_at hl 0 rfl) ?_
    refine va_get (D := (dC, dI)) (ci := 5) (v := .ref (ad_mx 0)) (C := "HazardTables") (T := F_HT) (N := 7) hx hb hts hin_HT hown hK hP 0 rfl rfl 2 (by decide) fl_26 (fun _ h9 => h9) rfl d_HT_mixture_20 ?_
    refine va_get (D := (dC, dI)) (ci := 0) (v := .int mx.2.2.2.1) (C := "HazardTables$Mixture") (T := F_Mixture) (N := 5) hx hb hts hin_Mixture hown hK hP 2 rfl rfl 3 (by decide) fl_151 (fun _ h9 => h9) rfl d_HT_mixture_23 ?_
    refine lv_if_ne (tgt := 39) hx hb d_HT_mixture_26 (by decide) (fun hc3 => ?_) (fun hc3 => ?_)
    · have hf := hf_f hf hc3
      refine lv_iload_n hx hb d_HT_mixture_39 rfl (lv_at hl 1 rfl) ?_
      by_cases hc4 : x1 = (0 : Int32)
      · have hf := hf_t hf hc4
        refine lv_tableIn (off := 36) (tgt := 76) hx hb d_HT_mixture_40 (by rw [hc4]; decide) (by rw [hc4]; decide) (by rw [hc4]; rfl) (by decide) ?_
        refine lv_aload_n hx hb d_HT_mixture_76 rfl (lv_at hl 0 rfl) ?_
        refine va_get (D := (dC, dI)) (ci := 5) (v := .ref (ad_mx 0)) (C := "HazardTables") (T := F_HT) (N := 7) hx hb hts hin_HT hown hK hP 0 rfl rfl 2 (by decide) fl_26 (fun _ h9 => h9) rfl d_HT_mixture_77 ?_
        refine lv_aload_n hx hb d_HT_mixture_80 rfl (lv_at hl 0 rfl) ?_
        refine va_get (D := (dC, dI)) (ci := 5) (v := .ref (ad_tb 0)) (C := "HazardTables") (T := F_HT) (N := 7) hx hb hts hin_HT hown hK hP 0 rfl rfl 5 (by decide) fl_44 (fun _ h9 => h9) rfl d_HT_mixture_81 ?_
        obtain ⟨u5, hu5, hf⟩ := Option.bind_eq_some_iff.mp hf
        refine cl_i (wc := (uw_Mixture ad_mx cA_mx mx ++ (uw_Table ad_tb cA_tb tb))) (wr := (uw_HT ad_ht cA_ht (ad_rd 0) (ad_sp 0) (ad_mx 0) (ad_ar 0) (ad_tb 0) (ad_tc 0) ht)) (tysC := [(cA_mx 1, .int), (cA_mx 2, .int), (cA_mx 3, .boolean), (cA_tb 1, .int), (cA_tb 2, .int), (cA_tb 3, .int), (cA_tb 4, .byte)]) (wu := fun (u : Unit) => (uw_Mixture ad_mx cA_mx mx ++ (uw_Table ad_tb cA_tb tb))) (wn := fun (u : Unit) => (uw_HT ad_ht cA_ht (ad_rd 0) (ad_sp 0) (ad_mx 0) (ad_ar 0) (ad_tb 0) (ad_tc 0) ht ++ (uw_Mixture ad_mx cA_mx mx ++ (uw_Table ad_tb cA_tb tb)))) [2, 3, 4, 5, 6, 7, 8, 9, 10] [0, 1] [0, 1, 2, 3, 4, 5, 6, 7, 8, 9, 10] [1, 2, 3, 4, 5, 6, 7] hP hD hS hA hK rfl rfl (by decide +kernel) (by decide +kernel) (by decide +kernel) rfl (fun _ => rfl) (by decide +kernel) (fun hPc hKc hDc => (va_runV (As := [.ref (ad_tb 0)]) (rest := []) ⟨hx, hb, hml, hown, hts⟩ (k_Mixture_strictness l dC dI ad_mx cA_mx ad_tb cA_tb H.size mx tb u5 hu5) (cwV 1 hts (gV wd_614 wd_615 wd_616 wd_46 wd_617) rfl rfl rfl (by decide +kernel) ⟨Nat.le_of_ble_eq_true rfl, Nat.le_of_ble_eq_true rfl⟩) (cl_preV hPc hKc hDc hN (ci := 0) 0 rfl rfl) rfl rfl hl.1 rfl (lv_room (Nat.le_of_ble_eq_true rfl)) d_HT_mixture_84 ⟨Nat.le_of_ble_eq_true rfl, Nat.le_of_ble_eq_true rfl⟩)) (fun r u H locs hw hP hD hS => ?_)
        have hw := hw.symm
        subst hw
        have hP : va_P (dC, dI) vwCl (uw_HT ad_ht cA_ht (ad_rd 0) (ad_sp 0) (ad_mx 0) (ad_ar 0) (ad_tb 0) (ad_tc 0) ht ++ (uw_Mixture ad_mx cA_mx mx ++ (uw_Table ad_tb cA_tb tb))) H := hP
        have hD : va_D A (uw_HT ad_ht cA_ht (ad_rd 0) (ad_sp 0) (ad_mx 0) (ad_ar 0) (ad_tb 0) (ad_tc 0) ht ++ (uw_Mixture ad_mx cA_mx mx ++ (uw_Table ad_tb cA_tb tb))) := hD
        exact ret u5 () H locs ls 87 d_HT_mixture_87 (Option.some.inj hf).symm hP hD hS
      have hf := hf_f hf hc4
      by_cases hc6 : x1 = (1 : Int32)
      · have hf := hf_t hf hc6
        refine lv_tableIn (off := 48) (tgt := 88) hx hb d_HT_mixture_40 (by rw [hc6]; decide) (by rw [hc6]; decide) (by rw [hc6]; rfl) (by decide) ?_
        refine lv_aload_n hx hb d_HT_mixture_88 rfl (lv_at hl 0 rfl) ?_
        refine va_get (D := (dC, dI)) (ci := 5) (v := .ref (ad_mx 0)) (C := "HazardTables") (T := F_HT) (N := 7) hx hb hts hin_HT hown hK hP 0 rfl rfl 2 (by decide) fl_26 (fun _ h9 => h9) rfl d_HT_mixture_89 ?_
        refine lv_aload_n hx hb d_HT_mixture_92 rfl (lv_at hl 0 rfl) ?_
        refine va_get (D := (dC, dI)) (ci := 5) (v := .ref (ad_tb 0)) (C := "HazardTables") (T := F_HT) (N := 7) hx hb hts hin_HT hown hK hP 0 rfl rfl 5 (by decide) fl_44 (fun _ h9 => h9) rfl d_HT_mixture_93 ?_
        obtain ⟨u7, hu7, hf⟩ := Option.bind_eq_some_iff.mp hf
        refine cl_i (wc := (uw_Mixture ad_mx cA_mx mx ++ (uw_Table ad_tb cA_tb tb))) (wr := (uw_HT ad_ht cA_ht (ad_rd 0) (ad_sp 0) (ad_mx 0) (ad_ar 0) (ad_tb 0) (ad_tc 0) ht)) (tysC := [(cA_mx 1, .int), (cA_mx 2, .int), (cA_mx 3, .boolean), (cA_tb 1, .int), (cA_tb 2, .int), (cA_tb 3, .int), (cA_tb 4, .byte)]) (wu := fun (u : Unit) => (uw_Mixture ad_mx cA_mx mx ++ (uw_Table ad_tb cA_tb tb))) (wn := fun (u : Unit) => (uw_HT ad_ht cA_ht (ad_rd 0) (ad_sp 0) (ad_mx 0) (ad_ar 0) (ad_tb 0) (ad_tc 0) ht ++ (uw_Mixture ad_mx cA_mx mx ++ (uw_Table ad_tb cA_tb tb)))) [2, 3, 4, 5, 6, 7, 8, 9, 10] [0, 1] [0, 1, 2, 3, 4, 5, 6, 7, 8, 9, 10] [1, 2, 3, 4, 5, 6, 7] hP hD hS hA hK rfl rfl (by decide +kernel) (by decide +kernel) (by decide +kernel) rfl (fun _ => rfl) (by decide +kernel) (fun hPc hKc hDc => (va_runV (As := [.ref (ad_tb 0)]) (rest := []) ⟨hx, hb, hml, hown, hts⟩ (k_Mixture_gear l dC dI ad_mx cA_mx ad_tb cA_tb H.size mx tb u7 hu7) (cwV 1 hts (gV wd_622 wd_623 wd_624 wd_46 wd_625) rfl rfl rfl (by decide +kernel) ⟨Nat.le_of_ble_eq_true rfl, Nat.le_of_ble_eq_true rfl⟩) (cl_preV hPc hKc hDc hN (ci := 0) 0 rfl rfl) rfl rfl hl.1 rfl (lv_room (Nat.le_of_ble_eq_true rfl)) d_HT_mixture_96 ⟨Nat.le_of_ble_eq_true rfl, Nat.le_of_ble_eq_true rfl⟩)) (fun r u H locs hw hP hD hS => ?_)
        have hw := hw.symm
        subst hw
        have hP : va_P (dC, dI) vwCl (uw_HT ad_ht cA_ht (ad_rd 0) (ad_sp 0) (ad_mx 0) (ad_ar 0) (ad_tb 0) (ad_tc 0) ht ++ (uw_Mixture ad_mx cA_mx mx ++ (uw_Table ad_tb cA_tb tb))) H := hP
        have hD : va_D A (uw_HT ad_ht cA_ht (ad_rd 0) (ad_sp 0) (ad_mx 0) (ad_ar 0) (ad_tb 0) (ad_tc 0) ht ++ (uw_Mixture ad_mx cA_mx mx ++ (uw_Table ad_tb cA_tb tb))) := hD
        exact ret u7 () H locs ls 99 d_HT_mixture_99 (Option.some.inj hf).symm hP hD hS
      have hf := hf_f hf hc6
      by_cases hc8 : x1 = (2 : Int32)
      · have hf := hf_t hf hc8
        refine lv_tableIn (off := 60) (tgt := 100) hx hb d_HT_mixture_40 (by rw [hc8]; decide) (by rw [hc8]; decide) (by rw [hc8]; rfl) (by decide) ?_
        refine lv_aload_n hx hb d_HT_mixture_100 rfl (lv_at hl 0 rfl) ?_
        refine va_get (D := (dC, dI)) (ci := 5) (v := .ref (ad_mx 0)) (C := "HazardTables") (T := F_HT) (N := 7) hx hb hts hin_HT hown hK hP 0 rfl rfl 2 (by decide) fl_26 (fun _ h9 => h9) rfl d_HT_mixture_101 ?_
        refine lv_aload_n hx hb d_HT_mixture_104 rfl (lv_at hl 0 rfl) ?_
        refine va_get (D := (dC, dI)) (ci := 5) (v := .ref (ad_tb 0)) (C := "HazardTables") (T := F_HT) (N := 7) hx hb hts hin_HT hown hK hP 0 rfl rfl 5 (by decide) fl_44 (fun _ h9 => h9) rfl d_HT_mixture_105 ?_
        refine lv_iconst (v := (1 : Int32)) hx hb d_HT_mixture_108 (by decide) ?_
        obtain ⟨u9, hu9, hf⟩ := Option.bind_eq_some_iff.mp hf
        refine cl_i (wc := (uw_Mixture ad_mx cA_mx mx ++ (uw_Table ad_tb cA_tb tb))) (wr := (uw_HT ad_ht cA_ht (ad_rd 0) (ad_sp 0) (ad_mx 0) (ad_ar 0) (ad_tb 0) (ad_tc 0) ht)) (tysC := [(cA_mx 1, .int), (cA_mx 2, .int), (cA_mx 3, .boolean), (cA_tb 1, .int), (cA_tb 2, .int), (cA_tb 3, .int), (cA_tb 4, .byte)]) (wu := fun (u : Unit) => (uw_Mixture ad_mx cA_mx mx ++ (uw_Table ad_tb cA_tb tb))) (wn := fun (u : Unit) => (uw_HT ad_ht cA_ht (ad_rd 0) (ad_sp 0) (ad_mx 0) (ad_ar 0) (ad_tb 0) (ad_tc 0) ht ++ (uw_Mixture ad_mx cA_mx mx ++ (uw_Table ad_tb cA_tb tb)))) [2, 3, 4, 5, 6, 7, 8, 9, 10] [0, 1] [0, 1, 2, 3, 4, 5, 6, 7, 8, 9, 10] [1, 2, 3, 4, 5, 6, 7] hP hD hS hA hK rfl rfl (by decide +kernel) (by decide +kernel) (by decide +kernel) rfl (fun _ => rfl) (by decide +kernel) (fun hPc hKc hDc => (va_runV (As := [.ref (ad_tb 0), .int (1 : Int32)]) (rest := []) ⟨hx, hb, hml, hown, hts⟩ (k_Mixture_distance l dC dI ad_mx cA_mx ad_tb cA_tb H.size mx tb true u9 hu9) (cwV 2 hts (gV wd_626 wd_627 wd_628 wd_46 wd_629) rfl rfl rfl (by decide +kernel) ⟨Nat.le_of_ble_eq_true rfl, Nat.le_of_ble_eq_true rfl⟩) (cl_preV hPc hKc hDc hN (ci := 0) 0 rfl rfl) rfl rfl hl.1 rfl (lv_room (Nat.le_of_ble_eq_true rfl)) d_HT_mixture_109 ⟨Nat.le_of_ble_eq_true rfl, Nat.le_of_ble_eq_true rfl⟩)) (fun r u H locs hw hP hD hS => ?_)
        have hw := hw.symm
        subst hw
        have hP : va_P (dC, dI) vwCl (uw_HT ad_ht cA_ht (ad_rd 0) (ad_sp 0) (ad_mx 0) (ad_ar 0) (ad_tb 0) (ad_tc 0) ht ++ (uw_Mixture ad_mx cA_mx mx ++ (uw_Table ad_tb cA_tb tb))) H := hP
        have hD : va_D A (uw_HT ad_ht cA_ht (ad_rd 0) (ad_sp 0) (ad_mx 0) (ad_ar 0) (ad_tb 0) (ad_tc 0) ht ++ (uw_Mixture ad_mx cA_mx mx ++ (uw_Table ad_tb cA_tb tb))) := hD
        exact ret u9 () H locs ls 112 d_HT_mixture_112 (Option.some.inj hf).symm hP hD hS
      have hf := hf_f hf hc8
      by_cases hc10 : x1 = (3 : Int32)
      · have hf := hf_t hf hc10
        refine lv_tableIn (off := 73) (tgt := 113) hx hb d_HT_mixture_40 (by rw [hc10]; decide) (by rw [hc10]; decide) (by rw [hc10]; rfl) (by decide) ?_
        refine lv_aload_n hx hb d_HT_mixture_113 rfl (lv_at hl 0 rfl) ?_
        refine va_get (D := (dC, dI)) (ci := 5) (v := .ref (ad_mx 0)) (C := "HazardTables") (T := F_HT) (N := 7) hx hb hts hin_HT hown hK hP 0 rfl rfl 2 (by decide) fl_26 (fun _ h9 => h9) rfl d_HT_mixture_114 ?_
        refine lv_aload_n hx hb d_HT_mixture_117 rfl (lv_at hl 0 rfl) ?_
        refine va_get (D := (dC, dI)) (ci := 5) (v := .ref (ad_tb 0)) (C := "HazardTables") (T := F_HT) (N := 7) hx hb hts hin_HT hown hK hP 0 rfl rfl 5 (by decide) fl_44 (fun _ h9 => h9) rfl d_HT_mixture_118 ?_
        refine lv_iconst (v := (0 : Int32)) hx hb d_HT_mixture_121 (by decide) ?_
        obtain ⟨u11, hu11, hf⟩ := Option.bind_eq_some_iff.mp hf
        refine cl_i (wc := (uw_Mixture ad_mx cA_mx mx ++ (uw_Table ad_tb cA_tb tb))) (wr := (uw_HT ad_ht cA_ht (ad_rd 0) (ad_sp 0) (ad_mx 0) (ad_ar 0) (ad_tb 0) (ad_tc 0) ht)) (tysC := [(cA_mx 1, .int), (cA_mx 2, .int), (cA_mx 3, .boolean), (cA_tb 1, .int), (cA_tb 2, .int), (cA_tb 3, .int), (cA_tb 4, .byte)]) (wu := fun (u : Unit) => (uw_Mixture ad_mx cA_mx mx ++ (uw_Table ad_tb cA_tb tb))) (wn := fun (u : Unit) => (uw_HT ad_ht cA_ht (ad_rd 0) (ad_sp 0) (ad_mx 0) (ad_ar 0) (ad_tb 0) (ad_tc 0) ht ++ (uw_Mixture ad_mx cA_mx mx ++ (uw_Table ad_tb cA_tb tb)))) [2, 3, 4, 5, 6, 7, 8, 9, 10] [0, 1] [0, 1, 2, 3, 4, 5, 6, 7, 8, 9, 10] [1, 2, 3, 4, 5, 6, 7] hP hD hS hA hK rfl rfl (by decide +kernel) (by decide +kernel) (by decide +kernel) rfl (fun _ => rfl) (by decide +kernel) (fun hPc hKc hDc => (va_runV (As := [.ref (ad_tb 0), .int (0 : Int32)]) (rest := []) ⟨hx, hb, hml, hown, hts⟩ (k_Mixture_distance l dC dI ad_mx cA_mx ad_tb cA_tb H.size mx tb false u11 hu11) (cwV 2 hts (gV wd_626 wd_627 wd_628 wd_46 wd_629) rfl rfl rfl (by decide +kernel) ⟨Nat.le_of_ble_eq_true rfl, Nat.le_of_ble_eq_true rfl⟩) (cl_preV hPc hKc hDc hN (ci := 0) 0 rfl rfl) rfl rfl hl.1 rfl (lv_room (Nat.le_of_ble_eq_true rfl)) d_HT_mixture_122 ⟨Nat.le_of_ble_eq_true rfl, Nat.le_of_ble_eq_true rfl⟩)) (fun r u H locs hw hP hD hS => ?_)
        have hw := hw.symm
        subst hw
        have hP : va_P (dC, dI) vwCl (uw_HT ad_ht cA_ht (ad_rd 0) (ad_sp 0) (ad_mx 0) (ad_ar 0) (ad_tb 0) (ad_tc 0) ht ++ (uw_Mixture ad_mx cA_mx mx ++ (uw_Table ad_tb cA_tb tb))) H := hP
        have hD : va_D A (uw_HT ad_ht cA_ht (ad_rd 0) (ad_sp 0) (ad_mx 0) (ad_ar 0) (ad_tb 0) (ad_tc 0) ht ++ (uw_Mixture ad_mx cA_mx mx ++ (uw_Table ad_tb cA_tb tb))) := hD
        exact ret u11 () H locs ls 125 d_HT_mixture_125 (Option.some.inj hf).symm hP hD hS
      have hf := hf_f hf hc10
      by_cases hc12 : x1 = (4 : Int32)
      · have hf := hf_t hf hc12
        refine lv_tableIn (off := 86) (tgt := 126) hx hb d_HT_mixture_40 (by rw [hc12]; decide) (by rw [hc12]; decide) (by rw [hc12]; rfl) (by decide) ?_
        refine lv_aload_n hx hb d_HT_mixture_126 rfl (lv_at hl 0 rfl) ?_
        refine va_get (D := (dC, dI)) (ci := 5) (v := .ref (ad_mx 0)) (C := "HazardTables") (T := F_HT) (N := 7) hx hb hts hin_HT hown hK hP 0 rfl rfl 2 (by decide) fl_26 (fun _ h9 => h9) rfl d_HT_mixture_127 ?_
        refine va_get (D := (dC, dI)) (ci := 0) (v := .int mx.2.2.2.1) (C := "HazardTables$Mixture") (T := F_Mixture) (N := 5) hx hb hts hin_Mixture hown hK hP 2 rfl rfl 3 (by decide) fl_151 (fun _ h9 => h9) rfl d_HT_mixture_130 ?_
        exact ret mx.2.2.2.1 () H locs ls 133 d_HT_mixture_133 (Option.some.inj hf).symm hP hD hS
      have hf := hf_f hf hc12
      refine lv_tableOut (tgt := 134) hx hb d_HT_mixture_40 (by have := lv_neT hc4 (a := 0) rfl; have := lv_neT hc6 (a := 1) rfl; have := lv_neT hc8 (a := 2) rfl; have := lv_neT hc10 (a := 3) rfl; have := lv_neT hc12 (a := 4) rfl; omega) (by decide) ?_
      refine lv_aload_n hx hb d_HT_mixture_134 rfl (lv_at hl 0 rfl) ?_
      refine va_get (D := (dC, dI)) (ci := 5) (v := .ref (ad_mx 0)) (C := "HazardTables") (T := F_HT) (N := 7) hx hb hts hin_HT hown hK hP 0 rfl rfl 2 (by decide) fl_26 (fun _ h9 => h9) rfl d_HT_mixture_135 ?_
      refine lv_aload_n hx hb d_HT_mixture_138 rfl (lv_at hl 0 rfl) ?_
      refine va_get (D := (dC, dI)) (ci := 5) (v := .ref (ad_tb 0)) (C := "HazardTables") (T := F_HT) (N := 7) hx hb hts hin_HT hown hK hP 0 rfl rfl 5 (by decide) fl_44 (fun _ h9 => h9) rfl d_HT_mixture_139 ?_
      obtain ⟨u13, hu13, hf⟩ := Option.bind_eq_some_iff.mp hf
      refine cl_i (wc := (uw_Mixture ad_mx cA_mx mx ++ (uw_Table ad_tb cA_tb tb))) (wr := (uw_HT ad_ht cA_ht (ad_rd 0) (ad_sp 0) (ad_mx 0) (ad_ar 0) (ad_tb 0) (ad_tc 0) ht)) (tysC := [(cA_mx 1, .int), (cA_mx 2, .int), (cA_mx 3, .boolean), (cA_tb 1, .int), (cA_tb 2, .int), (cA_tb 3, .int), (cA_tb 4, .byte)]) (wu := fun (u : Unit) => (uw_Mixture ad_mx cA_mx mx ++ (uw_Table ad_tb cA_tb tb))) (wn := fun (u : Unit) => (uw_HT ad_ht cA_ht (ad_rd 0) (ad_sp 0) (ad_mx 0) (ad_ar 0) (ad_tb 0) (ad_tc 0) ht ++ (uw_Mixture ad_mx cA_mx mx ++ (uw_Table ad_tb cA_tb tb)))) [2, 3, 4, 5, 6, 7, 8, 9, 10] [0, 1] [0, 1, 2, 3, 4, 5, 6, 7, 8, 9, 10] [1, 2, 3, 4, 5, 6, 7] hP hD hS hA hK rfl rfl (by decide +kernel) (by decide +kernel) (by decide +kernel) rfl (fun _ => rfl) (by decide +kernel) (fun hPc hKc hDc => (va_runV (As := [.ref (ad_tb 0)]) (rest := []) ⟨hx, hb, hml, hown, hts⟩ (k_Mixture_contradictingPairs l dC dI ad_mx cA_mx ad_tb cA_tb H.size mx tb u13 hu13) (cwV 1 hts (gV wd_630 wd_631 wd_632 wd_46 wd_633) rfl rfl rfl (by decide +kernel) ⟨Nat.le_of_ble_eq_true rfl, Nat.le_of_ble_eq_true rfl⟩) (cl_preV hPc hKc hDc hN (ci := 0) 0 rfl rfl) rfl rfl hl.1 rfl (lv_room (Nat.le_of_ble_eq_true rfl)) d_HT_mixture_142 ⟨Nat.le_of_ble_eq_true rfl, Nat.le_of_ble_eq_true rfl⟩)) (fun r u H locs hw hP hD hS => ?_)
      have hw := hw.symm
      subst hw
      have hP : va_P (dC, dI) vwCl (uw_HT ad_ht cA_ht (ad_rd 0) (ad_sp 0) (ad_mx 0) (ad_ar 0) (ad_tb 0) (ad_tc 0) ht ++ (uw_Mixture ad_mx cA_mx mx ++ (uw_Table ad_tb cA_tb tb))) H := hP
      have hD : va_D A (uw_HT ad_ht cA_ht (ad_rd 0) (ad_sp 0) (ad_mx 0) (ad_ar 0) (ad_tb 0) (ad_tc 0) ht ++ (uw_Mixture ad_mx cA_mx mx ++ (uw_Table ad_tb cA_tb tb))) := hD
      exact ret u13 () H locs ls 145 d_HT_mixture_145 (Option.some.inj hf).symm hP hD hS
    · have hf := hf_t hf hc3
      exact thr_29 () H locs ls (Option.some.inj hf).symm hP hD hS hl.1
  · have hf := hf_f hf hc2
    exact thr_9 () H locs ls (Option.some.inj hf).symm hP hD hS hl.1
