noncomputable def f_HT_say (ht : SHT) (sp : SSpeller) (tb : STable) (x1 : Int64) (x3 : Int32) : Option (Sum (Int32 × SSpeller) (Nat × (SSpeller))) :=
  (if x3 < (1 : Int32) then
    (some (.inr (1, sp)))
   else
    (if (8 : Int32) < x3 then
      (some (.inr (1, sp)))
     else
      (Option.bind (f_HT_areLetters x1 x3) fun u3 =>
        (if (bI u3) = 0 then
          (some (.inr (1, sp)))
         else
          (if tb.2.2.2.2.1 = 0 then
            (some (.inr (2, sp)))
           else
            (Option.bind (f_Speller_hear sp x1 x3) fun u6 =>
              (Option.bind (f_Speller_rank u6 tb) fun u7 =>
                (Option.bind (f_Speller_ranked u7 (0 : Int32)) fun u8 =>
                  (some (.inl (u8, u7)))
                 )
               )
             )
           )
         )
       )
     )
   )
set_option maxHeartbeats 4000000 in
set_option maxRecDepth 100000 in
theorem k_HT_say (l : Launch) (dC : Nat → ClassId) (dI : Nat → Nat → Nat) (ad_ht : Nat → Nat) (cA_ht : Nat → ClassId) (ad_sp : Nat → Nat) (cA_sp : Nat → ClassId) (ad_tb : Nat → Nat) (cA_tb : Nat → ClassId) (ad_rd : Nat → Nat) (cA_rd : Nat → ClassId) (ad_mx : Nat → Nat) (cA_mx : Nat → ClassId) (ad_ar : Nat → Nat) (cA_ar : Nat → ClassId) (ad_tc : Nat → Nat) (cA_tc : Nat → ClassId) (sz : Nat) (ht : SHT) (sp : SSpeller) (tb : STable) (x1 : Int64) (x3 : Int32) (res : Sum (Int32 × SSpeller) (Nat × (SSpeller))) (hf : f_HT_say ht sp tb x1 x3 = some res) (htr : l.stackTraces = false) : vx_Met l y_HT_say w_HT_say ({ frames := 6, cells := 1, slots := 6, locals := 117 }) (xPc (dC, dI) (uw_HT ad_ht cA_ht (ad_rd 0) (ad_sp 0) (ad_mx 0) (ad_ar 0) (ad_tb 0) (ad_tc 0) ht ++ (uw_Speller ad_sp cA_sp sp ++ (uw_Table ad_tb cA_tb tb))) [(cA_ht 1, .int), (cA_sp 1, .int), (cA_sp 2, .int), (cA_sp 3, .int), (cA_sp 4, .int), (cA_tb 1, .int), (cA_tb 2, .int), (cA_tb 3, .int), (cA_tb 4, .byte)] sz [.ref (ad_ht 0), .long x1, .int x3]) (va_Qi (fun (r : Int32) (u : SSpeller) => res = .inl (r, u)) (fun (u : SSpeller) (t : State) => va_P (dC, dI) vwCl (uw_HT ad_ht cA_ht (ad_rd 0) (ad_sp 0) (ad_mx 0) (ad_ar 0) (ad_tb 0) (ad_tc 0) ht ++ (uw_Speller ad_sp cA_sp u ++ (uw_Table ad_tb cA_tb tb))) t.heap ∧ va_K (dC, dI) vwCl [(cA_ht 1, .int), (cA_sp 1, .int), (cA_sp 2, .int), (cA_sp 3, .int), (cA_sp 4, .int), (cA_tb 1, .int), (cA_tb 2, .int), (cA_tb 3, .int), (cA_tb 4, .byte)] t ∧ va_D (va_A (uw_HT ad_ht cA_ht (ad_rd 0) (ad_sp 0) (ad_mx 0) (ad_ar 0) (ad_tb 0) (ad_tc 0) ht ++ (uw_Speller ad_sp cA_sp sp ++ (uw_Table ad_tb cA_tb tb))) sz) (uw_HT ad_ht cA_ht (ad_rd 0) (ad_sp 0) (ad_mx 0) (ad_ar 0) (ad_tb 0) (ad_tc 0) ht ++ (uw_Speller ad_sp cA_sp u ++ (uw_Table ad_tb cA_tb tb)))) (va_A (uw_HT ad_ht cA_ht (ad_rd 0) (ad_sp 0) (ad_mx 0) (ad_ar 0) (ad_tb 0) (ad_tc 0) ht ++ (uw_Speller ad_sp cA_sp sp ++ (uw_Table ad_tb cA_tb tb))) sz)) (vx_X (fun (u : Nat × (SSpeller)) => res = .inr u) (fun (E : String) (u : Nat × (SSpeller)) (t : State) => E = xn u.1 ∧ va_P (dC, dI) vwCl (uw_HT ad_ht cA_ht (ad_rd 0) (ad_sp 0) (ad_mx 0) (ad_ar 0) (ad_tb 0) (ad_tc 0) ht ++ (uw_Speller ad_sp cA_sp u.2 ++ (uw_Table ad_tb cA_tb tb))) t.heap ∧ va_K (dC, dI) vwCl [(cA_ht 1, .int), (cA_sp 1, .int), (cA_sp 2, .int), (cA_sp 3, .int), (cA_sp 4, .int), (cA_tb 1, .int), (cA_tb 2, .int), (cA_tb 3, .int), (cA_tb 4, .byte)] t ∧ va_D (va_A (uw_HT ad_ht cA_ht (ad_rd 0) (ad_sp 0) (ad_mx 0) (ad_ar 0) (ad_tb 0) (ad_tc 0) ht ++ (uw_Speller ad_sp cA_sp sp ++ (uw_Table ad_tb cA_tb tb))) sz) (uw_HT ad_ht cA_ht (ad_rd 0) (ad_sp 0) (ad_mx 0) (ad_ar 0) (ad_tb 0) (ad_tc 0) ht ++ (uw_Speller ad_sp cA_sp u.2 ++ (uw_Table ad_tb cA_tb tb)))) (va_A (uw_HT ad_ht cA_ht (ad_rd 0) (ad_sp 0) (ad_mx 0) (ad_ar 0) (ad_tb 0) (ad_tc 0) ht ++ (uw_Speller ad_sp cA_sp sp ++ (uw_Table ad_tb cA_tb tb))) sz)) 1 6 (va_A (uw_HT ad_ht cA_ht (ad_rd 0) (ad_sp 0) (ad_mx 0) (ad_ar 0) (ad_tb 0) (ad_tc 0) ht ++ (uw_Speller ad_sp cA_sp sp ++ (uw_Table ad_tb cA_tb tb))) sz) := by
  refine vx_ofW (cc := b_HT_say) (maxL := 4) (ret := (some .int)) (by decide) rfl ?_
  intro p e s m args below meth c s₁ B hml htab hv
  obtain ⟨rfl, hsz, hP, hK, hD0, hN, hX⟩ := hv
  have hx := B.exec
  have hb := B.bytes
  have hr := B.returns
  have hts := atoms_spec (ws := w_HT_say) B.pre
  have hown : s.vm.findClass "HazardTables" = some m.cls := findClass_of_methodNamed B.named
  have hlocks := B.notSynchronized
  subst hsz
  have hD := hD0.self (sz := s.heap.size)
  generalize hAe : va_A (uw_HT ad_ht cA_ht (ad_rd 0) (ad_sp 0) (ad_mx 0) (ad_ar 0) (ad_tb 0) (ad_tc 0) ht ++ (uw_Speller ad_sp cA_sp sp ++ (uw_Table ad_tb cA_tb tb))) s.heap.size = A at hD hX ⊢
  have hA : ∀ q : Nat, s.heap.size ≤ q → A q := fun q h => by rw [← hAe]; exact Or.inr h
  have hS : va_S A s.heap s.heap [] := va_S.rf
  have hP : va_P (dC, dI) vwCl (uw_HT ad_ht cA_ht (ad_rd 0) (ad_sp 0) (ad_mx 0) (ad_ar 0) (ad_tb 0) (ad_tc 0) ht ++ (uw_Speller ad_sp cA_sp sp ++ (uw_Table ad_tb cA_tb tb))) s.heap := hP
  have fl_19 := (hts _ (List.mem_cons_of_mem _ wd_205))
  have fl_44 := (hts _ (List.mem_cons_of_mem _ wd_209))
  have fl_86 := (hts _ (List.mem_cons_of_mem _ wd_185))
  have hin_HT : ∀ w ∈ u_ws "HazardTables" F_HT 7, w ∈ w_HT_say := fun w h => List.mem_cons_of_mem _ (hinA_HT w h)
  have hin_Table : ∀ w ∈ u_ws "HazardTables$Table" F_Table 6, w ∈ w_HT_say := fun w h => List.mem_cons_of_mem _ (hinA_Table w h)
  have thr_19 : ∀ (u : SSpeller) (H : Heap) (locs : List Loc) (ls : Array Slot), res = .inr (1, u) → va_P (dC, dI) vwCl (uw_HT ad_ht cA_ht (ad_rd 0) (ad_sp 0) (ad_mx 0) (ad_ar 0) (ad_tb 0) (ad_tc 0) ht ++ (uw_Speller ad_sp cA_sp u ++ (uw_Table ad_tb cA_tb tb))) H → va_D A (uw_HT ad_ht cA_ht (ad_rd 0) (ad_sp 0) (ad_mx 0) (ad_ar 0) (ad_tb 0) (ad_tc 0) ht ++ (uw_Speller ad_sp cA_sp u ++ (uw_Table ad_tb cA_tb tb))) → va_S A s.heap H locs → ls.size = 4 → W p l e (headSpec w_HT_say ({ frames := 6, cells := 1, slots := 6, locals := 117 })).room s m ([.ref (ad_ht 0), .long x1, .int x3] : List Value).toArray below meth c H locs 0 0 (vx_MQ below (va_Qi (fun (r : Int32) (u : SSpeller) => res = .inl (r, u)) (fun (u : SSpeller) (t : State) => va_P (dC, dI) vwCl (uw_HT ad_ht cA_ht (ad_rd 0) (ad_sp 0) (ad_mx 0) (ad_ar 0) (ad_tb 0) (ad_tc 0) ht ++ (uw_Speller ad_sp cA_sp u ++ (uw_Table ad_tb cA_tb tb))) t.heap ∧ va_K (dC, dI) vwCl [(cA_ht 1, .int), (cA_sp 1, .int), (cA_sp 2, .int), (cA_sp 3, .int), (cA_sp 4, .int), (cA_tb 1, .int), (cA_tb 2, .int), (cA_tb 3, .int), (cA_tb 4, .byte)] t ∧ va_D A (uw_HT ad_ht cA_ht (ad_rd 0) (ad_sp 0) (ad_mx 0) (ad_ar 0) (ad_tb 0) (ad_tc 0) ht ++ (uw_Speller ad_sp cA_sp u ++ (uw_Table ad_tb cA_tb tb)))) A) (vx_X (fun (u : Nat × (SSpeller)) => res = .inr u) (fun (E : String) (u : Nat × (SSpeller)) (t : State) => E = xn u.1 ∧ va_P (dC, dI) vwCl (uw_HT ad_ht cA_ht (ad_rd 0) (ad_sp 0) (ad_mx 0) (ad_ar 0) (ad_tb 0) (ad_tc 0) ht ++ (uw_Speller ad_sp cA_sp u.2 ++ (uw_Table ad_tb cA_tb tb))) t.heap ∧ va_K (dC, dI) vwCl [(cA_ht 1, .int), (cA_sp 1, .int), (cA_sp 2, .int), (cA_sp 3, .int), (cA_sp 4, .int), (cA_tb 1, .int), (cA_tb 2, .int), (cA_tb 3, .int), (cA_tb 4, .byte)] t ∧ va_D A (uw_HT ad_ht cA_ht (ad_rd 0) (ad_sp 0) (ad_mx 0) (ad_ar 0) (ad_tb 0) (ad_tc 0) ht ++ (uw_Speller ad_sp cA_sp u.2 ++ (uw_Table ad_tb cA_tb tb)))) A) ([.ref (ad_ht 0), .long x1, .int x3] : List Value).toArray s 1 6 A) (F0 m 19 ls []) := by
    intro u H locs ls hres hP hD hS hsz
    obtain ⟨sa, hstr⟩ := hX.2.2.1 (116, "no word of 1 .. 8 letters a .. z") (by decide)
    refine vx_throwS (cls := "java/lang/IndexOutOfBoundsException") (text := "no word of 1 .. 8 letters a .. z") (names := xch) (ik := 51) (is := 116) (ic := 55) (sa := sa) hx hb htr hown (by decide) (by decide) (hts _ (List.mem_cons_of_mem _ wd_247)) (hts _ (List.mem_cons_of_mem _ wd_53)) hstr (x_hat_55 hts hX) x_good_55 hX.1 hX.2.1 hS (hsz.trans hml.symm) d_HT_say_19 d_HT_say_22 d_HT_say_23 d_HT_say_25 d_HT_say_28 (fun x hx9 => (htab x hx9).elim) (by decide) (by decide) (by decide) (by decide) hlocks (fun t hvm hz hk => ?_) hS.2.2 (by decide) (by decide)
    obtain ⟨hP9, hF9⟩ := cl_thrown hP hS hz hk
    exact ⟨(1, u), hres, ⟨rfl, hP9, va_K.moved hvm hK, hD⟩, hF9⟩
  have thr_39 : ∀ (u : SSpeller) (H : Heap) (locs : List Loc) (ls : Array Slot), res = .inr (2, u) → va_P (dC, dI) vwCl (uw_HT ad_ht cA_ht (ad_rd 0) (ad_sp 0) (ad_mx 0) (ad_ar 0) (ad_tb 0) (ad_tc 0) ht ++ (uw_Speller ad_sp cA_sp u ++ (uw_Table ad_tb cA_tb tb))) H → va_D A (uw_HT ad_ht cA_ht (ad_rd 0) (ad_sp 0) (ad_mx 0) (ad_ar 0) (ad_tb 0) (ad_tc 0) ht ++ (uw_Speller ad_sp cA_sp u ++ (uw_Table ad_tb cA_tb tb))) → va_S A s.heap H locs → ls.size = 4 → W p l e (headSpec w_HT_say ({ frames := 6, cells := 1, slots := 6, locals := 117 })).room s m ([.ref (ad_ht 0), .long x1, .int x3] : List Value).toArray below meth c H locs 0 0 (vx_MQ below (va_Qi (fun (r : Int32) (u : SSpeller) => res = .inl (r, u)) (fun (u : SSpeller) (t : State) => va_P (dC, dI) vwCl (uw_HT ad_ht cA_ht (ad_rd 0) (ad_sp 0) (ad_mx 0) (ad_ar 0) (ad_tb 0) (ad_tc 0) ht ++ (uw_Speller ad_sp cA_sp u ++ (uw_Table ad_tb cA_tb tb))) t.heap ∧ va_K (dC, dI) vwCl [(cA_ht 1, .int), (cA_sp 1, .int), (cA_sp 2, .int), (cA_sp 3, .int), (cA_sp 4, .int), (cA_tb 1, .int), (cA_tb 2, .int), (cA_tb 3, .int), (cA_tb 4, .byte)] t ∧ va_D A (uw_HT ad_ht cA_ht (ad_rd 0) (ad_sp 0) (ad_mx 0) (ad_ar 0) (ad_tb 0) (ad_tc 0) ht ++ (uw_Speller ad_sp cA_sp u ++ (uw_Table ad_tb cA_tb tb)))) A) (vx_X (fun (u : Nat × (SSpeller)) => res = .inr u) (fun (E : String) (u : Nat × (SSpeller)) (t : State) => E = xn u.1 ∧ va_P (dC, dI) vwCl (uw_HT ad_ht cA_ht (ad_rd 0) (ad_sp 0) (ad_mx 0) (ad_ar 0) (ad_tb 0) (ad_tc 0) ht ++ (uw_Speller ad_sp cA_sp u.2 ++ (uw_Table ad_tb cA_tb tb))) t.heap ∧ va_K (dC, dI) vwCl [(cA_ht 1, .int), (cA_sp 1, .int), (cA_sp 2, .int), (cA_sp 3, .int), (cA_sp 4, .int), (cA_tb 1, .int), (cA_tb 2, .int), (cA_tb 3, .int), (cA_tb 4, .byte)] t ∧ va_D A (uw_HT ad_ht cA_ht (ad_rd 0) (ad_sp 0) (ad_mx 0) (ad_ar 0) (ad_tb 0) (ad_tc 0) ht ++ (uw_Speller ad_sp cA_sp u.2 ++ (uw_Table ad_tb cA_tb tb)))) A) ([.ref (ad_ht 0), .long x1, .int x3] : List Value).toArray s 1 6 A) (F0 m 39 ls []) := by
    intro u H locs ls hres hP hD hS hsz
    obtain ⟨sa, hstr⟩ := hX.2.2.1 (118, "the table has no materials") (by decide)
    refine vx_throwS (cls := "java/lang/IllegalStateException") (text := "the table has no materials") (names := xch) (ik := 75) (is := 118) (ic := 79) (sa := sa) hx hb htr hown (by decide) (by decide) (hts _ (List.mem_cons_of_mem _ wd_446)) (hts _ (List.mem_cons_of_mem _ wd_55)) hstr (x_hat_79 hts hX) x_good_79 hX.1 hX.2.1 hS (hsz.trans hml.symm) d_HT_say_39 d_HT_say_42 d_HT_say_43 d_HT_say_45 d_HT_say_48 (fun x hx9 => (htab x hx9).elim) (by decide) (by decide) (by decide) (by decide) hlocks (fun t hvm hz hk => ?_) hS.2.2 (by decide) (by decide)
    obtain ⟨hP9, hF9⟩ := cl_thrown hP hS hz hk
    exact ⟨(2, u), hres, ⟨rfl, hP9, va_K.moved hvm hK, hD⟩, hF9⟩
  have ret : ∀ (v : Int32) (u : SSpeller) (H : Heap) (locs : List Loc) (ls : Array Slot) (pc : Nat), decode b_HT_say pc = .ok (.ireturn, 1) → res = .inl (v, u) → va_P (dC, dI) vwCl (uw_HT ad_ht cA_ht (ad_rd 0) (ad_sp 0) (ad_mx 0) (ad_ar 0) (ad_tb 0) (ad_tc 0) ht ++ (uw_Speller ad_sp cA_sp u ++ (uw_Table ad_tb cA_tb tb))) H → va_D A (uw_HT ad_ht cA_ht (ad_rd 0) (ad_sp 0) (ad_mx 0) (ad_ar 0) (ad_tb 0) (ad_tc 0) ht ++ (uw_Speller ad_sp cA_sp u ++ (uw_Table ad_tb cA_tb tb))) → va_S A s.heap H locs → W p l e (headSpec w_HT_say ({ frames := 6, cells := 1, slots := 6, locals := 117 })).room s m ([.ref (ad_ht 0), .long x1, .int x3] : List Value).toArray below meth c H locs 0 0 (vx_MQ below (va_Qi (fun (r : Int32) (u : SSpeller) => res = .inl (r, u)) (fun (u : SSpeller) (t : State) => va_P (dC, dI) vwCl (uw_HT ad_ht cA_ht (ad_rd 0) (ad_sp 0) (ad_mx 0) (ad_ar 0) (ad_tb 0) (ad_tc 0) ht ++ (uw_Speller ad_sp cA_sp u ++ (uw_Table ad_tb cA_tb tb))) t.heap ∧ va_K (dC, dI) vwCl [(cA_ht 1, .int), (cA_sp 1, .int), (cA_sp 2, .int), (cA_sp 3, .int), (cA_sp 4, .int), (cA_tb 1, .int), (cA_tb 2, .int), (cA_tb 3, .int), (cA_tb 4, .byte)] t ∧ va_D A (uw_HT ad_ht cA_ht (ad_rd 0) (ad_sp 0) (ad_mx 0) (ad_ar 0) (ad_tb 0) (ad_tc 0) ht ++ (uw_Speller ad_sp cA_sp u ++ (uw_Table ad_tb cA_tb tb)))) A) (vx_X (fun (u : Nat × (SSpeller)) => res = .inr u) (fun (E : String) (u : Nat × (SSpeller)) (t : State) => E = xn u.1 ∧ va_P (dC, dI) vwCl (uw_HT ad_ht cA_ht (ad_rd 0) (ad_sp 0) (ad_mx 0) (ad_ar 0) (ad_tb 0) (ad_tc 0) ht ++ (uw_Speller ad_sp cA_sp u.2 ++ (uw_Table ad_tb cA_tb tb))) t.heap ∧ va_K (dC, dI) vwCl [(cA_ht 1, .int), (cA_sp 1, .int), (cA_sp 2, .int), (cA_sp 3, .int), (cA_sp 4, .int), (cA_tb 1, .int), (cA_tb 2, .int), (cA_tb 3, .int), (cA_tb 4, .byte)] t ∧ va_D A (uw_HT ad_ht cA_ht (ad_rd 0) (ad_sp 0) (ad_mx 0) (ad_ar 0) (ad_tb 0) (ad_tc 0) ht ++ (uw_Speller ad_sp cA_sp u.2 ++ (uw_Table ad_tb cA_tb tb)))) A) ([.ref (ad_ht 0), .long x1, .int x3] : List Value).toArray s 1 6 A) (F0 m pc ls [.int v]) := fun v u H locs ls pc hd hp hP hD hS => W.widen (k := 1) (n := 6) (Nat.zero_le _) (Nat.zero_le _) (vx_ret (W.iret (v := v) hx hb hr (fun t ht hW => ⟨⟨v, u, rfl, hp, by rw [ht]; exact hP, va_K.moved hW.alike hK, hD⟩, hS.F ht⟩) hS.2.2 hd))
  generalize (vx_MQ below (va_Qi (fun (r : Int32) (u : SSpeller) => res = .inl (r, u)) (fun (u : SSpeller) (t : State) => va_P (dC, dI) vwCl (uw_HT ad_ht cA_ht (ad_rd 0) (ad_sp 0) (ad_mx 0) (ad_ar 0) (ad_tb 0) (ad_tc 0) ht ++ (uw_Speller ad_sp cA_sp u ++ (uw_Table ad_tb cA_tb tb))) t.heap ∧ va_K (dC, dI) vwCl [(cA_ht 1, .int), (cA_sp 1, .int), (cA_sp 2, .int), (cA_sp 3, .int), (cA_sp 4, .int), (cA_tb 1, .int), (cA_tb 2, .int), (cA_tb 3, .int), (cA_tb 4, .byte)] t ∧ va_D A (uw_HT ad_ht cA_ht (ad_rd 0) (ad_sp 0) (ad_mx 0) (ad_ar 0) (ad_tb 0) (ad_tc 0) ht ++ (uw_Speller ad_sp cA_sp u ++ (uw_Table ad_tb cA_tb tb)))) A) (vx_X (fun (u : Nat × (SSpeller)) => res = .inr u) (fun (E : String) (u : Nat × (SSpeller)) (t : State) => E = xn u.1 ∧ va_P (dC, dI) vwCl (uw_HT ad_ht cA_ht (ad_rd 0) (ad_sp 0) (ad_mx 0) (ad_ar 0) (ad_tb 0) (ad_tc 0) ht ++ (uw_Speller ad_sp cA_sp u.2 ++ (uw_Table ad_tb cA_tb tb))) t.heap ∧ va_K (dC, dI) vwCl [(cA_ht 1, .int), (cA_sp 1, .int), (cA_sp 2, .int), (cA_sp 3, .int), (cA_sp 4, .int), (cA_tb 1, .int), (cA_tb 2, .int), (cA_tb 3, .int), (cA_tb 4, .byte)] t ∧ va_D A (uw_HT ad_ht cA_ht (ad_rd 0) (ad_sp 0) (ad_mx 0) (ad_ar 0) (ad_tb 0) (ad_tc 0) ht ++ (uw_Speller ad_sp cA_sp u.2 ++ (uw_Table ad_tb cA_tb tb)))) A) ([.ref (ad_ht 0), .long x1, .int x3] : List Value).toArray s 1 6 A) = Q at ret thr_19 thr_39 ⊢
  have hl := lv_entry ([.ref (ad_ht 0), .long x1, .int x3]) (n := 4) (Nat.le_of_ble_eq_true rfl)
  rw [lg_entry_eq]
  generalize (lg_sl ([.ref (ad_ht 0), .long x1, .int x3]) ++ List.replicate (4 - (lg_sl ([.ref (ad_ht 0), .long x1, .int x3])).length) Slot.unset).toArray = ls at hl ⊢
  have hl : lv_has ls 4 [(0, .ref (ad_ht 0)), (1, .long x1), (3, .int x3)] := hl
  have hf := hf
  rw [f_HT_say] at hf
  obtain ⟨H, hH⟩ : ∃ H : Heap, H = s.heap := ⟨_, rfl⟩
  obtain ⟨locs, hlocs⟩ : ∃ L : List Loc, L = [] := ⟨_, rfl⟩
  have hP : va_P (dC, dI) vwCl (uw_HT ad_ht cA_ht (ad_rd 0) (ad_sp 0) (ad_mx 0) (ad_ar 0) (ad_tb 0) (ad_tc 0) ht ++ (uw_Speller ad_sp cA_sp sp ++ (uw_Table ad_tb cA_tb tb))) H := by rw [hH]; exact hP
  have hS : va_S A s.heap H locs := by rw [hH, hlocs]; exact hS
  show W p l e (headSpec w_HT_say ({ frames := 6, cells := 1, slots := 6, locals := 117 })).room s m ([.ref (ad_ht 0), .long x1, .int x3] : List Value).toArray below meth c s.heap [] 0 0 Q (F0 m 0 ls [])
  suffices hgo : W p l e (headSpec w_HT_say ({ frames := 6, cells := 1, slots := 6, locals := 117 })).room s m ([.ref (ad_ht 0), .long x1, .int x3] : List Value).toArray below meth c H locs 0 0 Q (F0 m 0 ls []) by rw [hH, hlocs] at hgo; exact hgo
  clear hH hlocs
  refine lv_iload_n hx hb d_HT_say_0 rfl (lv_at hl 2 rfl) ?_
  refine lv_iconst (v := (1 : Int32)) hx hb d_HT_say_1 (by decide) ?_
  refine lv_icmp_lt (tgt := 19) hx hb d_HT_say_2 (by decide) (fun hc1 => ?_) (fun hc1 => ?_)
  · have hf := hf_t hf hc1
    exact thr_19 sp H locs ls (Option.some.inj hf).symm hP hD hS hl.1
  · have hf := hf_f hf hc1
    refine lv_iload_n hx hb d_HT_say_5 rfl (lv_at hl 2 rfl) ?_
    refine lv_bipush (v := (8 : Int32)) hx hb d_HT_say_6 (by decide) ?_
    refine lv_icmp_gt (tgt := 19) hx hb d_HT_say_8 (by decide) (fun hc2 => ?_) (fun hc2 => ?_)
    · have hf := hf_t hf hc2
      exact thr_19 sp H locs ls (Option.some.inj hf).symm hP hD hS hl.1
    · have hf := hf_f hf hc2
      refine lv_lload_n hx hb d_HT_say_11 rfl (lv_at hl 1 rfl) ?_
      refine lv_iload_n hx hb d_HT_say_12 rfl (lv_at hl 2 rfl) ?_
      obtain ⟨u3, hu3, hf⟩ := Option.bind_eq_some_iff.mp hf
      refine cl_i (wc := []) (wr := (uw_HT ad_ht cA_ht (ad_rd 0) (ad_sp 0) (ad_mx 0) (ad_ar 0) (ad_tb 0) (ad_tc 0) ht ++ (uw_Speller ad_sp cA_sp sp ++ (uw_Table ad_tb cA_tb tb)))) (tysC := []) (wu := fun (u : Unit) => []) (wn := fun (u : Unit) => (uw_HT ad_ht cA_ht (ad_rd 0) (ad_sp 0) (ad_mx 0) (ad_ar 0) (ad_tb 0) (ad_tc 0) ht ++ (uw_Speller ad_sp cA_sp sp ++ (uw_Table ad_tb cA_tb tb)))) [] [0, 1, 2, 3, 4, 5, 6, 7, 8, 9, 10, 11] [0, 1, 2, 3, 4, 5, 6, 7, 8, 9, 10, 11] [] hP hD hS hA hK rfl rfl (by decide +kernel) (by decide +kernel) (by decide +kernel) rfl (fun _ => rfl) (by decide +kernel) (fun hPc hKc hDc => (va_runS (As := [.long x1, .int x3]) (rest := []) ⟨hx, hb, hml, hown, hts⟩ (k_HT_areLetters l dC dI  H.size x1 x3 u3 hu3) (cwS 2 hts (gS wd_507 wd_508 wd_43 wd_509) rfl rfl rfl (by decide +kernel) ⟨Nat.le_of_ble_eq_true rfl, Nat.le_of_ble_eq_true rfl⟩) (cl_preS hPc hKc hDc hN) rfl rfl hl.1 rfl (lv_room (Nat.le_of_ble_eq_true rfl)) d_HT_say_13 ⟨Nat.le_of_ble_eq_true rfl, Nat.le_of_ble_eq_true rfl⟩)) (fun r u H locs hw hP hD hS => ?_)
      have hw := hw.symm
      subst hw
      have hP : va_P (dC, dI) vwCl (uw_HT ad_ht cA_ht (ad_rd 0) (ad_sp 0) (ad_mx 0) (ad_ar 0) (ad_tb 0) (ad_tc 0) ht ++ (uw_Speller ad_sp cA_sp sp ++ (uw_Table ad_tb cA_tb tb))) H := hP
      have hD : va_D A (uw_HT ad_ht cA_ht (ad_rd 0) (ad_sp 0) (ad_mx 0) (ad_ar 0) (ad_tb 0) (ad_tc 0) ht ++ (uw_Speller ad_sp cA_sp sp ++ (uw_Table ad_tb cA_tb tb))) := hD
      refine lv_if_ne (tgt := 29) hx hb d_HT_say_16 (by decide) (fun hc4 => ?_) (fun hc4 => ?_)
      · have hf := hf_f hf hc4
        refine lv_aload_n hx hb d_HT_say_29 rfl (lv_at hl 0 rfl) ?_
        refine va_get (D := (dC, dI)) (ci := 5) (v := .ref (ad_tb 0)) (C := "HazardTables") (T := F_HT) (N := 7) hx hb hts hin_HT hown hK hP 0 rfl rfl 5 (by decide) fl_44 (fun _ h9 => h9) rfl d_HT_say_30 ?_
        refine va_get (D := (dC, dI)) (ci := 4) (v := .int tb.2.2.2.2.1) (C := "HazardTables$Table") (T := F_Table) (N := 6) hx hb hts hin_Table hown hK hP 7 rfl rfl 4 (by decide) fl_86 (fun _ h9 => h9) rfl d_HT_say_33 ?_
        refine lv_if_ne (tgt := 49) hx hb d_HT_say_36 (by decide) (fun hc5 => ?_) (fun hc5 => ?_)
        · have hf := hf_f hf hc5
          refine lv_aload_n hx hb d_HT_say_49 rfl (lv_at hl 0 rfl) ?_
          refine va_get (D := (dC, dI)) (ci := 5) (v := .ref (ad_sp 0)) (C := "HazardTables") (T := F_HT) (N := 7) hx hb hts hin_HT hown hK hP 0 rfl rfl 1 (by decide) fl_19 (fun _ h9 => h9) rfl d_HT_say_50 ?_
          refine lv_lload_n hx hb d_HT_say_53 rfl (lv_at hl 1 rfl) ?_
          refine lv_iload_n hx hb d_HT_say_54 rfl (lv_at hl 2 rfl) ?_
          obtain ⟨u6, hu6, hf⟩ := Option.bind_eq_some_iff.mp hf
          refine cl_v (wc := (uw_Speller ad_sp cA_sp sp)) (wr := (uw_HT ad_ht cA_ht (ad_rd 0) (ad_sp 0) (ad_mx 0) (ad_ar 0) (ad_tb 0) (ad_tc 0) ht ++ (uw_Table ad_tb cA_tb tb))) (tysC := [(cA_sp 1, .int), (cA_sp 2, .int), (cA_sp 3, .int), (cA_sp 4, .int)]) (wu := fun (u : SSpeller) => (uw_Speller ad_sp cA_sp u)) (wn := fun (u : SSpeller) => (uw_HT ad_ht cA_ht (ad_rd 0) (ad_sp 0) (ad_mx 0) (ad_ar 0) (ad_tb 0) (ad_tc 0) ht ++ (uw_Speller ad_sp cA_sp u ++ (uw_Table ad_tb cA_tb tb)))) [2, 3, 4, 5, 6] [0, 1, 7, 8, 9, 10, 11] [0, 1, 7, 8, 9, 10, 11, 2, 3, 4, 5, 6] [1, 2, 3, 4] hP hD hS hA hK rfl rfl (by decide +kernel) (by decide +kernel) (by decide +kernel) rfl (fun _ => rfl) (by decide +kernel) (fun hPc hKc hDc => (va_runV (As := [.long x1, .int x3]) (rest := []) ⟨hx, hb, hml, hown, hts⟩ (k_Speller_hear l dC dI ad_sp cA_sp H.size sp x1 x3 u6 hu6) (cwV 2 hts (gV wd_514 wd_515 wd_516 wd_45 wd_517) rfl rfl rfl (by decide +kernel) ⟨Nat.le_of_ble_eq_true rfl, Nat.le_of_ble_eq_true rfl⟩) (cl_preV hPc hKc hDc hN (ci := 2) 0 rfl rfl) rfl rfl hl.1 rfl (lv_room (Nat.le_of_ble_eq_true rfl)) d_HT_say_55 ⟨Nat.le_of_ble_eq_true rfl, Nat.le_of_ble_eq_true rfl⟩)) (fun u H locs hw hP hD hS => ?_)
          have hw := hw.symm
          subst hw
          have hP : va_P (dC, dI) vwCl (uw_HT ad_ht cA_ht (ad_rd 0) (ad_sp 0) (ad_mx 0) (ad_ar 0) (ad_tb 0) (ad_tc 0) ht ++ (uw_Speller ad_sp cA_sp u6 ++ (uw_Table ad_tb cA_tb tb))) H := hP
          have hD : va_D A (uw_HT ad_ht cA_ht (ad_rd 0) (ad_sp 0) (ad_mx 0) (ad_ar 0) (ad_tb 0) (ad_tc 0) ht ++ (uw_Speller ad_sp cA_sp u6 ++ (uw_Table ad_tb cA_tb tb))) := hD
          refine lv_aload_n hx hb d_HT_say_58 rfl (lv_at hl 0 rfl) ?_
          refine va_get (D := (dC, dI)) (ci := 5) (v := .ref (ad_sp 0)) (C := "HazardTables") (T := F_HT) (N := 7) hx hb hts hin_HT hown hK hP 0 rfl rfl 1 (by decide) fl_19 (fun _ h9 => h9) rfl d_HT_say_59 ?_
          refine lv_aload_n hx hb d_HT_say_62 rfl (lv_at hl 0 rfl) ?_
          refine va_get (D := (dC, dI)) (ci := 5) (v := .ref (ad_tb 0)) (C := "HazardTables") (T := F_HT) (N := 7) hx hb hts hin_HT hown hK hP 0 rfl rfl 5 (by decide) fl_44 (fun _ h9 => h9) rfl d_HT_say_63 ?_
          obtain ⟨u7, hu7, hf⟩ := Option.bind_eq_some_iff.mp hf
          refine cl_v (wc := (uw_Speller ad_sp cA_sp u6 ++ (uw_Table ad_tb cA_tb tb))) (wr := (uw_HT ad_ht cA_ht (ad_rd 0) (ad_sp 0) (ad_mx 0) (ad_ar 0) (ad_tb 0) (ad_tc 0) ht)) (tysC := [(cA_sp 1, .int), (cA_sp 2, .int), (cA_sp 3, .int), (cA_sp 4, .int), (cA_tb 1, .int), (cA_tb 2, .int), (cA_tb 3, .int), (cA_tb 4, .byte)]) (wu := fun (u : SSpeller) => (uw_Speller ad_sp cA_sp u ++ (uw_Table ad_tb cA_tb tb))) (wn := fun (u : SSpeller) => (uw_HT ad_ht cA_ht (ad_rd 0) (ad_sp 0) (ad_mx 0) (ad_ar 0) (ad_tb 0) (ad_tc 0) ht ++ (uw_Speller ad_sp cA_sp u ++ (uw_Table ad_tb cA_tb tb)))) [2, 3, 4, 5, 6, 7, 8, 9, 10, 11] [0, 1] [0, 1, 2, 3, 4, 5, 6, 7, 8, 9, 10, 11] [1, 2, 3, 4, 5, 6, 7, 8] hP hD hS hA hK rfl rfl (by decide +kernel) (by decide +kernel) (by decide +kernel) rfl (fun _ => rfl) (by decide +kernel) (fun hPc hKc hDc => (va_runV (As := [.ref (ad_tb 0)]) (rest := []) ⟨hx, hb, hml, hown, hts⟩ (k_Speller_rank l dC dI ad_sp cA_sp ad_tb cA_tb H.size u6 tb u7 hu7) (cwV 1 hts (gV wd_519 wd_520 wd_521 wd_45 wd_522) rfl rfl rfl (by decide +kernel) ⟨Nat.le_of_ble_eq_true rfl, Nat.le_of_ble_eq_true rfl⟩) (cl_preV hPc hKc hDc hN (ci := 2) 0 rfl rfl) rfl rfl hl.1 rfl (lv_room (Nat.le_of_ble_eq_true rfl)) d_HT_say_66 ⟨Nat.le_of_ble_eq_true rfl, Nat.le_of_ble_eq_true rfl⟩)) (fun u H locs hw hP hD hS => ?_)
          have hw := hw.symm
          subst hw
          have hP : va_P (dC, dI) vwCl (uw_HT ad_ht cA_ht (ad_rd 0) (ad_sp 0) (ad_mx 0) (ad_ar 0) (ad_tb 0) (ad_tc 0) ht ++ (uw_Speller ad_sp cA_sp u7 ++ (uw_Table ad_tb cA_tb tb))) H := hP
          have hD : va_D A (uw_HT ad_ht cA_ht (ad_rd 0) (ad_sp 0) (ad_mx 0) (ad_ar 0) (ad_tb 0) (ad_tc 0) ht ++ (uw_Speller ad_sp cA_sp u7 ++ (uw_Table ad_tb cA_tb tb))) := hD
          refine lv_aload_n hx hb d_HT_say_69 rfl (lv_at hl 0 rfl) ?_
          refine va_get (D := (dC, dI)) (ci := 5) (v := .ref (ad_sp 0)) (C := "HazardTables") (T := F_HT) (N := 7) hx hb hts hin_HT hown hK hP 0 rfl rfl 1 (by decide) fl_19 (fun _ h9 => h9) rfl d_HT_say_70 ?_
          refine lv_iconst (v := (0 : Int32)) hx hb d_HT_say_73 (by decide) ?_
          obtain ⟨u8, hu8, hf⟩ := Option.bind_eq_some_iff.mp hf
          refine cl_i (wc := (uw_Speller ad_sp cA_sp u7)) (wr := (uw_HT ad_ht cA_ht (ad_rd 0) (ad_sp 0) (ad_mx 0) (ad_ar 0) (ad_tb 0) (ad_tc 0) ht ++ (uw_Table ad_tb cA_tb tb))) (tysC := [(cA_sp 1, .int), (cA_sp 2, .int), (cA_sp 3, .int), (cA_sp 4, .int)]) (wu := fun (u : Unit) => (uw_Speller ad_sp cA_sp u7)) (wn := fun (u : Unit) => (uw_HT ad_ht cA_ht (ad_rd 0) (ad_sp 0) (ad_mx 0) (ad_ar 0) (ad_tb 0) (ad_tc 0) ht ++ (uw_Speller ad_sp cA_sp u7 ++ (uw_Table ad_tb cA_tb tb)))) [2, 3, 4, 5, 6] [0, 1, 7, 8, 9, 10, 11] [0, 1, 7, 8, 9, 10, 11, 2, 3, 4, 5, 6] [1, 2, 3, 4] hP hD hS hA hK rfl rfl (by decide +kernel) (by decide +kernel) (by decide +kernel) rfl (fun _ => rfl) (by decide +kernel) (fun hPc hKc hDc => (va_runV (As := [.int (0 : Int32)]) (rest := []) ⟨hx, hb, hml, hown, hts⟩ (k_Speller_ranked l dC dI ad_sp cA_sp H.size u7 (0 : Int32) u8 hu8) (cwV 1 hts (gV wd_555 wd_556 wd_557 wd_45 wd_558) rfl rfl rfl (by decide +kernel) ⟨Nat.le_of_ble_eq_true rfl, Nat.le_of_ble_eq_true rfl⟩) (cl_preV hPc hKc hDc hN (ci := 2) 0 rfl rfl) rfl rfl hl.1 rfl (lv_room (Nat.le_of_ble_eq_true rfl)) d_HT_say_74 ⟨Nat.le_of_ble_eq_true rfl, Nat.le_of_ble_eq_true rfl⟩)) (fun r u H locs hw hP hD hS => ?_)
          have hw := hw.symm
          subst hw
          have hP : va_P (dC, dI) vwCl (uw_HT ad_ht cA_ht (ad_rd 0) (ad_sp 0) (ad_mx 0) (ad_ar 0) (ad_tb 0) (ad_tc 0) ht ++ (uw_Speller ad_sp cA_sp u7 ++ (uw_Table ad_tb cA_tb tb))) H := hP
          have hD : va_D A (uw_HT ad_ht cA_ht (ad_rd 0) (ad_sp 0) (ad_mx 0) (ad_ar 0) (ad_tb 0) (ad_tc 0) ht ++ (uw_Speller ad_sp cA_sp u7 ++ (uw_Table ad_tb cA_tb tb))) := hD
          exact ret u8 u7 H locs ls 77 d_HT_say_77 (Option.some.inj hf).symm hP hD hS
        · have hf := hf_t hf hc5
          exact thr_39 sp H locs ls (Option.some.inj hf).symm hP hD hS hl.1
      · have hf := hf_t hf hc4
        exact thr_19 sp H locs ls (Option.some.inj hf).symm hP hD hS hl.1
