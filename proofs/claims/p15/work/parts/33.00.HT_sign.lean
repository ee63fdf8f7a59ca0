noncomputable def f_HT_sign (ht : SHT) (rd : SReader) (x1 : Int64) (x3 : Int32) : Option (Sum (Int32 × SReader) (Nat × (SReader))) :=
  (if x3 < (1 : Int32) then
    (some (.inr (1, rd)))
   else
    (if x3 ≤ (8 : Int32) then
      (Option.bind (f_Reader_hasRoomFor rd x3) fun u3 =>
        (if (bI u3) = 0 then
          (some (.inr (3, rd)))
         else
          (Option.bind (f_Reader_append rd x1 x3) fun u5 =>
            (some (.inl (u5.1, u5.2)))
           )
         )
       )
     else
      (some (.inr (1, rd)))
     )
   )
set_option maxHeartbeats 4000000 in
set_option maxRecDepth 100000 in
theorem k_HT_sign (l : Launch) (dC : Nat → ClassId) (dI : Nat → Nat → Nat) (ad_ht : Nat → Nat) (cA_ht : Nat → ClassId) (ad_rd : Nat → Nat) (cA_rd : Nat → ClassId) (ad_sp : Nat → Nat) (cA_sp : Nat → ClassId) (ad_mx : Nat → Nat) (cA_mx : Nat → ClassId) (ad_ar : Nat → Nat) (cA_ar : Nat → ClassId) (ad_tb : Nat → Nat) (cA_tb : Nat → ClassId) (ad_tc : Nat → Nat) (cA_tc : Nat → ClassId) (sz : Nat) (ht : SHT) (rd : SReader) (x1 : Int64) (x3 : Int32) (res : Sum (Int32 × SReader) (Nat × (SReader))) (hf : f_HT_sign ht rd x1 x3 = some res) (htr : l.stackTraces = false) : vx_Met l y_HT_sign w_HT_sign ({ frames := 6, cells := 1, slots := 6, locals := 82 }) (xPc (dC, dI) (uw_HT ad_ht cA_ht (ad_rd 0) (ad_sp 0) (ad_mx 0) (ad_ar 0) (ad_tb 0) (ad_tc 0) ht ++ (uw_Reader ad_rd cA_rd rd)) [(cA_ht 1, .int), (cA_rd 1, .int)] sz [.ref (ad_ht 0), .long x1, .int x3]) (va_Qi (fun (r : Int32) (u : SReader) => res = .inl (r, u)) (fun (u : SReader) (t : State) => va_P (dC, dI) vwCl (uw_HT ad_ht cA_ht (ad_rd 0) (ad_sp 0) (ad_mx 0) (ad_ar 0) (ad_tb 0) (ad_tc 0) ht ++ (uw_Reader ad_rd cA_rd u)) t.heap ∧ va_K (dC, dI) vwCl [(cA_ht 1, .int), (cA_rd 1, .int)] t ∧ va_D (va_A (uw_HT ad_ht cA_ht (ad_rd 0) (ad_sp 0) (ad_mx 0) (ad_ar 0) (ad_tb 0) (ad_tc 0) ht ++ (uw_Reader ad_rd cA_rd rd)) sz) (uw_HT ad_ht cA_ht (ad_rd 0) (ad_sp 0) (ad_mx 0) (ad_ar 0) (ad_tb 0) (ad_tc 0) ht ++ (uw_Reader ad_rd cA_rd u))) (va_A (uw_HT ad_ht cA_ht (ad_rd 0) (ad_sp 0) (ad_mx 0) (ad_ar 0) (ad_tb 0) (ad_tc 0) ht ++ (uw_Reader ad_rd cA_rd rd)) sz)) (vx_X (fun (u : Nat × (SReader)) => res = .inr u) (fun (E : String) (u : Nat × (SReader)) (t : State) => E = xn u.1 ∧ va_P (dC, dI) vwCl (uw_HT ad_ht cA_ht (ad_rd 0) (ad_sp 0) (ad_mx 0) (ad_ar 0) (ad_tb 0) (ad_tc 0) ht ++ (uw_Reader ad_rd cA_rd u.2)) t.heap ∧ va_K (dC, dI) vwCl [(cA_ht 1, .int), (cA_rd 1, .int)] t ∧ va_D (va_A (uw_HT ad_ht cA_ht (ad_rd 0) (ad_sp 0) (ad_mx 0) (ad_ar 0) (ad_tb 0) (ad_tc 0) ht ++ (uw_Reader ad_rd cA_rd rd)) sz) (uw_HT ad_ht cA_ht (ad_rd 0) (ad_sp 0) (ad_mx 0) (ad_ar 0) (ad_tb 0) (ad_tc 0) ht ++ (uw_Reader ad_rd cA_rd u.2))) (va_A (uw_HT ad_ht cA_ht (ad_rd 0) (ad_sp 0) (ad_mx 0) (ad_ar 0) (ad_tb 0) (ad_tc 0) ht ++ (uw_Reader ad_rd cA_rd rd)) sz)) 1 6 (va_A (uw_HT ad_ht cA_ht (ad_rd 0) (ad_sp 0) (ad_mx 0) (ad_ar 0) (ad_tb 0) (ad_tc 0) ht ++ (uw_Reader ad_rd cA_rd rd)) sz) := by
  refine vx_ofW (cc := b_HT_sign) (maxL := 4) (ret := (some .int)) (by decide) rfl ?_
  intro p e s m args below meth c s₁ B hml htab hv
  obtain ⟨rfl, hsz, hP, hK, hD0, hN, hX⟩ := hv
  have hx := B.exec
  have hb := B.bytes
  have hr := B.returns
  have hts := atoms_spec (ws := w_HT_sign) B.pre
  have hown : s.vm.findClass "HazardTables" = some m.cls := findClass_of_methodNamed B.named
  have hlocks := B.notSynchronized
  subst hsz
  have hD := hD0.self (sz := s.heap.size)
  generalize hAe : va_A (uw_HT ad_ht cA_ht (ad_rd 0) (ad_sp 0) (ad_mx 0) (ad_ar 0) (ad_tb 0) (ad_tc 0) ht ++ (uw_Reader ad_rd cA_rd rd)) s.heap.size = A at hD hX ⊢
  have hA : ∀ q : Nat, s.heap.size ≤ q → A q := fun q h => by rw [← hAe]; exact Or.inr h
  have hS : va_S A s.heap s.heap [] := va_S.rf
  have hP : va_P (dC, dI) vwCl (uw_HT ad_ht cA_ht (ad_rd 0) (ad_sp 0) (ad_mx 0) (ad_ar 0) (ad_tb 0) (ad_tc 0) ht ++ (uw_Reader ad_rd cA_rd rd)) s.heap := hP
  have fl_10 := (hts _ (List.mem_cons_of_mem _ wd_204))
  have hin_HT : ∀ w ∈ u_ws "HazardTables" F_HT 7, w ∈ w_HT_sign := fun w h => List.mem_cons_of_mem _ (hinA_HT w h)
  have thr_11 : ∀ (u : SReader) (H : Heap) (locs : List Loc) (ls : Array Slot), res = .inr (1, u) → va_P (dC, dI) vwCl (uw_HT ad_ht cA_ht (ad_rd 0) (ad_sp 0) (ad_mx 0) (ad_ar 0) (ad_tb 0) (ad_tc 0) ht ++ (uw_Reader ad_rd cA_rd u)) H → va_D A (uw_HT ad_ht cA_ht (ad_rd 0) (ad_sp 0) (ad_mx 0) (ad_ar 0) (ad_tb 0) (ad_tc 0) ht ++ (uw_Reader ad_rd cA_rd u)) → va_S A s.heap H locs → ls.size = 4 → W p l e (headSpec w_HT_sign ({ frames := 6, cells := 1, slots := 6, locals := 82 })).room s m ([.ref (ad_ht 0), .long x1, .int x3] : List Value).toArray below meth c H locs 0 0 (vx_MQ below (va_Qi (fun (r : Int32) (u : SReader) => res = .inl (r, u)) (fun (u : SReader) (t : State) => va_P (dC, dI) vwCl (uw_HT ad_ht cA_ht (ad_rd 0) (ad_sp 0) (ad_mx 0) (ad_ar 0) (ad_tb 0) (ad_tc 0) ht ++ (uw_Reader ad_rd cA_rd u)) t.heap ∧ va_K (dC, dI) vwCl [(cA_ht 1, .int), (cA_rd 1, .int)] t ∧ va_D A (uw_HT ad_ht cA_ht (ad_rd 0) (ad_sp 0) (ad_mx 0) (ad_ar 0) (ad_tb 0) (ad_tc 0) ht ++ (uw_Reader ad_rd cA_rd u))) A) (vx_X (fun (u : Nat × (SReader)) => res = .inr u) (fun (E : String) (u : Nat × (SReader)) (t : State) => E = xn u.1 ∧ va_P (dC, dI) vwCl (uw_HT ad_ht cA_ht (ad_rd 0) (ad_sp 0) (ad_mx 0) (ad_ar 0) (ad_tb 0) (ad_tc 0) ht ++ (uw_Reader ad_rd cA_rd u.2)) t.heap ∧ va_K (dC, dI) vwCl [(cA_ht 1, .int), (cA_rd 1, .int)] t ∧ va_D A (uw_HT ad_ht cA_ht (ad_rd 0) (ad_sp 0) (ad_mx 0) (ad_ar 0) (ad_tb 0) (ad_tc 0) ht ++ (uw_Reader ad_rd cA_rd u.2))) A) ([.ref (ad_ht 0), .long x1, .int x3] : List Value).toArray s 1 6 A) (F0 m 11 ls []) := by
    intro u H locs ls hres hP hD hS hsz
    obtain ⟨sa, hstr⟩ := hX.2.2.1 (53, "n is not 1 .. 8") (by decide)
    refine vx_throwS (cls := "java/lang/IndexOutOfBoundsException") (text := "n is not 1 .. 8") (names := xch) (ik := 51) (is := 53) (ic := 55) (sa := sa) hx hb htr hown (by decide) (by decide) (hts _ (List.mem_cons_of_mem _ wd_247)) (hts _ (List.mem_cons_of_mem _ wd_53)) hstr (x_hat_55 hts hX) x_good_55 hX.1 hX.2.1 hS (hsz.trans hml.symm) d_HT_sign_11 d_HT_sign_14 d_HT_sign_15 d_HT_sign_17 d_HT_sign_20 (fun x hx9 => (htab x hx9).elim) (by decide) (by decide) (by decide) (by decide) hlocks (fun t hvm hz hk => ?_) hS.2.2 (by decide) (by decide)
    obtain ⟨hP9, hF9⟩ := cl_thrown hP hS hz hk
    exact ⟨(1, u), hres, ⟨rfl, hP9, va_K.moved hvm hK, hD⟩, hF9⟩
  have thr_32 : ∀ (u : SReader) (H : Heap) (locs : List Loc) (ls : Array Slot), res = .inr (3, u) → va_P (dC, dI) vwCl (uw_HT ad_ht cA_ht (ad_rd 0) (ad_sp 0) (ad_mx 0) (ad_ar 0) (ad_tb 0) (ad_tc 0) ht ++ (uw_Reader ad_rd cA_rd u)) H → va_D A (uw_HT ad_ht cA_ht (ad_rd 0) (ad_sp 0) (ad_mx 0) (ad_ar 0) (ad_tb 0) (ad_tc 0) ht ++ (uw_Reader ad_rd cA_rd u)) → va_S A s.heap H locs → ls.size = 4 → W p l e (headSpec w_HT_sign ({ frames := 6, cells := 1, slots := 6, locals := 82 })).room s m ([.ref (ad_ht 0), .long x1, .int x3] : List Value).toArray below meth c H locs 0 0 (vx_MQ below (va_Qi (fun (r : Int32) (u : SReader) => res = .inl (r, u)) (fun (u : SReader) (t : State) => va_P (dC, dI) vwCl (uw_HT ad_ht cA_ht (ad_rd 0) (ad_sp 0) (ad_mx 0) (ad_ar 0) (ad_tb 0) (ad_tc 0) ht ++ (uw_Reader ad_rd cA_rd u)) t.heap ∧ va_K (dC, dI) vwCl [(cA_ht 1, .int), (cA_rd 1, .int)] t ∧ va_D A (uw_HT ad_ht cA_ht (ad_rd 0) (ad_sp 0) (ad_mx 0) (ad_ar 0) (ad_tb 0) (ad_tc 0) ht ++ (uw_Reader ad_rd cA_rd u))) A) (vx_X (fun (u : Nat × (SReader)) => res = .inr u) (fun (E : String) (u : Nat × (SReader)) (t : State) => E = xn u.1 ∧ va_P (dC, dI) vwCl (uw_HT ad_ht cA_ht (ad_rd 0) (ad_sp 0) (ad_mx 0) (ad_ar 0) (ad_tb 0) (ad_tc 0) ht ++ (uw_Reader ad_rd cA_rd u.2)) t.heap ∧ va_K (dC, dI) vwCl [(cA_ht 1, .int), (cA_rd 1, .int)] t ∧ va_D A (uw_HT ad_ht cA_ht (ad_rd 0) (ad_sp 0) (ad_mx 0) (ad_ar 0) (ad_tb 0) (ad_tc 0) ht ++ (uw_Reader ad_rd cA_rd u.2))) A) ([.ref (ad_ht 0), .long x1, .int x3] : List Value).toArray s 1 6 A) (F0 m 32 ls []) := by
    intro u H locs ls hres hP hD hS hsz
    obtain ⟨sa, hstr⟩ := hX.2.2.1 (64, "a text has at most 400 bytes") (by decide)
    refine vx_throwS (cls := "java/lang/UnsupportedOperationException") (text := "a text has at most 400 bytes") (names := xch) (ik := 62) (is := 64) (ic := 66) (sa := sa) hx hb htr hown (by decide) (by decide) (hts _ (List.mem_cons_of_mem _ wd_319)) (hts _ (List.mem_cons_of_mem _ wd_54)) hstr (x_hat_66 hts hX) x_good_66 hX.1 hX.2.1 hS (hsz.trans hml.symm) d_HT_sign_32 d_HT_sign_35 d_HT_sign_36 d_HT_sign_38 d_HT_sign_41 (fun x hx9 => (htab x hx9).elim) (by decide) (by decide) (by decide) (by decide) hlocks (fun t hvm hz hk => ?_) hS.2.2 (by decide) (by decide)
    obtain ⟨hP9, hF9⟩ := cl_thrown hP hS hz hk
    exact ⟨(3, u), hres, ⟨rfl, hP9, va_K.moved hvm hK, hD⟩, hF9⟩
  have ret : ∀ (v : Int32) (u : SReader) (H : Heap) (locs : List Loc) (ls : Array Slot) (pc : Nat), decode b_HT_sign pc = .ok (.ireturn, 1) → res = .inl (v, u) → va_P (dC, dI) vwCl (uw_HT ad_ht cA_ht (ad_rd 0) (ad_sp 0) (ad_mx 0) (ad_ar 0) (ad_tb 0) (ad_tc 0) ht ++ (uw_Reader ad_rd cA_rd u)) H → va_D A (uw_HT ad_ht cA_ht (ad_rd 0) (ad_sp 0) (ad_mx 0) (ad_ar 0) (ad_tb 0) (ad_tc 0) ht ++ (uw_Reader ad_rd cA_rd u)) → va_S A s.heap H locs → W p l e (headSpec w_HT_sign ({ frames := 6, cells := 1, slots := 6, locals := 82 })).room s m ([.ref (ad_ht 0), .long x1, .int x3] : List Value).toArray below meth c H locs 0 0 (vx_MQ below (va_Qi (fun (r : Int32) (u : SReader) => res = .inl (r, u)) (fun (u : SReader) (t : State) => va_P (dC, dI) vwCl (uw_HT ad_ht cA_ht (ad_rd 0) (ad_sp 0) (ad_mx 0) (ad_ar 0) (ad_tb 0) (ad_tc 0) ht ++ (uw_Reader ad_rd cA_rd u)) t.heap ∧ va_K (dC, dI) vwCl [(cA_ht 1, .int), (cA_rd 1, .int)] t ∧ va_D A (uw_HT ad_ht cA_ht (ad_rd 0) (ad_sp 0) (ad_mx 0) (ad_ar 0) (ad_tb 0) (ad_tc 0) ht ++ (uw_Reader ad_rd cA_rd u))) A) (vx_X (fun (u : Nat × (SReader)) => res = .inr u) (fun (E : String) (u : Nat × (SReader)) (t : State) => E = xn u.1 ∧ va_P (dC, dI) vwCl (uw_HT ad_ht cA_ht (ad_rd 0) (ad_sp 0) (ad_mx 0) (ad_ar 0) (ad_tb 0) (ad_tc 0) ht ++ (uw_Reader ad_rd cA_rd u.2)) t.heap ∧ va_K (dC, dI) vwCl [(cA_ht 1, .int), (cA_rd 1, .int)] t ∧ va_D A (uw_HT ad_ht cA_ht (ad_rd 0) (ad_sp 0) (ad_mx 0) (ad_ar 0) (ad_tb 0) (ad_tc 0) ht ++ (uw_Reader ad_rd cA_rd u.2))) A) ([.ref (ad_ht 0), .long x1, .int x3] : List Value).toArray s 1 6 A) (F0 m pc ls [.int v]) := fun v u H locs ls pc hd hp hP hD hS => W.widen (k := 1) (n := 6) (Nat.zero_le _) (Nat.zero_le _) (vx_ret (W.iret (v := v) hx hb hr (fun t ht hW => ⟨⟨v, u, rfl, hp, by rw [ht]; exact hP, va_K.moved hW.alike hK, hD⟩, hS.F ht⟩) hS.2.2 hd))
  generalize (vx_MQ below (va_Qi (fun (r : Int32) (u : SReader) => res = .inl (r, u)) (fun (u : SReader) (t : State) => va_P (dC, dI) vwCl (uw_HT ad_ht cA_ht (ad_rd 0) (ad_sp 0) (ad_mx 0) (ad_ar 0) (ad_tb 0) (ad_tc 0) ht ++ (uw_Reader ad_rd cA_rd u)) t.heap ∧ va_K (dC, dI) vwCl [(cA_ht 1, .int), (cA_rd 1, .int)] t ∧ va_D A (uw_HT ad_ht cA_ht (ad_rd 0) (ad_sp 0) (ad_mx 0) (ad_ar 0) (ad_tb 0) (ad_tc 0) ht ++ (uw_Reader ad_rd cA_rd u))) A) (vx_X (fun (u : Nat × (SReader)) => res = .inr u) (fun (E : String) (u : Nat × (SReader)) (t : State) => E = xn u.1 ∧ va_P (dC, dI) vwCl (uw_HT ad_ht cA_ht (ad_rd 0) (ad_sp 0) (ad_mx 0) (ad_ar 0) (ad_tb 0) (ad_tc 0) ht ++ (uw_Reader ad_rd cA_rd u.2)) t.heap ∧ va_K (dC, dI) vwCl [(cA_ht 1, .int), (cA_rd 1, .int)] t ∧ va_D A (uw_HT ad_ht cA_ht (ad_rd 0) (ad_sp 0) (ad_mx 0) (ad_ar 0) (ad_tb 0) (ad_tc 0) ht ++ (uw_Reader ad_rd cA_rd u.2))) A) ([.ref (ad_ht 0), .long x1, .int x3] : List Value).toArray s 1 6 A) = Q at ret thr_11 thr_32 ⊢
  have hl := lv_entry ([.ref (ad_ht 0), .long x1, .int x3]) (n := 4) (Nat.le_of_ble_eq_true rfl)
  rw [lg_entry_eq]
  generalize (lg_sl ([.ref (ad_ht 0), .long x1, .int x3]) ++ List.replicate (4 - (lg_sl ([.ref (ad_ht 0), .long x1, .int x3])).length) Slot.unset).toArray = ls at hl ⊢
  have hl : lv_has ls 4 [(0, .ref (ad_ht 0)), (1, .long x1), (3, .int x3)] := hl
  have hf := hf
  rw [f_HT_sign] at hf
  obtain ⟨H, hH⟩ : ∃ H : Heap, H = s.heap := ⟨_, rfl⟩
  obtain ⟨locs, hlocs⟩ : ∃ L : List Loc, L = [] := ⟨_, rfl⟩
  have hP : va_P (dC, dI) vwCl (uw_HT ad_ht cA_ht (ad_rd 0) (ad_sp 0) (ad_mx 0) (ad_ar 0) (ad_tb 0) (ad_tc 0) ht ++ (uw_Reader ad_rd cA_rd rd)) H := by rw [hH]; exact hP
  have hS : va_S A s.heap H locs := by rw [hH, hlocs]; exact hS
  show W p l e (headSpec w_HT_sign ({ frames := 6, cells := 1, slots := 6, locals := 82 })).room s m ([.ref (ad_ht 0), .long x1, .int x3] : List Value).toArray below meth c s.heap [] 0 0 Q (F0 m 0 ls [])
  suffices hgo : W p l e (headSpec w_HT_sign ({ frames := 6, cells := 1, slots := 6, locals := 82 })).room s m ([.ref (ad_ht 0), .long x1, .int x3] : List Value).toArray below meth c H locs 0 0 Q (F0 m 0 ls []) by rw [hH, hlocs] at hgo; exact hgo
  clear hH hlocs
  refine lv_iload_n hx hb d_HT_sign_0 rfl (lv_at hl 2 rfl) ?_
  refine lv_iconst (v := (1 : Int32)) hx hb d_HT_sign_1 (by decide) ?_
  refine lv_icmp_lt (tgt := 11) hx hb d_HT_sign_2 (by decide) (fun hc1 => ?_) (fun hc1 => ?_)
  · have hf := hf_t hf hc1
    exact thr_11 rd H locs ls (Option.some.inj hf).symm hP hD hS hl.1
  · have hf := hf_f hf hc1
    refine lv_iload_n hx hb d_HT_sign_5 rfl (lv_at hl 2 rfl) ?_
    refine lv_bipush (v := (8 : Int32)) hx hb d_HT_sign_6 (by decide) ?_
    refine lv_icmp_le (tgt := 21) hx hb d_HT_sign_8 (by decide) (fun hc2 => ?_) (fun hc2 => ?_)
    · have hf := hf_t hf hc2
      refine lv_aload_n hx hb d_HT_sign_21 rfl (lv_at hl 0 rfl) ?_
      refine va_get (D := (dC, dI)) (ci := 5) (v := .ref (ad_rd 0)) (C := "HazardTables") (T := F_HT) (N := 7) hx hb hts hin_HT hown hK hP 0 rfl rfl 0 (by decide) fl_10 (fun _ h9 => h9) rfl d_HT_sign_22 ?_
      refine lv_iload_n hx hb d_HT_sign_25 rfl (lv_at hl 2 rfl) ?_
      obtain ⟨u3, hu3, hf⟩ := Option.bind_eq_some_iff.mp hf
      refine cl_i (wc := (uw_Reader ad_rd cA_rd rd)) (wr := (uw_HT ad_ht cA_ht (ad_rd 0) (ad_sp 0) (ad_mx 0) (ad_ar 0) (ad_tb 0) (ad_tc 0) ht)) (tysC := [(cA_rd 1, .int)]) (wu := fun (u : Unit) => (uw_Reader ad_rd cA_rd rd)) (wn := fun (u : Unit) => (uw_HT ad_ht cA_ht (ad_rd 0) (ad_sp 0) (ad_mx 0) (ad_ar 0) (ad_tb 0) (ad_tc 0) ht ++ (uw_Reader ad_rd cA_rd rd))) [2, 3] [0, 1] [0, 1, 2, 3] [1] hP hD hS hA hK rfl rfl (by decide +kernel) (by decide +kernel) (by decide +kernel) rfl (fun _ => rfl) (by decide +kernel) (fun hPc hKc hDc => (va_runV (As := [.int x3]) (rest := []) ⟨hx, hb, hml, hown, hts⟩ (k_Reader_hasRoomFor l dC dI ad_rd cA_rd H.size rd x3 u3 hu3) (cwV 1 hts (gV wd_315 wd_316 wd_317 wd_44 wd_318) rfl rfl rfl (by decide +kernel) ⟨Nat.le_of_ble_eq_true rfl, Nat.le_of_ble_eq_true rfl⟩) (cl_preV hPc hKc hDc hN (ci := 1) 0 rfl rfl) rfl rfl hl.1 rfl (lv_room (Nat.le_of_ble_eq_true rfl)) d_HT_sign_26 ⟨Nat.le_of_ble_eq_true rfl, Nat.le_of_ble_eq_true rfl⟩)) (fun r u H locs hw hP hD hS => ?_)
      have hw := hw.symm
      subst hw
      have hP : va_P (dC, dI) vwCl (uw_HT ad_ht cA_ht (ad_rd 0) (ad_sp 0) (ad_mx 0) (ad_ar 0) (ad_tb 0) (ad_tc 0) ht ++ (uw_Reader ad_rd cA_rd rd)) H := hP
      have hD : va_D A (uw_HT ad_ht cA_ht (ad_rd 0) (ad_sp 0) (ad_mx 0) (ad_ar 0) (ad_tb 0) (ad_tc 0) ht ++ (uw_Reader ad_rd cA_rd rd)) := hD
      refine lv_if_ne (tgt := 42) hx hb d_HT_sign_29 (by decide) (fun hc4 => ?_) (fun hc4 => ?_)
      · have hf := hf_f hf hc4
        refine lv_aload_n hx hb d_HT_sign_42 rfl (lv_at hl 0 rfl) ?_
        refine va_get (D := (dC, dI)) (ci := 5) (v := .ref (ad_rd 0)) (C := "HazardTables") (T := F_HT) (N := 7) hx hb hts hin_HT hown hK hP 0 rfl rfl 0 (by decide) fl_10 (fun _ h9 => h9) rfl d_HT_sign_43 ?_
        refine lv_lload_n hx hb d_HT_sign_46 rfl (lv_at hl 1 rfl) ?_
        refine lv_iload_n hx hb d_HT_sign_47 rfl (lv_at hl 2 rfl) ?_
        obtain ⟨u5, hu5, hf⟩ := Option.bind_eq_some_iff.mp hf
        refine cl_i (wc := (uw_Reader ad_rd cA_rd rd)) (wr := (uw_HT ad_ht cA_ht (ad_rd 0) (ad_sp 0) (ad_mx 0) (ad_ar 0) (ad_tb 0) (ad_tc 0) ht)) (tysC := [(cA_rd 1, .int)]) (wu := fun (u : SReader) => (uw_Reader ad_rd cA_rd u)) (wn := fun (u : SReader) => (uw_HT ad_ht cA_ht (ad_rd 0) (ad_sp 0) (ad_mx 0) (ad_ar 0) (ad_tb 0) (ad_tc 0) ht ++ (uw_Reader ad_rd cA_rd u))) [2, 3] [0, 1] [0, 1, 2, 3] [1] hP hD hS hA hK rfl rfl (by decide +kernel) (by decide +kernel) (by decide +kernel) rfl (fun _ => rfl) (by decide +kernel) (fun hPc hKc hDc => (va_runV (As := [.long x1, .int x3]) (rest := []) ⟨hx, hb, hml, hown, hts⟩ (k_Reader_append l dC dI ad_rd cA_rd H.size rd x1 x3 u5 hu5) (cwV 2 hts (gV wd_335 wd_336 wd_337 wd_44 wd_338) rfl rfl rfl (by decide +kernel) ⟨Nat.le_of_ble_eq_true rfl, Nat.le_of_ble_eq_true rfl⟩) (cl_preV hPc hKc hDc hN (ci := 1) 0 rfl rfl) rfl rfl hl.1 rfl (lv_room (Nat.le_of_ble_eq_true rfl)) d_HT_sign_48 ⟨Nat.le_of_ble_eq_true rfl, Nat.le_of_ble_eq_true rfl⟩)) (fun r u H locs hw hP hD hS => ?_)
        obtain ⟨hw1, hw2⟩ := hw
        have hw1 := hw1.symm
        have hw2 := hw2.symm
        subst hw1
        subst hw2
        have hP : va_P (dC, dI) vwCl (uw_HT ad_ht cA_ht (ad_rd 0) (ad_sp 0) (ad_mx 0) (ad_ar 0) (ad_tb 0) (ad_tc 0) ht ++ (uw_Reader ad_rd cA_rd u5.2)) H := hP
        have hD : va_D A (uw_HT ad_ht cA_ht (ad_rd 0) (ad_sp 0) (ad_mx 0) (ad_ar 0) (ad_tb 0) (ad_tc 0) ht ++ (uw_Reader ad_rd cA_rd u5.2)) := hD
        exact ret u5.1 u5.2 H locs ls 51 d_HT_sign_51 (Option.some.inj hf).symm hP hD hS
      · have hf := hf_t hf hc4
        exact thr_32 rd H locs ls (Option.some.inj hf).symm hP hD hS hl.1
    · have hf := hf_f hf hc2
      exact thr_11 rd H locs ls (Option.some.inj hf).symm hP hD hS hl.1
