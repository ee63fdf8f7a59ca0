noncomputable def f_HT_material_22  (ht : SHT) (tb : STable) (y2 : Int32) (z0 : Int32) : Option (Sum (Int32) (Nat × (Unit))) :=
  (if z0 = (-1 : Int32) then
    (some (.inr (0, ())))
   else
    (if y2 < 0 then
      (some (.inr (0, ())))
     else
      (if y2 < (9 : Int32) then
        (Option.bind (f_Table_cell tb z0 y2) fun u7 =>
          (some (.inl (u7)))
         )
       else
        (some (.inr (0, ())))
       )
     )
   )
noncomputable def f_HT_material (ht : SHT) (tb : STable) (x1 : Int32) (x2 : Int32) : Option (Sum (Int32) (Nat × (Unit))) :=
  (if x1 = 0 then
    (Option.bind (f_Table_rowOfOthers tb) fun u3 =>
      (f_HT_material_22 ht tb x2 u3)
     )
   else
    (Option.bind (f_Table_rowOf tb x1) fun u2 =>
      (f_HT_material_22 ht tb x2 u2)
     )
   )
set_option maxHeartbeats 4000000 in
set_option maxRecDepth 100000 in
theorem k_HT_material (l : Launch) (dC : Nat → ClassId) (dI : Nat → Nat → Nat) (ad_ht : Nat → Nat) (cA_ht : Nat → ClassId) (ad_tb : Nat → Nat) (cA_tb : Nat → ClassId) (ad_rd : Nat → Nat) (cA_rd : Nat → ClassId) (ad_sp : Nat → Nat) (cA_sp : Nat → ClassId) (ad_mx : Nat → Nat) (cA_mx : Nat → ClassId) (ad_ar : Nat → Nat) (cA_ar : Nat → ClassId) (ad_tc : Nat → Nat) (cA_tc : Nat → ClassId) (sz : Nat) (ht : SHT) (tb : STable) (x1 : Int32) (x2 : Int32) (res : Sum (Int32) (Nat × (Unit))) (hf : f_HT_material ht tb x1 x2 = some res) (htr : l.stackTraces = false) : vx_Met l y_HT_material w_HT_material ({ frames := 6, cells := 1, slots := 6, locals := 82 }) (xPc (dC, dI) (uw_HT ad_ht cA_ht (ad_rd 0) (ad_sp 0) (ad_mx 0) (ad_ar 0) (ad_tb 0) (ad_tc 0) ht ++ (uw_Table ad_tb cA_tb tb)) [(cA_ht 1, .int), (cA_tb 1, .int), (cA_tb 2, .int), (cA_tb 3, .int), (cA_tb 4, .byte)] sz [.ref (ad_ht 0), .int x1, .int x2]) (va_Qi (fun (r : Int32) (u : Unit) => res = .inl r) (fun (u : Unit) (t : State) => va_P (dC, dI) vwCl (uw_HT ad_ht cA_ht (ad_rd 0) (ad_sp 0) (ad_mx 0) (ad_ar 0) (ad_tb 0) (ad_tc 0) ht ++ (uw_Table ad_tb cA_tb tb)) t.heap ∧ va_K (dC, dI) vwCl [(cA_ht 1, .int), (cA_tb 1, .int), (cA_tb 2, .int), (cA_tb 3, .int), (cA_tb 4, .byte)] t ∧ va_D (va_A (uw_HT ad_ht cA_ht (ad_rd 0) (ad_sp 0) (ad_mx 0) (ad_ar 0) (ad_tb 0) (ad_tc 0) ht ++ (uw_Table ad_tb cA_tb tb)) sz) (uw_HT ad_ht cA_ht (ad_rd 0) (ad_sp 0) (ad_mx 0) (ad_ar 0) (ad_tb 0) (ad_tc 0) ht ++ (uw_Table ad_tb cA_tb tb))) (va_A (uw_HT ad_ht cA_ht (ad_rd 0) (ad_sp 0) (ad_mx 0) (ad_ar 0) (ad_tb 0) (ad_tc 0) ht ++ (uw_Table ad_tb cA_tb tb)) sz)) (vx_X (fun (u : Nat × (Unit)) => res = .inr u) (fun (E : String) (u : Nat × (Unit)) (t : State) => E = xn u.1 ∧ va_P (dC, dI) vwCl (uw_HT ad_ht cA_ht (ad_rd 0) (ad_sp 0) (ad_mx 0) (ad_ar 0) (ad_tb 0) (ad_tc 0) ht ++ (uw_Table ad_tb cA_tb tb)) t.heap ∧ va_K (dC, dI) vwCl [(cA_ht 1, .int), (cA_tb 1, .int), (cA_tb 2, .int), (cA_tb 3, .int), (cA_tb 4, .byte)] t ∧ va_D (va_A (uw_HT ad_ht cA_ht (ad_rd 0) (ad_sp 0) (ad_mx 0) (ad_ar 0) (ad_tb 0) (ad_tc 0) ht ++ (uw_Table ad_tb cA_tb tb)) sz) (uw_HT ad_ht cA_ht (ad_rd 0) (ad_sp 0) (ad_mx 0) (ad_ar 0) (ad_tb 0) (ad_tc 0) ht ++ (uw_Table ad_tb cA_tb tb))) (va_A (uw_HT ad_ht cA_ht (ad_rd 0) (ad_sp 0) (ad_mx 0) (ad_ar 0) (ad_tb 0) (ad_tc 0) ht ++ (uw_Table ad_tb cA_tb tb)) sz)) 1 6 (va_A (uw_HT ad_ht cA_ht (ad_rd 0) (ad_sp 0) (ad_mx 0) (ad_ar 0) (ad_tb 0) (ad_tc 0) ht ++ (uw_Table ad_tb cA_tb tb)) sz) := by
  refine vx_ofW (cc := b_HT_material) (maxL := 4) (ret := (some .int)) (by decide) rfl ?_
  intro p e s m args below meth c s₁ B hml htab hv
  obtain ⟨rfl, hsz, hP, hK, hD0, hN, hX⟩ := hv
  have hx := B.exec
  have hb := B.bytes
  have hr := B.returns
  have hts := atoms_spec (ws := w_HT_material) B.pre
  have hown : s.vm.findClass "HazardTables" = some m.cls := findClass_of_methodNamed B.named
  have hlocks := B.notSynchronized
  subst hsz
  have hD := hD0.self (sz := s.heap.size)
  generalize hAe : va_A (uw_HT ad_ht cA_ht (ad_rd 0) (ad_sp 0) (ad_mx 0) (ad_ar 0) (ad_tb 0) (ad_tc 0) ht ++ (uw_Table ad_tb cA_tb tb)) s.heap.size = A at hD hX ⊢
  have hA : ∀ q : Nat, s.heap.size ≤ q → A q := fun q h => by rw [← hAe]; exact Or.inr h
  have hS : va_S A s.heap s.heap [] := va_S.rf
  have hP : va_P (dC, dI) vwCl (uw_HT ad_ht cA_ht (ad_rd 0) (ad_sp 0) (ad_mx 0) (ad_ar 0) (ad_tb 0) (ad_tc 0) ht ++ (uw_Table ad_tb cA_tb tb)) s.heap := hP
  have fl_44 := (hts _ (List.mem_cons_of_mem _ wd_209))
  have hin_HT : ∀ w ∈ u_ws "HazardTables" F_HT 7, w ∈ w_HT_material := fun w h => List.mem_cons_of_mem _ (hinA_HT w h)
  have thr_28 : ∀ (u : Unit) (H : Heap) (locs : List Loc) (ls : Array Slot), res = .inr (0, u) → va_P (dC, dI) vwCl (uw_HT ad_ht cA_ht (ad_rd 0) (ad_sp 0) (ad_mx 0) (ad_ar 0) (ad_tb 0) (ad_tc 0) ht ++ (uw_Table ad_tb cA_tb tb)) H → va_D A (uw_HT ad_ht cA_ht (ad_rd 0) (ad_sp 0) (ad_mx 0) (ad_ar 0) (ad_tb 0) (ad_tc 0) ht ++ (uw_Table ad_tb cA_tb tb)) → va_S A s.heap H locs → ls.size = 4 → W p l e (headSpec w_HT_material ({ frames := 6, cells := 1, slots := 6, locals := 82 })).room s m ([.ref (ad_ht 0), .int x1, .int x2] : List Value).toArray below meth c H locs 0 0 (vx_MQ below (va_Qi (fun (r : Int32) (u : Unit) => res = .inl r) (fun (u : Unit) (t : State) => va_P (dC, dI) vwCl (uw_HT ad_ht cA_ht (ad_rd 0) (ad_sp 0) (ad_mx 0) (ad_ar 0) (ad_tb 0) (ad_tc 0) ht ++ (uw_Table ad_tb cA_tb tb)) t.heap ∧ va_K (dC, dI) vwCl [(cA_ht 1, .int), (cA_tb 1, .int), (cA_tb 2, .int), (cA_tb 3, .int), (cA_tb 4, .byte)] t ∧ va_D A (uw_HT ad_ht cA_ht (ad_rd 0) (ad_sp 0) (ad_mx 0) (ad_ar 0) (ad_tb 0) (ad_tc 0) ht ++ (uw_Table ad_tb cA_tb tb))) A) (vx_X (fun (u : Nat × (Unit)) => res = .inr u) (fun (E : String) (u : Nat × (Unit)) (t : State) => E = xn u.1 ∧ va_P (dC, dI) vwCl (uw_HT ad_ht cA_ht (ad_rd 0) (ad_sp 0) (ad_mx 0) (ad_ar 0) (ad_tb 0) (ad_tc 0) ht ++ (uw_Table ad_tb cA_tb tb)) t.heap ∧ va_K (dC, dI) vwCl [(cA_ht 1, .int), (cA_tb 1, .int), (cA_tb 2, .int), (cA_tb 3, .int), (cA_tb 4, .byte)] t ∧ va_D A (uw_HT ad_ht cA_ht (ad_rd 0) (ad_sp 0) (ad_mx 0) (ad_ar 0) (ad_tb 0) (ad_tc 0) ht ++ (uw_Table ad_tb cA_tb tb))) A) ([.ref (ad_ht 0), .int x1, .int x2] : List Value).toArray s 1 6 A) (F0 m 28 ls []) := by
    intro u H locs ls hres hP hD hS hsz
    obtain ⟨sa, hstr⟩ := hX.2.2.1 (103, "no such material") (by decide)
    refine vx_throwS (cls := "java/lang/IllegalArgumentException") (text := "no such material") (names := xch) (ik := 101) (is := 103) (ic := 105) (sa := sa) hx hb htr hown (by decide) (by decide) (hts _ (List.mem_cons_of_mem _ wd_479)) (hts _ (List.mem_cons_of_mem _ wd_56)) hstr (x_hat_105 hts hX) x_good_105 hX.1 hX.2.1 hS (hsz.trans hml.symm) d_HT_material_28 d_HT_material_31 d_HT_material_32 d_HT_material_34 d_HT_material_37 (fun x hx9 => (htab x hx9).elim) (by decide) (by decide) (by decide) (by decide) hlocks (fun t hvm hz hk => ?_) hS.2.2 (by decide) (by decide)
    obtain ⟨hP9, hF9⟩ := cl_thrown hP hS hz hk
    exact ⟨(0, u), hres, ⟨rfl, hP9, va_K.moved hvm hK, hD⟩, hF9⟩
  have thr_48 : ∀ (u : Unit) (H : Heap) (locs : List Loc) (ls : Array Slot), res = .inr (0, u) → va_P (dC, dI) vwCl (uw_HT ad_ht cA_ht (ad_rd 0) (ad_sp 0) (ad_mx 0) (ad_ar 0) (ad_tb 0) (ad_tc 0) ht ++ (uw_Table ad_tb cA_tb tb)) H → va_D A (uw_HT ad_ht cA_ht (ad_rd 0) (ad_sp 0) (ad_mx 0) (ad_ar 0) (ad_tb 0) (ad_tc 0) ht ++ (uw_Table ad_tb cA_tb tb)) → va_S A s.heap H locs → ls.size = 4 → W p l e (headSpec w_HT_material ({ frames := 6, cells := 1, slots := 6, locals := 82 })).room s m ([.ref (ad_ht 0), .int x1, .int x2] : List Value).toArray below meth c H locs 0 0 (vx_MQ below (va_Qi (fun (r : Int32) (u : Unit) => res = .inl r) (fun (u : Unit) (t : State) => va_P (dC, dI) vwCl (uw_HT ad_ht cA_ht (ad_rd 0) (ad_sp 0) (ad_mx 0) (ad_ar 0) (ad_tb 0) (ad_tc 0) ht ++ (uw_Table ad_tb cA_tb tb)) t.heap ∧ va_K (dC, dI) vwCl [(cA_ht 1, .int), (cA_tb 1, .int), (cA_tb 2, .int), (cA_tb 3, .int), (cA_tb 4, .byte)] t ∧ va_D A (uw_HT ad_ht cA_ht (ad_rd 0) (ad_sp 0) (ad_mx 0) (ad_ar 0) (ad_tb 0) (ad_tc 0) ht ++ (uw_Table ad_tb cA_tb tb))) A) (vx_X (fun (u : Nat × (Unit)) => res = .inr u) (fun (E : String) (u : Nat × (Unit)) (t : State) => E = xn u.1 ∧ va_P (dC, dI) vwCl (uw_HT ad_ht cA_ht (ad_rd 0) (ad_sp 0) (ad_mx 0) (ad_ar 0) (ad_tb 0) (ad_tc 0) ht ++ (uw_Table ad_tb cA_tb tb)) t.heap ∧ va_K (dC, dI) vwCl [(cA_ht 1, .int), (cA_tb 1, .int), (cA_tb 2, .int), (cA_tb 3, .int), (cA_tb 4, .byte)] t ∧ va_D A (uw_HT ad_ht cA_ht (ad_rd 0) (ad_sp 0) (ad_mx 0) (ad_ar 0) (ad_tb 0) (ad_tc 0) ht ++ (uw_Table ad_tb cA_tb tb))) A) ([.ref (ad_ht 0), .int x1, .int x2] : List Value).toArray s 1 6 A) (F0 m 48 ls []) := by
    intro u H locs ls hres hP hD hS hsz
    obtain ⟨sa, hstr⟩ := hX.2.2.1 (106, "no such what") (by decide)
    refine vx_throwS (cls := "java/lang/IllegalArgumentException") (text := "no such what") (names := xch) (ik := 101) (is := 106) (ic := 105) (sa := sa) hx hb htr hown (by decide) (by decide) (hts _ (List.mem_cons_of_mem _ wd_479)) (hts _ (List.mem_cons_of_mem _ wd_56)) hstr (x_hat_105 hts hX) x_good_105 hX.1 hX.2.1 hS (hsz.trans hml.symm) d_HT_material_48 d_HT_material_51 d_HT_material_52 d_HT_material_54 d_HT_material_57 (fun x hx9 => (htab x hx9).elim) (by decide) (by decide) (by decide) (by decide) hlocks (fun t hvm hz hk => ?_) hS.2.2 (by decide) (by decide)
    obtain ⟨hP9, hF9⟩ := cl_thrown hP hS hz hk
    exact ⟨(0, u), hres, ⟨rfl, hP9, va_K.moved hvm hK, hD⟩, hF9⟩
  have ret : ∀ (v : Int32) (u : Unit) (H : Heap) (locs : List Loc) (ls : Array Slot) (pc : Nat), decode b_HT_material pc = .ok (.ireturn, 1) → res = .inl v → va_P (dC, dI) vwCl (uw_HT ad_ht cA_ht (ad_rd 0) (ad_sp 0) (ad_mx 0) (ad_ar 0) (ad_tb 0) (ad_tc 0) ht ++ (uw_Table ad_tb cA_tb tb)) H → va_D A (uw_HT ad_ht cA_ht (ad_rd 0) (ad_sp 0) (ad_mx 0) (ad_ar 0) (ad_tb 0) (ad_tc 0) ht ++ (uw_Table ad_tb cA_tb tb)) → va_S A s.heap H locs → W p l e (headSpec w_HT_material ({ frames := 6, cells := 1, slots := 6, locals := 82 })).room s m ([.ref (ad_ht 0), .int x1, .int x2] : List Value).toArray below meth c H locs 0 0 (vx_MQ below (va_Qi (fun (r : Int32) (u : Unit) => res = .inl r) (fun (u : Unit) (t : State) => va_P (dC, dI) vwCl (uw_HT ad_ht cA_ht (ad_rd 0) (ad_sp 0) (ad_mx 0) (ad_ar 0) (ad_tb 0) (ad_tc 0) ht ++ (uw_Table ad_tb cA_tb tb)) t.heap ∧ va_K (dC, dI) vwCl [(cA_ht 1, .int), (cA_tb 1, .int), (cA_tb 2, .int), (cA_tb 3, .int), (cA_tb 4, .byte)] t ∧ va_D A (uw_HT ad_ht cA_ht (ad_rd 0) (ad_sp 0) (ad_mx 0) (ad_ar 0) (ad_tb 0) (ad_tc 0) ht ++ (uw_Table ad_tb cA_tb tb))) A) (vx_X (fun (u : Nat × (Unit)) => res = .inr u) (fun (E : String) (u : Nat × (Unit)) (t : State) => E = xn u.1 ∧ va_P (dC, dI) vwCl (uw_HT ad_ht cA_ht (ad_rd 0) (ad_sp 0) (ad_mx 0) (ad_ar 0) (ad_tb 0) (ad_tc 0) ht ++ (uw_Table ad_tb cA_tb tb)) t.heap ∧ va_K (dC, dI) vwCl [(cA_ht 1, .int), (cA_tb 1, .int), (cA_tb 2, .int), (cA_tb 3, .int), (cA_tb 4, .byte)] t ∧ va_D A (uw_HT ad_ht cA_ht (ad_rd 0) (ad_sp 0) (ad_mx 0) (ad_ar 0) (ad_tb 0) (ad_tc 0) ht ++ (uw_Table ad_tb cA_tb tb))) A) ([.ref (ad_ht 0), .int x1, .int x2] : List Value).toArray s 1 6 A) (F0 m pc ls [.int v]) := fun v u H locs ls pc hd hp hP hD hS => W.widen (k := 1) (n := 6) (Nat.zero_le _) (Nat.zero_le _) (vx_ret (W.iret (v := v) hx hb hr (fun t ht hW => ⟨⟨v, u, rfl, hp, by rw [ht]; exact hP, va_K.moved hW.alike hK, hD⟩, hS.F ht⟩) hS.2.2 hd))
  generalize (vx_MQ below (va_Qi (fun (r : Int32) (u : Unit) => res = .inl r) (fun (u : Unit) (t : State) => va_P (dC, dI) vwCl (uw_HT ad_ht cA_ht (ad_rd 0) (ad_sp 0) (ad_mx 0) (ad_ar 0) (ad_tb 0) (ad_tc 0) ht ++ (uw_Table ad_tb cA_tb tb)) t.heap ∧ va_K (dC, dI) vwCl [(cA_ht 1, .int), (cA_tb 1, .int), (cA_tb 2, .int), (cA_tb 3, .int), (cA_tb 4, .byte)] t ∧ va_D A (uw_HT ad_ht cA_ht (ad_rd 0) (ad_sp 0) (ad_mx 0) (ad_ar 0) (ad_tb 0) (ad_tc 0) ht ++ (uw_Table ad_tb cA_tb tb))) A) (vx_X (fun (u : Nat × (Unit)) => res = .inr u) (fun (E : String) (u : Nat × (Unit)) (t : State) => E = xn u.1 ∧ va_P (dC, dI) vwCl (uw_HT ad_ht cA_ht (ad_rd 0) (ad_sp 0) (ad_mx 0) (ad_ar 0) (ad_tb 0) (ad_tc 0) ht ++ (uw_Table ad_tb cA_tb tb)) t.heap ∧ va_K (dC, dI) vwCl [(cA_ht 1, .int), (cA_tb 1, .int), (cA_tb 2, .int), (cA_tb 3, .int), (cA_tb 4, .byte)] t ∧ va_D A (uw_HT ad_ht cA_ht (ad_rd 0) (ad_sp 0) (ad_mx 0) (ad_ar 0) (ad_tb 0) (ad_tc 0) ht ++ (uw_Table ad_tb cA_tb tb))) A) ([.ref (ad_ht 0), .int x1, .int x2] : List Value).toArray s 1 6 A) = Q at ret thr_28 thr_48 ⊢
  have w_22 : ∀  (y2 : Int32) (z0 : Int32) (H : Heap) (locs : List Loc) (ls : Array Slot), f_HT_material_22 ht tb y2 z0 = some res → va_P (dC, dI) vwCl (uw_HT ad_ht cA_ht (ad_rd 0) (ad_sp 0) (ad_mx 0) (ad_ar 0) (ad_tb 0) (ad_tc 0) ht ++ (uw_Table ad_tb cA_tb tb)) H → va_D A (uw_HT ad_ht cA_ht (ad_rd 0) (ad_sp 0) (ad_mx 0) (ad_ar 0) (ad_tb 0) (ad_tc 0) ht ++ (uw_Table ad_tb cA_tb tb)) → va_S A s.heap H locs → lv_has ls 4 [(0, .ref (ad_ht 0)), (2, .int y2)] → W p l e (headSpec w_HT_material ({ frames := 6, cells := 1, slots := 6, locals := 82 })).room s m ([.ref (ad_ht 0), .int x1, .int x2] : List Value).toArray below meth c H locs 0 0 Q (F0 m 22 ls [.int z0]) := by
    intro y2 z0 H locs ls hf hP hD hS hl
    rw [f_HT_material_22] at hf
    refine lv_istore_n (lv' := [(3, .int z0), (0, .ref (ad_ht 0)), (2, .int y2)]) hx hb d_HT_material_22 rfl hl (by decide) rfl (fun ls hl => ?_)
    refine lv_iload_n hx hb d_HT_material_23 rfl (lv_at hl 0 rfl) ?_
    refine lv_iconst (v := (-1 : Int32)) hx hb d_HT_material_24 (by decide) ?_
    refine lv_icmp_ne (tgt := 38) hx hb d_HT_material_25 (by decide) (fun hc4 => ?_) (fun hc4 => ?_)
    · have hf := hf_f hf hc4
      refine lv_iload_n hx hb d_HT_material_38 rfl (lv_at hl 2 rfl) ?_
      refine lv_if_lt (tgt := 48) hx hb d_HT_material_39 (by decide) (fun hc5 => ?_) (fun hc5 => ?_)
      · have hf := hf_t hf hc5
        exact thr_48 () H locs ls (Option.some.inj hf).symm hP hD hS hl.1
      · have hf := hf_f hf hc5
        refine lv_iload_n hx hb d_HT_material_42 rfl (lv_at hl 2 rfl) ?_
        refine lv_bipush (v := (9 : Int32)) hx hb d_HT_material_43 (by decide) ?_
        refine lv_icmp_lt (tgt := 58) hx hb d_HT_material_45 (by decide) (fun hc6 => ?_) (fun hc6 => ?_)
        · have hf := hf_t hf hc6
          refine lv_aload_n hx hb d_HT_material_58 rfl (lv_at hl 1 rfl) ?_
          refine va_get (D := (dC, dI)) (ci := 5) (v := .ref (ad_tb 0)) (C := "HazardTables") (T := F_HT) (N := 7) hx hb hts hin_HT hown hK hP 0 rfl rfl 5 (by decide) fl_44 (fun _ h9 => h9) rfl d_HT_material_59 ?_
          refine lv_iload_n hx hb d_HT_material_62 rfl (lv_at hl 0 rfl) ?_
          refine lv_iload_n hx hb d_HT_material_63 rfl (lv_at hl 2 rfl) ?_
          obtain ⟨u7, hu7, hf⟩ := Option.bind_eq_some_iff.mp hf
          refine cl_i (wc := (uw_Table ad_tb cA_tb tb)) (wr := (uw_HT ad_ht cA_ht (ad_rd 0) (ad_sp 0) (ad_mx 0) (ad_ar 0) (ad_tb 0) (ad_tc 0) ht)) (tysC := [(cA_tb 1, .int), (cA_tb 2, .int), (cA_tb 3, .int), (cA_tb 4, .byte)]) (wu := fun (u : Unit) => (uw_Table ad_tb cA_tb tb)) (wn := fun (u : Unit) => (uw_HT ad_ht cA_ht (ad_rd 0) (ad_sp 0) (ad_mx 0) (ad_ar 0) (ad_tb 0) (ad_tc 0) ht ++ (uw_Table ad_tb cA_tb tb))) [2, 3, 4, 5, 6] [0, 1] [0, 1, 2, 3, 4, 5, 6] [1, 2, 3, 4] hP hD hS hA hK rfl rfl (by decide +kernel) (by decide +kernel) (by decide +kernel) rfl (fun _ => rfl) (by decide +kernel) (fun hPc hKc hDc => (va_runV (As := [.int z0, .int y2]) (rest := []) ⟨hx, hb, hml, hown, hts⟩ (k_Table_cell l dC dI ad_tb cA_tb H.size tb z0 y2 u7 hu7) (cwV 2 hts (gV wd_496 wd_497 wd_498 wd_48 wd_499) rfl rfl rfl (by decide +kernel) ⟨Nat.le_of_ble_eq_true rfl, Nat.le_of_ble_eq_true rfl⟩) (cl_preV hPc hKc hDc hN (ci := 4) 0 rfl rfl) rfl rfl hl.1 rfl (lv_room (Nat.le_of_ble_eq_true rfl)) d_HT_material_64 ⟨Nat.le_of_ble_eq_true rfl, Nat.le_of_ble_eq_true rfl⟩)) (fun r u H locs hw hP hD hS => ?_)
          have hw := hw.symm
          subst hw
          have hP : va_P (dC, dI) vwCl (uw_HT ad_ht cA_ht (ad_rd 0) (ad_sp 0) (ad_mx 0) (ad_ar 0) (ad_tb 0) (ad_tc 0) ht ++ (uw_Table ad_tb cA_tb tb)) H := hP
          have hD : va_D A (uw_HT ad_ht cA_ht (ad_rd 0) (ad_sp 0) (ad_mx 0) (ad_ar 0) (ad_tb 0) (ad_tc 0) ht ++ (uw_Table ad_tb cA_tb tb)) := hD
          exact ret u7 () H locs ls 67 d_HT_material_67 (Option.some.inj hf).symm hP hD hS
        · have hf := hf_f hf hc6
          exact thr_48 () H locs ls (Option.some.inj hf).symm hP hD hS hl.1
    · have hf := hf_t hf hc4
      exact thr_28 () H locs ls (Option.some.inj hf).symm hP hD hS hl.1
  have hl := lv_entry ([.ref (ad_ht 0), .int x1, .int x2]) (n := 4) (Nat.le_of_ble_eq_true rfl)
  rw [lg_entry_eq]
  generalize (lg_sl ([.ref (ad_ht 0), .int x1, .int x2]) ++ List.replicate (4 - (lg_sl ([.ref (ad_ht 0), .int x1, .int x2])).length) Slot.unset).toArray = ls at hl ⊢
  have hl : lv_has ls 4 [(0, .ref (ad_ht 0)), (1, .int x1), (2, .int x2)] := hl
  have hf := hf
  rw [f_HT_material] at hf
  obtain ⟨H, hH⟩ : ∃ H : Heap, H = s.heap := ⟨_, rfl⟩
  obtain ⟨locs, hlocs⟩ : ∃ L : List Loc, L = [] := ⟨_, rfl⟩
  have hP : va_P (dC, dI) vwCl (uw_HT ad_ht cA_ht (ad_rd 0) (ad_sp 0) (ad_mx 0) (ad_ar 0) (ad_tb 0) (ad_tc 0) ht ++ (uw_Table ad_tb cA_tb tb)) H := by rw [hH]; exact hP
  have hS : va_S A s.heap H locs := by rw [hH, hlocs]; exact hS
  show W p l e (headSpec w_HT_material ({ frames := 6, cells := 1, slots := 6, locals := 82 })).room s m ([.ref (ad_ht 0), .int x1, .int x2] : List Value).toArray below meth c s.heap [] 0 0 Q (F0 m 0 ls [])
  suffices hgo : W p l e (headSpec w_HT_material ({ frames := 6, cells := 1, slots := 6, locals := 82 })).room s m ([.ref (ad_ht 0), .int x1, .int x2] : List Value).toArray below meth c H locs 0 0 Q (F0 m 0 ls []) by rw [hH, hlocs] at hgo; exact hgo
  clear hH hlocs
  refine lv_iload_n hx hb d_HT_material_0 rfl (lv_at hl 1 rfl) ?_
  refine lv_if_ne (tgt := 14) hx hb d_HT_material_1 (by decide) (fun hc1 => ?_) (fun hc1 => ?_)
  · have hf := hf_f hf hc1
    refine lv_aload_n hx hb d_HT_material_14 rfl (lv_at hl 0 rfl) ?_
    refine va_get (D := (dC, dI)) (ci := 5) (v := .ref (ad_tb 0)) (C := "HazardTables") (T := F_HT) (N := 7) hx hb hts hin_HT hown hK hP 0 rfl rfl 5 (by decide) fl_44 (fun _ h9 => h9) rfl d_HT_material_15 ?_
    refine lv_iload_n hx hb d_HT_material_18 rfl (lv_at hl 1 rfl) ?_
    obtain ⟨u2, hu2, hf⟩ := Option.bind_eq_some_iff.mp hf
    refine cl_i (wc := (uw_Table ad_tb cA_tb tb)) (wr := (uw_HT ad_ht cA_ht (ad_rd 0) (ad_sp 0) (ad_mx 0) (ad_ar 0) (ad_tb 0) (ad_tc 0) ht)) (tysC := [(cA_tb 1, .int), (cA_tb 2, .int), (cA_tb 3, .int), (cA_tb 4, .byte)]) (wu := fun (u : Unit) => (uw_Table ad_tb cA_tb tb)) (wn := fun (u : Unit) => (uw_HT ad_ht cA_ht (ad_rd 0) (ad_sp 0) (ad_mx 0) (ad_ar 0) (ad_tb 0) (ad_tc 0) ht ++ (uw_Table ad_tb cA_tb tb))) [2, 3, 4, 5, 6] [0, 1] [0, 1, 2, 3, 4, 5, 6] [1, 2, 3, 4] hP hD hS hA hK rfl rfl (by decide +kernel) (by decide +kernel) (by decide +kernel) rfl (fun _ => rfl) (by decide +kernel) (fun hPc hKc hDc => (va_runV (As := [.int x1]) (rest := []) ⟨hx, hb, hml, hown, hts⟩ (k_Table_rowOf l dC dI ad_tb cA_tb H.size tb x1 u2 hu2) (cwV 1 hts (gV wd_478 wd_390 wd_391 wd_48 wd_392) rfl rfl rfl (by decide +kernel) ⟨Nat.le_of_ble_eq_true rfl, Nat.le_of_ble_eq_true rfl⟩) (cl_preV hPc hKc hDc hN (ci := 4) 0 rfl rfl) rfl rfl hl.1 rfl (lv_room (Nat.le_of_ble_eq_true rfl)) d_HT_material_19 ⟨Nat.le_of_ble_eq_true rfl, Nat.le_of_ble_eq_true rfl⟩)) (fun r u H locs hw hP hD hS => ?_)
    have hw := hw.symm
    subst hw
    have hP : va_P (dC, dI) vwCl (uw_HT ad_ht cA_ht (ad_rd 0) (ad_sp 0) (ad_mx 0) (ad_ar 0) (ad_tb 0) (ad_tc 0) ht ++ (uw_Table ad_tb cA_tb tb)) H := hP
    have hD : va_D A (uw_HT ad_ht cA_ht (ad_rd 0) (ad_sp 0) (ad_mx 0) (ad_ar 0) (ad_tb 0) (ad_tc 0) ht ++ (uw_Table ad_tb cA_tb tb)) := hD
    exact w_22 x2 u2 H locs ls hf hP hD hS (lv_sub hl [0, 2] rfl)
  · have hf := hf_t hf hc1
    refine lv_aload_n hx hb d_HT_material_4 rfl (lv_at hl 0 rfl) ?_
    refine va_get (D := (dC, dI)) (ci := 5) (v := .ref (ad_tb 0)) (C := "HazardTables") (T := F_HT) (N := 7) hx hb hts hin_HT hown hK hP 0 rfl rfl 5 (by decide) fl_44 (fun _ h9 => h9) rfl d_HT_material_5 ?_
    obtain ⟨u3, hu3, hf⟩ := Option.bind_eq_some_iff.mp hf
    refine cl_i (wc := (uw_Table ad_tb cA_tb tb)) (wr := (uw_HT ad_ht cA_ht (ad_rd 0) (ad_sp 0) (ad_mx 0) (ad_ar 0) (ad_tb 0) (ad_tc 0) ht)) (tysC := [(cA_tb 1, .int), (cA_tb 2, .int), (cA_tb 3, .int), (cA_tb 4, .byte)]) (wu := fun (u : Unit) => (uw_Table ad_tb cA_tb tb)) (wn := fun (u : Unit) => (uw_HT ad_ht cA_ht (ad_rd 0) (ad_sp 0) (ad_mx 0) (ad_ar 0) (ad_tb 0) (ad_tc 0) ht ++ (uw_Table ad_tb cA_tb tb))) [2, 3, 4, 5, 6] [0, 1] [0, 1, 2, 3, 4, 5, 6] [1, 2, 3, 4] hP hD hS hA hK rfl rfl (by decide +kernel) (by decide +kernel) (by decide +kernel) rfl (fun _ => rfl) (by decide +kernel) (fun hPc hKc hDc => (va_runV (As := []) (rest := []) ⟨hx, hb, hml, hown, hts⟩ (k_Table_rowOfOthers l dC dI ad_tb cA_tb H.size tb u3 hu3) (cwV 0 hts (gV wd_474 wd_475 wd_476 wd_48 wd_477) rfl rfl rfl (by decide +kernel) ⟨Nat.le_of_ble_eq_true rfl, Nat.le_of_ble_eq_true rfl⟩) (cl_preV hPc hKc hDc hN (ci := 4) 0 rfl rfl) rfl rfl hl.1 rfl (lv_room (Nat.le_of_ble_eq_true rfl)) d_HT_material_8 ⟨Nat.le_of_ble_eq_true rfl, Nat.le_of_ble_eq_true rfl⟩)) (fun r u H locs hw hP hD hS => ?_)
    have hw := hw.symm
    subst hw
    have hP : va_P (dC, dI) vwCl (uw_HT ad_ht cA_ht (ad_rd 0) (ad_sp 0) (ad_mx 0) (ad_ar 0) (ad_tb 0) (ad_tc 0) ht ++ (uw_Table ad_tb cA_tb tb)) H := hP
    have hD : va_D A (uw_HT ad_ht cA_ht (ad_rd 0) (ad_sp 0) (ad_mx 0) (ad_ar 0) (ad_tb 0) (ad_tc 0) ht ++ (uw_Table ad_tb cA_tb tb)) := hD
    refine lv_goto (tgt := 22) hx hb d_HT_material_11 (by decide) ?_
    exact w_22 x2 u3 H locs ls hf hP hD hS (lv_sub hl [0, 2] rfl)
