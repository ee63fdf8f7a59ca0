noncomputable def f_HT_over (ht : SHT) (x1 : Int32) (x2 : Int32) : Option (Sum (Bool) (Nat × (Unit))) :=
  (if x1 < 0 then
    (some (.inr (0, ())))
   else
    (if x1 < (5 : Int32) then
      (if inb x1 5 then
        (if x2 < (ht x1.toNatClampNeg) then
          (some (.inl (false)))
         else
          (some (.inl (true)))
         )
       else none)
     else
      (some (.inr (0, ())))
     )
   )
set_option maxHeartbeats 4000000 in
set_option maxRecDepth 100000 in
theorem k_HT_over (l : Launch) (dC : Nat → ClassId) (dI : Nat → Nat → Nat) (ad_ht : Nat → Nat) (cA_ht : Nat → ClassId) (ad_rd : Nat → Nat) (cA_rd : Nat → ClassId) (ad_sp : Nat → Nat) (cA_sp : Nat → ClassId) (ad_mx : Nat → Nat) (cA_mx : Nat → ClassId) (ad_ar : Nat → Nat) (cA_ar : Nat → ClassId) (ad_tb : Nat → Nat) (cA_tb : Nat → ClassId) (ad_tc : Nat → Nat) (cA_tc : Nat → ClassId) (sz : Nat) (ht : SHT) (x1 : Int32) (x2 : Int32) (res : Sum (Bool) (Nat × (Unit))) (hf : f_HT_over ht x1 x2 = some res) (htr : l.stackTraces = false) : vx_Met l y_HT_over w_HT_over ({ frames := 6, cells := 1, slots := 6, locals := 82 }) (xPc (dC, dI) (uw_HT ad_ht cA_ht (ad_rd 0) (ad_sp 0) (ad_mx 0) (ad_ar 0) (ad_tb 0) (ad_tc 0) ht) [(cA_ht 1, .int)] sz [.ref (ad_ht 0), .int x1, .int x2]) (va_Qi (fun (r : Int32) (u : Unit) => ∃ b : Bool, r = bI b ∧ res = .inl b) (fun (u : Unit) (t : State) => va_P (dC, dI) vwCl (uw_HT ad_ht cA_ht (ad_rd 0) (ad_sp 0) (ad_mx 0) (ad_ar 0) (ad_tb 0) (ad_tc 0) ht) t.heap ∧ va_K (dC, dI) vwCl [(cA_ht 1, .int)] t ∧ va_D (va_A (uw_HT ad_ht cA_ht (ad_rd 0) (ad_sp 0) (ad_mx 0) (ad_ar 0) (ad_tb 0) (ad_tc 0) ht) sz) (uw_HT ad_ht cA_ht (ad_rd 0) (ad_sp 0) (ad_mx 0) (ad_ar 0) (ad_tb 0) (ad_tc 0) ht)) (va_A (uw_HT ad_ht cA_ht (ad_rd 0) (ad_sp 0) (ad_mx 0) (ad_ar 0) (ad_tb 0) (ad_tc 0) ht) sz)) (vx_X (fun (u : Nat × (Unit)) => res = .inr u) (fun (E : String) (u : Nat × (Unit)) (t : State) => E = xn u.1 ∧ va_P (dC, dI) vwCl (uw_HT ad_ht cA_ht (ad_rd 0) (ad_sp 0) (ad_mx 0) (ad_ar 0) (ad_tb 0) (ad_tc 0) ht) t.heap ∧ va_K (dC, dI) vwCl [(cA_ht 1, .int)] t ∧ va_D (va_A (uw_HT ad_ht cA_ht (ad_rd 0) (ad_sp 0) (ad_mx 0) (ad_ar 0) (ad_tb 0) (ad_tc 0) ht) sz) (uw_HT ad_ht cA_ht (ad_rd 0) (ad_sp 0) (ad_mx 0) (ad_ar 0) (ad_tb 0) (ad_tc 0) ht)) (va_A (uw_HT ad_ht cA_ht (ad_rd 0) (ad_sp 0) (ad_mx 0) (ad_ar 0) (ad_tb 0) (ad_tc 0) ht) sz)) 1 6 (va_A (uw_HT ad_ht cA_ht (ad_rd 0) (ad_sp 0) (ad_mx 0) (ad_ar 0) (ad_tb 0) (ad_tc 0) ht) sz) := by
  refine vx_ofW (cc := b_HT_over) (maxL := 3) (ret := (some .boolean)) (by decide) rfl ?_
  intro p e s m args below meth c s₁ B hml htab hv
  obtain ⟨rfl, hsz, hP, hK, hD0, hN, hX⟩ := hv
  have hx := B.exec
  have hb := B.bytes
  have hr := B.returns
  have hts := atoms_spec (ws := w_HT_over) B.pre
  have hown : s.vm.findClass "HazardTables" = some m.cls := findClass_of_methodNamed B.named
  have hlocks := B.notSynchronized
  subst hsz
  have hD := hD0.self (sz := s.heap.size)
  generalize hAe : va_A (uw_HT ad_ht cA_ht (ad_rd 0) (ad_sp 0) (ad_mx 0) (ad_ar 0) (ad_tb 0) (ad_tc 0) ht) s.heap.size = A at hD hX ⊢
  have hA : ∀ q : Nat, s.heap.size ≤ q → A q := fun q h => by rw [← hAe]; exact Or.inr h
  have hS : va_S A s.heap s.heap [] := va_S.rf
  have hP : va_P (dC, dI) vwCl (uw_HT ad_ht cA_ht (ad_rd 0) (ad_sp 0) (ad_mx 0) (ad_ar 0) (ad_tb 0) (ad_tc 0) ht) s.heap := hP
  have fl_37 := (hts _ (List.mem_cons_of_mem _ wd_208))
  have hin_HT : ∀ w ∈ u_ws "HazardTables" F_HT 7, w ∈ w_HT_over := fun w h => List.mem_cons_of_mem _ (hinA_HT w h)
  have thr_9 : ∀ (u : Unit) (H : Heap) (locs : List Loc) (ls : Array Slot), res = .inr (0, u) → va_P (dC, dI) vwCl (uw_HT ad_ht cA_ht (ad_rd 0) (ad_sp 0) (ad_mx 0) (ad_ar 0) (ad_tb 0) (ad_tc 0) ht) H → va_D A (uw_HT ad_ht cA_ht (ad_rd 0) (ad_sp 0) (ad_mx 0) (ad_ar 0) (ad_tb 0) (ad_tc 0) ht) → va_S A s.heap H locs → ls.size = 3 → W p l e (headSpec w_HT_over ({ frames := 6, cells := 1, slots := 6, locals := 82 })).room s m ([.ref (ad_ht 0), .int x1, .int x2] : List Value).toArray below meth c H locs 0 0 (vx_MQ below (va_Qi (fun (r : Int32) (u : Unit) => ∃ b : Bool, r = bI b ∧ res = .inl b) (fun (u : Unit) (t : State) => va_P (dC, dI) vwCl (uw_HT ad_ht cA_ht (ad_rd 0) (ad_sp 0) (ad_mx 0) (ad_ar 0) (ad_tb 0) (ad_tc 0) ht) t.heap ∧ va_K (dC, dI) vwCl [(cA_ht 1, .int)] t ∧ va_D A (uw_HT ad_ht cA_ht (ad_rd 0) (ad_sp 0) (ad_mx 0) (ad_ar 0) (ad_tb 0) (ad_tc 0) ht)) A) (vx_X (fun (u : Nat × (Unit)) => res = .inr u) (fun (E : String) (u : Nat × (Unit)) (t : State) => E = xn u.1 ∧ va_P (dC, dI) vwCl (uw_HT ad_ht cA_ht (ad_rd 0) (ad_sp 0) (ad_mx 0) (ad_ar 0) (ad_tb 0) (ad_tc 0) ht) t.heap ∧ va_K (dC, dI) vwCl [(cA_ht 1, .int)] t ∧ va_D A (uw_HT ad_ht cA_ht (ad_rd 0) (ad_sp 0) (ad_mx 0) (ad_ar 0) (ad_tb 0) (ad_tc 0) ht)) A) ([.ref (ad_ht 0), .int x1, .int x2] : List Value).toArray s 1 6 A) (F0 m 9 ls []) := by
    intro u H locs ls hres hP hD hS hsz
    obtain ⟨sa, hstr⟩ := hX.2.2.1 (220, "no such kind") (by decide)
    refine vx_throwS (cls := "java/lang/IllegalArgumentException") (text := "no such kind") (names := xch) (ik := 101) (is := 220) (ic := 105) (sa := sa) hx hb htr hown (by decide) (by decide) (hts _ (List.mem_cons_of_mem _ wd_479)) (hts _ (List.mem_cons_of_mem _ wd_56)) hstr (x_hat_105 hts hX) x_good_105 hX.1 hX.2.1 hS (hsz.trans hml.symm) d_HT_over_9 d_HT_over_12 d_HT_over_13 d_HT_over_15 d_HT_over_18 (fun x hx9 => (htab x hx9).elim) (by decide) (by decide) (by decide) (by decide) hlocks (fun t hvm hz hk => ?_) hS.2.2 (by decide) (by decide)
    obtain ⟨hP9, hF9⟩ := cl_thrown hP hS hz hk
    exact ⟨(0, u), hres, ⟨rfl, hP9, va_K.moved hvm hK, hD⟩, hF9⟩
  have ret : ∀ (v : Bool) (u : Unit) (H : Heap) (locs : List Loc) (ls : Array Slot) (pc : Nat), decode b_HT_over pc = .ok (.ireturn, 1) → res = .inl v → va_P (dC, dI) vwCl (uw_HT ad_ht cA_ht (ad_rd 0) (ad_sp 0) (ad_mx 0) (ad_ar 0) (ad_tb 0) (ad_tc 0) ht) H → va_D A (uw_HT ad_ht cA_ht (ad_rd 0) (ad_sp 0) (ad_mx 0) (ad_ar 0) (ad_tb 0) (ad_tc 0) ht) → va_S A s.heap H locs → W p l e (headSpec w_HT_over ({ frames := 6, cells := 1, slots := 6, locals := 82 })).room s m ([.ref (ad_ht 0), .int x1, .int x2] : List Value).toArray below meth c H locs 0 0 (vx_MQ below (va_Qi (fun (r : Int32) (u : Unit) => ∃ b : Bool, r = bI b ∧ res = .inl b) (fun (u : Unit) (t : State) => va_P (dC, dI) vwCl (uw_HT ad_ht cA_ht (ad_rd 0) (ad_sp 0) (ad_mx 0) (ad_ar 0) (ad_tb 0) (ad_tc 0) ht) t.heap ∧ va_K (dC, dI) vwCl [(cA_ht 1, .int)] t ∧ va_D A (uw_HT ad_ht cA_ht (ad_rd 0) (ad_sp 0) (ad_mx 0) (ad_ar 0) (ad_tb 0) (ad_tc 0) ht)) A) (vx_X (fun (u : Nat × (Unit)) => res = .inr u) (fun (E : String) (u : Nat × (Unit)) (t : State) => E = xn u.1 ∧ va_P (dC, dI) vwCl (uw_HT ad_ht cA_ht (ad_rd 0) (ad_sp 0) (ad_mx 0) (ad_ar 0) (ad_tb 0) (ad_tc 0) ht) t.heap ∧ va_K (dC, dI) vwCl [(cA_ht 1, .int)] t ∧ va_D A (uw_HT ad_ht cA_ht (ad_rd 0) (ad_sp 0) (ad_mx 0) (ad_ar 0) (ad_tb 0) (ad_tc 0) ht)) A) ([.ref (ad_ht 0), .int x1, .int x2] : List Value).toArray s 1 6 A) (F0 m pc ls [.int (bI v)]) := fun v u H locs ls pc hd hp hP hD hS => W.widen (k := 1) (n := 6) (Nat.zero_le _) (Nat.zero_le _) (vx_ret (W.zret (v := bI v) (ty := .boolean) hx hb hr (nar_bI v) (fun t ht hW => ⟨⟨bI v, u, rfl, ⟨v, rfl, hp⟩, by rw [ht]; exact hP, va_K.moved hW.alike hK, hD⟩, hS.F ht⟩) hS.2.2 hd))
  generalize (vx_MQ below (va_Qi (fun (r : Int32) (u : Unit) => ∃ b : Bool, r = bI b ∧ res = .inl b) (fun (u : Unit) (t : State) => va_P (dC, dI) vwCl (uw_HT ad_ht cA_ht (ad_rd 0) (ad_sp 0) (ad_mx 0) (ad_ar 0) (ad_tb 0) (ad_tc 0) ht) t.heap ∧ va_K (dC, dI) vwCl [(cA_ht 1, .int)] t ∧ va_D A (uw_HT ad_ht cA_ht (ad_rd 0) (ad_sp 0) (ad_mx 0) (ad_ar 0) (ad_tb 0) (ad_tc 0) ht)) A) (vx_X (fun (u : Nat × (Unit)) => res = .inr u) (fun (E : String) (u : Nat × (Unit)) (t : State) => E = xn u.1 ∧ va_P (dC, dI) vwCl (uw_HT ad_ht cA_ht (ad_rd 0) (ad_sp 0) (ad_mx 0) (ad_ar 0) (ad_tb 0) (ad_tc 0) ht) t.heap ∧ va_K (dC, dI) vwCl [(cA_ht 1, .int)] t ∧ va_D A (uw_HT ad_ht cA_ht (ad_rd 0) (ad_sp 0) (ad_mx 0) (ad_ar 0) (ad_tb 0) (ad_tc 0) ht)) A) ([.ref (ad_ht 0), .int x1, .int x2] : List Value).toArray s 1 6 A) = Q at ret thr_9 ⊢
  have hl := lv_entry ([.ref (ad_ht 0), .int x1, .int x2]) (n := 3) (Nat.le_of_ble_eq_true rfl)
  rw [lg_entry_eq]
  generalize (lg_sl ([.ref (ad_ht 0), .int x1, .int x2]) ++ List.replicate (3 - (lg_sl ([.ref (ad_ht 0), .int x1, .int x2])).length) Slot.unset).toArray = ls at hl ⊢
  have hl : lv_has ls 3 [(0, .ref (ad_ht 0)), (1, .int x1), (2, .int x2)] := hl
  have hf := hf
  rw [f_HT_over] at hf
  obtain ⟨H, hH⟩ : ∃ H : Heap, H = s.heap := ⟨_, rfl⟩
  obtain ⟨locs, hlocs⟩ : ∃ L : List Loc, L = [] := ⟨_, rfl⟩
  have hP : va_P (dC, dI) vwCl (uw_HT ad_ht cA_ht (ad_rd 0) (ad_sp 0) (ad_mx 0) (ad_ar 0) (ad_tb 0) (ad_tc 0) ht) H := by rw [hH]; exact hP
  have hS : va_S A s.heap H locs := by rw [hH, hlocs]; exact hS
  show W p l e (headSpec w_HT_over ({ frames := 6, cells := 1, slots := 6, locals := 82 })).room s m ([.ref (ad_ht 0), .int x1, .int x2] : List Value).toArray below meth c s.heap [] 0 0 Q (F0 m 0 ls [])
  suffices hgo : W p l e (headSpec w_HT_over ({ frames := 6, cells := 1, slots := 6, locals := 82 })).room s m ([.ref (ad_ht 0), .int x1, .int x2] : List Value).toArray below meth c H locs 0 0 Q (F0 m 0 ls []) by rw [hH, hlocs] at hgo; exact hgo
  clear hH hlocs
  refine lv_iload_n hx hb d_HT_over_0 rfl (lv_at hl 1 rfl) ?_
  refine lv_if_lt (tgt := 9) hx hb d_HT_over_1 (by decide) (fun hc1 => ?_) (fun hc1 => ?_)
  · have hf := hf_t hf hc1
    exact thr_9 () H locs ls (Option.some.inj hf).symm hP hD hS hl.1
  · have hf := hf_f hf hc1
    refine lv_iload_n hx hb d_HT_over_4 rfl (lv_at hl 1 rfl) ?_
    refine lv_iconst (v := (5 : Int32)) hx hb d_HT_over_5 (by decide) ?_
    refine lv_icmp_lt (tgt := 19) hx hb d_HT_over_6 (by decide) (fun hc2 => ?_) (fun hc2 => ?_)
    · have hf := hf_t hf hc2
      refine lv_iload_n hx hb d_HT_over_19 rfl (lv_at hl 2 rfl) ?_
      refine lv_aload_n hx hb d_HT_over_20 rfl (lv_at hl 0 rfl) ?_
      refine va_get (D := (dC, dI)) (ci := 5) (v := .ref (ad_ht 1)) (C := "HazardTables") (T := F_HT) (N := 7) hx hb hts hin_HT hown hK hP 0 rfl rfl 4 (by decide) fl_37 (fun _ h9 => h9) rfl d_HT_over_21 ?_
      refine lv_iload_n hx hb d_HT_over_24 rfl (lv_at hl 1 rfl) ?_
      obtain ⟨hi3, hf⟩ := hf_g hf
      refine va_iald hx hb hK hP 1 0 rfl rfl hi3 d_HT_over_25 ?_
      refine lv_icmp_lt (tgt := 33) hx hb d_HT_over_26 (by decide) (fun hc4 => ?_) (fun hc4 => ?_)
      · have hf := hf_t hf hc4
        refine lv_iconst (v := (0 : Int32)) hx hb d_HT_over_33 (by decide) ?_
        exact ret false () H locs ls 34 d_HT_over_34 (Option.some.inj hf).symm hP hD hS
      · have hf := hf_f hf hc4
        refine lv_iconst (v := (1 : Int32)) hx hb d_HT_over_29 (by decide) ?_
        refine lv_goto (tgt := 34) hx hb d_HT_over_30 (by decide) ?_
        exact ret true () H locs ls 34 d_HT_over_34 (Option.some.inj hf).symm hP hD hS
    · have hf := hf_f hf hc2
      exact thr_9 () H locs ls (Option.some.inj hf).symm hP hD hS hl.1
