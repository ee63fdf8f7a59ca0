noncomputable def f_Law_sign (ht : SHT) (ot : SOut) (rd : SReader) (x1 : Int64) (x3 : Int32) : Option (Int32 × SOut × SReader) :=
  (Option.bind (f_HT_sign ht rd x1 x3) fun u1 => Sum.elim (fun au1 =>
    (if inb (0 : Int32) 1 then
      (some ((0 : Int32), (vp_updL ot (0 : Int32).toNatClampNeg au1.1.toInt64), au1.2))
     else none)
   ) (fun bu1 =>
    (if bu1.1 = 1 then
      (some ((1 : Int32), ot, bu1.2))
     else
    (if bu1.1 = 3 then
      (some ((2 : Int32), ot, bu1.2))
     else
      none
     ))
   ) u1)
set_option maxHeartbeats 4000000 in
set_option maxRecDepth 100000 in
theorem k_Law_sign (l : Launch) (dC : Nat → ClassId) (dI : Nat → Nat → Nat) (ad_ht : Nat → Nat) (cA_ht : Nat → ClassId) (ad_ot : Nat → Nat) (cA_ot : Nat → ClassId) (ad_rd : Nat → Nat) (cA_rd : Nat → ClassId) (ad_sp : Nat → Nat) (cA_sp : Nat → ClassId) (ad_mx : Nat → Nat) (cA_mx : Nat → ClassId) (ad_ar : Nat → Nat) (cA_ar : Nat → ClassId) (ad_tb : Nat → Nat) (cA_tb : Nat → ClassId) (ad_tc : Nat → Nat) (cA_tc : Nat → ClassId) (sz : Nat) (ht : SHT) (ot : SOut) (rd : SReader) (x1 : Int64) (x3 : Int32) (res : Int32 × SOut × SReader) (hf : f_Law_sign ht ot rd x1 x3 = some res) (htr : l.stackTraces = false) : Met l y_Law_sign w_Law_sign ({ frames := 7, cells := 1, slots := 6, locals := 105 }) (lPc (dC, dI) (uw_HT ad_ht cA_ht (ad_rd 0) (ad_sp 0) (ad_mx 0) (ad_ar 0) (ad_tb 0) (ad_tc 0) ht ++ (uw_Out ad_ot cA_ot ot ++ (uw_Reader ad_rd cA_rd rd))) [(cA_ht 1, .int), (cA_ot 1, .long), (cA_rd 1, .int)] sz [.ref (ad_ht 0), .long x1, .int x3, .ref (ad_ot 1)]) (va_Qi (fun (r : Int32) (u : SOut × SReader) => r = res.1 ∧ u = res.2) (fun (u : SOut × SReader) (t : State) => va_P (dC, dI) vwCl (uw_HT ad_ht cA_ht (ad_rd 0) (ad_sp 0) (ad_mx 0) (ad_ar 0) (ad_tb 0) (ad_tc 0) ht ++ (uw_Out ad_ot cA_ot u.1 ++ (uw_Reader ad_rd cA_rd u.2))) t.heap ∧ va_K (dC, dI) vwCl [(cA_ht 1, .int), (cA_ot 1, .long), (cA_rd 1, .int)] t ∧ va_D (va_A (uw_HT ad_ht cA_ht (ad_rd 0) (ad_sp 0) (ad_mx 0) (ad_ar 0) (ad_tb 0) (ad_tc 0) ht ++ (uw_Out ad_ot cA_ot ot ++ (uw_Reader ad_rd cA_rd rd))) sz) (uw_HT ad_ht cA_ht (ad_rd 0) (ad_sp 0) (ad_mx 0) (ad_ar 0) (ad_tb 0) (ad_tc 0) ht ++ (uw_Out ad_ot cA_ot u.1 ++ (uw_Reader ad_rd cA_rd u.2)))) (va_A (uw_HT ad_ht cA_ht (ad_rd 0) (ad_sp 0) (ad_mx 0) (ad_ar 0) (ad_tb 0) (ad_tc 0) ht ++ (uw_Out ad_ot cA_ot ot ++ (uw_Reader ad_rd cA_rd rd))) sz)) 1 6 (va_A (uw_HT ad_ht cA_ht (ad_rd 0) (ad_sp 0) (ad_mx 0) (ad_ar 0) (ad_tb 0) (ad_tc 0) ht ++ (uw_Out ad_ot cA_ot ot ++ (uw_Reader ad_rd cA_rd rd))) sz) := by
  refine met_ofWH (hh := [(0, 11, 14, 13), (0, 11, 18, 15)]) (cc := b_Law_sign) (maxL := 6) (ret := (some .int)) (by decide) rfl ?_
  intro p e s m args below meth c s₁ B hml hv
  obtain ⟨rfl, hsz, hP, hK, hD0, hN, hX, hnc⟩ := hv
  have hx := B.exec
  have hb := B.bytes
  have hr := B.returns
  have hts := atoms_spec (ws := w_Law_sign) B.pre
  have hown : s.vm.findClass "HazardTablesLaw" = some m.cls := findClass_of_methodNamed B.named
  have hlocks := B.notSynchronized
  have htab : c.exceptionTable.toList = [⟨0, 11, 14, 13⟩, ⟨0, 11, 18, 15⟩] := vx_table (x := y_Law_sign) B (hts _ List.mem_cons_self)
  subst hsz
  have hD := hD0.self (sz := s.heap.size)
  generalize hAe : va_A (uw_HT ad_ht cA_ht (ad_rd 0) (ad_sp 0) (ad_mx 0) (ad_ar 0) (ad_tb 0) (ad_tc 0) ht ++ (uw_Out ad_ot cA_ot ot ++ (uw_Reader ad_rd cA_rd rd))) s.heap.size = A at hD hX ⊢
  have hA : ∀ q : Nat, s.heap.size ≤ q → A q := fun q h => by rw [← hAe]; exact Or.inr h
  have hS : va_S A s.heap s.heap [] := va_S.rf
  have hP : va_P (dC, dI) vwCl (uw_HT ad_ht cA_ht (ad_rd 0) (ad_sp 0) (ad_mx 0) (ad_ar 0) (ad_tb 0) (ad_tc 0) ht ++ (uw_Out ad_ot cA_ot ot ++ (uw_Reader ad_rd cA_rd rd))) s.heap := hP
  have ret : ∀ (v : Int32) (u : SOut × SReader) (H : Heap) (locs : List Loc) (ls : Array Slot) (pc : Nat), decode b_Law_sign pc = .ok (.ireturn, 1) → (v = res.1 ∧ u = res.2) → va_P (dC, dI) vwCl (uw_HT ad_ht cA_ht (ad_rd 0) (ad_sp 0) (ad_mx 0) (ad_ar 0) (ad_tb 0) (ad_tc 0) ht ++ (uw_Out ad_ot cA_ot u.1 ++ (uw_Reader ad_rd cA_rd u.2))) H → va_D A (uw_HT ad_ht cA_ht (ad_rd 0) (ad_sp 0) (ad_mx 0) (ad_ar 0) (ad_tb 0) (ad_tc 0) ht ++ (uw_Out ad_ot cA_ot u.1 ++ (uw_Reader ad_rd cA_rd u.2))) → va_S A s.heap H locs → W p l e (headSpec w_Law_sign ({ frames := 7, cells := 1, slots := 6, locals := 105 })).room s m ([.ref (ad_ht 0), .long x1, .int x3, .ref (ad_ot 1)] : List Value).toArray below meth c H locs 1 6 (MQ below (va_Qi (fun (r : Int32) (u : SOut × SReader) => r = res.1 ∧ u = res.2) (fun (u : SOut × SReader) (t : State) => va_P (dC, dI) vwCl (uw_HT ad_ht cA_ht (ad_rd 0) (ad_sp 0) (ad_mx 0) (ad_ar 0) (ad_tb 0) (ad_tc 0) ht ++ (uw_Out ad_ot cA_ot u.1 ++ (uw_Reader ad_rd cA_rd u.2))) t.heap ∧ va_K (dC, dI) vwCl [(cA_ht 1, .int), (cA_ot 1, .long), (cA_rd 1, .int)] t ∧ va_D A (uw_HT ad_ht cA_ht (ad_rd 0) (ad_sp 0) (ad_mx 0) (ad_ar 0) (ad_tb 0) (ad_tc 0) ht ++ (uw_Out ad_ot cA_ot u.1 ++ (uw_Reader ad_rd cA_rd u.2)))) A) ([.ref (ad_ht 0), .long x1, .int x3, .ref (ad_ot 1)] : List Value).toArray s 1 6 A) (F0 m pc ls [.int v]) := fun v u H locs ls pc hd hp hP hD hS => W.iret (v := v) hx hb hr (fun t ht hW => ⟨⟨v, u, rfl, hp, by rw [ht]; exact hP, va_K.moved hW.alike hK, hD⟩, hS.F ht⟩) hS.2.2 hd
  generalize (MQ below (va_Qi (fun (r : Int32) (u : SOut × SReader) => r = res.1 ∧ u = res.2) (fun (u : SOut × SReader) (t : State) => va_P (dC, dI) vwCl (uw_HT ad_ht cA_ht (ad_rd 0) (ad_sp 0) (ad_mx 0) (ad_ar 0) (ad_tb 0) (ad_tc 0) ht ++ (uw_Out ad_ot cA_ot u.1 ++ (uw_Reader ad_rd cA_rd u.2))) t.heap ∧ va_K (dC, dI) vwCl [(cA_ht 1, .int), (cA_ot 1, .long), (cA_rd 1, .int)] t ∧ va_D A (uw_HT ad_ht cA_ht (ad_rd 0) (ad_sp 0) (ad_mx 0) (ad_ar 0) (ad_tb 0) (ad_tc 0) ht ++ (uw_Out ad_ot cA_ot u.1 ++ (uw_Reader ad_rd cA_rd u.2)))) A) ([.ref (ad_ht 0), .long x1, .int x3, .ref (ad_ot 1)] : List Value).toArray s 1 6 A) = Q at ret ⊢
  have hl := lv_entry ([.ref (ad_ht 0), .long x1, .int x3, .ref (ad_ot 1)]) (n := 6) (Nat.le_of_ble_eq_true rfl)
  rw [lg_entry_eq]
  generalize (lg_sl ([.ref (ad_ht 0), .long x1, .int x3, .ref (ad_ot 1)]) ++ List.replicate (6 - (lg_sl ([.ref (ad_ht 0), .long x1, .int x3, .ref (ad_ot 1)])).length) Slot.unset).toArray = ls at hl ⊢
  have hl : lv_has ls 6 [(0, .ref (ad_ht 0)), (1, .long x1), (3, .int x3), (4, .ref (ad_ot 1))] := hl
  have hf := hf
  rw [f_Law_sign] at hf
  obtain ⟨H, hH⟩ : ∃ H : Heap, H = s.heap := ⟨_, rfl⟩
  obtain ⟨locs, hlocs⟩ : ∃ L : List Loc, L = [] := ⟨_, rfl⟩
  have hP : va_P (dC, dI) vwCl (uw_HT ad_ht cA_ht (ad_rd 0) (ad_sp 0) (ad_mx 0) (ad_ar 0) (ad_tb 0) (ad_tc 0) ht ++ (uw_Out ad_ot cA_ot ot ++ (uw_Reader ad_rd cA_rd rd))) H := by rw [hH]; exact hP
  have hS : va_S A s.heap H locs := by rw [hH, hlocs]; exact hS
  show W p l e (headSpec w_Law_sign ({ frames := 7, cells := 1, slots := 6, locals := 105 })).room s m ([.ref (ad_ht 0), .long x1, .int x3, .ref (ad_ot 1)] : List Value).toArray below meth c s.heap [] 0 0 Q (F0 m 0 ls [])
  suffices hgo : W p l e (headSpec w_Law_sign ({ frames := 7, cells := 1, slots := 6, locals := 105 })).room s m ([.ref (ad_ht 0), .long x1, .int x3, .ref (ad_ot 1)] : List Value).toArray below meth c H locs 0 0 Q (F0 m 0 ls []) by rw [hH, hlocs] at hgo; exact hgo
  clear hH hlocs
  refine lv_aload hx hb d_Law_sign_0 (lv_at hl 3 rfl) ?_
  refine lv_iconst (v := (0 : Int32)) hx hb d_Law_sign_2 (by decide) ?_
  refine lv_aload_n hx hb d_Law_sign_3 rfl (lv_at hl 0 rfl) ?_
  refine lv_lload_n hx hb d_Law_sign_4 rfl (lv_at hl 1 rfl) ?_
  refine lv_iload_n hx hb d_Law_sign_5 rfl (lv_at hl 2 rfl) ?_
  obtain ⟨u1, hu1, hf⟩ := Option.bind_eq_some_iff.mp hf
  refine cx_i (wc := (uw_HT ad_ht cA_ht (ad_rd 0) (ad_sp 0) (ad_mx 0) (ad_ar 0) (ad_tb 0) (ad_tc 0) ht ++ (uw_Reader ad_rd cA_rd rd))) (wr := (uw_Out ad_ot cA_ot ot)) (tysC := [(cA_ht 1, .int), (cA_rd 1, .int)]) (wu := fun (u : SReader) => (uw_HT ad_ht cA_ht (ad_rd 0) (ad_sp 0) (ad_mx 0) (ad_ar 0) (ad_tb 0) (ad_tc 0) ht ++ (uw_Reader ad_rd cA_rd u))) (wn := fun (u : SReader) => (uw_HT ad_ht cA_ht (ad_rd 0) (ad_sp 0) (ad_mx 0) (ad_ar 0) (ad_tb 0) (ad_tc 0) ht ++ (uw_Out ad_ot cA_ot ot ++ (uw_Reader ad_rd cA_rd u)))) (wux := fun (u : SReader) => (uw_HT ad_ht cA_ht (ad_rd 0) (ad_sp 0) (ad_mx 0) (ad_ar 0) (ad_tb 0) (ad_tc 0) ht ++ (uw_Reader ad_rd cA_rd u))) (wnx := fun (u : SReader) => (uw_HT ad_ht cA_ht (ad_rd 0) (ad_sp 0) (ad_mx 0) (ad_ar 0) (ad_tb 0) (ad_tc 0) ht ++ (uw_Out ad_ot cA_ot ot ++ (uw_Reader ad_rd cA_rd u)))) [0, 1, 3, 4] [2] [1, 2, 0, 3, 4] [0, 2] hP hD hS hA hK rfl rfl (by decide +kernel) (by decide +kernel) (by decide +kernel) rfl (fun _ => rfl) (fun _ => rfl) (by decide +kernel) (fun hPc hKc hDc hFc => (vx_runV (As := [.long x1, .int x3]) (rest := [.int (0 : Int32), .ref (ad_ot 1)]) ⟨hx, hb, hml, hown, hts⟩ (k_HT_sign l dC dI ad_ht cA_ht ad_rd cA_rd ad_sp cA_sp ad_mx cA_mx ad_ar cA_ar ad_tb cA_tb ad_tc cA_tc H.size ht rd x1 x3 u1 hu1 htr) (cwV 2 hts (gV wd_243 wd_244 wd_245 wd_43 wd_246) rfl rfl rfl (by decide +kernel) ⟨Nat.le_of_ble_eq_true rfl, Nat.le_of_ble_eq_true rfl⟩) (cx_preV hPc hKc hDc hN (fun U hU hW => xAll_at hX hS hFc hU hW) (ci := 5) 0 rfl rfl) rfl rfl hl.1 rfl (lv_room (Nat.le_of_ble_eq_true rfl)) d_Law_sign_6 ⟨Nat.le_of_ble_eq_true rfl, Nat.le_of_ble_eq_true rfl⟩)) (fun E ce q9 u H locs hw hE hP hD hS hce hcv hcl => ?_) (fun r u H locs hw hP hD hS => ?_)
  · obtain ⟨bu1, rfl⟩ : ∃ z, z = u := ⟨_, rfl⟩
    subst hw
    have hf := hf_r hf
    have hP : va_P (dC, dI) vwCl (uw_HT ad_ht cA_ht (ad_rd 0) (ad_sp 0) (ad_mx 0) (ad_ar 0) (ad_tb 0) (ad_tc 0) ht ++ (uw_Out ad_ot cA_ot ot ++ (uw_Reader ad_rd cA_rd bu1.2))) H := hP
    have hD : va_D A (uw_HT ad_ht cA_ht (ad_rd 0) (ad_sp 0) (ad_mx 0) (ad_ar 0) (ad_tb 0) (ad_tc 0) ht ++ (uw_Out ad_ot cA_ot ot ++ (uw_Reader ad_rd cA_rd bu1.2))) := hD
    by_cases hc2 : bu1.1 = 1
    · have hf := hf_t hf hc2
      have hE : E = "java/lang/IndexOutOfBoundsException" := by rw [hE, hc2]; rfl
      subst hE
      refine vx_catch (own := "HazardTablesLaw") (name := "java/lang/IndexOutOfBoundsException") (E := "java/lang/IndexOutOfBoundsException") hown [] ⟨0, 11, 14, 13⟩ [⟨0, 11, 18, 15⟩] htab (fun z hz => absurd hz List.not_mem_nil) (by decide) (by decide) (hts _ (List.mem_cons_of_mem _ wd_241)) (va_Nw.use rfl (hX.2.2.2 (.castable "java/lang/IndexOutOfBoundsException" "java/lang/IndexOutOfBoundsException") (by decide))) hce hcv hcl ?_
      refine lv_astore (lv' := [(5, .ref q9), (0, .ref (ad_ht 0)), (1, .long x1), (3, .int x3), (4, .ref (ad_ot 1))]) hx hb d_Law_sign_14 hl (by decide) rfl (fun ls hl => ?_)
      refine lv_iconst (v := (1 : Int32)) hx hb d_Law_sign_16 (by decide) ?_
      exact ret (1 : Int32) (ot, bu1.2) H locs ls 17 d_Law_sign_17 (hf_e hf) hP hD hS
    have hf := hf_f hf hc2
    by_cases hc3 : bu1.1 = 3
    · have hf := hf_t hf hc3
      have hE : E = "java/lang/UnsupportedOperationException" := by rw [hE, hc3]; rfl
      subst hE
      refine vx_catch (own := "HazardTablesLaw") (name := "java/lang/UnsupportedOperationException") (E := "java/lang/UnsupportedOperationException") hown [⟨0, 11, 14, 13⟩] ⟨0, 11, 18, 15⟩ [] htab (List.forall_mem_cons.mpr ⟨Or.inr ⟨by decide, "java/lang/IndexOutOfBoundsException", (hts _ (List.mem_cons_of_mem _ wd_241)), hnc 3 (by decide) 1 (by decide) (by decide)⟩, fun z hz => absurd hz List.not_mem_nil⟩) (by decide) (by decide) (hts _ (List.mem_cons_of_mem _ wd_242)) (va_Nw.use rfl (hX.2.2.2 (.castable "java/lang/UnsupportedOperationException" "java/lang/UnsupportedOperationException") (by decide))) hce hcv hcl ?_
      refine lv_astore (lv' := [(5, .ref q9), (0, .ref (ad_ht 0)), (1, .long x1), (3, .int x3), (4, .ref (ad_ot 1))]) hx hb d_Law_sign_18 hl (by decide) rfl (fun ls hl => ?_)
      refine lv_iconst (v := (2 : Int32)) hx hb d_Law_sign_20 (by decide) ?_
      exact ret (2 : Int32) (ot, bu1.2) H locs ls 21 d_Law_sign_21 (hf_e hf) hP hD hS
    have hf := hf_f hf hc3
    exact nomatch hf
  · obtain ⟨au1, rfl, rfl⟩ : ∃ z : Int32 × (SReader), r = z.1 ∧ u = z.2 := ⟨(r, u), rfl, rfl⟩
    have hw : u1 = .inl au1 := hw
    subst hw
    have hf := hf_l hf
    have hP : va_P (dC, dI) vwCl (uw_HT ad_ht cA_ht (ad_rd 0) (ad_sp 0) (ad_mx 0) (ad_ar 0) (ad_tb 0) (ad_tc 0) ht ++ (uw_Out ad_ot cA_ot ot ++ (uw_Reader ad_rd cA_rd au1.2))) H := hP
    have hD : va_D A (uw_HT ad_ht cA_ht (ad_rd 0) (ad_sp 0) (ad_mx 0) (ad_ar 0) (ad_tb 0) (ad_tc 0) ht ++ (uw_Out ad_ot cA_ot ot ++ (uw_Reader ad_rd cA_rd au1.2))) := hD
    refine lv_i2l (v := au1.1.toInt64) hx hb d_Law_sign_9 rfl ?_
    obtain ⟨hi4, hf⟩ := hf_g hf
    refine va_last hx hb hK hP hD hS 2 1 rfl rfl hi4 d_Law_sign_10 (fun H locs hP hD hS => ?_)
    have hP : va_P (dC, dI) vwCl (uw_HT ad_ht cA_ht (ad_rd 0) (ad_sp 0) (ad_mx 0) (ad_ar 0) (ad_tb 0) (ad_tc 0) ht ++ (uw_Out ad_ot cA_ot (vp_updL ot (0 : Int32).toNatClampNeg au1.1.toInt64) ++ (uw_Reader ad_rd cA_rd au1.2))) H := hP
    have hD : va_D A (uw_HT ad_ht cA_ht (ad_rd 0) (ad_sp 0) (ad_mx 0) (ad_ar 0) (ad_tb 0) (ad_tc 0) ht ++ (uw_Out ad_ot cA_ot (vp_updL ot (0 : Int32).toNatClampNeg au1.1.toInt64) ++ (uw_Reader ad_rd cA_rd au1.2))) := hD
    refine lv_goto (tgt := 22) hx hb d_Law_sign_11 (by decide) ?_
    refine lv_iconst (v := (0 : Int32)) hx hb d_Law_sign_22 (by decide) ?_
    exact ret (0 : Int32) ((vp_updL ot (0 : Int32).toNatClampNeg au1.1.toInt64), au1.2) H locs ls 23 d_Law_sign_23 (hf_e hf) hP hD hS
noncomputable def f_Law_read (ht : SHT) (ot : SOut) (rd : SReader) (sp : SSpeller) (mx : SMixture) (tc : STable) : Option (Int32 × SHT × SOut × SReader × SSpeller × SMixture × STable × Bool) :=
  (Option.bind (f_HT_read ht rd sp mx tc) fun u1 => Sum.elim (fun au1 =>
    (if inb (0 : Int32) 1 then
      (some ((0 : Int32), au1.2.1, (vp_updL ot (0 : Int32).toNatClampNeg au1.1.toInt64), au1.2.2.1, au1.2.2.2.1, au1.2.2.2.2.1, au1.2.2.2.2.2, true))
     else none)
   ) (fun bu1 =>
    (if bu1.1 = 2 then
      (some ((1 : Int32), bu1.2.1, ot, bu1.2.2.1, bu1.2.2.2.1, bu1.2.2.2.2.1, bu1.2.2.2.2.2, false))
     else
      none
     )
   ) u1)
set_option maxHeartbeats 4000000 in
set_option maxRecDepth 100000 in
theorem k_Law_read (l : Launch) (dC : Nat → ClassId) (dI : Nat → Nat → Nat) (ad_ht : Nat → Nat) (cA_ht : Nat → ClassId) (ad_ot : Nat → Nat) (cA_ot : Nat → ClassId) (ad_rd : Nat → Nat) (cA_rd : Nat → ClassId) (ad_sp : Nat → Nat) (cA_sp : Nat → ClassId) (ad_mx : Nat → Nat) (cA_mx : Nat → ClassId) (ad_tc : Nat → Nat) (cA_tc : Nat → ClassId) (ad_ar : Nat → Nat) (cA_ar : Nat → ClassId) (ad_tb : Nat → Nat) (cA_tb : Nat → ClassId) (sz : Nat) (ht : SHT) (ot : SOut) (rd : SReader) (sp : SSpeller) (mx : SMixture) (tc : STable) (res : Int32 × SHT × SOut × SReader × SSpeller × SMixture × STable × Bool) (hf : f_Law_read ht ot rd sp mx tc = some res) (htr : l.stackTraces = false) : Met l y_Law_read w_Law_read ({ frames := 7, cells := 1, slots := 6, locals := 160 }) (lPc (dC, dI) (uw_HT ad_ht cA_ht (ad_rd 0) (ad_sp 0) (ad_mx 0) (ad_ar 0) (ad_tb 0) (ad_tc 0) ht ++ (uw_Out ad_ot cA_ot ot ++ (uw_Reader ad_rd cA_rd rd ++ (uw_Speller ad_sp cA_sp sp ++ (uw_Mixture ad_mx cA_mx mx ++ (uw_Table ad_tc cA_tc tc)))))) [(cA_ht 1, .int), (cA_ot 1, .long), (cA_rd 1, .int), (cA_sp 1, .int), (cA_sp 2, .int), (cA_sp 3, .int), (cA_sp 4, .int), (cA_mx 1, .int), (cA_mx 2, .int), (cA_mx 3, .boolean), (cA_tc 1, .int), (cA_tc 2, .int), (cA_tc 3, .int), (cA_tc 4, .byte)] sz [.ref (ad_ht 0), .ref (ad_ot 1)]) (va_Qi (fun (r : Int32) (u : SHT × SOut × SReader × SSpeller × SMixture × STable × Bool) => r = res.1 ∧ u = res.2) (fun (u : SHT × SOut × SReader × SSpeller × SMixture × STable × Bool) (t : State) => va_P (dC, dI) vwCl (uw_HT ad_ht cA_ht (ad_rd 0) (ad_sp 0) (ad_mx 0) (ad_ar 0) (bif u.2.2.2.2.2.2 then ad_tc 0 else ad_tb 0) (bif u.2.2.2.2.2.2 then ad_tb 0 else ad_tc 0) u.1 ++ (uw_Out ad_ot cA_ot u.2.1 ++ (uw_Reader ad_rd cA_rd u.2.2.1 ++ (uw_Speller ad_sp cA_sp u.2.2.2.1 ++ (uw_Mixture ad_mx cA_mx u.2.2.2.2.1 ++ (uw_Table ad_tc cA_tc u.2.2.2.2.2.1)))))) t.heap ∧ va_K (dC, dI) vwCl [(cA_ht 1, .int), (cA_ot 1, .long), (cA_rd 1, .int), (cA_sp 1, .int), (cA_sp 2, .int), (cA_sp 3, .int), (cA_sp 4, .int), (cA_mx 1, .int), (cA_mx 2, .int), (cA_mx 3, .boolean), (cA_tc 1, .int), (cA_tc 2, .int), (cA_tc 3, .int), (cA_tc 4, .byte)] t ∧ va_D (va_A (uw_HT ad_ht cA_ht (ad_rd 0) (ad_sp 0) (ad_mx 0) (ad_ar 0) (ad_tb 0) (ad_tc 0) ht ++ (uw_Out ad_ot cA_ot ot ++ (uw_Reader ad_rd cA_rd rd ++ (uw_Speller ad_sp cA_sp sp ++ (uw_Mixture ad_mx cA_mx mx ++ (uw_Table ad_tc cA_tc tc)))))) sz) (uw_HT ad_ht cA_ht (ad_rd 0) (ad_sp 0) (ad_mx 0) (ad_ar 0) (bif u.2.2.2.2.2.2 then ad_tc 0 else ad_tb 0) (bif u.2.2.2.2.2.2 then ad_tb 0 else ad_tc 0) u.1 ++ (uw_Out ad_ot cA_ot u.2.1 ++ (uw_Reader ad_rd cA_rd u.2.2.1 ++ (uw_Speller ad_sp cA_sp u.2.2.2.1 ++ (uw_Mixture ad_mx cA_mx u.2.2.2.2.1 ++ (uw_Table ad_tc cA_tc u.2.2.2.2.2.1))))))) (va_A (uw_HT ad_ht cA_ht (ad_rd 0) (ad_sp 0) (ad_mx 0) (ad_ar 0) (ad_tb 0) (ad_tc 0) ht ++ (uw_Out ad_ot cA_ot ot ++ (uw_Reader ad_rd cA_rd rd ++ (uw_Speller ad_sp cA_sp sp ++ (uw_Mixture ad_mx cA_mx mx ++ (uw_Table ad_tc cA_tc tc)))))) sz)) 1 6 (va_A (uw_HT ad_ht cA_ht (ad_rd 0) (ad_sp 0) (ad_mx 0) (ad_ar 0) (ad_tb 0) (ad_tc 0) ht ++ (uw_Out ad_ot cA_ot ot ++ (uw_Reader ad_rd cA_rd rd ++ (uw_Speller ad_sp cA_sp sp ++ (uw_Mixture ad_mx cA_mx mx ++ (uw_Table ad_tc cA_tc tc)))))) sz) := by
  refine met_ofWH (hh := [(0, 8, 11, 21)]) (cc := b_Law_read) (maxL := 3) (ret := (some .int)) (by decide) rfl ?_
  intro p e s m args below meth c s₁ B hml hv
  obtain ⟨rfl, hsz, hP, hK, hD0, hN, hX, hnc⟩ := hv
  have hx := B.exec
  have hb := B.bytes
  have hr := B.returns
  have hts := atoms_spec (ws := w_Law_read) B.pre
  have hown : s.vm.findClass "HazardTablesLaw" = some m.cls := findClass_of_methodNamed B.named
  have hlocks := B.notSynchronized
  have htab : c.exceptionTable.toList = [⟨0, 8, 11, 21⟩] := vx_table (x := y_Law_read) B (hts _ List.mem_cons_self)
  subst hsz
  have hD := hD0.self (sz := s.heap.size)
  generalize hAe : va_A (uw_HT ad_ht cA_ht (ad_rd 0) (ad_sp 0) (ad_mx 0) (ad_ar 0) (ad_tb 0) (ad_tc 0) ht ++ (uw_Out ad_ot cA_ot ot ++ (uw_Reader ad_rd cA_rd rd ++ (uw_Speller ad_sp cA_sp sp ++ (uw_Mixture ad_mx cA_mx mx ++ (uw_Table ad_tc cA_tc tc)))))) s.heap.size = A at hD hX ⊢
  have hA : ∀ q : Nat, s.heap.size ≤ q → A q := fun q h => by rw [← hAe]; exact Or.inr h
  have hS : va_S A s.heap s.heap [] := va_S.rf
  have hP : va_P (dC, dI) vwCl (uw_HT ad_ht cA_ht (ad_rd 0) (ad_sp 0) (ad_mx 0) (ad_ar 0) (ad_tb 0) (ad_tc 0) ht ++ (uw_Out ad_ot cA_ot ot ++ (uw_Reader ad_rd cA_rd rd ++ (uw_Speller ad_sp cA_sp sp ++ (uw_Mixture ad_mx cA_mx mx ++ (uw_Table ad_tc cA_tc tc)))))) s.heap := hP
  have ret : ∀ (v : Int32) (u : SHT × SOut × SReader × SSpeller × SMixture × STable × Bool) (H : Heap) (locs : List Loc) (ls : Array Slot) (pc : Nat), decode b_Law_read pc = .ok (.ireturn, 1) → (v = res.1 ∧ u = res.2) → va_P (dC, dI) vwCl (uw_HT ad_ht cA_ht (ad_rd 0) (ad_sp 0) (ad_mx 0) (ad_ar 0) (bif u.2.2.2.2.2.2 then ad_tc 0 else ad_tb 0) (bif u.2.2.2.2.2.2 then ad_tb 0 else ad_tc 0) u.1 ++ (uw_Out ad_ot cA_ot u.2.1 ++ (uw_Reader ad_rd cA_rd u.2.2.1 ++ (uw_Speller ad_sp cA_sp u.2.2.2.1 ++ (uw_Mixture ad_mx cA_mx u.2.2.2.2.1 ++ (uw_Table ad_tc cA_tc u.2.2.2.2.2.1)))))) H → va_D A (uw_HT ad_ht cA_ht (ad_rd 0) (ad_sp 0) (ad_mx 0) (ad_ar 0) (bif u.2.2.2.2.2.2 then ad_tc 0 else ad_tb 0) (bif u.2.2.2.2.2.2 then ad_tb 0 else ad_tc 0) u.1 ++ (uw_Out ad_ot cA_ot u.2.1 ++ (uw_Reader ad_rd cA_rd u.2.2.1 ++ (uw_Speller ad_sp cA_sp u.2.2.2.1 ++ (uw_Mixture ad_mx cA_mx u.2.2.2.2.1 ++ (uw_Table ad_tc cA_tc u.2.2.2.2.2.1)))))) → va_S A s.heap H locs → W p l e (headSpec w_Law_read ({ frames := 7, cells := 1, slots := 6, locals := 160 })).room s m ([.ref (ad_ht 0), .ref (ad_ot 1)] : List Value).toArray below meth c H locs 1 6 (MQ below (va_Qi (fun (r : Int32) (u : SHT × SOut × SReader × SSpeller × SMixture × STable × Bool) => r = res.1 ∧ u = res.2) (fun (u : SHT × SOut × SReader × SSpeller × SMixture × STable × Bool) (t : State) => va_P (dC, dI) vwCl (uw_HT ad_ht cA_ht (ad_rd 0) (ad_sp 0) (ad_mx 0) (ad_ar 0) (bif u.2.2.2.2.2.2 then ad_tc 0 else ad_tb 0) (bif u.2.2.2.2.2.2 then ad_tb 0 else ad_tc 0) u.1 ++ (uw_Out ad_ot cA_ot u.2.1 ++ (uw_Reader ad_rd cA_rd u.2.2.1 ++ (uw_Speller ad_sp cA_sp u.2.2.2.1 ++ (uw_Mixture ad_mx cA_mx u.2.2.2.2.1 ++ (uw_Table ad_tc cA_tc u.2.2.2.2.2.1)))))) t.heap ∧ va_K (dC, dI) vwCl [(cA_ht 1, .int), (cA_ot 1, .long), (cA_rd 1, .int), (cA_sp 1, .int), (cA_sp 2, .int), (cA_sp 3, .int), (cA_sp 4, .int), (cA_mx 1, .int), (cA_mx 2, .int), (cA_mx 3, .boolean), (cA_tc 1, .int), (cA_tc 2, .int), (cA_tc 3, .int), (cA_tc 4, .byte)] t ∧ va_D A (uw_HT ad_ht cA_ht (ad_rd 0) (ad_sp 0) (ad_mx 0) (ad_ar 0) (bif u.2.2.2.2.2.2 then ad_tc 0 else ad_tb 0) (bif u.2.2.2.2.2.2 then ad_tb 0 else ad_tc 0) u.1 ++ (uw_Out ad_ot cA_ot u.2.1 ++ (uw_Reader ad_rd cA_rd u.2.2.1 ++ (uw_Speller ad_sp cA_sp u.2.2.2.1 ++ (uw_Mixture ad_mx cA_mx u.2.2.2.2.1 ++ (uw_Table ad_tc cA_tc u.2.2.2.2.2.1))))))) A) ([.ref (ad_ht 0), .ref (ad_ot 1)] : List Value).toArray s 1 6 A) (F0 m pc ls [.int v]) := fun v u H locs ls pc hd hp hP hD hS => W.iret (v := v) hx hb hr (fun t ht hW => ⟨⟨v, u, rfl, hp, by rw [ht]; exact hP, va_K.moved hW.alike hK, hD⟩, hS.F ht⟩) hS.2.2 hd
  generalize (MQ below (va_Qi (fun (r : Int32) (u : SHT × SOut × SReader × SSpeller × SMixture × STable × Bool) => r = res.1 ∧ u = res.2) (fun (u : SHT × SOut × SReader × SSpeller × SMixture × STable × Bool) (t : State) => va_P (dC, dI) vwCl (uw_HT ad_ht cA_ht (ad_rd 0) (ad_sp 0) (ad_mx 0) (ad_ar 0) (bif u.2.2.2.2.2.2 then ad_tc 0 else ad_tb 0) (bif u.2.2.2.2.2.2 then ad_tb 0 else ad_tc 0) u.1 ++ (uw_Out ad_ot cA_ot u.2.1 ++ (uw_Reader ad_rd cA_rd u.2.2.1 ++ (uw_Speller ad_sp cA_sp u.2.2.2.1 ++ (uw_Mixture ad_mx cA_mx u.2.2.2.2.1 ++ (uw_Table ad_tc cA_tc u.2.2.2.2.2.1)))))) t.heap ∧ va_K (dC, dI) vwCl [(cA_ht 1, .int), (cA_ot 1, .long), (cA_rd 1, .int), (cA_sp 1, .int), (cA_sp 2, .int), (cA_sp 3, .int), (cA_sp 4, .int), (cA_mx 1, .int), (cA_mx 2, .int), (cA_mx 3, .boolean), (cA_tc 1, .int), (cA_tc 2, .int), (cA_tc 3, .int), (cA_tc 4, .byte)] t ∧ va_D A (uw_HT ad_ht cA_ht (ad_rd 0) (ad_sp 0) (ad_mx 0) (ad_ar 0) (bif u.2.2.2.2.2.2 then ad_tc 0 else ad_tb 0) (bif u.2.2.2.2.2.2 then ad_tb 0 else ad_tc 0) u.1 ++ (uw_Out ad_ot cA_ot u.2.1 ++ (uw_Reader ad_rd cA_rd u.2.2.1 ++ (uw_Speller ad_sp cA_sp u.2.2.2.1 ++ (uw_Mixture ad_mx cA_mx u.2.2.2.2.1 ++ (uw_Table ad_tc cA_tc u.2.2.2.2.2.1))))))) A) ([.ref (ad_ht 0), .ref (ad_ot 1)] : List Value).toArray s 1 6 A) = Q at ret ⊢
  have hl := lv_entry ([.ref (ad_ht 0), .ref (ad_ot 1)]) (n := 3) (Nat.le_of_ble_eq_true rfl)
  rw [lg_entry_eq]
  generalize (lg_sl ([.ref (ad_ht 0), .ref (ad_ot 1)]) ++ List.replicate (3 - (lg_sl ([.ref (ad_ht 0), .ref (ad_ot 1)])).length) Slot.unset).toArray = ls at hl ⊢
  have hl : lv_has ls 3 [(0, .ref (ad_ht 0)), (1, .ref (ad_ot 1))] := hl
  have hf := hf
  rw [f_Law_read] at hf
  obtain ⟨H, hH⟩ : ∃ H : Heap, H = s.heap := ⟨_, rfl⟩
  obtain ⟨locs, hlocs⟩ : ∃ L : List Loc, L = [] := ⟨_, rfl⟩
  have hP : va_P (dC, dI) vwCl (uw_HT ad_ht cA_ht (ad_rd 0) (ad_sp 0) (ad_mx 0) (ad_ar 0) (ad_tb 0) (ad_tc 0) ht ++ (uw_Out ad_ot cA_ot ot ++ (uw_Reader ad_rd cA_rd rd ++ (uw_Speller ad_sp cA_sp sp ++ (uw_Mixture ad_mx cA_mx mx ++ (uw_Table ad_tc cA_tc tc)))))) H := by rw [hH]; exact hP
  have hS : va_S A s.heap H locs := by rw [hH, hlocs]; exact hS
  show W p l e (headSpec w_Law_read ({ frames := 7, cells := 1, slots := 6, locals := 160 })).room s m ([.ref (ad_ht 0), .ref (ad_ot 1)] : List Value).toArray below meth c s.heap [] 0 0 Q (F0 m 0 ls [])
  suffices hgo : W p l e (headSpec w_Law_read ({ frames := 7, cells := 1, slots := 6, locals := 160 })).room s m ([.ref (ad_ht 0), .ref (ad_ot 1)] : List Value).toArray below meth c H locs 0 0 Q (F0 m 0 ls []) by rw [hH, hlocs] at hgo; exact hgo
  clear hH hlocs
  refine lv_aload_n hx hb d_Law_read_0 rfl (lv_at hl 1 rfl) ?_
  refine lv_iconst (v := (0 : Int32)) hx hb d_Law_read_1 (by decide) ?_
  refine lv_aload_n hx hb d_Law_read_2 rfl (lv_at hl 0 rfl) ?_
  obtain ⟨u1, hu1, hf⟩ := Option.bind_eq_some_iff.mp hf
  refine cx_i (wc := (uw_HT ad_ht cA_ht (ad_rd 0) (ad_sp 0) (ad_mx 0) (ad_ar 0) (ad_tb 0) (ad_tc 0) ht ++ (uw_Reader ad_rd cA_rd rd ++ (uw_Speller ad_sp cA_sp sp ++ (uw_Mixture ad_mx cA_mx mx ++ (uw_Table ad_tc cA_tc tc)))))) (wr := (uw_Out ad_ot cA_ot ot)) (tysC := [(cA_ht 1, .int), (cA_rd 1, .int), (cA_sp 1, .int), (cA_sp 2, .int), (cA_sp 3, .int), (cA_sp 4, .int), (cA_mx 1, .int), (cA_mx 2, .int), (cA_mx 3, .boolean), (cA_tc 1, .int), (cA_tc 2, .int), (cA_tc 3, .int), (cA_tc 4, .byte)]) (wu := fun (u : SHT × SReader × SSpeller × SMixture × STable) => (uw_HT ad_ht cA_ht (ad_rd 0) (ad_sp 0) (ad_mx 0) (ad_ar 0) (ad_tc 0) (ad_tb 0) u.1 ++ (uw_Reader ad_rd cA_rd u.2.1 ++ (uw_Speller ad_sp cA_sp u.2.2.1 ++ (uw_Mixture ad_mx cA_mx u.2.2.2.1 ++ (uw_Table ad_tc cA_tc u.2.2.2.2)))))) (wn := fun (u : SHT × SReader × SSpeller × SMixture × STable) => (uw_HT ad_ht cA_ht (ad_rd 0) (ad_sp 0) (ad_mx 0) (ad_ar 0) (ad_tc 0) (ad_tb 0) u.1 ++ (uw_Out ad_ot cA_ot ot ++ (uw_Reader ad_rd cA_rd u.2.1 ++ (uw_Speller ad_sp cA_sp u.2.2.1 ++ (uw_Mixture ad_mx cA_mx u.2.2.2.1 ++ (uw_Table ad_tc cA_tc u.2.2.2.2))))))) (wux := fun (u : SHT × SReader × SSpeller × SMixture × STable) => (uw_HT ad_ht cA_ht (ad_rd 0) (ad_sp 0) (ad_mx 0) (ad_ar 0) (ad_tb 0) (ad_tc 0) u.1 ++ (uw_Reader ad_rd cA_rd u.2.1 ++ (uw_Speller ad_sp cA_sp u.2.2.1 ++ (uw_Mixture ad_mx cA_mx u.2.2.2.1 ++ (uw_Table ad_tc cA_tc u.2.2.2.2)))))) (wnx := fun (u : SHT × SReader × SSpeller × SMixture × STable) => (uw_HT ad_ht cA_ht (ad_rd 0) (ad_sp 0) (ad_mx 0) (ad_ar 0) (ad_tb 0) (ad_tc 0) u.1 ++ (uw_Out ad_ot cA_ot ot ++ (uw_Reader ad_rd cA_rd u.2.1 ++ (uw_Speller ad_sp cA_sp u.2.2.1 ++ (uw_Mixture ad_mx cA_mx u.2.2.2.1 ++ (uw_Table ad_tc cA_tc u.2.2.2.2))))))) [0, 1, 3, 4, 5, 6, 7, 8, 9, 10, 11, 12, 13, 14, 15, 16, 17, 18] [2] [1, 2, 0, 3, 4, 5, 6, 7, 8, 9, 10, 11, 12, 13, 14, 15, 16, 17, 18] [0, 2, 3, 4, 5, 6, 7, 8, 9, 10, 11, 12, 13] hP hD hS hA hK rfl rfl (by decide +kernel) (by decide +kernel) (by decide +kernel) rfl (fun _ => rfl) (fun _ => rfl) (by decide +kernel) (fun hPc hKc hDc hFc => (vx_runV (As := []) (rest := [.int (0 : Int32), .ref (ad_ot 1)]) ⟨hx, hb, hml, hown, hts⟩ (k_HT_read l dC dI ad_ht cA_ht ad_rd cA_rd ad_sp cA_sp ad_mx cA_mx ad_tc cA_tc ad_ar cA_ar ad_tb cA_tb H.size ht rd sp mx tc u1 hu1 htr) (cwV 0 hts (gV wd_346 wd_347 wd_348 wd_43 wd_349) rfl rfl rfl (by decide +kernel) ⟨Nat.le_of_ble_eq_true rfl, Nat.le_of_ble_eq_true rfl⟩) (cx_preV hPc hKc hDc hN (fun U hU hW => xAll_at hX hS hFc hU hW) (ci := 5) 0 rfl rfl) rfl rfl hl.1 rfl (lv_room (Nat.le_of_ble_eq_true rfl)) d_Law_read_3 ⟨Nat.le_of_ble_eq_true rfl, Nat.le_of_ble_eq_true rfl⟩)) (fun E ce q9 u H locs hw hE hP hD hS hce hcv hcl => ?_) (fun r u H locs hw hP hD hS => ?_)
  · obtain ⟨bu1, rfl⟩ : ∃ z, z = u := ⟨_, rfl⟩
    subst hw
    have hf := hf_r hf
    have hP : va_P (dC, dI) vwCl (uw_HT ad_ht cA_ht (ad_rd 0) (ad_sp 0) (ad_mx 0) (ad_ar 0) (ad_tb 0) (ad_tc 0) bu1.2.1 ++ (uw_Out ad_ot cA_ot ot ++ (uw_Reader ad_rd cA_rd bu1.2.2.1 ++ (uw_Speller ad_sp cA_sp bu1.2.2.2.1 ++ (uw_Mixture ad_mx cA_mx bu1.2.2.2.2.1 ++ (uw_Table ad_tc cA_tc bu1.2.2.2.2.2)))))) H := hP
    have hD : va_D A (uw_HT ad_ht cA_ht (ad_rd 0) (ad_sp 0) (ad_mx 0) (ad_ar 0) (ad_tb 0) (ad_tc 0) bu1.2.1 ++ (uw_Out ad_ot cA_ot ot ++ (uw_Reader ad_rd cA_rd bu1.2.2.1 ++ (uw_Speller ad_sp cA_sp bu1.2.2.2.1 ++ (uw_Mixture ad_mx cA_mx bu1.2.2.2.2.1 ++ (uw_Table ad_tc cA_tc bu1.2.2.2.2.2)))))) := hD
    by_cases hc2 : bu1.1 = 2
    · have hf := hf_t hf hc2
      have hE : E = "java/lang/IllegalStateException" := by rw [hE, hc2]; rfl
      subst hE
      refine vx_catch (own := "HazardTablesLaw") (name := "java/lang/IllegalStateException") (E := "java/lang/IllegalStateException") hown [] ⟨0, 8, 11, 21⟩ [] htab (fun z hz => absurd hz List.not_mem_nil) (by decide) (by decide) (hts _ (List.mem_cons_of_mem _ wd_345)) (va_Nw.use rfl (hX.2.2.2 (.castable "java/lang/IllegalStateException" "java/lang/IllegalStateException") (by decide))) hce hcv hcl ?_
      refine lv_astore_n (lv' := [(2, .ref q9), (0, .ref (ad_ht 0)), (1, .ref (ad_ot 1))]) hx hb d_Law_read_11 rfl hl (by decide) rfl (fun ls hl => ?_)
      refine lv_iconst (v := (1 : Int32)) hx hb d_Law_read_12 (by decide) ?_
      exact ret (1 : Int32) (bu1.2.1, ot, bu1.2.2.1, bu1.2.2.2.1, bu1.2.2.2.2.1, bu1.2.2.2.2.2, false) H locs ls 13 d_Law_read_13 (hf_e hf) hP hD hS
    have hf := hf_f hf hc2
    exact nomatch hf
  · obtain ⟨au1, rfl, rfl⟩ : ∃ z : Int32 × (SHT × SReader × SSpeller × SMixture × STable), r = z.1 ∧ u = z.2 := ⟨(r, u), rfl, rfl⟩
    have hw : u1 = .inl au1 := hw
    subst hw
    have hf := hf_l hf
    have hP : va_P (dC, dI) vwCl (uw_HT ad_ht cA_ht (ad_rd 0) (ad_sp 0) (ad_mx 0) (ad_ar 0) (ad_tc 0) (ad_tb 0) au1.2.1 ++ (uw_Out ad_ot cA_ot ot ++ (uw_Reader ad_rd cA_rd au1.2.2.1 ++ (uw_Speller ad_sp cA_sp au1.2.2.2.1 ++ (uw_Mixture ad_mx cA_mx au1.2.2.2.2.1 ++ (uw_Table ad_tc cA_tc au1.2.2.2.2.2)))))) H := hP
    have hD : va_D A (uw_HT ad_ht cA_ht (ad_rd 0) (ad_sp 0) (ad_mx 0) (ad_ar 0) (ad_tc 0) (ad_tb 0) au1.2.1 ++ (uw_Out ad_ot cA_ot ot ++ (uw_Reader ad_rd cA_rd au1.2.2.1 ++ (uw_Speller ad_sp cA_sp au1.2.2.2.1 ++ (uw_Mixture ad_mx cA_mx au1.2.2.2.2.1 ++ (uw_Table ad_tc cA_tc au1.2.2.2.2.2)))))) := hD
    refine lv_i2l (v := au1.1.toInt64) hx hb d_Law_read_6 rfl ?_
    obtain ⟨hi3, hf⟩ := hf_g hf
    refine va_last hx hb hK hP hD hS 2 1 rfl rfl hi3 d_Law_read_7 (fun H locs hP hD hS => ?_)
    have hP : va_P (dC, dI) vwCl (uw_HT ad_ht cA_ht (ad_rd 0) (ad_sp 0) (ad_mx 0) (ad_ar 0) (ad_tc 0) (ad_tb 0) au1.2.1 ++ (uw_Out ad_ot cA_ot (vp_updL ot (0 : Int32).toNatClampNeg au1.1.toInt64) ++ (uw_Reader ad_rd cA_rd au1.2.2.1 ++ (uw_Speller ad_sp cA_sp au1.2.2.2.1 ++ (uw_Mixture ad_mx cA_mx au1.2.2.2.2.1 ++ (uw_Table ad_tc cA_tc au1.2.2.2.2.2)))))) H := hP
    have hD : va_D A (uw_HT ad_ht cA_ht (ad_rd 0) (ad_sp 0) (ad_mx 0) (ad_ar 0) (ad_tc 0) (ad_tb 0) au1.2.1 ++ (uw_Out ad_ot cA_ot (vp_updL ot (0 : Int32).toNatClampNeg au1.1.toInt64) ++ (uw_Reader ad_rd cA_rd au1.2.2.1 ++ (uw_Speller ad_sp cA_sp au1.2.2.2.1 ++ (uw_Mixture ad_mx cA_mx au1.2.2.2.2.1 ++ (uw_Table ad_tc cA_tc au1.2.2.2.2.2)))))) := hD
    refine lv_goto (tgt := 14) hx hb d_Law_read_8 (by decide) ?_
    refine lv_iconst (v := (0 : Int32)) hx hb d_Law_read_14 (by decide) ?_
    exact ret (0 : Int32) (au1.2.1, (vp_updL ot (0 : Int32).toNatClampNeg au1.1.toInt64), au1.2.2.1, au1.2.2.2.1, au1.2.2.2.2.1, au1.2.2.2.2.2, true) H locs ls 15 d_Law_read_15 (hf_e hf) hP hD hS
noncomputable def f_Law_material (ht : SHT) (ot : SOut) (tb : STable) (x1 : Int32) (x2 : Int32) : Option (Int32 × SOut) :=
  (Option.bind (f_HT_material ht tb x1 x2) fun u1 => Sum.elim (fun au1 =>
    (if inb (0 : Int32) 1 then
      (some ((0 : Int32), (vp_updL ot (0 : Int32).toNatClampNeg au1.toInt64)))
     else none)
   ) (fun bu1 =>
    (if bu1.1 = 0 then
      (some ((1 : Int32), ot))
     else
      none
     )
   ) u1)
set_option maxHeartbeats 4000000 in
set_option maxRecDepth 100000 in
theorem k_Law_material (l : Launch) (dC : Nat → ClassId) (dI : Nat → Nat → Nat) (ad_ht : Nat → Nat) (cA_ht : Nat → ClassId) (ad_ot : Nat → Nat) (cA_ot : Nat → ClassId) (ad_tb : Nat → Nat) (cA_tb : Nat → ClassId) (ad_rd : Nat → Nat) (cA_rd : Nat → ClassId) (ad_sp : Nat → Nat) (cA_sp : Nat → ClassId) (ad_mx : Nat → Nat) (cA_mx : Nat → ClassId) (ad_ar : Nat → Nat) (cA_ar : Nat → ClassId) (ad_tc : Nat → Nat) (cA_tc : Nat → ClassId) (sz : Nat) (ht : SHT) (ot : SOut) (tb : STable) (x1 : Int32) (x2 : Int32) (res : Int32 × SOut) (hf : f_Law_material ht ot tb x1 x2 = some res) (htr : l.stackTraces = false) : Met l y_Law_material w_Law_material ({ frames := 7, cells := 1, slots := 6, locals := 105 }) (lPc (dC, dI) (uw_HT ad_ht cA_ht (ad_rd 0) (ad_sp 0) (ad_mx 0) (ad_ar 0) (ad_tb 0) (ad_tc 0) ht ++ (uw_Out ad_ot cA_ot ot ++ (uw_Table ad_tb cA_tb tb))) [(cA_ht 1, .int), (cA_ot 1, .long), (cA_tb 1, .int), (cA_tb 2, .int), (cA_tb 3, .int), (cA_tb 4, .byte)] sz [.ref (ad_ht 0), .int x1, .int x2, .ref (ad_ot 1)]) (va_Qi (fun (r : Int32) (u : SOut) => r = res.1 ∧ u = res.2) (fun (u : SOut) (t : State) => va_P (dC, dI) vwCl (uw_HT ad_ht cA_ht (ad_rd 0) (ad_sp 0) (ad_mx 0) (ad_ar 0) (ad_tb 0) (ad_tc 0) ht ++ (uw_Out ad_ot cA_ot u ++ (uw_Table ad_tb cA_tb tb))) t.heap ∧ va_K (dC, dI) vwCl [(cA_ht 1, .int), (cA_ot 1, .long), (cA_tb 1, .int), (cA_tb 2, .int), (cA_tb 3, .int), (cA_tb 4, .byte)] t ∧ va_D (va_A (uw_HT ad_ht cA_ht (ad_rd 0) (ad_sp 0) (ad_mx 0) (ad_ar 0) (ad_tb 0) (ad_tc 0) ht ++ (uw_Out ad_ot cA_ot ot ++ (uw_Table ad_tb cA_tb tb))) sz) (uw_HT ad_ht cA_ht (ad_rd 0) (ad_sp 0) (ad_mx 0) (ad_ar 0) (ad_tb 0) (ad_tc 0) ht ++ (uw_Out ad_ot cA_ot u ++ (uw_Table ad_tb cA_tb tb)))) (va_A (uw_HT ad_ht cA_ht (ad_rd 0) (ad_sp 0) (ad_mx 0) (ad_ar 0) (ad_tb 0) (ad_tc 0) ht ++ (uw_Out ad_ot cA_ot ot ++ (uw_Table ad_tb cA_tb tb))) sz)) 1 6 (va_A (uw_HT ad_ht cA_ht (ad_rd 0) (ad_sp 0) (ad_mx 0) (ad_ar 0) (ad_tb 0) (ad_tc 0) ht ++ (uw_Out ad_ot cA_ot ot ++ (uw_Table ad_tb cA_tb tb))) sz) := by
  refine met_ofWH (hh := [(0, 10, 13, 27)]) (cc := b_Law_material) (maxL := 5) (ret := (some .int)) (by decide) rfl ?_
  intro p e s m args below meth c s₁ B hml hv
  obtain ⟨rfl, hsz, hP, hK, hD0, hN, hX, hnc⟩ := hv
  have hx := B.exec
  have hb := B.bytes
  have hr := B.returns
  have hts := atoms_spec (ws := w_Law_material) B.pre
  have hown : s.vm.findClass "HazardTablesLaw" = some m.cls := findClass_of_methodNamed B.named
  have hlocks := B.notSynchronized
  have htab : c.exceptionTable.toList = [⟨0, 10, 13, 27⟩] := vx_table (x := y_Law_material) B (hts _ List.mem_cons_self)
  subst hsz
  have hD := hD0.self (sz := s.heap.size)
  generalize hAe : va_A (uw_HT ad_ht cA_ht (ad_rd 0) (ad_sp 0) (ad_mx 0) (ad_ar 0) (ad_tb 0) (ad_tc 0) ht ++ (uw_Out ad_ot cA_ot ot ++ (uw_Table ad_tb cA_tb tb))) s.heap.size = A at hD hX ⊢
  have hA : ∀ q : Nat, s.heap.size ≤ q → A q := fun q h => by rw [← hAe]; exact Or.inr h
  have hS : va_S A s.heap s.heap [] := va_S.rf
  have hP : va_P (dC, dI) vwCl (uw_HT ad_ht cA_ht (ad_rd 0) (ad_sp 0) (ad_mx 0) (ad_ar 0) (ad_tb 0) (ad_tc 0) ht ++ (uw_Out ad_ot cA_ot ot ++ (uw_Table ad_tb cA_tb tb))) s.heap := hP
  have ret : ∀ (v : Int32) (u : SOut) (H : Heap) (locs : List Loc) (ls : Array Slot) (pc : Nat), decode b_Law_material pc = .ok (.ireturn, 1) → (v = res.1 ∧ u = res.2) → va_P (dC, dI) vwCl (uw_HT ad_ht cA_ht (ad_rd 0) (ad_sp 0) (ad_mx 0) (ad_ar 0) (ad_tb 0) (ad_tc 0) ht ++ (uw_Out ad_ot cA_ot u ++ (uw_Table ad_tb cA_tb tb))) H → va_D A (uw_HT ad_ht cA_ht (ad_rd 0) (ad_sp 0) (ad_mx 0) (ad_ar 0) (ad_tb 0) (ad_tc 0) ht ++ (uw_Out ad_ot cA_ot u ++ (uw_Table ad_tb cA_tb tb))) → va_S A s.heap H locs → W p l e (headSpec w_Law_material ({ frames := 7, cells := 1, slots := 6, locals := 105 })).room s m ([.ref (ad_ht 0), .int x1, .int x2, .ref (ad_ot 1)] : List Value).toArray below meth c H locs 1 6 (MQ below (va_Qi (fun (r : Int32) (u : SOut) => r = res.1 ∧ u = res.2) (fun (u : SOut) (t : State) => va_P (dC, dI) vwCl (uw_HT ad_ht cA_ht (ad_rd 0) (ad_sp 0) (ad_mx 0) (ad_ar 0) (ad_tb 0) (ad_tc 0) ht ++ (uw_Out ad_ot cA_ot u ++ (uw_Table ad_tb cA_tb tb))) t.heap ∧ va_K (dC, dI) vwCl [(cA_ht 1, .int), (cA_ot 1, .long), (cA_tb 1, .int), (cA_tb 2, .int), (cA_tb 3, .int), (cA_tb 4, .byte)] t ∧ va_D A (uw_HT ad_ht cA_ht (ad_rd 0) (ad_sp 0) (ad_mx 0) (ad_ar 0) (ad_tb 0) (ad_tc 0) ht ++ (uw_Out ad_ot cA_ot u ++ (uw_Table ad_tb cA_tb tb)))) A) ([.ref (ad_ht 0), .int x1, .int x2, .ref (ad_ot 1)] : List Value).toArray s 1 6 A) (F0 m pc ls [.int v]) := fun v u H locs ls pc hd hp hP hD hS => W.iret (v := v) hx hb hr (fun t ht hW => ⟨⟨v, u, rfl, hp, by rw [ht]; exact hP, va_K.moved hW.alike hK, hD⟩, hS.F ht⟩) hS.2.2 hd
  generalize (MQ below (va_Qi (fun (r : Int32) (u : SOut) => r = res.1 ∧ u = res.2) (fun (u : SOut) (t : State) => va_P (dC, dI) vwCl (uw_HT ad_ht cA_ht (ad_rd 0) (ad_sp 0) (ad_mx 0) (ad_ar 0) (ad_tb 0) (ad_tc 0) ht ++ (uw_Out ad_ot cA_ot u ++ (uw_Table ad_tb cA_tb tb))) t.heap ∧ va_K (dC, dI) vwCl [(cA_ht 1, .int), (cA_ot 1, .long), (cA_tb 1, .int), (cA_tb 2, .int), (cA_tb 3, .int), (cA_tb 4, .byte)] t ∧ va_D A (uw_HT ad_ht cA_ht (ad_rd 0) (ad_sp 0) (ad_mx 0) (ad_ar 0) (ad_tb 0) (ad_tc 0) ht ++ (uw_Out ad_ot cA_ot u ++ (uw_Table ad_tb cA_tb tb)))) A) ([.ref (ad_ht 0), .int x1, .int x2, .ref (ad_ot 1)] : List Value).toArray s 1 6 A) = Q at ret ⊢
  have hl := lv_entry ([.ref (ad_ht 0), .int x1, .int x2, .ref (ad_ot 1)]) (n := 5) (Nat.le_of_ble_eq_true rfl)
  rw [lg_entry_eq]
  generalize (lg_sl ([.ref (ad_ht 0), .int x1, .int x2, .ref (ad_ot 1)]) ++ List.replicate (5 - (lg_sl ([.ref (ad_ht 0), .int x1, .int x2, .ref (ad_ot 1)])).length) Slot.unset).toArray = ls at hl ⊢
  have hl : lv_has ls 5 [(0, .ref (ad_ht 0)), (1, .int x1), (2, .int x2), (3, .ref (ad_ot 1))] := hl
  have hf := hf
  rw [f_Law_material] at hf
  obtain ⟨H, hH⟩ : ∃ H : Heap, H = s.heap := ⟨_, rfl⟩
  obtain ⟨locs, hlocs⟩ : ∃ L : List Loc, L = [] := ⟨_, rfl⟩
  have hP : va_P (dC, dI) vwCl (uw_HT ad_ht cA_ht (ad_rd 0) (ad_sp 0) (ad_mx 0) (ad_ar 0) (ad_tb 0) (ad_tc 0) ht ++ (uw_Out ad_ot cA_ot ot ++ (uw_Table ad_tb cA_tb tb))) H := by rw [hH]; exact hP
  have hS : va_S A s.heap H locs := by rw [hH, hlocs]; exact hS
  show W p l e (headSpec w_Law_material ({ frames := 7, cells := 1, slots := 6, locals := 105 })).room s m ([.ref (ad_ht 0), .int x1, .int x2, .ref (ad_ot 1)] : List Value).toArray below meth c s.heap [] 0 0 Q (F0 m 0 ls [])
  suffices hgo : W p l e (headSpec w_Law_material ({ frames := 7, cells := 1, slots := 6, locals := 105 })).room s m ([.ref (ad_ht 0), .int x1, .int x2, .ref (ad_ot 1)] : List Value).toArray below meth c H locs 0 0 Q (F0 m 0 ls []) by rw [hH, hlocs] at hgo; exact hgo
  clear hH hlocs
  refine lv_aload_n hx hb d_Law_material_0 rfl (lv_at hl 3 rfl) ?_
  refine lv_iconst (v := (0 : Int32)) hx hb d_Law_material_1 (by decide) ?_
  refine lv_aload_n hx hb d_Law_material_2 rfl (lv_at hl 0 rfl) ?_
  refine lv_iload_n hx hb d_Law_material_3 rfl (lv_at hl 1 rfl) ?_
  refine lv_iload_n hx hb d_Law_material_4 rfl (lv_at hl 2 rfl) ?_
  obtain ⟨u1, hu1, hf⟩ := Option.bind_eq_some_iff.mp hf
  refine cx_i (wc := (uw_HT ad_ht cA_ht (ad_rd 0) (ad_sp 0) (ad_mx 0) (ad_ar 0) (ad_tb 0) (ad_tc 0) ht ++ (uw_Table ad_tb cA_tb tb))) (wr := (uw_Out ad_ot cA_ot ot)) (tysC := [(cA_ht 1, .int), (cA_tb 1, .int), (cA_tb 2, .int), (cA_tb 3, .int), (cA_tb 4, .byte)]) (wu := fun (u : Unit) => (uw_HT ad_ht cA_ht (ad_rd 0) (ad_sp 0) (ad_mx 0) (ad_ar 0) (ad_tb 0) (ad_tc 0) ht ++ (uw_Table ad_tb cA_tb tb))) (wn := fun (u : Unit) => (uw_HT ad_ht cA_ht (ad_rd 0) (ad_sp 0) (ad_mx 0) (ad_ar 0) (ad_tb 0) (ad_tc 0) ht ++ (uw_Out ad_ot cA_ot ot ++ (uw_Table ad_tb cA_tb tb)))) (wux := fun (u : Unit) => (uw_HT ad_ht cA_ht (ad_rd 0) (ad_sp 0) (ad_mx 0) (ad_ar 0) (ad_tb 0) (ad_tc 0) ht ++ (uw_Table ad_tb cA_tb tb))) (wnx := fun (u : Unit) => (uw_HT ad_ht cA_ht (ad_rd 0) (ad_sp 0) (ad_mx 0) (ad_ar 0) (ad_tb 0) (ad_tc 0) ht ++ (uw_Out ad_ot cA_ot ot ++ (uw_Table ad_tb cA_tb tb)))) [0, 1, 3, 4, 5, 6, 7] [2] [1, 2, 0, 3, 4, 5, 6, 7] [0, 2, 3, 4, 5] hP hD hS hA hK rfl rfl (by decide +kernel) (by decide +kernel) (by decide +kernel) rfl (fun _ => rfl) (fun _ => rfl) (by decide +kernel) (fun hPc hKc hDc hFc => (vx_runV (As := [.int x1, .int x2]) (rest := [.int (0 : Int32), .ref (ad_ot 1)]) ⟨hx, hb, hml, hown, hts⟩ (k_HT_material l dC dI ad_ht cA_ht ad_tb cA_tb ad_rd cA_rd ad_sp cA_sp ad_mx cA_mx ad_ar cA_ar ad_tc cA_tc H.size ht tb x1 x2 u1 hu1 htr) (cwV 2 hts (gV wd_470 wd_471 wd_472 wd_43 wd_473) rfl rfl rfl (by decide +kernel) ⟨Nat.le_of_ble_eq_true rfl, Nat.le_of_ble_eq_true rfl⟩) (cx_preV hPc hKc hDc hN (fun U hU hW => xAll_at hX hS hFc hU hW) (ci := 5) 0 rfl rfl) rfl rfl hl.1 rfl (lv_room (Nat.le_of_ble_eq_true rfl)) d_Law_material_5 ⟨Nat.le_of_ble_eq_true rfl, Nat.le_of_ble_eq_true rfl⟩)) (fun E ce q9 u H locs hw hE hP hD hS hce hcv hcl => ?_) (fun r u H locs hw hP hD hS => ?_)
  · obtain ⟨bu1, rfl⟩ : ∃ z, z = u := ⟨_, rfl⟩
    subst hw
    have hf := hf_r hf
    have hP : va_P (dC, dI) vwCl (uw_HT ad_ht cA_ht (ad_rd 0) (ad_sp 0) (ad_mx 0) (ad_ar 0) (ad_tb 0) (ad_tc 0) ht ++ (uw_Out ad_ot cA_ot ot ++ (uw_Table ad_tb cA_tb tb))) H := hP
    have hD : va_D A (uw_HT ad_ht cA_ht (ad_rd 0) (ad_sp 0) (ad_mx 0) (ad_ar 0) (ad_tb 0) (ad_tc 0) ht ++ (uw_Out ad_ot cA_ot ot ++ (uw_Table ad_tb cA_tb tb))) := hD
    by_cases hc2 : bu1.1 = 0
    · have hf := hf_t hf hc2
      have hE : E = "java/lang/IllegalArgumentException" := by rw [hE, hc2]; rfl
      subst hE
      refine vx_catch (own := "HazardTablesLaw") (name := "java/lang/IllegalArgumentException") (E := "java/lang/IllegalArgumentException") hown [] ⟨0, 10, 13, 27⟩ [] htab (fun z hz => absurd hz List.not_mem_nil) (by decide) (by decide) (hts _ (List.mem_cons_of_mem _ wd_469)) (va_Nw.use rfl (hX.2.2.2 (.castable "java/lang/IllegalArgumentException" "java/lang/IllegalArgumentException") (by decide))) hce hcv hcl ?_
      refine lv_astore (lv' := [(4, .ref q9), (0, .ref (ad_ht 0)), (1, .int x1), (2, .int x2), (3, .ref (ad_ot 1))]) hx hb d_Law_material_13 hl (by decide) rfl (fun ls hl => ?_)
      refine lv_iconst (v := (1 : Int32)) hx hb d_Law_material_15 (by decide) ?_
      exact ret (1 : Int32) ot H locs ls 16 d_Law_material_16 (hf_e hf) hP hD hS
    have hf := hf_f hf hc2
    exact nomatch hf
  · obtain ⟨au1, rfl⟩ : ∃ z, z = r := ⟨_, rfl⟩
    subst hw
    have hf := hf_l hf
    have hP : va_P (dC, dI) vwCl (uw_HT ad_ht cA_ht (ad_rd 0) (ad_sp 0) (ad_mx 0) (ad_ar 0) (ad_tb 0) (ad_tc 0) ht ++ (uw_Out ad_ot cA_ot ot ++ (uw_Table ad_tb cA_tb tb))) H := hP
    have hD : va_D A (uw_HT ad_ht cA_ht (ad_rd 0) (ad_sp 0) (ad_mx 0) (ad_ar 0) (ad_tb 0) (ad_tc 0) ht ++ (uw_Out ad_ot cA_ot ot ++ (uw_Table ad_tb cA_tb tb))) := hD
    refine lv_i2l (v := au1.toInt64) hx hb d_Law_material_8 rfl ?_
    obtain ⟨hi3, hf⟩ := hf_g hf
    refine va_last hx hb hK hP hD hS 2 1 rfl rfl hi3 d_Law_material_9 (fun H locs hP hD hS => ?_)
    have hP : va_P (dC, dI) vwCl (uw_HT ad_ht cA_ht (ad_rd 0) (ad_sp 0) (ad_mx 0) (ad_ar 0) (ad_tb 0) (ad_tc 0) ht ++ (uw_Out ad_ot cA_ot (vp_updL ot (0 : Int32).toNatClampNeg au1.toInt64) ++ (uw_Table ad_tb cA_tb tb))) H := hP
    have hD : va_D A (uw_HT ad_ht cA_ht (ad_rd 0) (ad_sp 0) (ad_mx 0) (ad_ar 0) (ad_tb 0) (ad_tc 0) ht ++ (uw_Out ad_ot cA_ot (vp_updL ot (0 : Int32).toNatClampNeg au1.toInt64) ++ (uw_Table ad_tb cA_tb tb))) := hD
    refine lv_goto (tgt := 17) hx hb d_Law_material_10 (by decide) ?_
    refine lv_iconst (v := (0 : Int32)) hx hb d_Law_material_17 (by decide) ?_
    exact ret (0 : Int32) (vp_updL ot (0 : Int32).toNatClampNeg au1.toInt64) H locs ls 18 d_Law_material_18 (hf_e hf) hP hD hS
noncomputable def f_Law_say (ht : SHT) (ot : SOut) (sp : SSpeller) (tb : STable) (x1 : Int64) (x3 : Int32) : Option (Int32 × SOut × SSpeller) :=
  (Option.bind (f_HT_say ht sp tb x1 x3) fun u1 => Sum.elim (fun au1 =>
    (if inb (0 : Int32) 1 then
      (some ((0 : Int32), (vp_updL ot (0 : Int32).toNatClampNeg au1.1.toInt64), au1.2))
     else none)
   ) (fun bu1 =>
    (if bu1.1 = 1 then
      (some ((1 : Int32), ot, bu1.2))
     else
    (if bu1.1 = 2 then
      (some ((2 : Int32), ot, bu1.2))
     else
      none
     ))
   ) u1)
set_option maxHeartbeats 4000000 in
set_option maxRecDepth 100000 in
theorem k_Law_say (l : Launch) (dC : Nat → ClassId) (dI : Nat → Nat → Nat) (ad_ht : Nat → Nat) (cA_ht : Nat → ClassId) (ad_ot : Nat → Nat) (cA_ot : Nat → ClassId) (ad_sp : Nat → Nat) (cA_sp : Nat → ClassId) (ad_tb : Nat → Nat) (cA_tb : Nat → ClassId) (ad_rd : Nat → Nat) (cA_rd : Nat → ClassId) (ad_mx : Nat → Nat) (cA_mx : Nat → ClassId) (ad_ar : Nat → Nat) (cA_ar : Nat → ClassId) (ad_tc : Nat → Nat) (cA_tc : Nat → ClassId) (sz : Nat) (ht : SHT) (ot : SOut) (sp : SSpeller) (tb : STable) (x1 : Int64) (x3 : Int32) (res : Int32 × SOut × SSpeller) (hf : f_Law_say ht ot sp tb x1 x3 = some res) (htr : l.stackTraces = false) : Met l y_Law_say w_Law_say ({ frames := 7, cells := 1, slots := 6, locals := 140 }) (lPc (dC, dI) (uw_HT ad_ht cA_ht (ad_rd 0) (ad_sp 0) (ad_mx 0) (ad_ar 0) (ad_tb 0) (ad_tc 0) ht ++ (uw_Out ad_ot cA_ot ot ++ (uw_Speller ad_sp cA_sp sp ++ (uw_Table ad_tb cA_tb tb)))) [(cA_ht 1, .int), (cA_ot 1, .long), (cA_sp 1, .int), (cA_sp 2, .int), (cA_sp 3, .int), (cA_sp 4, .int), (cA_tb 1, .int), (cA_tb 2, .int), (cA_tb 3, .int), (cA_tb 4, .byte)] sz [.ref (ad_ht 0), .long x1, .int x3, .ref (ad_ot 1)]) (va_Qi (fun (r : Int32) (u : SOut × SSpeller) => r = res.1 ∧ u = res.2) (fun (u : SOut × SSpeller) (t : State) => va_P (dC, dI) vwCl (uw_HT ad_ht cA_ht (ad_rd 0) (ad_sp 0) (ad_mx 0) (ad_ar 0) (ad_tb 0) (ad_tc 0) ht ++ (uw_Out ad_ot cA_ot u.1 ++ (uw_Speller ad_sp cA_sp u.2 ++ (uw_Table ad_tb cA_tb tb)))) t.heap ∧ va_K (dC, dI) vwCl [(cA_ht 1, .int), (cA_ot 1, .long), (cA_sp 1, .int), (cA_sp 2, .int), (cA_sp 3, .int), (cA_sp 4, .int), (cA_tb 1, .int), (cA_tb 2, .int), (cA_tb 3, .int), (cA_tb 4, .byte)] t ∧ va_D (va_A (uw_HT ad_ht cA_ht (ad_rd 0) (ad_sp 0) (ad_mx 0) (ad_ar 0) (ad_tb 0) (ad_tc 0) ht ++ (uw_Out ad_ot cA_ot ot ++ (uw_Speller ad_sp cA_sp sp ++ (uw_Table ad_tb cA_tb tb)))) sz) (uw_HT ad_ht cA_ht (ad_rd 0) (ad_sp 0) (ad_mx 0) (ad_ar 0) (ad_tb 0) (ad_tc 0) ht ++ (uw_Out ad_ot cA_ot u.1 ++ (uw_Speller ad_sp cA_sp u.2 ++ (uw_Table ad_tb cA_tb tb))))) (va_A (uw_HT ad_ht cA_ht (ad_rd 0) (ad_sp 0) (ad_mx 0) (ad_ar 0) (ad_tb 0) (ad_tc 0) ht ++ (uw_Out ad_ot cA_ot ot ++ (uw_Speller ad_sp cA_sp sp ++ (uw_Table ad_tb cA_tb tb)))) sz)) 1 6 (va_A (uw_HT ad_ht cA_ht (ad_rd 0) (ad_sp 0) (ad_mx 0) (ad_ar 0) (ad_tb 0) (ad_tc 0) ht ++ (uw_Out ad_ot cA_ot ot ++ (uw_Speller ad_sp cA_sp sp ++ (uw_Table ad_tb cA_tb tb)))) sz) := by
  refine met_ofWH (hh := [(0, 11, 14, 13), (0, 11, 18, 21)]) (cc := b_Law_say) (maxL := 6) (ret := (some .int)) (by decide) rfl ?_
  intro p e s m args below meth c s₁ B hml hv
  obtain ⟨rfl, hsz, hP, hK, hD0, hN, hX, hnc⟩ := hv
  have hx := B.exec
  have hb := B.bytes
  have hr := B.returns
  have hts := atoms_spec (ws := w_Law_say) B.pre
  have hown : s.vm.findClass "HazardTablesLaw" = some m.cls := findClass_of_methodNamed B.named
  have hlocks := B.notSynchronized
  have htab : c.exceptionTable.toList = [⟨0, 11, 14, 13⟩, ⟨0, 11, 18, 21⟩] := vx_table (x := y_Law_say) B (hts _ List.mem_cons_self)
  subst hsz
  have hD := hD0.self (sz := s.heap.size)
  generalize hAe : va_A (uw_HT ad_ht cA_ht (ad_rd 0) (ad_sp 0) (ad_mx 0) (ad_ar 0) (ad_tb 0) (ad_tc 0) ht ++ (uw_Out ad_ot cA_ot ot ++ (uw_Speller ad_sp cA_sp sp ++ (uw_Table ad_tb cA_tb tb)))) s.heap.size = A at hD hX ⊢
  have hA : ∀ q : Nat, s.heap.size ≤ q → A q := fun q h => by rw [← hAe]; exact Or.inr h
  have hS : va_S A s.heap s.heap [] := va_S.rf
  have hP : va_P (dC, dI) vwCl (uw_HT ad_ht cA_ht (ad_rd 0) (ad_sp 0) (ad_mx 0) (ad_ar 0) (ad_tb 0) (ad_tc 0) ht ++ (uw_Out ad_ot cA_ot ot ++ (uw_Speller ad_sp cA_sp sp ++ (uw_Table ad_tb cA_tb tb)))) s.heap := hP
  have ret : ∀ (v : Int32) (u : SOut × SSpeller) (H : Heap) (locs : List Loc) (ls : Array Slot) (pc : Nat), decode b_Law_say pc = .ok (.ireturn, 1) → (v = res.1 ∧ u = res.2) → va_P (dC, dI) vwCl (uw_HT ad_ht cA_ht (ad_rd 0) (ad_sp 0) (ad_mx 0) (ad_ar 0) (ad_tb 0) (ad_tc 0) ht ++ (uw_Out ad_ot cA_ot u.1 ++ (uw_Speller ad_sp cA_sp u.2 ++ (uw_Table ad_tb cA_tb tb)))) H → va_D A (uw_HT ad_ht cA_ht (ad_rd 0) (ad_sp 0) (ad_mx 0) (ad_ar 0) (ad_tb 0) (ad_tc 0) ht ++ (uw_Out ad_ot cA_ot u.1 ++ (uw_Speller ad_sp cA_sp u.2 ++ (uw_Table ad_tb cA_tb tb)))) → va_S A s.heap H locs → W p l e (headSpec w_Law_say ({ frames := 7, cells := 1, slots := 6, locals := 140 })).room s m ([.ref (ad_ht 0), .long x1, .int x3, .ref (ad_ot 1)] : List Value).toArray below meth c H locs 1 6 (MQ below (va_Qi (fun (r : Int32) (u : SOut × SSpeller) => r = res.1 ∧ u = res.2) (fun (u : SOut × SSpeller) (t : State) => va_P (dC, dI) vwCl (uw_HT ad_ht cA_ht (ad_rd 0) (ad_sp 0) (ad_mx 0) (ad_ar 0) (ad_tb 0) (ad_tc 0) ht ++ (uw_Out ad_ot cA_ot u.1 ++ (uw_Speller ad_sp cA_sp u.2 ++ (uw_Table ad_tb cA_tb tb)))) t.heap ∧ va_K (dC, dI) vwCl [(cA_ht 1, .int), (cA_ot 1, .long), (cA_sp 1, .int), (cA_sp 2, .int), (cA_sp 3, .int), (cA_sp 4, .int), (cA_tb 1, .int), (cA_tb 2, .int), (cA_tb 3, .int), (cA_tb 4, .byte)] t ∧ va_D A (uw_HT ad_ht cA_ht (ad_rd 0) (ad_sp 0) (ad_mx 0) (ad_ar 0) (ad_tb 0) (ad_tc 0) ht ++ (uw_Out ad_ot cA_ot u.1 ++ (uw_Speller ad_sp cA_sp u.2 ++ (uw_Table ad_tb cA_tb tb))))) A) ([.ref (ad_ht 0), .long x1, .int x3, .ref (ad_ot 1)] : List Value).toArray s 1 6 A) (F0 m pc ls [.int v]) := fun v u H locs ls pc hd hp hP hD hS => W.iret (v := v) hx hb hr (fun t ht hW => ⟨⟨v, u, rfl, hp, by rw [ht]; exact hP, va_K.moved hW.alike hK, hD⟩, hS.F ht⟩) hS.2.2 hd
  generalize (MQ below (va_Qi (fun (r : Int32) (u : SOut × SSpeller) => r = res.1 ∧ u = res.2) (fun (u : SOut × SSpeller) (t : State) => va_P (dC, dI) vwCl (uw_HT ad_ht cA_ht (ad_rd 0) (ad_sp 0) (ad_mx 0) (ad_ar 0) (ad_tb 0) (ad_tc 0) ht ++ (uw_Out ad_ot cA_ot u.1 ++ (uw_Speller ad_sp cA_sp u.2 ++ (uw_Table ad_tb cA_tb tb)))) t.heap ∧ va_K (dC, dI) vwCl [(cA_ht 1, .int), (cA_ot 1, .long), (cA_sp 1, .int), (cA_sp 2, .int), (cA_sp 3, .int), (cA_sp 4, .int), (cA_tb 1, .int), (cA_tb 2, .int), (cA_tb 3, .int), (cA_tb 4, .byte)] t ∧ va_D A (uw_HT ad_ht cA_ht (ad_rd 0) (ad_sp 0) (ad_mx 0) (ad_ar 0) (ad_tb 0) (ad_tc 0) ht ++ (uw_Out ad_ot cA_ot u.1 ++ (uw_Speller ad_sp cA_sp u.2 ++ (uw_Table ad_tb cA_tb tb))))) A) ([.ref (ad_ht 0), .long x1, .int x3, .ref (ad_ot 1)] : List Value).toArray s 1 6 A) = Q at ret ⊢
  have hl := lv_entry ([.ref (ad_ht 0), .long x1, .int x3, .ref (ad_ot 1)]) (n := 6) (Nat.le_of_ble_eq_true rfl)
  rw [lg_entry_eq]
  generalize (lg_sl ([.ref (ad_ht 0), .long x1, .int x3, .ref (ad_ot 1)]) ++ List.replicate (6 - (lg_sl ([.ref (ad_ht 0), .long x1, .int x3, .ref (ad_ot 1)])).length) Slot.unset).toArray = ls at hl ⊢
  have hl : lv_has ls 6 [(0, .ref (ad_ht 0)), (1, .long x1), (3, .int x3), (4, .ref (ad_ot 1))] := hl
  have hf := hf
  rw [f_Law_say] at hf
  obtain ⟨H, hH⟩ : ∃ H : Heap, H = s.heap := ⟨_, rfl⟩
  obtain ⟨locs, hlocs⟩ : ∃ L : List Loc, L = [] := ⟨_, rfl⟩
  have hP : va_P (dC, dI) vwCl (uw_HT ad_ht cA_ht (ad_rd 0) (ad_sp 0) (ad_mx 0) (ad_ar 0) (ad_tb 0) (ad_tc 0) ht ++ (uw_Out ad_ot cA_ot ot ++ (uw_Speller ad_sp cA_sp sp ++ (uw_Table ad_tb cA_tb tb)))) H := by rw [hH]; exact hP
  have hS : va_S A s.heap H locs := by rw [hH, hlocs]; exact hS
  show W p l e (headSpec w_Law_say ({ frames := 7, cells := 1, slots := 6, locals := 140 })).room s m ([.ref (ad_ht 0), .long x1, .int x3, .ref (ad_ot 1)] : List Value).toArray below meth c s.heap [] 0 0 Q (F0 m 0 ls [])
  suffices hgo : W p l e (headSpec w_Law_say ({ frames := 7, cells := 1, slots := 6, locals := 140 })).room s m ([.ref (ad_ht 0), .long x1, .int x3, .ref (ad_ot 1)] : List Value).toArray below meth c H locs 0 0 Q (F0 m 0 ls []) by rw [hH, hlocs] at hgo; exact hgo
  clear hH hlocs
  refine lv_aload hx hb d_Law_say_0 (lv_at hl 3 rfl) ?_
  refine lv_iconst (v := (0 : Int32)) hx hb d_Law_say_2 (by decide) ?_
  refine lv_aload_n hx hb d_Law_say_3 rfl (lv_at hl 0 rfl) ?_
  refine lv_lload_n hx hb d_Law_say_4 rfl (lv_at hl 1 rfl) ?_
  refine lv_iload_n hx hb d_Law_say_5 rfl (lv_at hl 2 rfl) ?_
  obtain ⟨u1, hu1, hf⟩ := Option.bind_eq_some_iff.mp hf
  refine cx_i (wc := (uw_HT ad_ht cA_ht (ad_rd 0) (ad_sp 0) (ad_mx 0) (ad_ar 0) (ad_tb 0) (ad_tc 0) ht ++ (uw_Speller ad_sp cA_sp sp ++ (uw_Table ad_tb cA_tb tb)))) (wr := (uw_Out ad_ot cA_ot ot)) (tysC := [(cA_ht 1, .int), (cA_sp 1, .int), (cA_sp 2, .int), (cA_sp 3, .int), (cA_sp 4, .int), (cA_tb 1, .int), (cA_tb 2, .int), (cA_tb 3, .int), (cA_tb 4, .byte)]) (wu := fun (u : SSpeller) => (uw_HT ad_ht cA_ht (ad_rd 0) (ad_sp 0) (ad_mx 0) (ad_ar 0) (ad_tb 0) (ad_tc 0) ht ++ (uw_Speller ad_sp cA_sp u ++ (uw_Table ad_tb cA_tb tb)))) (wn := fun (u : SSpeller) => (uw_HT ad_ht cA_ht (ad_rd 0) (ad_sp 0) (ad_mx 0) (ad_ar 0) (ad_tb 0) (ad_tc 0) ht ++ (uw_Out ad_ot cA_ot ot ++ (uw_Speller ad_sp cA_sp u ++ (uw_Table ad_tb cA_tb tb))))) (wux := fun (u : SSpeller) => (uw_HT ad_ht cA_ht (ad_rd 0) (ad_sp 0) (ad_mx 0) (ad_ar 0) (ad_tb 0) (ad_tc 0) ht ++ (uw_Speller ad_sp cA_sp u ++ (uw_Table ad_tb cA_tb tb)))) (wnx := fun (u : SSpeller) => (uw_HT ad_ht cA_ht (ad_rd 0) (ad_sp 0) (ad_mx 0) (ad_ar 0) (ad_tb 0) (ad_tc 0) ht ++ (uw_Out ad_ot cA_ot ot ++ (uw_Speller ad_sp cA_sp u ++ (uw_Table ad_tb cA_tb tb))))) [0, 1, 3, 4, 5, 6, 7, 8, 9, 10, 11, 12] [2] [1, 2, 0, 3, 4, 5, 6, 7, 8, 9, 10, 11, 12] [0, 2, 3, 4, 5, 6, 7, 8, 9] hP hD hS hA hK rfl rfl (by decide +kernel) (by decide +kernel) (by decide +kernel) rfl (fun _ => rfl) (fun _ => rfl) (by decide +kernel) (fun hPc hKc hDc hFc => (vx_runV (As := [.long x1, .int x3]) (rest := [.int (0 : Int32), .ref (ad_ot 1)]) ⟨hx, hb, hml, hown, hts⟩ (k_HT_say l dC dI ad_ht cA_ht ad_sp cA_sp ad_tb cA_tb ad_rd cA_rd ad_mx cA_mx ad_ar cA_ar ad_tc cA_tc H.size ht sp tb x1 x3 u1 hu1 htr) (cwV 2 hts (gV wd_503 wd_504 wd_505 wd_43 wd_506) rfl rfl rfl (by decide +kernel) ⟨Nat.le_of_ble_eq_true rfl, Nat.le_of_ble_eq_true rfl⟩) (cx_preV hPc hKc hDc hN (fun U hU hW => xAll_at hX hS hFc hU hW) (ci := 5) 0 rfl rfl) rfl rfl hl.1 rfl (lv_room (Nat.le_of_ble_eq_true rfl)) d_Law_say_6 ⟨Nat.le_of_ble_eq_true rfl, Nat.le_of_ble_eq_true rfl⟩)) (fun E ce q9 u H locs hw hE hP hD hS hce hcv hcl => ?_) (fun r u H locs hw hP hD hS => ?_)
  · obtain ⟨bu1, rfl⟩ : ∃ z, z = u := ⟨_, rfl⟩
    subst hw
    have hf := hf_r hf
    have hP : va_P (dC, dI) vwCl (uw_HT ad_ht cA_ht (ad_rd 0) (ad_sp 0) (ad_mx 0) (ad_ar 0) (ad_tb 0) (ad_tc 0) ht ++ (uw_Out ad_ot cA_ot ot ++ (uw_Speller ad_sp cA_sp bu1.2 ++ (uw_Table ad_tb cA_tb tb)))) H := hP
    have hD : va_D A (uw_HT ad_ht cA_ht (ad_rd 0) (ad_sp 0) (ad_mx 0) (ad_ar 0) (ad_tb 0) (ad_tc 0) ht ++ (uw_Out ad_ot cA_ot ot ++ (uw_Speller ad_sp cA_sp bu1.2 ++ (uw_Table ad_tb cA_tb tb)))) := hD
    by_cases hc2 : bu1.1 = 1
    · have hf := hf_t hf hc2
      have hE : E = "java/lang/IndexOutOfBoundsException" := by rw [hE, hc2]; rfl
      subst hE
      refine vx_catch (own := "HazardTablesLaw") (name := "java/lang/IndexOutOfBoundsException") (E := "java/lang/IndexOutOfBoundsException") hown [] ⟨0, 11, 14, 13⟩ [⟨0, 11, 18, 21⟩] htab (fun z hz => absurd hz List.not_mem_nil) (by decide) (by decide) (hts _ (List.mem_cons_of_mem _ wd_241)) (va_Nw.use rfl (hX.2.2.2 (.castable "java/lang/IndexOutOfBoundsException" "java/lang/IndexOutOfBoundsException") (by decide))) hce hcv hcl ?_
      refine lv_astore (lv' := [(5, .ref q9), (0, .ref (ad_ht 0)), (1, .long x1), (3, .int x3), (4, .ref (ad_ot 1))]) hx hb d_Law_say_14 hl (by decide) rfl (fun ls hl => ?_)
      refine lv_iconst (v := (1 : Int32)) hx hb d_Law_say_16 (by decide) ?_
      exact ret (1 : Int32) (ot, bu1.2) H locs ls 17 d_Law_say_17 (hf_e hf) hP hD hS
    have hf := hf_f hf hc2
    by_cases hc3 : bu1.1 = 2
    · have hf := hf_t hf hc3
      have hE : E = "java/lang/IllegalStateException" := by rw [hE, hc3]; rfl
      subst hE
      refine vx_catch (own := "HazardTablesLaw") (name := "java/lang/IllegalStateException") (E := "java/lang/IllegalStateException") hown [⟨0, 11, 14, 13⟩] ⟨0, 11, 18, 21⟩ [] htab (List.forall_mem_cons.mpr ⟨Or.inr ⟨by decide, "java/lang/IndexOutOfBoundsException", (hts _ (List.mem_cons_of_mem _ wd_241)), hnc 2 (by decide) 1 (by decide) (by decide)⟩, fun z hz => absurd hz List.not_mem_nil⟩) (by decide) (by decide) (hts _ (List.mem_cons_of_mem _ wd_345)) (va_Nw.use rfl (hX.2.2.2 (.castable "java/lang/IllegalStateException" "java/lang/IllegalStateException") (by decide))) hce hcv hcl ?_
      refine lv_astore (lv' := [(5, .ref q9), (0, .ref (ad_ht 0)), (1, .long x1), (3, .int x3), (4, .ref (ad_ot 1))]) hx hb d_Law_say_18 hl (by decide) rfl (fun ls hl => ?_)
      refine lv_iconst (v := (2 : Int32)) hx hb d_Law_say_20 (by decide) ?_
      exact ret (2 : Int32) (ot, bu1.2) H locs ls 21 d_Law_say_21 (hf_e hf) hP hD hS
    have hf := hf_f hf hc3
    exact nomatch hf
  · obtain ⟨au1, rfl, rfl⟩ : ∃ z : Int32 × (SSpeller), r = z.1 ∧ u = z.2 := ⟨(r, u), rfl, rfl⟩
    have hw : u1 = .inl au1 := hw
    subst hw
    have hf := hf_l hf
    have hP : va_P (dC, dI) vwCl (uw_HT ad_ht cA_ht (ad_rd 0) (ad_sp 0) (ad_mx 0) (ad_ar 0) (ad_tb 0) (ad_tc 0) ht ++ (uw_Out ad_ot cA_ot ot ++ (uw_Speller ad_sp cA_sp au1.2 ++ (uw_Table ad_tb cA_tb tb)))) H := hP
    have hD : va_D A (uw_HT ad_ht cA_ht (ad_rd 0) (ad_sp 0) (ad_mx 0) (ad_ar 0) (ad_tb 0) (ad_tc 0) ht ++ (uw_Out ad_ot cA_ot ot ++ (uw_Speller ad_sp cA_sp au1.2 ++ (uw_Table ad_tb cA_tb tb)))) := hD
    refine lv_i2l (v := au1.1.toInt64) hx hb d_Law_say_9 rfl ?_
    obtain ⟨hi4, hf⟩ := hf_g hf
    refine va_last hx hb hK hP hD hS 2 1 rfl rfl hi4 d_Law_say_10 (fun H locs hP hD hS => ?_)
    have hP : va_P (dC, dI) vwCl (uw_HT ad_ht cA_ht (ad_rd 0) (ad_sp 0) (ad_mx 0) (ad_ar 0) (ad_tb 0) (ad_tc 0) ht ++ (uw_Out ad_ot cA_ot (vp_updL ot (0 : Int32).toNatClampNeg au1.1.toInt64) ++ (uw_Speller ad_sp cA_sp au1.2 ++ (uw_Table ad_tb cA_tb tb)))) H := hP
    have hD : va_D A (uw_HT ad_ht cA_ht (ad_rd 0) (ad_sp 0) (ad_mx 0) (ad_ar 0) (ad_tb 0) (ad_tc 0) ht ++ (uw_Out ad_ot cA_ot (vp_updL ot (0 : Int32).toNatClampNeg au1.1.toInt64) ++ (uw_Speller ad_sp cA_sp au1.2 ++ (uw_Table ad_tb cA_tb tb)))) := hD
    refine lv_goto (tgt := 22) hx hb d_Law_say_11 (by decide) ?_
    refine lv_iconst (v := (0 : Int32)) hx hb d_Law_say_22 (by decide) ?_
    exact ret (0 : Int32) ((vp_updL ot (0 : Int32).toNatClampNeg au1.1.toInt64), au1.2) H locs ls 23 d_Law_say_23 (hf_e hf) hP hD hS
noncomputable def f_Law_near (ht : SHT) (ot : SOut) (sp : SSpeller) (x1 : Int32) : Option (Int32 × SOut) :=
  (Option.bind (f_HT_near ht sp x1) fun u1 => Sum.elim (fun au1 =>
    (if inb (0 : Int32) 1 then
      (some ((0 : Int32), (vp_updL ot (0 : Int32).toNatClampNeg au1.toInt64)))
     else none)
   ) (fun bu1 =>
    (if bu1.1 = 1 then
      (some ((1 : Int32), ot))
     else
      none
     )
   ) u1)
set_option maxHeartbeats 4000000 in
set_option maxRecDepth 100000 in
theorem k_Law_near (l : Launch) (dC : Nat → ClassId) (dI : Nat → Nat → Nat) (ad_ht : Nat → Nat) (cA_ht : Nat → ClassId) (ad_ot : Nat → Nat) (cA_ot : Nat → ClassId) (ad_sp : Nat → Nat) (cA_sp : Nat → ClassId) (ad_rd : Nat → Nat) (cA_rd : Nat → ClassId) (ad_mx : Nat → Nat) (cA_mx : Nat → ClassId) (ad_ar : Nat → Nat) (cA_ar : Nat → ClassId) (ad_tb : Nat → Nat) (cA_tb : Nat → ClassId) (ad_tc : Nat → Nat) (cA_tc : Nat → ClassId) (sz : Nat) (ht : SHT) (ot : SOut) (sp : SSpeller) (x1 : Int32) (res : Int32 × SOut) (hf : f_Law_near ht ot sp x1 = some res) (htr : l.stackTraces = false) : Met l y_Law_near w_Law_near ({ frames := 7, cells := 1, slots := 6, locals := 103 }) (lPc (dC, dI) (uw_HT ad_ht cA_ht (ad_rd 0) (ad_sp 0) (ad_mx 0) (ad_ar 0) (ad_tb 0) (ad_tc 0) ht ++ (uw_Out ad_ot cA_ot ot ++ (uw_Speller ad_sp cA_sp sp))) [(cA_ht 1, .int), (cA_ot 1, .long), (cA_sp 1, .int), (cA_sp 2, .int), (cA_sp 3, .int), (cA_sp 4, .int)] sz [.ref (ad_ht 0), .int x1, .ref (ad_ot 1)]) (va_Qi (fun (r : Int32) (u : SOut) => r = res.1 ∧ u = res.2) (fun (u : SOut) (t : State) => va_P (dC, dI) vwCl (uw_HT ad_ht cA_ht (ad_rd 0) (ad_sp 0) (ad_mx 0) (ad_ar 0) (ad_tb 0) (ad_tc 0) ht ++ (uw_Out ad_ot cA_ot u ++ (uw_Speller ad_sp cA_sp sp))) t.heap ∧ va_K (dC, dI) vwCl [(cA_ht 1, .int), (cA_ot 1, .long), (cA_sp 1, .int), (cA_sp 2, .int), (cA_sp 3, .int), (cA_sp 4, .int)] t ∧ va_D (va_A (uw_HT ad_ht cA_ht (ad_rd 0) (ad_sp 0) (ad_mx 0) (ad_ar 0) (ad_tb 0) (ad_tc 0) ht ++ (uw_Out ad_ot cA_ot ot ++ (uw_Speller ad_sp cA_sp sp))) sz) (uw_HT ad_ht cA_ht (ad_rd 0) (ad_sp 0) (ad_mx 0) (ad_ar 0) (ad_tb 0) (ad_tc 0) ht ++ (uw_Out ad_ot cA_ot u ++ (uw_Speller ad_sp cA_sp sp)))) (va_A (uw_HT ad_ht cA_ht (ad_rd 0) (ad_sp 0) (ad_mx 0) (ad_ar 0) (ad_tb 0) (ad_tc 0) ht ++ (uw_Out ad_ot cA_ot ot ++ (uw_Speller ad_sp cA_sp sp))) sz)) 1 6 (va_A (uw_HT ad_ht cA_ht (ad_rd 0) (ad_sp 0) (ad_mx 0) (ad_ar 0) (ad_tb 0) (ad_tc 0) ht ++ (uw_Out ad_ot cA_ot ot ++ (uw_Speller ad_sp cA_sp sp))) sz) := by
  refine met_ofWH (hh := [(0, 9, 12, 13)]) (cc := b_Law_near) (maxL := 4) (ret := (some .int)) (by decide) rfl ?_
  intro p e s m args below meth c s₁ B hml hv
  obtain ⟨rfl, hsz, hP, hK, hD0, hN, hX, hnc⟩ := hv
  have hx := B.exec
  have hb := B.bytes
  have hr := B.returns
  have hts := atoms_spec (ws := w_Law_near) B.pre
  have hown : s.vm.findClass "HazardTablesLaw" = some m.cls := findClass_of_methodNamed B.named
  have hlocks := B.notSynchronized
  have htab : c.exceptionTable.toList = [⟨0, 9, 12, 13⟩] := vx_table (x := y_Law_near) B (hts _ List.mem_cons_self)
  subst hsz
  have hD := hD0.self (sz := s.heap.size)
  generalize hAe : va_A (uw_HT ad_ht cA_ht (ad_rd 0) (ad_sp 0) (ad_mx 0) (ad_ar 0) (ad_tb 0) (ad_tc 0) ht ++ (uw_Out ad_ot cA_ot ot ++ (uw_Speller ad_sp cA_sp sp))) s.heap.size = A at hD hX ⊢
  have hA : ∀ q : Nat, s.heap.size ≤ q → A q := fun q h => by rw [← hAe]; exact Or.inr h
  have hS : va_S A s.heap s.heap [] := va_S.rf
  have hP : va_P (dC, dI) vwCl (uw_HT ad_ht cA_ht (ad_rd 0) (ad_sp 0) (ad_mx 0) (ad_ar 0) (ad_tb 0) (ad_tc 0) ht ++ (uw_Out ad_ot cA_ot ot ++ (uw_Speller ad_sp cA_sp sp))) s.heap := hP
  have ret : ∀ (v : Int32) (u : SOut) (H : Heap) (locs : List Loc) (ls : Array Slot) (pc : Nat), decode b_Law_near pc = .ok (.ireturn, 1) → (v = res.1 ∧ u = res.2) → va_P (dC, dI) vwCl (uw_HT ad_ht cA_ht (ad_rd 0) (ad_sp 0) (ad_mx 0) (ad_ar 0) (ad_tb 0) (ad_tc 0) ht ++ (uw_Out ad_ot cA_ot u ++ (uw_Speller ad_sp cA_sp sp))) H → va_D A (uw_HT ad_ht cA_ht (ad_rd 0) (ad_sp 0) (ad_mx 0) (ad_ar 0) (ad_tb 0) (ad_tc 0) ht ++ (uw_Out ad_ot cA_ot u ++ (uw_Speller ad_sp cA_sp sp))) → va_S A s.heap H locs → W p l e (headSpec w_Law_near ({ frames := 7, cells := 1, slots := 6, locals := 103 })).room s m ([.ref (ad_ht 0), .int x1, .ref (ad_ot 1)] : List Value).toArray below meth c H locs 1 6 (MQ below (va_Qi (fun (r : Int32) (u : SOut) => r = res.1 ∧ u = res.2) (fun (u : SOut) (t : State) => va_P (dC, dI) vwCl (uw_HT ad_ht cA_ht (ad_rd 0) (ad_sp 0) (ad_mx 0) (ad_ar 0) (ad_tb 0) (ad_tc 0) ht ++ (uw_Out ad_ot cA_ot u ++ (uw_Speller ad_sp cA_sp sp))) t.heap ∧ va_K (dC, dI) vwCl [(cA_ht 1, .int), (cA_ot 1, .long), (cA_sp 1, .int), (cA_sp 2, .int), (cA_sp 3, .int), (cA_sp 4, .int)] t ∧ va_D A (uw_HT ad_ht cA_ht (ad_rd 0) (ad_sp 0) (ad_mx 0) (ad_ar 0) (ad_tb 0) (ad_tc 0) ht ++ (uw_Out ad_ot cA_ot u ++ (uw_Speller ad_sp cA_sp sp)))) A) ([.ref (ad_ht 0), .int x1, .ref (ad_ot 1)] : List Value).toArray s 1 6 A) (F0 m pc ls [.int v]) := fun v u H locs ls pc hd hp hP hD hS => W.iret (v := v) hx hb hr (fun t ht hW => ⟨⟨v, u, rfl, hp, by rw [ht]; exact hP, va_K.moved hW.alike hK, hD⟩, hS.F ht⟩) hS.2.2 hd
  generalize (MQ below (va_Qi (fun (r : Int32) (u : SOut) => r = res.1 ∧ u = res.2) (fun (u : SOut) (t : State) => va_P (dC, dI) vwCl (uw_HT ad_ht cA_ht (ad_rd 0) (ad_sp 0) (ad_mx 0) (ad_ar 0) (ad_tb 0) (ad_tc 0) ht ++ (uw_Out ad_ot cA_ot u ++ (uw_Speller ad_sp cA_sp sp))) t.heap ∧ va_K (dC, dI) vwCl [(cA_ht 1, .int), (cA_ot 1, .long), (cA_sp 1, .int), (cA_sp 2, .int), (cA_sp 3, .int), (cA_sp 4, .int)] t ∧ va_D A (uw_HT ad_ht cA_ht (ad_rd 0) (ad_sp 0) (ad_mx 0) (ad_ar 0) (ad_tb 0) (ad_tc 0) ht ++ (uw_Out ad_ot cA_ot u ++ (uw_Speller ad_sp cA_sp sp)))) A) ([.ref (ad_ht 0), .int x1, .ref (ad_ot 1)] : List Value).toArray s 1 6 A) = Q at ret ⊢
  have hl := lv_entry ([.ref (ad_ht 0), .int x1, .ref (ad_ot 1)]) (n := 4) (Nat.le_of_ble_eq_true rfl)
  rw [lg_entry_eq]
  generalize (lg_sl ([.ref (ad_ht 0), .int x1, .ref (ad_ot 1)]) ++ List.replicate (4 - (lg_sl ([.ref (ad_ht 0), .int x1, .ref (ad_ot 1)])).length) Slot.unset).toArray = ls at hl ⊢
  have hl : lv_has ls 4 [(0, .ref (ad_ht 0)), (1, .int x1), (2, .ref (ad_ot 1))] := hl
  have hf := hf
  rw [f_Law_near] at hf
  obtain ⟨H, hH⟩ : ∃ H : Heap, H = s.heap := ⟨_, rfl⟩
  obtain ⟨locs, hlocs⟩ : ∃ L : List Loc, L = [] := ⟨_, rfl⟩
  have hP : va_P (dC, dI) vwCl (uw_HT ad_ht cA_ht (ad_rd 0) (ad_sp 0) (ad_mx 0) (ad_ar 0) (ad_tb 0) (ad_tc 0) ht ++ (uw_Out ad_ot cA_ot ot ++ (uw_Speller ad_sp cA_sp sp))) H := by rw [hH]; exact hP
  have hS : va_S A s.heap H locs := by rw [hH, hlocs]; exact hS
  show W p l e (headSpec w_Law_near ({ frames := 7, cells := 1, slots := 6, locals := 103 })).room s m ([.ref (ad_ht 0), .int x1, .ref (ad_ot 1)] : List Value).toArray below meth c s.heap [] 0 0 Q (F0 m 0 ls [])
  suffices hgo : W p l e (headSpec w_Law_near ({ frames := 7, cells := 1, slots := 6, locals := 103 })).room s m ([.ref (ad_ht 0), .int x1, .ref (ad_ot 1)] : List Value).toArray below meth c H locs 0 0 Q (F0 m 0 ls []) by rw [hH, hlocs] at hgo; exact hgo
  clear hH hlocs
  refine lv_aload_n hx hb d_Law_near_0 rfl (lv_at hl 2 rfl) ?_
  refine lv_iconst (v := (0 : Int32)) hx hb d_Law_near_1 (by decide) ?_
  refine lv_aload_n hx hb d_Law_near_2 rfl (lv_at hl 0 rfl) ?_
  refine lv_iload_n hx hb d_Law_near_3 rfl (lv_at hl 1 rfl) ?_
  obtain ⟨u1, hu1, hf⟩ := Option.bind_eq_some_iff.mp hf
  refine cx_i (wc := (uw_HT ad_ht cA_ht (ad_rd 0) (ad_sp 0) (ad_mx 0) (ad_ar 0) (ad_tb 0) (ad_tc 0) ht ++ (uw_Speller ad_sp cA_sp sp))) (wr := (uw_Out ad_ot cA_ot ot)) (tysC := [(cA_ht 1, .int), (cA_sp 1, .int), (cA_sp 2, .int), (cA_sp 3, .int), (cA_sp 4, .int)]) (wu := fun (u : Unit) => (uw_HT ad_ht cA_ht (ad_rd 0) (ad_sp 0) (ad_mx 0) (ad_ar 0) (ad_tb 0) (ad_tc 0) ht ++ (uw_Speller ad_sp cA_sp sp))) (wn := fun (u : Unit) => (uw_HT ad_ht cA_ht (ad_rd 0) (ad_sp 0) (ad_mx 0) (ad_ar 0) (ad_tb 0) (ad_tc 0) ht ++ (uw_Out ad_ot cA_ot ot ++ (uw_Speller ad_sp cA_sp sp)))) (wux := fun (u : Unit) => (uw_HT ad_ht cA_ht (ad_rd 0) (ad_sp 0) (ad_mx 0) (ad_ar 0) (ad_tb 0) (ad_tc 0) ht ++ (uw_Speller ad_sp cA_sp sp))) (wnx := fun (u : Unit) => (uw_HT ad_ht cA_ht (ad_rd 0) (ad_sp 0) (ad_mx 0) (ad_ar 0) (ad_tb 0) (ad_tc 0) ht ++ (uw_Out ad_ot cA_ot ot ++ (uw_Speller ad_sp cA_sp sp)))) [0, 1, 3, 4, 5, 6, 7] [2] [1, 2, 0, 3, 4, 5, 6, 7] [0, 2, 3, 4, 5] hP hD hS hA hK rfl rfl (by decide +kernel) (by decide +kernel) (by decide +kernel) rfl (fun _ => rfl) (fun _ => rfl) (by decide +kernel) (fun hPc hKc hDc hFc => (vx_runV (As := [.int x1]) (rest := [.int (0 : Int32), .ref (ad_ot 1)]) ⟨hx, hb, hml, hown, hts⟩ (k_HT_near l dC dI ad_ht cA_ht ad_sp cA_sp ad_rd cA_rd ad_mx cA_mx ad_ar cA_ar ad_tb cA_tb ad_tc cA_tc H.size ht sp x1 u1 hu1 htr) (cwV 1 hts (gV wd_562 wd_563 wd_564 wd_43 wd_565) rfl rfl rfl (by decide +kernel) ⟨Nat.le_of_ble_eq_true rfl, Nat.le_of_ble_eq_true rfl⟩) (cx_preV hPc hKc hDc hN (fun U hU hW => xAll_at hX hS hFc hU hW) (ci := 5) 0 rfl rfl) rfl rfl hl.1 rfl (lv_room (Nat.le_of_ble_eq_true rfl)) d_Law_near_4 ⟨Nat.le_of_ble_eq_true rfl, Nat.le_of_ble_eq_true rfl⟩)) (fun E ce q9 u H locs hw hE hP hD hS hce hcv hcl => ?_) (fun r u H locs hw hP hD hS => ?_)
  · obtain ⟨bu1, rfl⟩ : ∃ z, z = u := ⟨_, rfl⟩
    subst hw
    have hf := hf_r hf
    have hP : va_P (dC, dI) vwCl (uw_HT ad_ht cA_ht (ad_rd 0) (ad_sp 0) (ad_mx 0) (ad_ar 0) (ad_tb 0) (ad_tc 0) ht ++ (uw_Out ad_ot cA_ot ot ++ (uw_Speller ad_sp cA_sp sp))) H := hP
    have hD : va_D A (uw_HT ad_ht cA_ht (ad_rd 0) (ad_sp 0) (ad_mx 0) (ad_ar 0) (ad_tb 0) (ad_tc 0) ht ++ (uw_Out ad_ot cA_ot ot ++ (uw_Speller ad_sp cA_sp sp))) := hD
    by_cases hc2 : bu1.1 = 1
    · have hf := hf_t hf hc2
      have hE : E = "java/lang/IndexOutOfBoundsException" := by rw [hE, hc2]; rfl
      subst hE
      refine vx_catch (own := "HazardTablesLaw") (name := "java/lang/IndexOutOfBoundsException") (E := "java/lang/IndexOutOfBoundsException") hown [] ⟨0, 9, 12, 13⟩ [] htab (fun z hz => absurd hz List.not_mem_nil) (by decide) (by decide) (hts _ (List.mem_cons_of_mem _ wd_241)) (va_Nw.use rfl (hX.2.2.2 (.castable "java/lang/IndexOutOfBoundsException" "java/lang/IndexOutOfBoundsException") (by decide))) hce hcv hcl ?_
      refine lv_astore_n (lv' := [(3, .ref q9), (0, .ref (ad_ht 0)), (1, .int x1), (2, .ref (ad_ot 1))]) hx hb d_Law_near_12 rfl hl (by decide) rfl (fun ls hl => ?_)
      refine lv_iconst (v := (1 : Int32)) hx hb d_Law_near_13 (by decide) ?_
      exact ret (1 : Int32) ot H locs ls 14 d_Law_near_14 (hf_e hf) hP hD hS
    have hf := hf_f hf hc2
    exact nomatch hf
  · obtain ⟨au1, rfl⟩ : ∃ z, z = r := ⟨_, rfl⟩
    subst hw
    have hf := hf_l hf
    have hP : va_P (dC, dI) vwCl (uw_HT ad_ht cA_ht (ad_rd 0) (ad_sp 0) (ad_mx 0) (ad_ar 0) (ad_tb 0) (ad_tc 0) ht ++ (uw_Out ad_ot cA_ot ot ++ (uw_Speller ad_sp cA_sp sp))) H := hP
    have hD : va_D A (uw_HT ad_ht cA_ht (ad_rd 0) (ad_sp 0) (ad_mx 0) (ad_ar 0) (ad_tb 0) (ad_tc 0) ht ++ (uw_Out ad_ot cA_ot ot ++ (uw_Speller ad_sp cA_sp sp))) := hD
    refine lv_i2l (v := au1.toInt64) hx hb d_Law_near_7 rfl ?_
    obtain ⟨hi3, hf⟩ := hf_g hf
    refine va_last hx hb hK hP hD hS 2 1 rfl rfl hi3 d_Law_near_8 (fun H locs hP hD hS => ?_)
    have hP : va_P (dC, dI) vwCl (uw_HT ad_ht cA_ht (ad_rd 0) (ad_sp 0) (ad_mx 0) (ad_ar 0) (ad_tb 0) (ad_tc 0) ht ++ (uw_Out ad_ot cA_ot (vp_updL ot (0 : Int32).toNatClampNeg au1.toInt64) ++ (uw_Speller ad_sp cA_sp sp))) H := hP
    have hD : va_D A (uw_HT ad_ht cA_ht (ad_rd 0) (ad_sp 0) (ad_mx 0) (ad_ar 0) (ad_tb 0) (ad_tc 0) ht ++ (uw_Out ad_ot cA_ot (vp_updL ot (0 : Int32).toNatClampNeg au1.toInt64) ++ (uw_Speller ad_sp cA_sp sp))) := hD
    refine lv_goto (tgt := 15) hx hb d_Law_near_9 (by decide) ?_
    refine lv_iconst (v := (0 : Int32)) hx hb d_Law_near_15 (by decide) ?_
    exact ret (0 : Int32) (vp_updL ot (0 : Int32).toNatClampNeg au1.toInt64) H locs ls 16 d_Law_near_16 (hf_e hf) hP hD hS
noncomputable def f_Law_add (ht : SHT) (ot : SOut) (mx : SMixture) (tb : STable) (x1 : Int32) (x2 : Int32) : Option (Int32 × SOut × SMixture) :=
  (Option.bind (f_HT_add ht mx tb x1 x2) fun u1 => Sum.elim (fun au1 =>
    (if inb (0 : Int32) 1 then
      (some ((0 : Int32), (vp_updL ot (0 : Int32).toNatClampNeg au1.1.toInt64), au1.2))
     else none)
   ) (fun bu1 =>
    (if bu1.1 = 0 then
      (some ((1 : Int32), ot, bu1.2))
     else
    (if bu1.1 = 1 then
      (some ((2 : Int32), ot, bu1.2))
     else
    (if bu1.1 = 3 then
      (some ((3 : Int32), ot, bu1.2))
     else
      none
     )))
   ) u1)
set_option maxHeartbeats 4000000 in
set_option maxRecDepth 100000 in
theorem k_Law_add (l : Launch) (dC : Nat → ClassId) (dI : Nat → Nat → Nat) (ad_ht : Nat → Nat) (cA_ht : Nat → ClassId) (ad_ot : Nat → Nat) (cA_ot : Nat → ClassId) (ad_mx : Nat → Nat) (cA_mx : Nat → ClassId) (ad_tb : Nat → Nat) (cA_tb : Nat → ClassId) (ad_rd : Nat → Nat) (cA_rd : Nat → ClassId) (ad_sp : Nat → Nat) (cA_sp : Nat → ClassId) (ad_ar : Nat → Nat) (cA_ar : Nat → ClassId) (ad_tc : Nat → Nat) (cA_tc : Nat → ClassId) (sz : Nat) (ht : SHT) (ot : SOut) (mx : SMixture) (tb : STable) (x1 : Int32) (x2 : Int32) (res : Int32 × SOut × SMixture) (hf : f_Law_add ht ot mx tb x1 x2 = some res) (htr : l.stackTraces = false) : Met l y_Law_add w_Law_add ({ frames := 7, cells := 1, slots := 6, locals := 116 }) (lPc (dC, dI) (uw_HT ad_ht cA_ht (ad_rd 0) (ad_sp 0) (ad_mx 0) (ad_ar 0) (ad_tb 0) (ad_tc 0) ht ++ (uw_Out ad_ot cA_ot ot ++ (uw_Mixture ad_mx cA_mx mx ++ (uw_Table ad_tb cA_tb tb)))) [(cA_ht 1, .int), (cA_ot 1, .long), (cA_mx 1, .int), (cA_mx 2, .int), (cA_mx 3, .boolean), (cA_tb 1, .int), (cA_tb 2, .int), (cA_tb 3, .int), (cA_tb 4, .byte)] sz [.ref (ad_ht 0), .int x1, .int x2, .ref (ad_ot 1)]) (va_Qi (fun (r : Int32) (u : SOut × SMixture) => r = res.1 ∧ u = res.2) (fun (u : SOut × SMixture) (t : State) => va_P (dC, dI) vwCl (uw_HT ad_ht cA_ht (ad_rd 0) (ad_sp 0) (ad_mx 0) (ad_ar 0) (ad_tb 0) (ad_tc 0) ht ++ (uw_Out ad_ot cA_ot u.1 ++ (uw_Mixture ad_mx cA_mx u.2 ++ (uw_Table ad_tb cA_tb tb)))) t.heap ∧ va_K (dC, dI) vwCl [(cA_ht 1, .int), (cA_ot 1, .long), (cA_mx 1, .int), (cA_mx 2, .int), (cA_mx 3, .boolean), (cA_tb 1, .int), (cA_tb 2, .int), (cA_tb 3, .int), (cA_tb 4, .byte)] t ∧ va_D (va_A (uw_HT ad_ht cA_ht (ad_rd 0) (ad_sp 0) (ad_mx 0) (ad_ar 0) (ad_tb 0) (ad_tc 0) ht ++ (uw_Out ad_ot cA_ot ot ++ (uw_Mixture ad_mx cA_mx mx ++ (uw_Table ad_tb cA_tb tb)))) sz) (uw_HT ad_ht cA_ht (ad_rd 0) (ad_sp 0) (ad_mx 0) (ad_ar 0) (ad_tb 0) (ad_tc 0) ht ++ (uw_Out ad_ot cA_ot u.1 ++ (uw_Mixture ad_mx cA_mx u.2 ++ (uw_Table ad_tb cA_tb tb))))) (va_A (uw_HT ad_ht cA_ht (ad_rd 0) (ad_sp 0) (ad_mx 0) (ad_ar 0) (ad_tb 0) (ad_tc 0) ht ++ (uw_Out ad_ot cA_ot ot ++ (uw_Mixture ad_mx cA_mx mx ++ (uw_Table ad_tb cA_tb tb)))) sz)) 1 6 (va_A (uw_HT ad_ht cA_ht (ad_rd 0) (ad_sp 0) (ad_mx 0) (ad_ar 0) (ad_tb 0) (ad_tc 0) ht ++ (uw_Out ad_ot cA_ot ot ++ (uw_Mixture ad_mx cA_mx mx ++ (uw_Table ad_tb cA_tb tb)))) sz) := by
  refine met_ofWH (hh := [(0, 10, 13, 27), (0, 10, 17, 13), (0, 10, 21, 15)]) (cc := b_Law_add) (maxL := 5) (ret := (some .int)) (by decide) rfl ?_
  intro p e s m args below meth c s₁ B hml hv
  obtain ⟨rfl, hsz, hP, hK, hD0, hN, hX, hnc⟩ := hv
  have hx := B.exec
  have hb := B.bytes
  have hr := B.returns
  have hts := atoms_spec (ws := w_Law_add) B.pre
  have hown : s.vm.findClass "HazardTablesLaw" = some m.cls := findClass_of_methodNamed B.named
  have hlocks := B.notSynchronized
  have htab : c.exceptionTable.toList = [⟨0, 10, 13, 27⟩, ⟨0, 10, 17, 13⟩, ⟨0, 10, 21, 15⟩] := vx_table (x := y_Law_add) B (hts _ List.mem_cons_self)
  subst hsz
  have hD := hD0.self (sz := s.heap.size)
  generalize hAe : va_A (uw_HT ad_ht cA_ht (ad_rd 0) (ad_sp 0) (ad_mx 0) (ad_ar 0) (ad_tb 0) (ad_tc 0) ht ++ (uw_Out ad_ot cA_ot ot ++ (uw_Mixture ad_mx cA_mx mx ++ (uw_Table ad_tb cA_tb tb)))) s.heap.size = A at hD hX ⊢
  have hA : ∀ q : Nat, s.heap.size ≤ q → A q := fun q h => by rw [← hAe]; exact Or.inr h
  have hS : va_S A s.heap s.heap [] := va_S.rf
  have hP : va_P (dC, dI) vwCl (uw_HT ad_ht cA_ht (ad_rd 0) (ad_sp 0) (ad_mx 0) (ad_ar 0) (ad_tb 0) (ad_tc 0) ht ++ (uw_Out ad_ot cA_ot ot ++ (uw_Mixture ad_mx cA_mx mx ++ (uw_Table ad_tb cA_tb tb)))) s.heap := hP
  have ret : ∀ (v : Int32) (u : SOut × SMixture) (H : Heap) (locs : List Loc) (ls : Array Slot) (pc : Nat), decode b_Law_add pc = .ok (.ireturn, 1) → (v = res.1 ∧ u = res.2) → va_P (dC, dI) vwCl (uw_HT ad_ht cA_ht (ad_rd 0) (ad_sp 0) (ad_mx 0) (ad_ar 0) (ad_tb 0) (ad_tc 0) ht ++ (uw_Out ad_ot cA_ot u.1 ++ (uw_Mixture ad_mx cA_mx u.2 ++ (uw_Table ad_tb cA_tb tb)))) H → va_D A (uw_HT ad_ht cA_ht (ad_rd 0) (ad_sp 0) (ad_mx 0) (ad_ar 0) (ad_tb 0) (ad_tc 0) ht ++ (uw_Out ad_ot cA_ot u.1 ++ (uw_Mixture ad_mx cA_mx u.2 ++ (uw_Table ad_tb cA_tb tb)))) → va_S A s.heap H locs → W p l e (headSpec w_Law_add ({ frames := 7, cells := 1, slots := 6, locals := 116 })).room s m ([.ref (ad_ht 0), .int x1, .int x2, .ref (ad_ot 1)] : List Value).toArray below meth c H locs 1 6 (MQ below (va_Qi (fun (r : Int32) (u : SOut × SMixture) => r = res.1 ∧ u = res.2) (fun (u : SOut × SMixture) (t : State) => va_P (dC, dI) vwCl (uw_HT ad_ht cA_ht (ad_rd 0) (ad_sp 0) (ad_mx 0) (ad_ar 0) (ad_tb 0) (ad_tc 0) ht ++ (uw_Out ad_ot cA_ot u.1 ++ (uw_Mixture ad_mx cA_mx u.2 ++ (uw_Table ad_tb cA_tb tb)))) t.heap ∧ va_K (dC, dI) vwCl [(cA_ht 1, .int), (cA_ot 1, .long), (cA_mx 1, .int), (cA_mx 2, .int), (cA_mx 3, .boolean), (cA_tb 1, .int), (cA_tb 2, .int), (cA_tb 3, .int), (cA_tb 4, .byte)] t ∧ va_D A (uw_HT ad_ht cA_ht (ad_rd 0) (ad_sp 0) (ad_mx 0) (ad_ar 0) (ad_tb 0) (ad_tc 0) ht ++ (uw_Out ad_ot cA_ot u.1 ++ (uw_Mixture ad_mx cA_mx u.2 ++ (uw_Table ad_tb cA_tb tb))))) A) ([.ref (ad_ht 0), .int x1, .int x2, .ref (ad_ot 1)] : List Value).toArray s 1 6 A) (F0 m pc ls [.int v]) := fun v u H locs ls pc hd hp hP hD hS => W.iret (v := v) hx hb hr (fun t ht hW => ⟨⟨v, u, rfl, hp, by rw [ht]; exact hP, va_K.moved hW.alike hK, hD⟩, hS.F ht⟩) hS.2.2 hd
  generalize (MQ below (va_Qi (fun (r : Int32) (u : SOut × SMixture) => r = res.1 ∧ u = res.2) (fun (u : SOut × SMixture) (t : State) => va_P (dC, dI) vwCl (uw_HT ad_ht cA_ht (ad_rd 0) (ad_sp 0) (ad_mx 0) (ad_ar 0) (ad_tb 0) (ad_tc 0) ht ++ (uw_Out ad_ot cA_ot u.1 ++ (uw_Mixture ad_mx cA_mx u.2 ++ (uw_Table ad_tb cA_tb tb)))) t.heap ∧ va_K (dC, dI) vwCl [(cA_ht 1, .int), (cA_ot 1, .long), (cA_mx 1, .int), (cA_mx 2, .int), (cA_mx 3, .boolean), (cA_tb 1, .int), (cA_tb 2, .int), (cA_tb 3, .int), (cA_tb 4, .byte)] t ∧ va_D A (uw_HT ad_ht cA_ht (ad_rd 0) (ad_sp 0) (ad_mx 0) (ad_ar 0) (ad_tb 0) (ad_tc 0) ht ++ (uw_Out ad_ot cA_ot u.1 ++ (uw_Mixture ad_mx cA_mx u.2 ++ (uw_Table ad_tb cA_tb tb))))) A) ([.ref (ad_ht 0), .int x1, .int x2, .ref (ad_ot 1)] : List Value).toArray s 1 6 A) = Q at ret ⊢
  have hl := lv_entry ([.ref (ad_ht 0), .int x1, .int x2, .ref (ad_ot 1)]) (n := 5) (Nat.le_of_ble_eq_true rfl)
  rw [lg_entry_eq]
  generalize (lg_sl ([.ref (ad_ht 0), .int x1, .int x2, .ref (ad_ot 1)]) ++ List.replicate (5 - (lg_sl ([.ref (ad_ht 0), .int x1, .int x2, .ref (ad_ot 1)])).length) Slot.unset).toArray = ls at hl ⊢
  have hl : lv_has ls 5 [(0, .ref (ad_ht 0)), (1, .int x1), (2, .int x2), (3, .ref (ad_ot 1))] := hl
  have hf := hf
  rw [f_Law_add] at hf
  obtain ⟨H, hH⟩ : ∃ H : Heap, H = s.heap := ⟨_, rfl⟩
  obtain ⟨locs, hlocs⟩ : ∃ L : List Loc, L = [] := ⟨_, rfl⟩
  have hP : va_P (dC, dI) vwCl (uw_HT ad_ht cA_ht (ad_rd 0) (ad_sp 0) (ad_mx 0) (ad_ar 0) (ad_tb 0) (ad_tc 0) ht ++ (uw_Out ad_ot cA_ot ot ++ (uw_Mixture ad_mx cA_mx mx ++ (uw_Table ad_tb cA_tb tb)))) H := by rw [hH]; exact hP
  have hS : va_S A s.heap H locs := by rw [hH, hlocs]; exact hS
  show W p l e (headSpec w_Law_add ({ frames := 7, cells := 1, slots := 6, locals := 116 })).room s m ([.ref (ad_ht 0), .int x1, .int x2, .ref (ad_ot 1)] : List Value).toArray below meth c s.heap [] 0 0 Q (F0 m 0 ls [])
  suffices hgo : W p l e (headSpec w_Law_add ({ frames := 7, cells := 1, slots := 6, locals := 116 })).room s m ([.ref (ad_ht 0), .int x1, .int x2, .ref (ad_ot 1)] : List Value).toArray below meth c H locs 0 0 Q (F0 m 0 ls []) by rw [hH, hlocs] at hgo; exact hgo
  clear hH hlocs
  refine lv_aload_n hx hb d_Law_add_0 rfl (lv_at hl 3 rfl) ?_
  refine lv_iconst (v := (0 : Int32)) hx hb d_Law_add_1 (by decide) ?_
  refine lv_aload_n hx hb d_Law_add_2 rfl (lv_at hl 0 rfl) ?_
  refine lv_iload_n hx hb d_Law_add_3 rfl (lv_at hl 1 rfl) ?_
  refine lv_iload_n hx hb d_Law_add_4 rfl (lv_at hl 2 rfl) ?_
  obtain ⟨u1, hu1, hf⟩ := Option.bind_eq_some_iff.mp hf
  refine cx_i (wc := (uw_HT ad_ht cA_ht (ad_rd 0) (ad_sp 0) (ad_mx 0) (ad_ar 0) (ad_tb 0) (ad_tc 0) ht ++ (uw_Mixture ad_mx cA_mx mx ++ (uw_Table ad_tb cA_tb tb)))) (wr := (uw_Out ad_ot cA_ot ot)) (tysC := [(cA_ht 1, .int), (cA_mx 1, .int), (cA_mx 2, .int), (cA_mx 3, .boolean), (cA_tb 1, .int), (cA_tb 2, .int), (cA_tb 3, .int), (cA_tb 4, .byte)]) (wu := fun (u : SMixture) => (uw_HT ad_ht cA_ht (ad_rd 0) (ad_sp 0) (ad_mx 0) (ad_ar 0) (ad_tb 0) (ad_tc 0) ht ++ (uw_Mixture ad_mx cA_mx u ++ (uw_Table ad_tb cA_tb tb)))) (wn := fun (u : SMixture) => (uw_HT ad_ht cA_ht (ad_rd 0) (ad_sp 0) (ad_mx 0) (ad_ar 0) (ad_tb 0) (ad_tc 0) ht ++ (uw_Out ad_ot cA_ot ot ++ (uw_Mixture ad_mx cA_mx u ++ (uw_Table ad_tb cA_tb tb))))) (wux := fun (u : SMixture) => (uw_HT ad_ht cA_ht (ad_rd 0) (ad_sp 0) (ad_mx 0) (ad_ar 0) (ad_tb 0) (ad_tc 0) ht ++ (uw_Mixture ad_mx cA_mx u ++ (uw_Table ad_tb cA_tb tb)))) (wnx := fun (u : SMixture) => (uw_HT ad_ht cA_ht (ad_rd 0) (ad_sp 0) (ad_mx 0) (ad_ar 0) (ad_tb 0) (ad_tc 0) ht ++ (uw_Out ad_ot cA_ot ot ++ (uw_Mixture ad_mx cA_mx u ++ (uw_Table ad_tb cA_tb tb))))) [0, 1, 3, 4, 5, 6, 7, 8, 9, 10, 11] [2] [1, 2, 0, 3, 4, 5, 6, 7, 8, 9, 10, 11] [0, 2, 3, 4, 5, 6, 7, 8] hP hD hS hA hK rfl rfl (by decide +kernel) (by decide +kernel) (by decide +kernel) rfl (fun _ => rfl) (fun _ => rfl) (by decide +kernel) (fun hPc hKc hDc hFc => (vx_runV (As := [.int x1, .int x2]) (rest := [.int (0 : Int32), .ref (ad_ot 1)]) ⟨hx, hb, hml, hown, hts⟩ (k_HT_add l dC dI ad_ht cA_ht ad_mx cA_mx ad_tb cA_tb ad_rd cA_rd ad_sp cA_sp ad_ar cA_ar ad_tc cA_tc H.size ht mx tb x1 x2 u1 hu1 htr) (cwV 2 hts (gV wd_570 wd_571 wd_572 wd_43 wd_573) rfl rfl rfl (by decide +kernel) ⟨Nat.le_of_ble_eq_true rfl, Nat.le_of_ble_eq_true rfl⟩) (cx_preV hPc hKc hDc hN (fun U hU hW => xAll_at hX hS hFc hU hW) (ci := 5) 0 rfl rfl) rfl rfl hl.1 rfl (lv_room (Nat.le_of_ble_eq_true rfl)) d_Law_add_5 ⟨Nat.le_of_ble_eq_true rfl, Nat.le_of_ble_eq_true rfl⟩)) (fun E ce q9 u H locs hw hE hP hD hS hce hcv hcl => ?_) (fun r u H locs hw hP hD hS => ?_)
  · obtain ⟨bu1, rfl⟩ : ∃ z, z = u := ⟨_, rfl⟩
    subst hw
    have hf := hf_r hf
    have hP : va_P (dC, dI) vwCl (uw_HT ad_ht cA_ht (ad_rd 0) (ad_sp 0) (ad_mx 0) (ad_ar 0) (ad_tb 0) (ad_tc 0) ht ++ (uw_Out ad_ot cA_ot ot ++ (uw_Mixture ad_mx cA_mx bu1.2 ++ (uw_Table ad_tb cA_tb tb)))) H := hP
    have hD : va_D A (uw_HT ad_ht cA_ht (ad_rd 0) (ad_sp 0) (ad_mx 0) (ad_ar 0) (ad_tb 0) (ad_tc 0) ht ++ (uw_Out ad_ot cA_ot ot ++ (uw_Mixture ad_mx cA_mx bu1.2 ++ (uw_Table ad_tb cA_tb tb)))) := hD
    by_cases hc2 : bu1.1 = 0
    · have hf := hf_t hf hc2
      have hE : E = "java/lang/IllegalArgumentException" := by rw [hE, hc2]; rfl
      subst hE
      refine vx_catch (own := "HazardTablesLaw") (name := "java/lang/IllegalArgumentException") (E := "java/lang/IllegalArgumentException") hown [] ⟨0, 10, 13, 27⟩ [⟨0, 10, 17, 13⟩, ⟨0, 10, 21, 15⟩] htab (fun z hz => absurd hz List.not_mem_nil) (by decide) (by decide) (hts _ (List.mem_cons_of_mem _ wd_469)) (va_Nw.use rfl (hX.2.2.2 (.castable "java/lang/IllegalArgumentException" "java/lang/IllegalArgumentException") (by decide))) hce hcv hcl ?_
      refine lv_astore (lv' := [(4, .ref q9), (0, .ref (ad_ht 0)), (1, .int x1), (2, .int x2), (3, .ref (ad_ot 1))]) hx hb d_Law_add_13 hl (by decide) rfl (fun ls hl => ?_)
      refine lv_iconst (v := (1 : Int32)) hx hb d_Law_add_15 (by decide) ?_
      exact ret (1 : Int32) (ot, bu1.2) H locs ls 16 d_Law_add_16 (hf_e hf) hP hD hS
    have hf := hf_f hf hc2
    by_cases hc3 : bu1.1 = 1
    · have hf := hf_t hf hc3
      have hE : E = "java/lang/IndexOutOfBoundsException" := by rw [hE, hc3]; rfl
      subst hE
      refine vx_catch (own := "HazardTablesLaw") (name := "java/lang/IndexOutOfBoundsException") (E := "java/lang/IndexOutOfBoundsException") hown [⟨0, 10, 13, 27⟩] ⟨0, 10, 17, 13⟩ [⟨0, 10, 21, 15⟩] htab (List.forall_mem_cons.mpr ⟨Or.inr ⟨by decide, "java/lang/IllegalArgumentException", (hts _ (List.mem_cons_of_mem _ wd_469)), hnc 1 (by decide) 0 (by decide) (by decide)⟩, fun z hz => absurd hz List.not_mem_nil⟩) (by decide) (by decide) (hts _ (List.mem_cons_of_mem _ wd_241)) (va_Nw.use rfl (hX.2.2.2 (.castable "java/lang/IndexOutOfBoundsException" "java/lang/IndexOutOfBoundsException") (by decide))) hce hcv hcl ?_
      refine lv_astore (lv' := [(4, .ref q9), (0, .ref (ad_ht 0)), (1, .int x1), (2, .int x2), (3, .ref (ad_ot 1))]) hx hb d_Law_add_17 hl (by decide) rfl (fun ls hl => ?_)
      refine lv_iconst (v := (2 : Int32)) hx hb d_Law_add_19 (by decide) ?_
      exact ret (2 : Int32) (ot, bu1.2) H locs ls 20 d_Law_add_20 (hf_e hf) hP hD hS
    have hf := hf_f hf hc3
    by_cases hc4 : bu1.1 = 3
    · have hf := hf_t hf hc4
      have hE : E = "java/lang/UnsupportedOperationException" := by rw [hE, hc4]; rfl
      subst hE
      refine vx_catch (own := "HazardTablesLaw") (name := "java/lang/UnsupportedOperationException") (E := "java/lang/UnsupportedOperationException") hown [⟨0, 10, 13, 27⟩, ⟨0, 10, 17, 13⟩] ⟨0, 10, 21, 15⟩ [] htab (List.forall_mem_cons.mpr ⟨Or.inr ⟨by decide, "java/lang/IllegalArgumentException", (hts _ (List.mem_cons_of_mem _ wd_469)), hnc 3 (by decide) 0 (by decide) (by decide)⟩, List.forall_mem_cons.mpr ⟨Or.inr ⟨by decide, "java/lang/IndexOutOfBoundsException", (hts _ (List.mem_cons_of_mem _ wd_241)), hnc 3 (by decide) 1 (by decide) (by decide)⟩, fun z hz => absurd hz List.not_mem_nil⟩⟩) (by decide) (by decide) (hts _ (List.mem_cons_of_mem _ wd_242)) (va_Nw.use rfl (hX.2.2.2 (.castable "java/lang/UnsupportedOperationException" "java/lang/UnsupportedOperationException") (by decide))) hce hcv hcl ?_
      refine lv_astore (lv' := [(4, .ref q9), (0, .ref (ad_ht 0)), (1, .int x1), (2, .int x2), (3, .ref (ad_ot 1))]) hx hb d_Law_add_21 hl (by decide) rfl (fun ls hl => ?_)
      refine lv_iconst (v := (3 : Int32)) hx hb d_Law_add_23 (by decide) ?_
      exact ret (3 : Int32) (ot, bu1.2) H locs ls 24 d_Law_add_24 (hf_e hf) hP hD hS
    have hf := hf_f hf hc4
    exact nomatch hf
  · obtain ⟨au1, rfl, rfl⟩ : ∃ z : Int32 × (SMixture), r = z.1 ∧ u = z.2 := ⟨(r, u), rfl, rfl⟩
    have hw : u1 = .inl au1 := hw
    subst hw
    have hf := hf_l hf
    have hP : va_P (dC, dI) vwCl (uw_HT ad_ht cA_ht (ad_rd 0) (ad_sp 0) (ad_mx 0) (ad_ar 0) (ad_tb 0) (ad_tc 0) ht ++ (uw_Out ad_ot cA_ot ot ++ (uw_Mixture ad_mx cA_mx au1.2 ++ (uw_Table ad_tb cA_tb tb)))) H := hP
    have hD : va_D A (uw_HT ad_ht cA_ht (ad_rd 0) (ad_sp 0) (ad_mx 0) (ad_ar 0) (ad_tb 0) (ad_tc 0) ht ++ (uw_Out ad_ot cA_ot ot ++ (uw_Mixture ad_mx cA_mx au1.2 ++ (uw_Table ad_tb cA_tb tb)))) := hD
    refine lv_i2l (v := au1.1.toInt64) hx hb d_Law_add_8 rfl ?_
    obtain ⟨hi5, hf⟩ := hf_g hf
    refine va_last hx hb hK hP hD hS 2 1 rfl rfl hi5 d_Law_add_9 (fun H locs hP hD hS => ?_)
    have hP : va_P (dC, dI) vwCl (uw_HT ad_ht cA_ht (ad_rd 0) (ad_sp 0) (ad_mx 0) (ad_ar 0) (ad_tb 0) (ad_tc 0) ht ++ (uw_Out ad_ot cA_ot (vp_updL ot (0 : Int32).toNatClampNeg au1.1.toInt64) ++ (uw_Mixture ad_mx cA_mx au1.2 ++ (uw_Table ad_tb cA_tb tb)))) H := hP
    have hD : va_D A (uw_HT ad_ht cA_ht (ad_rd 0) (ad_sp 0) (ad_mx 0) (ad_ar 0) (ad_tb 0) (ad_tc 0) ht ++ (uw_Out ad_ot cA_ot (vp_updL ot (0 : Int32).toNatClampNeg au1.1.toInt64) ++ (uw_Mixture ad_mx cA_mx au1.2 ++ (uw_Table ad_tb cA_tb tb)))) := hD
    refine lv_goto (tgt := 25) hx hb d_Law_add_10 (by decide) ?_
    refine lv_iconst (v := (0 : Int32)) hx hb d_Law_add_25 (by decide) ?_
    exact ret (0 : Int32) ((vp_updL ot (0 : Int32).toNatClampNeg au1.1.toInt64), au1.2) H locs ls 26 d_Law_add_26 (hf_e hf) hP hD hS
noncomputable def f_Law_mixture (ht : SHT) (ot : SOut) (mx : SMixture) (tb : STable) (x1 : Int32) : Option (Int32 × SOut) :=
  (Option.bind (f_HT_mixture ht mx tb x1) fun u1 => Sum.elim (fun au1 =>
    (if inb (0 : Int32) 1 then
      (some ((0 : Int32), (vp_updL ot (0 : Int32).toNatClampNeg au1.toInt64)))
     else none)
   ) (fun bu1 =>
    (if bu1.1 = 0 then
      (some ((1 : Int32), ot))
     else
    (if bu1.1 = 2 then
      (some ((2 : Int32), ot))
     else
      none
     ))
   ) u1)
set_option maxHeartbeats 4000000 in
set_option maxRecDepth 100000 in
theorem k_Law_mixture (l : Launch) (dC : Nat → ClassId) (dI : Nat → Nat → Nat) (ad_ht : Nat → Nat) (cA_ht : Nat → ClassId) (ad_ot : Nat → Nat) (cA_ot : Nat → ClassId) (ad_mx : Nat → Nat) (cA_mx : Nat → ClassId) (ad_tb : Nat → Nat) (cA_tb : Nat → ClassId) (ad_rd : Nat → Nat) (cA_rd : Nat → ClassId) (ad_sp : Nat → Nat) (cA_sp : Nat → ClassId) (ad_ar : Nat → Nat) (cA_ar : Nat → ClassId) (ad_tc : Nat → Nat) (cA_tc : Nat → ClassId) (sz : Nat) (ht : SHT) (ot : SOut) (mx : SMixture) (tb : STable) (x1 : Int32) (res : Int32 × SOut) (hf : f_Law_mixture ht ot mx tb x1 = some res) (htr : l.stackTraces = false) : Met l y_Law_mixture w_Law_mixture ({ frames := 7, cells := 1, slots := 6, locals := 113 }) (lPc (dC, dI) (uw_HT ad_ht cA_ht (ad_rd 0) (ad_sp 0) (ad_mx 0) (ad_ar 0) (ad_tb 0) (ad_tc 0) ht ++ (uw_Out ad_ot cA_ot ot ++ (uw_Mixture ad_mx cA_mx mx ++ (uw_Table ad_tb cA_tb tb)))) [(cA_ht 1, .int), (cA_ot 1, .long), (cA_mx 1, .int), (cA_mx 2, .int), (cA_mx 3, .boolean), (cA_tb 1, .int), (cA_tb 2, .int), (cA_tb 3, .int), (cA_tb 4, .byte)] sz [.ref (ad_ht 0), .int x1, .ref (ad_ot 1)]) (va_Qi (fun (r : Int32) (u : SOut) => r = res.1 ∧ u = res.2) (fun (u : SOut) (t : State) => va_P (dC, dI) vwCl (uw_HT ad_ht cA_ht (ad_rd 0) (ad_sp 0) (ad_mx 0) (ad_ar 0) (ad_tb 0) (ad_tc 0) ht ++ (uw_Out ad_ot cA_ot u ++ (uw_Mixture ad_mx cA_mx mx ++ (uw_Table ad_tb cA_tb tb)))) t.heap ∧ va_K (dC, dI) vwCl [(cA_ht 1, .int), (cA_ot 1, .long), (cA_mx 1, .int), (cA_mx 2, .int), (cA_mx 3, .boolean), (cA_tb 1, .int), (cA_tb 2, .int), (cA_tb 3, .int), (cA_tb 4, .byte)] t ∧ va_D (va_A (uw_HT ad_ht cA_ht (ad_rd 0) (ad_sp 0) (ad_mx 0) (ad_ar 0) (ad_tb 0) (ad_tc 0) ht ++ (uw_Out ad_ot cA_ot ot ++ (uw_Mixture ad_mx cA_mx mx ++ (uw_Table ad_tb cA_tb tb)))) sz) (uw_HT ad_ht cA_ht (ad_rd 0) (ad_sp 0) (ad_mx 0) (ad_ar 0) (ad_tb 0) (ad_tc 0) ht ++ (uw_Out ad_ot cA_ot u ++ (uw_Mixture ad_mx cA_mx mx ++ (uw_Table ad_tb cA_tb tb))))) (va_A (uw_HT ad_ht cA_ht (ad_rd 0) (ad_sp 0) (ad_mx 0) (ad_ar 0) (ad_tb 0) (ad_tc 0) ht ++ (uw_Out ad_ot cA_ot ot ++ (uw_Mixture ad_mx cA_mx mx ++ (uw_Table ad_tb cA_tb tb)))) sz)) 1 6 (va_A (uw_HT ad_ht cA_ht (ad_rd 0) (ad_sp 0) (ad_mx 0) (ad_ar 0) (ad_tb 0) (ad_tc 0) ht ++ (uw_Out ad_ot cA_ot ot ++ (uw_Mixture ad_mx cA_mx mx ++ (uw_Table ad_tb cA_tb tb)))) sz) := by
  refine met_ofWH (hh := [(0, 9, 12, 27), (0, 9, 15, 21)]) (cc := b_Law_mixture) (maxL := 4) (ret := (some .int)) (by decide) rfl ?_
  intro p e s m args below meth c s₁ B hml hv
  obtain ⟨rfl, hsz, hP, hK, hD0, hN, hX, hnc⟩ := hv
  have hx := B.exec
  have hb := B.bytes
  have hr := B.returns
  have hts := atoms_spec (ws := w_Law_mixture) B.pre
  have hown : s.vm.findClass "HazardTablesLaw" = some m.cls := findClass_of_methodNamed B.named
  have hlocks := B.notSynchronized
  have htab : c.exceptionTable.toList = [⟨0, 9, 12, 27⟩, ⟨0, 9, 15, 21⟩] := vx_table (x := y_Law_mixture) B (hts _ List.mem_cons_self)
  subst hsz
  have hD := hD0.self (sz := s.heap.size)
  generalize hAe : va_A (uw_HT ad_ht cA_ht (ad_rd 0) (ad_sp 0) (ad_mx 0) (ad_ar 0) (ad_tb 0) (ad_tc 0) ht ++ (uw_Out ad_ot cA_ot ot ++ (uw_Mixture ad_mx cA_mx mx ++ (uw_Table ad_tb cA_tb tb)))) s.heap.size = A at hD hX ⊢
  have hA : ∀ q : Nat, s.heap.size ≤ q → A q := fun q h => by rw [← hAe]; exact Or.inr h
  have hS : va_S A s.heap s.heap [] := va_S.rf
  have hP : va_P (dC, dI) vwCl (uw_HT ad_ht cA_ht (ad_rd 0) (ad_sp 0) (ad_mx 0) (ad_ar 0) (ad_tb 0) (ad_tc 0) ht ++ (uw_Out ad_ot cA_ot ot ++ (uw_Mixture ad_mx cA_mx mx ++ (uw_Table ad_tb cA_tb tb)))) s.heap := hP
  have ret : ∀ (v : Int32) (u : SOut) (H : Heap) (locs : List Loc) (ls : Array Slot) (pc : Nat), decode b_Law_mixture pc = .ok (.ireturn, 1) → (v = res.1 ∧ u = res.2) → va_P (dC, dI) vwCl (uw_HT ad_ht cA_ht (ad_rd 0) (ad_sp 0) (ad_mx 0) (ad_ar 0) (ad_tb 0) (ad_tc 0) ht ++ (uw_Out ad_ot cA_ot u ++ (uw_Mixture ad_mx cA_mx mx ++ (uw_Table ad_tb cA_tb tb)))) H → va_D A (uw_HT ad_ht cA_ht (ad_rd 0) (ad_sp 0) (ad_mx 0) (ad_ar 0) (ad_tb 0) (ad_tc 0) ht ++ (uw_Out ad_ot cA_ot u ++ (uw_Mixture ad_mx cA_mx mx ++ (uw_Table ad_tb cA_tb tb)))) → va_S A s.heap H locs → W p l e (headSpec w_Law_mixture ({ frames := 7, cells := 1, slots := 6, locals := 113 })).room s m ([.ref (ad_ht 0), .int x1, .ref (ad_ot 1)] : List Value).toArray below meth c H locs 1 6 (MQ below (va_Qi (fun (r : Int32) (u : SOut) => r = res.1 ∧ u = res.2) (fun (u : SOut) (t : State) => va_P (dC, dI) vwCl (uw_HT ad_ht cA_ht (ad_rd 0) (ad_sp 0) (ad_mx 0) (ad_ar 0) (ad_tb 0) (ad_tc 0) ht ++ (uw_Out ad_ot cA_ot u ++ (uw_Mixture ad_mx cA_mx mx ++ (uw_Table ad_tb cA_tb tb)))) t.heap ∧ va_K (dC, dI) vwCl [(cA_ht 1, .int), (cA_ot 1, .long), (cA_mx 1, .int), (cA_mx 2, .int), (cA_mx 3, .boolean), (cA_tb 1, .int), (cA_tb 2, .int), (cA_tb 3, .int), (cA_tb 4, .byte)] t ∧ va_D A (uw_HT ad_ht cA_ht (ad_rd 0) (ad_sp 0) (ad_mx 0) (ad_ar 0) (ad_tb 0) (ad_tc 0) ht ++ (uw_Out ad_ot cA_ot u ++ (uw_Mixture ad_mx cA_mx mx ++ (uw_Table ad_tb cA_tb tb))))) A) ([.ref (ad_ht 0), .int x1, .ref (ad_ot 1)] : List Value).toArray s 1 6 A) (F0 m pc ls [.int v]) := fun v u H locs ls pc hd hp hP hD hS => W.iret (v := v) hx hb hr (fun t ht hW => ⟨⟨v, u, rfl, hp, by rw [ht]; exact hP, va_K.moved hW.alike hK, hD⟩, hS.F ht⟩) hS.2.2 hd
  generalize (MQ below (va_Qi (fun (r : Int32) (u : SOut) => r = res.1 ∧ u = res.2) (fun (u : SOut) (t : State) => va_P (dC, dI) vwCl (uw_HT ad_ht cA_ht (ad_rd 0) (ad_sp 0) (ad_mx 0) (ad_ar 0) (ad_tb 0) (ad_tc 0) ht ++ (uw_Out ad_ot cA_ot u ++ (uw_Mixture ad_mx cA_mx mx ++ (uw_Table ad_tb cA_tb tb)))) t.heap ∧ va_K (dC, dI) vwCl [(cA_ht 1, .int), (cA_ot 1, .long), (cA_mx 1, .int), (cA_mx 2, .int), (cA_mx 3, .boolean), (cA_tb 1, .int), (cA_tb 2, .int), (cA_tb 3, .int), (cA_tb 4, .byte)] t ∧ va_D A (uw_HT ad_ht cA_ht (ad_rd 0) (ad_sp 0) (ad_mx 0) (ad_ar 0) (ad_tb 0) (ad_tc 0) ht ++ (uw_Out ad_ot cA_ot u ++ (uw_Mixture ad_mx cA_mx mx ++ (uw_Table ad_tb cA_tb tb))))) A) ([.ref (ad_ht 0), .int x1, .ref (ad_ot 1)] : List Value).toArray s 1 6 A) = Q at ret ⊢
  have hl := lv_entry ([.ref (ad_ht 0), .int x1, .ref (ad_ot 1)]) (n := 4) (Nat.le_of_ble_eq_true rfl)
  rw [lg_entry_eq]
  generalize (lg_sl ([.ref (ad_ht 0), .int x1, .ref (ad_ot 1)]) ++ List.replicate (4 - (lg_sl ([.ref (ad_ht 0), .int x1, .ref (ad_ot 1)])).length) Slot.unset).toArray = ls at hl ⊢
  have hl : lv_has ls 4 [(0, .ref (ad_ht 0)), (1, .int x1), (2, .ref (ad_ot 1))] := hl
  have hf := hf
  rw [f_Law_mixture] at hf
  obtain ⟨H, hH⟩ : ∃ H : Heap, H = s.heap := ⟨_, rfl⟩
  obtain ⟨locs, hlocs⟩ : ∃ L : List Loc, L = [] := ⟨_, rfl⟩
  have hP : va_P (dC, dI) vwCl (uw_HT ad_ht cA_ht (ad_rd 0) (ad_sp 0) (ad_mx 0) (ad_ar 0) (ad_tb 0) (ad_tc 0) ht ++ (uw_Out ad_ot cA_ot ot ++ (uw_Mixture ad_mx cA_mx mx ++ (uw_Table ad_tb cA_tb tb)))) H := by rw [hH]; exact hP
  have hS : va_S A s.heap H locs := by rw [hH, hlocs]; exact hS
  show W p l e (headSpec w_Law_mixture ({ frames := 7, cells := 1, slots := 6, locals := 113 })).room s m ([.ref (ad_ht 0), .int x1, .ref (ad_ot 1)] : List Value).toArray below meth c s.heap [] 0 0 Q (F0 m 0 ls [])
  suffices hgo : W p l e (headSpec w_Law_mixture ({ frames := 7, cells := 1, slots := 6, locals := 113 })).room s m ([.ref (ad_ht 0), .int x1, .ref (ad_ot 1)] : List Value).toArray below meth c H locs 0 0 Q (F0 m 0 ls []) by rw [hH, hlocs] at hgo; exact hgo
  clear hH hlocs
  refine lv_aload_n hx hb d_Law_mixture_0 rfl (lv_at hl 2 rfl) ?_
  refine lv_iconst (v := (0 : Int32)) hx hb d_Law_mixture_1 (by decide) ?_
  refine lv_aload_n hx hb d_Law_mixture_2 rfl (lv_at hl 0 rfl) ?_
  refine lv_iload_n hx hb d_Law_mixture_3 rfl (lv_at hl 1 rfl) ?_
  obtain ⟨u1, hu1, hf⟩ := Option.bind_eq_some_iff.mp hf
  refine cx_i (wc := (uw_HT ad_ht cA_ht (ad_rd 0) (ad_sp 0) (ad_mx 0) (ad_ar 0) (ad_tb 0) (ad_tc 0) ht ++ (uw_Mixture ad_mx cA_mx mx ++ (uw_Table ad_tb cA_tb tb)))) (wr := (uw_Out ad_ot cA_ot ot)) (tysC := [(cA_ht 1, .int), (cA_mx 1, .int), (cA_mx 2, .int), (cA_mx 3, .boolean), (cA_tb 1, .int), (cA_tb 2, .int), (cA_tb 3, .int), (cA_tb 4, .byte)]) (wu := fun (u : Unit) => (uw_HT ad_ht cA_ht (ad_rd 0) (ad_sp 0) (ad_mx 0) (ad_ar 0) (ad_tb 0) (ad_tc 0) ht ++ (uw_Mixture ad_mx cA_mx mx ++ (uw_Table ad_tb cA_tb tb)))) (wn := fun (u : Unit) => (uw_HT ad_ht cA_ht (ad_rd 0) (ad_sp 0) (ad_mx 0) (ad_ar 0) (ad_tb 0) (ad_tc 0) ht ++ (uw_Out ad_ot cA_ot ot ++ (uw_Mixture ad_mx cA_mx mx ++ (uw_Table ad_tb cA_tb tb))))) (wux := fun (u : Unit) => (uw_HT ad_ht cA_ht (ad_rd 0) (ad_sp 0) (ad_mx 0) (ad_ar 0) (ad_tb 0) (ad_tc 0) ht ++ (uw_Mixture ad_mx cA_mx mx ++ (uw_Table ad_tb cA_tb tb)))) (wnx := fun (u : Unit) => (uw_HT ad_ht cA_ht (ad_rd 0) (ad_sp 0) (ad_mx 0) (ad_ar 0) (ad_tb 0) (ad_tc 0) ht ++ (uw_Out ad_ot cA_ot ot ++ (uw_Mixture ad_mx cA_mx mx ++ (uw_Table ad_tb cA_tb tb))))) [0, 1, 3, 4, 5, 6, 7, 8, 9, 10, 11] [2] [1, 2, 0, 3, 4, 5, 6, 7, 8, 9, 10, 11] [0, 2, 3, 4, 5, 6, 7, 8] hP hD hS hA hK rfl rfl (by decide +kernel) (by decide +kernel) (by decide +kernel) rfl (fun _ => rfl) (fun _ => rfl) (by decide +kernel) (fun hPc hKc hDc hFc => (vx_runV (As := [.int x1]) (rest := [.int (0 : Int32), .ref (ad_ot 1)]) ⟨hx, hb, hml, hown, hts⟩ (k_HT_mixture l dC dI ad_ht cA_ht ad_mx cA_mx ad_tb cA_tb ad_rd cA_rd ad_sp cA_sp ad_ar cA_ar ad_tc cA_tc H.size ht mx tb x1 u1 hu1 htr) (cwV 1 hts (gV wd_609 wd_610 wd_611 wd_43 wd_612) rfl rfl rfl (by decide +kernel) ⟨Nat.le_of_ble_eq_true rfl, Nat.le_of_ble_eq_true rfl⟩) (cx_preV hPc hKc hDc hN (fun U hU hW => xAll_at hX hS hFc hU hW) (ci := 5) 0 rfl rfl) rfl rfl hl.1 rfl (lv_room (Nat.le_of_ble_eq_true rfl)) d_Law_mixture_4 ⟨Nat.le_of_ble_eq_true rfl, Nat.le_of_ble_eq_true rfl⟩)) (fun E ce q9 u H locs hw hE hP hD hS hce hcv hcl => ?_) (fun r u H locs hw hP hD hS => ?_)
  · obtain ⟨bu1, rfl⟩ : ∃ z, z = u := ⟨_, rfl⟩
    subst hw
    have hf := hf_r hf
    have hP : va_P (dC, dI) vwCl (uw_HT ad_ht cA_ht (ad_rd 0) (ad_sp 0) (ad_mx 0) (ad_ar 0) (ad_tb 0) (ad_tc 0) ht ++ (uw_Out ad_ot cA_ot ot ++ (uw_Mixture ad_mx cA_mx mx ++ (uw_Table ad_tb cA_tb tb)))) H := hP
    have hD : va_D A (uw_HT ad_ht cA_ht (ad_rd 0) (ad_sp 0) (ad_mx 0) (ad_ar 0) (ad_tb 0) (ad_tc 0) ht ++ (uw_Out ad_ot cA_ot ot ++ (uw_Mixture ad_mx cA_mx mx ++ (uw_Table ad_tb cA_tb tb)))) := hD
    by_cases hc2 : bu1.1 = 0
    · have hf := hf_t hf hc2
      have hE : E = "java/lang/IllegalArgumentException" := by rw [hE, hc2]; rfl
      subst hE
      refine vx_catch (own := "HazardTablesLaw") (name := "java/lang/IllegalArgumentException") (E := "java/lang/IllegalArgumentException") hown [] ⟨0, 9, 12, 27⟩ [⟨0, 9, 15, 21⟩] htab (fun z hz => absurd hz List.not_mem_nil) (by decide) (by decide) (hts _ (List.mem_cons_of_mem _ wd_469)) (va_Nw.use rfl (hX.2.2.2 (.castable "java/lang/IllegalArgumentException" "java/lang/IllegalArgumentException") (by decide))) hce hcv hcl ?_
      refine lv_astore_n (lv' := [(3, .ref q9), (0, .ref (ad_ht 0)), (1, .int x1), (2, .ref (ad_ot 1))]) hx hb d_Law_mixture_12 rfl hl (by decide) rfl (fun ls hl => ?_)
      refine lv_iconst (v := (1 : Int32)) hx hb d_Law_mixture_13 (by decide) ?_
      exact ret (1 : Int32) ot H locs ls 14 d_Law_mixture_14 (hf_e hf) hP hD hS
    have hf := hf_f hf hc2
    by_cases hc3 : bu1.1 = 2
    · have hf := hf_t hf hc3
      have hE : E = "java/lang/IllegalStateException" := by rw [hE, hc3]; rfl
      subst hE
      refine vx_catch (own := "HazardTablesLaw") (name := "java/lang/IllegalStateException") (E := "java/lang/IllegalStateException") hown [⟨0, 9, 12, 27⟩] ⟨0, 9, 15, 21⟩ [] htab (List.forall_mem_cons.mpr ⟨Or.inr ⟨by decide, "java/lang/IllegalArgumentException", (hts _ (List.mem_cons_of_mem _ wd_469)), hnc 2 (by decide) 0 (by decide) (by decide)⟩, fun z hz => absurd hz List.not_mem_nil⟩) (by decide) (by decide) (hts _ (List.mem_cons_of_mem _ wd_345)) (va_Nw.use rfl (hX.2.2.2 (.castable "java/lang/IllegalStateException" "java/lang/IllegalStateException") (by decide))) hce hcv hcl ?_
      refine lv_astore_n (lv' := [(3, .ref q9), (0, .ref (ad_ht 0)), (1, .int x1), (2, .ref (ad_ot 1))]) hx hb d_Law_mixture_15 rfl hl (by decide) rfl (fun ls hl => ?_)
      refine lv_iconst (v := (2 : Int32)) hx hb d_Law_mixture_16 (by decide) ?_
      exact ret (2 : Int32) ot H locs ls 17 d_Law_mixture_17 (hf_e hf) hP hD hS
    have hf := hf_f hf hc3
    exact nomatch hf
  · obtain ⟨au1, rfl⟩ : ∃ z, z = r := ⟨_, rfl⟩
    subst hw
    have hf := hf_l hf
    have hP : va_P (dC, dI) vwCl (uw_HT ad_ht cA_ht (ad_rd 0) (ad_sp 0) (ad_mx 0) (ad_ar 0) (ad_tb 0) (ad_tc 0) ht ++ (uw_Out ad_ot cA_ot ot ++ (uw_Mixture ad_mx cA_mx mx ++ (uw_Table ad_tb cA_tb tb)))) H := hP
    have hD : va_D A (uw_HT ad_ht cA_ht (ad_rd 0) (ad_sp 0) (ad_mx 0) (ad_ar 0) (ad_tb 0) (ad_tc 0) ht ++ (uw_Out ad_ot cA_ot ot ++ (uw_Mixture ad_mx cA_mx mx ++ (uw_Table ad_tb cA_tb tb)))) := hD
    refine lv_i2l (v := au1.toInt64) hx hb d_Law_mixture_7 rfl ?_
    obtain ⟨hi4, hf⟩ := hf_g hf
    refine va_last hx hb hK hP hD hS 2 1 rfl rfl hi4 d_Law_mixture_8 (fun H locs hP hD hS => ?_)
    have hP : va_P (dC, dI) vwCl (uw_HT ad_ht cA_ht (ad_rd 0) (ad_sp 0) (ad_mx 0) (ad_ar 0) (ad_tb 0) (ad_tc 0) ht ++ (uw_Out ad_ot cA_ot (vp_updL ot (0 : Int32).toNatClampNeg au1.toInt64) ++ (uw_Mixture ad_mx cA_mx mx ++ (uw_Table ad_tb cA_tb tb)))) H := hP
    have hD : va_D A (uw_HT ad_ht cA_ht (ad_rd 0) (ad_sp 0) (ad_mx 0) (ad_ar 0) (ad_tb 0) (ad_tc 0) ht ++ (uw_Out ad_ot cA_ot (vp_updL ot (0 : Int32).toNatClampNeg au1.toInt64) ++ (uw_Mixture ad_mx cA_mx mx ++ (uw_Table ad_tb cA_tb tb)))) := hD
    refine lv_goto (tgt := 18) hx hb d_Law_mixture_9 (by decide) ?_
    refine lv_iconst (v := (0 : Int32)) hx hb d_Law_mixture_18 (by decide) ?_
    exact ret (0 : Int32) (vp_updL ot (0 : Int32).toNatClampNeg au1.toInt64) H locs ls 19 d_Law_mixture_19 (hf_e hf) hP hD hS
noncomputable def f_Law_strict (ht : SHT) (ot : SOut) (mx : SMixture) (tb : STable) (x1 : Int32) : Option (Int32 × SOut) :=
  (Option.bind (f_HT_strict ht mx tb x1) fun u1 => Sum.elim (fun au1 =>
    (if inb (0 : Int32) 1 then
      (some ((0 : Int32), (vp_updL ot (0 : Int32).toNatClampNeg au1.toInt64)))
     else none)
   ) (fun bu1 =>
    (if bu1.1 = 1 then
      (some ((1 : Int32), ot))
     else
      none
     )
   ) u1)
set_option maxHeartbeats 4000000 in
set_option maxRecDepth 100000 in
theorem k_Law_strict (l : Launch) (dC : Nat → ClassId) (dI : Nat → Nat → Nat) (ad_ht : Nat → Nat) (cA_ht : Nat → ClassId) (ad_ot : Nat → Nat) (cA_ot : Nat → ClassId) (ad_mx : Nat → Nat) (cA_mx : Nat → ClassId) (ad_tb : Nat → Nat) (cA_tb : Nat → ClassId) (ad_rd : Nat → Nat) (cA_rd : Nat → ClassId) (ad_sp : Nat → Nat) (cA_sp : Nat → ClassId) (ad_ar : Nat → Nat) (cA_ar : Nat → ClassId) (ad_tc : Nat → Nat) (cA_tc : Nat → ClassId) (sz : Nat) (ht : SHT) (ot : SOut) (mx : SMixture) (tb : STable) (x1 : Int32) (res : Int32 × SOut) (hf : f_Law_strict ht ot mx tb x1 = some res) (htr : l.stackTraces = false) : Met l y_Law_strict w_Law_strict ({ frames := 7, cells := 1, slots := 6, locals := 103 }) (lPc (dC, dI) (uw_HT ad_ht cA_ht (ad_rd 0) (ad_sp 0) (ad_mx 0) (ad_ar 0) (ad_tb 0) (ad_tc 0) ht ++ (uw_Out ad_ot cA_ot ot ++ (uw_Mixture ad_mx cA_mx mx ++ (uw_Table ad_tb cA_tb tb)))) [(cA_ht 1, .int), (cA_ot 1, .long), (cA_mx 1, .int), (cA_mx 2, .int), (cA_mx 3, .boolean), (cA_tb 1, .int), (cA_tb 2, .int), (cA_tb 3, .int), (cA_tb 4, .byte)] sz [.ref (ad_ht 0), .int x1, .ref (ad_ot 1)]) (va_Qi (fun (r : Int32) (u : SOut) => r = res.1 ∧ u = res.2) (fun (u : SOut) (t : State) => va_P (dC, dI) vwCl (uw_HT ad_ht cA_ht (ad_rd 0) (ad_sp 0) (ad_mx 0) (ad_ar 0) (ad_tb 0) (ad_tc 0) ht ++ (uw_Out ad_ot cA_ot u ++ (uw_Mixture ad_mx cA_mx mx ++ (uw_Table ad_tb cA_tb tb)))) t.heap ∧ va_K (dC, dI) vwCl [(cA_ht 1, .int), (cA_ot 1, .long), (cA_mx 1, .int), (cA_mx 2, .int), (cA_mx 3, .boolean), (cA_tb 1, .int), (cA_tb 2, .int), (cA_tb 3, .int), (cA_tb 4, .byte)] t ∧ va_D (va_A (uw_HT ad_ht cA_ht (ad_rd 0) (ad_sp 0) (ad_mx 0) (ad_ar 0) (ad_tb 0) (ad_tc 0) ht ++ (uw_Out ad_ot cA_ot ot ++ (uw_Mixture ad_mx cA_mx mx ++ (uw_Table ad_tb cA_tb tb)))) sz) (uw_HT ad_ht cA_ht (ad_rd 0) (ad_sp 0) (ad_mx 0) (ad_ar 0) (ad_tb 0) (ad_tc 0) ht ++ (uw_Out ad_ot cA_ot u ++ (uw_Mixture ad_mx cA_mx mx ++ (uw_Table ad_tb cA_tb tb))))) (va_A (uw_HT ad_ht cA_ht (ad_rd 0) (ad_sp 0) (ad_mx 0) (ad_ar 0) (ad_tb 0) (ad_tc 0) ht ++ (uw_Out ad_ot cA_ot ot ++ (uw_Mixture ad_mx cA_mx mx ++ (uw_Table ad_tb cA_tb tb)))) sz)) 1 6 (va_A (uw_HT ad_ht cA_ht (ad_rd 0) (ad_sp 0) (ad_mx 0) (ad_ar 0) (ad_tb 0) (ad_tc 0) ht ++ (uw_Out ad_ot cA_ot ot ++ (uw_Mixture ad_mx cA_mx mx ++ (uw_Table ad_tb cA_tb tb)))) sz) := by
  refine met_ofWH (hh := [(0, 9, 12, 13)]) (cc := b_Law_strict) (maxL := 4) (ret := (some .int)) (by decide) rfl ?_
  intro p e s m args below meth c s₁ B hml hv
  obtain ⟨rfl, hsz, hP, hK, hD0, hN, hX, hnc⟩ := hv
  have hx := B.exec
  have hb := B.bytes
  have hr := B.returns
  have hts := atoms_spec (ws := w_Law_strict) B.pre
  have hown : s.vm.findClass "HazardTablesLaw" = some m.cls := findClass_of_methodNamed B.named
  have hlocks := B.notSynchronized
  have htab : c.exceptionTable.toList = [⟨0, 9, 12, 13⟩] := vx_table (x := y_Law_strict) B (hts _ List.mem_cons_self)
  subst hsz
  have hD := hD0.self (sz := s.heap.size)
  generalize hAe : va_A (uw_HT ad_ht cA_ht (ad_rd 0) (ad_sp 0) (ad_mx 0) (ad_ar 0) (ad_tb 0) (ad_tc 0) ht ++ (uw_Out ad_ot cA_ot ot ++ (uw_Mixture ad_mx cA_mx mx ++ (uw_Table ad_tb cA_tb tb)))) s.heap.size = A at hD hX ⊢
  have hA : ∀ q : Nat, s.heap.size ≤ q → A q := fun q h => by rw [← hAe]; exact Or.inr h
  have hS : va_S A s.heap s.heap [] := va_S.rf
  have hP : va_P (dC, dI) vwCl (uw_HT ad_ht cA_ht (ad_rd 0) (ad_sp 0) (ad_mx 0) (ad_ar 0) (ad_tb 0) (ad_tc 0) ht ++ (uw_Out ad_ot cA_ot ot ++ (uw_Mixture ad_mx cA_mx mx ++ (uw_Table ad_tb cA_tb tb)))) s.heap := hP
  have ret : ∀ (v : Int32) (u : SOut) (H : Heap) (locs : List Loc) (ls : Array Slot) (pc : Nat), decode b_Law_strict pc = .ok (.ireturn, 1) → (v = res.1 ∧ u = res.2) → va_P (dC, dI) vwCl (uw_HT ad_ht cA_ht (ad_rd 0) (ad_sp 0) (ad_mx 0) (ad_ar 0) (ad_tb 0) (ad_tc 0) ht ++ (uw_Out ad_ot cA_ot u ++ (uw_Mixture ad_mx cA_mx mx ++ (uw_Table ad_tb cA_tb tb)))) H → va_D A (uw_HT ad_ht cA_ht (ad_rd 0) (ad_sp 0) (ad_mx 0) (ad_ar 0) (ad_tb 0) (ad_tc 0) ht ++ (uw_Out ad_ot cA_ot u ++ (uw_Mixture ad_mx cA_mx mx ++ (uw_Table ad_tb cA_tb tb)))) → va_S A s.heap H locs → W p l e (headSpec w_Law_strict ({ frames := 7, cells := 1, slots := 6, locals := 103 })).room s m ([.ref (ad_ht 0), .int x1, .ref (ad_ot 1)] : List Value).toArray below meth c H locs 1 6 (MQ below (va_Qi (fun (r : Int32) (u : SOut) => r = res.1 ∧ u = res.2) (fun (u : SOut) (t : State) => va_P (dC, dI) vwCl (uw_HT ad_ht cA_ht (ad_rd 0) (ad_sp 0) (ad_mx 0) (ad_ar 0) (ad_tb 0) (ad_tc 0) ht ++ (uw_Out ad_ot cA_ot u ++ (uw_Mixture ad_mx cA_mx mx ++ (uw_Table ad_tb cA_tb tb)))) t.heap ∧ va_K (dC, dI) vwCl [(cA_ht 1, .int), (cA_ot 1, .long), (cA_mx 1, .int), (cA_mx 2, .int), (cA_mx 3, .boolean), (cA_tb 1, .int), (cA_tb 2, .int), (cA_tb 3, .int), (cA_tb 4, .byte)] t ∧ va_D A (uw_HT ad_ht cA_ht (ad_rd 0) (ad_sp 0) (ad_mx 0) (ad_ar 0) (ad_tb 0) (ad_tc 0) ht ++ (uw_Out ad_ot cA_ot u ++ (uw_Mixture ad_mx cA_mx mx ++ (uw_Table ad_tb cA_tb tb))))) A) ([.ref (ad_ht 0), .int x1, .ref (ad_ot 1)] : List Value).toArray s 1 6 A) (F0 m pc ls [.int v]) := fun v u H locs ls pc hd hp hP hD hS => W.iret (v := v) hx hb hr (fun t ht hW => ⟨⟨v, u, rfl, hp, by rw [ht]; exact hP, va_K.moved hW.alike hK, hD⟩, hS.F ht⟩) hS.2.2 hd
  generalize (MQ below (va_Qi (fun (r : Int32) (u : SOut) => r = res.1 ∧ u = res.2) (fun (u : SOut) (t : State) => va_P (dC, dI) vwCl (uw_HT ad_ht cA_ht (ad_rd 0) (ad_sp 0) (ad_mx 0) (ad_ar 0) (ad_tb 0) (ad_tc 0) ht ++ (uw_Out ad_ot cA_ot u ++ (uw_Mixture ad_mx cA_mx mx ++ (uw_Table ad_tb cA_tb tb)))) t.heap ∧ va_K (dC, dI) vwCl [(cA_ht 1, .int), (cA_ot 1, .long), (cA_mx 1, .int), (cA_mx 2, .int), (cA_mx 3, .boolean), (cA_tb 1, .int), (cA_tb 2, .int), (cA_tb 3, .int), (cA_tb 4, .byte)] t ∧ va_D A (uw_HT ad_ht cA_ht (ad_rd 0) (ad_sp 0) (ad_mx 0) (ad_ar 0) (ad_tb 0) (ad_tc 0) ht ++ (uw_Out ad_ot cA_ot u ++ (uw_Mixture ad_mx cA_mx mx ++ (uw_Table ad_tb cA_tb tb))))) A) ([.ref (ad_ht 0), .int x1, .ref (ad_ot 1)] : List Value).toArray s 1 6 A) = Q at ret ⊢
  have hl := lv_entry ([.ref (ad_ht 0), .int x1, .ref (ad_ot 1)]) (n := 4) (Nat.le_of_ble_eq_true rfl)
  rw [lg_entry_eq]
  generalize (lg_sl ([.ref (ad_ht 0), .int x1, .ref (ad_ot 1)]) ++ List.replicate (4 - (lg_sl ([.ref (ad_ht 0), .int x1, .ref (ad_ot 1)])).length) Slot.unset).toArray = ls at hl ⊢
  have hl : lv_has ls 4 [(0, .ref (ad_ht 0)), (1, .int x1), (2, .ref (ad_ot 1))] := hl
  have hf := hf
  rw [f_Law_strict] at hf
  obtain ⟨H, hH⟩ : ∃ H : Heap, H = s.heap := ⟨_, rfl⟩
  obtain ⟨locs, hlocs⟩ : ∃ L : List Loc, L = [] := ⟨_, rfl⟩
  have hP : va_P (dC, dI) vwCl (uw_HT ad_ht cA_ht (ad_rd 0) (ad_sp 0) (ad_mx 0) (ad_ar 0) (ad_tb 0) (ad_tc 0) ht ++ (uw_Out ad_ot cA_ot ot ++ (uw_Mixture ad_mx cA_mx mx ++ (uw_Table ad_tb cA_tb tb)))) H := by rw [hH]; exact hP
  have hS : va_S A s.heap H locs := by rw [hH, hlocs]; exact hS
  show W p l e (headSpec w_Law_strict ({ frames := 7, cells := 1, slots := 6, locals := 103 })).room s m ([.ref (ad_ht 0), .int x1, .ref (ad_ot 1)] : List Value).toArray below meth c s.heap [] 0 0 Q (F0 m 0 ls [])
  suffices hgo : W p l e (headSpec w_Law_strict ({ frames := 7, cells := 1, slots := 6, locals := 103 })).room s m ([.ref (ad_ht 0), .int x1, .ref (ad_ot 1)] : List Value).toArray below meth c H locs 0 0 Q (F0 m 0 ls []) by rw [hH, hlocs] at hgo; exact hgo
  clear hH hlocs
  refine lv_aload_n hx hb d_Law_strict_0 rfl (lv_at hl 2 rfl) ?_
  refine lv_iconst (v := (0 : Int32)) hx hb d_Law_strict_1 (by decide) ?_
  refine lv_aload_n hx hb d_Law_strict_2 rfl (lv_at hl 0 rfl) ?_
  refine lv_iload_n hx hb d_Law_strict_3 rfl (lv_at hl 1 rfl) ?_
  obtain ⟨u1, hu1, hf⟩ := Option.bind_eq_some_iff.mp hf
  refine cx_i (wc := (uw_HT ad_ht cA_ht (ad_rd 0) (ad_sp 0) (ad_mx 0) (ad_ar 0) (ad_tb 0) (ad_tc 0) ht ++ (uw_Mixture ad_mx cA_mx mx ++ (uw_Table ad_tb cA_tb tb)))) (wr := (uw_Out ad_ot cA_ot ot)) (tysC := [(cA_ht 1, .int), (cA_mx 1, .int), (cA_mx 2, .int), (cA_mx 3, .boolean), (cA_tb 1, .int), (cA_tb 2, .int), (cA_tb 3, .int), (cA_tb 4, .byte)]) (wu := fun (u : Unit) => (uw_HT ad_ht cA_ht (ad_rd 0) (ad_sp 0) (ad_mx 0) (ad_ar 0) (ad_tb 0) (ad_tc 0) ht ++ (uw_Mixture ad_mx cA_mx mx ++ (uw_Table ad_tb cA_tb tb)))) (wn := fun (u : Unit) => (uw_HT ad_ht cA_ht (ad_rd 0) (ad_sp 0) (ad_mx 0) (ad_ar 0) (ad_tb 0) (ad_tc 0) ht ++ (uw_Out ad_ot cA_ot ot ++ (uw_Mixture ad_mx cA_mx mx ++ (uw_Table ad_tb cA_tb tb))))) (wux := fun (u : Unit) => (uw_HT ad_ht cA_ht (ad_rd 0) (ad_sp 0) (ad_mx 0) (ad_ar 0) (ad_tb 0) (ad_tc 0) ht ++ (uw_Mixture ad_mx cA_mx mx ++ (uw_Table ad_tb cA_tb tb)))) (wnx := fun (u : Unit) => (uw_HT ad_ht cA_ht (ad_rd 0) (ad_sp 0) (ad_mx 0) (ad_ar 0) (ad_tb 0) (ad_tc 0) ht ++ (uw_Out ad_ot cA_ot ot ++ (uw_Mixture ad_mx cA_mx mx ++ (uw_Table ad_tb cA_tb tb))))) [0, 1, 3, 4, 5, 6, 7, 8, 9, 10, 11] [2] [1, 2, 0, 3, 4, 5, 6, 7, 8, 9, 10, 11] [0, 2, 3, 4, 5, 6, 7, 8] hP hD hS hA hK rfl rfl (by decide +kernel) (by decide +kernel) (by decide +kernel) rfl (fun _ => rfl) (fun _ => rfl) (by decide +kernel) (fun hPc hKc hDc hFc => (vx_runV (As := [.int x1]) (rest := [.int (0 : Int32), .ref (ad_ot 1)]) ⟨hx, hb, hml, hown, hts⟩ (k_HT_strict l dC dI ad_ht cA_ht ad_mx cA_mx ad_tb cA_tb ad_rd cA_rd ad_sp cA_sp ad_ar cA_ar ad_tc cA_tc H.size ht mx tb x1 u1 hu1 htr) (cwV 1 hts (gV wd_637 wd_638 wd_639 wd_43 wd_640) rfl rfl rfl (by decide +kernel) ⟨Nat.le_of_ble_eq_true rfl, Nat.le_of_ble_eq_true rfl⟩) (cx_preV hPc hKc hDc hN (fun U hU hW => xAll_at hX hS hFc hU hW) (ci := 5) 0 rfl rfl) rfl rfl hl.1 rfl (lv_room (Nat.le_of_ble_eq_true rfl)) d_Law_strict_4 ⟨Nat.le_of_ble_eq_true rfl, Nat.le_of_ble_eq_true rfl⟩)) (fun E ce q9 u H locs hw hE hP hD hS hce hcv hcl => ?_) (fun r u H locs hw hP hD hS => ?_)
  · obtain ⟨bu1, rfl⟩ : ∃ z, z = u := ⟨_, rfl⟩
    subst hw
    have hf := hf_r hf
    have hP : va_P (dC, dI) vwCl (uw_HT ad_ht cA_ht (ad_rd 0) (ad_sp 0) (ad_mx 0) (ad_ar 0) (ad_tb 0) (ad_tc 0) ht ++ (uw_Out ad_ot cA_ot ot ++ (uw_Mixture ad_mx cA_mx mx ++ (uw_Table ad_tb cA_tb tb)))) H := hP
    have hD : va_D A (uw_HT ad_ht cA_ht (ad_rd 0) (ad_sp 0) (ad_mx 0) (ad_ar 0) (ad_tb 0) (ad_tc 0) ht ++ (uw_Out ad_ot cA_ot ot ++ (uw_Mixture ad_mx cA_mx mx ++ (uw_Table ad_tb cA_tb tb)))) := hD
    by_cases hc2 : bu1.1 = 1
    · have hf := hf_t hf hc2
      have hE : E = "java/lang/IndexOutOfBoundsException" := by rw [hE, hc2]; rfl
      subst hE
      refine vx_catch (own := "HazardTablesLaw") (name := "java/lang/IndexOutOfBoundsException") (E := "java/lang/IndexOutOfBoundsException") hown [] ⟨0, 9, 12, 13⟩ [] htab (fun z hz => absurd hz List.not_mem_nil) (by decide) (by decide) (hts _ (List.mem_cons_of_mem _ wd_241)) (va_Nw.use rfl (hX.2.2.2 (.castable "java/lang/IndexOutOfBoundsException" "java/lang/IndexOutOfBoundsException") (by decide))) hce hcv hcl ?_
      refine lv_astore_n (lv' := [(3, .ref q9), (0, .ref (ad_ht 0)), (1, .int x1), (2, .ref (ad_ot 1))]) hx hb d_Law_strict_12 rfl hl (by decide) rfl (fun ls hl => ?_)
      refine lv_iconst (v := (1 : Int32)) hx hb d_Law_strict_13 (by decide) ?_
      exact ret (1 : Int32) ot H locs ls 14 d_Law_strict_14 (hf_e hf) hP hD hS
    have hf := hf_f hf hc2
    exact nomatch hf
  · obtain ⟨au1, rfl⟩ : ∃ z, z = r := ⟨_, rfl⟩
    subst hw
    have hf := hf_l hf
    have hP : va_P (dC, dI) vwCl (uw_HT ad_ht cA_ht (ad_rd 0) (ad_sp 0) (ad_mx 0) (ad_ar 0) (ad_tb 0) (ad_tc 0) ht ++ (uw_Out ad_ot cA_ot ot ++ (uw_Mixture ad_mx cA_mx mx ++ (uw_Table ad_tb cA_tb tb)))) H := hP
    have hD : va_D A (uw_HT ad_ht cA_ht (ad_rd 0) (ad_sp 0) (ad_mx 0) (ad_ar 0) (ad_tb 0) (ad_tc 0) ht ++ (uw_Out ad_ot cA_ot ot ++ (uw_Mixture ad_mx cA_mx mx ++ (uw_Table ad_tb cA_tb tb)))) := hD
    refine lv_i2l (v := au1.toInt64) hx hb d_Law_strict_7 rfl ?_
    obtain ⟨hi3, hf⟩ := hf_g hf
    refine va_last hx hb hK hP hD hS 2 1 rfl rfl hi3 d_Law_strict_8 (fun H locs hP hD hS => ?_)
    have hP : va_P (dC, dI) vwCl (uw_HT ad_ht cA_ht (ad_rd 0) (ad_sp 0) (ad_mx 0) (ad_ar 0) (ad_tb 0) (ad_tc 0) ht ++ (uw_Out ad_ot cA_ot (vp_updL ot (0 : Int32).toNatClampNeg au1.toInt64) ++ (uw_Mixture ad_mx cA_mx mx ++ (uw_Table ad_tb cA_tb tb)))) H := hP
    have hD : va_D A (uw_HT ad_ht cA_ht (ad_rd 0) (ad_sp 0) (ad_mx 0) (ad_ar 0) (ad_tb 0) (ad_tc 0) ht ++ (uw_Out ad_ot cA_ot (vp_updL ot (0 : Int32).toNatClampNeg au1.toInt64) ++ (uw_Mixture ad_mx cA_mx mx ++ (uw_Table ad_tb cA_tb tb)))) := hD
    refine lv_goto (tgt := 15) hx hb d_Law_strict_9 (by decide) ?_
    refine lv_iconst (v := (0 : Int32)) hx hb d_Law_strict_15 (by decide) ?_
    exact ret (0 : Int32) (vp_updL ot (0 : Int32).toNatClampNeg au1.toInt64) H locs ls 16 d_Law_strict_16 (hf_e hf) hP hD hS
noncomputable def f_Law_building (ht : SHT) (ot : SOut) (ar : SSurroundings) (x1 : Int32) (x2 : Int32) : Option (Int32 × SOut × SSurroundings) :=
  (Option.bind (f_HT_building ht ar x1 x2) fun u1 => Sum.elim (fun au1 =>
    (if inb (0 : Int32) 1 then
      (some ((0 : Int32), (vp_updL ot (0 : Int32).toNatClampNeg au1.1.toInt64), au1.2))
     else none)
   ) (fun bu1 =>
    (if bu1.1 = 1 then
      (some ((1 : Int32), ot, bu1.2))
     else
    (if bu1.1 = 3 then
      (some ((2 : Int32), ot, bu1.2))
     else
      none
     ))
   ) u1)
set_option maxHeartbeats 4000000 in
set_option maxRecDepth 100000 in
theorem k_Law_building (l : Launch) (dC : Nat → ClassId) (dI : Nat → Nat → Nat) (ad_ht : Nat → Nat) (cA_ht : Nat → ClassId) (ad_ot : Nat → Nat) (cA_ot : Nat → ClassId) (ad_ar : Nat → Nat) (cA_ar : Nat → ClassId) (ad_rd : Nat → Nat) (cA_rd : Nat → ClassId) (ad_sp : Nat → Nat) (cA_sp : Nat → ClassId) (ad_mx : Nat → Nat) (cA_mx : Nat → ClassId) (ad_tb : Nat → Nat) (cA_tb : Nat → ClassId) (ad_tc : Nat → Nat) (cA_tc : Nat → ClassId) (sz : Nat) (ht : SHT) (ot : SOut) (ar : SSurroundings) (x1 : Int32) (x2 : Int32) (res : Int32 × SOut × SSurroundings) (hf : f_Law_building ht ot ar x1 x2 = some res) (htr : l.stackTraces = false) : Met l y_Law_building w_Law_building ({ frames := 7, cells := 1, slots := 6, locals := 104 }) (lPc (dC, dI) (uw_HT ad_ht cA_ht (ad_rd 0) (ad_sp 0) (ad_mx 0) (ad_ar 0) (ad_tb 0) (ad_tc 0) ht ++ (uw_Out ad_ot cA_ot ot ++ (uw_Surroundings ad_ar cA_ar ar))) [(cA_ht 1, .int), (cA_ot 1, .long), (cA_ar 1, .int), (cA_ar 2, .int), (cA_ar 3, .int)] sz [.ref (ad_ht 0), .int x1, .int x2, .ref (ad_ot 1)]) (va_Qi (fun (r : Int32) (u : SOut × SSurroundings) => r = res.1 ∧ u = res.2) (fun (u : SOut × SSurroundings) (t : State) => va_P (dC, dI) vwCl (uw_HT ad_ht cA_ht (ad_rd 0) (ad_sp 0) (ad_mx 0) (ad_ar 0) (ad_tb 0) (ad_tc 0) ht ++ (uw_Out ad_ot cA_ot u.1 ++ (uw_Surroundings ad_ar cA_ar u.2))) t.heap ∧ va_K (dC, dI) vwCl [(cA_ht 1, .int), (cA_ot 1, .long), (cA_ar 1, .int), (cA_ar 2, .int), (cA_ar 3, .int)] t ∧ va_D (va_A (uw_HT ad_ht cA_ht (ad_rd 0) (ad_sp 0) (ad_mx 0) (ad_ar 0) (ad_tb 0) (ad_tc 0) ht ++ (uw_Out ad_ot cA_ot ot ++ (uw_Surroundings ad_ar cA_ar ar))) sz) (uw_HT ad_ht cA_ht (ad_rd 0) (ad_sp 0) (ad_mx 0) (ad_ar 0) (ad_tb 0) (ad_tc 0) ht ++ (uw_Out ad_ot cA_ot u.1 ++ (uw_Surroundings ad_ar cA_ar u.2)))) (va_A (uw_HT ad_ht cA_ht (ad_rd 0) (ad_sp 0) (ad_mx 0) (ad_ar 0) (ad_tb 0) (ad_tc 0) ht ++ (uw_Out ad_ot cA_ot ot ++ (uw_Surroundings ad_ar cA_ar ar))) sz)) 1 6 (va_A (uw_HT ad_ht cA_ht (ad_rd 0) (ad_sp 0) (ad_mx 0) (ad_ar 0) (ad_tb 0) (ad_tc 0) ht ++ (uw_Out ad_ot cA_ot ot ++ (uw_Surroundings ad_ar cA_ar ar))) sz) := by
  refine met_ofWH (hh := [(0, 10, 13, 13), (0, 10, 17, 15)]) (cc := b_Law_building) (maxL := 5) (ret := (some .int)) (by decide) rfl ?_
  intro p e s m args below meth c s₁ B hml hv
  obtain ⟨rfl, hsz, hP, hK, hD0, hN, hX, hnc⟩ := hv
  have hx := B.exec
  have hb := B.bytes
  have hr := B.returns
  have hts := atoms_spec (ws := w_Law_building) B.pre
  have hown : s.vm.findClass "HazardTablesLaw" = some m.cls := findClass_of_methodNamed B.named
  have hlocks := B.notSynchronized
  have htab : c.exceptionTable.toList = [⟨0, 10, 13, 13⟩, ⟨0, 10, 17, 15⟩] := vx_table (x := y_Law_building) B (hts _ List.mem_cons_self)
  subst hsz
  have hD := hD0.self (sz := s.heap.size)
  generalize hAe : va_A (uw_HT ad_ht cA_ht (ad_rd 0) (ad_sp 0) (ad_mx 0) (ad_ar 0) (ad_tb 0) (ad_tc 0) ht ++ (uw_Out ad_ot cA_ot ot ++ (uw_Surroundings ad_ar cA_ar ar))) s.heap.size = A at hD hX ⊢
  have hA : ∀ q : Nat, s.heap.size ≤ q → A q := fun q h => by rw [← hAe]; exact Or.inr h
  have hS : va_S A s.heap s.heap [] := va_S.rf
  have hP : va_P (dC, dI) vwCl (uw_HT ad_ht cA_ht (ad_rd 0) (ad_sp 0) (ad_mx 0) (ad_ar 0) (ad_tb 0) (ad_tc 0) ht ++ (uw_Out ad_ot cA_ot ot ++ (uw_Surroundings ad_ar cA_ar ar))) s.heap := hP
  have ret : ∀ (v : Int32) (u : SOut × SSurroundings) (H : Heap) (locs : List Loc) (ls : Array Slot) (pc : Nat), decode b_Law_building pc = .ok (.ireturn, 1) → (v = res.1 ∧ u = res.2) → va_P (dC, dI) vwCl (uw_HT ad_ht cA_ht (ad_rd 0) (ad_sp 0) (ad_mx 0) (ad_ar 0) (ad_tb 0) (ad_tc 0) ht ++ (uw_Out ad_ot cA_ot u.1 ++ (uw_Surroundings ad_ar cA_ar u.2))) H → va_D A (uw_HT ad_ht cA_ht (ad_rd 0) (ad_sp 0) (ad_mx 0) (ad_ar 0) (ad_tb 0) (ad_tc 0) ht ++ (uw_Out ad_ot cA_ot u.1 ++ (uw_Surroundings ad_ar cA_ar u.2))) → va_S A s.heap H locs → W p l e (headSpec w_Law_building ({ frames := 7, cells := 1, slots := 6, locals := 104 })).room s m ([.ref (ad_ht 0), .int x1, .int x2, .ref (ad_ot 1)] : List Value).toArray below meth c H locs 1 6 (MQ below (va_Qi (fun (r : Int32) (u : SOut × SSurroundings) => r = res.1 ∧ u = res.2) (fun (u : SOut × SSurroundings) (t : State) => va_P (dC, dI) vwCl (uw_HT ad_ht cA_ht (ad_rd 0) (ad_sp 0) (ad_mx 0) (ad_ar 0) (ad_tb 0) (ad_tc 0) ht ++ (uw_Out ad_ot cA_ot u.1 ++ (uw_Surroundings ad_ar cA_ar u.2))) t.heap ∧ va_K (dC, dI) vwCl [(cA_ht 1, .int), (cA_ot 1, .long), (cA_ar 1, .int), (cA_ar 2, .int), (cA_ar 3, .int)] t ∧ va_D A (uw_HT ad_ht cA_ht (ad_rd 0) (ad_sp 0) (ad_mx 0) (ad_ar 0) (ad_tb 0) (ad_tc 0) ht ++ (uw_Out ad_ot cA_ot u.1 ++ (uw_Surroundings ad_ar cA_ar u.2)))) A) ([.ref (ad_ht 0), .int x1, .int x2, .ref (ad_ot 1)] : List Value).toArray s 1 6 A) (F0 m pc ls [.int v]) := fun v u H locs ls pc hd hp hP hD hS => W.iret (v := v) hx hb hr (fun t ht hW => ⟨⟨v, u, rfl, hp, by rw [ht]; exact hP, va_K.moved hW.alike hK, hD⟩, hS.F ht⟩) hS.2.2 hd
  generalize (MQ below (va_Qi (fun (r : Int32) (u : SOut × SSurroundings) => r = res.1 ∧ u = res.2) (fun (u : SOut × SSurroundings) (t : State) => va_P (dC, dI) vwCl (uw_HT ad_ht cA_ht (ad_rd 0) (ad_sp 0) (ad_mx 0) (ad_ar 0) (ad_tb 0) (ad_tc 0) ht ++ (uw_Out ad_ot cA_ot u.1 ++ (uw_Surroundings ad_ar cA_ar u.2))) t.heap ∧ va_K (dC, dI) vwCl [(cA_ht 1, .int), (cA_ot 1, .long), (cA_ar 1, .int), (cA_ar 2, .int), (cA_ar 3, .int)] t ∧ va_D A (uw_HT ad_ht cA_ht (ad_rd 0) (ad_sp 0) (ad_mx 0) (ad_ar 0) (ad_tb 0) (ad_tc 0) ht ++ (uw_Out ad_ot cA_ot u.1 ++ (uw_Surroundings ad_ar cA_ar u.2)))) A) ([.ref (ad_ht 0), .int x1, .int x2, .ref (ad_ot 1)] : List Value).toArray s 1 6 A) = Q at ret ⊢
  have hl := lv_entry ([.ref (ad_ht 0), .int x1, .int x2, .ref (ad_ot 1)]) (n := 5) (Nat.le_of_ble_eq_true rfl)
  rw [lg_entry_eq]
  generalize (lg_sl ([.ref (ad_ht 0), .int x1, .int x2, .ref (ad_ot 1)]) ++ List.replicate (5 - (lg_sl ([.ref (ad_ht 0), .int x1, .int x2, .ref (ad_ot 1)])).length) Slot.unset).toArray = ls at hl ⊢
  have hl : lv_has ls 5 [(0, .ref (ad_ht 0)), (1, .int x1), (2, .int x2), (3, .ref (ad_ot 1))] := hl
  have hf := hf
  rw [f_Law_building] at hf
  obtain ⟨H, hH⟩ : ∃ H : Heap, H = s.heap := ⟨_, rfl⟩
  obtain ⟨locs, hlocs⟩ : ∃ L : List Loc, L = [] := ⟨_, rfl⟩
  have hP : va_P (dC, dI) vwCl (uw_HT ad_ht cA_ht (ad_rd 0) (ad_sp 0) (ad_mx 0) (ad_ar 0) (ad_tb 0) (ad_tc 0) ht ++ (uw_Out ad_ot cA_ot ot ++ (uw_Surroundings ad_ar cA_ar ar))) H := by rw [hH]; exact hP
  have hS : va_S A s.heap H locs := by rw [hH, hlocs]; exact hS
  show W p l e (headSpec w_Law_building ({ frames := 7, cells := 1, slots := 6, locals := 104 })).room s m ([.ref (ad_ht 0), .int x1, .int x2, .ref (ad_ot 1)] : List Value).toArray below meth c s.heap [] 0 0 Q (F0 m 0 ls [])
  suffices hgo : W p l e (headSpec w_Law_building ({ frames := 7, cells := 1, slots := 6, locals := 104 })).room s m ([.ref (ad_ht 0), .int x1, .int x2, .ref (ad_ot 1)] : List Value).toArray below meth c H locs 0 0 Q (F0 m 0 ls []) by rw [hH, hlocs] at hgo; exact hgo
  clear hH hlocs
  refine lv_aload_n hx hb d_Law_building_0 rfl (lv_at hl 3 rfl) ?_
  refine lv_iconst (v := (0 : Int32)) hx hb d_Law_building_1 (by decide) ?_
  refine lv_aload_n hx hb d_Law_building_2 rfl (lv_at hl 0 rfl) ?_
  refine lv_iload_n hx hb d_Law_building_3 rfl (lv_at hl 1 rfl) ?_
  refine lv_iload_n hx hb d_Law_building_4 rfl (lv_at hl 2 rfl) ?_
  obtain ⟨u1, hu1, hf⟩ := Option.bind_eq_some_iff.mp hf
  refine cx_i (wc := (uw_HT ad_ht cA_ht (ad_rd 0) (ad_sp 0) (ad_mx 0) (ad_ar 0) (ad_tb 0) (ad_tc 0) ht ++ (uw_Surroundings ad_ar cA_ar ar))) (wr := (uw_Out ad_ot cA_ot ot)) (tysC := [(cA_ht 1, .int), (cA_ar 1, .int), (cA_ar 2, .int), (cA_ar 3, .int)]) (wu := fun (u : SSurroundings) => (uw_HT ad_ht cA_ht (ad_rd 0) (ad_sp 0) (ad_mx 0) (ad_ar 0) (ad_tb 0) (ad_tc 0) ht ++ (uw_Surroundings ad_ar cA_ar u))) (wn := fun (u : SSurroundings) => (uw_HT ad_ht cA_ht (ad_rd 0) (ad_sp 0) (ad_mx 0) (ad_ar 0) (ad_tb 0) (ad_tc 0) ht ++ (uw_Out ad_ot cA_ot ot ++ (uw_Surroundings ad_ar cA_ar u)))) (wux := fun (u : SSurroundings) => (uw_HT ad_ht cA_ht (ad_rd 0) (ad_sp 0) (ad_mx 0) (ad_ar 0) (ad_tb 0) (ad_tc 0) ht ++ (uw_Surroundings ad_ar cA_ar u))) (wnx := fun (u : SSurroundings) => (uw_HT ad_ht cA_ht (ad_rd 0) (ad_sp 0) (ad_mx 0) (ad_ar 0) (ad_tb 0) (ad_tc 0) ht ++ (uw_Out ad_ot cA_ot ot ++ (uw_Surroundings ad_ar cA_ar u)))) [0, 1, 3, 4, 5, 6] [2] [1, 2, 0, 3, 4, 5, 6] [0, 2, 3, 4] hP hD hS hA hK rfl rfl (by decide +kernel) (by decide +kernel) (by decide +kernel) rfl (fun _ => rfl) (fun _ => rfl) (by decide +kernel) (fun hPc hKc hDc hFc => (vx_runV (As := [.int x1, .int x2]) (rest := [.int (0 : Int32), .ref (ad_ot 1)]) ⟨hx, hb, hml, hown, hts⟩ (k_HT_building l dC dI ad_ht cA_ht ad_ar cA_ar ad_rd cA_rd ad_sp cA_sp ad_mx cA_mx ad_tb cA_tb ad_tc cA_tc H.size ht ar x1 x2 u1 hu1 htr) (cwV 2 hts (gV wd_649 wd_650 wd_651 wd_43 wd_652) rfl rfl rfl (by decide +kernel) ⟨Nat.le_of_ble_eq_true rfl, Nat.le_of_ble_eq_true rfl⟩) (cx_preV hPc hKc hDc hN (fun U hU hW => xAll_at hX hS hFc hU hW) (ci := 5) 0 rfl rfl) rfl rfl hl.1 rfl (lv_room (Nat.le_of_ble_eq_true rfl)) d_Law_building_5 ⟨Nat.le_of_ble_eq_true rfl, Nat.le_of_ble_eq_true rfl⟩)) (fun E ce q9 u H locs hw hE hP hD hS hce hcv hcl => ?_) (fun r u H locs hw hP hD hS => ?_)
  · obtain ⟨bu1, rfl⟩ : ∃ z, z = u := ⟨_, rfl⟩
    subst hw
    have hf := hf_r hf
    have hP : va_P (dC, dI) vwCl (uw_HT ad_ht cA_ht (ad_rd 0) (ad_sp 0) (ad_mx 0) (ad_ar 0) (ad_tb 0) (ad_tc 0) ht ++ (uw_Out ad_ot cA_ot ot ++ (uw_Surroundings ad_ar cA_ar bu1.2))) H := hP
    have hD : va_D A (uw_HT ad_ht cA_ht (ad_rd 0) (ad_sp 0) (ad_mx 0) (ad_ar 0) (ad_tb 0) (ad_tc 0) ht ++ (uw_Out ad_ot cA_ot ot ++ (uw_Surroundings ad_ar cA_ar bu1.2))) := hD
    by_cases hc2 : bu1.1 = 1
    · have hf := hf_t hf hc2
      have hE : E = "java/lang/IndexOutOfBoundsException" := by rw [hE, hc2]; rfl
      subst hE
      refine vx_catch (own := "HazardTablesLaw") (name := "java/lang/IndexOutOfBoundsException") (E := "java/lang/IndexOutOfBoundsException") hown [] ⟨0, 10, 13, 13⟩ [⟨0, 10, 17, 15⟩] htab (fun z hz => absurd hz List.not_mem_nil) (by decide) (by decide) (hts _ (List.mem_cons_of_mem _ wd_241)) (va_Nw.use rfl (hX.2.2.2 (.castable "java/lang/IndexOutOfBoundsException" "java/lang/IndexOutOfBoundsException") (by decide))) hce hcv hcl ?_
      refine lv_astore (lv' := [(4, .ref q9), (0, .ref (ad_ht 0)), (1, .int x1), (2, .int x2), (3, .ref (ad_ot 1))]) hx hb d_Law_building_13 hl (by decide) rfl (fun ls hl => ?_)
      refine lv_iconst (v := (1 : Int32)) hx hb d_Law_building_15 (by decide) ?_
      exact ret (1 : Int32) (ot, bu1.2) H locs ls 16 d_Law_building_16 (hf_e hf) hP hD hS
    have hf := hf_f hf hc2
    by_cases hc3 : bu1.1 = 3
    · have hf := hf_t hf hc3
      have hE : E = "java/lang/UnsupportedOperationException" := by rw [hE, hc3]; rfl
      subst hE
      refine vx_catch (own := "HazardTablesLaw") (name := "java/lang/UnsupportedOperationException") (E := "java/lang/UnsupportedOperationException") hown [⟨0, 10, 13, 13⟩] ⟨0, 10, 17, 15⟩ [] htab (List.forall_mem_cons.mpr ⟨Or.inr ⟨by decide, "java/lang/IndexOutOfBoundsException", (hts _ (List.mem_cons_of_mem _ wd_241)), hnc 3 (by decide) 1 (by decide) (by decide)⟩, fun z hz => absurd hz List.not_mem_nil⟩) (by decide) (by decide) (hts _ (List.mem_cons_of_mem _ wd_242)) (va_Nw.use rfl (hX.2.2.2 (.castable "java/lang/UnsupportedOperationException" "java/lang/UnsupportedOperationException") (by decide))) hce hcv hcl ?_
      refine lv_astore (lv' := [(4, .ref q9), (0, .ref (ad_ht 0)), (1, .int x1), (2, .int x2), (3, .ref (ad_ot 1))]) hx hb d_Law_building_17 hl (by decide) rfl (fun ls hl => ?_)
      refine lv_iconst (v := (2 : Int32)) hx hb d_Law_building_19 (by decide) ?_
      exact ret (2 : Int32) (ot, bu1.2) H locs ls 20 d_Law_building_20 (hf_e hf) hP hD hS
    have hf := hf_f hf hc3
    exact nomatch hf
  · obtain ⟨au1, rfl, rfl⟩ : ∃ z : Int32 × (SSurroundings), r = z.1 ∧ u = z.2 := ⟨(r, u), rfl, rfl⟩
    have hw : u1 = .inl au1 := hw
    subst hw
    have hf := hf_l hf
    have hP : va_P (dC, dI) vwCl (uw_HT ad_ht cA_ht (ad_rd 0) (ad_sp 0) (ad_mx 0) (ad_ar 0) (ad_tb 0) (ad_tc 0) ht ++ (uw_Out ad_ot cA_ot ot ++ (uw_Surroundings ad_ar cA_ar au1.2))) H := hP
    have hD : va_D A (uw_HT ad_ht cA_ht (ad_rd 0) (ad_sp 0) (ad_mx 0) (ad_ar 0) (ad_tb 0) (ad_tc 0) ht ++ (uw_Out ad_ot cA_ot ot ++ (uw_Surroundings ad_ar cA_ar au1.2))) := hD
    refine lv_i2l (v := au1.1.toInt64) hx hb d_Law_building_8 rfl ?_
    obtain ⟨hi4, hf⟩ := hf_g hf
    refine va_last hx hb hK hP hD hS 2 1 rfl rfl hi4 d_Law_building_9 (fun H locs hP hD hS => ?_)
    have hP : va_P (dC, dI) vwCl (uw_HT ad_ht cA_ht (ad_rd 0) (ad_sp 0) (ad_mx 0) (ad_ar 0) (ad_tb 0) (ad_tc 0) ht ++ (uw_Out ad_ot cA_ot (vp_updL ot (0 : Int32).toNatClampNeg au1.1.toInt64) ++ (uw_Surroundings ad_ar cA_ar au1.2))) H := hP
    have hD : va_D A (uw_HT ad_ht cA_ht (ad_rd 0) (ad_sp 0) (ad_mx 0) (ad_ar 0) (ad_tb 0) (ad_tc 0) ht ++ (uw_Out ad_ot cA_ot (vp_updL ot (0 : Int32).toNatClampNeg au1.1.toInt64) ++ (uw_Surroundings ad_ar cA_ar au1.2))) := hD
    refine lv_goto (tgt := 21) hx hb d_Law_building_10 (by decide) ?_
    refine lv_iconst (v := (0 : Int32)) hx hb d_Law_building_21 (by decide) ?_
    exact ret (0 : Int32) ((vp_updL ot (0 : Int32).toNatClampNeg au1.1.toInt64), au1.2) H locs ls 22 d_Law_building_22 (hf_e hf) hP hD hS
noncomputable def f_Law_wind (ht : SHT) (ot : SOut) (mx : SMixture) (ar : SSurroundings) (tb : STable) (x1 : Int32) (x2 : Int32) (x3 : Bool) : Option (Int32 × SOut × SSurroundings) :=
  (Option.bind (f_HT_wind ht mx ar tb x1 x2 x3) fun u1 => Sum.elim (fun au1 =>
    (if inb (0 : Int32) 1 then
      (some ((0 : Int32), (vp_updL ot (0 : Int32).toNatClampNeg au1.1.toInt64), au1.2))
     else none)
   ) (fun bu1 =>
    (if bu1.1 = 1 then
      (some ((1 : Int32), ot, bu1.2))
     else
      none
     )
   ) u1)
set_option maxHeartbeats 4000000 in
set_option maxRecDepth 100000 in
theorem k_Law_wind (l : Launch) (dC : Nat → ClassId) (dI : Nat → Nat → Nat) (ad_ht : Nat → Nat) (cA_ht : Nat → ClassId) (ad_ot : Nat → Nat) (cA_ot : Nat → ClassId) (ad_mx : Nat → Nat) (cA_mx : Nat → ClassId) (ad_ar : Nat → Nat) (cA_ar : Nat → ClassId) (ad_tb : Nat → Nat) (cA_tb : Nat → ClassId) (ad_rd : Nat → Nat) (cA_rd : Nat → ClassId) (ad_sp : Nat → Nat) (cA_sp : Nat → ClassId) (ad_tc : Nat → Nat) (cA_tc : Nat → ClassId) (sz : Nat) (ht : SHT) (ot : SOut) (mx : SMixture) (ar : SSurroundings) (tb : STable) (x1 : Int32) (x2 : Int32) (x3 : Bool) (res : Int32 × SOut × SSurroundings) (hf : f_Law_wind ht ot mx ar tb x1 x2 x3 = some res) (htr : l.stackTraces = false) : Met l y_Law_wind w_Law_wind ({ frames := 7, cells := 1, slots := 6, locals := 121 }) (lPc (dC, dI) (uw_HT ad_ht cA_ht (ad_rd 0) (ad_sp 0) (ad_mx 0) (ad_ar 0) (ad_tb 0) (ad_tc 0) ht ++ (uw_Out ad_ot cA_ot ot ++ (uw_Mixture ad_mx cA_mx mx ++ (uw_Surroundings ad_ar cA_ar ar ++ (uw_Table ad_tb cA_tb tb))))) [(cA_ht 1, .int), (cA_ot 1, .long), (cA_mx 1, .int), (cA_mx 2, .int), (cA_mx 3, .boolean), (cA_ar 1, .int), (cA_ar 2, .int), (cA_ar 3, .int), (cA_tb 1, .int), (cA_tb 2, .int), (cA_tb 3, .int), (cA_tb 4, .byte)] sz [.ref (ad_ht 0), .int x1, .int x2, .int (bI x3), .ref (ad_ot 1)]) (va_Qi (fun (r : Int32) (u : SOut × SSurroundings) => r = res.1 ∧ u = res.2) (fun (u : SOut × SSurroundings) (t : State) => va_P (dC, dI) vwCl (uw_HT ad_ht cA_ht (ad_rd 0) (ad_sp 0) (ad_mx 0) (ad_ar 0) (ad_tb 0) (ad_tc 0) ht ++ (uw_Out ad_ot cA_ot u.1 ++ (uw_Mixture ad_mx cA_mx mx ++ (uw_Surroundings ad_ar cA_ar u.2 ++ (uw_Table ad_tb cA_tb tb))))) t.heap ∧ va_K (dC, dI) vwCl [(cA_ht 1, .int), (cA_ot 1, .long), (cA_mx 1, .int), (cA_mx 2, .int), (cA_mx 3, .boolean), (cA_ar 1, .int), (cA_ar 2, .int), (cA_ar 3, .int), (cA_tb 1, .int), (cA_tb 2, .int), (cA_tb 3, .int), (cA_tb 4, .byte)] t ∧ va_D (va_A (uw_HT ad_ht cA_ht (ad_rd 0) (ad_sp 0) (ad_mx 0) (ad_ar 0) (ad_tb 0) (ad_tc 0) ht ++ (uw_Out ad_ot cA_ot ot ++ (uw_Mixture ad_mx cA_mx mx ++ (uw_Surroundings ad_ar cA_ar ar ++ (uw_Table ad_tb cA_tb tb))))) sz) (uw_HT ad_ht cA_ht (ad_rd 0) (ad_sp 0) (ad_mx 0) (ad_ar 0) (ad_tb 0) (ad_tc 0) ht ++ (uw_Out ad_ot cA_ot u.1 ++ (uw_Mixture ad_mx cA_mx mx ++ (uw_Surroundings ad_ar cA_ar u.2 ++ (uw_Table ad_tb cA_tb tb)))))) (va_A (uw_HT ad_ht cA_ht (ad_rd 0) (ad_sp 0) (ad_mx 0) (ad_ar 0) (ad_tb 0) (ad_tc 0) ht ++ (uw_Out ad_ot cA_ot ot ++ (uw_Mixture ad_mx cA_mx mx ++ (uw_Surroundings ad_ar cA_ar ar ++ (uw_Table ad_tb cA_tb tb))))) sz)) 1 6 (va_A (uw_HT ad_ht cA_ht (ad_rd 0) (ad_sp 0) (ad_mx 0) (ad_ar 0) (ad_tb 0) (ad_tc 0) ht ++ (uw_Out ad_ot cA_ot ot ++ (uw_Mixture ad_mx cA_mx mx ++ (uw_Surroundings ad_ar cA_ar ar ++ (uw_Table ad_tb cA_tb tb))))) sz) := by
  refine met_ofWH (hh := [(0, 12, 15, 13)]) (cc := b_Law_wind) (maxL := 6) (ret := (some .int)) (by decide) rfl ?_
  intro p e s m args below meth c s₁ B hml hv
  obtain ⟨rfl, hsz, hP, hK, hD0, hN, hX, hnc⟩ := hv
  have hx := B.exec
  have hb := B.bytes
  have hr := B.returns
  have hts := atoms_spec (ws := w_Law_wind) B.pre
  have hown : s.vm.findClass "HazardTablesLaw" = some m.cls := findClass_of_methodNamed B.named
  have hlocks := B.notSynchronized
  have htab : c.exceptionTable.toList = [⟨0, 12, 15, 13⟩] := vx_table (x := y_Law_wind) B (hts _ List.mem_cons_self)
  subst hsz
  have hD := hD0.self (sz := s.heap.size)
  generalize hAe : va_A (uw_HT ad_ht cA_ht (ad_rd 0) (ad_sp 0) (ad_mx 0) (ad_ar 0) (ad_tb 0) (ad_tc 0) ht ++ (uw_Out ad_ot cA_ot ot ++ (uw_Mixture ad_mx cA_mx mx ++ (uw_Surroundings ad_ar cA_ar ar ++ (uw_Table ad_tb cA_tb tb))))) s.heap.size = A at hD hX ⊢
  have hA : ∀ q : Nat, s.heap.size ≤ q → A q := fun q h => by rw [← hAe]; exact Or.inr h
  have hS : va_S A s.heap s.heap [] := va_S.rf
  have hP : va_P (dC, dI) vwCl (uw_HT ad_ht cA_ht (ad_rd 0) (ad_sp 0) (ad_mx 0) (ad_ar 0) (ad_tb 0) (ad_tc 0) ht ++ (uw_Out ad_ot cA_ot ot ++ (uw_Mixture ad_mx cA_mx mx ++ (uw_Surroundings ad_ar cA_ar ar ++ (uw_Table ad_tb cA_tb tb))))) s.heap := hP
  have ret : ∀ (v : Int32) (u : SOut × SSurroundings) (H : Heap) (locs : List Loc) (ls : Array Slot) (pc : Nat), decode b_Law_wind pc = .ok (.ireturn, 1) → (v = res.1 ∧ u = res.2) → va_P (dC, dI) vwCl (uw_HT ad_ht cA_ht (ad_rd 0) (ad_sp 0) (ad_mx 0) (ad_ar 0) (ad_tb 0) (ad_tc 0) ht ++ (uw_Out ad_ot cA_ot u.1 ++ (uw_Mixture ad_mx cA_mx mx ++ (uw_Surroundings ad_ar cA_ar u.2 ++ (uw_Table ad_tb cA_tb tb))))) H → va_D A (uw_HT ad_ht cA_ht (ad_rd 0) (ad_sp 0) (ad_mx 0) (ad_ar 0) (ad_tb 0) (ad_tc 0) ht ++ (uw_Out ad_ot cA_ot u.1 ++ (uw_Mixture ad_mx cA_mx mx ++ (uw_Surroundings ad_ar cA_ar u.2 ++ (uw_Table ad_tb cA_tb tb))))) → va_S A s.heap H locs → W p l e (headSpec w_Law_wind ({ frames := 7, cells := 1, slots := 6, locals := 121 })).room s m ([.ref (ad_ht 0), .int x1, .int x2, .int (bI x3), .ref (ad_ot 1)] : List Value).toArray below meth c H locs 1 6 (MQ below (va_Qi (fun (r : Int32) (u : SOut × SSurroundings) => r = res.1 ∧ u = res.2) (fun (u : SOut × SSurroundings) (t : State) => va_P (dC, dI) vwCl (uw_HT ad_ht cA_ht (ad_rd 0) (ad_sp 0) (ad_mx 0) (ad_ar 0) (ad_tb 0) (ad_tc 0) ht ++ (uw_Out ad_ot cA_ot u.1 ++ (uw_Mixture ad_mx cA_mx mx ++ (uw_Surroundings ad_ar cA_ar u.2 ++ (uw_Table ad_tb cA_tb tb))))) t.heap ∧ va_K (dC, dI) vwCl [(cA_ht 1, .int), (cA_ot 1, .long), (cA_mx 1, .int), (cA_mx 2, .int), (cA_mx 3, .boolean), (cA_ar 1, .int), (cA_ar 2, .int), (cA_ar 3, .int), (cA_tb 1, .int), (cA_tb 2, .int), (cA_tb 3, .int), (cA_tb 4, .byte)] t ∧ va_D A (uw_HT ad_ht cA_ht (ad_rd 0) (ad_sp 0) (ad_mx 0) (ad_ar 0) (ad_tb 0) (ad_tc 0) ht ++ (uw_Out ad_ot cA_ot u.1 ++ (uw_Mixture ad_mx cA_mx mx ++ (uw_Surroundings ad_ar cA_ar u.2 ++ (uw_Table ad_tb cA_tb tb)))))) A) ([.ref (ad_ht 0), .int x1, .int x2, .int (bI x3), .ref (ad_ot 1)] : List Value).toArray s 1 6 A) (F0 m pc ls [.int v]) := fun v u H locs ls pc hd hp hP hD hS => W.iret (v := v) hx hb hr (fun t ht hW => ⟨⟨v, u, rfl, hp, by rw [ht]; exact hP, va_K.moved hW.alike hK, hD⟩, hS.F ht⟩) hS.2.2 hd
  generalize (MQ below (va_Qi (fun (r : Int32) (u : SOut × SSurroundings) => r = res.1 ∧ u = res.2) (fun (u : SOut × SSurroundings) (t : State) => va_P (dC, dI) vwCl (uw_HT ad_ht cA_ht (ad_rd 0) (ad_sp 0) (ad_mx 0) (ad_ar 0) (ad_tb 0) (ad_tc 0) ht ++ (uw_Out ad_ot cA_ot u.1 ++ (uw_Mixture ad_mx cA_mx mx ++ (uw_Surroundings ad_ar cA_ar u.2 ++ (uw_Table ad_tb cA_tb tb))))) t.heap ∧ va_K (dC, dI) vwCl [(cA_ht 1, .int), (cA_ot 1, .long), (cA_mx 1, .int), (cA_mx 2, .int), (cA_mx 3, .boolean), (cA_ar 1, .int), (cA_ar 2, .int), (cA_ar 3, .int), (cA_tb 1, .int), (cA_tb 2, .int), (cA_tb 3, .int), (cA_tb 4, .byte)] t ∧ va_D A (uw_HT ad_ht cA_ht (ad_rd 0) (ad_sp 0) (ad_mx 0) (ad_ar 0) (ad_tb 0) (ad_tc 0) ht ++ (uw_Out ad_ot cA_ot u.1 ++ (uw_Mixture ad_mx cA_mx mx ++ (uw_Surroundings ad_ar cA_ar u.2 ++ (uw_Table ad_tb cA_tb tb)))))) A) ([.ref (ad_ht 0), .int x1, .int x2, .int (bI x3), .ref (ad_ot 1)] : List Value).toArray s 1 6 A) = Q at ret ⊢
  have hl := lv_entry ([.ref (ad_ht 0), .int x1, .int x2, .int (bI x3), .ref (ad_ot 1)]) (n := 6) (Nat.le_of_ble_eq_true rfl)
  rw [lg_entry_eq]
  generalize (lg_sl ([.ref (ad_ht 0), .int x1, .int x2, .int (bI x3), .ref (ad_ot 1)]) ++ List.replicate (6 - (lg_sl ([.ref (ad_ht 0), .int x1, .int x2, .int (bI x3), .ref (ad_ot 1)])).length) Slot.unset).toArray = ls at hl ⊢
  have hl : lv_has ls 6 [(0, .ref (ad_ht 0)), (1, .int x1), (2, .int x2), (3, .int (bI x3)), (4, .ref (ad_ot 1))] := hl
  have hf := hf
  rw [f_Law_wind] at hf
  obtain ⟨H, hH⟩ : ∃ H : Heap, H = s.heap := ⟨_, rfl⟩
  obtain ⟨locs, hlocs⟩ : ∃ L : List Loc, L = [] := ⟨_, rfl⟩
  have hP : va_P (dC, dI) vwCl (uw_HT ad_ht cA_ht (ad_rd 0) (ad_sp 0) (ad_mx 0) (ad_ar 0) (ad_tb 0) (ad_tc 0) ht ++ (uw_Out ad_ot cA_ot ot ++ (uw_Mixture ad_mx cA_mx mx ++ (uw_Surroundings ad_ar cA_ar ar ++ (uw_Table ad_tb cA_tb tb))))) H := by rw [hH]; exact hP
  have hS : va_S A s.heap H locs := by rw [hH, hlocs]; exact hS
  show W p l e (headSpec w_Law_wind ({ frames := 7, cells := 1, slots := 6, locals := 121 })).room s m ([.ref (ad_ht 0), .int x1, .int x2, .int (bI x3), .ref (ad_ot 1)] : List Value).toArray below meth c s.heap [] 0 0 Q (F0 m 0 ls [])
  suffices hgo : W p l e (headSpec w_Law_wind ({ frames := 7, cells := 1, slots := 6, locals := 121 })).room s m ([.ref (ad_ht 0), .int x1, .int x2, .int (bI x3), .ref (ad_ot 1)] : List Value).toArray below meth c H locs 0 0 Q (F0 m 0 ls []) by rw [hH, hlocs] at hgo; exact hgo
  clear hH hlocs
  refine lv_aload hx hb d_Law_wind_0 (lv_at hl 4 rfl) ?_
  refine lv_iconst (v := (0 : Int32)) hx hb d_Law_wind_2 (by decide) ?_
  refine lv_aload_n hx hb d_Law_wind_3 rfl (lv_at hl 0 rfl) ?_
  refine lv_iload_n hx hb d_Law_wind_4 rfl (lv_at hl 1 rfl) ?_
  refine lv_iload_n hx hb d_Law_wind_5 rfl (lv_at hl 2 rfl) ?_
  refine lv_iload_n hx hb d_Law_wind_6 rfl (lv_at hl 3 rfl) ?_
  obtain ⟨u1, hu1, hf⟩ := Option.bind_eq_some_iff.mp hf
  refine cx_i (wc := (uw_HT ad_ht cA_ht (ad_rd 0) (ad_sp 0) (ad_mx 0) (ad_ar 0) (ad_tb 0) (ad_tc 0) ht ++ (uw_Mixture ad_mx cA_mx mx ++ (uw_Surroundings ad_ar cA_ar ar ++ (uw_Table ad_tb cA_tb tb))))) (wr := (uw_Out ad_ot cA_ot ot)) (tysC := [(cA_ht 1, .int), (cA_mx 1, .int), (cA_mx 2, .int), (cA_mx 3, .boolean), (cA_ar 1, .int), (cA_ar 2, .int), (cA_ar 3, .int), (cA_tb 1, .int), (cA_tb 2, .int), (cA_tb 3, .int), (cA_tb 4, .byte)]) (wu := fun (u : SSurroundings) => (uw_HT ad_ht cA_ht (ad_rd 0) (ad_sp 0) (ad_mx 0) (ad_ar 0) (ad_tb 0) (ad_tc 0) ht ++ (uw_Mixture ad_mx cA_mx mx ++ (uw_Surroundings ad_ar cA_ar u ++ (uw_Table ad_tb cA_tb tb))))) (wn := fun (u : SSurroundings) => (uw_HT ad_ht cA_ht (ad_rd 0) (ad_sp 0) (ad_mx 0) (ad_ar 0) (ad_tb 0) (ad_tc 0) ht ++ (uw_Out ad_ot cA_ot ot ++ (uw_Mixture ad_mx cA_mx mx ++ (uw_Surroundings ad_ar cA_ar u ++ (uw_Table ad_tb cA_tb tb)))))) (wux := fun (u : SSurroundings) => (uw_HT ad_ht cA_ht (ad_rd 0) (ad_sp 0) (ad_mx 0) (ad_ar 0) (ad_tb 0) (ad_tc 0) ht ++ (uw_Mixture ad_mx cA_mx mx ++ (uw_Surroundings ad_ar cA_ar u ++ (uw_Table ad_tb cA_tb tb))))) (wnx := fun (u : SSurroundings) => (uw_HT ad_ht cA_ht (ad_rd 0) (ad_sp 0) (ad_mx 0) (ad_ar 0) (ad_tb 0) (ad_tc 0) ht ++ (uw_Out ad_ot cA_ot ot ++ (uw_Mixture ad_mx cA_mx mx ++ (uw_Surroundings ad_ar cA_ar u ++ (uw_Table ad_tb cA_tb tb)))))) [0, 1, 3, 4, 5, 6, 7, 8, 9, 10, 11, 12, 13, 14, 15] [2] [1, 2, 0, 3, 4, 5, 6, 7, 8, 9, 10, 11, 12, 13, 14, 15] [0, 2, 3, 4, 5, 6, 7, 8, 9, 10, 11] hP hD hS hA hK rfl rfl (by decide +kernel) (by decide +kernel) (by decide +kernel) rfl (fun _ => rfl) (fun _ => rfl) (by decide +kernel) (fun hPc hKc hDc hFc => (vx_runV (As := [.int x1, .int x2, .int (bI x3)]) (rest := [.int (0 : Int32), .ref (ad_ot 1)]) ⟨hx, hb, hml, hown, hts⟩ (k_HT_wind l dC dI ad_ht cA_ht ad_mx cA_mx ad_ar cA_ar ad_tb cA_tb ad_rd cA_rd ad_sp cA_sp ad_tc cA_tc H.size ht mx ar tb x1 x2 x3 u1 hu1 htr) (cwV 3 hts (gV wd_670 wd_671 wd_672 wd_43 wd_673) rfl rfl rfl (by decide +kernel) ⟨Nat.le_of_ble_eq_true rfl, Nat.le_of_ble_eq_true rfl⟩) (cx_preV hPc hKc hDc hN (fun U hU hW => xAll_at hX hS hFc hU hW) (ci := 5) 0 rfl rfl) rfl rfl hl.1 rfl (lv_room (Nat.le_of_ble_eq_true rfl)) d_Law_wind_7 ⟨Nat.le_of_ble_eq_true rfl, Nat.le_of_ble_eq_true rfl⟩)) (fun E ce q9 u H locs hw hE hP hD hS hce hcv hcl => ?_) (fun r u H locs hw hP hD hS => ?_)
  · obtain ⟨bu1, rfl⟩ : ∃ z, z = u := ⟨_, rfl⟩
    subst hw
    have hf := hf_r hf
    have hP : va_P (dC, dI) vwCl (uw_HT ad_ht cA_ht (ad_rd 0) (ad_sp 0) (ad_mx 0) (ad_ar 0) (ad_tb 0) (ad_tc 0) ht ++ (uw_Out ad_ot cA_ot ot ++ (uw_Mixture ad_mx cA_mx mx ++ (uw_Surroundings ad_ar cA_ar bu1.2 ++ (uw_Table ad_tb cA_tb tb))))) H := hP
    have hD : va_D A (uw_HT ad_ht cA_ht (ad_rd 0) (ad_sp 0) (ad_mx 0) (ad_ar 0) (ad_tb 0) (ad_tc 0) ht ++ (uw_Out ad_ot cA_ot ot ++ (uw_Mixture ad_mx cA_mx mx ++ (uw_Surroundings ad_ar cA_ar bu1.2 ++ (uw_Table ad_tb cA_tb tb))))) := hD
    by_cases hc2 : bu1.1 = 1
    · have hf := hf_t hf hc2
      have hE : E = "java/lang/IndexOutOfBoundsException" := by rw [hE, hc2]; rfl
      subst hE
      refine vx_catch (own := "HazardTablesLaw") (name := "java/lang/IndexOutOfBoundsException") (E := "java/lang/IndexOutOfBoundsException") hown [] ⟨0, 12, 15, 13⟩ [] htab (fun z hz => absurd hz List.not_mem_nil) (by decide) (by decide) (hts _ (List.mem_cons_of_mem _ wd_241)) (va_Nw.use rfl (hX.2.2.2 (.castable "java/lang/IndexOutOfBoundsException" "java/lang/IndexOutOfBoundsException") (by decide))) hce hcv hcl ?_
      refine lv_astore (lv' := [(5, .ref q9), (0, .ref (ad_ht 0)), (1, .int x1), (2, .int x2), (3, .int (bI x3)), (4, .ref (ad_ot 1))]) hx hb d_Law_wind_15 hl (by decide) rfl (fun ls hl => ?_)
      refine lv_iconst (v := (1 : Int32)) hx hb d_Law_wind_17 (by decide) ?_
      exact ret (1 : Int32) (ot, bu1.2) H locs ls 18 d_Law_wind_18 (hf_e hf) hP hD hS
    have hf := hf_f hf hc2
    exact nomatch hf
  · obtain ⟨au1, rfl, rfl⟩ : ∃ z : Int32 × (SSurroundings), r = z.1 ∧ u = z.2 := ⟨(r, u), rfl, rfl⟩
    have hw : u1 = .inl au1 := hw
    subst hw
    have hf := hf_l hf
    have hP : va_P (dC, dI) vwCl (uw_HT ad_ht cA_ht (ad_rd 0) (ad_sp 0) (ad_mx 0) (ad_ar 0) (ad_tb 0) (ad_tc 0) ht ++ (uw_Out ad_ot cA_ot ot ++ (uw_Mixture ad_mx cA_mx mx ++ (uw_Surroundings ad_ar cA_ar au1.2 ++ (uw_Table ad_tb cA_tb tb))))) H := hP
    have hD : va_D A (uw_HT ad_ht cA_ht (ad_rd 0) (ad_sp 0) (ad_mx 0) (ad_ar 0) (ad_tb 0) (ad_tc 0) ht ++ (uw_Out ad_ot cA_ot ot ++ (uw_Mixture ad_mx cA_mx mx ++ (uw_Surroundings ad_ar cA_ar au1.2 ++ (uw_Table ad_tb cA_tb tb))))) := hD
    refine lv_i2l (v := au1.1.toInt64) hx hb d_Law_wind_10 rfl ?_
    obtain ⟨hi3, hf⟩ := hf_g hf
    refine va_last hx hb hK hP hD hS 2 1 rfl rfl hi3 d_Law_wind_11 (fun H locs hP hD hS => ?_)
    have hP : va_P (dC, dI) vwCl (uw_HT ad_ht cA_ht (ad_rd 0) (ad_sp 0) (ad_mx 0) (ad_ar 0) (ad_tb 0) (ad_tc 0) ht ++ (uw_Out ad_ot cA_ot (vp_updL ot (0 : Int32).toNatClampNeg au1.1.toInt64) ++ (uw_Mixture ad_mx cA_mx mx ++ (uw_Surroundings ad_ar cA_ar au1.2 ++ (uw_Table ad_tb cA_tb tb))))) H := hP
    have hD : va_D A (uw_HT ad_ht cA_ht (ad_rd 0) (ad_sp 0) (ad_mx 0) (ad_ar 0) (ad_tb 0) (ad_tc 0) ht ++ (uw_Out ad_ot cA_ot (vp_updL ot (0 : Int32).toNatClampNeg au1.1.toInt64) ++ (uw_Mixture ad_mx cA_mx mx ++ (uw_Surroundings ad_ar cA_ar au1.2 ++ (uw_Table ad_tb cA_tb tb))))) := hD
    refine lv_goto (tgt := 19) hx hb d_Law_wind_12 (by decide) ?_
    refine lv_iconst (v := (0 : Int32)) hx hb d_Law_wind_19 (by decide) ?_
    exact ret (0 : Int32) ((vp_updL ot (0 : Int32).toNatClampNeg au1.1.toInt64), au1.2) H locs ls 20 d_Law_wind_20 (hf_e hf) hP hD hS
noncomputable def f_Law_fresh (ht : SHT) (ot : SOut) (ar : SSurroundings) (x1 : Int32) : Option (Int32 × SOut) :=
  (Option.bind (f_HT_fresh ht ar x1) fun u1 => Sum.elim (fun au1 =>
    (if inb (0 : Int32) 1 then
      (some ((0 : Int32), (vp_updL ot (0 : Int32).toNatClampNeg au1.toInt64)))
     else none)
   ) (fun bu1 =>
    (if bu1.1 = 1 then
      (some ((1 : Int32), ot))
     else
      none
     )
   ) u1)
set_option maxHeartbeats 4000000 in
set_option maxRecDepth 100000 in
theorem k_Law_fresh (l : Launch) (dC : Nat → ClassId) (dI : Nat → Nat → Nat) (ad_ht : Nat → Nat) (cA_ht : Nat → ClassId) (ad_ot : Nat → Nat) (cA_ot : Nat → ClassId) (ad_ar : Nat → Nat) (cA_ar : Nat → ClassId) (ad_rd : Nat → Nat) (cA_rd : Nat → ClassId) (ad_sp : Nat → Nat) (cA_sp : Nat → ClassId) (ad_mx : Nat → Nat) (cA_mx : Nat → ClassId) (ad_tb : Nat → Nat) (cA_tb : Nat → ClassId) (ad_tc : Nat → Nat) (cA_tc : Nat → ClassId) (sz : Nat) (ht : SHT) (ot : SOut) (ar : SSurroundings) (x1 : Int32) (res : Int32 × SOut) (hf : f_Law_fresh ht ot ar x1 = some res) (htr : l.stackTraces = false) : Met l y_Law_fresh w_Law_fresh ({ frames := 7, cells := 1, slots := 6, locals := 103 }) (lPc (dC, dI) (uw_HT ad_ht cA_ht (ad_rd 0) (ad_sp 0) (ad_mx 0) (ad_ar 0) (ad_tb 0) (ad_tc 0) ht ++ (uw_Out ad_ot cA_ot ot ++ (uw_Surroundings ad_ar cA_ar ar))) [(cA_ht 1, .int), (cA_ot 1, .long), (cA_ar 1, .int), (cA_ar 2, .int), (cA_ar 3, .int)] sz [.ref (ad_ht 0), .int x1, .ref (ad_ot 1)]) (va_Qi (fun (r : Int32) (u : SOut) => r = res.1 ∧ u = res.2) (fun (u : SOut) (t : State) => va_P (dC, dI) vwCl (uw_HT ad_ht cA_ht (ad_rd 0) (ad_sp 0) (ad_mx 0) (ad_ar 0) (ad_tb 0) (ad_tc 0) ht ++ (uw_Out ad_ot cA_ot u ++ (uw_Surroundings ad_ar cA_ar ar))) t.heap ∧ va_K (dC, dI) vwCl [(cA_ht 1, .int), (cA_ot 1, .long), (cA_ar 1, .int), (cA_ar 2, .int), (cA_ar 3, .int)] t ∧ va_D (va_A (uw_HT ad_ht cA_ht (ad_rd 0) (ad_sp 0) (ad_mx 0) (ad_ar 0) (ad_tb 0) (ad_tc 0) ht ++ (uw_Out ad_ot cA_ot ot ++ (uw_Surroundings ad_ar cA_ar ar))) sz) (uw_HT ad_ht cA_ht (ad_rd 0) (ad_sp 0) (ad_mx 0) (ad_ar 0) (ad_tb 0) (ad_tc 0) ht ++ (uw_Out ad_ot cA_ot u ++ (uw_Surroundings ad_ar cA_ar ar)))) (va_A (uw_HT ad_ht cA_ht (ad_rd 0) (ad_sp 0) (ad_mx 0) (ad_ar 0) (ad_tb 0) (ad_tc 0) ht ++ (uw_Out ad_ot cA_ot ot ++ (uw_Surroundings ad_ar cA_ar ar))) sz)) 1 6 (va_A (uw_HT ad_ht cA_ht (ad_rd 0) (ad_sp 0) (ad_mx 0) (ad_ar 0) (ad_tb 0) (ad_tc 0) ht ++ (uw_Out ad_ot cA_ot ot ++ (uw_Surroundings ad_ar cA_ar ar))) sz) := by
  refine met_ofWH (hh := [(0, 9, 12, 13)]) (cc := b_Law_fresh) (maxL := 4) (ret := (some .int)) (by decide) rfl ?_
  intro p e s m args below meth c s₁ B hml hv
  obtain ⟨rfl, hsz, hP, hK, hD0, hN, hX, hnc⟩ := hv
  have hx := B.exec
  have hb := B.bytes
  have hr := B.returns
  have hts := atoms_spec (ws := w_Law_fresh) B.pre
  have hown : s.vm.findClass "HazardTablesLaw" = some m.cls := findClass_of_methodNamed B.named
  have hlocks := B.notSynchronized
  have htab : c.exceptionTable.toList = [⟨0, 9, 12, 13⟩] := vx_table (x := y_Law_fresh) B (hts _ List.mem_cons_self)
  subst hsz
  have hD := hD0.self (sz := s.heap.size)
  generalize hAe : va_A (uw_HT ad_ht cA_ht (ad_rd 0) (ad_sp 0) (ad_mx 0) (ad_ar 0) (ad_tb 0) (ad_tc 0) ht ++ (uw_Out ad_ot cA_ot ot ++ (uw_Surroundings ad_ar cA_ar ar))) s.heap.size = A at hD hX ⊢
  have hA : ∀ q : Nat, s.heap.size ≤ q → A q := fun q h => by rw [← hAe]; exact Or.inr h
  have hS : va_S A s.heap s.heap [] := va_S.rf
  have hP : va_P (dC, dI) vwCl (uw_HT ad_ht cA_ht (ad_rd 0) (ad_sp 0) (ad_mx 0) (ad_ar 0) (ad_tb 0) (ad_tc 0) ht ++ (uw_Out ad_ot cA_ot ot ++ (uw_Surroundings ad_ar cA_ar ar))) s.heap := hP
  have ret : ∀ (v : Int32) (u : SOut) (H : Heap) (locs : List Loc) (ls : Array Slot) (pc : Nat), decode b_Law_fresh pc = .ok (.ireturn, 1) → (v = res.1 ∧ u = res.2) → va_P (dC, dI) vwCl (uw_HT ad_ht cA_ht (ad_rd 0) (ad_sp 0) (ad_mx 0) (ad_ar 0) (ad_tb 0) (ad_tc 0) ht ++ (uw_Out ad_ot cA_ot u ++ (uw_Surroundings ad_ar cA_ar ar))) H → va_D A (uw_HT ad_ht cA_ht (ad_rd 0) (ad_sp 0) (ad_mx 0) (ad_ar 0) (ad_tb 0) (ad_tc 0) ht ++ (uw_Out ad_ot cA_ot u ++ (uw_Surroundings ad_ar cA_ar ar))) → va_S A s.heap H locs → W p l e (headSpec w_Law_fresh ({ frames := 7, cells := 1, slots := 6, locals := 103 })).room s m ([.ref (ad_ht 0), .int x1, .ref (ad_ot 1)] : List Value).toArray below meth c H locs 1 6 (MQ below (va_Qi (fun (r : Int32) (u : SOut) => r = res.1 ∧ u = res.2) (fun (u : SOut) (t : State) => va_P (dC, dI) vwCl (uw_HT ad_ht cA_ht (ad_rd 0) (ad_sp 0) (ad_mx 0) (ad_ar 0) (ad_tb 0) (ad_tc 0) ht ++ (uw_Out ad_ot cA_ot u ++ (uw_Surroundings ad_ar cA_ar ar))) t.heap ∧ va_K (dC, dI) vwCl [(cA_ht 1, .int), (cA_ot 1, .long), (cA_ar 1, .int), (cA_ar 2, .int), (cA_ar 3, .int)] t ∧ va_D A (uw_HT ad_ht cA_ht (ad_rd 0) (ad_sp 0) (ad_mx 0) (ad_ar 0) (ad_tb 0) (ad_tc 0) ht ++ (uw_Out ad_ot cA_ot u ++ (uw_Surroundings ad_ar cA_ar ar)))) A) ([.ref (ad_ht 0), .int x1, .ref (ad_ot 1)] : List Value).toArray s 1 6 A) (F0 m pc ls [.int v]) := fun v u H locs ls pc hd hp hP hD hS => W.iret (v := v) hx hb hr (fun t ht hW => ⟨⟨v, u, rfl, hp, by rw [ht]; exact hP, va_K.moved hW.alike hK, hD⟩, hS.F ht⟩) hS.2.2 hd
  generalize (MQ below (va_Qi (fun (r : Int32) (u : SOut) => r = res.1 ∧ u = res.2) (fun (u : SOut) (t : State) => va_P (dC, dI) vwCl (uw_HT ad_ht cA_ht (ad_rd 0) (ad_sp 0) (ad_mx 0) (ad_ar 0) (ad_tb 0) (ad_tc 0) ht ++ (uw_Out ad_ot cA_ot u ++ (uw_Surroundings ad_ar cA_ar ar))) t.heap ∧ va_K (dC, dI) vwCl [(cA_ht 1, .int), (cA_ot 1, .long), (cA_ar 1, .int), (cA_ar 2, .int), (cA_ar 3, .int)] t ∧ va_D A (uw_HT ad_ht cA_ht (ad_rd 0) (ad_sp 0) (ad_mx 0) (ad_ar 0) (ad_tb 0) (ad_tc 0) ht ++ (uw_Out ad_ot cA_ot u ++ (uw_Surroundings ad_ar cA_ar ar)))) A) ([.ref (ad_ht 0), .int x1, .ref (ad_ot 1)] : List Value).toArray s 1 6 A) = Q at ret ⊢
  have hl := lv_entry ([.ref (ad_ht 0), .int x1, .ref (ad_ot 1)]) (n := 4) (Nat.le_of_ble_eq_true rfl)
  rw [lg_entry_eq]
  generalize (lg_sl ([.ref (ad_ht 0), .int x1, .ref (ad_ot 1)]) ++ List.replicate (4 - (lg_sl ([.ref (ad_ht 0), .int x1, .ref (ad_ot 1)])).length) Slot.unset).toArray = ls at hl ⊢
  have hl : lv_has ls 4 [(0, .ref (ad_ht 0)), (1, .int x1), (2, .ref (ad_ot 1))] := hl
  have hf := hf
  rw [f_Law_fresh] at hf
  obtain ⟨H, hH⟩ : ∃ H : Heap, H = s.heap := ⟨_, rfl⟩
  obtain ⟨locs, hlocs⟩ : ∃ L : List Loc, L = [] := ⟨_, rfl⟩
  have hP : va_P (dC, dI) vwCl (uw_HT ad_ht cA_ht (ad_rd 0) (ad_sp 0) (ad_mx 0) (ad_ar 0) (ad_tb 0) (ad_tc 0) ht ++ (uw_Out ad_ot cA_ot ot ++ (uw_Surroundings ad_ar cA_ar ar))) H := by rw [hH]; exact hP
  have hS : va_S A s.heap H locs := by rw [hH, hlocs]; exact hS
  show W p l e (headSpec w_Law_fresh ({ frames := 7, cells := 1, slots := 6, locals := 103 })).room s m ([.ref (ad_ht 0), .int x1, .ref (ad_ot 1)] : List Value).toArray below meth c s.heap [] 0 0 Q (F0 m 0 ls [])
  suffices hgo : W p l e (headSpec w_Law_fresh ({ frames := 7, cells := 1, slots := 6, locals := 103 })).room s m ([.ref (ad_ht 0), .int x1, .ref (ad_ot 1)] : List Value).toArray below meth c H locs 0 0 Q (F0 m 0 ls []) by rw [hH, hlocs] at hgo; exact hgo
  clear hH hlocs
  refine lv_aload_n hx hb d_Law_fresh_0 rfl (lv_at hl 2 rfl) ?_
  refine lv_iconst (v := (0 : Int32)) hx hb d_Law_fresh_1 (by decide) ?_
  refine lv_aload_n hx hb d_Law_fresh_2 rfl (lv_at hl 0 rfl) ?_
  refine lv_iload_n hx hb d_Law_fresh_3 rfl (lv_at hl 1 rfl) ?_
  obtain ⟨u1, hu1, hf⟩ := Option.bind_eq_some_iff.mp hf
  refine cx_i (wc := (uw_HT ad_ht cA_ht (ad_rd 0) (ad_sp 0) (ad_mx 0) (ad_ar 0) (ad_tb 0) (ad_tc 0) ht ++ (uw_Surroundings ad_ar cA_ar ar))) (wr := (uw_Out ad_ot cA_ot ot)) (tysC := [(cA_ht 1, .int), (cA_ar 1, .int), (cA_ar 2, .int), (cA_ar 3, .int)]) (wu := fun (u : Unit) => (uw_HT ad_ht cA_ht (ad_rd 0) (ad_sp 0) (ad_mx 0) (ad_ar 0) (ad_tb 0) (ad_tc 0) ht ++ (uw_Surroundings ad_ar cA_ar ar))) (wn := fun (u : Unit) => (uw_HT ad_ht cA_ht (ad_rd 0) (ad_sp 0) (ad_mx 0) (ad_ar 0) (ad_tb 0) (ad_tc 0) ht ++ (uw_Out ad_ot cA_ot ot ++ (uw_Surroundings ad_ar cA_ar ar)))) (wux := fun (u : Unit) => (uw_HT ad_ht cA_ht (ad_rd 0) (ad_sp 0) (ad_mx 0) (ad_ar 0) (ad_tb 0) (ad_tc 0) ht ++ (uw_Surroundings ad_ar cA_ar ar))) (wnx := fun (u : Unit) => (uw_HT ad_ht cA_ht (ad_rd 0) (ad_sp 0) (ad_mx 0) (ad_ar 0) (ad_tb 0) (ad_tc 0) ht ++ (uw_Out ad_ot cA_ot ot ++ (uw_Surroundings ad_ar cA_ar ar)))) [0, 1, 3, 4, 5, 6] [2] [1, 2, 0, 3, 4, 5, 6] [0, 2, 3, 4] hP hD hS hA hK rfl rfl (by decide +kernel) (by decide +kernel) (by decide +kernel) rfl (fun _ => rfl) (fun _ => rfl) (by decide +kernel) (fun hPc hKc hDc hFc => (vx_runV (As := [.int x1]) (rest := [.int (0 : Int32), .ref (ad_ot 1)]) ⟨hx, hb, hml, hown, hts⟩ (k_HT_fresh l dC dI ad_ht cA_ht ad_ar cA_ar ad_rd cA_rd ad_sp cA_sp ad_mx cA_mx ad_tb cA_tb ad_tc cA_tc H.size ht ar x1 u1 hu1 htr) (cwV 1 hts (gV wd_697 wd_698 wd_699 wd_43 wd_700) rfl rfl rfl (by decide +kernel) ⟨Nat.le_of_ble_eq_true rfl, Nat.le_of_ble_eq_true rfl⟩) (cx_preV hPc hKc hDc hN (fun U hU hW => xAll_at hX hS hFc hU hW) (ci := 5) 0 rfl rfl) rfl rfl hl.1 rfl (lv_room (Nat.le_of_ble_eq_true rfl)) d_Law_fresh_4 ⟨Nat.le_of_ble_eq_true rfl, Nat.le_of_ble_eq_true rfl⟩)) (fun E ce q9 u H locs hw hE hP hD hS hce hcv hcl => ?_) (fun r u H locs hw hP hD hS => ?_)
  · obtain ⟨bu1, rfl⟩ : ∃ z, z = u := ⟨_, rfl⟩
    subst hw
    have hf := hf_r hf
    have hP : va_P (dC, dI) vwCl (uw_HT ad_ht cA_ht (ad_rd 0) (ad_sp 0) (ad_mx 0) (ad_ar 0) (ad_tb 0) (ad_tc 0) ht ++ (uw_Out ad_ot cA_ot ot ++ (uw_Surroundings ad_ar cA_ar ar))) H := hP
    have hD : va_D A (uw_HT ad_ht cA_ht (ad_rd 0) (ad_sp 0) (ad_mx 0) (ad_ar 0) (ad_tb 0) (ad_tc 0) ht ++ (uw_Out ad_ot cA_ot ot ++ (uw_Surroundings ad_ar cA_ar ar))) := hD
    by_cases hc2 : bu1.1 = 1
    · have hf := hf_t hf hc2
      have hE : E = "java/lang/IndexOutOfBoundsException" := by rw [hE, hc2]; rfl
      subst hE
      refine vx_catch (own := "HazardTablesLaw") (name := "java/lang/IndexOutOfBoundsException") (E := "java/lang/IndexOutOfBoundsException") hown [] ⟨0, 9, 12, 13⟩ [] htab (fun z hz => absurd hz List.not_mem_nil) (by decide) (by decide) (hts _ (List.mem_cons_of_mem _ wd_241)) (va_Nw.use rfl (hX.2.2.2 (.castable "java/lang/IndexOutOfBoundsException" "java/lang/IndexOutOfBoundsException") (by decide))) hce hcv hcl ?_
      refine lv_astore_n (lv' := [(3, .ref q9), (0, .ref (ad_ht 0)), (1, .int x1), (2, .ref (ad_ot 1))]) hx hb d_Law_fresh_12 rfl hl (by decide) rfl (fun ls hl => ?_)
      refine lv_iconst (v := (1 : Int32)) hx hb d_Law_fresh_13 (by decide) ?_
      exact ret (1 : Int32) ot H locs ls 14 d_Law_fresh_14 (hf_e hf) hP hD hS
    have hf := hf_f hf hc2
    exact nomatch hf
  · obtain ⟨au1, rfl⟩ : ∃ z, z = r := ⟨_, rfl⟩
    subst hw
    have hf := hf_l hf
    have hP : va_P (dC, dI) vwCl (uw_HT ad_ht cA_ht (ad_rd 0) (ad_sp 0) (ad_mx 0) (ad_ar 0) (ad_tb 0) (ad_tc 0) ht ++ (uw_Out ad_ot cA_ot ot ++ (uw_Surroundings ad_ar cA_ar ar))) H := hP
    have hD : va_D A (uw_HT ad_ht cA_ht (ad_rd 0) (ad_sp 0) (ad_mx 0) (ad_ar 0) (ad_tb 0) (ad_tc 0) ht ++ (uw_Out ad_ot cA_ot ot ++ (uw_Surroundings ad_ar cA_ar ar))) := hD
    refine lv_i2l (v := au1.toInt64) hx hb d_Law_fresh_7 rfl ?_
    obtain ⟨hi3, hf⟩ := hf_g hf
    refine va_last hx hb hK hP hD hS 2 1 rfl rfl hi3 d_Law_fresh_8 (fun H locs hP hD hS => ?_)
    have hP : va_P (dC, dI) vwCl (uw_HT ad_ht cA_ht (ad_rd 0) (ad_sp 0) (ad_mx 0) (ad_ar 0) (ad_tb 0) (ad_tc 0) ht ++ (uw_Out ad_ot cA_ot (vp_updL ot (0 : Int32).toNatClampNeg au1.toInt64) ++ (uw_Surroundings ad_ar cA_ar ar))) H := hP
    have hD : va_D A (uw_HT ad_ht cA_ht (ad_rd 0) (ad_sp 0) (ad_mx 0) (ad_ar 0) (ad_tb 0) (ad_tc 0) ht ++ (uw_Out ad_ot cA_ot (vp_updL ot (0 : Int32).toNatClampNeg au1.toInt64) ++ (uw_Surroundings ad_ar cA_ar ar))) := hD
    refine lv_goto (tgt := 15) hx hb d_Law_fresh_9 (by decide) ?_
    refine lv_iconst (v := (0 : Int32)) hx hb d_Law_fresh_15 (by decide) ?_
    exact ret (0 : Int32) (vp_updL ot (0 : Int32).toNatClampNeg au1.toInt64) H locs ls 16 d_Law_fresh_16 (hf_e hf) hP hD hS
noncomputable def f_Law_in (ht : SHT) (ot : SOut) (mx : SMixture) (ar : SSurroundings) (tb : STable) (x1 : Int32) (x2 : Int32) : Option (Int32 × SOut) :=
  (Option.bind (f_HT_in ht mx ar tb x1 x2) fun u1 => Sum.elim (fun au1 =>
    (if (bI au1) = 0 then
      (if inb (0 : Int32) 1 then
        (some ((0 : Int32), (vp_updL ot (0 : Int32).toNatClampNeg (0 : Int64))))
       else none)
     else
      (if inb (0 : Int32) 1 then
        (some ((0 : Int32), (vp_updL ot (0 : Int32).toNatClampNeg (1 : Int64))))
       else none)
     )
   ) (fun bu1 =>
    (if bu1.1 = 1 then
      (some ((1 : Int32), ot))
     else
    (if bu1.1 = 2 then
      (some ((2 : Int32), ot))
     else
      none
     ))
   ) u1)
set_option maxHeartbeats 4000000 in
set_option maxRecDepth 100000 in
theorem k_Law_in (l : Launch) (dC : Nat → ClassId) (dI : Nat → Nat → Nat) (ad_ht : Nat → Nat) (cA_ht : Nat → ClassId) (ad_ot : Nat → Nat) (cA_ot : Nat → ClassId) (ad_mx : Nat → Nat) (cA_mx : Nat → ClassId) (ad_ar : Nat → Nat) (cA_ar : Nat → ClassId) (ad_tb : Nat → Nat) (cA_tb : Nat → ClassId) (ad_rd : Nat → Nat) (cA_rd : Nat → ClassId) (ad_sp : Nat → Nat) (cA_sp : Nat → ClassId) (ad_tc : Nat → Nat) (cA_tc : Nat → ClassId) (sz : Nat) (ht : SHT) (ot : SOut) (mx : SMixture) (ar : SSurroundings) (tb : STable) (x1 : Int32) (x2 : Int32) (res : Int32 × SOut) (hf : f_Law_in ht ot mx ar tb x1 x2 = some res) (htr : l.stackTraces = false) : Met l y_Law_in w_Law_in ({ frames := 7, cells := 1, slots := 6, locals := 104 }) (lPc (dC, dI) (uw_HT ad_ht cA_ht (ad_rd 0) (ad_sp 0) (ad_mx 0) (ad_ar 0) (ad_tb 0) (ad_tc 0) ht ++ (uw_Out ad_ot cA_ot ot ++ (uw_Mixture ad_mx cA_mx mx ++ (uw_Surroundings ad_ar cA_ar ar ++ (uw_Table ad_tb cA_tb tb))))) [(cA_ht 1, .int), (cA_ot 1, .long), (cA_mx 1, .int), (cA_mx 2, .int), (cA_mx 3, .boolean), (cA_ar 1, .int), (cA_ar 2, .int), (cA_ar 3, .int), (cA_tb 1, .int), (cA_tb 2, .int), (cA_tb 3, .int), (cA_tb 4, .byte)] sz [.ref (ad_ht 0), .int x1, .int x2, .ref (ad_ot 1)]) (va_Qi (fun (r : Int32) (u : SOut) => r = res.1 ∧ u = res.2) (fun (u : SOut) (t : State) => va_P (dC, dI) vwCl (uw_HT ad_ht cA_ht (ad_rd 0) (ad_sp 0) (ad_mx 0) (ad_ar 0) (ad_tb 0) (ad_tc 0) ht ++ (uw_Out ad_ot cA_ot u ++ (uw_Mixture ad_mx cA_mx mx ++ (uw_Surroundings ad_ar cA_ar ar ++ (uw_Table ad_tb cA_tb tb))))) t.heap ∧ va_K (dC, dI) vwCl [(cA_ht 1, .int), (cA_ot 1, .long), (cA_mx 1, .int), (cA_mx 2, .int), (cA_mx 3, .boolean), (cA_ar 1, .int), (cA_ar 2, .int), (cA_ar 3, .int), (cA_tb 1, .int), (cA_tb 2, .int), (cA_tb 3, .int), (cA_tb 4, .byte)] t ∧ va_D (va_A (uw_HT ad_ht cA_ht (ad_rd 0) (ad_sp 0) (ad_mx 0) (ad_ar 0) (ad_tb 0) (ad_tc 0) ht ++ (uw_Out ad_ot cA_ot ot ++ (uw_Mixture ad_mx cA_mx mx ++ (uw_Surroundings ad_ar cA_ar ar ++ (uw_Table ad_tb cA_tb tb))))) sz) (uw_HT ad_ht cA_ht (ad_rd 0) (ad_sp 0) (ad_mx 0) (ad_ar 0) (ad_tb 0) (ad_tc 0) ht ++ (uw_Out ad_ot cA_ot u ++ (uw_Mixture ad_mx cA_mx mx ++ (uw_Surroundings ad_ar cA_ar ar ++ (uw_Table ad_tb cA_tb tb)))))) (va_A (uw_HT ad_ht cA_ht (ad_rd 0) (ad_sp 0) (ad_mx 0) (ad_ar 0) (ad_tb 0) (ad_tc 0) ht ++ (uw_Out ad_ot cA_ot ot ++ (uw_Mixture ad_mx cA_mx mx ++ (uw_Surroundings ad_ar cA_ar ar ++ (uw_Table ad_tb cA_tb tb))))) sz)) 1 6 (va_A (uw_HT ad_ht cA_ht (ad_rd 0) (ad_sp 0) (ad_mx 0) (ad_ar 0) (ad_tb 0) (ad_tc 0) ht ++ (uw_Out ad_ot cA_ot ot ++ (uw_Mixture ad_mx cA_mx mx ++ (uw_Surroundings ad_ar cA_ar ar ++ (uw_Table ad_tb cA_tb tb))))) sz) := by
  refine met_ofWH (hh := [(0, 17, 20, 13), (0, 17, 24, 21)]) (cc := b_Law_in) (maxL := 5) (ret := (some .int)) (by decide) rfl ?_
  intro p e s m args below meth c s₁ B hml hv
  obtain ⟨rfl, hsz, hP, hK, hD0, hN, hX, hnc⟩ := hv
  have hx := B.exec
  have hb := B.bytes
  have hr := B.returns
  have hts := atoms_spec (ws := w_Law_in) B.pre
  have hown : s.vm.findClass "HazardTablesLaw" = some m.cls := findClass_of_methodNamed B.named
  have hlocks := B.notSynchronized
  have htab : c.exceptionTable.toList = [⟨0, 17, 20, 13⟩, ⟨0, 17, 24, 21⟩] := vx_table (x := y_Law_in) B (hts _ List.mem_cons_self)
  subst hsz
  have hD := hD0.self (sz := s.heap.size)
  generalize hAe : va_A (uw_HT ad_ht cA_ht (ad_rd 0) (ad_sp 0) (ad_mx 0) (ad_ar 0) (ad_tb 0) (ad_tc 0) ht ++ (uw_Out ad_ot cA_ot ot ++ (uw_Mixture ad_mx cA_mx mx ++ (uw_Surroundings ad_ar cA_ar ar ++ (uw_Table ad_tb cA_tb tb))))) s.heap.size = A at hD hX ⊢
  have hA : ∀ q : Nat, s.heap.size ≤ q → A q := fun q h => by rw [← hAe]; exact Or.inr h
  have hS : va_S A s.heap s.heap [] := va_S.rf
  have hP : va_P (dC, dI) vwCl (uw_HT ad_ht cA_ht (ad_rd 0) (ad_sp 0) (ad_mx 0) (ad_ar 0) (ad_tb 0) (ad_tc 0) ht ++ (uw_Out ad_ot cA_ot ot ++ (uw_Mixture ad_mx cA_mx mx ++ (uw_Surroundings ad_ar cA_ar ar ++ (uw_Table ad_tb cA_tb tb))))) s.heap := hP
  have ret : ∀ (v : Int32) (u : SOut) (H : Heap) (locs : List Loc) (ls : Array Slot) (pc : Nat), decode b_Law_in pc = .ok (.ireturn, 1) → (v = res.1 ∧ u = res.2) → va_P (dC, dI) vwCl (uw_HT ad_ht cA_ht (ad_rd 0) (ad_sp 0) (ad_mx 0) (ad_ar 0) (ad_tb 0) (ad_tc 0) ht ++ (uw_Out ad_ot cA_ot u ++ (uw_Mixture ad_mx cA_mx mx ++ (uw_Surroundings ad_ar cA_ar ar ++ (uw_Table ad_tb cA_tb tb))))) H → va_D A (uw_HT ad_ht cA_ht (ad_rd 0) (ad_sp 0) (ad_mx 0) (ad_ar 0) (ad_tb 0) (ad_tc 0) ht ++ (uw_Out ad_ot cA_ot u ++ (uw_Mixture ad_mx cA_mx mx ++ (uw_Surroundings ad_ar cA_ar ar ++ (uw_Table ad_tb cA_tb tb))))) → va_S A s.heap H locs → W p l e (headSpec w_Law_in ({ frames := 7, cells := 1, slots := 6, locals := 104 })).room s m ([.ref (ad_ht 0), .int x1, .int x2, .ref (ad_ot 1)] : List Value).toArray below meth c H locs 1 6 (MQ below (va_Qi (fun (r : Int32) (u : SOut) => r = res.1 ∧ u = res.2) (fun (u : SOut) (t : State) => va_P (dC, dI) vwCl (uw_HT ad_ht cA_ht (ad_rd 0) (ad_sp 0) (ad_mx 0) (ad_ar 0) (ad_tb 0) (ad_tc 0) ht ++ (uw_Out ad_ot cA_ot u ++ (uw_Mixture ad_mx cA_mx mx ++ (uw_Surroundings ad_ar cA_ar ar ++ (uw_Table ad_tb cA_tb tb))))) t.heap ∧ va_K (dC, dI) vwCl [(cA_ht 1, .int), (cA_ot 1, .long), (cA_mx 1, .int), (cA_mx 2, .int), (cA_mx 3, .boolean), (cA_ar 1, .int), (cA_ar 2, .int), (cA_ar 3, .int), (cA_tb 1, .int), (cA_tb 2, .int), (cA_tb 3, .int), (cA_tb 4, .byte)] t ∧ va_D A (uw_HT ad_ht cA_ht (ad_rd 0) (ad_sp 0) (ad_mx 0) (ad_ar 0) (ad_tb 0) (ad_tc 0) ht ++ (uw_Out ad_ot cA_ot u ++ (uw_Mixture ad_mx cA_mx mx ++ (uw_Surroundings ad_ar cA_ar ar ++ (uw_Table ad_tb cA_tb tb)))))) A) ([.ref (ad_ht 0), .int x1, .int x2, .ref (ad_ot 1)] : List Value).toArray s 1 6 A) (F0 m pc ls [.int v]) := fun v u H locs ls pc hd hp hP hD hS => W.iret (v := v) hx hb hr (fun t ht hW => ⟨⟨v, u, rfl, hp, by rw [ht]; exact hP, va_K.moved hW.alike hK, hD⟩, hS.F ht⟩) hS.2.2 hd
  generalize (MQ below (va_Qi (fun (r : Int32) (u : SOut) => r = res.1 ∧ u = res.2) (fun (u : SOut) (t : State) => va_P (dC, dI) vwCl (uw_HT ad_ht cA_ht (ad_rd 0) (ad_sp 0) (ad_mx 0) (ad_ar 0) (ad_tb 0) (ad_tc 0) ht ++ (uw_Out ad_ot cA_ot u ++ (uw_Mixture ad_mx cA_mx mx ++ (uw_Surroundings ad_ar cA_ar ar ++ (uw_Table ad_tb cA_tb tb))))) t.heap ∧ va_K (dC, dI) vwCl [(cA_ht 1, .int), (cA_ot 1, .long), (cA_mx 1, .int), (cA_mx 2, .int), (cA_mx 3, .boolean), (cA_ar 1, .int), (cA_ar 2, .int), (cA_ar 3, .int), (cA_tb 1, .int), (cA_tb 2, .int), (cA_tb 3, .int), (cA_tb 4, .byte)] t ∧ va_D A (uw_HT ad_ht cA_ht (ad_rd 0) (ad_sp 0) (ad_mx 0) (ad_ar 0) (ad_tb 0) (ad_tc 0) ht ++ (uw_Out ad_ot cA_ot u ++ (uw_Mixture ad_mx cA_mx mx ++ (uw_Surroundings ad_ar cA_ar ar ++ (uw_Table ad_tb cA_tb tb)))))) A) ([.ref (ad_ht 0), .int x1, .int x2, .ref (ad_ot 1)] : List Value).toArray s 1 6 A) = Q at ret ⊢
  have hl := lv_entry ([.ref (ad_ht 0), .int x1, .int x2, .ref (ad_ot 1)]) (n := 5) (Nat.le_of_ble_eq_true rfl)
  rw [lg_entry_eq]
  generalize (lg_sl ([.ref (ad_ht 0), .int x1, .int x2, .ref (ad_ot 1)]) ++ List.replicate (5 - (lg_sl ([.ref (ad_ht 0), .int x1, .int x2, .ref (ad_ot 1)])).length) Slot.unset).toArray = ls at hl ⊢
  have hl : lv_has ls 5 [(0, .ref (ad_ht 0)), (1, .int x1), (2, .int x2), (3, .ref (ad_ot 1))] := hl
  have hf := hf
  rw [f_Law_in] at hf
  obtain ⟨H, hH⟩ : ∃ H : Heap, H = s.heap := ⟨_, rfl⟩
  obtain ⟨locs, hlocs⟩ : ∃ L : List Loc, L = [] := ⟨_, rfl⟩
  have hP : va_P (dC, dI) vwCl (uw_HT ad_ht cA_ht (ad_rd 0) (ad_sp 0) (ad_mx 0) (ad_ar 0) (ad_tb 0) (ad_tc 0) ht ++ (uw_Out ad_ot cA_ot ot ++ (uw_Mixture ad_mx cA_mx mx ++ (uw_Surroundings ad_ar cA_ar ar ++ (uw_Table ad_tb cA_tb tb))))) H := by rw [hH]; exact hP
  have hS : va_S A s.heap H locs := by rw [hH, hlocs]; exact hS
  show W p l e (headSpec w_Law_in ({ frames := 7, cells := 1, slots := 6, locals := 104 })).room s m ([.ref (ad_ht 0), .int x1, .int x2, .ref (ad_ot 1)] : List Value).toArray below meth c s.heap [] 0 0 Q (F0 m 0 ls [])
  suffices hgo : W p l e (headSpec w_Law_in ({ frames := 7, cells := 1, slots := 6, locals := 104 })).room s m ([.ref (ad_ht 0), .int x1, .int x2, .ref (ad_ot 1)] : List Value).toArray below meth c H locs 0 0 Q (F0 m 0 ls []) by rw [hH, hlocs] at hgo; exact hgo
  clear hH hlocs
  refine lv_aload_n hx hb d_Law_in_0 rfl (lv_at hl 3 rfl) ?_
  refine lv_iconst (v := (0 : Int32)) hx hb d_Law_in_1 (by decide) ?_
  refine lv_aload_n hx hb d_Law_in_2 rfl (lv_at hl 0 rfl) ?_
  refine lv_iload_n hx hb d_Law_in_3 rfl (lv_at hl 1 rfl) ?_
  refine lv_iload_n hx hb d_Law_in_4 rfl (lv_at hl 2 rfl) ?_
  obtain ⟨u1, hu1, hf⟩ := Option.bind_eq_some_iff.mp hf
  refine cx_i (wc := (uw_HT ad_ht cA_ht (ad_rd 0) (ad_sp 0) (ad_mx 0) (ad_ar 0) (ad_tb 0) (ad_tc 0) ht ++ (uw_Mixture ad_mx cA_mx mx ++ (uw_Surroundings ad_ar cA_ar ar ++ (uw_Table ad_tb cA_tb tb))))) (wr := (uw_Out ad_ot cA_ot ot)) (tysC := [(cA_ht 1, .int), (cA_mx 1, .int), (cA_mx 2, .int), (cA_mx 3, .boolean), (cA_ar 1, .int), (cA_ar 2, .int), (cA_ar 3, .int), (cA_tb 1, .int), (cA_tb 2, .int), (cA_tb 3, .int), (cA_tb 4, .byte)]) (wu := fun (u : Unit) => (uw_HT ad_ht cA_ht (ad_rd 0) (ad_sp 0) (ad_mx 0) (ad_ar 0) (ad_tb 0) (ad_tc 0) ht ++ (uw_Mixture ad_mx cA_mx mx ++ (uw_Surroundings ad_ar cA_ar ar ++ (uw_Table ad_tb cA_tb tb))))) (wn := fun (u : Unit) => (uw_HT ad_ht cA_ht (ad_rd 0) (ad_sp 0) (ad_mx 0) (ad_ar 0) (ad_tb 0) (ad_tc 0) ht ++ (uw_Out ad_ot cA_ot ot ++ (uw_Mixture ad_mx cA_mx mx ++ (uw_Surroundings ad_ar cA_ar ar ++ (uw_Table ad_tb cA_tb tb)))))) (wux := fun (u : Unit) => (uw_HT ad_ht cA_ht (ad_rd 0) (ad_sp 0) (ad_mx 0) (ad_ar 0) (ad_tb 0) (ad_tc 0) ht ++ (uw_Mixture ad_mx cA_mx mx ++ (uw_Surroundings ad_ar cA_ar ar ++ (uw_Table ad_tb cA_tb tb))))) (wnx := fun (u : Unit) => (uw_HT ad_ht cA_ht (ad_rd 0) (ad_sp 0) (ad_mx 0) (ad_ar 0) (ad_tb 0) (ad_tc 0) ht ++ (uw_Out ad_ot cA_ot ot ++ (uw_Mixture ad_mx cA_mx mx ++ (uw_Surroundings ad_ar cA_ar ar ++ (uw_Table ad_tb cA_tb tb)))))) [0, 1, 3, 4, 5, 6, 7, 8, 9, 10, 11, 12, 13, 14, 15] [2] [1, 2, 0, 3, 4, 5, 6, 7, 8, 9, 10, 11, 12, 13, 14, 15] [0, 2, 3, 4, 5, 6, 7, 8, 9, 10, 11] hP hD hS hA hK rfl rfl (by decide +kernel) (by decide +kernel) (by decide +kernel) rfl (fun _ => rfl) (fun _ => rfl) (by decide +kernel) (fun hPc hKc hDc hFc => (vx_runV (As := [.int x1, .int x2]) (rest := [.int (0 : Int32), .ref (ad_ot 1)]) ⟨hx, hb, hml, hown, hts⟩ (k_HT_in l dC dI ad_ht cA_ht ad_mx cA_mx ad_ar cA_ar ad_tb cA_tb ad_rd cA_rd ad_sp cA_sp ad_tc cA_tc H.size ht mx ar tb x1 x2 u1 hu1 htr) (cwV 2 hts (gV wd_708 wd_709 wd_710 wd_43 wd_711) rfl rfl rfl (by decide +kernel) ⟨Nat.le_of_ble_eq_true rfl, Nat.le_of_ble_eq_true rfl⟩) (cx_preV hPc hKc hDc hN (fun U hU hW => xAll_at hX hS hFc hU hW) (ci := 5) 0 rfl rfl) rfl rfl hl.1 rfl (lv_room (Nat.le_of_ble_eq_true rfl)) d_Law_in_5 ⟨Nat.le_of_ble_eq_true rfl, Nat.le_of_ble_eq_true rfl⟩)) (fun E ce q9 u H locs hw hE hP hD hS hce hcv hcl => ?_) (fun r u H locs hw hP hD hS => ?_)
  · obtain ⟨bu1, rfl⟩ : ∃ z, z = u := ⟨_, rfl⟩
    subst hw
    have hf := hf_r hf
    have hP : va_P (dC, dI) vwCl (uw_HT ad_ht cA_ht (ad_rd 0) (ad_sp 0) (ad_mx 0) (ad_ar 0) (ad_tb 0) (ad_tc 0) ht ++ (uw_Out ad_ot cA_ot ot ++ (uw_Mixture ad_mx cA_mx mx ++ (uw_Surroundings ad_ar cA_ar ar ++ (uw_Table ad_tb cA_tb tb))))) H := hP
    have hD : va_D A (uw_HT ad_ht cA_ht (ad_rd 0) (ad_sp 0) (ad_mx 0) (ad_ar 0) (ad_tb 0) (ad_tc 0) ht ++ (uw_Out ad_ot cA_ot ot ++ (uw_Mixture ad_mx cA_mx mx ++ (uw_Surroundings ad_ar cA_ar ar ++ (uw_Table ad_tb cA_tb tb))))) := hD
    by_cases hc2 : bu1.1 = 1
    · have hf := hf_t hf hc2
      have hE : E = "java/lang/IndexOutOfBoundsException" := by rw [hE, hc2]; rfl
      subst hE
      refine vx_catch (own := "HazardTablesLaw") (name := "java/lang/IndexOutOfBoundsException") (E := "java/lang/IndexOutOfBoundsException") hown [] ⟨0, 17, 20, 13⟩ [⟨0, 17, 24, 21⟩] htab (fun z hz => absurd hz List.not_mem_nil) (by decide) (by decide) (hts _ (List.mem_cons_of_mem _ wd_241)) (va_Nw.use rfl (hX.2.2.2 (.castable "java/lang/IndexOutOfBoundsException" "java/lang/IndexOutOfBoundsException") (by decide))) hce hcv hcl ?_
      refine lv_astore (lv' := [(4, .ref q9), (0, .ref (ad_ht 0)), (1, .int x1), (2, .int x2), (3, .ref (ad_ot 1))]) hx hb d_Law_in_20 hl (by decide) rfl (fun ls hl => ?_)
      refine lv_iconst (v := (1 : Int32)) hx hb d_Law_in_22 (by decide) ?_
      exact ret (1 : Int32) ot H locs ls 23 d_Law_in_23 (hf_e hf) hP hD hS
    have hf := hf_f hf hc2
    by_cases hc3 : bu1.1 = 2
    · have hf := hf_t hf hc3
      have hE : E = "java/lang/IllegalStateException" := by rw [hE, hc3]; rfl
      subst hE
      refine vx_catch (own := "HazardTablesLaw") (name := "java/lang/IllegalStateException") (E := "java/lang/IllegalStateException") hown [⟨0, 17, 20, 13⟩] ⟨0, 17, 24, 21⟩ [] htab (List.forall_mem_cons.mpr ⟨Or.inr ⟨by decide, "java/lang/IndexOutOfBoundsException", (hts _ (List.mem_cons_of_mem _ wd_241)), hnc 2 (by decide) 1 (by decide) (by decide)⟩, fun z hz => absurd hz List.not_mem_nil⟩) (by decide) (by decide) (hts _ (List.mem_cons_of_mem _ wd_345)) (va_Nw.use rfl (hX.2.2.2 (.castable "java/lang/IllegalStateException" "java/lang/IllegalStateException") (by decide))) hce hcv hcl ?_
      refine lv_astore (lv' := [(4, .ref q9), (0, .ref (ad_ht 0)), (1, .int x1), (2, .int x2), (3, .ref (ad_ot 1))]) hx hb d_Law_in_24 hl (by decide) rfl (fun ls hl => ?_)
      refine lv_iconst (v := (2 : Int32)) hx hb d_Law_in_26 (by decide) ?_
      exact ret (2 : Int32) ot H locs ls 27 d_Law_in_27 (hf_e hf) hP hD hS
    have hf := hf_f hf hc3
    exact nomatch hf
  · obtain ⟨b9, rfl, hw⟩ := hw
    obtain ⟨au1, rfl⟩ : ∃ z, z = b9 := ⟨_, rfl⟩
    subst hw
    have hf := hf_l hf
    have hP : va_P (dC, dI) vwCl (uw_HT ad_ht cA_ht (ad_rd 0) (ad_sp 0) (ad_mx 0) (ad_ar 0) (ad_tb 0) (ad_tc 0) ht ++ (uw_Out ad_ot cA_ot ot ++ (uw_Mixture ad_mx cA_mx mx ++ (uw_Surroundings ad_ar cA_ar ar ++ (uw_Table ad_tb cA_tb tb))))) H := hP
    have hD : va_D A (uw_HT ad_ht cA_ht (ad_rd 0) (ad_sp 0) (ad_mx 0) (ad_ar 0) (ad_tb 0) (ad_tc 0) ht ++ (uw_Out ad_ot cA_ot ot ++ (uw_Mixture ad_mx cA_mx mx ++ (uw_Surroundings ad_ar cA_ar ar ++ (uw_Table ad_tb cA_tb tb))))) := hD
    refine lv_if_eq (tgt := 15) hx hb d_Law_in_8 (by decide) (fun hc4 => ?_) (fun hc4 => ?_)
    · have hf := hf_t hf hc4
      refine lv_lconst (v := (0 : Int64)) hx hb d_Law_in_15 (by decide) ?_
      obtain ⟨hi5, hf⟩ := hf_g hf
      refine va_last hx hb hK hP hD hS 2 1 rfl rfl hi5 d_Law_in_16 (fun H locs hP hD hS => ?_)
      have hP : va_P (dC, dI) vwCl (uw_HT ad_ht cA_ht (ad_rd 0) (ad_sp 0) (ad_mx 0) (ad_ar 0) (ad_tb 0) (ad_tc 0) ht ++ (uw_Out ad_ot cA_ot (vp_updL ot (0 : Int32).toNatClampNeg (0 : Int64)) ++ (uw_Mixture ad_mx cA_mx mx ++ (uw_Surroundings ad_ar cA_ar ar ++ (uw_Table ad_tb cA_tb tb))))) H := hP
      have hD : va_D A (uw_HT ad_ht cA_ht (ad_rd 0) (ad_sp 0) (ad_mx 0) (ad_ar 0) (ad_tb 0) (ad_tc 0) ht ++ (uw_Out ad_ot cA_ot (vp_updL ot (0 : Int32).toNatClampNeg (0 : Int64)) ++ (uw_Mixture ad_mx cA_mx mx ++ (uw_Surroundings ad_ar cA_ar ar ++ (uw_Table ad_tb cA_tb tb))))) := hD
      refine lv_goto (tgt := 28) hx hb d_Law_in_17 (by decide) ?_
      refine lv_iconst (v := (0 : Int32)) hx hb d_Law_in_28 (by decide) ?_
      exact ret (0 : Int32) (vp_updL ot (0 : Int32).toNatClampNeg (0 : Int64)) H locs ls 29 d_Law_in_29 (hf_e hf) hP hD hS
    · have hf := hf_f hf hc4
      refine lv_lconst (v := (1 : Int64)) hx hb d_Law_in_11 (by decide) ?_
      refine lv_goto (tgt := 16) hx hb d_Law_in_12 (by decide) ?_
      obtain ⟨hi6, hf⟩ := hf_g hf
      refine va_last hx hb hK hP hD hS 2 1 rfl rfl hi6 d_Law_in_16 (fun H locs hP hD hS => ?_)
      have hP : va_P (dC, dI) vwCl (uw_HT ad_ht cA_ht (ad_rd 0) (ad_sp 0) (ad_mx 0) (ad_ar 0) (ad_tb 0) (ad_tc 0) ht ++ (uw_Out ad_ot cA_ot (vp_updL ot (0 : Int32).toNatClampNeg (1 : Int64)) ++ (uw_Mixture ad_mx cA_mx mx ++ (uw_Surroundings ad_ar cA_ar ar ++ (uw_Table ad_tb cA_tb tb))))) H := hP
      have hD : va_D A (uw_HT ad_ht cA_ht (ad_rd 0) (ad_sp 0) (ad_mx 0) (ad_ar 0) (ad_tb 0) (ad_tc 0) ht ++ (uw_Out ad_ot cA_ot (vp_updL ot (0 : Int32).toNatClampNeg (1 : Int64)) ++ (uw_Mixture ad_mx cA_mx mx ++ (uw_Surroundings ad_ar cA_ar ar ++ (uw_Table ad_tb cA_tb tb))))) := hD
      refine lv_goto (tgt := 28) hx hb d_Law_in_17 (by decide) ?_
      refine lv_iconst (v := (0 : Int32)) hx hb d_Law_in_28 (by decide) ?_
      exact ret (0 : Int32) (vp_updL ot (0 : Int32).toNatClampNeg (1 : Int64)) H locs ls 29 d_Law_in_29 (hf_e hf) hP hD hS
noncomputable def f_Law_step (ht : SHT) (ot : SOut) (mx : SMixture) (tb : STable) (x1 : Int32) : Option (Int32 × SOut × SMixture) :=
  (Option.bind (f_HT_step ht mx tb x1) fun u1 => Sum.elim (fun au1 =>
    (if inb (0 : Int32) 1 then
      (some ((0 : Int32), (vp_updL ot (0 : Int32).toNatClampNeg au1.1.toInt64), au1.2))
     else none)
   ) (fun bu1 =>
    (if bu1.1 = 1 then
      (some ((1 : Int32), ot, bu1.2))
     else
    (if bu1.1 = 2 then
      (some ((2 : Int32), ot, bu1.2))
     else
      none
     ))
   ) u1)
set_option maxHeartbeats 4000000 in
set_option maxRecDepth 100000 in
theorem k_Law_step (l : Launch) (dC : Nat → ClassId) (dI : Nat → Nat → Nat) (ad_ht : Nat → Nat) (cA_ht : Nat → ClassId) (ad_ot : Nat → Nat) (cA_ot : Nat → ClassId) (ad_mx : Nat → Nat) (cA_mx : Nat → ClassId) (ad_tb : Nat → Nat) (cA_tb : Nat → ClassId) (ad_rd : Nat → Nat) (cA_rd : Nat → ClassId) (ad_sp : Nat → Nat) (cA_sp : Nat → ClassId) (ad_ar : Nat → Nat) (cA_ar : Nat → ClassId) (ad_tc : Nat → Nat) (cA_tc : Nat → ClassId) (sz : Nat) (ht : SHT) (ot : SOut) (mx : SMixture) (tb : STable) (x1 : Int32) (res : Int32 × SOut × SMixture) (hf : f_Law_step ht ot mx tb x1 = some res) (htr : l.stackTraces = false) : Met l y_Law_step w_Law_step ({ frames := 7, cells := 1, slots := 6, locals := 103 }) (lPc (dC, dI) (uw_HT ad_ht cA_ht (ad_rd 0) (ad_sp 0) (ad_mx 0) (ad_ar 0) (ad_tb 0) (ad_tc 0) ht ++ (uw_Out ad_ot cA_ot ot ++ (uw_Mixture ad_mx cA_mx mx ++ (uw_Table ad_tb cA_tb tb)))) [(cA_ht 1, .int), (cA_ot 1, .long), (cA_mx 1, .int), (cA_mx 2, .int), (cA_mx 3, .boolean), (cA_tb 1, .int), (cA_tb 2, .int), (cA_tb 3, .int), (cA_tb 4, .byte)] sz [.ref (ad_ht 0), .int x1, .ref (ad_ot 1)]) (va_Qi (fun (r : Int32) (u : SOut × SMixture) => r = res.1 ∧ u = res.2) (fun (u : SOut × SMixture) (t : State) => va_P (dC, dI) vwCl (uw_HT ad_ht cA_ht (ad_rd 0) (ad_sp 0) (ad_mx 0) (ad_ar 0) (ad_tb 0) (ad_tc 0) ht ++ (uw_Out ad_ot cA_ot u.1 ++ (uw_Mixture ad_mx cA_mx u.2 ++ (uw_Table ad_tb cA_tb tb)))) t.heap ∧ va_K (dC, dI) vwCl [(cA_ht 1, .int), (cA_ot 1, .long), (cA_mx 1, .int), (cA_mx 2, .int), (cA_mx 3, .boolean), (cA_tb 1, .int), (cA_tb 2, .int), (cA_tb 3, .int), (cA_tb 4, .byte)] t ∧ va_D (va_A (uw_HT ad_ht cA_ht (ad_rd 0) (ad_sp 0) (ad_mx 0) (ad_ar 0) (ad_tb 0) (ad_tc 0) ht ++ (uw_Out ad_ot cA_ot ot ++ (uw_Mixture ad_mx cA_mx mx ++ (uw_Table ad_tb cA_tb tb)))) sz) (uw_HT ad_ht cA_ht (ad_rd 0) (ad_sp 0) (ad_mx 0) (ad_ar 0) (ad_tb 0) (ad_tc 0) ht ++ (uw_Out ad_ot cA_ot u.1 ++ (uw_Mixture ad_mx cA_mx u.2 ++ (uw_Table ad_tb cA_tb tb))))) (va_A (uw_HT ad_ht cA_ht (ad_rd 0) (ad_sp 0) (ad_mx 0) (ad_ar 0) (ad_tb 0) (ad_tc 0) ht ++ (uw_Out ad_ot cA_ot ot ++ (uw_Mixture ad_mx cA_mx mx ++ (uw_Table ad_tb cA_tb tb)))) sz)) 1 6 (va_A (uw_HT ad_ht cA_ht (ad_rd 0) (ad_sp 0) (ad_mx 0) (ad_ar 0) (ad_tb 0) (ad_tc 0) ht ++ (uw_Out ad_ot cA_ot ot ++ (uw_Mixture ad_mx cA_mx mx ++ (uw_Table ad_tb cA_tb tb)))) sz) := by
  refine met_ofWH (hh := [(0, 9, 12, 13), (0, 9, 15, 21)]) (cc := b_Law_step) (maxL := 4) (ret := (some .int)) (by decide) rfl ?_
  intro p e s m args below meth c s₁ B hml hv
  obtain ⟨rfl, hsz, hP, hK, hD0, hN, hX, hnc⟩ := hv
  have hx := B.exec
  have hb := B.bytes
  have hr := B.returns
  have hts := atoms_spec (ws := w_Law_step) B.pre
  have hown : s.vm.findClass "HazardTablesLaw" = some m.cls := findClass_of_methodNamed B.named
  have hlocks := B.notSynchronized
  have htab : c.exceptionTable.toList = [⟨0, 9, 12, 13⟩, ⟨0, 9, 15, 21⟩] := vx_table (x := y_Law_step) B (hts _ List.mem_cons_self)
  subst hsz
  have hD := hD0.self (sz := s.heap.size)
  generalize hAe : va_A (uw_HT ad_ht cA_ht (ad_rd 0) (ad_sp 0) (ad_mx 0) (ad_ar 0) (ad_tb 0) (ad_tc 0) ht ++ (uw_Out ad_ot cA_ot ot ++ (uw_Mixture ad_mx cA_mx mx ++ (uw_Table ad_tb cA_tb tb)))) s.heap.size = A at hD hX ⊢
  have hA : ∀ q : Nat, s.heap.size ≤ q → A q := fun q h => by rw [← hAe]; exact Or.inr h
  have hS : va_S A s.heap s.heap [] := va_S.rf
  have hP : va_P (dC, dI) vwCl (uw_HT ad_ht cA_ht (ad_rd 0) (ad_sp 0) (ad_mx 0) (ad_ar 0) (ad_tb 0) (ad_tc 0) ht ++ (uw_Out ad_ot cA_ot ot ++ (uw_Mixture ad_mx cA_mx mx ++ (uw_Table ad_tb cA_tb tb)))) s.heap := hP
  have ret : ∀ (v : Int32) (u : SOut × SMixture) (H : Heap) (locs : List Loc) (ls : Array Slot) (pc : Nat), decode b_Law_step pc = .ok (.ireturn, 1) → (v = res.1 ∧ u = res.2) → va_P (dC, dI) vwCl (uw_HT ad_ht cA_ht (ad_rd 0) (ad_sp 0) (ad_mx 0) (ad_ar 0) (ad_tb 0) (ad_tc 0) ht ++ (uw_Out ad_ot cA_ot u.1 ++ (uw_Mixture ad_mx cA_mx u.2 ++ (uw_Table ad_tb cA_tb tb)))) H → va_D A (uw_HT ad_ht cA_ht (ad_rd 0) (ad_sp 0) (ad_mx 0) (ad_ar 0) (ad_tb 0) (ad_tc 0) ht ++ (uw_Out ad_ot cA_ot u.1 ++ (uw_Mixture ad_mx cA_mx u.2 ++ (uw_Table ad_tb cA_tb tb)))) → va_S A s.heap H locs → W p l e (headSpec w_Law_step ({ frames := 7, cells := 1, slots := 6, locals := 103 })).room s m ([.ref (ad_ht 0), .int x1, .ref (ad_ot 1)] : List Value).toArray below meth c H locs 1 6 (MQ below (va_Qi (fun (r : Int32) (u : SOut × SMixture) => r = res.1 ∧ u = res.2) (fun (u : SOut × SMixture) (t : State) => va_P (dC, dI) vwCl (uw_HT ad_ht cA_ht (ad_rd 0) (ad_sp 0) (ad_mx 0) (ad_ar 0) (ad_tb 0) (ad_tc 0) ht ++ (uw_Out ad_ot cA_ot u.1 ++ (uw_Mixture ad_mx cA_mx u.2 ++ (uw_Table ad_tb cA_tb tb)))) t.heap ∧ va_K (dC, dI) vwCl [(cA_ht 1, .int), (cA_ot 1, .long), (cA_mx 1, .int), (cA_mx 2, .int), (cA_mx 3, .boolean), (cA_tb 1, .int), (cA_tb 2, .int), (cA_tb 3, .int), (cA_tb 4, .byte)] t ∧ va_D A (uw_HT ad_ht cA_ht (ad_rd 0) (ad_sp 0) (ad_mx 0) (ad_ar 0) (ad_tb 0) (ad_tc 0) ht ++ (uw_Out ad_ot cA_ot u.1 ++ (uw_Mixture ad_mx cA_mx u.2 ++ (uw_Table ad_tb cA_tb tb))))) A) ([.ref (ad_ht 0), .int x1, .ref (ad_ot 1)] : List Value).toArray s 1 6 A) (F0 m pc ls [.int v]) := fun v u H locs ls pc hd hp hP hD hS => W.iret (v := v) hx hb hr (fun t ht hW => ⟨⟨v, u, rfl, hp, by rw [ht]; exact hP, va_K.moved hW.alike hK, hD⟩, hS.F ht⟩) hS.2.2 hd
  generalize (MQ below (va_Qi (fun (r : Int32) (u : SOut × SMixture) => r = res.1 ∧ u = res.2) (fun (u : SOut × SMixture) (t : State) => va_P (dC, dI) vwCl (uw_HT ad_ht cA_ht (ad_rd 0) (ad_sp 0) (ad_mx 0) (ad_ar 0) (ad_tb 0) (ad_tc 0) ht ++ (uw_Out ad_ot cA_ot u.1 ++ (uw_Mixture ad_mx cA_mx u.2 ++ (uw_Table ad_tb cA_tb tb)))) t.heap ∧ va_K (dC, dI) vwCl [(cA_ht 1, .int), (cA_ot 1, .long), (cA_mx 1, .int), (cA_mx 2, .int), (cA_mx 3, .boolean), (cA_tb 1, .int), (cA_tb 2, .int), (cA_tb 3, .int), (cA_tb 4, .byte)] t ∧ va_D A (uw_HT ad_ht cA_ht (ad_rd 0) (ad_sp 0) (ad_mx 0) (ad_ar 0) (ad_tb 0) (ad_tc 0) ht ++ (uw_Out ad_ot cA_ot u.1 ++ (uw_Mixture ad_mx cA_mx u.2 ++ (uw_Table ad_tb cA_tb tb))))) A) ([.ref (ad_ht 0), .int x1, .ref (ad_ot 1)] : List Value).toArray s 1 6 A) = Q at ret ⊢
  have hl := lv_entry ([.ref (ad_ht 0), .int x1, .ref (ad_ot 1)]) (n := 4) (Nat.le_of_ble_eq_true rfl)
  rw [lg_entry_eq]
  generalize (lg_sl ([.ref (ad_ht 0), .int x1, .ref (ad_ot 1)]) ++ List.replicate (4 - (lg_sl ([.ref (ad_ht 0), .int x1, .ref (ad_ot 1)])).length) Slot.unset).toArray = ls at hl ⊢
  have hl : lv_has ls 4 [(0, .ref (ad_ht 0)), (1, .int x1), (2, .ref (ad_ot 1))] := hl
  have hf := hf
  rw [f_Law_step] at hf
  obtain ⟨H, hH⟩ : ∃ H : Heap, H = s.heap := ⟨_, rfl⟩
  obtain ⟨locs, hlocs⟩ : ∃ L : List Loc, L = [] := ⟨_, rfl⟩
  have hP : va_P (dC, dI) vwCl (uw_HT ad_ht cA_ht (ad_rd 0) (ad_sp 0) (ad_mx 0) (ad_ar 0) (ad_tb 0) (ad_tc 0) ht ++ (uw_Out ad_ot cA_ot ot ++ (uw_Mixture ad_mx cA_mx mx ++ (uw_Table ad_tb cA_tb tb)))) H := by rw [hH]; exact hP
  have hS : va_S A s.heap H locs := by rw [hH, hlocs]; exact hS
  show W p l e (headSpec w_Law_step ({ frames := 7, cells := 1, slots := 6, locals := 103 })).room s m ([.ref (ad_ht 0), .int x1, .ref (ad_ot 1)] : List Value).toArray below meth c s.heap [] 0 0 Q (F0 m 0 ls [])
  suffices hgo : W p l e (headSpec w_Law_step ({ frames := 7, cells := 1, slots := 6, locals := 103 })).room s m ([.ref (ad_ht 0), .int x1, .ref (ad_ot 1)] : List Value).toArray below meth c H locs 0 0 Q (F0 m 0 ls []) by rw [hH, hlocs] at hgo; exact hgo
  clear hH hlocs
  refine lv_aload_n hx hb d_Law_step_0 rfl (lv_at hl 2 rfl) ?_
  refine lv_iconst (v := (0 : Int32)) hx hb d_Law_step_1 (by decide) ?_
  refine lv_aload_n hx hb d_Law_step_2 rfl (lv_at hl 0 rfl) ?_
  refine lv_iload_n hx hb d_Law_step_3 rfl (lv_at hl 1 rfl) ?_
  obtain ⟨u1, hu1, hf⟩ := Option.bind_eq_some_iff.mp hf
  refine cx_i (wc := (uw_HT ad_ht cA_ht (ad_rd 0) (ad_sp 0) (ad_mx 0) (ad_ar 0) (ad_tb 0) (ad_tc 0) ht ++ (uw_Mixture ad_mx cA_mx mx ++ (uw_Table ad_tb cA_tb tb)))) (wr := (uw_Out ad_ot cA_ot ot)) (tysC := [(cA_ht 1, .int), (cA_mx 1, .int), (cA_mx 2, .int), (cA_mx 3, .boolean), (cA_tb 1, .int), (cA_tb 2, .int), (cA_tb 3, .int), (cA_tb 4, .byte)]) (wu := fun (u : SMixture) => (uw_HT ad_ht cA_ht (ad_rd 0) (ad_sp 0) (ad_mx 0) (ad_ar 0) (ad_tb 0) (ad_tc 0) ht ++ (uw_Mixture ad_mx cA_mx u ++ (uw_Table ad_tb cA_tb tb)))) (wn := fun (u : SMixture) => (uw_HT ad_ht cA_ht (ad_rd 0) (ad_sp 0) (ad_mx 0) (ad_ar 0) (ad_tb 0) (ad_tc 0) ht ++ (uw_Out ad_ot cA_ot ot ++ (uw_Mixture ad_mx cA_mx u ++ (uw_Table ad_tb cA_tb tb))))) (wux := fun (u : SMixture) => (uw_HT ad_ht cA_ht (ad_rd 0) (ad_sp 0) (ad_mx 0) (ad_ar 0) (ad_tb 0) (ad_tc 0) ht ++ (uw_Mixture ad_mx cA_mx u ++ (uw_Table ad_tb cA_tb tb)))) (wnx := fun (u : SMixture) => (uw_HT ad_ht cA_ht (ad_rd 0) (ad_sp 0) (ad_mx 0) (ad_ar 0) (ad_tb 0) (ad_tc 0) ht ++ (uw_Out ad_ot cA_ot ot ++ (uw_Mixture ad_mx cA_mx u ++ (uw_Table ad_tb cA_tb tb))))) [0, 1, 3, 4, 5, 6, 7, 8, 9, 10, 11] [2] [1, 2, 0, 3, 4, 5, 6, 7, 8, 9, 10, 11] [0, 2, 3, 4, 5, 6, 7, 8] hP hD hS hA hK rfl rfl (by decide +kernel) (by decide +kernel) (by decide +kernel) rfl (fun _ => rfl) (fun _ => rfl) (by decide +kernel) (fun hPc hKc hDc hFc => (vx_runV (As := [.int x1]) (rest := [.int (0 : Int32), .ref (ad_ot 1)]) ⟨hx, hb, hml, hown, hts⟩ (k_HT_step l dC dI ad_ht cA_ht ad_mx cA_mx ad_tb cA_tb ad_rd cA_rd ad_sp cA_sp ad_ar cA_ar ad_tc cA_tc H.size ht mx tb x1 u1 hu1 htr) (cwV 1 hts (gV wd_716 wd_717 wd_718 wd_43 wd_719) rfl rfl rfl (by decide +kernel) ⟨Nat.le_of_ble_eq_true rfl, Nat.le_of_ble_eq_true rfl⟩) (cx_preV hPc hKc hDc hN (fun U hU hW => xAll_at hX hS hFc hU hW) (ci := 5) 0 rfl rfl) rfl rfl hl.1 rfl (lv_room (Nat.le_of_ble_eq_true rfl)) d_Law_step_4 ⟨Nat.le_of_ble_eq_true rfl, Nat.le_of_ble_eq_true rfl⟩)) (fun E ce q9 u H locs hw hE hP hD hS hce hcv hcl => ?_) (fun r u H locs hw hP hD hS => ?_)
  · obtain ⟨bu1, rfl⟩ : ∃ z, z = u := ⟨_, rfl⟩
    subst hw
    have hf := hf_r hf
    have hP : va_P (dC, dI) vwCl (uw_HT ad_ht cA_ht (ad_rd 0) (ad_sp 0) (ad_mx 0) (ad_ar 0) (ad_tb 0) (ad_tc 0) ht ++ (uw_Out ad_ot cA_ot ot ++ (uw_Mixture ad_mx cA_mx bu1.2 ++ (uw_Table ad_tb cA_tb tb)))) H := hP
    have hD : va_D A (uw_HT ad_ht cA_ht (ad_rd 0) (ad_sp 0) (ad_mx 0) (ad_ar 0) (ad_tb 0) (ad_tc 0) ht ++ (uw_Out ad_ot cA_ot ot ++ (uw_Mixture ad_mx cA_mx bu1.2 ++ (uw_Table ad_tb cA_tb tb)))) := hD
    by_cases hc2 : bu1.1 = 1
    · have hf := hf_t hf hc2
      have hE : E = "java/lang/IndexOutOfBoundsException" := by rw [hE, hc2]; rfl
      subst hE
      refine vx_catch (own := "HazardTablesLaw") (name := "java/lang/IndexOutOfBoundsException") (E := "java/lang/IndexOutOfBoundsException") hown [] ⟨0, 9, 12, 13⟩ [⟨0, 9, 15, 21⟩] htab (fun z hz => absurd hz List.not_mem_nil) (by decide) (by decide) (hts _ (List.mem_cons_of_mem _ wd_241)) (va_Nw.use rfl (hX.2.2.2 (.castable "java/lang/IndexOutOfBoundsException" "java/lang/IndexOutOfBoundsException") (by decide))) hce hcv hcl ?_
      refine lv_astore_n (lv' := [(3, .ref q9), (0, .ref (ad_ht 0)), (1, .int x1), (2, .ref (ad_ot 1))]) hx hb d_Law_step_12 rfl hl (by decide) rfl (fun ls hl => ?_)
      refine lv_iconst (v := (1 : Int32)) hx hb d_Law_step_13 (by decide) ?_
      exact ret (1 : Int32) (ot, bu1.2) H locs ls 14 d_Law_step_14 (hf_e hf) hP hD hS
    have hf := hf_f hf hc2
    by_cases hc3 : bu1.1 = 2
    · have hf := hf_t hf hc3
      have hE : E = "java/lang/IllegalStateException" := by rw [hE, hc3]; rfl
      subst hE
      refine vx_catch (own := "HazardTablesLaw") (name := "java/lang/IllegalStateException") (E := "java/lang/IllegalStateException") hown [⟨0, 9, 12, 13⟩] ⟨0, 9, 15, 21⟩ [] htab (List.forall_mem_cons.mpr ⟨Or.inr ⟨by decide, "java/lang/IndexOutOfBoundsException", (hts _ (List.mem_cons_of_mem _ wd_241)), hnc 2 (by decide) 1 (by decide) (by decide)⟩, fun z hz => absurd hz List.not_mem_nil⟩) (by decide) (by decide) (hts _ (List.mem_cons_of_mem _ wd_345)) (va_Nw.use rfl (hX.2.2.2 (.castable "java/lang/IllegalStateException" "java/lang/IllegalStateException") (by decide))) hce hcv hcl ?_
      refine lv_astore_n (lv' := [(3, .ref q9), (0, .ref (ad_ht 0)), (1, .int x1), (2, .ref (ad_ot 1))]) hx hb d_Law_step_15 rfl hl (by decide) rfl (fun ls hl => ?_)
      refine lv_iconst (v := (2 : Int32)) hx hb d_Law_step_16 (by decide) ?_
      exact ret (2 : Int32) (ot, bu1.2) H locs ls 17 d_Law_step_17 (hf_e hf) hP hD hS
    have hf := hf_f hf hc3
    exact nomatch hf
  · obtain ⟨au1, rfl, rfl⟩ : ∃ z : Int32 × (SMixture), r = z.1 ∧ u = z.2 := ⟨(r, u), rfl, rfl⟩
    have hw : u1 = .inl au1 := hw
    subst hw
    have hf := hf_l hf
    have hP : va_P (dC, dI) vwCl (uw_HT ad_ht cA_ht (ad_rd 0) (ad_sp 0) (ad_mx 0) (ad_ar 0) (ad_tb 0) (ad_tc 0) ht ++ (uw_Out ad_ot cA_ot ot ++ (uw_Mixture ad_mx cA_mx au1.2 ++ (uw_Table ad_tb cA_tb tb)))) H := hP
    have hD : va_D A (uw_HT ad_ht cA_ht (ad_rd 0) (ad_sp 0) (ad_mx 0) (ad_ar 0) (ad_tb 0) (ad_tc 0) ht ++ (uw_Out ad_ot cA_ot ot ++ (uw_Mixture ad_mx cA_mx au1.2 ++ (uw_Table ad_tb cA_tb tb)))) := hD
    refine lv_i2l (v := au1.1.toInt64) hx hb d_Law_step_7 rfl ?_
    obtain ⟨hi4, hf⟩ := hf_g hf
    refine va_last hx hb hK hP hD hS 2 1 rfl rfl hi4 d_Law_step_8 (fun H locs hP hD hS => ?_)
    have hP : va_P (dC, dI) vwCl (uw_HT ad_ht cA_ht (ad_rd 0) (ad_sp 0) (ad_mx 0) (ad_ar 0) (ad_tb 0) (ad_tc 0) ht ++ (uw_Out ad_ot cA_ot (vp_updL ot (0 : Int32).toNatClampNeg au1.1.toInt64) ++ (uw_Mixture ad_mx cA_mx au1.2 ++ (uw_Table ad_tb cA_tb tb)))) H := hP
    have hD : va_D A (uw_HT ad_ht cA_ht (ad_rd 0) (ad_sp 0) (ad_mx 0) (ad_ar 0) (ad_tb 0) (ad_tc 0) ht ++ (uw_Out ad_ot cA_ot (vp_updL ot (0 : Int32).toNatClampNeg au1.1.toInt64) ++ (uw_Mixture ad_mx cA_mx au1.2 ++ (uw_Table ad_tb cA_tb tb)))) := hD
    refine lv_goto (tgt := 18) hx hb d_Law_step_9 (by decide) ?_
    refine lv_iconst (v := (0 : Int32)) hx hb d_Law_step_18 (by decide) ?_
    exact ret (0 : Int32) ((vp_updL ot (0 : Int32).toNatClampNeg au1.1.toInt64), au1.2) H locs ls 19 d_Law_step_19 (hf_e hf) hP hD hS
noncomputable def f_Law_mark (ht : SHT) (x1 : Int32) (x2 : Int32) : Option (Int32 × SHT) :=
  (Option.bind (f_HT_mark ht x1 x2) fun u1 => Sum.elim (fun au1 =>
    (some ((0 : Int32), au1))
   ) (fun bu1 =>
    (if bu1.1 = 0 then
      (some ((1 : Int32), bu1.2))
     else
    (if bu1.1 = 1 then
      (some ((2 : Int32), bu1.2))
     else
      none
     ))
   ) u1)
set_option maxHeartbeats 4000000 in
set_option maxRecDepth 100000 in
theorem k_Law_mark (l : Launch) (dC : Nat → ClassId) (dI : Nat → Nat → Nat) (ad_ht : Nat → Nat) (cA_ht : Nat → ClassId) (ad_rd : Nat → Nat) (cA_rd : Nat → ClassId) (ad_sp : Nat → Nat) (cA_sp : Nat → ClassId) (ad_mx : Nat → Nat) (cA_mx : Nat → ClassId) (ad_ar : Nat → Nat) (cA_ar : Nat → ClassId) (ad_tb : Nat → Nat) (cA_tb : Nat → ClassId) (ad_tc : Nat → Nat) (cA_tc : Nat → ClassId) (sz : Nat) (ht : SHT) (x1 : Int32) (x2 : Int32) (res : Int32 × SHT) (hf : f_Law_mark ht x1 x2 = some res) (htr : l.stackTraces = false) : Met l y_Law_mark w_Law_mark ({ frames := 7, cells := 1, slots := 6, locals := 104 }) (lPc (dC, dI) (uw_HT ad_ht cA_ht (ad_rd 0) (ad_sp 0) (ad_mx 0) (ad_ar 0) (ad_tb 0) (ad_tc 0) ht) [(cA_ht 1, .int)] sz [.ref (ad_ht 0), .int x1, .int x2]) (va_Qi (fun (r : Int32) (u : SHT) => r = res.1 ∧ u = res.2) (fun (u : SHT) (t : State) => va_P (dC, dI) vwCl (uw_HT ad_ht cA_ht (ad_rd 0) (ad_sp 0) (ad_mx 0) (ad_ar 0) (ad_tb 0) (ad_tc 0) u) t.heap ∧ va_K (dC, dI) vwCl [(cA_ht 1, .int)] t ∧ va_D (va_A (uw_HT ad_ht cA_ht (ad_rd 0) (ad_sp 0) (ad_mx 0) (ad_ar 0) (ad_tb 0) (ad_tc 0) ht) sz) (uw_HT ad_ht cA_ht (ad_rd 0) (ad_sp 0) (ad_mx 0) (ad_ar 0) (ad_tb 0) (ad_tc 0) u)) (va_A (uw_HT ad_ht cA_ht (ad_rd 0) (ad_sp 0) (ad_mx 0) (ad_ar 0) (ad_tb 0) (ad_tc 0) ht) sz)) 1 6 (va_A (uw_HT ad_ht cA_ht (ad_rd 0) (ad_sp 0) (ad_mx 0) (ad_ar 0) (ad_tb 0) (ad_tc 0) ht) sz) := by
  refine met_ofWH (hh := [(0, 6, 9, 27), (0, 6, 12, 13)]) (cc := b_Law_mark) (maxL := 4) (ret := (some .int)) (by decide) rfl ?_
  intro p e s m args below meth c s₁ B hml hv
  obtain ⟨rfl, hsz, hP, hK, hD0, hN, hX, hnc⟩ := hv
  have hx := B.exec
  have hb := B.bytes
  have hr := B.returns
  have hts := atoms_spec (ws := w_Law_mark) B.pre
  have hown : s.vm.findClass "HazardTablesLaw" = some m.cls := findClass_of_methodNamed B.named
  have hlocks := B.notSynchronized
  have htab : c.exceptionTable.toList = [⟨0, 6, 9, 27⟩, ⟨0, 6, 12, 13⟩] := vx_table (x := y_Law_mark) B (hts _ List.mem_cons_self)
  subst hsz
  have hD := hD0.self (sz := s.heap.size)
  generalize hAe : va_A (uw_HT ad_ht cA_ht (ad_rd 0) (ad_sp 0) (ad_mx 0) (ad_ar 0) (ad_tb 0) (ad_tc 0) ht) s.heap.size = A at hD hX ⊢
  have hA : ∀ q : Nat, s.heap.size ≤ q → A q := fun q h => by rw [← hAe]; exact Or.inr h
  have hS : va_S A s.heap s.heap [] := va_S.rf
  have hP : va_P (dC, dI) vwCl (uw_HT ad_ht cA_ht (ad_rd 0) (ad_sp 0) (ad_mx 0) (ad_ar 0) (ad_tb 0) (ad_tc 0) ht) s.heap := hP
  have ret : ∀ (v : Int32) (u : SHT) (H : Heap) (locs : List Loc) (ls : Array Slot) (pc : Nat), decode b_Law_mark pc = .ok (.ireturn, 1) → (v = res.1 ∧ u = res.2) → va_P (dC, dI) vwCl (uw_HT ad_ht cA_ht (ad_rd 0) (ad_sp 0) (ad_mx 0) (ad_ar 0) (ad_tb 0) (ad_tc 0) u) H → va_D A (uw_HT ad_ht cA_ht (ad_rd 0) (ad_sp 0) (ad_mx 0) (ad_ar 0) (ad_tb 0) (ad_tc 0) u) → va_S A s.heap H locs → W p l e (headSpec w_Law_mark ({ frames := 7, cells := 1, slots := 6, locals := 104 })).room s m ([.ref (ad_ht 0), .int x1, .int x2] : List Value).toArray below meth c H locs 1 6 (MQ below (va_Qi (fun (r : Int32) (u : SHT) => r = res.1 ∧ u = res.2) (fun (u : SHT) (t : State) => va_P (dC, dI) vwCl (uw_HT ad_ht cA_ht (ad_rd 0) (ad_sp 0) (ad_mx 0) (ad_ar 0) (ad_tb 0) (ad_tc 0) u) t.heap ∧ va_K (dC, dI) vwCl [(cA_ht 1, .int)] t ∧ va_D A (uw_HT ad_ht cA_ht (ad_rd 0) (ad_sp 0) (ad_mx 0) (ad_ar 0) (ad_tb 0) (ad_tc 0) u)) A) ([.ref (ad_ht 0), .int x1, .int x2] : List Value).toArray s 1 6 A) (F0 m pc ls [.int v]) := fun v u H locs ls pc hd hp hP hD hS => W.iret (v := v) hx hb hr (fun t ht hW => ⟨⟨v, u, rfl, hp, by rw [ht]; exact hP, va_K.moved hW.alike hK, hD⟩, hS.F ht⟩) hS.2.2 hd
  generalize (MQ below (va_Qi (fun (r : Int32) (u : SHT) => r = res.1 ∧ u = res.2) (fun (u : SHT) (t : State) => va_P (dC, dI) vwCl (uw_HT ad_ht cA_ht (ad_rd 0) (ad_sp 0) (ad_mx 0) (ad_ar 0) (ad_tb 0) (ad_tc 0) u) t.heap ∧ va_K (dC, dI) vwCl [(cA_ht 1, .int)] t ∧ va_D A (uw_HT ad_ht cA_ht (ad_rd 0) (ad_sp 0) (ad_mx 0) (ad_ar 0) (ad_tb 0) (ad_tc 0) u)) A) ([.ref (ad_ht 0), .int x1, .int x2] : List Value).toArray s 1 6 A) = Q at ret ⊢
  have hl := lv_entry ([.ref (ad_ht 0), .int x1, .int x2]) (n := 4) (Nat.le_of_ble_eq_true rfl)
  rw [lg_entry_eq]
  generalize (lg_sl ([.ref (ad_ht 0), .int x1, .int x2]) ++ List.replicate (4 - (lg_sl ([.ref (ad_ht 0), .int x1, .int x2])).length) Slot.unset).toArray = ls at hl ⊢
  have hl : lv_has ls 4 [(0, .ref (ad_ht 0)), (1, .int x1), (2, .int x2)] := hl
  have hf := hf
  rw [f_Law_mark] at hf
  obtain ⟨H, hH⟩ : ∃ H : Heap, H = s.heap := ⟨_, rfl⟩
  obtain ⟨locs, hlocs⟩ : ∃ L : List Loc, L = [] := ⟨_, rfl⟩
  have hP : va_P (dC, dI) vwCl (uw_HT ad_ht cA_ht (ad_rd 0) (ad_sp 0) (ad_mx 0) (ad_ar 0) (ad_tb 0) (ad_tc 0) ht) H := by rw [hH]; exact hP
  have hS : va_S A s.heap H locs := by rw [hH, hlocs]; exact hS
  show W p l e (headSpec w_Law_mark ({ frames := 7, cells := 1, slots := 6, locals := 104 })).room s m ([.ref (ad_ht 0), .int x1, .int x2] : List Value).toArray below meth c s.heap [] 0 0 Q (F0 m 0 ls [])
  suffices hgo : W p l e (headSpec w_Law_mark ({ frames := 7, cells := 1, slots := 6, locals := 104 })).room s m ([.ref (ad_ht 0), .int x1, .int x2] : List Value).toArray below meth c H locs 0 0 Q (F0 m 0 ls []) by rw [hH, hlocs] at hgo; exact hgo
  clear hH hlocs
  refine lv_aload_n hx hb d_Law_mark_0 rfl (lv_at hl 0 rfl) ?_
  refine lv_iload_n hx hb d_Law_mark_1 rfl (lv_at hl 1 rfl) ?_
  refine lv_iload_n hx hb d_Law_mark_2 rfl (lv_at hl 2 rfl) ?_
  obtain ⟨u1, hu1, hf⟩ := Option.bind_eq_some_iff.mp hf
  refine cx_v (wc := (uw_HT ad_ht cA_ht (ad_rd 0) (ad_sp 0) (ad_mx 0) (ad_ar 0) (ad_tb 0) (ad_tc 0) ht)) (wr := []) (tysC := [(cA_ht 1, .int)]) (wu := fun (u : SHT) => (uw_HT ad_ht cA_ht (ad_rd 0) (ad_sp 0) (ad_mx 0) (ad_ar 0) (ad_tb 0) (ad_tc 0) u)) (wn := fun (u : SHT) => (uw_HT ad_ht cA_ht (ad_rd 0) (ad_sp 0) (ad_mx 0) (ad_ar 0) (ad_tb 0) (ad_tc 0) u)) (wux := fun (u : SHT) => (uw_HT ad_ht cA_ht (ad_rd 0) (ad_sp 0) (ad_mx 0) (ad_ar 0) (ad_tb 0) (ad_tc 0) u)) (wnx := fun (u : SHT) => (uw_HT ad_ht cA_ht (ad_rd 0) (ad_sp 0) (ad_mx 0) (ad_ar 0) (ad_tb 0) (ad_tc 0) u)) [0, 1] [] [0, 1] [0] hP hD hS hA hK rfl rfl (by decide +kernel) (by decide +kernel) (by decide +kernel) rfl (fun _ => rfl) (fun _ => rfl) (by decide +kernel) (fun hPc hKc hDc hFc => (vx_runV (As := [.int x1, .int x2]) (rest := []) ⟨hx, hb, hml, hown, hts⟩ (k_HT_mark l dC dI ad_ht cA_ht ad_rd cA_rd ad_sp cA_sp ad_mx cA_mx ad_ar cA_ar ad_tb cA_tb ad_tc cA_tc H.size ht x1 x2 u1 hu1 htr) (cwV 2 hts (gV wd_729 wd_730 wd_731 wd_43 wd_732) rfl rfl rfl (by decide +kernel) ⟨Nat.le_of_ble_eq_true rfl, Nat.le_of_ble_eq_true rfl⟩) (cx_preV hPc hKc hDc hN (fun U hU hW => xAll_at hX hS hFc hU hW) (ci := 5) 0 rfl rfl) rfl rfl hl.1 rfl (lv_room (Nat.le_of_ble_eq_true rfl)) d_Law_mark_3 ⟨Nat.le_of_ble_eq_true rfl, Nat.le_of_ble_eq_true rfl⟩)) (fun E ce q9 u H locs hw hE hP hD hS hce hcv hcl => ?_) (fun u H locs hw hP hD hS => ?_)
  · obtain ⟨bu1, rfl⟩ : ∃ z, z = u := ⟨_, rfl⟩
    subst hw
    have hf := hf_r hf
    have hP : va_P (dC, dI) vwCl (uw_HT ad_ht cA_ht (ad_rd 0) (ad_sp 0) (ad_mx 0) (ad_ar 0) (ad_tb 0) (ad_tc 0) bu1.2) H := hP
    have hD : va_D A (uw_HT ad_ht cA_ht (ad_rd 0) (ad_sp 0) (ad_mx 0) (ad_ar 0) (ad_tb 0) (ad_tc 0) bu1.2) := hD
    by_cases hc2 : bu1.1 = 0
    · have hf := hf_t hf hc2
      have hE : E = "java/lang/IllegalArgumentException" := by rw [hE, hc2]; rfl
      subst hE
      refine vx_catch (own := "HazardTablesLaw") (name := "java/lang/IllegalArgumentException") (E := "java/lang/IllegalArgumentException") hown [] ⟨0, 6, 9, 27⟩ [⟨0, 6, 12, 13⟩] htab (fun z hz => absurd hz List.not_mem_nil) (by decide) (by decide) (hts _ (List.mem_cons_of_mem _ wd_469)) (va_Nw.use rfl (hX.2.2.2 (.castable "java/lang/IllegalArgumentException" "java/lang/IllegalArgumentException") (by decide))) hce hcv hcl ?_
      refine lv_astore_n (lv' := [(3, .ref q9), (0, .ref (ad_ht 0)), (1, .int x1), (2, .int x2)]) hx hb d_Law_mark_9 rfl hl (by decide) rfl (fun ls hl => ?_)
      refine lv_iconst (v := (1 : Int32)) hx hb d_Law_mark_10 (by decide) ?_
      exact ret (1 : Int32) bu1.2 H locs ls 11 d_Law_mark_11 (hf_e hf) hP hD hS
    have hf := hf_f hf hc2
    by_cases hc3 : bu1.1 = 1
    · have hf := hf_t hf hc3
      have hE : E = "java/lang/IndexOutOfBoundsException" := by rw [hE, hc3]; rfl
      subst hE
      refine vx_catch (own := "HazardTablesLaw") (name := "java/lang/IndexOutOfBoundsException") (E := "java/lang/IndexOutOfBoundsException") hown [⟨0, 6, 9, 27⟩] ⟨0, 6, 12, 13⟩ [] htab (List.forall_mem_cons.mpr ⟨Or.inr ⟨by decide, "java/lang/IllegalArgumentException", (hts _ (List.mem_cons_of_mem _ wd_469)), hnc 1 (by decide) 0 (by decide) (by decide)⟩, fun z hz => absurd hz List.not_mem_nil⟩) (by decide) (by decide) (hts _ (List.mem_cons_of_mem _ wd_241)) (va_Nw.use rfl (hX.2.2.2 (.castable "java/lang/IndexOutOfBoundsException" "java/lang/IndexOutOfBoundsException") (by decide))) hce hcv hcl ?_
      refine lv_astore_n (lv' := [(3, .ref q9), (0, .ref (ad_ht 0)), (1, .int x1), (2, .int x2)]) hx hb d_Law_mark_12 rfl hl (by decide) rfl (fun ls hl => ?_)
      refine lv_iconst (v := (2 : Int32)) hx hb d_Law_mark_13 (by decide) ?_
      exact ret (2 : Int32) bu1.2 H locs ls 14 d_Law_mark_14 (hf_e hf) hP hD hS
    have hf := hf_f hf hc3
    exact nomatch hf
  · obtain ⟨au1, rfl⟩ : ∃ z, z = u := ⟨_, rfl⟩
    subst hw
    have hf := hf_l hf
    have hP : va_P (dC, dI) vwCl (uw_HT ad_ht cA_ht (ad_rd 0) (ad_sp 0) (ad_mx 0) (ad_ar 0) (ad_tb 0) (ad_tc 0) au1) H := hP
    have hD : va_D A (uw_HT ad_ht cA_ht (ad_rd 0) (ad_sp 0) (ad_mx 0) (ad_ar 0) (ad_tb 0) (ad_tc 0) au1) := hD
    refine lv_goto (tgt := 15) hx hb d_Law_mark_6 (by decide) ?_
    refine lv_iconst (v := (0 : Int32)) hx hb d_Law_mark_15 (by decide) ?_
    exact ret (0 : Int32) au1 H locs ls 16 d_Law_mark_16 (hf_e hf) hP hD hS
noncomputable def f_Law_over (ht : SHT) (ot : SOut) (x1 : Int32) (x2 : Int32) : Option (Int32 × SOut) :=
  (Option.bind (f_HT_over ht x1 x2) fun u1 => Sum.elim (fun au1 =>
    (if (bI au1) = 0 then
      (if inb (0 : Int32) 1 then
        (some ((0 : Int32), (vp_updL ot (0 : Int32).toNatClampNeg (0 : Int64))))
       else none)
     else
      (if inb (0 : Int32) 1 then
        (some ((0 : Int32), (vp_updL ot (0 : Int32).toNatClampNeg (1 : Int64))))
       else none)
     )
   ) (fun bu1 =>
    (if bu1.1 = 0 then
      (some ((1 : Int32), ot))
     else
      none
     )
   ) u1)
set_option maxHeartbeats 4000000 in
set_option maxRecDepth 100000 in
theorem k_Law_over (l : Launch) (dC : Nat → ClassId) (dI : Nat → Nat → Nat) (ad_ht : Nat → Nat) (cA_ht : Nat → ClassId) (ad_ot : Nat → Nat) (cA_ot : Nat → ClassId) (ad_rd : Nat → Nat) (cA_rd : Nat → ClassId) (ad_sp : Nat → Nat) (cA_sp : Nat → ClassId) (ad_mx : Nat → Nat) (cA_mx : Nat → ClassId) (ad_ar : Nat → Nat) (cA_ar : Nat → ClassId) (ad_tb : Nat → Nat) (cA_tb : Nat → ClassId) (ad_tc : Nat → Nat) (cA_tc : Nat → ClassId) (sz : Nat) (ht : SHT) (ot : SOut) (x1 : Int32) (x2 : Int32) (res : Int32 × SOut) (hf : f_Law_over ht ot x1 x2 = some res) (htr : l.stackTraces = false) : Met l y_Law_over w_Law_over ({ frames := 7, cells := 1, slots := 6, locals := 104 }) (lPc (dC, dI) (uw_HT ad_ht cA_ht (ad_rd 0) (ad_sp 0) (ad_mx 0) (ad_ar 0) (ad_tb 0) (ad_tc 0) ht ++ (uw_Out ad_ot cA_ot ot)) [(cA_ht 1, .int), (cA_ot 1, .long)] sz [.ref (ad_ht 0), .int x1, .int x2, .ref (ad_ot 1)]) (va_Qi (fun (r : Int32) (u : SOut) => r = res.1 ∧ u = res.2) (fun (u : SOut) (t : State) => va_P (dC, dI) vwCl (uw_HT ad_ht cA_ht (ad_rd 0) (ad_sp 0) (ad_mx 0) (ad_ar 0) (ad_tb 0) (ad_tc 0) ht ++ (uw_Out ad_ot cA_ot u)) t.heap ∧ va_K (dC, dI) vwCl [(cA_ht 1, .int), (cA_ot 1, .long)] t ∧ va_D (va_A (uw_HT ad_ht cA_ht (ad_rd 0) (ad_sp 0) (ad_mx 0) (ad_ar 0) (ad_tb 0) (ad_tc 0) ht ++ (uw_Out ad_ot cA_ot ot)) sz) (uw_HT ad_ht cA_ht (ad_rd 0) (ad_sp 0) (ad_mx 0) (ad_ar 0) (ad_tb 0) (ad_tc 0) ht ++ (uw_Out ad_ot cA_ot u))) (va_A (uw_HT ad_ht cA_ht (ad_rd 0) (ad_sp 0) (ad_mx 0) (ad_ar 0) (ad_tb 0) (ad_tc 0) ht ++ (uw_Out ad_ot cA_ot ot)) sz)) 1 6 (va_A (uw_HT ad_ht cA_ht (ad_rd 0) (ad_sp 0) (ad_mx 0) (ad_ar 0) (ad_tb 0) (ad_tc 0) ht ++ (uw_Out ad_ot cA_ot ot)) sz) := by
  refine met_ofWH (hh := [(0, 17, 20, 27)]) (cc := b_Law_over) (maxL := 5) (ret := (some .int)) (by decide) rfl ?_
  intro p e s m args below meth c s₁ B hml hv
  obtain ⟨rfl, hsz, hP, hK, hD0, hN, hX, hnc⟩ := hv
  have hx := B.exec
  have hb := B.bytes
  have hr := B.returns
  have hts := atoms_spec (ws := w_Law_over) B.pre
  have hown : s.vm.findClass "HazardTablesLaw" = some m.cls := findClass_of_methodNamed B.named
  have hlocks := B.notSynchronized
  have htab : c.exceptionTable.toList = [⟨0, 17, 20, 27⟩] := vx_table (x := y_Law_over) B (hts _ List.mem_cons_self)
  subst hsz
  have hD := hD0.self (sz := s.heap.size)
  generalize hAe : va_A (uw_HT ad_ht cA_ht (ad_rd 0) (ad_sp 0) (ad_mx 0) (ad_ar 0) (ad_tb 0) (ad_tc 0) ht ++ (uw_Out ad_ot cA_ot ot)) s.heap.size = A at hD hX ⊢
  have hA : ∀ q : Nat, s.heap.size ≤ q → A q := fun q h => by rw [← hAe]; exact Or.inr h
  have hS : va_S A s.heap s.heap [] := va_S.rf
  have hP : va_P (dC, dI) vwCl (uw_HT ad_ht cA_ht (ad_rd 0) (ad_sp 0) (ad_mx 0) (ad_ar 0) (ad_tb 0) (ad_tc 0) ht ++ (uw_Out ad_ot cA_ot ot)) s.heap := hP
  have ret : ∀ (v : Int32) (u : SOut) (H : Heap) (locs : List Loc) (ls : Array Slot) (pc : Nat), decode b_Law_over pc = .ok (.ireturn, 1) → (v = res.1 ∧ u = res.2) → va_P (dC, dI) vwCl (uw_HT ad_ht cA_ht (ad_rd 0) (ad_sp 0) (ad_mx 0) (ad_ar 0) (ad_tb 0) (ad_tc 0) ht ++ (uw_Out ad_ot cA_ot u)) H → va_D A (uw_HT ad_ht cA_ht (ad_rd 0) (ad_sp 0) (ad_mx 0) (ad_ar 0) (ad_tb 0) (ad_tc 0) ht ++ (uw_Out ad_ot cA_ot u)) → va_S A s.heap H locs → W p l e (headSpec w_Law_over ({ frames := 7, cells := 1, slots := 6, locals := 104 })).room s m ([.ref (ad_ht 0), .int x1, .int x2, .ref (ad_ot 1)] : List Value).toArray below meth c H locs 1 6 (MQ below (va_Qi (fun (r : Int32) (u : SOut) => r = res.1 ∧ u = res.2) (fun (u : SOut) (t : State) => va_P (dC, dI) vwCl (uw_HT ad_ht cA_ht (ad_rd 0) (ad_sp 0) (ad_mx 0) (ad_ar 0) (ad_tb 0) (ad_tc 0) ht ++ (uw_Out ad_ot cA_ot u)) t.heap ∧ va_K (dC, dI) vwCl [(cA_ht 1, .int), (cA_ot 1, .long)] t ∧ va_D A (uw_HT ad_ht cA_ht (ad_rd 0) (ad_sp 0) (ad_mx 0) (ad_ar 0) (ad_tb 0) (ad_tc 0) ht ++ (uw_Out ad_ot cA_ot u))) A) ([.ref (ad_ht 0), .int x1, .int x2, .ref (ad_ot 1)] : List Value).toArray s 1 6 A) (F0 m pc ls [.int v]) := fun v u H locs ls pc hd hp hP hD hS => W.iret (v := v) hx hb hr (fun t ht hW => ⟨⟨v, u, rfl, hp, by rw [ht]; exact hP, va_K.moved hW.alike hK, hD⟩, hS.F ht⟩) hS.2.2 hd
  generalize (MQ below (va_Qi (fun (r : Int32) (u : SOut) => r = res.1 ∧ u = res.2) (fun (u : SOut) (t : State) => va_P (dC, dI) vwCl (uw_HT ad_ht cA_ht (ad_rd 0) (ad_sp 0) (ad_mx 0) (ad_ar 0) (ad_tb 0) (ad_tc 0) ht ++ (uw_Out ad_ot cA_ot u)) t.heap ∧ va_K (dC, dI) vwCl [(cA_ht 1, .int), (cA_ot 1, .long)] t ∧ va_D A (uw_HT ad_ht cA_ht (ad_rd 0) (ad_sp 0) (ad_mx 0) (ad_ar 0) (ad_tb 0) (ad_tc 0) ht ++ (uw_Out ad_ot cA_ot u))) A) ([.ref (ad_ht 0), .int x1, .int x2, .ref (ad_ot 1)] : List Value).toArray s 1 6 A) = Q at ret ⊢
  have hl := lv_entry ([.ref (ad_ht 0), .int x1, .int x2, .ref (ad_ot 1)]) (n := 5) (Nat.le_of_ble_eq_true rfl)
  rw [lg_entry_eq]
  generalize (lg_sl ([.ref (ad_ht 0), .int x1, .int x2, .ref (ad_ot 1)]) ++ List.replicate (5 - (lg_sl ([.ref (ad_ht 0), .int x1, .int x2, .ref (ad_ot 1)])).length) Slot.unset).toArray = ls at hl ⊢
  have hl : lv_has ls 5 [(0, .ref (ad_ht 0)), (1, .int x1), (2, .int x2), (3, .ref (ad_ot 1))] := hl
  have hf := hf
  rw [f_Law_over] at hf
  obtain ⟨H, hH⟩ : ∃ H : Heap, H = s.heap := ⟨_, rfl⟩
  obtain ⟨locs, hlocs⟩ : ∃ L : List Loc, L = [] := ⟨_, rfl⟩
  have hP : va_P (dC, dI) vwCl (uw_HT ad_ht cA_ht (ad_rd 0) (ad_sp 0) (ad_mx 0) (ad_ar 0) (ad_tb 0) (ad_tc 0) ht ++ (uw_Out ad_ot cA_ot ot)) H := by rw [hH]; exact hP
  have hS : va_S A s.heap H locs := by rw [hH, hlocs]; exact hS
  show W p l e (headSpec w_Law_over ({ frames := 7, cells := 1, slots := 6, locals := 104 })).room s m ([.ref (ad_ht 0), .int x1, .int x2, .ref (ad_ot 1)] : List Value).toArray below meth c s.heap [] 0 0 Q (F0 m 0 ls [])
  suffices hgo : W p l e (headSpec w_Law_over ({ frames := 7, cells := 1, slots := 6, locals := 104 })).room s m ([.ref (ad_ht 0), .int x1, .int x2, .ref (ad_ot 1)] : List Value).toArray below meth c H locs 0 0 Q (F0 m 0 ls []) by rw [hH, hlocs] at hgo; exact hgo
  clear hH hlocs
  refine lv_aload_n hx hb d_Law_over_0 rfl (lv_at hl 3 rfl) ?_
  refine lv_iconst (v := (0 : Int32)) hx hb d_Law_over_1 (by decide) ?_
  refine lv_aload_n hx hb d_Law_over_2 rfl (lv_at hl 0 rfl) ?_
  refine lv_iload_n hx hb d_Law_over_3 rfl (lv_at hl 1 rfl) ?_
  refine lv_iload_n hx hb d_Law_over_4 rfl (lv_at hl 2 rfl) ?_
  obtain ⟨u1, hu1, hf⟩ := Option.bind_eq_some_iff.mp hf
  refine cx_i (wc := (uw_HT ad_ht cA_ht (ad_rd 0) (ad_sp 0) (ad_mx 0) (ad_ar 0) (ad_tb 0) (ad_tc 0) ht)) (wr := (uw_Out ad_ot cA_ot ot)) (tysC := [(cA_ht 1, .int)]) (wu := fun (u : Unit) => (uw_HT ad_ht cA_ht (ad_rd 0) (ad_sp 0) (ad_mx 0) (ad_ar 0) (ad_tb 0) (ad_tc 0) ht)) (wn := fun (u : Unit) => (uw_HT ad_ht cA_ht (ad_rd 0) (ad_sp 0) (ad_mx 0) (ad_ar 0) (ad_tb 0) (ad_tc 0) ht ++ (uw_Out ad_ot cA_ot ot))) (wux := fun (u : Unit) => (uw_HT ad_ht cA_ht (ad_rd 0) (ad_sp 0) (ad_mx 0) (ad_ar 0) (ad_tb 0) (ad_tc 0) ht)) (wnx := fun (u : Unit) => (uw_HT ad_ht cA_ht (ad_rd 0) (ad_sp 0) (ad_mx 0) (ad_ar 0) (ad_tb 0) (ad_tc 0) ht ++ (uw_Out ad_ot cA_ot ot))) [0, 1] [2] [1, 2, 0] [0] hP hD hS hA hK rfl rfl (by decide +kernel) (by decide +kernel) (by decide +kernel) rfl (fun _ => rfl) (fun _ => rfl) (by decide +kernel) (fun hPc hKc hDc hFc => (vx_runV (As := [.int x1, .int x2]) (rest := [.int (0 : Int32), .ref (ad_ot 1)]) ⟨hx, hb, hml, hown, hts⟩ (k_HT_over l dC dI ad_ht cA_ht ad_rd cA_rd ad_sp cA_sp ad_mx cA_mx ad_ar cA_ar ad_tb cA_tb ad_tc cA_tc H.size ht x1 x2 u1 hu1 htr) (cwV 2 hts (gV wd_738 wd_739 wd_740 wd_43 wd_741) rfl rfl rfl (by decide +kernel) ⟨Nat.le_of_ble_eq_true rfl, Nat.le_of_ble_eq_true rfl⟩) (cx_preV hPc hKc hDc hN (fun U hU hW => xAll_at hX hS hFc hU hW) (ci := 5) 0 rfl rfl) rfl rfl hl.1 rfl (lv_room (Nat.le_of_ble_eq_true rfl)) d_Law_over_5 ⟨Nat.le_of_ble_eq_true rfl, Nat.le_of_ble_eq_true rfl⟩)) (fun E ce q9 u H locs hw hE hP hD hS hce hcv hcl => ?_) (fun r u H locs hw hP hD hS => ?_)
  · obtain ⟨bu1, rfl⟩ : ∃ z, z = u := ⟨_, rfl⟩
    subst hw
    have hf := hf_r hf
    have hP : va_P (dC, dI) vwCl (uw_HT ad_ht cA_ht (ad_rd 0) (ad_sp 0) (ad_mx 0) (ad_ar 0) (ad_tb 0) (ad_tc 0) ht ++ (uw_Out ad_ot cA_ot ot)) H := hP
    have hD : va_D A (uw_HT ad_ht cA_ht (ad_rd 0) (ad_sp 0) (ad_mx 0) (ad_ar 0) (ad_tb 0) (ad_tc 0) ht ++ (uw_Out ad_ot cA_ot ot)) := hD
    by_cases hc2 : bu1.1 = 0
    · have hf := hf_t hf hc2
      have hE : E = "java/lang/IllegalArgumentException" := by rw [hE, hc2]; rfl
      subst hE
      refine vx_catch (own := "HazardTablesLaw") (name := "java/lang/IllegalArgumentException") (E := "java/lang/IllegalArgumentException") hown [] ⟨0, 17, 20, 27⟩ [] htab (fun z hz => absurd hz List.not_mem_nil) (by decide) (by decide) (hts _ (List.mem_cons_of_mem _ wd_469)) (va_Nw.use rfl (hX.2.2.2 (.castable "java/lang/IllegalArgumentException" "java/lang/IllegalArgumentException") (by decide))) hce hcv hcl ?_
      refine lv_astore (lv' := [(4, .ref q9), (0, .ref (ad_ht 0)), (1, .int x1), (2, .int x2), (3, .ref (ad_ot 1))]) hx hb d_Law_over_20 hl (by decide) rfl (fun ls hl => ?_)
      refine lv_iconst (v := (1 : Int32)) hx hb d_Law_over_22 (by decide) ?_
      exact ret (1 : Int32) ot H locs ls 23 d_Law_over_23 (hf_e hf) hP hD hS
    have hf := hf_f hf hc2
    exact nomatch hf
  · obtain ⟨b9, rfl, hw⟩ := hw
    obtain ⟨au1, rfl⟩ : ∃ z, z = b9 := ⟨_, rfl⟩
    subst hw
    have hf := hf_l hf
    have hP : va_P (dC, dI) vwCl (uw_HT ad_ht cA_ht (ad_rd 0) (ad_sp 0) (ad_mx 0) (ad_ar 0) (ad_tb 0) (ad_tc 0) ht ++ (uw_Out ad_ot cA_ot ot)) H := hP
    have hD : va_D A (uw_HT ad_ht cA_ht (ad_rd 0) (ad_sp 0) (ad_mx 0) (ad_ar 0) (ad_tb 0) (ad_tc 0) ht ++ (uw_Out ad_ot cA_ot ot)) := hD
    refine lv_if_eq (tgt := 15) hx hb d_Law_over_8 (by decide) (fun hc3 => ?_) (fun hc3 => ?_)
    · have hf := hf_t hf hc3
      refine lv_lconst (v := (0 : Int64)) hx hb d_Law_over_15 (by decide) ?_
      obtain ⟨hi4, hf⟩ := hf_g hf
      refine va_last hx hb hK hP hD hS 2 1 rfl rfl hi4 d_Law_over_16 (fun H locs hP hD hS => ?_)
      have hP : va_P (dC, dI) vwCl (uw_HT ad_ht cA_ht (ad_rd 0) (ad_sp 0) (ad_mx 0) (ad_ar 0) (ad_tb 0) (ad_tc 0) ht ++ (uw_Out ad_ot cA_ot (vp_updL ot (0 : Int32).toNatClampNeg (0 : Int64)))) H := hP
      have hD : va_D A (uw_HT ad_ht cA_ht (ad_rd 0) (ad_sp 0) (ad_mx 0) (ad_ar 0) (ad_tb 0) (ad_tc 0) ht ++ (uw_Out ad_ot cA_ot (vp_updL ot (0 : Int32).toNatClampNeg (0 : Int64)))) := hD
      refine lv_goto (tgt := 24) hx hb d_Law_over_17 (by decide) ?_
      refine lv_iconst (v := (0 : Int32)) hx hb d_Law_over_24 (by decide) ?_
      exact ret (0 : Int32) (vp_updL ot (0 : Int32).toNatClampNeg (0 : Int64)) H locs ls 25 d_Law_over_25 (hf_e hf) hP hD hS
    · have hf := hf_f hf hc3
      refine lv_lconst (v := (1 : Int64)) hx hb d_Law_over_11 (by decide) ?_
      refine lv_goto (tgt := 16) hx hb d_Law_over_12 (by decide) ?_
      obtain ⟨hi5, hf⟩ := hf_g hf
      refine va_last hx hb hK hP hD hS 2 1 rfl rfl hi5 d_Law_over_16 (fun H locs hP hD hS => ?_)
      have hP : va_P (dC, dI) vwCl (uw_HT ad_ht cA_ht (ad_rd 0) (ad_sp 0) (ad_mx 0) (ad_ar 0) (ad_tb 0) (ad_tc 0) ht ++ (uw_Out ad_ot cA_ot (vp_updL ot (0 : Int32).toNatClampNeg (1 : Int64)))) H := hP
      have hD : va_D A (uw_HT ad_ht cA_ht (ad_rd 0) (ad_sp 0) (ad_mx 0) (ad_ar 0) (ad_tb 0) (ad_tc 0) ht ++ (uw_Out ad_ot cA_ot (vp_updL ot (0 : Int32).toNatClampNeg (1 : Int64)))) := hD
      refine lv_goto (tgt := 24) hx hb d_Law_over_17 (by decide) ?_
      refine lv_iconst (v := (0 : Int32)) hx hb d_Law_over_24 (by decide) ?_
      exact ret (0 : Int32) (vp_updL ot (0 : Int32).toNatClampNeg (1 : Int64)) H locs ls 25 d_Law_over_25 (hf_e hf) hP hD hS
