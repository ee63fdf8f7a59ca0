noncomputable def f_Law_sign (ht : SHT) (ot : SOut) (rd : SReader) (x1 : Int64) (x3 : Int32) : Option (Int32 × SOut × SReader) :=
  (Option.bind (f_HT_sign ht rd x1 x3) fun u1 => Sum.elim (fun au1 =>
    (if inb (0 : Int32) 1 then
      (some ((0 : Int32), (vp_updL ot (0 : Int32).toNatClampNeg au1.1.toInt64), au1.2))
     else none)
   ) (fun bu1 =>
    (if bu1.1 = 1 then
      (some ((1 : Int32), ot, bu1.2))
     else
    (if bu1.1 = 3 then
      (some ((2 : Int32), ot, bu1.2))
     else
      none
     ))
   ) u1)
set_option maxHeartbeats 4000000 in
set_option maxRecDepth 100000 in
theorem k_Law_sign (l : Launch) (dC : Nat → ClassId) (dI : Nat → Nat → Nat) (ad_ht : Nat → Nat) (cA_ht : Nat → ClassId) (ad_ot : Nat → Nat) (cA_ot : Nat → ClassId) (ad_rd : Nat → Nat) (cA_rd : Nat → ClassId) (ad_sp : Nat → Nat) (cA_sp : Nat → ClassId) (ad_mx : Nat → Nat) (cA_mx : Nat → ClassId) (ad_ar : Nat → Nat) (cA_ar : Nat → ClassId) (ad_tb : Nat → Nat) (cA_tb : Nat → ClassId) (ad_tc : Nat → Nat) (cA_tc : Nat → ClassId) (sz : Nat) (ht : SHT) (ot : SOut) (rd : SReader) (x1 : Int64) (x3 : Int32) (res : Int32 × SOut × SReader) (hf : f_Law_sign ht ot rd x1 x3 = some res) (htr : l.stackTraces = false) : Met l y_Law_sign w_Law_sign ({ frames := 7, cells := 1, slots := 6, locals := 105 }) (lPc (dC, dI) (uw_HT ad_ht cA_ht (ad_rd 0) (ad_sp 0) (ad_mx 0) (ad_ar 0) (ad_tb 0) (ad_tc 0) ht ++ (uw_Out ad_ot cA_ot ot ++ (uw_Reader ad_rd cA_rd rd))) [(cA_ht 1, .int), (cA_ot 1, .long), (cA_rd 1, .int)] sz [.ref (ad_ht 0), .long x1, .int x3, .ref (ad_ot 1)]) (va_Qi (fun (r : Int32) (u : SOut × SReader) => r = res.1 ∧ u = res.2) (fun (u : SOut × SReader) (t : State) => va_P (dC, dI) vwCl (uw_HT ad_ht cA_ht (ad_rd 0) (ad_sp 0) (ad_mx 0) (ad_ar 0) (ad_tb 0) (ad_tc 0) ht ++ (uw_Out ad_ot cA_ot u.1 ++ (uw_Reader ad_rd cA_rd u.2))) t.heap ∧ va_K (dC, dI) vwCl [(cA_ht 1, .int), (cA_ot 1, .long), (cA_rd 1, .int)] t ∧ va_D (va_A (uw_HT ad_ht cA_ht (ad_rd 0) (ad_sp 0) (ad_mx 0) (ad_ar 0) (ad_tb 0) (ad_tc 0) ht ++ (uw_Out ad_ot cA_ot ot ++ (uw_Reader ad_rd cA_rd rd))) sz) (uw_HT ad_ht cA_ht (ad_rd 0) (ad_sp 0) (ad_mx 0) (ad_ar 0) (ad_tb 0) (ad_tc 0) ht ++ (uw_Out ad_ot cA_ot u.1 ++ (uw_Reader ad_rd cA_rd u.2)))) (va_A (uw_HT ad_ht cA_ht (ad_rd 0) (ad_sp 0) (ad_mx 0) (ad_ar 0) (ad_tb 0) (ad_tc 0) ht ++ (uw_Out ad_ot cA_ot ot ++ (uw_Reader ad_rd cA_rd rd))) sz)) 1 6 (va_A (uw_HT ad_ht cA_ht (ad_rd 0) (ad_sp 0) (ad_mx 0) (ad_ar 0) (ad_tb 0) (ad_tc 0) ht ++ (uw_Out ad_ot cA_ot ot ++ (uw_Reader ad_rd cA_rd rd))) sz) := by
  refine met_ofWH (hh := [(0, 11, 14, 13), (0, 11, 18, 15)]) (cc := b_Law_sign) (maxL := 6) (ret := (some .int)) (by decide) rfl ?_
  intro p e s m args below meth c s₁ B hml hv
  obtain ⟨rfl, hsz, hP, hK, hD0, hN, hX, hnc⟩ := hv
  have hx := B.exec
  have hb := B.bytes
  have hr := B.returns
  have hts := atoms_spec (ws := w_Law_sign) B.pre
  have hown : s.vm.findClass "HazardTablesLaw" = some m.cls := findClass_of_methodNamed B.named
  have hlocks := B.notSynchronized
  have htab : c.exceptionTable.toList = [⟨0, 11, 14, 13⟩, ⟨0, 11, 18, 15⟩] := vx_table (x := y_Law_sign) B (hts _ List.mem_cons_self)
  subst hsz
  have hD := hD0.self (sz := s.heap.size)
  generalize hAe : va_A (uw_HT ad_ht cA_ht (ad_rd 0) (ad_sp 0) (ad_mx 0) (ad_ar 0) (ad_tb 0) (ad_tc 0) ht ++ (uw_Out ad_ot cA_ot ot ++ (uw_Reader ad_rd cA_rd rd))) s.heap.size = A at hD hX ⊢
  have hA : ∀ q : Nat, s.heap.size ≤ q → A q := fun q h => by rw [← hAe]; exact Or.inr h
  have hS : va_S A s.heap s.heap [] := va_S.rf
  have hP : va_P (dC, dI) vwCl (uw_HT ad_ht cA_ht (ad_rd 0) (ad_sp 0) (ad_mx 0) (ad_ar 0) (ad_tb 0) (ad_tc 0) ht ++ (uw_Out ad_ot cA_ot ot ++ (uw_Reader ad_rd cA_rd rd))) s.heap := hP
  have ret : ∀ (v : Int32) (u : SOut × SReader) (H : Heap) (locs : List Loc) (ls : Array Slot) (pc : Nat), decode b_Law_sign pc = .ok (.ireturn, 1) → (v = res.1 ∧ u = res.2) → va_P (dC, dI) vwCl (uw_HT ad_ht cA_ht (ad_rd 0) (ad_sp 0) (ad_mx 0) (ad_ar 0) (ad_tb 0) (ad_tc 0) ht ++ (uw_Out ad_ot cA_ot u.1 ++ (uw_Reader ad_rd cA_rd u.2))) H → va_D A (uw_HT ad_ht cA_ht (ad_rd 0) (ad_sp 0) (ad_mx 0) (ad_ar 0) (ad_tb 0) (ad_tc 0) ht ++ (uw_Out ad_ot cA_ot u.1 ++ (uw_Reader ad_rd cA_rd u.2))) → va_S A s.heap H locs → W p l e (headSpec w_Law_sign ({ frames := 7, cells := 1, slots := 6, locals := 105 })).room s m ([.ref (ad_ht 0), .long x1, .int x3, .ref (ad_ot 1)] : List Value).toArray below meth c H locs 1 6 (MQ below (va_Qi (fun (r : Int32) (u : SOut × SReader) => r = res.1 ∧ u = res.2) (fun (u : SOut × SReader) (t : State) => va_P (dC, dI) vwCl (uw_HT ad_ht cA_ht (ad_rd 0) (ad_sp 0) (ad_mx 0) (ad_ar 0) (ad_tb 0) (ad_tc 0) ht ++ (uw_Out ad_ot cA_ot u.1 ++ (uw_Reader ad_rd cA_rd u.2))) t.heap ∧ va_K (dC, dI) vwCl [(cA_ht 1, .int), (cA_ot 1, .long), (cA_rd 1, .int)] t ∧ va_D A (uw_HT ad_ht cA_ht (ad_rd 0) (ad_sp 0) (ad_mx 0) (ad_ar 0) (ad_tb 0) (ad_tc 0) ht ++ (uw_Out ad_ot cA_ot u.1 ++ (uw_Reader ad_rd cA_rd u.2)))) A) ([.ref (ad_ht 0), .long x1, .int x3, .ref (ad_ot 1)] : List Value).toArray s 1 6 A) (F0 m pc ls [.int v]) := fun v u H locs ls pc hd hp hP hD hS => W.iret (v := v) hx hb hr (fun t ht hW => ⟨⟨v, u, rfl, hp, by rw [ht]; exact hP, va_K.moved hW.alike hK, hD⟩, hS.F ht⟩) hS.2.2 hd
  generalize (MQ below (va_Qi (fun (r : Int32) (u : SOut × SReader) => r = res.1 ∧ u = res.2) (fun (u : SOut × SReader) (t : State) => va_P (dC, dI) vwCl (uw_HT ad_ht cA_ht (ad_rd 0) (ad_sp 0) (ad_mx 0) (ad_ar 0) (ad_tb 0) (ad_tc 0) ht ++ (uw_Out ad_ot cA_ot u.1 ++ (uw_Reader ad_rd cA_rd u.2))) t.heap ∧ va_K (dC, dI) vwCl [(cA_ht 1, .int), (cA_ot 1, .long), (cA_rd 1, .int)] t ∧ va_D A (uw_HT ad_ht cA_ht (ad_rd 0) (ad_sp 0) (ad_mx 0) (ad_ar 0) (ad_tb 0) (ad_tc 0) ht ++ (uw_Out ad_ot cA_ot u.1 ++ (uw_Reader ad_rd cA_rd u.2)))) A) ([.ref (ad_ht 0), .long x1, .int x3, .ref (ad_ot 1)] : List Value).toArray s 1 6 A) = Q at ret ⊢
  have hl := lv_entry ([.ref (ad_ht 0), .long x1, .int x3, .ref (ad_ot 1)]) (n := 6) (Nat.le_of_ble_eq_true rfl)
  rw [lg_entry_eq]
  generalize (lg_sl ([.ref (ad_ht 0), .long x1, .int x3, .ref (ad_ot 1)]) ++ List.replicate (6 - (lg_sl ([.ref (ad_ht 0), .long x1, .int x3, .ref (ad_ot 1)])).length) Slot.unset).toArray = ls at hl ⊢
  have hl : lv_has ls 6 [(0, .ref (ad_ht 0)), (1, .long x1), (3, .int x3), (4, .ref (ad_ot 1))] := hl
  have hf := hf
  rw [f_Law_sign] at hf
  obtain ⟨H, hH⟩ : ∃ H : Heap, H = s.heap := ⟨_, rfl⟩
  obtain ⟨locs, hlocs⟩ : ∃ L : List Loc, L = [] := ⟨_, rfl⟩
  have hP : va_P (dC, dI) vwCl (uw_HT ad_ht cA_ht (ad_rd 0) (ad_sp 0) (ad_mx 0) (ad_ar 0) (ad_tb 0) (ad_tc 0) ht ++ (uw_Out ad_ot cA_ot ot ++ (uw_Reader ad_rd cA_rd rd))) H := by rw [hH]; exact hP
  have hS : va_S A s.heap H locs := by rw [hH, hlocs]; exact hS
  show W p l e (headSpec w_Law_sign ({ frames := 7, cells := 1, slots := 6, locals := 105 })).room s m ([.ref (ad_ht 0), .long x1, .int x3, .ref (ad_ot 1)] : List Value).toArray below meth c s.heap [] 0 0 Q (F0 m 0 ls [])
  suffices hgo : W p l e (headSpec w_Law_sign ({ frames := 7, cells := 1, slots := 6, locals := 105 })).room s m ([.ref (ad_ht 0), .long x1, .int x3, .ref (ad_ot 1)] : List Value).toArray below meth c H locs 0 0 Q (F0 m 0 ls []) by rw [hH, hlocs] at hgo; exact hgo
  clear hH hlocs
  refine lv_aload hx hb d_Law_sign_0 (lv_at hl 3 rfl) ?_
  refine lv_iconst (v := (0 : Int32)) hx hb d_Law_sign_2 (by decide) ?_
  refine lv_aload_n hx hb d_Law_sign_3 rfl (lv_at hl 0 rfl) ?_
  refine lv_lload_n hx hb d_Law_sign_4 rfl (lv_at hl 1 rfl) ?_
  refine lv_iload_n hx hb d_Law_sign_5 rfl (lv_at hl 2 rfl) ?_
  obtain ⟨u1, hu1, hf⟩ := Option.bind_eq_some_iff.mp hf
  refine cx_i (wc := (uw_HT ad_ht cA_ht (ad_rd 0) (ad_sp 0) (ad_mx 0) (ad_ar 0) (ad_tb 0) (ad_tc 0) ht ++ (uw_Reader ad_rd cA_rd rd))) (wr := (uw_Out ad_ot cA_ot ot)) (tysC := [(cA_ht 1, .int), (cA_rd 1, .int)]) (wu := fun (u : SReader) => (uw_HT ad_ht cA_ht (ad_rd 0) (ad_sp 0) (ad_mx 0) (ad_ar 0) (ad_tb 0) (ad_tc 0) ht ++ (uw_Reader ad_rd cA_rd u))) (wn := fun (u : SReader) => (uw_HT ad_ht cA_ht (ad_rd 0) (ad_sp 0) (ad_mx 0) (ad_ar 0) (ad_tb 0) (ad_tc 0) ht ++ (uw_Out ad_ot cA_ot ot ++ (uw_Reader ad_rd cA_rd u)))) (wux := fun (u : SReader) => (uw_HT ad_ht cA_ht (ad_rd 0) (ad_sp 0) (ad_mx 0) (ad_ar 0) (ad_tb 0) (ad_tc 0) ht ++ (uw_Reader ad_rd cA_rd u))) (wnx := fun (u : SReader) => (uw_HT ad_ht cA_ht (ad_rd 0) (ad_sp 0) (ad_mx 0) (ad_ar 0) (ad_tb 0) (ad_tc 0) ht ++ (uw_Out ad_ot cA_ot ot ++ (uw_Reader ad_rd cA_rd u)))) [0, 1, 3, 4] [2] [1, 2, 0, 3, 4] [0, 2] hP hD hS hA hK rfl rfl (by decide +kernel) (by decide +kernel) (by decide +kernel) rfl (fun _ => rfl) (fun _ => rfl) (by decide +kernel) (fun hPc hKc hDc hFc => (vx_runV (As := [.long x1, .int x3]) (rest := [.int (0 : Int32), .ref (ad_ot 1)]) ⟨hx, hb, hml, hown, hts⟩ (k_HT_sign l dC dI ad_ht cA_ht ad_rd cA_rd ad_sp cA_sp ad_mx cA_mx ad_ar cA_ar ad_tb cA_tb ad_tc cA_tc H.size ht rd x1 x3 u1 hu1 htr) (cwV 2 hts (gV wd_243 wd_244 wd_245 wd_43 wd_246) rfl rfl rfl (by decide +kernel) ⟨Nat.le_of_ble_eq_true rfl, Nat.le_of_ble_eq_true rfl⟩) (cx_preV hPc hKc hDc hN (fun U hU hW => xAll_at hX hS hFc hU hW) (ci := 5) 0 rfl rfl) rfl rfl hl.1 rfl (lv_room (Nat.le_of_ble_eq_true rfl)) d_Law_sign_6 ⟨Nat.le_of_ble_eq_true rfl, Nat.le_of_ble_eq_true rfl⟩)) (fun E ce q9 u H locs hw hE hP hD hS hce hcv hcl => ?_) (fun r u H locs hw hP hD hS => ?_)
  · obtain ⟨bu1, rfl⟩ : ∃ z, z = u := ⟨_, rfl⟩
    subst hw
    have hf := hf_r hf
    have hP : va_P (dC, dI) vwCl (uw_HT ad_ht cA_ht (ad_rd 0) (ad_sp 0) (ad_mx 0) (ad_ar 0) (ad_tb 0) (ad_tc 0) ht ++ (uw_Out ad_ot cA_ot ot ++ (uw_Reader ad_rd cA_rd bu1.2))) H := hP
    have hD : va_D A (uw_HT ad_ht cA_ht (ad_rd 0) (ad_sp 0) (ad_mx 0) (ad_ar 0) (ad_tb 0) (ad_tc 0) ht ++ (uw_Out ad_ot cA_ot ot ++ (uw_Reader ad_rd cA_rd bu1.2))) := hD
    by_cases hc2 : bu1.1 = 1
    · have hf := hf_t hf hc2
      have hE : E = "java/lang/IndexOutOfBoundsException" := by rw [hE, hc2]; rfl
      subst hE
      refine vx_catch (own := "HazardTablesLaw") (name := "java/lang/IndexOutOfBoundsException") (E := "java/lang/IndexOutOfBoundsException") hown [] ⟨0, 11, 14, 13⟩ [⟨0, 11, 18, 15⟩] htab (fun z hz => absurd hz List.not_mem_nil) (by decide) (by decide) (hts _ (List.mem_cons_of_mem _ wd_241)) (va_Nw.use rfl (hX.2.2.2 (.castable "java/lang/IndexOutOfBoundsException" "java/lang/IndexOutOfBoundsException") (by decide))) hce hcv hcl ?_
      refine lv_astore (lv' := [(5, .ref q9), (0, .ref (ad_ht 0)), (1, .long x1), (3, .int x3), (4, .ref (ad_ot 1))]) hx hb d_Law_sign_14 hl (by decide) rfl (fun ls hl => ?_)
      refine lv_iconst (v := (1 : Int32)) hx hb d_Law_sign_16 (by decide) ?_
      exact ret (1 : Int32) (ot, bu1.2) H locs ls 17 d_Law_sign_17 (hf_e hf) hP hD hS
    have hf := hf_f hf hc2
    by_cases hc3 : bu1.1 = 3
    · have hf := hf_t hf hc3
      have hE : E = "java/lang/UnsupportedOperationException" := by rw [hE, hc3]; rfl
      subst hE
      refine vx_catch (own := "HazardTablesLaw") (name := "java/lang/UnsupportedOperationException") (E := "java/lang/UnsupportedOperationException") hown [⟨0, 11, 14, 13⟩] ⟨0, 11, 18, 15⟩ [] htab (List.forall_mem_cons.mpr ⟨Or.inr ⟨by decide, "java/lang/IndexOutOfBoundsException", (hts _ (List.mem_cons_of_mem _ wd_241)), hnc 3 (by decide) 1 (by decide) (by decide)⟩, fun z hz => absurd hz List.not_mem_nil⟩) (by decide) (by decide) (hts _ (List.mem_cons_of_mem _ wd_242)) (va_Nw.use rfl (hX.2.2.2 (.castable "java/lang/UnsupportedOperationException" "java/lang/UnsupportedOperationException") (by decide))) hce hcv hcl ?_
      refine lv_astore (lv' := [(5, .ref q9), (0, .ref (ad_ht 0)), (1, .long x1), (3, .int x3), (4, .ref (ad_ot 1))]) hx hb d_Law_sign_18 hl (by decide) rfl (fun ls hl => ?_)
      refine lv_iconst (v := (2 : Int32)) hx hb d_Law_sign_20 (by decide) ?_
      exact ret (2 : Int32) (ot, bu1.2) H locs ls 21 d_Law_sign_21 (hf_e hf) hP hD hS
    have hf := hf_f hf hc3
    exact nomatch hf
  · obtain ⟨au1, rfl, rfl⟩ : ∃ z : Int32 × (SReader), r = z.1 ∧ u = z.2 := ⟨(r, u), rfl, rfl⟩
    have hw : u1 = .inl au1 := hw
    subst hw
    have hf := hf_l hf
    have hP : va_P (dC, dI) vwCl (uw_HT ad_ht cA_ht (ad_rd 0) (ad_sp 0) (ad_mx 0) (ad_ar 0) (ad_tb 0) (ad_tc 0) ht ++ (uw_Out ad_ot cA_ot ot ++ (uw_Reader ad_rd cA_rd au1.2))) H := hP
    have hD : va_D A (uw_HT ad_ht cA_ht (ad_rd 0) (ad_sp 0) (ad_mx 0) (ad_ar 0) (ad_tb 0) (ad_tc 0) ht ++ (uw_Out ad_ot cA_ot ot ++ (uw_Reader ad_rd cA_rd au1.2))) := hD
    refine lv_i2l (v := au1.1.toInt64) hx hb d_Law_sign_9 rfl ?_
    obtain ⟨hi4, hf⟩ := hf_g hf
    refine va_last hx hb hK hP hD hS 2 1 rfl rfl hi4 d_Law_sign_10 (fun H locs hP hD hS => ?_)
    have hP : va_P (dC, dI) vwCl (uw_HT ad_ht cA_ht (ad_rd 0) (ad_sp 0) (ad_mx 0) (ad_ar 0) (ad_tb 0) (ad_tc 0) ht ++ (uw_Out ad_ot cA_ot (vp_updL ot (0 : Int32).toNatClampNeg au1.1.toInt64) ++ (uw_Reader ad_rd cA_rd au1.2))) H := hP
    have hD : va_D A (uw_HT ad_ht cA_ht (ad_rd 0) (ad_sp 0) (ad_mx 0) (ad_ar 0) (ad_tb 0) (ad_tc 0) ht ++ (uw_Out ad_ot cA_ot (vp_updL ot (0 : Int32).toNatClampNeg au1.1.toInt64) ++ (uw_Reader ad_rd cA_rd au1.2))) := hD
    refine lv_goto (tgt := 22) hx hb d_Law_sign_11 (by decide) ?_
    refine lv_iconst (v := (0 : Int32)) hx hb d_Law_sign_22 (by decide) ?_
    exact ret (0 : Int32) ((vp_updL ot (0 : Int32).toNatClampNeg au1.1.toInt64), au1.2) H locs ls 23 d_Law_sign_23 (hf_e hf) hP hD hS
