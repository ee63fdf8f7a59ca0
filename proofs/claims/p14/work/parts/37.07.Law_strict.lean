noncomputable def f_Law_strict (ht : SHT) (ot : SOut) (mx : SMixture) (tb : STable) (x1 : Int32) : Option (Int32 × SOut) :=
  (Option.bind (f_HT_strict ht mx tb x1) fun u1 => Sum.elim (fun au1 =>
    (if inb (0 : Int32) 1 then
      (some ((0 : Int32), (vp_updL ot (0 : Int32).toNatClampNeg au1.toInt64)))
     else none)
   ) (fun bu1 =>
    (if bu1.1 = 1 then
      (some ((1 : Int32), ot))
     else
      none
     )
   ) u1)
set_option maxHeartbeats 4000000 in
set_option maxRecDepth 100000 in
theorem k_Law_strict (l : Launch) (dC : Nat → ClassId) (dI : Nat → Nat → Nat) (ad_ht : Nat → Nat) (cA_ht : Nat → ClassId) (ad_ot : Nat → Nat) (cA_ot : Nat → ClassId) (ad_mx : Nat → Nat) (cA_mx : Nat → ClassId) (ad_tb : Nat → Nat) (cA_tb : Nat → ClassId) (ad_rd : Nat → Nat) (cA_rd : Nat → ClassId) (ad_sp : Nat → Nat) (cA_sp : Nat → ClassId) (ad_ar : Nat → Nat) (cA_ar : Nat → ClassId) (ad_tc : Nat → Nat) (cA_tc : Nat → ClassId) (sz : Nat) (ht : SHT) (ot : SOut) (mx : SMixture) (tb : STable) (x1 : Int32) (res : Int32 × SOut) (hf : f_Law_strict ht ot mx tb x1 = some res) (htr : l.stackTraces = false) : Met l y_Law_strict w_Law_strict ({ frames := 7, cells := 1, slots := 6, locals := 103 }) (lPc (dC, dI) (uw_HT ad_ht cA_ht (ad_rd 0) (ad_sp 0) (ad_mx 0) (ad_ar 0) (ad_tb 0) (ad_tc 0) ht ++ (uw_Out ad_ot cA_ot ot ++ (uw_Mixture ad_mx cA_mx mx ++ (uw_Table ad_tb cA_tb tb)))) [(cA_ht 1, .int), (cA_ot 1, .long), (cA_mx 1, .int), (cA_mx 2, .int), (cA_mx 3, .boolean), (cA_tb 1, .int), (cA_tb 2, .int), (cA_tb 3, .int), (cA_tb 4, .byte)] sz [.ref (ad_ht 0), .int x1, .ref (ad_ot 1)]) (va_Qi (fun (r : Int32) (u : SOut) => r = res.1 ∧ u = res.2) (fun (u : SOut) (t : State) => va_P (dC, dI) vwCl (uw_HT ad_ht cA_ht (ad_rd 0) (ad_sp 0) (ad_mx 0) (ad_ar 0) (ad_tb 0) (ad_tc 0) ht ++ (uw_Out ad_ot cA_ot u ++ (uw_Mixture ad_mx cA_mx mx ++ (uw_Table ad_tb cA_tb tb)))) t.heap ∧ va_K (dC, dI) vwCl [(cA_ht 1, .int), (cA_ot 1, .long), (cA_mx 1, .int), (cA_mx 2, .int), (cA_mx 3, .boolean), (cA_tb 1, .int), (cA_tb 2, .int), (cA_tb 3, .int), (cA_tb 4, .byte)] t ∧ va_D (va_A (uw_HT ad_ht cA_ht (ad_rd 0) (ad_sp 0) (ad_mx 0) (ad_ar 0) (ad_tb 0) (ad_tc 0) ht ++ (uw_Out ad_ot cA_ot ot ++ (uw_Mixture ad_mx cA_mx mx ++ (uw_Table ad_tb cA_tb tb)))) sz) (uw_HT ad_ht cA_ht (ad_rd 0) (ad_sp 0) (ad_mx 0) (ad_ar 0) (ad_tb 0) (ad_tc 0) ht ++ (uw_Out ad_ot cA_ot u ++ (uw_Mixture ad_mx cA_mx mx ++ (uw_Table ad_tb cA_tb tb))))) (va_A (uw_HT ad_ht cA_ht (ad_rd 0) (ad_sp 0) (ad_mx 0) (ad_ar 0) (ad_tb 0) (ad_tc 0) ht ++ (uw_Out ad_ot cA_ot ot ++ (uw_Mixture ad_mx cA_mx mx ++ (uw_Table ad_tb cA_tb tb)))) sz)) 1 6 (va_A (uw_HT ad_ht cA_ht (ad_rd 0) (ad_sp 0) (ad_mx 0) (ad_ar 0) (ad_tb 0) (ad_tc 0) ht ++ (uw_Out ad_ot cA_ot ot ++ (uw_Mixture ad_mx cA_mx mx ++ (uw_Table ad_tb cA_tb tb)))) sz) := by
  refine met_ofWH (hh := [(0, 9, 12, 13)]) (cc := b_Law_strict) (maxL := 4) (ret := (some .int)) (by decide) rfl ?_
  intro p e s m args below meth c s₁ B hml hv
  obtain ⟨rfl, hsz, hP, hK, hD0, hN, hX, hnc⟩ := hv
  have hx := B.exec
  have hb := B.bytes
  have hr := B.returns
  have hts := atoms_spec (ws := w_Law_strict) B.pre
  have hown : s.vm.findClass "HazardTablesLaw" = some m.cls := findClass_of_methodNamed B.named
  have hlocks := B.notSynchronized
  have htab : c.exceptionTable.toList = [⟨0, 9, 12, 13⟩] := vx_table (x := y_Law_strict) B (hts _ List.mem_cons_self)
  subst hsz
  have hD := hD0.self (sz := s.heap.size)
  generalize hAe : va_A (uw_HT ad_ht cA_ht (ad_rd 0) (ad_sp 0) (ad_mx 0) (ad_ar 0) (ad_tb 0) (ad_tc 0) ht ++ (uw_Out ad_ot cA_ot ot ++ (uw_Mixture ad_mx cA_mx mx ++ (uw_Table ad_tb cA_tb tb)))) s.heap.size = A at hD hX ⊢
  have hA : ∀ q : Nat, s.heap.size ≤ q → A q := fun q h => by rw [← hAe]; exact Or.inr h
  have hS : va_S A s.heap s.heap [] := va_S.rf
  have hP : va_P (dC, dI) vwCl (uw_HT ad_ht cA_ht (ad_rd 0) (ad_sp 0) (ad_mx 0) (ad_ar 0) (ad_tb 0) (ad_tc 0) ht ++ (uw_Out ad_ot cA_ot ot ++ (uw_Mixture ad_mx cA_mx mx ++ (uw_Table ad_tb cA_tb tb)))) s.heap := hP
  have ret : ∀ (v : Int32) (u : SOut) (H : Heap) (locs : List Loc) (ls : Array Slot) (pc : Nat), decode b_Law_strict pc = .ok (.ireturn, 1) → (v = res.1 ∧ u = res.2) → va_P (dC, dI) vwCl (uw_HT ad_ht cA_ht (ad_rd 0) (ad_sp 0) (ad_mx 0) (ad_ar 0) (ad_tb 0) (ad_tc 0) ht ++ (uw_Out ad_ot cA_ot u ++ (uw_Mixture ad_mx cA_mx mx ++ (uw_Table ad_tb cA_tb tb)))) H → va_D A (uw_HT ad_ht cA_ht (ad_rd 0) (ad_sp 0) (ad_mx 0) (ad_ar 0) (ad_tb 0) (ad_tc 0) ht ++ (uw_Out ad_ot cA_ot u ++ (uw_Mixture ad_mx cA_mx mx ++ (uw_Table ad_tb cA_tb tb)))) → va_S A s.heap H locs → W p l e (headSpec w_Law_strict ({ frames := 7, cells := 1, slots := 6, locals := 103 })).room s m ([.ref (ad_ht 0), .int x1, .ref (ad_ot 1)] : List Value).toArray below meth c H locs 1 6 (MQ below (va_Qi (fun (r : Int32) (u : SOut) => r = res.1 ∧ u = res.2) (fun (u : SOut) (t : State) => va_P (dC, dI) vwCl (uw_HT ad_ht cA_ht (ad_rd 0) (ad_sp 0) (ad_mx 0) (ad_ar 0) (ad_tb 0) (ad_tc 0) ht ++ (uw_Out ad_ot cA_ot u ++ (uw_Mixture ad_mx cA_mx mx ++ (uw_Table ad_tb cA_tb tb)))) t.heap ∧ va_K (dC, dI) vwCl [(cA_ht 1, .int), (cA_ot 1, .long), (cA_mx 1, .int), (cA_mx 2, .int), (cA_mx 3, .boolean), (cA_tb 1, .int), (cA_tb 2, .int), (cA_tb 3, .int), (cA_tb 4, .byte)] t ∧ va_D A (uw_HT ad_ht cA_ht (ad_rd 0) (ad_sp 0) (ad_mx 0) (ad_ar 0) (ad_tb 0) (ad_tc 0) ht ++ (uw_Out ad_ot cA_ot u ++ (uw_Mixture ad_mx cA_mx mx ++ (uw_Table ad_tb cA_tb tb))))) A) ([.ref (ad_ht 0), .int x1, .ref (ad_ot 1)] : List Value).toArray s 1 6 A) (F0 m pc ls [.int v]) := fun v u H locs ls pc hd hp hP hD hS => W.iret (v := v) hx hb hr (fun t ht hW => ⟨⟨v, u, rfl, hp, by rw [ht]; exact hP, va_K.moved hW.alike hK, hD⟩, hS.F ht⟩) hS.2.2 hd
  generalize (MQ below (va_Qi (fun (r : Int32) (u : SOut) => r = res.1 ∧ u = res.2) (fun (u : SOut) (t : State) => va_P (dC, dI) vwCl (uw_HT ad_ht cA_ht (ad_rd 0) (ad_sp 0) (ad_mx 0) (ad_ar 0) (ad_tb 0) (ad_tc 0) ht ++ (uw_Out ad_ot cA_ot u ++ (uw_Mixture ad_mx cA_mx mx ++ (uw_Table ad_tb cA_tb tb)))) t.heap ∧ va_K (dC, dI) vwCl [(cA_ht 1, .int), (cA_ot 1, .long), (cA_mx 1, .int), (cA_mx 2, .int), (cA_mx 3, .boolean), (cA_tb 1, .int), (cA_tb 2, .int), (cA_tb 3, .int), (cA_tb 4, .byte)] t ∧ va_D A (uw_HT ad_ht cA_ht (ad_rd 0) (ad_sp 0) (ad_mx 0) (ad_ar 0) (ad_tb 0) (ad_tc 0) ht ++ (uw_Out ad_ot cA_ot u ++ (uw_Mixture ad_mx cA_mx mx ++ (uw_Table ad_tb cA_tb tb))))) A) ([.ref (ad_ht 0), .int x1, .ref (ad_ot 1)] : List Value).toArray s 1 6 A) = Q at ret ⊢
  have hl := lv_entry ([.ref (ad_ht 0), .int x1, .ref (ad_ot 1)]) (n := 4) (Nat.le_of_ble_eq_true rfl)
  rw [lg_entry_eq]
  generalize (lg_sl ([.ref (ad_ht 0), .int x1, .ref (ad_ot 1)]) ++ List.replicate (4 - (lg_sl ([.ref (ad_ht 0), .int x1, .ref (ad_ot 1)])).length) Slot.unset).toArray = ls at hl ⊢
  have hl : lv_has ls 4 [(0, .ref (ad_ht 0)), (1, .int x1), (2, .ref (ad_ot 1))] := hl
  have hf := hf
  rw [f_Law_strict] at hf
  obtain ⟨H, hH⟩ : ∃ H : Heap, H = s.heap := ⟨_, rfl⟩
  obtain ⟨locs, hlocs⟩ : ∃ L : List Loc, L = [] := ⟨_, rfl⟩
  have hP : va_P (dC, dI) vwCl (uw_HT ad_ht cA_ht (ad_rd 0) (ad_sp 0) (ad_mx 0) (ad_ar 0) (ad_tb 0) (ad_tc 0) ht ++ (uw_Out ad_ot cA_ot ot ++ (uw_Mixture ad_mx cA_mx mx ++ (uw_Table ad_tb cA_tb tb)))) H := by rw [hH]; exact hP
  have hS : va_S A s.heap H locs := by rw [hH, hlocs]; exact hS
  show W p l e (headSpec w_Law_strict ({ frames := 7, cells := 1, slots := 6, locals := 103 })).room s m ([.ref (ad_ht 0), .int x1, .ref (ad_ot 1)] : List Value).toArray below meth c s.heap [] 0 0 Q (F0 m 0 ls [])
  suffices hgo : W p l e (headSpec w_Law_strict ({ frames := 7, cells := 1, slots := 6, locals := 103 })).room s m ([.ref (ad_ht 0), .int x1, .ref (ad_ot 1)] : List Value).toArray below meth c H locs 0 0 Q (F0 m 0 ls []) by rw [hH, hlocs] at hgo; exact hgo
  clear hH hlocs
  refine lv_aload_n hx hb d_Law_strict_0 rfl (lv_at hl 2 rfl) ?_
  refine lv_iconst (v := (0 : Int32)) hx hb d_Law_strict_1 (by decide) ?_
  refine lv_aload_n hx hb d_Law_strict_2 rfl (lv_at hl 0 rfl) ?_
  refine lv_iload_n hx hb d_Law_strict_3 rfl (lv_at hl 1 rfl) ?_
  obtain ⟨u1, hu1, hf⟩ := Option.bind_eq_some_iff.mp hf
  refine cx_i (wc := (uw_HT ad_ht cA_ht (ad_rd 0) (ad_sp 0) (ad_mx 0) (ad_ar 0) (ad_tb 0) (ad_tc 0) ht ++ (uw_Mixture ad_mx cA_mx mx ++ (uw_Table ad_tb cA_tb tb)))) (wr := (uw_Out ad_ot cA_ot ot)) (tysC := [(cA_ht 1, .int), (cA_mx 1, .int), (cA_mx 2, .int), (cA_mx 3, .boolean), (cA_tb 1, .int), (cA_tb 2, .int), (cA_tb 3, .int), (cA_tb 4, .byte)]) (wu := fun (u : Unit) => (uw_HT ad_ht cA_ht (ad_rd 0) (ad_sp 0) (ad_mx 0) (ad_ar 0) (ad_tb 0) (ad_tc 0) ht ++ (uw_Mixture ad_mx cA_mx mx ++ (uw_Table ad_tb cA_tb tb)))) (wn := fun (u : Unit) => (uw_HT ad_ht cA_ht (ad_rd 0) (ad_sp 0) (ad_mx 0) (ad_ar 0) (ad_tb 0) (ad_tc 0) ht ++ (uw_Out ad_ot cA_ot ot ++ (uw_Mixture ad_mx cA_mx mx ++ (uw_Table ad_tb cA_tb tb))))) (wux := fun (u : Unit) => (uw_HT ad_ht cA_ht (ad_rd 0) (ad_sp 0) (ad_mx 0) (ad_ar 0) (ad_tb 0) (ad_tc 0) ht ++ (uw_Mixture ad_mx cA_mx mx ++ (uw_Table ad_tb cA_tb tb)))) (wnx := fun (u : Unit) => (uw_HT ad_ht cA_ht (ad_rd 0) (ad_sp 0) (ad_mx 0) (ad_ar 0) (ad_tb 0) (ad_tc 0) ht ++ (uw_Out ad_ot cA_ot ot ++ (uw_Mixture ad_mx cA_mx mx ++ (uw_Table ad_tb cA_tb tb))))) [0, 1, 3, 4, 5, 6, 7, 8, 9, 10, 11] [2] [1, 2, 0, 3, 4, 5, 6, 7, 8, 9, 10, 11] [0, 2, 3, 4, 5, 6, 7, 8] hP hD hS hA hK rfl rfl (by decide +kernel) (by decide +kernel) (by decide +kernel) rfl (fun _ => rfl) (fun _ => rfl) (by decide +kernel) (fun hPc hKc hDc hFc => (vx_runV (As := [.int x1]) (rest := [.int (0 : Int32), .ref (ad_ot 1)]) ⟨hx, hb, hml, hown, hts⟩ (k_HT_strict l dC dI ad_ht cA_ht ad_mx cA_mx ad_tb cA_tb ad_rd cA_rd ad_sp cA_sp ad_ar cA_ar ad_tc cA_tc H.size ht mx tb x1 u1 hu1 htr) (cwV 1 hts (gV wd_637 wd_638 wd_639 wd_43 wd_640) rfl rfl rfl (by decide +kernel) ⟨Nat.le_of_ble_eq_true rfl, Nat.le_of_ble_eq_true rfl⟩) (cx_preV hPc hKc hDc hN (fun U hU hW => xAll_at hX hS hFc hU hW) (ci := 5) 0 rfl rfl) rfl rfl hl.1 rfl (lv_room (Nat.le_of_ble_eq_true rfl)) d_Law_strict_4 ⟨Nat.le_of_ble_eq_true rfl, Nat.le_of_ble_eq_true rfl⟩)) (fun E ce q9 u H locs hw hE hP hD hS hce hcv hcl => ?_) (fun r u H locs hw hP hD hS => ?_)
  · obtain ⟨bu1, rfl⟩ : ∃ z, z = u := ⟨_, rfl⟩
    subst hw
    have hf := hf_r hf
    have hP : va_P (dC, dI) vwCl (uw_HT ad_ht cA_ht (ad_rd 0) (ad_sp 0) (ad_mx 0) (ad_ar 0) (ad_tb 0) (ad_tc 0) ht ++ (uw_Out ad_ot cA_ot ot ++ (uw_Mixture ad_mx cA_mx mx ++ (uw_Table ad_tb cA_tb tb)))) H := hP
    have hD : va_D A (uw_HT ad_ht cA_ht (ad_rd 0) (ad_sp 0) (ad_mx 0) (ad_ar 0) (ad_tb 0) (ad_tc 0) ht ++ (uw_Out ad_ot cA_ot ot ++ (uw_Mixture ad_mx cA_mx mx ++ (uw_Table ad_tb cA_tb tb)))) := hD
    by_cases hc2 : bu1.1 = 1
    · have hf := hf_t hf hc2
      have hE : E = "java/lang/IndexOutOfBoundsException" := by rw [hE, hc2]; rfl
      subst hE
      refine vx_catch (own := "HazardTablesLaw") (name := "java/lang/IndexOutOfBoundsException") (E := "java/lang/IndexOutOfBoundsException") hown [] ⟨0, 9, 12, 13⟩ [] htab (fun z hz => absurd hz List.not_mem_nil) (by decide) (by decide) (hts _ (List.mem_cons_of_mem _ wd_241)) (va_Nw.use rfl (hX.2.2.2 (.castable "java/lang/IndexOutOfBoundsException" "java/lang/IndexOutOfBoundsException") (by decide))) hce hcv hcl ?_
      refine lv_astore_n (lv' := [(3, .ref q9), (0, .ref (ad_ht 0)), (1, .int x1), (2, .ref (ad_ot 1))]) hx hb d_Law_strict_12 rfl hl (by decide) rfl (fun ls hl => ?_)
      refine lv_iconst (v := (1 : Int32)) hx hb d_Law_strict_13 (by decide) ?_
      exact ret (1 : Int32) ot H locs ls 14 d_Law_strict_14 (hf_e hf) hP hD hS
    have hf := hf_f hf hc2
    exact nomatch hf
  · obtain ⟨au1, rfl⟩ : ∃ z, z = r := ⟨_, rfl⟩
    subst hw
    have hf := hf_l hf
    have hP : va_P (dC, dI) vwCl (uw_HT ad_ht cA_ht (ad_rd 0) (ad_sp 0) (ad_mx 0) (ad_ar 0) (ad_tb 0) (ad_tc 0) ht ++ (uw_Out ad_ot cA_ot ot ++ (uw_Mixture ad_mx cA_mx mx ++ (uw_Table ad_tb cA_tb tb)))) H := hP
    have hD : va_D A (uw_HT ad_ht cA_ht (ad_rd 0) (ad_sp 0) (ad_mx 0) (ad_ar 0) (ad_tb 0) (ad_tc 0) ht ++ (uw_Out ad_ot cA_ot ot ++ (uw_Mixture ad_mx cA_mx mx ++ (uw_Table ad_tb cA_tb tb)))) := hD
    refine lv_i2l (v := au1.toInt64) hx hb d_Law_strict_7 rfl ?_
    obtain ⟨hi3, hf⟩ := hf_g hf
    refine va_last hx hb hK hP hD hS 2 1 rfl rfl hi3 d_Law_strict_8 (fun H locs hP hD hS => ?_)
    have hP : va_P (dC, dI) vwCl (uw_HT ad_ht cA_ht (ad_rd 0) (ad_sp 0) (ad_mx 0) (ad_ar 0) (ad_tb 0) (ad_tc 0) ht ++ (uw_Out ad_ot cA_ot (vp_updL ot (0 : Int32).toNatClampNeg au1.toInt64) ++ (uw_Mixture ad_mx cA_mx mx ++ (uw_Table ad_tb cA_tb tb)))) H := hP
    have hD : va_D A (uw_HT ad_ht cA_ht (ad_rd 0) (ad_sp 0) (ad_mx 0) (ad_ar 0) (ad_tb 0) (ad_tc 0) ht ++ (uw_Out ad_ot cA_ot (vp_updL ot (0 : Int32).toNatClampNeg au1.toInt64) ++ (uw_Mixture ad_mx cA_mx mx ++ (uw_Table ad_tb cA_tb tb)))) := hD
    refine lv_goto (tgt := 15) hx hb d_Law_strict_9 (by decide) ?_
    refine lv_iconst (v := (0 : Int32)) hx hb d_Law_strict_15 (by decide) ?_
    exact ret (0 : Int32) (vp_updL ot (0 : Int32).toNatClampNeg au1.toInt64) H locs ls 16 d_Law_strict_16 (hf_e hf) hP hD hS
