noncomputable def f_Law_mark (ht : SHT) (x1 : Int32) (x2 : Int32) : Option (Int32 × SHT) :=
  (Option.bind (f_HT_mark ht x1 x2) fun u1 => Sum.elim (fun au1 =>
    (some ((0 : Int32), au1))
   ) (fun bu1 =>
    (if bu1.1 = 0 then
      (some ((1 : Int32), bu1.2))
     else
    (if bu1.1 = 1 then
      (some ((2 : Int32), bu1.2))
     else
      none
     ))
   ) u1)
set_option maxHeartbeats 4000000 in
set_option maxRecDepth 100000 in
theorem k_Law_mark (l : Launch) (dC : Nat → ClassId) (dI : Nat → Nat → Nat) (ad_ht : Nat → Nat) (cA_ht : Nat → ClassId) (ad_rd : Nat → Nat) (cA_rd : Nat → ClassId) (ad_sp : Nat → Nat) (cA_sp : Nat → ClassId) (ad_mx : Nat → Nat) (cA_mx : Nat → ClassId) (ad_ar : Nat → Nat) (cA_ar : Nat → ClassId) (ad_tb : Nat → Nat) (cA_tb : Nat → ClassId) (ad_tc : Nat → Nat) (cA_tc : Nat → ClassId) (sz : Nat) (ht : SHT) (x1 : Int32) (x2 : Int32) (res : Int32 × SHT) (hf : f_Law_mark ht x1 x2 = some res) (htr : l.stackTraces = false) : Met l y_Law_mark w_Law_mark ({ frames := 7, cells := 1, slots := 6, locals := 104 }) (lPc (dC, dI) (uw_HT ad_ht cA_ht (ad_rd 0) (ad_sp 0) (ad_mx 0) (ad_ar 0) (ad_tb 0) (ad_tc 0) ht) [(cA_ht 1, .int)] sz [.ref (ad_ht 0), .int x1, .int x2]) (va_Qi (fun (r : Int32) (u : SHT) => r = res.1 ∧ u = res.2) (fun (u : SHT) (t : State) => va_P (dC, dI) vwCl (uw_HT ad_ht cA_ht (ad_rd 0) (ad_sp 0) (ad_mx 0) (ad_ar 0) (ad_tb 0) (ad_tc 0) u) t.heap ∧ va_K (dC, dI) vwCl [(cA_ht 1, .int)] t ∧ va_D (va_A (uw_HT ad_ht cA_ht (ad_rd 0) (ad_sp 0) (ad_mx 0) (ad_ar 0) (ad_tb 0) (ad_tc 0) ht) sz) (uw_HT ad_ht cA_ht (ad_rd 0) (ad_sp 0) (ad_mx 0) (ad_ar 0) (ad_tb 0) (ad_tc 0) u)) (va_A (uw_HT ad_ht cA_ht (ad_rd 0) (ad_sp 0) (ad_mx 0) (ad_ar 0) (ad_tb 0) (ad_tc 0) ht) sz)) 1 6 (va_A (uw_HT ad_ht cA_ht (ad_rd 0) (ad_sp 0) (ad_mx 0) (ad_ar 0) (ad_tb 0) (ad_tc 0) ht) sz) := by
  refine met_ofWH (hh := [(0, 6, 9, 27), (0, 6, 12, 13)]) (cc := b_Law_mark) (maxL := 4) (ret := (some .int)) (by decide) rfl ?_
  intro p e s m args below meth c s₁ B hml hv
  obtain ⟨rfl, hsz, hP, hK, hD0, hN, hX, hnc⟩ := hv
  have hx := B.exec
  have hb := B.bytes
  have hr := B.returns
  have hts := atoms_spec (ws := w_Law_mark) B.pre
  have hown : s.vm.findClass "HazardTablesLaw" = some m.cls := findClass_of_methodNamed B.named
  have hlocks := B.notSynchronized
  have htab : c.exceptionTable.toList = [⟨0, 6, 9, 27⟩, ⟨0, 6, 12, 13⟩] := vx_table (x := y_Law_mark) B (hts _ List.mem_cons_self)
  subst hsz
  have hD := hD0.self (sz := s.heap.size)
  generalize hAe : va_A (uw_HT ad_ht cA_ht (ad_rd 0) (ad_sp 0) (ad_mx 0) (ad_ar 0) (ad_tb 0) (ad_tc 0) ht) s.heap.size = A at hD hX ⊢
  have hA : ∀ q : Nat, s.heap.size ≤ q → A q := fun q h => by rw [← hAe]; exact Or.inr h
  have hS : va_S A s.heap s.heap [] := va_S.rf
  have hP : va_P (dC, dI) vwCl (uw_HT ad_ht cA_ht (ad_rd 0) (ad_sp 0) (ad_mx 0) (ad_ar 0) (ad_tb 0) (ad_tc 0) ht) s.heap := hP
  have ret : ∀ (v : Int32) (u : SHT) (H : Heap) (locs : List Loc) (ls : Array Slot) (pc : Nat), decode b_Law_mark pc = .ok (.ireturn, 1) → (v = res.1 ∧ u = res.2) → va_P (dC, dI) vwCl (uw_HT ad_ht cA_ht (ad_rd 0) (ad_sp 0) (ad_mx 0) (ad_ar 0) (ad_tb 0) (ad_tc 0) u) H → va_D A (uw_HT ad_ht cA_ht (ad_rd 0) (ad_sp 0) (ad_mx 0) (ad_ar 0) (ad_tb 0) (ad_tc 0) u) → va_S A s.heap H locs → W p l e (headSpec w_Law_mark ({ frames := 7, cells := 1, slots := 6, locals := 104 })).room s m ([.ref (ad_ht 0), .int x1, .int x2] : List Value).toArray below meth c H locs 1 6 (MQ below (va_Qi (fun (r : Int32) (u : SHT) => r = res.1 ∧ u = res.2) (fun (u : SHT) (t : State) => va_P (dC, dI) vwCl (uw_HT ad_ht cA_ht (ad_rd 0) (ad_sp 0) (ad_mx 0) (ad_ar 0) (ad_tb 0) (ad_tc 0) u) t.heap ∧ va_K (dC, dI) vwCl [(cA_ht 1, .int)] t ∧ va_D A (uw_HT ad_ht cA_ht (ad_rd 0) (ad_sp 0) (ad_mx 0) (ad_ar 0) (ad_tb 0) (ad_tc 0) u)) A) ([.ref (ad_ht 0), .int x1, .int x2] : List Value).toArray s 1 6 A) (F0 m pc ls [.int v]) := fun v u H locs ls pc hd hp hP hD hS => W.iret (v := v) hx hb hr (fun t ht hW => ⟨⟨v, u, rfl, hp, by rw [ht]; exact hP, va_K.moved hW.alike hK, hD⟩, hS.F ht⟩) hS.2.2 hd
  generalize (MQ below (va_Qi (fun (r : Int32) (u : SHT) => r = res.1 ∧ u = res.2) (fun (u : SHT) (t : State) => va_P (dC, dI) vwCl (uw_HT ad_ht cA_ht (ad_rd 0) (ad_sp 0) (ad_mx 0) (ad_ar 0) (ad_tb 0) (ad_tc 0) u) t.heap ∧ va_K (dC, dI) vwCl [(cA_ht 1, .int)] t ∧ va_D A (uw_HT ad_ht cA_ht (ad_rd 0) (ad_sp 0) (ad_mx 0) (ad_ar 0) (ad_tb 0) (ad_tc 0) u)) A) ([.ref (ad_ht 0), .int x1, .int x2] : List Value).toArray s 1 6 A) = Q at ret ⊢
  have hl := lv_entry ([.ref (ad_ht 0), .int x1, .int x2]) (n := 4) (Nat.le_of_ble_eq_true rfl)
  rw [lg_entry_eq]
  generalize (lg_sl ([.ref (ad_ht 0), .int x1, .int x2]) ++ List.replicate (4 - (lg_sl ([.ref (ad_ht 0), .int x1, .int x2])).length) Slot.unset).toArray = ls at hl ⊢
  have hl : lv_has ls 4 [(0, .ref (ad_ht 0)), (1, .int x1), (2, .int x2)] := hl
  have hf := hf
  rw [f_Law_mark] at hf
  obtain ⟨H, hH⟩ : ∃ H : Heap, H = s.heap := ⟨_, rfl⟩
  obtain ⟨locs, hlocs⟩ : ∃ L : List Loc, L = [] := ⟨_, rfl⟩
  have hP : va_P (dC, dI) vwCl (uw_HT ad_ht cA_ht (ad_rd 0) (ad_sp 0) (ad_mx 0) (ad_ar 0) (ad_tb 0) (ad_tc 0) ht) H := by rw [hH]; exact hP
  have hS : va_S A s.heap H locs := by rw [hH, hlocs]; exact hS
  show W p l e (headSpec w_Law_mark ({ frames := 7, cells := 1, slots := 6, locals := 104 })).room s m ([.ref (ad_ht 0), .int x1, .int x2] : List Value).toArray below meth c s.heap [] 0 0 Q (F0 m 0 ls [])
  suffices hgo : W p l e (headSpec w_Law_mark ({ frames := 7, cells := 1, slots := 6, locals := 104 })).room s m ([.ref (ad_ht 0), .int x1, .int x2] : List Value).toArray below meth c H locs 0 0 Q (F0 m 0 ls []) by rw [hH, hlocs] at hgo; exact hgo
  clear hH hlocs
  refine lv_aload_n hx hb d_Law_mark_0 rfl (lv_at hl 0 rfl) ?_
  refine lv_iload_n hx hb d_Law_mark_1 rfl (lv_at hl 1 rfl) ?_
  refine lv_iload_n hx hb d_Law_mark_2 rfl (lv_at hl 2 rfl) ?_
  obtain ⟨u1, hu1, hf⟩ := Option.bind_eq_some_iff.mp hf
  refine cx_v (wc := (uw_HT ad_ht cA_ht (ad_rd 0) (ad_sp 0) (ad_mx 0) (ad_ar 0) (ad_tb 0) (ad_tc 0) ht)) (wr := []) (tysC := [(cA_ht 1, .int)]) (wu := fun (u : SHT) => (uw_HT ad_ht cA_ht (ad_rd 0) (ad_sp 0) (ad_mx 0) (ad_ar 0) (ad_tb 0) (ad_tc 0) u)) (wn := fun (u : SHT) => (uw_HT ad_ht cA_ht (ad_rd 0) (ad_sp 0) (ad_mx 0) (ad_ar 0) (ad_tb 0) (ad_tc 0) u)) (wux := fun (u : SHT) => (uw_HT ad_ht cA_ht (ad_rd 0) (ad_sp 0) (ad_mx 0) (ad_ar 0) (ad_tb 0) (ad_tc 0) u)) (wnx := fun (u : SHT) => (uw_HT ad_ht cA_ht (ad_rd 0) (ad_sp 0) (ad_mx 0) (ad_ar 0) (ad_tb 0) (ad_tc 0) u)) [0, 1] [] [0, 1] [0] hP hD hS hA hK rfl rfl (by decide +kernel) (by decide +kernel) (by decide +kernel) rfl (fun _ => rfl) (fun _ => rfl) (by decide +kernel) (fun hPc hKc hDc hFc => (vx_runV (As := [.int x1, .int x2]) (rest := []) ⟨hx, hb, hml, hown, hts⟩ (k_HT_mark l dC dI ad_ht cA_ht ad_rd cA_rd ad_sp cA_sp ad_mx cA_mx ad_ar cA_ar ad_tb cA_tb ad_tc cA_tc H.size ht x1 x2 u1 hu1 htr) (cwV 2 hts (gV wd_729 wd_730 wd_731 wd_43 wd_732) rfl rfl rfl (by decide +kernel) ⟨Nat.le_of_ble_eq_true rfl, Nat.le_of_ble_eq_true rfl⟩) (cx_preV hPc hKc hDc hN (fun U hU hW => xAll_at hX hS hFc hU hW) (ci := 5) 0 rfl rfl) rfl rfl hl.1 rfl (lv_room (Nat.le_of_ble_eq_true rfl)) d_Law_mark_3 ⟨Nat.le_of_ble_eq_true rfl, Nat.le_of_ble_eq_true rfl⟩)) (fun E ce q9 u H locs hw hE hP hD hS hce hcv hcl => ?_) (fun u H locs hw hP hD hS => ?_)
  · obtain ⟨bu1, rfl⟩ : ∃ z, z = u := ⟨_, rfl⟩
    subst hw
    have hf := hf_r hf
    have hP : va_P (dC, dI) vwCl (uw_HT ad_ht cA_ht (ad_rd 0) (ad_sp 0) (ad_mx 0) (ad_ar 0) (ad_tb 0) (ad_tc 0) bu1.2) H := hP
    have hD : va_D A (uw_HT ad_ht cA_ht (ad_rd 0) (ad_sp 0) (ad_mx 0) (ad_ar 0) (ad_tb 0) (ad_tc 0) bu1.2) := hD
    by_cases hc2 : bu1.1 = 0
    · have hf := hf_t hf hc2
      have hE : E = "java/lang/IllegalArgumentException" := by rw [hE, hc2]; rfl
      subst hE
      refine vx_catch (own := "HazardTablesLaw") (name := "java/lang/IllegalArgumentException") (E := "java/lang/IllegalArgumentException") hown [] ⟨0, 6, 9, 27⟩ [⟨0, 6, 12, 13⟩] htab (fun z hz => absurd hz List.not_mem_nil) (by decide) (by decide) (hts _ (List.mem_cons_of_mem _ wd_469)) (va_Nw.use rfl (hX.2.2.2 (.castable "java/lang/IllegalArgumentException" "java/lang/IllegalArgumentException") (by decide))) hce hcv hcl ?_
      refine lv_astore_n (lv' := [(3, .ref q9), (0, .ref (ad_ht 0)), (1, .int x1), (2, .int x2)]) hx hb d_Law_mark_9 rfl hl (by decide) rfl (fun ls hl => ?_)
      refine lv_iconst (v := (1 : Int32)) hx hb d_Law_mark_10 (by decide) ?_
      exact ret (1 : Int32) bu1.2 H locs ls 11 d_Law_mark_11 (hf_e hf) hP hD hS
    have hf := hf_f hf hc2
    by_cases hc3 : bu1.1 = 1
    · have hf := hf_t hf hc3
      have hE : E = "java/lang/IndexOutOfBoundsException" := by rw [hE, hc3]; rfl
      subst hE
      refine vx_catch (own := "HazardTablesLaw") (name := "java/lang/IndexOutOfBoundsException") (E := "java/lang/IndexOutOfBoundsException") hown [⟨0, 6, 9, 27⟩] ⟨0, 6, 12, 13⟩ [] htab (List.forall_mem_cons.mpr ⟨Or.inr ⟨by decide, "java/lang/IllegalArgumentException", (hts _ (List.mem_cons_of_mem _ wd_469)), hnc 1 (by decide) 0 (by decide) (by decide)⟩, fun z hz => absurd hz List.not_mem_nil⟩) (by decide) (by decide) (hts _ (List.mem_cons_of_mem _ wd_241)) (va_Nw.use rfl (hX.2.2.2 (.castable "java/lang/IndexOutOfBoundsException" "java/lang/IndexOutOfBoundsException") (by decide))) hce hcv hcl ?_
      refine lv_astore_n (lv' := [(3, .ref q9), (0, .ref (ad_ht 0)), (1, .int x1), (2, .int x2)]) hx hb d_Law_mark_12 rfl hl (by decide) rfl (fun ls hl => ?_)
      refine lv_iconst (v := (2 : Int32)) hx hb d_Law_mark_13 (by decide) ?_
      exact ret (2 : Int32) bu1.2 H locs ls 14 d_Law_mark_14 (hf_e hf) hP hD hS
    have hf := hf_f hf hc3
    exact nomatch hf
  · obtain ⟨au1, rfl⟩ : ∃ z, z = u := ⟨_, rfl⟩
    subst hw
    have hf := hf_l hf
    have hP : va_P (dC, dI) vwCl (uw_HT ad_ht cA_ht (ad_rd 0) (ad_sp 0) (ad_mx 0) (ad_ar 0) (ad_tb 0) (ad_tc 0) au1) H := hP
    have hD : va_D A (uw_HT ad_ht cA_ht (ad_rd 0) (ad_sp 0) (ad_mx 0) (ad_ar 0) (ad_tb 0) (ad_tc 0) au1) := hD
    refine lv_goto (tgt := 15) hx hb d_Law_mark_6 (by decide) ?_
    refine lv_iconst (v := (0 : Int32)) hx hb d_Law_mark_15 (by decide) ?_
    exact ret (0 : Int32) au1 H locs ls 16 d_Law_mark_16 (hf_e hf) hP hD hS
