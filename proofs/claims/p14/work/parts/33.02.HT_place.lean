noncomputable def f_HT_place (ht : SHT) (rd : SReader) : Option (Int32) :=
  (some (rd.2.2.2.2))
set_option maxHeartbeats 4000000 in
set_option maxRecDepth 100000 in
theorem k_HT_place (l : Launch) (dC : Nat → ClassId) (dI : Nat → Nat → Nat) (ad_ht : Nat → Nat) (cA_ht : Nat → ClassId) (ad_rd : Nat → Nat) (cA_rd : Nat → ClassId) (ad_sp : Nat → Nat) (cA_sp : Nat → ClassId) (ad_mx : Nat → Nat) (cA_mx : Nat → ClassId) (ad_ar : Nat → Nat) (cA_ar : Nat → ClassId) (ad_tb : Nat → Nat) (cA_tb : Nat → ClassId) (ad_tc : Nat → Nat) (cA_tc : Nat → ClassId) (sz : Nat) (ht : SHT) (rd : SReader) (res : Int32) (hf : f_HT_place ht rd = some res) : Met l y_HT_place w_HT_place ({ frames := 0, cells := 0, slots := 0, locals := 0 }) (cPc (dC, dI) (uw_HT ad_ht cA_ht (ad_rd 0) (ad_sp 0) (ad_mx 0) (ad_ar 0) (ad_tb 0) (ad_tc 0) ht ++ (uw_Reader ad_rd cA_rd rd)) [(cA_ht 1, .int), (cA_rd 1, .int)] sz [.ref (ad_ht 0)]) (va_Qi (fun (r : Int32) (u : Unit) => r = res) (fun (u : Unit) (t : State) => va_P (dC, dI) vwCl (uw_HT ad_ht cA_ht (ad_rd 0) (ad_sp 0) (ad_mx 0) (ad_ar 0) (ad_tb 0) (ad_tc 0) ht ++ (uw_Reader ad_rd cA_rd rd)) t.heap ∧ va_K (dC, dI) vwCl [(cA_ht 1, .int), (cA_rd 1, .int)] t ∧ va_D (va_A (uw_HT ad_ht cA_ht (ad_rd 0) (ad_sp 0) (ad_mx 0) (ad_ar 0) (ad_tb 0) (ad_tc 0) ht ++ (uw_Reader ad_rd cA_rd rd)) sz) (uw_HT ad_ht cA_ht (ad_rd 0) (ad_sp 0) (ad_mx 0) (ad_ar 0) (ad_tb 0) (ad_tc 0) ht ++ (uw_Reader ad_rd cA_rd rd))) (va_A (uw_HT ad_ht cA_ht (ad_rd 0) (ad_sp 0) (ad_mx 0) (ad_ar 0) (ad_tb 0) (ad_tc 0) ht ++ (uw_Reader ad_rd cA_rd rd)) sz)) 0 0 (va_A (uw_HT ad_ht cA_ht (ad_rd 0) (ad_sp 0) (ad_mx 0) (ad_ar 0) (ad_tb 0) (ad_tc 0) ht ++ (uw_Reader ad_rd cA_rd rd)) sz) := by
  refine Met.ofW (cc := b_HT_place) (maxL := 1) (ret := (some .int)) (by decide) rfl ?_
  intro p e s m args below meth c s₁ B hml hv
  obtain ⟨rfl, hsz, hP, hK, hD0, hN⟩ := hv
  have hx := B.exec
  have hb := B.bytes
  have hr := B.returns
  have hts := atoms_spec (ws := w_HT_place) B.pre
  have hown : s.vm.findClass "HazardTables" = some m.cls := findClass_of_methodNamed B.named
  have hlocks := B.notSynchronized
  subst hsz
  have hD := hD0.self (sz := s.heap.size)
  generalize hAe : va_A (uw_HT ad_ht cA_ht (ad_rd 0) (ad_sp 0) (ad_mx 0) (ad_ar 0) (ad_tb 0) (ad_tc 0) ht ++ (uw_Reader ad_rd cA_rd rd)) s.heap.size = A at hD ⊢
  have hA : ∀ q : Nat, s.heap.size ≤ q → A q := fun q h => by rw [← hAe]; exact Or.inr h
  have hS : va_S A s.heap s.heap [] := va_S.rf
  have hP : va_P (dC, dI) vwCl (uw_HT ad_ht cA_ht (ad_rd 0) (ad_sp 0) (ad_mx 0) (ad_ar 0) (ad_tb 0) (ad_tc 0) ht ++ (uw_Reader ad_rd cA_rd rd)) s.heap := hP
  have fl_10 := (hts _ (List.mem_cons_of_mem _ wd_204))
  have fl_90 := (hts _ (List.mem_cons_of_mem _ wd_77))
  have hin_HT : ∀ w ∈ u_ws "HazardTables" F_HT 7, w ∈ w_HT_place := fun w h => List.mem_cons_of_mem _ (hinA_HT w h)
  have hin_Reader : ∀ w ∈ u_ws "HazardTables$Reader" F_Reader 5, w ∈ w_HT_place := fun w h => List.mem_cons_of_mem _ (hinA_Reader w h)
  have ret : ∀ (v : Int32) (u : Unit) (H : Heap) (locs : List Loc) (ls : Array Slot) (pc : Nat), decode b_HT_place pc = .ok (.ireturn, 1) → (v = res) → va_P (dC, dI) vwCl (uw_HT ad_ht cA_ht (ad_rd 0) (ad_sp 0) (ad_mx 0) (ad_ar 0) (ad_tb 0) (ad_tc 0) ht ++ (uw_Reader ad_rd cA_rd rd)) H → va_D A (uw_HT ad_ht cA_ht (ad_rd 0) (ad_sp 0) (ad_mx 0) (ad_ar 0) (ad_tb 0) (ad_tc 0) ht ++ (uw_Reader ad_rd cA_rd rd)) → va_S A s.heap H locs → W p l e (headSpec w_HT_place ({ frames := 0, cells := 0, slots := 0, locals := 0 })).room s m ([.ref (ad_ht 0)] : List Value).toArray below meth c H locs 0 0 (MQ below (va_Qi (fun (r : Int32) (u : Unit) => r = res) (fun (u : Unit) (t : State) => va_P (dC, dI) vwCl (uw_HT ad_ht cA_ht (ad_rd 0) (ad_sp 0) (ad_mx 0) (ad_ar 0) (ad_tb 0) (ad_tc 0) ht ++ (uw_Reader ad_rd cA_rd rd)) t.heap ∧ va_K (dC, dI) vwCl [(cA_ht 1, .int), (cA_rd 1, .int)] t ∧ va_D A (uw_HT ad_ht cA_ht (ad_rd 0) (ad_sp 0) (ad_mx 0) (ad_ar 0) (ad_tb 0) (ad_tc 0) ht ++ (uw_Reader ad_rd cA_rd rd))) A) ([.ref (ad_ht 0)] : List Value).toArray s 0 0 A) (F0 m pc ls [.int v]) := fun v u H locs ls pc hd hp hP hD hS => W.iret (v := v) hx hb hr (fun t ht hW => ⟨⟨v, u, rfl, hp, by rw [ht]; exact hP, va_K.moved hW.alike hK, hD⟩, hS.F ht⟩) hS.2.2 hd
  generalize (MQ below (va_Qi (fun (r : Int32) (u : Unit) => r = res) (fun (u : Unit) (t : State) => va_P (dC, dI) vwCl (uw_HT ad_ht cA_ht (ad_rd 0) (ad_sp 0) (ad_mx 0) (ad_ar 0) (ad_tb 0) (ad_tc 0) ht ++ (uw_Reader ad_rd cA_rd rd)) t.heap ∧ va_K (dC, dI) vwCl [(cA_ht 1, .int), (cA_rd 1, .int)] t ∧ va_D A (uw_HT ad_ht cA_ht (ad_rd 0) (ad_sp 0) (ad_mx 0) (ad_ar 0) (ad_tb 0) (ad_tc 0) ht ++ (uw_Reader ad_rd cA_rd rd))) A) ([.ref (ad_ht 0)] : List Value).toArray s 0 0 A) = Q at ret ⊢
  have hl := lv_entry ([.ref (ad_ht 0)]) (n := 1) (Nat.le_of_ble_eq_true rfl)
  rw [lg_entry_eq]
  generalize (lg_sl ([.ref (ad_ht 0)]) ++ List.replicate (1 - (lg_sl ([.ref (ad_ht 0)])).length) Slot.unset).toArray = ls at hl ⊢
  have hl : lv_has ls 1 [(0, .ref (ad_ht 0))] := hl
  have hf := hf
  rw [f_HT_place] at hf
  obtain ⟨H, hH⟩ : ∃ H : Heap, H = s.heap := ⟨_, rfl⟩
  obtain ⟨locs, hlocs⟩ : ∃ L : List Loc, L = [] := ⟨_, rfl⟩
  have hP : va_P (dC, dI) vwCl (uw_HT ad_ht cA_ht (ad_rd 0) (ad_sp 0) (ad_mx 0) (ad_ar 0) (ad_tb 0) (ad_tc 0) ht ++ (uw_Reader ad_rd cA_rd rd)) H := by rw [hH]; exact hP
  have hS : va_S A s.heap H locs := by rw [hH, hlocs]; exact hS
  show W p l e (headSpec w_HT_place ({ frames := 0, cells := 0, slots := 0, locals := 0 })).room s m ([.ref (ad_ht 0)] : List Value).toArray below meth c s.heap [] 0 0 Q (F0 m 0 ls [])
  suffices hgo : W p l e (headSpec w_HT_place ({ frames := 0, cells := 0, slots := 0, locals := 0 })).room s m ([.ref (ad_ht 0)] : List Value).toArray below meth c H locs 0 0 Q (F0 m 0 ls []) by rw [hH, hlocs] at hgo; exact hgo
  clear hH hlocs
  refine lv_aload_n hx hb d_HT_place_0 rfl (lv_at hl 0 rfl) ?_
  refine va_get (D := (dC, dI)) (ci := 5) (v := .ref (ad_rd 0)) (C := "HazardTables") (T := F_HT) (N := 7) hx hb hts hin_HT hown hK hP 0 rfl rfl 0 (by decide) fl_10 (fun _ h9 => h9) rfl d_HT_place_1 ?_
  refine va_get (D := (dC, dI)) (ci := 1) (v := .int rd.2.2.2.2) (C := "HazardTables$Reader") (T := F_Reader) (N := 5) hx hb hts hin_Reader hown hK hP 2 rfl rfl 4 (by decide) fl_90 (fun _ h9 => h9) rfl d_HT_place_4 ?_
  exact ret rd.2.2.2.2 () H locs ls 7 d_HT_place_7 (Option.some.inj hf) hP hD hS
