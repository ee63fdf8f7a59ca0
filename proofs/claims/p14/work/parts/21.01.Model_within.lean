noncomputable def f_Model_within (x0 : Int32) (x1 : Int32) (x2 : Int32) : Option (Bool) :=
  (if x0 < x1 then
    (some (false))
   else
    (if x2 < x0 then
      (some (false))
     else
      (some (true))
     )
   )
set_option maxHeartbeats 4000000 in
set_option maxRecDepth 100000 in
theorem k_Model_within (l : Launch) (dC : Nat → ClassId) (dI : Nat → Nat → Nat)  (sz : Nat) (x0 : Int32) (x1 : Int32) (x2 : Int32) (res : Bool) (hf : f_Model_within x0 x1 x2 = some res) : Met l y_Model_within w_Model_within ({ frames := 0, cells := 0, slots := 0, locals := 0 }) (cPc (dC, dI) [] [] sz [.int x0, .int x1, .int x2]) (va_Qi (fun (r : Int32) (u : Unit) => r = bI res) (fun (u : Unit) (t : State) => va_P (dC, dI) vwCl [] t.heap ∧ va_K (dC, dI) vwCl [] t ∧ va_D (va_A [] sz) []) (va_A [] sz)) 0 0 (va_A [] sz) := by
  refine Met.ofW (cc := b_Model_within) (maxL := 3) (ret := (some .boolean)) (by decide) rfl ?_
  intro p e s m args below meth c s₁ B hml hv
  obtain ⟨rfl, hsz, hP, hK, hD0, hN⟩ := hv
  have hx := B.exec
  have hb := B.bytes
  have hr := B.returns
  have hts := atoms_spec (ws := w_Model_within) B.pre
  have hown : s.vm.findClass "HazardTablesModel" = some m.cls := findClass_of_methodNamed B.named
  have hlocks := B.notSynchronized
  subst hsz
  have hD := hD0.self (sz := s.heap.size)
  generalize hAe : va_A [] s.heap.size = A at hD ⊢
  have hA : ∀ q : Nat, s.heap.size ≤ q → A q := fun q h => by rw [← hAe]; exact Or.inr h
  have hS : va_S A s.heap s.heap [] := va_S.rf
  have hP : va_P (dC, dI) vwCl [] s.heap := hP
  have ret : ∀ (v : Bool) (u : Unit) (H : Heap) (locs : List Loc) (ls : Array Slot) (pc : Nat), decode b_Model_within pc = .ok (.ireturn, 1) → (v = res) → va_P (dC, dI) vwCl [] H → va_D A [] → va_S A s.heap H locs → W p l e (headSpec w_Model_within ({ frames := 0, cells := 0, slots := 0, locals := 0 })).room s m ([.int x0, .int x1, .int x2] : List Value).toArray below meth c H locs 0 0 (MQ below (va_Qi (fun (r : Int32) (u : Unit) => r = bI res) (fun (u : Unit) (t : State) => va_P (dC, dI) vwCl [] t.heap ∧ va_K (dC, dI) vwCl [] t ∧ va_D A []) A) ([.int x0, .int x1, .int x2] : List Value).toArray s 0 0 A) (F0 m pc ls [.int (bI v)]) := fun v u H locs ls pc hd hp hP hD hS => W.zret (v := bI v) (ty := .boolean) hx hb hr (nar_bI v) (fun t ht hW => ⟨⟨bI v, u, rfl, (by rw [hp]), by rw [ht]; exact hP, va_K.moved hW.alike hK, hD⟩, hS.F ht⟩) hS.2.2 hd
  generalize (MQ below (va_Qi (fun (r : Int32) (u : Unit) => r = bI res) (fun (u : Unit) (t : State) => va_P (dC, dI) vwCl [] t.heap ∧ va_K (dC, dI) vwCl [] t ∧ va_D A []) A) ([.int x0, .int x1, .int x2] : List Value).toArray s 0 0 A) = Q at ret ⊢
  have hl := lv_entry ([.int x0, .int x1, .int x2]) (n := 3) (Nat.le_of_ble_eq_true rfl)
  rw [lg_entry_eq]
  generalize (lg_sl ([.int x0, .int x1, .int x2]) ++ List.replicate (3 - (lg_sl ([.int x0, .int x1, .int x2])).length) Slot.unset).toArray = ls at hl ⊢
  have hl : lv_has ls 3 [(0, .int x0), (1, .int x1), (2, .int x2)] := hl
  have hf := hf
  rw [f_Model_within] at hf
  obtain ⟨H, hH⟩ : ∃ H : Heap, H = s.heap := ⟨_, rfl⟩
  obtain ⟨locs, hlocs⟩ : ∃ L : List Loc, L = [] := ⟨_, rfl⟩
  have hP : va_P (dC, dI) vwCl [] H := by rw [hH]; exact hP
  have hS : va_S A s.heap H locs := by rw [hH, hlocs]; exact hS
  show W p l e (headSpec w_Model_within ({ frames := 0, cells := 0, slots := 0, locals := 0 })).room s m ([.int x0, .int x1, .int x2] : List Value).toArray below meth c s.heap [] 0 0 Q (F0 m 0 ls [])
  suffices hgo : W p l e (headSpec w_Model_within ({ frames := 0, cells := 0, slots := 0, locals := 0 })).room s m ([.int x0, .int x1, .int x2] : List Value).toArray below meth c H locs 0 0 Q (F0 m 0 ls []) by rw [hH, hlocs] at hgo; exact hgo
  clear hH hlocs
  refine lv_iload_n hx hb d_Model_within_0 rfl (lv_at hl 0 rfl) ?_
  refine lv_iload_n hx hb d_Model_within_1 rfl (lv_at hl 1 rfl) ?_
  refine lv_icmp_lt (tgt := 14) hx hb d_Model_within_2 (by decide) (fun hc1 => ?_) (fun hc1 => ?_)
  · have hf := hf_t hf hc1
    refine lv_iconst (v := (0 : Int32)) hx hb d_Model_within_14 (by decide) ?_
    exact ret false () H locs ls 15 d_Model_within_15 (Option.some.inj hf) hP hD hS
  · have hf := hf_f hf hc1
    refine lv_iload_n hx hb d_Model_within_5 rfl (lv_at hl 0 rfl) ?_
    refine lv_iload_n hx hb d_Model_within_6 rfl (lv_at hl 2 rfl) ?_
    refine lv_icmp_gt (tgt := 14) hx hb d_Model_within_7 (by decide) (fun hc2 => ?_) (fun hc2 => ?_)
    · have hf := hf_t hf hc2
      refine lv_iconst (v := (0 : Int32)) hx hb d_Model_within_14 (by decide) ?_
      exact ret false () H locs ls 15 d_Model_within_15 (Option.some.inj hf) hP hD hS
    · have hf := hf_f hf hc2
      refine lv_iconst (v := (1 : Int32)) hx hb d_Model_within_10 (by decide) ?_
      refine lv_goto (tgt := 15) hx hb d_Model_within_11 (by decide) ?_
      exact ret true () H locs ls 15 d_Model_within_15 (Option.some.inj hf) hP hD hS
