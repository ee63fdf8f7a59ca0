abbrev b_HT_isOutside : ByteArray := prog_1_method_19_code
abbrev y_HT_isOutside : MethodName := { cls := "HazardTables", name := "isOutside", desc := "(III)Z" }
abbrev w_HT_isOutside : List Cond := .code y_HT_isOutside b_HT_isOutside 3 (some .boolean) :: WA
theorem d_HT_isOutside_0 : decode b_HT_isOutside 0 = .ok (.iload_n 0, 1) := by decide +kernel
theorem d_HT_isOutside_1 : decode b_HT_isOutside 1 = .ok (.iload_n 1, 1) := by decide +kernel
theorem d_HT_isOutside_2 : decode b_HT_isOutside 2 = .ok (.if_icmp .lt 8, 3) := by decide +kernel
theorem d_HT_isOutside_5 : decode b_HT_isOutside 5 = .ok (.iload_n 0, 1) := by decide +kernel
theorem d_HT_isOutside_6 : decode b_HT_isOutside 6 = .ok (.iload_n 2, 1) := by decide +kernel
theorem d_HT_isOutside_7 : decode b_HT_isOutside 7 = .ok (.if_icmp .le 7, 3) := by decide +kernel
theorem d_HT_isOutside_10 : decode b_HT_isOutside 10 = .ok (.iconst 1, 1) := by decide +kernel
theorem d_HT_isOutside_11 : decode b_HT_isOutside 11 = .ok (.goto 4, 3) := by decide +kernel
theorem d_HT_isOutside_14 : decode b_HT_isOutside 14 = .ok (.iconst 0, 1) := by decide +kernel
theorem d_HT_isOutside_15 : decode b_HT_isOutside 15 = .ok (.ireturn, 1) := by decide +kernel
abbrev b_HT_isNoPoint : ByteArray := prog_1_method_20_code
abbrev y_HT_isNoPoint : MethodName := { cls := "HazardTables", name := "isNoPoint", desc := "(II)Z" }
abbrev w_HT_isNoPoint : List Cond := .code y_HT_isNoPoint b_HT_isNoPoint 2 (some .boolean) :: WA
theorem d_HT_isNoPoint_0 : decode b_HT_isNoPoint 0 = .ok (.iload_n 0, 1) := by decide +kernel
theorem d_HT_isNoPoint_1 : decode b_HT_isNoPoint 1 = .ok (.sipush (-10000), 3) := by decide +kernel
theorem d_HT_isNoPoint_4 : decode b_HT_isNoPoint 4 = .ok (.sipush 10000, 3) := by decide +kernel
theorem d_HT_isNoPoint_7 : decode b_HT_isNoPoint 7 = .ok (.invokestatic 135, 3) := by decide +kernel
theorem d_HT_isNoPoint_10 : decode b_HT_isNoPoint 10 = .ok (.ifCond .ne 16, 3) := by decide +kernel
theorem d_HT_isNoPoint_13 : decode b_HT_isNoPoint 13 = .ok (.iload_n 1, 1) := by decide +kernel
theorem d_HT_isNoPoint_14 : decode b_HT_isNoPoint 14 = .ok (.sipush (-10000), 3) := by decide +kernel
theorem d_HT_isNoPoint_17 : decode b_HT_isNoPoint 17 = .ok (.sipush 10000, 3) := by decide +kernel
theorem d_HT_isNoPoint_20 : decode b_HT_isNoPoint 20 = .ok (.invokestatic 135, 3) := by decide +kernel
theorem d_HT_isNoPoint_23 : decode b_HT_isNoPoint 23 = .ok (.ifCond .eq 7, 3) := by decide +kernel
theorem d_HT_isNoPoint_26 : decode b_HT_isNoPoint 26 = .ok (.iconst 1, 1) := by decide +kernel
theorem d_HT_isNoPoint_27 : decode b_HT_isNoPoint 27 = .ok (.goto 4, 3) := by decide +kernel
theorem d_HT_isNoPoint_30 : decode b_HT_isNoPoint 30 = .ok (.iconst 0, 1) := by decide +kernel
theorem d_HT_isNoPoint_31 : decode b_HT_isNoPoint 31 = .ok (.ireturn, 1) := by decide +kernel
abbrev b_HT_byteOf : ByteArray := prog_1_method_21_code
abbrev y_HT_byteOf : MethodName := { cls := "HazardTables", name := "byteOf", desc := "(JI)I" }
abbrev w_HT_byteOf : List Cond := .code y_HT_byteOf b_HT_byteOf 3 (some .int) :: WA
theorem d_HT_byteOf_0 : decode b_HT_byteOf 0 = .ok (.lload_n 0, 1) := by decide +kernel
theorem d_HT_byteOf_1 : decode b_HT_byteOf 1 = .ok (.bipush 8, 2) := by decide +kernel
theorem d_HT_byteOf_3 : decode b_HT_byteOf 3 = .ok (.iload_n 2, 1) := by decide +kernel
theorem d_HT_byteOf_4 : decode b_HT_byteOf 4 = .ok (.imul, 1) := by decide +kernel
theorem d_HT_byteOf_5 : decode b_HT_byteOf 5 = .ok (.lushr, 1) := by decide +kernel
theorem d_HT_byteOf_6 : decode b_HT_byteOf 6 = .ok (.l2i, 1) := by decide +kernel
theorem d_HT_byteOf_7 : decode b_HT_byteOf 7 = .ok (.sipush 255, 3) := by decide +kernel
theorem d_HT_byteOf_10 : decode b_HT_byteOf 10 = .ok (.iand, 1) := by decide +kernel
theorem d_HT_byteOf_11 : decode b_HT_byteOf 11 = .ok (.ireturn, 1) := by decide +kernel
abbrev b_HT_isLetter : ByteArray := prog_1_method_22_code
abbrev y_HT_isLetter : MethodName := { cls := "HazardTables", name := "isLetter", desc := "(I)Z" }
abbrev w_HT_isLetter : List Cond := .code y_HT_isLetter b_HT_isLetter 1 (some .boolean) :: WA
theorem d_HT_isLetter_0 : decode b_HT_isLetter 0 = .ok (.iload_n 0, 1) := by decide +kernel
theorem d_HT_isLetter_1 : decode b_HT_isLetter 1 = .ok (.bipush 97, 2) := by decide +kernel
theorem d_HT_isLetter_3 : decode b_HT_isLetter 3 = .ok (.if_icmp .lt 13, 3) := by decide +kernel
theorem d_HT_isLetter_6 : decode b_HT_isLetter 6 = .ok (.iload_n 0, 1) := by decide +kernel
theorem d_HT_isLetter_7 : decode b_HT_isLetter 7 = .ok (.bipush 122, 2) := by decide +kernel
theorem d_HT_isLetter_9 : decode b_HT_isLetter 9 = .ok (.if_icmp .gt 7, 3) := by decide +kernel
theorem d_HT_isLetter_12 : decode b_HT_isLetter 12 = .ok (.iconst 1, 1) := by decide +kernel
theorem d_HT_isLetter_13 : decode b_HT_isLetter 13 = .ok (.goto 4, 3) := by decide +kernel
theorem d_HT_isLetter_16 : decode b_HT_isLetter 16 = .ok (.iconst 0, 1) := by decide +kernel
theorem d_HT_isLetter_17 : decode b_HT_isLetter 17 = .ok (.ireturn, 1) := by decide +kernel
abbrev b_HT_isDigit : ByteArray := prog_1_method_23_code
abbrev y_HT_isDigit : MethodName := { cls := "HazardTables", name := "isDigit", desc := "(I)Z" }
abbrev w_HT_isDigit : List Cond := .code y_HT_isDigit b_HT_isDigit 1 (some .boolean) :: WA
theorem d_HT_isDigit_0 : decode b_HT_isDigit 0 = .ok (.iload_n 0, 1) := by decide +kernel
theorem d_HT_isDigit_1 : decode b_HT_isDigit 1 = .ok (.bipush 48, 2) := by decide +kernel
theorem d_HT_isDigit_3 : decode b_HT_isDigit 3 = .ok (.if_icmp .lt 13, 3) := by decide +kernel
theorem d_HT_isDigit_6 : decode b_HT_isDigit 6 = .ok (.iload_n 0, 1) := by decide +kernel
theorem d_HT_isDigit_7 : decode b_HT_isDigit 7 = .ok (.bipush 57, 2) := by decide +kernel
theorem d_HT_isDigit_9 : decode b_HT_isDigit 9 = .ok (.if_icmp .gt 7, 3) := by decide +kernel
theorem d_HT_isDigit_12 : decode b_HT_isDigit 12 = .ok (.iconst 1, 1) := by decide +kernel
theorem d_HT_isDigit_13 : decode b_HT_isDigit 13 = .ok (.goto 4, 3) := by decide +kernel
theorem d_HT_isDigit_16 : decode b_HT_isDigit 16 = .ok (.iconst 0, 1) := by decide +kernel
theorem d_HT_isDigit_17 : decode b_HT_isDigit 17 = .ok (.ireturn, 1) := by decide +kernel
abbrev b_HT_areLetters : ByteArray := prog_1_method_24_code
abbrev y_HT_areLetters : MethodName := { cls := "HazardTables", name := "areLetters", desc := "(JI)Z" }
abbrev w_HT_areLetters : List Cond := .code y_HT_areLetters b_HT_areLetters 4 (some .boolean) :: WA
theorem d_HT_areLetters_0 : decode b_HT_areLetters 0 = .ok (.iconst 0, 1) := by decide +kernel
theorem d_HT_areLetters_1 : decode b_HT_areLetters 1 = .ok (.istore_n 3, 1) := by decide +kernel
theorem d_HT_areLetters_2 : decode b_HT_areLetters 2 = .ok (.iload_n 3, 1) := by decide +kernel
theorem d_HT_areLetters_3 : decode b_HT_areLetters 3 = .ok (.iload_n 2, 1) := by decide +kernel
theorem d_HT_areLetters_4 : decode b_HT_areLetters 4 = .ok (.if_icmp .ge 22, 3) := by decide +kernel
theorem d_HT_areLetters_7 : decode b_HT_areLetters 7 = .ok (.lload_n 0, 1) := by decide +kernel
theorem d_HT_areLetters_8 : decode b_HT_areLetters 8 = .ok (.iload_n 3, 1) := by decide +kernel
theorem d_HT_areLetters_9 : decode b_HT_areLetters 9 = .ok (.invokestatic 224, 3) := by decide +kernel
theorem d_HT_areLetters_12 : decode b_HT_areLetters 12 = .ok (.invokestatic 227, 3) := by decide +kernel
theorem d_HT_areLetters_15 : decode b_HT_areLetters 15 = .ok (.ifCond .ne 5, 3) := by decide +kernel
theorem d_HT_areLetters_18 : decode b_HT_areLetters 18 = .ok (.iconst 0, 1) := by decide +kernel
theorem d_HT_areLetters_19 : decode b_HT_areLetters 19 = .ok (.ireturn, 1) := by decide +kernel
theorem d_HT_areLetters_20 : decode b_HT_areLetters 20 = .ok (.iinc 3 1, 3) := by decide +kernel
theorem d_HT_areLetters_23 : decode b_HT_areLetters 23 = .ok (.goto (-21), 3) := by decide +kernel
theorem d_HT_areLetters_26 : decode b_HT_areLetters 26 = .ok (.iconst 1, 1) := by decide +kernel
theorem d_HT_areLetters_27 : decode b_HT_areLetters 27 = .ok (.ireturn, 1) := by decide +kernel
noncomputable def f_HT_isOutside (x0 : Int32) (x1 : Int32) (x2 : Int32) : Option (Bool) :=
  (if x0 < x1 then
    (some (true))
   else
    (if x0 ≤ x2 then
      (some (false))
     else
      (some (true))
     )
   )
set_option maxHeartbeats 4000000 in
set_option maxRecDepth 100000 in
theorem k_HT_isOutside (l : Launch) (dC : Nat → ClassId) (dI : Nat → Nat → Nat)  (sz : Nat) (x0 : Int32) (x1 : Int32) (x2 : Int32) (res : Bool) (hf : f_HT_isOutside x0 x1 x2 = some res) : Met l y_HT_isOutside w_HT_isOutside ({ frames := 0, cells := 0, slots := 0, locals := 0 }) (cPc (dC, dI) [] [] sz [.int x0, .int x1, .int x2]) (va_Qi (fun (r : Int32) (u : Unit) => r = bI res) (fun (u : Unit) (t : State) => va_P (dC, dI) vwCl [] t.heap ∧ va_K (dC, dI) vwCl [] t ∧ va_D (va_A [] sz) []) (va_A [] sz)) 0 0 (va_A [] sz) := by
  refine Met.ofW (cc := b_HT_isOutside) (maxL := 3) (ret := (some .boolean)) (by decide) rfl ?_
  intro p e s m args below meth c s₁ B hml hv
  obtain ⟨rfl, hsz, hP, hK, hD0, hN⟩ := hv
  have hx := B.exec
  have hb := B.bytes
  have hr := B.returns
  have hts := atoms_spec (ws := w_HT_isOutside) B.pre
  have hown : s.vm.findClass "HazardTables" = some m.cls := findClass_of_methodNamed B.named
  have hlocks := B.notSynchronized
  subst hsz
  have hD := hD0.self (sz := s.heap.size)
  generalize hAe : va_A [] s.heap.size = A at hD ⊢
  have hA : ∀ q : Nat, s.heap.size ≤ q → A q := fun q h => by rw [← hAe]; exact Or.inr h
  have hS : va_S A s.heap s.heap [] := va_S.rf
  have hP : va_P (dC, dI) vwCl [] s.heap := hP
  have ret : ∀ (v : Bool) (u : Unit) (H : Heap) (locs : List Loc) (ls : Array Slot) (pc : Nat), decode b_HT_isOutside pc = .ok (.ireturn, 1) → (v = res) → va_P (dC, dI) vwCl [] H → va_D A [] → va_S A s.heap H locs → W p l e (headSpec w_HT_isOutside ({ frames := 0, cells := 0, slots := 0, locals := 0 })).room s m ([.int x0, .int x1, .int x2] : List Value).toArray below meth c H locs 0 0 (MQ below (va_Qi (fun (r : Int32) (u : Unit) => r = bI res) (fun (u : Unit) (t : State) => va_P (dC, dI) vwCl [] t.heap ∧ va_K (dC, dI) vwCl [] t ∧ va_D A []) A) ([.int x0, .int x1, .int x2] : List Value).toArray s 0 0 A) (F0 m pc ls [.int (bI v)]) := fun v u H locs ls pc hd hp hP hD hS => W.zret (v := bI v) (ty := .boolean) hx hb hr (nar_bI v) (fun t ht hW => ⟨⟨bI v, u, rfl, (by rw [hp]), by rw [ht]; exact hP, va_K.moved hW.alike hK, hD⟩, hS.F ht⟩) hS.2.2 hd
  generalize (MQ below (va_Qi (fun (r : Int32) (u : Unit) => r = bI res) (fun (u : Unit) (t : State) => va_P (dC, dI) vwCl [] t.heap ∧ va_K (dC, dI) vwCl [] t ∧ va_D A []) A) ([.int x0, .int x1, .int x2] : List Value).toArray s 0 0 A) = Q at ret ⊢
  have hl := lv_entry ([.int x0, .int x1, .int x2]) (n := 3) (Nat.le_of_ble_eq_true rfl)
  rw [lg_entry_eq]
  generalize (lg_sl ([.int x0, .int x1, .int x2]) ++ List.replicate (3 - (lg_sl ([.int x0, .int x1, .int x2])).length) Slot.unset).toArray = ls at hl ⊢
  have hl : lv_has ls 3 [(0, .int x0), (1, .int x1), (2, .int x2)] := hl
  have hf := hf
  rw [f_HT_isOutside] at hf
  obtain ⟨H, hH⟩ : ∃ H : Heap, H = s.heap := ⟨_, rfl⟩
  obtain ⟨locs, hlocs⟩ : ∃ L : List Loc, L = [] := ⟨_, rfl⟩
  have hP : va_P (dC, dI) vwCl [] H := by rw [hH]; exact hP
  have hS : va_S A s.heap H locs := by rw [hH, hlocs]; exact hS
  show W p l e (headSpec w_HT_isOutside ({ frames := 0, cells := 0, slots := 0, locals := 0 })).room s m ([.int x0, .int x1, .int x2] : List Value).toArray below meth c s.heap [] 0 0 Q (F0 m 0 ls [])
  suffices hgo : W p l e (headSpec w_HT_isOutside ({ frames := 0, cells := 0, slots := 0, locals := 0 })).room s m ([.int x0, .int x1, .int x2] : List Value).toArray below meth c H locs 0 0 Q (F0 m 0 ls []) by rw [hH, hlocs] at hgo; exact hgo
  clear hH hlocs
  refine lv_iload_n hx hb d_HT_isOutside_0 rfl (lv_at hl 0 rfl) ?_
  refine lv_iload_n hx hb d_HT_isOutside_1 rfl (lv_at hl 1 rfl) ?_
  refine lv_icmp_lt (tgt := 10) hx hb d_HT_isOutside_2 (by decide) (fun hc1 => ?_) (fun hc1 => ?_)
  · have hf := hf_t hf hc1
    refine lv_iconst (v := (1 : Int32)) hx hb d_HT_isOutside_10 (by decide) ?_
    refine lv_goto (tgt := 15) hx hb d_HT_isOutside_11 (by decide) ?_
    exact ret true () H locs ls 15 d_HT_isOutside_15 (Option.some.inj hf) hP hD hS
  · have hf := hf_f hf hc1
    refine lv_iload_n hx hb d_HT_isOutside_5 rfl (lv_at hl 0 rfl) ?_
    refine lv_iload_n hx hb d_HT_isOutside_6 rfl (lv_at hl 2 rfl) ?_
    refine lv_icmp_le (tgt := 14) hx hb d_HT_isOutside_7 (by decide) (fun hc2 => ?_) (fun hc2 => ?_)
    · have hf := hf_t hf hc2
      refine lv_iconst (v := (0 : Int32)) hx hb d_HT_isOutside_14 (by decide) ?_
      exact ret false () H locs ls 15 d_HT_isOutside_15 (Option.some.inj hf) hP hD hS
    · have hf := hf_f hf hc2
      refine lv_iconst (v := (1 : Int32)) hx hb d_HT_isOutside_10 (by decide) ?_
      refine lv_goto (tgt := 15) hx hb d_HT_isOutside_11 (by decide) ?_
      exact ret true () H locs ls 15 d_HT_isOutside_15 (Option.some.inj hf) hP hD hS
noncomputable def f_HT_isNoPoint (x0 : Int32) (x1 : Int32) : Option (Bool) :=
  (Option.bind (f_HT_isOutside x0 (-10000 : Int32) (10000 : Int32)) fun u1 =>
    (if (bI u1) = 0 then
      (Option.bind (f_HT_isOutside x1 (-10000 : Int32) (10000 : Int32)) fun u3 =>
        (if (bI u3) = 0 then
          (some (false))
         else
          (some (true))
         )
       )
     else
      (some (true))
     )
   )
set_option maxHeartbeats 4000000 in
set_option maxRecDepth 100000 in
theorem k_HT_isNoPoint (l : Launch) (dC : Nat → ClassId) (dI : Nat → Nat → Nat)  (sz : Nat) (x0 : Int32) (x1 : Int32) (res : Bool) (hf : f_HT_isNoPoint x0 x1 = some res) : Met l y_HT_isNoPoint w_HT_isNoPoint ({ frames := 1, cells := 0, slots := 0, locals := 22 }) (cPc (dC, dI) [] [] sz [.int x0, .int x1]) (va_Qi (fun (r : Int32) (u : Unit) => r = bI res) (fun (u : Unit) (t : State) => va_P (dC, dI) vwCl [] t.heap ∧ va_K (dC, dI) vwCl [] t ∧ va_D (va_A [] sz) []) (va_A [] sz)) 0 0 (va_A [] sz) := by
  refine Met.ofW (cc := b_HT_isNoPoint) (maxL := 2) (ret := (some .boolean)) (by decide) rfl ?_
  intro p e s m args below meth c s₁ B hml hv
  obtain ⟨rfl, hsz, hP, hK, hD0, hN⟩ := hv
  have hx := B.exec
  have hb := B.bytes
  have hr := B.returns
  have hts := atoms_spec (ws := w_HT_isNoPoint) B.pre
  have hown : s.vm.findClass "HazardTables" = some m.cls := findClass_of_methodNamed B.named
  have hlocks := B.notSynchronized
  subst hsz
  have hD := hD0.self (sz := s.heap.size)
  generalize hAe : va_A [] s.heap.size = A at hD ⊢
  have hA : ∀ q : Nat, s.heap.size ≤ q → A q := fun q h => by rw [← hAe]; exact Or.inr h
  have hS : va_S A s.heap s.heap [] := va_S.rf
  have hP : va_P (dC, dI) vwCl [] s.heap := hP
  have ret : ∀ (v : Bool) (u : Unit) (H : Heap) (locs : List Loc) (ls : Array Slot) (pc : Nat), decode b_HT_isNoPoint pc = .ok (.ireturn, 1) → (v = res) → va_P (dC, dI) vwCl [] H → va_D A [] → va_S A s.heap H locs → W p l e (headSpec w_HT_isNoPoint ({ frames := 1, cells := 0, slots := 0, locals := 22 })).room s m ([.int x0, .int x1] : List Value).toArray below meth c H locs 0 0 (MQ below (va_Qi (fun (r : Int32) (u : Unit) => r = bI res) (fun (u : Unit) (t : State) => va_P (dC, dI) vwCl [] t.heap ∧ va_K (dC, dI) vwCl [] t ∧ va_D A []) A) ([.int x0, .int x1] : List Value).toArray s 0 0 A) (F0 m pc ls [.int (bI v)]) := fun v u H locs ls pc hd hp hP hD hS => W.zret (v := bI v) (ty := .boolean) hx hb hr (nar_bI v) (fun t ht hW => ⟨⟨bI v, u, rfl, (by rw [hp]), by rw [ht]; exact hP, va_K.moved hW.alike hK, hD⟩, hS.F ht⟩) hS.2.2 hd
  generalize (MQ below (va_Qi (fun (r : Int32) (u : Unit) => r = bI res) (fun (u : Unit) (t : State) => va_P (dC, dI) vwCl [] t.heap ∧ va_K (dC, dI) vwCl [] t ∧ va_D A []) A) ([.int x0, .int x1] : List Value).toArray s 0 0 A) = Q at ret ⊢
  have hl := lv_entry ([.int x0, .int x1]) (n := 2) (Nat.le_of_ble_eq_true rfl)
  rw [lg_entry_eq]
  generalize (lg_sl ([.int x0, .int x1]) ++ List.replicate (2 - (lg_sl ([.int x0, .int x1])).length) Slot.unset).toArray = ls at hl ⊢
  have hl : lv_has ls 2 [(0, .int x0), (1, .int x1)] := hl
  have hf := hf
  rw [f_HT_isNoPoint] at hf
  obtain ⟨H, hH⟩ : ∃ H : Heap, H = s.heap := ⟨_, rfl⟩
  obtain ⟨locs, hlocs⟩ : ∃ L : List Loc, L = [] := ⟨_, rfl⟩
  have hP : va_P (dC, dI) vwCl [] H := by rw [hH]; exact hP
  have hS : va_S A s.heap H locs := by rw [hH, hlocs]; exact hS
  show W p l e (headSpec w_HT_isNoPoint ({ frames := 1, cells := 0, slots := 0, locals := 22 })).room s m ([.int x0, .int x1] : List Value).toArray below meth c s.heap [] 0 0 Q (F0 m 0 ls [])
  suffices hgo : W p l e (headSpec w_HT_isNoPoint ({ frames := 1, cells := 0, slots := 0, locals := 22 })).room s m ([.int x0, .int x1] : List Value).toArray below meth c H locs 0 0 Q (F0 m 0 ls []) by rw [hH, hlocs] at hgo; exact hgo
  clear hH hlocs
  refine lv_iload_n hx hb d_HT_isNoPoint_0 rfl (lv_at hl 0 rfl) ?_
  refine lv_sipush (v := (-10000 : Int32)) hx hb d_HT_isNoPoint_1 (by decide) ?_
  refine lv_sipush (v := (10000 : Int32)) hx hb d_HT_isNoPoint_4 (by decide) ?_
  obtain ⟨u1, hu1, hf⟩ := Option.bind_eq_some_iff.mp hf
  refine cl_i (wc := []) (wr := []) (tysC := []) (wu := fun (u : Unit) => []) (wn := fun (u : Unit) => []) [] [] [] [] hP hD hS hA hK rfl rfl (by decide +kernel) (by decide +kernel) (by decide +kernel) rfl (fun _ => rfl) (by decide +kernel) (fun hPc hKc hDc => (va_runS (As := [.int x0, .int (-10000 : Int32), .int (10000 : Int32)]) (rest := []) ⟨hx, hb, hml, hown, hts⟩ (k_HT_isOutside l dC dI  H.size x0 (-10000 : Int32) (10000 : Int32) u1 hu1) (cwS 3 hts (gS wd_575 wd_576 wd_43 wd_577) rfl rfl rfl (by decide +kernel) ⟨Nat.le_of_ble_eq_true rfl, Nat.le_of_ble_eq_true rfl⟩) (cl_preS hPc hKc hDc hN) rfl rfl hl.1 rfl (lv_room (Nat.le_of_ble_eq_true rfl)) d_HT_isNoPoint_7 ⟨Nat.le_of_ble_eq_true rfl, Nat.le_of_ble_eq_true rfl⟩)) (fun r u H locs hw hP hD hS => ?_)
  have hw := hw.symm
  subst hw
  have hP : va_P (dC, dI) vwCl [] H := hP
  have hD : va_D A [] := hD
  refine lv_if_ne (tgt := 26) hx hb d_HT_isNoPoint_10 (by decide) (fun hc2 => ?_) (fun hc2 => ?_)
  · have hf := hf_f hf hc2
    refine lv_iconst (v := (1 : Int32)) hx hb d_HT_isNoPoint_26 (by decide) ?_
    refine lv_goto (tgt := 31) hx hb d_HT_isNoPoint_27 (by decide) ?_
    exact ret true () H locs ls 31 d_HT_isNoPoint_31 (Option.some.inj hf) hP hD hS
  · have hf := hf_t hf hc2
    refine lv_iload_n hx hb d_HT_isNoPoint_13 rfl (lv_at hl 1 rfl) ?_
    refine lv_sipush (v := (-10000 : Int32)) hx hb d_HT_isNoPoint_14 (by decide) ?_
    refine lv_sipush (v := (10000 : Int32)) hx hb d_HT_isNoPoint_17 (by decide) ?_
    obtain ⟨u3, hu3, hf⟩ := Option.bind_eq_some_iff.mp hf
    refine cl_i (wc := []) (wr := []) (tysC := []) (wu := fun (u : Unit) => []) (wn := fun (u : Unit) => []) [] [] [] [] hP hD hS hA hK rfl rfl (by decide +kernel) (by decide +kernel) (by decide +kernel) rfl (fun _ => rfl) (by decide +kernel) (fun hPc hKc hDc => (va_runS (As := [.int x1, .int (-10000 : Int32), .int (10000 : Int32)]) (rest := []) ⟨hx, hb, hml, hown, hts⟩ (k_HT_isOutside l dC dI  H.size x1 (-10000 : Int32) (10000 : Int32) u3 hu3) (cwS 3 hts (gS wd_575 wd_576 wd_43 wd_577) rfl rfl rfl (by decide +kernel) ⟨Nat.le_of_ble_eq_true rfl, Nat.le_of_ble_eq_true rfl⟩) (cl_preS hPc hKc hDc hN) rfl rfl hl.1 rfl (lv_room (Nat.le_of_ble_eq_true rfl)) d_HT_isNoPoint_20 ⟨Nat.le_of_ble_eq_true rfl, Nat.le_of_ble_eq_true rfl⟩)) (fun r u H locs hw hP hD hS => ?_)
    have hw := hw.symm
    subst hw
    have hP : va_P (dC, dI) vwCl [] H := hP
    have hD : va_D A [] := hD
    refine lv_if_eq (tgt := 30) hx hb d_HT_isNoPoint_23 (by decide) (fun hc4 => ?_) (fun hc4 => ?_)
    · have hf := hf_t hf hc4
      refine lv_iconst (v := (0 : Int32)) hx hb d_HT_isNoPoint_30 (by decide) ?_
      exact ret false () H locs ls 31 d_HT_isNoPoint_31 (Option.some.inj hf) hP hD hS
    · have hf := hf_f hf hc4
      refine lv_iconst (v := (1 : Int32)) hx hb d_HT_isNoPoint_26 (by decide) ?_
      refine lv_goto (tgt := 31) hx hb d_HT_isNoPoint_27 (by decide) ?_
      exact ret true () H locs ls 31 d_HT_isNoPoint_31 (Option.some.inj hf) hP hD hS
noncomputable def f_HT_byteOf (x0 : Int64) (x2 : Int32) : Option (Int32) :=
  (some ((((x0.toUInt64 >>> (((8 : Int32) * x2).toInt64.toUInt64 &&& Int64.toUInt64 63)).toInt64).toInt32) &&& (255 : Int32)))
set_option maxHeartbeats 4000000 in
set_option maxRecDepth 100000 in
theorem k_HT_byteOf (l : Launch) (dC : Nat → ClassId) (dI : Nat → Nat → Nat)  (sz : Nat) (x0 : Int64) (x2 : Int32) (res : Int32) (hf : f_HT_byteOf x0 x2 = some res) : Met l y_HT_byteOf w_HT_byteOf ({ frames := 0, cells := 0, slots := 0, locals := 0 }) (cPc (dC, dI) [] [] sz [.long x0, .int x2]) (va_Qi (fun (r : Int32) (u : Unit) => r = res) (fun (u : Unit) (t : State) => va_P (dC, dI) vwCl [] t.heap ∧ va_K (dC, dI) vwCl [] t ∧ va_D (va_A [] sz) []) (va_A [] sz)) 0 0 (va_A [] sz) := by
  refine Met.ofW (cc := b_HT_byteOf) (maxL := 3) (ret := (some .int)) (by decide) rfl ?_
  intro p e s m args below meth c s₁ B hml hv
  obtain ⟨rfl, hsz, hP, hK, hD0, hN⟩ := hv
  have hx := B.exec
  have hb := B.bytes
  have hr := B.returns
  have hts := atoms_spec (ws := w_HT_byteOf) B.pre
  have hown : s.vm.findClass "HazardTables" = some m.cls := findClass_of_methodNamed B.named
  have hlocks := B.notSynchronized
  subst hsz
  have hD := hD0.self (sz := s.heap.size)
  generalize hAe : va_A [] s.heap.size = A at hD ⊢
  have hA : ∀ q : Nat, s.heap.size ≤ q → A q := fun q h => by rw [← hAe]; exact Or.inr h
  have hS : va_S A s.heap s.heap [] := va_S.rf
  have hP : va_P (dC, dI) vwCl [] s.heap := hP
  have ret : ∀ (v : Int32) (u : Unit) (H : Heap) (locs : List Loc) (ls : Array Slot) (pc : Nat), decode b_HT_byteOf pc = .ok (.ireturn, 1) → (v = res) → va_P (dC, dI) vwCl [] H → va_D A [] → va_S A s.heap H locs → W p l e (headSpec w_HT_byteOf ({ frames := 0, cells := 0, slots := 0, locals := 0 })).room s m ([.long x0, .int x2] : List Value).toArray below meth c H locs 0 0 (MQ below (va_Qi (fun (r : Int32) (u : Unit) => r = res) (fun (u : Unit) (t : State) => va_P (dC, dI) vwCl [] t.heap ∧ va_K (dC, dI) vwCl [] t ∧ va_D A []) A) ([.long x0, .int x2] : List Value).toArray s 0 0 A) (F0 m pc ls [.int v]) := fun v u H locs ls pc hd hp hP hD hS => W.iret (v := v) hx hb hr (fun t ht hW => ⟨⟨v, u, rfl, hp, by rw [ht]; exact hP, va_K.moved hW.alike hK, hD⟩, hS.F ht⟩) hS.2.2 hd
  generalize (MQ below (va_Qi (fun (r : Int32) (u : Unit) => r = res) (fun (u : Unit) (t : State) => va_P (dC, dI) vwCl [] t.heap ∧ va_K (dC, dI) vwCl [] t ∧ va_D A []) A) ([.long x0, .int x2] : List Value).toArray s 0 0 A) = Q at ret ⊢
  have hl := lv_entry ([.long x0, .int x2]) (n := 3) (Nat.le_of_ble_eq_true rfl)
  rw [lg_entry_eq]
  generalize (lg_sl ([.long x0, .int x2]) ++ List.replicate (3 - (lg_sl ([.long x0, .int x2])).length) Slot.unset).toArray = ls at hl ⊢
  have hl : lv_has ls 3 [(0, .long x0), (2, .int x2)] := hl
  have hf := hf
  rw [f_HT_byteOf] at hf
  obtain ⟨H, hH⟩ : ∃ H : Heap, H = s.heap := ⟨_, rfl⟩
  obtain ⟨locs, hlocs⟩ : ∃ L : List Loc, L = [] := ⟨_, rfl⟩
  have hP : va_P (dC, dI) vwCl [] H := by rw [hH]; exact hP
  have hS : va_S A s.heap H locs := by rw [hH, hlocs]; exact hS
  show W p l e (headSpec w_HT_byteOf ({ frames := 0, cells := 0, slots := 0, locals := 0 })).room s m ([.long x0, .int x2] : List Value).toArray below meth c s.heap [] 0 0 Q (F0 m 0 ls [])
  suffices hgo : W p l e (headSpec w_HT_byteOf ({ frames := 0, cells := 0, slots := 0, locals := 0 })).room s m ([.long x0, .int x2] : List Value).toArray below meth c H locs 0 0 Q (F0 m 0 ls []) by rw [hH, hlocs] at hgo; exact hgo
  clear hH hlocs
  refine lv_lload_n hx hb d_HT_byteOf_0 rfl (lv_at hl 0 rfl) ?_
  refine lv_bipush (v := (8 : Int32)) hx hb d_HT_byteOf_1 (by decide) ?_
  refine lv_iload_n hx hb d_HT_byteOf_3 rfl (lv_at hl 1 rfl) ?_
  refine lv_imul hx hb d_HT_byteOf_4 ?_
  refine lv_lushr (v := (x0.toUInt64 >>> (((8 : Int32) * x2).toInt64.toUInt64 &&& Int64.toUInt64 63)).toInt64) hx hb d_HT_byteOf_5 rfl ?_
  refine lv_l2i (v := ((x0.toUInt64 >>> (((8 : Int32) * x2).toInt64.toUInt64 &&& Int64.toUInt64 63)).toInt64).toInt32) hx hb d_HT_byteOf_6 rfl ?_
  refine lv_sipush (v := (255 : Int32)) hx hb d_HT_byteOf_7 (by decide) ?_
  refine lv_iand hx hb d_HT_byteOf_10 ?_
  exact ret ((((x0.toUInt64 >>> (((8 : Int32) * x2).toInt64.toUInt64 &&& Int64.toUInt64 63)).toInt64).toInt32) &&& (255 : Int32)) () H locs ls 11 d_HT_byteOf_11 (Option.some.inj hf) hP hD hS
noncomputable def f_HT_isLetter (x0 : Int32) : Option (Bool) :=
  (if x0 < (97 : Int32) then
    (some (false))
   else
    (if (122 : Int32) < x0 then
      (some (false))
     else
      (some (true))
     )
   )
set_option maxHeartbeats 4000000 in
set_option maxRecDepth 100000 in
theorem k_HT_isLetter (l : Launch) (dC : Nat → ClassId) (dI : Nat → Nat → Nat)  (sz : Nat) (x0 : Int32) (res : Bool) (hf : f_HT_isLetter x0 = some res) : Met l y_HT_isLetter w_HT_isLetter ({ frames := 0, cells := 0, slots := 0, locals := 0 }) (cPc (dC, dI) [] [] sz [.int x0]) (va_Qi (fun (r : Int32) (u : Unit) => r = bI res) (fun (u : Unit) (t : State) => va_P (dC, dI) vwCl [] t.heap ∧ va_K (dC, dI) vwCl [] t ∧ va_D (va_A [] sz) []) (va_A [] sz)) 0 0 (va_A [] sz) := by
  refine Met.ofW (cc := b_HT_isLetter) (maxL := 1) (ret := (some .boolean)) (by decide) rfl ?_
  intro p e s m args below meth c s₁ B hml hv
  obtain ⟨rfl, hsz, hP, hK, hD0, hN⟩ := hv
  have hx := B.exec
  have hb := B.bytes
  have hr := B.returns
  have hts := atoms_spec (ws := w_HT_isLetter) B.pre
  have hown : s.vm.findClass "HazardTables" = some m.cls := findClass_of_methodNamed B.named
  have hlocks := B.notSynchronized
  subst hsz
  have hD := hD0.self (sz := s.heap.size)
  generalize hAe : va_A [] s.heap.size = A at hD ⊢
  have hA : ∀ q : Nat, s.heap.size ≤ q → A q := fun q h => by rw [← hAe]; exact Or.inr h
  have hS : va_S A s.heap s.heap [] := va_S.rf
  have hP : va_P (dC, dI) vwCl [] s.heap := hP
  have ret : ∀ (v : Bool) (u : Unit) (H : Heap) (locs : List Loc) (ls : Array Slot) (pc : Nat), decode b_HT_isLetter pc = .ok (.ireturn, 1) → (v = res) → va_P (dC, dI) vwCl [] H → va_D A [] → va_S A s.heap H locs → W p l e (headSpec w_HT_isLetter ({ frames := 0, cells := 0, slots := 0, locals := 0 })).room s m ([.int x0] : List Value).toArray below meth c H locs 0 0 (MQ below (va_Qi (fun (r : Int32) (u : Unit) => r = bI res) (fun (u : Unit) (t : State) => va_P (dC, dI) vwCl [] t.heap ∧ va_K (dC, dI) vwCl [] t ∧ va_D A []) A) ([.int x0] : List Value).toArray s 0 0 A) (F0 m pc ls [.int (bI v)]) := fun v u H locs ls pc hd hp hP hD hS => W.zret (v := bI v) (ty := .boolean) hx hb hr (nar_bI v) (fun t ht hW => ⟨⟨bI v, u, rfl, (by rw [hp]), by rw [ht]; exact hP, va_K.moved hW.alike hK, hD⟩, hS.F ht⟩) hS.2.2 hd
  generalize (MQ below (va_Qi (fun (r : Int32) (u : Unit) => r = bI res) (fun (u : Unit) (t : State) => va_P (dC, dI) vwCl [] t.heap ∧ va_K (dC, dI) vwCl [] t ∧ va_D A []) A) ([.int x0] : List Value).toArray s 0 0 A) = Q at ret ⊢
  have hl := lv_entry ([.int x0]) (n := 1) (Nat.le_of_ble_eq_true rfl)
  rw [lg_entry_eq]
  generalize (lg_sl ([.int x0]) ++ List.replicate (1 - (lg_sl ([.int x0])).length) Slot.unset).toArray = ls at hl ⊢
  have hl : lv_has ls 1 [(0, .int x0)] := hl
  have hf := hf
  rw [f_HT_isLetter] at hf
  obtain ⟨H, hH⟩ : ∃ H : Heap, H = s.heap := ⟨_, rfl⟩
  obtain ⟨locs, hlocs⟩ : ∃ L : List Loc, L = [] := ⟨_, rfl⟩
  have hP : va_P (dC, dI) vwCl [] H := by rw [hH]; exact hP
  have hS : va_S A s.heap H locs := by rw [hH, hlocs]; exact hS
  show W p l e (headSpec w_HT_isLetter ({ frames := 0, cells := 0, slots := 0, locals := 0 })).room s m ([.int x0] : List Value).toArray below meth c s.heap [] 0 0 Q (F0 m 0 ls [])
  suffices hgo : W p l e (headSpec w_HT_isLetter ({ frames := 0, cells := 0, slots := 0, locals := 0 })).room s m ([.int x0] : List Value).toArray below meth c H locs 0 0 Q (F0 m 0 ls []) by rw [hH, hlocs] at hgo; exact hgo
  clear hH hlocs
  refine lv_iload_n hx hb d_HT_isLetter_0 rfl (lv_at hl 0 rfl) ?_
  refine lv_bipush (v := (97 : Int32)) hx hb d_HT_isLetter_1 (by decide) ?_
  refine lv_icmp_lt (tgt := 16) hx hb d_HT_isLetter_3 (by decide) (fun hc1 => ?_) (fun hc1 => ?_)
  · have hf := hf_t hf hc1
    refine lv_iconst (v := (0 : Int32)) hx hb d_HT_isLetter_16 (by decide) ?_
    exact ret false () H locs ls 17 d_HT_isLetter_17 (Option.some.inj hf) hP hD hS
  · have hf := hf_f hf hc1
    refine lv_iload_n hx hb d_HT_isLetter_6 rfl (lv_at hl 0 rfl) ?_
    refine lv_bipush (v := (122 : Int32)) hx hb d_HT_isLetter_7 (by decide) ?_
    refine lv_icmp_gt (tgt := 16) hx hb d_HT_isLetter_9 (by decide) (fun hc2 => ?_) (fun hc2 => ?_)
    · have hf := hf_t hf hc2
      refine lv_iconst (v := (0 : Int32)) hx hb d_HT_isLetter_16 (by decide) ?_
      exact ret false () H locs ls 17 d_HT_isLetter_17 (Option.some.inj hf) hP hD hS
    · have hf := hf_f hf hc2
      refine lv_iconst (v := (1 : Int32)) hx hb d_HT_isLetter_12 (by decide) ?_
      refine lv_goto (tgt := 17) hx hb d_HT_isLetter_13 (by decide) ?_
      exact ret true () H locs ls 17 d_HT_isLetter_17 (Option.some.inj hf) hP hD hS
noncomputable def f_HT_isDigit (x0 : Int32) : Option (Bool) :=
  (if x0 < (48 : Int32) then
    (some (false))
   else
    (if (57 : Int32) < x0 then
      (some (false))
     else
      (some (true))
     )
   )
set_option maxHeartbeats 4000000 in
set_option maxRecDepth 100000 in
theorem k_HT_isDigit (l : Launch) (dC : Nat → ClassId) (dI : Nat → Nat → Nat)  (sz : Nat) (x0 : Int32) (res : Bool) (hf : f_HT_isDigit x0 = some res) : Met l y_HT_isDigit w_HT_isDigit ({ frames := 0, cells := 0, slots := 0, locals := 0 }) (cPc (dC, dI) [] [] sz [.int x0]) (va_Qi (fun (r : Int32) (u : Unit) => r = bI res) (fun (u : Unit) (t : State) => va_P (dC, dI) vwCl [] t.heap ∧ va_K (dC, dI) vwCl [] t ∧ va_D (va_A [] sz) []) (va_A [] sz)) 0 0 (va_A [] sz) := by
  refine Met.ofW (cc := b_HT_isDigit) (maxL := 1) (ret := (some .boolean)) (by decide) rfl ?_
  intro p e s m args below meth c s₁ B hml hv
  obtain ⟨rfl, hsz, hP, hK, hD0, hN⟩ := hv
  have hx := B.exec
  have hb := B.bytes
  have hr := B.returns
  have hts := atoms_spec (ws := w_HT_isDigit) B.pre
  have hown : s.vm.findClass "HazardTables" = some m.cls := findClass_of_methodNamed B.named
  have hlocks := B.notSynchronized
  subst hsz
  have hD := hD0.self (sz := s.heap.size)
  generalize hAe : va_A [] s.heap.size = A at hD ⊢
  have hA : ∀ q : Nat, s.heap.size ≤ q → A q := fun q h => by rw [← hAe]; exact Or.inr h
  have hS : va_S A s.heap s.heap [] := va_S.rf
  have hP : va_P (dC, dI) vwCl [] s.heap := hP
  have ret : ∀ (v : Bool) (u : Unit) (H : Heap) (locs : List Loc) (ls : Array Slot) (pc : Nat), decode b_HT_isDigit pc = .ok (.ireturn, 1) → (v = res) → va_P (dC, dI) vwCl [] H → va_D A [] → va_S A s.heap H locs → W p l e (headSpec w_HT_isDigit ({ frames := 0, cells := 0, slots := 0, locals := 0 })).room s m ([.int x0] : List Value).toArray below meth c H locs 0 0 (MQ below (va_Qi (fun (r : Int32) (u : Unit) => r = bI res) (fun (u : Unit) (t : State) => va_P (dC, dI) vwCl [] t.heap ∧ va_K (dC, dI) vwCl [] t ∧ va_D A []) A) ([.int x0] : List Value).toArray s 0 0 A) (F0 m pc ls [.int (bI v)]) := fun v u H locs ls pc hd hp hP hD hS => W.zret (v := bI v) (ty := .boolean) hx hb hr (nar_bI v) (fun t ht hW => ⟨⟨bI v, u, rfl, (by rw [hp]), by rw [ht]; exact hP, va_K.moved hW.alike hK, hD⟩, hS.F ht⟩) hS.2.2 hd
  generalize (MQ below (va_Qi (fun (r : Int32) (u : Unit) => r = bI res) (fun (u : Unit) (t : State) => va_P (dC, dI) vwCl [] t.heap ∧ va_K (dC, dI) vwCl [] t ∧ va_D A []) A) ([.int x0] : List Value).toArray s 0 0 A) = Q at ret ⊢
  have hl := lv_entry ([.int x0]) (n := 1) (Nat.le_of_ble_eq_true rfl)
  rw [lg_entry_eq]
  generalize (lg_sl ([.int x0]) ++ List.replicate (1 - (lg_sl ([.int x0])).length) Slot.unset).toArray = ls at hl ⊢
  have hl : lv_has ls 1 [(0, .int x0)] := hl
  have hf := hf
  rw [f_HT_isDigit] at hf
  obtain ⟨H, hH⟩ : ∃ H : Heap, H = s.heap := ⟨_, rfl⟩
  obtain ⟨locs, hlocs⟩ : ∃ L : List Loc, L = [] := ⟨_, rfl⟩
  have hP : va_P (dC, dI) vwCl [] H := by rw [hH]; exact hP
  have hS : va_S A s.heap H locs := by rw [hH, hlocs]; exact hS
  show W p l e (headSpec w_HT_isDigit ({ frames := 0, cells := 0, slots := 0, locals := 0 })).room s m ([.int x0] : List Value).toArray below meth c s.heap [] 0 0 Q (F0 m 0 ls [])
  suffices hgo : W p l e (headSpec w_HT_isDigit ({ frames := 0, cells := 0, slots := 0, locals := 0 })).room s m ([.int x0] : List Value).toArray below meth c H locs 0 0 Q (F0 m 0 ls []) by rw [hH, hlocs] at hgo; exact hgo
  clear hH hlocs
  refine lv_iload_n hx hb d_HT_isDigit_0 rfl (lv_at hl 0 rfl) ?_
  refine lv_bipush (v := (48 : Int32)) hx hb d_HT_isDigit_1 (by decide) ?_
  refine lv_icmp_lt (tgt := 16) hx hb d_HT_isDigit_3 (by decide) (fun hc1 => ?_) (fun hc1 => ?_)
  · have hf := hf_t hf hc1
    refine lv_iconst (v := (0 : Int32)) hx hb d_HT_isDigit_16 (by decide) ?_
    exact ret false () H locs ls 17 d_HT_isDigit_17 (Option.some.inj hf) hP hD hS
  · have hf := hf_f hf hc1
    refine lv_iload_n hx hb d_HT_isDigit_6 rfl (lv_at hl 0 rfl) ?_
    refine lv_bipush (v := (57 : Int32)) hx hb d_HT_isDigit_7 (by decide) ?_
    refine lv_icmp_gt (tgt := 16) hx hb d_HT_isDigit_9 (by decide) (fun hc2 => ?_) (fun hc2 => ?_)
    · have hf := hf_t hf hc2
      refine lv_iconst (v := (0 : Int32)) hx hb d_HT_isDigit_16 (by decide) ?_
      exact ret false () H locs ls 17 d_HT_isDigit_17 (Option.some.inj hf) hP hD hS
    · have hf := hf_f hf hc2
      refine lv_iconst (v := (1 : Int32)) hx hb d_HT_isDigit_12 (by decide) ?_
      refine lv_goto (tgt := 17) hx hb d_HT_isDigit_13 (by decide) ?_
      exact ret true () H locs ls 17 d_HT_isDigit_17 (Option.some.inj hf) hP hD hS
noncomputable def f_HT_areLetters_2  : Nat → Int64 → Int32 → Int32 → Option (Bool)
  | 0, _, _, _ => none
  | n + 1, y0, y2, y3 =>
    (if y2 ≤ y3 then
      (some (true))
     else
      (Option.bind (f_HT_byteOf y0 y3) fun u2 =>
        (Option.bind (f_HT_isLetter u2) fun u3 =>
          (if (bI u3) = 0 then
            (some (false))
           else
            (f_HT_areLetters_2 n y0 y2 (y3 + (1 : Int32)))
           )
         )
       )
     )
noncomputable def f_HT_areLetters (x0 : Int64) (x2 : Int32) : Option (Bool) :=
  (f_HT_areLetters_2 4096 x0 x2 (0 : Int32))
set_option maxHeartbeats 4000000 in
set_option maxRecDepth 100000 in
theorem k_HT_areLetters (l : Launch) (dC : Nat → ClassId) (dI : Nat → Nat → Nat)  (sz : Nat) (x0 : Int64) (x2 : Int32) (res : Bool) (hf : f_HT_areLetters x0 x2 = some res) : Met l y_HT_areLetters w_HT_areLetters ({ frames := 1, cells := 0, slots := 0, locals := 22 }) (cPc (dC, dI) [] [] sz [.long x0, .int x2]) (va_Qi (fun (r : Int32) (u : Unit) => r = bI res) (fun (u : Unit) (t : State) => va_P (dC, dI) vwCl [] t.heap ∧ va_K (dC, dI) vwCl [] t ∧ va_D (va_A [] sz) []) (va_A [] sz)) 0 0 (va_A [] sz) := by
  refine Met.ofW (cc := b_HT_areLetters) (maxL := 4) (ret := (some .boolean)) (by decide) rfl ?_
  intro p e s m args below meth c s₁ B hml hv
  obtain ⟨rfl, hsz, hP, hK, hD0, hN⟩ := hv
  have hx := B.exec
  have hb := B.bytes
  have hr := B.returns
  have hts := atoms_spec (ws := w_HT_areLetters) B.pre
  have hown : s.vm.findClass "HazardTables" = some m.cls := findClass_of_methodNamed B.named
  have hlocks := B.notSynchronized
  subst hsz
  have hD := hD0.self (sz := s.heap.size)
  generalize hAe : va_A [] s.heap.size = A at hD ⊢
  have hA : ∀ q : Nat, s.heap.size ≤ q → A q := fun q h => by rw [← hAe]; exact Or.inr h
  have hS : va_S A s.heap s.heap [] := va_S.rf
  have hP : va_P (dC, dI) vwCl [] s.heap := hP
  have ret : ∀ (v : Bool) (u : Unit) (H : Heap) (locs : List Loc) (ls : Array Slot) (pc : Nat), decode b_HT_areLetters pc = .ok (.ireturn, 1) → (v = res) → va_P (dC, dI) vwCl [] H → va_D A [] → va_S A s.heap H locs → W p l e (headSpec w_HT_areLetters ({ frames := 1, cells := 0, slots := 0, locals := 22 })).room s m ([.long x0, .int x2] : List Value).toArray below meth c H locs 0 0 (MQ below (va_Qi (fun (r : Int32) (u : Unit) => r = bI res) (fun (u : Unit) (t : State) => va_P (dC, dI) vwCl [] t.heap ∧ va_K (dC, dI) vwCl [] t ∧ va_D A []) A) ([.long x0, .int x2] : List Value).toArray s 0 0 A) (F0 m pc ls [.int (bI v)]) := fun v u H locs ls pc hd hp hP hD hS => W.zret (v := bI v) (ty := .boolean) hx hb hr (nar_bI v) (fun t ht hW => ⟨⟨bI v, u, rfl, (by rw [hp]), by rw [ht]; exact hP, va_K.moved hW.alike hK, hD⟩, hS.F ht⟩) hS.2.2 hd
  generalize (MQ below (va_Qi (fun (r : Int32) (u : Unit) => r = bI res) (fun (u : Unit) (t : State) => va_P (dC, dI) vwCl [] t.heap ∧ va_K (dC, dI) vwCl [] t ∧ va_D A []) A) ([.long x0, .int x2] : List Value).toArray s 0 0 A) = Q at ret ⊢
  have w_2 : ∀ (n : Nat)  (y0 : Int64) (y2 : Int32) (y3 : Int32) (H : Heap) (locs : List Loc) (ls : Array Slot), f_HT_areLetters_2 n y0 y2 y3 = some res → va_P (dC, dI) vwCl [] H → va_D A [] → va_S A s.heap H locs → lv_has ls 4 [(0, .long y0), (2, .int y2), (3, .int y3)] → W p l e (headSpec w_HT_areLetters ({ frames := 1, cells := 0, slots := 0, locals := 22 })).room s m ([.long x0, .int x2] : List Value).toArray below meth c H locs 0 0 Q (F0 m 2 ls []) := by
    intro n
    induction n with
    | zero =>
      intro y0 y2 y3 H locs ls hf hP hD hS hl
      rw [f_HT_areLetters_2] at hf; cases hf
    | succ n ih =>
      intro y0 y2 y3 H locs ls hf hP hD hS hl
      rw [f_HT_areLetters_2] at hf
      refine lv_iload_n hx hb d_HT_areLetters_2 rfl (lv_at hl 2 rfl) ?_
      refine lv_iload_n hx hb d_HT_areLetters_3 rfl (lv_at hl 1 rfl) ?_
      refine lv_icmp_ge (tgt := 26) hx hb d_HT_areLetters_4 (by decide) (fun hc1 => ?_) (fun hc1 => ?_)
      · have hf := hf_t hf hc1
        refine lv_iconst (v := (1 : Int32)) hx hb d_HT_areLetters_26 (by decide) ?_
        exact ret true () H locs ls 27 d_HT_areLetters_27 (Option.some.inj hf) hP hD hS
      · have hf := hf_f hf hc1
        refine lv_lload_n hx hb d_HT_areLetters_7 rfl (lv_at hl 0 rfl) ?_
        refine lv_iload_n hx hb d_HT_areLetters_8 rfl (lv_at hl 2 rfl) ?_
        obtain ⟨u2, hu2, hf⟩ := Option.bind_eq_some_iff.mp hf
        refine cl_i (wc := []) (wr := []) (tysC := []) (wu := fun (u : Unit) => []) (wn := fun (u : Unit) => []) [] [] [] [] hP hD hS hA hK rfl rfl (by decide +kernel) (by decide +kernel) (by decide +kernel) rfl (fun _ => rfl) (by decide +kernel) (fun hPc hKc hDc => (va_runS (As := [.long y0, .int y3]) (rest := []) ⟨hx, hb, hml, hown, hts⟩ (k_HT_byteOf l dC dI  H.size y0 y3 u2 hu2) (cwS 2 hts (gS wd_510 wd_340 wd_43 wd_341) rfl rfl rfl (by decide +kernel) ⟨Nat.le_of_ble_eq_true rfl, Nat.le_of_ble_eq_true rfl⟩) (cl_preS hPc hKc hDc hN) rfl rfl hl.1 rfl (lv_room (Nat.le_of_ble_eq_true rfl)) d_HT_areLetters_9 ⟨Nat.le_of_ble_eq_true rfl, Nat.le_of_ble_eq_true rfl⟩)) (fun r u H locs hw hP hD hS => ?_)
        have hw := hw.symm
        subst hw
        have hP : va_P (dC, dI) vwCl [] H := hP
        have hD : va_D A [] := hD
        obtain ⟨u3, hu3, hf⟩ := Option.bind_eq_some_iff.mp hf
        refine cl_i (wc := []) (wr := []) (tysC := []) (wu := fun (u : Unit) => []) (wn := fun (u : Unit) => []) [] [] [] [] hP hD hS hA hK rfl rfl (by decide +kernel) (by decide +kernel) (by decide +kernel) rfl (fun _ => rfl) (by decide +kernel) (fun hPc hKc hDc => (va_runS (As := [.int u2]) (rest := []) ⟨hx, hb, hml, hown, hts⟩ (k_HT_isLetter l dC dI  H.size u2 u3 hu3) (cwS 1 hts (gS wd_511 wd_411 wd_43 wd_412) rfl rfl rfl (by decide +kernel) ⟨Nat.le_of_ble_eq_true rfl, Nat.le_of_ble_eq_true rfl⟩) (cl_preS hPc hKc hDc hN) rfl rfl hl.1 rfl (lv_room (Nat.le_of_ble_eq_true rfl)) d_HT_areLetters_12 ⟨Nat.le_of_ble_eq_true rfl, Nat.le_of_ble_eq_true rfl⟩)) (fun r u H locs hw hP hD hS => ?_)
        have hw := hw.symm
        subst hw
        have hP : va_P (dC, dI) vwCl [] H := hP
        have hD : va_D A [] := hD
        refine lv_if_ne (tgt := 20) hx hb d_HT_areLetters_15 (by decide) (fun hc4 => ?_) (fun hc4 => ?_)
        · have hf := hf_f hf hc4
          refine lv_iinc (v := y3 + (1 : Int32)) (lv' := [(3, .int (y3 + (1 : Int32))), (0, .long y0), (2, .int y2)]) hx hb d_HT_areLetters_20 hl (k := 2) rfl rfl (by decide) rfl (fun ls hl => ?_)
          refine lv_goto (tgt := 2) hx hb d_HT_areLetters_23 (by decide) ?_
          exact ih y0 y2 (y3 + (1 : Int32)) H locs ls hf hP hD hS (lv_sub hl [1, 2, 0] rfl)
        · have hf := hf_t hf hc4
          refine lv_iconst (v := (0 : Int32)) hx hb d_HT_areLetters_18 (by decide) ?_
          exact ret false () H locs ls 19 d_HT_areLetters_19 (Option.some.inj hf) hP hD hS
  have hl := lv_entry ([.long x0, .int x2]) (n := 4) (Nat.le_of_ble_eq_true rfl)
  rw [lg_entry_eq]
  generalize (lg_sl ([.long x0, .int x2]) ++ List.replicate (4 - (lg_sl ([.long x0, .int x2])).length) Slot.unset).toArray = ls at hl ⊢
  have hl : lv_has ls 4 [(0, .long x0), (2, .int x2)] := hl
  have hf := hf
  rw [f_HT_areLetters] at hf
  obtain ⟨H, hH⟩ : ∃ H : Heap, H = s.heap := ⟨_, rfl⟩
  obtain ⟨locs, hlocs⟩ : ∃ L : List Loc, L = [] := ⟨_, rfl⟩
  have hP : va_P (dC, dI) vwCl [] H := by rw [hH]; exact hP
  have hS : va_S A s.heap H locs := by rw [hH, hlocs]; exact hS
  show W p l e (headSpec w_HT_areLetters ({ frames := 1, cells := 0, slots := 0, locals := 22 })).room s m ([.long x0, .int x2] : List Value).toArray below meth c s.heap [] 0 0 Q (F0 m 0 ls [])
  suffices hgo : W p l e (headSpec w_HT_areLetters ({ frames := 1, cells := 0, slots := 0, locals := 22 })).room s m ([.long x0, .int x2] : List Value).toArray below meth c H locs 0 0 Q (F0 m 0 ls []) by rw [hH, hlocs] at hgo; exact hgo
  clear hH hlocs
  refine lv_iconst (v := (0 : Int32)) hx hb d_HT_areLetters_0 (by decide) ?_
  refine lv_istore_n (lv' := [(3, .int (0 : Int32)), (0, .long x0), (2, .int x2)]) hx hb d_HT_areLetters_1 rfl hl (by decide) rfl (fun ls hl => ?_)
  exact w_2 4096 x0 x2 (0 : Int32) H locs ls hf hP hD hS (lv_sub hl [1, 2, 0] rfl)
