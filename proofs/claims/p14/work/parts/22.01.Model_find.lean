noncomputable def f_Model_find_2  : Nat → SModel → Int32 → Int32 → Option (Int32)
  | 0, _, _, _ => none
  | n + 1, md, y1, y2 =>
    (if md.2.2.2.1.1 ≤ y2 then
      (some ((-1 : Int32)))
     else
      (if inb ((y2 * (43 : Int32)) + (0 : Int32)) 559 then
        (if (md.2.2.2.1.2.2 ((y2 * (43 : Int32)) + (0 : Int32)).toNatClampNeg) = y1 then
          (some (y2))
         else
          (f_Model_find_2 n md y1 (y2 + (1 : Int32)))
         )
       else none)
     )
noncomputable def f_Model_find (md : SModel) (x1 : Int32) : Option (Int32) :=
  (f_Model_find_2 4096 md x1 (0 : Int32))
set_option maxHeartbeats 4000000 in
set_option maxRecDepth 100000 in
theorem k_Model_find (l : Launch) (dC : Nat → ClassId) (dI : Nat → Nat → Nat) (ad_md : Nat → Nat) (cA_md : Nat → ClassId) (sz : Nat) (md : SModel) (x1 : Int32) (res : Int32) (hf : f_Model_find md x1 = some res) : Met l y_Model_find w_Model_find ({ frames := 0, cells := 0, slots := 0, locals := 0 }) (cPc (dC, dI) (uw_Model ad_md cA_md md) [(cA_md 1, .int), (cA_md 2, .int), (cA_md 3, .int), (cA_md 4, .int), (cA_md 5, .int), (cA_md 6, .int), (cA_md 7, .int), (cA_md 8, .int), (cA_md 9, .boolean), (cA_md 10, .int), (cA_md 11, .int), (cA_md 12, .int), (cA_md 13, .int)] sz [.ref (ad_md 0), .int x1]) (va_Qi (fun (r : Int32) (u : Unit) => r = res) (fun (u : Unit) (t : State) => va_P (dC, dI) vwCl (uw_Model ad_md cA_md md) t.heap ∧ va_K (dC, dI) vwCl [(cA_md 1, .int), (cA_md 2, .int), (cA_md 3, .int), (cA_md 4, .int), (cA_md 5, .int), (cA_md 6, .int), (cA_md 7, .int), (cA_md 8, .int), (cA_md 9, .boolean), (cA_md 10, .int), (cA_md 11, .int), (cA_md 12, .int), (cA_md 13, .int)] t ∧ va_D (va_A (uw_Model ad_md cA_md md) sz) (uw_Model ad_md cA_md md)) (va_A (uw_Model ad_md cA_md md) sz)) 0 0 (va_A (uw_Model ad_md cA_md md) sz) := by
  refine Met.ofW (cc := b_Model_find) (maxL := 3) (ret := (some .int)) (by decide) rfl ?_
  intro p e s m args below meth c s₁ B hml hv
  obtain ⟨rfl, hsz, hP, hK, hD0, hN⟩ := hv
  have hx := B.exec
  have hb := B.bytes
  have hr := B.returns
  have hts := atoms_spec (ws := w_Model_find) B.pre
  have hown : s.vm.findClass "HazardTablesModel" = some m.cls := findClass_of_methodNamed B.named
  have hlocks := B.notSynchronized
  subst hsz
  have hD := hD0.self (sz := s.heap.size)
  generalize hAe : va_A (uw_Model ad_md cA_md md) s.heap.size = A at hD ⊢
  have hA : ∀ q : Nat, s.heap.size ≤ q → A q := fun q h => by rw [← hAe]; exact Or.inr h
  have hS : va_S A s.heap s.heap [] := va_S.rf
  have hP : va_P (dC, dI) vwCl (uw_Model ad_md cA_md md) s.heap := hP
  have fl_128 := (hts _ (List.mem_cons_of_mem _ wd_752))
  have fl_17 := (hts _ (List.mem_cons_of_mem _ wd_754))
  have hin_Model : ∀ w ∈ u_ws "HazardTablesModel" F_Model 30, w ∈ w_Model_find := fun w h => List.mem_cons_of_mem _ (hinA_Model w h)
  have ret : ∀ (v : Int32) (u : Unit) (H : Heap) (locs : List Loc) (ls : Array Slot) (pc : Nat), decode b_Model_find pc = .ok (.ireturn, 1) → (v = res) → va_P (dC, dI) vwCl (uw_Model ad_md cA_md md) H → va_D A (uw_Model ad_md cA_md md) → va_S A s.heap H locs → W p l e (headSpec w_Model_find ({ frames := 0, cells := 0, slots := 0, locals := 0 })).room s m ([.ref (ad_md 0), .int x1] : List Value).toArray below meth c H locs 0 0 (MQ below (va_Qi (fun (r : Int32) (u : Unit) => r = res) (fun (u : Unit) (t : State) => va_P (dC, dI) vwCl (uw_Model ad_md cA_md md) t.heap ∧ va_K (dC, dI) vwCl [(cA_md 1, .int), (cA_md 2, .int), (cA_md 3, .int), (cA_md 4, .int), (cA_md 5, .int), (cA_md 6, .int), (cA_md 7, .int), (cA_md 8, .int), (cA_md 9, .boolean), (cA_md 10, .int), (cA_md 11, .int), (cA_md 12, .int), (cA_md 13, .int)] t ∧ va_D A (uw_Model ad_md cA_md md)) A) ([.ref (ad_md 0), .int x1] : List Value).toArray s 0 0 A) (F0 m pc ls [.int v]) := fun v u H locs ls pc hd hp hP hD hS => W.iret (v := v) hx hb hr (fun t ht hW => ⟨⟨v, u, rfl, hp, by rw [ht]; exact hP, va_K.moved hW.alike hK, hD⟩, hS.F ht⟩) hS.2.2 hd
  generalize (MQ below (va_Qi (fun (r : Int32) (u : Unit) => r = res) (fun (u : Unit) (t : State) => va_P (dC, dI) vwCl (uw_Model ad_md cA_md md) t.heap ∧ va_K (dC, dI) vwCl [(cA_md 1, .int), (cA_md 2, .int), (cA_md 3, .int), (cA_md 4, .int), (cA_md 5, .int), (cA_md 6, .int), (cA_md 7, .int), (cA_md 8, .int), (cA_md 9, .boolean), (cA_md 10, .int), (cA_md 11, .int), (cA_md 12, .int), (cA_md 13, .int)] t ∧ va_D A (uw_Model ad_md cA_md md)) A) ([.ref (ad_md 0), .int x1] : List Value).toArray s 0 0 A) = Q at ret ⊢
  have w_2 : ∀ (n : Nat)  (y1 : Int32) (y2 : Int32) (H : Heap) (locs : List Loc) (ls : Array Slot), f_Model_find_2 n md y1 y2 = some res → va_P (dC, dI) vwCl (uw_Model ad_md cA_md md) H → va_D A (uw_Model ad_md cA_md md) → va_S A s.heap H locs → lv_has ls 3 [(0, .ref (ad_md 0)), (1, .int y1), (2, .int y2)] → W p l e (headSpec w_Model_find ({ frames := 0, cells := 0, slots := 0, locals := 0 })).room s m ([.ref (ad_md 0), .int x1] : List Value).toArray below meth c H locs 0 0 Q (F0 m 2 ls []) := by
    intro n
    induction n with
    | zero =>
      intro y1 y2 H locs ls hf hP hD hS hl
      rw [f_Model_find_2] at hf; cases hf
    | succ n ih =>
      intro y1 y2 H locs ls hf hP hD hS hl
      rw [f_Model_find_2] at hf
      refine lv_iload_n hx hb d_Model_find_2 rfl (lv_at hl 2 rfl) ?_
      refine lv_aload_n hx hb d_Model_find_3 rfl (lv_at hl 0 rfl) ?_
      refine va_get (D := (dC, dI)) (ci := 6) (v := .int md.2.2.2.1.1) (C := "HazardTablesModel") (T := F_Model) (N := 30) hx hb hts hin_Model hown hK hP 0 rfl rfl 4 (by decide) fl_128 (fun _ h9 => h9) rfl d_Model_find_4 ?_
      refine lv_icmp_ge (tgt := 33) hx hb d_Model_find_7 (by decide) (fun hc1 => ?_) (fun hc1 => ?_)
      · have hf := hf_t hf hc1
        refine lv_iconst (v := (-1 : Int32)) hx hb d_Model_find_33 (by decide) ?_
        exact ret (-1 : Int32) () H locs ls 34 d_Model_find_34 (Option.some.inj hf) hP hD hS
      · have hf := hf_f hf hc1
        refine lv_aload_n hx hb d_Model_find_10 rfl (lv_at hl 0 rfl) ?_
        refine va_get (D := (dC, dI)) (ci := 6) (v := .ref (ad_md 2)) (C := "HazardTablesModel") (T := F_Model) (N := 30) hx hb hts hin_Model hown hK hP 0 rfl rfl 6 (by decide) fl_17 (fun _ h9 => h9) rfl d_Model_find_11 ?_
        refine lv_iload_n hx hb d_Model_find_14 rfl (lv_at hl 2 rfl) ?_
        refine lv_bipush (v := (43 : Int32)) hx hb d_Model_find_15 (by decide) ?_
        refine lv_imul hx hb d_Model_find_17 ?_
        refine lv_iconst (v := (0 : Int32)) hx hb d_Model_find_18 (by decide) ?_
        refine lv_iadd hx hb d_Model_find_19 ?_
        obtain ⟨hi2, hf⟩ := hf_g hf
        refine va_iald hx hb hK hP 2 1 rfl rfl hi2 d_Model_find_20 ?_
        refine lv_iload_n hx hb d_Model_find_21 rfl (lv_at hl 1 rfl) ?_
        refine lv_icmp_ne (tgt := 27) hx hb d_Model_find_22 (by decide) (fun hc3 => ?_) (fun hc3 => ?_)
        · have hf := hf_f hf hc3
          refine lv_iinc (v := y2 + (1 : Int32)) (lv' := [(2, .int (y2 + (1 : Int32))), (0, .ref (ad_md 0)), (1, .int y1)]) hx hb d_Model_find_27 hl (k := 2) rfl rfl (by decide) rfl (fun ls hl => ?_)
          refine lv_goto (tgt := 2) hx hb d_Model_find_30 (by decide) ?_
          exact ih y1 (y2 + (1 : Int32)) H locs ls hf hP hD hS (lv_sub hl [1, 2, 0] rfl)
        · have hf := hf_t hf hc3
          refine lv_iload_n hx hb d_Model_find_25 rfl (lv_at hl 2 rfl) ?_
          exact ret y2 () H locs ls 26 d_Model_find_26 (Option.some.inj hf) hP hD hS
  have hl := lv_entry ([.ref (ad_md 0), .int x1]) (n := 3) (Nat.le_of_ble_eq_true rfl)
  rw [lg_entry_eq]
  generalize (lg_sl ([.ref (ad_md 0), .int x1]) ++ List.replicate (3 - (lg_sl ([.ref (ad_md 0), .int x1])).length) Slot.unset).toArray = ls at hl ⊢
  have hl : lv_has ls 3 [(0, .ref (ad_md 0)), (1, .int x1)] := hl
  have hf := hf
  rw [f_Model_find] at hf
  obtain ⟨H, hH⟩ : ∃ H : Heap, H = s.heap := ⟨_, rfl⟩
  obtain ⟨locs, hlocs⟩ : ∃ L : List Loc, L = [] := ⟨_, rfl⟩
  have hP : va_P (dC, dI) vwCl (uw_Model ad_md cA_md md) H := by rw [hH]; exact hP
  have hS : va_S A s.heap H locs := by rw [hH, hlocs]; exact hS
  show W p l e (headSpec w_Model_find ({ frames := 0, cells := 0, slots := 0, locals := 0 })).room s m ([.ref (ad_md 0), .int x1] : List Value).toArray below meth c s.heap [] 0 0 Q (F0 m 0 ls [])
  suffices hgo : W p l e (headSpec w_Model_find ({ frames := 0, cells := 0, slots := 0, locals := 0 })).room s m ([.ref (ad_md 0), .int x1] : List Value).toArray below meth c H locs 0 0 Q (F0 m 0 ls []) by rw [hH, hlocs] at hgo; exact hgo
  clear hH hlocs
  refine lv_iconst (v := (0 : Int32)) hx hb d_Model_find_0 (by decide) ?_
  refine lv_istore_n (lv' := [(2, .int (0 : Int32)), (0, .ref (ad_md 0)), (1, .int x1)]) hx hb d_Model_find_1 rfl hl (by decide) rfl (fun ls hl => ?_)
  exact w_2 4096 x1 (0 : Int32) H locs ls hf hP hD hS (lv_sub hl [1, 2, 0] rfl)
