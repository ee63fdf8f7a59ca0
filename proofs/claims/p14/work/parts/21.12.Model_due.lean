noncomputable def f_Model_due_67 (k_52 : SModel → Int32 → Int32 → Option (SModel)) (md : SModel) (y1 : Int32) (y2 : Int32) : Option (SModel) :=
  (Option.bind (f_Model_number md (0 : Int32) (9999 : Int32)) fun u11 =>
    (if inb ((y1 + (4 : Int32)) + y2) 559 then
      (k_52 (u11.2.1, u11.2.2.1, (u11.2.2.2.1.1, u11.2.2.2.1.2.1, upd u11.2.2.2.1.2.2 ((y1 + (4 : Int32)) + y2).toNatClampNeg u11.1), u11.2.2.2.2.1, u11.2.2.2.2.2.1, u11.2.2.2.2.2.2.1, u11.2.2.2.2.2.2.2.1, u11.2.2.2.2.2.2.2.2.1, u11.2.2.2.2.2.2.2.2.2) y1 (y2 + (1 : Int32)))
     else none)
   )
noncomputable def f_Model_due_52  : Nat → SModel → Int32 → Int32 → Option (SModel)
  | 0, _, _, _ => none
  | n + 1, md, y1, y2 =>
    (if (4 : Int32) ≤ y2 then
      (some md)
     else
      (if y2 ≤ 0 then
        (f_Model_due_67 (f_Model_due_52 n) md y1 y2)
       else
        (Option.bind (f_Model_take md (44 : Int32)) fun u10 =>
          (f_Model_due_67 (f_Model_due_52 n) u10 y1 y2)
         )
       )
     )
noncomputable def f_Model_due (md : SModel) (x1 : Int32) : Option (SModel) :=
  (Option.bind (f_Model_take md (114 : Int32)) fun u1 =>
    (Option.bind (f_Model_number u1 (0 : Int32) (9 : Int32)) fun u2 =>
      (if inb (x1 + (2 : Int32)) 559 then
        (Option.bind (f_Model_take (u2.2.1, u2.2.2.1, (u2.2.2.2.1.1, u2.2.2.2.1.2.1, upd u2.2.2.2.1.2.2 (x1 + (2 : Int32)).toNatClampNeg u2.1), u2.2.2.2.2.1, u2.2.2.2.2.2.1, u2.2.2.2.2.2.2.1, u2.2.2.2.2.2.2.2.1, u2.2.2.2.2.2.2.2.2.1, u2.2.2.2.2.2.2.2.2.2) (103 : Int32)) fun u4 =>
          (Option.bind (f_Model_rising u4 (97 : Int32) (104 : Int32) (4 : Int32)) fun u5 =>
            (if inb (x1 + (3 : Int32)) 559 then
              (Option.bind (f_Model_take (u5.2.1, u5.2.2.1, (u5.2.2.2.1.1, u5.2.2.2.1.2.1, upd u5.2.2.2.1.2.2 (x1 + (3 : Int32)).toNatClampNeg u5.1), u5.2.2.2.2.1, u5.2.2.2.2.2.1, u5.2.2.2.2.2.2.1, u5.2.2.2.2.2.2.2.1, u5.2.2.2.2.2.2.2.2.1, u5.2.2.2.2.2.2.2.2.2) (64 : Int32)) fun u7 =>
                (f_Model_due_52 4096 u7 x1 (0 : Int32))
               )
             else none)
           )
         )
       else none)
     )
   )
set_option maxHeartbeats 4000000 in
set_option maxRecDepth 100000 in
theorem k_Model_due (l : Launch) (dC : Nat → ClassId) (dI : Nat → Nat → Nat) (ad_md : Nat → Nat) (cA_md : Nat → ClassId) (sz : Nat) (md : SModel) (x1 : Int32) (res : SModel) (hf : f_Model_due md x1 = some res) : Met l y_Model_due w_Model_due ({ frames := 3, cells := 0, slots := 0, locals := 67 }) (cPc (dC, dI) (uw_Model ad_md cA_md md) [(cA_md 1, .int), (cA_md 2, .int), (cA_md 3, .int), (cA_md 4, .int), (cA_md 5, .int), (cA_md 6, .int), (cA_md 7, .int), (cA_md 8, .int), (cA_md 9, .boolean), (cA_md 10, .int), (cA_md 11, .int), (cA_md 12, .int), (cA_md 13, .int)] sz [.ref (ad_md 0), .int x1]) (va_Qv (fun (u : SModel) => u = res) (fun (u : SModel) (t : State) => va_P (dC, dI) vwCl (uw_Model ad_md cA_md u) t.heap ∧ va_K (dC, dI) vwCl [(cA_md 1, .int), (cA_md 2, .int), (cA_md 3, .int), (cA_md 4, .int), (cA_md 5, .int), (cA_md 6, .int), (cA_md 7, .int), (cA_md 8, .int), (cA_md 9, .boolean), (cA_md 10, .int), (cA_md 11, .int), (cA_md 12, .int), (cA_md 13, .int)] t ∧ va_D (va_A (uw_Model ad_md cA_md md) sz) (uw_Model ad_md cA_md u)) (va_A (uw_Model ad_md cA_md md) sz)) 0 0 (va_A (uw_Model ad_md cA_md md) sz) := by
  refine Met.ofW (cc := b_Model_due) (maxL := 3) (ret := none) (by decide) rfl ?_
  intro p e s m args below meth c s₁ B hml hv
  obtain ⟨rfl, hsz, hP, hK, hD0, hN⟩ := hv
  have hx := B.exec
  have hb := B.bytes
  have hr := B.returns
  have hts := atoms_spec (ws := w_Model_due) B.pre
  have hown : s.vm.findClass "HazardTablesModel" = some m.cls := findClass_of_methodNamed B.named
  have hlocks := B.notSynchronized
  subst hsz
  have hD := hD0.self (sz := s.heap.size)
  generalize hAe : va_A (uw_Model ad_md cA_md md) s.heap.size = A at hD ⊢
  have hA : ∀ q : Nat, s.heap.size ≤ q → A q := fun q h => by rw [← hAe]; exact Or.inr h
  have hS : va_S A s.heap s.heap [] := va_S.rf
  have hP : va_P (dC, dI) vwCl (uw_Model ad_md cA_md md) s.heap := hP
  have fl_20 := (hts _ (List.mem_cons_of_mem _ wd_757))
  have hin_Model : ∀ w ∈ u_ws "HazardTablesModel" F_Model 30, w ∈ w_Model_due := fun w h => List.mem_cons_of_mem _ (hinA_Model w h)
  have ret : ∀ (u : SModel) (H : Heap) (locs : List Loc) (ls : Array Slot) (pc : Nat), decode b_Model_due pc = .ok (.return_, 1) → u = res → va_P (dC, dI) vwCl (uw_Model ad_md cA_md u) H → va_D A (uw_Model ad_md cA_md u) → va_S A s.heap H locs → W p l e (headSpec w_Model_due ({ frames := 3, cells := 0, slots := 0, locals := 67 })).room s m ([.ref (ad_md 0), .int x1] : List Value).toArray below meth c H locs 0 0 (MQ below (va_Qv (fun (u : SModel) => u = res) (fun (u : SModel) (t : State) => va_P (dC, dI) vwCl (uw_Model ad_md cA_md u) t.heap ∧ va_K (dC, dI) vwCl [(cA_md 1, .int), (cA_md 2, .int), (cA_md 3, .int), (cA_md 4, .int), (cA_md 5, .int), (cA_md 6, .int), (cA_md 7, .int), (cA_md 8, .int), (cA_md 9, .boolean), (cA_md 10, .int), (cA_md 11, .int), (cA_md 12, .int), (cA_md 13, .int)] t ∧ va_D A (uw_Model ad_md cA_md u)) A) ([.ref (ad_md 0), .int x1] : List Value).toArray s 0 0 A) (F0 m pc ls []) := fun u H locs ls pc hd hp hP hD hS => W.vret hx hb hr (fun t ht hW => ⟨⟨u, rfl, hp, by rw [ht]; exact hP, va_K.moved hW.alike hK, hD⟩, hS.F ht⟩) hS.2.2 hd
  generalize (MQ below (va_Qv (fun (u : SModel) => u = res) (fun (u : SModel) (t : State) => va_P (dC, dI) vwCl (uw_Model ad_md cA_md u) t.heap ∧ va_K (dC, dI) vwCl [(cA_md 1, .int), (cA_md 2, .int), (cA_md 3, .int), (cA_md 4, .int), (cA_md 5, .int), (cA_md 6, .int), (cA_md 7, .int), (cA_md 8, .int), (cA_md 9, .boolean), (cA_md 10, .int), (cA_md 11, .int), (cA_md 12, .int), (cA_md 13, .int)] t ∧ va_D A (uw_Model ad_md cA_md u)) A) ([.ref (ad_md 0), .int x1] : List Value).toArray s 0 0 A) = Q at ret ⊢
  have w_67 : ∀ (k_52 : SModel → Int32 → Int32 → Option (SModel)), (∀ (md : SModel) (y1 : Int32) (y2 : Int32) (H : Heap) (locs : List Loc) (ls : Array Slot), k_52 md y1 y2 = some res → va_P (dC, dI) vwCl (uw_Model ad_md cA_md md) H → va_D A (uw_Model ad_md cA_md md) → va_S A s.heap H locs → lv_has ls 3 [(0, .ref (ad_md 0)), (1, .int y1), (2, .int y2)] → W p l e (headSpec w_Model_due ({ frames := 3, cells := 0, slots := 0, locals := 67 })).room s m ([.ref (ad_md 0), .int x1] : List Value).toArray below meth c H locs 0 0 Q (F0 m 52 ls [])) → ∀ (md : SModel) (y1 : Int32) (y2 : Int32) (H : Heap) (locs : List Loc) (ls : Array Slot), f_Model_due_67 k_52 md y1 y2 = some res → va_P (dC, dI) vwCl (uw_Model ad_md cA_md md) H → va_D A (uw_Model ad_md cA_md md) → va_S A s.heap H locs → lv_has ls 3 [(0, .ref (ad_md 0)), (1, .int y1), (2, .int y2)] → W p l e (headSpec w_Model_due ({ frames := 3, cells := 0, slots := 0, locals := 67 })).room s m ([.ref (ad_md 0), .int x1] : List Value).toArray below meth c H locs 0 0 Q (F0 m 67 ls []) := by
    intro k_52 hk_52
    intro md y1 y2 H locs ls hf hP hD hS hl
    rw [f_Model_due_67] at hf
    refine lv_aload_n hx hb d_Model_due_67 rfl (lv_at hl 0 rfl) ?_
    refine va_get (D := (dC, dI)) (ci := 6) (v := .ref (ad_md 3)) (C := "HazardTablesModel") (T := F_Model) (N := 30) hx hb hts hin_Model hown hK hP 0 rfl rfl 9 (by decide) fl_20 (fun _ h9 => h9) rfl d_Model_due_68 ?_
    refine lv_iload_n hx hb d_Model_due_71 rfl (lv_at hl 1 rfl) ?_
    refine lv_iconst (v := (4 : Int32)) hx hb d_Model_due_72 (by decide) ?_
    refine lv_iadd hx hb d_Model_due_73 ?_
    refine lv_iload_n hx hb d_Model_due_74 rfl (lv_at hl 2 rfl) ?_
    refine lv_iadd hx hb d_Model_due_75 ?_
    refine lv_aload_n hx hb d_Model_due_76 rfl (lv_at hl 0 rfl) ?_
    refine lv_iconst (v := (0 : Int32)) hx hb d_Model_due_77 (by decide) ?_
    refine lv_sipush (v := (9999 : Int32)) hx hb d_Model_due_78 (by decide) ?_
    obtain ⟨u11, hu11, hf⟩ := Option.bind_eq_some_iff.mp hf
    refine cl_i (wc := (uw_Model ad_md cA_md md)) (wr := []) (tysC := [(cA_md 1, .int), (cA_md 2, .int), (cA_md 3, .int), (cA_md 4, .int), (cA_md 5, .int), (cA_md 6, .int), (cA_md 7, .int), (cA_md 8, .int), (cA_md 9, .boolean), (cA_md 10, .int), (cA_md 11, .int), (cA_md 12, .int), (cA_md 13, .int)]) (wu := fun (u : SModel) => (uw_Model ad_md cA_md u)) (wn := fun (u : SModel) => (uw_Model ad_md cA_md u)) [0, 1, 2, 3, 4, 5, 6, 7, 8, 9, 10, 11, 12, 13] [] [0, 1, 2, 3, 4, 5, 6, 7, 8, 9, 10, 11, 12, 13] [0, 1, 2, 3, 4, 5, 6, 7, 8, 9, 10, 11, 12] hP hD hS hA hK rfl rfl (by decide +kernel) (by decide +kernel) (by decide +kernel) rfl (fun _ => rfl) (by decide +kernel) (fun hPc hKc hDc => (va_runV (As := [.int (0 : Int32), .int (9999 : Int32)]) (rest := [.int ((y1 + (4 : Int32)) + y2), .ref (ad_md 3)]) ⟨hx, hb, hml, hown, hts⟩ (k_Model_number l dC dI ad_md cA_md H.size md (0 : Int32) (9999 : Int32) u11 hu11) (cwV 2 hts (gV wd_874 wd_876 wd_27 wd_49 wd_877) rfl rfl rfl (by decide +kernel) ⟨Nat.le_of_ble_eq_true rfl, Nat.le_of_ble_eq_true rfl⟩) (cl_preV hPc hKc hDc hN (ci := 6) 0 rfl rfl) rfl rfl hl.1 rfl (lv_room (Nat.le_of_ble_eq_true rfl)) d_Model_due_81 ⟨Nat.le_of_ble_eq_true rfl, Nat.le_of_ble_eq_true rfl⟩)) (fun r u H locs hw hP hD hS => ?_)
    obtain ⟨hw1, hw2⟩ := hw
    have hw1 := hw1.symm
    have hw2 := hw2.symm
    subst hw1
    subst hw2
    have hP : va_P (dC, dI) vwCl (uw_Model ad_md cA_md u11.2) H := hP
    have hD : va_D A (uw_Model ad_md cA_md u11.2) := hD
    obtain ⟨hi12, hf⟩ := hf_g hf
    refine va_iast hx hb hK hP hD hS 3 2 rfl rfl hi12 d_Model_due_84 (fun H locs hP hD hS => ?_)
    have hP : va_P (dC, dI) vwCl (uw_Model ad_md cA_md (u11.2.1, u11.2.2.1, (u11.2.2.2.1.1, u11.2.2.2.1.2.1, upd u11.2.2.2.1.2.2 ((y1 + (4 : Int32)) + y2).toNatClampNeg u11.1), u11.2.2.2.2.1, u11.2.2.2.2.2.1, u11.2.2.2.2.2.2.1, u11.2.2.2.2.2.2.2.1, u11.2.2.2.2.2.2.2.2.1, u11.2.2.2.2.2.2.2.2.2)) H := hP
    have hD : va_D A (uw_Model ad_md cA_md (u11.2.1, u11.2.2.1, (u11.2.2.2.1.1, u11.2.2.2.1.2.1, upd u11.2.2.2.1.2.2 ((y1 + (4 : Int32)) + y2).toNatClampNeg u11.1), u11.2.2.2.2.1, u11.2.2.2.2.2.1, u11.2.2.2.2.2.2.1, u11.2.2.2.2.2.2.2.1, u11.2.2.2.2.2.2.2.2.1, u11.2.2.2.2.2.2.2.2.2)) := hD
    refine lv_iinc (v := y2 + (1 : Int32)) (lv' := [(2, .int (y2 + (1 : Int32))), (0, .ref (ad_md 0)), (1, .int y1)]) hx hb d_Model_due_85 hl (k := 2) rfl rfl (by decide) rfl (fun ls hl => ?_)
    refine lv_goto (tgt := 52) hx hb d_Model_due_88 (by decide) ?_
    exact hk_52 (u11.2.1, u11.2.2.1, (u11.2.2.2.1.1, u11.2.2.2.1.2.1, upd u11.2.2.2.1.2.2 ((y1 + (4 : Int32)) + y2).toNatClampNeg u11.1), u11.2.2.2.2.1, u11.2.2.2.2.2.1, u11.2.2.2.2.2.2.1, u11.2.2.2.2.2.2.2.1, u11.2.2.2.2.2.2.2.2.1, u11.2.2.2.2.2.2.2.2.2) y1 (y2 + (1 : Int32)) H locs ls hf hP hD hS (lv_sub hl [1, 2, 0] rfl)
  have w_52 : ∀ (n : Nat) (md : SModel) (y1 : Int32) (y2 : Int32) (H : Heap) (locs : List Loc) (ls : Array Slot), f_Model_due_52 n md y1 y2 = some res → va_P (dC, dI) vwCl (uw_Model ad_md cA_md md) H → va_D A (uw_Model ad_md cA_md md) → va_S A s.heap H locs → lv_has ls 3 [(0, .ref (ad_md 0)), (1, .int y1), (2, .int y2)] → W p l e (headSpec w_Model_due ({ frames := 3, cells := 0, slots := 0, locals := 67 })).room s m ([.ref (ad_md 0), .int x1] : List Value).toArray below meth c H locs 0 0 Q (F0 m 52 ls []) := by
    intro n
    induction n with
    | zero =>
      intro md y1 y2 H locs ls hf hP hD hS hl
      rw [f_Model_due_52] at hf; cases hf
    | succ n ih =>
      intro md y1 y2 H locs ls hf hP hD hS hl
      rw [f_Model_due_52] at hf
      refine lv_iload_n hx hb d_Model_due_52 rfl (lv_at hl 2 rfl) ?_
      refine lv_iconst (v := (4 : Int32)) hx hb d_Model_due_53 (by decide) ?_
      refine lv_icmp_ge (tgt := 91) hx hb d_Model_due_54 (by decide) (fun hc8 => ?_) (fun hc8 => ?_)
      · have hf := hf_t hf hc8
        exact ret  md H locs ls 91 d_Model_due_91 (Option.some.inj hf) hP hD hS
      · have hf := hf_f hf hc8
        refine lv_iload_n hx hb d_Model_due_57 rfl (lv_at hl 2 rfl) ?_
        refine lv_if_le (tgt := 67) hx hb d_Model_due_58 (by decide) (fun hc9 => ?_) (fun hc9 => ?_)
        · have hf := hf_t hf hc9
          exact w_67 (f_Model_due_52 n) ih md y1 y2 H locs ls hf hP hD hS (lv_sub hl [0, 1, 2] rfl)
        · have hf := hf_f hf hc9
          refine lv_aload_n hx hb d_Model_due_61 rfl (lv_at hl 0 rfl) ?_
          refine lv_bipush (v := (44 : Int32)) hx hb d_Model_due_62 (by decide) ?_
          obtain ⟨u10, hu10, hf⟩ := Option.bind_eq_some_iff.mp hf
          refine cl_v (wc := (uw_Model ad_md cA_md md)) (wr := []) (tysC := [(cA_md 1, .int), (cA_md 2, .int), (cA_md 3, .int), (cA_md 4, .int), (cA_md 5, .int), (cA_md 6, .int), (cA_md 7, .int), (cA_md 8, .int), (cA_md 9, .boolean), (cA_md 10, .int), (cA_md 11, .int), (cA_md 12, .int), (cA_md 13, .int)]) (wu := fun (u : SModel) => (uw_Model ad_md cA_md u)) (wn := fun (u : SModel) => (uw_Model ad_md cA_md u)) [0, 1, 2, 3, 4, 5, 6, 7, 8, 9, 10, 11, 12, 13] [] [0, 1, 2, 3, 4, 5, 6, 7, 8, 9, 10, 11, 12, 13] [0, 1, 2, 3, 4, 5, 6, 7, 8, 9, 10, 11, 12] hP hD hS hA hK rfl rfl (by decide +kernel) (by decide +kernel) (by decide +kernel) rfl (fun _ => rfl) (by decide +kernel) (fun hPc hKc hDc => (va_runV (As := [.int (44 : Int32)]) (rest := []) ⟨hx, hb, hml, hown, hts⟩ (k_Model_take l dC dI ad_md cA_md H.size md (44 : Int32) u10 hu10) (cwV 1 hts (gV wd_886 wd_888 wd_30 wd_49 wd_889) rfl rfl rfl (by decide +kernel) ⟨Nat.le_of_ble_eq_true rfl, Nat.le_of_ble_eq_true rfl⟩) (cl_preV hPc hKc hDc hN (ci := 6) 0 rfl rfl) rfl rfl hl.1 rfl (lv_room (Nat.le_of_ble_eq_true rfl)) d_Model_due_64 ⟨Nat.le_of_ble_eq_true rfl, Nat.le_of_ble_eq_true rfl⟩)) (fun u H locs hw hP hD hS => ?_)
          have hw := hw.symm
          subst hw
          have hP : va_P (dC, dI) vwCl (uw_Model ad_md cA_md u10) H := hP
          have hD : va_D A (uw_Model ad_md cA_md u10) := hD
          exact w_67 (f_Model_due_52 n) ih u10 y1 y2 H locs ls hf hP hD hS (lv_sub hl [0, 1, 2] rfl)
  have hl := lv_entry ([.ref (ad_md 0), .int x1]) (n := 3) (Nat.le_of_ble_eq_true rfl)
  rw [lg_entry_eq]
  generalize (lg_sl ([.ref (ad_md 0), .int x1]) ++ List.replicate (3 - (lg_sl ([.ref (ad_md 0), .int x1])).length) Slot.unset).toArray = ls at hl ⊢
  have hl : lv_has ls 3 [(0, .ref (ad_md 0)), (1, .int x1)] := hl
  have hf := hf
  rw [f_Model_due] at hf
  obtain ⟨H, hH⟩ : ∃ H : Heap, H = s.heap := ⟨_, rfl⟩
  obtain ⟨locs, hlocs⟩ : ∃ L : List Loc, L = [] := ⟨_, rfl⟩
  have hP : va_P (dC, dI) vwCl (uw_Model ad_md cA_md md) H := by rw [hH]; exact hP
  have hS : va_S A s.heap H locs := by rw [hH, hlocs]; exact hS
  show W p l e (headSpec w_Model_due ({ frames := 3, cells := 0, slots := 0, locals := 67 })).room s m ([.ref (ad_md 0), .int x1] : List Value).toArray below meth c s.heap [] 0 0 Q (F0 m 0 ls [])
  suffices hgo : W p l e (headSpec w_Model_due ({ frames := 3, cells := 0, slots := 0, locals := 67 })).room s m ([.ref (ad_md 0), .int x1] : List Value).toArray below meth c H locs 0 0 Q (F0 m 0 ls []) by rw [hH, hlocs] at hgo; exact hgo
  clear hH hlocs
  refine lv_aload_n hx hb d_Model_due_0 rfl (lv_at hl 0 rfl) ?_
  refine lv_bipush (v := (114 : Int32)) hx hb d_Model_due_1 (by decide) ?_
  obtain ⟨u1, hu1, hf⟩ := Option.bind_eq_some_iff.mp hf
  refine cl_v (wc := (uw_Model ad_md cA_md md)) (wr := []) (tysC := [(cA_md 1, .int), (cA_md 2, .int), (cA_md 3, .int), (cA_md 4, .int), (cA_md 5, .int), (cA_md 6, .int), (cA_md 7, .int), (cA_md 8, .int), (cA_md 9, .boolean), (cA_md 10, .int), (cA_md 11, .int), (cA_md 12, .int), (cA_md 13, .int)]) (wu := fun (u : SModel) => (uw_Model ad_md cA_md u)) (wn := fun (u : SModel) => (uw_Model ad_md cA_md u)) [0, 1, 2, 3, 4, 5, 6, 7, 8, 9, 10, 11, 12, 13] [] [0, 1, 2, 3, 4, 5, 6, 7, 8, 9, 10, 11, 12, 13] [0, 1, 2, 3, 4, 5, 6, 7, 8, 9, 10, 11, 12] hP hD hS hA hK rfl rfl (by decide +kernel) (by decide +kernel) (by decide +kernel) rfl (fun _ => rfl) (by decide +kernel) (fun hPc hKc hDc => (va_runV (As := [.int (114 : Int32)]) (rest := []) ⟨hx, hb, hml, hown, hts⟩ (k_Model_take l dC dI ad_md cA_md H.size md (114 : Int32) u1 hu1) (cwV 1 hts (gV wd_886 wd_888 wd_30 wd_49 wd_889) rfl rfl rfl (by decide +kernel) ⟨Nat.le_of_ble_eq_true rfl, Nat.le_of_ble_eq_true rfl⟩) (cl_preV hPc hKc hDc hN (ci := 6) 0 rfl rfl) rfl rfl hl.1 rfl (lv_room (Nat.le_of_ble_eq_true rfl)) d_Model_due_3 ⟨Nat.le_of_ble_eq_true rfl, Nat.le_of_ble_eq_true rfl⟩)) (fun u H locs hw hP hD hS => ?_)
  have hw := hw.symm
  subst hw
  have hP : va_P (dC, dI) vwCl (uw_Model ad_md cA_md u1) H := hP
  have hD : va_D A (uw_Model ad_md cA_md u1) := hD
  refine lv_aload_n hx hb d_Model_due_6 rfl (lv_at hl 0 rfl) ?_
  refine va_get (D := (dC, dI)) (ci := 6) (v := .ref (ad_md 3)) (C := "HazardTablesModel") (T := F_Model) (N := 30) hx hb hts hin_Model hown hK hP 0 rfl rfl 9 (by decide) fl_20 (fun _ h9 => h9) rfl d_Model_due_7 ?_
  refine lv_iload_n hx hb d_Model_due_10 rfl (lv_at hl 1 rfl) ?_
  refine lv_iconst (v := (2 : Int32)) hx hb d_Model_due_11 (by decide) ?_
  refine lv_iadd hx hb d_Model_due_12 ?_
  refine lv_aload_n hx hb d_Model_due_13 rfl (lv_at hl 0 rfl) ?_
  refine lv_iconst (v := (0 : Int32)) hx hb d_Model_due_14 (by decide) ?_
  refine lv_bipush (v := (9 : Int32)) hx hb d_Model_due_15 (by decide) ?_
  obtain ⟨u2, hu2, hf⟩ := Option.bind_eq_some_iff.mp hf
  refine cl_i (wc := (uw_Model ad_md cA_md u1)) (wr := []) (tysC := [(cA_md 1, .int), (cA_md 2, .int), (cA_md 3, .int), (cA_md 4, .int), (cA_md 5, .int), (cA_md 6, .int), (cA_md 7, .int), (cA_md 8, .int), (cA_md 9, .boolean), (cA_md 10, .int), (cA_md 11, .int), (cA_md 12, .int), (cA_md 13, .int)]) (wu := fun (u : SModel) => (uw_Model ad_md cA_md u)) (wn := fun (u : SModel) => (uw_Model ad_md cA_md u)) [0, 1, 2, 3, 4, 5, 6, 7, 8, 9, 10, 11, 12, 13] [] [0, 1, 2, 3, 4, 5, 6, 7, 8, 9, 10, 11, 12, 13] [0, 1, 2, 3, 4, 5, 6, 7, 8, 9, 10, 11, 12] hP hD hS hA hK rfl rfl (by decide +kernel) (by decide +kernel) (by decide +kernel) rfl (fun _ => rfl) (by decide +kernel) (fun hPc hKc hDc => (va_runV (As := [.int (0 : Int32), .int (9 : Int32)]) (rest := [.int (x1 + (2 : Int32)), .ref (ad_md 3)]) ⟨hx, hb, hml, hown, hts⟩ (k_Model_number l dC dI ad_md cA_md H.size u1 (0 : Int32) (9 : Int32) u2 hu2) (cwV 2 hts (gV wd_874 wd_876 wd_27 wd_49 wd_877) rfl rfl rfl (by decide +kernel) ⟨Nat.le_of_ble_eq_true rfl, Nat.le_of_ble_eq_true rfl⟩) (cl_preV hPc hKc hDc hN (ci := 6) 0 rfl rfl) rfl rfl hl.1 rfl (lv_room (Nat.le_of_ble_eq_true rfl)) d_Model_due_17 ⟨Nat.le_of_ble_eq_true rfl, Nat.le_of_ble_eq_true rfl⟩)) (fun r u H locs hw hP hD hS => ?_)
  obtain ⟨hw1, hw2⟩ := hw
  have hw1 := hw1.symm
  have hw2 := hw2.symm
  subst hw1
  subst hw2
  have hP : va_P (dC, dI) vwCl (uw_Model ad_md cA_md u2.2) H := hP
  have hD : va_D A (uw_Model ad_md cA_md u2.2) := hD
  obtain ⟨hi3, hf⟩ := hf_g hf
  refine va_iast hx hb hK hP hD hS 3 2 rfl rfl hi3 d_Model_due_20 (fun H locs hP hD hS => ?_)
  have hP : va_P (dC, dI) vwCl (uw_Model ad_md cA_md (u2.2.1, u2.2.2.1, (u2.2.2.2.1.1, u2.2.2.2.1.2.1, upd u2.2.2.2.1.2.2 (x1 + (2 : Int32)).toNatClampNeg u2.1), u2.2.2.2.2.1, u2.2.2.2.2.2.1, u2.2.2.2.2.2.2.1, u2.2.2.2.2.2.2.2.1, u2.2.2.2.2.2.2.2.2.1, u2.2.2.2.2.2.2.2.2.2)) H := hP
  have hD : va_D A (uw_Model ad_md cA_md (u2.2.1, u2.2.2.1, (u2.2.2.2.1.1, u2.2.2.2.1.2.1, upd u2.2.2.2.1.2.2 (x1 + (2 : Int32)).toNatClampNeg u2.1), u2.2.2.2.2.1, u2.2.2.2.2.2.1, u2.2.2.2.2.2.2.1, u2.2.2.2.2.2.2.2.1, u2.2.2.2.2.2.2.2.2.1, u2.2.2.2.2.2.2.2.2.2)) := hD
  refine lv_aload_n hx hb d_Model_due_21 rfl (lv_at hl 0 rfl) ?_
  refine lv_bipush (v := (103 : Int32)) hx hb d_Model_due_22 (by decide) ?_
  obtain ⟨u4, hu4, hf⟩ := Option.bind_eq_some_iff.mp hf
  refine cl_v (wc := (uw_Model ad_md cA_md (u2.2.1, u2.2.2.1, (u2.2.2.2.1.1, u2.2.2.2.1.2.1, upd u2.2.2.2.1.2.2 (x1 + (2 : Int32)).toNatClampNeg u2.1), u2.2.2.2.2.1, u2.2.2.2.2.2.1, u2.2.2.2.2.2.2.1, u2.2.2.2.2.2.2.2.1, u2.2.2.2.2.2.2.2.2.1, u2.2.2.2.2.2.2.2.2.2))) (wr := []) (tysC := [(cA_md 1, .int), (cA_md 2, .int), (cA_md 3, .int), (cA_md 4, .int), (cA_md 5, .int), (cA_md 6, .int), (cA_md 7, .int), (cA_md 8, .int), (cA_md 9, .boolean), (cA_md 10, .int), (cA_md 11, .int), (cA_md 12, .int), (cA_md 13, .int)]) (wu := fun (u : SModel) => (uw_Model ad_md cA_md u)) (wn := fun (u : SModel) => (uw_Model ad_md cA_md u)) [0, 1, 2, 3, 4, 5, 6, 7, 8, 9, 10, 11, 12, 13] [] [0, 1, 2, 3, 4, 5, 6, 7, 8, 9, 10, 11, 12, 13] [0, 1, 2, 3, 4, 5, 6, 7, 8, 9, 10, 11, 12] hP hD hS hA hK rfl rfl (by decide +kernel) (by decide +kernel) (by decide +kernel) rfl (fun _ => rfl) (by decide +kernel) (fun hPc hKc hDc => (va_runV (As := [.int (103 : Int32)]) (rest := []) ⟨hx, hb, hml, hown, hts⟩ (k_Model_take l dC dI ad_md cA_md H.size (u2.2.1, u2.2.2.1, (u2.2.2.2.1.1, u2.2.2.2.1.2.1, upd u2.2.2.2.1.2.2 (x1 + (2 : Int32)).toNatClampNeg u2.1), u2.2.2.2.2.1, u2.2.2.2.2.2.1, u2.2.2.2.2.2.2.1, u2.2.2.2.2.2.2.2.1, u2.2.2.2.2.2.2.2.2.1, u2.2.2.2.2.2.2.2.2.2) (103 : Int32) u4 hu4) (cwV 1 hts (gV wd_886 wd_888 wd_30 wd_49 wd_889) rfl rfl rfl (by decide +kernel) ⟨Nat.le_of_ble_eq_true rfl, Nat.le_of_ble_eq_true rfl⟩) (cl_preV hPc hKc hDc hN (ci := 6) 0 rfl rfl) rfl rfl hl.1 rfl (lv_room (Nat.le_of_ble_eq_true rfl)) d_Model_due_24 ⟨Nat.le_of_ble_eq_true rfl, Nat.le_of_ble_eq_true rfl⟩)) (fun u H locs hw hP hD hS => ?_)
  have hw := hw.symm
  subst hw
  have hP : va_P (dC, dI) vwCl (uw_Model ad_md cA_md u4) H := hP
  have hD : va_D A (uw_Model ad_md cA_md u4) := hD
  refine lv_aload_n hx hb d_Model_due_27 rfl (lv_at hl 0 rfl) ?_
  refine va_get (D := (dC, dI)) (ci := 6) (v := .ref (ad_md 3)) (C := "HazardTablesModel") (T := F_Model) (N := 30) hx hb hts hin_Model hown hK hP 0 rfl rfl 9 (by decide) fl_20 (fun _ h9 => h9) rfl d_Model_due_28 ?_
  refine lv_iload_n hx hb d_Model_due_31 rfl (lv_at hl 1 rfl) ?_
  refine lv_iconst (v := (3 : Int32)) hx hb d_Model_due_32 (by decide) ?_
  refine lv_iadd hx hb d_Model_due_33 ?_
  refine lv_aload_n hx hb d_Model_due_34 rfl (lv_at hl 0 rfl) ?_
  refine lv_bipush (v := (97 : Int32)) hx hb d_Model_due_35 (by decide) ?_
  refine lv_bipush (v := (104 : Int32)) hx hb d_Model_due_37 (by decide) ?_
  refine lv_iconst (v := (4 : Int32)) hx hb d_Model_due_39 (by decide) ?_
  obtain ⟨u5, hu5, hf⟩ := Option.bind_eq_some_iff.mp hf
  refine cl_i (wc := (uw_Model ad_md cA_md u4)) (wr := []) (tysC := [(cA_md 1, .int), (cA_md 2, .int), (cA_md 3, .int), (cA_md 4, .int), (cA_md 5, .int), (cA_md 6, .int), (cA_md 7, .int), (cA_md 8, .int), (cA_md 9, .boolean), (cA_md 10, .int), (cA_md 11, .int), (cA_md 12, .int), (cA_md 13, .int)]) (wu := fun (u : SModel) => (uw_Model ad_md cA_md u)) (wn := fun (u : SModel) => (uw_Model ad_md cA_md u)) [0, 1, 2, 3, 4, 5, 6, 7, 8, 9, 10, 11, 12, 13] [] [0, 1, 2, 3, 4, 5, 6, 7, 8, 9, 10, 11, 12, 13] [0, 1, 2, 3, 4, 5, 6, 7, 8, 9, 10, 11, 12] hP hD hS hA hK rfl rfl (by decide +kernel) (by decide +kernel) (by decide +kernel) rfl (fun _ => rfl) (by decide +kernel) (fun hPc hKc hDc => (va_runV (As := [.int (97 : Int32), .int (104 : Int32), .int (4 : Int32)]) (rest := [.int (x1 + (3 : Int32)), .ref (ad_md 3)]) ⟨hx, hb, hml, hown, hts⟩ (k_Model_rising l dC dI ad_md cA_md H.size u4 (97 : Int32) (104 : Int32) (4 : Int32) u5 hu5) (cwV 3 hts (gV wd_894 wd_896 wd_32 wd_49 wd_897) rfl rfl rfl (by decide +kernel) ⟨Nat.le_of_ble_eq_true rfl, Nat.le_of_ble_eq_true rfl⟩) (cl_preV hPc hKc hDc hN (ci := 6) 0 rfl rfl) rfl rfl hl.1 rfl (lv_room (Nat.le_of_ble_eq_true rfl)) d_Model_due_40 ⟨Nat.le_of_ble_eq_true rfl, Nat.le_of_ble_eq_true rfl⟩)) (fun r u H locs hw hP hD hS => ?_)
  obtain ⟨hw1, hw2⟩ := hw
  have hw1 := hw1.symm
  have hw2 := hw2.symm
  subst hw1
  subst hw2
  have hP : va_P (dC, dI) vwCl (uw_Model ad_md cA_md u5.2) H := hP
  have hD : va_D A (uw_Model ad_md cA_md u5.2) := hD
  obtain ⟨hi6, hf⟩ := hf_g hf
  refine va_iast hx hb hK hP hD hS 3 2 rfl rfl hi6 d_Model_due_43 (fun H locs hP hD hS => ?_)
  have hP : va_P (dC, dI) vwCl (uw_Model ad_md cA_md (u5.2.1, u5.2.2.1, (u5.2.2.2.1.1, u5.2.2.2.1.2.1, upd u5.2.2.2.1.2.2 (x1 + (3 : Int32)).toNatClampNeg u5.1), u5.2.2.2.2.1, u5.2.2.2.2.2.1, u5.2.2.2.2.2.2.1, u5.2.2.2.2.2.2.2.1, u5.2.2.2.2.2.2.2.2.1, u5.2.2.2.2.2.2.2.2.2)) H := hP
  have hD : va_D A (uw_Model ad_md cA_md (u5.2.1, u5.2.2.1, (u5.2.2.2.1.1, u5.2.2.2.1.2.1, upd u5.2.2.2.1.2.2 (x1 + (3 : Int32)).toNatClampNeg u5.1), u5.2.2.2.2.1, u5.2.2.2.2.2.1, u5.2.2.2.2.2.2.1, u5.2.2.2.2.2.2.2.1, u5.2.2.2.2.2.2.2.2.1, u5.2.2.2.2.2.2.2.2.2)) := hD
  refine lv_aload_n hx hb d_Model_due_44 rfl (lv_at hl 0 rfl) ?_
  refine lv_bipush (v := (64 : Int32)) hx hb d_Model_due_45 (by decide) ?_
  obtain ⟨u7, hu7, hf⟩ := Option.bind_eq_some_iff.mp hf
  refine cl_v (wc := (uw_Model ad_md cA_md (u5.2.1, u5.2.2.1, (u5.2.2.2.1.1, u5.2.2.2.1.2.1, upd u5.2.2.2.1.2.2 (x1 + (3 : Int32)).toNatClampNeg u5.1), u5.2.2.2.2.1, u5.2.2.2.2.2.1, u5.2.2.2.2.2.2.1, u5.2.2.2.2.2.2.2.1, u5.2.2.2.2.2.2.2.2.1, u5.2.2.2.2.2.2.2.2.2))) (wr := []) (tysC := [(cA_md 1, .int), (cA_md 2, .int), (cA_md 3, .int), (cA_md 4, .int), (cA_md 5, .int), (cA_md 6, .int), (cA_md 7, .int), (cA_md 8, .int), (cA_md 9, .boolean), (cA_md 10, .int), (cA_md 11, .int), (cA_md 12, .int), (cA_md 13, .int)]) (wu := fun (u : SModel) => (uw_Model ad_md cA_md u)) (wn := fun (u : SModel) => (uw_Model ad_md cA_md u)) [0, 1, 2, 3, 4, 5, 6, 7, 8, 9, 10, 11, 12, 13] [] [0, 1, 2, 3, 4, 5, 6, 7, 8, 9, 10, 11, 12, 13] [0, 1, 2, 3, 4, 5, 6, 7, 8, 9, 10, 11, 12] hP hD hS hA hK rfl rfl (by decide +kernel) (by decide +kernel) (by decide +kernel) rfl (fun _ => rfl) (by decide +kernel) (fun hPc hKc hDc => (va_runV (As := [.int (64 : Int32)]) (rest := []) ⟨hx, hb, hml, hown, hts⟩ (k_Model_take l dC dI ad_md cA_md H.size (u5.2.1, u5.2.2.1, (u5.2.2.2.1.1, u5.2.2.2.1.2.1, upd u5.2.2.2.1.2.2 (x1 + (3 : Int32)).toNatClampNeg u5.1), u5.2.2.2.2.1, u5.2.2.2.2.2.1, u5.2.2.2.2.2.2.1, u5.2.2.2.2.2.2.2.1, u5.2.2.2.2.2.2.2.2.1, u5.2.2.2.2.2.2.2.2.2) (64 : Int32) u7 hu7) (cwV 1 hts (gV wd_886 wd_888 wd_30 wd_49 wd_889) rfl rfl rfl (by decide +kernel) ⟨Nat.le_of_ble_eq_true rfl, Nat.le_of_ble_eq_true rfl⟩) (cl_preV hPc hKc hDc hN (ci := 6) 0 rfl rfl) rfl rfl hl.1 rfl (lv_room (Nat.le_of_ble_eq_true rfl)) d_Model_due_47 ⟨Nat.le_of_ble_eq_true rfl, Nat.le_of_ble_eq_true rfl⟩)) (fun u H locs hw hP hD hS => ?_)
  have hw := hw.symm
  subst hw
  have hP : va_P (dC, dI) vwCl (uw_Model ad_md cA_md u7) H := hP
  have hD : va_D A (uw_Model ad_md cA_md u7) := hD
  refine lv_iconst (v := (0 : Int32)) hx hb d_Model_due_50 (by decide) ?_
  refine lv_istore_n (lv' := [(2, .int (0 : Int32)), (0, .ref (ad_md 0)), (1, .int x1)]) hx hb d_Model_due_51 rfl hl (by decide) rfl (fun ls hl => ?_)
  exact w_52 4096 u7 x1 (0 : Int32) H locs ls hf hP hD hS (lv_sub hl [1, 2, 0] rfl)
