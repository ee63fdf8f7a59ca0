noncomputable def f_Model_due_67 (k_52 : SModel → Int32 → Int32 → Option (SModel)) (md : SModel) (y1 : Int32) (y2 : Int32) : Option (SModel) :=
  (Option.bind (f_Model_number md (0 : Int32) (9999 : Int32)) fun u11 =>
    (if inb ((y1 + (4 : Int32)) + y2) 559 then
      (k_52 (u11.2.1, u11.2.2.1, (u11.2.2.2.1.1, u11.2.2.2.1.2.1, upd u11.2.2.2.1.2.2 ((y1 + (4 : Int32)) + y2).toNatClampNeg u11.1), u11.2.2.2.2.1, u11.2.2.2.2.2.1, u11.2.2.2.2.2.2.1, u11.2.2.2.2.2.2.2.1, u11.2.2.2.2.2.2.2.2.1, u11.2.2.2.2.2.2.2.2.2) y1 (y2 + (1 : Int32)))
     else none)
   )
noncomputable def f_Model_due_52  : Nat → SModel → Int32 → Int32 → Option (SModel)
  | 0, _, _, _ => none
  | n + 1, md, y1, y2 =>
    (if (4 : Int32) ≤ y2 then
      (some md)
     else
      (if y2 ≤ 0 then
        (f_Model_due_67 (f_Model_due_52 n) md y1 y2)
       else
        (Option.bind (f_Model_take md (44 : Int32)) fun u10 =>
          (f_Model_due_67 (f_Model_due_52 n) u10 y1 y2)
         )
       )
     )
noncomputable def f_Model_due (md : SModel) (x1 : Int32) : Option (SModel) :=
  (Option.bind (f_Model_take md (114 : Int32)) fun u1 =>
    (Option.bind (f_Model_number u1 (0 : Int32) (9 : Int32)) fun u2 =>
      (if inb (x1 + (2 : Int32)) 559 then
        (Option.bind (f_Model_take (u2.2.1, u2.2.2.1, (u2.2.2.2.1.1, u2.2.2.2.1.2.1, upd u2.2.2.2.1.2.2 (x1 + (2 : Int32)).toNatClampNeg u2.1), u2.2.2.2.2.1, u2.2.2.2.2.2.1, u2.2.2.2.2.2.2.1, u2.2.2.2.2.2.2.2.1, u2.2.2.2.2.2.2.2.2.1, u2.2.2.2.2.2.2.2.2.2) (103 : Int32)) fun u4 =>
          (Option.bind (f_Model_rising u4 (97 : Int32) (104 : Int32) (4 : Int32)) fun u5 =>
            (if inb (x1 + (3 : Int32)) 559 then
              (Option.bind (f_Model_take (u5.2.1, u5.2.2.1, (u5.2.2.2.1.1, u5.2.2.2.1.2.1, upd u5.2.2.2.1.2.2 (x1 + (3 : Int32)).toNatClampNeg u5.1), u5.2.2.2.2.1, u5.2.2.2.2.2.1, u5.2.2.2.2.2.2.1, u5.2.2.2.2.2.2.2.1, u5.2.2.2.2.2.2.2.2.1, u5.2.2.2.2.2.2.2.2.2) (64 : Int32)) fun u7 =>
                (f_Model_due_52 4096 u7 x1 (0 : Int32))
               )
             else none)
           )
         )
       else none)
     )
   )
set_option maxHeartbeats 4000000 in
set_option maxRecDepth 100000 in
theorem k_Model_due (l : Launch) (dC : Nat → ClassId) (dI : Nat → Nat → Nat) (ad_md : Nat → Nat) (cA_md : Nat → ClassId) (sz : Nat) (md : SModel) (x1 : Int32) (res : SModel) (hf : f_Model_due md x1 = some res) : Met l y_Model_due w_Model_due ({ frames := 3, cells := 0, slots := 0, locals := 67 }) (cPc (dC, dI) (uw_Model ad_md cA_md md) [(cA_md 1, .int), (cA_md 2, .int), (cA_md 3, .int), (cA_md 4, .int), (cA_md 5, .int), (cA_md 6, .int), (cA_md 7, .int), (cA_md 8, .int), (cA_md 9, .boolean), (cA_md 10, .int), (cA_md 11, .int), (cA_md 12, .int), (cA_md 13, .int)] sz [.ref (ad_md 0), .int x1]) (va_Qv (fun (u : SModel) => u = res) (fun (u : SModel) (t : State) => va_P (dC, dI) vwCl (uw_Model ad_md cA_md u) t.heap ∧ va_K (dC, dI) vwCl [(cA_md 1, .int), (cA_md 2, .int), (cA_md 3, .int), (cA_md 4, .int), (cA_md 5, .int), (cA_md 6, .int), (cA_md 7, .int), (cA_md 8, .int), (cA_md 9, .boolean), (cA_md 10, .int), (cA_md 11, .int), (cA_md 12, .int), (cA_md 13, .int)] t ∧ va_D (va_A (uw_Model ad_md cA_md md) sz) (uw_Model ad_md cA_md u)) (va_A (uw_Model ad_md cA_md md) sz)) 0 0 (va_A (uw_Model ad_md cA_md md) sz) := by
  refine Met.ofW (cc := b_Model_due) (maxL := 3) (ret := none) (by decide) rfl ?_
  intro p e s m args below meth c s₁ B hml hv
  obtain ⟨rfl, hsz, hP, hK, hD0, hN⟩ := hv
  have hx := B.exec
  have hb := B.bytes
  have hr := B.returns
  have hts := atoms_spec (ws := w_Model_due) B.pre
  have hown : s.vm.findClass "HazardTablesModel" = some m.cls := findClass_of_methodNamed B.named
  have hlocks := B.notSynchronized
  subst hsz
  have hD := hD0.self (sz := s.heap.size)
  generalize hAe : va_A (uw_Model ad_md cA_md md) s.heap.size = A at hD ⊢
  have hA : ∀ q : Nat, s.heap.size ≤ q → A q := fun q h => by rw [← hAe]; exact Or.inr h
  have hS : va_S A s.heap s.heap [] := va_S.rf
  have hP : va_P (dC, dI) vwCl (uw_Model ad_md cA_md md) s.heap := hP
  have fl_20 := (hts _ (List.mem_cons_of_mem _ wd_757))
  have hin_Model : ∀ w ∈ u_ws "HazardTablesModel" F_Model 30, w ∈ w_Model_due := fun w h => List.mem_cons_of_mem _ (hinA_Model w h)
  have ret : ∀ (u : SModel) (H : Heap) (locs : List Loc) (ls : Array Slot) (pc : Nat), decode b_Model_due pc = .ok (.return_, 1) → u = res → va_P (dC, dI) vwCl (uw_Model ad_md cA_md u) H → va_D A (uw_Model ad_md cA_md u) → va_S A s.heap H locs → W p l e (headSpec w_Model_due ({ frames := 3, cells := 0, slots := 0, locals := 67 })).room s m ([.ref (ad_md 0), .int x1] : List Value).toArray below meth c H locs 0 0 (MQ below (va_Qv (fun (u : SModel) => u = res) (fun (u : SModel) (t : State) => va_P (dC, dI) vwCl (uw_Model ad_md cA_md u) t.heap ∧ va_K (dC, dI) vwCl [(cA_md 1, .int), (cA_md 2, .int), (cA_md 3, .int), (cA_md 4, .int), (cA_md 5, .int), (cA_md 6, .int), (cA_md 7, .int), (cA_md 8, .int), (cA_md 9, .boolean), (cA_md 10, .int), (cA_md 11, .int), (cA_md 12, .int), (cA_md 13, .int)] t ∧ va_D A (uw_Model ad_md cA_md u)) A) ([.ref (ad_md 0), .int x1] : List Value).toArray s 0 0 A) (F0 m pc ls []) := fun u H locs ls pc hd hp hP hD hS => W.vret hx hb hr (fun t ht hW => ⟨⟨u, rfl, hp, by rw [ht]; exact hP, va_K.moved hW.alike hK, hD⟩, hS.F ht⟩) hS.2.2 hd
  generalize (MQ below (va_Qv (fun (u : SModel) => u = res) (fun (u : SModel) (t : State) => va_P (dC, dI) vwCl (uw_Model ad_md cA_md u) t.heap ∧ va_K (dC, dI) vwCl [(cA_md 1, .int), (cA_md 2, .int), (cA_md 3, .int), (cA_md 4, .int), (cA_md 5, .int), (cA_md 6, .int), (cA_md 7, .int), (cA_md 8, .int), (cA_md 9, .boolean), (cA_md 10, .int), (cA_md 11, .int), (cA_md 12, .int), (cA_md 13, .int)] t ∧ va_D A (uw_Model ad_md cA_md u)) A) ([.ref (ad_md 0), .int x1] : List Value).toArray s 0 0 A) = Q at ret ⊢
  have w_67 : ∀ (k_52 : SModel → Int32 → Int32 → Option (SModel)), (∀ (md : SModel) (y1 : Int32) (y2 : Int32) (H : Heap) (locs : List Loc) (ls : Array Slot), k_52 md y1 y2 = some res → va_P (dC, dI) vwCl (uw_Model ad_md cA_md md) H → va_D A (uw_Model ad_md cA_md md) → va_S A s.heap H locs → lv_has ls 3 [(0, .ref (ad_md 0)), (1, .int y1), (2, .int y2)] → W p l e (headSpec w_Model_due ({ frames := 3, cells := 0, slots := 0, locals := 67 })).room s m ([.ref (ad_md 0), .int x1] : List Value).toArray below meth c H locs 0 0 Q (F0 m 52 ls [])) → ∀ (md : SModel) (y1 : Int32) (y2 : Int32) (H : Heap) (locs : List Loc) (ls : Array Slot), f_Model_due_67 k_52 md y1 y2 = some res → va_P (dC, dI) vwCl (uw_Model ad_md cA_md md) H → va_D A (uw_Model ad_md cA_md md) → va_S A s.heap H locs → lv_has ls 3 [(0, .ref (ad_md 0)), (1, .int y1), (2, .int y2)] → W p l e (headSpec w_Model_due ({ frames := 3, cells := 0, slots := 0, locals := 67 })).room s m ([.ref (ad_md 0), .int x1] : List Value).toArray below meth c H locs 0 0 Q (F0 m 67 ls []) := by
    intro k_52 hk_52
    intro md y1 y2 H locs ls hf hP hD hS hl
    rw [f_Model_due_67] at hf
    refine lv_aload_n hx hb d_Model_due_67 rfl (lv_at hl 0 rfl) ?_
    refine va_get (D := (dC, dI)) (ci := 6) (v := .ref (ad_md 3)) (C := "HazardTablesModel") (T := F_Model) (N := 30) hx hb hts hin_Model hown hK hP 0 rfl rfl 9 (by decide) fl_20 (fun _ h9 => h9) rfl d_Model_due_68 ?_
    refine lv_iload_n hx hb d_Model_due_71 rfl (lv_at hl 1 rfl) ?_
    refine lv_iconst (v := (4 : Int32)) hx hb d_Model_due_72 (by decide) ?_
    refine lv_iadd hx hb d_Model_due_73 ?_
    refine lv_iload_n hx hb d_Model_due_74 rfl (lv_at hl 2 rfl) ?_
    refine lv_iadd hx hb d_Model_due_75 ?_
    refine lv_aload_n hx hb d_Model_due_76 rfl (lv_at hl 0 rfl) ?_
    refine lv_iconst (v := (0 : Int32)) hx hb d_Model_due_77 (by decide) ?_
    refine lv_sipush (v := (9999 : Int32)) hx hb d_Model_due_78 (by decide) ?_
    obtain ⟨u11, hu11, hf⟩ := Option.bind_eq_some_iff.mp hf
    refine cl_i (wc := (uw_Model ad_md cA_md md)) (wr := []) (tysC := [(cA_md 1, .int), (cA_md 2, .int), (cA_md 3, .int), (cA_md 4, .int), (cA_md 5, .int), (cA_md 6, .int), (cA_md 7, .int), (cA_md 8, .int), (cA_md 9, .boolean), (cA_md 10, .int), (cA_md 11, .int), (cA_md 12, .int), (cA_md 13, .int)]) (wu := fun (u : SModel) => (uw_Model ad_md cA_md u)) (wn := fun (u : SModel) => (uw_Model ad_md cA_md u)) [0, 1, 2, 3, 4, 5, 6, 7, 8, 9, 10, 11, 12, 13] [] [0, 1, 2, 3, 4, 5, 6, 7, 8, 9, 10, 11, 12, 13] [0, 1, 2, 3, 4, 5, 6, 7, 8, 9, 10, 11, 12] hP hD hS hA hK rfl rfl (by decide +kernel) (by decide +kernel) (by decide +kernel) rfl (fun _ => rfl) (by decide +kernel) (fun hPc hKc hDc => (va_runV (As := [.int (0 : Int32), .int (9999 : Int32)]) (rest := [.int ((y1 + (4 : Int32)) + y2), .ref (ad_md 3)]) ⟨hx, hb, hml, hown, hts⟩ (k_Model_number l dC dI ad_md cA_md H.size md (0 : Int32) (9999 : Int32) u11 hu11) (cwV 2 hts (gV wd_874 wd_876 wd_27 wd_49 wd_877) rfl rfl rfl (by decide +kernel) ⟨Nat.le_of_ble_eq_true rfl, Nat.le_of_ble_eq_true rfl⟩) (cl_preV hPc hKc hDc hN (ci := 6) 0 rfl rfl) rfl rfl hl.1 rfl (lv_room (Nat.le_of_ble_eq_true rfl)) d_Model_due_81 ⟨Nat.le_of_ble_eq_true rfl, Nat.le_of_ble_eq_true rfl⟩)) (fun r u H locs hw hP hD hS => ?_)
    obtain ⟨hw1, hw2⟩ := hw
    have hw1 := hw1.symm
    have hw2 := hw2.symm
    subst hw1
    subst hw2
    have hP : va_P (dC, dI) vwCl (uw_Model ad_md cA_md u11.2) H := hP
    have hD : va_D A (uw_Model ad_md cA_md u11.2) := hD
    obtain ⟨hi12, hf⟩ := hf_g hf
    refine va_iast hx hb hK hP hD hS 3 2 rfl rfl hi12 d_Model_due_84 (fun H locs hP hD hS => ?_)
    have hP : va_P (dC, dI) vwCl (uw_Model ad_md cA_md (u11.2.1, u11.2.2.1, (u11.2.2.2.1.1, u11.2.2.2.1.2.1, upd u11.2.2.2.1.2.2 ((y1 + (4 : Int32)) + y2).toNatClampNeg u11.1), u11.2.2.2.2.1, u11.2.2.2.2.2.1, u11.2.2.2.2.2.2.1, u11.2.2.2.2.2.2.2.1, u11.2.2.2.2.2.2.2.2.1, u11.2.2.2.2.2.2.2.2.2)) H := hP
    have hD : va_D A (uw_Model ad_md cA_md (u11.2.1, u11.2.2.1, (u11.2.2.2.1.1, u11.2.2.2.1.2.1, upd u11.2.2.2.1.2.2 ((y1 + (4 : Int32)) + y2).toNatClampNeg u11.1), u11.2.2.2.2.1, u11.2.2.2.2.2.1, u11.2.2.2.2.2.2.1, u11.2.2.2.2.2.2.2.1, u11.2.2.2.2.2.2.2.2.1, u11.2.2.2.2.2.2.2.2.2)) := hD
    refine lv_iinc (v := y2 + (1 : Int32)) (lv' := [(2, .int (y2 + (1 : Int32))), (0, .ref (ad_md 0)), (1, .int y1)]) hx hb d_Model_due_85 hl (k := 2) rfl rfl (by decide) rfl (fun ls hl => ?_)
    refine lv_goto (tgt := 52) hx hb d_Model_due_88 (by decide) ?_
    exact hk_52 (u11.2.1, u11.2.2.1, (u11.2.2.2.1.1, u11.2.2.2.1.2.1, upd u11.2.2.2.1.2.2 ((y1 + (4 : Int32)) + y2).toNatClampNeg u11.1), u11.2.2.2.2.1, u11.2.2.2.2.2.1, u11.2.2.2.2.2.2.1, u11.2.2.2.2.2.2.2.1, u11.2.2.2.2.2.2.2.2.1, u11.2.2.2.2.2.2.2.2.2) y1 (y2 + (1 : Int32)) H locs ls hf hP hD hS (lv_sub hl [1, 2, 0] rfl)
  have w_52 : ∀ (n : Nat) (md : SModel) (y1 : Int32) (y2 : Int32) (H : Heap) (locs : List Loc) (ls : Array Slot), f_Model_due_52 n md y1 y2 = some res → va_P (dC, dI) vwCl (uw_Model ad_md cA_md md) H → va_D A (uw_Model ad_md cA_md md) → va_S A s.heap H locs → lv_has ls 3 [(0, .ref (ad_md 0)), (1, .int y1), (2, .int y2)] → W p l e (headSpec w_Model_due ({ frames := 3, cells := 0, slots := 0, locals := 67 })).room s m ([.ref (ad_md 0), .int x1] : List Value).toArray below meth c H locs 0 0 Q (F0 m 52 ls []) := by
    intro n
    induction n with
    | zero =>
      intro md y1 y2 H locs ls hf hP hD hS hl
      rw [f_Model_due_52] at hf; cases hf
    | succ n ih =>
      intro md y1 y2 H locs ls hf hP hD hS hl
      rw [f_Model_due_52] at hf
      refine lv_iload_n hx hb d_Model_due_52 rfl (lv_at hl 2 rfl) ?_
      refine lv_iconst (v := (4 : Int32)) hx hb d_Model_due_53 (by decide) ?_
      refine lv_icmp_ge (tgt := 91) hx hb d_Model_due_54 (by decide) (fun hc8 => ?_) (fun hc8 => ?_)
      · have hf := hf_t hf hc8
        exact ret  md H locs ls 91 d_Model_due_91 (Option.some.inj hf) hP hD hS
      · have hf := hf_f hf hc8
        refine lv_iload_n hx hb d_Model_due_57 rfl (lv_at hl 2 rfl) ?_
        refine lv_if_le (tgt := 67) hx hb d_Model_due_58 (by decide) (fun hc9 => ?_) (fun hc9 => ?_)
        · have hf := hf_t hf hc9
          exact w_67 (f_Model_due_52 n) ih md y1 y2 H locs ls hf hP hD hS (lv_sub hl [0, 1, 2] rfl)
        · have hf := hf_f hf hc9
          refine lv_aload_n hx hb d_Model_due_61 rfl (lv_at hl 0 rfl) ?_
          refine lv_bipush (v := (44 : Int32)) hx hb d_Model_due_62 (by decide) ?_
          obtain ⟨u10, hu10, hf⟩ := Option.bind_eq_some_iff.mp hf
          refine cl_v (wc := (uw_Model ad_md cA_md md)) (wr := []) (tysC := [(cA_md 1, .int), (cA_md 2, .int), (cA_md 3, .int), (cA_md 4, .int), (cA_md 5, .int), (cA_md 6, .int), (cA_md 7, .int), (cA_md 8, .int), (cA_md 9, .boolean), (cA_md 10, .int), (cA_md 11, .int), (cA_md 12, .int), (cA_md 13, .int)]) (wu := fun (u : SModel) => (uw_Model ad_md cA_md u)) (wn := fun (u : SModel) => (uw_Model ad_md cA_md u)) [0, 1, 2, 3, 4, 5, 6, 7, 8, 9, 10, 11, 12, 13] [] [0, 1, 2, 3, 4, 5, 6, 7, 8, 9, 10, 11, 12, 13] [0, 1, 2, 3, 4, 5, 6, 7, 8, 9, 10, 11, 12] hP hD hS hA hK rfl rfl (by decide +kernel) (by decide +kernel) (by decide +kernel) rfl (fun _ => rfl) (by decide +kernel) (fun hPc hKc hDc => (va_runV (As := [.int (44 : Int32)]) (rest := []) ⟨hx, hb, hml, hown, hts⟩ (k_Model_take l dC dI ad_md cA_md H.size md (44 : Int32) u10 hu10) (cwV 1 hts (gV wd_886 wd_888 wd_30 wd_49 wd_889) rfl rfl rfl (by decide +kernel) ⟨Nat.le_of_ble_eq_true rfl, Nat.le_of_ble_eq_true rfl⟩) (cl_preV hPc hKc hDc hN (ci := 6) 0 rfl rfl) rfl rfl hl.1 rfl (lv_room (Nat.le_of_ble_eq_true rfl)) d_Model_due_64 ⟨Nat.le_of_ble_eq_true rfl, Nat.le_of_ble_eq_true rfl⟩)) (fun u H locs hw hP hD hS => ?_)
          have hw := hw.symm
          subst hw
          have hP : va_P (dC, dI) vwCl (uw_Model ad_md cA_md u10) H := hP
          have hD : va_D A (uw_Model ad_md cA_md u10) := hD
          exact w_67 (f_Model_due_52 n) ih u10 y1 y2 H locs ls hf hP hD hS (lv_sub hl [0, 1, 2] rfl)
  have hl := lv_entry ([.ref (ad_md 0), .int x1]) (n := 3) (Nat.le_of_ble_eq_true rfl)
  rw [lg_entry_eq]
  generalize (lg_sl ([.ref (ad_md 0), .int x1]) ++ List.replicate (3 - (lg_sl ([.ref (ad_md 0), .int x1])).length) Slot.unset).toArray = ls at hl ⊢
  have hl : lv_has ls 3 [(0, .ref (ad_md 0)), (1, .int x1)] := hl
  have hf := hf
  rw [f_Model_due] at hf
  obtain ⟨H, hH⟩ : ∃ H : Heap, H = s.heap := ⟨_, rfl⟩
  obtain ⟨locs, hlocs⟩ : ∃ L : List Loc, L = [] := ⟨_, rfl⟩
  have hP : va_P (dC, dI) vwCl (uw_Model ad_md cA_md md) H := by rw [hH]; exact hP
  have hS : va_S A s.heap H locs := by rw [hH, hlocs]; exact hS
  show W p l e (headSpec w_Model_due ({ frames := 3, cells := 0, slots := 0, locals := 67 })).room s m ([.ref (ad_md 0), .int x1] : List Value).toArray below meth c s.heap [] 0 0 Q (F0 m 0 ls [])
  suffices hgo : W p l e (headSpec w_Model_due ({ frames := 3, cells := 0, slots := 0, locals := 67 })).room s m ([.ref (ad_md 0), .int x1] : List Value).toArray below meth c H locs 0 0 Q (F0 m 0 ls []) by rw [hH, hlocs] at hgo; exact hgo
  clear hH hlocs
  refine lv_aload_n hx hb d_Model_due_0 rfl (lv_at hl 0 rfl) ?_
  refine lv_bipush (v := (114 : Int32)) hx hb d_Model_due_1 (by decide) ?_
  obtain ⟨u1, hu1, hf⟩ := Option.bind_eq_some_iff.mp hf
  refine cl_v (wc := (uw_Model ad_md cA_md md)) (wr := []) (tysC := [(cA_md 1, .int), (cA_md 2, .int), (cA_md 3, .int), (cA_md 4, .int), (cA_md 5, .int), (cA_md 6, .int), (cA_md 7, .int), (cA_md 8, .int), (cA_md 9, .boolean), (cA_md 10, .int), (cA_md 11, .int), (cA_md 12, .int), (cA_md 13, .int)]) (wu := fun (u : SModel) => (uw_Model ad_md cA_md u)) (wn := fun (u : SModel) => (uw_Model ad_md cA_md u)) [0, 1, 2, 3, 4, 5, 6, 7, 8, 9, 10, 11, 12, 13] [] [0, 1, 2, 3, 4, 5, 6, 7, 8, 9, 10, 11, 12, 13] [0, 1, 2, 3, 4, 5, 6, 7, 8, 9, 10, 11, 12] hP hD hS hA hK rfl rfl (by decide +kernel) (by decide +kernel) (by decide +kernel) rfl (fun _ => rfl) (by decide +kernel) (fun hPc hKc hDc => (va_runV (As := [.int (114 : Int32)]) (rest := []) ⟨hx, hb, hml, hown, hts⟩ (k_Model_take l dC dI ad_md cA_md H.size md (114 : Int32) u1 hu1) (cwV 1 hts (gV wd_886 wd_888 wd_30 wd_49 wd_889) rfl rfl rfl (by decide +kernel) ⟨Nat.le_of_ble_eq_true rfl, Nat.le_of_ble_eq_true rfl⟩) (cl_preV hPc hKc hDc hN (ci := 6) 0 rfl rfl) rfl rfl hl.1 rfl (lv_room (Nat.le_of_ble_eq_true rfl)) d_Model_due_3 ⟨Nat.le_of_ble_eq_true rfl, Nat.le_of_ble_eq_true rfl⟩)) (fun u H locs hw hP hD hS => ?_)
  have hw := hw.symm
  subst hw
  have hP : va_P (dC, dI) vwCl (uw_Model ad_md cA_md u1) H := hP
  have hD : va_D A (uw_Model ad_md cA_md u1) := hD
  refine lv_aload_n hx hb d_Model_due_6 rfl (lv_at hl 0 rfl) ?_
  refine va_get (D := (dC, dI)) (ci := 6) (v := .ref (ad_md 3)) (C := "HazardTablesModel") (T := F_Model) (N := 30) hx hb hts hin_Model hown hK hP 0 rfl rfl 9 (by decide) fl_20 (fun _ h9 => h9) rfl d_Model_due_7 ?_
  refine lv_iload_n hx hb d_Model_due_10 rfl (lv_at hl 1 rfl) ?_
  refine lv_iconst (v := (2 : Int32)) hx hb d_Model_due_11 (by decide) ?_
  refine lv_iadd hx hb d_Model_due_12 ?_
  refine lv_aload_n hx hb d_Model_due_13 rfl (lv_at hl 0 rfl) ?_
  refine lv_iconst (v := (0 : Int32)) hx hb d_Model_due_14 (by decide) ?_
  refine lv_bipush (v := (9 : Int32)) hx hb d_Model_due_15 (by decide) ?_
  obtain ⟨u2, hu2, hf⟩ := Option.bind_eq_some_iff.mp hf
  refine cl_i (wc := (uw_Model ad_md cA_md u1)) (wr := []) (tysC := [(cA_md 1, .int), (cA_md 2, .int), (cA_md 3, .int), (cA_md 4, .int), (cA_md 5, .int), (cA_md 6, .int), (cA_md 7, .int), (cA_md 8, .int), (cA_md 9, .boolean), (cA_md 10, .int), (cA_md 11, .int), (cA_md 12, .int), (cA_md 13, .int)]) (wu := fun (u : SModel) => (uw_Model ad_md cA_md u)) (wn := fun (u : SModel) => (uw_Model ad_md cA_md u)) [0, 1, 2, 3, 4, 5, 6, 7, 8, 9, 10, 11, 12, 13] [] [0, 1, 2, 3, 4, 5, 6, 7, 8, 9, 10, 11, 12, 13] [0, 1, 2, 3, 4, 5, 6, 7, 8, 9, 10, 11, 12] hP hD hS hA hK rfl rfl (by decide +kernel) (by decide +kernel) (by decide +kernel) rfl (fun _ => rfl) (by decide +kernel) (fun hPc hKc hDc => (va_runV (As := [.int (0 : Int32), .int (9 : Int32)]) (rest := [.int (x1 + (2 : Int32)), .ref (ad_md 3)]) ⟨hx, hb, hml, hown, hts⟩ (k_Model_number l dC dI ad_md cA_md H.size u1 (0 : Int32) (9 : Int32) u2 hu2) (cwV 2 hts (gV wd_874 wd_876 wd_27 wd_49 wd_877) rfl rfl rfl (by decide +kernel) ⟨Nat.le_of_ble_eq_true rfl, Nat.le_of_ble_eq_true rfl⟩) (cl_preV hPc hKc hDc hN (ci := 6) 0 rfl rfl) rfl rfl hl.1 rfl (lv_room (Nat.le_of_ble_eq_true rfl)) d_Model_due_17 ⟨Nat.le_of_ble_eq_true rfl, Nat.le_of_ble_eq_true rfl⟩)) (fun r u H locs hw hP hD hS => ?_)
  obtain ⟨hw1, hw2⟩ := hw
  have hw1 := hw1.symm
  have hw2 := hw2.symm
  subst hw1
  subst hw2
  have hP : va_P (dC, dI) vwCl (uw_Model ad_md cA_md u2.2) H := hP
  have hD : va_D A (uw_Model ad_md cA_md u2.2) := hD
  obtain ⟨hi3, hf⟩ := hf_g hf
  refine va_iast hx hb hK hP hD hS 3 2 rfl rfl hi3 d_Model_due_20 (fun H locs hP hD hS => ?_)
  have hP : va_P (dC, dI) vwCl (uw_Model ad_md cA_md (u2.2.1, u2.2.2.1, (u2.2.2.2.1.1, u2.2.2.2.1.2.1, upd u2.2.2.2.1.2.2 (x1 + (2 : Int32)).toNatClampNeg u2.1), u2.2.2.2.2.1, u2.2.2.2.2.2.1, u2.2.2.2.2.2.2.1, u2.2.2.2.2.2.2.2.1, u2.2.2.2.2.2.2.2.2.1, u2.2.2.2.2.2.2.2.2.2)) H := hP
  have hD : va_D A (uw_Model ad_md cA_md (u2.2.1, u2.2.2.1, (u2.2.2.2.1.1, u2.2.2.2.1.2.1, upd u2.2.2.2.1.2.2 (x1 + (2 : Int32)).toNatClampNeg u2.1), u2.2.2.2.2.1, u2.2.2.2.2.2.1, u2.2.2.2.2.2.2.1, u2.2.2.2.2.2.2.2.1, u2.2.2.2.2.2.2.2.2.1, u2.2.2.2.2.2.2.2.2.2)) := hD
  refine lv_aload_n hx hb d_Model_due_21 rfl (lv_at hl 0 rfl) ?_
  refine lv_bipush (v := (103 : Int32)) hx hb d_Model_due_22 (by decide) ?_
  obtain ⟨u4, hu4, hf⟩ := Option.bind_eq_some_iff.mp hf
  refine cl_v (wc := (uw_Model ad_md cA_md (u2.2.1, u2.2.2.1, (u2.2.2.2.1.1, u2.2.2.2.1.2.1, upd u2.2.2.2.1.2.2 (x1 + (2 : Int32)).toNatClampNeg u2.1), u2.2.2.2.2.1, u2.2.2.2.2.2.1, u2.2.2.2.2.2.2.1, u2.2.2.2.2.2.2.2.1, u2.2.2.2.2.2.2.2.2.1, u2.2.2.2.2.2.2.2.2.2))) (wr := []) (tysC := [(cA_md 1, .int), (cA_md 2, .int), (cA_md 3, .int), (cA_md 4, .int), (cA_md 5, .int), (cA_md 6, .int), (cA_md 7, .int), (cA_md 8, .int), (cA_md 9, .boolean), (cA_md 10, .int), (cA_md 11, .int), (cA_md 12, .int), (cA_md 13, .int)]) (wu := fun (u : SModel) => (uw_Model ad_md cA_md u)) (wn := fun (u : SModel) => (uw_Model ad_md cA_md u)) [0, 1, 2, 3, 4, 5, 6, 7, 8, 9, 10, 11, 12, 13] [] [0, 1, 2, 3, 4, 5, 6, 7, 8, 9, 10, 11, 12, 13] [0, 1, 2, 3, 4, 5, 6, 7, 8, 9, 10, 11, 12] hP hD hS hA hK rfl rfl (by decide +kernel) (by decide +kernel) (by decide +kernel) rfl (fun _ => rfl) (by decide +kernel) (fun hPc hKc hDc => (va_runV (As := [.int (103 : Int32)]) (rest := []) ⟨hx, hb, hml, hown, hts⟩ (k_Model_take l dC dI ad_md cA_md H.size (u2.2.1, u2.2.2.1, (u2.2.2.2.1.1, u2.2.2.2.1.2.1, upd u2.2.2.2.1.2.2 (x1 + (2 : Int32)).toNatClampNeg u2.1), u2.2.2.2.2.1, u2.2.2.2.2.2.1, u2.2.2.2.2.2.2.1, u2.2.2.2.2.2.2.2.1, u2.2.2.2.2.2.2.2.2.1, u2.2.2.2.2.2.2.2.2.2) (103 : Int32) u4 hu4) (cwV 1 hts (gV wd_886 wd_888 wd_30 wd_49 wd_889) rfl rfl rfl (by decide +kernel) ⟨Nat.le_of_ble_eq_true rfl, Nat.le_of_ble_eq_true rfl⟩) (cl_preV hPc hKc hDc hN (ci := 6) 0 rfl rfl) rfl rfl hl.1 rfl (lv_room (Nat.le_of_ble_eq_true rfl)) d_Model_due_24 ⟨Nat.le_of_ble_eq_true rfl, Nat.le_of_ble_eq_true rfl⟩)) (fun u H locs hw hP hD hS => ?_)
  have hw := hw.symm
  subst hw
  have hP : va_P (dC, dI) vwCl (uw_Model ad_md cA_md u4) H := hP
  have hD : va_D A (uw_Model ad_md cA_md u4) := hD
  refine lv_aload_n hx hb d_Model_due_27 rfl (lv_at hl 0 rfl) ?_
  refine va_get (D := (dC, dI)) (ci := 6) (v := .ref (ad_md 3)) (C := "HazardTablesModel") (T := F_Model) (N := 30) hx hb hts hin_Model hown hK hP 0 rfl rfl 9 (by decide) fl_20 (fun _ h9 => h9) rfl d_Model_due_28 ?_
  refine lv_iload_n hx hb d_Model_due_31 rfl (lv_at hl 1 rfl) ?_
  refine lv_iconst (v := (3 : Int32)) hx hb d_Model_due_32 (by decide) ?_
  refine lv_iadd hx hb d_Model_due_33 ?_
  refine lv_aload_n hx hb d_Model_due_34 rfl (lv_at hl 0 rfl) ?_
  refine lv_bipush (v := (97 : Int32)) hx hb d_Model_due_35 (by decide) ?_
  refine lv_bipush (v := (104 : Int32)) hx hb d_Model_due_37 (by decide) ?_
  refine lv_iconst (v := (4 : Int32)) hx hb d_Model_due_39 (by decide) ?_
  obtain ⟨u5, hu5, hf⟩ := Option.bind_eq_some_iff.mp hf
  refine cl_i (wc := (uw_Model ad_md cA_md u4)) (wr := []) (tysC := [(cA_md 1, .int), (cA_md 2, .int), (cA_md 3, .int), (cA_md 4, .int), (cA_md 5, .int), (cA_md 6, .int), (cA_md 7, .int), (cA_md 8, .int), (cA_md 9, .boolean), (cA_md 10, .int), (cA_md 11, .int), (cA_md 12, .int), (cA_md 13, .int)]) (wu := fun (u : SModel) => (uw_Model ad_md cA_md u)) (wn := fun (u : SModel) => (uw_Model ad_md cA_md u)) [0, 1, 2, 3, 4, 5, 6, 7, 8, 9, 10, 11, 12, 13] [] [0, 1, 2, 3, 4, 5, 6, 7, 8, 9, 10, 11, 12, 13] [0, 1, 2, 3, 4, 5, 6, 7, 8, 9, 10, 11, 12] hP hD hS hA hK rfl rfl (by decide +kernel) (by decide +kernel) (by decide +kernel) rfl (fun _ => rfl) (by decide +kernel) (fun hPc hKc hDc => (va_runV (As := [.int (97 : Int32), .int (104 : Int32), .int (4 : Int32)]) (rest := [.int (x1 + (3 : Int32)), .ref (ad_md 3)]) ⟨hx, hb, hml, hown, hts⟩ (k_Model_rising l dC dI ad_md cA_md H.size u4 (97 : Int32) (104 : Int32) (4 : Int32) u5 hu5) (cwV 3 hts (gV wd_894 wd_896 wd_32 wd_49 wd_897) rfl rfl rfl (by decide +kernel) ⟨Nat.le_of_ble_eq_true rfl, Nat.le_of_ble_eq_true rfl⟩) (cl_preV hPc hKc hDc hN (ci := 6) 0 rfl rfl) rfl rfl hl.1 rfl (lv_room (Nat.le_of_ble_eq_true rfl)) d_Model_due_40 ⟨Nat.le_of_ble_eq_true rfl, Nat.le_of_ble_eq_true rfl⟩)) (fun r u H locs hw hP hD hS => ?_)
  obtain ⟨hw1, hw2⟩ := hw
  have hw1 := hw1.symm
  have hw2 := hw2.symm
  subst hw1
  subst hw2
  have hP : va_P (dC, dI) vwCl (uw_Model ad_md cA_md u5.2) H := hP
  have hD : va_D A (uw_Model ad_md cA_md u5.2) := hD
  obtain ⟨hi6, hf⟩ := hf_g hf
  refine va_iast hx hb hK hP hD hS 3 2 rfl rfl hi6 d_Model_due_43 (fun H locs hP hD hS => ?_)
  have hP : va_P (dC, dI) vwCl (uw_Model ad_md cA_md (u5.2.1, u5.2.2.1, (u5.2.2.2.1.1, u5.2.2.2.1.2.1, upd u5.2.2.2.1.2.2 (x1 + (3 : Int32)).toNatClampNeg u5.1), u5.2.2.2.2.1, u5.2.2.2.2.2.1, u5.2.2.2.2.2.2.1, u5.2.2.2.2.2.2.2.1, u5.2.2.2.2.2.2.2.2.1, u5.2.2.2.2.2.2.2.2.2)) H := hP
  have hD : va_D A (uw_Model ad_md cA_md (u5.2.1, u5.2.2.1, (u5.2.2.2.1.1, u5.2.2.2.1.2.1, upd u5.2.2.2.1.2.2 (x1 + (3 : Int32)).toNatClampNeg u5.1), u5.2.2.2.2.1, u5.2.2.2.2.2.1, u5.2.2.2.2.2.2.1, u5.2.2.2.2.2.2.2.1, u5.2.2.2.2.2.2.2.2.1, u5.2.2.2.2.2.2.2.2.2)) := hD
  refine lv_aload_n hx hb d_Model_due_44 rfl (lv_at hl 0 rfl) ?_
  refine lv_bipush (v := (64 : Int32)) hx hb d_Model_due_45 (by decide) ?_
  obtain ⟨u7, hu7, hf⟩ := Option.bind_eq_some_iff.mp hf
  refine cl_v (wc := (uw_Model ad_md cA_md (u5.2.1, u5.2.2.1, (u5.2.2.2.1.1, u5.2.2.2.1.2.1, upd u5.2.2.2.1.2.2 (x1 + (3 : Int32)).toNatClampNeg u5.1), u5.2.2.2.2.1, u5.2.2.2.2.2.1, u5.2.2.2.2.2.2.1, u5.2.2.2.2.2.2.2.1, u5.2.2.2.2.2.2.2.2.1, u5.2.2.2.2.2.2.2.2.2))) (wr := []) (tysC := [(cA_md 1, .int), (cA_md 2, .int), (cA_md 3, .int), (cA_md 4, .int), (cA_md 5, .int), (cA_md 6, .int), (cA_md 7, .int), (cA_md 8, .int), (cA_md 9, .boolean), (cA_md 10, .int), (cA_md 11, .int), (cA_md 12, .int), (cA_md 13, .int)]) (wu := fun (u : SModel) => (uw_Model ad_md cA_md u)) (wn := fun (u : SModel) => (uw_Model ad_md cA_md u)) [0, 1, 2, 3, 4, 5, 6, 7, 8, 9, 10, 11, 12, 13] [] [0, 1, 2, 3, 4, 5, 6, 7, 8, 9, 10, 11, 12, 13] [0, 1, 2, 3, 4, 5, 6, 7, 8, 9, 10, 11, 12] hP hD hS hA hK rfl rfl (by decide +kernel) (by decide +kernel) (by decide +kernel) rfl (fun _ => rfl) (by decide +kernel) (fun hPc hKc hDc => (va_runV (As := [.int (64 : Int32)]) (rest := []) ⟨hx, hb, hml, hown, hts⟩ (k_Model_take l dC dI ad_md cA_md H.size (u5.2.1, u5.2.2.1, (u5.2.2.2.1.1, u5.2.2.2.1.2.1, upd u5.2.2.2.1.2.2 (x1 + (3 : Int32)).toNatClampNeg u5.1), u5.2.2.2.2.1, u5.2.2.2.2.2.1, u5.2.2.2.2.2.2.1, u5.2.2.2.2.2.2.2.1, u5.2.2.2.2.2.2.2.2.1, u5.2.2.2.2.2.2.2.2.2) (64 : Int32) u7 hu7) (cwV 1 hts (gV wd_886 wd_888 wd_30 wd_49 wd_889) rfl rfl rfl (by decide +kernel) ⟨Nat.le_of_ble_eq_true rfl, Nat.le_of_ble_eq_true rfl⟩) (cl_preV hPc hKc hDc hN (ci := 6) 0 rfl rfl) rfl rfl hl.1 rfl (lv_room (Nat.le_of_ble_eq_true rfl)) d_Model_due_47 ⟨Nat.le_of_ble_eq_true rfl, Nat.le_of_ble_eq_true rfl⟩)) (fun u H locs hw hP hD hS => ?_)
  have hw := hw.symm
  subst hw
  have hP : va_P (dC, dI) vwCl (uw_Model ad_md cA_md u7) H := hP
  have hD : va_D A (uw_Model ad_md cA_md u7) := hD
  refine lv_iconst (v := (0 : Int32)) hx hb d_Model_due_50 (by decide) ?_
  refine lv_istore_n (lv' := [(2, .int (0 : Int32)), (0, .ref (ad_md 0)), (1, .int x1)]) hx hb d_Model_due_51 rfl hl (by decide) rfl (fun ls hl => ?_)
  exact w_52 4096 u7 x1 (0 : Int32) H locs ls hf hP hD hS (lv_sub hl [1, 2, 0] rfl)
noncomputable def f_Model_materialRow_229  (md : SModel) : Option (SModel) :=
  (Option.bind (f_Model_take md (59 : Int32)) fun u28 =>
    (some (u28.1, u28.2.1, (u28.2.2.1.1 + (1 : Int32), u28.2.2.1.2.1, u28.2.2.1.2.2), u28.2.2.2.1, u28.2.2.2.2.1, u28.2.2.2.2.2.1, u28.2.2.2.2.2.2.1, u28.2.2.2.2.2.2.2.1, u28.2.2.2.2.2.2.2.2))
   )
noncomputable def f_Model_materialRow_147  (md : SModel) (y1 : Int32) : Option (SModel) :=
  (Option.bind (f_Model_take md (99 : Int32)) fun u18 =>
    (Option.bind (f_Model_number u18 (1 : Int32) (9 : Int32)) fun u19 =>
      (if inb (y1 + (1 : Int32)) 559 then
        (Option.bind (f_Model_due (u19.2.1, u19.2.2.1, (u19.2.2.2.1.1, u19.2.2.2.1.2.1, upd u19.2.2.2.1.2.2 (y1 + (1 : Int32)).toNatClampNeg u19.1), u19.2.2.2.2.1, u19.2.2.2.2.2.1, u19.2.2.2.2.2.2.1, u19.2.2.2.2.2.2.2.1, u19.2.2.2.2.2.2.2.2.1, u19.2.2.2.2.2.2.2.2.2) y1) fun u21 =>
          (if inb (y1 + (8 : Int32)) 559 then
            (if 0 ≤ u21.2.1.2.2.2 then
              (f_Model_materialRow_229 (u21.1, u21.2.1, (u21.2.2.1.1, u21.2.2.1.2.1, upd u21.2.2.1.2.2 (y1 + (8 : Int32)).toNatClampNeg (0 : Int32)), u21.2.2.2.1, u21.2.2.2.2.1, u21.2.2.2.2.2.1, u21.2.2.2.2.2.2.1, u21.2.2.2.2.2.2.2.1, u21.2.2.2.2.2.2.2.2))
             else
              (Option.bind (f_Model_see (u21.1, u21.2.1, (u21.2.2.1.1, u21.2.2.1.2.1, upd u21.2.2.1.2.2 (y1 + (8 : Int32)).toNatClampNeg (0 : Int32)), u21.2.2.2.1, u21.2.2.2.2.1, u21.2.2.2.2.2.1, u21.2.2.2.2.2.2.1, u21.2.2.2.2.2.2.2.1, u21.2.2.2.2.2.2.2.2)) fun u24 =>
                (if u24.1 = (120 : Int32) then
                  (Option.bind (f_Model_rising (u24.2.1, (u24.2.2.1.1, u24.2.2.1.2.1, u24.2.2.1.2.2.1 + (1 : Int32), u24.2.2.1.2.2.2), u24.2.2.2.1, u24.2.2.2.2.1, u24.2.2.2.2.2.1, u24.2.2.2.2.2.2.1, u24.2.2.2.2.2.2.2.1, u24.2.2.2.2.2.2.2.2.1, u24.2.2.2.2.2.2.2.2.2) (49 : Int32) (57 : Int32) (3 : Int32)) fun u26 =>
                    (if inb (y1 + (8 : Int32)) 559 then
                      (f_Model_materialRow_229 (u26.2.1, u26.2.2.1, (u26.2.2.2.1.1, u26.2.2.2.1.2.1, upd u26.2.2.2.1.2.2 (y1 + (8 : Int32)).toNatClampNeg (u26.1 <<< ((1 : Int32) &&& 31))), u26.2.2.2.2.1, u26.2.2.2.2.2.1, u26.2.2.2.2.2.2.1, u26.2.2.2.2.2.2.2.1, u26.2.2.2.2.2.2.2.2.1, u26.2.2.2.2.2.2.2.2.2))
                     else none)
                   )
                 else
                  (f_Model_materialRow_229 u24.2)
                 )
               )
             )
           else none)
         )
       else none)
     )
   )
noncomputable def f_Model_materialRow_110  : Nat → SModel → Int32 → Option (SModel)
  | 0, _, _ => none
  | n + 1, md, y1 =>
    (if 0 ≤ md.2.1.2.2.2 then
      (f_Model_materialRow_147 md y1)
     else
      (if inb (y1 + (9 : Int32)) 559 then
        (if (3 : Int32) ≤ (md.2.2.1.2.2 (y1 + (9 : Int32)).toNatClampNeg) then
          (f_Model_materialRow_147 md y1)
         else
          (Option.bind (f_Model_see md) fun u15 =>
            (if u15.1 = (34 : Int32) then
              (Option.bind (f_Model_name u15.2 y1) fun u17 =>
                (f_Model_materialRow_110 n u17 y1)
               )
             else
              (f_Model_materialRow_147 u15.2 y1)
             )
           )
         )
       else none)
     )
noncomputable def f_Model_materialRow_39  : Nat → SModel → Int32 → Int32 → Int32 → Option (SModel)
  | 0, _, _, _, _ => none
  | n + 1, md, y1, y2, y3 =>
    (if md.2.2.1.1 ≤ y3 then
      (if md.2.1.2.2.2 < 0 then
        (if inb (y1 + (0 : Int32)) 559 then
          (if inb (y1 + (9 : Int32)) 559 then
            (Option.bind (f_Model_name (md.1, md.2.1, (md.2.2.1.1, md.2.2.1.2.1, upd (upd md.2.2.1.2.2 (y1 + (0 : Int32)).toNatClampNeg y2) (y1 + (9 : Int32)).toNatClampNeg (0 : Int32)), md.2.2.2.1, md.2.2.2.2.1, md.2.2.2.2.2.1, md.2.2.2.2.2.2.1, md.2.2.2.2.2.2.2.1, md.2.2.2.2.2.2.2.2) y1) fun u8 =>
              (f_Model_materialRow_110 4096 u8 y1)
             )
           else none)
         else none)
       else
        (some md)
       )
     else
      (if inb ((y3 * (43 : Int32)) + (0 : Int32)) 559 then
        (if (md.2.2.1.2.2 ((y3 * (43 : Int32)) + (0 : Int32)).toNatClampNeg) = y2 then
          (Option.bind (f_Model_fail md (md.2.1.2.2.1 - (1 : Int32))) fun u11 =>
            (f_Model_materialRow_39 n u11 y1 y2 (y3 + (1 : Int32)))
           )
         else
          (f_Model_materialRow_39 n md y1 y2 (y3 + (1 : Int32)))
         )
       else none)
     )
noncomputable def f_Model_materialRow (md : SModel) : Option (SModel) :=
  (if md.2.2.1.1 = (12 : Int32) then
    (Option.bind (f_Model_fail md (md.2.1.2.2.1 - (1 : Int32))) fun u3 =>
      (some u3)
     )
   else
    (Option.bind (f_Model_number md (1 : Int32) (9999 : Int32)) fun u2 =>
      (f_Model_materialRow_39 4096 u2.2 (md.2.2.1.1 * (43 : Int32)) u2.1 (0 : Int32))
     )
   )
set_option maxHeartbeats 4000000 in
set_option maxRecDepth 100000 in
theorem k_Model_materialRow (l : Launch) (dC : Nat → ClassId) (dI : Nat → Nat → Nat) (ad_md : Nat → Nat) (cA_md : Nat → ClassId) (sz : Nat) (md : SModel) (res : SModel) (hf : f_Model_materialRow md = some res) : Met l y_Model_materialRow w_Model_materialRow ({ frames := 4, cells := 0, slots := 0, locals := 89 }) (cPc (dC, dI) (uw_Model ad_md cA_md md) [(cA_md 1, .int), (cA_md 2, .int), (cA_md 3, .int), (cA_md 4, .int), (cA_md 5, .int), (cA_md 6, .int), (cA_md 7, .int), (cA_md 8, .int), (cA_md 9, .boolean), (cA_md 10, .int), (cA_md 11, .int), (cA_md 12, .int), (cA_md 13, .int)] sz [.ref (ad_md 0)]) (va_Qv (fun (u : SModel) => u = res) (fun (u : SModel) (t : State) => va_P (dC, dI) vwCl (uw_Model ad_md cA_md u) t.heap ∧ va_K (dC, dI) vwCl [(cA_md 1, .int), (cA_md 2, .int), (cA_md 3, .int), (cA_md 4, .int), (cA_md 5, .int), (cA_md 6, .int), (cA_md 7, .int), (cA_md 8, .int), (cA_md 9, .boolean), (cA_md 10, .int), (cA_md 11, .int), (cA_md 12, .int), (cA_md 13, .int)] t ∧ va_D (va_A (uw_Model ad_md cA_md md) sz) (uw_Model ad_md cA_md u)) (va_A (uw_Model ad_md cA_md md) sz)) 0 0 (va_A (uw_Model ad_md cA_md md) sz) := by
  refine Met.ofW (cc := b_Model_materialRow) (maxL := 4) (ret := none) (by decide) rfl ?_
  intro p e s m args below meth c s₁ B hml hv
  obtain ⟨rfl, hsz, hP, hK, hD0, hN⟩ := hv
  have hx := B.exec
  have hb := B.bytes
  have hr := B.returns
  have hts := atoms_spec (ws := w_Model_materialRow) B.pre
  have hown : s.vm.findClass "HazardTablesModel" = some m.cls := findClass_of_methodNamed B.named
  have hlocks := B.notSynchronized
  subst hsz
  have hD := hD0.self (sz := s.heap.size)
  generalize hAe : va_A (uw_Model ad_md cA_md md) s.heap.size = A at hD ⊢
  have hA : ∀ q : Nat, s.heap.size ≤ q → A q := fun q h => by rw [← hAe]; exact Or.inr h
  have hS : va_S A s.heap s.heap [] := va_S.rf
  have hP : va_P (dC, dI) vwCl (uw_Model ad_md cA_md md) s.heap := hP
  have fl_110 := (hts _ (List.mem_cons_of_mem _ wd_755))
  have fl_20 := (hts _ (List.mem_cons_of_mem _ wd_757))
  have fl_78 := (hts _ (List.mem_cons_of_mem _ wd_758))
  have fl_85 := (hts _ (List.mem_cons_of_mem _ wd_759))
  have hin_Model : ∀ w ∈ u_ws "HazardTablesModel" F_Model 30, w ∈ w_Model_materialRow := fun w h => List.mem_cons_of_mem _ (hinA_Model w h)
  have ret : ∀ (u : SModel) (H : Heap) (locs : List Loc) (ls : Array Slot) (pc : Nat), decode b_Model_materialRow pc = .ok (.return_, 1) → u = res → va_P (dC, dI) vwCl (uw_Model ad_md cA_md u) H → va_D A (uw_Model ad_md cA_md u) → va_S A s.heap H locs → W p l e (headSpec w_Model_materialRow ({ frames := 4, cells := 0, slots := 0, locals := 89 })).room s m ([.ref (ad_md 0)] : List Value).toArray below meth c H locs 0 0 (MQ below (va_Qv (fun (u : SModel) => u = res) (fun (u : SModel) (t : State) => va_P (dC, dI) vwCl (uw_Model ad_md cA_md u) t.heap ∧ va_K (dC, dI) vwCl [(cA_md 1, .int), (cA_md 2, .int), (cA_md 3, .int), (cA_md 4, .int), (cA_md 5, .int), (cA_md 6, .int), (cA_md 7, .int), (cA_md 8, .int), (cA_md 9, .boolean), (cA_md 10, .int), (cA_md 11, .int), (cA_md 12, .int), (cA_md 13, .int)] t ∧ va_D A (uw_Model ad_md cA_md u)) A) ([.ref (ad_md 0)] : List Value).toArray s 0 0 A) (F0 m pc ls []) := fun u H locs ls pc hd hp hP hD hS => W.vret hx hb hr (fun t ht hW => ⟨⟨u, rfl, hp, by rw [ht]; exact hP, va_K.moved hW.alike hK, hD⟩, hS.F ht⟩) hS.2.2 hd
  generalize (MQ below (va_Qv (fun (u : SModel) => u = res) (fun (u : SModel) (t : State) => va_P (dC, dI) vwCl (uw_Model ad_md cA_md u) t.heap ∧ va_K (dC, dI) vwCl [(cA_md 1, .int), (cA_md 2, .int), (cA_md 3, .int), (cA_md 4, .int), (cA_md 5, .int), (cA_md 6, .int), (cA_md 7, .int), (cA_md 8, .int), (cA_md 9, .boolean), (cA_md 10, .int), (cA_md 11, .int), (cA_md 12, .int), (cA_md 13, .int)] t ∧ va_D A (uw_Model ad_md cA_md u)) A) ([.ref (ad_md 0)] : List Value).toArray s 0 0 A) = Q at ret ⊢
  have w_229 : ∀ (md : SModel)  (H : Heap) (locs : List Loc) (ls : Array Slot), f_Model_materialRow_229 md = some res → va_P (dC, dI) vwCl (uw_Model ad_md cA_md md) H → va_D A (uw_Model ad_md cA_md md) → va_S A s.heap H locs → lv_has ls 4 [(0, .ref (ad_md 0))] → W p l e (headSpec w_Model_materialRow ({ frames := 4, cells := 0, slots := 0, locals := 89 })).room s m ([.ref (ad_md 0)] : List Value).toArray below meth c H locs 0 0 Q (F0 m 229 ls []) := by
    intro md H locs ls hf hP hD hS hl
    rw [f_Model_materialRow_229] at hf
    refine lv_aload_n hx hb d_Model_materialRow_229 rfl (lv_at hl 0 rfl) ?_
    refine lv_bipush (v := (59 : Int32)) hx hb d_Model_materialRow_230 (by decide) ?_
    obtain ⟨u28, hu28, hf⟩ := Option.bind_eq_some_iff.mp hf
    refine cl_v (wc := (uw_Model ad_md cA_md md)) (wr := []) (tysC := [(cA_md 1, .int), (cA_md 2, .int), (cA_md 3, .int), (cA_md 4, .int), (cA_md 5, .int), (cA_md 6, .int), (cA_md 7, .int), (cA_md 8, .int), (cA_md 9, .boolean), (cA_md 10, .int), (cA_md 11, .int), (cA_md 12, .int), (cA_md 13, .int)]) (wu := fun (u : SModel) => (uw_Model ad_md cA_md u)) (wn := fun (u : SModel) => (uw_Model ad_md cA_md u)) [0, 1, 2, 3, 4, 5, 6, 7, 8, 9, 10, 11, 12, 13] [] [0, 1, 2, 3, 4, 5, 6, 7, 8, 9, 10, 11, 12, 13] [0, 1, 2, 3, 4, 5, 6, 7, 8, 9, 10, 11, 12] hP hD hS hA hK rfl rfl (by decide +kernel) (by decide +kernel) (by decide +kernel) rfl (fun _ => rfl) (by decide +kernel) (fun hPc hKc hDc => (va_runV (As := [.int (59 : Int32)]) (rest := []) ⟨hx, hb, hml, hown, hts⟩ (k_Model_take l dC dI ad_md cA_md H.size md (59 : Int32) u28 hu28) (cwV 1 hts (gV wd_886 wd_888 wd_30 wd_49 wd_889) rfl rfl rfl (by decide +kernel) ⟨Nat.le_of_ble_eq_true rfl, Nat.le_of_ble_eq_true rfl⟩) (cl_preV hPc hKc hDc hN (ci := 6) 0 rfl rfl) rfl rfl hl.1 rfl (lv_room (Nat.le_of_ble_eq_true rfl)) d_Model_materialRow_232 ⟨Nat.le_of_ble_eq_true rfl, Nat.le_of_ble_eq_true rfl⟩)) (fun u H locs hw hP hD hS => ?_)
    have hw := hw.symm
    subst hw
    have hP : va_P (dC, dI) vwCl (uw_Model ad_md cA_md u28) H := hP
    have hD : va_D A (uw_Model ad_md cA_md u28) := hD
    refine lv_aload_n hx hb d_Model_materialRow_235 rfl (lv_at hl 0 rfl) ?_
    refine lv_dup hx hb d_Model_materialRow_236 rfl ?_
    refine va_get (D := (dC, dI)) (ci := 6) (v := .int u28.2.2.1.1) (C := "HazardTablesModel") (T := F_Model) (N := 30) hx hb hts hin_Model hown hK hP 0 rfl rfl 7 (by decide) fl_110 (fun _ h9 => h9) rfl d_Model_materialRow_237 ?_
    refine lv_iconst (v := (1 : Int32)) hx hb d_Model_materialRow_240 (by decide) ?_
    refine lv_iadd hx hb d_Model_materialRow_241 ?_
    refine va_put (D := (dC, dI)) (ci := 6) (v := .int (u28.2.2.1.1 + (1 : Int32))) (ty := .int) (C := "HazardTablesModel") (T := F_Model) (N := 30) hx hb hts hin_Model t_Model t_Model_ok n_Model hown hK hP hD hS 0 rfl rfl 7 (by decide) fl_110 (fun _ h9 => h9) rfl (by decide +kernel) rfl rfl (Nat.le_of_ble_eq_true rfl) d_Model_materialRow_242 (fun H locs hP hD hS => ?_)
    have hP : va_P (dC, dI) vwCl (uw_Model ad_md cA_md (u28.1, u28.2.1, (u28.2.2.1.1 + (1 : Int32), u28.2.2.1.2.1, u28.2.2.1.2.2), u28.2.2.2.1, u28.2.2.2.2.1, u28.2.2.2.2.2.1, u28.2.2.2.2.2.2.1, u28.2.2.2.2.2.2.2.1, u28.2.2.2.2.2.2.2.2)) H := hP
    have hD : va_D A (uw_Model ad_md cA_md (u28.1, u28.2.1, (u28.2.2.1.1 + (1 : Int32), u28.2.2.1.2.1, u28.2.2.1.2.2), u28.2.2.2.1, u28.2.2.2.2.1, u28.2.2.2.2.2.1, u28.2.2.2.2.2.2.1, u28.2.2.2.2.2.2.2.1, u28.2.2.2.2.2.2.2.2)) := hD
    exact ret  (u28.1, u28.2.1, (u28.2.2.1.1 + (1 : Int32), u28.2.2.1.2.1, u28.2.2.1.2.2), u28.2.2.2.1, u28.2.2.2.2.1, u28.2.2.2.2.2.1, u28.2.2.2.2.2.2.1, u28.2.2.2.2.2.2.2.1, u28.2.2.2.2.2.2.2.2) H locs ls 245 d_Model_materialRow_245 (Option.some.inj hf) hP hD hS
  have w_147 : ∀ (md : SModel) (y1 : Int32) (H : Heap) (locs : List Loc) (ls : Array Slot), f_Model_materialRow_147 md y1 = some res → va_P (dC, dI) vwCl (uw_Model ad_md cA_md md) H → va_D A (uw_Model ad_md cA_md md) → va_S A s.heap H locs → lv_has ls 4 [(0, .ref (ad_md 0)), (1, .int y1)] → W p l e (headSpec w_Model_materialRow ({ frames := 4, cells := 0, slots := 0, locals := 89 })).room s m ([.ref (ad_md 0)] : List Value).toArray below meth c H locs 0 0 Q (F0 m 147 ls []) := by
    intro md y1 H locs ls hf hP hD hS hl
    rw [f_Model_materialRow_147] at hf
    refine lv_aload_n hx hb d_Model_materialRow_147 rfl (lv_at hl 0 rfl) ?_
    refine lv_bipush (v := (99 : Int32)) hx hb d_Model_materialRow_148 (by decide) ?_
    obtain ⟨u18, hu18, hf⟩ := Option.bind_eq_some_iff.mp hf
    refine cl_v (wc := (uw_Model ad_md cA_md md)) (wr := []) (tysC := [(cA_md 1, .int), (cA_md 2, .int), (cA_md 3, .int), (cA_md 4, .int), (cA_md 5, .int), (cA_md 6, .int), (cA_md 7, .int), (cA_md 8, .int), (cA_md 9, .boolean), (cA_md 10, .int), (cA_md 11, .int), (cA_md 12, .int), (cA_md 13, .int)]) (wu := fun (u : SModel) => (uw_Model ad_md cA_md u)) (wn := fun (u : SModel) => (uw_Model ad_md cA_md u)) [0, 1, 2, 3, 4, 5, 6, 7, 8, 9, 10, 11, 12, 13] [] [0, 1, 2, 3, 4, 5, 6, 7, 8, 9, 10, 11, 12, 13] [0, 1, 2, 3, 4, 5, 6, 7, 8, 9, 10, 11, 12] hP hD hS hA hK rfl rfl (by decide +kernel) (by decide +kernel) (by decide +kernel) rfl (fun _ => rfl) (by decide +kernel) (fun hPc hKc hDc => (va_runV (As := [.int (99 : Int32)]) (rest := []) ⟨hx, hb, hml, hown, hts⟩ (k_Model_take l dC dI ad_md cA_md H.size md (99 : Int32) u18 hu18) (cwV 1 hts (gV wd_886 wd_888 wd_30 wd_49 wd_889) rfl rfl rfl (by decide +kernel) ⟨Nat.le_of_ble_eq_true rfl, Nat.le_of_ble_eq_true rfl⟩) (cl_preV hPc hKc hDc hN (ci := 6) 0 rfl rfl) rfl rfl hl.1 rfl (lv_room (Nat.le_of_ble_eq_true rfl)) d_Model_materialRow_150 ⟨Nat.le_of_ble_eq_true rfl, Nat.le_of_ble_eq_true rfl⟩)) (fun u H locs hw hP hD hS => ?_)
    have hw := hw.symm
    subst hw
    have hP : va_P (dC, dI) vwCl (uw_Model ad_md cA_md u18) H := hP
    have hD : va_D A (uw_Model ad_md cA_md u18) := hD
    refine lv_aload_n hx hb d_Model_materialRow_153 rfl (lv_at hl 0 rfl) ?_
    refine va_get (D := (dC, dI)) (ci := 6) (v := .ref (ad_md 3)) (C := "HazardTablesModel") (T := F_Model) (N := 30) hx hb hts hin_Model hown hK hP 0 rfl rfl 9 (by decide) fl_20 (fun _ h9 => h9) rfl d_Model_materialRow_154 ?_
    refine lv_iload_n hx hb d_Model_materialRow_157 rfl (lv_at hl 1 rfl) ?_
    refine lv_iconst (v := (1 : Int32)) hx hb d_Model_materialRow_158 (by decide) ?_
    refine lv_iadd hx hb d_Model_materialRow_159 ?_
    refine lv_aload_n hx hb d_Model_materialRow_160 rfl (lv_at hl 0 rfl) ?_
    refine lv_iconst (v := (1 : Int32)) hx hb d_Model_materialRow_161 (by decide) ?_
    refine lv_bipush (v := (9 : Int32)) hx hb d_Model_materialRow_162 (by decide) ?_
    obtain ⟨u19, hu19, hf⟩ := Option.bind_eq_some_iff.mp hf
    refine cl_i (wc := (uw_Model ad_md cA_md u18)) (wr := []) (tysC := [(cA_md 1, .int), (cA_md 2, .int), (cA_md 3, .int), (cA_md 4, .int), (cA_md 5, .int), (cA_md 6, .int), (cA_md 7, .int), (cA_md 8, .int), (cA_md 9, .boolean), (cA_md 10, .int), (cA_md 11, .int), (cA_md 12, .int), (cA_md 13, .int)]) (wu := fun (u : SModel) => (uw_Model ad_md cA_md u)) (wn := fun (u : SModel) => (uw_Model ad_md cA_md u)) [0, 1, 2, 3, 4, 5, 6, 7, 8, 9, 10, 11, 12, 13] [] [0, 1, 2, 3, 4, 5, 6, 7, 8, 9, 10, 11, 12, 13] [0, 1, 2, 3, 4, 5, 6, 7, 8, 9, 10, 11, 12] hP hD hS hA hK rfl rfl (by decide +kernel) (by decide +kernel) (by decide +kernel) rfl (fun _ => rfl) (by decide +kernel) (fun hPc hKc hDc => (va_runV (As := [.int (1 : Int32), .int (9 : Int32)]) (rest := [.int (y1 + (1 : Int32)), .ref (ad_md 3)]) ⟨hx, hb, hml, hown, hts⟩ (k_Model_number l dC dI ad_md cA_md H.size u18 (1 : Int32) (9 : Int32) u19 hu19) (cwV 2 hts (gV wd_874 wd_876 wd_27 wd_49 wd_877) rfl rfl rfl (by decide +kernel) ⟨Nat.le_of_ble_eq_true rfl, Nat.le_of_ble_eq_true rfl⟩) (cl_preV hPc hKc hDc hN (ci := 6) 0 rfl rfl) rfl rfl hl.1 rfl (lv_room (Nat.le_of_ble_eq_true rfl)) d_Model_materialRow_164 ⟨Nat.le_of_ble_eq_true rfl, Nat.le_of_ble_eq_true rfl⟩)) (fun r u H locs hw hP hD hS => ?_)
    obtain ⟨hw1, hw2⟩ := hw
    have hw1 := hw1.symm
    have hw2 := hw2.symm
    subst hw1
    subst hw2
    have hP : va_P (dC, dI) vwCl (uw_Model ad_md cA_md u19.2) H := hP
    have hD : va_D A (uw_Model ad_md cA_md u19.2) := hD
    obtain ⟨hi20, hf⟩ := hf_g hf
    refine va_iast hx hb hK hP hD hS 3 2 rfl rfl hi20 d_Model_materialRow_167 (fun H locs hP hD hS => ?_)
    have hP : va_P (dC, dI) vwCl (uw_Model ad_md cA_md (u19.2.1, u19.2.2.1, (u19.2.2.2.1.1, u19.2.2.2.1.2.1, upd u19.2.2.2.1.2.2 (y1 + (1 : Int32)).toNatClampNeg u19.1), u19.2.2.2.2.1, u19.2.2.2.2.2.1, u19.2.2.2.2.2.2.1, u19.2.2.2.2.2.2.2.1, u19.2.2.2.2.2.2.2.2.1, u19.2.2.2.2.2.2.2.2.2)) H := hP
    have hD : va_D A (uw_Model ad_md cA_md (u19.2.1, u19.2.2.1, (u19.2.2.2.1.1, u19.2.2.2.1.2.1, upd u19.2.2.2.1.2.2 (y1 + (1 : Int32)).toNatClampNeg u19.1), u19.2.2.2.2.1, u19.2.2.2.2.2.1, u19.2.2.2.2.2.2.1, u19.2.2.2.2.2.2.2.1, u19.2.2.2.2.2.2.2.2.1, u19.2.2.2.2.2.2.2.2.2)) := hD
    refine lv_aload_n hx hb d_Model_materialRow_168 rfl (lv_at hl 0 rfl) ?_
    refine lv_iload_n hx hb d_Model_materialRow_169 rfl (lv_at hl 1 rfl) ?_
    obtain ⟨u21, hu21, hf⟩ := Option.bind_eq_some_iff.mp hf
    refine cl_v (wc := (uw_Model ad_md cA_md (u19.2.1, u19.2.2.1, (u19.2.2.2.1.1, u19.2.2.2.1.2.1, upd u19.2.2.2.1.2.2 (y1 + (1 : Int32)).toNatClampNeg u19.1), u19.2.2.2.2.1, u19.2.2.2.2.2.1, u19.2.2.2.2.2.2.1, u19.2.2.2.2.2.2.2.1, u19.2.2.2.2.2.2.2.2.1, u19.2.2.2.2.2.2.2.2.2))) (wr := []) (tysC := [(cA_md 1, .int), (cA_md 2, .int), (cA_md 3, .int), (cA_md 4, .int), (cA_md 5, .int), (cA_md 6, .int), (cA_md 7, .int), (cA_md 8, .int), (cA_md 9, .boolean), (cA_md 10, .int), (cA_md 11, .int), (cA_md 12, .int), (cA_md 13, .int)]) (wu := fun (u : SModel) => (uw_Model ad_md cA_md u)) (wn := fun (u : SModel) => (uw_Model ad_md cA_md u)) [0, 1, 2, 3, 4, 5, 6, 7, 8, 9, 10, 11, 12, 13] [] [0, 1, 2, 3, 4, 5, 6, 7, 8, 9, 10, 11, 12, 13] [0, 1, 2, 3, 4, 5, 6, 7, 8, 9, 10, 11, 12] hP hD hS hA hK rfl rfl (by decide +kernel) (by decide +kernel) (by decide +kernel) rfl (fun _ => rfl) (by decide +kernel) (fun hPc hKc hDc => (va_runV (As := [.int y1]) (rest := []) ⟨hx, hb, hml, hown, hts⟩ (k_Model_due l dC dI ad_md cA_md H.size (u19.2.1, u19.2.2.1, (u19.2.2.2.1.1, u19.2.2.2.1.2.1, upd u19.2.2.2.1.2.2 (y1 + (1 : Int32)).toNatClampNeg u19.1), u19.2.2.2.2.1, u19.2.2.2.2.2.1, u19.2.2.2.2.2.2.1, u19.2.2.2.2.2.2.2.1, u19.2.2.2.2.2.2.2.2.1, u19.2.2.2.2.2.2.2.2.2) y1 u21 hu21) (cwV 1 hts (gV wd_890 wd_892 wd_31 wd_49 wd_893) rfl rfl rfl (by decide +kernel) ⟨Nat.le_of_ble_eq_true rfl, Nat.le_of_ble_eq_true rfl⟩) (cl_preV hPc hKc hDc hN (ci := 6) 0 rfl rfl) rfl rfl hl.1 rfl (lv_room (Nat.le_of_ble_eq_true rfl)) d_Model_materialRow_170 ⟨Nat.le_of_ble_eq_true rfl, Nat.le_of_ble_eq_true rfl⟩)) (fun u H locs hw hP hD hS => ?_)
    have hw := hw.symm
    subst hw
    have hP : va_P (dC, dI) vwCl (uw_Model ad_md cA_md u21) H := hP
    have hD : va_D A (uw_Model ad_md cA_md u21) := hD
    refine lv_aload_n hx hb d_Model_materialRow_173 rfl (lv_at hl 0 rfl) ?_
    refine va_get (D := (dC, dI)) (ci := 6) (v := .ref (ad_md 3)) (C := "HazardTablesModel") (T := F_Model) (N := 30) hx hb hts hin_Model hown hK hP 0 rfl rfl 9 (by decide) fl_20 (fun _ h9 => h9) rfl d_Model_materialRow_174 ?_
    refine lv_iload_n hx hb d_Model_materialRow_177 rfl (lv_at hl 1 rfl) ?_
    refine lv_bipush (v := (8 : Int32)) hx hb d_Model_materialRow_178 (by decide) ?_
    refine lv_iadd hx hb d_Model_materialRow_180 ?_
    refine lv_iconst (v := (0 : Int32)) hx hb d_Model_materialRow_181 (by decide) ?_
    obtain ⟨hi22, hf⟩ := hf_g hf
    refine va_iast hx hb hK hP hD hS 3 2 rfl rfl hi22 d_Model_materialRow_182 (fun H locs hP hD hS => ?_)
    have hP : va_P (dC, dI) vwCl (uw_Model ad_md cA_md (u21.1, u21.2.1, (u21.2.2.1.1, u21.2.2.1.2.1, upd u21.2.2.1.2.2 (y1 + (8 : Int32)).toNatClampNeg (0 : Int32)), u21.2.2.2.1, u21.2.2.2.2.1, u21.2.2.2.2.2.1, u21.2.2.2.2.2.2.1, u21.2.2.2.2.2.2.2.1, u21.2.2.2.2.2.2.2.2)) H := hP
    have hD : va_D A (uw_Model ad_md cA_md (u21.1, u21.2.1, (u21.2.2.1.1, u21.2.2.1.2.1, upd u21.2.2.1.2.2 (y1 + (8 : Int32)).toNatClampNeg (0 : Int32)), u21.2.2.2.1, u21.2.2.2.2.1, u21.2.2.2.2.2.1, u21.2.2.2.2.2.2.1, u21.2.2.2.2.2.2.2.1, u21.2.2.2.2.2.2.2.2)) := hD
    refine lv_aload_n hx hb d_Model_materialRow_183 rfl (lv_at hl 0 rfl) ?_
    refine va_get (D := (dC, dI)) (ci := 6) (v := .int u21.2.1.2.2.2) (C := "HazardTablesModel") (T := F_Model) (N := 30) hx hb hts hin_Model hown hK hP 0 rfl rfl 11 (by decide) fl_85 (fun _ h9 => h9) rfl d_Model_materialRow_184 ?_
    refine lv_if_ge (tgt := 229) hx hb d_Model_materialRow_187 (by decide) (fun hc23 => ?_) (fun hc23 => ?_)
    · have hf := hf_t hf hc23
      exact w_229 (u21.1, u21.2.1, (u21.2.2.1.1, u21.2.2.1.2.1, upd u21.2.2.1.2.2 (y1 + (8 : Int32)).toNatClampNeg (0 : Int32)), u21.2.2.2.1, u21.2.2.2.2.1, u21.2.2.2.2.2.1, u21.2.2.2.2.2.2.1, u21.2.2.2.2.2.2.2.1, u21.2.2.2.2.2.2.2.2) H locs ls hf hP hD hS (lv_sub hl [0] rfl)
    · have hf := hf_f hf hc23
      refine lv_aload_n hx hb d_Model_materialRow_190 rfl (lv_at hl 0 rfl) ?_
      obtain ⟨u24, hu24, hf⟩ := Option.bind_eq_some_iff.mp hf
      refine cl_i (wc := (uw_Model ad_md cA_md (u21.1, u21.2.1, (u21.2.2.1.1, u21.2.2.1.2.1, upd u21.2.2.1.2.2 (y1 + (8 : Int32)).toNatClampNeg (0 : Int32)), u21.2.2.2.1, u21.2.2.2.2.1, u21.2.2.2.2.2.1, u21.2.2.2.2.2.2.1, u21.2.2.2.2.2.2.2.1, u21.2.2.2.2.2.2.2.2))) (wr := []) (tysC := [(cA_md 1, .int), (cA_md 2, .int), (cA_md 3, .int), (cA_md 4, .int), (cA_md 5, .int), (cA_md 6, .int), (cA_md 7, .int), (cA_md 8, .int), (cA_md 9, .boolean), (cA_md 10, .int), (cA_md 11, .int), (cA_md 12, .int), (cA_md 13, .int)]) (wu := fun (u : SModel) => (uw_Model ad_md cA_md u)) (wn := fun (u : SModel) => (uw_Model ad_md cA_md u)) [0, 1, 2, 3, 4, 5, 6, 7, 8, 9, 10, 11, 12, 13] [] [0, 1, 2, 3, 4, 5, 6, 7, 8, 9, 10, 11, 12, 13] [0, 1, 2, 3, 4, 5, 6, 7, 8, 9, 10, 11, 12] hP hD hS hA hK rfl rfl (by decide +kernel) (by decide +kernel) (by decide +kernel) rfl (fun _ => rfl) (by decide +kernel) (fun hPc hKc hDc => (va_runV (As := []) (rest := []) ⟨hx, hb, hml, hown, hts⟩ (k_Model_see l dC dI ad_md cA_md H.size (u21.1, u21.2.1, (u21.2.2.1.1, u21.2.2.1.2.1, upd u21.2.2.1.2.2 (y1 + (8 : Int32)).toNatClampNeg (0 : Int32)), u21.2.2.2.1, u21.2.2.2.2.1, u21.2.2.2.2.2.1, u21.2.2.2.2.2.2.1, u21.2.2.2.2.2.2.2.1, u21.2.2.2.2.2.2.2.2) u24 hu24) (cwV 0 hts (gV wd_858 wd_860 wd_23 wd_49 wd_861) rfl rfl rfl (by decide +kernel) ⟨Nat.le_of_ble_eq_true rfl, Nat.le_of_ble_eq_true rfl⟩) (cl_preV hPc hKc hDc hN (ci := 6) 0 rfl rfl) rfl rfl hl.1 rfl (lv_room (Nat.le_of_ble_eq_true rfl)) d_Model_materialRow_191 ⟨Nat.le_of_ble_eq_true rfl, Nat.le_of_ble_eq_true rfl⟩)) (fun r u H locs hw hP hD hS => ?_)
      obtain ⟨hw1, hw2⟩ := hw
      have hw1 := hw1.symm
      have hw2 := hw2.symm
      subst hw1
      subst hw2
      have hP : va_P (dC, dI) vwCl (uw_Model ad_md cA_md u24.2) H := hP
      have hD : va_D A (uw_Model ad_md cA_md u24.2) := hD
      refine lv_bipush (v := (120 : Int32)) hx hb d_Model_materialRow_194 (by decide) ?_
      refine lv_icmp_ne (tgt := 229) hx hb d_Model_materialRow_196 (by decide) (fun hc25 => ?_) (fun hc25 => ?_)
      · have hf := hf_f hf hc25
        exact w_229 u24.2 H locs ls hf hP hD hS (lv_sub hl [0] rfl)
      · have hf := hf_t hf hc25
        refine lv_aload_n hx hb d_Model_materialRow_199 rfl (lv_at hl 0 rfl) ?_
        refine lv_dup hx hb d_Model_materialRow_200 rfl ?_
        refine va_get (D := (dC, dI)) (ci := 6) (v := .int u24.2.2.1.2.2.1) (C := "HazardTablesModel") (T := F_Model) (N := 30) hx hb hts hin_Model hown hK hP 0 rfl rfl 10 (by decide) fl_78 (fun _ h9 => h9) rfl d_Model_materialRow_201 ?_
        refine lv_iconst (v := (1 : Int32)) hx hb d_Model_materialRow_204 (by decide) ?_
        refine lv_iadd hx hb d_Model_materialRow_205 ?_
        refine va_put (D := (dC, dI)) (ci := 6) (v := .int (u24.2.2.1.2.2.1 + (1 : Int32))) (ty := .int) (C := "HazardTablesModel") (T := F_Model) (N := 30) hx hb hts hin_Model t_Model t_Model_ok n_Model hown hK hP hD hS 0 rfl rfl 10 (by decide) fl_78 (fun _ h9 => h9) rfl (by decide +kernel) rfl rfl (Nat.le_of_ble_eq_true rfl) d_Model_materialRow_206 (fun H locs hP hD hS => ?_)
        have hP : va_P (dC, dI) vwCl (uw_Model ad_md cA_md (u24.2.1, (u24.2.2.1.1, u24.2.2.1.2.1, u24.2.2.1.2.2.1 + (1 : Int32), u24.2.2.1.2.2.2), u24.2.2.2.1, u24.2.2.2.2.1, u24.2.2.2.2.2.1, u24.2.2.2.2.2.2.1, u24.2.2.2.2.2.2.2.1, u24.2.2.2.2.2.2.2.2.1, u24.2.2.2.2.2.2.2.2.2)) H := hP
        have hD : va_D A (uw_Model ad_md cA_md (u24.2.1, (u24.2.2.1.1, u24.2.2.1.2.1, u24.2.2.1.2.2.1 + (1 : Int32), u24.2.2.1.2.2.2), u24.2.2.2.1, u24.2.2.2.2.1, u24.2.2.2.2.2.1, u24.2.2.2.2.2.2.1, u24.2.2.2.2.2.2.2.1, u24.2.2.2.2.2.2.2.2.1, u24.2.2.2.2.2.2.2.2.2)) := hD
        refine lv_aload_n hx hb d_Model_materialRow_209 rfl (lv_at hl 0 rfl) ?_
        refine va_get (D := (dC, dI)) (ci := 6) (v := .ref (ad_md 3)) (C := "HazardTablesModel") (T := F_Model) (N := 30) hx hb hts hin_Model hown hK hP 0 rfl rfl 9 (by decide) fl_20 (fun _ h9 => h9) rfl d_Model_materialRow_210 ?_
        refine lv_iload_n hx hb d_Model_materialRow_213 rfl (lv_at hl 1 rfl) ?_
        refine lv_bipush (v := (8 : Int32)) hx hb d_Model_materialRow_214 (by decide) ?_
        refine lv_iadd hx hb d_Model_materialRow_216 ?_
        refine lv_aload_n hx hb d_Model_materialRow_217 rfl (lv_at hl 0 rfl) ?_
        refine lv_bipush (v := (49 : Int32)) hx hb d_Model_materialRow_218 (by decide) ?_
        refine lv_bipush (v := (57 : Int32)) hx hb d_Model_materialRow_220 (by decide) ?_
        refine lv_iconst (v := (3 : Int32)) hx hb d_Model_materialRow_222 (by decide) ?_
        obtain ⟨u26, hu26, hf⟩ := Option.bind_eq_some_iff.mp hf
        refine cl_i (wc := (uw_Model ad_md cA_md (u24.2.1, (u24.2.2.1.1, u24.2.2.1.2.1, u24.2.2.1.2.2.1 + (1 : Int32), u24.2.2.1.2.2.2), u24.2.2.2.1, u24.2.2.2.2.1, u24.2.2.2.2.2.1, u24.2.2.2.2.2.2.1, u24.2.2.2.2.2.2.2.1, u24.2.2.2.2.2.2.2.2.1, u24.2.2.2.2.2.2.2.2.2))) (wr := []) (tysC := [(cA_md 1, .int), (cA_md 2, .int), (cA_md 3, .int), (cA_md 4, .int), (cA_md 5, .int), (cA_md 6, .int), (cA_md 7, .int), (cA_md 8, .int), (cA_md 9, .boolean), (cA_md 10, .int), (cA_md 11, .int), (cA_md 12, .int), (cA_md 13, .int)]) (wu := fun (u : SModel) => (uw_Model ad_md cA_md u)) (wn := fun (u : SModel) => (uw_Model ad_md cA_md u)) [0, 1, 2, 3, 4, 5, 6, 7, 8, 9, 10, 11, 12, 13] [] [0, 1, 2, 3, 4, 5, 6, 7, 8, 9, 10, 11, 12, 13] [0, 1, 2, 3, 4, 5, 6, 7, 8, 9, 10, 11, 12] hP hD hS hA hK rfl rfl (by decide +kernel) (by decide +kernel) (by decide +kernel) rfl (fun _ => rfl) (by decide +kernel) (fun hPc hKc hDc => (va_runV (As := [.int (49 : Int32), .int (57 : Int32), .int (3 : Int32)]) (rest := [.int (y1 + (8 : Int32)), .ref (ad_md 3)]) ⟨hx, hb, hml, hown, hts⟩ (k_Model_rising l dC dI ad_md cA_md H.size (u24.2.1, (u24.2.2.1.1, u24.2.2.1.2.1, u24.2.2.1.2.2.1 + (1 : Int32), u24.2.2.1.2.2.2), u24.2.2.2.1, u24.2.2.2.2.1, u24.2.2.2.2.2.1, u24.2.2.2.2.2.2.1, u24.2.2.2.2.2.2.2.1, u24.2.2.2.2.2.2.2.2.1, u24.2.2.2.2.2.2.2.2.2) (49 : Int32) (57 : Int32) (3 : Int32) u26 hu26) (cwV 3 hts (gV wd_894 wd_896 wd_32 wd_49 wd_897) rfl rfl rfl (by decide +kernel) ⟨Nat.le_of_ble_eq_true rfl, Nat.le_of_ble_eq_true rfl⟩) (cl_preV hPc hKc hDc hN (ci := 6) 0 rfl rfl) rfl rfl hl.1 rfl (lv_room (Nat.le_of_ble_eq_true rfl)) d_Model_materialRow_223 ⟨Nat.le_of_ble_eq_true rfl, Nat.le_of_ble_eq_true rfl⟩)) (fun r u H locs hw hP hD hS => ?_)
        obtain ⟨hw1, hw2⟩ := hw
        have hw1 := hw1.symm
        have hw2 := hw2.symm
        subst hw1
        subst hw2
        have hP : va_P (dC, dI) vwCl (uw_Model ad_md cA_md u26.2) H := hP
        have hD : va_D A (uw_Model ad_md cA_md u26.2) := hD
        refine lv_iconst (v := (1 : Int32)) hx hb d_Model_materialRow_226 (by decide) ?_
        refine lv_ishl hx hb d_Model_materialRow_227 ?_
        obtain ⟨hi27, hf⟩ := hf_g hf
        refine va_iast hx hb hK hP hD hS 3 2 rfl rfl hi27 d_Model_materialRow_228 (fun H locs hP hD hS => ?_)
        have hP : va_P (dC, dI) vwCl (uw_Model ad_md cA_md (u26.2.1, u26.2.2.1, (u26.2.2.2.1.1, u26.2.2.2.1.2.1, upd u26.2.2.2.1.2.2 (y1 + (8 : Int32)).toNatClampNeg (u26.1 <<< ((1 : Int32) &&& 31))), u26.2.2.2.2.1, u26.2.2.2.2.2.1, u26.2.2.2.2.2.2.1, u26.2.2.2.2.2.2.2.1, u26.2.2.2.2.2.2.2.2.1, u26.2.2.2.2.2.2.2.2.2)) H := hP
        have hD : va_D A (uw_Model ad_md cA_md (u26.2.1, u26.2.2.1, (u26.2.2.2.1.1, u26.2.2.2.1.2.1, upd u26.2.2.2.1.2.2 (y1 + (8 : Int32)).toNatClampNeg (u26.1 <<< ((1 : Int32) &&& 31))), u26.2.2.2.2.1, u26.2.2.2.2.2.1, u26.2.2.2.2.2.2.1, u26.2.2.2.2.2.2.2.1, u26.2.2.2.2.2.2.2.2.1, u26.2.2.2.2.2.2.2.2.2)) := hD
        exact w_229 (u26.2.1, u26.2.2.1, (u26.2.2.2.1.1, u26.2.2.2.1.2.1, upd u26.2.2.2.1.2.2 (y1 + (8 : Int32)).toNatClampNeg (u26.1 <<< ((1 : Int32) &&& 31))), u26.2.2.2.2.1, u26.2.2.2.2.2.1, u26.2.2.2.2.2.2.1, u26.2.2.2.2.2.2.2.1, u26.2.2.2.2.2.2.2.2.1, u26.2.2.2.2.2.2.2.2.2) H locs ls hf hP hD hS (lv_sub hl [0] rfl)
  have w_110 : ∀ (n : Nat) (md : SModel) (y1 : Int32) (H : Heap) (locs : List Loc) (ls : Array Slot), f_Model_materialRow_110 n md y1 = some res → va_P (dC, dI) vwCl (uw_Model ad_md cA_md md) H → va_D A (uw_Model ad_md cA_md md) → va_S A s.heap H locs → lv_has ls 4 [(0, .ref (ad_md 0)), (1, .int y1)] → W p l e (headSpec w_Model_materialRow ({ frames := 4, cells := 0, slots := 0, locals := 89 })).room s m ([.ref (ad_md 0)] : List Value).toArray below meth c H locs 0 0 Q (F0 m 110 ls []) := by
    intro n
    induction n with
    | zero =>
      intro md y1 H locs ls hf hP hD hS hl
      rw [f_Model_materialRow_110] at hf; cases hf
    | succ n ih =>
      intro md y1 H locs ls hf hP hD hS hl
      rw [f_Model_materialRow_110] at hf
      refine lv_aload_n hx hb d_Model_materialRow_110 rfl (lv_at hl 0 rfl) ?_
      refine va_get (D := (dC, dI)) (ci := 6) (v := .int md.2.1.2.2.2) (C := "HazardTablesModel") (T := F_Model) (N := 30) hx hb hts hin_Model hown hK hP 0 rfl rfl 11 (by decide) fl_85 (fun _ h9 => h9) rfl d_Model_materialRow_111 ?_
      refine lv_if_ge (tgt := 147) hx hb d_Model_materialRow_114 (by decide) (fun hc12 => ?_) (fun hc12 => ?_)
      · have hf := hf_t hf hc12
        exact w_147 md y1 H locs ls hf hP hD hS (lv_sub hl [0, 1] rfl)
      · have hf := hf_f hf hc12
        refine lv_aload_n hx hb d_Model_materialRow_117 rfl (lv_at hl 0 rfl) ?_
        refine va_get (D := (dC, dI)) (ci := 6) (v := .ref (ad_md 3)) (C := "HazardTablesModel") (T := F_Model) (N := 30) hx hb hts hin_Model hown hK hP 0 rfl rfl 9 (by decide) fl_20 (fun _ h9 => h9) rfl d_Model_materialRow_118 ?_
        refine lv_iload_n hx hb d_Model_materialRow_121 rfl (lv_at hl 1 rfl) ?_
        refine lv_bipush (v := (9 : Int32)) hx hb d_Model_materialRow_122 (by decide) ?_
        refine lv_iadd hx hb d_Model_materialRow_124 ?_
        obtain ⟨hi13, hf⟩ := hf_g hf
        refine va_iald hx hb hK hP 3 2 rfl rfl hi13 d_Model_materialRow_125 ?_
        refine lv_iconst (v := (3 : Int32)) hx hb d_Model_materialRow_126 (by decide) ?_
        refine lv_icmp_ge (tgt := 147) hx hb d_Model_materialRow_127 (by decide) (fun hc14 => ?_) (fun hc14 => ?_)
        · have hf := hf_t hf hc14
          exact w_147 md y1 H locs ls hf hP hD hS (lv_sub hl [0, 1] rfl)
        · have hf := hf_f hf hc14
          refine lv_aload_n hx hb d_Model_materialRow_130 rfl (lv_at hl 0 rfl) ?_
          obtain ⟨u15, hu15, hf⟩ := Option.bind_eq_some_iff.mp hf
          refine cl_i (wc := (uw_Model ad_md cA_md md)) (wr := []) (tysC := [(cA_md 1, .int), (cA_md 2, .int), (cA_md 3, .int), (cA_md 4, .int), (cA_md 5, .int), (cA_md 6, .int), (cA_md 7, .int), (cA_md 8, .int), (cA_md 9, .boolean), (cA_md 10, .int), (cA_md 11, .int), (cA_md 12, .int), (cA_md 13, .int)]) (wu := fun (u : SModel) => (uw_Model ad_md cA_md u)) (wn := fun (u : SModel) => (uw_Model ad_md cA_md u)) [0, 1, 2, 3, 4, 5, 6, 7, 8, 9, 10, 11, 12, 13] [] [0, 1, 2, 3, 4, 5, 6, 7, 8, 9, 10, 11, 12, 13] [0, 1, 2, 3, 4, 5, 6, 7, 8, 9, 10, 11, 12] hP hD hS hA hK rfl rfl (by decide +kernel) (by decide +kernel) (by decide +kernel) rfl (fun _ => rfl) (by decide +kernel) (fun hPc hKc hDc => (va_runV (As := []) (rest := []) ⟨hx, hb, hml, hown, hts⟩ (k_Model_see l dC dI ad_md cA_md H.size md u15 hu15) (cwV 0 hts (gV wd_858 wd_860 wd_23 wd_49 wd_861) rfl rfl rfl (by decide +kernel) ⟨Nat.le_of_ble_eq_true rfl, Nat.le_of_ble_eq_true rfl⟩) (cl_preV hPc hKc hDc hN (ci := 6) 0 rfl rfl) rfl rfl hl.1 rfl (lv_room (Nat.le_of_ble_eq_true rfl)) d_Model_materialRow_131 ⟨Nat.le_of_ble_eq_true rfl, Nat.le_of_ble_eq_true rfl⟩)) (fun r u H locs hw hP hD hS => ?_)
          obtain ⟨hw1, hw2⟩ := hw
          have hw1 := hw1.symm
          have hw2 := hw2.symm
          subst hw1
          subst hw2
          have hP : va_P (dC, dI) vwCl (uw_Model ad_md cA_md u15.2) H := hP
          have hD : va_D A (uw_Model ad_md cA_md u15.2) := hD
          refine lv_bipush (v := (34 : Int32)) hx hb d_Model_materialRow_134 (by decide) ?_
          refine lv_icmp_ne (tgt := 147) hx hb d_Model_materialRow_136 (by decide) (fun hc16 => ?_) (fun hc16 => ?_)
          · have hf := hf_f hf hc16
            exact w_147 u15.2 y1 H locs ls hf hP hD hS (lv_sub hl [0, 1] rfl)
          · have hf := hf_t hf hc16
            refine lv_aload_n hx hb d_Model_materialRow_139 rfl (lv_at hl 0 rfl) ?_
            refine lv_iload_n hx hb d_Model_materialRow_140 rfl (lv_at hl 1 rfl) ?_
            obtain ⟨u17, hu17, hf⟩ := Option.bind_eq_some_iff.mp hf
            refine cl_v (wc := (uw_Model ad_md cA_md u15.2)) (wr := []) (tysC := [(cA_md 1, .int), (cA_md 2, .int), (cA_md 3, .int), (cA_md 4, .int), (cA_md 5, .int), (cA_md 6, .int), (cA_md 7, .int), (cA_md 8, .int), (cA_md 9, .boolean), (cA_md 10, .int), (cA_md 11, .int), (cA_md 12, .int), (cA_md 13, .int)]) (wu := fun (u : SModel) => (uw_Model ad_md cA_md u)) (wn := fun (u : SModel) => (uw_Model ad_md cA_md u)) [0, 1, 2, 3, 4, 5, 6, 7, 8, 9, 10, 11, 12, 13] [] [0, 1, 2, 3, 4, 5, 6, 7, 8, 9, 10, 11, 12, 13] [0, 1, 2, 3, 4, 5, 6, 7, 8, 9, 10, 11, 12] hP hD hS hA hK rfl rfl (by decide +kernel) (by decide +kernel) (by decide +kernel) rfl (fun _ => rfl) (by decide +kernel) (fun hPc hKc hDc => (va_runV (As := [.int y1]) (rest := []) ⟨hx, hb, hml, hown, hts⟩ (k_Model_name l dC dI ad_md cA_md H.size u15.2 y1 u17 hu17) (cwV 1 hts (gV wd_882 wd_884 wd_29 wd_49 wd_885) rfl rfl rfl (by decide +kernel) ⟨Nat.le_of_ble_eq_true rfl, Nat.le_of_ble_eq_true rfl⟩) (cl_preV hPc hKc hDc hN (ci := 6) 0 rfl rfl) rfl rfl hl.1 rfl (lv_room (Nat.le_of_ble_eq_true rfl)) d_Model_materialRow_141 ⟨Nat.le_of_ble_eq_true rfl, Nat.le_of_ble_eq_true rfl⟩)) (fun u H locs hw hP hD hS => ?_)
            have hw := hw.symm
            subst hw
            have hP : va_P (dC, dI) vwCl (uw_Model ad_md cA_md u17) H := hP
            have hD : va_D A (uw_Model ad_md cA_md u17) := hD
            refine lv_goto (tgt := 110) hx hb d_Model_materialRow_144 (by decide) ?_
            exact ih u17 y1 H locs ls hf hP hD hS (lv_sub hl [0, 1] rfl)
  have w_39 : ∀ (n : Nat) (md : SModel) (y1 : Int32) (y2 : Int32) (y3 : Int32) (H : Heap) (locs : List Loc) (ls : Array Slot), f_Model_materialRow_39 n md y1 y2 y3 = some res → va_P (dC, dI) vwCl (uw_Model ad_md cA_md md) H → va_D A (uw_Model ad_md cA_md md) → va_S A s.heap H locs → lv_has ls 4 [(0, .ref (ad_md 0)), (1, .int y1), (2, .int y2), (3, .int y3)] → W p l e (headSpec w_Model_materialRow ({ frames := 4, cells := 0, slots := 0, locals := 89 })).room s m ([.ref (ad_md 0)] : List Value).toArray below meth c H locs 0 0 Q (F0 m 39 ls []) := by
    intro n
    induction n with
    | zero =>
      intro md y1 y2 y3 H locs ls hf hP hD hS hl
      rw [f_Model_materialRow_39] at hf; cases hf
    | succ n ih =>
      intro md y1 y2 y3 H locs ls hf hP hD hS hl
      rw [f_Model_materialRow_39] at hf
      refine lv_iload_n hx hb d_Model_materialRow_39 rfl (lv_at hl 3 rfl) ?_
      refine lv_aload_n hx hb d_Model_materialRow_40 rfl (lv_at hl 0 rfl) ?_
      refine va_get (D := (dC, dI)) (ci := 6) (v := .int md.2.2.1.1) (C := "HazardTablesModel") (T := F_Model) (N := 30) hx hb hts hin_Model hown hK hP 0 rfl rfl 7 (by decide) fl_110 (fun _ h9 => h9) rfl d_Model_materialRow_41 ?_
      refine lv_icmp_ge (tgt := 78) hx hb d_Model_materialRow_44 (by decide) (fun hc4 => ?_) (fun hc4 => ?_)
      · have hf := hf_t hf hc4
        refine lv_aload_n hx hb d_Model_materialRow_78 rfl (lv_at hl 0 rfl) ?_
        refine va_get (D := (dC, dI)) (ci := 6) (v := .int md.2.1.2.2.2) (C := "HazardTablesModel") (T := F_Model) (N := 30) hx hb hts hin_Model hown hK hP 0 rfl rfl 11 (by decide) fl_85 (fun _ h9 => h9) rfl d_Model_materialRow_79 ?_
        refine lv_if_lt (tgt := 86) hx hb d_Model_materialRow_82 (by decide) (fun hc5 => ?_) (fun hc5 => ?_)
        · have hf := hf_t hf hc5
          refine lv_aload_n hx hb d_Model_materialRow_86 rfl (lv_at hl 0 rfl) ?_
          refine va_get (D := (dC, dI)) (ci := 6) (v := .ref (ad_md 3)) (C := "HazardTablesModel") (T := F_Model) (N := 30) hx hb hts hin_Model hown hK hP 0 rfl rfl 9 (by decide) fl_20 (fun _ h9 => h9) rfl d_Model_materialRow_87 ?_
          refine lv_iload_n hx hb d_Model_materialRow_90 rfl (lv_at hl 1 rfl) ?_
          refine lv_iconst (v := (0 : Int32)) hx hb d_Model_materialRow_91 (by decide) ?_
          refine lv_iadd hx hb d_Model_materialRow_92 ?_
          refine lv_iload_n hx hb d_Model_materialRow_93 rfl (lv_at hl 2 rfl) ?_
          obtain ⟨hi6, hf⟩ := hf_g hf
          refine va_iast hx hb hK hP hD hS 3 2 rfl rfl hi6 d_Model_materialRow_94 (fun H locs hP hD hS => ?_)
          have hP : va_P (dC, dI) vwCl (uw_Model ad_md cA_md (md.1, md.2.1, (md.2.2.1.1, md.2.2.1.2.1, upd md.2.2.1.2.2 (y1 + (0 : Int32)).toNatClampNeg y2), md.2.2.2.1, md.2.2.2.2.1, md.2.2.2.2.2.1, md.2.2.2.2.2.2.1, md.2.2.2.2.2.2.2.1, md.2.2.2.2.2.2.2.2)) H := hP
          have hD : va_D A (uw_Model ad_md cA_md (md.1, md.2.1, (md.2.2.1.1, md.2.2.1.2.1, upd md.2.2.1.2.2 (y1 + (0 : Int32)).toNatClampNeg y2), md.2.2.2.1, md.2.2.2.2.1, md.2.2.2.2.2.1, md.2.2.2.2.2.2.1, md.2.2.2.2.2.2.2.1, md.2.2.2.2.2.2.2.2)) := hD
          refine lv_aload_n hx hb d_Model_materialRow_95 rfl (lv_at hl 0 rfl) ?_
          refine va_get (D := (dC, dI)) (ci := 6) (v := .ref (ad_md 3)) (C := "HazardTablesModel") (T := F_Model) (N := 30) hx hb hts hin_Model hown hK hP 0 rfl rfl 9 (by decide) fl_20 (fun _ h9 => h9) rfl d_Model_materialRow_96 ?_
          refine lv_iload_n hx hb d_Model_materialRow_99 rfl (lv_at hl 1 rfl) ?_
          refine lv_bipush (v := (9 : Int32)) hx hb d_Model_materialRow_100 (by decide) ?_
          refine lv_iadd hx hb d_Model_materialRow_102 ?_
          refine lv_iconst (v := (0 : Int32)) hx hb d_Model_materialRow_103 (by decide) ?_
          obtain ⟨hi7, hf⟩ := hf_g hf
          refine va_iast hx hb hK hP hD hS 3 2 rfl rfl hi7 d_Model_materialRow_104 (fun H locs hP hD hS => ?_)
          have hP : va_P (dC, dI) vwCl (uw_Model ad_md cA_md (md.1, md.2.1, (md.2.2.1.1, md.2.2.1.2.1, upd (upd md.2.2.1.2.2 (y1 + (0 : Int32)).toNatClampNeg y2) (y1 + (9 : Int32)).toNatClampNeg (0 : Int32)), md.2.2.2.1, md.2.2.2.2.1, md.2.2.2.2.2.1, md.2.2.2.2.2.2.1, md.2.2.2.2.2.2.2.1, md.2.2.2.2.2.2.2.2)) H := hP
          have hD : va_D A (uw_Model ad_md cA_md (md.1, md.2.1, (md.2.2.1.1, md.2.2.1.2.1, upd (upd md.2.2.1.2.2 (y1 + (0 : Int32)).toNatClampNeg y2) (y1 + (9 : Int32)).toNatClampNeg (0 : Int32)), md.2.2.2.1, md.2.2.2.2.1, md.2.2.2.2.2.1, md.2.2.2.2.2.2.1, md.2.2.2.2.2.2.2.1, md.2.2.2.2.2.2.2.2)) := hD
          refine lv_aload_n hx hb d_Model_materialRow_105 rfl (lv_at hl 0 rfl) ?_
          refine lv_iload_n hx hb d_Model_materialRow_106 rfl (lv_at hl 1 rfl) ?_
          obtain ⟨u8, hu8, hf⟩ := Option.bind_eq_some_iff.mp hf
          refine cl_v (wc := (uw_Model ad_md cA_md (md.1, md.2.1, (md.2.2.1.1, md.2.2.1.2.1, upd (upd md.2.2.1.2.2 (y1 + (0 : Int32)).toNatClampNeg y2) (y1 + (9 : Int32)).toNatClampNeg (0 : Int32)), md.2.2.2.1, md.2.2.2.2.1, md.2.2.2.2.2.1, md.2.2.2.2.2.2.1, md.2.2.2.2.2.2.2.1, md.2.2.2.2.2.2.2.2))) (wr := []) (tysC := [(cA_md 1, .int), (cA_md 2, .int), (cA_md 3, .int), (cA_md 4, .int), (cA_md 5, .int), (cA_md 6, .int), (cA_md 7, .int), (cA_md 8, .int), (cA_md 9, .boolean), (cA_md 10, .int), (cA_md 11, .int), (cA_md 12, .int), (cA_md 13, .int)]) (wu := fun (u : SModel) => (uw_Model ad_md cA_md u)) (wn := fun (u : SModel) => (uw_Model ad_md cA_md u)) [0, 1, 2, 3, 4, 5, 6, 7, 8, 9, 10, 11, 12, 13] [] [0, 1, 2, 3, 4, 5, 6, 7, 8, 9, 10, 11, 12, 13] [0, 1, 2, 3, 4, 5, 6, 7, 8, 9, 10, 11, 12] hP hD hS hA hK rfl rfl (by decide +kernel) (by decide +kernel) (by decide +kernel) rfl (fun _ => rfl) (by decide +kernel) (fun hPc hKc hDc => (va_runV (As := [.int y1]) (rest := []) ⟨hx, hb, hml, hown, hts⟩ (k_Model_name l dC dI ad_md cA_md H.size (md.1, md.2.1, (md.2.2.1.1, md.2.2.1.2.1, upd (upd md.2.2.1.2.2 (y1 + (0 : Int32)).toNatClampNeg y2) (y1 + (9 : Int32)).toNatClampNeg (0 : Int32)), md.2.2.2.1, md.2.2.2.2.1, md.2.2.2.2.2.1, md.2.2.2.2.2.2.1, md.2.2.2.2.2.2.2.1, md.2.2.2.2.2.2.2.2) y1 u8 hu8) (cwV 1 hts (gV wd_882 wd_884 wd_29 wd_49 wd_885) rfl rfl rfl (by decide +kernel) ⟨Nat.le_of_ble_eq_true rfl, Nat.le_of_ble_eq_true rfl⟩) (cl_preV hPc hKc hDc hN (ci := 6) 0 rfl rfl) rfl rfl hl.1 rfl (lv_room (Nat.le_of_ble_eq_true rfl)) d_Model_materialRow_107 ⟨Nat.le_of_ble_eq_true rfl, Nat.le_of_ble_eq_true rfl⟩)) (fun u H locs hw hP hD hS => ?_)
          have hw := hw.symm
          subst hw
          have hP : va_P (dC, dI) vwCl (uw_Model ad_md cA_md u8) H := hP
          have hD : va_D A (uw_Model ad_md cA_md u8) := hD
          exact w_110 4096 u8 y1 H locs ls hf hP hD hS (lv_sub hl [0, 1] rfl)
        · have hf := hf_f hf hc5
          exact ret  md H locs ls 85 d_Model_materialRow_85 (Option.some.inj hf) hP hD hS
      · have hf := hf_f hf hc4
        refine lv_aload_n hx hb d_Model_materialRow_47 rfl (lv_at hl 0 rfl) ?_
        refine va_get (D := (dC, dI)) (ci := 6) (v := .ref (ad_md 3)) (C := "HazardTablesModel") (T := F_Model) (N := 30) hx hb hts hin_Model hown hK hP 0 rfl rfl 9 (by decide) fl_20 (fun _ h9 => h9) rfl d_Model_materialRow_48 ?_
        refine lv_iload_n hx hb d_Model_materialRow_51 rfl (lv_at hl 3 rfl) ?_
        refine lv_bipush (v := (43 : Int32)) hx hb d_Model_materialRow_52 (by decide) ?_
        refine lv_imul hx hb d_Model_materialRow_54 ?_
        refine lv_iconst (v := (0 : Int32)) hx hb d_Model_materialRow_55 (by decide) ?_
        refine lv_iadd hx hb d_Model_materialRow_56 ?_
        obtain ⟨hi9, hf⟩ := hf_g hf
        refine va_iald hx hb hK hP 3 2 rfl rfl hi9 d_Model_materialRow_57 ?_
        refine lv_iload_n hx hb d_Model_materialRow_58 rfl (lv_at hl 2 rfl) ?_
        refine lv_icmp_ne (tgt := 72) hx hb d_Model_materialRow_59 (by decide) (fun hc10 => ?_) (fun hc10 => ?_)
        · have hf := hf_f hf hc10
          refine lv_iinc (v := y3 + (1 : Int32)) (lv' := [(3, .int (y3 + (1 : Int32))), (0, .ref (ad_md 0)), (1, .int y1), (2, .int y2)]) hx hb d_Model_materialRow_72 hl (k := 3) rfl rfl (by decide) rfl (fun ls hl => ?_)
          refine lv_goto (tgt := 39) hx hb d_Model_materialRow_75 (by decide) ?_
          exact ih md y1 y2 (y3 + (1 : Int32)) H locs ls hf hP hD hS (lv_sub hl [1, 2, 3, 0] rfl)
        · have hf := hf_t hf hc10
          refine lv_aload_n hx hb d_Model_materialRow_62 rfl (lv_at hl 0 rfl) ?_
          refine lv_aload_n hx hb d_Model_materialRow_63 rfl (lv_at hl 0 rfl) ?_
          refine va_get (D := (dC, dI)) (ci := 6) (v := .int md.2.1.2.2.1) (C := "HazardTablesModel") (T := F_Model) (N := 30) hx hb hts hin_Model hown hK hP 0 rfl rfl 10 (by decide) fl_78 (fun _ h9 => h9) rfl d_Model_materialRow_64 ?_
          refine lv_iconst (v := (1 : Int32)) hx hb d_Model_materialRow_67 (by decide) ?_
          refine lv_isub hx hb d_Model_materialRow_68 ?_
          obtain ⟨u11, hu11, hf⟩ := Option.bind_eq_some_iff.mp hf
          refine cl_v (wc := (uw_Model ad_md cA_md md)) (wr := []) (tysC := [(cA_md 1, .int), (cA_md 2, .int), (cA_md 3, .int), (cA_md 4, .int), (cA_md 5, .int), (cA_md 6, .int), (cA_md 7, .int), (cA_md 8, .int), (cA_md 9, .boolean), (cA_md 10, .int), (cA_md 11, .int), (cA_md 12, .int), (cA_md 13, .int)]) (wu := fun (u : SModel) => (uw_Model ad_md cA_md u)) (wn := fun (u : SModel) => (uw_Model ad_md cA_md u)) [0, 1, 2, 3, 4, 5, 6, 7, 8, 9, 10, 11, 12, 13] [] [0, 1, 2, 3, 4, 5, 6, 7, 8, 9, 10, 11, 12, 13] [0, 1, 2, 3, 4, 5, 6, 7, 8, 9, 10, 11, 12] hP hD hS hA hK rfl rfl (by decide +kernel) (by decide +kernel) (by decide +kernel) rfl (fun _ => rfl) (by decide +kernel) (fun hPc hKc hDc => (va_runV (As := [.int (md.2.1.2.2.1 - (1 : Int32))]) (rest := []) ⟨hx, hb, hml, hown, hts⟩ (k_Model_fail l dC dI ad_md cA_md H.size md (md.2.1.2.2.1 - (1 : Int32)) u11 hu11) (cwV 1 hts (gV wd_870 wd_872 wd_26 wd_49 wd_873) rfl rfl rfl (by decide +kernel) ⟨Nat.le_of_ble_eq_true rfl, Nat.le_of_ble_eq_true rfl⟩) (cl_preV hPc hKc hDc hN (ci := 6) 0 rfl rfl) rfl rfl hl.1 rfl (lv_room (Nat.le_of_ble_eq_true rfl)) d_Model_materialRow_69 ⟨Nat.le_of_ble_eq_true rfl, Nat.le_of_ble_eq_true rfl⟩)) (fun u H locs hw hP hD hS => ?_)
          have hw := hw.symm
          subst hw
          have hP : va_P (dC, dI) vwCl (uw_Model ad_md cA_md u11) H := hP
          have hD : va_D A (uw_Model ad_md cA_md u11) := hD
          refine lv_iinc (v := y3 + (1 : Int32)) (lv' := [(3, .int (y3 + (1 : Int32))), (0, .ref (ad_md 0)), (1, .int y1), (2, .int y2)]) hx hb d_Model_materialRow_72 hl (k := 3) rfl rfl (by decide) rfl (fun ls hl => ?_)
          refine lv_goto (tgt := 39) hx hb d_Model_materialRow_75 (by decide) ?_
          exact ih u11 y1 y2 (y3 + (1 : Int32)) H locs ls hf hP hD hS (lv_sub hl [1, 2, 3, 0] rfl)
  have hl := lv_entry ([.ref (ad_md 0)]) (n := 4) (Nat.le_of_ble_eq_true rfl)
  rw [lg_entry_eq]
  generalize (lg_sl ([.ref (ad_md 0)]) ++ List.replicate (4 - (lg_sl ([.ref (ad_md 0)])).length) Slot.unset).toArray = ls at hl ⊢
  have hl : lv_has ls 4 [(0, .ref (ad_md 0))] := hl
  have hf := hf
  rw [f_Model_materialRow] at hf
  obtain ⟨H, hH⟩ : ∃ H : Heap, H = s.heap := ⟨_, rfl⟩
  obtain ⟨locs, hlocs⟩ : ∃ L : List Loc, L = [] := ⟨_, rfl⟩
  have hP : va_P (dC, dI) vwCl (uw_Model ad_md cA_md md) H := by rw [hH]; exact hP
  have hS : va_S A s.heap H locs := by rw [hH, hlocs]; exact hS
  show W p l e (headSpec w_Model_materialRow ({ frames := 4, cells := 0, slots := 0, locals := 89 })).room s m ([.ref (ad_md 0)] : List Value).toArray below meth c s.heap [] 0 0 Q (F0 m 0 ls [])
  suffices hgo : W p l e (headSpec w_Model_materialRow ({ frames := 4, cells := 0, slots := 0, locals := 89 })).room s m ([.ref (ad_md 0)] : List Value).toArray below meth c H locs 0 0 Q (F0 m 0 ls []) by rw [hH, hlocs] at hgo; exact hgo
  clear hH hlocs
  refine lv_aload_n hx hb d_Model_materialRow_0 rfl (lv_at hl 0 rfl) ?_
  refine va_get (D := (dC, dI)) (ci := 6) (v := .int md.2.2.1.1) (C := "HazardTablesModel") (T := F_Model) (N := 30) hx hb hts hin_Model hown hK hP 0 rfl rfl 7 (by decide) fl_110 (fun _ h9 => h9) rfl d_Model_materialRow_1 ?_
  refine lv_bipush (v := (12 : Int32)) hx hb d_Model_materialRow_4 (by decide) ?_
  refine lv_icmp_ne (tgt := 20) hx hb d_Model_materialRow_6 (by decide) (fun hc1 => ?_) (fun hc1 => ?_)
  · have hf := hf_f hf hc1
    refine lv_aload_n hx hb d_Model_materialRow_20 rfl (lv_at hl 0 rfl) ?_
    refine va_get (D := (dC, dI)) (ci := 6) (v := .int md.2.2.1.1) (C := "HazardTablesModel") (T := F_Model) (N := 30) hx hb hts hin_Model hown hK hP 0 rfl rfl 7 (by decide) fl_110 (fun _ h9 => h9) rfl d_Model_materialRow_21 ?_
    refine lv_bipush (v := (43 : Int32)) hx hb d_Model_materialRow_24 (by decide) ?_
    refine lv_imul hx hb d_Model_materialRow_26 ?_
    refine lv_istore_n (lv' := [(1, .int (md.2.2.1.1 * (43 : Int32))), (0, .ref (ad_md 0))]) hx hb d_Model_materialRow_27 rfl hl (by decide) rfl (fun ls hl => ?_)
    refine lv_aload_n hx hb d_Model_materialRow_28 rfl (lv_at hl 1 rfl) ?_
    refine lv_iconst (v := (1 : Int32)) hx hb d_Model_materialRow_29 (by decide) ?_
    refine lv_sipush (v := (9999 : Int32)) hx hb d_Model_materialRow_30 (by decide) ?_
    obtain ⟨u2, hu2, hf⟩ := Option.bind_eq_some_iff.mp hf
    refine cl_i (wc := (uw_Model ad_md cA_md md)) (wr := []) (tysC := [(cA_md 1, .int), (cA_md 2, .int), (cA_md 3, .int), (cA_md 4, .int), (cA_md 5, .int), (cA_md 6, .int), (cA_md 7, .int), (cA_md 8, .int), (cA_md 9, .boolean), (cA_md 10, .int), (cA_md 11, .int), (cA_md 12, .int), (cA_md 13, .int)]) (wu := fun (u : SModel) => (uw_Model ad_md cA_md u)) (wn := fun (u : SModel) => (uw_Model ad_md cA_md u)) [0, 1, 2, 3, 4, 5, 6, 7, 8, 9, 10, 11, 12, 13] [] [0, 1, 2, 3, 4, 5, 6, 7, 8, 9, 10, 11, 12, 13] [0, 1, 2, 3, 4, 5, 6, 7, 8, 9, 10, 11, 12] hP hD hS hA hK rfl rfl (by decide +kernel) (by decide +kernel) (by decide +kernel) rfl (fun _ => rfl) (by decide +kernel) (fun hPc hKc hDc => (va_runV (As := [.int (1 : Int32), .int (9999 : Int32)]) (rest := []) ⟨hx, hb, hml, hown, hts⟩ (k_Model_number l dC dI ad_md cA_md H.size md (1 : Int32) (9999 : Int32) u2 hu2) (cwV 2 hts (gV wd_874 wd_876 wd_27 wd_49 wd_877) rfl rfl rfl (by decide +kernel) ⟨Nat.le_of_ble_eq_true rfl, Nat.le_of_ble_eq_true rfl⟩) (cl_preV hPc hKc hDc hN (ci := 6) 0 rfl rfl) rfl rfl hl.1 rfl (lv_room (Nat.le_of_ble_eq_true rfl)) d_Model_materialRow_33 ⟨Nat.le_of_ble_eq_true rfl, Nat.le_of_ble_eq_true rfl⟩)) (fun r u H locs hw hP hD hS => ?_)
    obtain ⟨hw1, hw2⟩ := hw
    have hw1 := hw1.symm
    have hw2 := hw2.symm
    subst hw1
    subst hw2
    have hP : va_P (dC, dI) vwCl (uw_Model ad_md cA_md u2.2) H := hP
    have hD : va_D A (uw_Model ad_md cA_md u2.2) := hD
    refine lv_istore_n (lv' := [(2, .int u2.1), (1, .int (md.2.2.1.1 * (43 : Int32))), (0, .ref (ad_md 0))]) hx hb d_Model_materialRow_36 rfl hl (by decide) rfl (fun ls hl => ?_)
    refine lv_iconst (v := (0 : Int32)) hx hb d_Model_materialRow_37 (by decide) ?_
    refine lv_istore_n (lv' := [(3, .int (0 : Int32)), (2, .int u2.1), (1, .int (md.2.2.1.1 * (43 : Int32))), (0, .ref (ad_md 0))]) hx hb d_Model_materialRow_38 rfl hl (by decide) rfl (fun ls hl => ?_)
    exact w_39 4096 u2.2 (md.2.2.1.1 * (43 : Int32)) u2.1 (0 : Int32) H locs ls hf hP hD hS (lv_sub hl [3, 2, 1, 0] rfl)
  · have hf := hf_t hf hc1
    refine lv_aload_n hx hb d_Model_materialRow_9 rfl (lv_at hl 0 rfl) ?_
    refine lv_aload_n hx hb d_Model_materialRow_10 rfl (lv_at hl 0 rfl) ?_
    refine va_get (D := (dC, dI)) (ci := 6) (v := .int md.2.1.2.2.1) (C := "HazardTablesModel") (T := F_Model) (N := 30) hx hb hts hin_Model hown hK hP 0 rfl rfl 10 (by decide) fl_78 (fun _ h9 => h9) rfl d_Model_materialRow_11 ?_
    refine lv_iconst (v := (1 : Int32)) hx hb d_Model_materialRow_14 (by decide) ?_
    refine lv_isub hx hb d_Model_materialRow_15 ?_
    obtain ⟨u3, hu3, hf⟩ := Option.bind_eq_some_iff.mp hf
    refine cl_v (wc := (uw_Model ad_md cA_md md)) (wr := []) (tysC := [(cA_md 1, .int), (cA_md 2, .int), (cA_md 3, .int), (cA_md 4, .int), (cA_md 5, .int), (cA_md 6, .int), (cA_md 7, .int), (cA_md 8, .int), (cA_md 9, .boolean), (cA_md 10, .int), (cA_md 11, .int), (cA_md 12, .int), (cA_md 13, .int)]) (wu := fun (u : SModel) => (uw_Model ad_md cA_md u)) (wn := fun (u : SModel) => (uw_Model ad_md cA_md u)) [0, 1, 2, 3, 4, 5, 6, 7, 8, 9, 10, 11, 12, 13] [] [0, 1, 2, 3, 4, 5, 6, 7, 8, 9, 10, 11, 12, 13] [0, 1, 2, 3, 4, 5, 6, 7, 8, 9, 10, 11, 12] hP hD hS hA hK rfl rfl (by decide +kernel) (by decide +kernel) (by decide +kernel) rfl (fun _ => rfl) (by decide +kernel) (fun hPc hKc hDc => (va_runV (As := [.int (md.2.1.2.2.1 - (1 : Int32))]) (rest := []) ⟨hx, hb, hml, hown, hts⟩ (k_Model_fail l dC dI ad_md cA_md H.size md (md.2.1.2.2.1 - (1 : Int32)) u3 hu3) (cwV 1 hts (gV wd_870 wd_872 wd_26 wd_49 wd_873) rfl rfl rfl (by decide +kernel) ⟨Nat.le_of_ble_eq_true rfl, Nat.le_of_ble_eq_true rfl⟩) (cl_preV hPc hKc hDc hN (ci := 6) 0 rfl rfl) rfl rfl hl.1 rfl (lv_room (Nat.le_of_ble_eq_true rfl)) d_Model_materialRow_16 ⟨Nat.le_of_ble_eq_true rfl, Nat.le_of_ble_eq_true rfl⟩)) (fun u H locs hw hP hD hS => ?_)
    have hw := hw.symm
    subst hw
    have hP : va_P (dC, dI) vwCl (uw_Model ad_md cA_md u3) H := hP
    have hD : va_D A (uw_Model ad_md cA_md u3) := hD
    exact ret  u3 H locs ls 19 d_Model_materialRow_19 (Option.some.inj hf) hP hD hS
noncomputable def f_Model_generalRow_21  (md : SModel) (y1 : Int32) : Option (SModel) :=
  (if inb (y1 + (0 : Int32)) 559 then
    (if inb (y1 + (1 : Int32)) 559 then
      (if inb (y1 + (8 : Int32)) 559 then
        (if inb (y1 + (9 : Int32)) 559 then
          (Option.bind (f_Model_due (md.1, md.2.1, (md.2.2.1.1, true, upd (upd (upd (upd md.2.2.1.2.2 (y1 + (0 : Int32)).toNatClampNeg (0 : Int32)) (y1 + (1 : Int32)).toNatClampNeg (0 : Int32)) (y1 + (8 : Int32)).toNatClampNeg (0 : Int32)) (y1 + (9 : Int32)).toNatClampNeg (0 : Int32)), md.2.2.2.1, md.2.2.2.2.1, md.2.2.2.2.2.1, md.2.2.2.2.2.2.1, md.2.2.2.2.2.2.2.1, md.2.2.2.2.2.2.2.2) y1) fun u7 =>
            (Option.bind (f_Model_take u7 (59 : Int32)) fun u8 =>
              (some u8)
             )
           )
         else none)
       else none)
     else none)
   else none)
noncomputable def f_Model_generalRow (md : SModel) : Option (SModel) :=
  (if (bI md.2.2.1.2.1) = 0 then
    (f_Model_generalRow_21 md (516 : Int32))
   else
    (Option.bind (f_Model_fail md (md.2.1.2.2.1 - (1 : Int32))) fun u2 =>
      (f_Model_generalRow_21 u2 (516 : Int32))
     )
   )
set_option maxHeartbeats 4000000 in
set_option maxRecDepth 100000 in
theorem k_Model_generalRow (l : Launch) (dC : Nat → ClassId) (dI : Nat → Nat → Nat) (ad_md : Nat → Nat) (cA_md : Nat → ClassId) (sz : Nat) (md : SModel) (res : SModel) (hf : f_Model_generalRow md = some res) : Met l y_Model_generalRow w_Model_generalRow ({ frames := 4, cells := 0, slots := 0, locals := 89 }) (cPc (dC, dI) (uw_Model ad_md cA_md md) [(cA_md 1, .int), (cA_md 2, .int), (cA_md 3, .int), (cA_md 4, .int), (cA_md 5, .int), (cA_md 6, .int), (cA_md 7, .int), (cA_md 8, .int), (cA_md 9, .boolean), (cA_md 10, .int), (cA_md 11, .int), (cA_md 12, .int), (cA_md 13, .int)] sz [.ref (ad_md 0)]) (va_Qv (fun (u : SModel) => u = res) (fun (u : SModel) (t : State) => va_P (dC, dI) vwCl (uw_Model ad_md cA_md u) t.heap ∧ va_K (dC, dI) vwCl [(cA_md 1, .int), (cA_md 2, .int), (cA_md 3, .int), (cA_md 4, .int), (cA_md 5, .int), (cA_md 6, .int), (cA_md 7, .int), (cA_md 8, .int), (cA_md 9, .boolean), (cA_md 10, .int), (cA_md 11, .int), (cA_md 12, .int), (cA_md 13, .int)] t ∧ va_D (va_A (uw_Model ad_md cA_md md) sz) (uw_Model ad_md cA_md u)) (va_A (uw_Model ad_md cA_md md) sz)) 0 0 (va_A (uw_Model ad_md cA_md md) sz) := by
  refine Met.ofW (cc := b_Model_generalRow) (maxL := 2) (ret := none) (by decide) rfl ?_
  intro p e s m args below meth c s₁ B hml hv
  obtain ⟨rfl, hsz, hP, hK, hD0, hN⟩ := hv
  have hx := B.exec
  have hb := B.bytes
  have hr := B.returns
  have hts := atoms_spec (ws := w_Model_generalRow) B.pre
  have hown : s.vm.findClass "HazardTablesModel" = some m.cls := findClass_of_methodNamed B.named
  have hlocks := B.notSynchronized
  subst hsz
  have hD := hD0.self (sz := s.heap.size)
  generalize hAe : va_A (uw_Model ad_md cA_md md) s.heap.size = A at hD ⊢
  have hA : ∀ q : Nat, s.heap.size ≤ q → A q := fun q h => by rw [← hAe]; exact Or.inr h
  have hS : va_S A s.heap s.heap [] := va_S.rf
  have hP : va_P (dC, dI) vwCl (uw_Model ad_md cA_md md) s.heap := hP
  have fl_119 := (hts _ (List.mem_cons_of_mem _ wd_756))
  have fl_20 := (hts _ (List.mem_cons_of_mem _ wd_757))
  have fl_78 := (hts _ (List.mem_cons_of_mem _ wd_758))
  have hin_Model : ∀ w ∈ u_ws "HazardTablesModel" F_Model 30, w ∈ w_Model_generalRow := fun w h => List.mem_cons_of_mem _ (hinA_Model w h)
  have ret : ∀ (u : SModel) (H : Heap) (locs : List Loc) (ls : Array Slot) (pc : Nat), decode b_Model_generalRow pc = .ok (.return_, 1) → u = res → va_P (dC, dI) vwCl (uw_Model ad_md cA_md u) H → va_D A (uw_Model ad_md cA_md u) → va_S A s.heap H locs → W p l e (headSpec w_Model_generalRow ({ frames := 4, cells := 0, slots := 0, locals := 89 })).room s m ([.ref (ad_md 0)] : List Value).toArray below meth c H locs 0 0 (MQ below (va_Qv (fun (u : SModel) => u = res) (fun (u : SModel) (t : State) => va_P (dC, dI) vwCl (uw_Model ad_md cA_md u) t.heap ∧ va_K (dC, dI) vwCl [(cA_md 1, .int), (cA_md 2, .int), (cA_md 3, .int), (cA_md 4, .int), (cA_md 5, .int), (cA_md 6, .int), (cA_md 7, .int), (cA_md 8, .int), (cA_md 9, .boolean), (cA_md 10, .int), (cA_md 11, .int), (cA_md 12, .int), (cA_md 13, .int)] t ∧ va_D A (uw_Model ad_md cA_md u)) A) ([.ref (ad_md 0)] : List Value).toArray s 0 0 A) (F0 m pc ls []) := fun u H locs ls pc hd hp hP hD hS => W.vret hx hb hr (fun t ht hW => ⟨⟨u, rfl, hp, by rw [ht]; exact hP, va_K.moved hW.alike hK, hD⟩, hS.F ht⟩) hS.2.2 hd
  generalize (MQ below (va_Qv (fun (u : SModel) => u = res) (fun (u : SModel) (t : State) => va_P (dC, dI) vwCl (uw_Model ad_md cA_md u) t.heap ∧ va_K (dC, dI) vwCl [(cA_md 1, .int), (cA_md 2, .int), (cA_md 3, .int), (cA_md 4, .int), (cA_md 5, .int), (cA_md 6, .int), (cA_md 7, .int), (cA_md 8, .int), (cA_md 9, .boolean), (cA_md 10, .int), (cA_md 11, .int), (cA_md 12, .int), (cA_md 13, .int)] t ∧ va_D A (uw_Model ad_md cA_md u)) A) ([.ref (ad_md 0)] : List Value).toArray s 0 0 A) = Q at ret ⊢
  have w_21 : ∀ (md : SModel) (y1 : Int32) (H : Heap) (locs : List Loc) (ls : Array Slot), f_Model_generalRow_21 md y1 = some res → va_P (dC, dI) vwCl (uw_Model ad_md cA_md md) H → va_D A (uw_Model ad_md cA_md md) → va_S A s.heap H locs → lv_has ls 2 [(0, .ref (ad_md 0)), (1, .int y1)] → W p l e (headSpec w_Model_generalRow ({ frames := 4, cells := 0, slots := 0, locals := 89 })).room s m ([.ref (ad_md 0)] : List Value).toArray below meth c H locs 0 0 Q (F0 m 21 ls []) := by
    intro md y1 H locs ls hf hP hD hS hl
    rw [f_Model_generalRow_21] at hf
    refine lv_aload_n hx hb d_Model_generalRow_21 rfl (lv_at hl 0 rfl) ?_
    refine lv_iconst (v := (1 : Int32)) hx hb d_Model_generalRow_22 (by decide) ?_
    refine va_put (D := (dC, dI)) (ci := 6) (v := .int (1 : Int32)) (ty := .boolean) (C := "HazardTablesModel") (T := F_Model) (N := 30) hx hb hts hin_Model t_Model t_Model_ok n_Model hown hK hP hD hS 0 rfl rfl 8 (by decide) fl_119 (fun _ h9 => h9) rfl (by decide +kernel) (nar_bI true) (fit_bI true) (Nat.le_of_ble_eq_true rfl) d_Model_generalRow_23 (fun H locs hP hD hS => ?_)
    have hP : va_P (dC, dI) vwCl (uw_Model ad_md cA_md (md.1, md.2.1, (md.2.2.1.1, true, md.2.2.1.2.2), md.2.2.2.1, md.2.2.2.2.1, md.2.2.2.2.2.1, md.2.2.2.2.2.2.1, md.2.2.2.2.2.2.2.1, md.2.2.2.2.2.2.2.2)) H := hP
    have hD : va_D A (uw_Model ad_md cA_md (md.1, md.2.1, (md.2.2.1.1, true, md.2.2.1.2.2), md.2.2.2.1, md.2.2.2.2.1, md.2.2.2.2.2.1, md.2.2.2.2.2.2.1, md.2.2.2.2.2.2.2.1, md.2.2.2.2.2.2.2.2)) := hD
    refine lv_aload_n hx hb d_Model_generalRow_26 rfl (lv_at hl 0 rfl) ?_
    refine va_get (D := (dC, dI)) (ci := 6) (v := .ref (ad_md 3)) (C := "HazardTablesModel") (T := F_Model) (N := 30) hx hb hts hin_Model hown hK hP 0 rfl rfl 9 (by decide) fl_20 (fun _ h9 => h9) rfl d_Model_generalRow_27 ?_
    refine lv_iload_n hx hb d_Model_generalRow_30 rfl (lv_at hl 1 rfl) ?_
    refine lv_iconst (v := (0 : Int32)) hx hb d_Model_generalRow_31 (by decide) ?_
    refine lv_iadd hx hb d_Model_generalRow_32 ?_
    refine lv_iconst (v := (0 : Int32)) hx hb d_Model_generalRow_33 (by decide) ?_
    obtain ⟨hi3, hf⟩ := hf_g hf
    refine va_iast hx hb hK hP hD hS 3 2 rfl rfl hi3 d_Model_generalRow_34 (fun H locs hP hD hS => ?_)
    have hP : va_P (dC, dI) vwCl (uw_Model ad_md cA_md (md.1, md.2.1, (md.2.2.1.1, true, upd md.2.2.1.2.2 (y1 + (0 : Int32)).toNatClampNeg (0 : Int32)), md.2.2.2.1, md.2.2.2.2.1, md.2.2.2.2.2.1, md.2.2.2.2.2.2.1, md.2.2.2.2.2.2.2.1, md.2.2.2.2.2.2.2.2)) H := hP
    have hD : va_D A (uw_Model ad_md cA_md (md.1, md.2.1, (md.2.2.1.1, true, upd md.2.2.1.2.2 (y1 + (0 : Int32)).toNatClampNeg (0 : Int32)), md.2.2.2.1, md.2.2.2.2.1, md.2.2.2.2.2.1, md.2.2.2.2.2.2.1, md.2.2.2.2.2.2.2.1, md.2.2.2.2.2.2.2.2)) := hD
    refine lv_aload_n hx hb d_Model_generalRow_35 rfl (lv_at hl 0 rfl) ?_
    refine va_get (D := (dC, dI)) (ci := 6) (v := .ref (ad_md 3)) (C := "HazardTablesModel") (T := F_Model) (N := 30) hx hb hts hin_Model hown hK hP 0 rfl rfl 9 (by decide) fl_20 (fun _ h9 => h9) rfl d_Model_generalRow_36 ?_
    refine lv_iload_n hx hb d_Model_generalRow_39 rfl (lv_at hl 1 rfl) ?_
    refine lv_iconst (v := (1 : Int32)) hx hb d_Model_generalRow_40 (by decide) ?_
    refine lv_iadd hx hb d_Model_generalRow_41 ?_
    refine lv_iconst (v := (0 : Int32)) hx hb d_Model_generalRow_42 (by decide) ?_
    obtain ⟨hi4, hf⟩ := hf_g hf
    refine va_iast hx hb hK hP hD hS 3 2 rfl rfl hi4 d_Model_generalRow_43 (fun H locs hP hD hS => ?_)
    have hP : va_P (dC, dI) vwCl (uw_Model ad_md cA_md (md.1, md.2.1, (md.2.2.1.1, true, upd (upd md.2.2.1.2.2 (y1 + (0 : Int32)).toNatClampNeg (0 : Int32)) (y1 + (1 : Int32)).toNatClampNeg (0 : Int32)), md.2.2.2.1, md.2.2.2.2.1, md.2.2.2.2.2.1, md.2.2.2.2.2.2.1, md.2.2.2.2.2.2.2.1, md.2.2.2.2.2.2.2.2)) H := hP
    have hD : va_D A (uw_Model ad_md cA_md (md.1, md.2.1, (md.2.2.1.1, true, upd (upd md.2.2.1.2.2 (y1 + (0 : Int32)).toNatClampNeg (0 : Int32)) (y1 + (1 : Int32)).toNatClampNeg (0 : Int32)), md.2.2.2.1, md.2.2.2.2.1, md.2.2.2.2.2.1, md.2.2.2.2.2.2.1, md.2.2.2.2.2.2.2.1, md.2.2.2.2.2.2.2.2)) := hD
    refine lv_aload_n hx hb d_Model_generalRow_44 rfl (lv_at hl 0 rfl) ?_
    refine va_get (D := (dC, dI)) (ci := 6) (v := .ref (ad_md 3)) (C := "HazardTablesModel") (T := F_Model) (N := 30) hx hb hts hin_Model hown hK hP 0 rfl rfl 9 (by decide) fl_20 (fun _ h9 => h9) rfl d_Model_generalRow_45 ?_
    refine lv_iload_n hx hb d_Model_generalRow_48 rfl (lv_at hl 1 rfl) ?_
    refine lv_bipush (v := (8 : Int32)) hx hb d_Model_generalRow_49 (by decide) ?_
    refine lv_iadd hx hb d_Model_generalRow_51 ?_
    refine lv_iconst (v := (0 : Int32)) hx hb d_Model_generalRow_52 (by decide) ?_
    obtain ⟨hi5, hf⟩ := hf_g hf
    refine va_iast hx hb hK hP hD hS 3 2 rfl rfl hi5 d_Model_generalRow_53 (fun H locs hP hD hS => ?_)
    have hP : va_P (dC, dI) vwCl (uw_Model ad_md cA_md (md.1, md.2.1, (md.2.2.1.1, true, upd (upd (upd md.2.2.1.2.2 (y1 + (0 : Int32)).toNatClampNeg (0 : Int32)) (y1 + (1 : Int32)).toNatClampNeg (0 : Int32)) (y1 + (8 : Int32)).toNatClampNeg (0 : Int32)), md.2.2.2.1, md.2.2.2.2.1, md.2.2.2.2.2.1, md.2.2.2.2.2.2.1, md.2.2.2.2.2.2.2.1, md.2.2.2.2.2.2.2.2)) H := hP
    have hD : va_D A (uw_Model ad_md cA_md (md.1, md.2.1, (md.2.2.1.1, true, upd (upd (upd md.2.2.1.2.2 (y1 + (0 : Int32)).toNatClampNeg (0 : Int32)) (y1 + (1 : Int32)).toNatClampNeg (0 : Int32)) (y1 + (8 : Int32)).toNatClampNeg (0 : Int32)), md.2.2.2.1, md.2.2.2.2.1, md.2.2.2.2.2.1, md.2.2.2.2.2.2.1, md.2.2.2.2.2.2.2.1, md.2.2.2.2.2.2.2.2)) := hD
    refine lv_aload_n hx hb d_Model_generalRow_54 rfl (lv_at hl 0 rfl) ?_
    refine va_get (D := (dC, dI)) (ci := 6) (v := .ref (ad_md 3)) (C := "HazardTablesModel") (T := F_Model) (N := 30) hx hb hts hin_Model hown hK hP 0 rfl rfl 9 (by decide) fl_20 (fun _ h9 => h9) rfl d_Model_generalRow_55 ?_
    refine lv_iload_n hx hb d_Model_generalRow_58 rfl (lv_at hl 1 rfl) ?_
    refine lv_bipush (v := (9 : Int32)) hx hb d_Model_generalRow_59 (by decide) ?_
    refine lv_iadd hx hb d_Model_generalRow_61 ?_
    refine lv_iconst (v := (0 : Int32)) hx hb d_Model_generalRow_62 (by decide) ?_
    obtain ⟨hi6, hf⟩ := hf_g hf
    refine va_iast hx hb hK hP hD hS 3 2 rfl rfl hi6 d_Model_generalRow_63 (fun H locs hP hD hS => ?_)
    have hP : va_P (dC, dI) vwCl (uw_Model ad_md cA_md (md.1, md.2.1, (md.2.2.1.1, true, upd (upd (upd (upd md.2.2.1.2.2 (y1 + (0 : Int32)).toNatClampNeg (0 : Int32)) (y1 + (1 : Int32)).toNatClampNeg (0 : Int32)) (y1 + (8 : Int32)).toNatClampNeg (0 : Int32)) (y1 + (9 : Int32)).toNatClampNeg (0 : Int32)), md.2.2.2.1, md.2.2.2.2.1, md.2.2.2.2.2.1, md.2.2.2.2.2.2.1, md.2.2.2.2.2.2.2.1, md.2.2.2.2.2.2.2.2)) H := hP
    have hD : va_D A (uw_Model ad_md cA_md (md.1, md.2.1, (md.2.2.1.1, true, upd (upd (upd (upd md.2.2.1.2.2 (y1 + (0 : Int32)).toNatClampNeg (0 : Int32)) (y1 + (1 : Int32)).toNatClampNeg (0 : Int32)) (y1 + (8 : Int32)).toNatClampNeg (0 : Int32)) (y1 + (9 : Int32)).toNatClampNeg (0 : Int32)), md.2.2.2.1, md.2.2.2.2.1, md.2.2.2.2.2.1, md.2.2.2.2.2.2.1, md.2.2.2.2.2.2.2.1, md.2.2.2.2.2.2.2.2)) := hD
    refine lv_aload_n hx hb d_Model_generalRow_64 rfl (lv_at hl 0 rfl) ?_
    refine lv_iload_n hx hb d_Model_generalRow_65 rfl (lv_at hl 1 rfl) ?_
    obtain ⟨u7, hu7, hf⟩ := Option.bind_eq_some_iff.mp hf
    refine cl_v (wc := (uw_Model ad_md cA_md (md.1, md.2.1, (md.2.2.1.1, true, upd (upd (upd (upd md.2.2.1.2.2 (y1 + (0 : Int32)).toNatClampNeg (0 : Int32)) (y1 + (1 : Int32)).toNatClampNeg (0 : Int32)) (y1 + (8 : Int32)).toNatClampNeg (0 : Int32)) (y1 + (9 : Int32)).toNatClampNeg (0 : Int32)), md.2.2.2.1, md.2.2.2.2.1, md.2.2.2.2.2.1, md.2.2.2.2.2.2.1, md.2.2.2.2.2.2.2.1, md.2.2.2.2.2.2.2.2))) (wr := []) (tysC := [(cA_md 1, .int), (cA_md 2, .int), (cA_md 3, .int), (cA_md 4, .int), (cA_md 5, .int), (cA_md 6, .int), (cA_md 7, .int), (cA_md 8, .int), (cA_md 9, .boolean), (cA_md 10, .int), (cA_md 11, .int), (cA_md 12, .int), (cA_md 13, .int)]) (wu := fun (u : SModel) => (uw_Model ad_md cA_md u)) (wn := fun (u : SModel) => (uw_Model ad_md cA_md u)) [0, 1, 2, 3, 4, 5, 6, 7, 8, 9, 10, 11, 12, 13] [] [0, 1, 2, 3, 4, 5, 6, 7, 8, 9, 10, 11, 12, 13] [0, 1, 2, 3, 4, 5, 6, 7, 8, 9, 10, 11, 12] hP hD hS hA hK rfl rfl (by decide +kernel) (by decide +kernel) (by decide +kernel) rfl (fun _ => rfl) (by decide +kernel) (fun hPc hKc hDc => (va_runV (As := [.int y1]) (rest := []) ⟨hx, hb, hml, hown, hts⟩ (k_Model_due l dC dI ad_md cA_md H.size (md.1, md.2.1, (md.2.2.1.1, true, upd (upd (upd (upd md.2.2.1.2.2 (y1 + (0 : Int32)).toNatClampNeg (0 : Int32)) (y1 + (1 : Int32)).toNatClampNeg (0 : Int32)) (y1 + (8 : Int32)).toNatClampNeg (0 : Int32)) (y1 + (9 : Int32)).toNatClampNeg (0 : Int32)), md.2.2.2.1, md.2.2.2.2.1, md.2.2.2.2.2.1, md.2.2.2.2.2.2.1, md.2.2.2.2.2.2.2.1, md.2.2.2.2.2.2.2.2) y1 u7 hu7) (cwV 1 hts (gV wd_890 wd_892 wd_31 wd_49 wd_893) rfl rfl rfl (by decide +kernel) ⟨Nat.le_of_ble_eq_true rfl, Nat.le_of_ble_eq_true rfl⟩) (cl_preV hPc hKc hDc hN (ci := 6) 0 rfl rfl) rfl rfl hl.1 rfl (lv_room (Nat.le_of_ble_eq_true rfl)) d_Model_generalRow_66 ⟨Nat.le_of_ble_eq_true rfl, Nat.le_of_ble_eq_true rfl⟩)) (fun u H locs hw hP hD hS => ?_)
    have hw := hw.symm
    subst hw
    have hP : va_P (dC, dI) vwCl (uw_Model ad_md cA_md u7) H := hP
    have hD : va_D A (uw_Model ad_md cA_md u7) := hD
    refine lv_aload_n hx hb d_Model_generalRow_69 rfl (lv_at hl 0 rfl) ?_
    refine lv_bipush (v := (59 : Int32)) hx hb d_Model_generalRow_70 (by decide) ?_
    obtain ⟨u8, hu8, hf⟩ := Option.bind_eq_some_iff.mp hf
    refine cl_v (wc := (uw_Model ad_md cA_md u7)) (wr := []) (tysC := [(cA_md 1, .int), (cA_md 2, .int), (cA_md 3, .int), (cA_md 4, .int), (cA_md 5, .int), (cA_md 6, .int), (cA_md 7, .int), (cA_md 8, .int), (cA_md 9, .boolean), (cA_md 10, .int), (cA_md 11, .int), (cA_md 12, .int), (cA_md 13, .int)]) (wu := fun (u : SModel) => (uw_Model ad_md cA_md u)) (wn := fun (u : SModel) => (uw_Model ad_md cA_md u)) [0, 1, 2, 3, 4, 5, 6, 7, 8, 9, 10, 11, 12, 13] [] [0, 1, 2, 3, 4, 5, 6, 7, 8, 9, 10, 11, 12, 13] [0, 1, 2, 3, 4, 5, 6, 7, 8, 9, 10, 11, 12] hP hD hS hA hK rfl rfl (by decide +kernel) (by decide +kernel) (by decide +kernel) rfl (fun _ => rfl) (by decide +kernel) (fun hPc hKc hDc => (va_runV (As := [.int (59 : Int32)]) (rest := []) ⟨hx, hb, hml, hown, hts⟩ (k_Model_take l dC dI ad_md cA_md H.size u7 (59 : Int32) u8 hu8) (cwV 1 hts (gV wd_886 wd_888 wd_30 wd_49 wd_889) rfl rfl rfl (by decide +kernel) ⟨Nat.le_of_ble_eq_true rfl, Nat.le_of_ble_eq_true rfl⟩) (cl_preV hPc hKc hDc hN (ci := 6) 0 rfl rfl) rfl rfl hl.1 rfl (lv_room (Nat.le_of_ble_eq_true rfl)) d_Model_generalRow_72 ⟨Nat.le_of_ble_eq_true rfl, Nat.le_of_ble_eq_true rfl⟩)) (fun u H locs hw hP hD hS => ?_)
    have hw := hw.symm
    subst hw
    have hP : va_P (dC, dI) vwCl (uw_Model ad_md cA_md u8) H := hP
    have hD : va_D A (uw_Model ad_md cA_md u8) := hD
    exact ret  u8 H locs ls 75 d_Model_generalRow_75 (Option.some.inj hf) hP hD hS
  have hl := lv_entry ([.ref (ad_md 0)]) (n := 2) (Nat.le_of_ble_eq_true rfl)
  rw [lg_entry_eq]
  generalize (lg_sl ([.ref (ad_md 0)]) ++ List.replicate (2 - (lg_sl ([.ref (ad_md 0)])).length) Slot.unset).toArray = ls at hl ⊢
  have hl : lv_has ls 2 [(0, .ref (ad_md 0))] := hl
  have hf := hf
  rw [f_Model_generalRow] at hf
  obtain ⟨H, hH⟩ : ∃ H : Heap, H = s.heap := ⟨_, rfl⟩
  obtain ⟨locs, hlocs⟩ : ∃ L : List Loc, L = [] := ⟨_, rfl⟩
  have hP : va_P (dC, dI) vwCl (uw_Model ad_md cA_md md) H := by rw [hH]; exact hP
  have hS : va_S A s.heap H locs := by rw [hH, hlocs]; exact hS
  show W p l e (headSpec w_Model_generalRow ({ frames := 4, cells := 0, slots := 0, locals := 89 })).room s m ([.ref (ad_md 0)] : List Value).toArray below meth c s.heap [] 0 0 Q (F0 m 0 ls [])
  suffices hgo : W p l e (headSpec w_Model_generalRow ({ frames := 4, cells := 0, slots := 0, locals := 89 })).room s m ([.ref (ad_md 0)] : List Value).toArray below meth c H locs 0 0 Q (F0 m 0 ls []) by rw [hH, hlocs] at hgo; exact hgo
  clear hH hlocs
  refine lv_sipush (v := (516 : Int32)) hx hb d_Model_generalRow_0 (by decide) ?_
  refine lv_istore_n (lv' := [(1, .int (516 : Int32)), (0, .ref (ad_md 0))]) hx hb d_Model_generalRow_3 rfl hl (by decide) rfl (fun ls hl => ?_)
  refine lv_aload_n hx hb d_Model_generalRow_4 rfl (lv_at hl 1 rfl) ?_
  refine va_get (D := (dC, dI)) (ci := 6) (v := .int (bI md.2.2.1.2.1)) (C := "HazardTablesModel") (T := F_Model) (N := 30) hx hb hts hin_Model hown hK hP 0 rfl rfl 8 (by decide) fl_119 (fun _ h9 => h9) rfl d_Model_generalRow_5 ?_
  refine lv_if_eq (tgt := 21) hx hb d_Model_generalRow_8 (by decide) (fun hc1 => ?_) (fun hc1 => ?_)
  · have hf := hf_t hf hc1
    exact w_21 md (516 : Int32) H locs ls hf hP hD hS (lv_sub hl [1, 0] rfl)
  · have hf := hf_f hf hc1
    refine lv_aload_n hx hb d_Model_generalRow_11 rfl (lv_at hl 1 rfl) ?_
    refine lv_aload_n hx hb d_Model_generalRow_12 rfl (lv_at hl 1 rfl) ?_
    refine va_get (D := (dC, dI)) (ci := 6) (v := .int md.2.1.2.2.1) (C := "HazardTablesModel") (T := F_Model) (N := 30) hx hb hts hin_Model hown hK hP 0 rfl rfl 10 (by decide) fl_78 (fun _ h9 => h9) rfl d_Model_generalRow_13 ?_
    refine lv_iconst (v := (1 : Int32)) hx hb d_Model_generalRow_16 (by decide) ?_
    refine lv_isub hx hb d_Model_generalRow_17 ?_
    obtain ⟨u2, hu2, hf⟩ := Option.bind_eq_some_iff.mp hf
    refine cl_v (wc := (uw_Model ad_md cA_md md)) (wr := []) (tysC := [(cA_md 1, .int), (cA_md 2, .int), (cA_md 3, .int), (cA_md 4, .int), (cA_md 5, .int), (cA_md 6, .int), (cA_md 7, .int), (cA_md 8, .int), (cA_md 9, .boolean), (cA_md 10, .int), (cA_md 11, .int), (cA_md 12, .int), (cA_md 13, .int)]) (wu := fun (u : SModel) => (uw_Model ad_md cA_md u)) (wn := fun (u : SModel) => (uw_Model ad_md cA_md u)) [0, 1, 2, 3, 4, 5, 6, 7, 8, 9, 10, 11, 12, 13] [] [0, 1, 2, 3, 4, 5, 6, 7, 8, 9, 10, 11, 12, 13] [0, 1, 2, 3, 4, 5, 6, 7, 8, 9, 10, 11, 12] hP hD hS hA hK rfl rfl (by decide +kernel) (by decide +kernel) (by decide +kernel) rfl (fun _ => rfl) (by decide +kernel) (fun hPc hKc hDc => (va_runV (As := [.int (md.2.1.2.2.1 - (1 : Int32))]) (rest := []) ⟨hx, hb, hml, hown, hts⟩ (k_Model_fail l dC dI ad_md cA_md H.size md (md.2.1.2.2.1 - (1 : Int32)) u2 hu2) (cwV 1 hts (gV wd_870 wd_872 wd_26 wd_49 wd_873) rfl rfl rfl (by decide +kernel) ⟨Nat.le_of_ble_eq_true rfl, Nat.le_of_ble_eq_true rfl⟩) (cl_preV hPc hKc hDc hN (ci := 6) 0 rfl rfl) rfl rfl hl.1 rfl (lv_room (Nat.le_of_ble_eq_true rfl)) d_Model_generalRow_18 ⟨Nat.le_of_ble_eq_true rfl, Nat.le_of_ble_eq_true rfl⟩)) (fun u H locs hw hP hD hS => ?_)
    have hw := hw.symm
    subst hw
    have hP : va_P (dC, dI) vwCl (uw_Model ad_md cA_md u2) H := hP
    have hD : va_D A (uw_Model ad_md cA_md u2) := hD
    exact w_21 u2 (516 : Int32) H locs ls hf hP hD hS (lv_sub hl [1, 0] rfl)
noncomputable def f_Model_clear (md : SModel) : Option (SModel) :=
  (some (((0 : Int32), md.1.2), md.2.1, md.2.2.1, md.2.2.2.1, ((0 : Int32), md.2.2.2.2.1.2.1, md.2.2.2.2.1.2.2.1, md.2.2.2.2.1.2.2.2.1, (1 : Int32)), md.2.2.2.2.2.1, md.2.2.2.2.2.2.1, md.2.2.2.2.2.2.2.1, md.2.2.2.2.2.2.2.2))
set_option maxHeartbeats 4000000 in
set_option maxRecDepth 100000 in
theorem k_Model_clear (l : Launch) (dC : Nat → ClassId) (dI : Nat → Nat → Nat) (ad_md : Nat → Nat) (cA_md : Nat → ClassId) (sz : Nat) (md : SModel) (res : SModel) (hf : f_Model_clear md = some res) : Met l y_Model_clear w_Model_clear ({ frames := 0, cells := 0, slots := 0, locals := 0 }) (cPc (dC, dI) (uw_Model ad_md cA_md md) [(cA_md 1, .int), (cA_md 2, .int), (cA_md 3, .int), (cA_md 4, .int), (cA_md 5, .int), (cA_md 6, .int), (cA_md 7, .int), (cA_md 8, .int), (cA_md 9, .boolean), (cA_md 10, .int), (cA_md 11, .int), (cA_md 12, .int), (cA_md 13, .int)] sz [.ref (ad_md 0)]) (va_Qv (fun (u : SModel) => u = res) (fun (u : SModel) (t : State) => va_P (dC, dI) vwCl (uw_Model ad_md cA_md u) t.heap ∧ va_K (dC, dI) vwCl [(cA_md 1, .int), (cA_md 2, .int), (cA_md 3, .int), (cA_md 4, .int), (cA_md 5, .int), (cA_md 6, .int), (cA_md 7, .int), (cA_md 8, .int), (cA_md 9, .boolean), (cA_md 10, .int), (cA_md 11, .int), (cA_md 12, .int), (cA_md 13, .int)] t ∧ va_D (va_A (uw_Model ad_md cA_md md) sz) (uw_Model ad_md cA_md u)) (va_A (uw_Model ad_md cA_md md) sz)) 0 0 (va_A (uw_Model ad_md cA_md md) sz) := by
  refine Met.ofW (cc := b_Model_clear) (maxL := 1) (ret := none) (by decide) rfl ?_
  intro p e s m args below meth c s₁ B hml hv
  obtain ⟨rfl, hsz, hP, hK, hD0, hN⟩ := hv
  have hx := B.exec
  have hb := B.bytes
  have hr := B.returns
  have hts := atoms_spec (ws := w_Model_clear) B.pre
  have hown : s.vm.findClass "HazardTablesModel" = some m.cls := findClass_of_methodNamed B.named
  have hlocks := B.notSynchronized
  subst hsz
  have hD := hD0.self (sz := s.heap.size)
  generalize hAe : va_A (uw_Model ad_md cA_md md) s.heap.size = A at hD ⊢
  have hA : ∀ q : Nat, s.heap.size ≤ q → A q := fun q h => by rw [← hAe]; exact Or.inr h
  have hS : va_S A s.heap s.heap [] := va_S.rf
  have hP : va_P (dC, dI) vwCl (uw_Model ad_md cA_md md) s.heap := hP
  have fl_157 := (hts _ (List.mem_cons_of_mem _ wd_760))
  have fl_52 := (hts _ (List.mem_cons_of_mem _ wd_773))
  have fl_64 := (hts _ (List.mem_cons_of_mem _ wd_748))
  have hin_Model : ∀ w ∈ u_ws "HazardTablesModel" F_Model 30, w ∈ w_Model_clear := fun w h => List.mem_cons_of_mem _ (hinA_Model w h)
  have ret : ∀ (u : SModel) (H : Heap) (locs : List Loc) (ls : Array Slot) (pc : Nat), decode b_Model_clear pc = .ok (.return_, 1) → u = res → va_P (dC, dI) vwCl (uw_Model ad_md cA_md u) H → va_D A (uw_Model ad_md cA_md u) → va_S A s.heap H locs → W p l e (headSpec w_Model_clear ({ frames := 0, cells := 0, slots := 0, locals := 0 })).room s m ([.ref (ad_md 0)] : List Value).toArray below meth c H locs 0 0 (MQ below (va_Qv (fun (u : SModel) => u = res) (fun (u : SModel) (t : State) => va_P (dC, dI) vwCl (uw_Model ad_md cA_md u) t.heap ∧ va_K (dC, dI) vwCl [(cA_md 1, .int), (cA_md 2, .int), (cA_md 3, .int), (cA_md 4, .int), (cA_md 5, .int), (cA_md 6, .int), (cA_md 7, .int), (cA_md 8, .int), (cA_md 9, .boolean), (cA_md 10, .int), (cA_md 11, .int), (cA_md 12, .int), (cA_md 13, .int)] t ∧ va_D A (uw_Model ad_md cA_md u)) A) ([.ref (ad_md 0)] : List Value).toArray s 0 0 A) (F0 m pc ls []) := fun u H locs ls pc hd hp hP hD hS => W.vret hx hb hr (fun t ht hW => ⟨⟨u, rfl, hp, by rw [ht]; exact hP, va_K.moved hW.alike hK, hD⟩, hS.F ht⟩) hS.2.2 hd
  generalize (MQ below (va_Qv (fun (u : SModel) => u = res) (fun (u : SModel) (t : State) => va_P (dC, dI) vwCl (uw_Model ad_md cA_md u) t.heap ∧ va_K (dC, dI) vwCl [(cA_md 1, .int), (cA_md 2, .int), (cA_md 3, .int), (cA_md 4, .int), (cA_md 5, .int), (cA_md 6, .int), (cA_md 7, .int), (cA_md 8, .int), (cA_md 9, .boolean), (cA_md 10, .int), (cA_md 11, .int), (cA_md 12, .int), (cA_md 13, .int)] t ∧ va_D A (uw_Model ad_md cA_md u)) A) ([.ref (ad_md 0)] : List Value).toArray s 0 0 A) = Q at ret ⊢
  have hl := lv_entry ([.ref (ad_md 0)]) (n := 1) (Nat.le_of_ble_eq_true rfl)
  rw [lg_entry_eq]
  generalize (lg_sl ([.ref (ad_md 0)]) ++ List.replicate (1 - (lg_sl ([.ref (ad_md 0)])).length) Slot.unset).toArray = ls at hl ⊢
  have hl : lv_has ls 1 [(0, .ref (ad_md 0))] := hl
  have hf := hf
  rw [f_Model_clear] at hf
  obtain ⟨H, hH⟩ : ∃ H : Heap, H = s.heap := ⟨_, rfl⟩
  obtain ⟨locs, hlocs⟩ : ∃ L : List Loc, L = [] := ⟨_, rfl⟩
  have hP : va_P (dC, dI) vwCl (uw_Model ad_md cA_md md) H := by rw [hH]; exact hP
  have hS : va_S A s.heap H locs := by rw [hH, hlocs]; exact hS
  show W p l e (headSpec w_Model_clear ({ frames := 0, cells := 0, slots := 0, locals := 0 })).room s m ([.ref (ad_md 0)] : List Value).toArray below meth c s.heap [] 0 0 Q (F0 m 0 ls [])
  suffices hgo : W p l e (headSpec w_Model_clear ({ frames := 0, cells := 0, slots := 0, locals := 0 })).room s m ([.ref (ad_md 0)] : List Value).toArray below meth c H locs 0 0 Q (F0 m 0 ls []) by rw [hH, hlocs] at hgo; exact hgo
  clear hH hlocs
  refine lv_aload_n hx hb d_Model_clear_0 rfl (lv_at hl 0 rfl) ?_
  refine lv_iconst (v := (0 : Int32)) hx hb d_Model_clear_1 (by decide) ?_
  refine va_put (D := (dC, dI)) (ci := 6) (v := .int (0 : Int32)) (ty := .int) (C := "HazardTablesModel") (T := F_Model) (N := 30) hx hb hts hin_Model t_Model t_Model_ok n_Model hown hK hP hD hS 0 rfl rfl 0 (by decide) fl_64 (fun _ h9 => h9) rfl (by decide +kernel) rfl rfl (Nat.le_of_ble_eq_true rfl) d_Model_clear_2 (fun H locs hP hD hS => ?_)
  have hP : va_P (dC, dI) vwCl (uw_Model ad_md cA_md (((0 : Int32), md.1.2), md.2.1, md.2.2.1, md.2.2.2.1, md.2.2.2.2.1, md.2.2.2.2.2.1, md.2.2.2.2.2.2.1, md.2.2.2.2.2.2.2.1, md.2.2.2.2.2.2.2.2)) H := hP
  have hD : va_D A (uw_Model ad_md cA_md (((0 : Int32), md.1.2), md.2.1, md.2.2.1, md.2.2.2.1, md.2.2.2.2.1, md.2.2.2.2.2.1, md.2.2.2.2.2.2.1, md.2.2.2.2.2.2.2.1, md.2.2.2.2.2.2.2.2)) := hD
  refine lv_aload_n hx hb d_Model_clear_5 rfl (lv_at hl 0 rfl) ?_
  refine lv_iconst (v := (0 : Int32)) hx hb d_Model_clear_6 (by decide) ?_
  refine va_put (D := (dC, dI)) (ci := 6) (v := .int (0 : Int32)) (ty := .int) (C := "HazardTablesModel") (T := F_Model) (N := 30) hx hb hts hin_Model t_Model t_Model_ok n_Model hown hK hP hD hS 0 rfl rfl 12 (by decide) fl_157 (fun _ h9 => h9) rfl (by decide +kernel) rfl rfl (Nat.le_of_ble_eq_true rfl) d_Model_clear_7 (fun H locs hP hD hS => ?_)
  have hP : va_P (dC, dI) vwCl (uw_Model ad_md cA_md (((0 : Int32), md.1.2), md.2.1, md.2.2.1, md.2.2.2.1, ((0 : Int32), md.2.2.2.2.1.2.1, md.2.2.2.2.1.2.2.1, md.2.2.2.2.1.2.2.2.1, md.2.2.2.2.1.2.2.2.2), md.2.2.2.2.2.1, md.2.2.2.2.2.2.1, md.2.2.2.2.2.2.2.1, md.2.2.2.2.2.2.2.2)) H := hP
  have hD : va_D A (uw_Model ad_md cA_md (((0 : Int32), md.1.2), md.2.1, md.2.2.1, md.2.2.2.1, ((0 : Int32), md.2.2.2.2.1.2.1, md.2.2.2.2.1.2.2.1, md.2.2.2.2.1.2.2.2.1, md.2.2.2.2.1.2.2.2.2), md.2.2.2.2.2.1, md.2.2.2.2.2.2.1, md.2.2.2.2.2.2.2.1, md.2.2.2.2.2.2.2.2)) := hD
  refine lv_aload_n hx hb d_Model_clear_10 rfl (lv_at hl 0 rfl) ?_
  refine lv_iconst (v := (1 : Int32)) hx hb d_Model_clear_11 (by decide) ?_
  refine va_put (D := (dC, dI)) (ci := 6) (v := .int (1 : Int32)) (ty := .int) (C := "HazardTablesModel") (T := F_Model) (N := 30) hx hb hts hin_Model t_Model t_Model_ok n_Model hown hK hP hD hS 0 rfl rfl 25 (by decide) fl_52 (fun _ h9 => h9) rfl (by decide +kernel) rfl rfl (Nat.le_of_ble_eq_true rfl) d_Model_clear_12 (fun H locs hP hD hS => ?_)
  have hP : va_P (dC, dI) vwCl (uw_Model ad_md cA_md (((0 : Int32), md.1.2), md.2.1, md.2.2.1, md.2.2.2.1, ((0 : Int32), md.2.2.2.2.1.2.1, md.2.2.2.2.1.2.2.1, md.2.2.2.2.1.2.2.2.1, (1 : Int32)), md.2.2.2.2.2.1, md.2.2.2.2.2.2.1, md.2.2.2.2.2.2.2.1, md.2.2.2.2.2.2.2.2)) H := hP
  have hD : va_D A (uw_Model ad_md cA_md (((0 : Int32), md.1.2), md.2.1, md.2.2.1, md.2.2.2.1, ((0 : Int32), md.2.2.2.2.1.2.1, md.2.2.2.2.1.2.2.1, md.2.2.2.2.1.2.2.2.1, (1 : Int32)), md.2.2.2.2.2.1, md.2.2.2.2.2.2.1, md.2.2.2.2.2.2.2.1, md.2.2.2.2.2.2.2.2)) := hD
  exact ret  (((0 : Int32), md.1.2), md.2.1, md.2.2.1, md.2.2.2.1, ((0 : Int32), md.2.2.2.2.1.2.1, md.2.2.2.2.1.2.2.1, md.2.2.2.2.1.2.2.2.1, (1 : Int32)), md.2.2.2.2.2.1, md.2.2.2.2.2.2.1, md.2.2.2.2.2.2.2.1, md.2.2.2.2.2.2.2.2) H locs ls 15 d_Model_clear_15 (Option.some.inj hf) hP hD hS
noncomputable def f_Model_read_126  : Nat → SModel → Int32 → Option (Int32 × SModel)
  | 0, _, _ => none
  | n + 1, md, y1 =>
    (if (559 : Int32) ≤ y1 then
      (Option.bind (f_Model_clear (md.1, md.2.1, md.2.2.1, (md.2.2.1.1, md.2.2.1.2.1, md.2.2.2.1.2.2), md.2.2.2.2.1, md.2.2.2.2.2.1, md.2.2.2.2.2.2.1, md.2.2.2.2.2.2.2.1, ((0 : Int32), md.2.2.2.2.2.2.2.2.2.1, md.2.2.2.2.2.2.2.2.2.2))) fun u16 =>
        (some (u16.2.2.2.1.1, u16))
       )
     else
      (if inb y1 559 then
        (if inb y1 559 then
          (f_Model_read_126 n (md.1, md.2.1, md.2.2.1, (md.2.2.2.1.1, md.2.2.2.1.2.1, upd md.2.2.2.1.2.2 y1.toNatClampNeg (md.2.2.1.2.2 y1.toNatClampNeg)), md.2.2.2.2.1, md.2.2.2.2.2.1, md.2.2.2.2.2.2.1, md.2.2.2.2.2.2.2.1, md.2.2.2.2.2.2.2.2) (y1 + (1 : Int32)))
         else none)
       else none)
     )
noncomputable def f_Model_read_88  (md : SModel) : Option (Int32 × SModel) :=
  (if 0 ≤ md.2.1.2.2.2 then
    (Option.bind (f_Model_goes ((md.1.1, md.2.1.2.2.2), ((0 : Int32), md.2.1.2.1, md.2.1.2.2.1, md.2.1.2.2.2), md.2.2.1, md.2.2.2.1, md.2.2.2.2.1, md.2.2.2.2.2.1, md.2.2.2.2.2.2.1, md.2.2.2.2.2.2.2.1, md.2.2.2.2.2.2.2.2) false true true) fun u11 =>
      (if (bI u11.1) = 0 then
        (some ((0 : Int32), u11.2))
       else
        (f_Model_read_126 4096 u11.2 (0 : Int32))
       )
     )
   else
    (Option.bind (f_Model_goes ((md.1.1, md.2.1.2.2.2), ((0 : Int32), md.2.1.2.1, md.2.1.2.2.1, md.2.1.2.2.2), md.2.2.1, md.2.2.2.1, md.2.2.2.2.1, md.2.2.2.2.2.1, md.2.2.2.2.2.2.1, md.2.2.2.2.2.2.2.1, md.2.2.2.2.2.2.2.2) true true true) fun u13 =>
      (if (bI u13.1) = 0 then
        (some ((0 : Int32), u13.2))
       else
        (f_Model_read_126 4096 u13.2 (0 : Int32))
       )
     )
   )
noncomputable def f_Model_read_20  : Nat → SModel → Option (Int32 × SModel)
  | 0, _ => none
  | n + 1, md =>
    (if 0 ≤ md.2.1.2.2.2 then
      (f_Model_read_88 md)
     else
      (Option.bind (f_Model_see md) fun u2 =>
        (if u2.1 < 0 then
          (f_Model_read_88 u2.2)
         else
          (Option.bind (f_Model_here u2.2) fun u4 =>
            (if u4 = (109 : Int32) then
              (Option.bind (f_Model_materialRow (u2.2.1, (u2.2.2.1.1, u2.2.2.1.2.1, u2.2.2.1.2.2.1 + (1 : Int32), u2.2.2.1.2.2.2), u2.2.2.2.1, u2.2.2.2.2.1, u2.2.2.2.2.2.1, u2.2.2.2.2.2.2.1, u2.2.2.2.2.2.2.2.1, u2.2.2.2.2.2.2.2.2.1, u2.2.2.2.2.2.2.2.2.2)) fun u9 =>
                (f_Model_read_20 n u9)
               )
             else
              (if u4 = (122 : Int32) then
                (Option.bind (f_Model_generalRow (u2.2.1, (u2.2.2.1.1, u2.2.2.1.2.1, u2.2.2.1.2.2.1 + (1 : Int32), u2.2.2.1.2.2.2), u2.2.2.2.1, u2.2.2.2.2.1, u2.2.2.2.2.2.1, u2.2.2.2.2.2.2.1, u2.2.2.2.2.2.2.2.1, u2.2.2.2.2.2.2.2.2.1, u2.2.2.2.2.2.2.2.2.2)) fun u8 =>
                  (f_Model_read_20 n u8)
                 )
               else
                (Option.bind (f_Model_fail (u2.2.1, (u2.2.2.1.1, u2.2.2.1.2.1, u2.2.2.1.2.2.1 + (1 : Int32), u2.2.2.1.2.2.2), u2.2.2.2.1, u2.2.2.2.2.1, u2.2.2.2.2.2.1, u2.2.2.2.2.2.2.1, u2.2.2.2.2.2.2.2.1, u2.2.2.2.2.2.2.2.2.1, u2.2.2.2.2.2.2.2.2.2) ((u2.2.2.1.2.2.1 + (1 : Int32)) - (1 : Int32))) fun u7 =>
                  (f_Model_read_20 n u7)
                 )
               )
             )
           )
         )
       )
     )
noncomputable def f_Model_read (md : SModel) : Option (Int32 × SModel) :=
  (f_Model_read_20 4096 (md.1, (md.2.1.1, md.2.1.2.1, (0 : Int32), (-1 : Int32)), ((0 : Int32), false, md.2.2.1.2.2), md.2.2.2.1, md.2.2.2.2.1, md.2.2.2.2.2.1, md.2.2.2.2.2.2.1, md.2.2.2.2.2.2.2.1, md.2.2.2.2.2.2.2.2))
set_option maxHeartbeats 4000000 in
set_option maxRecDepth 100000 in
theorem k_Model_read (l : Launch) (dC : Nat → ClassId) (dI : Nat → Nat → Nat) (ad_md : Nat → Nat) (cA_md : Nat → ClassId) (sz : Nat) (md : SModel) (res : Int32 × SModel) (hf : f_Model_read md = some res) : Met l y_Model_read w_Model_read ({ frames := 5, cells := 0, slots := 0, locals := 112 }) (cPc (dC, dI) (uw_Model ad_md cA_md md) [(cA_md 1, .int), (cA_md 2, .int), (cA_md 3, .int), (cA_md 4, .int), (cA_md 5, .int), (cA_md 6, .int), (cA_md 7, .int), (cA_md 8, .int), (cA_md 9, .boolean), (cA_md 10, .int), (cA_md 11, .int), (cA_md 12, .int), (cA_md 13, .int)] sz [.ref (ad_md 0)]) (va_Qi (fun (r : Int32) (u : SModel) => r = res.1 ∧ u = res.2) (fun (u : SModel) (t : State) => va_P (dC, dI) vwCl (uw_Model ad_md cA_md u) t.heap ∧ va_K (dC, dI) vwCl [(cA_md 1, .int), (cA_md 2, .int), (cA_md 3, .int), (cA_md 4, .int), (cA_md 5, .int), (cA_md 6, .int), (cA_md 7, .int), (cA_md 8, .int), (cA_md 9, .boolean), (cA_md 10, .int), (cA_md 11, .int), (cA_md 12, .int), (cA_md 13, .int)] t ∧ va_D (va_A (uw_Model ad_md cA_md md) sz) (uw_Model ad_md cA_md u)) (va_A (uw_Model ad_md cA_md md) sz)) 0 0 (va_A (uw_Model ad_md cA_md md) sz) := by
  refine Met.ofW (cc := b_Model_read) (maxL := 2) (ret := (some .int)) (by decide) rfl ?_
  intro p e s m args below meth c s₁ B hml hv
  obtain ⟨rfl, hsz, hP, hK, hD0, hN⟩ := hv
  have hx := B.exec
  have hb := B.bytes
  have hr := B.returns
  have hts := atoms_spec (ws := w_Model_read) B.pre
  have hown : s.vm.findClass "HazardTablesModel" = some m.cls := findClass_of_methodNamed B.named
  have hlocks := B.notSynchronized
  subst hsz
  have hD := hD0.self (sz := s.heap.size)
  generalize hAe : va_A (uw_Model ad_md cA_md md) s.heap.size = A at hD ⊢
  have hA : ∀ q : Nat, s.heap.size ≤ q → A q := fun q h => by rw [← hAe]; exact Or.inr h
  have hS : va_S A s.heap s.heap [] := va_S.rf
  have hP : va_P (dC, dI) vwCl (uw_Model ad_md cA_md md) s.heap := hP
  have fl_110 := (hts _ (List.mem_cons_of_mem _ wd_755))
  have fl_119 := (hts _ (List.mem_cons_of_mem _ wd_756))
  have fl_128 := (hts _ (List.mem_cons_of_mem _ wd_752))
  have fl_13 := (hts _ (List.mem_cons_of_mem _ wd_751))
  have fl_131 := (hts _ (List.mem_cons_of_mem _ wd_753))
  have fl_134 := (hts _ (List.mem_cons_of_mem _ wd_775))
  have fl_17 := (hts _ (List.mem_cons_of_mem _ wd_754))
  have fl_20 := (hts _ (List.mem_cons_of_mem _ wd_757))
  have fl_71 := (hts _ (List.mem_cons_of_mem _ wd_749))
  have fl_78 := (hts _ (List.mem_cons_of_mem _ wd_758))
  have fl_85 := (hts _ (List.mem_cons_of_mem _ wd_759))
  have hin_Model : ∀ w ∈ u_ws "HazardTablesModel" F_Model 30, w ∈ w_Model_read := fun w h => List.mem_cons_of_mem _ (hinA_Model w h)
  have ret : ∀ (v : Int32) (u : SModel) (H : Heap) (locs : List Loc) (ls : Array Slot) (pc : Nat), decode b_Model_read pc = .ok (.ireturn, 1) → (v = res.1 ∧ u = res.2) → va_P (dC, dI) vwCl (uw_Model ad_md cA_md u) H → va_D A (uw_Model ad_md cA_md u) → va_S A s.heap H locs → W p l e (headSpec w_Model_read ({ frames := 5, cells := 0, slots := 0, locals := 112 })).room s m ([.ref (ad_md 0)] : List Value).toArray below meth c H locs 0 0 (MQ below (va_Qi (fun (r : Int32) (u : SModel) => r = res.1 ∧ u = res.2) (fun (u : SModel) (t : State) => va_P (dC, dI) vwCl (uw_Model ad_md cA_md u) t.heap ∧ va_K (dC, dI) vwCl [(cA_md 1, .int), (cA_md 2, .int), (cA_md 3, .int), (cA_md 4, .int), (cA_md 5, .int), (cA_md 6, .int), (cA_md 7, .int), (cA_md 8, .int), (cA_md 9, .boolean), (cA_md 10, .int), (cA_md 11, .int), (cA_md 12, .int), (cA_md 13, .int)] t ∧ va_D A (uw_Model ad_md cA_md u)) A) ([.ref (ad_md 0)] : List Value).toArray s 0 0 A) (F0 m pc ls [.int v]) := fun v u H locs ls pc hd hp hP hD hS => W.iret (v := v) hx hb hr (fun t ht hW => ⟨⟨v, u, rfl, hp, by rw [ht]; exact hP, va_K.moved hW.alike hK, hD⟩, hS.F ht⟩) hS.2.2 hd
  generalize (MQ below (va_Qi (fun (r : Int32) (u : SModel) => r = res.1 ∧ u = res.2) (fun (u : SModel) (t : State) => va_P (dC, dI) vwCl (uw_Model ad_md cA_md u) t.heap ∧ va_K (dC, dI) vwCl [(cA_md 1, .int), (cA_md 2, .int), (cA_md 3, .int), (cA_md 4, .int), (cA_md 5, .int), (cA_md 6, .int), (cA_md 7, .int), (cA_md 8, .int), (cA_md 9, .boolean), (cA_md 10, .int), (cA_md 11, .int), (cA_md 12, .int), (cA_md 13, .int)] t ∧ va_D A (uw_Model ad_md cA_md u)) A) ([.ref (ad_md 0)] : List Value).toArray s 0 0 A) = Q at ret ⊢
  have w_126 : ∀ (n : Nat) (md : SModel) (y1 : Int32) (H : Heap) (locs : List Loc) (ls : Array Slot), f_Model_read_126 n md y1 = some res → va_P (dC, dI) vwCl (uw_Model ad_md cA_md md) H → va_D A (uw_Model ad_md cA_md md) → va_S A s.heap H locs → lv_has ls 2 [(0, .ref (ad_md 0)), (1, .int y1)] → W p l e (headSpec w_Model_read ({ frames := 5, cells := 0, slots := 0, locals := 112 })).room s m ([.ref (ad_md 0)] : List Value).toArray below meth c H locs 0 0 Q (F0 m 126 ls []) := by
    intro n
    induction n with
    | zero =>
      intro md y1 H locs ls hf hP hD hS hl
      rw [f_Model_read_126] at hf; cases hf
    | succ n ih =>
      intro md y1 H locs ls hf hP hD hS hl
      rw [f_Model_read_126] at hf
      refine lv_iload_n hx hb d_Model_read_126 rfl (lv_at hl 1 rfl) ?_
      refine lv_sipush (v := (559 : Int32)) hx hb d_Model_read_127 (by decide) ?_
      refine lv_icmp_ge (tgt := 151) hx hb d_Model_read_130 (by decide) (fun hc15 => ?_) (fun hc15 => ?_)
      · have hf := hf_t hf hc15
        refine lv_aload_n hx hb d_Model_read_151 rfl (lv_at hl 0 rfl) ?_
        refine lv_aload_n hx hb d_Model_read_152 rfl (lv_at hl 0 rfl) ?_
        refine va_get (D := (dC, dI)) (ci := 6) (v := .int md.2.2.1.1) (C := "HazardTablesModel") (T := F_Model) (N := 30) hx hb hts hin_Model hown hK hP 0 rfl rfl 7 (by decide) fl_110 (fun _ h9 => h9) rfl d_Model_read_153 ?_
        refine va_put (D := (dC, dI)) (ci := 6) (v := .int md.2.2.1.1) (ty := .int) (C := "HazardTablesModel") (T := F_Model) (N := 30) hx hb hts hin_Model t_Model t_Model_ok n_Model hown hK hP hD hS 0 rfl rfl 4 (by decide) fl_128 (fun _ h9 => h9) rfl (by decide +kernel) rfl rfl (Nat.le_of_ble_eq_true rfl) d_Model_read_156 (fun H locs hP hD hS => ?_)
        have hP : va_P (dC, dI) vwCl (uw_Model ad_md cA_md (md.1, md.2.1, md.2.2.1, (md.2.2.1.1, md.2.2.2.1.2.1, md.2.2.2.1.2.2), md.2.2.2.2.1, md.2.2.2.2.2.1, md.2.2.2.2.2.2.1, md.2.2.2.2.2.2.2.1, md.2.2.2.2.2.2.2.2)) H := hP
        have hD : va_D A (uw_Model ad_md cA_md (md.1, md.2.1, md.2.2.1, (md.2.2.1.1, md.2.2.2.1.2.1, md.2.2.2.1.2.2), md.2.2.2.2.1, md.2.2.2.2.2.1, md.2.2.2.2.2.2.1, md.2.2.2.2.2.2.2.1, md.2.2.2.2.2.2.2.2)) := hD
        refine lv_aload_n hx hb d_Model_read_159 rfl (lv_at hl 0 rfl) ?_
        refine lv_aload_n hx hb d_Model_read_160 rfl (lv_at hl 0 rfl) ?_
        refine va_get (D := (dC, dI)) (ci := 6) (v := .int (bI md.2.2.1.2.1)) (C := "HazardTablesModel") (T := F_Model) (N := 30) hx hb hts hin_Model hown hK hP 0 rfl rfl 8 (by decide) fl_119 (fun _ h9 => h9) rfl d_Model_read_161 ?_
        refine va_put (D := (dC, dI)) (ci := 6) (v := .int (bI md.2.2.1.2.1)) (ty := .boolean) (C := "HazardTablesModel") (T := F_Model) (N := 30) hx hb hts hin_Model t_Model t_Model_ok n_Model hown hK hP hD hS 0 rfl rfl 5 (by decide) fl_131 (fun _ h9 => h9) rfl (by decide +kernel) (nar_bI md.2.2.1.2.1) (fit_bI md.2.2.1.2.1) (Nat.le_of_ble_eq_true rfl) d_Model_read_164 (fun H locs hP hD hS => ?_)
        have hP : va_P (dC, dI) vwCl (uw_Model ad_md cA_md (md.1, md.2.1, md.2.2.1, (md.2.2.1.1, md.2.2.1.2.1, md.2.2.2.1.2.2), md.2.2.2.2.1, md.2.2.2.2.2.1, md.2.2.2.2.2.2.1, md.2.2.2.2.2.2.2.1, md.2.2.2.2.2.2.2.2)) H := hP
        have hD : va_D A (uw_Model ad_md cA_md (md.1, md.2.1, md.2.2.1, (md.2.2.1.1, md.2.2.1.2.1, md.2.2.2.1.2.2), md.2.2.2.2.1, md.2.2.2.2.2.1, md.2.2.2.2.2.2.1, md.2.2.2.2.2.2.2.1, md.2.2.2.2.2.2.2.2)) := hD
        refine lv_aload_n hx hb d_Model_read_167 rfl (lv_at hl 0 rfl) ?_
        refine lv_iconst (v := (0 : Int32)) hx hb d_Model_read_168 (by decide) ?_
        refine va_put (D := (dC, dI)) (ci := 6) (v := .int (0 : Int32)) (ty := .int) (C := "HazardTablesModel") (T := F_Model) (N := 30) hx hb hts hin_Model t_Model t_Model_ok n_Model hown hK hP hD hS 0 rfl rfl 27 (by decide) fl_134 (fun _ h9 => h9) rfl (by decide +kernel) rfl rfl (Nat.le_of_ble_eq_true rfl) d_Model_read_169 (fun H locs hP hD hS => ?_)
        have hP : va_P (dC, dI) vwCl (uw_Model ad_md cA_md (md.1, md.2.1, md.2.2.1, (md.2.2.1.1, md.2.2.1.2.1, md.2.2.2.1.2.2), md.2.2.2.2.1, md.2.2.2.2.2.1, md.2.2.2.2.2.2.1, md.2.2.2.2.2.2.2.1, ((0 : Int32), md.2.2.2.2.2.2.2.2.2.1, md.2.2.2.2.2.2.2.2.2.2))) H := hP
        have hD : va_D A (uw_Model ad_md cA_md (md.1, md.2.1, md.2.2.1, (md.2.2.1.1, md.2.2.1.2.1, md.2.2.2.1.2.2), md.2.2.2.2.1, md.2.2.2.2.2.1, md.2.2.2.2.2.2.1, md.2.2.2.2.2.2.2.1, ((0 : Int32), md.2.2.2.2.2.2.2.2.2.1, md.2.2.2.2.2.2.2.2.2.2))) := hD
        refine lv_aload_n hx hb d_Model_read_172 rfl (lv_at hl 0 rfl) ?_
        obtain ⟨u16, hu16, hf⟩ := Option.bind_eq_some_iff.mp hf
        refine cl_v (wc := (uw_Model ad_md cA_md (md.1, md.2.1, md.2.2.1, (md.2.2.1.1, md.2.2.1.2.1, md.2.2.2.1.2.2), md.2.2.2.2.1, md.2.2.2.2.2.1, md.2.2.2.2.2.2.1, md.2.2.2.2.2.2.2.1, ((0 : Int32), md.2.2.2.2.2.2.2.2.2.1, md.2.2.2.2.2.2.2.2.2.2)))) (wr := []) (tysC := [(cA_md 1, .int), (cA_md 2, .int), (cA_md 3, .int), (cA_md 4, .int), (cA_md 5, .int), (cA_md 6, .int), (cA_md 7, .int), (cA_md 8, .int), (cA_md 9, .boolean), (cA_md 10, .int), (cA_md 11, .int), (cA_md 12, .int), (cA_md 13, .int)]) (wu := fun (u : SModel) => (uw_Model ad_md cA_md u)) (wn := fun (u : SModel) => (uw_Model ad_md cA_md u)) [0, 1, 2, 3, 4, 5, 6, 7, 8, 9, 10, 11, 12, 13] [] [0, 1, 2, 3, 4, 5, 6, 7, 8, 9, 10, 11, 12, 13] [0, 1, 2, 3, 4, 5, 6, 7, 8, 9, 10, 11, 12] hP hD hS hA hK rfl rfl (by decide +kernel) (by decide +kernel) (by decide +kernel) rfl (fun _ => rfl) (by decide +kernel) (fun hPc hKc hDc => (va_runV (As := []) (rest := []) ⟨hx, hb, hml, hown, hts⟩ (k_Model_clear l dC dI ad_md cA_md H.size (md.1, md.2.1, md.2.2.1, (md.2.2.1.1, md.2.2.1.2.1, md.2.2.2.1.2.2), md.2.2.2.2.1, md.2.2.2.2.2.1, md.2.2.2.2.2.2.1, md.2.2.2.2.2.2.2.1, ((0 : Int32), md.2.2.2.2.2.2.2.2.2.1, md.2.2.2.2.2.2.2.2.2.2)) u16 hu16) (cwV 0 hts (gV wd_902 wd_903 wd_904 wd_49 wd_905) rfl rfl rfl (by decide +kernel) ⟨Nat.le_of_ble_eq_true rfl, Nat.le_of_ble_eq_true rfl⟩) (cl_preV hPc hKc hDc hN (ci := 6) 0 rfl rfl) rfl rfl hl.1 rfl (lv_room (Nat.le_of_ble_eq_true rfl)) d_Model_read_173 ⟨Nat.le_of_ble_eq_true rfl, Nat.le_of_ble_eq_true rfl⟩)) (fun u H locs hw hP hD hS => ?_)
        have hw := hw.symm
        subst hw
        have hP : va_P (dC, dI) vwCl (uw_Model ad_md cA_md u16) H := hP
        have hD : va_D A (uw_Model ad_md cA_md u16) := hD
        refine lv_aload_n hx hb d_Model_read_176 rfl (lv_at hl 0 rfl) ?_
        refine va_get (D := (dC, dI)) (ci := 6) (v := .int u16.2.2.2.1.1) (C := "HazardTablesModel") (T := F_Model) (N := 30) hx hb hts hin_Model hown hK hP 0 rfl rfl 4 (by decide) fl_128 (fun _ h9 => h9) rfl d_Model_read_177 ?_
        exact ret u16.2.2.2.1.1 u16 H locs ls 180 d_Model_read_180 (hf_e hf) hP hD hS
      · have hf := hf_f hf hc15
        refine lv_aload_n hx hb d_Model_read_133 rfl (lv_at hl 0 rfl) ?_
        refine va_get (D := (dC, dI)) (ci := 6) (v := .ref (ad_md 2)) (C := "HazardTablesModel") (T := F_Model) (N := 30) hx hb hts hin_Model hown hK hP 0 rfl rfl 6 (by decide) fl_17 (fun _ h9 => h9) rfl d_Model_read_134 ?_
        refine lv_iload_n hx hb d_Model_read_137 rfl (lv_at hl 1 rfl) ?_
        refine lv_aload_n hx hb d_Model_read_138 rfl (lv_at hl 0 rfl) ?_
        refine va_get (D := (dC, dI)) (ci := 6) (v := .ref (ad_md 3)) (C := "HazardTablesModel") (T := F_Model) (N := 30) hx hb hts hin_Model hown hK hP 0 rfl rfl 9 (by decide) fl_20 (fun _ h9 => h9) rfl d_Model_read_139 ?_
        refine lv_iload_n hx hb d_Model_read_142 rfl (lv_at hl 1 rfl) ?_
        obtain ⟨hi17, hf⟩ := hf_g hf
        refine va_iald hx hb hK hP 3 2 rfl rfl hi17 d_Model_read_143 ?_
        obtain ⟨hi18, hf⟩ := hf_g hf
        refine va_iast hx hb hK hP hD hS 2 1 rfl rfl hi18 d_Model_read_144 (fun H locs hP hD hS => ?_)
        have hP : va_P (dC, dI) vwCl (uw_Model ad_md cA_md (md.1, md.2.1, md.2.2.1, (md.2.2.2.1.1, md.2.2.2.1.2.1, upd md.2.2.2.1.2.2 y1.toNatClampNeg (md.2.2.1.2.2 y1.toNatClampNeg)), md.2.2.2.2.1, md.2.2.2.2.2.1, md.2.2.2.2.2.2.1, md.2.2.2.2.2.2.2.1, md.2.2.2.2.2.2.2.2)) H := hP
        have hD : va_D A (uw_Model ad_md cA_md (md.1, md.2.1, md.2.2.1, (md.2.2.2.1.1, md.2.2.2.1.2.1, upd md.2.2.2.1.2.2 y1.toNatClampNeg (md.2.2.1.2.2 y1.toNatClampNeg)), md.2.2.2.2.1, md.2.2.2.2.2.1, md.2.2.2.2.2.2.1, md.2.2.2.2.2.2.2.1, md.2.2.2.2.2.2.2.2)) := hD
        refine lv_iinc (v := y1 + (1 : Int32)) (lv' := [(1, .int (y1 + (1 : Int32))), (0, .ref (ad_md 0))]) hx hb d_Model_read_145 hl (k := 1) rfl rfl (by decide) rfl (fun ls hl => ?_)
        refine lv_goto (tgt := 126) hx hb d_Model_read_148 (by decide) ?_
        exact ih (md.1, md.2.1, md.2.2.1, (md.2.2.2.1.1, md.2.2.2.1.2.1, upd md.2.2.2.1.2.2 y1.toNatClampNeg (md.2.2.1.2.2 y1.toNatClampNeg)), md.2.2.2.2.1, md.2.2.2.2.2.1, md.2.2.2.2.2.2.1, md.2.2.2.2.2.2.2.1, md.2.2.2.2.2.2.2.2) (y1 + (1 : Int32)) H locs ls hf hP hD hS (lv_sub hl [1, 0] rfl)
  have w_88 : ∀ (md : SModel)  (H : Heap) (locs : List Loc) (ls : Array Slot), f_Model_read_88 md = some res → va_P (dC, dI) vwCl (uw_Model ad_md cA_md md) H → va_D A (uw_Model ad_md cA_md md) → va_S A s.heap H locs → lv_has ls 2 [(0, .ref (ad_md 0))] → W p l e (headSpec w_Model_read ({ frames := 5, cells := 0, slots := 0, locals := 112 })).room s m ([.ref (ad_md 0)] : List Value).toArray below meth c H locs 0 0 Q (F0 m 88 ls []) := by
    intro md H locs ls hf hP hD hS hl
    rw [f_Model_read_88] at hf
    refine lv_aload_n hx hb d_Model_read_88 rfl (lv_at hl 0 rfl) ?_
    refine lv_iconst (v := (0 : Int32)) hx hb d_Model_read_89 (by decide) ?_
    refine va_put (D := (dC, dI)) (ci := 6) (v := .int (0 : Int32)) (ty := .int) (C := "HazardTablesModel") (T := F_Model) (N := 30) hx hb hts hin_Model t_Model t_Model_ok n_Model hown hK hP hD hS 0 rfl rfl 1 (by decide) fl_71 (fun _ h9 => h9) rfl (by decide +kernel) rfl rfl (Nat.le_of_ble_eq_true rfl) d_Model_read_90 (fun H locs hP hD hS => ?_)
    have hP : va_P (dC, dI) vwCl (uw_Model ad_md cA_md (md.1, ((0 : Int32), md.2.1.2.1, md.2.1.2.2.1, md.2.1.2.2.2), md.2.2.1, md.2.2.2.1, md.2.2.2.2.1, md.2.2.2.2.2.1, md.2.2.2.2.2.2.1, md.2.2.2.2.2.2.2.1, md.2.2.2.2.2.2.2.2)) H := hP
    have hD : va_D A (uw_Model ad_md cA_md (md.1, ((0 : Int32), md.2.1.2.1, md.2.1.2.2.1, md.2.1.2.2.2), md.2.2.1, md.2.2.2.1, md.2.2.2.2.1, md.2.2.2.2.2.1, md.2.2.2.2.2.2.1, md.2.2.2.2.2.2.2.1, md.2.2.2.2.2.2.2.2)) := hD
    refine lv_aload_n hx hb d_Model_read_93 rfl (lv_at hl 0 rfl) ?_
    refine lv_aload_n hx hb d_Model_read_94 rfl (lv_at hl 0 rfl) ?_
    refine va_get (D := (dC, dI)) (ci := 6) (v := .int md.2.1.2.2.2) (C := "HazardTablesModel") (T := F_Model) (N := 30) hx hb hts hin_Model hown hK hP 0 rfl rfl 11 (by decide) fl_85 (fun _ h9 => h9) rfl d_Model_read_95 ?_
    refine va_put (D := (dC, dI)) (ci := 6) (v := .int md.2.1.2.2.2) (ty := .int) (C := "HazardTablesModel") (T := F_Model) (N := 30) hx hb hts hin_Model t_Model t_Model_ok n_Model hown hK hP hD hS 0 rfl rfl 3 (by decide) fl_13 (fun _ h9 => h9) rfl (by decide +kernel) rfl rfl (Nat.le_of_ble_eq_true rfl) d_Model_read_98 (fun H locs hP hD hS => ?_)
    have hP : va_P (dC, dI) vwCl (uw_Model ad_md cA_md ((md.1.1, md.2.1.2.2.2), ((0 : Int32), md.2.1.2.1, md.2.1.2.2.1, md.2.1.2.2.2), md.2.2.1, md.2.2.2.1, md.2.2.2.2.1, md.2.2.2.2.2.1, md.2.2.2.2.2.2.1, md.2.2.2.2.2.2.2.1, md.2.2.2.2.2.2.2.2)) H := hP
    have hD : va_D A (uw_Model ad_md cA_md ((md.1.1, md.2.1.2.2.2), ((0 : Int32), md.2.1.2.1, md.2.1.2.2.1, md.2.1.2.2.2), md.2.2.1, md.2.2.2.1, md.2.2.2.2.1, md.2.2.2.2.2.1, md.2.2.2.2.2.2.1, md.2.2.2.2.2.2.2.1, md.2.2.2.2.2.2.2.2)) := hD
    refine lv_aload_n hx hb d_Model_read_101 rfl (lv_at hl 0 rfl) ?_
    refine lv_aload_n hx hb d_Model_read_102 rfl (lv_at hl 0 rfl) ?_
    refine va_get (D := (dC, dI)) (ci := 6) (v := .int md.2.1.2.2.2) (C := "HazardTablesModel") (T := F_Model) (N := 30) hx hb hts hin_Model hown hK hP 0 rfl rfl 11 (by decide) fl_85 (fun _ h9 => h9) rfl d_Model_read_103 ?_
    refine lv_if_ge (tgt := 113) hx hb d_Model_read_106 (by decide) (fun hc10 => ?_) (fun hc10 => ?_)
    · have hf := hf_t hf hc10
      refine lv_iconst (v := (0 : Int32)) hx hb d_Model_read_113 (by decide) ?_
      refine lv_iconst (v := (1 : Int32)) hx hb d_Model_read_114 (by decide) ?_
      refine lv_iconst (v := (1 : Int32)) hx hb d_Model_read_115 (by decide) ?_
      obtain ⟨u11, hu11, hf⟩ := Option.bind_eq_some_iff.mp hf
      refine cl_i (wc := (uw_Model ad_md cA_md ((md.1.1, md.2.1.2.2.2), ((0 : Int32), md.2.1.2.1, md.2.1.2.2.1, md.2.1.2.2.2), md.2.2.1, md.2.2.2.1, md.2.2.2.2.1, md.2.2.2.2.2.1, md.2.2.2.2.2.2.1, md.2.2.2.2.2.2.2.1, md.2.2.2.2.2.2.2.2))) (wr := []) (tysC := [(cA_md 1, .int), (cA_md 2, .int), (cA_md 3, .int), (cA_md 4, .int), (cA_md 5, .int), (cA_md 6, .int), (cA_md 7, .int), (cA_md 8, .int), (cA_md 9, .boolean), (cA_md 10, .int), (cA_md 11, .int), (cA_md 12, .int), (cA_md 13, .int)]) (wu := fun (u : SModel) => (uw_Model ad_md cA_md u)) (wn := fun (u : SModel) => (uw_Model ad_md cA_md u)) [0, 1, 2, 3, 4, 5, 6, 7, 8, 9, 10, 11, 12, 13] [] [0, 1, 2, 3, 4, 5, 6, 7, 8, 9, 10, 11, 12, 13] [0, 1, 2, 3, 4, 5, 6, 7, 8, 9, 10, 11, 12] hP hD hS hA hK rfl rfl (by decide +kernel) (by decide +kernel) (by decide +kernel) rfl (fun _ => rfl) (by decide +kernel) (fun hPc hKc hDc => (va_runV (As := [.int (0 : Int32), .int (1 : Int32), .int (1 : Int32)]) (rest := []) ⟨hx, hb, hml, hown, hts⟩ (k_Model_goes l dC dI ad_md cA_md H.size ((md.1.1, md.2.1.2.2.2), ((0 : Int32), md.2.1.2.1, md.2.1.2.2.1, md.2.1.2.2.2), md.2.2.1, md.2.2.2.1, md.2.2.2.2.1, md.2.2.2.2.2.1, md.2.2.2.2.2.2.1, md.2.2.2.2.2.2.2.1, md.2.2.2.2.2.2.2.2) false true true u11 hu11) (cwV 3 hts (gV wd_850 wd_852 wd_22 wd_49 wd_853) rfl rfl rfl (by decide +kernel) ⟨Nat.le_of_ble_eq_true rfl, Nat.le_of_ble_eq_true rfl⟩) (cl_preV hPc hKc hDc hN (ci := 6) 0 rfl rfl) rfl rfl hl.1 rfl (lv_room (Nat.le_of_ble_eq_true rfl)) d_Model_read_116 ⟨Nat.le_of_ble_eq_true rfl, Nat.le_of_ble_eq_true rfl⟩)) (fun r u H locs hw hP hD hS => ?_)
      obtain ⟨hw1, hw2⟩ := hw
      have hw1 := hw1.symm
      have hw2 := hw2.symm
      subst hw1
      subst hw2
      have hP : va_P (dC, dI) vwCl (uw_Model ad_md cA_md u11.2) H := hP
      have hD : va_D A (uw_Model ad_md cA_md u11.2) := hD
      refine lv_if_ne (tgt := 124) hx hb d_Model_read_119 (by decide) (fun hc12 => ?_) (fun hc12 => ?_)
      · have hf := hf_f hf hc12
        refine lv_iconst (v := (0 : Int32)) hx hb d_Model_read_124 (by decide) ?_
        refine lv_istore_n (lv' := [(1, .int (0 : Int32)), (0, .ref (ad_md 0))]) hx hb d_Model_read_125 rfl hl (by decide) rfl (fun ls hl => ?_)
        exact w_126 4096 u11.2 (0 : Int32) H locs ls hf hP hD hS (lv_sub hl [1, 0] rfl)
      · have hf := hf_t hf hc12
        refine lv_iconst (v := (0 : Int32)) hx hb d_Model_read_122 (by decide) ?_
        exact ret (0 : Int32) u11.2 H locs ls 123 d_Model_read_123 (hf_e hf) hP hD hS
    · have hf := hf_f hf hc10
      refine lv_iconst (v := (1 : Int32)) hx hb d_Model_read_109 (by decide) ?_
      refine lv_goto (tgt := 114) hx hb d_Model_read_110 (by decide) ?_
      refine lv_iconst (v := (1 : Int32)) hx hb d_Model_read_114 (by decide) ?_
      refine lv_iconst (v := (1 : Int32)) hx hb d_Model_read_115 (by decide) ?_
      obtain ⟨u13, hu13, hf⟩ := Option.bind_eq_some_iff.mp hf
      refine cl_i (wc := (uw_Model ad_md cA_md ((md.1.1, md.2.1.2.2.2), ((0 : Int32), md.2.1.2.1, md.2.1.2.2.1, md.2.1.2.2.2), md.2.2.1, md.2.2.2.1, md.2.2.2.2.1, md.2.2.2.2.2.1, md.2.2.2.2.2.2.1, md.2.2.2.2.2.2.2.1, md.2.2.2.2.2.2.2.2))) (wr := []) (tysC := [(cA_md 1, .int), (cA_md 2, .int), (cA_md 3, .int), (cA_md 4, .int), (cA_md 5, .int), (cA_md 6, .int), (cA_md 7, .int), (cA_md 8, .int), (cA_md 9, .boolean), (cA_md 10, .int), (cA_md 11, .int), (cA_md 12, .int), (cA_md 13, .int)]) (wu := fun (u : SModel) => (uw_Model ad_md cA_md u)) (wn := fun (u : SModel) => (uw_Model ad_md cA_md u)) [0, 1, 2, 3, 4, 5, 6, 7, 8, 9, 10, 11, 12, 13] [] [0, 1, 2, 3, 4, 5, 6, 7, 8, 9, 10, 11, 12, 13] [0, 1, 2, 3, 4, 5, 6, 7, 8, 9, 10, 11, 12] hP hD hS hA hK rfl rfl (by decide +kernel) (by decide +kernel) (by decide +kernel) rfl (fun _ => rfl) (by decide +kernel) (fun hPc hKc hDc => (va_runV (As := [.int (1 : Int32), .int (1 : Int32), .int (1 : Int32)]) (rest := []) ⟨hx, hb, hml, hown, hts⟩ (k_Model_goes l dC dI ad_md cA_md H.size ((md.1.1, md.2.1.2.2.2), ((0 : Int32), md.2.1.2.1, md.2.1.2.2.1, md.2.1.2.2.2), md.2.2.1, md.2.2.2.1, md.2.2.2.2.1, md.2.2.2.2.2.1, md.2.2.2.2.2.2.1, md.2.2.2.2.2.2.2.1, md.2.2.2.2.2.2.2.2) true true true u13 hu13) (cwV 3 hts (gV wd_850 wd_852 wd_22 wd_49 wd_853) rfl rfl rfl (by decide +kernel) ⟨Nat.le_of_ble_eq_true rfl, Nat.le_of_ble_eq_true rfl⟩) (cl_preV hPc hKc hDc hN (ci := 6) 0 rfl rfl) rfl rfl hl.1 rfl (lv_room (Nat.le_of_ble_eq_true rfl)) d_Model_read_116 ⟨Nat.le_of_ble_eq_true rfl, Nat.le_of_ble_eq_true rfl⟩)) (fun r u H locs hw hP hD hS => ?_)
      obtain ⟨hw1, hw2⟩ := hw
      have hw1 := hw1.symm
      have hw2 := hw2.symm
      subst hw1
      subst hw2
      have hP : va_P (dC, dI) vwCl (uw_Model ad_md cA_md u13.2) H := hP
      have hD : va_D A (uw_Model ad_md cA_md u13.2) := hD
      refine lv_if_ne (tgt := 124) hx hb d_Model_read_119 (by decide) (fun hc14 => ?_) (fun hc14 => ?_)
      · have hf := hf_f hf hc14
        refine lv_iconst (v := (0 : Int32)) hx hb d_Model_read_124 (by decide) ?_
        refine lv_istore_n (lv' := [(1, .int (0 : Int32)), (0, .ref (ad_md 0))]) hx hb d_Model_read_125 rfl hl (by decide) rfl (fun ls hl => ?_)
        exact w_126 4096 u13.2 (0 : Int32) H locs ls hf hP hD hS (lv_sub hl [1, 0] rfl)
      · have hf := hf_t hf hc14
        refine lv_iconst (v := (0 : Int32)) hx hb d_Model_read_122 (by decide) ?_
        exact ret (0 : Int32) u13.2 H locs ls 123 d_Model_read_123 (hf_e hf) hP hD hS
  have w_20 : ∀ (n : Nat) (md : SModel)  (H : Heap) (locs : List Loc) (ls : Array Slot), f_Model_read_20 n md = some res → va_P (dC, dI) vwCl (uw_Model ad_md cA_md md) H → va_D A (uw_Model ad_md cA_md md) → va_S A s.heap H locs → lv_has ls 2 [(0, .ref (ad_md 0))] → W p l e (headSpec w_Model_read ({ frames := 5, cells := 0, slots := 0, locals := 112 })).room s m ([.ref (ad_md 0)] : List Value).toArray below meth c H locs 0 0 Q (F0 m 20 ls []) := by
    intro n
    induction n with
    | zero =>
      intro md H locs ls hf hP hD hS hl
      rw [f_Model_read_20] at hf; cases hf
    | succ n ih =>
      intro md H locs ls hf hP hD hS hl
      rw [f_Model_read_20] at hf
      refine lv_aload_n hx hb d_Model_read_20 rfl (lv_at hl 0 rfl) ?_
      refine va_get (D := (dC, dI)) (ci := 6) (v := .int md.2.1.2.2.2) (C := "HazardTablesModel") (T := F_Model) (N := 30) hx hb hts hin_Model hown hK hP 0 rfl rfl 11 (by decide) fl_85 (fun _ h9 => h9) rfl d_Model_read_21 ?_
      refine lv_if_ge (tgt := 88) hx hb d_Model_read_24 (by decide) (fun hc1 => ?_) (fun hc1 => ?_)
      · have hf := hf_t hf hc1
        exact w_88 md H locs ls hf hP hD hS (lv_sub hl [0] rfl)
      · have hf := hf_f hf hc1
        refine lv_aload_n hx hb d_Model_read_27 rfl (lv_at hl 0 rfl) ?_
        obtain ⟨u2, hu2, hf⟩ := Option.bind_eq_some_iff.mp hf
        refine cl_i (wc := (uw_Model ad_md cA_md md)) (wr := []) (tysC := [(cA_md 1, .int), (cA_md 2, .int), (cA_md 3, .int), (cA_md 4, .int), (cA_md 5, .int), (cA_md 6, .int), (cA_md 7, .int), (cA_md 8, .int), (cA_md 9, .boolean), (cA_md 10, .int), (cA_md 11, .int), (cA_md 12, .int), (cA_md 13, .int)]) (wu := fun (u : SModel) => (uw_Model ad_md cA_md u)) (wn := fun (u : SModel) => (uw_Model ad_md cA_md u)) [0, 1, 2, 3, 4, 5, 6, 7, 8, 9, 10, 11, 12, 13] [] [0, 1, 2, 3, 4, 5, 6, 7, 8, 9, 10, 11, 12, 13] [0, 1, 2, 3, 4, 5, 6, 7, 8, 9, 10, 11, 12] hP hD hS hA hK rfl rfl (by decide +kernel) (by decide +kernel) (by decide +kernel) rfl (fun _ => rfl) (by decide +kernel) (fun hPc hKc hDc => (va_runV (As := []) (rest := []) ⟨hx, hb, hml, hown, hts⟩ (k_Model_see l dC dI ad_md cA_md H.size md u2 hu2) (cwV 0 hts (gV wd_858 wd_860 wd_23 wd_49 wd_861) rfl rfl rfl (by decide +kernel) ⟨Nat.le_of_ble_eq_true rfl, Nat.le_of_ble_eq_true rfl⟩) (cl_preV hPc hKc hDc hN (ci := 6) 0 rfl rfl) rfl rfl hl.1 rfl (lv_room (Nat.le_of_ble_eq_true rfl)) d_Model_read_28 ⟨Nat.le_of_ble_eq_true rfl, Nat.le_of_ble_eq_true rfl⟩)) (fun r u H locs hw hP hD hS => ?_)
        obtain ⟨hw1, hw2⟩ := hw
        have hw1 := hw1.symm
        have hw2 := hw2.symm
        subst hw1
        subst hw2
        have hP : va_P (dC, dI) vwCl (uw_Model ad_md cA_md u2.2) H := hP
        have hD : va_D A (uw_Model ad_md cA_md u2.2) := hD
        refine lv_if_lt (tgt := 88) hx hb d_Model_read_31 (by decide) (fun hc3 => ?_) (fun hc3 => ?_)
        · have hf := hf_t hf hc3
          exact w_88 u2.2 H locs ls hf hP hD hS (lv_sub hl [0] rfl)
        · have hf := hf_f hf hc3
          refine lv_aload_n hx hb d_Model_read_34 rfl (lv_at hl 0 rfl) ?_
          obtain ⟨u4, hu4, hf⟩ := Option.bind_eq_some_iff.mp hf
          refine cl_i (wc := (uw_Model ad_md cA_md u2.2)) (wr := []) (tysC := [(cA_md 1, .int), (cA_md 2, .int), (cA_md 3, .int), (cA_md 4, .int), (cA_md 5, .int), (cA_md 6, .int), (cA_md 7, .int), (cA_md 8, .int), (cA_md 9, .boolean), (cA_md 10, .int), (cA_md 11, .int), (cA_md 12, .int), (cA_md 13, .int)]) (wu := fun (u : Unit) => (uw_Model ad_md cA_md u2.2)) (wn := fun (u : Unit) => (uw_Model ad_md cA_md u2.2)) [0, 1, 2, 3, 4, 5, 6, 7, 8, 9, 10, 11, 12, 13] [] [0, 1, 2, 3, 4, 5, 6, 7, 8, 9, 10, 11, 12, 13] [0, 1, 2, 3, 4, 5, 6, 7, 8, 9, 10, 11, 12] hP hD hS hA hK rfl rfl (by decide +kernel) (by decide +kernel) (by decide +kernel) rfl (fun _ => rfl) (by decide +kernel) (fun hPc hKc hDc => (va_runV (As := []) (rest := []) ⟨hx, hb, hml, hown, hts⟩ (k_Model_here l dC dI ad_md cA_md H.size u2.2 u4 hu4) (cwV 0 hts (gV wd_862 wd_864 wd_24 wd_49 wd_865) rfl rfl rfl (by decide +kernel) ⟨Nat.le_of_ble_eq_true rfl, Nat.le_of_ble_eq_true rfl⟩) (cl_preV hPc hKc hDc hN (ci := 6) 0 rfl rfl) rfl rfl hl.1 rfl (lv_room (Nat.le_of_ble_eq_true rfl)) d_Model_read_35 ⟨Nat.le_of_ble_eq_true rfl, Nat.le_of_ble_eq_true rfl⟩)) (fun r u H locs hw hP hD hS => ?_)
          have hw := hw.symm
          subst hw
          have hP : va_P (dC, dI) vwCl (uw_Model ad_md cA_md u2.2) H := hP
          have hD : va_D A (uw_Model ad_md cA_md u2.2) := hD
          refine lv_istore_n (lv' := [(1, .int u4), (0, .ref (ad_md 0))]) hx hb d_Model_read_38 rfl hl (by decide) rfl (fun ls hl => ?_)
          refine lv_aload_n hx hb d_Model_read_39 rfl (lv_at hl 1 rfl) ?_
          refine lv_dup hx hb d_Model_read_40 rfl ?_
          refine va_get (D := (dC, dI)) (ci := 6) (v := .int u2.2.2.1.2.2.1) (C := "HazardTablesModel") (T := F_Model) (N := 30) hx hb hts hin_Model hown hK hP 0 rfl rfl 10 (by decide) fl_78 (fun _ h9 => h9) rfl d_Model_read_41 ?_
          refine lv_iconst (v := (1 : Int32)) hx hb d_Model_read_44 (by decide) ?_
          refine lv_iadd hx hb d_Model_read_45 ?_
          refine va_put (D := (dC, dI)) (ci := 6) (v := .int (u2.2.2.1.2.2.1 + (1 : Int32))) (ty := .int) (C := "HazardTablesModel") (T := F_Model) (N := 30) hx hb hts hin_Model t_Model t_Model_ok n_Model hown hK hP hD hS 0 rfl rfl 10 (by decide) fl_78 (fun _ h9 => h9) rfl (by decide +kernel) rfl rfl (Nat.le_of_ble_eq_true rfl) d_Model_read_46 (fun H locs hP hD hS => ?_)
          have hP : va_P (dC, dI) vwCl (uw_Model ad_md cA_md (u2.2.1, (u2.2.2.1.1, u2.2.2.1.2.1, u2.2.2.1.2.2.1 + (1 : Int32), u2.2.2.1.2.2.2), u2.2.2.2.1, u2.2.2.2.2.1, u2.2.2.2.2.2.1, u2.2.2.2.2.2.2.1, u2.2.2.2.2.2.2.2.1, u2.2.2.2.2.2.2.2.2.1, u2.2.2.2.2.2.2.2.2.2)) H := hP
          have hD : va_D A (uw_Model ad_md cA_md (u2.2.1, (u2.2.2.1.1, u2.2.2.1.2.1, u2.2.2.1.2.2.1 + (1 : Int32), u2.2.2.1.2.2.2), u2.2.2.2.1, u2.2.2.2.2.1, u2.2.2.2.2.2.1, u2.2.2.2.2.2.2.1, u2.2.2.2.2.2.2.2.1, u2.2.2.2.2.2.2.2.2.1, u2.2.2.2.2.2.2.2.2.2)) := hD
          refine lv_iload_n hx hb d_Model_read_49 rfl (lv_at hl 0 rfl) ?_
          refine lv_bipush (v := (109 : Int32)) hx hb d_Model_read_50 (by decide) ?_
          refine lv_icmp_ne (tgt := 62) hx hb d_Model_read_52 (by decide) (fun hc5 => ?_) (fun hc5 => ?_)
          · have hf := hf_f hf hc5
            refine lv_iload_n hx hb d_Model_read_62 rfl (lv_at hl 0 rfl) ?_
            refine lv_bipush (v := (122 : Int32)) hx hb d_Model_read_63 (by decide) ?_
            refine lv_icmp_ne (tgt := 75) hx hb d_Model_read_65 (by decide) (fun hc6 => ?_) (fun hc6 => ?_)
            · have hf := hf_f hf hc6
              refine lv_aload_n hx hb d_Model_read_75 rfl (lv_at hl 1 rfl) ?_
              refine lv_aload_n hx hb d_Model_read_76 rfl (lv_at hl 1 rfl) ?_
              refine va_get (D := (dC, dI)) (ci := 6) (v := .int (u2.2.2.1.2.2.1 + (1 : Int32))) (C := "HazardTablesModel") (T := F_Model) (N := 30) hx hb hts hin_Model hown hK hP 0 rfl rfl 10 (by decide) fl_78 (fun _ h9 => h9) rfl d_Model_read_77 ?_
              refine lv_iconst (v := (1 : Int32)) hx hb d_Model_read_80 (by decide) ?_
              refine lv_isub hx hb d_Model_read_81 ?_
              obtain ⟨u7, hu7, hf⟩ := Option.bind_eq_some_iff.mp hf
              refine cl_v (wc := (uw_Model ad_md cA_md (u2.2.1, (u2.2.2.1.1, u2.2.2.1.2.1, u2.2.2.1.2.2.1 + (1 : Int32), u2.2.2.1.2.2.2), u2.2.2.2.1, u2.2.2.2.2.1, u2.2.2.2.2.2.1, u2.2.2.2.2.2.2.1, u2.2.2.2.2.2.2.2.1, u2.2.2.2.2.2.2.2.2.1, u2.2.2.2.2.2.2.2.2.2))) (wr := []) (tysC := [(cA_md 1, .int), (cA_md 2, .int), (cA_md 3, .int), (cA_md 4, .int), (cA_md 5, .int), (cA_md 6, .int), (cA_md 7, .int), (cA_md 8, .int), (cA_md 9, .boolean), (cA_md 10, .int), (cA_md 11, .int), (cA_md 12, .int), (cA_md 13, .int)]) (wu := fun (u : SModel) => (uw_Model ad_md cA_md u)) (wn := fun (u : SModel) => (uw_Model ad_md cA_md u)) [0, 1, 2, 3, 4, 5, 6, 7, 8, 9, 10, 11, 12, 13] [] [0, 1, 2, 3, 4, 5, 6, 7, 8, 9, 10, 11, 12, 13] [0, 1, 2, 3, 4, 5, 6, 7, 8, 9, 10, 11, 12] hP hD hS hA hK rfl rfl (by decide +kernel) (by decide +kernel) (by decide +kernel) rfl (fun _ => rfl) (by decide +kernel) (fun hPc hKc hDc => (va_runV (As := [.int ((u2.2.2.1.2.2.1 + (1 : Int32)) - (1 : Int32))]) (rest := []) ⟨hx, hb, hml, hown, hts⟩ (k_Model_fail l dC dI ad_md cA_md H.size (u2.2.1, (u2.2.2.1.1, u2.2.2.1.2.1, u2.2.2.1.2.2.1 + (1 : Int32), u2.2.2.1.2.2.2), u2.2.2.2.1, u2.2.2.2.2.1, u2.2.2.2.2.2.1, u2.2.2.2.2.2.2.1, u2.2.2.2.2.2.2.2.1, u2.2.2.2.2.2.2.2.2.1, u2.2.2.2.2.2.2.2.2.2) ((u2.2.2.1.2.2.1 + (1 : Int32)) - (1 : Int32)) u7 hu7) (cwV 1 hts (gV wd_870 wd_872 wd_26 wd_49 wd_873) rfl rfl rfl (by decide +kernel) ⟨Nat.le_of_ble_eq_true rfl, Nat.le_of_ble_eq_true rfl⟩) (cl_preV hPc hKc hDc hN (ci := 6) 0 rfl rfl) rfl rfl hl.1 rfl (lv_room (Nat.le_of_ble_eq_true rfl)) d_Model_read_82 ⟨Nat.le_of_ble_eq_true rfl, Nat.le_of_ble_eq_true rfl⟩)) (fun u H locs hw hP hD hS => ?_)
              have hw := hw.symm
              subst hw
              have hP : va_P (dC, dI) vwCl (uw_Model ad_md cA_md u7) H := hP
              have hD : va_D A (uw_Model ad_md cA_md u7) := hD
              refine lv_goto (tgt := 20) hx hb d_Model_read_85 (by decide) ?_
              exact ih u7 H locs ls hf hP hD hS (lv_sub hl [1] rfl)
            · have hf := hf_t hf hc6
              refine lv_aload_n hx hb d_Model_read_68 rfl (lv_at hl 1 rfl) ?_
              obtain ⟨u8, hu8, hf⟩ := Option.bind_eq_some_iff.mp hf
              refine cl_v (wc := (uw_Model ad_md cA_md (u2.2.1, (u2.2.2.1.1, u2.2.2.1.2.1, u2.2.2.1.2.2.1 + (1 : Int32), u2.2.2.1.2.2.2), u2.2.2.2.1, u2.2.2.2.2.1, u2.2.2.2.2.2.1, u2.2.2.2.2.2.2.1, u2.2.2.2.2.2.2.2.1, u2.2.2.2.2.2.2.2.2.1, u2.2.2.2.2.2.2.2.2.2))) (wr := []) (tysC := [(cA_md 1, .int), (cA_md 2, .int), (cA_md 3, .int), (cA_md 4, .int), (cA_md 5, .int), (cA_md 6, .int), (cA_md 7, .int), (cA_md 8, .int), (cA_md 9, .boolean), (cA_md 10, .int), (cA_md 11, .int), (cA_md 12, .int), (cA_md 13, .int)]) (wu := fun (u : SModel) => (uw_Model ad_md cA_md u)) (wn := fun (u : SModel) => (uw_Model ad_md cA_md u)) [0, 1, 2, 3, 4, 5, 6, 7, 8, 9, 10, 11, 12, 13] [] [0, 1, 2, 3, 4, 5, 6, 7, 8, 9, 10, 11, 12, 13] [0, 1, 2, 3, 4, 5, 6, 7, 8, 9, 10, 11, 12] hP hD hS hA hK rfl rfl (by decide +kernel) (by decide +kernel) (by decide +kernel) rfl (fun _ => rfl) (by decide +kernel) (fun hPc hKc hDc => (va_runV (As := []) (rest := []) ⟨hx, hb, hml, hown, hts⟩ (k_Model_generalRow l dC dI ad_md cA_md H.size (u2.2.1, (u2.2.2.1.1, u2.2.2.1.2.1, u2.2.2.1.2.2.1 + (1 : Int32), u2.2.2.1.2.2.2), u2.2.2.2.1, u2.2.2.2.2.1, u2.2.2.2.2.2.1, u2.2.2.2.2.2.2.1, u2.2.2.2.2.2.2.2.1, u2.2.2.2.2.2.2.2.2.1, u2.2.2.2.2.2.2.2.2.2) u8 hu8) (cwV 0 hts (gV wd_898 wd_900 wd_33 wd_49 wd_901) rfl rfl rfl (by decide +kernel) ⟨Nat.le_of_ble_eq_true rfl, Nat.le_of_ble_eq_true rfl⟩) (cl_preV hPc hKc hDc hN (ci := 6) 0 rfl rfl) rfl rfl hl.1 rfl (lv_room (Nat.le_of_ble_eq_true rfl)) d_Model_read_69 ⟨Nat.le_of_ble_eq_true rfl, Nat.le_of_ble_eq_true rfl⟩)) (fun u H locs hw hP hD hS => ?_)
              have hw := hw.symm
              subst hw
              have hP : va_P (dC, dI) vwCl (uw_Model ad_md cA_md u8) H := hP
              have hD : va_D A (uw_Model ad_md cA_md u8) := hD
              refine lv_goto (tgt := 85) hx hb d_Model_read_72 (by decide) ?_
              refine lv_goto (tgt := 20) hx hb d_Model_read_85 (by decide) ?_
              exact ih u8 H locs ls hf hP hD hS (lv_sub hl [1] rfl)
          · have hf := hf_t hf hc5
            refine lv_aload_n hx hb d_Model_read_55 rfl (lv_at hl 1 rfl) ?_
            obtain ⟨u9, hu9, hf⟩ := Option.bind_eq_some_iff.mp hf
            refine cl_v (wc := (uw_Model ad_md cA_md (u2.2.1, (u2.2.2.1.1, u2.2.2.1.2.1, u2.2.2.1.2.2.1 + (1 : Int32), u2.2.2.1.2.2.2), u2.2.2.2.1, u2.2.2.2.2.1, u2.2.2.2.2.2.1, u2.2.2.2.2.2.2.1, u2.2.2.2.2.2.2.2.1, u2.2.2.2.2.2.2.2.2.1, u2.2.2.2.2.2.2.2.2.2))) (wr := []) (tysC := [(cA_md 1, .int), (cA_md 2, .int), (cA_md 3, .int), (cA_md 4, .int), (cA_md 5, .int), (cA_md 6, .int), (cA_md 7, .int), (cA_md 8, .int), (cA_md 9, .boolean), (cA_md 10, .int), (cA_md 11, .int), (cA_md 12, .int), (cA_md 13, .int)]) (wu := fun (u : SModel) => (uw_Model ad_md cA_md u)) (wn := fun (u : SModel) => (uw_Model ad_md cA_md u)) [0, 1, 2, 3, 4, 5, 6, 7, 8, 9, 10, 11, 12, 13] [] [0, 1, 2, 3, 4, 5, 6, 7, 8, 9, 10, 11, 12, 13] [0, 1, 2, 3, 4, 5, 6, 7, 8, 9, 10, 11, 12] hP hD hS hA hK rfl rfl (by decide +kernel) (by decide +kernel) (by decide +kernel) rfl (fun _ => rfl) (by decide +kernel) (fun hPc hKc hDc => (va_runV (As := []) (rest := []) ⟨hx, hb, hml, hown, hts⟩ (k_Model_materialRow l dC dI ad_md cA_md H.size (u2.2.1, (u2.2.2.1.1, u2.2.2.1.2.1, u2.2.2.1.2.2.1 + (1 : Int32), u2.2.2.1.2.2.2), u2.2.2.2.1, u2.2.2.2.2.1, u2.2.2.2.2.2.1, u2.2.2.2.2.2.2.1, u2.2.2.2.2.2.2.2.1, u2.2.2.2.2.2.2.2.2.1, u2.2.2.2.2.2.2.2.2.2) u9 hu9) (cwV 0 hts (gV wd_866 wd_868 wd_25 wd_49 wd_869) rfl rfl rfl (by decide +kernel) ⟨Nat.le_of_ble_eq_true rfl, Nat.le_of_ble_eq_true rfl⟩) (cl_preV hPc hKc hDc hN (ci := 6) 0 rfl rfl) rfl rfl hl.1 rfl (lv_room (Nat.le_of_ble_eq_true rfl)) d_Model_read_56 ⟨Nat.le_of_ble_eq_true rfl, Nat.le_of_ble_eq_true rfl⟩)) (fun u H locs hw hP hD hS => ?_)
            have hw := hw.symm
            subst hw
            have hP : va_P (dC, dI) vwCl (uw_Model ad_md cA_md u9) H := hP
            have hD : va_D A (uw_Model ad_md cA_md u9) := hD
            refine lv_goto (tgt := 85) hx hb d_Model_read_59 (by decide) ?_
            refine lv_goto (tgt := 20) hx hb d_Model_read_85 (by decide) ?_
            exact ih u9 H locs ls hf hP hD hS (lv_sub hl [1] rfl)
  have hl := lv_entry ([.ref (ad_md 0)]) (n := 2) (Nat.le_of_ble_eq_true rfl)
  rw [lg_entry_eq]
  generalize (lg_sl ([.ref (ad_md 0)]) ++ List.replicate (2 - (lg_sl ([.ref (ad_md 0)])).length) Slot.unset).toArray = ls at hl ⊢
  have hl : lv_has ls 2 [(0, .ref (ad_md 0))] := hl
  have hf := hf
  rw [f_Model_read] at hf
  obtain ⟨H, hH⟩ : ∃ H : Heap, H = s.heap := ⟨_, rfl⟩
  obtain ⟨locs, hlocs⟩ : ∃ L : List Loc, L = [] := ⟨_, rfl⟩
  have hP : va_P (dC, dI) vwCl (uw_Model ad_md cA_md md) H := by rw [hH]; exact hP
  have hS : va_S A s.heap H locs := by rw [hH, hlocs]; exact hS
  show W p l e (headSpec w_Model_read ({ frames := 5, cells := 0, slots := 0, locals := 112 })).room s m ([.ref (ad_md 0)] : List Value).toArray below meth c s.heap [] 0 0 Q (F0 m 0 ls [])
  suffices hgo : W p l e (headSpec w_Model_read ({ frames := 5, cells := 0, slots := 0, locals := 112 })).room s m ([.ref (ad_md 0)] : List Value).toArray below meth c H locs 0 0 Q (F0 m 0 ls []) by rw [hH, hlocs] at hgo; exact hgo
  clear hH hlocs
  refine lv_aload_n hx hb d_Model_read_0 rfl (lv_at hl 0 rfl) ?_
  refine lv_iconst (v := (0 : Int32)) hx hb d_Model_read_1 (by decide) ?_
  refine va_put (D := (dC, dI)) (ci := 6) (v := .int (0 : Int32)) (ty := .int) (C := "HazardTablesModel") (T := F_Model) (N := 30) hx hb hts hin_Model t_Model t_Model_ok n_Model hown hK hP hD hS 0 rfl rfl 7 (by decide) fl_110 (fun _ h9 => h9) rfl (by decide +kernel) rfl rfl (Nat.le_of_ble_eq_true rfl) d_Model_read_2 (fun H locs hP hD hS => ?_)
  have hP : va_P (dC, dI) vwCl (uw_Model ad_md cA_md (md.1, md.2.1, ((0 : Int32), md.2.2.1.2.1, md.2.2.1.2.2), md.2.2.2.1, md.2.2.2.2.1, md.2.2.2.2.2.1, md.2.2.2.2.2.2.1, md.2.2.2.2.2.2.2.1, md.2.2.2.2.2.2.2.2)) H := hP
  have hD : va_D A (uw_Model ad_md cA_md (md.1, md.2.1, ((0 : Int32), md.2.2.1.2.1, md.2.2.1.2.2), md.2.2.2.1, md.2.2.2.2.1, md.2.2.2.2.2.1, md.2.2.2.2.2.2.1, md.2.2.2.2.2.2.2.1, md.2.2.2.2.2.2.2.2)) := hD
  refine lv_aload_n hx hb d_Model_read_5 rfl (lv_at hl 0 rfl) ?_
  refine lv_iconst (v := (0 : Int32)) hx hb d_Model_read_6 (by decide) ?_
  refine va_put (D := (dC, dI)) (ci := 6) (v := .int (0 : Int32)) (ty := .boolean) (C := "HazardTablesModel") (T := F_Model) (N := 30) hx hb hts hin_Model t_Model t_Model_ok n_Model hown hK hP hD hS 0 rfl rfl 8 (by decide) fl_119 (fun _ h9 => h9) rfl (by decide +kernel) (nar_bI false) (fit_bI false) (Nat.le_of_ble_eq_true rfl) d_Model_read_7 (fun H locs hP hD hS => ?_)
  have hP : va_P (dC, dI) vwCl (uw_Model ad_md cA_md (md.1, md.2.1, ((0 : Int32), false, md.2.2.1.2.2), md.2.2.2.1, md.2.2.2.2.1, md.2.2.2.2.2.1, md.2.2.2.2.2.2.1, md.2.2.2.2.2.2.2.1, md.2.2.2.2.2.2.2.2)) H := hP
  have hD : va_D A (uw_Model ad_md cA_md (md.1, md.2.1, ((0 : Int32), false, md.2.2.1.2.2), md.2.2.2.1, md.2.2.2.2.1, md.2.2.2.2.2.1, md.2.2.2.2.2.2.1, md.2.2.2.2.2.2.2.1, md.2.2.2.2.2.2.2.2)) := hD
  refine lv_aload_n hx hb d_Model_read_10 rfl (lv_at hl 0 rfl) ?_
  refine lv_iconst (v := (0 : Int32)) hx hb d_Model_read_11 (by decide) ?_
  refine va_put (D := (dC, dI)) (ci := 6) (v := .int (0 : Int32)) (ty := .int) (C := "HazardTablesModel") (T := F_Model) (N := 30) hx hb hts hin_Model t_Model t_Model_ok n_Model hown hK hP hD hS 0 rfl rfl 10 (by decide) fl_78 (fun _ h9 => h9) rfl (by decide +kernel) rfl rfl (Nat.le_of_ble_eq_true rfl) d_Model_read_12 (fun H locs hP hD hS => ?_)
  have hP : va_P (dC, dI) vwCl (uw_Model ad_md cA_md (md.1, (md.2.1.1, md.2.1.2.1, (0 : Int32), md.2.1.2.2.2), ((0 : Int32), false, md.2.2.1.2.2), md.2.2.2.1, md.2.2.2.2.1, md.2.2.2.2.2.1, md.2.2.2.2.2.2.1, md.2.2.2.2.2.2.2.1, md.2.2.2.2.2.2.2.2)) H := hP
  have hD : va_D A (uw_Model ad_md cA_md (md.1, (md.2.1.1, md.2.1.2.1, (0 : Int32), md.2.1.2.2.2), ((0 : Int32), false, md.2.2.1.2.2), md.2.2.2.1, md.2.2.2.2.1, md.2.2.2.2.2.1, md.2.2.2.2.2.2.1, md.2.2.2.2.2.2.2.1, md.2.2.2.2.2.2.2.2)) := hD
  refine lv_aload_n hx hb d_Model_read_15 rfl (lv_at hl 0 rfl) ?_
  refine lv_iconst (v := (-1 : Int32)) hx hb d_Model_read_16 (by decide) ?_
  refine va_put (D := (dC, dI)) (ci := 6) (v := .int (-1 : Int32)) (ty := .int) (C := "HazardTablesModel") (T := F_Model) (N := 30) hx hb hts hin_Model t_Model t_Model_ok n_Model hown hK hP hD hS 0 rfl rfl 11 (by decide) fl_85 (fun _ h9 => h9) rfl (by decide +kernel) rfl rfl (Nat.le_of_ble_eq_true rfl) d_Model_read_17 (fun H locs hP hD hS => ?_)
  have hP : va_P (dC, dI) vwCl (uw_Model ad_md cA_md (md.1, (md.2.1.1, md.2.1.2.1, (0 : Int32), (-1 : Int32)), ((0 : Int32), false, md.2.2.1.2.2), md.2.2.2.1, md.2.2.2.2.1, md.2.2.2.2.2.1, md.2.2.2.2.2.2.1, md.2.2.2.2.2.2.2.1, md.2.2.2.2.2.2.2.2)) H := hP
  have hD : va_D A (uw_Model ad_md cA_md (md.1, (md.2.1.1, md.2.1.2.1, (0 : Int32), (-1 : Int32)), ((0 : Int32), false, md.2.2.1.2.2), md.2.2.2.1, md.2.2.2.2.1, md.2.2.2.2.2.1, md.2.2.2.2.2.2.1, md.2.2.2.2.2.2.2.1, md.2.2.2.2.2.2.2.2)) := hD
  exact w_20 4096 (md.1, (md.2.1.1, md.2.1.2.1, (0 : Int32), (-1 : Int32)), ((0 : Int32), false, md.2.2.1.2.2), md.2.2.2.1, md.2.2.2.2.1, md.2.2.2.2.2.1, md.2.2.2.2.2.2.1, md.2.2.2.2.2.2.2.1, md.2.2.2.2.2.2.2.2) H locs ls hf hP hD hS (lv_sub hl [0] rfl)
