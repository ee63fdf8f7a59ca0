noncomputable def f_Model_say_82  : Nat → SModel → Int64 → Int32 → Int32 → Option (Int32 × SModel)
  | 0, _, _, _, _ => none
  | n + 1, md, y1, y3, y5 =>
    (if y3 ≤ y5 then
      (Option.bind (f_Model_following md (-1 : Int32)) fun u9 =>
        (if inb (u9.1 * (43 : Int32)) 559 then
          (some (u9.2.2.2.2.1.2.2 (u9.1 * (43 : Int32)).toNatClampNeg, u9.2))
         else none)
       )
     else
      (if inb y5 8 then
        (f_Model_say_82 n (md.1, md.2.1, md.2.2.1, md.2.2.2.1, md.2.2.2.2.1, md.2.2.2.2.2.1, md.2.2.2.2.2.2.1, md.2.2.2.2.2.2.2.1, (md.2.2.2.2.2.2.2.2.1, upd md.2.2.2.2.2.2.2.2.2.1 y5.toNatClampNeg (((y1 >>> (((8 : Int32) * ((y3 - (1 : Int32)) - y5)).toInt64 &&& 63)).toInt32) &&& (255 : Int32)), md.2.2.2.2.2.2.2.2.2.2)) y1 y3 (y5 + (1 : Int32)))
       else none)
     )
noncomputable def f_Model_say_65  (md : SModel) (y1 : Int64) (y3 : Int32) (z1 : Bool) (z2 : Bool) : Option (Int32 × SModel) :=
  (Option.bind (f_Model_goes md z1 z2 true) fun u6 =>
    (if (bI u6.1) = 0 then
      (some ((0 : Int32), u6.2))
     else
      (f_Model_say_82 4096 (u6.2.1, u6.2.2.1, u6.2.2.2.1, u6.2.2.2.2.1, u6.2.2.2.2.2.1, u6.2.2.2.2.2.2.1, u6.2.2.2.2.2.2.2.1, u6.2.2.2.2.2.2.2.2.1, (y3, u6.2.2.2.2.2.2.2.2.2.2.1, u6.2.2.2.2.2.2.2.2.2.2.2)) y1 y3 (0 : Int32))
     )
   )
noncomputable def f_Model_say_50  (md : SModel) (y1 : Int64) (y3 : Int32) (y4 : Bool) : Option (Int32 × SModel) :=
  (if md.2.2.2.1.1 ≤ 0 then
    (f_Model_say_65 md y1 y3 y4 false)
   else
    (f_Model_say_65 md y1 y3 y4 true)
   )
noncomputable def f_Model_say_12  : Nat → SModel → Int64 → Int32 → Bool → Int32 → Option (Int32 × SModel)
  | 0, _, _, _, _, _ => none
  | n + 1, md, y1, y3, y4, y5 =>
    (if y3 ≤ y5 then
      (f_Model_say_50 md y1 y3 y4)
     else
      (if (bI y4) = 0 then
        (f_Model_say_50 md y1 y3 y4)
       else
        (Option.bind (f_Model_within (((y1 >>> (((8 : Int32) * y5).toInt64 &&& 63)).toInt32) &&& (255 : Int32)) (97 : Int32) (122 : Int32)) fun u4 =>
          (f_Model_say_12 n md y1 y3 u4 (y5 + (1 : Int32)))
         )
       )
     )
noncomputable def f_Model_say (md : SModel) (x1 : Int64) (x3 : Int32) : Option (Int32 × SModel) :=
  (Option.bind (f_Model_within x3 (1 : Int32) (8 : Int32)) fun u1 =>
    (f_Model_say_12 4096 md x1 x3 u1 (0 : Int32))
   )
set_option maxHeartbeats 4000000 in
set_option maxRecDepth 100000 in
theorem k_Model_say (l : Launch) (dC : Nat → ClassId) (dI : Nat → Nat → Nat) (ad_md : Nat → Nat) (cA_md : Nat → ClassId) (sz : Nat) (md : SModel) (x1 : Int64) (x3 : Int32) (res : Int32 × SModel) (hf : f_Model_say md x1 x3 = some res) : Met l y_Model_say w_Model_say ({ frames := 4, cells := 0, slots := 0, locals := 94 }) (cPc (dC, dI) (uw_Model ad_md cA_md md) [(cA_md 1, .int), (cA_md 2, .int), (cA_md 3, .int), (cA_md 4, .int), (cA_md 5, .int), (cA_md 6, .int), (cA_md 7, .int), (cA_md 8, .int), (cA_md 9, .boolean), (cA_md 10, .int), (cA_md 11, .int), (cA_md 12, .int), (cA_md 13, .int)] sz [.ref (ad_md 0), .long x1, .int x3]) (va_Qi (fun (r : Int32) (u : SModel) => r = res.1 ∧ u = res.2) (fun (u : SModel) (t : State) => va_P (dC, dI) vwCl (uw_Model ad_md cA_md u) t.heap ∧ va_K (dC, dI) vwCl [(cA_md 1, .int), (cA_md 2, .int), (cA_md 3, .int), (cA_md 4, .int), (cA_md 5, .int), (cA_md 6, .int), (cA_md 7, .int), (cA_md 8, .int), (cA_md 9, .boolean), (cA_md 10, .int), (cA_md 11, .int), (cA_md 12, .int), (cA_md 13, .int)] t ∧ va_D (va_A (uw_Model ad_md cA_md md) sz) (uw_Model ad_md cA_md u)) (va_A (uw_Model ad_md cA_md md) sz)) 0 0 (va_A (uw_Model ad_md cA_md md) sz) := by
  refine Met.ofW (cc := b_Model_say) (maxL := 6) (ret := (some .int)) (by decide) rfl ?_
  intro p e s m args below meth c s₁ B hml hv
  obtain ⟨rfl, hsz, hP, hK, hD0, hN⟩ := hv
  have hx := B.exec
  have hb := B.bytes
  have hr := B.returns
  have hts := atoms_spec (ws := w_Model_say) B.pre
  have hown : s.vm.findClass "HazardTablesModel" = some m.cls := findClass_of_methodNamed B.named
  have hlocks := B.notSynchronized
  subst hsz
  have hD := hD0.self (sz := s.heap.size)
  generalize hAe : va_A (uw_Model ad_md cA_md md) s.heap.size = A at hD ⊢
  have hA : ∀ q : Nat, s.heap.size ≤ q → A q := fun q h => by rw [← hAe]; exact Or.inr h
  have hS : va_S A s.heap s.heap [] := va_S.rf
  have hP : va_P (dC, dI) vwCl (uw_Model ad_md cA_md md) s.heap := hP
  have fl_128 := (hts _ (List.mem_cons_of_mem _ wd_752))
  have fl_134 := (hts _ (List.mem_cons_of_mem _ wd_775))
  have fl_17 := (hts _ (List.mem_cons_of_mem _ wd_754))
  have fl_58 := (hts _ (List.mem_cons_of_mem _ wd_776))
  have hin_Model : ∀ w ∈ u_ws "HazardTablesModel" F_Model 30, w ∈ w_Model_say := fun w h => List.mem_cons_of_mem _ (hinA_Model w h)
  have ret : ∀ (v : Int32) (u : SModel) (H : Heap) (locs : List Loc) (ls : Array Slot) (pc : Nat), decode b_Model_say pc = .ok (.ireturn, 1) → (v = res.1 ∧ u = res.2) → va_P (dC, dI) vwCl (uw_Model ad_md cA_md u) H → va_D A (uw_Model ad_md cA_md u) → va_S A s.heap H locs → W p l e (headSpec w_Model_say ({ frames := 4, cells := 0, slots := 0, locals := 94 })).room s m ([.ref (ad_md 0), .long x1, .int x3] : List Value).toArray below meth c H locs 0 0 (MQ below (va_Qi (fun (r : Int32) (u : SModel) => r = res.1 ∧ u = res.2) (fun (u : SModel) (t : State) => va_P (dC, dI) vwCl (uw_Model ad_md cA_md u) t.heap ∧ va_K (dC, dI) vwCl [(cA_md 1, .int), (cA_md 2, .int), (cA_md 3, .int), (cA_md 4, .int), (cA_md 5, .int), (cA_md 6, .int), (cA_md 7, .int), (cA_md 8, .int), (cA_md 9, .boolean), (cA_md 10, .int), (cA_md 11, .int), (cA_md 12, .int), (cA_md 13, .int)] t ∧ va_D A (uw_Model ad_md cA_md u)) A) ([.ref (ad_md 0), .long x1, .int x3] : List Value).toArray s 0 0 A) (F0 m pc ls [.int v]) := fun v u H locs ls pc hd hp hP hD hS => W.iret (v := v) hx hb hr (fun t ht hW => ⟨⟨v, u, rfl, hp, by rw [ht]; exact hP, va_K.moved hW.alike hK, hD⟩, hS.F ht⟩) hS.2.2 hd
  generalize (MQ below (va_Qi (fun (r : Int32) (u : SModel) => r = res.1 ∧ u = res.2) (fun (u : SModel) (t : State) => va_P (dC, dI) vwCl (uw_Model ad_md cA_md u) t.heap ∧ va_K (dC, dI) vwCl [(cA_md 1, .int), (cA_md 2, .int), (cA_md 3, .int), (cA_md 4, .int), (cA_md 5, .int), (cA_md 6, .int), (cA_md 7, .int), (cA_md 8, .int), (cA_md 9, .boolean), (cA_md 10, .int), (cA_md 11, .int), (cA_md 12, .int), (cA_md 13, .int)] t ∧ va_D A (uw_Model ad_md cA_md u)) A) ([.ref (ad_md 0), .long x1, .int x3] : List Value).toArray s 0 0 A) = Q at ret ⊢
  have w_82 : ∀ (n : Nat) (md : SModel) (y1 : Int64) (y3 : Int32) (y5 : Int32) (H : Heap) (locs : List Loc) (ls : Array Slot), f_Model_say_82 n md y1 y3 y5 = some res → va_P (dC, dI) vwCl (uw_Model ad_md cA_md md) H → va_D A (uw_Model ad_md cA_md md) → va_S A s.heap H locs → lv_has ls 6 [(0, .ref (ad_md 0)), (1, .long y1), (3, .int y3), (5, .int y5)] → W p l e (headSpec w_Model_say ({ frames := 4, cells := 0, slots := 0, locals := 94 })).room s m ([.ref (ad_md 0), .long x1, .int x3] : List Value).toArray below meth c H locs 0 0 Q (F0 m 82 ls []) := by
    intro n
    induction n with
    | zero =>
      intro md y1 y3 y5 H locs ls hf hP hD hS hl
      rw [f_Model_say_82] at hf; cases hf
    | succ n ih =>
      intro md y1 y3 y5 H locs ls hf hP hD hS hl
      rw [f_Model_say_82] at hf
      refine lv_iload hx hb d_Model_say_82 (lv_at hl 3 rfl) ?_
      refine lv_iload_n hx hb d_Model_say_84 rfl (lv_at hl 2 rfl) ?_
      refine lv_icmp_ge (tgt := 117) hx hb d_Model_say_85 (by decide) (fun hc8 => ?_) (fun hc8 => ?_)
      · have hf := hf_t hf hc8
        refine lv_aload_n hx hb d_Model_say_117 rfl (lv_at hl 0 rfl) ?_
        refine va_get (D := (dC, dI)) (ci := 6) (v := .ref (ad_md 2)) (C := "HazardTablesModel") (T := F_Model) (N := 30) hx hb hts hin_Model hown hK hP 0 rfl rfl 6 (by decide) fl_17 (fun _ h9 => h9) rfl d_Model_say_118 ?_
        refine lv_aload_n hx hb d_Model_say_121 rfl (lv_at hl 0 rfl) ?_
        refine lv_iconst (v := (-1 : Int32)) hx hb d_Model_say_122 (by decide) ?_
        obtain ⟨u9, hu9, hf⟩ := Option.bind_eq_some_iff.mp hf
        refine cl_i (wc := (uw_Model ad_md cA_md md)) (wr := []) (tysC := [(cA_md 1, .int), (cA_md 2, .int), (cA_md 3, .int), (cA_md 4, .int), (cA_md 5, .int), (cA_md 6, .int), (cA_md 7, .int), (cA_md 8, .int), (cA_md 9, .boolean), (cA_md 10, .int), (cA_md 11, .int), (cA_md 12, .int), (cA_md 13, .int)]) (wu := fun (u : SModel) => (uw_Model ad_md cA_md u)) (wn := fun (u : SModel) => (uw_Model ad_md cA_md u)) [0, 1, 2, 3, 4, 5, 6, 7, 8, 9, 10, 11, 12, 13] [] [0, 1, 2, 3, 4, 5, 6, 7, 8, 9, 10, 11, 12, 13] [0, 1, 2, 3, 4, 5, 6, 7, 8, 9, 10, 11, 12] hP hD hS hA hK rfl rfl (by decide +kernel) (by decide +kernel) (by decide +kernel) rfl (fun _ => rfl) (by decide +kernel) (fun hPc hKc hDc => (va_runV (As := [.int (-1 : Int32)]) (rest := [.ref (ad_md 2)]) ⟨hx, hb, hml, hown, hts⟩ (k_Model_following l dC dI ad_md cA_md H.size md (-1 : Int32) u9 hu9) (cwV 1 hts (gV wd_922 wd_924 wd_35 wd_49 wd_925) rfl rfl rfl (by decide +kernel) ⟨Nat.le_of_ble_eq_true rfl, Nat.le_of_ble_eq_true rfl⟩) (cl_preV hPc hKc hDc hN (ci := 6) 0 rfl rfl) rfl rfl hl.1 rfl (lv_room (Nat.le_of_ble_eq_true rfl)) d_Model_say_123 ⟨Nat.le_of_ble_eq_true rfl, Nat.le_of_ble_eq_true rfl⟩)) (fun r u H locs hw hP hD hS => ?_)
        obtain ⟨hw1, hw2⟩ := hw
        have hw1 := hw1.symm
        have hw2 := hw2.symm
        subst hw1
        subst hw2
        have hP : va_P (dC, dI) vwCl (uw_Model ad_md cA_md u9.2) H := hP
        have hD : va_D A (uw_Model ad_md cA_md u9.2) := hD
        refine lv_bipush (v := (43 : Int32)) hx hb d_Model_say_126 (by decide) ?_
        refine lv_imul hx hb d_Model_say_128 ?_
        obtain ⟨hi10, hf⟩ := hf_g hf
        refine va_iald hx hb hK hP 2 1 rfl rfl hi10 d_Model_say_129 ?_
        exact ret (u9.2.2.2.2.1.2.2 (u9.1 * (43 : Int32)).toNatClampNeg) u9.2 H locs ls 130 d_Model_say_130 (hf_e hf) hP hD hS
      · have hf := hf_f hf hc8
        refine lv_aload_n hx hb d_Model_say_88 rfl (lv_at hl 0 rfl) ?_
        refine va_get (D := (dC, dI)) (ci := 6) (v := .ref (ad_md 12)) (C := "HazardTablesModel") (T := F_Model) (N := 30) hx hb hts hin_Model hown hK hP 0 rfl rfl 28 (by decide) fl_58 (fun _ h9 => h9) rfl d_Model_say_89 ?_
        refine lv_iload hx hb d_Model_say_92 (lv_at hl 3 rfl) ?_
        refine lv_lload_n hx hb d_Model_say_94 rfl (lv_at hl 1 rfl) ?_
        refine lv_bipush (v := (8 : Int32)) hx hb d_Model_say_95 (by decide) ?_
        refine lv_iload_n hx hb d_Model_say_97 rfl (lv_at hl 2 rfl) ?_
        refine lv_iconst (v := (1 : Int32)) hx hb d_Model_say_98 (by decide) ?_
        refine lv_isub hx hb d_Model_say_99 ?_
        refine lv_iload hx hb d_Model_say_100 (lv_at hl 3 rfl) ?_
        refine lv_isub hx hb d_Model_say_102 ?_
        refine lv_imul hx hb d_Model_say_103 ?_
        refine lv_lshr (v := y1 >>> (((8 : Int32) * ((y3 - (1 : Int32)) - y5)).toInt64 &&& 63)) hx hb d_Model_say_104 rfl ?_
        refine lv_l2i (v := (y1 >>> (((8 : Int32) * ((y3 - (1 : Int32)) - y5)).toInt64 &&& 63)).toInt32) hx hb d_Model_say_105 rfl ?_
        refine lv_sipush (v := (255 : Int32)) hx hb d_Model_say_106 (by decide) ?_
        refine lv_iand hx hb d_Model_say_109 ?_
        obtain ⟨hi11, hf⟩ := hf_g hf
        refine va_iast hx hb hK hP hD hS 12 11 rfl rfl hi11 d_Model_say_110 (fun H locs hP hD hS => ?_)
        have hP : va_P (dC, dI) vwCl (uw_Model ad_md cA_md (md.1, md.2.1, md.2.2.1, md.2.2.2.1, md.2.2.2.2.1, md.2.2.2.2.2.1, md.2.2.2.2.2.2.1, md.2.2.2.2.2.2.2.1, (md.2.2.2.2.2.2.2.2.1, upd md.2.2.2.2.2.2.2.2.2.1 y5.toNatClampNeg (((y1 >>> (((8 : Int32) * ((y3 - (1 : Int32)) - y5)).toInt64 &&& 63)).toInt32) &&& (255 : Int32)), md.2.2.2.2.2.2.2.2.2.2))) H := hP
        have hD : va_D A (uw_Model ad_md cA_md (md.1, md.2.1, md.2.2.1, md.2.2.2.1, md.2.2.2.2.1, md.2.2.2.2.2.1, md.2.2.2.2.2.2.1, md.2.2.2.2.2.2.2.1, (md.2.2.2.2.2.2.2.2.1, upd md.2.2.2.2.2.2.2.2.2.1 y5.toNatClampNeg (((y1 >>> (((8 : Int32) * ((y3 - (1 : Int32)) - y5)).toInt64 &&& 63)).toInt32) &&& (255 : Int32)), md.2.2.2.2.2.2.2.2.2.2))) := hD
        refine lv_iinc (v := y5 + (1 : Int32)) (lv' := [(5, .int (y5 + (1 : Int32))), (0, .ref (ad_md 0)), (1, .long y1), (3, .int y3)]) hx hb d_Model_say_111 hl (k := 3) rfl rfl (by decide) rfl (fun ls hl => ?_)
        refine lv_goto (tgt := 82) hx hb d_Model_say_114 (by decide) ?_
        exact ih (md.1, md.2.1, md.2.2.1, md.2.2.2.1, md.2.2.2.2.1, md.2.2.2.2.2.1, md.2.2.2.2.2.2.1, md.2.2.2.2.2.2.2.1, (md.2.2.2.2.2.2.2.2.1, upd md.2.2.2.2.2.2.2.2.2.1 y5.toNatClampNeg (((y1 >>> (((8 : Int32) * ((y3 - (1 : Int32)) - y5)).toInt64 &&& 63)).toInt32) &&& (255 : Int32)), md.2.2.2.2.2.2.2.2.2.2)) y1 y3 (y5 + (1 : Int32)) H locs ls hf hP hD hS (lv_sub hl [1, 2, 3, 0] rfl)
  have w_65 : ∀ (md : SModel) (y1 : Int64) (y3 : Int32) (z1 : Bool) (z2 : Bool) (H : Heap) (locs : List Loc) (ls : Array Slot), f_Model_say_65 md y1 y3 z1 z2 = some res → va_P (dC, dI) vwCl (uw_Model ad_md cA_md md) H → va_D A (uw_Model ad_md cA_md md) → va_S A s.heap H locs → lv_has ls 6 [(0, .ref (ad_md 0)), (1, .long y1), (3, .int y3)] → W p l e (headSpec w_Model_say ({ frames := 4, cells := 0, slots := 0, locals := 94 })).room s m ([.ref (ad_md 0), .long x1, .int x3] : List Value).toArray below meth c H locs 0 0 Q (F0 m 65 ls [.int (bI z2), .int (bI z1), .ref (ad_md 0)]) := by
    intro md y1 y3 z1 z2 H locs ls hf hP hD hS hl
    rw [f_Model_say_65] at hf
    refine lv_iconst (v := (1 : Int32)) hx hb d_Model_say_65 (by decide) ?_
    obtain ⟨u6, hu6, hf⟩ := Option.bind_eq_some_iff.mp hf
    refine cl_i (wc := (uw_Model ad_md cA_md md)) (wr := []) (tysC := [(cA_md 1, .int), (cA_md 2, .int), (cA_md 3, .int), (cA_md 4, .int), (cA_md 5, .int), (cA_md 6, .int), (cA_md 7, .int), (cA_md 8, .int), (cA_md 9, .boolean), (cA_md 10, .int), (cA_md 11, .int), (cA_md 12, .int), (cA_md 13, .int)]) (wu := fun (u : SModel) => (uw_Model ad_md cA_md u)) (wn := fun (u : SModel) => (uw_Model ad_md cA_md u)) [0, 1, 2, 3, 4, 5, 6, 7, 8, 9, 10, 11, 12, 13] [] [0, 1, 2, 3, 4, 5, 6, 7, 8, 9, 10, 11, 12, 13] [0, 1, 2, 3, 4, 5, 6, 7, 8, 9, 10, 11, 12] hP hD hS hA hK rfl rfl (by decide +kernel) (by decide +kernel) (by decide +kernel) rfl (fun _ => rfl) (by decide +kernel) (fun hPc hKc hDc => (va_runV (As := [.int (bI z1), .int (bI z2), .int (1 : Int32)]) (rest := []) ⟨hx, hb, hml, hown, hts⟩ (k_Model_goes l dC dI ad_md cA_md H.size md z1 z2 true u6 hu6) (cwV 3 hts (gV wd_850 wd_852 wd_22 wd_49 wd_853) rfl rfl rfl (by decide +kernel) ⟨Nat.le_of_ble_eq_true rfl, Nat.le_of_ble_eq_true rfl⟩) (cl_preV hPc hKc hDc hN (ci := 6) 0 rfl rfl) rfl rfl hl.1 rfl (lv_room (Nat.le_of_ble_eq_true rfl)) d_Model_say_66 ⟨Nat.le_of_ble_eq_true rfl, Nat.le_of_ble_eq_true rfl⟩)) (fun r u H locs hw hP hD hS => ?_)
    obtain ⟨hw1, hw2⟩ := hw
    have hw1 := hw1.symm
    have hw2 := hw2.symm
    subst hw1
    subst hw2
    have hP : va_P (dC, dI) vwCl (uw_Model ad_md cA_md u6.2) H := hP
    have hD : va_D A (uw_Model ad_md cA_md u6.2) := hD
    refine lv_if_ne (tgt := 74) hx hb d_Model_say_69 (by decide) (fun hc7 => ?_) (fun hc7 => ?_)
    · have hf := hf_f hf hc7
      refine lv_aload_n hx hb d_Model_say_74 rfl (lv_at hl 0 rfl) ?_
      refine lv_iload_n hx hb d_Model_say_75 rfl (lv_at hl 2 rfl) ?_
      refine va_put (D := (dC, dI)) (ci := 6) (v := .int y3) (ty := .int) (C := "HazardTablesModel") (T := F_Model) (N := 30) hx hb hts hin_Model t_Model t_Model_ok n_Model hown hK hP hD hS 0 rfl rfl 27 (by decide) fl_134 (fun _ h9 => h9) rfl (by decide +kernel) rfl rfl (Nat.le_of_ble_eq_true rfl) d_Model_say_76 (fun H locs hP hD hS => ?_)
      have hP : va_P (dC, dI) vwCl (uw_Model ad_md cA_md (u6.2.1, u6.2.2.1, u6.2.2.2.1, u6.2.2.2.2.1, u6.2.2.2.2.2.1, u6.2.2.2.2.2.2.1, u6.2.2.2.2.2.2.2.1, u6.2.2.2.2.2.2.2.2.1, (y3, u6.2.2.2.2.2.2.2.2.2.2.1, u6.2.2.2.2.2.2.2.2.2.2.2))) H := hP
      have hD : va_D A (uw_Model ad_md cA_md (u6.2.1, u6.2.2.1, u6.2.2.2.1, u6.2.2.2.2.1, u6.2.2.2.2.2.1, u6.2.2.2.2.2.2.1, u6.2.2.2.2.2.2.2.1, u6.2.2.2.2.2.2.2.2.1, (y3, u6.2.2.2.2.2.2.2.2.2.2.1, u6.2.2.2.2.2.2.2.2.2.2.2))) := hD
      refine lv_iconst (v := (0 : Int32)) hx hb d_Model_say_79 (by decide) ?_
      refine lv_istore (lv' := [(5, .int (0 : Int32)), (0, .ref (ad_md 0)), (1, .long y1), (3, .int y3)]) hx hb d_Model_say_80 hl (by decide) rfl (fun ls hl => ?_)
      exact w_82 4096 (u6.2.1, u6.2.2.1, u6.2.2.2.1, u6.2.2.2.2.1, u6.2.2.2.2.2.1, u6.2.2.2.2.2.2.1, u6.2.2.2.2.2.2.2.1, u6.2.2.2.2.2.2.2.2.1, (y3, u6.2.2.2.2.2.2.2.2.2.2.1, u6.2.2.2.2.2.2.2.2.2.2.2)) y1 y3 (0 : Int32) H locs ls hf hP hD hS (lv_sub hl [1, 2, 3, 0] rfl)
    · have hf := hf_t hf hc7
      refine lv_iconst (v := (0 : Int32)) hx hb d_Model_say_72 (by decide) ?_
      exact ret (0 : Int32) u6.2 H locs ls 73 d_Model_say_73 (hf_e hf) hP hD hS
  have w_50 : ∀ (md : SModel) (y1 : Int64) (y3 : Int32) (y4 : Bool) (H : Heap) (locs : List Loc) (ls : Array Slot), f_Model_say_50 md y1 y3 y4 = some res → va_P (dC, dI) vwCl (uw_Model ad_md cA_md md) H → va_D A (uw_Model ad_md cA_md md) → va_S A s.heap H locs → lv_has ls 6 [(0, .ref (ad_md 0)), (1, .long y1), (3, .int y3), (4, .int (bI y4))] → W p l e (headSpec w_Model_say ({ frames := 4, cells := 0, slots := 0, locals := 94 })).room s m ([.ref (ad_md 0), .long x1, .int x3] : List Value).toArray below meth c H locs 0 0 Q (F0 m 50 ls []) := by
    intro md y1 y3 y4 H locs ls hf hP hD hS hl
    rw [f_Model_say_50] at hf
    refine lv_aload_n hx hb d_Model_say_50 rfl (lv_at hl 0 rfl) ?_
    refine lv_iload hx hb d_Model_say_51 (lv_at hl 3 rfl) ?_
    refine lv_aload_n hx hb d_Model_say_53 rfl (lv_at hl 0 rfl) ?_
    refine va_get (D := (dC, dI)) (ci := 6) (v := .int md.2.2.2.1.1) (C := "HazardTablesModel") (T := F_Model) (N := 30) hx hb hts hin_Model hown hK hP 0 rfl rfl 4 (by decide) fl_128 (fun _ h9 => h9) rfl d_Model_say_54 ?_
    refine lv_if_le (tgt := 64) hx hb d_Model_say_57 (by decide) (fun hc5 => ?_) (fun hc5 => ?_)
    · have hf := hf_t hf hc5
      refine lv_iconst (v := (0 : Int32)) hx hb d_Model_say_64 (by decide) ?_
      exact w_65 md y1 y3 y4 false H locs ls hf hP hD hS (lv_sub hl [0, 1, 2] rfl)
    · have hf := hf_f hf hc5
      refine lv_iconst (v := (1 : Int32)) hx hb d_Model_say_60 (by decide) ?_
      refine lv_goto (tgt := 65) hx hb d_Model_say_61 (by decide) ?_
      exact w_65 md y1 y3 y4 true H locs ls hf hP hD hS (lv_sub hl [0, 1, 2] rfl)
  have w_12 : ∀ (n : Nat) (md : SModel) (y1 : Int64) (y3 : Int32) (y4 : Bool) (y5 : Int32) (H : Heap) (locs : List Loc) (ls : Array Slot), f_Model_say_12 n md y1 y3 y4 y5 = some res → va_P (dC, dI) vwCl (uw_Model ad_md cA_md md) H → va_D A (uw_Model ad_md cA_md md) → va_S A s.heap H locs → lv_has ls 6 [(0, .ref (ad_md 0)), (1, .long y1), (3, .int y3), (4, .int (bI y4)), (5, .int y5)] → W p l e (headSpec w_Model_say ({ frames := 4, cells := 0, slots := 0, locals := 94 })).room s m ([.ref (ad_md 0), .long x1, .int x3] : List Value).toArray below meth c H locs 0 0 Q (F0 m 12 ls []) := by
    intro n
    induction n with
    | zero =>
      intro md y1 y3 y4 y5 H locs ls hf hP hD hS hl
      rw [f_Model_say_12] at hf; cases hf
    | succ n ih =>
      intro md y1 y3 y4 y5 H locs ls hf hP hD hS hl
      rw [f_Model_say_12] at hf
      refine lv_iload hx hb d_Model_say_12 (lv_at hl 4 rfl) ?_
      refine lv_iload_n hx hb d_Model_say_14 rfl (lv_at hl 2 rfl) ?_
      refine lv_icmp_ge (tgt := 50) hx hb d_Model_say_15 (by decide) (fun hc2 => ?_) (fun hc2 => ?_)
      · have hf := hf_t hf hc2
        exact w_50 md y1 y3 y4 H locs ls hf hP hD hS (lv_sub hl [0, 1, 2, 3] rfl)
      · have hf := hf_f hf hc2
        refine lv_iload hx hb d_Model_say_18 (lv_at hl 3 rfl) ?_
        refine lv_if_eq (tgt := 50) hx hb d_Model_say_20 (by decide) (fun hc3 => ?_) (fun hc3 => ?_)
        · have hf := hf_t hf hc3
          exact w_50 md y1 y3 y4 H locs ls hf hP hD hS (lv_sub hl [0, 1, 2, 3] rfl)
        · have hf := hf_f hf hc3
          refine lv_lload_n hx hb d_Model_say_23 rfl (lv_at hl 1 rfl) ?_
          refine lv_bipush (v := (8 : Int32)) hx hb d_Model_say_24 (by decide) ?_
          refine lv_iload hx hb d_Model_say_26 (lv_at hl 4 rfl) ?_
          refine lv_imul hx hb d_Model_say_28 ?_
          refine lv_lshr (v := y1 >>> (((8 : Int32) * y5).toInt64 &&& 63)) hx hb d_Model_say_29 rfl ?_
          refine lv_l2i (v := (y1 >>> (((8 : Int32) * y5).toInt64 &&& 63)).toInt32) hx hb d_Model_say_30 rfl ?_
          refine lv_sipush (v := (255 : Int32)) hx hb d_Model_say_31 (by decide) ?_
          refine lv_iand hx hb d_Model_say_34 ?_
          refine lv_bipush (v := (97 : Int32)) hx hb d_Model_say_35 (by decide) ?_
          refine lv_bipush (v := (122 : Int32)) hx hb d_Model_say_37 (by decide) ?_
          obtain ⟨u4, hu4, hf⟩ := Option.bind_eq_some_iff.mp hf
          refine cl_i (wc := []) (wr := (uw_Model ad_md cA_md md)) (tysC := []) (wu := fun (u : Unit) => []) (wn := fun (u : Unit) => (uw_Model ad_md cA_md md)) [] [0, 1, 2, 3, 4, 5, 6, 7, 8, 9, 10, 11, 12, 13] [0, 1, 2, 3, 4, 5, 6, 7, 8, 9, 10, 11, 12, 13] [] hP hD hS hA hK rfl rfl (by decide +kernel) (by decide +kernel) (by decide +kernel) rfl (fun _ => rfl) (by decide +kernel) (fun hPc hKc hDc => (va_runS (As := [.int (((y1 >>> (((8 : Int32) * y5).toInt64 &&& 63)).toInt32) &&& (255 : Int32)), .int (97 : Int32), .int (122 : Int32)]) (rest := []) ⟨hx, hb, hml, hown, hts⟩ (k_Model_within l dC dI  H.size (((y1 >>> (((8 : Int32) * y5).toInt64 &&& 63)).toInt32) &&& (255 : Int32)) (97 : Int32) (122 : Int32) u4 hu4) (cwS 3 hts (gS wd_847 wd_848 wd_49 wd_849) rfl rfl rfl (by decide +kernel) ⟨Nat.le_of_ble_eq_true rfl, Nat.le_of_ble_eq_true rfl⟩) (cl_preS hPc hKc hDc hN) rfl rfl hl.1 rfl (lv_room (Nat.le_of_ble_eq_true rfl)) d_Model_say_39 ⟨Nat.le_of_ble_eq_true rfl, Nat.le_of_ble_eq_true rfl⟩)) (fun r u H locs hw hP hD hS => ?_)
          have hw := hw.symm
          subst hw
          have hP : va_P (dC, dI) vwCl (uw_Model ad_md cA_md md) H := hP
          have hD : va_D A (uw_Model ad_md cA_md md) := hD
          refine lv_istore (lv' := [(4, .int (bI u4)), (0, .ref (ad_md 0)), (1, .long y1), (3, .int y3), (5, .int y5)]) hx hb d_Model_say_42 hl (by decide) rfl (fun ls hl => ?_)
          refine lv_iinc (v := y5 + (1 : Int32)) (lv' := [(5, .int (y5 + (1 : Int32))), (4, .int (bI u4)), (0, .ref (ad_md 0)), (1, .long y1), (3, .int y3)]) hx hb d_Model_say_44 hl (k := 4) rfl rfl (by decide) rfl (fun ls hl => ?_)
          refine lv_goto (tgt := 12) hx hb d_Model_say_47 (by decide) ?_
          exact ih md y1 y3 u4 (y5 + (1 : Int32)) H locs ls hf hP hD hS (lv_sub hl [2, 3, 4, 1, 0] rfl)
  have hl := lv_entry ([.ref (ad_md 0), .long x1, .int x3]) (n := 6) (Nat.le_of_ble_eq_true rfl)
  rw [lg_entry_eq]
  generalize (lg_sl ([.ref (ad_md 0), .long x1, .int x3]) ++ List.replicate (6 - (lg_sl ([.ref (ad_md 0), .long x1, .int x3])).length) Slot.unset).toArray = ls at hl ⊢
  have hl : lv_has ls 6 [(0, .ref (ad_md 0)), (1, .long x1), (3, .int x3)] := hl
  have hf := hf
  rw [f_Model_say] at hf
  obtain ⟨H, hH⟩ : ∃ H : Heap, H = s.heap := ⟨_, rfl⟩
  obtain ⟨locs, hlocs⟩ : ∃ L : List Loc, L = [] := ⟨_, rfl⟩
  have hP : va_P (dC, dI) vwCl (uw_Model ad_md cA_md md) H := by rw [hH]; exact hP
  have hS : va_S A s.heap H locs := by rw [hH, hlocs]; exact hS
  show W p l e (headSpec w_Model_say ({ frames := 4, cells := 0, slots := 0, locals := 94 })).room s m ([.ref (ad_md 0), .long x1, .int x3] : List Value).toArray below meth c s.heap [] 0 0 Q (F0 m 0 ls [])
  suffices hgo : W p l e (headSpec w_Model_say ({ frames := 4, cells := 0, slots := 0, locals := 94 })).room s m ([.ref (ad_md 0), .long x1, .int x3] : List Value).toArray below meth c H locs 0 0 Q (F0 m 0 ls []) by rw [hH, hlocs] at hgo; exact hgo
  clear hH hlocs
  refine lv_iload_n hx hb d_Model_say_0 rfl (lv_at hl 2 rfl) ?_
  refine lv_iconst (v := (1 : Int32)) hx hb d_Model_say_1 (by decide) ?_
  refine lv_bipush (v := (8 : Int32)) hx hb d_Model_say_2 (by decide) ?_
  obtain ⟨u1, hu1, hf⟩ := Option.bind_eq_some_iff.mp hf
  refine cl_i (wc := []) (wr := (uw_Model ad_md cA_md md)) (tysC := []) (wu := fun (u : Unit) => []) (wn := fun (u : Unit) => (uw_Model ad_md cA_md md)) [] [0, 1, 2, 3, 4, 5, 6, 7, 8, 9, 10, 11, 12, 13] [0, 1, 2, 3, 4, 5, 6, 7, 8, 9, 10, 11, 12, 13] [] hP hD hS hA hK rfl rfl (by decide +kernel) (by decide +kernel) (by decide +kernel) rfl (fun _ => rfl) (by decide +kernel) (fun hPc hKc hDc => (va_runS (As := [.int x3, .int (1 : Int32), .int (8 : Int32)]) (rest := []) ⟨hx, hb, hml, hown, hts⟩ (k_Model_within l dC dI  H.size x3 (1 : Int32) (8 : Int32) u1 hu1) (cwS 3 hts (gS wd_847 wd_848 wd_49 wd_849) rfl rfl rfl (by decide +kernel) ⟨Nat.le_of_ble_eq_true rfl, Nat.le_of_ble_eq_true rfl⟩) (cl_preS hPc hKc hDc hN) rfl rfl hl.1 rfl (lv_room (Nat.le_of_ble_eq_true rfl)) d_Model_say_4 ⟨Nat.le_of_ble_eq_true rfl, Nat.le_of_ble_eq_true rfl⟩)) (fun r u H locs hw hP hD hS => ?_)
  have hw := hw.symm
  subst hw
  have hP : va_P (dC, dI) vwCl (uw_Model ad_md cA_md md) H := hP
  have hD : va_D A (uw_Model ad_md cA_md md) := hD
  refine lv_istore (lv' := [(4, .int (bI u1)), (0, .ref (ad_md 0)), (1, .long x1), (3, .int x3)]) hx hb d_Model_say_7 hl (by decide) rfl (fun ls hl => ?_)
  refine lv_iconst (v := (0 : Int32)) hx hb d_Model_say_9 (by decide) ?_
  refine lv_istore (lv' := [(5, .int (0 : Int32)), (4, .int (bI u1)), (0, .ref (ad_md 0)), (1, .long x1), (3, .int x3)]) hx hb d_Model_say_10 hl (by decide) rfl (fun ls hl => ?_)
  exact w_12 4096 md x1 x3 u1 (0 : Int32) H locs ls hf hP hD hS (lv_sub hl [2, 3, 4, 1, 0] rfl)
