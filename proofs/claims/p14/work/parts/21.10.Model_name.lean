noncomputable def f_Model_name_113  (md : SModel) (y1 : Int32) (y2 : Int32) (y3 : Int32) : Option (SModel) :=
  (if md.2.1.2.2.2 < 0 then
    (if inb y2 559 then
      (if inb (y1 + (9 : Int32)) 559 then
        (if inb (y1 + (9 : Int32)) 559 then
          (some (md.1, (md.2.1.1, md.2.1.2.1, md.2.1.2.2.1 + (1 : Int32), md.2.1.2.2.2), (md.2.2.1.1, md.2.2.1.2.1, upd (upd md.2.2.1.2.2 y2.toNatClampNeg y3) (y1 + (9 : Int32)).toNatClampNeg (((upd md.2.2.1.2.2 y2.toNatClampNeg y3) (y1 + (9 : Int32)).toNatClampNeg) + (1 : Int32))), md.2.2.2.1, md.2.2.2.2.1, md.2.2.2.2.2.1, md.2.2.2.2.2.2.1, md.2.2.2.2.2.2.2.1, md.2.2.2.2.2.2.2.2))
         else none)
       else none)
     else none)
   else
    (some md)
   )
noncomputable def f_Model_name_101  (md : SModel) (y1 : Int32) (y2 : Int32) (y3 : Int32) : Option (SModel) :=
  (if y3 = 0 then
    (Option.bind (f_Model_fail md md.2.1.2.2.1) fun u15 =>
      (f_Model_name_113 u15 y1 y2 y3)
     )
   else
    (f_Model_name_113 md y1 y2 y3)
   )
noncomputable def f_Model_name_26  : Nat → SModel → Int32 → Int32 → Int32 → Option (SModel)
  | 0, _, _, _, _ => none
  | n + 1, md, y1, y2, y3 =>
    (if 0 ≤ md.2.1.2.2.2 then
      (f_Model_name_101 md y1 y2 y3)
     else
      (Option.bind (f_Model_here md) fun u4 =>
        (if u4 = (34 : Int32) then
          (f_Model_name_101 md y1 y2 y3)
         else
          (Option.bind (f_Model_here md) fun u6 =>
            (Option.bind (f_Model_within u6 (97 : Int32) (122 : Int32)) fun u7 =>
              (if (bI u7) = 0 then
                (Option.bind (f_Model_fail md md.2.1.2.2.1) fun u9 =>
                  (some u9)
                 )
               else
                (if y3 = (10 : Int32) then
                  (Option.bind (f_Model_fail md md.2.1.2.2.1) fun u13 =>
                    (some u13)
                   )
                 else
                  (Option.bind (f_Model_here md) fun u11 =>
                    (if inb ((y2 + (1 : Int32)) + y3) 559 then
                      (f_Model_name_26 n (md.1, (md.2.1.1, md.2.1.2.1, md.2.1.2.2.1 + (1 : Int32), md.2.1.2.2.2), (md.2.2.1.1, md.2.2.1.2.1, upd md.2.2.1.2.2 ((y2 + (1 : Int32)) + y3).toNatClampNeg u11), md.2.2.2.1, md.2.2.2.2.1, md.2.2.2.2.2.1, md.2.2.2.2.2.2.1, md.2.2.2.2.2.2.2.1, md.2.2.2.2.2.2.2.2) y1 y2 (y3 + (1 : Int32)))
                     else none)
                   )
                 )
               )
             )
           )
         )
       )
     )
noncomputable def f_Model_name (md : SModel) (x1 : Int32) : Option (SModel) :=
  (Option.bind (f_Model_take md (34 : Int32)) fun u1 =>
    (if inb (x1 + (9 : Int32)) 559 then
      (f_Model_name_26 4096 u1 x1 ((x1 + (10 : Int32)) + ((11 : Int32) * (u1.2.2.1.2.2 (x1 + (9 : Int32)).toNatClampNeg))) (0 : Int32))
     else none)
   )
set_option maxHeartbeats 4000000 in
set_option maxRecDepth 100000 in
theorem k_Model_name (l : Launch) (dC : Nat → ClassId) (dI : Nat → Nat → Nat) (ad_md : Nat → Nat) (cA_md : Nat → ClassId) (sz : Nat) (md : SModel) (x1 : Int32) (res : SModel) (hf : f_Model_name md x1 = some res) : Met l y_Model_name w_Model_name ({ frames := 3, cells := 0, slots := 0, locals := 61 }) (cPc (dC, dI) (uw_Model ad_md cA_md md) [(cA_md 1, .int), (cA_md 2, .int), (cA_md 3, .int), (cA_md 4, .int), (cA_md 5, .int), (cA_md 6, .int), (cA_md 7, .int), (cA_md 8, .int), (cA_md 9, .boolean), (cA_md 10, .int), (cA_md 11, .int), (cA_md 12, .int), (cA_md 13, .int)] sz [.ref (ad_md 0), .int x1]) (va_Qv (fun (u : SModel) => u = res) (fun (u : SModel) (t : State) => va_P (dC, dI) vwCl (uw_Model ad_md cA_md u) t.heap ∧ va_K (dC, dI) vwCl [(cA_md 1, .int), (cA_md 2, .int), (cA_md 3, .int), (cA_md 4, .int), (cA_md 5, .int), (cA_md 6, .int), (cA_md 7, .int), (cA_md 8, .int), (cA_md 9, .boolean), (cA_md 10, .int), (cA_md 11, .int), (cA_md 12, .int), (cA_md 13, .int)] t ∧ va_D (va_A (uw_Model ad_md cA_md md) sz) (uw_Model ad_md cA_md u)) (va_A (uw_Model ad_md cA_md md) sz)) 0 0 (va_A (uw_Model ad_md cA_md md) sz) := by
  refine Met.ofW (cc := b_Model_name) (maxL := 4) (ret := none) (by decide) rfl ?_
  intro p e s m args below meth c s₁ B hml hv
  obtain ⟨rfl, hsz, hP, hK, hD0, hN⟩ := hv
  have hx := B.exec
  have hb := B.bytes
  have hr := B.returns
  have hts := atoms_spec (ws := w_Model_name) B.pre
  have hown : s.vm.findClass "HazardTablesModel" = some m.cls := findClass_of_methodNamed B.named
  have hlocks := B.notSynchronized
  subst hsz
  have hD := hD0.self (sz := s.heap.size)
  generalize hAe : va_A (uw_Model ad_md cA_md md) s.heap.size = A at hD ⊢
  have hA : ∀ q : Nat, s.heap.size ≤ q → A q := fun q h => by rw [← hAe]; exact Or.inr h
  have hS : va_S A s.heap s.heap [] := va_S.rf
  have hP : va_P (dC, dI) vwCl (uw_Model ad_md cA_md md) s.heap := hP
  have fl_20 := (hts _ (List.mem_cons_of_mem _ wd_757))
  have fl_78 := (hts _ (List.mem_cons_of_mem _ wd_758))
  have fl_85 := (hts _ (List.mem_cons_of_mem _ wd_759))
  have hin_Model : ∀ w ∈ u_ws "HazardTablesModel" F_Model 30, w ∈ w_Model_name := fun w h => List.mem_cons_of_mem _ (hinA_Model w h)
  have ret : ∀ (u : SModel) (H : Heap) (locs : List Loc) (ls : Array Slot) (pc : Nat), decode b_Model_name pc = .ok (.return_, 1) → u = res → va_P (dC, dI) vwCl (uw_Model ad_md cA_md u) H → va_D A (uw_Model ad_md cA_md u) → va_S A s.heap H locs → W p l e (headSpec w_Model_name ({ frames := 3, cells := 0, slots := 0, locals := 61 })).room s m ([.ref (ad_md 0), .int x1] : List Value).toArray below meth c H locs 0 0 (MQ below (va_Qv (fun (u : SModel) => u = res) (fun (u : SModel) (t : State) => va_P (dC, dI) vwCl (uw_Model ad_md cA_md u) t.heap ∧ va_K (dC, dI) vwCl [(cA_md 1, .int), (cA_md 2, .int), (cA_md 3, .int), (cA_md 4, .int), (cA_md 5, .int), (cA_md 6, .int), (cA_md 7, .int), (cA_md 8, .int), (cA_md 9, .boolean), (cA_md 10, .int), (cA_md 11, .int), (cA_md 12, .int), (cA_md 13, .int)] t ∧ va_D A (uw_Model ad_md cA_md u)) A) ([.ref (ad_md 0), .int x1] : List Value).toArray s 0 0 A) (F0 m pc ls []) := fun u H locs ls pc hd hp hP hD hS => W.vret hx hb hr (fun t ht hW => ⟨⟨u, rfl, hp, by rw [ht]; exact hP, va_K.moved hW.alike hK, hD⟩, hS.F ht⟩) hS.2.2 hd
  generalize (MQ below (va_Qv (fun (u : SModel) => u = res) (fun (u : SModel) (t : State) => va_P (dC, dI) vwCl (uw_Model ad_md cA_md u) t.heap ∧ va_K (dC, dI) vwCl [(cA_md 1, .int), (cA_md 2, .int), (cA_md 3, .int), (cA_md 4, .int), (cA_md 5, .int), (cA_md 6, .int), (cA_md 7, .int), (cA_md 8, .int), (cA_md 9, .boolean), (cA_md 10, .int), (cA_md 11, .int), (cA_md 12, .int), (cA_md 13, .int)] t ∧ va_D A (uw_Model ad_md cA_md u)) A) ([.ref (ad_md 0), .int x1] : List Value).toArray s 0 0 A) = Q at ret ⊢
  have w_113 : ∀ (md : SModel) (y1 : Int32) (y2 : Int32) (y3 : Int32) (H : Heap) (locs : List Loc) (ls : Array Slot), f_Model_name_113 md y1 y2 y3 = some res → va_P (dC, dI) vwCl (uw_Model ad_md cA_md md) H → va_D A (uw_Model ad_md cA_md md) → va_S A s.heap H locs → lv_has ls 4 [(0, .ref (ad_md 0)), (1, .int y1), (2, .int y2), (3, .int y3)] → W p l e (headSpec w_Model_name ({ frames := 3, cells := 0, slots := 0, locals := 61 })).room s m ([.ref (ad_md 0), .int x1] : List Value).toArray below meth c H locs 0 0 Q (F0 m 113 ls []) := by
    intro md y1 y2 y3 H locs ls hf hP hD hS hl
    rw [f_Model_name_113] at hf
    refine lv_aload_n hx hb d_Model_name_113 rfl (lv_at hl 0 rfl) ?_
    refine va_get (D := (dC, dI)) (ci := 6) (v := .int md.2.1.2.2.2) (C := "HazardTablesModel") (T := F_Model) (N := 30) hx hb hts hin_Model hown hK hP 0 rfl rfl 11 (by decide) fl_85 (fun _ h9 => h9) rfl d_Model_name_114 ?_
    refine lv_if_lt (tgt := 121) hx hb d_Model_name_117 (by decide) (fun hc16 => ?_) (fun hc16 => ?_)
    · have hf := hf_t hf hc16
      refine lv_aload_n hx hb d_Model_name_121 rfl (lv_at hl 0 rfl) ?_
      refine lv_dup hx hb d_Model_name_122 rfl ?_
      refine va_get (D := (dC, dI)) (ci := 6) (v := .int md.2.1.2.2.1) (C := "HazardTablesModel") (T := F_Model) (N := 30) hx hb hts hin_Model hown hK hP 0 rfl rfl 10 (by decide) fl_78 (fun _ h9 => h9) rfl d_Model_name_123 ?_
      refine lv_iconst (v := (1 : Int32)) hx hb d_Model_name_126 (by decide) ?_
      refine lv_iadd hx hb d_Model_name_127 ?_
      refine va_put (D := (dC, dI)) (ci := 6) (v := .int (md.2.1.2.2.1 + (1 : Int32))) (ty := .int) (C := "HazardTablesModel") (T := F_Model) (N := 30) hx hb hts hin_Model t_Model t_Model_ok n_Model hown hK hP hD hS 0 rfl rfl 10 (by decide) fl_78 (fun _ h9 => h9) rfl (by decide +kernel) rfl rfl (Nat.le_of_ble_eq_true rfl) d_Model_name_128 (fun H locs hP hD hS => ?_)
      have hP : va_P (dC, dI) vwCl (uw_Model ad_md cA_md (md.1, (md.2.1.1, md.2.1.2.1, md.2.1.2.2.1 + (1 : Int32), md.2.1.2.2.2), md.2.2.1, md.2.2.2.1, md.2.2.2.2.1, md.2.2.2.2.2.1, md.2.2.2.2.2.2.1, md.2.2.2.2.2.2.2.1, md.2.2.2.2.2.2.2.2)) H := hP
      have hD : va_D A (uw_Model ad_md cA_md (md.1, (md.2.1.1, md.2.1.2.1, md.2.1.2.2.1 + (1 : Int32), md.2.1.2.2.2), md.2.2.1, md.2.2.2.1, md.2.2.2.2.1, md.2.2.2.2.2.1, md.2.2.2.2.2.2.1, md.2.2.2.2.2.2.2.1, md.2.2.2.2.2.2.2.2)) := hD
      refine lv_aload_n hx hb d_Model_name_131 rfl (lv_at hl 0 rfl) ?_
      refine va_get (D := (dC, dI)) (ci := 6) (v := .ref (ad_md 3)) (C := "HazardTablesModel") (T := F_Model) (N := 30) hx hb hts hin_Model hown hK hP 0 rfl rfl 9 (by decide) fl_20 (fun _ h9 => h9) rfl d_Model_name_132 ?_
      refine lv_iload_n hx hb d_Model_name_135 rfl (lv_at hl 2 rfl) ?_
      refine lv_iload_n hx hb d_Model_name_136 rfl (lv_at hl 3 rfl) ?_
      obtain ⟨hi17, hf⟩ := hf_g hf
      refine va_iast hx hb hK hP hD hS 3 2 rfl rfl hi17 d_Model_name_137 (fun H locs hP hD hS => ?_)
      have hP : va_P (dC, dI) vwCl (uw_Model ad_md cA_md (md.1, (md.2.1.1, md.2.1.2.1, md.2.1.2.2.1 + (1 : Int32), md.2.1.2.2.2), (md.2.2.1.1, md.2.2.1.2.1, upd md.2.2.1.2.2 y2.toNatClampNeg y3), md.2.2.2.1, md.2.2.2.2.1, md.2.2.2.2.2.1, md.2.2.2.2.2.2.1, md.2.2.2.2.2.2.2.1, md.2.2.2.2.2.2.2.2)) H := hP
      have hD : va_D A (uw_Model ad_md cA_md (md.1, (md.2.1.1, md.2.1.2.1, md.2.1.2.2.1 + (1 : Int32), md.2.1.2.2.2), (md.2.2.1.1, md.2.2.1.2.1, upd md.2.2.1.2.2 y2.toNatClampNeg y3), md.2.2.2.1, md.2.2.2.2.1, md.2.2.2.2.2.1, md.2.2.2.2.2.2.1, md.2.2.2.2.2.2.2.1, md.2.2.2.2.2.2.2.2)) := hD
      refine lv_aload_n hx hb d_Model_name_138 rfl (lv_at hl 0 rfl) ?_
      refine va_get (D := (dC, dI)) (ci := 6) (v := .ref (ad_md 3)) (C := "HazardTablesModel") (T := F_Model) (N := 30) hx hb hts hin_Model hown hK hP 0 rfl rfl 9 (by decide) fl_20 (fun _ h9 => h9) rfl d_Model_name_139 ?_
      refine lv_iload_n hx hb d_Model_name_142 rfl (lv_at hl 1 rfl) ?_
      refine lv_bipush (v := (9 : Int32)) hx hb d_Model_name_143 (by decide) ?_
      refine lv_iadd hx hb d_Model_name_145 ?_
      refine lv_dup2_11 hx hb d_Model_name_146 rfl rfl ?_
      obtain ⟨hi18, hf⟩ := hf_g hf
      refine va_iald hx hb hK hP 3 2 rfl rfl hi18 d_Model_name_147 ?_
      refine lv_iconst (v := (1 : Int32)) hx hb d_Model_name_148 (by decide) ?_
      refine lv_iadd hx hb d_Model_name_149 ?_
      obtain ⟨hi19, hf⟩ := hf_g hf
      refine va_iast hx hb hK hP hD hS 3 2 rfl rfl hi19 d_Model_name_150 (fun H locs hP hD hS => ?_)
      have hP : va_P (dC, dI) vwCl (uw_Model ad_md cA_md (md.1, (md.2.1.1, md.2.1.2.1, md.2.1.2.2.1 + (1 : Int32), md.2.1.2.2.2), (md.2.2.1.1, md.2.2.1.2.1, upd (upd md.2.2.1.2.2 y2.toNatClampNeg y3) (y1 + (9 : Int32)).toNatClampNeg (((upd md.2.2.1.2.2 y2.toNatClampNeg y3) (y1 + (9 : Int32)).toNatClampNeg) + (1 : Int32))), md.2.2.2.1, md.2.2.2.2.1, md.2.2.2.2.2.1, md.2.2.2.2.2.2.1, md.2.2.2.2.2.2.2.1, md.2.2.2.2.2.2.2.2)) H := hP
      have hD : va_D A (uw_Model ad_md cA_md (md.1, (md.2.1.1, md.2.1.2.1, md.2.1.2.2.1 + (1 : Int32), md.2.1.2.2.2), (md.2.2.1.1, md.2.2.1.2.1, upd (upd md.2.2.1.2.2 y2.toNatClampNeg y3) (y1 + (9 : Int32)).toNatClampNeg (((upd md.2.2.1.2.2 y2.toNatClampNeg y3) (y1 + (9 : Int32)).toNatClampNeg) + (1 : Int32))), md.2.2.2.1, md.2.2.2.2.1, md.2.2.2.2.2.1, md.2.2.2.2.2.2.1, md.2.2.2.2.2.2.2.1, md.2.2.2.2.2.2.2.2)) := hD
      exact ret  (md.1, (md.2.1.1, md.2.1.2.1, md.2.1.2.2.1 + (1 : Int32), md.2.1.2.2.2), (md.2.2.1.1, md.2.2.1.2.1, upd (upd md.2.2.1.2.2 y2.toNatClampNeg y3) (y1 + (9 : Int32)).toNatClampNeg (((upd md.2.2.1.2.2 y2.toNatClampNeg y3) (y1 + (9 : Int32)).toNatClampNeg) + (1 : Int32))), md.2.2.2.1, md.2.2.2.2.1, md.2.2.2.2.2.1, md.2.2.2.2.2.2.1, md.2.2.2.2.2.2.2.1, md.2.2.2.2.2.2.2.2) H locs ls 151 d_Model_name_151 (Option.some.inj hf) hP hD hS
    · have hf := hf_f hf hc16
      exact ret  md H locs ls 120 d_Model_name_120 (Option.some.inj hf) hP hD hS
  have w_101 : ∀ (md : SModel) (y1 : Int32) (y2 : Int32) (y3 : Int32) (H : Heap) (locs : List Loc) (ls : Array Slot), f_Model_name_101 md y1 y2 y3 = some res → va_P (dC, dI) vwCl (uw_Model ad_md cA_md md) H → va_D A (uw_Model ad_md cA_md md) → va_S A s.heap H locs → lv_has ls 4 [(0, .ref (ad_md 0)), (1, .int y1), (2, .int y2), (3, .int y3)] → W p l e (headSpec w_Model_name ({ frames := 3, cells := 0, slots := 0, locals := 61 })).room s m ([.ref (ad_md 0), .int x1] : List Value).toArray below meth c H locs 0 0 Q (F0 m 101 ls []) := by
    intro md y1 y2 y3 H locs ls hf hP hD hS hl
    rw [f_Model_name_101] at hf
    refine lv_iload_n hx hb d_Model_name_101 rfl (lv_at hl 3 rfl) ?_
    refine lv_if_ne (tgt := 113) hx hb d_Model_name_102 (by decide) (fun hc14 => ?_) (fun hc14 => ?_)
    · have hf := hf_f hf hc14
      exact w_113 md y1 y2 y3 H locs ls hf hP hD hS (lv_sub hl [0, 1, 2, 3] rfl)
    · have hf := hf_t hf hc14
      refine lv_aload_n hx hb d_Model_name_105 rfl (lv_at hl 0 rfl) ?_
      refine lv_aload_n hx hb d_Model_name_106 rfl (lv_at hl 0 rfl) ?_
      refine va_get (D := (dC, dI)) (ci := 6) (v := .int md.2.1.2.2.1) (C := "HazardTablesModel") (T := F_Model) (N := 30) hx hb hts hin_Model hown hK hP 0 rfl rfl 10 (by decide) fl_78 (fun _ h9 => h9) rfl d_Model_name_107 ?_
      obtain ⟨u15, hu15, hf⟩ := Option.bind_eq_some_iff.mp hf
      refine cl_v (wc := (uw_Model ad_md cA_md md)) (wr := []) (tysC := [(cA_md 1, .int), (cA_md 2, .int), (cA_md 3, .int), (cA_md 4, .int), (cA_md 5, .int), (cA_md 6, .int), (cA_md 7, .int), (cA_md 8, .int), (cA_md 9, .boolean), (cA_md 10, .int), (cA_md 11, .int), (cA_md 12, .int), (cA_md 13, .int)]) (wu := fun (u : SModel) => (uw_Model ad_md cA_md u)) (wn := fun (u : SModel) => (uw_Model ad_md cA_md u)) [0, 1, 2, 3, 4, 5, 6, 7, 8, 9, 10, 11, 12, 13] [] [0, 1, 2, 3, 4, 5, 6, 7, 8, 9, 10, 11, 12, 13] [0, 1, 2, 3, 4, 5, 6, 7, 8, 9, 10, 11, 12] hP hD hS hA hK rfl rfl (by decide +kernel) (by decide +kernel) (by decide +kernel) rfl (fun _ => rfl) (by decide +kernel) (fun hPc hKc hDc => (va_runV (As := [.int md.2.1.2.2.1]) (rest := []) ⟨hx, hb, hml, hown, hts⟩ (k_Model_fail l dC dI ad_md cA_md H.size md md.2.1.2.2.1 u15 hu15) (cwV 1 hts (gV wd_870 wd_872 wd_26 wd_49 wd_873) rfl rfl rfl (by decide +kernel) ⟨Nat.le_of_ble_eq_true rfl, Nat.le_of_ble_eq_true rfl⟩) (cl_preV hPc hKc hDc hN (ci := 6) 0 rfl rfl) rfl rfl hl.1 rfl (lv_room (Nat.le_of_ble_eq_true rfl)) d_Model_name_110 ⟨Nat.le_of_ble_eq_true rfl, Nat.le_of_ble_eq_true rfl⟩)) (fun u H locs hw hP hD hS => ?_)
      have hw := hw.symm
      subst hw
      have hP : va_P (dC, dI) vwCl (uw_Model ad_md cA_md u15) H := hP
      have hD : va_D A (uw_Model ad_md cA_md u15) := hD
      exact w_113 u15 y1 y2 y3 H locs ls hf hP hD hS (lv_sub hl [0, 1, 2, 3] rfl)
  have w_26 : ∀ (n : Nat) (md : SModel) (y1 : Int32) (y2 : Int32) (y3 : Int32) (H : Heap) (locs : List Loc) (ls : Array Slot), f_Model_name_26 n md y1 y2 y3 = some res → va_P (dC, dI) vwCl (uw_Model ad_md cA_md md) H → va_D A (uw_Model ad_md cA_md md) → va_S A s.heap H locs → lv_has ls 4 [(0, .ref (ad_md 0)), (1, .int y1), (2, .int y2), (3, .int y3)] → W p l e (headSpec w_Model_name ({ frames := 3, cells := 0, slots := 0, locals := 61 })).room s m ([.ref (ad_md 0), .int x1] : List Value).toArray below meth c H locs 0 0 Q (F0 m 26 ls []) := by
    intro n
    induction n with
    | zero =>
      intro md y1 y2 y3 H locs ls hf hP hD hS hl
      rw [f_Model_name_26] at hf; cases hf
    | succ n ih =>
      intro md y1 y2 y3 H locs ls hf hP hD hS hl
      rw [f_Model_name_26] at hf
      refine lv_aload_n hx hb d_Model_name_26 rfl (lv_at hl 0 rfl) ?_
      refine va_get (D := (dC, dI)) (ci := 6) (v := .int md.2.1.2.2.2) (C := "HazardTablesModel") (T := F_Model) (N := 30) hx hb hts hin_Model hown hK hP 0 rfl rfl 11 (by decide) fl_85 (fun _ h9 => h9) rfl d_Model_name_27 ?_
      refine lv_if_ge (tgt := 101) hx hb d_Model_name_30 (by decide) (fun hc3 => ?_) (fun hc3 => ?_)
      · have hf := hf_t hf hc3
        exact w_101 md y1 y2 y3 H locs ls hf hP hD hS (lv_sub hl [0, 1, 2, 3] rfl)
      · have hf := hf_f hf hc3
        refine lv_aload_n hx hb d_Model_name_33 rfl (lv_at hl 0 rfl) ?_
        obtain ⟨u4, hu4, hf⟩ := Option.bind_eq_some_iff.mp hf
        refine cl_i (wc := (uw_Model ad_md cA_md md)) (wr := []) (tysC := [(cA_md 1, .int), (cA_md 2, .int), (cA_md 3, .int), (cA_md 4, .int), (cA_md 5, .int), (cA_md 6, .int), (cA_md 7, .int), (cA_md 8, .int), (cA_md 9, .boolean), (cA_md 10, .int), (cA_md 11, .int), (cA_md 12, .int), (cA_md 13, .int)]) (wu := fun (u : Unit) => (uw_Model ad_md cA_md md)) (wn := fun (u : Unit) => (uw_Model ad_md cA_md md)) [0, 1, 2, 3, 4, 5, 6, 7, 8, 9, 10, 11, 12, 13] [] [0, 1, 2, 3, 4, 5, 6, 7, 8, 9, 10, 11, 12, 13] [0, 1, 2, 3, 4, 5, 6, 7, 8, 9, 10, 11, 12] hP hD hS hA hK rfl rfl (by decide +kernel) (by decide +kernel) (by decide +kernel) rfl (fun _ => rfl) (by decide +kernel) (fun hPc hKc hDc => (va_runV (As := []) (rest := []) ⟨hx, hb, hml, hown, hts⟩ (k_Model_here l dC dI ad_md cA_md H.size md u4 hu4) (cwV 0 hts (gV wd_862 wd_864 wd_24 wd_49 wd_865) rfl rfl rfl (by decide +kernel) ⟨Nat.le_of_ble_eq_true rfl, Nat.le_of_ble_eq_true rfl⟩) (cl_preV hPc hKc hDc hN (ci := 6) 0 rfl rfl) rfl rfl hl.1 rfl (lv_room (Nat.le_of_ble_eq_true rfl)) d_Model_name_34 ⟨Nat.le_of_ble_eq_true rfl, Nat.le_of_ble_eq_true rfl⟩)) (fun r u H locs hw hP hD hS => ?_)
        have hw := hw.symm
        subst hw
        have hP : va_P (dC, dI) vwCl (uw_Model ad_md cA_md md) H := hP
        have hD : va_D A (uw_Model ad_md cA_md md) := hD
        refine lv_bipush (v := (34 : Int32)) hx hb d_Model_name_37 (by decide) ?_
        refine lv_icmp_eq (tgt := 101) hx hb d_Model_name_39 (by decide) (fun hc5 => ?_) (fun hc5 => ?_)
        · have hf := hf_t hf hc5
          exact w_101 md y1 y2 y3 H locs ls hf hP hD hS (lv_sub hl [0, 1, 2, 3] rfl)
        · have hf := hf_f hf hc5
          refine lv_aload_n hx hb d_Model_name_42 rfl (lv_at hl 0 rfl) ?_
          obtain ⟨u6, hu6, hf⟩ := Option.bind_eq_some_iff.mp hf
          refine cl_i (wc := (uw_Model ad_md cA_md md)) (wr := []) (tysC := [(cA_md 1, .int), (cA_md 2, .int), (cA_md 3, .int), (cA_md 4, .int), (cA_md 5, .int), (cA_md 6, .int), (cA_md 7, .int), (cA_md 8, .int), (cA_md 9, .boolean), (cA_md 10, .int), (cA_md 11, .int), (cA_md 12, .int), (cA_md 13, .int)]) (wu := fun (u : Unit) => (uw_Model ad_md cA_md md)) (wn := fun (u : Unit) => (uw_Model ad_md cA_md md)) [0, 1, 2, 3, 4, 5, 6, 7, 8, 9, 10, 11, 12, 13] [] [0, 1, 2, 3, 4, 5, 6, 7, 8, 9, 10, 11, 12, 13] [0, 1, 2, 3, 4, 5, 6, 7, 8, 9, 10, 11, 12] hP hD hS hA hK rfl rfl (by decide +kernel) (by decide +kernel) (by decide +kernel) rfl (fun _ => rfl) (by decide +kernel) (fun hPc hKc hDc => (va_runV (As := []) (rest := []) ⟨hx, hb, hml, hown, hts⟩ (k_Model_here l dC dI ad_md cA_md H.size md u6 hu6) (cwV 0 hts (gV wd_862 wd_864 wd_24 wd_49 wd_865) rfl rfl rfl (by decide +kernel) ⟨Nat.le_of_ble_eq_true rfl, Nat.le_of_ble_eq_true rfl⟩) (cl_preV hPc hKc hDc hN (ci := 6) 0 rfl rfl) rfl rfl hl.1 rfl (lv_room (Nat.le_of_ble_eq_true rfl)) d_Model_name_43 ⟨Nat.le_of_ble_eq_true rfl, Nat.le_of_ble_eq_true rfl⟩)) (fun r u H locs hw hP hD hS => ?_)
          have hw := hw.symm
          subst hw
          have hP : va_P (dC, dI) vwCl (uw_Model ad_md cA_md md) H := hP
          have hD : va_D A (uw_Model ad_md cA_md md) := hD
          refine lv_bipush (v := (97 : Int32)) hx hb d_Model_name_46 (by decide) ?_
          refine lv_bipush (v := (122 : Int32)) hx hb d_Model_name_48 (by decide) ?_
          obtain ⟨u7, hu7, hf⟩ := Option.bind_eq_some_iff.mp hf
          refine cl_i (wc := []) (wr := (uw_Model ad_md cA_md md)) (tysC := []) (wu := fun (u : Unit) => []) (wn := fun (u : Unit) => (uw_Model ad_md cA_md md)) [] [0, 1, 2, 3, 4, 5, 6, 7, 8, 9, 10, 11, 12, 13] [0, 1, 2, 3, 4, 5, 6, 7, 8, 9, 10, 11, 12, 13] [] hP hD hS hA hK rfl rfl (by decide +kernel) (by decide +kernel) (by decide +kernel) rfl (fun _ => rfl) (by decide +kernel) (fun hPc hKc hDc => (va_runS (As := [.int u6, .int (97 : Int32), .int (122 : Int32)]) (rest := []) ⟨hx, hb, hml, hown, hts⟩ (k_Model_within l dC dI  H.size u6 (97 : Int32) (122 : Int32) u7 hu7) (cwS 3 hts (gS wd_847 wd_848 wd_49 wd_849) rfl rfl rfl (by decide +kernel) ⟨Nat.le_of_ble_eq_true rfl, Nat.le_of_ble_eq_true rfl⟩) (cl_preS hPc hKc hDc hN) rfl rfl hl.1 rfl (lv_room (Nat.le_of_ble_eq_true rfl)) d_Model_name_50 ⟨Nat.le_of_ble_eq_true rfl, Nat.le_of_ble_eq_true rfl⟩)) (fun r u H locs hw hP hD hS => ?_)
          have hw := hw.symm
          subst hw
          have hP : va_P (dC, dI) vwCl (uw_Model ad_md cA_md md) H := hP
          have hD : va_D A (uw_Model ad_md cA_md md) := hD
          refine lv_if_eq (tgt := 62) hx hb d_Model_name_53 (by decide) (fun hc8 => ?_) (fun hc8 => ?_)
          · have hf := hf_t hf hc8
            refine lv_aload_n hx hb d_Model_name_62 rfl (lv_at hl 0 rfl) ?_
            refine lv_aload_n hx hb d_Model_name_63 rfl (lv_at hl 0 rfl) ?_
            refine va_get (D := (dC, dI)) (ci := 6) (v := .int md.2.1.2.2.1) (C := "HazardTablesModel") (T := F_Model) (N := 30) hx hb hts hin_Model hown hK hP 0 rfl rfl 10 (by decide) fl_78 (fun _ h9 => h9) rfl d_Model_name_64 ?_
            obtain ⟨u9, hu9, hf⟩ := Option.bind_eq_some_iff.mp hf
            refine cl_v (wc := (uw_Model ad_md cA_md md)) (wr := []) (tysC := [(cA_md 1, .int), (cA_md 2, .int), (cA_md 3, .int), (cA_md 4, .int), (cA_md 5, .int), (cA_md 6, .int), (cA_md 7, .int), (cA_md 8, .int), (cA_md 9, .boolean), (cA_md 10, .int), (cA_md 11, .int), (cA_md 12, .int), (cA_md 13, .int)]) (wu := fun (u : SModel) => (uw_Model ad_md cA_md u)) (wn := fun (u : SModel) => (uw_Model ad_md cA_md u)) [0, 1, 2, 3, 4, 5, 6, 7, 8, 9, 10, 11, 12, 13] [] [0, 1, 2, 3, 4, 5, 6, 7, 8, 9, 10, 11, 12, 13] [0, 1, 2, 3, 4, 5, 6, 7, 8, 9, 10, 11, 12] hP hD hS hA hK rfl rfl (by decide +kernel) (by decide +kernel) (by decide +kernel) rfl (fun _ => rfl) (by decide +kernel) (fun hPc hKc hDc => (va_runV (As := [.int md.2.1.2.2.1]) (rest := []) ⟨hx, hb, hml, hown, hts⟩ (k_Model_fail l dC dI ad_md cA_md H.size md md.2.1.2.2.1 u9 hu9) (cwV 1 hts (gV wd_870 wd_872 wd_26 wd_49 wd_873) rfl rfl rfl (by decide +kernel) ⟨Nat.le_of_ble_eq_true rfl, Nat.le_of_ble_eq_true rfl⟩) (cl_preV hPc hKc hDc hN (ci := 6) 0 rfl rfl) rfl rfl hl.1 rfl (lv_room (Nat.le_of_ble_eq_true rfl)) d_Model_name_67 ⟨Nat.le_of_ble_eq_true rfl, Nat.le_of_ble_eq_true rfl⟩)) (fun u H locs hw hP hD hS => ?_)
            have hw := hw.symm
            subst hw
            have hP : va_P (dC, dI) vwCl (uw_Model ad_md cA_md u9) H := hP
            have hD : va_D A (uw_Model ad_md cA_md u9) := hD
            exact ret  u9 H locs ls 70 d_Model_name_70 (Option.some.inj hf) hP hD hS
          · have hf := hf_f hf hc8
            refine lv_iload_n hx hb d_Model_name_56 rfl (lv_at hl 3 rfl) ?_
            refine lv_bipush (v := (10 : Int32)) hx hb d_Model_name_57 (by decide) ?_
            refine lv_icmp_ne (tgt := 71) hx hb d_Model_name_59 (by decide) (fun hc10 => ?_) (fun hc10 => ?_)
            · have hf := hf_f hf hc10
              refine lv_aload_n hx hb d_Model_name_71 rfl (lv_at hl 0 rfl) ?_
              refine va_get (D := (dC, dI)) (ci := 6) (v := .ref (ad_md 3)) (C := "HazardTablesModel") (T := F_Model) (N := 30) hx hb hts hin_Model hown hK hP 0 rfl rfl 9 (by decide) fl_20 (fun _ h9 => h9) rfl d_Model_name_72 ?_
              refine lv_iload_n hx hb d_Model_name_75 rfl (lv_at hl 2 rfl) ?_
              refine lv_iconst (v := (1 : Int32)) hx hb d_Model_name_76 (by decide) ?_
              refine lv_iadd hx hb d_Model_name_77 ?_
              refine lv_iload_n hx hb d_Model_name_78 rfl (lv_at hl 3 rfl) ?_
              refine lv_iadd hx hb d_Model_name_79 ?_
              refine lv_aload_n hx hb d_Model_name_80 rfl (lv_at hl 0 rfl) ?_
              obtain ⟨u11, hu11, hf⟩ := Option.bind_eq_some_iff.mp hf
              refine cl_i (wc := (uw_Model ad_md cA_md md)) (wr := []) (tysC := [(cA_md 1, .int), (cA_md 2, .int), (cA_md 3, .int), (cA_md 4, .int), (cA_md 5, .int), (cA_md 6, .int), (cA_md 7, .int), (cA_md 8, .int), (cA_md 9, .boolean), (cA_md 10, .int), (cA_md 11, .int), (cA_md 12, .int), (cA_md 13, .int)]) (wu := fun (u : Unit) => (uw_Model ad_md cA_md md)) (wn := fun (u : Unit) => (uw_Model ad_md cA_md md)) [0, 1, 2, 3, 4, 5, 6, 7, 8, 9, 10, 11, 12, 13] [] [0, 1, 2, 3, 4, 5, 6, 7, 8, 9, 10, 11, 12, 13] [0, 1, 2, 3, 4, 5, 6, 7, 8, 9, 10, 11, 12] hP hD hS hA hK rfl rfl (by decide +kernel) (by decide +kernel) (by decide +kernel) rfl (fun _ => rfl) (by decide +kernel) (fun hPc hKc hDc => (va_runV (As := []) (rest := [.int ((y2 + (1 : Int32)) + y3), .ref (ad_md 3)]) ⟨hx, hb, hml, hown, hts⟩ (k_Model_here l dC dI ad_md cA_md H.size md u11 hu11) (cwV 0 hts (gV wd_862 wd_864 wd_24 wd_49 wd_865) rfl rfl rfl (by decide +kernel) ⟨Nat.le_of_ble_eq_true rfl, Nat.le_of_ble_eq_true rfl⟩) (cl_preV hPc hKc hDc hN (ci := 6) 0 rfl rfl) rfl rfl hl.1 rfl (lv_room (Nat.le_of_ble_eq_true rfl)) d_Model_name_81 ⟨Nat.le_of_ble_eq_true rfl, Nat.le_of_ble_eq_true rfl⟩)) (fun r u H locs hw hP hD hS => ?_)
              have hw := hw.symm
              subst hw
              have hP : va_P (dC, dI) vwCl (uw_Model ad_md cA_md md) H := hP
              have hD : va_D A (uw_Model ad_md cA_md md) := hD
              obtain ⟨hi12, hf⟩ := hf_g hf
              refine va_iast hx hb hK hP hD hS 3 2 rfl rfl hi12 d_Model_name_84 (fun H locs hP hD hS => ?_)
              have hP : va_P (dC, dI) vwCl (uw_Model ad_md cA_md (md.1, md.2.1, (md.2.2.1.1, md.2.2.1.2.1, upd md.2.2.1.2.2 ((y2 + (1 : Int32)) + y3).toNatClampNeg u11), md.2.2.2.1, md.2.2.2.2.1, md.2.2.2.2.2.1, md.2.2.2.2.2.2.1, md.2.2.2.2.2.2.2.1, md.2.2.2.2.2.2.2.2)) H := hP
              have hD : va_D A (uw_Model ad_md cA_md (md.1, md.2.1, (md.2.2.1.1, md.2.2.1.2.1, upd md.2.2.1.2.2 ((y2 + (1 : Int32)) + y3).toNatClampNeg u11), md.2.2.2.1, md.2.2.2.2.1, md.2.2.2.2.2.1, md.2.2.2.2.2.2.1, md.2.2.2.2.2.2.2.1, md.2.2.2.2.2.2.2.2)) := hD
              refine lv_iinc (v := y3 + (1 : Int32)) (lv' := [(3, .int (y3 + (1 : Int32))), (0, .ref (ad_md 0)), (1, .int y1), (2, .int y2)]) hx hb d_Model_name_85 hl (k := 3) rfl rfl (by decide) rfl (fun ls hl => ?_)
              refine lv_aload_n hx hb d_Model_name_88 rfl (lv_at hl 1 rfl) ?_
              refine lv_dup hx hb d_Model_name_89 rfl ?_
              refine va_get (D := (dC, dI)) (ci := 6) (v := .int md.2.1.2.2.1) (C := "HazardTablesModel") (T := F_Model) (N := 30) hx hb hts hin_Model hown hK hP 0 rfl rfl 10 (by decide) fl_78 (fun _ h9 => h9) rfl d_Model_name_90 ?_
              refine lv_iconst (v := (1 : Int32)) hx hb d_Model_name_93 (by decide) ?_
              refine lv_iadd hx hb d_Model_name_94 ?_
              refine va_put (D := (dC, dI)) (ci := 6) (v := .int (md.2.1.2.2.1 + (1 : Int32))) (ty := .int) (C := "HazardTablesModel") (T := F_Model) (N := 30) hx hb hts hin_Model t_Model t_Model_ok n_Model hown hK hP hD hS 0 rfl rfl 10 (by decide) fl_78 (fun _ h9 => h9) rfl (by decide +kernel) rfl rfl (Nat.le_of_ble_eq_true rfl) d_Model_name_95 (fun H locs hP hD hS => ?_)
              have hP : va_P (dC, dI) vwCl (uw_Model ad_md cA_md (md.1, (md.2.1.1, md.2.1.2.1, md.2.1.2.2.1 + (1 : Int32), md.2.1.2.2.2), (md.2.2.1.1, md.2.2.1.2.1, upd md.2.2.1.2.2 ((y2 + (1 : Int32)) + y3).toNatClampNeg u11), md.2.2.2.1, md.2.2.2.2.1, md.2.2.2.2.2.1, md.2.2.2.2.2.2.1, md.2.2.2.2.2.2.2.1, md.2.2.2.2.2.2.2.2)) H := hP
              have hD : va_D A (uw_Model ad_md cA_md (md.1, (md.2.1.1, md.2.1.2.1, md.2.1.2.2.1 + (1 : Int32), md.2.1.2.2.2), (md.2.2.1.1, md.2.2.1.2.1, upd md.2.2.1.2.2 ((y2 + (1 : Int32)) + y3).toNatClampNeg u11), md.2.2.2.1, md.2.2.2.2.1, md.2.2.2.2.2.1, md.2.2.2.2.2.2.1, md.2.2.2.2.2.2.2.1, md.2.2.2.2.2.2.2.2)) := hD
              refine lv_goto (tgt := 26) hx hb d_Model_name_98 (by decide) ?_
              exact ih (md.1, (md.2.1.1, md.2.1.2.1, md.2.1.2.2.1 + (1 : Int32), md.2.1.2.2.2), (md.2.2.1.1, md.2.2.1.2.1, upd md.2.2.1.2.2 ((y2 + (1 : Int32)) + y3).toNatClampNeg u11), md.2.2.2.1, md.2.2.2.2.1, md.2.2.2.2.2.1, md.2.2.2.2.2.2.1, md.2.2.2.2.2.2.2.1, md.2.2.2.2.2.2.2.2) y1 y2 (y3 + (1 : Int32)) H locs ls hf hP hD hS (lv_sub hl [1, 2, 3, 0] rfl)
            · have hf := hf_t hf hc10
              refine lv_aload_n hx hb d_Model_name_62 rfl (lv_at hl 0 rfl) ?_
              refine lv_aload_n hx hb d_Model_name_63 rfl (lv_at hl 0 rfl) ?_
              refine va_get (D := (dC, dI)) (ci := 6) (v := .int md.2.1.2.2.1) (C := "HazardTablesModel") (T := F_Model) (N := 30) hx hb hts hin_Model hown hK hP 0 rfl rfl 10 (by decide) fl_78 (fun _ h9 => h9) rfl d_Model_name_64 ?_
              obtain ⟨u13, hu13, hf⟩ := Option.bind_eq_some_iff.mp hf
              refine cl_v (wc := (uw_Model ad_md cA_md md)) (wr := []) (tysC := [(cA_md 1, .int), (cA_md 2, .int), (cA_md 3, .int), (cA_md 4, .int), (cA_md 5, .int), (cA_md 6, .int), (cA_md 7, .int), (cA_md 8, .int), (cA_md 9, .boolean), (cA_md 10, .int), (cA_md 11, .int), (cA_md 12, .int), (cA_md 13, .int)]) (wu := fun (u : SModel) => (uw_Model ad_md cA_md u)) (wn := fun (u : SModel) => (uw_Model ad_md cA_md u)) [0, 1, 2, 3, 4, 5, 6, 7, 8, 9, 10, 11, 12, 13] [] [0, 1, 2, 3, 4, 5, 6, 7, 8, 9, 10, 11, 12, 13] [0, 1, 2, 3, 4, 5, 6, 7, 8, 9, 10, 11, 12] hP hD hS hA hK rfl rfl (by decide +kernel) (by decide +kernel) (by decide +kernel) rfl (fun _ => rfl) (by decide +kernel) (fun hPc hKc hDc => (va_runV (As := [.int md.2.1.2.2.1]) (rest := []) ⟨hx, hb, hml, hown, hts⟩ (k_Model_fail l dC dI ad_md cA_md H.size md md.2.1.2.2.1 u13 hu13) (cwV 1 hts (gV wd_870 wd_872 wd_26 wd_49 wd_873) rfl rfl rfl (by decide +kernel) ⟨Nat.le_of_ble_eq_true rfl, Nat.le_of_ble_eq_true rfl⟩) (cl_preV hPc hKc hDc hN (ci := 6) 0 rfl rfl) rfl rfl hl.1 rfl (lv_room (Nat.le_of_ble_eq_true rfl)) d_Model_name_67 ⟨Nat.le_of_ble_eq_true rfl, Nat.le_of_ble_eq_true rfl⟩)) (fun u H locs hw hP hD hS => ?_)
              have hw := hw.symm
              subst hw
              have hP : va_P (dC, dI) vwCl (uw_Model ad_md cA_md u13) H := hP
              have hD : va_D A (uw_Model ad_md cA_md u13) := hD
              exact ret  u13 H locs ls 70 d_Model_name_70 (Option.some.inj hf) hP hD hS
  have hl := lv_entry ([.ref (ad_md 0), .int x1]) (n := 4) (Nat.le_of_ble_eq_true rfl)
  rw [lg_entry_eq]
  generalize (lg_sl ([.ref (ad_md 0), .int x1]) ++ List.replicate (4 - (lg_sl ([.ref (ad_md 0), .int x1])).length) Slot.unset).toArray = ls at hl ⊢
  have hl : lv_has ls 4 [(0, .ref (ad_md 0)), (1, .int x1)] := hl
  have hf := hf
  rw [f_Model_name] at hf
  obtain ⟨H, hH⟩ : ∃ H : Heap, H = s.heap := ⟨_, rfl⟩
  obtain ⟨locs, hlocs⟩ : ∃ L : List Loc, L = [] := ⟨_, rfl⟩
  have hP : va_P (dC, dI) vwCl (uw_Model ad_md cA_md md) H := by rw [hH]; exact hP
  have hS : va_S A s.heap H locs := by rw [hH, hlocs]; exact hS
  show W p l e (headSpec w_Model_name ({ frames := 3, cells := 0, slots := 0, locals := 61 })).room s m ([.ref (ad_md 0), .int x1] : List Value).toArray below meth c s.heap [] 0 0 Q (F0 m 0 ls [])
  suffices hgo : W p l e (headSpec w_Model_name ({ frames := 3, cells := 0, slots := 0, locals := 61 })).room s m ([.ref (ad_md 0), .int x1] : List Value).toArray below meth c H locs 0 0 Q (F0 m 0 ls []) by rw [hH, hlocs] at hgo; exact hgo
  clear hH hlocs
  refine lv_aload_n hx hb d_Model_name_0 rfl (lv_at hl 0 rfl) ?_
  refine lv_bipush (v := (34 : Int32)) hx hb d_Model_name_1 (by decide) ?_
  obtain ⟨u1, hu1, hf⟩ := Option.bind_eq_some_iff.mp hf
  refine cl_v (wc := (uw_Model ad_md cA_md md)) (wr := []) (tysC := [(cA_md 1, .int), (cA_md 2, .int), (cA_md 3, .int), (cA_md 4, .int), (cA_md 5, .int), (cA_md 6, .int), (cA_md 7, .int), (cA_md 8, .int), (cA_md 9, .boolean), (cA_md 10, .int), (cA_md 11, .int), (cA_md 12, .int), (cA_md 13, .int)]) (wu := fun (u : SModel) => (uw_Model ad_md cA_md u)) (wn := fun (u : SModel) => (uw_Model ad_md cA_md u)) [0, 1, 2, 3, 4, 5, 6, 7, 8, 9, 10, 11, 12, 13] [] [0, 1, 2, 3, 4, 5, 6, 7, 8, 9, 10, 11, 12, 13] [0, 1, 2, 3, 4, 5, 6, 7, 8, 9, 10, 11, 12] hP hD hS hA hK rfl rfl (by decide +kernel) (by decide +kernel) (by decide +kernel) rfl (fun _ => rfl) (by decide +kernel) (fun hPc hKc hDc => (va_runV (As := [.int (34 : Int32)]) (rest := []) ⟨hx, hb, hml, hown, hts⟩ (k_Model_take l dC dI ad_md cA_md H.size md (34 : Int32) u1 hu1) (cwV 1 hts (gV wd_886 wd_888 wd_30 wd_49 wd_889) rfl rfl rfl (by decide +kernel) ⟨Nat.le_of_ble_eq_true rfl, Nat.le_of_ble_eq_true rfl⟩) (cl_preV hPc hKc hDc hN (ci := 6) 0 rfl rfl) rfl rfl hl.1 rfl (lv_room (Nat.le_of_ble_eq_true rfl)) d_Model_name_3 ⟨Nat.le_of_ble_eq_true rfl, Nat.le_of_ble_eq_true rfl⟩)) (fun u H locs hw hP hD hS => ?_)
  have hw := hw.symm
  subst hw
  have hP : va_P (dC, dI) vwCl (uw_Model ad_md cA_md u1) H := hP
  have hD : va_D A (uw_Model ad_md cA_md u1) := hD
  refine lv_iload_n hx hb d_Model_name_6 rfl (lv_at hl 1 rfl) ?_
  refine lv_bipush (v := (10 : Int32)) hx hb d_Model_name_7 (by decide) ?_
  refine lv_iadd hx hb d_Model_name_9 ?_
  refine lv_bipush (v := (11 : Int32)) hx hb d_Model_name_10 (by decide) ?_
  refine lv_aload_n hx hb d_Model_name_12 rfl (lv_at hl 0 rfl) ?_
  refine va_get (D := (dC, dI)) (ci := 6) (v := .ref (ad_md 3)) (C := "HazardTablesModel") (T := F_Model) (N := 30) hx hb hts hin_Model hown hK hP 0 rfl rfl 9 (by decide) fl_20 (fun _ h9 => h9) rfl d_Model_name_13 ?_
  refine lv_iload_n hx hb d_Model_name_16 rfl (lv_at hl 1 rfl) ?_
  refine lv_bipush (v := (9 : Int32)) hx hb d_Model_name_17 (by decide) ?_
  refine lv_iadd hx hb d_Model_name_19 ?_
  obtain ⟨hi2, hf⟩ := hf_g hf
  refine va_iald hx hb hK hP 3 2 rfl rfl hi2 d_Model_name_20 ?_
  refine lv_imul hx hb d_Model_name_21 ?_
  refine lv_iadd hx hb d_Model_name_22 ?_
  refine lv_istore_n (lv' := [(2, .int ((x1 + (10 : Int32)) + ((11 : Int32) * (u1.2.2.1.2.2 (x1 + (9 : Int32)).toNatClampNeg)))), (0, .ref (ad_md 0)), (1, .int x1)]) hx hb d_Model_name_23 rfl hl (by decide) rfl (fun ls hl => ?_)
  refine lv_iconst (v := (0 : Int32)) hx hb d_Model_name_24 (by decide) ?_
  refine lv_istore_n (lv' := [(3, .int (0 : Int32)), (2, .int ((x1 + (10 : Int32)) + ((11 : Int32) * (u1.2.2.1.2.2 (x1 + (9 : Int32)).toNatClampNeg)))), (0, .ref (ad_md 0)), (1, .int x1)]) hx hb d_Model_name_25 rfl hl (by decide) rfl (fun ls hl => ?_)
  exact w_26 4096 u1 x1 ((x1 + (10 : Int32)) + ((11 : Int32) * (u1.2.2.1.2.2 (x1 + (9 : Int32)).toNatClampNeg))) (0 : Int32) H locs ls hf hP hD hS (lv_sub hl [2, 3, 1, 0] rfl)
