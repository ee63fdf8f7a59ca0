noncomputable def f_Model_isIn_19  (md : SModel) (y1 : Int32) (y2 : Int32) : Option (Bool) :=
  (Option.bind (f_Model_distance md md.2.2.2.2.2.1.2.2) fun u4 =>
    (if 0 < (lg_cmp ((y1.toInt64 * y1.toInt64) + (y2.toInt64 * y2.toInt64)) (u4.toInt64 * u4.toInt64)) then
      (some (false))
     else
      (if (lg_cmp ((y1.toInt64 * md.2.2.2.2.2.1.1.toInt64) + (y2.toInt64 * md.2.2.2.2.2.1.2.1.toInt64)) (0 : Int64)) ≤ 0 then
        (some (false))
       else
        (if (lg_cmp (((2 : Int64) * ((y1.toInt64 * md.2.2.2.2.2.1.1.toInt64) + (y2.toInt64 * md.2.2.2.2.2.1.2.1.toInt64))) * ((y1.toInt64 * md.2.2.2.2.2.1.1.toInt64) + (y2.toInt64 * md.2.2.2.2.2.1.2.1.toInt64))) (((y1.toInt64 * y1.toInt64) + (y2.toInt64 * y2.toInt64)) * ((md.2.2.2.2.2.1.1.toInt64 * md.2.2.2.2.2.1.1.toInt64) + (md.2.2.2.2.2.1.2.1.toInt64 * md.2.2.2.2.2.1.2.1.toInt64)))) < 0 then
          (some (false))
         else
          (some (true))
         )
       )
     )
   )
noncomputable def f_Model_isIn (md : SModel) (x1 : Int32) (x2 : Int32) : Option (Bool) :=
  (if md.2.2.2.2.1.1 = 0 then
    (some (false))
   else
    (if x1 = 0 then
      (if x2 = 0 then
        (some (true))
       else
        (f_Model_isIn_19 md x1 x2)
       )
     else
      (f_Model_isIn_19 md x1 x2)
     )
   )
set_option maxHeartbeats 4000000 in
set_option maxRecDepth 100000 in
theorem k_Model_isIn (l : Launch) (dC : Nat → ClassId) (dI : Nat → Nat → Nat) (ad_md : Nat → Nat) (cA_md : Nat → ClassId) (sz : Nat) (md : SModel) (x1 : Int32) (x2 : Int32) (res : Bool) (hf : f_Model_isIn md x1 x2 = some res) : Met l y_Model_isIn w_Model_isIn ({ frames := 1, cells := 0, slots := 0, locals := 24 }) (cPc (dC, dI) (uw_Model ad_md cA_md md) [(cA_md 1, .int), (cA_md 2, .int), (cA_md 3, .int), (cA_md 4, .int), (cA_md 5, .int), (cA_md 6, .int), (cA_md 7, .int), (cA_md 8, .int), (cA_md 9, .boolean), (cA_md 10, .int), (cA_md 11, .int), (cA_md 12, .int), (cA_md 13, .int)] sz [.ref (ad_md 0), .int x1, .int x2]) (va_Qi (fun (r : Int32) (u : Unit) => r = bI res) (fun (u : Unit) (t : State) => va_P (dC, dI) vwCl (uw_Model ad_md cA_md md) t.heap ∧ va_K (dC, dI) vwCl [(cA_md 1, .int), (cA_md 2, .int), (cA_md 3, .int), (cA_md 4, .int), (cA_md 5, .int), (cA_md 6, .int), (cA_md 7, .int), (cA_md 8, .int), (cA_md 9, .boolean), (cA_md 10, .int), (cA_md 11, .int), (cA_md 12, .int), (cA_md 13, .int)] t ∧ va_D (va_A (uw_Model ad_md cA_md md) sz) (uw_Model ad_md cA_md md)) (va_A (uw_Model ad_md cA_md md) sz)) 0 0 (va_A (uw_Model ad_md cA_md md) sz) := by
  refine Met.ofW (cc := b_Model_isIn) (maxL := 9) (ret := (some .boolean)) (by decide) rfl ?_
  intro p e s m args below meth c s₁ B hml hv
  obtain ⟨rfl, hsz, hP, hK, hD0, hN⟩ := hv
  have hx := B.exec
  have hb := B.bytes
  have hr := B.returns
  have hts := atoms_spec (ws := w_Model_isIn) B.pre
  have hown : s.vm.findClass "HazardTablesModel" = some m.cls := findClass_of_methodNamed B.named
  have hlocks := B.notSynchronized
  subst hsz
  have hD := hD0.self (sz := s.heap.size)
  generalize hAe : va_A (uw_Model ad_md cA_md md) s.heap.size = A at hD ⊢
  have hA : ∀ q : Nat, s.heap.size ≤ q → A q := fun q h => by rw [← hAe]; exact Or.inr h
  have hS : va_S A s.heap s.heap [] := va_S.rf
  have hP : va_P (dC, dI) vwCl (uw_Model ad_md cA_md md) s.heap := hP
  have fl_157 := (hts _ (List.mem_cons_of_mem _ wd_760))
  have fl_171 := (hts _ (List.mem_cons_of_mem _ wd_765))
  have fl_32 := (hts _ (List.mem_cons_of_mem _ wd_764))
  have fl_35 := (hts _ (List.mem_cons_of_mem _ wd_766))
  have hin_Model : ∀ w ∈ u_ws "HazardTablesModel" F_Model 30, w ∈ w_Model_isIn := fun w h => List.mem_cons_of_mem _ (hinA_Model w h)
  have ret : ∀ (v : Bool) (u : Unit) (H : Heap) (locs : List Loc) (ls : Array Slot) (pc : Nat), decode b_Model_isIn pc = .ok (.ireturn, 1) → (v = res) → va_P (dC, dI) vwCl (uw_Model ad_md cA_md md) H → va_D A (uw_Model ad_md cA_md md) → va_S A s.heap H locs → W p l e (headSpec w_Model_isIn ({ frames := 1, cells := 0, slots := 0, locals := 24 })).room s m ([.ref (ad_md 0), .int x1, .int x2] : List Value).toArray below meth c H locs 0 0 (MQ below (va_Qi (fun (r : Int32) (u : Unit) => r = bI res) (fun (u : Unit) (t : State) => va_P (dC, dI) vwCl (uw_Model ad_md cA_md md) t.heap ∧ va_K (dC, dI) vwCl [(cA_md 1, .int), (cA_md 2, .int), (cA_md 3, .int), (cA_md 4, .int), (cA_md 5, .int), (cA_md 6, .int), (cA_md 7, .int), (cA_md 8, .int), (cA_md 9, .boolean), (cA_md 10, .int), (cA_md 11, .int), (cA_md 12, .int), (cA_md 13, .int)] t ∧ va_D A (uw_Model ad_md cA_md md)) A) ([.ref (ad_md 0), .int x1, .int x2] : List Value).toArray s 0 0 A) (F0 m pc ls [.int (bI v)]) := fun v u H locs ls pc hd hp hP hD hS => W.zret (v := bI v) (ty := .boolean) hx hb hr (nar_bI v) (fun t ht hW => ⟨⟨bI v, u, rfl, (by rw [hp]), by rw [ht]; exact hP, va_K.moved hW.alike hK, hD⟩, hS.F ht⟩) hS.2.2 hd
  generalize (MQ below (va_Qi (fun (r : Int32) (u : Unit) => r = bI res) (fun (u : Unit) (t : State) => va_P (dC, dI) vwCl (uw_Model ad_md cA_md md) t.heap ∧ va_K (dC, dI) vwCl [(cA_md 1, .int), (cA_md 2, .int), (cA_md 3, .int), (cA_md 4, .int), (cA_md 5, .int), (cA_md 6, .int), (cA_md 7, .int), (cA_md 8, .int), (cA_md 9, .boolean), (cA_md 10, .int), (cA_md 11, .int), (cA_md 12, .int), (cA_md 13, .int)] t ∧ va_D A (uw_Model ad_md cA_md md)) A) ([.ref (ad_md 0), .int x1, .int x2] : List Value).toArray s 0 0 A) = Q at ret ⊢
  have w_19 : ∀  (y1 : Int32) (y2 : Int32) (H : Heap) (locs : List Loc) (ls : Array Slot), f_Model_isIn_19 md y1 y2 = some res → va_P (dC, dI) vwCl (uw_Model ad_md cA_md md) H → va_D A (uw_Model ad_md cA_md md) → va_S A s.heap H locs → lv_has ls 9 [(0, .ref (ad_md 0)), (1, .int y1), (2, .int y2)] → W p l e (headSpec w_Model_isIn ({ frames := 1, cells := 0, slots := 0, locals := 24 })).room s m ([.ref (ad_md 0), .int x1, .int x2] : List Value).toArray below meth c H locs 0 0 Q (F0 m 19 ls []) := by
    intro y1 y2 H locs ls hf hP hD hS hl
    rw [f_Model_isIn_19] at hf
    refine lv_aload_n hx hb d_Model_isIn_19 rfl (lv_at hl 0 rfl) ?_
    refine lv_aload_n hx hb d_Model_isIn_20 rfl (lv_at hl 0 rfl) ?_
    refine va_get (D := (dC, dI)) (ci := 6) (v := .int (bI md.2.2.2.2.2.1.2.2)) (C := "HazardTablesModel") (T := F_Model) (N := 30) hx hb hts hin_Model hown hK hP 0 rfl rfl 18 (by decide) fl_35 (fun _ h9 => h9) rfl d_Model_isIn_21 ?_
    obtain ⟨u4, hu4, hf⟩ := Option.bind_eq_some_iff.mp hf
    refine cl_i (wc := (uw_Model ad_md cA_md md)) (wr := []) (tysC := [(cA_md 1, .int), (cA_md 2, .int), (cA_md 3, .int), (cA_md 4, .int), (cA_md 5, .int), (cA_md 6, .int), (cA_md 7, .int), (cA_md 8, .int), (cA_md 9, .boolean), (cA_md 10, .int), (cA_md 11, .int), (cA_md 12, .int), (cA_md 13, .int)]) (wu := fun (u : Unit) => (uw_Model ad_md cA_md md)) (wn := fun (u : Unit) => (uw_Model ad_md cA_md md)) [0, 1, 2, 3, 4, 5, 6, 7, 8, 9, 10, 11, 12, 13] [] [0, 1, 2, 3, 4, 5, 6, 7, 8, 9, 10, 11, 12, 13] [0, 1, 2, 3, 4, 5, 6, 7, 8, 9, 10, 11, 12] hP hD hS hA hK rfl rfl (by decide +kernel) (by decide +kernel) (by decide +kernel) rfl (fun _ => rfl) (by decide +kernel) (fun hPc hKc hDc => (va_runV (As := [.int (bI md.2.2.2.2.2.1.2.2)]) (rest := []) ⟨hx, hb, hml, hown, hts⟩ (k_Model_distance l dC dI ad_md cA_md H.size md md.2.2.2.2.2.1.2.2 u4 hu4) (cwV 1 hts (gV wd_959 wd_961 wd_40 wd_49 wd_962) rfl rfl rfl (by decide +kernel) ⟨Nat.le_of_ble_eq_true rfl, Nat.le_of_ble_eq_true rfl⟩) (cl_preV hPc hKc hDc hN (ci := 6) 0 rfl rfl) rfl rfl hl.1 rfl (lv_room (Nat.le_of_ble_eq_true rfl)) d_Model_isIn_24 ⟨Nat.le_of_ble_eq_true rfl, Nat.le_of_ble_eq_true rfl⟩)) (fun r u H locs hw hP hD hS => ?_)
    have hw := hw.symm
    subst hw
    have hP : va_P (dC, dI) vwCl (uw_Model ad_md cA_md md) H := hP
    have hD : va_D A (uw_Model ad_md cA_md md) := hD
    refine lv_i2l (v := u4.toInt64) hx hb d_Model_isIn_27 rfl ?_
    refine lv_lstore_n (lv' := [(3, .long u4.toInt64), (0, .ref (ad_md 0)), (1, .int y1), (2, .int y2)]) hx hb d_Model_isIn_28 rfl hl (by decide) rfl (fun ls hl => ?_)
    refine lv_iload_n hx hb d_Model_isIn_29 rfl (lv_at hl 2 rfl) ?_
    refine lv_i2l (v := y1.toInt64) hx hb d_Model_isIn_30 rfl ?_
    refine lv_iload_n hx hb d_Model_isIn_31 rfl (lv_at hl 2 rfl) ?_
    refine lv_i2l (v := y1.toInt64) hx hb d_Model_isIn_32 rfl ?_
    refine lv_lmul hx hb d_Model_isIn_33 ?_
    refine lv_iload_n hx hb d_Model_isIn_34 rfl (lv_at hl 3 rfl) ?_
    refine lv_i2l (v := y2.toInt64) hx hb d_Model_isIn_35 rfl ?_
    refine lv_iload_n hx hb d_Model_isIn_36 rfl (lv_at hl 3 rfl) ?_
    refine lv_i2l (v := y2.toInt64) hx hb d_Model_isIn_37 rfl ?_
    refine lv_lmul hx hb d_Model_isIn_38 ?_
    refine lv_ladd hx hb d_Model_isIn_39 ?_
    refine lv_lstore (lv' := [(5, .long ((y1.toInt64 * y1.toInt64) + (y2.toInt64 * y2.toInt64))), (3, .long u4.toInt64), (0, .ref (ad_md 0)), (1, .int y1), (2, .int y2)]) hx hb d_Model_isIn_40 hl (by decide) rfl (fun ls hl => ?_)
    refine lv_iload_n hx hb d_Model_isIn_42 rfl (lv_at hl 3 rfl) ?_
    refine lv_i2l (v := y1.toInt64) hx hb d_Model_isIn_43 rfl ?_
    refine lv_aload_n hx hb d_Model_isIn_44 rfl (lv_at hl 2 rfl) ?_
    refine va_get (D := (dC, dI)) (ci := 6) (v := .int md.2.2.2.2.2.1.1) (C := "HazardTablesModel") (T := F_Model) (N := 30) hx hb hts hin_Model hown hK hP 0 rfl rfl 16 (by decide) fl_32 (fun _ h9 => h9) rfl d_Model_isIn_45 ?_
    refine lv_i2l (v := md.2.2.2.2.2.1.1.toInt64) hx hb d_Model_isIn_48 rfl ?_
    refine lv_lmul hx hb d_Model_isIn_49 ?_
    refine lv_iload_n hx hb d_Model_isIn_50 rfl (lv_at hl 4 rfl) ?_
    refine lv_i2l (v := y2.toInt64) hx hb d_Model_isIn_51 rfl ?_
    refine lv_aload_n hx hb d_Model_isIn_52 rfl (lv_at hl 2 rfl) ?_
    refine va_get (D := (dC, dI)) (ci := 6) (v := .int md.2.2.2.2.2.1.2.1) (C := "HazardTablesModel") (T := F_Model) (N := 30) hx hb hts hin_Model hown hK hP 0 rfl rfl 17 (by decide) fl_171 (fun _ h9 => h9) rfl d_Model_isIn_53 ?_
    refine lv_i2l (v := md.2.2.2.2.2.1.2.1.toInt64) hx hb d_Model_isIn_56 rfl ?_
    refine lv_lmul hx hb d_Model_isIn_57 ?_
    refine lv_ladd hx hb d_Model_isIn_58 ?_
    refine lv_lstore (lv' := [(7, .long ((y1.toInt64 * md.2.2.2.2.2.1.1.toInt64) + (y2.toInt64 * md.2.2.2.2.2.1.2.1.toInt64))), (5, .long ((y1.toInt64 * y1.toInt64) + (y2.toInt64 * y2.toInt64))), (3, .long u4.toInt64), (0, .ref (ad_md 0)), (1, .int y1), (2, .int y2)]) hx hb d_Model_isIn_59 hl (by decide) rfl (fun ls hl => ?_)
    refine lv_lload hx hb d_Model_isIn_61 (lv_at hl 1 rfl) ?_
    refine lv_lload_n hx hb d_Model_isIn_63 rfl (lv_at hl 2 rfl) ?_
    refine lv_lload_n hx hb d_Model_isIn_64 rfl (lv_at hl 2 rfl) ?_
    refine lv_lmul hx hb d_Model_isIn_65 ?_
    refine W.lcmp hx hb d_Model_isIn_66 ?_
    refine lv_if_gt (tgt := 120) hx hb d_Model_isIn_67 (by decide) (fun hc5 => ?_) (fun hc5 => ?_)
    · have hf := hf_t hf hc5
      refine lv_iconst (v := (0 : Int32)) hx hb d_Model_isIn_120 (by decide) ?_
      exact ret false () H locs ls 121 d_Model_isIn_121 (Option.some.inj hf) hP hD hS
    · have hf := hf_f hf hc5
      refine lv_lload hx hb d_Model_isIn_70 (lv_at hl 0 rfl) ?_
      refine lv_lconst (v := (0 : Int64)) hx hb d_Model_isIn_72 (by decide) ?_
      refine W.lcmp hx hb d_Model_isIn_73 ?_
      refine lv_if_le (tgt := 120) hx hb d_Model_isIn_74 (by decide) (fun hc6 => ?_) (fun hc6 => ?_)
      · have hf := hf_t hf hc6
        refine lv_iconst (v := (0 : Int32)) hx hb d_Model_isIn_120 (by decide) ?_
        exact ret false () H locs ls 121 d_Model_isIn_121 (Option.some.inj hf) hP hD hS
      · have hf := hf_f hf hc6
        refine lv_ldc2 (v := (2 : Int64)) hx hb hown (hts _ (List.mem_cons_of_mem _ wd_982)) d_Model_isIn_77 ?_
        refine lv_lload hx hb d_Model_isIn_80 (lv_at hl 0 rfl) ?_
        refine lv_lmul hx hb d_Model_isIn_82 ?_
        refine lv_lload hx hb d_Model_isIn_83 (lv_at hl 0 rfl) ?_
        refine lv_lmul hx hb d_Model_isIn_85 ?_
        refine lv_lload hx hb d_Model_isIn_86 (lv_at hl 1 rfl) ?_
        refine lv_aload_n hx hb d_Model_isIn_88 rfl (lv_at hl 3 rfl) ?_
        refine va_get (D := (dC, dI)) (ci := 6) (v := .int md.2.2.2.2.2.1.1) (C := "HazardTablesModel") (T := F_Model) (N := 30) hx hb hts hin_Model hown hK hP 0 rfl rfl 16 (by decide) fl_32 (fun _ h9 => h9) rfl d_Model_isIn_89 ?_
        refine lv_i2l (v := md.2.2.2.2.2.1.1.toInt64) hx hb d_Model_isIn_92 rfl ?_
        refine lv_aload_n hx hb d_Model_isIn_93 rfl (lv_at hl 3 rfl) ?_
        refine va_get (D := (dC, dI)) (ci := 6) (v := .int md.2.2.2.2.2.1.1) (C := "HazardTablesModel") (T := F_Model) (N := 30) hx hb hts hin_Model hown hK hP 0 rfl rfl 16 (by decide) fl_32 (fun _ h9 => h9) rfl d_Model_isIn_94 ?_
        refine lv_i2l (v := md.2.2.2.2.2.1.1.toInt64) hx hb d_Model_isIn_97 rfl ?_
        refine lv_lmul hx hb d_Model_isIn_98 ?_
        refine lv_aload_n hx hb d_Model_isIn_99 rfl (lv_at hl 3 rfl) ?_
        refine va_get (D := (dC, dI)) (ci := 6) (v := .int md.2.2.2.2.2.1.2.1) (C := "HazardTablesModel") (T := F_Model) (N := 30) hx hb hts hin_Model hown hK hP 0 rfl rfl 17 (by decide) fl_171 (fun _ h9 => h9) rfl d_Model_isIn_100 ?_
        refine lv_i2l (v := md.2.2.2.2.2.1.2.1.toInt64) hx hb d_Model_isIn_103 rfl ?_
        refine lv_aload_n hx hb d_Model_isIn_104 rfl (lv_at hl 3 rfl) ?_
        refine va_get (D := (dC, dI)) (ci := 6) (v := .int md.2.2.2.2.2.1.2.1) (C := "HazardTablesModel") (T := F_Model) (N := 30) hx hb hts hin_Model hown hK hP 0 rfl rfl 17 (by decide) fl_171 (fun _ h9 => h9) rfl d_Model_isIn_105 ?_
        refine lv_i2l (v := md.2.2.2.2.2.1.2.1.toInt64) hx hb d_Model_isIn_108 rfl ?_
        refine lv_lmul hx hb d_Model_isIn_109 ?_
        refine lv_ladd hx hb d_Model_isIn_110 ?_
        refine lv_lmul hx hb d_Model_isIn_111 ?_
        refine W.lcmp hx hb d_Model_isIn_112 ?_
        refine lv_if_lt (tgt := 120) hx hb d_Model_isIn_113 (by decide) (fun hc7 => ?_) (fun hc7 => ?_)
        · have hf := hf_t hf hc7
          refine lv_iconst (v := (0 : Int32)) hx hb d_Model_isIn_120 (by decide) ?_
          exact ret false () H locs ls 121 d_Model_isIn_121 (Option.some.inj hf) hP hD hS
        · have hf := hf_f hf hc7
          refine lv_iconst (v := (1 : Int32)) hx hb d_Model_isIn_116 (by decide) ?_
          refine lv_goto (tgt := 121) hx hb d_Model_isIn_117 (by decide) ?_
          exact ret true () H locs ls 121 d_Model_isIn_121 (Option.some.inj hf) hP hD hS
  have hl := lv_entry ([.ref (ad_md 0), .int x1, .int x2]) (n := 9) (Nat.le_of_ble_eq_true rfl)
  rw [lg_entry_eq]
  generalize (lg_sl ([.ref (ad_md 0), .int x1, .int x2]) ++ List.replicate (9 - (lg_sl ([.ref (ad_md 0), .int x1, .int x2])).length) Slot.unset).toArray = ls at hl ⊢
  have hl : lv_has ls 9 [(0, .ref (ad_md 0)), (1, .int x1), (2, .int x2)] := hl
  have hf := hf
  rw [f_Model_isIn] at hf
  obtain ⟨H, hH⟩ : ∃ H : Heap, H = s.heap := ⟨_, rfl⟩
  obtain ⟨locs, hlocs⟩ : ∃ L : List Loc, L = [] := ⟨_, rfl⟩
  have hP : va_P (dC, dI) vwCl (uw_Model ad_md cA_md md) H := by rw [hH]; exact hP
  have hS : va_S A s.heap H locs := by rw [hH, hlocs]; exact hS
  show W p l e (headSpec w_Model_isIn ({ frames := 1, cells := 0, slots := 0, locals := 24 })).room s m ([.ref (ad_md 0), .int x1, .int x2] : List Value).toArray below meth c s.heap [] 0 0 Q (F0 m 0 ls [])
  suffices hgo : W p l e (headSpec w_Model_isIn ({ frames := 1, cells := 0, slots := 0, locals := 24 })).room s m ([.ref (ad_md 0), .int x1, .int x2] : List Value).toArray below meth c H locs 0 0 Q (F0 m 0 ls []) by rw [hH, hlocs] at hgo; exact hgo
  clear hH hlocs
  refine lv_aload_n hx hb d_Model_isIn_0 rfl (lv_at hl 0 rfl) ?_
  refine va_get (D := (dC, dI)) (ci := 6) (v := .int md.2.2.2.2.1.1) (C := "HazardTablesModel") (T := F_Model) (N := 30) hx hb hts hin_Model hown hK hP 0 rfl rfl 12 (by decide) fl_157 (fun _ h9 => h9) rfl d_Model_isIn_1 ?_
  refine lv_if_ne (tgt := 9) hx hb d_Model_isIn_4 (by decide) (fun hc1 => ?_) (fun hc1 => ?_)
  · have hf := hf_f hf hc1
    refine lv_iload_n hx hb d_Model_isIn_9 rfl (lv_at hl 1 rfl) ?_
    refine lv_if_ne (tgt := 19) hx hb d_Model_isIn_10 (by decide) (fun hc2 => ?_) (fun hc2 => ?_)
    · have hf := hf_f hf hc2
      exact w_19 x1 x2 H locs ls hf hP hD hS (lv_sub hl [0, 1, 2] rfl)
    · have hf := hf_t hf hc2
      refine lv_iload_n hx hb d_Model_isIn_13 rfl (lv_at hl 2 rfl) ?_
      refine lv_if_ne (tgt := 19) hx hb d_Model_isIn_14 (by decide) (fun hc3 => ?_) (fun hc3 => ?_)
      · have hf := hf_f hf hc3
        exact w_19 x1 x2 H locs ls hf hP hD hS (lv_sub hl [0, 1, 2] rfl)
      · have hf := hf_t hf hc3
        refine lv_iconst (v := (1 : Int32)) hx hb d_Model_isIn_17 (by decide) ?_
        exact ret true () H locs ls 18 d_Model_isIn_18 (Option.some.inj hf) hP hD hS
  · have hf := hf_t hf hc1
    refine lv_iconst (v := (0 : Int32)) hx hb d_Model_isIn_7 (by decide) ?_
    exact ret false () H locs ls 8 d_Model_isIn_8 (Option.some.inj hf) hP hD hS
