noncomputable def f_Model_mixture_67 (k_35 : SModel → Int32 → Int32 → Int32 → Int32 → Option (Int32 × SModel)) : Nat → SModel → Int32 → Int32 → Int32 → Int32 → Int32 → Option (Int32 × SModel)
  | 0, _, _, _, _, _, _ => none
  | n + 1, md, y1, y2, y3, y4, y5 =>
    (if y4 ≤ y5 then
      (k_35 md y1 y2 y3 (y4 + (1 : Int32)))
     else
      (Option.bind (f_Model_contradict md y4 y5) fun u17 =>
        (if (bI u17) = 0 then
          (f_Model_mixture_67 k_35 n md y1 y2 y3 y4 (y5 + (1 : Int32)))
         else
          (f_Model_mixture_67 k_35 n md y1 y2 (y3 + (1 : Int32)) y4 (y5 + (1 : Int32)))
         )
       )
     )
noncomputable def f_Model_mixture_35  : Nat → SModel → Int32 → Int32 → Int32 → Int32 → Option (Int32 × SModel)
  | 0, _, _, _, _, _ => none
  | n + 1, md, y1, y2, y3, y4 =>
    (if md.2.2.2.2.1.1 ≤ y4 then
      (if y1 = 0 then
        (Option.bind (f_Model_strictness md) fun u13 =>
          (some (u13, md))
         )
       else
        (if y1 = (1 : Int32) then
          (some (y2, md))
         else
          (if (4 : Int32) ≤ y1 then
            (if y1 = (4 : Int32) then
              (some (md.2.2.2.2.1.1, md))
             else
              (some (y3, md))
             )
           else
            (if y1 = (2 : Int32) then
              (Option.bind (f_Model_distance md true) fun u12 =>
                (some (u12, md))
               )
             else
              (Option.bind (f_Model_distance md false) fun u11 =>
                (some (u11, md))
               )
             )
           )
         )
       )
     else
      (if inb y4 8 then
        (if inb (((md.2.2.2.2.1.2.2.2.1 y4.toNatClampNeg) * (43 : Int32)) + (3 : Int32)) 559 then
          (f_Model_mixture_67 (f_Model_mixture_35 n) 4096 md y1 (y2 ||| (md.2.2.2.1.2.2 (((md.2.2.2.2.1.2.2.2.1 y4.toNatClampNeg) * (43 : Int32)) + (3 : Int32)).toNatClampNeg)) y3 y4 (0 : Int32))
         else none)
       else none)
     )
noncomputable def f_Model_mixture_19  (md : SModel) (y1 : Int32) (z1 : Bool) (z2 : Bool) : Option (Int32 × SModel) :=
  (Option.bind (f_Model_goes md z1 z2 true) fun u3 =>
    (if (bI u3.1) = 0 then
      (some ((0 : Int32), u3.2))
     else
      (f_Model_mixture_35 4096 u3.2 y1 (0 : Int32) (0 : Int32) (0 : Int32))
     )
   )
noncomputable def f_Model_mixture (md : SModel) (x1 : Int32) : Option (Int32 × SModel) :=
  (Option.bind (f_Model_within x1 (0 : Int32) (5 : Int32)) fun u1 =>
    (if md.2.2.2.2.1.1 ≤ 0 then
      (f_Model_mixture_19 md x1 u1 false)
     else
      (f_Model_mixture_19 md x1 u1 true)
     )
   )
set_option maxHeartbeats 4000000 in
set_option maxRecDepth 100000 in
theorem k_Model_mixture (l : Launch) (dC : Nat → ClassId) (dI : Nat → Nat → Nat) (ad_md : Nat → Nat) (cA_md : Nat → ClassId) (sz : Nat) (md : SModel) (x1 : Int32) (res : Int32 × SModel) (hf : f_Model_mixture md x1 = some res) : Met l y_Model_mixture w_Model_mixture ({ frames := 1, cells := 0, slots := 0, locals := 24 }) (cPc (dC, dI) (uw_Model ad_md cA_md md) [(cA_md 1, .int), (cA_md 2, .int), (cA_md 3, .int), (cA_md 4, .int), (cA_md 5, .int), (cA_md 6, .int), (cA_md 7, .int), (cA_md 8, .int), (cA_md 9, .boolean), (cA_md 10, .int), (cA_md 11, .int), (cA_md 12, .int), (cA_md 13, .int)] sz [.ref (ad_md 0), .int x1]) (va_Qi (fun (r : Int32) (u : SModel) => r = res.1 ∧ u = res.2) (fun (u : SModel) (t : State) => va_P (dC, dI) vwCl (uw_Model ad_md cA_md u) t.heap ∧ va_K (dC, dI) vwCl [(cA_md 1, .int), (cA_md 2, .int), (cA_md 3, .int), (cA_md 4, .int), (cA_md 5, .int), (cA_md 6, .int), (cA_md 7, .int), (cA_md 8, .int), (cA_md 9, .boolean), (cA_md 10, .int), (cA_md 11, .int), (cA_md 12, .int), (cA_md 13, .int)] t ∧ va_D (va_A (uw_Model ad_md cA_md md) sz) (uw_Model ad_md cA_md u)) (va_A (uw_Model ad_md cA_md md) sz)) 0 0 (va_A (uw_Model ad_md cA_md md) sz) := by
  refine Met.ofW (cc := b_Model_mixture) (maxL := 6) (ret := (some .int)) (by decide) rfl ?_
  intro p e s m args below meth c s₁ B hml hv
  obtain ⟨rfl, hsz, hP, hK, hD0, hN⟩ := hv
  have hx := B.exec
  have hb := B.bytes
  have hr := B.returns
  have hts := atoms_spec (ws := w_Model_mixture) B.pre
  have hown : s.vm.findClass "HazardTablesModel" = some m.cls := findClass_of_methodNamed B.named
  have hlocks := B.notSynchronized
  subst hsz
  have hD := hD0.self (sz := s.heap.size)
  generalize hAe : va_A (uw_Model ad_md cA_md md) s.heap.size = A at hD ⊢
  have hA : ∀ q : Nat, s.heap.size ≤ q → A q := fun q h => by rw [← hAe]; exact Or.inr h
  have hS : va_S A s.heap s.heap [] := va_S.rf
  have hP : va_P (dC, dI) vwCl (uw_Model ad_md cA_md md) s.heap := hP
  have fl_157 := (hts _ (List.mem_cons_of_mem _ wd_760))
  have fl_17 := (hts _ (List.mem_cons_of_mem _ wd_754))
  have fl_29 := (hts _ (List.mem_cons_of_mem _ wd_763))
  have hin_Model : ∀ w ∈ u_ws "HazardTablesModel" F_Model 30, w ∈ w_Model_mixture := fun w h => List.mem_cons_of_mem _ (hinA_Model w h)
  have ret : ∀ (v : Int32) (u : SModel) (H : Heap) (locs : List Loc) (ls : Array Slot) (pc : Nat), decode b_Model_mixture pc = .ok (.ireturn, 1) → (v = res.1 ∧ u = res.2) → va_P (dC, dI) vwCl (uw_Model ad_md cA_md u) H → va_D A (uw_Model ad_md cA_md u) → va_S A s.heap H locs → W p l e (headSpec w_Model_mixture ({ frames := 1, cells := 0, slots := 0, locals := 24 })).room s m ([.ref (ad_md 0), .int x1] : List Value).toArray below meth c H locs 0 0 (MQ below (va_Qi (fun (r : Int32) (u : SModel) => r = res.1 ∧ u = res.2) (fun (u : SModel) (t : State) => va_P (dC, dI) vwCl (uw_Model ad_md cA_md u) t.heap ∧ va_K (dC, dI) vwCl [(cA_md 1, .int), (cA_md 2, .int), (cA_md 3, .int), (cA_md 4, .int), (cA_md 5, .int), (cA_md 6, .int), (cA_md 7, .int), (cA_md 8, .int), (cA_md 9, .boolean), (cA_md 10, .int), (cA_md 11, .int), (cA_md 12, .int), (cA_md 13, .int)] t ∧ va_D A (uw_Model ad_md cA_md u)) A) ([.ref (ad_md 0), .int x1] : List Value).toArray s 0 0 A) (F0 m pc ls [.int v]) := fun v u H locs ls pc hd hp hP hD hS => W.iret (v := v) hx hb hr (fun t ht hW => ⟨⟨v, u, rfl, hp, by rw [ht]; exact hP, va_K.moved hW.alike hK, hD⟩, hS.F ht⟩) hS.2.2 hd
  generalize (MQ below (va_Qi (fun (r : Int32) (u : SModel) => r = res.1 ∧ u = res.2) (fun (u : SModel) (t : State) => va_P (dC, dI) vwCl (uw_Model ad_md cA_md u) t.heap ∧ va_K (dC, dI) vwCl [(cA_md 1, .int), (cA_md 2, .int), (cA_md 3, .int), (cA_md 4, .int), (cA_md 5, .int), (cA_md 6, .int), (cA_md 7, .int), (cA_md 8, .int), (cA_md 9, .boolean), (cA_md 10, .int), (cA_md 11, .int), (cA_md 12, .int), (cA_md 13, .int)] t ∧ va_D A (uw_Model ad_md cA_md u)) A) ([.ref (ad_md 0), .int x1] : List Value).toArray s 0 0 A) = Q at ret ⊢
  have w_67 : ∀ (k_35 : SModel → Int32 → Int32 → Int32 → Int32 → Option (Int32 × SModel)), (∀ (md : SModel) (y1 : Int32) (y2 : Int32) (y3 : Int32) (y4 : Int32) (H : Heap) (locs : List Loc) (ls : Array Slot), k_35 md y1 y2 y3 y4 = some res → va_P (dC, dI) vwCl (uw_Model ad_md cA_md md) H → va_D A (uw_Model ad_md cA_md md) → va_S A s.heap H locs → lv_has ls 6 [(0, .ref (ad_md 0)), (1, .int y1), (2, .int y2), (3, .int y3), (4, .int y4)] → W p l e (headSpec w_Model_mixture ({ frames := 1, cells := 0, slots := 0, locals := 24 })).room s m ([.ref (ad_md 0), .int x1] : List Value).toArray below meth c H locs 0 0 Q (F0 m 35 ls [])) → ∀ (n : Nat) (md : SModel) (y1 : Int32) (y2 : Int32) (y3 : Int32) (y4 : Int32) (y5 : Int32) (H : Heap) (locs : List Loc) (ls : Array Slot), f_Model_mixture_67 k_35 n md y1 y2 y3 y4 y5 = some res → va_P (dC, dI) vwCl (uw_Model ad_md cA_md md) H → va_D A (uw_Model ad_md cA_md md) → va_S A s.heap H locs → lv_has ls 6 [(0, .ref (ad_md 0)), (1, .int y1), (2, .int y2), (3, .int y3), (4, .int y4), (5, .int y5)] → W p l e (headSpec w_Model_mixture ({ frames := 1, cells := 0, slots := 0, locals := 24 })).room s m ([.ref (ad_md 0), .int x1] : List Value).toArray below meth c H locs 0 0 Q (F0 m 67 ls []) := by
    intro k_35 hk_35
    intro n
    induction n with
    | zero =>
      intro md y1 y2 y3 y4 y5 H locs ls hf hP hD hS hl
      rw [f_Model_mixture_67] at hf; cases hf
    | succ n ih =>
      intro md y1 y2 y3 y4 y5 H locs ls hf hP hD hS hl
      rw [f_Model_mixture_67] at hf
      refine lv_iload hx hb d_Model_mixture_67 (lv_at hl 5 rfl) ?_
      refine lv_iload hx hb d_Model_mixture_69 (lv_at hl 4 rfl) ?_
      refine lv_icmp_ge (tgt := 94) hx hb d_Model_mixture_71 (by decide) (fun hc16 => ?_) (fun hc16 => ?_)
      · have hf := hf_t hf hc16
        refine lv_iinc (v := y4 + (1 : Int32)) (lv' := [(4, .int (y4 + (1 : Int32))), (0, .ref (ad_md 0)), (1, .int y1), (2, .int y2), (3, .int y3), (5, .int y5)]) hx hb d_Model_mixture_94 hl (k := 4) rfl rfl (by decide) rfl (fun ls hl => ?_)
        refine lv_goto (tgt := 35) hx hb d_Model_mixture_97 (by decide) ?_
        exact hk_35 md y1 y2 y3 (y4 + (1 : Int32)) H locs ls hf hP hD hS (lv_sub hl [1, 2, 3, 4, 0] rfl)
      · have hf := hf_f hf hc16
        refine lv_aload_n hx hb d_Model_mixture_74 rfl (lv_at hl 0 rfl) ?_
        refine lv_iload hx hb d_Model_mixture_75 (lv_at hl 4 rfl) ?_
        refine lv_iload hx hb d_Model_mixture_77 (lv_at hl 5 rfl) ?_
        obtain ⟨u17, hu17, hf⟩ := Option.bind_eq_some_iff.mp hf
        refine cl_i (wc := (uw_Model ad_md cA_md md)) (wr := []) (tysC := [(cA_md 1, .int), (cA_md 2, .int), (cA_md 3, .int), (cA_md 4, .int), (cA_md 5, .int), (cA_md 6, .int), (cA_md 7, .int), (cA_md 8, .int), (cA_md 9, .boolean), (cA_md 10, .int), (cA_md 11, .int), (cA_md 12, .int), (cA_md 13, .int)]) (wu := fun (u : Unit) => (uw_Model ad_md cA_md md)) (wn := fun (u : Unit) => (uw_Model ad_md cA_md md)) [0, 1, 2, 3, 4, 5, 6, 7, 8, 9, 10, 11, 12, 13] [] [0, 1, 2, 3, 4, 5, 6, 7, 8, 9, 10, 11, 12, 13] [0, 1, 2, 3, 4, 5, 6, 7, 8, 9, 10, 11, 12] hP hD hS hA hK rfl rfl (by decide +kernel) (by decide +kernel) (by decide +kernel) rfl (fun _ => rfl) (by decide +kernel) (fun hPc hKc hDc => (va_runV (As := [.int y4, .int y5]) (rest := []) ⟨hx, hb, hml, hown, hts⟩ (k_Model_contradict l dC dI ad_md cA_md H.size md y4 y5 u17 hu17) (cwV 2 hts (gV wd_946 wd_948 wd_38 wd_49 wd_949) rfl rfl rfl (by decide +kernel) ⟨Nat.le_of_ble_eq_true rfl, Nat.le_of_ble_eq_true rfl⟩) (cl_preV hPc hKc hDc hN (ci := 6) 0 rfl rfl) rfl rfl hl.1 rfl (lv_room (Nat.le_of_ble_eq_true rfl)) d_Model_mixture_79 ⟨Nat.le_of_ble_eq_true rfl, Nat.le_of_ble_eq_true rfl⟩)) (fun r u H locs hw hP hD hS => ?_)
        have hw := hw.symm
        subst hw
        have hP : va_P (dC, dI) vwCl (uw_Model ad_md cA_md md) H := hP
        have hD : va_D A (uw_Model ad_md cA_md md) := hD
        refine lv_if_eq (tgt := 88) hx hb d_Model_mixture_82 (by decide) (fun hc18 => ?_) (fun hc18 => ?_)
        · have hf := hf_t hf hc18
          refine lv_iinc (v := y5 + (1 : Int32)) (lv' := [(5, .int (y5 + (1 : Int32))), (0, .ref (ad_md 0)), (1, .int y1), (2, .int y2), (3, .int y3), (4, .int y4)]) hx hb d_Model_mixture_88 hl (k := 5) rfl rfl (by decide) rfl (fun ls hl => ?_)
          refine lv_goto (tgt := 67) hx hb d_Model_mixture_91 (by decide) ?_
          exact ih md y1 y2 y3 y4 (y5 + (1 : Int32)) H locs ls hf hP hD hS (lv_sub hl [1, 2, 3, 4, 5, 0] rfl)
        · have hf := hf_f hf hc18
          refine lv_iinc (v := y3 + (1 : Int32)) (lv' := [(3, .int (y3 + (1 : Int32))), (0, .ref (ad_md 0)), (1, .int y1), (2, .int y2), (4, .int y4), (5, .int y5)]) hx hb d_Model_mixture_85 hl (k := 3) rfl rfl (by decide) rfl (fun ls hl => ?_)
          refine lv_iinc (v := y5 + (1 : Int32)) (lv' := [(5, .int (y5 + (1 : Int32))), (3, .int (y3 + (1 : Int32))), (0, .ref (ad_md 0)), (1, .int y1), (2, .int y2), (4, .int y4)]) hx hb d_Model_mixture_88 hl (k := 5) rfl rfl (by decide) rfl (fun ls hl => ?_)
          refine lv_goto (tgt := 67) hx hb d_Model_mixture_91 (by decide) ?_
          exact ih md y1 y2 (y3 + (1 : Int32)) y4 (y5 + (1 : Int32)) H locs ls hf hP hD hS (lv_sub hl [2, 3, 4, 1, 5, 0] rfl)
  have w_35 : ∀ (n : Nat) (md : SModel) (y1 : Int32) (y2 : Int32) (y3 : Int32) (y4 : Int32) (H : Heap) (locs : List Loc) (ls : Array Slot), f_Model_mixture_35 n md y1 y2 y3 y4 = some res → va_P (dC, dI) vwCl (uw_Model ad_md cA_md md) H → va_D A (uw_Model ad_md cA_md md) → va_S A s.heap H locs → lv_has ls 6 [(0, .ref (ad_md 0)), (1, .int y1), (2, .int y2), (3, .int y3), (4, .int y4)] → W p l e (headSpec w_Model_mixture ({ frames := 1, cells := 0, slots := 0, locals := 24 })).room s m ([.ref (ad_md 0), .int x1] : List Value).toArray below meth c H locs 0 0 Q (F0 m 35 ls []) := by
    intro n
    induction n with
    | zero =>
      intro md y1 y2 y3 y4 H locs ls hf hP hD hS hl
      rw [f_Model_mixture_35] at hf; cases hf
    | succ n ih =>
      intro md y1 y2 y3 y4 H locs ls hf hP hD hS hl
      rw [f_Model_mixture_35] at hf
      refine lv_iload hx hb d_Model_mixture_35 (lv_at hl 4 rfl) ?_
      refine lv_aload_n hx hb d_Model_mixture_37 rfl (lv_at hl 0 rfl) ?_
      refine va_get (D := (dC, dI)) (ci := 6) (v := .int md.2.2.2.2.1.1) (C := "HazardTablesModel") (T := F_Model) (N := 30) hx hb hts hin_Model hown hK hP 0 rfl rfl 12 (by decide) fl_157 (fun _ h9 => h9) rfl d_Model_mixture_38 ?_
      refine lv_icmp_ge (tgt := 100) hx hb d_Model_mixture_41 (by decide) (fun hc5 => ?_) (fun hc5 => ?_)
      · have hf := hf_t hf hc5
        refine lv_iload_n hx hb d_Model_mixture_100 rfl (lv_at hl 1 rfl) ?_
        refine lv_if_ne (tgt := 111) hx hb d_Model_mixture_101 (by decide) (fun hc6 => ?_) (fun hc6 => ?_)
        · have hf := hf_f hf hc6
          refine lv_iload_n hx hb d_Model_mixture_111 rfl (lv_at hl 1 rfl) ?_
          refine lv_iconst (v := (1 : Int32)) hx hb d_Model_mixture_112 (by decide) ?_
          refine lv_icmp_ne (tgt := 120) hx hb d_Model_mixture_113 (by decide) (fun hc7 => ?_) (fun hc7 => ?_)
          · have hf := hf_f hf hc7
            refine lv_iload_n hx hb d_Model_mixture_120 rfl (lv_at hl 1 rfl) ?_
            refine lv_iconst (v := (4 : Int32)) hx hb d_Model_mixture_121 (by decide) ?_
            refine lv_icmp_ge (tgt := 142) hx hb d_Model_mixture_122 (by decide) (fun hc8 => ?_) (fun hc8 => ?_)
            · have hf := hf_t hf hc8
              refine lv_iload_n hx hb d_Model_mixture_142 rfl (lv_at hl 1 rfl) ?_
              refine lv_iconst (v := (4 : Int32)) hx hb d_Model_mixture_143 (by decide) ?_
              refine lv_icmp_ne (tgt := 154) hx hb d_Model_mixture_144 (by decide) (fun hc9 => ?_) (fun hc9 => ?_)
              · have hf := hf_f hf hc9
                refine lv_iload_n hx hb d_Model_mixture_154 rfl (lv_at hl 3 rfl) ?_
                exact ret y3 md H locs ls 155 d_Model_mixture_155 (hf_e hf) hP hD hS
              · have hf := hf_t hf hc9
                refine lv_aload_n hx hb d_Model_mixture_147 rfl (lv_at hl 0 rfl) ?_
                refine va_get (D := (dC, dI)) (ci := 6) (v := .int md.2.2.2.2.1.1) (C := "HazardTablesModel") (T := F_Model) (N := 30) hx hb hts hin_Model hown hK hP 0 rfl rfl 12 (by decide) fl_157 (fun _ h9 => h9) rfl d_Model_mixture_148 ?_
                refine lv_goto (tgt := 155) hx hb d_Model_mixture_151 (by decide) ?_
                exact ret md.2.2.2.2.1.1 md H locs ls 155 d_Model_mixture_155 (hf_e hf) hP hD hS
            · have hf := hf_f hf hc8
              refine lv_aload_n hx hb d_Model_mixture_125 rfl (lv_at hl 0 rfl) ?_
              refine lv_iload_n hx hb d_Model_mixture_126 rfl (lv_at hl 1 rfl) ?_
              refine lv_iconst (v := (2 : Int32)) hx hb d_Model_mixture_127 (by decide) ?_
              refine lv_icmp_ne (tgt := 135) hx hb d_Model_mixture_128 (by decide) (fun hc10 => ?_) (fun hc10 => ?_)
              · have hf := hf_f hf hc10
                refine lv_iconst (v := (0 : Int32)) hx hb d_Model_mixture_135 (by decide) ?_
                obtain ⟨u11, hu11, hf⟩ := Option.bind_eq_some_iff.mp hf
                refine cl_i (wc := (uw_Model ad_md cA_md md)) (wr := []) (tysC := [(cA_md 1, .int), (cA_md 2, .int), (cA_md 3, .int), (cA_md 4, .int), (cA_md 5, .int), (cA_md 6, .int), (cA_md 7, .int), (cA_md 8, .int), (cA_md 9, .boolean), (cA_md 10, .int), (cA_md 11, .int), (cA_md 12, .int), (cA_md 13, .int)]) (wu := fun (u : Unit) => (uw_Model ad_md cA_md md)) (wn := fun (u : Unit) => (uw_Model ad_md cA_md md)) [0, 1, 2, 3, 4, 5, 6, 7, 8, 9, 10, 11, 12, 13] [] [0, 1, 2, 3, 4, 5, 6, 7, 8, 9, 10, 11, 12, 13] [0, 1, 2, 3, 4, 5, 6, 7, 8, 9, 10, 11, 12] hP hD hS hA hK rfl rfl (by decide +kernel) (by decide +kernel) (by decide +kernel) rfl (fun _ => rfl) (by decide +kernel) (fun hPc hKc hDc => (va_runV (As := [.int (0 : Int32)]) (rest := []) ⟨hx, hb, hml, hown, hts⟩ (k_Model_distance l dC dI ad_md cA_md H.size md false u11 hu11) (cwV 1 hts (gV wd_959 wd_961 wd_40 wd_49 wd_962) rfl rfl rfl (by decide +kernel) ⟨Nat.le_of_ble_eq_true rfl, Nat.le_of_ble_eq_true rfl⟩) (cl_preV hPc hKc hDc hN (ci := 6) 0 rfl rfl) rfl rfl hl.1 rfl (lv_room (Nat.le_of_ble_eq_true rfl)) d_Model_mixture_136 ⟨Nat.le_of_ble_eq_true rfl, Nat.le_of_ble_eq_true rfl⟩)) (fun r u H locs hw hP hD hS => ?_)
                have hw := hw.symm
                subst hw
                have hP : va_P (dC, dI) vwCl (uw_Model ad_md cA_md md) H := hP
                have hD : va_D A (uw_Model ad_md cA_md md) := hD
                refine lv_goto (tgt := 155) hx hb d_Model_mixture_139 (by decide) ?_
                exact ret u11 md H locs ls 155 d_Model_mixture_155 (hf_e hf) hP hD hS
              · have hf := hf_t hf hc10
                refine lv_iconst (v := (1 : Int32)) hx hb d_Model_mixture_131 (by decide) ?_
                refine lv_goto (tgt := 136) hx hb d_Model_mixture_132 (by decide) ?_
                obtain ⟨u12, hu12, hf⟩ := Option.bind_eq_some_iff.mp hf
                refine cl_i (wc := (uw_Model ad_md cA_md md)) (wr := []) (tysC := [(cA_md 1, .int), (cA_md 2, .int), (cA_md 3, .int), (cA_md 4, .int), (cA_md 5, .int), (cA_md 6, .int), (cA_md 7, .int), (cA_md 8, .int), (cA_md 9, .boolean), (cA_md 10, .int), (cA_md 11, .int), (cA_md 12, .int), (cA_md 13, .int)]) (wu := fun (u : Unit) => (uw_Model ad_md cA_md md)) (wn := fun (u : Unit) => (uw_Model ad_md cA_md md)) [0, 1, 2, 3, 4, 5, 6, 7, 8, 9, 10, 11, 12, 13] [] [0, 1, 2, 3, 4, 5, 6, 7, 8, 9, 10, 11, 12, 13] [0, 1, 2, 3, 4, 5, 6, 7, 8, 9, 10, 11, 12] hP hD hS hA hK rfl rfl (by decide +kernel) (by decide +kernel) (by decide +kernel) rfl (fun _ => rfl) (by decide +kernel) (fun hPc hKc hDc => (va_runV (As := [.int (1 : Int32)]) (rest := []) ⟨hx, hb, hml, hown, hts⟩ (k_Model_distance l dC dI ad_md cA_md H.size md true u12 hu12) (cwV 1 hts (gV wd_959 wd_961 wd_40 wd_49 wd_962) rfl rfl rfl (by decide +kernel) ⟨Nat.le_of_ble_eq_true rfl, Nat.le_of_ble_eq_true rfl⟩) (cl_preV hPc hKc hDc hN (ci := 6) 0 rfl rfl) rfl rfl hl.1 rfl (lv_room (Nat.le_of_ble_eq_true rfl)) d_Model_mixture_136 ⟨Nat.le_of_ble_eq_true rfl, Nat.le_of_ble_eq_true rfl⟩)) (fun r u H locs hw hP hD hS => ?_)
                have hw := hw.symm
                subst hw
                have hP : va_P (dC, dI) vwCl (uw_Model ad_md cA_md md) H := hP
                have hD : va_D A (uw_Model ad_md cA_md md) := hD
                refine lv_goto (tgt := 155) hx hb d_Model_mixture_139 (by decide) ?_
                exact ret u12 md H locs ls 155 d_Model_mixture_155 (hf_e hf) hP hD hS
          · have hf := hf_t hf hc7
            refine lv_iload_n hx hb d_Model_mixture_116 rfl (lv_at hl 2 rfl) ?_
            refine lv_goto (tgt := 155) hx hb d_Model_mixture_117 (by decide) ?_
            exact ret y2 md H locs ls 155 d_Model_mixture_155 (hf_e hf) hP hD hS
        · have hf := hf_t hf hc6
          refine lv_aload_n hx hb d_Model_mixture_104 rfl (lv_at hl 0 rfl) ?_
          obtain ⟨u13, hu13, hf⟩ := Option.bind_eq_some_iff.mp hf
          refine cl_i (wc := (uw_Model ad_md cA_md md)) (wr := []) (tysC := [(cA_md 1, .int), (cA_md 2, .int), (cA_md 3, .int), (cA_md 4, .int), (cA_md 5, .int), (cA_md 6, .int), (cA_md 7, .int), (cA_md 8, .int), (cA_md 9, .boolean), (cA_md 10, .int), (cA_md 11, .int), (cA_md 12, .int), (cA_md 13, .int)]) (wu := fun (u : Unit) => (uw_Model ad_md cA_md md)) (wn := fun (u : Unit) => (uw_Model ad_md cA_md md)) [0, 1, 2, 3, 4, 5, 6, 7, 8, 9, 10, 11, 12, 13] [] [0, 1, 2, 3, 4, 5, 6, 7, 8, 9, 10, 11, 12, 13] [0, 1, 2, 3, 4, 5, 6, 7, 8, 9, 10, 11, 12] hP hD hS hA hK rfl rfl (by decide +kernel) (by decide +kernel) (by decide +kernel) rfl (fun _ => rfl) (by decide +kernel) (fun hPc hKc hDc => (va_runV (As := []) (rest := []) ⟨hx, hb, hml, hown, hts⟩ (k_Model_strictness l dC dI ad_md cA_md H.size md u13 hu13) (cwV 0 hts (gV wd_955 wd_957 wd_39 wd_49 wd_958) rfl rfl rfl (by decide +kernel) ⟨Nat.le_of_ble_eq_true rfl, Nat.le_of_ble_eq_true rfl⟩) (cl_preV hPc hKc hDc hN (ci := 6) 0 rfl rfl) rfl rfl hl.1 rfl (lv_room (Nat.le_of_ble_eq_true rfl)) d_Model_mixture_105 ⟨Nat.le_of_ble_eq_true rfl, Nat.le_of_ble_eq_true rfl⟩)) (fun r u H locs hw hP hD hS => ?_)
          have hw := hw.symm
          subst hw
          have hP : va_P (dC, dI) vwCl (uw_Model ad_md cA_md md) H := hP
          have hD : va_D A (uw_Model ad_md cA_md md) := hD
          refine lv_goto (tgt := 155) hx hb d_Model_mixture_108 (by decide) ?_
          exact ret u13 md H locs ls 155 d_Model_mixture_155 (hf_e hf) hP hD hS
      · have hf := hf_f hf hc5
        refine lv_iload_n hx hb d_Model_mixture_44 rfl (lv_at hl 2 rfl) ?_
        refine lv_aload_n hx hb d_Model_mixture_45 rfl (lv_at hl 0 rfl) ?_
        refine va_get (D := (dC, dI)) (ci := 6) (v := .ref (ad_md 2)) (C := "HazardTablesModel") (T := F_Model) (N := 30) hx hb hts hin_Model hown hK hP 0 rfl rfl 6 (by decide) fl_17 (fun _ h9 => h9) rfl d_Model_mixture_46 ?_
        refine lv_aload_n hx hb d_Model_mixture_49 rfl (lv_at hl 0 rfl) ?_
        refine va_get (D := (dC, dI)) (ci := 6) (v := .ref (ad_md 6)) (C := "HazardTablesModel") (T := F_Model) (N := 30) hx hb hts hin_Model hown hK hP 0 rfl rfl 15 (by decide) fl_29 (fun _ h9 => h9) rfl d_Model_mixture_50 ?_
        refine lv_iload hx hb d_Model_mixture_53 (lv_at hl 4 rfl) ?_
        obtain ⟨hi14, hf⟩ := hf_g hf
        refine va_iald hx hb hK hP 6 5 rfl rfl hi14 d_Model_mixture_55 ?_
        refine lv_bipush (v := (43 : Int32)) hx hb d_Model_mixture_56 (by decide) ?_
        refine lv_imul hx hb d_Model_mixture_58 ?_
        refine lv_iconst (v := (3 : Int32)) hx hb d_Model_mixture_59 (by decide) ?_
        refine lv_iadd hx hb d_Model_mixture_60 ?_
        obtain ⟨hi15, hf⟩ := hf_g hf
        refine va_iald hx hb hK hP 2 1 rfl rfl hi15 d_Model_mixture_61 ?_
        refine lv_ior hx hb d_Model_mixture_62 ?_
        refine lv_istore_n (lv' := [(2, .int (y2 ||| (md.2.2.2.1.2.2 (((md.2.2.2.2.1.2.2.2.1 y4.toNatClampNeg) * (43 : Int32)) + (3 : Int32)).toNatClampNeg))), (0, .ref (ad_md 0)), (1, .int y1), (3, .int y3), (4, .int y4)]) hx hb d_Model_mixture_63 rfl hl (by decide) rfl (fun ls hl => ?_)
        refine lv_iconst (v := (0 : Int32)) hx hb d_Model_mixture_64 (by decide) ?_
        refine lv_istore (lv' := [(5, .int (0 : Int32)), (2, .int (y2 ||| (md.2.2.2.1.2.2 (((md.2.2.2.2.1.2.2.2.1 y4.toNatClampNeg) * (43 : Int32)) + (3 : Int32)).toNatClampNeg))), (0, .ref (ad_md 0)), (1, .int y1), (3, .int y3), (4, .int y4)]) hx hb d_Model_mixture_65 hl (by decide) rfl (fun ls hl => ?_)
        exact w_67 (f_Model_mixture_35 n) ih 4096 md y1 (y2 ||| (md.2.2.2.1.2.2 (((md.2.2.2.2.1.2.2.2.1 y4.toNatClampNeg) * (43 : Int32)) + (3 : Int32)).toNatClampNeg)) y3 y4 (0 : Int32) H locs ls hf hP hD hS (lv_sub hl [2, 3, 1, 4, 5, 0] rfl)
  have w_19 : ∀ (md : SModel) (y1 : Int32) (z1 : Bool) (z2 : Bool) (H : Heap) (locs : List Loc) (ls : Array Slot), f_Model_mixture_19 md y1 z1 z2 = some res → va_P (dC, dI) vwCl (uw_Model ad_md cA_md md) H → va_D A (uw_Model ad_md cA_md md) → va_S A s.heap H locs → lv_has ls 6 [(0, .ref (ad_md 0)), (1, .int y1)] → W p l e (headSpec w_Model_mixture ({ frames := 1, cells := 0, slots := 0, locals := 24 })).room s m ([.ref (ad_md 0), .int x1] : List Value).toArray below meth c H locs 0 0 Q (F0 m 19 ls [.int (bI z2), .int (bI z1), .ref (ad_md 0)]) := by
    intro md y1 z1 z2 H locs ls hf hP hD hS hl
    rw [f_Model_mixture_19] at hf
    refine lv_iconst (v := (1 : Int32)) hx hb d_Model_mixture_19 (by decide) ?_
    obtain ⟨u3, hu3, hf⟩ := Option.bind_eq_some_iff.mp hf
    refine cl_i (wc := (uw_Model ad_md cA_md md)) (wr := []) (tysC := [(cA_md 1, .int), (cA_md 2, .int), (cA_md 3, .int), (cA_md 4, .int), (cA_md 5, .int), (cA_md 6, .int), (cA_md 7, .int), (cA_md 8, .int), (cA_md 9, .boolean), (cA_md 10, .int), (cA_md 11, .int), (cA_md 12, .int), (cA_md 13, .int)]) (wu := fun (u : SModel) => (uw_Model ad_md cA_md u)) (wn := fun (u : SModel) => (uw_Model ad_md cA_md u)) [0, 1, 2, 3, 4, 5, 6, 7, 8, 9, 10, 11, 12, 13] [] [0, 1, 2, 3, 4, 5, 6, 7, 8, 9, 10, 11, 12, 13] [0, 1, 2, 3, 4, 5, 6, 7, 8, 9, 10, 11, 12] hP hD hS hA hK rfl rfl (by decide +kernel) (by decide +kernel) (by decide +kernel) rfl (fun _ => rfl) (by decide +kernel) (fun hPc hKc hDc => (va_runV (As := [.int (bI z1), .int (bI z2), .int (1 : Int32)]) (rest := []) ⟨hx, hb, hml, hown, hts⟩ (k_Model_goes l dC dI ad_md cA_md H.size md z1 z2 true u3 hu3) (cwV 3 hts (gV wd_850 wd_852 wd_22 wd_49 wd_853) rfl rfl rfl (by decide +kernel) ⟨Nat.le_of_ble_eq_true rfl, Nat.le_of_ble_eq_true rfl⟩) (cl_preV hPc hKc hDc hN (ci := 6) 0 rfl rfl) rfl rfl hl.1 rfl (lv_room (Nat.le_of_ble_eq_true rfl)) d_Model_mixture_20 ⟨Nat.le_of_ble_eq_true rfl, Nat.le_of_ble_eq_true rfl⟩)) (fun r u H locs hw hP hD hS => ?_)
    obtain ⟨hw1, hw2⟩ := hw
    have hw1 := hw1.symm
    have hw2 := hw2.symm
    subst hw1
    subst hw2
    have hP : va_P (dC, dI) vwCl (uw_Model ad_md cA_md u3.2) H := hP
    have hD : va_D A (uw_Model ad_md cA_md u3.2) := hD
    refine lv_if_ne (tgt := 28) hx hb d_Model_mixture_23 (by decide) (fun hc4 => ?_) (fun hc4 => ?_)
    · have hf := hf_f hf hc4
      refine lv_iconst (v := (0 : Int32)) hx hb d_Model_mixture_28 (by decide) ?_
      refine lv_istore_n (lv' := [(2, .int (0 : Int32)), (0, .ref (ad_md 0)), (1, .int y1)]) hx hb d_Model_mixture_29 rfl hl (by decide) rfl (fun ls hl => ?_)
      refine lv_iconst (v := (0 : Int32)) hx hb d_Model_mixture_30 (by decide) ?_
      refine lv_istore_n (lv' := [(3, .int (0 : Int32)), (2, .int (0 : Int32)), (0, .ref (ad_md 0)), (1, .int y1)]) hx hb d_Model_mixture_31 rfl hl (by decide) rfl (fun ls hl => ?_)
      refine lv_iconst (v := (0 : Int32)) hx hb d_Model_mixture_32 (by decide) ?_
      refine lv_istore (lv' := [(4, .int (0 : Int32)), (3, .int (0 : Int32)), (2, .int (0 : Int32)), (0, .ref (ad_md 0)), (1, .int y1)]) hx hb d_Model_mixture_33 hl (by decide) rfl (fun ls hl => ?_)
      exact w_35 4096 u3.2 y1 (0 : Int32) (0 : Int32) (0 : Int32) H locs ls hf hP hD hS (lv_sub hl [3, 4, 2, 1, 0] rfl)
    · have hf := hf_t hf hc4
      refine lv_iconst (v := (0 : Int32)) hx hb d_Model_mixture_26 (by decide) ?_
      exact ret (0 : Int32) u3.2 H locs ls 27 d_Model_mixture_27 (hf_e hf) hP hD hS
  have hl := lv_entry ([.ref (ad_md 0), .int x1]) (n := 6) (Nat.le_of_ble_eq_true rfl)
  rw [lg_entry_eq]
  generalize (lg_sl ([.ref (ad_md 0), .int x1]) ++ List.replicate (6 - (lg_sl ([.ref (ad_md 0), .int x1])).length) Slot.unset).toArray = ls at hl ⊢
  have hl : lv_has ls 6 [(0, .ref (ad_md 0)), (1, .int x1)] := hl
  have hf := hf
  rw [f_Model_mixture] at hf
  obtain ⟨H, hH⟩ : ∃ H : Heap, H = s.heap := ⟨_, rfl⟩
  obtain ⟨locs, hlocs⟩ : ∃ L : List Loc, L = [] := ⟨_, rfl⟩
  have hP : va_P (dC, dI) vwCl (uw_Model ad_md cA_md md) H := by rw [hH]; exact hP
  have hS : va_S A s.heap H locs := by rw [hH, hlocs]; exact hS
  show W p l e (headSpec w_Model_mixture ({ frames := 1, cells := 0, slots := 0, locals := 24 })).room s m ([.ref (ad_md 0), .int x1] : List Value).toArray below meth c s.heap [] 0 0 Q (F0 m 0 ls [])
  suffices hgo : W p l e (headSpec w_Model_mixture ({ frames := 1, cells := 0, slots := 0, locals := 24 })).room s m ([.ref (ad_md 0), .int x1] : List Value).toArray below meth c H locs 0 0 Q (F0 m 0 ls []) by rw [hH, hlocs] at hgo; exact hgo
  clear hH hlocs
  refine lv_aload_n hx hb d_Model_mixture_0 rfl (lv_at hl 0 rfl) ?_
  refine lv_iload_n hx hb d_Model_mixture_1 rfl (lv_at hl 1 rfl) ?_
  refine lv_iconst (v := (0 : Int32)) hx hb d_Model_mixture_2 (by decide) ?_
  refine lv_iconst (v := (5 : Int32)) hx hb d_Model_mixture_3 (by decide) ?_
  obtain ⟨u1, hu1, hf⟩ := Option.bind_eq_some_iff.mp hf
  refine cl_i (wc := []) (wr := (uw_Model ad_md cA_md md)) (tysC := []) (wu := fun (u : Unit) => []) (wn := fun (u : Unit) => (uw_Model ad_md cA_md md)) [] [0, 1, 2, 3, 4, 5, 6, 7, 8, 9, 10, 11, 12, 13] [0, 1, 2, 3, 4, 5, 6, 7, 8, 9, 10, 11, 12, 13] [] hP hD hS hA hK rfl rfl (by decide +kernel) (by decide +kernel) (by decide +kernel) rfl (fun _ => rfl) (by decide +kernel) (fun hPc hKc hDc => (va_runS (As := [.int x1, .int (0 : Int32), .int (5 : Int32)]) (rest := [.ref (ad_md 0)]) ⟨hx, hb, hml, hown, hts⟩ (k_Model_within l dC dI  H.size x1 (0 : Int32) (5 : Int32) u1 hu1) (cwS 3 hts (gS wd_847 wd_848 wd_49 wd_849) rfl rfl rfl (by decide +kernel) ⟨Nat.le_of_ble_eq_true rfl, Nat.le_of_ble_eq_true rfl⟩) (cl_preS hPc hKc hDc hN) rfl rfl hl.1 rfl (lv_room (Nat.le_of_ble_eq_true rfl)) d_Model_mixture_4 ⟨Nat.le_of_ble_eq_true rfl, Nat.le_of_ble_eq_true rfl⟩)) (fun r u H locs hw hP hD hS => ?_)
  have hw := hw.symm
  subst hw
  have hP : va_P (dC, dI) vwCl (uw_Model ad_md cA_md md) H := hP
  have hD : va_D A (uw_Model ad_md cA_md md) := hD
  refine lv_aload_n hx hb d_Model_mixture_7 rfl (lv_at hl 0 rfl) ?_
  refine va_get (D := (dC, dI)) (ci := 6) (v := .int md.2.2.2.2.1.1) (C := "HazardTablesModel") (T := F_Model) (N := 30) hx hb hts hin_Model hown hK hP 0 rfl rfl 12 (by decide) fl_157 (fun _ h9 => h9) rfl d_Model_mixture_8 ?_
  refine lv_if_le (tgt := 18) hx hb d_Model_mixture_11 (by decide) (fun hc2 => ?_) (fun hc2 => ?_)
  · have hf := hf_t hf hc2
    refine lv_iconst (v := (0 : Int32)) hx hb d_Model_mixture_18 (by decide) ?_
    exact w_19 md x1 u1 false H locs ls hf hP hD hS (lv_sub hl [0, 1] rfl)
  · have hf := hf_f hf hc2
    refine lv_iconst (v := (1 : Int32)) hx hb d_Model_mixture_14 (by decide) ?_
    refine lv_goto (tgt := 19) hx hb d_Model_mixture_15 (by decide) ?_
    exact w_19 md x1 u1 true H locs ls hf hP hD hS (lv_sub hl [0, 1] rfl)
