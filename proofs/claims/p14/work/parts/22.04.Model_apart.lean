noncomputable def f_Model_apart_125 (k_9 : SModel → Int32 → Int32 → Int32 → Option (Int32 × SModel)) (k_20 : SModel → Int32 → Int32 → Int32 → Int32 → Option (Int32 × SModel)) (md : SModel) (y1 : Int32) (y2 : Int32) (y3 : Int32) (y4 : Int32) (y5 : Int32) : Option (Int32 × SModel) :=
  (if inb ((y3 * (11 : Int32)) + y4) 99 then
    (k_20 (md.1, md.2.1, md.2.2.1, md.2.2.2.1, md.2.2.2.2.1, md.2.2.2.2.2.1, md.2.2.2.2.2.2.1, md.2.2.2.2.2.2.2.1, (md.2.2.2.2.2.2.2.2.1, md.2.2.2.2.2.2.2.2.2.1, upd md.2.2.2.2.2.2.2.2.2.2 ((y3 * (11 : Int32)) + y4).toNatClampNeg y5)) y1 y2 y3 (y4 + (1 : Int32)))
   else none)
noncomputable def f_Model_apart_82 (k_9 : SModel → Int32 → Int32 → Int32 → Option (Int32 × SModel)) (k_20 : SModel → Int32 → Int32 → Int32 → Int32 → Option (Int32 × SModel)) (md : SModel) (y1 : Int32) (y2 : Int32) (y3 : Int32) (y4 : Int32) (z0 : Int32) (z1 : Bool) : Option (Int32 × SModel) :=
  (if inb (((y3 - (1 : Int32)) * (11 : Int32)) + y4) 99 then
    (if inb (((y3 * (11 : Int32)) + y4) - (1 : Int32)) 99 then
      (Option.bind (f_Model_least (md.2.2.2.2.2.2.2.2.2.2 (((y3 - (1 : Int32)) * (11 : Int32)) + y4).toNatClampNeg) (md.2.2.2.2.2.2.2.2.2.2 (((y3 * (11 : Int32)) + y4) - (1 : Int32)).toNatClampNeg)) fun u14 =>
        (Option.bind (f_Model_least (z0 + (bI z1)) (u14 + (1 : Int32))) fun u15 =>
          (f_Model_apart_125 k_9 k_20 md y1 y2 y3 y4 u15)
         )
       )
     else none)
   else none)
noncomputable def f_Model_apart_20 (k_9 : SModel → Int32 → Int32 → Int32 → Option (Int32 × SModel)) : Nat → SModel → Int32 → Int32 → Int32 → Int32 → Option (Int32 × SModel)
  | 0, _, _, _, _, _ => none
  | n + 1, md, y1, y2, y3, y4 =>
    (if y2 < y4 then
      (k_9 md y1 y2 (y3 + (1 : Int32)))
     else
      (if y3 ≤ 0 then
        (f_Model_apart_125 k_9 (f_Model_apart_20 k_9 n) md y1 y2 y3 y4 (y3 + y4))
       else
        (if y4 ≤ 0 then
          (f_Model_apart_125 k_9 (f_Model_apart_20 k_9 n) md y1 y2 y3 y4 (y3 + y4))
         else
          (if inb ((((y3 - (1 : Int32)) * (11 : Int32)) + y4) - (1 : Int32)) 99 then
            (if inb (y3 - (1 : Int32)) 8 then
              (if inb (y1 + y4) 559 then
                (if (md.2.2.2.2.2.2.2.2.2.1 (y3 - (1 : Int32)).toNatClampNeg) = (md.2.2.2.1.2.2 (y1 + y4).toNatClampNeg) then
                  (f_Model_apart_82 k_9 (f_Model_apart_20 k_9 n) md y1 y2 y3 y4 (md.2.2.2.2.2.2.2.2.2.2 ((((y3 - (1 : Int32)) * (11 : Int32)) + y4) - (1 : Int32)).toNatClampNeg) false)
                 else
                  (f_Model_apart_82 k_9 (f_Model_apart_20 k_9 n) md y1 y2 y3 y4 (md.2.2.2.2.2.2.2.2.2.2 ((((y3 - (1 : Int32)) * (11 : Int32)) + y4) - (1 : Int32)).toNatClampNeg) true)
                 )
               else none)
             else none)
           else none)
         )
       )
     )
noncomputable def f_Model_apart_9  : Nat → SModel → Int32 → Int32 → Int32 → Option (Int32 × SModel)
  | 0, _, _, _, _ => none
  | n + 1, md, y1, y2, y3 =>
    (if md.2.2.2.2.2.2.2.2.1 < y3 then
      (if inb ((md.2.2.2.2.2.2.2.2.1 * (11 : Int32)) + y2) 99 then
        (some (md.2.2.2.2.2.2.2.2.2.2 ((md.2.2.2.2.2.2.2.2.1 * (11 : Int32)) + y2).toNatClampNeg, md))
       else none)
     else
      (f_Model_apart_20 (f_Model_apart_9 n) 4096 md y1 y2 y3 (0 : Int32))
     )
noncomputable def f_Model_apart (md : SModel) (x1 : Int32) : Option (Int32 × SModel) :=
  (if inb x1 559 then
    (f_Model_apart_9 4096 md x1 (md.2.2.2.1.2.2 x1.toNatClampNeg) (0 : Int32))
   else none)
set_option maxHeartbeats 4000000 in
set_option maxRecDepth 100000 in
theorem k_Model_apart (l : Launch) (dC : Nat → ClassId) (dI : Nat → Nat → Nat) (ad_md : Nat → Nat) (cA_md : Nat → ClassId) (sz : Nat) (md : SModel) (x1 : Int32) (res : Int32 × SModel) (hf : f_Model_apart md x1 = some res) : Met l y_Model_apart w_Model_apart ({ frames := 1, cells := 0, slots := 0, locals := 21 }) (cPc (dC, dI) (uw_Model ad_md cA_md md) [(cA_md 1, .int), (cA_md 2, .int), (cA_md 3, .int), (cA_md 4, .int), (cA_md 5, .int), (cA_md 6, .int), (cA_md 7, .int), (cA_md 8, .int), (cA_md 9, .boolean), (cA_md 10, .int), (cA_md 11, .int), (cA_md 12, .int), (cA_md 13, .int)] sz [.ref (ad_md 0), .int x1]) (va_Qi (fun (r : Int32) (u : SModel) => r = res.1 ∧ u = res.2) (fun (u : SModel) (t : State) => va_P (dC, dI) vwCl (uw_Model ad_md cA_md u) t.heap ∧ va_K (dC, dI) vwCl [(cA_md 1, .int), (cA_md 2, .int), (cA_md 3, .int), (cA_md 4, .int), (cA_md 5, .int), (cA_md 6, .int), (cA_md 7, .int), (cA_md 8, .int), (cA_md 9, .boolean), (cA_md 10, .int), (cA_md 11, .int), (cA_md 12, .int), (cA_md 13, .int)] t ∧ va_D (va_A (uw_Model ad_md cA_md md) sz) (uw_Model ad_md cA_md u)) (va_A (uw_Model ad_md cA_md md) sz)) 0 0 (va_A (uw_Model ad_md cA_md md) sz) := by
  refine Met.ofW (cc := b_Model_apart) (maxL := 6) (ret := (some .int)) (by decide) rfl ?_
  intro p e s m args below meth c s₁ B hml hv
  obtain ⟨rfl, hsz, hP, hK, hD0, hN⟩ := hv
  have hx := B.exec
  have hb := B.bytes
  have hr := B.returns
  have hts := atoms_spec (ws := w_Model_apart) B.pre
  have hown : s.vm.findClass "HazardTablesModel" = some m.cls := findClass_of_methodNamed B.named
  have hlocks := B.notSynchronized
  subst hsz
  have hD := hD0.self (sz := s.heap.size)
  generalize hAe : va_A (uw_Model ad_md cA_md md) s.heap.size = A at hD ⊢
  have hA : ∀ q : Nat, s.heap.size ≤ q → A q := fun q h => by rw [← hAe]; exact Or.inr h
  have hS : va_S A s.heap s.heap [] := va_S.rf
  have hP : va_P (dC, dI) vwCl (uw_Model ad_md cA_md md) s.heap := hP
  have fl_134 := (hts _ (List.mem_cons_of_mem _ wd_775))
  have fl_17 := (hts _ (List.mem_cons_of_mem _ wd_754))
  have fl_58 := (hts _ (List.mem_cons_of_mem _ wd_776))
  have fl_61 := (hts _ (List.mem_cons_of_mem _ wd_777))
  have hin_Model : ∀ w ∈ u_ws "HazardTablesModel" F_Model 30, w ∈ w_Model_apart := fun w h => List.mem_cons_of_mem _ (hinA_Model w h)
  have ret : ∀ (v : Int32) (u : SModel) (H : Heap) (locs : List Loc) (ls : Array Slot) (pc : Nat), decode b_Model_apart pc = .ok (.ireturn, 1) → (v = res.1 ∧ u = res.2) → va_P (dC, dI) vwCl (uw_Model ad_md cA_md u) H → va_D A (uw_Model ad_md cA_md u) → va_S A s.heap H locs → W p l e (headSpec w_Model_apart ({ frames := 1, cells := 0, slots := 0, locals := 21 })).room s m ([.ref (ad_md 0), .int x1] : List Value).toArray below meth c H locs 0 0 (MQ below (va_Qi (fun (r : Int32) (u : SModel) => r = res.1 ∧ u = res.2) (fun (u : SModel) (t : State) => va_P (dC, dI) vwCl (uw_Model ad_md cA_md u) t.heap ∧ va_K (dC, dI) vwCl [(cA_md 1, .int), (cA_md 2, .int), (cA_md 3, .int), (cA_md 4, .int), (cA_md 5, .int), (cA_md 6, .int), (cA_md 7, .int), (cA_md 8, .int), (cA_md 9, .boolean), (cA_md 10, .int), (cA_md 11, .int), (cA_md 12, .int), (cA_md 13, .int)] t ∧ va_D A (uw_Model ad_md cA_md u)) A) ([.ref (ad_md 0), .int x1] : List Value).toArray s 0 0 A) (F0 m pc ls [.int v]) := fun v u H locs ls pc hd hp hP hD hS => W.iret (v := v) hx hb hr (fun t ht hW => ⟨⟨v, u, rfl, hp, by rw [ht]; exact hP, va_K.moved hW.alike hK, hD⟩, hS.F ht⟩) hS.2.2 hd
  generalize (MQ below (va_Qi (fun (r : Int32) (u : SModel) => r = res.1 ∧ u = res.2) (fun (u : SModel) (t : State) => va_P (dC, dI) vwCl (uw_Model ad_md cA_md u) t.heap ∧ va_K (dC, dI) vwCl [(cA_md 1, .int), (cA_md 2, .int), (cA_md 3, .int), (cA_md 4, .int), (cA_md 5, .int), (cA_md 6, .int), (cA_md 7, .int), (cA_md 8, .int), (cA_md 9, .boolean), (cA_md 10, .int), (cA_md 11, .int), (cA_md 12, .int), (cA_md 13, .int)] t ∧ va_D A (uw_Model ad_md cA_md u)) A) ([.ref (ad_md 0), .int x1] : List Value).toArray s 0 0 A) = Q at ret ⊢
  have w_125 : ∀ (k_9 : SModel → Int32 → Int32 → Int32 → Option (Int32 × SModel)), (∀ (md : SModel) (y1 : Int32) (y2 : Int32) (y3 : Int32) (H : Heap) (locs : List Loc) (ls : Array Slot), k_9 md y1 y2 y3 = some res → va_P (dC, dI) vwCl (uw_Model ad_md cA_md md) H → va_D A (uw_Model ad_md cA_md md) → va_S A s.heap H locs → lv_has ls 6 [(0, .ref (ad_md 0)), (1, .int y1), (2, .int y2), (3, .int y3)] → W p l e (headSpec w_Model_apart ({ frames := 1, cells := 0, slots := 0, locals := 21 })).room s m ([.ref (ad_md 0), .int x1] : List Value).toArray below meth c H locs 0 0 Q (F0 m 9 ls [])) → ∀ (k_20 : SModel → Int32 → Int32 → Int32 → Int32 → Option (Int32 × SModel)), (∀ (md : SModel) (y1 : Int32) (y2 : Int32) (y3 : Int32) (y4 : Int32) (H : Heap) (locs : List Loc) (ls : Array Slot), k_20 md y1 y2 y3 y4 = some res → va_P (dC, dI) vwCl (uw_Model ad_md cA_md md) H → va_D A (uw_Model ad_md cA_md md) → va_S A s.heap H locs → lv_has ls 6 [(0, .ref (ad_md 0)), (1, .int y1), (2, .int y2), (3, .int y3), (4, .int y4)] → W p l e (headSpec w_Model_apart ({ frames := 1, cells := 0, slots := 0, locals := 21 })).room s m ([.ref (ad_md 0), .int x1] : List Value).toArray below meth c H locs 0 0 Q (F0 m 20 ls [])) → ∀ (md : SModel) (y1 : Int32) (y2 : Int32) (y3 : Int32) (y4 : Int32) (y5 : Int32) (H : Heap) (locs : List Loc) (ls : Array Slot), f_Model_apart_125 k_9 k_20 md y1 y2 y3 y4 y5 = some res → va_P (dC, dI) vwCl (uw_Model ad_md cA_md md) H → va_D A (uw_Model ad_md cA_md md) → va_S A s.heap H locs → lv_has ls 6 [(0, .ref (ad_md 0)), (1, .int y1), (2, .int y2), (3, .int y3), (4, .int y4), (5, .int y5)] → W p l e (headSpec w_Model_apart ({ frames := 1, cells := 0, slots := 0, locals := 21 })).room s m ([.ref (ad_md 0), .int x1] : List Value).toArray below meth c H locs 0 0 Q (F0 m 125 ls []) := by
    intro k_9 hk_9 k_20 hk_20
    intro md y1 y2 y3 y4 y5 H locs ls hf hP hD hS hl
    rw [f_Model_apart_125] at hf
    refine lv_aload_n hx hb d_Model_apart_125 rfl (lv_at hl 0 rfl) ?_
    refine va_get (D := (dC, dI)) (ci := 6) (v := .ref (ad_md 13)) (C := "HazardTablesModel") (T := F_Model) (N := 30) hx hb hts hin_Model hown hK hP 0 rfl rfl 29 (by decide) fl_61 (fun _ h9 => h9) rfl d_Model_apart_126 ?_
    refine lv_iload_n hx hb d_Model_apart_129 rfl (lv_at hl 3 rfl) ?_
    refine lv_bipush (v := (11 : Int32)) hx hb d_Model_apart_130 (by decide) ?_
    refine lv_imul hx hb d_Model_apart_132 ?_
    refine lv_iload hx hb d_Model_apart_133 (lv_at hl 4 rfl) ?_
    refine lv_iadd hx hb d_Model_apart_135 ?_
    refine lv_iload hx hb d_Model_apart_136 (lv_at hl 5 rfl) ?_
    obtain ⟨hi11, hf⟩ := hf_g hf
    refine va_iast hx hb hK hP hD hS 13 12 rfl rfl hi11 d_Model_apart_138 (fun H locs hP hD hS => ?_)
    have hP : va_P (dC, dI) vwCl (uw_Model ad_md cA_md (md.1, md.2.1, md.2.2.1, md.2.2.2.1, md.2.2.2.2.1, md.2.2.2.2.2.1, md.2.2.2.2.2.2.1, md.2.2.2.2.2.2.2.1, (md.2.2.2.2.2.2.2.2.1, md.2.2.2.2.2.2.2.2.2.1, upd md.2.2.2.2.2.2.2.2.2.2 ((y3 * (11 : Int32)) + y4).toNatClampNeg y5))) H := hP
    have hD : va_D A (uw_Model ad_md cA_md (md.1, md.2.1, md.2.2.1, md.2.2.2.1, md.2.2.2.2.1, md.2.2.2.2.2.1, md.2.2.2.2.2.2.1, md.2.2.2.2.2.2.2.1, (md.2.2.2.2.2.2.2.2.1, md.2.2.2.2.2.2.2.2.2.1, upd md.2.2.2.2.2.2.2.2.2.2 ((y3 * (11 : Int32)) + y4).toNatClampNeg y5))) := hD
    refine lv_iinc (v := y4 + (1 : Int32)) (lv' := [(4, .int (y4 + (1 : Int32))), (0, .ref (ad_md 0)), (1, .int y1), (2, .int y2), (3, .int y3), (5, .int y5)]) hx hb d_Model_apart_139 hl (k := 4) rfl rfl (by decide) rfl (fun ls hl => ?_)
    refine lv_goto (tgt := 20) hx hb d_Model_apart_142 (by decide) ?_
    exact hk_20 (md.1, md.2.1, md.2.2.1, md.2.2.2.1, md.2.2.2.2.1, md.2.2.2.2.2.1, md.2.2.2.2.2.2.1, md.2.2.2.2.2.2.2.1, (md.2.2.2.2.2.2.2.2.1, md.2.2.2.2.2.2.2.2.2.1, upd md.2.2.2.2.2.2.2.2.2.2 ((y3 * (11 : Int32)) + y4).toNatClampNeg y5)) y1 y2 y3 (y4 + (1 : Int32)) H locs ls hf hP hD hS (lv_sub hl [1, 2, 3, 4, 0] rfl)
  have w_82 : ∀ (k_9 : SModel → Int32 → Int32 → Int32 → Option (Int32 × SModel)), (∀ (md : SModel) (y1 : Int32) (y2 : Int32) (y3 : Int32) (H : Heap) (locs : List Loc) (ls : Array Slot), k_9 md y1 y2 y3 = some res → va_P (dC, dI) vwCl (uw_Model ad_md cA_md md) H → va_D A (uw_Model ad_md cA_md md) → va_S A s.heap H locs → lv_has ls 6 [(0, .ref (ad_md 0)), (1, .int y1), (2, .int y2), (3, .int y3)] → W p l e (headSpec w_Model_apart ({ frames := 1, cells := 0, slots := 0, locals := 21 })).room s m ([.ref (ad_md 0), .int x1] : List Value).toArray below meth c H locs 0 0 Q (F0 m 9 ls [])) → ∀ (k_20 : SModel → Int32 → Int32 → Int32 → Int32 → Option (Int32 × SModel)), (∀ (md : SModel) (y1 : Int32) (y2 : Int32) (y3 : Int32) (y4 : Int32) (H : Heap) (locs : List Loc) (ls : Array Slot), k_20 md y1 y2 y3 y4 = some res → va_P (dC, dI) vwCl (uw_Model ad_md cA_md md) H → va_D A (uw_Model ad_md cA_md md) → va_S A s.heap H locs → lv_has ls 6 [(0, .ref (ad_md 0)), (1, .int y1), (2, .int y2), (3, .int y3), (4, .int y4)] → W p l e (headSpec w_Model_apart ({ frames := 1, cells := 0, slots := 0, locals := 21 })).room s m ([.ref (ad_md 0), .int x1] : List Value).toArray below meth c H locs 0 0 Q (F0 m 20 ls [])) → ∀ (md : SModel) (y1 : Int32) (y2 : Int32) (y3 : Int32) (y4 : Int32) (z0 : Int32) (z1 : Bool) (H : Heap) (locs : List Loc) (ls : Array Slot), f_Model_apart_82 k_9 k_20 md y1 y2 y3 y4 z0 z1 = some res → va_P (dC, dI) vwCl (uw_Model ad_md cA_md md) H → va_D A (uw_Model ad_md cA_md md) → va_S A s.heap H locs → lv_has ls 6 [(0, .ref (ad_md 0)), (1, .int y1), (2, .int y2), (3, .int y3), (4, .int y4)] → W p l e (headSpec w_Model_apart ({ frames := 1, cells := 0, slots := 0, locals := 21 })).room s m ([.ref (ad_md 0), .int x1] : List Value).toArray below meth c H locs 0 0 Q (F0 m 82 ls [.int (bI z1), .int z0]) := by
    intro k_9 hk_9 k_20 hk_20
    intro md y1 y2 y3 y4 z0 z1 H locs ls hf hP hD hS hl
    rw [f_Model_apart_82] at hf
    refine lv_iadd hx hb d_Model_apart_82 ?_
    refine lv_istore (lv' := [(5, .int (z0 + (bI z1))), (0, .ref (ad_md 0)), (1, .int y1), (2, .int y2), (3, .int y3), (4, .int y4)]) hx hb d_Model_apart_83 hl (by decide) rfl (fun ls hl => ?_)
    refine lv_iload hx hb d_Model_apart_85 (lv_at hl 0 rfl) ?_
    refine lv_aload_n hx hb d_Model_apart_87 rfl (lv_at hl 1 rfl) ?_
    refine va_get (D := (dC, dI)) (ci := 6) (v := .ref (ad_md 13)) (C := "HazardTablesModel") (T := F_Model) (N := 30) hx hb hts hin_Model hown hK hP 0 rfl rfl 29 (by decide) fl_61 (fun _ h9 => h9) rfl d_Model_apart_88 ?_
    refine lv_iload_n hx hb d_Model_apart_91 rfl (lv_at hl 4 rfl) ?_
    refine lv_iconst (v := (1 : Int32)) hx hb d_Model_apart_92 (by decide) ?_
    refine lv_isub hx hb d_Model_apart_93 ?_
    refine lv_bipush (v := (11 : Int32)) hx hb d_Model_apart_94 (by decide) ?_
    refine lv_imul hx hb d_Model_apart_96 ?_
    refine lv_iload hx hb d_Model_apart_97 (lv_at hl 5 rfl) ?_
    refine lv_iadd hx hb d_Model_apart_99 ?_
    obtain ⟨hi12, hf⟩ := hf_g hf
    refine va_iald hx hb hK hP 13 12 rfl rfl hi12 d_Model_apart_100 ?_
    refine lv_aload_n hx hb d_Model_apart_101 rfl (lv_at hl 1 rfl) ?_
    refine va_get (D := (dC, dI)) (ci := 6) (v := .ref (ad_md 13)) (C := "HazardTablesModel") (T := F_Model) (N := 30) hx hb hts hin_Model hown hK hP 0 rfl rfl 29 (by decide) fl_61 (fun _ h9 => h9) rfl d_Model_apart_102 ?_
    refine lv_iload_n hx hb d_Model_apart_105 rfl (lv_at hl 4 rfl) ?_
    refine lv_bipush (v := (11 : Int32)) hx hb d_Model_apart_106 (by decide) ?_
    refine lv_imul hx hb d_Model_apart_108 ?_
    refine lv_iload hx hb d_Model_apart_109 (lv_at hl 5 rfl) ?_
    refine lv_iadd hx hb d_Model_apart_111 ?_
    refine lv_iconst (v := (1 : Int32)) hx hb d_Model_apart_112 (by decide) ?_
    refine lv_isub hx hb d_Model_apart_113 ?_
    obtain ⟨hi13, hf⟩ := hf_g hf
    refine va_iald hx hb hK hP 13 12 rfl rfl hi13 d_Model_apart_114 ?_
    obtain ⟨u14, hu14, hf⟩ := Option.bind_eq_some_iff.mp hf
    refine cl_i (wc := []) (wr := (uw_Model ad_md cA_md md)) (tysC := []) (wu := fun (u : Unit) => []) (wn := fun (u : Unit) => (uw_Model ad_md cA_md md)) [] [0, 1, 2, 3, 4, 5, 6, 7, 8, 9, 10, 11, 12, 13] [0, 1, 2, 3, 4, 5, 6, 7, 8, 9, 10, 11, 12, 13] [] hP hD hS hA hK rfl rfl (by decide +kernel) (by decide +kernel) (by decide +kernel) rfl (fun _ => rfl) (by decide +kernel) (fun hPc hKc hDc => (va_runS (As := [.int (md.2.2.2.2.2.2.2.2.2.2 (((y3 - (1 : Int32)) * (11 : Int32)) + y4).toNatClampNeg), .int (md.2.2.2.2.2.2.2.2.2.2 (((y3 * (11 : Int32)) + y4) - (1 : Int32)).toNatClampNeg)]) (rest := [.int (z0 + (bI z1))]) ⟨hx, hb, hml, hown, hts⟩ (k_Model_least l dC dI  H.size (md.2.2.2.2.2.2.2.2.2.2 (((y3 - (1 : Int32)) * (11 : Int32)) + y4).toNatClampNeg) (md.2.2.2.2.2.2.2.2.2.2 (((y3 * (11 : Int32)) + y4) - (1 : Int32)).toNatClampNeg) u14 hu14) (cwS 2 hts (gS wd_934 wd_935 wd_49 wd_936) rfl rfl rfl (by decide +kernel) ⟨Nat.le_of_ble_eq_true rfl, Nat.le_of_ble_eq_true rfl⟩) (cl_preS hPc hKc hDc hN) rfl rfl hl.1 rfl (lv_room (Nat.le_of_ble_eq_true rfl)) d_Model_apart_115 ⟨Nat.le_of_ble_eq_true rfl, Nat.le_of_ble_eq_true rfl⟩)) (fun r u H locs hw hP hD hS => ?_)
    have hw := hw.symm
    subst hw
    have hP : va_P (dC, dI) vwCl (uw_Model ad_md cA_md md) H := hP
    have hD : va_D A (uw_Model ad_md cA_md md) := hD
    refine lv_iconst (v := (1 : Int32)) hx hb d_Model_apart_118 (by decide) ?_
    refine lv_iadd hx hb d_Model_apart_119 ?_
    obtain ⟨u15, hu15, hf⟩ := Option.bind_eq_some_iff.mp hf
    refine cl_i (wc := []) (wr := (uw_Model ad_md cA_md md)) (tysC := []) (wu := fun (u : Unit) => []) (wn := fun (u : Unit) => (uw_Model ad_md cA_md md)) [] [0, 1, 2, 3, 4, 5, 6, 7, 8, 9, 10, 11, 12, 13] [0, 1, 2, 3, 4, 5, 6, 7, 8, 9, 10, 11, 12, 13] [] hP hD hS hA hK rfl rfl (by decide +kernel) (by decide +kernel) (by decide +kernel) rfl (fun _ => rfl) (by decide +kernel) (fun hPc hKc hDc => (va_runS (As := [.int (z0 + (bI z1)), .int (u14 + (1 : Int32))]) (rest := []) ⟨hx, hb, hml, hown, hts⟩ (k_Model_least l dC dI  H.size (z0 + (bI z1)) (u14 + (1 : Int32)) u15 hu15) (cwS 2 hts (gS wd_934 wd_935 wd_49 wd_936) rfl rfl rfl (by decide +kernel) ⟨Nat.le_of_ble_eq_true rfl, Nat.le_of_ble_eq_true rfl⟩) (cl_preS hPc hKc hDc hN) rfl rfl hl.1 rfl (lv_room (Nat.le_of_ble_eq_true rfl)) d_Model_apart_120 ⟨Nat.le_of_ble_eq_true rfl, Nat.le_of_ble_eq_true rfl⟩)) (fun r u H locs hw hP hD hS => ?_)
    have hw := hw.symm
    subst hw
    have hP : va_P (dC, dI) vwCl (uw_Model ad_md cA_md md) H := hP
    have hD : va_D A (uw_Model ad_md cA_md md) := hD
    refine lv_istore (lv' := [(5, .int u15), (0, .ref (ad_md 0)), (1, .int y1), (2, .int y2), (3, .int y3), (4, .int y4)]) hx hb d_Model_apart_123 hl (by decide) rfl (fun ls hl => ?_)
    exact w_125 k_9 hk_9 k_20 hk_20 md y1 y2 y3 y4 u15 H locs ls hf hP hD hS (lv_sub hl [1, 2, 3, 4, 5, 0] rfl)
  have w_20 : ∀ (k_9 : SModel → Int32 → Int32 → Int32 → Option (Int32 × SModel)), (∀ (md : SModel) (y1 : Int32) (y2 : Int32) (y3 : Int32) (H : Heap) (locs : List Loc) (ls : Array Slot), k_9 md y1 y2 y3 = some res → va_P (dC, dI) vwCl (uw_Model ad_md cA_md md) H → va_D A (uw_Model ad_md cA_md md) → va_S A s.heap H locs → lv_has ls 6 [(0, .ref (ad_md 0)), (1, .int y1), (2, .int y2), (3, .int y3)] → W p l e (headSpec w_Model_apart ({ frames := 1, cells := 0, slots := 0, locals := 21 })).room s m ([.ref (ad_md 0), .int x1] : List Value).toArray below meth c H locs 0 0 Q (F0 m 9 ls [])) → ∀ (n : Nat) (md : SModel) (y1 : Int32) (y2 : Int32) (y3 : Int32) (y4 : Int32) (H : Heap) (locs : List Loc) (ls : Array Slot), f_Model_apart_20 k_9 n md y1 y2 y3 y4 = some res → va_P (dC, dI) vwCl (uw_Model ad_md cA_md md) H → va_D A (uw_Model ad_md cA_md md) → va_S A s.heap H locs → lv_has ls 6 [(0, .ref (ad_md 0)), (1, .int y1), (2, .int y2), (3, .int y3), (4, .int y4)] → W p l e (headSpec w_Model_apart ({ frames := 1, cells := 0, slots := 0, locals := 21 })).room s m ([.ref (ad_md 0), .int x1] : List Value).toArray below meth c H locs 0 0 Q (F0 m 20 ls []) := by
    intro k_9 hk_9
    intro n
    induction n with
    | zero =>
      intro md y1 y2 y3 y4 H locs ls hf hP hD hS hl
      rw [f_Model_apart_20] at hf; cases hf
    | succ n ih =>
      intro md y1 y2 y3 y4 H locs ls hf hP hD hS hl
      rw [f_Model_apart_20] at hf
      refine lv_iload hx hb d_Model_apart_20 (lv_at hl 4 rfl) ?_
      refine lv_iload_n hx hb d_Model_apart_22 rfl (lv_at hl 2 rfl) ?_
      refine lv_icmp_gt (tgt := 145) hx hb d_Model_apart_23 (by decide) (fun hc4 => ?_) (fun hc4 => ?_)
      · have hf := hf_t hf hc4
        refine lv_iinc (v := y3 + (1 : Int32)) (lv' := [(3, .int (y3 + (1 : Int32))), (0, .ref (ad_md 0)), (1, .int y1), (2, .int y2), (4, .int y4)]) hx hb d_Model_apart_145 hl (k := 3) rfl rfl (by decide) rfl (fun ls hl => ?_)
        refine lv_goto (tgt := 9) hx hb d_Model_apart_148 (by decide) ?_
        exact hk_9 md y1 y2 (y3 + (1 : Int32)) H locs ls hf hP hD hS (lv_sub hl [1, 2, 3, 0] rfl)
      · have hf := hf_f hf hc4
        refine lv_iload_n hx hb d_Model_apart_26 rfl (lv_at hl 3 rfl) ?_
        refine lv_iload hx hb d_Model_apart_27 (lv_at hl 4 rfl) ?_
        refine lv_iadd hx hb d_Model_apart_29 ?_
        refine lv_istore (lv' := [(5, .int (y3 + y4)), (0, .ref (ad_md 0)), (1, .int y1), (2, .int y2), (3, .int y3), (4, .int y4)]) hx hb d_Model_apart_30 hl (by decide) rfl (fun ls hl => ?_)
        refine lv_iload_n hx hb d_Model_apart_32 rfl (lv_at hl 4 rfl) ?_
        refine lv_if_le (tgt := 125) hx hb d_Model_apart_33 (by decide) (fun hc5 => ?_) (fun hc5 => ?_)
        · have hf := hf_t hf hc5
          exact w_125 k_9 hk_9 (f_Model_apart_20 k_9 n) ih md y1 y2 y3 y4 (y3 + y4) H locs ls hf hP hD hS (lv_sub hl [1, 2, 3, 4, 5, 0] rfl)
        · have hf := hf_f hf hc5
          refine lv_iload hx hb d_Model_apart_36 (lv_at hl 5 rfl) ?_
          refine lv_if_le (tgt := 125) hx hb d_Model_apart_38 (by decide) (fun hc6 => ?_) (fun hc6 => ?_)
          · have hf := hf_t hf hc6
            exact w_125 k_9 hk_9 (f_Model_apart_20 k_9 n) ih md y1 y2 y3 y4 (y3 + y4) H locs ls hf hP hD hS (lv_sub hl [1, 2, 3, 4, 5, 0] rfl)
          · have hf := hf_f hf hc6
            refine lv_aload_n hx hb d_Model_apart_41 rfl (lv_at hl 1 rfl) ?_
            refine va_get (D := (dC, dI)) (ci := 6) (v := .ref (ad_md 13)) (C := "HazardTablesModel") (T := F_Model) (N := 30) hx hb hts hin_Model hown hK hP 0 rfl rfl 29 (by decide) fl_61 (fun _ h9 => h9) rfl d_Model_apart_42 ?_
            refine lv_iload_n hx hb d_Model_apart_45 rfl (lv_at hl 4 rfl) ?_
            refine lv_iconst (v := (1 : Int32)) hx hb d_Model_apart_46 (by decide) ?_
            refine lv_isub hx hb d_Model_apart_47 ?_
            refine lv_bipush (v := (11 : Int32)) hx hb d_Model_apart_48 (by decide) ?_
            refine lv_imul hx hb d_Model_apart_50 ?_
            refine lv_iload hx hb d_Model_apart_51 (lv_at hl 5 rfl) ?_
            refine lv_iadd hx hb d_Model_apart_53 ?_
            refine lv_iconst (v := (1 : Int32)) hx hb d_Model_apart_54 (by decide) ?_
            refine lv_isub hx hb d_Model_apart_55 ?_
            obtain ⟨hi7, hf⟩ := hf_g hf
            refine va_iald hx hb hK hP 13 12 rfl rfl hi7 d_Model_apart_56 ?_
            refine lv_aload_n hx hb d_Model_apart_57 rfl (lv_at hl 1 rfl) ?_
            refine va_get (D := (dC, dI)) (ci := 6) (v := .ref (ad_md 12)) (C := "HazardTablesModel") (T := F_Model) (N := 30) hx hb hts hin_Model hown hK hP 0 rfl rfl 28 (by decide) fl_58 (fun _ h9 => h9) rfl d_Model_apart_58 ?_
            refine lv_iload_n hx hb d_Model_apart_61 rfl (lv_at hl 4 rfl) ?_
            refine lv_iconst (v := (1 : Int32)) hx hb d_Model_apart_62 (by decide) ?_
            refine lv_isub hx hb d_Model_apart_63 ?_
            obtain ⟨hi8, hf⟩ := hf_g hf
            refine va_iald hx hb hK hP 12 11 rfl rfl hi8 d_Model_apart_64 ?_
            refine lv_aload_n hx hb d_Model_apart_65 rfl (lv_at hl 1 rfl) ?_
            refine va_get (D := (dC, dI)) (ci := 6) (v := .ref (ad_md 2)) (C := "HazardTablesModel") (T := F_Model) (N := 30) hx hb hts hin_Model hown hK hP 0 rfl rfl 6 (by decide) fl_17 (fun _ h9 => h9) rfl d_Model_apart_66 ?_
            refine lv_iload_n hx hb d_Model_apart_69 rfl (lv_at hl 2 rfl) ?_
            refine lv_iload hx hb d_Model_apart_70 (lv_at hl 5 rfl) ?_
            refine lv_iadd hx hb d_Model_apart_72 ?_
            obtain ⟨hi9, hf⟩ := hf_g hf
            refine va_iald hx hb hK hP 2 1 rfl rfl hi9 d_Model_apart_73 ?_
            refine lv_icmp_ne (tgt := 81) hx hb d_Model_apart_74 (by decide) (fun hc10 => ?_) (fun hc10 => ?_)
            · have hf := hf_f hf hc10
              refine lv_iconst (v := (1 : Int32)) hx hb d_Model_apart_81 (by decide) ?_
              exact w_82 k_9 hk_9 (f_Model_apart_20 k_9 n) ih md y1 y2 y3 y4 (md.2.2.2.2.2.2.2.2.2.2 ((((y3 - (1 : Int32)) * (11 : Int32)) + y4) - (1 : Int32)).toNatClampNeg) true H locs ls hf hP hD hS (lv_sub hl [1, 2, 3, 4, 5] rfl)
            · have hf := hf_t hf hc10
              refine lv_iconst (v := (0 : Int32)) hx hb d_Model_apart_77 (by decide) ?_
              refine lv_goto (tgt := 82) hx hb d_Model_apart_78 (by decide) ?_
              exact w_82 k_9 hk_9 (f_Model_apart_20 k_9 n) ih md y1 y2 y3 y4 (md.2.2.2.2.2.2.2.2.2.2 ((((y3 - (1 : Int32)) * (11 : Int32)) + y4) - (1 : Int32)).toNatClampNeg) false H locs ls hf hP hD hS (lv_sub hl [1, 2, 3, 4, 5] rfl)
  have w_9 : ∀ (n : Nat) (md : SModel) (y1 : Int32) (y2 : Int32) (y3 : Int32) (H : Heap) (locs : List Loc) (ls : Array Slot), f_Model_apart_9 n md y1 y2 y3 = some res → va_P (dC, dI) vwCl (uw_Model ad_md cA_md md) H → va_D A (uw_Model ad_md cA_md md) → va_S A s.heap H locs → lv_has ls 6 [(0, .ref (ad_md 0)), (1, .int y1), (2, .int y2), (3, .int y3)] → W p l e (headSpec w_Model_apart ({ frames := 1, cells := 0, slots := 0, locals := 21 })).room s m ([.ref (ad_md 0), .int x1] : List Value).toArray below meth c H locs 0 0 Q (F0 m 9 ls []) := by
    intro n
    induction n with
    | zero =>
      intro md y1 y2 y3 H locs ls hf hP hD hS hl
      rw [f_Model_apart_9] at hf; cases hf
    | succ n ih =>
      intro md y1 y2 y3 H locs ls hf hP hD hS hl
      rw [f_Model_apart_9] at hf
      refine lv_iload_n hx hb d_Model_apart_9 rfl (lv_at hl 3 rfl) ?_
      refine lv_aload_n hx hb d_Model_apart_10 rfl (lv_at hl 0 rfl) ?_
      refine va_get (D := (dC, dI)) (ci := 6) (v := .int md.2.2.2.2.2.2.2.2.1) (C := "HazardTablesModel") (T := F_Model) (N := 30) hx hb hts hin_Model hown hK hP 0 rfl rfl 27 (by decide) fl_134 (fun _ h9 => h9) rfl d_Model_apart_11 ?_
      refine lv_icmp_gt (tgt := 151) hx hb d_Model_apart_14 (by decide) (fun hc2 => ?_) (fun hc2 => ?_)
      · have hf := hf_t hf hc2
        refine lv_aload_n hx hb d_Model_apart_151 rfl (lv_at hl 0 rfl) ?_
        refine va_get (D := (dC, dI)) (ci := 6) (v := .ref (ad_md 13)) (C := "HazardTablesModel") (T := F_Model) (N := 30) hx hb hts hin_Model hown hK hP 0 rfl rfl 29 (by decide) fl_61 (fun _ h9 => h9) rfl d_Model_apart_152 ?_
        refine lv_aload_n hx hb d_Model_apart_155 rfl (lv_at hl 0 rfl) ?_
        refine va_get (D := (dC, dI)) (ci := 6) (v := .int md.2.2.2.2.2.2.2.2.1) (C := "HazardTablesModel") (T := F_Model) (N := 30) hx hb hts hin_Model hown hK hP 0 rfl rfl 27 (by decide) fl_134 (fun _ h9 => h9) rfl d_Model_apart_156 ?_
        refine lv_bipush (v := (11 : Int32)) hx hb d_Model_apart_159 (by decide) ?_
        refine lv_imul hx hb d_Model_apart_161 ?_
        refine lv_iload_n hx hb d_Model_apart_162 rfl (lv_at hl 2 rfl) ?_
        refine lv_iadd hx hb d_Model_apart_163 ?_
        obtain ⟨hi3, hf⟩ := hf_g hf
        refine va_iald hx hb hK hP 13 12 rfl rfl hi3 d_Model_apart_164 ?_
        exact ret (md.2.2.2.2.2.2.2.2.2.2 ((md.2.2.2.2.2.2.2.2.1 * (11 : Int32)) + y2).toNatClampNeg) md H locs ls 165 d_Model_apart_165 (hf_e hf) hP hD hS
      · have hf := hf_f hf hc2
        refine lv_iconst (v := (0 : Int32)) hx hb d_Model_apart_17 (by decide) ?_
        refine lv_istore (lv' := [(4, .int (0 : Int32)), (0, .ref (ad_md 0)), (1, .int y1), (2, .int y2), (3, .int y3)]) hx hb d_Model_apart_18 hl (by decide) rfl (fun ls hl => ?_)
        exact w_20 (f_Model_apart_9 n) ih 4096 md y1 y2 y3 (0 : Int32) H locs ls hf hP hD hS (lv_sub hl [1, 2, 3, 4, 0] rfl)
  have hl := lv_entry ([.ref (ad_md 0), .int x1]) (n := 6) (Nat.le_of_ble_eq_true rfl)
  rw [lg_entry_eq]
  generalize (lg_sl ([.ref (ad_md 0), .int x1]) ++ List.replicate (6 - (lg_sl ([.ref (ad_md 0), .int x1])).length) Slot.unset).toArray = ls at hl ⊢
  have hl : lv_has ls 6 [(0, .ref (ad_md 0)), (1, .int x1)] := hl
  have hf := hf
  rw [f_Model_apart] at hf
  obtain ⟨H, hH⟩ : ∃ H : Heap, H = s.heap := ⟨_, rfl⟩
  obtain ⟨locs, hlocs⟩ : ∃ L : List Loc, L = [] := ⟨_, rfl⟩
  have hP : va_P (dC, dI) vwCl (uw_Model ad_md cA_md md) H := by rw [hH]; exact hP
  have hS : va_S A s.heap H locs := by rw [hH, hlocs]; exact hS
  show W p l e (headSpec w_Model_apart ({ frames := 1, cells := 0, slots := 0, locals := 21 })).room s m ([.ref (ad_md 0), .int x1] : List Value).toArray below meth c s.heap [] 0 0 Q (F0 m 0 ls [])
  suffices hgo : W p l e (headSpec w_Model_apart ({ frames := 1, cells := 0, slots := 0, locals := 21 })).room s m ([.ref (ad_md 0), .int x1] : List Value).toArray below meth c H locs 0 0 Q (F0 m 0 ls []) by rw [hH, hlocs] at hgo; exact hgo
  clear hH hlocs
  refine lv_aload_n hx hb d_Model_apart_0 rfl (lv_at hl 0 rfl) ?_
  refine va_get (D := (dC, dI)) (ci := 6) (v := .ref (ad_md 2)) (C := "HazardTablesModel") (T := F_Model) (N := 30) hx hb hts hin_Model hown hK hP 0 rfl rfl 6 (by decide) fl_17 (fun _ h9 => h9) rfl d_Model_apart_1 ?_
  refine lv_iload_n hx hb d_Model_apart_4 rfl (lv_at hl 1 rfl) ?_
  obtain ⟨hi1, hf⟩ := hf_g hf
  refine va_iald hx hb hK hP 2 1 rfl rfl hi1 d_Model_apart_5 ?_
  refine lv_istore_n (lv' := [(2, .int (md.2.2.2.1.2.2 x1.toNatClampNeg)), (0, .ref (ad_md 0)), (1, .int x1)]) hx hb d_Model_apart_6 rfl hl (by decide) rfl (fun ls hl => ?_)
  refine lv_iconst (v := (0 : Int32)) hx hb d_Model_apart_7 (by decide) ?_
  refine lv_istore_n (lv' := [(3, .int (0 : Int32)), (2, .int (md.2.2.2.1.2.2 x1.toNatClampNeg)), (0, .ref (ad_md 0)), (1, .int x1)]) hx hb d_Model_apart_8 rfl hl (by decide) rfl (fun ls hl => ?_)
  exact w_9 4096 md x1 (md.2.2.2.1.2.2 x1.toNatClampNeg) (0 : Int32) H locs ls hf hP hD hS (lv_sub hl [2, 3, 1, 0] rfl)
