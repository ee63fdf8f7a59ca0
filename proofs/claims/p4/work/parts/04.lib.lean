/-! own rows: truth values, guards, a call by places -/
def bI (b : Bool) : Int32 := match b with
  | true => 1
  | false => 0
theorem nar_bI (b : Bool) : narrow .boolean (.int (bI b)) = .int (bI b) := by cases b <;> rfl
theorem fit_bI (b : Bool) : fits .boolean (.int (bI b)) = true := by cases b <;> rfl
/-- an index within, as the arrays' rows ask it -/
abbrev inb (i : Int32) (n : Nat) : Prop := ¬ (i < 0 ∨ n ≤ i.toNatClampNeg)
theorem hf_t {α : Type} {c : Prop} [Decidable c] {a b r : α} (h : (if c then a else b) = r) (hc : c) : a = r := (if_pos hc).symm.trans h
theorem hf_f {α : Type} {c : Prop} [Decidable c] {a b r : α} (h : (if c then a else b) = r) (hc : ¬ c) : b = r := (if_neg hc).symm.trans h
theorem hf_g {α : Type} {c : Prop} [Decidable c] {a : Option α} {r : α} (h : (if c then a else none) = some r) : c ∧ a = some r := by
  by_cases hc : c
  · exact ⟨hc, hf_t h hc⟩
  · exact nomatch hf_f h hc
theorem hf_e {α β : Type} {a : α} {b : β} {res : α × β} (h : some (a, b) = some res) : a = res.1 ∧ b = res.2 := by
  cases h
  exact ⟨rfl, rfl⟩
theorem fm_of {α β : Type} {f : α → Option β} : ∀ {l : List α} {l' : List β}, l.map f = l'.map some → l.filterMap f = l'
  | [], [], _ => rfl
  | [], _ :: _, h => by simp at h
  | _ :: _, [], h => by simp at h
  | a :: l, b :: l', h => by
    simp only [List.map_cons, List.cons.injEq] at h
    rw [List.filterMap_cons, h.1]
    simp only [fm_of h.2]
/-- a contract's start: the world, the tables, the words of nest mates -/
abbrev cPc (D : va_G) (wc : va_W) (tysC : List (ClassId × FieldType)) (sz : Nat) (av : List Value) : Array Value → State → Prop := va_Pc av (fun U => U.heap.size = sz ∧ va_P D vwCl wc U.heap ∧ va_K D vwCl tysC U ∧ va_D (fun _ => True) wc ∧ nwAll U)
section CL
variable {p : Program} {l : Launch} {e : Env} {R : Room} {s : State} {m : MethodId} {args : Array Value} {below : List Frame} {meth : Method} {c : Code} {H : Heap} {locs : List Loc} {cells slots mc ms : Nat} {Q : State → Prop} {pc : Nat} {ls : Array Slot} {st0 rest As : List Value} {D : va_G} {A0 : Nat → Prop} {H0 : Heap} {tys tysC : List (ClassId × FieldType)} {ws wc wr : va_W} {a : Array Value} {b ci : Nat}
theorem cl_preV {q : vw_C} {fs : List Value} (hPc : va_P D vwCl wc H) (hKc : va_K D vwCl tysC s) (hDc : va_D A0 wc) (hN : nwAll s) (q0 : Nat) (hc : vwCl[ci]? = some q) (he : wc[q0]? = some (b, .inr (ci, fs))) : PreV s H q.1 b (cPc D wc tysC H.size (.ref b :: As)) As :=
  ⟨fun a U g mk q => by
    obtain ⟨q0, q1, qP, qK, qD, qN⟩ := q
    exact ⟨q0, q1, qP, va_K.moved (u := U) (U := U.calling g mk a) (Vm.Alike.refl U.vm) qK, qD, nwAll_same (u := U) (U := U.calling g mk a) rfl qN⟩,
   va_recv hKc hPc (ci := ci) (q0 := q0) hc he, fun U hU hW => ⟨rfl, by rw [hU], by rw [hU]; exact hPc, va_K.moved hW.alike hKc, hDc.weaken (fun _ _ _ _ => trivial), nwAll_warm hW hN⟩⟩
theorem cl_preS (hPc : va_P D vwCl wc H) (hKc : va_K D vwCl tysC s) (hDc : va_D A0 wc) (hN : nwAll s) : PreS s H (cPc D wc tysC H.size As) As :=
  ⟨fun a U g mk q => by
    obtain ⟨q0, q1, qP, qK, qD, qN⟩ := q
    exact ⟨q0, q1, qP, va_K.moved (u := U) (U := U.calling g mk a) (Vm.Alike.refl U.vm) qK, qD, nwAll_same (u := U) (U := U.calling g mk a) rfl qN⟩,
   fun U hU hW => ⟨rfl, by rw [hU], by rw [hU]; exact hPc, va_K.moved hW.alike hKc, hDc.weaken (fun _ _ _ _ => trivial), nwAll_warm hW hN⟩⟩
theorem cl_i {S : Type} {post : Int32 → S → Prop} {wu wn : S → va_W} (isC isR isP isT : List Nat) (hP : va_P D vwCl ws H) (hD : va_D A0 ws) (hS : va_S A0 H0 H locs) (hA : ∀ q, H0.size ≤ q → A0 q) (hK : va_K D vwCl tys s)
    (hC : isC.map (fun i => ws[i]?) = wc.map some) (hR : isR.map (fun i => ws[i]?) = wr.map some) (hn : va_nd isR = true) (hdis : ∀ i ∈ isR, i ∉ isC) (hnC : va_nd isC = true) (hT : isT.filterMap (fun i => tys[i]?) = tysC)
    (hW : ∀ u, isP.map (fun i => (wr ++ wu u)[i]?) = (wn u).map some) (hnP : va_nd isP = true)
    (run : va_P D vwCl wc H → va_K D vwCl tysC s → va_D A0 wc → va_Run p l e R s m args below meth c H locs cells slots mc ms (F0 m pc ls st0) rest (va_Qi post (fun u t => va_P D vwCl (wu u) t.heap ∧ va_K D vwCl tysC t ∧ va_D (va_A wc H.size) (wu u)) (va_A wc H.size) a) (va_A wc H.size))
    (kk : ∀ (r : Int32) (u : S) (H1 : Heap) (locs1 : List Loc), post r u → va_P D vwCl (wn u) H1 → va_D A0 (wn u) → va_S A0 H0 H1 locs1 → W p l e R s m args below meth c H1 locs1 (cells + mc) (slots + ms) Q (F0 m (pc + 3) ls (.int r :: rest))) : W p l e R s m args below meth c H locs cells slots Q (F0 m pc ls st0) := by
  have hFc := va_free (wc := wc) hD hS hA isC hC
  refine va_calli (run (hP.sub isC (fm_of hC)) (hK.sub isT hT) (hD.sub isC hnC hC)) hS (fun q _ h => hFc q h) hFc (fun r u t H1 locs ht hvm hw hB hz1 hk1 hS => ?_)
  obtain ⟨hP1, hK1, hD1⟩ := hB
  rw [ht] at hP1
  obtain ⟨hP2, hD2⟩ := va_join (wr := wr) (w1 := wu u) hP hD isC isR hC hR hn hdis hk1 hFc hP1 hD1
  exact kk r u H1 locs hw (hP2.sub isP (fm_of (hW u))) (hD2.sub isP hnP (hW u)) hS
theorem cl_l {S : Type} {post : Int64 → S → Prop} {wu wn : S → va_W} (isC isR isP isT : List Nat) (hP : va_P D vwCl ws H) (hD : va_D A0 ws) (hS : va_S A0 H0 H locs) (hA : ∀ q, H0.size ≤ q → A0 q) (hK : va_K D vwCl tys s)
    (hC : isC.map (fun i => ws[i]?) = wc.map some) (hR : isR.map (fun i => ws[i]?) = wr.map some) (hn : va_nd isR = true) (hdis : ∀ i ∈ isR, i ∉ isC) (hnC : va_nd isC = true) (hT : isT.filterMap (fun i => tys[i]?) = tysC)
    (hW : ∀ u, isP.map (fun i => (wr ++ wu u)[i]?) = (wn u).map some) (hnP : va_nd isP = true)
    (run : va_P D vwCl wc H → va_K D vwCl tysC s → va_D A0 wc → va_Run p l e R s m args below meth c H locs cells slots mc ms (F0 m pc ls st0) rest (va_Ql post (fun u t => va_P D vwCl (wu u) t.heap ∧ va_K D vwCl tysC t ∧ va_D (va_A wc H.size) (wu u)) (va_A wc H.size) a) (va_A wc H.size))
    (kk : ∀ (r : Int64) (u : S) (H1 : Heap) (locs1 : List Loc), post r u → va_P D vwCl (wn u) H1 → va_D A0 (wn u) → va_S A0 H0 H1 locs1 → W p l e R s m args below meth c H1 locs1 (cells + mc) (slots + ms) Q (F0 m (pc + 3) ls (.long r :: rest))) : W p l e R s m args below meth c H locs cells slots Q (F0 m pc ls st0) := by
  have hFc := va_free (wc := wc) hD hS hA isC hC
  refine va_calll (run (hP.sub isC (fm_of hC)) (hK.sub isT hT) (hD.sub isC hnC hC)) hS (fun q _ h => hFc q h) hFc (fun r u t H1 locs ht hvm hw hB hz1 hk1 hS => ?_)
  obtain ⟨hP1, hK1, hD1⟩ := hB
  rw [ht] at hP1
  obtain ⟨hP2, hD2⟩ := va_join (wr := wr) (w1 := wu u) hP hD isC isR hC hR hn hdis hk1 hFc hP1 hD1
  exact kk r u H1 locs hw (hP2.sub isP (fm_of (hW u))) (hD2.sub isP hnP (hW u)) hS
theorem cl_v {S : Type} {post : S → Prop} {wu wn : S → va_W} (isC isR isP isT : List Nat) (hP : va_P D vwCl ws H) (hD : va_D A0 ws) (hS : va_S A0 H0 H locs) (hA : ∀ q, H0.size ≤ q → A0 q) (hK : va_K D vwCl tys s)
    (hC : isC.map (fun i => ws[i]?) = wc.map some) (hR : isR.map (fun i => ws[i]?) = wr.map some) (hn : va_nd isR = true) (hdis : ∀ i ∈ isR, i ∉ isC) (hnC : va_nd isC = true) (hT : isT.filterMap (fun i => tys[i]?) = tysC)
    (hW : ∀ u, isP.map (fun i => (wr ++ wu u)[i]?) = (wn u).map some) (hnP : va_nd isP = true)
    (run : va_P D vwCl wc H → va_K D vwCl tysC s → va_D A0 wc → va_Run p l e R s m args below meth c H locs cells slots mc ms (F0 m pc ls st0) rest (va_Qv post (fun u t => va_P D vwCl (wu u) t.heap ∧ va_K D vwCl tysC t ∧ va_D (va_A wc H.size) (wu u)) (va_A wc H.size) a) (va_A wc H.size))
    (kk : ∀ (u : S) (H1 : Heap) (locs1 : List Loc), post u → va_P D vwCl (wn u) H1 → va_D A0 (wn u) → va_S A0 H0 H1 locs1 → W p l e R s m args below meth c H1 locs1 (cells + mc) (slots + ms) Q (F0 m (pc + 3) ls rest)) : W p l e R s m args below meth c H locs cells slots Q (F0 m pc ls st0) := by
  have hFc := va_free (wc := wc) hD hS hA isC hC
  refine va_callv (run (hP.sub isC (fm_of hC)) (hK.sub isT hT) (hD.sub isC hnC hC)) hS (fun q _ h => hFc q h) hFc (fun u t H1 locs ht hvm hw hB hz1 hk1 hS => ?_)
  obtain ⟨hP1, hK1, hD1⟩ := hB
  rw [ht] at hP1
  obtain ⟨hP2, hD2⟩ := va_join (wr := wr) (w1 := wu u) hP hD isC isR hC hR hn hdis hk1 hFc hP1 hD1
  exact kk u H1 locs hw (hP2.sub isP (fm_of (hW u))) (hD2.sub isP hnP (hW u)) hS
end CL
abbrev SMixture : Type := (Nat → Int32) × (Nat → Int32) × (Nat → Int32) × Int32 × Int32
def uw_Mixture (ad : Nat → Nat) (cA : Nat → ClassId) (t : SMixture) : va_W := [(ad 0, .inr (0, [.ref (ad 1), .ref (ad 2), .ref (ad 3), .int t.2.2.2.1, .int t.2.2.2.2])), (ad 1, .inl (cA 1, 8, .inl t.1)), (ad 2, .inl (cA 2, 8, .inl t.2.1)), (ad 3, .inl (cA 3, 8, .inl t.2.2.1))]
abbrev SReader : Type := (Nat → Int32) × Int32 × Int32 × Int32 × Int32
def uw_Reader (ad : Nat → Nat) (cA : Nat → ClassId) (t : SReader) : va_W := [(ad 0, .inr (1, [.ref (ad 1), .int t.2.1, .int t.2.2.1, .int t.2.2.2.1, .int t.2.2.2.2])), (ad 1, .inl (cA 1, 400, .inl t.1))]
abbrev SSpeller : Type := (Nat → Int32) × (Nat → Int32) × (Nat → Int32) × (Nat → Int32) × Int32 × Int32
def uw_Speller (ad : Nat → Nat) (cA : Nat → ClassId) (t : SSpeller) : va_W := [(ad 0, .inr (2, [.ref (ad 1), .ref (ad 2), .ref (ad 3), .ref (ad 4), .int t.2.2.2.2.1, .int t.2.2.2.2.2])), (ad 1, .inl (cA 1, 8, .inl t.1)), (ad 2, .inl (cA 2, 9, .inl t.2.1)), (ad 3, .inl (cA 3, 12, .inl t.2.2.1)), (ad 4, .inl (cA 4, 12, .inl t.2.2.2.1))]
abbrev SSurroundings : Type := (Nat → Int32) × (Nat → Int32) × (Nat → Int32) × Int32 × Int32 × Int32 × Int32 × Bool
def uw_Surroundings (ad : Nat → Nat) (cA : Nat → ClassId) (t : SSurroundings) : va_W := [(ad 0, .inr (3, [.ref (ad 1), .ref (ad 2), .ref (ad 3), .int t.2.2.2.1, .int t.2.2.2.2.1, .int t.2.2.2.2.2.1, .int t.2.2.2.2.2.2.1, .int (bI t.2.2.2.2.2.2.2)])), (ad 1, .inl (cA 1, 40, .inl t.1)), (ad 2, .inl (cA 2, 40, .inl t.2.1)), (ad 3, .inl (cA 3, 40, .inl t.2.2.1))]
abbrev STable : Type := (Nat → Int32) × (Nat → Int32) × (Nat → Int32) × (Nat → Int32) × Int32 × Bool
def uw_Table (ad : Nat → Nat) (cA : Nat → ClassId) (t : STable) : va_W := [(ad 0, .inr (4, [.ref (ad 1), .ref (ad 2), .ref (ad 3), .ref (ad 4), .int t.2.2.2.2.1, .int (bI t.2.2.2.2.2)])), (ad 1, .inl (cA 1, 13, .inl t.1)), (ad 2, .inl (cA 2, 117, .inl t.2.1)), (ad 3, .inl (cA 3, 39, .inl t.2.2.1)), (ad 4, .inl (cA 4, 390, .inl t.2.2.2.1))]
abbrev SHT : Type := (Nat → Int32)
def uw_HT (ad : Nat → Nat) (cA : Nat → ClassId) (r0 : Nat) (r1 : Nat) (r2 : Nat) (r3 : Nat) (r5 : Nat) (r6 : Nat) (t : SHT) : va_W := [(ad 0, .inr (5, [.ref r0, .ref r1, .ref r2, .ref r3, .ref (ad 1), .ref r5, .ref r6])), (ad 1, .inl (cA 1, 5, .inl t))]
abbrev SModel : Type := (Int32 × Int32) × (Int32 × (Nat → Int32) × Int32 × Int32) × (Int32 × Bool × (Nat → Int32)) × (Int32 × Bool × (Nat → Int32)) × (Int32 × (Nat → Int32) × (Nat → Int32) × (Nat → Int32) × Int32) × (Int32 × Int32 × Bool) × (Int32 × (Nat → Int32) × (Nat → Int32) × (Nat → Int32) × Int32 × (Nat → Int32)) × ((Nat → Int32)) × (Int32 × (Nat → Int32) × (Nat → Int32))
def uw_Model (ad : Nat → Nat) (cA : Nat → ClassId) (t : SModel) : va_W := [(ad 0, .inr (6, [.int t.1.1, .int t.2.1.1, .ref (ad 1), .int t.1.2, .int t.2.2.2.1.1, .int (bI t.2.2.2.1.2.1), .ref (ad 2), .int t.2.2.1.1, .int (bI t.2.2.1.2.1), .ref (ad 3), .int t.2.1.2.2.1, .int t.2.1.2.2.2, .int t.2.2.2.2.1.1, .ref (ad 4), .ref (ad 5), .ref (ad 6), .int t.2.2.2.2.2.1.1, .int t.2.2.2.2.2.1.2.1, .int (bI t.2.2.2.2.2.1.2.2), .int t.2.2.2.2.2.2.1.1, .ref (ad 7), .ref (ad 8), .ref (ad 9), .int t.2.2.2.2.2.2.1.2.2.2.2.1, .ref (ad 10), .int t.2.2.2.2.1.2.2.2.2, .ref (ad 11), .int t.2.2.2.2.2.2.2.2.1, .ref (ad 12), .ref (ad 13)])), (ad 1, .inl (cA 1, 400, .inl t.2.1.2.1)), (ad 2, .inl (cA 2, 559, .inl t.2.2.2.1.2.2)), (ad 3, .inl (cA 3, 559, .inl t.2.2.1.2.2)), (ad 4, .inl (cA 4, 8, .inl t.2.2.2.2.1.2.1)), (ad 5, .inl (cA 5, 8, .inl t.2.2.2.2.1.2.2.1)), (ad 6, .inl (cA 6, 8, .inl t.2.2.2.2.1.2.2.2.1)), (ad 7, .inl (cA 7, 40, .inl t.2.2.2.2.2.2.1.2.1)), (ad 8, .inl (cA 8, 40, .inl t.2.2.2.2.2.2.1.2.2.1)), (ad 9, .inl (cA 9, 40, .inl t.2.2.2.2.2.2.1.2.2.2.1)), (ad 10, .inl (cA 10, 40, .inl t.2.2.2.2.2.2.1.2.2.2.2.2)), (ad 11, .inl (cA 11, 5, .inl t.2.2.2.2.2.2.2.1)), (ad 12, .inl (cA 12, 8, .inl t.2.2.2.2.2.2.2.2.2.1)), (ad 13, .inl (cA 13, 99, .inl t.2.2.2.2.2.2.2.2.2.2))]
