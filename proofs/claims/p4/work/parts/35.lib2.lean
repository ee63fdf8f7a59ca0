def ncAll (U : State) : Prop := ∀ i, i < 4 → ∀ j, j < 4 → i ≠ j → va_Nc (xn i) (xn j) U
theorem ncAll_moved {u U : State} (hvm : u.vm.Alike U.vm) (h : ncAll u) : ncAll U := fun i hi j hj hn => va_Nc.moved hvm (h i hi j hj hn)
theorem xAll_at {A B : Nat → Prop} {s U : State} {H : Heap} {locs : List Loc} (hX : xAll A s) (hS : va_S A s.heap H locs) (hF : ∀ q, B q → A q) (hU : U.heap = H) (hW : s.WarmedH U.vm) : xAll B U := by
  obtain ⟨h1, h2, h3, h4⟩ := hX
  subst hU
  refine ⟨vx_Zq.narrow (vx_Zq.kept (vx_Zq.moved hW.alike h1) hS.2.1) hF, vx_Zq.narrow (vx_Zq.kept (vx_Zq.moved hW.alike h2) hS.2.1) hF, fun p hp => ?_, fun w hw => ?_⟩
  · obtain ⟨sa, h⟩ := h3 p hp
    exact ⟨sa, vk_R.warm hW h⟩
  · have h := h4 w hw
    simp only [xB, List.mem_cons, List.not_mem_nil, or_false] at hw
    rcases hw with rfl | rfl | rfl | rfl | rfl | rfl | rfl
    · exact va_Nw.warmD hW h
    · exact va_Nw.warmD hW h
    · exact va_Nw.warmD hW h
    · exact va_Nw.warmC hW h
    · exact va_Nw.warmC hW h
    · exact va_Nw.warmC hW h
    · exact va_Nw.warmC hW h
theorem xAll_same {A : Nat → Prop} {u U : State} (hv : u.vm = U.vm) (hh : u.heap = U.heap) (h : xAll A u) : xAll A U := by
  obtain ⟨h1, h2, h3, h4⟩ := h
  have hal : u.vm.Alike U.vm := by rw [hv]; exact Vm.Alike.refl _
  refine ⟨?_, ?_, fun p hp => ?_, fun w hw => va_Nw.same (xB_tab w hw) hv (h4 w hw)⟩
  · rw [← hh]; exact vx_Zq.moved hal h1
  · rw [← hh]; exact vx_Zq.moved hal h2
  · obtain ⟨sa, h⟩ := h3 p hp
    exact ⟨sa, vk_R.same hv.symm h⟩
abbrev lPc (D : va_G) (wc : va_W) (tysC : List (ClassId × FieldType)) (sz : Nat) (av : List Value) : Array Value → State → Prop := va_Pc av (fun U => U.heap.size = sz ∧ va_P D vwCl wc U.heap ∧ va_K D vwCl tysC U ∧ va_D (fun _ => True) wc ∧ nwAll U ∧ xAll (va_A wc sz) U ∧ ncAll U)
theorem hf_l {α β γ : Type} {F : α → γ} {G : β → γ} {a : α} {r : γ} (h : Sum.elim F G (.inl a) = r) : F a = r := h
theorem hf_r {α β γ : Type} {F : α → γ} {G : β → γ} {b : β} {r : γ} (h : Sum.elim F G (.inr b) = r) : G b = r := h
theorem met_ofWH {l : Launch} {y : MethodName} {ws ws' : List Cond} {rm : Room} {Pc : Array Value → State → Prop} {Qc : Array Value → State → Outcome → State → Prop} {mc ms : Nat} {free : Addr → Prop} {cc : ByteArray} {maxL : Nat} {ret : Option FieldType} {hh : List (Nat × Nat × Nat × Nat)}
    (hy : plainName y.cls = true) (hw : ws = Cond.codeWith y cc maxL ret hh :: ws')
    (body : ∀ p e s m args below meth c s₁, BodyLoose p l y (headSpec ws rm) cc maxL ret e s m args below meth c s₁ → c.maxLocals = maxL → Pc args s →
      W p l e (headSpec ws rm).room s m args below meth c s.heap [] 0 0 (MQ below Qc args s mc ms free) (entryFrame m args maxL)) : Met l y ws rm Pc Qc mc ms free := by
  refine MetFree.of_bodyS (code := cc) (maxLocals := maxL) (ret := ret) hy ?_ ?_
  · intro args s m h hn
    obtain ⟨m9, meth, c, hn9, h1, h2, h3, h4, -, h5, h6, -⟩ := Cond.codeWith_spec (atoms_spec (ws := ws) h _ (by rw [hw]; exact List.mem_cons_self))
    cases hn.symm.trans hn9
    exact ⟨meth, c, h1, h2, h3, h4, h5, h6⟩
  · intro p e s m args below meth c s₁ B hml hP _
    have hh0 : s₁.heap = s.heap := by rw [B.state]; rfl
    obtain ⟨t, a1, o, b1, b2, b3⟩ := body p e s m args below meth c s₁ B hml hP s₁ hh0 (Stand.of_body B)
    exact ⟨t, o, a1, b1, b2, ⟨b3.1, b3.2⟩⟩
section CX
variable {p : Program} {l : Launch} {e : Env} {R : Room} {s : State} {m : MethodId} {args : Array Value} {below : List Frame} {meth : Method} {c : Code} {H : Heap} {locs : List Loc} {cells slots mc ms : Nat} {Q : State → Prop} {pc : Nat} {ls : Array Slot} {st0 rest As : List Value} {D : va_G} {A0 : Nat → Prop} {H0 : Heap} {tys tysC : List (ClassId × FieldType)} {ws wc wr : va_W} {a : Array Value} {b ci : Nat}
theorem cx_preV {q : vw_C} {fs : List Value} (hPc : va_P D vwCl wc H) (hKc : va_K D vwCl tysC s) (hDc : va_D A0 wc) (hN : nwAll s) (hX : ∀ U : State, U.heap = H → s.WarmedH U.vm → xAll (va_A wc H.size) U) (q0 : Nat) (hc : vwCl[ci]? = some q) (he : wc[q0]? = some (b, .inr (ci, fs))) : PreV s H q.1 b (xPc D wc tysC H.size (.ref b :: As)) As :=
  ⟨fun a U g mk q => by
    obtain ⟨q0, q1, qP, qK, qD, qN, qX⟩ := q
    exact ⟨q0, q1, qP, va_K.moved (u := U) (U := U.calling g mk a) (Vm.Alike.refl U.vm) qK, qD, nwAll_same (u := U) (U := U.calling g mk a) rfl qN, xAll_same (u := U) (U := U.calling g mk a) rfl rfl qX⟩,
   va_recv hKc hPc (ci := ci) (q0 := q0) hc he, fun U hU hW => ⟨rfl, by rw [hU], by rw [hU]; exact hPc, va_K.moved hW.alike hKc, hDc.weaken (fun _ _ _ _ => trivial), nwAll_warm hW hN, hX U hU hW⟩⟩
theorem cx_i {S : Type} {post : Int32 → S → Prop} {px : Nat × S → Prop} {wu wn wux wnx : S → va_W} (isC isR isP isT : List Nat) (hP : va_P D vwCl ws H) (hD : va_D A0 ws) (hS : va_S A0 H0 H locs) (hA : ∀ q, H0.size ≤ q → A0 q) (hK : va_K D vwCl tys s)
    (hC : isC.map (fun i => ws[i]?) = wc.map some) (hR : isR.map (fun i => ws[i]?) = wr.map some) (hn : va_nd isR = true) (hdis : ∀ i ∈ isR, i ∉ isC) (hnC : va_nd isC = true) (hT : isT.filterMap (fun i => tys[i]?) = tysC)
    (hW : ∀ u, isP.map (fun i => (wr ++ wu u)[i]?) = (wn u).map some) (hWx : ∀ u, isP.map (fun i => (wr ++ wux u)[i]?) = (wnx u).map some) (hnP : va_nd isP = true)
    (run : va_P D vwCl wc H → va_K D vwCl tysC s → va_D A0 wc → (∀ q, va_A wc H.size q → A0 q) → vx_Run p l e R s m args below meth c H locs cells slots mc ms (F0 m pc ls st0) rest (va_Qi post (fun u t => va_P D vwCl (wu u) t.heap ∧ va_K D vwCl tysC t ∧ va_D (va_A wc H.size) (wu u)) (va_A wc H.size) a) (vx_X px (fun (E : String) (u : Nat × S) (t : State) => E = xn u.1 ∧ va_P D vwCl (wux u.2) t.heap ∧ va_K D vwCl tysC t ∧ va_D (va_A wc H.size) (wux u.2)) (va_A wc H.size)) (va_A wc H.size))
    (kx : ∀ (E : String) (ce : Cell) (q9 : Addr) (u : Nat × S) (H1 : Heap) (locs1 : List Loc), px u → E = xn u.1 → va_P D vwCl (wnx u.2) H1 → va_D A0 (wnx u.2) → va_S A0 H0 H1 locs1 → H1[q9]? = some ce → ce.vm = .none → s.vm.findClass E = some ce.cls → vx_W p l e R s m args below meth c H1 locs1 (cells + mc) (slots + ms) Q (F0 m pc ls rest) q9)
    (kk : ∀ (r : Int32) (u : S) (H1 : Heap) (locs1 : List Loc), post r u → va_P D vwCl (wn u) H1 → va_D A0 (wn u) → va_S A0 H0 H1 locs1 → W p l e R s m args below meth c H1 locs1 (cells + mc) (slots + ms) Q (F0 m (pc + 3) ls (.int r :: rest))) : W p l e R s m args below meth c H locs cells slots Q (F0 m pc ls st0) := by
  have hFc := va_free (wc := wc) hD hS hA isC hC
  refine vx_calli (run (hP.sub isC (fm_of hC)) (hK.sub isT hT) (hD.sub isC hnC hC) hFc) hS (fun q _ h => hFc q h) hFc (fun q _ h => hFc q h) (fun E ce q9 u t H1 locs ht hvm hw hB hz1 hk1 hS hce hcv hcl => ?_) (fun r u t H1 locs ht hvm hw hB hz1 hk1 hS => ?_)
  · obtain ⟨hE, hP1, hK1, hD1⟩ := hB
    rw [ht] at hP1
    obtain ⟨hP2, hD2⟩ := va_join (wr := wr) (w1 := wux u.2) hP hD isC isR hC hR hn hdis hk1 hFc hP1 hD1
    exact kx E ce q9 u H1 locs hw hE (hP2.sub isP (fm_of (hWx u.2))) (hD2.sub isP hnP (hWx u.2)) hS hce hcv hcl
  · obtain ⟨hP1, hK1, hD1⟩ := hB
    rw [ht] at hP1
    obtain ⟨hP2, hD2⟩ := va_join (wr := wr) (w1 := wu u) hP hD isC isR hC hR hn hdis hk1 hFc hP1 hD1
    exact kk r u H1 locs hw (hP2.sub isP (fm_of (hW u))) (hD2.sub isP hnP (hW u)) hS
theorem cx_v {S : Type} {post : S → Prop} {px : Nat × S → Prop} {wu wn wux wnx : S → va_W} (isC isR isP isT : List Nat) (hP : va_P D vwCl ws H) (hD : va_D A0 ws) (hS : va_S A0 H0 H locs) (hA : ∀ q, H0.size ≤ q → A0 q) (hK : va_K D vwCl tys s)
    (hC : isC.map (fun i => ws[i]?) = wc.map some) (hR : isR.map (fun i => ws[i]?) = wr.map some) (hn : va_nd isR = true) (hdis : ∀ i ∈ isR, i ∉ isC) (hnC : va_nd isC = true) (hT : isT.filterMap (fun i => tys[i]?) = tysC)
    (hW : ∀ u, isP.map (fun i => (wr ++ wu u)[i]?) = (wn u).map some) (hWx : ∀ u, isP.map (fun i => (wr ++ wux u)[i]?) = (wnx u).map some) (hnP : va_nd isP = true)
    (run : va_P D vwCl wc H → va_K D vwCl tysC s → va_D A0 wc → (∀ q, va_A wc H.size q → A0 q) → vx_Run p l e R s m args below meth c H locs cells slots mc ms (F0 m pc ls st0) rest (va_Qv post (fun u t => va_P D vwCl (wu u) t.heap ∧ va_K D vwCl tysC t ∧ va_D (va_A wc H.size) (wu u)) (va_A wc H.size) a) (vx_X px (fun (E : String) (u : Nat × S) (t : State) => E = xn u.1 ∧ va_P D vwCl (wux u.2) t.heap ∧ va_K D vwCl tysC t ∧ va_D (va_A wc H.size) (wux u.2)) (va_A wc H.size)) (va_A wc H.size))
    (kx : ∀ (E : String) (ce : Cell) (q9 : Addr) (u : Nat × S) (H1 : Heap) (locs1 : List Loc), px u → E = xn u.1 → va_P D vwCl (wnx u.2) H1 → va_D A0 (wnx u.2) → va_S A0 H0 H1 locs1 → H1[q9]? = some ce → ce.vm = .none → s.vm.findClass E = some ce.cls → vx_W p l e R s m args below meth c H1 locs1 (cells + mc) (slots + ms) Q (F0 m pc ls rest) q9)
    (kk : ∀ (u : S) (H1 : Heap) (locs1 : List Loc), post u → va_P D vwCl (wn u) H1 → va_D A0 (wn u) → va_S A0 H0 H1 locs1 → W p l e R s m args below meth c H1 locs1 (cells + mc) (slots + ms) Q (F0 m (pc + 3) ls rest)) : W p l e R s m args below meth c H locs cells slots Q (F0 m pc ls st0) := by
  have hFc := va_free (wc := wc) hD hS hA isC hC
  refine vx_callv (run (hP.sub isC (fm_of hC)) (hK.sub isT hT) (hD.sub isC hnC hC) hFc) hS (fun q _ h => hFc q h) hFc (fun q _ h => hFc q h) (fun E ce q9 u t H1 locs ht hvm hw hB hz1 hk1 hS hce hcv hcl => ?_) (fun u t H1 locs ht hvm hw hB hz1 hk1 hS => ?_)
  · obtain ⟨hE, hP1, hK1, hD1⟩ := hB
    rw [ht] at hP1
    obtain ⟨hP2, hD2⟩ := va_join (wr := wr) (w1 := wux u.2) hP hD isC isR hC hR hn hdis hk1 hFc hP1 hD1
    exact kx E ce q9 u H1 locs hw hE (hP2.sub isP (fm_of (hWx u.2))) (hD2.sub isP hnP (hWx u.2)) hS hce hcv hcl
  · obtain ⟨hP1, hK1, hD1⟩ := hB
    rw [ht] at hP1
    obtain ⟨hP2, hD2⟩ := va_join (wr := wr) (w1 := wu u) hP hD isC isR hC hR hn hdis hk1 hFc hP1 hD1
    exact kk u H1 locs hw (hP2.sub isP (fm_of (hW u))) (hD2.sub isP hnP (hW u)) hS
end CX
abbrev SOut : Type := Nat → Int64
def uw_Out (ad : Nat → Nat) (cA : Nat → ClassId) (t : SOut) : va_W := [(ad 1, .inl (cA 1, 1, .inr (.inl t)))]
