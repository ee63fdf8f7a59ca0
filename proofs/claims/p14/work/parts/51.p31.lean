set_option maxRecDepth 100000 in
def hz_invAll (ht : SHT) (rd : SReader) (sp : SSpeller) (mx : SMixture) (ar : SSurroundings) (tb : STable) (md : SModel) : Prop := ∃ g1 g2 g3 g4 g5 g6 g7 g8 r9, md = (g1, g2, g3, g4, g5, g6, g7, g8, r9) ∧ hz_invA rd g2 ∧ hz_invT tb g4 ∧ hz_invX mx tb.2.1 g4.2.2 g5 ∧ hz_invW ar g6 g7 ∧ hz_invM ht g8 ∧ hz_invS sp g4 r9
set_option maxRecDepth 100000 in
theorem hz_inv_init : hz_invAll init_HT init_Reader init_Speller init_Mixture init_Surroundings init_Table init_Model := by
  refine ⟨_, _, _, _, _, _, _, _, _, rfl, ?_, ?_, ?_, ?_, ?_, ?_⟩
  · exact ⟨fun _ => 0, 0, 0, 0, -1, 0, 0, rfl, rfl, by omega, fun i => ⟨0, by omega, rfl⟩⟩
  · exact ⟨fun _ => 0, fun _ => 0, fun _ => 0, fun _ => 0, 0, false, fun _ => 0, rfl, rfl, by omega, fun k hk => by omega, fun i j _ hj => by omega, fun h => absurd h (by decide)⟩
  · exact ⟨fun _ => 0, fun _ => 0, fun _ => 0, fun _ => 0, fun _ => 0, fun _ => 0, 0, 1, rfl, rfl, by omega, fun i hi => by omega, fun i hi => by omega, fun i hi => by omega, by omega, by omega, Or.inl (by omega)⟩
  · refine ⟨fun _ => 0, fun _ => 0, fun _ => 0, fun _ => 0, 0, 0, 1, 0, true, rfl, rfl, rfl, by omega, by omega, fun i hi => by omega, ?_, ?_, ?_⟩
    · exact ⟨by decide, by decide⟩
    · exact ⟨by decide, by decide⟩
    · exact fun h => absurd h.1 (by decide)
  · exact fun i _ => rfl
  · exact ⟨fun _ => 0, fun _ => 0, fun _ => 0, fun _ => 0, 0, 0, 0, fun _ => 0, rfl, rfl, by omega, Or.inl ⟨rfl, rfl⟩⟩
set_option maxRecDepth 100000 in
theorem hz_lp_end {L i : Nat} (hL : L ≤ 2048) (hi : i ≤ 4096) : (Int32.ofNat L - (4 : Int32) < hz_nI i) ↔ L < i + 4 := by
  have h1 : (Int32.ofNat L).toInt = L := hz_nI_toInt (show L < 2147483648 by omega)
  have h2 : (4 : Int32).toInt = 4 := by decide
  rw [Int32.lt_iff_toInt_lt, hz_j_sub (by rw [h1, h2]; omega) (by rw [h1, h2]; omega), h1, h2, hz_nI_toInt (by omega)]
  omega
set_option maxRecDepth 100000 in
theorem hz_lp_in {L i j : Nat} (hL : L ≤ 2048) (hi : i + j < L) : inb (hz_nI i + hz_nI j) L := by
  rw [hz_nI_add, hz_nI_inb (by omega)]; exact hi
