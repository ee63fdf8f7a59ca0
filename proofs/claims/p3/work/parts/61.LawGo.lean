set_option maxHeartbeats 4000000 in
set_option maxRecDepth 100000 in
theorem law_go {L : Nat} {xs : Nat → Int32} (hL : L ≤ 2048) : ∀ (n i : Nat) (ht : SHT) (rd : SReader) (sp : SSpeller) (mx : SMixture) (ar : SSurroundings) (tb tc : STable) (ot : SOut) (md : SModel), L + 1 ≤ i + 4 * n → 1 ≤ n → i ≤ 2052 → hz_invAll ht rd sp mx ar tb md → f_Law_loop L xs n ht rd sp mx ar tb tc ot md (hz_nI i) = some true := by
  intro n
  induction n with
  | zero => intro i ht rd sp mx ar tb tc ot md h1 h2; omega
  | succ n ih =>
    intro i ht rd sp mx ar tb tc ot md h1 h2 h3 hI
    rw [f_Law_loop]
    by_cases c : L < i + 4
    · rw [if_pos ((hz_lp_end (by omega) (by omega)).mpr c)]
    · rw [if_neg (fun h => c ((hz_lp_end (by omega) (by omega)).mp h)), if_pos (show inb (hz_nI i) L by rw [hz_nI_inb (by omega)]; omega)]
      have k1 : inb (hz_nI i + (1 : Int32)) L := hz_lp_in (j := 1) (by omega) (by omega)
      have k2 : inb (hz_nI i + (2 : Int32)) L := hz_lp_in (j := 2) (by omega) (by omega)
      have k3 : inb (hz_nI i + (3 : Int32)) L := hz_lp_in (j := 3) (by omega) (by omega)
      have hk : ∀ ht rd sp mx ar tb tc ot md, hz_invAll ht rd sp mx ar tb md → f_Law_loop L xs n ht rd sp mx ar tb tc ot md (hz_nI i + (4 : Int32)) = some true := fun ht rd sp mx ar tb tc ot md hI => by
        rw [hz_nI_lit, hz_nI_add]
        exact ih (i + 4) ht rd sp mx ar tb tc ot md (by omega) (by omega) (by omega) hI
      by_cases s0 : ((xs (hz_nI i).toNatClampNeg) &&& (31 : Int32)) = (0 : Int32)
      · rw [if_pos s0]; exact lc_0 k1 k2 k3 hI hk
      rw [if_neg s0]
      by_cases s1 : ((xs (hz_nI i).toNatClampNeg) &&& (31 : Int32)) = (1 : Int32)
      · rw [if_pos s1]; exact lc_1 k1 k2 k3 hI hk
      rw [if_neg s1]
      by_cases s2 : ((xs (hz_nI i).toNatClampNeg) &&& (31 : Int32)) = (2 : Int32)
      · rw [if_pos s2]; exact lc_2 k1 k2 k3 hI hk
      rw [if_neg s2]
      by_cases s3 : ((xs (hz_nI i).toNatClampNeg) &&& (31 : Int32)) = (3 : Int32)
      · rw [if_pos s3]; exact lc_3 k1 k2 k3 hI hk
      rw [if_neg s3]
      by_cases s4 : ((xs (hz_nI i).toNatClampNeg) &&& (31 : Int32)) = (4 : Int32)
      · rw [if_pos s4]; exact lc_4 k1 k2 k3 hI hk
      rw [if_neg s4]
      by_cases s5 : ((xs (hz_nI i).toNatClampNeg) &&& (31 : Int32)) = (5 : Int32)
      · rw [if_pos s5]; exact lc_5 k1 k2 k3 hI hk
      rw [if_neg s5]
      by_cases s6 : ((xs (hz_nI i).toNatClampNeg) &&& (31 : Int32)) = (6 : Int32)
      · rw [if_pos s6]; exact lc_6 k1 k2 k3 hI hk
      rw [if_neg s6]
      by_cases s7 : ((xs (hz_nI i).toNatClampNeg) &&& (31 : Int32)) = (7 : Int32)
      · rw [if_pos s7]; exact lc_7 k1 k2 k3 hI hk
      rw [if_neg s7]
      by_cases s8 : ((xs (hz_nI i).toNatClampNeg) &&& (31 : Int32)) = (8 : Int32)
      · rw [if_pos s8]; exact lc_8 k1 k2 k3 hI hk
      rw [if_neg s8]
      by_cases s9 : ((xs (hz_nI i).toNatClampNeg) &&& (31 : Int32)) = (9 : Int32)
      · rw [if_pos s9]; exact lc_9 k1 k2 k3 hI hk
      rw [if_neg s9]
      by_cases s10 : ((xs (hz_nI i).toNatClampNeg) &&& (31 : Int32)) = (10 : Int32)
      · rw [if_pos s10]; exact lc_10 k1 k2 k3 hI hk
      rw [if_neg s10]
      by_cases s11 : ((xs (hz_nI i).toNatClampNeg) &&& (31 : Int32)) = (11 : Int32)
      · rw [if_pos s11]; exact lc_11 k1 k2 k3 hI hk
      rw [if_neg s11]
      by_cases s12 : ((xs (hz_nI i).toNatClampNeg) &&& (31 : Int32)) = (12 : Int32)
      · rw [if_pos s12]; exact lc_12 k1 k2 k3 hI hk
      rw [if_neg s12]
      by_cases s13 : ((xs (hz_nI i).toNatClampNeg) &&& (31 : Int32)) = (13 : Int32)
      · rw [if_pos s13]; exact lc_13 k1 k2 k3 hI hk
      rw [if_neg s13]
      by_cases s14 : ((xs (hz_nI i).toNatClampNeg) &&& (31 : Int32)) = (14 : Int32)
      · rw [if_pos s14]; exact lc_14 k1 k2 k3 hI hk
      rw [if_neg s14]
      by_cases s15 : ((xs (hz_nI i).toNatClampNeg) &&& (31 : Int32)) = (15 : Int32)
      · rw [if_pos s15]; exact lc_15 k1 k2 k3 hI hk
      rw [if_neg s15]
      by_cases s16 : ((xs (hz_nI i).toNatClampNeg) &&& (31 : Int32)) = (16 : Int32)
      · rw [if_pos s16]; exact lc_16 k1 k2 k3 hI hk
      rw [if_neg s16]
      exact lc_99 k1 k2 k3 hI hk
