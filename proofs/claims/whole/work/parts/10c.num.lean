/-! numbers: Int32 by its integer -/
def iI (z : Int) : Int32 := Int32.ofInt z
theorem nI_iI (n : Nat) : nI n = iI (n : Int) := Int32.ofInt_eq_ofNat.symm
theorem iI_toInt {z : Int} (h : -2 ^ 31 ≤ z ∧ z < 2 ^ 31) : (iI z).toInt = z := Int32.toInt_ofInt_of_le h.1 h.2
theorem iI_sub (a b : Int) : iI a - iI b = iI (a - b) := (Int32.ofInt_sub a b).symm
theorem iI_add (a b : Int) : iI a + iI b = iI (a + b) := (Int32.ofInt_add a b).symm
theorem iI_mul (a b : Int) : iI a * iI b = iI (a * b) := (Int32.ofInt_mul a b).symm
theorem iI_neg (a : Int) : -iI a = iI (-a) := (Int32.ofInt_neg a).symm
theorem iI_eq {a b : Int} (ha : -2 ^ 31 ≤ a ∧ a < 2 ^ 31) (hb : -2 ^ 31 ≤ b ∧ b < 2 ^ 31) : iI a = iI b ↔ a = b := ⟨fun h => by rw [← iI_toInt ha, h, iI_toInt hb], fun h => by rw [h]⟩
theorem iI_lt {a b : Int} (ha : -2 ^ 31 ≤ a ∧ a < 2 ^ 31) (hb : -2 ^ 31 ≤ b ∧ b < 2 ^ 31) : iI a < iI b ↔ a < b := by rw [Int32.lt_iff_toInt_lt, iI_toInt ha, iI_toInt hb]
theorem iI_le {a b : Int} (ha : -2 ^ 31 ≤ a ∧ a < 2 ^ 31) (hb : -2 ^ 31 ≤ b ∧ b < 2 ^ 31) : iI a ≤ iI b ↔ a ≤ b := by rw [Int32.le_iff_toInt_le, iI_toInt ha, iI_toInt hb]
theorem iI_nat {z : Int} (h : 0 ≤ z) : iI z = nI z.toNat := by rw [nI_iI, Int.toNat_of_nonneg h]
theorem iI_rem {z : Int} {L : Nat} (hz : -2 ^ 31 ≤ z ∧ z < 2 ^ 31) (hL : 0 < L ∧ L < 2 ^ 31) : iI z - iI z / nI L * nI L = iI (z.tmod L) := by
  have hd : iI z / nI L = iI (z.tdiv L) := by
    rw [nI_iI]
    refine (Int32.ofInt_tdiv ?_ ?_ ?_ ?_).symm
    · exact hz.1
    · exact Int.le_of_lt_add_one hz.2
    · show (-2147483648 : Int) ≤ _; omega
    · show _ ≤ (2147483647 : Int); omega
  rw [hd, nI_iI, iI_mul, iI_sub]
  congr 1
  rw [Int.tmod_def, Int.mul_comm]
theorem z_msb (x : Int32) : (x.toBitVec.msb = true) ↔ x < 0 := by
  rw [BitVec.msb_eq_toInt, Int32.lt_iff_toInt_lt]
  exact decide_eq_true_iff
theorem z_xor {x y : Int32} (hy : ¬ y < 0) : (0 ≤ x ^^^ y) ↔ ¬ x < 0 := by
  have h1 := z_msb (x ^^^ y)
  have h2 := z_msb x
  have h3 := z_msb y
  rw [Int32.toBitVec_xor, BitVec.msb_xor] at h1
  have h4 : y.toBitVec.msb = false := by
    cases hm : y.toBitVec.msb with
    | true => exact absurd (h3.mp hm) hy
    | false => rfl
  rw [h4, Bool.xor_false] at h1
  rw [← Int32.not_lt, ← h1, h2]
theorem z_fm (z : Int) {L : Nat} (hL : 0 < L) : z % (L : Int) = if z < 0 ∧ ¬ z.tmod L = 0 then z.tmod L + L else z.tmod L := by
  rw [Int.emod_eq_tmod]
  by_cases hz : z < 0
  · by_cases h0 : z.tmod L = 0
    · rw [if_pos (Or.inr (Int.dvd_of_tmod_eq_zero h0)), if_neg (fun h => h.2 h0)]; exact Int.add_zero _
    · rw [if_neg (fun h => h.elim (fun h => by omega) (fun h => h0 (Int.tmod_eq_zero_of_dvd h))), if_pos ⟨hz, h0⟩, Int.natAbs_natCast]
  · rw [if_pos (Or.inl (by omega)), if_neg (fun h => hz h.1)]; exact Int.add_zero _
theorem z_tmod_b {z : Int} {L : Nat} (hL : 0 < L) : -(L : Int) < z.tmod L ∧ z.tmod L < L := by
  have h1 := Int.tmod_lt_of_pos (-z) (b := (L : Int)) (by omega)
  rw [Int.neg_tmod] at h1
  exact ⟨by omega, Int.tmod_lt_of_pos z (by omega)⟩
