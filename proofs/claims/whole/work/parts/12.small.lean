/-! java.lang.Math, and the small classes -/
section SM
variable {d k a b : Nat} {h : zH} {f g : Nat → Int32} {n : Nat}
theorem j9_floorMod {z : Int} {l : Nat} (hz : -2 ^ 31 ≤ z ∧ z < 2 ^ 31) (hl : 0 < l ∧ l < 2 ^ 30) : zD mJ9_floorMod_7cf53 d [.int (iI z), .int (nI l)] h (some (.int (nI (z % (l : Int)).toNat))) h := by
  have hb := z_tmod_b (z := z) hl.1
  have hf := z_fm z hl.1
  have hnl : ¬ nI l < 0 := nI_pos (by omega)
  have hz0 : iI z < 0 ↔ z < 0 := by
    have := iI_lt hz (b := 0) (by omega)
    exact this
  have hm0 : iI (z.tmod l) = 0 ↔ z.tmod l = 0 := by
    have := iI_eq (a := z.tmod l) (b := 0) (by omega) (by omega)
    exact this
  refine zD_of (by decide +kernel) (by exact Nat.le_of_ble_eq_true rfl) ?_
  show zB mJ9_floorMod_7cf53 _ _ _ 0 [some (.int (iI z)), some (.int (nI l)), none] [] _
  refine zj_iload_n dJ9_floorMod_7cf53_0 (by rfl) ?_
  refine zj_iload_n dJ9_floorMod_7cf53_1 (by rfl) ?_
  refine zj_irem dJ9_floorMod_7cf53_2 (nI_ne0 (by omega) (by omega)) ?_
  rw [iI_rem hz (by omega)]
  refine zj_istore_n dJ9_floorMod_7cf53_3 (by decide) ?_
  refine zj_iload_n dJ9_floorMod_7cf53_4 (by rfl) ?_
  refine zj_iload_n dJ9_floorMod_7cf53_5 (by rfl) ?_
  refine zj_ixor dJ9_floorMod_7cf53_6 ?_
  refine zj_if_ge (tgt := 18) dJ9_floorMod_7cf53_7 (by decide) (fun q7 => ?_) (fun q7 => ?_)
  · refine zj_iload_n dJ9_floorMod_7cf53_18 (by rfl) ?_
    refine zj_iret dJ9_floorMod_7cf53_19 rfl (Nat.le_refl _) (Nat.le_refl _) ?_
    refine ⟨?_, rfl⟩
    have hf2 : z % (l : Int) = z.tmod l := by
      first | (have h1 := (z_xor hnl).mp q7; rw [hz0] at h1; rw [hf, if_neg (fun h => h1 h.1)]) | rw [hf, if_neg (fun h => h.2 (hm0.mp q11))]
    rw [← hf2, iI_nat (Int.emod_nonneg _ (by omega))]
  · refine zj_iload_n dJ9_floorMod_7cf53_10 (by rfl) ?_
    refine zj_if_eq (tgt := 18) dJ9_floorMod_7cf53_11 (by decide) (fun q11 => ?_) (fun q11 => ?_)
    · refine zj_iload_n dJ9_floorMod_7cf53_18 (by rfl) ?_
      refine zj_iret dJ9_floorMod_7cf53_19 rfl (Nat.le_refl _) (Nat.le_refl _) ?_
      refine ⟨?_, rfl⟩
      have hf2 : z % (l : Int) = z.tmod l := by
        first | (have h1 := (z_xor hnl).mp q7; rw [hz0] at h1; rw [hf, if_neg (fun h => h1 h.1)]) | rw [hf, if_neg (fun h => h.2 (hm0.mp q11))]
      rw [← hf2, iI_nat (Int.emod_nonneg _ (by omega))]
    · refine zj_iload_n dJ9_floorMod_7cf53_14 (by rfl) ?_
      refine zj_iload_n dJ9_floorMod_7cf53_15 (by rfl) ?_
      refine zj_iadd dJ9_floorMod_7cf53_16 ?_
      refine zj_iret dJ9_floorMod_7cf53_17 rfl (Nat.le_refl _) (Nat.le_refl _) ?_
      refine ⟨?_, rfl⟩
      have h1 : z < 0 := by
        have := mt (z_xor hnl).mpr q7
        rw [hz0] at this
        omega
      rw [if_pos ⟨h1, mt hm0.mpr q11⟩] at hf
      rw [hf, nI_iI l, iI_add, iI_nat (by omega)]
theorem j9_min {x y : Nat} (hx : x < 2 ^ 31) (hy : y < 2 ^ 31) : zD mJ9_min_7cf53 d [.int (nI x), .int (nI y)] h (some (.int (nI (min x y)))) h := by
  refine zD_of (by decide +kernel) (by exact Nat.le_of_ble_eq_true rfl) ?_
  show zB mJ9_min_7cf53 _ _ _ 0 [some (.int (nI x)), some (.int (nI y))] [] _
  refine zj_iload_n dJ9_min_7cf53_0 (by rfl) ?_
  refine zj_iload_n dJ9_min_7cf53_1 (by rfl) ?_
  refine zj_icmp_gtN (tgt := 9) dJ9_min_7cf53_2 (by decide) (by omega) (fun q2 => ?_) (fun q2 => ?_)
  · refine zj_iload_n dJ9_min_7cf53_9 (by rfl) ?_
    refine zj_iret dJ9_min_7cf53_10 rfl (Nat.le_refl _) (Nat.le_refl _) ?_
    exact ⟨by congr 3; omega, rfl⟩
  · refine zj_iload_n dJ9_min_7cf53_5 (by rfl) ?_
    refine zj_goto (tgt := 10) dJ9_min_7cf53_6 (by decide) ?_
    refine zj_iret dJ9_min_7cf53_10 rfl (Nat.le_refl _) (Nat.le_refl _) ?_
    exact ⟨by congr 3; omega, rfl⟩
theorem j9_max {x y : Nat} (hx : x < 2 ^ 31) (hy : y < 2 ^ 31) : zD mJ9_max_7cf53 d [.int (nI x), .int (nI y)] h (some (.int (nI (max x y)))) h := by
  refine zD_of (by decide +kernel) (by exact Nat.le_of_ble_eq_true rfl) ?_
  show zB mJ9_max_7cf53 _ _ _ 0 [some (.int (nI x)), some (.int (nI y))] [] _
  refine zj_iload_n dJ9_max_7cf53_0 (by rfl) ?_
  refine zj_iload_n dJ9_max_7cf53_1 (by rfl) ?_
  refine zj_icmp_ltN (tgt := 9) dJ9_max_7cf53_2 (by decide) (by omega) (fun q2 => ?_) (fun q2 => ?_)
  · refine zj_iload_n dJ9_max_7cf53_9 (by rfl) ?_
    refine zj_iret dJ9_max_7cf53_10 rfl (Nat.le_refl _) (Nat.le_refl _) ?_
    exact ⟨by congr 3; omega, rfl⟩
  · refine zj_iload_n dJ9_max_7cf53_5 (by rfl) ?_
    refine zj_goto (tgt := 10) dJ9_max_7cf53_6 (by decide) ?_
    refine zj_iret dJ9_max_7cf53_10 rfl (Nat.le_refl _) (Nat.le_refl _) ?_
    exact ⟨by congr 3; omega, rfl⟩
theorem j9_minL {x y : Nat} (hx : x < 2 ^ 62) (hy : y < 2 ^ 62) : zD mJ9_min_f86c9 d [.long (lN x), .long (lN y)] h (some (.long (lN (min x y)))) h := by
  have hc : (0 < lg_cmp (lN x) (lN y)) ↔ y < x := by
    unfold lg_cmp
    have h1 := pk_lLT (a := y) (b := x) (by omega) (by omega)
    have h2 := pk_lLT (a := x) (b := y) (by omega) (by omega)
    by_cases hq : lN x > lN y
    · rw [if_pos hq]; exact ⟨fun _ => h1.mp hq, fun _ => by decide⟩
    · rw [if_neg hq]
      have h3 := mt h1.mpr hq
      refine ⟨fun h => ?_, fun h => absurd h h3⟩
      split at h <;> exact absurd h (by decide)
  refine zD_of (by decide +kernel) (by exact Nat.le_of_ble_eq_true rfl) ?_
  show zB mJ9_min_f86c9 _ _ _ 0 [some (.long (lN x)), none, some (.long (lN y)), none] [] _
  refine zj_lload_n dJ9_min_f86c9_0 (by rfl) ?_
  refine zj_lload_n dJ9_min_f86c9_1 (by rfl) ?_
  refine zj_lcmp dJ9_min_f86c9_2 ?_
  refine zj_if_gt (tgt := 10) dJ9_min_f86c9_3 (by decide) (fun q3 => ?_) (fun q3 => ?_)
  · refine zj_lload_n dJ9_min_f86c9_10 (by rfl) ?_
    refine zj_lret dJ9_min_f86c9_11 rfl (Nat.le_refl _) (Nat.le_refl _) ?_
    exact ⟨by have := hc; simp only [q3, true_iff, false_iff] at this; congr 3; omega, rfl⟩
  · refine zj_lload_n dJ9_min_f86c9_6 (by rfl) ?_
    refine zj_goto (tgt := 11) dJ9_min_f86c9_7 (by decide) ?_
    refine zj_lret dJ9_min_f86c9_11 rfl (Nat.le_refl _) (Nat.le_refl _) ?_
    exact ⟨by have := hc; simp only [q3, true_iff, false_iff] at this; congr 3; omega, rfl⟩
theorem x2_at {i : Nat} (hk : h[k]? = some (.inr (2, [.ref a, .int (nI n)]))) (ha : h[a]? = some (.inl (0, 60, .inl f))) (hn : n ≤ 60) (hi : i < 2 ^ 31) : zD mX2_at d [.ref k, .int (nI i)] h (some (.int (if i < n then f i else -1000000005))) h := by
  refine zD_of (by decide +kernel) (by exact Nat.le_of_ble_eq_true rfl) ?_
  show zB mX2_at _ _ _ 0 [some (.ref k), some (.int (nI i))] [] _
  refine zj_iload_n dX2_at_0 (by rfl) ?_
  refine zj_if_ltN (tgt := 21) dX2_at_1 (by decide) (by omega) ?_
  refine zj_iload_n dX2_at_4 (by rfl) ?_
  refine zj_aload_n dX2_at_5 (by rfl) ?_
  refine zg_2_15 rfl dX2_at_6 (by first | assumption | rfl) (by rfl) ?_
  refine zj_icmp_geN (tgt := 21) dX2_at_9 (by decide) (by omega) (fun q9 => ?_) (fun q9 => ?_)
  · refine zj_ldc (v := -1000000005) dX2_at_21 zq_330 ?_
    refine zj_iret dX2_at_23 rfl (Nat.le_refl _) (Nat.le_refl _) ?_
    exact ⟨by first | rw [if_pos (by omega)] | rw [if_neg (by omega)], rfl⟩
  · refine zj_aload_n dX2_at_12 (by rfl) ?_
    refine zg_2_11 rfl dX2_at_13 (by first | assumption | rfl) (by rfl) ?_
    refine zj_iload_n dX2_at_16 (by rfl) ?_
    refine zj_baldN dX2_at_17 (by first | assumption | rfl) (by omega) ?_
    refine zj_goto (tgt := 23) dX2_at_18 (by decide) ?_
    refine zj_iret dX2_at_23 rfl (Nat.le_refl _) (Nat.le_refl _) ?_
    exact ⟨by first | rw [if_pos (by omega)] | rw [if_neg (by omega)], rfl⟩
theorem x2_rowsBy {c : Nat} (hk : h[k]? = some (.inr (2, [.ref a, .int (nI n)]))) (hn : n ≤ 60) (hc : 0 < c ∧ c < 10) : zD mX2_rowsBy d [.ref k, .int (nI c)] h (some (.int (nI ((n + c - 1) / c)))) h := by
  refine zD_of (by decide +kernel) (by exact Nat.le_of_ble_eq_true rfl) ?_
  show zB mX2_rowsBy _ _ _ 0 [some (.ref k), some (.int (nI c))] [] _
  refine zj_iload_n dX2_rowsBy_0 (by rfl) ?_
  refine zj_if_gtN (tgt := 8) dX2_rowsBy_1 (by decide) (by omega) (fun _ => ?_) (fun zq => absurd (by omega) zq)
  refine zj_aload_n dX2_rowsBy_8 (by rfl) ?_
  refine zg_2_15 rfl dX2_rowsBy_9 (by first | assumption | rfl) (by rfl) ?_
  refine zj_iload_n dX2_rowsBy_12 (by rfl) ?_
  refine zj_iaddN dX2_rowsBy_13 ?_
  refine zj_iconst (v := nI 1) dX2_rowsBy_14 (by decide) ?_
  refine zj_isubN dX2_rowsBy_15 (by omega) ?_
  refine zj_iload_n dX2_rowsBy_16 (by rfl) ?_
  refine zj_idivN dX2_rowsBy_17 (by omega) ?_
  refine zj_iret dX2_rowsBy_18 rfl (Nat.le_refl _) (Nat.le_refl _) ?_
  exact ⟨rfl, rfl⟩
/-- a sheet's places: nothing is -1 -/
def s_pl (o : Option Nat) : Int32 := match o with
  | none => -1
  | some n => nI n
theorem s_pl_m {o : Option Nat} (h : ∀ n, o = some n → n ≤ 60) : s_pl o = -1 ↔ o = none := by
  cases o with
  | none => simp [s_pl]
  | some n =>
    have hn := h n rfl
    simp only [s_pl, reduceCtorEq, iff_false]
    intro hh
    have h1 : (nI n).toInt = (-1 : Int32).toInt := by rw [hh]
    rw [nI_toInt (by omega)] at h1
    have h2 : (-1 : Int32).toInt = -1 := by decide
    omega
theorem x3_isMissing {o : Option Nat} (hk : h[k]? = some (.inr (3, [.ref a, .int (s_pl o)]))) (ho : ∀ n, o = some n → n ≤ 60) : zD mX3_isMissing d [.ref k] h (some (.int (if o = none then 1 else 0))) h := by
  refine zD_of (by decide +kernel) (by exact Nat.le_of_ble_eq_true rfl) ?_
  show zB mX3_isMissing _ _ _ 0 [some (.ref k)] [] _
  refine zj_aload_n dX3_isMissing_0 (by rfl) ?_
  refine zg_3_15 rfl dX3_isMissing_1 (by first | assumption | rfl) (by rfl) ?_
  refine zj_iconst (v := (-1)) dX3_isMissing_4 (by decide) ?_
  refine zj_icmp_ne (tgt := 12) dX3_isMissing_5 (by decide) (fun q5 => ?_) (fun q5 => ?_)
  · refine zj_iconst (v := 0) dX3_isMissing_12 (by decide) ?_
    refine zj_zret dX3_isMissing_13 rfl (by first | exact Or.inl rfl | exact Or.inr rfl) (Nat.le_refl _) (Nat.le_refl _) ?_
    exact ⟨by rw [s_pl_m ho] at q5; simp [q5], rfl⟩
  · refine zj_iconst (v := 1) dX3_isMissing_8 (by decide) ?_
    refine zj_goto (tgt := 13) dX3_isMissing_9 (by decide) ?_
    refine zj_zret dX3_isMissing_13 rfl (by first | exact Or.inl rfl | exact Or.inr rfl) (Nat.le_refl _) (Nat.le_refl _) ?_
    exact ⟨by rw [s_pl_m ho] at q5; simp [q5], rfl⟩
end SM
