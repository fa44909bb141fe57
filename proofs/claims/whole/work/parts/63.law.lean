section LV
variable {L : Nat} {xs : Nat → Int32}
theorem l_lt {L i : Nat} (hL : L ≤ 3072) (hi : i ≤ 4000) : nI L - nI 6 < nI i ↔ L < i + 6 := by
  by_cases h : 6 ≤ L
  · rw [pk_sub h, nI_ltI (by omega) (by omega)]; omega
  · have hn : nI L - nI 6 < 0 := (show ∀ k, k < 6 → nI k - nI 6 < 0 by decide) L (by omega)
    exact ⟨fun _ => by omega, fun _ => Int32.lt_of_lt_of_le hn (nI_pos' (by omega))⟩
set_option maxRecDepth 20000 in
theorem l_loop (hL : L ≤ 3072) : ∀ m i h, L + 6 ≤ i + 6 * m → i ≤ 3072 + 6 → s_I h → zLw L xs 18 [some (.ref zS), some (.ref 0), some (.ref 47), some (.int (nI i))] [] h 64 2319 := by
  intro m
  induction m with
  | zero =>
    intro i h hm hi inv
    refine zj_iload_n dL_law_18 (by rfl) ?_
    refine zj_aload_n dL_law_19 (by rfl) ?_
    refine zj_slen dL_law_20 rfl ?_
    refine zj_bipush (v := nI 6) dL_law_21 (by decide) ?_
    refine zj_isub dL_law_23 ?_
    refine zj_icmp_gt (tgt := 1425) dL_law_24 (by decide) (fun _ => ?_) (fun zq => absurd ((l_lt hL (by omega)).mpr (by omega)) zq)
    refine zj_iconst (v := 1) dL_law_1425 (by decide) ?_
    exact zj_zret dL_law_1426 rfl (Or.inr rfl) (by decide) (by decide) rfl
  | succ m ih =>
    intro i h hm hi inv
    refine zj_iload_n dL_law_18 (by rfl) ?_
    refine zj_aload_n dL_law_19 (by rfl) ?_
    refine zj_slen dL_law_20 rfl ?_
    refine zj_bipush (v := nI 6) dL_law_21 (by decide) ?_
    refine zj_isub dL_law_23 ?_
    refine zj_icmp_gt (tgt := 1425) dL_law_24 (by decide) (fun _ => ?_) (fun zq => ?_)
    · refine zj_iconst (v := 1) dL_law_1425 (by decide) ?_
      exact zj_zret dL_law_1426 rfl (Or.inr rfl) (by decide) (by decide) rfl
    · have hi6 : i + 6 ≤ L := by
        have := mt (l_lt hL (by omega : i ≤ 4000)).mpr zq
        omega
      have K : ∀ h', s_I h' → zLw L xs 1419 [some (.ref zS), some (.ref 0), some (.ref 47), some (.int (nI i))] [] h' 64 2319 := by
        intro h' inv'
        refine zj_iinc (v := nI 6) dL_law_1419 (by decide) (by rfl) (by decide) ?_
        rw [nI_add]
        refine zj_goto (tgt := 18) dL_law_1422 (by decide) ?_
        exact ih (i + 6) h' (by omega) (by omega) inv'
      refine zj_aload_n dL_law_27 (by rfl) ?_
      refine zj_iload_n dL_law_28 (by rfl) ?_
      refine zl_ld dL_law_29 (by omega) ?_
      refine zj_bipush (v := 63) dL_law_30 (by decide) ?_
      refine zj_iand dL_law_32 ?_
      obtain ⟨k, hk, e⟩ := pk_andE (xs i) (m := 63) 6 (by decide)
      rw [e]
      match k, hk with
      | 0, _ => exact zj_tin (off := 147) (tgt := 180) dL_law_33 (by decide) (by decide) (by rfl) (by decide) (l_limb inv hi6 hL K)
      | 1, _ => exact zj_tin (off := 190) (tgt := 223) dL_law_33 (by decide) (by decide) (by rfl) (by decide) (l_isOf inv hi6 hL K)
      | 2, _ => exact zj_tin (off := 233) (tgt := 266) dL_law_33 (by decide) (by decide) (by rfl) (by decide) (l_clear inv hi6 hL K)
      | 3, _ => exact zj_tin (off := 256) (tgt := 289) dL_law_33 (by decide) (by decide) (by rfl) (by decide) (l_length inv hi6 hL K)
      | 4, _ => exact zj_tin (off := 279) (tgt := 312) dL_law_33 (by decide) (by decide) (by rfl) (by decide) (l_handling inv hi6 hL K)
      | 5, _ => exact zj_tin (off := 312) (tgt := 345) dL_law_33 (by decide) (by decide) (by rfl) (by decide) (l_feed inv hi6 hL K)
      | 6, _ => exact zj_tin (off := 355) (tgt := 388) dL_law_33 (by decide) (by decide) (by rfl) (by decide) (l_trim inv hi6 hL K)
      | 7, _ => exact zj_tin (off := 378) (tgt := 411) dL_law_33 (by decide) (by decide) (by rfl) (by decide) (l_phrase inv hi6 hL K)
      | 8, _ => exact zj_tin (off := 401) (tgt := 434) dL_law_33 (by decide) (by decide) (by rfl) (by decide) (l_syllable inv hi6 hL K)
      | 9, _ => exact zj_tin (off := 434) (tgt := 467) dL_law_33 (by decide) (by decide) (by rfl) (by decide) (l_ticks inv hi6 hL K)
      | 10, _ => exact zj_tin (off := 467) (tgt := 500) dL_law_33 (by decide) (by decide) (by rfl) (by decide) (l_lands inv hi6 hL K)
      | 11, _ => exact zj_tin (off := 530) (tgt := 563) dL_law_33 (by decide) (by decide) (by rfl) (by decide) (l_gaps inv hi6 hL K)
      | 12, _ => exact zj_tin (off := 583) (tgt := 616) dL_law_33 (by decide) (by decide) (by rfl) (by decide) (l_gap inv hi6 hL K)
      | 13, _ => exact zj_tin (off := 646) (tgt := 679) dL_law_33 (by decide) (by decide) (by rfl) (by decide) (l_start inv hi6 hL K)
      | 14, _ => exact zj_tin (off := 699) (tgt := 732) dL_law_33 (by decide) (by decide) (by rfl) (by decide) (l_doubles inv hi6 hL K)
      | 15, _ => exact zj_tin (off := 752) (tgt := 785) dL_law_33 (by decide) (by decide) (by rfl) (by decide) (l_least inv hi6 hL K)
      | 16, _ => exact zj_tin (off := 805) (tgt := 838) dL_law_33 (by decide) (by decide) (by rfl) (by decide) (l_grid inv hi6 hL K)
      | 17, _ => exact zj_tin (off := 828) (tgt := 861) dL_law_33 (by decide) (by decide) (by rfl) (by decide) (l_shape inv hi6 hL K)
      | 18, _ => exact zj_tin (off := 871) (tgt := 904) dL_law_33 (by decide) (by decide) (by rfl) (by decide) (l_shaped inv hi6 hL K)
      | 19, _ => exact zj_tin (off := 924) (tgt := 957) dL_law_33 (by decide) (by decide) (by rfl) (by decide) (l_ways inv hi6 hL K)
      | 20, _ => exact zj_tin (off := 957) (tgt := 990) dL_law_33 (by decide) (by decide) (by rfl) (by decide) (l_cuts inv hi6 hL K)
      | 21, _ => exact zj_tin (off := 990) (tgt := 1023) dL_law_33 (by decide) (by decide) (by rfl) (by decide) (l_hand inv hi6 hL K)
      | 22, _ => exact zj_tin (off := 1023) (tgt := 1056) dL_law_33 (by decide) (by decide) (by rfl) (by decide) (l_strains inv hi6 hL K)
      | 23, _ => exact zj_tin (off := 1046) (tgt := 1079) dL_law_33 (by decide) (by decide) (by rfl) (by decide) (l_plays inv hi6 hL K)
      | 24, _ => exact zj_tin (off := 1079) (tgt := 1112) dL_law_33 (by decide) (by decide) (by rfl) (by decide) (l_join inv hi6 hL K)
      | 25, _ => exact zj_tin (off := 1132) (tgt := 1165) dL_law_33 (by decide) (by decide) (by rfl) (by decide) (l_drop inv hi6 hL K)
      | 26, _ => exact zj_tin (off := 1145) (tgt := 1178) dL_law_33 (by decide) (by decide) (by rfl) (by decide) (l_account inv hi6 hL K)
      | 27, _ => exact zj_tin (off := 1178) (tgt := 1211) dL_law_33 (by decide) (by decide) (by rfl) (by decide) (l_landings inv hi6 hL K)
      | 28, _ => exact zj_tin (off := 1201) (tgt := 1234) dL_law_33 (by decide) (by decide) (by rfl) (by decide) (l_home inv hi6 hL K)
      | 29, _ => exact zj_tin (off := 1224) (tgt := 1257) dL_law_33 (by decide) (by decide) (by rfl) (by decide) (l_sheet inv hi6 hL K)
      | 30, _ => exact zj_tin (off := 1257) (tgt := 1290) dL_law_33 (by decide) (by decide) (by rfl) (by decide) (l_mark inv hi6 hL K)
      | 31, _ => exact zj_tin (off := 1300) (tgt := 1333) dL_law_33 (by decide) (by decide) (by rfl) (by decide) (l_copy inv hi6 hL K)
      | 32, _ => exact zj_tin (off := 1363) (tgt := 1396) dL_law_33 (by decide) (by decide) (by rfl) (by decide) (l_count inv hi6 hL K)
      | k + 33, hk => exact zj_tout (tgt := 1419) dL_law_33 (Or.inr (by rw [nI_toInt (by omega)]; omega)) (by decide) (K h inv)
end LV
theorem l_all {L : Nat} {xs : Nat → Int32} (hL : L ≤ 3072) : zLw L xs 0 [some (.ref zS), none, none, none] [] [] 0 0 := l_made (l_loop hL 600 0 hm_1 (by omega) (by omega) hm_I)
