section HB
variable {d k o a b p r n : Nat} {h : zH} {f ho fl fr : Nat → Int32} {hd pr : Nat → Nat}
def s_W (n : Nat) (hd pr : Nat → Nat) (fl fr : Nat → Int32) : Prop := ∀ j, j < n → fl j = nI (s_F (s_U hd pr) n (n - 1 - j) (s_U hd pr j 0)) ∧ fr j = nI (s_F (s_U hd pr) n (n - 1 - j) (s_U hd pr j 1))
def s_ne (a b k o p r : Nat) : Prop := ¬ a = b ∧ ¬ a = k ∧ ¬ a = o ∧ ¬ a = p ∧ ¬ a = r ∧ ¬ b = k ∧ ¬ b = o ∧ ¬ b = p ∧ ¬ b = r
theorem x1_weigh (hne : s_ne a b k o p r) (hB : s_HB h k o a b p r n ho f hd pr) (ha : h[a]? = some (.inl (1, 60, .inl fl))) (hb : h[b]? = some (.inl (1, 60, .inl fr))) : ∃ fl' fr', s_W n hd pr fl' fr' ∧ zD mX1_weigh (d + 3) [.ref k, .ref p] h none ((h.set a (.inl (1, 60, .inl fl'))).set b (.inl (1, 60, .inl fr'))) := by
  obtain ⟨fl', fr', hl', hJ⟩ := x1_weigh_l (d := d) hne n fl fr h hB ha hb (Nat.le_refl _) (fun j h1 h2 => by omega)
  refine ⟨fl', fr', hl', ?_⟩
  obtain ⟨hk, ho1, hp, hr, hn, hf, hpr, hho, hhd⟩ := id hB
  refine zD_of (by decide +kernel) (by exact Nat.le_of_ble_eq_true rfl) ?_
  show zB mX1_weigh _ _ _ 0 [some (.ref k), some (.ref p), none] [] _
  refine zj_aload_n dX1_weigh_0 (by rfl) ?_
  refine zg_1_34 rfl dX1_weigh_1 (by first | assumption | rfl) (by rfl) ?_
  refine zj_iconst (v := 1) dX1_weigh_4 (by decide) ?_
  refine zj_isub dX1_weigh_5 ?_
  refine zj_istore_n dX1_weigh_6 (by decide) ?_
  rw [show nI n - 1 = nI n + (-1) from Int32.sub_eq_add_neg _ _]
  exact hJ
theorem s_HB_set (hne : s_ne a b k o p r) (hB : s_HB h k o a b p r n ho f hd pr) (x y : va_E) : s_HB ((h.set a x).set b y) k o a b p r n ho f hd pr := by
  obtain ⟨n1, n2, n3, n4, n5, n6, n7, n8, n9⟩ := hne
  obtain ⟨hk, ho1, hp, hr, hn, hf, hpr, hho, hhd⟩ := hB
  exact ⟨zset_ne n6 (zset_ne n2 hk), zset_ne n7 (zset_ne n3 ho1), zset_ne n8 (zset_ne n4 hp), zset_ne n9 (zset_ne n5 hr), hn, hf, hpr, hho, hhd⟩
theorem x1_fewestStrains (hne : s_ne a b k o p r) (hB : s_HB h k o a b p r n ho f hd pr) (ha : h[a]? = some (.inl (1, 60, .inl fl))) (hb : h[b]? = some (.inl (1, 60, .inl fr))) (h0 : 0 < n) : ∃ fl' fr', zD mX1_fewestStrains (d + 4) [.ref k, .ref p] h (some (.int (nI (min (s_F (s_U hd pr) n (n - 1) (s_U hd pr 0 0)) (s_F (s_U hd pr) n (n - 1) (s_U hd pr 0 1)))))) ((h.set a (.inl (1, 60, .inl fl'))).set b (.inl (1, 60, .inl fr'))) := by
  obtain ⟨fl', fr', hl', hW⟩ := x1_weigh (d := d) hne hB ha hb
  refine ⟨fl', fr', ?_⟩
  obtain ⟨hk, ho1, hp, hr, hn, hf, hpr, hho, hhd⟩ := id hB
  obtain ⟨hk1, ho2, hp1, hr1, -⟩ := s_HB_set hne hB (.inl (1, 60, .inl fl')) (.inl (1, 60, .inl fr'))
  have ha1 := zset_ne (c := .inl (1, 60, .inl fr')) (fun e => hne.1 e.symm) (zset_eq (c := .inl (1, 60, .inl fl')) ha)
  have hb1 := zset_eq (c := .inl (1, 60, .inl fr')) (zset_ne (c := .inl (1, 60, .inl fl')) hne.1 hb)
  have b1 := s_F_le (U := s_U hd pr) (n := n) (n - 1) (s_U hd pr 0 0)
  have b2 := s_F_le (U := s_U hd pr) (n := n) (n - 1) (s_U hd pr 0 1)
  refine zD_of (by decide +kernel) (by exact Nat.le_of_ble_eq_true rfl) ?_
  show zB mX1_fewestStrains _ _ _ 0 [some (.ref k), some (.ref p)] [] _
  refine zj_aload_n dX1_fewestStrains_0 (by rfl) ?_
  refine zj_aload_n dX1_fewestStrains_1 (by rfl) ?_
  refine zc_1_24 rfl dX1_fewestStrains_2 (by first | assumption | rfl) hW (by exact Nat.le_of_ble_eq_true rfl) ?_
  refine zj_aload_n dX1_fewestStrains_5 (by rfl) ?_
  refine zg_1_17 rfl dX1_fewestStrains_6 (by first | assumption | rfl) (by rfl) ?_
  refine zj_iconst (v := nI 0) dX1_fewestStrains_9 (by decide) ?_
  refine zj_ialdN dX1_fewestStrains_10 (by first | assumption | rfl) (by omega) ?_
  rw [(hl' 0 h0).1]
  refine zj_aload_n dX1_fewestStrains_11 (by rfl) ?_
  refine zg_1_20 rfl dX1_fewestStrains_12 (by first | assumption | rfl) (by rfl) ?_
  refine zj_iconst (v := nI 0) dX1_fewestStrains_15 (by decide) ?_
  refine zj_ialdN dX1_fewestStrains_16 (by first | assumption | rfl) (by omega) ?_
  rw [(hl' 0 h0).2]
  refine zc_1_28 rfl dX1_fewestStrains_17 (j9_min (by simp only [Nat.sub_zero]; omega) (by simp only [Nat.sub_zero]; omega)) (by exact Nat.le_of_ble_eq_true rfl) ?_
  refine zj_iret dX1_fewestStrains_20 rfl (Nat.le_refl _) (Nat.le_refl _) ?_
  exact ⟨rfl, rfl⟩
theorem x1_change {i : Nat} {v : Int32} (hk : h[k]? = some (.inr (1, [.ref o, .ref a, .ref b]))) (ho1 : h[o]? = some (.inl (1, 8, .inl ho))) (hi : i < 8) (hv : ¬ v < 0 ∧ v ≤ 3) : zD mX1_change d [.ref k, .int (nI i), .int v] h (some (.int (ho i))) (h.set o (.inl (1, 8, .inl (upd ho i v)))) := by
  refine zD_of (by decide +kernel) (by exact Nat.le_of_ble_eq_true rfl) ?_
  show zB mX1_change _ _ _ 0 [some (.ref k), some (.int (nI i)), some (.int v), none] [] _
  refine zj_iload_n dX1_change_0 (by rfl) ?_
  refine zj_if_ltN (tgt := 22) dX1_change_1 (by decide) (by omega) ?_
  refine zj_iload_n dX1_change_4 (by rfl) ?_
  refine zj_aload_n dX1_change_5 (by rfl) ?_
  refine zg_1_11 rfl dX1_change_6 (by first | assumption | rfl) (by rfl) ?_
  refine zj_alenI dX1_change_9 (by first | assumption | rfl) (by decide) ?_
  refine zj_icmp_geN (tgt := 22) dX1_change_10 (by decide) (by omega) (fun zq => absurd zq (by omega)) (fun _ => ?_)
  refine zj_iload_n dX1_change_13 (by rfl) ?_
  refine zj_if_lt (tgt := 22) dX1_change_14 (by decide) (fun zq => absurd zq (hv.1)) (fun _ => ?_)
  refine zj_iload_n dX1_change_17 (by rfl) ?_
  refine zj_iconst (v := 3) dX1_change_18 (by decide) ?_
  refine zj_icmp_le (tgt := 25) dX1_change_19 (by decide) (fun _ => ?_) (fun zq => absurd (hv.2) zq)
  refine zj_aload_n dX1_change_25 (by rfl) ?_
  refine zg_1_11 rfl dX1_change_26 (by first | assumption | rfl) (by rfl) ?_
  refine zj_iload_n dX1_change_29 (by rfl) ?_
  refine zj_ialdN dX1_change_30 (by first | assumption | rfl) (by omega) ?_
  refine zj_istore_n dX1_change_31 (by decide) ?_
  refine zj_aload_n dX1_change_32 (by rfl) ?_
  refine zg_1_11 rfl dX1_change_33 (by first | assumption | rfl) (by rfl) ?_
  refine zj_iload_n dX1_change_36 (by rfl) ?_
  refine zj_iload_n dX1_change_37 (by rfl) ?_
  refine zj_iastN dX1_change_38 (by first | assumption | rfl) (by omega) ?_
  refine zj_iload_n dX1_change_39 (by rfl) ?_
  refine zj_iret dX1_change_40 rfl (Nat.le_refl _) (Nat.le_refl _) ?_
  exact ⟨rfl, rfl⟩
theorem x1_changeX {x v : Int32} (hk : h[k]? = some (.inr (1, [.ref o, .ref a, .ref b]))) (ho1 : h[o]? = some (.inl (1, 8, .inl ho))) (hx : x < 0 ∨ 8 ≤ x ∨ v < 0 ∨ ¬ v ≤ 3) : zD mX1_change d [.ref k, .int x, .int v] h (some (.int (-1000000001))) h := by
  refine zD_of (by decide +kernel) (by exact Nat.le_of_ble_eq_true rfl) ?_
  show zB mX1_change _ _ _ 0 [some (.ref k), some (.int x), some (.int v), none] [] _
  refine zj_iload_n dX1_change_0 (by rfl) ?_
  refine zj_if_lt (tgt := 22) dX1_change_1 (by decide) (fun q1 => ?_) (fun q1 => ?_)
  · refine zj_ldc (v := -1000000001) dX1_change_22 zq_486 ?_
    refine zj_iret dX1_change_24 rfl (Nat.le_refl _) (Nat.le_refl _) ?_
    exact ⟨by first | rfl | (simp [*]; done) | (simp_all; done), rfl⟩
  · refine zj_iload_n dX1_change_4 (by rfl) ?_
    refine zj_aload_n dX1_change_5 (by rfl) ?_
    refine zg_1_11 rfl dX1_change_6 (by first | assumption | rfl) (by rfl) ?_
    refine zj_alenI dX1_change_9 (by first | assumption | rfl) (by decide) ?_
    refine zj_icmp_ge (tgt := 22) dX1_change_10 (by decide) (fun q10 => ?_) (fun q10 => ?_)
    · refine zj_ldc (v := -1000000001) dX1_change_22 zq_486 ?_
      refine zj_iret dX1_change_24 rfl (Nat.le_refl _) (Nat.le_refl _) ?_
      exact ⟨by first | rfl | (simp [*]; done) | (simp_all; done), rfl⟩
    · refine zj_iload_n dX1_change_13 (by rfl) ?_
      refine zj_if_lt (tgt := 22) dX1_change_14 (by decide) (fun q14 => ?_) (fun q14 => ?_)
      · refine zj_ldc (v := -1000000001) dX1_change_22 zq_486 ?_
        refine zj_iret dX1_change_24 rfl (Nat.le_refl _) (Nat.le_refl _) ?_
        exact ⟨by first | rfl | (simp [*]; done) | (simp_all; done), rfl⟩
      · refine zj_iload_n dX1_change_17 (by rfl) ?_
        refine zj_iconst (v := 3) dX1_change_18 (by decide) ?_
        refine zj_icmp_le (tgt := 25) dX1_change_19 (by decide) (fun q19 => ?_) (fun q19 => ?_)
        · exact absurd q19 (fun hq => by rcases hx with h | h | h | h <;> first | exact q1 h | exact q10 h | exact q14 h | exact h hq)
        · refine zj_ldc (v := -1000000001) dX1_change_22 zq_486 ?_
          refine zj_iret dX1_change_24 rfl (Nat.le_refl _) (Nat.le_refl _) ?_
          exact ⟨by first | rfl | (simp [*]; done) | (simp_all; done), rfl⟩
theorem x1_handAt_l {pl : Nat} (hB : s_HB h k o a b p r n ho f hd pr) (ha : h[a]? = some (.inl (1, 60, .inl fl))) (hb : h[b]? = some (.inl (1, 60, .inl fr))) (hW : s_W n hd pr fl fr) (hpl : pl < n) : ∀ m i o5 o6 o7 o8, i + m = pl + 1 → zB mX1_handAt (d + 4) (some (.int (if s_us (s_U hd pr) n (pl + 1) = 0 then -1000000005 else nI (s_us (s_U hd pr) n (pl + 1) - 1)))) h 10 [some (.ref k), some (.ref p), some (.int (nI pl)), some (.int (nI (s_us (s_U hd pr) n i))), some (.int (nI i)), o5, o6, o7, o8] [] h := by
  obtain ⟨hk, ho1, hp, hr, hn, hf, hpr, hho, hhd⟩ := id hB
  have hU3 : ∀ i e, e ≤ 1 → s_U hd pr i e ≤ 3 := fun i e he => s_U_le3 hhd he
  intro m
  induction m with
  | zero =>
    intro i o5 o6 o7 o8 hi
    have h3 := s_us_le (n := n) hU3 i
    rw [show pl + 1 = i by omega]
    refine zj_iload dX1_handAt_10 (by rfl) ?_
    refine zj_iload_n dX1_handAt_12 (by rfl) ?_
    refine zj_icmp_gtN (tgt := 98) dX1_handAt_13 (by decide) (by omega) (fun _ => ?_) (fun zq => absurd (by omega) zq)
    refine zj_iload_n dX1_handAt_98 (by rfl) ?_
    refine zj_if_neN (tgt := 107) dX1_handAt_99 (by decide) (by omega) (fun q99 => ?_) (fun q99 => ?_)
    · refine zj_iload_n dX1_handAt_107 (by rfl) ?_
      refine zj_iconst (v := nI 1) dX1_handAt_108 (by decide) ?_
      refine zj_isubN dX1_handAt_109 (by omega) ?_
      refine zj_iret dX1_handAt_110 rfl (Nat.le_refl _) (Nat.le_refl _) ?_
      exact ⟨by first | rw [if_pos (by omega)] | rw [if_neg (by omega)], rfl⟩
    · refine zj_ldc (v := -1000000005) dX1_handAt_102 zq_520 ?_
      refine zj_goto (tgt := 110) dX1_handAt_104 (by decide) ?_
      refine zj_iret dX1_handAt_110 rfl (Nat.le_refl _) (Nat.le_refl _) ?_
      exact ⟨by first | rw [if_pos (by omega)] | rw [if_neg (by omega)], rfl⟩
  | succ m ih =>
    intro i o5 o6 o7 o8 hi
    have h3 := s_us_le (n := n) hU3 i
    have b1 := s_F_le (U := s_U hd pr) (n := n) (n - 1 - i) (s_U hd pr i 0)
    have b2 := s_F_le (U := s_U hd pr) (n := n) (n - 1 - i) (s_U hd pr i 1)
    have b3 := s_st_le (s_us (s_U hd pr) n i) (s_U hd pr i 0)
    have b4 := s_st_le (s_us (s_U hd pr) n i) (s_U hd pr i 1)
    have hi2 := fun x5 x6 x7 x8 => ih (i + 1) x5 x6 x7 x8 (by omega)
    have e : s_us (s_U hd pr) n (i + 1) = if s_st (s_us (s_U hd pr) n i) (s_U hd pr i 0) + s_F (s_U hd pr) n (n - 1 - i) (s_U hd pr i 0) ≤ s_st (s_us (s_U hd pr) n i) (s_U hd pr i 1) + s_F (s_U hd pr) n (n - 1 - i) (s_U hd pr i 1) then s_U hd pr i 0 else s_U hd pr i 1 := rfl
    refine zj_iload dX1_handAt_10 (by rfl) ?_
    refine zj_iload_n dX1_handAt_12 (by rfl) ?_
    refine zj_icmp_gtN (tgt := 98) dX1_handAt_13 (by decide) (by omega) (fun zq => absurd zq (by omega)) (fun _ => ?_)
    refine zj_iload dX1_handAt_16 (by rfl) ?_
    refine zj_aload_n dX1_handAt_18 (by rfl) ?_
    refine zg_1_34 rfl dX1_handAt_19 (by first | assumption | rfl) (by rfl) ?_
    refine zj_icmp_geN (tgt := 98) dX1_handAt_22 (by decide) (by omega) (fun zq => absurd zq (by omega)) (fun _ => ?_)
    refine zj_aload_n dX1_handAt_25 (by rfl) ?_
    refine zj_aload_n dX1_handAt_26 (by rfl) ?_
    refine zj_iload dX1_handAt_27 (by rfl) ?_
    refine zj_iconst (v := nI 0) dX1_handAt_29 (by decide) ?_
    refine zc_1_38 rfl dX1_handAt_30 (by first | assumption | rfl) (x1_usedAt (d := d + 2) hB (show i < n by omega) (by omega)) (by exact Nat.le_of_ble_eq_true rfl) ?_
    refine zj_istore dX1_handAt_33 (by decide) ?_
    refine zj_aload_n dX1_handAt_35 (by rfl) ?_
    refine zj_aload_n dX1_handAt_36 (by rfl) ?_
    refine zj_iload dX1_handAt_37 (by rfl) ?_
    refine zj_iconst (v := nI 1) dX1_handAt_39 (by decide) ?_
    refine zc_1_38 rfl dX1_handAt_40 (by first | assumption | rfl) (x1_usedAt (d := d + 2) hB (show i < n by omega) (by omega)) (by exact Nat.le_of_ble_eq_true rfl) ?_
    refine zj_istore dX1_handAt_43 (by decide) ?_
    refine zj_iload_n dX1_handAt_45 (by rfl) ?_
    refine zj_iload dX1_handAt_46 (by rfl) ?_
    refine zc_1_42 rfl dX1_handAt_48 (x1_strainOf h3 (hU3 _ _ (by omega))) (by exact Nat.le_of_ble_eq_true rfl) ?_
    refine zj_aload_n dX1_handAt_51 (by rfl) ?_
    refine zg_1_17 rfl dX1_handAt_52 (by first | assumption | rfl) (by rfl) ?_
    refine zj_iload dX1_handAt_55 (by rfl) ?_
    refine zj_ialdN dX1_handAt_57 (by first | assumption | rfl) (by omega) ?_
    rw [(hW i (by omega)).1]
    refine zj_iaddN dX1_handAt_58 ?_
    refine zj_istore dX1_handAt_59 (by decide) ?_
    refine zj_iload_n dX1_handAt_61 (by rfl) ?_
    refine zj_iload dX1_handAt_62 (by rfl) ?_
    refine zc_1_42 rfl dX1_handAt_64 (x1_strainOf h3 (hU3 _ _ (by omega))) (by exact Nat.le_of_ble_eq_true rfl) ?_
    refine zj_aload_n dX1_handAt_67 (by rfl) ?_
    refine zg_1_20 rfl dX1_handAt_68 (by first | assumption | rfl) (by rfl) ?_
    refine zj_iload dX1_handAt_71 (by rfl) ?_
    refine zj_ialdN dX1_handAt_73 (by first | assumption | rfl) (by omega) ?_
    rw [(hW i (by omega)).2]
    refine zj_iaddN dX1_handAt_74 ?_
    refine zj_istore dX1_handAt_75 (by decide) ?_
    refine zj_iload dX1_handAt_77 (by rfl) ?_
    refine zj_iload dX1_handAt_79 (by rfl) ?_
    refine zj_icmp_gtN (tgt := 89) dX1_handAt_81 (by decide) (by omega) (fun q81 => ?_) (fun q81 => ?_)
    · refine zj_iload dX1_handAt_89 (by rfl) ?_
      refine zj_istore_n dX1_handAt_91 (by decide) ?_
      refine zj_iincN dX1_handAt_92 (by rfl) (by decide) ?_
      refine zj_goto (tgt := 10) dX1_handAt_95 (by decide) ?_
      first | (rw [if_pos (by omega)] at e; rw [e] at hi2; exact hi2 _ _ _ _) | (rw [if_neg (by omega)] at e; rw [e] at hi2; exact hi2 _ _ _ _)
    · refine zj_iload dX1_handAt_84 (by rfl) ?_
      refine zj_goto (tgt := 91) dX1_handAt_86 (by decide) ?_
      refine zj_istore_n dX1_handAt_91 (by decide) ?_
      refine zj_iincN dX1_handAt_92 (by rfl) (by decide) ?_
      refine zj_goto (tgt := 10) dX1_handAt_95 (by decide) ?_
      first | (rw [if_pos (by omega)] at e; rw [e] at hi2; exact hi2 _ _ _ _) | (rw [if_neg (by omega)] at e; rw [e] at hi2; exact hi2 _ _ _ _)
theorem x1_handAt {pl : Nat} (hne : s_ne a b k o p r) (hB : s_HB h k o a b p r n ho f hd pr) (ha : h[a]? = some (.inl (1, 60, .inl fl))) (hb : h[b]? = some (.inl (1, 60, .inl fr))) (hpl : pl < n) : ∃ fl' fr', zD mX1_handAt (d + 4) [.ref k, .ref p, .int (nI pl)] h (some (.int (if s_us (s_U hd pr) n (pl + 1) = 0 then -1000000005 else nI (s_us (s_U hd pr) n (pl + 1) - 1)))) ((h.set a (.inl (1, 60, .inl fl'))).set b (.inl (1, 60, .inl fr'))) := by
  obtain ⟨fl', fr', hl', hW⟩ := x1_weigh (d := d) hne hB ha hb
  refine ⟨fl', fr', ?_⟩
  obtain ⟨hk, -⟩ := id hB
  have hB1 := s_HB_set hne hB (.inl (1, 60, .inl fl')) (.inl (1, 60, .inl fr'))
  have ha1 := zset_ne (c := .inl (1, 60, .inl fr')) (fun e => hne.1 e.symm) (zset_eq (c := .inl (1, 60, .inl fl')) ha)
  have hb1 := zset_eq (c := .inl (1, 60, .inl fr')) (zset_ne (c := .inl (1, 60, .inl fl')) hne.1 hb)
  refine zD_of (by decide +kernel) (by exact Nat.le_of_ble_eq_true rfl) ?_
  show zB mX1_handAt _ _ _ 0 [some (.ref k), some (.ref p), some (.int (nI pl)), none, none, none, none, none, none] [] _
  refine zj_aload_n dX1_handAt_0 (by rfl) ?_
  refine zj_aload_n dX1_handAt_1 (by rfl) ?_
  refine zc_1_24 rfl dX1_handAt_2 (by first | assumption | rfl) hW (by exact Nat.le_of_ble_eq_true rfl) ?_
  refine zj_iconst (v := nI 0) dX1_handAt_5 (by decide) ?_
  refine zj_istore_n dX1_handAt_6 (by decide) ?_
  refine zj_iconst (v := nI 0) dX1_handAt_7 (by decide) ?_
  refine zj_istore dX1_handAt_8 (by decide) ?_
  exact x1_handAt_l (d := d) hB1 ha1 hb1 hl' hpl (pl + 1) 0 none none none none (by omega)
end HB
