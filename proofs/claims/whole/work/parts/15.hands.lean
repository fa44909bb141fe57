/-! CountBook$Hands -/
theorem zset4 {h : zH} {a b : Nat} {x x' y y' : va_E} (hab : ¬ a = b) : (((h.set a x).set b y).set a x').set b y' = (h.set a x').set b y' := by
  apply List.ext_getElem?
  intro j
  simp only [List.getElem?_set, List.length_set]
  by_cases h1 : b = j
  · simp [h1]
  · by_cases h2 : a = j
    · simp [h1, h2]
    · simp [h1, h2]
section HA
variable {d k o a b p r n : Nat} {h : zH} {f ho fl fr : Nat → Int32} {hd pr : Nat → Nat}
/-- the hands in use at a place, told what either is -/
def s_U (hd pr : Nat → Nat) (i e : Nat) : Nat := if pr i < 8 then (if hd (pr i) = 3 then e else hd (pr i)) + 1 else 0
def s_st (u w : Nat) : Nat := if u &&& w = 0 then 0 else 1
/-- the fewest strains behind place n - 1 - m, if u is used there -/
def s_F (U : Nat → Nat → Nat) (n : Nat) : Nat → Nat → Nat
  | 0, _ => 0
  | m + 1, u => min (s_st u (U (n - 1 - m) 0) + s_F U n m (U (n - 1 - m) 0)) (s_st u (U (n - 1 - m) 1) + s_F U n m (U (n - 1 - m) 1))
/-- the hands used at place i - 1 of the play -/
def s_us (U : Nat → Nat → Nat) (n : Nat) : Nat → Nat
  | 0 => 0
  | i + 1 => if s_st (s_us U n i) (U i 0) + s_F U n (n - 1 - i) (U i 0) ≤ s_st (s_us U n i) (U i 1) + s_F U n (n - 1 - i) (U i 1) then U i 0 else U i 1
theorem s_U_le (hhd : ∀ s, s < 8 → hd s ≤ 3) {i e : Nat} (he : e ≤ 1) (h2 : ∀ s, s < 8 → hd s ≤ 3) : s_U hd pr i e ≤ 4 := by
  unfold s_U
  by_cases h8 : pr i < 8
  · have := hhd _ h8
    rw [if_pos h8]
    split <;> omega
  · rw [if_neg h8]; omega
theorem s_U_le3 (hhd : ∀ s, s < 8 → hd s ≤ 3) {i e : Nat} (he : e ≤ 1) : s_U hd pr i e ≤ 3 := by
  unfold s_U
  by_cases h8 : pr i < 8
  · have := hhd _ h8
    rw [if_pos h8]
    split <;> omega
  · rw [if_neg h8]; omega
theorem s_st_le (u w : Nat) : s_st u w ≤ 1 := by unfold s_st; split <;> omega
theorem s_F_le {U : Nat → Nat → Nat} : ∀ (m u : Nat), s_F U n m u ≤ m
  | 0, _ => Nat.le_refl _
  | m + 1, u => by
    have h1 := s_F_le (U := U) m (U (n - 1 - m) 0)
    have h2 := s_st_le u (U (n - 1 - m) 0)
    show min _ _ ≤ _
    omega
theorem s_us_le {U : Nat → Nat → Nat} (hU : ∀ i e, e ≤ 1 → U i e ≤ 3) : ∀ i, s_us U n i ≤ 3
  | 0 => by show 0 ≤ 3; omega
  | i + 1 => by
    show (if _ then _ else _) ≤ 3
    split
    · exact hU _ _ (by omega)
    · exact hU _ _ (by omega)
theorem s_st_I : ∀ u, u < 4 → ∀ w, w < 4 → (if nI u &&& nI w = 0 then (0 : Int32) else 1) = nI (s_st u w) := by decide
theorem x1_strainOf {u w : Nat} (hu : u ≤ 3) (hw : w ≤ 3) : zD mX1_strainOf d [.int (nI u), .int (nI w)] h (some (.int (nI (s_st u w)))) h := by
  rw [← s_st_I u (by omega) w (by omega)]
  refine zD_of (by decide +kernel) (by exact Nat.le_of_ble_eq_true rfl) ?_
  show zB mX1_strainOf _ _ _ 0 [some (.int (nI u)), some (.int (nI w))] [] _
  refine zj_iload_n dX1_strainOf_0 (by rfl) ?_
  refine zj_iload_n dX1_strainOf_1 (by rfl) ?_
  refine zj_iand dX1_strainOf_2 ?_
  refine zj_if_eq (tgt := 10) dX1_strainOf_3 (by decide) (fun q3 => ?_) (fun q3 => ?_)
  · refine zj_iconst (v := 0) dX1_strainOf_10 (by decide) ?_
    refine zj_iret dX1_strainOf_11 rfl (Nat.le_refl _) (Nat.le_refl _) ?_
    exact ⟨by first | rfl | (simp [*]; done) | (simp_all; done), rfl⟩
  · refine zj_iconst (v := 1) dX1_strainOf_6 (by decide) ?_
    refine zj_goto (tgt := 11) dX1_strainOf_7 (by decide) ?_
    refine zj_iret dX1_strainOf_11 rfl (Nat.le_refl _) (Nat.le_refl _) ?_
    exact ⟨by first | rfl | (simp [*]; done) | (simp_all; done), rfl⟩
def s_HB (h : zH) (k o a b p r n : Nat) (ho f : Nat → Int32) (hd pr : Nat → Nat) : Prop :=
  h[k]? = some (.inr (1, [.ref o, .ref a, .ref b])) ∧ h[o]? = some (.inl (1, 8, .inl ho)) ∧ h[p]? = some (.inr (2, [.ref r, .int (nI n)])) ∧ h[r]? = some (.inl (0, 60, .inl f)) ∧ n ≤ 60 ∧ (∀ j, j < n → f j = nI (pr j)) ∧ (∀ j, j < n → pr j ≤ 8) ∧ (∀ s, s < 8 → ho s = nI (hd s)) ∧ (∀ s, s < 8 → hd s ≤ 3)
theorem x1_usedAt {i e : Nat} (hB : s_HB h k o a b p r n ho f hd pr) (hi : i < n) (he : e ≤ 1) : zD mX1_usedAt (d + 1) [.ref k, .ref p, .int (nI i), .int (nI e)] h (some (.int (nI (s_U hd pr i e)))) h := by
  obtain ⟨hk, ho1, hp, hr, hn, hf, hpr, hho, hhd⟩ := hB
  have h8 := hpr i hi
  unfold s_U
  refine zD_of (by decide +kernel) (by exact Nat.le_of_ble_eq_true rfl) ?_
  show zB mX1_usedAt _ _ _ 0 [some (.ref k), some (.ref p), some (.int (nI i)), some (.int (nI e)), none, none] [] _
  refine zj_aload_n dX1_usedAt_0 (by rfl) ?_
  refine zj_iload_n dX1_usedAt_1 (by rfl) ?_
  refine zc_1_49 rfl dX1_usedAt_2 (by first | assumption | rfl) (x2_at hp hr hn (show i < 2 ^ 31 by omega)) (by exact Nat.le_of_ble_eq_true rfl) ?_
  rw [if_pos hi, hf i hi]
  refine zj_istore dX1_usedAt_5 (by decide) ?_
  refine zj_iload dX1_usedAt_7 (by rfl) ?_
  refine zj_if_ltN (tgt := 22) dX1_usedAt_9 (by decide) (by omega) ?_
  refine zj_iload dX1_usedAt_12 (by rfl) ?_
  refine zj_aload_n dX1_usedAt_14 (by rfl) ?_
  refine zg_1_11 rfl dX1_usedAt_15 (by first | assumption | rfl) (by rfl) ?_
  refine zj_alenI dX1_usedAt_18 (by first | assumption | rfl) (by decide) ?_
  refine zj_icmp_ltN (tgt := 24) dX1_usedAt_19 (by decide) (by omega) (fun q19 => ?_) (fun q19 => ?_)
  · refine zj_aload_n dX1_usedAt_24 (by rfl) ?_
    refine zg_1_11 rfl dX1_usedAt_25 (by first | assumption | rfl) (by rfl) ?_
    refine zj_iload dX1_usedAt_28 (by rfl) ?_
    refine zj_ialdN dX1_usedAt_30 (by first | assumption | rfl) (by omega) ?_
    rw [hho _ (by omega)]
    have hq := hhd _ q19
    refine zj_istore dX1_usedAt_31 (by decide) ?_
    refine zj_iload dX1_usedAt_33 (by rfl) ?_
    refine zj_iconst (v := nI 3) dX1_usedAt_35 (by decide) ?_
    refine zj_icmp_neN (tgt := 43) dX1_usedAt_36 (by decide) (by omega) (fun q36 => ?_) (fun q36 => ?_)
    · refine zj_iload dX1_usedAt_43 (by rfl) ?_
      refine zj_iconst (v := nI 1) dX1_usedAt_45 (by decide) ?_
      refine zj_iaddN dX1_usedAt_46 ?_
      refine zj_iret dX1_usedAt_47 rfl (Nat.le_refl _) (Nat.le_refl _) ?_
      exact ⟨by rw [if_pos (by omega)]; first | rw [if_pos (by omega)] | rw [if_neg (by omega)], rfl⟩
    · refine zj_iload_n dX1_usedAt_39 (by rfl) ?_
      refine zj_goto (tgt := 45) dX1_usedAt_40 (by decide) ?_
      refine zj_iconst (v := nI 1) dX1_usedAt_45 (by decide) ?_
      refine zj_iaddN dX1_usedAt_46 ?_
      refine zj_iret dX1_usedAt_47 rfl (Nat.le_refl _) (Nat.le_refl _) ?_
      exact ⟨by rw [if_pos (by omega)]; first | rw [if_pos (by omega)] | rw [if_neg (by omega)], rfl⟩
  · refine zj_iconst (v := nI 0) dX1_usedAt_22 (by decide) ?_
    refine zj_iret dX1_usedAt_23 rfl (Nat.le_refl _) (Nat.le_refl _) ?_
    exact ⟨by rw [if_neg (by omega)], rfl⟩
theorem x1_fewestBehind {i u : Nat} (hB : s_HB h k o a b p r n ho f hd pr) (ha : h[a]? = some (.inl (1, 60, .inl fl))) (hb : h[b]? = some (.inl (1, 60, .inl fr))) (hi : i < n) (hu : u ≤ 3) (hl : ∀ j, i < j → j < n → fl j = nI (s_F (s_U hd pr) n (n - 1 - j) (s_U hd pr j 0)) ∧ fr j = nI (s_F (s_U hd pr) n (n - 1 - j) (s_U hd pr j 1))) : zD mX1_fewestBehind (d + 2) [.ref k, .ref p, .int (nI i), .int (nI u)] h (some (.int (nI (s_F (s_U hd pr) n (n - 1 - i) u)))) h := by
  obtain ⟨hk, ho1, hp, hr, hn, hf, hpr, hho, hhd⟩ := id hB
  refine zD_of (by decide +kernel) (by exact Nat.le_of_ble_eq_true rfl) ?_
  show zB mX1_fewestBehind _ _ _ 0 [some (.ref k), some (.ref p), some (.int (nI i)), some (.int (nI u)), none, none, none] [] _
  refine zj_iload_n dX1_fewestBehind_0 (by rfl) ?_
  refine zj_iconst (v := nI 1) dX1_fewestBehind_1 (by decide) ?_
  refine zj_iaddN dX1_fewestBehind_2 ?_
  refine zj_istore dX1_fewestBehind_3 (by decide) ?_
  refine zj_iload dX1_fewestBehind_5 (by rfl) ?_
  refine zj_aload_n dX1_fewestBehind_7 (by rfl) ?_
  refine zg_1_34 rfl dX1_fewestBehind_8 (by first | assumption | rfl) (by rfl) ?_
  refine zj_icmp_ltN (tgt := 16) dX1_fewestBehind_11 (by decide) (by omega) (fun q11 => ?_) (fun q11 => ?_)
  · refine zj_iload_n dX1_fewestBehind_16 (by rfl) ?_
    refine zj_aload_n dX1_fewestBehind_17 (by rfl) ?_
    refine zj_aload_n dX1_fewestBehind_18 (by rfl) ?_
    refine zj_iload dX1_fewestBehind_19 (by rfl) ?_
    refine zj_iconst (v := nI 0) dX1_fewestBehind_21 (by decide) ?_
    refine zc_1_38 rfl dX1_fewestBehind_22 (by first | assumption | rfl) (x1_usedAt (d := d) hB (by omega) (by omega)) (by exact Nat.le_of_ble_eq_true rfl) ?_
    refine zc_1_42 rfl dX1_fewestBehind_25 (x1_strainOf hu (s_U_le3 hhd (by omega))) (by exact Nat.le_of_ble_eq_true rfl) ?_
    refine zj_aload_n dX1_fewestBehind_28 (by rfl) ?_
    refine zg_1_17 rfl dX1_fewestBehind_29 (by first | assumption | rfl) (by rfl) ?_
    refine zj_iload dX1_fewestBehind_32 (by rfl) ?_
    refine zj_ialdN dX1_fewestBehind_34 (by first | assumption | rfl) (by omega) ?_
    rw [(hl (i + 1) (by omega) (by omega)).1]
    refine zj_iaddN dX1_fewestBehind_35 ?_
    refine zj_istore dX1_fewestBehind_36 (by decide) ?_
    refine zj_iload_n dX1_fewestBehind_38 (by rfl) ?_
    refine zj_aload_n dX1_fewestBehind_39 (by rfl) ?_
    refine zj_aload_n dX1_fewestBehind_40 (by rfl) ?_
    refine zj_iload dX1_fewestBehind_41 (by rfl) ?_
    refine zj_iconst (v := nI 1) dX1_fewestBehind_43 (by decide) ?_
    refine zc_1_38 rfl dX1_fewestBehind_44 (by first | assumption | rfl) (x1_usedAt (d := d) hB (by omega) (by omega)) (by exact Nat.le_of_ble_eq_true rfl) ?_
    refine zc_1_42 rfl dX1_fewestBehind_47 (x1_strainOf hu (s_U_le3 hhd (by omega))) (by exact Nat.le_of_ble_eq_true rfl) ?_
    refine zj_aload_n dX1_fewestBehind_50 (by rfl) ?_
    refine zg_1_20 rfl dX1_fewestBehind_51 (by first | assumption | rfl) (by rfl) ?_
    refine zj_iload dX1_fewestBehind_54 (by rfl) ?_
    refine zj_ialdN dX1_fewestBehind_56 (by first | assumption | rfl) (by omega) ?_
    rw [(hl (i + 1) (by omega) (by omega)).2]
    refine zj_iaddN dX1_fewestBehind_57 ?_
    refine zj_istore dX1_fewestBehind_58 (by decide) ?_
    refine zj_iload dX1_fewestBehind_60 (by rfl) ?_
    refine zj_iload dX1_fewestBehind_62 (by rfl) ?_
    have b1 := s_F_le (U := s_U hd pr) (n := n) (n - 1 - (i + 1)) (s_U hd pr (i + 1) 0)
    have b2 := s_F_le (U := s_U hd pr) (n := n) (n - 1 - (i + 1)) (s_U hd pr (i + 1) 1)
    have b3 := s_st_le u (s_U hd pr (i + 1) 0)
    have b4 := s_st_le u (s_U hd pr (i + 1) 1)
    refine zc_1_28 rfl dX1_fewestBehind_64 (j9_min (by omega) (by omega)) (by exact Nat.le_of_ble_eq_true rfl) ?_
    refine zj_iret dX1_fewestBehind_67 rfl (Nat.le_refl _) (Nat.le_refl _) ?_
    refine ⟨?_, rfl⟩
    have e1 : n - 1 - i = (n - 1 - (i + 1)) + 1 := by omega
    have e2 : n - 1 - (n - 1 - (i + 1)) = i + 1 := by omega
    rw [e1]
    show _ = some (Value.int (nI (min _ _)))
    rw [e2]
  · refine zj_iconst (v := nI 0) dX1_fewestBehind_14 (by decide) ?_
    refine zj_iret dX1_fewestBehind_15 rfl (Nat.le_refl _) (Nat.le_refl _) ?_
    exact ⟨by rw [show n - 1 - i = 0 by omega]; rfl, rfl⟩
theorem x1_weigh_l (hne : ¬ a = b ∧ ¬ a = k ∧ ¬ a = o ∧ ¬ a = p ∧ ¬ a = r ∧ ¬ b = k ∧ ¬ b = o ∧ ¬ b = p ∧ ¬ b = r) : ∀ m fl fr (h : zH), s_HB h k o a b p r n ho f hd pr → h[a]? = some (.inl (1, 60, .inl fl)) → h[b]? = some (.inl (1, 60, .inl fr)) → m ≤ n → (∀ j, m ≤ j → j < n → fl j = nI (s_F (s_U hd pr) n (n - 1 - j) (s_U hd pr j 0)) ∧ fr j = nI (s_F (s_U hd pr) n (n - 1 - j) (s_U hd pr j 1))) → ∃ fl' fr', (∀ j, j < n → fl' j = nI (s_F (s_U hd pr) n (n - 1 - j) (s_U hd pr j 0)) ∧ fr' j = nI (s_F (s_U hd pr) n (n - 1 - j) (s_U hd pr j 1))) ∧ zB mX1_weigh (d + 3) none ((h.set a (.inl (1, 60, .inl fl'))).set b (.inl (1, 60, .inl fr'))) 7 [some (.ref k), some (.ref p), some (.int (nI m + (-1)))] [] h := by
  intro m
  induction m with
  | zero =>
    intro fl fr h hB ha hb hm hl
    refine ⟨fl, fr, fun j hj => hl j (by omega) hj, ?_⟩
    have he : (h.set a (.inl (1, 60, .inl fl))).set b (.inl (1, 60, .inl fr)) = h := by
      apply List.ext_getElem?
      intro j
      by_cases hj : b = j
      · subst hj; rw [zset_eq (zset_ne hne.1 hb), hb]
      · rw [List.getElem?_set, if_neg hj]
        by_cases hj : a = j
        · subst hj; rw [zset_eq ha, ha]
        · rw [List.getElem?_set, if_neg hj]
    rw [he]
    refine zj_iload_n dX1_weigh_7 (by rfl) ?_
    refine zj_if_lt (tgt := 55) dX1_weigh_8 (by decide) (fun _ => ?_) (fun zq => absurd (by decide) zq)
    refine zj_vret dX1_weigh_55 rfl (Nat.le_refl _) (Nat.le_refl _) ?_
    exact ⟨rfl, rfl⟩
  | succ m ih =>
    intro fl fr h hB ha hb hm hl
    obtain ⟨hk, ho1, hp, hr, hn, hf, hpr, hho, hhd⟩ := id hB
    obtain ⟨n1, n2, n3, n4, n5, n6, n7, n8, n9⟩ := hne
    have hl1 : ∀ j, m < j → j < n → fl j = nI (s_F (s_U hd pr) n (n - 1 - j) (s_U hd pr j 0)) ∧ fr j = nI (s_F (s_U hd pr) n (n - 1 - j) (s_U hd pr j 1)) := fun j h1 h2 => hl j (by omega) h2
    have hB1 : s_HB (h.set a (.inl (1, 60, .inl (upd fl m (nI (s_F (s_U hd pr) n (n - 1 - m) (s_U hd pr m 0))))))) k o a b p r n ho f hd pr := ⟨zset_ne n2 hk, zset_ne n3 ho1, zset_ne n4 hp, zset_ne n5 hr, hn, hf, hpr, hho, hhd⟩
    have ha1 := zset_eq (c := .inl (1, 60, .inl (upd fl m (nI (s_F (s_U hd pr) n (n - 1 - m) (s_U hd pr m 0)))))) ha
    have hb1 := zset_ne (c := .inl (1, 60, .inl (upd fl m (nI (s_F (s_U hd pr) n (n - 1 - m) (s_U hd pr m 0)))))) n1 hb
    have hl2 : ∀ j, m < j → j < n → (upd fl m (nI (s_F (s_U hd pr) n (n - 1 - m) (s_U hd pr m 0)))) j = nI (s_F (s_U hd pr) n (n - 1 - j) (s_U hd pr j 0)) ∧ fr j = nI (s_F (s_U hd pr) n (n - 1 - j) (s_U hd pr j 1)) := fun j h1 h2 => by rw [pk_un (by omega)]; exact hl1 j h1 h2
    obtain ⟨hk1, ho2, hp1, hr1, -⟩ := id hB1
    have ha2 := zset_ne (c := .inl (1, 60, .inl (upd fr m (nI (s_F (s_U hd pr) n (n - 1 - m) (s_U hd pr m 1)))))) (fun e => n1 e.symm) ha1
    have hb2 := zset_eq (c := .inl (1, 60, .inl (upd fr m (nI (s_F (s_U hd pr) n (n - 1 - m) (s_U hd pr m 1)))))) hb1
    obtain ⟨fl', fr', hl', hJ⟩ := ih _ _ _ ⟨zset_ne n6 hk1, zset_ne n7 ho2, zset_ne n8 hp1, zset_ne n9 hr1, hn, hf, hpr, hho, hhd⟩ ha2 hb2 (by omega) (fun j h1 h2 => by
      by_cases hj : j = m
      · subst hj; rw [pk_us, pk_us]; exact ⟨rfl, rfl⟩
      · rw [pk_un hj, pk_un hj]; exact hl1 j (by omega) h2)
    refine ⟨fl', fr', hl', ?_⟩
    have he : (((((h.set a (.inl (1, 60, .inl (upd fl m (nI (s_F (s_U hd pr) n (n - 1 - m) (s_U hd pr m 0))))))).set b (.inl (1, 60, .inl (upd fr m (nI (s_F (s_U hd pr) n (n - 1 - m) (s_U hd pr m 1))))))).set a (.inl (1, 60, .inl fl'))).set b (.inl (1, 60, .inl fr')))) = (h.set a (.inl (1, 60, .inl fl'))).set b (.inl (1, 60, .inl fr')) := by
      exact zset4 n1
    rw [he] at hJ
    rw [pk_m1]
    refine zj_iload_n dX1_weigh_7 (by rfl) ?_
    refine zj_if_lt (tgt := 55) dX1_weigh_8 (by decide) (fun zq => absurd zq (nI_pos (by omega))) (fun _ => ?_)
    refine zj_aload_n dX1_weigh_11 (by rfl) ?_
    refine zg_1_17 rfl dX1_weigh_12 (by first | assumption | rfl) (by rfl) ?_
    refine zj_iload_n dX1_weigh_15 (by rfl) ?_
    refine zj_aload_n dX1_weigh_16 (by rfl) ?_
    refine zj_aload_n dX1_weigh_17 (by rfl) ?_
    refine zj_iload_n dX1_weigh_18 (by rfl) ?_
    refine zj_aload_n dX1_weigh_19 (by rfl) ?_
    refine zj_aload_n dX1_weigh_20 (by rfl) ?_
    refine zj_iload_n dX1_weigh_21 (by rfl) ?_
    refine zj_iconst (v := 0) dX1_weigh_22 (by decide) ?_
    refine zc_1_38 rfl dX1_weigh_23 (by first | assumption | rfl) (x1_usedAt (d := d + 1) (e := 0) hB (by omega) (by omega)) (by exact Nat.le_of_ble_eq_true rfl) ?_
    refine zc_1_46 rfl dX1_weigh_26 (by first | assumption | rfl) (x1_fewestBehind (d := d) hB ha hb (by omega) (s_U_le3 hhd (by omega)) hl1) (by exact Nat.le_of_ble_eq_true rfl) ?_
    refine zj_iast dX1_weigh_29 (by first | assumption | rfl) (vp_in_nI (show m < 60 by omega) (by omega)) ?_
    rw [nI_clamp (show m < 2 ^ 31 by omega)]
    refine zj_aload_n dX1_weigh_30 (by rfl) ?_
    refine zg_1_20 rfl dX1_weigh_31 (by first | assumption | rfl) (by rfl) ?_
    refine zj_iload_n dX1_weigh_34 (by rfl) ?_
    refine zj_aload_n dX1_weigh_35 (by rfl) ?_
    refine zj_aload_n dX1_weigh_36 (by rfl) ?_
    refine zj_iload_n dX1_weigh_37 (by rfl) ?_
    refine zj_aload_n dX1_weigh_38 (by rfl) ?_
    refine zj_aload_n dX1_weigh_39 (by rfl) ?_
    refine zj_iload_n dX1_weigh_40 (by rfl) ?_
    refine zj_iconst (v := 1) dX1_weigh_41 (by decide) ?_
    refine zc_1_38 rfl dX1_weigh_42 (by first | assumption | rfl) (x1_usedAt (d := d + 1) (e := 1) hB1 (by omega) (by omega)) (by exact Nat.le_of_ble_eq_true rfl) ?_
    refine zc_1_46 rfl dX1_weigh_45 (by first | assumption | rfl) (x1_fewestBehind (d := d) hB1 ha1 hb1 (by omega) (s_U_le3 hhd (by omega)) hl2) (by exact Nat.le_of_ble_eq_true rfl) ?_
    refine zj_iast dX1_weigh_48 (by first | assumption | rfl) (vp_in_nI (show m < 60 by omega) (by omega)) ?_
    rw [nI_clamp (show m < 2 ^ 31 by omega)]
    refine zj_iinc (v := (-1)) dX1_weigh_49 (by decide) (by rfl) (by decide) ?_
    refine zj_goto (tgt := 7) dX1_weigh_52 (by decide) ?_
    exact hJ
end HA
