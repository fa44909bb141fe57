section M7
variable {h h' : zH} {C : Nat → List (Nat × Nat)} {P : Nat → List Nat} {S : Nat → Option (List Int32)} {T : List Nat} {H : Nat → Nat} {O : List (Nat × Nat)} {g d : Nat}
theorem s_lcg {x y : Nat} (hx : x < 2 ^ 62) (hy : y < 2 ^ 62) : (0 < lg_cmp (lN x) (lN y)) ↔ y < x := by
  unfold lg_cmp
  have h1 := pk_lLT (a := y) (b := x) (by omega) (by omega)
  by_cases hq : lN x > lN y
  · rw [if_pos hq]; exact ⟨fun _ => h1.mp hq, fun _ => by decide⟩
  · rw [if_neg hq]
    have h3 := mt h1.mpr hq
    refine ⟨fun h => ?_, fun h => absurd h h3⟩
    split at h <;> exact absurd h (by decide)
theorem s_lcl {x y : Nat} (hx : x < 2 ^ 62) (hy : y < 2 ^ 62) : (lg_cmp (lN x) (lN y) ≤ 0) ↔ x ≤ y := by
  rw [← Int32.not_lt, s_lcg hx hy]
  omega
theorem m_copyI (w : WF C P S T H O g) (r : RM h C P S T H O g) {p s : Nat} {f a m : Int32} {l : List Int32} (hp : p < 6) (hs : s < 2) (hl : S s = some l) (hi : ¬ (s_in f m (P p).length ∧ s_in a m l.length)) : zD mX8_copy (d + 2) [.ref 47, .int (nI p), .int f, .int (nI s), .int a, .int m] h (some (.int (-1000000013))) h := by
  obtain ⟨m47, m48, m49, m50, m51, m52, m53, m54, m55, m56, m57, m58, m59, m60, m61, m62, m63⟩ := r
  obtain ⟨rd, wr, hw, o0⟩ := m47
  obtain ⟨fS, a51, q51⟩ := m51
  obtain ⟨f7, a57, q57⟩ := m57
  have q : f7 s = nI l.length := by have q := q57 s hs; rw [hl] at q; exact q
  have h60 := (w.2.2.1 s hs l hl).1
  have p60 := (w.2.1 p hp).1
  by_cases hneg : f < 0 ∨ a < 0 ∨ m < 0
  · refine zD_of (by decide +kernel) (by exact Nat.le_of_ble_eq_true rfl) ?_
    show zB mX8_copy _ _ _ 0 [some (.ref 47), some (.int (nI p)), some (.int f), some (.int (nI s)), some (.int a), some (.int m), none] [] _
    refine zj_iload_n dX8_copy_0 (by rfl) ?_
    refine zc_8_103 rfl dX8_copy_1 (m_isPhrase hp) (by exact Nat.le_of_ble_eq_true rfl) ?_
    refine zj_if_eq (tgt := 14) dX8_copy_4 (by decide) (fun zq => absurd zq (by decide)) (fun _ => ?_)
    refine zj_iload_n dX8_copy_7 (by rfl) ?_
    refine zc_8_155 rfl dX8_copy_8 (m_isSheet hs) (by exact Nat.le_of_ble_eq_true rfl) ?_
    refine zj_if_ne (tgt := 17) dX8_copy_11 (by decide) (fun _ => ?_) (fun zq => absurd zq (by decide))
    refine zj_aload_n dX8_copy_17 (by rfl) ?_
    refine zg_8_41 rfl dX8_copy_18 (by first | assumption | rfl) (by rfl) ?_
    refine zj_iload_n dX8_copy_21 (by rfl) ?_
    refine zj_iald dX8_copy_22 (by first | assumption | rfl) (vp_in_nI (show s < 2 by omega) (by omega)) ?_
    rw [nI_clamp (show s < 2 ^ 31 by omega), q]
    refine zj_if_ge (tgt := 29) dX8_copy_23 (by decide) (fun _ => ?_) (fun zq => absurd (nI_pos' (by omega)) zq)
    refine zj_iload_n dX8_copy_29 (by rfl) ?_
    refine zj_if_lt (tgt := 78) dX8_copy_30 (by decide) (fun q30 => ?_) (fun q30 => ?_)
    · refine zj_ldc (v := -1000000013) dX8_copy_78 zq_908 ?_
      refine zj_iret dX8_copy_80 rfl (Nat.le_refl _) (Nat.le_refl _) ?_
      exact ⟨rfl, rfl⟩
    · refine zj_iload dX8_copy_33 (by rfl) ?_
      refine zj_if_lt (tgt := 78) dX8_copy_35 (by decide) (fun q35 => ?_) (fun q35 => ?_)
      · refine zj_ldc (v := -1000000013) dX8_copy_78 zq_908 ?_
        refine zj_iret dX8_copy_80 rfl (Nat.le_refl _) (Nat.le_refl _) ?_
        exact ⟨rfl, rfl⟩
      · refine zj_iload dX8_copy_38 (by rfl) ?_
        refine zj_if_lt (tgt := 78) dX8_copy_40 (by decide) (fun q40 => ?_) (fun q40 => ?_)
        · refine zj_ldc (v := -1000000013) dX8_copy_78 zq_908 ?_
          refine zj_iret dX8_copy_80 rfl (Nat.le_refl _) (Nat.le_refl _) ?_
          exact ⟨rfl, rfl⟩
        · exact absurd hneg (fun hh => hh.elim q30 (fun h4 => h4.elim q35 q40))
  · obtain ⟨x, hx, rfl⟩ := nI_of (fun e => hneg (Or.inl e) : ¬ f < 0)
    obtain ⟨z, hz, rfl⟩ := nI_of (fun e => hneg (Or.inr (Or.inl e)) : ¬ a < 0)
    obtain ⟨y, hy, rfl⟩ := nI_of (fun e => hneg (Or.inr (Or.inr e)) : ¬ m < 0)
    have hxy : ¬ (x + y ≤ (P p).length ∧ z + y ≤ l.length) := fun e => hi ⟨⟨x, y, hx, hy, rfl, rfl, e.1⟩, ⟨z, y, hz, hy, rfl, rfl, e.2⟩⟩
    have g1 := s_lcg (x := x + y) (y := (P p).length) (by omega) (by omega)
    have g2 := s_lcl (x := z + y) (y := l.length) (by omega) (by omega)
    refine zD_of (by decide +kernel) (by exact Nat.le_of_ble_eq_true rfl) ?_
    show zB mX8_copy _ _ _ 0 [some (.ref 47), some (.int (nI p)), some (.int (nI x)), some (.int (nI s)), some (.int (nI z)), some (.int (nI y)), none] [] _
    refine zj_iload_n dX8_copy_0 (by rfl) ?_
    refine zc_8_103 rfl dX8_copy_1 (m_isPhrase hp) (by exact Nat.le_of_ble_eq_true rfl) ?_
    refine zj_if_eq (tgt := 14) dX8_copy_4 (by decide) (fun zq => absurd zq (by decide)) (fun _ => ?_)
    refine zj_iload_n dX8_copy_7 (by rfl) ?_
    refine zc_8_155 rfl dX8_copy_8 (m_isSheet hs) (by exact Nat.le_of_ble_eq_true rfl) ?_
    refine zj_if_ne (tgt := 17) dX8_copy_11 (by decide) (fun _ => ?_) (fun zq => absurd zq (by decide))
    refine zj_aload_n dX8_copy_17 (by rfl) ?_
    refine zg_8_41 rfl dX8_copy_18 (by first | assumption | rfl) (by rfl) ?_
    refine zj_iload_n dX8_copy_21 (by rfl) ?_
    refine zj_ialdN dX8_copy_22 (by first | assumption | rfl) (by omega) ?_
    rw [q]
    refine zj_if_geN (tgt := 29) dX8_copy_23 (by decide) (by omega) ?_
    refine zj_iload_n dX8_copy_29 (by rfl) ?_
    refine zj_if_ltN (tgt := 78) dX8_copy_30 (by decide) (by omega) ?_
    refine zj_iload dX8_copy_33 (by rfl) ?_
    refine zj_if_ltN (tgt := 78) dX8_copy_35 (by decide) (by omega) ?_
    refine zj_iload dX8_copy_38 (by rfl) ?_
    refine zj_if_ltN (tgt := 78) dX8_copy_40 (by decide) (by omega) ?_
    refine zj_iload_n dX8_copy_43 (by rfl) ?_
    refine zj_i2l dX8_copy_44 ?_
    rw [nI_l hx]
    refine zj_iload dX8_copy_45 (by rfl) ?_
    refine zj_i2l dX8_copy_47 ?_
    rw [nI_l hy]
    refine zj_ladd dX8_copy_48 ?_
    rw [lN_add]
    refine zj_aload_n dX8_copy_49 (by rfl) ?_
    refine zg_8_19 rfl dX8_copy_50 (by first | assumption | rfl) (by rfl) ?_
    refine zj_iload_n dX8_copy_53 (by rfl) ?_
    refine zj_ialdN dX8_copy_54 (by first | assumption | rfl) (by omega) ?_
    rw [q51 p hp]
    refine zj_i2l dX8_copy_55 ?_
    rw [nI_l (show (P p).length < 2 ^ 31 by omega)]
    refine zj_lcmp dX8_copy_56 ?_
    refine zj_if_gt (tgt := 78) dX8_copy_57 (by decide) (fun q57x => ?_) (fun q57x => ?_)
    · refine zj_ldc (v := -1000000013) dX8_copy_78 zq_908 ?_
      refine zj_iret dX8_copy_80 rfl (Nat.le_refl _) (Nat.le_refl _) ?_
      exact ⟨rfl, rfl⟩
    · refine zj_iload dX8_copy_60 (by rfl) ?_
      refine zj_i2l dX8_copy_62 ?_
      rw [nI_l hz]
      refine zj_iload dX8_copy_63 (by rfl) ?_
      refine zj_i2l dX8_copy_65 ?_
      rw [nI_l hy]
      refine zj_ladd dX8_copy_66 ?_
      rw [lN_add]
      refine zj_aload_n dX8_copy_67 (by rfl) ?_
      refine zg_8_41 rfl dX8_copy_68 (by first | assumption | rfl) (by rfl) ?_
      refine zj_iload_n dX8_copy_71 (by rfl) ?_
      refine zj_ialdN dX8_copy_72 (by first | assumption | rfl) (by omega) ?_
      rw [q]
      refine zj_i2l dX8_copy_73 ?_
      rw [nI_l (show l.length < 2 ^ 31 by omega)]
      refine zj_lcmp dX8_copy_74 ?_
      refine zj_if_le (tgt := 81) dX8_copy_75 (by decide) (fun q75x => ?_) (fun q75x => ?_)
      · exfalso
        rw [g1] at q57x
        rw [g2] at q75x
        omega
      · refine zj_ldc (v := -1000000013) dX8_copy_78 zq_908 ?_
        refine zj_iret dX8_copy_80 rfl (Nat.le_refl _) (Nat.le_refl _) ?_
        exact ⟨rfl, rfl⟩
theorem m_copy_l {p s f a m : Nat} {v : List Value} {fD : Nat → Int32} {l : List Int32} {qP : List Nat} (hp : p < 6) (hs : s < 2) (h1 : f + m ≤ 60) (h2 : a + m ≤ 60) (hv : v[13]? = some (.ref 58)) (hv2 : v[4]? = some (.ref 52)) (hD : ∀ j, j < f + m → fD (60 * p + j) = nI (qP.getD j 0)) : ∀ k i (f8 : Nat → Int32) (h : zH), h[47]? = some (.inr (8, v)) → h[52]? = some (.inl (1, 360, .inl fD)) → h[58]? = some (.inl (1, 120, .inl f8)) → i + k = m → ∃ f', (∀ j, i ≤ j → j < m → f' (60 * s + a + j) = nI (qP.getD (f + j) 0)) ∧ (∀ q, (q < 60 * s + a + i ∨ 60 * s + a + m ≤ q) → f' q = f8 q) ∧ zB mX8_copy (d + 2) (some (.int (nI m))) (h.set 58 (.inl (1, 120, .inl f'))) 84 [some (.ref 47), some (.int (nI p)), some (.int (nI f)), some (.int (nI s)), some (.int (nI a)), some (.int (nI m)), some (.int (nI i))] [] h := by
  intro k
  induction k with
  | zero =>
    intro i f8 h hk hd ha hi
    refine ⟨f8, fun j h3 h4 => by omega, fun _ _ => rfl, ?_⟩
    have he : h.set 58 (.inl (1, 120, .inl f8)) = h := by
      apply List.ext_getElem?
      intro j
      by_cases hj : 58 = j
      · subst hj; rw [zset_eq ha, ha]
      · rw [List.getElem?_set, if_neg hj]
    rw [he]
    refine zj_iload dX8_copy_84 (by rfl) ?_
    refine zj_iload dX8_copy_86 (by rfl) ?_
    refine zj_icmp_geN (tgt := 126) dX8_copy_88 (by decide) (by omega) (fun _ => ?_) (fun zq => absurd (by omega) zq)
    refine zj_iload dX8_copy_126 (by rfl) ?_
    refine zj_iret dX8_copy_128 rfl (Nat.le_refl _) (Nat.le_refl _) ?_
    exact ⟨rfl, rfl⟩
  | succ k ih =>
    intro i f8 h hk hd ha hi
    have hv1 := hD (f + i) (by omega)
    rw [show 60 * p + (f + i) = 60 * p + f + i by omega] at hv1
    obtain ⟨f', hf1, hf2, hJ⟩ := ih (i + 1) (upd f8 (60 * s + a + i) (nI (qP.getD (f + i) 0))) (h.set 58 (.inl (1, 120, .inl (upd f8 (60 * s + a + i) (nI (qP.getD (f + i) 0)))))) (zset_ne (by decide) hk) (zset_ne (by decide) hd) (zset_eq ha) (by omega)
    refine ⟨f', fun j h3 h4 => ?_, fun q hq => by rw [hf2 q (by omega), pk_un (by omega)], ?_⟩
    · by_cases ej : j = i
      · subst ej; rw [hf2 _ (by omega), pk_us]
      · exact hf1 j (by omega) h4
    · rw [List.set_set] at hJ
      refine zj_iload dX8_copy_84 (by rfl) ?_
      refine zj_iload dX8_copy_86 (by rfl) ?_
      refine zj_icmp_geN (tgt := 126) dX8_copy_88 (by decide) (by omega) (fun zq => absurd zq (by omega)) (fun _ => ?_)
      refine zj_aload_n dX8_copy_91 (by rfl) ?_
      refine zg_8_44 rfl dX8_copy_92 (by first | assumption | rfl) hv ?_
      refine zj_bipush (v := nI 60) dX8_copy_95 (by decide) ?_
      refine zj_iload_n dX8_copy_97 (by rfl) ?_
      refine zj_imulN dX8_copy_98 ?_
      refine zj_iload dX8_copy_99 (by rfl) ?_
      refine zj_iaddN dX8_copy_101 ?_
      refine zj_iload dX8_copy_102 (by rfl) ?_
      refine zj_iaddN dX8_copy_104 ?_
      refine zj_aload_n dX8_copy_105 (by rfl) ?_
      refine zg_8_22 rfl dX8_copy_106 (by first | assumption | rfl) hv2 ?_
      refine zj_bipush (v := nI 60) dX8_copy_109 (by decide) ?_
      refine zj_iload_n dX8_copy_111 (by rfl) ?_
      refine zj_imulN dX8_copy_112 ?_
      refine zj_iload_n dX8_copy_113 (by rfl) ?_
      refine zj_iaddN dX8_copy_114 ?_
      refine zj_iload dX8_copy_115 (by rfl) ?_
      refine zj_iaddN dX8_copy_117 ?_
      refine zj_ialdN dX8_copy_118 (by first | assumption | rfl) (by omega) ?_
      rw [hv1]
      refine zj_iastN dX8_copy_119 (by first | assumption | rfl) (by omega) ?_
      refine zj_iincN dX8_copy_120 (by rfl) (by decide) ?_
      refine zj_goto (tgt := 84) dX8_copy_123 (by decide) ?_
      exact hJ
theorem m_copy (w : WF C P S T H O g) (r : RM h C P S T H O g) {p s f a m : Nat} {l : List Int32} (hp : p < 6) (hs : s < 2) (hl : S s = some l) (h1 : f + m ≤ (P p).length) (h2 : a + m ≤ l.length) : ∃ h', zD mX8_copy (d + 2) [.ref 47, .int (nI p), .int (nI f), .int (nI s), .int (nI a), .int (nI m)] h (some (.int (nI m))) h' ∧ RM h' C P (s_up S s (some (s_cp l (P p) f a m))) T H O g ∧ zEq 0 46 h h' := by
  obtain ⟨m47, m48, m49, m50, m51, m52, m53, m54, m55, m56, m57, m58, m59, m60, m61, m62, m63⟩ := r
  obtain ⟨rd, wr, hw, o0⟩ := id m47
  obtain ⟨fS, a51, q51⟩ := id m51
  obtain ⟨fD, a52, q52⟩ := id m52
  obtain ⟨f7, a57, q57⟩ := id m57
  obtain ⟨f8, a58, q58⟩ := id m58
  have q : f7 s = nI l.length := by have q := q57 s hs; rw [hl] at q; exact q
  have h60 := (w.2.2.1 s hs l hl).1
  have p60 := (w.2.1 p hp).1
  obtain ⟨f', hf1, hf2, hJ⟩ := m_copy_l (d := d) (v := s_mo g O.length T.length rd wr) (fD := fD) (qP := P p) (l := l) hp hs (show f + m ≤ 60 by omega) (show a + m ≤ 60 by omega) rfl rfl (fun j hj => q52 p hp j (by omega)) m 0 f8 h o0 a52 a58 (by omega)
  have e : ∀ j, (¬ j = 58) → (h.set 58 (.inl (1, 120, .inl f')))[j]? = h[j]? := fun j hj => by rw [List.getElem?_set, if_neg (fun x => hj x.symm)]
  have g1 := s_lcg (x := f + m) (y := (P p).length) (by omega) (by omega)
  have g2 := s_lcl (x := a + m) (y := l.length) (by omega) (by omega)
  refine ⟨_, ?_, ⟨RO_e (e 47 (by decide)) m47, RA_e (e 48 (by decide)) m48, RA_e (e 49 (by decide)) m49, RA_e (e 50 (by decide)) m50, RA_e (e 51 (by decide)) m51, RA_e (e 52 (by decide)) m52, RA_e (e 53 (by decide)) m53, RA_e (e 54 (by decide)) m54, RA_e (e 55 (by decide)) m55, RA_e (e 56 (by decide)) m56, ⟨f7, zset_ne (by decide) a57, ?_⟩, ⟨f', zset_eq a58, ?_⟩, RA_e (e 59 (by decide)) m59, RJ_e (e 60 (by decide)) m60, RA_e (e 61 (by decide)) m61, RA_e (e 62 (by decide)) m62, RA_e (e 63 (by decide)) m63⟩, fun j h1 h2 => e j (by omega)⟩
  · refine zD_of (by decide +kernel) (by exact Nat.le_of_ble_eq_true rfl) ?_
    show zB mX8_copy _ _ _ 0 [some (.ref 47), some (.int (nI p)), some (.int (nI f)), some (.int (nI s)), some (.int (nI a)), some (.int (nI m)), none] [] _
    refine zj_iload_n dX8_copy_0 (by rfl) ?_
    refine zc_8_103 rfl dX8_copy_1 (m_isPhrase hp) (by exact Nat.le_of_ble_eq_true rfl) ?_
    refine zj_if_eq (tgt := 14) dX8_copy_4 (by decide) (fun zq => absurd zq (by decide)) (fun _ => ?_)
    refine zj_iload_n dX8_copy_7 (by rfl) ?_
    refine zc_8_155 rfl dX8_copy_8 (m_isSheet hs) (by exact Nat.le_of_ble_eq_true rfl) ?_
    refine zj_if_ne (tgt := 17) dX8_copy_11 (by decide) (fun _ => ?_) (fun zq => absurd zq (by decide))
    refine zj_aload_n dX8_copy_17 (by rfl) ?_
    refine zg_8_41 rfl dX8_copy_18 (by first | assumption | rfl) (by rfl) ?_
    refine zj_iload_n dX8_copy_21 (by rfl) ?_
    refine zj_ialdN dX8_copy_22 (by first | assumption | rfl) (by omega) ?_
    rw [q]
    refine zj_if_geN (tgt := 29) dX8_copy_23 (by decide) (by omega) ?_
    refine zj_iload_n dX8_copy_29 (by rfl) ?_
    refine zj_if_ltN (tgt := 78) dX8_copy_30 (by decide) (by omega) ?_
    refine zj_iload dX8_copy_33 (by rfl) ?_
    refine zj_if_ltN (tgt := 78) dX8_copy_35 (by decide) (by omega) ?_
    refine zj_iload dX8_copy_38 (by rfl) ?_
    refine zj_if_ltN (tgt := 78) dX8_copy_40 (by decide) (by omega) ?_
    refine zj_iload_n dX8_copy_43 (by rfl) ?_
    refine zj_i2l dX8_copy_44 ?_
    rw [nI_l (show f < 2 ^ 31 by omega)]
    refine zj_iload dX8_copy_45 (by rfl) ?_
    refine zj_i2l dX8_copy_47 ?_
    rw [nI_l (show m < 2 ^ 31 by omega)]
    refine zj_ladd dX8_copy_48 ?_
    rw [lN_add]
    refine zj_aload_n dX8_copy_49 (by rfl) ?_
    refine zg_8_19 rfl dX8_copy_50 (by first | assumption | rfl) (by rfl) ?_
    refine zj_iload_n dX8_copy_53 (by rfl) ?_
    refine zj_ialdN dX8_copy_54 (by first | assumption | rfl) (by omega) ?_
    rw [q51 p hp]
    refine zj_i2l dX8_copy_55 ?_
    rw [nI_l (show (P p).length < 2 ^ 31 by omega)]
    refine zj_lcmp dX8_copy_56 ?_
    refine zj_if_gt (tgt := 78) dX8_copy_57 (by decide) (fun zq => absurd zq (by rw [g1]; omega)) (fun _ => ?_)
    refine zj_iload dX8_copy_60 (by rfl) ?_
    refine zj_i2l dX8_copy_62 ?_
    rw [nI_l (show a < 2 ^ 31 by omega)]
    refine zj_iload dX8_copy_63 (by rfl) ?_
    refine zj_i2l dX8_copy_65 ?_
    rw [nI_l (show m < 2 ^ 31 by omega)]
    refine zj_ladd dX8_copy_66 ?_
    rw [lN_add]
    refine zj_aload_n dX8_copy_67 (by rfl) ?_
    refine zg_8_41 rfl dX8_copy_68 (by first | assumption | rfl) (by rfl) ?_
    refine zj_iload_n dX8_copy_71 (by rfl) ?_
    refine zj_ialdN dX8_copy_72 (by first | assumption | rfl) (by omega) ?_
    rw [q]
    refine zj_i2l dX8_copy_73 ?_
    rw [nI_l (show l.length < 2 ^ 31 by omega)]
    refine zj_lcmp dX8_copy_74 ?_
    refine zj_if_le (tgt := 81) dX8_copy_75 (by decide) (fun _ => ?_) (fun zq => absurd (g2.mpr h2) zq)
    refine zj_iconst (v := nI 0) dX8_copy_81 (by decide) ?_
    refine zj_istore dX8_copy_82 (by decide) ?_
    exact hJ
  · intro i2 hi2
    by_cases ei : i2 = s
    · subst ei; rw [s_up_eq, q]; simp [s_pl, s_cp_len]
    · rw [s_up_ne ei]; exact q57 i2 hi2
  · intro i2 hi2 l2 hl2 j hj
    by_cases ei : i2 = s
    · subst ei
      rw [s_up_eq] at hl2
      cases hl2
      rw [s_cp_len] at hj
      rw [s_cp_get hj]
      by_cases hj2 : a ≤ j ∧ j < a + m
      · rw [if_pos hj2]
        have := hf1 (j - a) (by omega) (by omega)
        rw [show 60 * i2 + a + (j - a) = 60 * i2 + j by omega] at this
        exact this
      · rw [if_neg hj2, hf2 _ (by omega)]
        exact q58 i2 hi2 l hl j hj
    · rw [s_up_ne ei] at hl2
      have := (w.2.2.1 i2 hi2 l2 hl2).1
      rw [hf2 _ (by omega)]
      exact q58 i2 hi2 l2 hl2 j hj
theorem m_c0_l (r : RM h C P S T H O g) {x : Int32} : ∀ m i, i + m = 4 → zB mX8_count d (some (.int (nI (s_add (fun j => (C j).length) 4)))) h 42 [some (.ref 47), some (.int x), some (.int (nI (s_add (fun j => (C j).length) i))), some (.int (nI i))] [] h := by
  obtain ⟨m47, m48, m49, m50, m51, m52, m53, m54, m55, m56, m57, m58, m59, m60, m61, m62, m63⟩ := r
  obtain ⟨rd, wr, hw, o0⟩ := m47
  obtain ⟨fL, a48, q48⟩ := m48
  intro m
  induction m with
  | zero =>
    intro i hi
    refine zj_iload_n dX8_count_42 (by rfl) ?_
    refine zj_iconst (v := nI 4) dX8_count_43 (by decide) ?_
    refine zj_icmp_geN (tgt := 62) dX8_count_44 (by decide) (by omega) (fun _ => ?_) (fun zq => absurd (by omega) zq)
    refine zj_iload_n dX8_count_62 (by rfl) ?_
    refine zj_iret dX8_count_63 rfl (Nat.le_refl _) (Nat.le_refl _) ?_
    exact ⟨by rw [show i = 4 by omega], rfl⟩
  | succ m ih =>
    intro i hi
    have hJ := ih (i + 1) (by omega)
    refine zj_iload_n dX8_count_42 (by rfl) ?_
    refine zj_iconst (v := nI 4) dX8_count_43 (by decide) ?_
    refine zj_icmp_geN (tgt := 62) dX8_count_44 (by decide) (by omega) (fun zq => absurd zq (by omega)) (fun _ => ?_)
    refine zj_iload_n dX8_count_47 (by rfl) ?_
    refine zj_aload_n dX8_count_48 (by rfl) ?_
    refine zg_8_7 rfl dX8_count_49 (by first | assumption | rfl) (by rfl) ?_
    refine zj_iload_n dX8_count_52 (by rfl) ?_
    refine zj_ialdN dX8_count_53 (by first | assumption | rfl) (by omega) ?_
    rw [q48 i (by omega)]
    refine zj_iaddN dX8_count_54 ?_
    refine zj_istore_n dX8_count_55 (by decide) ?_
    refine zj_iincN dX8_count_56 (by rfl) (by decide) ?_
    refine zj_goto (tgt := 42) dX8_count_59 (by decide) ?_
    exact hJ
theorem m_c1_l (w : WF C P S T H O g) (r : RM h C P S T H O g) {x : Int32} : ∀ m i, i + m = 6 → zB mX8_count d (some (.int (nI (s_add (fun j => if 0 < (P j).length then 1 else 0) 6)))) h 66 [some (.ref 47), some (.int x), some (.int (nI (s_add (fun j => if 0 < (P j).length then 1 else 0) i))), some (.int (nI i))] [] h := by
  obtain ⟨m47, m48, m49, m50, m51, m52, m53, m54, m55, m56, m57, m58, m59, m60, m61, m62, m63⟩ := r
  obtain ⟨rd, wr, hw, o0⟩ := m47
  obtain ⟨fS, a51, q51⟩ := m51
  intro m
  induction m with
  | zero =>
    intro i hi
    refine zj_iload_n dX8_count_66 (by rfl) ?_
    refine zj_bipush (v := nI 6) dX8_count_67 (by decide) ?_
    refine zj_icmp_geN (tgt := 95) dX8_count_69 (by decide) (by omega) (fun _ => ?_) (fun zq => absurd (by omega) zq)
    refine zj_iload_n dX8_count_95 (by rfl) ?_
    refine zj_iret dX8_count_96 rfl (Nat.le_refl _) (Nat.le_refl _) ?_
    exact ⟨by rw [show i = 6 by omega], rfl⟩
  | succ m ih =>
    intro i hi
    have l2 := (w.2.1 i (by omega)).1
    have hJ := ih (i + 1) (by omega)
    have e1 : s_add (fun j => if 0 < (P j).length then 1 else 0) (i + 1) = s_add (fun j => if 0 < (P j).length then 1 else 0) i + (if 0 < (P i).length then 1 else 0) := rfl
    refine zj_iload_n dX8_count_66 (by rfl) ?_
    refine zj_bipush (v := nI 6) dX8_count_67 (by decide) ?_
    refine zj_icmp_geN (tgt := 95) dX8_count_69 (by decide) (by omega) (fun zq => absurd zq (by omega)) (fun _ => ?_)
    refine zj_iload_n dX8_count_72 (by rfl) ?_
    refine zj_aload_n dX8_count_73 (by rfl) ?_
    refine zg_8_19 rfl dX8_count_74 (by first | assumption | rfl) (by rfl) ?_
    refine zj_iload_n dX8_count_77 (by rfl) ?_
    refine zj_ialdN dX8_count_78 (by first | assumption | rfl) (by omega) ?_
    rw [q51 i (by omega)]
    refine zj_if_leN (tgt := 86) dX8_count_79 (by decide) (by omega) (fun q79 => ?_) (fun q79 => ?_)
    · refine zj_iconst (v := nI 0) dX8_count_86 (by decide) ?_
      refine zj_iaddN dX8_count_87 ?_
      refine zj_istore_n dX8_count_88 (by decide) ?_
      refine zj_iincN dX8_count_89 (by rfl) (by decide) ?_
      refine zj_goto (tgt := 66) dX8_count_92 (by decide) ?_
      first | (rw [if_pos (by omega)] at e1; rw [e1] at hJ; exact hJ) | (rw [if_neg (by omega)] at e1; rw [e1] at hJ; exact hJ)
    · refine zj_iconst (v := nI 1) dX8_count_82 (by decide) ?_
      refine zj_goto (tgt := 87) dX8_count_83 (by decide) ?_
      refine zj_iaddN dX8_count_87 ?_
      refine zj_istore_n dX8_count_88 (by decide) ?_
      refine zj_iincN dX8_count_89 (by rfl) (by decide) ?_
      refine zj_goto (tgt := 66) dX8_count_92 (by decide) ?_
      first | (rw [if_pos (by omega)] at e1; rw [e1] at hJ; exact hJ) | (rw [if_neg (by omega)] at e1; rw [e1] at hJ; exact hJ)
theorem m_c2_l (r : RM h C P S T H O g) {x : Int32} : ∀ m i, i + m = 6 → zB mX8_count d (some (.int (nI (s_add (fun j => (P j).length) 6)))) h 99 [some (.ref 47), some (.int x), some (.int (nI (s_add (fun j => (P j).length) i))), some (.int (nI i))] [] h := by
  obtain ⟨m47, m48, m49, m50, m51, m52, m53, m54, m55, m56, m57, m58, m59, m60, m61, m62, m63⟩ := r
  obtain ⟨rd, wr, hw, o0⟩ := m47
  obtain ⟨fS, a51, q51⟩ := m51
  intro m
  induction m with
  | zero =>
    intro i hi
    refine zj_iload_n dX8_count_99 (by rfl) ?_
    refine zj_bipush (v := nI 6) dX8_count_100 (by decide) ?_
    refine zj_icmp_geN (tgt := 120) dX8_count_102 (by decide) (by omega) (fun _ => ?_) (fun zq => absurd (by omega) zq)
    refine zj_iload_n dX8_count_120 (by rfl) ?_
    refine zj_iret dX8_count_121 rfl (Nat.le_refl _) (Nat.le_refl _) ?_
    exact ⟨by rw [show i = 6 by omega], rfl⟩
  | succ m ih =>
    intro i hi
    have hJ := ih (i + 1) (by omega)
    refine zj_iload_n dX8_count_99 (by rfl) ?_
    refine zj_bipush (v := nI 6) dX8_count_100 (by decide) ?_
    refine zj_icmp_geN (tgt := 120) dX8_count_102 (by decide) (by omega) (fun zq => absurd zq (by omega)) (fun _ => ?_)
    refine zj_iload_n dX8_count_105 (by rfl) ?_
    refine zj_aload_n dX8_count_106 (by rfl) ?_
    refine zg_8_19 rfl dX8_count_107 (by first | assumption | rfl) (by rfl) ?_
    refine zj_iload_n dX8_count_110 (by rfl) ?_
    refine zj_ialdN dX8_count_111 (by first | assumption | rfl) (by omega) ?_
    rw [q51 i (by omega)]
    refine zj_iaddN dX8_count_112 ?_
    refine zj_istore_n dX8_count_113 (by decide) ?_
    refine zj_iincN dX8_count_114 (by rfl) (by decide) ?_
    refine zj_goto (tgt := 99) dX8_count_117 (by decide) ?_
    exact hJ
theorem m_count (w : WF C P S T H O g) (r : RM h C P S T H O g) (x : Int32) : zD mX8_count d [.ref 47, .int x] h (some (.int (s_count C P S T O x))) h := by
  obtain ⟨m47, m48, m49, m50, m51, m52, m53, m54, m55, m56, m57, m58, m59, m60, m61, m62, m63⟩ := id r
  obtain ⟨rd, wr, hw, o0⟩ := m47
  obtain ⟨f7, a57, q57⟩ := m57
  refine zD_of (by decide +kernel) (by exact Nat.le_of_ble_eq_true rfl) ?_
  show zB mX8_count _ _ _ 0 [some (.ref 47), some (.int x), none, none] [] _
  refine zj_iconst (v := 0) dX8_count_0 (by decide) ?_
  refine zj_istore_n dX8_count_1 (by decide) ?_
  refine zj_iload_n dX8_count_2 (by rfl) ?_
  by_cases hr : x.toInt < 0 ∨ 5 < x.toInt
  · refine zj_tout (tgt := 162) dX8_count_3 hr (by decide) ?_
    refine zj_ldc (v := -1000000001) dX8_count_162 zq_686 ?_
    refine zj_iret dX8_count_164 rfl (Nat.le_refl _) (Nat.le_refl _) ⟨?_, rfl⟩
    have n0 : ¬ x = 0 := fun e => by subst e; exact absurd hr (by decide)
    have n1 : ¬ x = 1 := fun e => by subst e; exact absurd hr (by decide)
    have n2 : ¬ x = 2 := fun e => by subst e; exact absurd hr (by decide)
    have n3 : ¬ x = 3 := fun e => by subst e; exact absurd hr (by decide)
    have n4 : ¬ x = 4 := fun e => by subst e; exact absurd hr (by decide)
    have n5 : ¬ x = 5 := fun e => by subst e; exact absurd hr (by decide)
    unfold s_count
    rw [if_neg n0, if_neg n1, if_neg n2, if_neg n3, if_neg n4, if_neg n5]
  · have hc : x.toInt = 0 ∨ x.toInt = 1 ∨ x.toInt = 2 ∨ x.toInt = 3 ∨ x.toInt = 4 ∨ x.toInt = 5 := by omega
    rcases hc with hc | hc | hc | hc | hc | hc <;> (have hx := i32_of hc; subst hx)
    · refine zj_tin (off := 37) (tgt := 40) dX8_count_3 (by decide) (by decide) (by decide) (by decide) ?_
      refine zj_iconst (v := 0) dX8_count_40 (by decide) ?_
      refine zj_istore_n dX8_count_41 (by decide) ?_
      exact m_c0_l r 4 0 (by omega)
    · refine zj_tin (off := 61) (tgt := 64) dX8_count_3 (by decide) (by decide) (by decide) (by decide) ?_
      refine zj_iconst (v := 0) dX8_count_64 (by decide) ?_
      refine zj_istore_n dX8_count_65 (by decide) ?_
      exact m_c1_l w r 6 0 (by omega)
    · refine zj_tin (off := 94) (tgt := 97) dX8_count_3 (by decide) (by decide) (by decide) (by decide) ?_
      refine zj_iconst (v := 0) dX8_count_97 (by decide) ?_
      refine zj_istore_n dX8_count_98 (by decide) ?_
      exact m_c2_l r 6 0 (by omega)
    · refine zj_tin (off := 119) (tgt := 122) dX8_count_3 (by decide) (by decide) (by decide) (by decide) ?_
      refine zj_aload_n dX8_count_122 (by rfl) ?_
      refine zg_8_175 rfl dX8_count_123 (by first | assumption | rfl) (by rfl) ?_
      exact zj_iret dX8_count_126 rfl (Nat.le_refl _) (Nat.le_refl _) ⟨rfl, rfl⟩
    · refine zj_tin (off := 124) (tgt := 127) dX8_count_3 (by decide) (by decide) (by decide) (by decide) ?_
      refine zj_aload_n dX8_count_127 (by rfl) ?_
      refine zg_8_78 rfl dX8_count_128 (by first | assumption | rfl) (by rfl) ?_
      exact zj_iret dX8_count_131 rfl (Nat.le_refl _) (Nat.le_refl _) ⟨rfl, rfl⟩
    · refine zj_tin (off := 129) (tgt := 132) dX8_count_3 (by decide) (by decide) (by decide) (by decide) ?_
      have p0 := s_pl_lt (WS_le w.2.2.1 (show 0 < 2 by omega))
      have p1 := s_pl_lt (WS_le w.2.2.1 (show 1 < 2 by omega))
      have z0 := q57 0 (by omega)
      have z1 := q57 1 (by omega)
      have k0 : (S 0).map List.length = none ↔ S 0 = none := Option.map_eq_none_iff
      have k1 : (S 1).map List.length = none ↔ S 1 = none := Option.map_eq_none_iff
      refine zj_aload_n dX8_count_132 (by rfl) ?_
      refine zg_8_41 rfl dX8_count_133 (by first | assumption | rfl) (by rfl) ?_
      refine zj_iconst (v := nI 0) dX8_count_136 (by decide) ?_
      refine zj_ialdN dX8_count_137 (by first | assumption | rfl) (by omega) ?_
      rw [z0]
      refine zj_if_ge (tgt := 145) dX8_count_138 (by decide) (fun q138 => ?_) (fun q138 => ?_)
      · refine zj_iconst (v := nI 1) dX8_count_145 (by decide) ?_
        refine zj_aload_n dX8_count_146 (by rfl) ?_
        refine zg_8_41 rfl dX8_count_147 (by first | assumption | rfl) (by rfl) ?_
        refine zj_iconst (v := nI 1) dX8_count_150 (by decide) ?_
        refine zj_ialdN dX8_count_151 (by first | assumption | rfl) (by omega) ?_
        rw [z1]
        refine zj_if_ge (tgt := 159) dX8_count_152 (by decide) (fun q152 => ?_) (fun q152 => ?_)
        · refine zj_iconst (v := nI 1) dX8_count_159 (by decide) ?_
          refine zj_iaddN dX8_count_160 ?_
          refine zj_iret dX8_count_161 rfl (Nat.le_refl _) (Nat.le_refl _) ?_
          refine ⟨?_, rfl⟩
          show _ = some (Value.int (nI (0 + (if S 0 = none then 0 else 1) + (if S 1 = none then 0 else 1))))
          by_cases s0 : S 0 = none <;> by_cases s1 : S 1 = none <;> (simp only [s0, s1, if_true, if_false]) <;> first | rfl | exact absurd q138 (p0.mpr (k0.mpr s0)) | exact absurd q152 (p1.mpr (k1.mpr s1)) | exact absurd (k0.mp (p0.mp q138)) s0 | exact absurd (k1.mp (p1.mp q152)) s1
        · refine zj_iconst (v := nI 0) dX8_count_155 (by decide) ?_
          refine zj_goto (tgt := 160) dX8_count_156 (by decide) ?_
          refine zj_iaddN dX8_count_160 ?_
          refine zj_iret dX8_count_161 rfl (Nat.le_refl _) (Nat.le_refl _) ?_
          refine ⟨?_, rfl⟩
          show _ = some (Value.int (nI (0 + (if S 0 = none then 0 else 1) + (if S 1 = none then 0 else 1))))
          by_cases s0 : S 0 = none <;> by_cases s1 : S 1 = none <;> (simp only [s0, s1, if_true, if_false]) <;> first | rfl | exact absurd q138 (p0.mpr (k0.mpr s0)) | exact absurd q152 (p1.mpr (k1.mpr s1)) | exact absurd (k0.mp (p0.mp q138)) s0 | exact absurd (k1.mp (p1.mp q152)) s1
      · refine zj_iconst (v := nI 0) dX8_count_141 (by decide) ?_
        refine zj_goto (tgt := 146) dX8_count_142 (by decide) ?_
        refine zj_aload_n dX8_count_146 (by rfl) ?_
        refine zg_8_41 rfl dX8_count_147 (by first | assumption | rfl) (by rfl) ?_
        refine zj_iconst (v := nI 1) dX8_count_150 (by decide) ?_
        refine zj_ialdN dX8_count_151 (by first | assumption | rfl) (by omega) ?_
        rw [z1]
        refine zj_if_ge (tgt := 159) dX8_count_152 (by decide) (fun q152 => ?_) (fun q152 => ?_)
        · refine zj_iconst (v := nI 1) dX8_count_159 (by decide) ?_
          refine zj_iaddN dX8_count_160 ?_
          refine zj_iret dX8_count_161 rfl (Nat.le_refl _) (Nat.le_refl _) ?_
          refine ⟨?_, rfl⟩
          show _ = some (Value.int (nI (0 + (if S 0 = none then 0 else 1) + (if S 1 = none then 0 else 1))))
          by_cases s0 : S 0 = none <;> by_cases s1 : S 1 = none <;> (simp only [s0, s1, if_true, if_false]) <;> first | rfl | exact absurd q138 (p0.mpr (k0.mpr s0)) | exact absurd q152 (p1.mpr (k1.mpr s1)) | exact absurd (k0.mp (p0.mp q138)) s0 | exact absurd (k1.mp (p1.mp q152)) s1
        · refine zj_iconst (v := nI 0) dX8_count_155 (by decide) ?_
          refine zj_goto (tgt := 160) dX8_count_156 (by decide) ?_
          refine zj_iaddN dX8_count_160 ?_
          refine zj_iret dX8_count_161 rfl (Nat.le_refl _) (Nat.le_refl _) ?_
          refine ⟨?_, rfl⟩
          show _ = some (Value.int (nI (0 + (if S 0 = none then 0 else 1) + (if S 1 = none then 0 else 1))))
          by_cases s0 : S 0 = none <;> by_cases s1 : S 1 = none <;> (simp only [s0, s1, if_true, if_false]) <;> first | rfl | exact absurd q138 (p0.mpr (k0.mpr s0)) | exact absurd q152 (p1.mpr (k1.mpr s1)) | exact absurd (k0.mp (p0.mp q138)) s0 | exact absurd (k1.mp (p1.mp q152)) s1
end M7
