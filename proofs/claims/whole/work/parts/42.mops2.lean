section M2
variable {h h' : zH} {C : Nat → List (Nat × Nat)} {P : Nat → List Nat} {S : Nat → Option (List Int32)} {T : List Nat} {H : Nat → Nat} {O : List (Nat × Nat)} {g d : Nat}
theorem m_four_l {x : Int32} {pn : Nat} {rd wr : Int32} : ∀ m n (f : Nat → Int32) (h : zH), h[47]? = some (.inr (8, s_mo g pn n rd wr)) → h[56]? = some (.inl (1, 60, .inl f)) → n + m ≤ 60 → m ≤ 4 → ∃ f', (∀ j, j < n → f' j = f j) ∧ (∀ j, j < m → f' (n + j) = nI (s_b4 x (4 - m + j))) ∧ zB mX8_four d none ((h.set 56 (.inl (1, 60, .inl f'))).set 47 (.inr (8, s_mo g pn (n + m) rd wr))) 3 [some (.ref 47), some (.int x), some (.int (nI (8 * m) + (-8)))] [] h := by
  intro m
  induction m with
  | zero =>
    intro n f h hk ha hn hm
    refine ⟨f, fun _ _ => rfl, fun j hj => absurd hj (Nat.not_lt_zero _), ?_⟩
    have he : (h.set 56 (.inl (1, 60, .inl f))).set 47 (.inr (8, s_mo g pn (n + 0) rd wr)) = h := by
      apply List.ext_getElem?
      intro j
      by_cases hj : 47 = j
      · subst hj; rw [zset_eq (zset_ne (by decide) hk), hk, Nat.add_zero]
      · rw [List.getElem?_set, if_neg hj]
        by_cases hj : 56 = j
        · subst hj; rw [zset_eq ha, ha]
        · rw [List.getElem?_set, if_neg hj]
    rw [he]
    refine zj_iload_n dX8_four_3 (by rfl) ?_
    refine zj_if_lt (tgt := 39) dX8_four_4 (by decide) (fun _ => ?_) (fun zq => absurd (by decide) zq)
    refine zj_vret dX8_four_39 rfl (Nat.le_refl _) (Nat.le_refl _) ?_
    exact ⟨rfl, rfl⟩
  | succ m ih =>
    intro n f h hk ha hn hm
    have hb : (x >>> (nI (8 * m) &&& 31)) &&& 255 = nI (s_b4 x (4 - (m + 1))) := by
      rw [pk_and _ 8 (by decide)]
      unfold s_b4
      rw [show 24 - 8 * (4 - (m + 1)) = 8 * m by omega]
    have ha1 := zset_eq (c := .inl (1, 60, .inl (upd f n (nI (s_b4 x (4 - (m + 1))))))) ha
    have hk1 := zset_ne (o := 56) (c := .inl (1, 60, .inl (upd f n (nI (s_b4 x (4 - (m + 1))))))) (by decide) hk
    have hk2 := zset_eq (c := .inr (8, s_mo g pn (n + 1) rd wr)) hk1
    have ha2 := zset_ne (o := 47) (c := .inr (8, s_mo g pn (n + 1) rd wr)) (by decide) ha1
    obtain ⟨f', hf1, hf2, hJ⟩ := ih (n + 1) _ _ hk2 ha2 (by omega) (by omega)
    refine ⟨f', fun j hj => by rw [hf1 j (by omega), pk_un (by omega)], fun j hj => ?_, ?_⟩
    · by_cases hj0 : j = 0
      · subst hj0; rw [Nat.add_zero, Nat.add_zero, hf1 n (by omega), pk_us]
      · have := hf2 (j - 1) (by omega)
        rw [show n + 1 + (j - 1) = n + j by omega, show 4 - m + (j - 1) = 4 - (m + 1) + j by omega] at this
        exact this
    · rw [zset4 (by decide), show n + 1 + m = n + (m + 1) by omega] at hJ
      rw [show 8 * (m + 1) = 8 * m + 8 by omega, s_m8]
      refine zj_iload_n dX8_four_3 (by rfl) ?_
      refine zj_if_lt (tgt := 39) dX8_four_4 (by decide) (fun zq => absurd zq (nI_pos (by omega))) (fun _ => ?_)
      refine zj_aload_n dX8_four_7 (by rfl) ?_
      refine zg_8_38 rfl dX8_four_8 (by first | assumption | rfl) (by rfl) ?_
      refine zj_aload_n dX8_four_11 (by rfl) ?_
      refine zg_8_78 rfl dX8_four_12 (by first | assumption | rfl) (by rfl) ?_
      refine zj_iload_n dX8_four_15 (by rfl) ?_
      refine zj_iload_n dX8_four_16 (by rfl) ?_
      refine zj_ishr dX8_four_17 ?_
      refine zj_sipush (v := 255) dX8_four_18 (by decide) ?_
      refine zj_iand dX8_four_21 ?_
      rw [hb]
      refine zj_iast dX8_four_22 (by first | assumption | rfl) (vp_in_nI (show n < 60 by omega) (by omega)) ?_
      rw [nI_clamp (show n < 2 ^ 31 by omega)]
      refine zj_aload_n dX8_four_23 (by rfl) ?_
      refine zj_dup dX8_four_24 rfl ?_
      refine zg_8_78 rfl dX8_four_25 (by first | assumption | rfl) (by rfl) ?_
      refine zj_iconst (v := 1) dX8_four_28 (by decide) ?_
      refine zj_iadd dX8_four_29 ?_
      rw [nI_1]
      refine zp_8_78 rfl dX8_four_30 (by first | assumption | rfl) (by exact Nat.le_of_ble_eq_true rfl) ?_
      refine zj_iinc (v := (-8)) dX8_four_33 (by decide) (by rfl) (by decide) ?_
      refine zj_goto (tgt := 3) dX8_four_36 (by decide) ?_
      exact hJ
theorem RM_four (r : RM h C P S T H O g) (hn : T.length + 4 ≤ 60) (x : Int32) : ∃ h', zD mX8_four d [.ref 47, .int x] h none h' ∧ RM h' C P S (T ++ s_bs x) H O g ∧ zEq 0 46 h h' := by
  obtain ⟨m47, m48, m49, m50, m51, m52, m53, m54, m55, m56, m57, m58, m59, m60, m61, m62, m63⟩ := r
  obtain ⟨rd, wr, hw, o0⟩ := id m47
  obtain ⟨f, a56, q56⟩ := id m56
  obtain ⟨f', hf1, hf2, hJ⟩ := m_four_l (d := d) (x := x) 4 T.length f h o0 a56 hn (by omega)
  have e : ∀ j, (¬ j = 47 ∧ ¬ j = 56) → ((h.set 56 (.inl (1, 60, .inl f'))).set 47 (.inr (8, s_mo g O.length (T.length + 4) rd wr)))[j]? = h[j]? := fun j hj => by
    rw [List.getElem?_set, if_neg (fun x => hj.1 x.symm), List.getElem?_set, if_neg (fun x => hj.2 x.symm)]
  refine ⟨_, ?_, ⟨⟨rd, wr, hw, ?_⟩, RA_e (e 48 (by decide)) m48, RA_e (e 49 (by decide)) m49, RA_e (e 50 (by decide)) m50, RA_e (e 51 (by decide)) m51, RA_e (e 52 (by decide)) m52, RA_e (e 53 (by decide)) m53, RA_e (e 54 (by decide)) m54, RA_e (e 55 (by decide)) m55, ⟨f', zset_ne (by decide) (zset_eq a56), ?_⟩, RA_e (e 57 (by decide)) m57, RA_e (e 58 (by decide)) m58, RA_e (e 59 (by decide)) m59, RJ_e (e 60 (by decide)) m60, RA_e (e 61 (by decide)) m61, RA_e (e 62 (by decide)) m62, RA_e (e 63 (by decide)) m63⟩, fun j h1 h2 => e j (by omega)⟩
  · refine zD_of (by decide +kernel) (by exact Nat.le_of_ble_eq_true rfl) ?_
    show zB mX8_four _ _ _ 0 [some (.ref 47), some (.int x), none] [] _
    refine zj_bipush (v := 24) dX8_four_0 (by decide) ?_
    refine zj_istore_n dX8_four_2 (by decide) ?_
    exact hJ
  · rw [zset_eq (zset_ne (by decide) o0)]
    simp [s_bs_len]
  · intro j hj
    rw [List.length_append, s_bs_len] at hj
    by_cases hj1 : j < T.length
    · rw [hf1 j hj1, q56 j hj1, z_gl hj1]
    · rw [z_gr (by omega)]
      have := hf2 (j - T.length) (by omega)
      rw [show T.length + (j - T.length) = j by omega, show 4 - 4 + (j - T.length) = j - T.length by omega] at this
      rw [this]
      congr 1
      rcases (show j - T.length = 0 ∨ j - T.length = 1 ∨ j - T.length = 2 ∨ j - T.length = 3 by omega) with e | e | e | e <;> rw [e] <;> rfl
theorem m_feedF (w : WF C P S T H O g) (r : RM h C P S T H O g) {a b c : Int32} (hn : ¬ T.length + 12 ≤ 60) : zD mX8_feed (d + 1) [.ref 47, .int a, .int b, .int c] h (some (.int (-1000000003))) h := by
  obtain ⟨⟨rd, wr, hw, o0⟩, -⟩ := id r
  have := w.2.2.2.1.1
  refine zD_of (by decide +kernel) (by exact Nat.le_of_ble_eq_true rfl) ?_
  show zB mX8_feed _ _ _ 0 [some (.ref 47), some (.int a), some (.int b), some (.int c)] [] _
  refine zj_aload_n dX8_feed_0 (by rfl) ?_
  refine zg_8_78 rfl dX8_feed_1 (by first | assumption | rfl) (by rfl) ?_
  refine zj_bipush (v := nI 12) dX8_feed_4 (by decide) ?_
  refine zj_iaddN dX8_feed_6 ?_
  refine zj_bipush (v := nI 60) dX8_feed_7 (by decide) ?_
  refine zj_icmp_leN (tgt := 15) dX8_feed_9 (by decide) (by omega) (fun zq => absurd zq (by omega)) (fun _ => ?_)
  refine zj_ldc (v := -1000000003) dX8_feed_12 zq_687 ?_
  refine zj_iret dX8_feed_14 rfl (Nat.le_refl _) (Nat.le_refl _) ?_
  exact ⟨rfl, rfl⟩
theorem m_feed (w : WF C P S T H O g) (r : RM h C P S T H O g) {a b c : Int32} (hn : T.length + 12 ≤ 60) : ∃ h', zD mX8_feed (d + 1) [.ref 47, .int a, .int b, .int c] h (some (.int (nI (T.length + 12)))) h' ∧ RM h' C P S (T ++ s_bs a ++ s_bs b ++ s_bs c) H O g ∧ zEq 0 46 h h' := by
  obtain ⟨⟨rd, wr, hw, o0⟩, -⟩ := id r
  obtain ⟨h1, hD1, r1, e1⟩ := RM_four (d := d) r (by omega) a
  have l1 : (T ++ s_bs a).length = T.length + 4 := by simp [s_bs_len]
  obtain ⟨h2, hD2, r2, e2⟩ := RM_four (d := d) r1 (by omega) b
  have l2 : (T ++ s_bs a ++ s_bs b).length = T.length + 8 := by simp [s_bs_len]
  obtain ⟨h3, hD3, r3, e3⟩ := RM_four (d := d) r2 (by omega) c
  have l3 : (T ++ s_bs a ++ s_bs b ++ s_bs c).length = T.length + 12 := by simp [s_bs_len]
  obtain ⟨⟨rd1, wr1, hw1, o1⟩, -⟩ := id r1
  obtain ⟨⟨rd2, wr2, hw2, o2⟩, -⟩ := id r2
  obtain ⟨⟨rd3, wr3, hw3, o3⟩, -⟩ := id r3
  rw [l3] at o3
  refine ⟨h3, ?_, r3, zEq_tr (zEq_tr e1 e2) e3⟩
  refine zD_of (by decide +kernel) (by exact Nat.le_of_ble_eq_true rfl) ?_
  show zB mX8_feed _ _ _ 0 [some (.ref 47), some (.int a), some (.int b), some (.int c)] [] _
  refine zj_aload_n dX8_feed_0 (by rfl) ?_
  refine zg_8_78 rfl dX8_feed_1 (by first | assumption | rfl) (by rfl) ?_
  refine zj_bipush (v := nI 12) dX8_feed_4 (by decide) ?_
  refine zj_iaddN dX8_feed_6 ?_
  refine zj_bipush (v := nI 60) dX8_feed_7 (by decide) ?_
  refine zj_icmp_leN (tgt := 15) dX8_feed_9 (by decide) (by omega) (fun _ => ?_) (fun zq => absurd (by omega) zq)
  refine zj_aload_n dX8_feed_15 (by rfl) ?_
  refine zj_iload_n dX8_feed_16 (by rfl) ?_
  refine zc_8_81 rfl dX8_feed_17 (by first | assumption | rfl) hD1 (by exact Nat.le_of_ble_eq_true rfl) ?_
  refine zj_aload_n dX8_feed_20 (by rfl) ?_
  refine zj_iload_n dX8_feed_21 (by rfl) ?_
  refine zc_8_81 rfl dX8_feed_22 (by first | assumption | rfl) hD2 (by exact Nat.le_of_ble_eq_true rfl) ?_
  refine zj_aload_n dX8_feed_25 (by rfl) ?_
  refine zj_iload_n dX8_feed_26 (by rfl) ?_
  refine zc_8_81 rfl dX8_feed_27 (by first | assumption | rfl) hD3 (by exact Nat.le_of_ble_eq_true rfl) ?_
  refine zj_aload_n dX8_feed_30 (by rfl) ?_
  refine zg_8_78 rfl dX8_feed_31 (by first | assumption | rfl) (by rfl) ?_
  refine zj_iret dX8_feed_34 rfl (Nat.le_refl _) (Nat.le_refl _) ?_
  exact ⟨rfl, rfl⟩
theorem m_trimA (r : RM h C P S T H O g) {n : Int32} (hn : n < 0 ∨ ¬ n ≤ nI T.length) : zD mX8_trim (d + 1) [.ref 47, .int n] h (some (.int (-1000000001))) h := by
  obtain ⟨⟨rd, wr, hw, o0⟩, -⟩ := id r
  refine zD_of (by decide +kernel) (by exact Nat.le_of_ble_eq_true rfl) ?_
  show zB mX8_trim _ _ _ 0 [some (.ref 47), some (.int n)] [] _
  refine zj_iload_n dX8_trim_0 (by rfl) ?_
  refine zj_iconst (v := 0) dX8_trim_1 (by decide) ?_
  refine zj_aload_n dX8_trim_2 (by rfl) ?_
  refine zg_8_78 rfl dX8_trim_3 (by first | assumption | rfl) (by rfl) ?_
  refine zc_8_63 rfl dX8_trim_6 (m_isIn _ _ _) (by exact Nat.le_of_ble_eq_true rfl) ?_
  rw [s_is0 (hn.imp_right Int32.not_le.mp)]
  refine zj_if_ne (tgt := 15) dX8_trim_9 (by decide) (fun zq => absurd (rfl) zq) (fun _ => ?_)
  refine zj_ldc (v := -1000000001) dX8_trim_12 zq_686 ?_
  refine zj_iret dX8_trim_14 rfl (Nat.le_refl _) (Nat.le_refl _) ?_
  exact ⟨rfl, rfl⟩
theorem m_trim (w : WF C P S T H O g) (r : RM h C P S T H O g) {n : Nat} (hn : n ≤ T.length) : ∃ h', zD mX8_trim (d + 1) [.ref 47, .int (nI n)] h (some (.int (nI n))) h' ∧ RM h' C P S (T.take n) H O g ∧ zEq 0 46 h h' := by
  obtain ⟨m47, m48, m49, m50, m51, m52, m53, m54, m55, m56, m57, m58, m59, m60, m61, m62, m63⟩ := r
  obtain ⟨rd, wr, hw, o0⟩ := id m47
  obtain ⟨f, a56, q56⟩ := id m56
  have h60 := w.2.2.2.1.1
  have e : ∀ j, (¬ j = 47) → (h.set 47 (.inr (8, s_mo g O.length n rd wr)))[j]? = h[j]? := fun j hj => by rw [List.getElem?_set, if_neg (fun x => hj x.symm)]
  refine ⟨_, ?_, ⟨⟨rd, wr, hw, ?_⟩, RA_e (e 48 (by decide)) m48, RA_e (e 49 (by decide)) m49, RA_e (e 50 (by decide)) m50, RA_e (e 51 (by decide)) m51, RA_e (e 52 (by decide)) m52, RA_e (e 53 (by decide)) m53, RA_e (e 54 (by decide)) m54, RA_e (e 55 (by decide)) m55, ⟨f, zset_ne (by decide) a56, ?_⟩, RA_e (e 57 (by decide)) m57, RA_e (e 58 (by decide)) m58, RA_e (e 59 (by decide)) m59, RJ_e (e 60 (by decide)) m60, RA_e (e 61 (by decide)) m61, RA_e (e 62 (by decide)) m62, RA_e (e 63 (by decide)) m63⟩, fun j h1 h2 => e j (by omega)⟩
  · refine zD_of (by decide +kernel) (by exact Nat.le_of_ble_eq_true rfl) ?_
    show zB mX8_trim _ _ _ 0 [some (.ref 47), some (.int (nI n))] [] _
    refine zj_iload_n dX8_trim_0 (by rfl) ?_
    refine zj_iconst (v := nI 0) dX8_trim_1 (by decide) ?_
    refine zj_aload_n dX8_trim_2 (by rfl) ?_
    refine zg_8_78 rfl dX8_trim_3 (by first | assumption | rfl) (by rfl) ?_
    refine zc_8_63 rfl dX8_trim_6 (m_isIn _ _ _) (by exact Nat.le_of_ble_eq_true rfl) ?_
    rw [s_is1 (nI_nlt (by omega) (by omega)) (nI_nlt (by omega) (by omega))]
    refine zj_if_ne (tgt := 15) dX8_trim_9 (by decide) (fun _ => ?_) (fun zq => absurd zq (by decide))
    refine zj_aload_n dX8_trim_15 (by rfl) ?_
    refine zj_iload_n dX8_trim_16 (by rfl) ?_
    refine zp_8_78 rfl dX8_trim_17 (by first | assumption | rfl) (by exact Nat.le_of_ble_eq_true rfl) ?_
    refine zj_iload_n dX8_trim_20 (by rfl) ?_
    refine zj_iret dX8_trim_21 rfl (Nat.le_refl _) (Nat.le_refl _) ?_
    exact ⟨rfl, rfl⟩
  · rw [zset_eq o0, List.length_take, Nat.min_eq_left hn]
  · intro j hj
    rw [List.length_take] at hj
    rw [q56 j (by omega)]
    congr 1
    simp [List.getD, List.getElem?_take, show j < n by omega]
theorem m_syllableA (r : RM h C P S T H O g) {p i : Int32} (hp : p < 0 ∨ 6 ≤ p) : zD mX8_syllable (d + 2) [.ref 47, .int p, .int i] h (some (.int (-1000000001))) h := by
  refine zD_of (by decide +kernel) (by exact Nat.le_of_ble_eq_true rfl) ?_
  show zB mX8_syllable _ _ _ 0 [some (.ref 47), some (.int p), some (.int i)] [] _
  refine zj_iload_n dX8_syllable_0 (by rfl) ?_
  refine zc_8_103 rfl dX8_syllable_1 (m_isPhraseN hp) (by exact Nat.le_of_ble_eq_true rfl) ?_
  refine zj_if_eq (tgt := 11) dX8_syllable_4 (by decide) (fun _ => ?_) (fun zq => absurd (rfl) zq)
  refine zj_ldc (v := -1000000001) dX8_syllable_11 zq_686 ?_
  refine zj_iret dX8_syllable_13 rfl (Nat.le_refl _) (Nat.le_refl _) ?_
  exact ⟨rfl, rfl⟩
theorem m_syllableB (r : RM h C P S T H O g) {p : Nat} {i : Int32} (hp : p < 6) (hi : i < 0) : zD mX8_syllable (d + 2) [.ref 47, .int (nI p), .int i] h (some (.int (-1000000001))) h := by
  refine zD_of (by decide +kernel) (by exact Nat.le_of_ble_eq_true rfl) ?_
  show zB mX8_syllable _ _ _ 0 [some (.ref 47), some (.int (nI p)), some (.int i)] [] _
  refine zj_iload_n dX8_syllable_0 (by rfl) ?_
  refine zc_8_103 rfl dX8_syllable_1 (m_isPhrase hp) (by exact Nat.le_of_ble_eq_true rfl) ?_
  refine zj_if_eq (tgt := 11) dX8_syllable_4 (by decide) (fun zq => absurd zq (by decide)) (fun _ => ?_)
  refine zj_iload_n dX8_syllable_7 (by rfl) ?_
  refine zj_if_ge (tgt := 14) dX8_syllable_8 (by decide) (fun zq => absurd zq (Int32.not_le.mpr hi)) (fun _ => ?_)
  refine zj_ldc (v := -1000000001) dX8_syllable_11 zq_686 ?_
  refine zj_iret dX8_syllable_13 rfl (Nat.le_refl _) (Nat.le_refl _) ?_
  exact ⟨rfl, rfl⟩
theorem m_syllable (w : WF C P S T H O g) (r : RM h C P S T H O g) {p i : Nat} (hp : p < 6) (hi : i < 2 ^ 31) : zD mX8_syllable (d + 2) [.ref 47, .int (nI p), .int (nI i)] h (some (.int (if i < (P p).length then nI ((P p).getD i 0) else -1000000005))) h := by
  obtain ⟨m47, m48, m49, m50, m51, m52, m53, m54, m55, m56, m57, m58, m59, m60, m61, m62, m63⟩ := r
  obtain ⟨rd, wr, hw, o0⟩ := m47
  obtain ⟨fS, a51, q51⟩ := m51
  obtain ⟨fD, a52, q52⟩ := m52
  have l2 := (w.2.1 p hp).1
  refine zD_of (by decide +kernel) (by exact Nat.le_of_ble_eq_true rfl) ?_
  show zB mX8_syllable _ _ _ 0 [some (.ref 47), some (.int (nI p)), some (.int (nI i))] [] _
  refine zj_iload_n dX8_syllable_0 (by rfl) ?_
  refine zc_8_103 rfl dX8_syllable_1 (m_isPhrase hp) (by exact Nat.le_of_ble_eq_true rfl) ?_
  refine zj_if_eq (tgt := 11) dX8_syllable_4 (by decide) (fun zq => absurd zq (by decide)) (fun _ => ?_)
  refine zj_iload_n dX8_syllable_7 (by rfl) ?_
  refine zj_if_geN (tgt := 14) dX8_syllable_8 (by decide) (by omega) ?_
  refine zj_iload_n dX8_syllable_14 (by rfl) ?_
  refine zj_aload_n dX8_syllable_15 (by rfl) ?_
  refine zg_8_19 rfl dX8_syllable_16 (by first | assumption | rfl) (by rfl) ?_
  refine zj_iload_n dX8_syllable_19 (by rfl) ?_
  refine zj_ialdN dX8_syllable_20 (by first | assumption | rfl) (by omega) ?_
  rw [q51 p hp]
  refine zj_icmp_geN (tgt := 38) dX8_syllable_21 (by decide) (by omega) (fun q21 => ?_) (fun q21 => ?_)
  · refine zj_ldc (v := -1000000005) dX8_syllable_38 zq_744 ?_
    refine zj_iret dX8_syllable_40 rfl (Nat.le_refl _) (Nat.le_refl _) ?_
    exact ⟨by first | rw [if_pos (by omega)] | rw [if_neg (by omega)], rfl⟩
  · refine zj_aload_n dX8_syllable_24 (by rfl) ?_
    refine zg_8_22 rfl dX8_syllable_25 (by first | assumption | rfl) (by rfl) ?_
    refine zj_bipush (v := nI 60) dX8_syllable_28 (by decide) ?_
    refine zj_iload_n dX8_syllable_30 (by rfl) ?_
    refine zj_imulN dX8_syllable_31 ?_
    refine zj_iload_n dX8_syllable_32 (by rfl) ?_
    refine zj_iaddN dX8_syllable_33 ?_
    refine zj_ialdN dX8_syllable_34 (by first | assumption | rfl) (by omega) ?_
    rw [q52 p hp i (by omega)]
    refine zj_goto (tgt := 40) dX8_syllable_35 (by decide) ?_
    refine zj_iret dX8_syllable_40 rfl (Nat.le_refl _) (Nat.le_refl _) ?_
    exact ⟨by first | rw [if_pos (by omega)] | rw [if_neg (by omega)], rfl⟩
/-- by a speed that there is -/
theorem s_sp_div {v : Int32} (hv : ¬ s_tpo v = 0) : ∃ n, 1 ≤ n ∧ n ≤ 8 ∧ v = nI n ∧ s_tpo v = 24 / n := by
  unfold s_tpo at hv ⊢
  by_cases h1 : v = 1
  · exact ⟨1, by decide, by decide, h1, by rw [if_pos h1]⟩
  · by_cases h2 : v = 2
    · exact ⟨2, by decide, by decide, h2, by rw [if_neg h1, if_pos h2]⟩
    · by_cases h3 : v = 3
      · exact ⟨3, by decide, by decide, h3, by rw [if_neg h1, if_neg h2, if_pos h3]⟩
      · by_cases h4 : v = 4
        · exact ⟨4, by decide, by decide, h4, by rw [if_neg h1, if_neg h2, if_neg h3, if_pos h4]⟩
        · by_cases h6 : v = 6
          · exact ⟨6, by decide, by decide, h6, by rw [if_neg h1, if_neg h2, if_neg h3, if_neg h4, if_pos h6]⟩
          · by_cases h8 : v = 8
            · exact ⟨8, by decide, by decide, h8, by rw [if_neg h1, if_neg h2, if_neg h3, if_neg h4, if_neg h6, if_pos h8]⟩
            · exact absurd (by rw [if_neg h1, if_neg h2, if_neg h3, if_neg h4, if_neg h6, if_neg h8]) hv
theorem m_ticksOf (r : RM h C P S T H O g) {p : Nat} {v : Int32} (hp : p < 6) (hv : ¬ s_tpo v = 0) : zD mX8_ticksOf d [.ref 47, .int (nI p), .int v] h (some (.int (nI ((P p).length * s_tpo v)))) h := by
  obtain ⟨m47, m48, m49, m50, m51, m52, m53, m54, m55, m56, m57, m58, m59, m60, m61, m62, m63⟩ := r
  obtain ⟨rd, wr, hw, o0⟩ := m47
  obtain ⟨fS, a51, q51⟩ := m51
  obtain ⟨n, n1, n2, rfl, n3⟩ := s_sp_div hv
  rw [n3]
  refine zD_of (by decide +kernel) (by exact Nat.le_of_ble_eq_true rfl) ?_
  show zB mX8_ticksOf _ _ _ 0 [some (.ref 47), some (.int (nI p)), some (.int (nI n))] [] _
  refine zj_aload_n dX8_ticksOf_0 (by rfl) ?_
  refine zg_8_19 rfl dX8_ticksOf_1 (by first | assumption | rfl) (by rfl) ?_
  refine zj_iload_n dX8_ticksOf_4 (by rfl) ?_
  refine zj_ialdN dX8_ticksOf_5 (by first | assumption | rfl) (by omega) ?_
  rw [q51 p hp]
  refine zj_bipush (v := nI 24) dX8_ticksOf_6 (by decide) ?_
  refine zj_iload_n dX8_ticksOf_8 (by rfl) ?_
  refine zj_idivN dX8_ticksOf_9 (by omega) ?_
  refine zj_imulN dX8_ticksOf_10 ?_
  refine zj_iret dX8_ticksOf_11 rfl (Nat.le_refl _) (Nat.le_refl _) ?_
  exact ⟨rfl, rfl⟩
theorem m_ticksA (r : RM h C P S T H O g) {p v : Int32} (hp : p < 0 ∨ 6 ≤ p) : zD mX8_ticks (d + 2) [.ref 47, .int p, .int v] h (some (.int (-1000000001))) h := by
  refine zD_of (by decide +kernel) (by exact Nat.le_of_ble_eq_true rfl) ?_
  show zB mX8_ticks _ _ _ 0 [some (.ref 47), some (.int p), some (.int v)] [] _
  refine zj_iload_n dX8_ticks_0 (by rfl) ?_
  refine zc_8_103 rfl dX8_ticks_1 (m_isPhraseN hp) (by exact Nat.le_of_ble_eq_true rfl) ?_
  refine zj_if_eq (tgt := 23) dX8_ticks_4 (by decide) (fun _ => ?_) (fun zq => absurd (rfl) zq)
  refine zj_ldc (v := -1000000001) dX8_ticks_23 zq_686 ?_
  refine zj_iret dX8_ticks_25 rfl (Nat.le_refl _) (Nat.le_refl _) ?_
  exact ⟨rfl, rfl⟩
theorem m_ticksB (r : RM h C P S T H O g) {p : Nat} {v : Int32} (hp : p < 6) (hv : s_tpo v = 0) : zD mX8_ticks (d + 2) [.ref 47, .int (nI p), .int v] h (some (.int (-1000000001))) h := by
  have hS := m_isSpeed (d := d + 1) (h := h) v
  rw [if_pos hv] at hS
  refine zD_of (by decide +kernel) (by exact Nat.le_of_ble_eq_true rfl) ?_
  show zB mX8_ticks _ _ _ 0 [some (.ref 47), some (.int (nI p)), some (.int v)] [] _
  refine zj_iload_n dX8_ticks_0 (by rfl) ?_
  refine zc_8_103 rfl dX8_ticks_1 (m_isPhrase hp) (by exact Nat.le_of_ble_eq_true rfl) ?_
  refine zj_if_eq (tgt := 23) dX8_ticks_4 (by decide) (fun zq => absurd zq (by decide)) (fun _ => ?_)
  refine zj_iload_n dX8_ticks_7 (by rfl) ?_
  refine zc_8_107 rfl dX8_ticks_8 hS (by exact Nat.le_of_ble_eq_true rfl) ?_
  refine zj_if_eq (tgt := 23) dX8_ticks_11 (by decide) (fun _ => ?_) (fun zq => absurd (rfl) zq)
  refine zj_ldc (v := -1000000001) dX8_ticks_23 zq_686 ?_
  refine zj_iret dX8_ticks_25 rfl (Nat.le_refl _) (Nat.le_refl _) ?_
  exact ⟨rfl, rfl⟩
theorem m_ticks (r : RM h C P S T H O g) {p : Nat} {v : Int32} (hp : p < 6) (hv : ¬ s_tpo v = 0) : zD mX8_ticks (d + 2) [.ref 47, .int (nI p), .int v] h (some (.int (nI ((P p).length * s_tpo v)))) h := by
  obtain ⟨⟨rd, wr, hw, o0⟩, -⟩ := id r
  have hS := m_isSpeed (d := d + 1) (h := h) v
  rw [if_neg hv] at hS
  refine zD_of (by decide +kernel) (by exact Nat.le_of_ble_eq_true rfl) ?_
  show zB mX8_ticks _ _ _ 0 [some (.ref 47), some (.int (nI p)), some (.int v)] [] _
  refine zj_iload_n dX8_ticks_0 (by rfl) ?_
  refine zc_8_103 rfl dX8_ticks_1 (m_isPhrase hp) (by exact Nat.le_of_ble_eq_true rfl) ?_
  refine zj_if_eq (tgt := 23) dX8_ticks_4 (by decide) (fun zq => absurd zq (by decide)) (fun _ => ?_)
  refine zj_iload_n dX8_ticks_7 (by rfl) ?_
  refine zc_8_107 rfl dX8_ticks_8 hS (by exact Nat.le_of_ble_eq_true rfl) ?_
  refine zj_if_eq (tgt := 23) dX8_ticks_11 (by decide) (fun zq => absurd zq (by decide)) (fun _ => ?_)
  refine zj_aload_n dX8_ticks_14 (by rfl) ?_
  refine zj_iload_n dX8_ticks_15 (by rfl) ?_
  refine zj_iload_n dX8_ticks_16 (by rfl) ?_
  refine zc_8_110 rfl dX8_ticks_17 (by first | assumption | rfl) (m_ticksOf r hp hv) (by exact Nat.le_of_ble_eq_true rfl) ?_
  refine zj_goto (tgt := 25) dX8_ticks_20 (by decide) ?_
  refine zj_iret dX8_ticks_25 rfl (Nat.le_refl _) (Nat.le_refl _) ?_
  exact ⟨rfl, rfl⟩
theorem m_gridA (r : RM h C P S T H O g) {v : Int32} (hv : v < 1 ∨ ¬ v ≤ 24) : zD mX8_grid (d + 1) [.ref 47, .int v] h (some (.int (-1000000001))) h := by
  refine zD_of (by decide +kernel) (by exact Nat.le_of_ble_eq_true rfl) ?_
  show zB mX8_grid _ _ _ 0 [some (.ref 47), some (.int v), none] [] _
  refine zj_iload_n dX8_grid_0 (by rfl) ?_
  refine zj_iconst (v := 1) dX8_grid_1 (by decide) ?_
  refine zj_bipush (v := 24) dX8_grid_2 (by decide) ?_
  refine zc_8_63 rfl dX8_grid_4 (m_isIn _ _ _) (by exact Nat.le_of_ble_eq_true rfl) ?_
  rw [s_is0 (hv.imp_right Int32.not_le.mp)]
  refine zj_if_ne (tgt := 13) dX8_grid_7 (by decide) (fun zq => absurd (rfl) zq) (fun _ => ?_)
  refine zj_ldc (v := -1000000001) dX8_grid_10 zq_686 ?_
  refine zj_iret dX8_grid_12 rfl (Nat.le_refl _) (Nat.le_refl _) ?_
  exact ⟨rfl, rfl⟩
theorem m_grid (r : RM h C P S T H O g) {v : Nat} (hv : 1 ≤ v ∧ v ≤ 24) : ∃ h', zD mX8_grid (d + 1) [.ref 47, .int (nI v)] h (some (.int (nI g))) h' ∧ RM h' C P S T H O v ∧ zEq 0 46 h h' := by
  obtain ⟨m47, m48, m49, m50, m51, m52, m53, m54, m55, m56, m57, m58, m59, m60, m61, m62, m63⟩ := r
  obtain ⟨rd, wr, hw, o0⟩ := id m47
  have e : ∀ j, (¬ j = 47) → (h.set 47 (.inr (8, s_mo v O.length T.length rd wr)))[j]? = h[j]? := fun j hj => by rw [List.getElem?_set, if_neg (fun x => hj x.symm)]
  refine ⟨_, ?_, ⟨⟨rd, wr, hw, zset_eq o0⟩, RA_e (e 48 (by decide)) m48, RA_e (e 49 (by decide)) m49, RA_e (e 50 (by decide)) m50, RA_e (e 51 (by decide)) m51, RA_e (e 52 (by decide)) m52, RA_e (e 53 (by decide)) m53, RA_e (e 54 (by decide)) m54, RA_e (e 55 (by decide)) m55, RA_e (e 56 (by decide)) m56, RA_e (e 57 (by decide)) m57, RA_e (e 58 (by decide)) m58, RA_e (e 59 (by decide)) m59, RJ_e (e 60 (by decide)) m60, RA_e (e 61 (by decide)) m61, RA_e (e 62 (by decide)) m62, RA_e (e 63 (by decide)) m63⟩, fun j h1 h2 => e j (by omega)⟩
  refine zD_of (by decide +kernel) (by exact Nat.le_of_ble_eq_true rfl) ?_
  show zB mX8_grid _ _ _ 0 [some (.ref 47), some (.int (nI v)), none] [] _
  refine zj_iload_n dX8_grid_0 (by rfl) ?_
  refine zj_iconst (v := nI 1) dX8_grid_1 (by decide) ?_
  refine zj_bipush (v := nI 24) dX8_grid_2 (by decide) ?_
  refine zc_8_63 rfl dX8_grid_4 (m_isIn _ _ _) (by exact Nat.le_of_ble_eq_true rfl) ?_
  rw [s_is1 (nI_nlt (by omega) (by omega)) (nI_nlt (by omega) (by omega))]
  refine zj_if_ne (tgt := 13) dX8_grid_7 (by decide) (fun _ => ?_) (fun zq => absurd zq (by decide))
  refine zj_aload_n dX8_grid_13 (by rfl) ?_
  refine zg_8_28 rfl dX8_grid_14 (by first | assumption | rfl) (by rfl) ?_
  refine zj_istore_n dX8_grid_17 (by decide) ?_
  refine zj_aload_n dX8_grid_18 (by rfl) ?_
  refine zj_iload_n dX8_grid_19 (by rfl) ?_
  refine zp_8_28 rfl dX8_grid_20 (by first | assumption | rfl) (by exact Nat.le_of_ble_eq_true rfl) ?_
  refine zj_iload_n dX8_grid_23 (by rfl) ?_
  refine zj_iret dX8_grid_24 rfl (Nat.le_refl _) (Nat.le_refl _) ?_
  exact ⟨rfl, rfl⟩
end M2
