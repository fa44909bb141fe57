section M8
variable {h h' : zH} {C : Nat → List (Nat × Nat)} {P : Nat → List Nat} {S : Nat → Option (List Int32)} {T : List Nat} {H : Nat → Nat} {O : List (Nat × Nat)} {g d : Nat}
theorem m_rows (w : WF C P S T H O g) (r : RM h C P S T H O g) {p c : Nat} (hp : p < 6) (hc : 1 ≤ c ∧ c ≤ 9) : zD mX8_rows d [.ref 47, .int (nI p), .int (nI c)] h (some (.int (nI (s_R (P p).length c)))) h := by
  obtain ⟨m47, m48, m49, m50, m51, m52, m53, m54, m55, m56, m57, m58, m59, m60, m61, m62, m63⟩ := r
  obtain ⟨rd, wr, hw, o0⟩ := m47
  obtain ⟨fS, a51, q51⟩ := m51
  have l2 := (w.2.1 p hp).1
  refine zD_of (by decide +kernel) (by exact Nat.le_of_ble_eq_true rfl) ?_
  show zB mX8_rows _ _ _ 0 [some (.ref 47), some (.int (nI p)), some (.int (nI c))] [] _
  refine zj_aload_n dX8_rows_0 (by rfl) ?_
  refine zg_8_19 rfl dX8_rows_1 (by first | assumption | rfl) (by rfl) ?_
  refine zj_iload_n dX8_rows_4 (by rfl) ?_
  refine zj_ialdN dX8_rows_5 (by first | assumption | rfl) (by omega) ?_
  rw [q51 p hp]
  refine zj_iload_n dX8_rows_6 (by rfl) ?_
  refine zj_iaddN dX8_rows_7 ?_
  refine zj_iconst (v := nI 1) dX8_rows_8 (by decide) ?_
  refine zj_isubN dX8_rows_9 (by omega) ?_
  refine zj_iload_n dX8_rows_10 (by rfl) ?_
  refine zj_idivN dX8_rows_11 (by omega) ?_
  refine zj_iret dX8_rows_12 rfl (Nat.le_refl _) (Nat.le_refl _) ?_
  exact ⟨rfl, rfl⟩
theorem m_rowsOf (w : WF C P S T H O g) (r : RM h C P S T H O g) {p c wh : Nat} (hp : p < 6) (hc : 1 ≤ c ∧ c ≤ 9) (hw : wh ≤ 2) (hn : ¬ (P p).length = 0) : zD mX8_rowsOf (d + 1) [.ref 47, .int (nI p), .int (nI c), .int (nI wh)] h (some (.int (nI (s_rows (s_R (P p).length c) wh)))) h := by
  obtain ⟨⟨rd, wr, hw2, o0⟩, -⟩ := id r
  have l2 := (w.2.1 p hp).1
  have hR := s_R_le (n := (P p).length) (c := c) (by omega) hc.1
  have hR1 : 1 ≤ s_R (P p).length c := by rw [s_R_p (n := (P p).length) (c := c) (by omega) hc.1]; exact Nat.le_add_left _ _
  unfold s_rows
  refine zD_of (by decide +kernel) (by exact Nat.le_of_ble_eq_true rfl) ?_
  show zB mX8_rowsOf _ _ _ 0 [some (.ref 47), some (.int (nI p)), some (.int (nI c)), some (.int (nI wh)), none] [] _
  refine zj_aload_n dX8_rowsOf_0 (by rfl) ?_
  refine zj_iload_n dX8_rowsOf_1 (by rfl) ?_
  refine zj_iload_n dX8_rowsOf_2 (by rfl) ?_
  refine zc_8_137 rfl dX8_rowsOf_3 (by first | assumption | rfl) (m_rows w r hp hc) (by exact Nat.le_of_ble_eq_true rfl) ?_
  refine zj_istore dX8_rowsOf_6 (by decide) ?_
  refine zj_iload_n dX8_rowsOf_8 (by rfl) ?_
  refine zj_iconst (v := nI 2) dX8_rowsOf_9 (by decide) ?_
  refine zj_icmp_neN (tgt := 22) dX8_rowsOf_10 (by decide) (by omega) (fun q10 => ?_) (fun q10 => ?_)
  · refine zj_iload dX8_rowsOf_22 (by rfl) ?_
    refine zj_iret dX8_rowsOf_24 rfl (Nat.le_refl _) (Nat.le_refl _) ?_
    exact ⟨by first | (rw [if_pos (by omega)]; done) | (rw [if_neg (by omega)]; done), rfl⟩
  · refine zj_iconst (v := nI 2) dX8_rowsOf_13 (by decide) ?_
    refine zj_iload dX8_rowsOf_14 (by rfl) ?_
    refine zj_imulN dX8_rowsOf_16 ?_
    refine zj_iconst (v := nI 1) dX8_rowsOf_17 (by decide) ?_
    refine zj_isubN dX8_rowsOf_18 (by omega) ?_
    refine zj_goto (tgt := 24) dX8_rowsOf_19 (by decide) ?_
    refine zj_iret dX8_rowsOf_24 rfl (Nat.le_refl _) (Nat.le_refl _) ?_
    exact ⟨by first | (rw [if_pos (by omega)]; done) | (rw [if_neg (by omega)]; done), rfl⟩
theorem m_rowOf (w : WF C P S T H O g) (r : RM h C P S T H O g) {p c wh k : Nat} (hp : p < 6) (hc : 1 ≤ c ∧ c ≤ 9) (hw : wh ≤ 2) (hn : ¬ (P p).length = 0) (hk : k < s_rows (s_R (P p).length c) wh) : zD mX8_rowOf (d + 1) [.ref 47, .int (nI p), .int (nI c), .int (nI wh), .int (nI k)] h (some (.int (nI (s_row (s_R (P p).length c) wh k)))) h := by
  obtain ⟨⟨rd, wr, hw2, o0⟩, -⟩ := id r
  have l2 := (w.2.1 p hp).1
  have hR := s_R_le (n := (P p).length) (c := c) (by omega) hc.1
  have hR1 : 1 ≤ s_R (P p).length c := by rw [s_R_p (n := (P p).length) (c := c) (by omega) hc.1]; exact Nat.le_add_left _ _
  unfold s_rows at hk
  have hk2 : k < 2 * s_R (P p).length c - 1 := by split at hk <;> omega
  have hk3 : ¬ wh = 2 → k < s_R (P p).length c := fun e => by rw [if_neg e] at hk; exact hk
  unfold s_row
  refine zD_of (by decide +kernel) (by exact Nat.le_of_ble_eq_true rfl) ?_
  show zB mX8_rowOf _ _ _ 0 [some (.ref 47), some (.int (nI p)), some (.int (nI c)), some (.int (nI wh)), some (.int (nI k)), none] [] _
  refine zj_aload_n dX8_rowOf_0 (by rfl) ?_
  refine zj_iload_n dX8_rowOf_1 (by rfl) ?_
  refine zj_iload_n dX8_rowOf_2 (by rfl) ?_
  refine zc_8_137 rfl dX8_rowOf_3 (by first | assumption | rfl) (m_rows w r hp hc) (by exact Nat.le_of_ble_eq_true rfl) ?_
  refine zj_istore dX8_rowOf_6 (by decide) ?_
  refine zj_iload_n dX8_rowOf_8 (by rfl) ?_
  refine zj_if_neN (tgt := 17) dX8_rowOf_9 (by decide) (by omega) (fun q9 => ?_) (fun q9 => ?_)
  · refine zj_iload_n dX8_rowOf_17 (by rfl) ?_
    refine zj_iconst (v := nI 1) dX8_rowOf_18 (by decide) ?_
    refine zj_icmp_neN (tgt := 32) dX8_rowOf_19 (by decide) (by omega) (fun q19 => ?_) (fun q19 => ?_)
    · refine zj_iload dX8_rowOf_32 (by rfl) ?_
      refine zj_iload dX8_rowOf_34 (by rfl) ?_
      refine zj_icmp_geN (tgt := 44) dX8_rowOf_36 (by decide) (by omega) (fun q36 => ?_) (fun q36 => ?_)
      · refine zj_iconst (v := nI 2) dX8_rowOf_44 (by decide) ?_
        refine zj_iload dX8_rowOf_45 (by rfl) ?_
        refine zj_imulN dX8_rowOf_47 ?_
        refine zj_iconst (v := nI 2) dX8_rowOf_48 (by decide) ?_
        refine zj_isubN dX8_rowOf_49 (by omega) ?_
        refine zj_iload dX8_rowOf_50 (by rfl) ?_
        refine zj_isubN dX8_rowOf_52 (by omega) ?_
        refine zj_iret dX8_rowOf_53 rfl (Nat.le_refl _) (Nat.le_refl _) ?_
        refine ⟨?_, rfl⟩
        first | (rw [if_pos (by omega)]; done) | (rw [if_neg (by omega), if_pos (by omega)]; done) | (rw [if_neg (by omega), if_neg (by omega), if_pos (by omega)]; done) | (rw [if_neg (by omega), if_neg (by omega), if_neg (by omega)]; done)
      · refine zj_iload dX8_rowOf_39 (by rfl) ?_
        refine zj_goto (tgt := 53) dX8_rowOf_41 (by decide) ?_
        refine zj_iret dX8_rowOf_53 rfl (Nat.le_refl _) (Nat.le_refl _) ?_
        refine ⟨?_, rfl⟩
        first | (rw [if_pos (by omega)]; done) | (rw [if_neg (by omega), if_pos (by omega)]; done) | (rw [if_neg (by omega), if_neg (by omega), if_pos (by omega)]; done) | (rw [if_neg (by omega), if_neg (by omega), if_neg (by omega)]; done)
    · refine zj_iload dX8_rowOf_22 (by rfl) ?_
      refine zj_iconst (v := nI 1) dX8_rowOf_24 (by decide) ?_
      refine zj_isubN dX8_rowOf_25 (by omega) ?_
      refine zj_iload dX8_rowOf_26 (by rfl) ?_
      refine zj_isubN dX8_rowOf_28 (by omega) ?_
      refine zj_goto (tgt := 53) dX8_rowOf_29 (by decide) ?_
      refine zj_iret dX8_rowOf_53 rfl (Nat.le_refl _) (Nat.le_refl _) ?_
      refine ⟨?_, rfl⟩
      first | (rw [if_pos (by omega)]; done) | (rw [if_neg (by omega), if_pos (by omega)]; done) | (rw [if_neg (by omega), if_neg (by omega), if_pos (by omega)]; done) | (rw [if_neg (by omega), if_neg (by omega), if_neg (by omega)]; done)
  · refine zj_iload dX8_rowOf_12 (by rfl) ?_
    refine zj_goto (tgt := 53) dX8_rowOf_14 (by decide) ?_
    refine zj_iret dX8_rowOf_53 rfl (Nat.le_refl _) (Nat.le_refl _) ?_
    refine ⟨?_, rfl⟩
    first | (rw [if_pos (by omega)]; done) | (rw [if_neg (by omega), if_pos (by omega)]; done) | (rw [if_neg (by omega), if_neg (by omega), if_pos (by omega)]; done) | (rw [if_neg (by omega), if_neg (by omega), if_neg (by omega)]; done)
theorem m_isShapeN {p dd wh : Int32} (hb : s_bads p dd wh) : zD mX8_isShape (d + 2) [.int p, .int dd, .int wh] h (some (.int 0)) h := by
  by_cases hp : p < 0 ∨ 6 ≤ p
  · refine zD_of (by decide +kernel) (by exact Nat.le_of_ble_eq_true rfl) ?_
    show zB mX8_isShape _ _ _ 0 [some (.int p), some (.int dd), some (.int wh)] [] _
    refine zj_iload_n dX8_isShape_0 (by rfl) ?_
    refine zc_8_103 rfl dX8_isShape_1 (m_isPhraseN hp) (by exact Nat.le_of_ble_eq_true rfl) ?_
    refine zj_if_eq (tgt := 30) dX8_isShape_4 (by decide) (fun _ => ?_) (fun zq => absurd (rfl) zq)
    refine zj_iconst (v := 0) dX8_isShape_30 (by decide) ?_
    refine zj_zret dX8_isShape_31 rfl (by first | exact Or.inl rfl | exact Or.inr rfl) (Nat.le_refl _) (Nat.le_refl _) ?_
    exact ⟨rfl, rfl⟩
  · obtain ⟨j, hj, rfl⟩ : ∃ j, j < 6 ∧ p = nI j := ((pk_ix p (n := 6) (by decide)).resolve_left (fun e => hp (Or.inl e))).resolve_left (fun e => hp (Or.inr e))
    have hb2 := hb.resolve_left hp
    refine zD_of (by decide +kernel) (by exact Nat.le_of_ble_eq_true rfl) ?_
    show zB mX8_isShape _ _ _ 0 [some (.int (nI j)), some (.int dd), some (.int wh)] [] _
    refine zj_iload_n dX8_isShape_0 (by rfl) ?_
    refine zc_8_103 rfl dX8_isShape_1 (m_isPhrase hj) (by exact Nat.le_of_ble_eq_true rfl) ?_
    refine zj_if_eq (tgt := 30) dX8_isShape_4 (by decide) (fun zq => absurd zq (by decide)) (fun _ => ?_)
    refine zj_iload_n dX8_isShape_7 (by rfl) ?_
    refine zj_iconst (v := 1) dX8_isShape_8 (by decide) ?_
    refine zj_bipush (v := 9) dX8_isShape_9 (by decide) ?_
    refine zc_8_63 rfl dX8_isShape_11 (m_isIn _ _ _) (by exact Nat.le_of_ble_eq_true rfl) ?_
    refine zj_if_eq (tgt := 30) dX8_isShape_14 (by decide) (fun q14 => ?_) (fun q14 => ?_)
    · refine zj_iconst (v := 0) dX8_isShape_30 (by decide) ?_
      refine zj_zret dX8_isShape_31 rfl (by first | exact Or.inl rfl | exact Or.inr rfl) (Nat.le_refl _) (Nat.le_refl _) ?_
      exact ⟨rfl, rfl⟩
    · refine zj_iload_n dX8_isShape_17 (by rfl) ?_
      refine zj_iconst (v := 0) dX8_isShape_18 (by decide) ?_
      refine zj_iconst (v := 2) dX8_isShape_19 (by decide) ?_
      refine zc_8_63 rfl dX8_isShape_20 (m_isIn _ _ _) (by exact Nat.le_of_ble_eq_true rfl) ?_
      refine zj_if_eq (tgt := 30) dX8_isShape_23 (by decide) (fun q23 => ?_) (fun q23 => ?_)
      · refine zj_iconst (v := 0) dX8_isShape_30 (by decide) ?_
        refine zj_zret dX8_isShape_31 rfl (by first | exact Or.inl rfl | exact Or.inr rfl) (Nat.le_refl _) (Nat.le_refl _) ?_
        exact ⟨rfl, rfl⟩
      · exfalso
        rcases hb2 with hb2 | hb2 | hb2 | hb2
        · exact q14 (s_is0 (Or.inl hb2))
        · exact q14 (s_is0 (Or.inr hb2))
        · exact q23 (s_is0 (Or.inl hb2))
        · exact q23 (s_is0 (Or.inr (Int32.not_le.mp hb2)))
theorem m_isShape {p c wh : Nat} (hp : p < 6) (hc : 1 ≤ c ∧ c ≤ 9) (hw : wh ≤ 2) : zD mX8_isShape (d + 2) [.int (nI p), .int (nI c), .int (nI wh)] h (some (.int 1)) h := by
  refine zD_of (by decide +kernel) (by exact Nat.le_of_ble_eq_true rfl) ?_
  show zB mX8_isShape _ _ _ 0 [some (.int (nI p)), some (.int (nI c)), some (.int (nI wh))] [] _
  refine zj_iload_n dX8_isShape_0 (by rfl) ?_
  refine zc_8_103 rfl dX8_isShape_1 (m_isPhrase hp) (by exact Nat.le_of_ble_eq_true rfl) ?_
  refine zj_if_eq (tgt := 30) dX8_isShape_4 (by decide) (fun zq => absurd zq (by decide)) (fun _ => ?_)
  refine zj_iload_n dX8_isShape_7 (by rfl) ?_
  refine zj_iconst (v := nI 1) dX8_isShape_8 (by decide) ?_
  refine zj_bipush (v := nI 9) dX8_isShape_9 (by decide) ?_
  refine zc_8_63 rfl dX8_isShape_11 (m_isIn _ _ _) (by exact Nat.le_of_ble_eq_true rfl) ?_
  rw [s_is1 (nI_nlt (by omega) (by omega)) (nI_nlt (by omega) (by omega))]
  refine zj_if_eq (tgt := 30) dX8_isShape_14 (by decide) (fun zq => absurd zq (by decide)) (fun _ => ?_)
  refine zj_iload_n dX8_isShape_17 (by rfl) ?_
  refine zj_iconst (v := nI 0) dX8_isShape_18 (by decide) ?_
  refine zj_iconst (v := nI 2) dX8_isShape_19 (by decide) ?_
  refine zc_8_63 rfl dX8_isShape_20 (m_isIn _ _ _) (by exact Nat.le_of_ble_eq_true rfl) ?_
  rw [s_is1 (nI_nlt (by omega) (by omega)) (nI_nlt (by omega) (by omega))]
  refine zj_if_eq (tgt := 30) dX8_isShape_23 (by decide) (fun zq => absurd zq (by decide)) (fun _ => ?_)
  refine zj_iconst (v := nI 1) dX8_isShape_26 (by decide) ?_
  refine zj_goto (tgt := 31) dX8_isShape_27 (by decide) ?_
  refine zj_zret dX8_isShape_31 rfl (by first | exact Or.inl rfl | exact Or.inr rfl) (Nat.le_refl _) (Nat.le_refl _) ?_
  exact ⟨rfl, rfl⟩
theorem m_shapeA (r : RM h C P S T H O g) {p dd wh : Int32} (hb : s_bads p dd wh) : zD mX8_shape (d + 3) [.ref 47, .int p, .int dd, .int wh] h (some (.int (-1000000001))) h := by
  refine zD_of (by decide +kernel) (by exact Nat.le_of_ble_eq_true rfl) ?_
  show zB mX8_shape _ _ _ 0 [some (.ref 47), some (.int p), some (.int dd), some (.int wh), none, none] [] _
  refine zj_iload_n dX8_shape_0 (by rfl) ?_
  refine zj_iload_n dX8_shape_1 (by rfl) ?_
  refine zj_iload_n dX8_shape_2 (by rfl) ?_
  refine zc_8_140 rfl dX8_shape_3 (m_isShapeN hb) (by exact Nat.le_of_ble_eq_true rfl) ?_
  refine zj_if_ne (tgt := 12) dX8_shape_6 (by decide) (fun zq => absurd (rfl) zq) (fun _ => ?_)
  refine zj_ldc (v := -1000000001) dX8_shape_9 zq_686 ?_
  refine zj_iret dX8_shape_11 rfl (Nat.le_refl _) (Nat.le_refl _) ?_
  exact ⟨rfl, rfl⟩
theorem m_shapeN (r : RM h C P S T H O g) {p c wh : Nat} (hp : p < 6) (hc : 1 ≤ c ∧ c ≤ 9) (hw : wh ≤ 2) (he : (P p).length = 0) : zD mX8_shape (d + 3) [.ref 47, .int (nI p), .int (nI c), .int (nI wh)] h (some (.int (-1000000002))) h := by
  obtain ⟨m47, m48, m49, m50, m51, m52, m53, m54, m55, m56, m57, m58, m59, m60, m61, m62, m63⟩ := r
  obtain ⟨rd, wr, hw2, o0⟩ := m47
  obtain ⟨fS, a51, q51⟩ := m51
  refine zD_of (by decide +kernel) (by exact Nat.le_of_ble_eq_true rfl) ?_
  show zB mX8_shape _ _ _ 0 [some (.ref 47), some (.int (nI p)), some (.int (nI c)), some (.int (nI wh)), none, none] [] _
  refine zj_iload_n dX8_shape_0 (by rfl) ?_
  refine zj_iload_n dX8_shape_1 (by rfl) ?_
  refine zj_iload_n dX8_shape_2 (by rfl) ?_
  refine zc_8_140 rfl dX8_shape_3 (m_isShape hp hc hw) (by exact Nat.le_of_ble_eq_true rfl) ?_
  refine zj_if_ne (tgt := 12) dX8_shape_6 (by decide) (fun _ => ?_) (fun zq => absurd zq (by decide))
  refine zj_aload_n dX8_shape_12 (by rfl) ?_
  refine zg_8_19 rfl dX8_shape_13 (by first | assumption | rfl) (by rfl) ?_
  refine zj_iload_n dX8_shape_16 (by rfl) ?_
  refine zj_ialdN dX8_shape_17 (by first | assumption | rfl) (by omega) ?_
  rw [q51 p hp]
  refine zj_if_neN (tgt := 24) dX8_shape_18 (by decide) (by omega) (fun zq => absurd (he) zq) (fun _ => ?_)
  refine zj_ldc (v := -1000000002) dX8_shape_21 zq_708 ?_
  refine zj_iret dX8_shape_23 rfl (Nat.le_refl _) (Nat.le_refl _) ?_
  exact ⟨rfl, rfl⟩
theorem m_shape_l (w : WF C P S T H O g) (r : RM h C P S T H O g) {p c wh : Nat} (hp : p < 6) (hc : 1 ≤ c ∧ c ≤ 9) (hw : wh ≤ 2) (he : ¬ (P p).length = 0) : ∀ m k, k + m = s_rows (s_R (P p).length c) wh → zB mX8_shape (d + 2) (some (.int (nI (s_shp (P p).length c (s_R (P p).length c) wh (s_rows (s_R (P p).length c) wh))))) h 30 [some (.ref 47), some (.int (nI p)), some (.int (nI c)), some (.int (nI wh)), some (.int (nI (s_shp (P p).length c (s_R (P p).length c) wh k))), some (.int (nI k))] [] h := by
  obtain ⟨m47, m48, m49, m50, m51, m52, m53, m54, m55, m56, m57, m58, m59, m60, m61, m62, m63⟩ := id r
  obtain ⟨rd, wr, hw2, o0⟩ := m47
  obtain ⟨fS, a51, q51⟩ := m51
  have l2 := (w.2.1 p hp).1
  have hR := s_R_le (n := (P p).length) (c := c) (by omega) hc.1
  have hR1 : 1 ≤ s_R (P p).length c := by rw [s_R_p (n := (P p).length) (c := c) (by omega) hc.1]; exact Nat.le_add_left _ _
  have hrows : s_rows (s_R (P p).length c) wh ≤ 2 * s_R (P p).length c := by unfold s_rows; split <;> omega
  intro m
  induction m with
  | zero =>
    intro k hk
    refine zj_iload dX8_shape_30 (by rfl) ?_
    refine zj_aload_n dX8_shape_32 (by rfl) ?_
    refine zj_iload_n dX8_shape_33 (by rfl) ?_
    refine zj_iload_n dX8_shape_34 (by rfl) ?_
    refine zj_iload_n dX8_shape_35 (by rfl) ?_
    refine zc_8_143 rfl dX8_shape_36 (by first | assumption | rfl) (m_rowsOf w r hp hc hw he) (by exact Nat.le_of_ble_eq_true rfl) ?_
    refine zj_icmp_geN (tgt := 71) dX8_shape_39 (by decide) (by omega) (fun _ => ?_) (fun zq => absurd (by omega) zq)
    refine zj_iload dX8_shape_71 (by rfl) ?_
    refine zj_iret dX8_shape_73 rfl (Nat.le_refl _) (Nat.le_refl _) ?_
    exact ⟨by rw [show k = s_rows (s_R (P p).length c) wh by omega], rfl⟩
  | succ m ih =>
    intro k hk
    have hlt := s_row_n (n := (P p).length) (c := c) (by omega) hc.1 (s_row_lt (by omega) hw (show k < s_rows (s_R (P p).length c) wh by omega))
    have hJ := ih (k + 1) (by omega)
    have e1 : s_shp (P p).length c (s_R (P p).length c) wh (k + 1) = s_shp (P p).length c (s_R (P p).length c) wh k + ((P p).length - s_row (s_R (P p).length c) wh k * c) := rfl
    have ec : c * s_row (s_R (P p).length c) wh k = s_row (s_R (P p).length c) wh k * c := Nat.mul_comm _ _
    rw [e1] at hJ
    refine zj_iload dX8_shape_30 (by rfl) ?_
    refine zj_aload_n dX8_shape_32 (by rfl) ?_
    refine zj_iload_n dX8_shape_33 (by rfl) ?_
    refine zj_iload_n dX8_shape_34 (by rfl) ?_
    refine zj_iload_n dX8_shape_35 (by rfl) ?_
    refine zc_8_143 rfl dX8_shape_36 (by first | assumption | rfl) (m_rowsOf w r hp hc hw he) (by exact Nat.le_of_ble_eq_true rfl) ?_
    refine zj_icmp_geN (tgt := 71) dX8_shape_39 (by decide) (by omega) (fun zq => absurd zq (by omega)) (fun _ => ?_)
    refine zj_iload dX8_shape_42 (by rfl) ?_
    refine zj_aload_n dX8_shape_44 (by rfl) ?_
    refine zg_8_19 rfl dX8_shape_45 (by first | assumption | rfl) (by rfl) ?_
    refine zj_iload_n dX8_shape_48 (by rfl) ?_
    refine zj_ialdN dX8_shape_49 (by first | assumption | rfl) (by omega) ?_
    rw [q51 p hp]
    refine zj_iload_n dX8_shape_50 (by rfl) ?_
    refine zj_aload_n dX8_shape_51 (by rfl) ?_
    refine zj_iload_n dX8_shape_52 (by rfl) ?_
    refine zj_iload_n dX8_shape_53 (by rfl) ?_
    refine zj_iload_n dX8_shape_54 (by rfl) ?_
    refine zj_iload dX8_shape_55 (by rfl) ?_
    refine zc_8_146 rfl dX8_shape_57 (by first | assumption | rfl) (m_rowOf w r hp hc hw he (by omega)) (by exact Nat.le_of_ble_eq_true rfl) ?_
    refine zj_imulN dX8_shape_60 ?_
    rw [ec]
    refine zj_isubN dX8_shape_61 (by omega) ?_
    refine zj_iaddN dX8_shape_62 ?_
    refine zj_istore dX8_shape_63 (by decide) ?_
    refine zj_iincN dX8_shape_65 (by rfl) (by decide) ?_
    refine zj_goto (tgt := 30) dX8_shape_68 (by decide) ?_
    exact hJ
theorem m_shape (w : WF C P S T H O g) (r : RM h C P S T H O g) {p c wh : Nat} (hp : p < 6) (hc : 1 ≤ c ∧ c ≤ 9) (hw : wh ≤ 2) (he : ¬ (P p).length = 0) : zD mX8_shape (d + 3) [.ref 47, .int (nI p), .int (nI c), .int (nI wh)] h (some (.int (nI (s_shp (P p).length c (s_R (P p).length c) wh (s_rows (s_R (P p).length c) wh))))) h := by
  obtain ⟨m47, m48, m49, m50, m51, m52, m53, m54, m55, m56, m57, m58, m59, m60, m61, m62, m63⟩ := id r
  obtain ⟨rd, wr, hw2, o0⟩ := m47
  obtain ⟨fS, a51, q51⟩ := m51
  have l2 := (w.2.1 p hp).1
  refine zD_of (by decide +kernel) (by exact Nat.le_of_ble_eq_true rfl) ?_
  show zB mX8_shape _ _ _ 0 [some (.ref 47), some (.int (nI p)), some (.int (nI c)), some (.int (nI wh)), none, none] [] _
  refine zj_iload_n dX8_shape_0 (by rfl) ?_
  refine zj_iload_n dX8_shape_1 (by rfl) ?_
  refine zj_iload_n dX8_shape_2 (by rfl) ?_
  refine zc_8_140 rfl dX8_shape_3 (m_isShape hp hc hw) (by exact Nat.le_of_ble_eq_true rfl) ?_
  refine zj_if_ne (tgt := 12) dX8_shape_6 (by decide) (fun _ => ?_) (fun zq => absurd zq (by decide))
  refine zj_aload_n dX8_shape_12 (by rfl) ?_
  refine zg_8_19 rfl dX8_shape_13 (by first | assumption | rfl) (by rfl) ?_
  refine zj_iload_n dX8_shape_16 (by rfl) ?_
  refine zj_ialdN dX8_shape_17 (by first | assumption | rfl) (by omega) ?_
  rw [q51 p hp]
  refine zj_if_neN (tgt := 24) dX8_shape_18 (by decide) (by omega) (fun _ => ?_) (fun zq => absurd zq (he))
  refine zj_iconst (v := nI 0) dX8_shape_24 (by decide) ?_
  refine zj_istore dX8_shape_25 (by decide) ?_
  refine zj_iconst (v := nI 0) dX8_shape_27 (by decide) ?_
  refine zj_istore dX8_shape_28 (by decide) ?_
  exact m_shape_l (d := d + 1) w r hp hc hw he _ 0 (Nat.zero_add _)
theorem m_shapedA (r : RM h C P S T H O g) {p dd wh i : Int32} (hb : i < 0 ∨ s_bads p dd wh) : zD mX8_shaped (d + 3) [.ref 47, .int p, .int dd, .int wh, .int i] h (some (.int (-1000000001))) h := by
  by_cases h3 : s_bads p dd wh
  · refine zD_of (by decide +kernel) (by exact Nat.le_of_ble_eq_true rfl) ?_
    show zB mX8_shaped _ _ _ 0 [some (.ref 47), some (.int p), some (.int dd), some (.int wh), some (.int i), none, none, none] [] _
    refine zj_iload_n dX8_shaped_0 (by rfl) ?_
    refine zj_iload_n dX8_shaped_1 (by rfl) ?_
    refine zj_iload_n dX8_shaped_2 (by rfl) ?_
    refine zc_8_140 rfl dX8_shaped_3 (m_isShapeN h3) (by exact Nat.le_of_ble_eq_true rfl) ?_
    refine zj_if_eq (tgt := 14) dX8_shaped_6 (by decide) (fun _ => ?_) (fun zq => absurd (rfl) zq)
    refine zj_ldc (v := -1000000001) dX8_shaped_14 zq_686 ?_
    refine zj_iret dX8_shaped_16 rfl (Nat.le_refl _) (Nat.le_refl _) ?_
    exact ⟨rfl, rfl⟩
  · have hi : i < 0 := hb.resolve_right h3
    have hp : ¬ (p < 0 ∨ 6 ≤ p) := fun e => h3 (Or.inl e)
    obtain ⟨j, hj, rfl⟩ : ∃ j, j < 6 ∧ p = nI j := ((pk_ix p (n := 6) (by decide)).resolve_left (fun e => hp (Or.inl e))).resolve_left (fun e => hp (Or.inr e))
    have h1 : ¬ dd < 1 := fun e => h3 (Or.inr (Or.inl e))
    have h2 : ¬ 9 < dd := fun e => h3 (Or.inr (Or.inr (Or.inl e)))
    have h4 : ¬ wh < 0 := fun e => h3 (Or.inr (Or.inr (Or.inr (Or.inl e))))
    have h5 : wh ≤ 2 := Decidable.of_not_not (fun e => h3 (Or.inr (Or.inr (Or.inr (Or.inr e)))))
    obtain ⟨c, hc9, rfl⟩ := nI_of2 (M := 9) (n := 9) (by decide) (fun e => h1 (Int32.lt_trans e (by decide))) (Int32.not_lt.mp h2)
    obtain ⟨k, hk2, rfl⟩ := nI_of2 (M := 2) (n := 2) (by decide) h4 h5
    have hc1 : 1 ≤ c := by
      by_cases h0 : c = 0
      · subst h0; exact absurd (by decide) h1
      · omega
    refine zD_of (by decide +kernel) (by exact Nat.le_of_ble_eq_true rfl) ?_
    show zB mX8_shaped _ _ _ 0 [some (.ref 47), some (.int (nI j)), some (.int (nI c)), some (.int (nI k)), some (.int i), none, none, none] [] _
    refine zj_iload_n dX8_shaped_0 (by rfl) ?_
    refine zj_iload_n dX8_shaped_1 (by rfl) ?_
    refine zj_iload_n dX8_shaped_2 (by rfl) ?_
    refine zc_8_140 rfl dX8_shaped_3 (m_isShape hj ⟨hc1, hc9⟩ hk2) (by exact Nat.le_of_ble_eq_true rfl) ?_
    refine zj_if_eq (tgt := 14) dX8_shaped_6 (by decide) (fun zq => absurd zq (by decide)) (fun _ => ?_)
    refine zj_iload dX8_shaped_9 (by rfl) ?_
    refine zj_if_ge (tgt := 17) dX8_shaped_11 (by decide) (fun zq => absurd zq (Int32.not_le.mpr hi)) (fun _ => ?_)
    refine zj_ldc (v := -1000000001) dX8_shaped_14 zq_686 ?_
    refine zj_iret dX8_shaped_16 rfl (Nat.le_refl _) (Nat.le_refl _) ?_
    exact ⟨rfl, rfl⟩
theorem m_shapedN (r : RM h C P S T H O g) {p c wh i : Nat} (hp : p < 6) (hc : 1 ≤ c ∧ c ≤ 9) (hw : wh ≤ 2) (hi : i < 2 ^ 31) (he : (P p).length = 0) : zD mX8_shaped (d + 3) [.ref 47, .int (nI p), .int (nI c), .int (nI wh), .int (nI i)] h (some (.int (-1000000002))) h := by
  obtain ⟨m47, m48, m49, m50, m51, m52, m53, m54, m55, m56, m57, m58, m59, m60, m61, m62, m63⟩ := r
  obtain ⟨rd, wr, hw2, o0⟩ := m47
  obtain ⟨fS, a51, q51⟩ := m51
  refine zD_of (by decide +kernel) (by exact Nat.le_of_ble_eq_true rfl) ?_
  show zB mX8_shaped _ _ _ 0 [some (.ref 47), some (.int (nI p)), some (.int (nI c)), some (.int (nI wh)), some (.int (nI i)), none, none, none] [] _
  refine zj_iload_n dX8_shaped_0 (by rfl) ?_
  refine zj_iload_n dX8_shaped_1 (by rfl) ?_
  refine zj_iload_n dX8_shaped_2 (by rfl) ?_
  refine zc_8_140 rfl dX8_shaped_3 (m_isShape hp hc hw) (by exact Nat.le_of_ble_eq_true rfl) ?_
  refine zj_if_eq (tgt := 14) dX8_shaped_6 (by decide) (fun zq => absurd zq (by decide)) (fun _ => ?_)
  refine zj_iload dX8_shaped_9 (by rfl) ?_
  refine zj_if_geN (tgt := 17) dX8_shaped_11 (by decide) (by omega) ?_
  refine zj_aload_n dX8_shaped_17 (by rfl) ?_
  refine zg_8_19 rfl dX8_shaped_18 (by first | assumption | rfl) (by rfl) ?_
  refine zj_iload_n dX8_shaped_21 (by rfl) ?_
  refine zj_ialdN dX8_shaped_22 (by first | assumption | rfl) (by omega) ?_
  rw [q51 p hp]
  refine zj_if_neN (tgt := 29) dX8_shaped_23 (by decide) (by omega) (fun zq => absurd (he) zq) (fun _ => ?_)
  refine zj_ldc (v := -1000000002) dX8_shaped_26 zq_708 ?_
  refine zj_iret dX8_shaped_28 rfl (Nat.le_refl _) (Nat.le_refl _) ?_
  exact ⟨rfl, rfl⟩
theorem m_shaped_l (w : WF C P S T H O g) (r : RM h C P S T H O g) {p c wh : Nat} {v4 : Int32} (hp : p < 6) (hc : 1 ≤ c ∧ c ≤ 9) (hw : wh ≤ 2) (he : ¬ (P p).length = 0) : ∀ m k left o7, k + m = s_rows (s_R (P p).length c) wh → left < 2 ^ 31 → zB mX8_shaped (d + 2) (some (.int (s_oN (s_shd (P p) c (s_R (P p).length c) wh m k left)))) h 36 [some (.ref 47), some (.int (nI p)), some (.int (nI c)), some (.int (nI wh)), some (.int v4), some (.int (nI left)), some (.int (nI k)), o7] [] h := by
  obtain ⟨m47, m48, m49, m50, m51, m52, m53, m54, m55, m56, m57, m58, m59, m60, m61, m62, m63⟩ := id r
  obtain ⟨rd, wr, hw2, o0⟩ := m47
  obtain ⟨fS, a51, q51⟩ := m51
  obtain ⟨fD, a52, q52⟩ := m52
  have l2 := (w.2.1 p hp).1
  have hR := s_R_le (n := (P p).length) (c := c) (by omega) hc.1
  have hR1 : 1 ≤ s_R (P p).length c := by rw [s_R_p (n := (P p).length) (c := c) (by omega) hc.1]; exact Nat.le_add_left _ _
  have hrows : s_rows (s_R (P p).length c) wh ≤ 2 * s_R (P p).length c := by unfold s_rows; split <;> omega
  intro m
  induction m with
  | zero =>
    intro k left o7 hk hl
    refine zj_iload dX8_shaped_36 (by rfl) ?_
    refine zj_aload_n dX8_shaped_38 (by rfl) ?_
    refine zj_iload_n dX8_shaped_39 (by rfl) ?_
    refine zj_iload_n dX8_shaped_40 (by rfl) ?_
    refine zj_iload_n dX8_shaped_41 (by rfl) ?_
    refine zc_8_143 rfl dX8_shaped_42 (by first | assumption | rfl) (m_rowsOf w r hp hc hw he) (by exact Nat.le_of_ble_eq_true rfl) ?_
    refine zj_icmp_geN (tgt := 111) dX8_shaped_45 (by decide) (by omega) (fun _ => ?_) (fun zq => absurd (by omega) zq)
    refine zj_ldc (v := -1000000005) dX8_shaped_111 zq_744 ?_
    refine zj_iret dX8_shaped_113 rfl (Nat.le_refl _) (Nat.le_refl _) ?_
    exact ⟨rfl, rfl⟩
  | succ m ih =>
    intro k left o7 hk hl
    have hlt := s_row_n (n := (P p).length) (c := c) (by omega) hc.1 (s_row_lt (by omega) hw (show k < s_rows (s_R (P p).length c) wh by omega))
    have ec : c * s_row (s_R (P p).length c) wh k = s_row (s_R (P p).length c) wh k * c := Nat.mul_comm _ _
    unfold s_shd
    obtain ⟨sr, hsr⟩ : ∃ sr, sr = s_row (s_R (P p).length c) wh k * c := ⟨_, rfl⟩
    rw [← hsr] at hlt ec ⊢
    by_cases hin : left < (P p).length - sr
    · rw [if_pos hin]
      refine zj_iload dX8_shaped_36 (by rfl) ?_
      refine zj_aload_n dX8_shaped_38 (by rfl) ?_
      refine zj_iload_n dX8_shaped_39 (by rfl) ?_
      refine zj_iload_n dX8_shaped_40 (by rfl) ?_
      refine zj_iload_n dX8_shaped_41 (by rfl) ?_
      refine zc_8_143 rfl dX8_shaped_42 (by first | assumption | rfl) (m_rowsOf w r hp hc hw he) (by exact Nat.le_of_ble_eq_true rfl) ?_
      refine zj_icmp_geN (tgt := 111) dX8_shaped_45 (by decide) (by omega) (fun zq => absurd zq (by omega)) (fun _ => ?_)
      refine zj_iload_n dX8_shaped_48 (by rfl) ?_
      refine zj_aload_n dX8_shaped_49 (by rfl) ?_
      refine zj_iload_n dX8_shaped_50 (by rfl) ?_
      refine zj_iload_n dX8_shaped_51 (by rfl) ?_
      refine zj_iload_n dX8_shaped_52 (by rfl) ?_
      refine zj_iload dX8_shaped_53 (by rfl) ?_
      refine zc_8_146 rfl dX8_shaped_55 (by first | assumption | rfl) (m_rowOf w r hp hc hw he (by omega)) (by exact Nat.le_of_ble_eq_true rfl) ?_
      refine zj_imulN dX8_shaped_58 ?_
      rw [ec]
      refine zj_istore dX8_shaped_59 (by decide) ?_
      refine zj_iload dX8_shaped_61 (by rfl) ?_
      refine zj_aload_n dX8_shaped_63 (by rfl) ?_
      refine zg_8_19 rfl dX8_shaped_64 (by first | assumption | rfl) (by rfl) ?_
      refine zj_iload_n dX8_shaped_67 (by rfl) ?_
      refine zj_ialdN dX8_shaped_68 (by first | assumption | rfl) (by omega) ?_
      rw [q51 p hp]
      refine zj_iload dX8_shaped_69 (by rfl) ?_
      refine zj_isubN dX8_shaped_71 (by omega) ?_
      refine zj_icmp_geN (tgt := 91) dX8_shaped_72 (by decide) (by omega) (fun zq => absurd zq (by omega)) (fun _ => ?_)
      refine zj_aload_n dX8_shaped_75 (by rfl) ?_
      refine zg_8_22 rfl dX8_shaped_76 (by first | assumption | rfl) (by rfl) ?_
      refine zj_bipush (v := nI 60) dX8_shaped_79 (by decide) ?_
      refine zj_iload_n dX8_shaped_81 (by rfl) ?_
      refine zj_imulN dX8_shaped_82 ?_
      refine zj_iload dX8_shaped_83 (by rfl) ?_
      refine zj_iaddN dX8_shaped_85 ?_
      refine zj_iload dX8_shaped_86 (by rfl) ?_
      refine zj_iaddN dX8_shaped_88 ?_
      refine zj_ialdN dX8_shaped_89 (by first | assumption | rfl) (by omega) ?_
      rw [show 60 * p + sr + left = 60 * p + (sr + left) by omega, q52 p hp (sr + left) (by omega)]
      refine zj_iret dX8_shaped_90 rfl (Nat.le_refl _) (Nat.le_refl _) ?_
      exact ⟨rfl, rfl⟩
    · rw [if_neg hin]
      have hJ := fun x => ih (k + 1) (left - ((P p).length - sr)) x (by omega) (by omega)
      refine zj_iload dX8_shaped_36 (by rfl) ?_
      refine zj_aload_n dX8_shaped_38 (by rfl) ?_
      refine zj_iload_n dX8_shaped_39 (by rfl) ?_
      refine zj_iload_n dX8_shaped_40 (by rfl) ?_
      refine zj_iload_n dX8_shaped_41 (by rfl) ?_
      refine zc_8_143 rfl dX8_shaped_42 (by first | assumption | rfl) (m_rowsOf w r hp hc hw he) (by exact Nat.le_of_ble_eq_true rfl) ?_
      refine zj_icmp_geN (tgt := 111) dX8_shaped_45 (by decide) (by omega) (fun zq => absurd zq (by omega)) (fun _ => ?_)
      refine zj_iload_n dX8_shaped_48 (by rfl) ?_
      refine zj_aload_n dX8_shaped_49 (by rfl) ?_
      refine zj_iload_n dX8_shaped_50 (by rfl) ?_
      refine zj_iload_n dX8_shaped_51 (by rfl) ?_
      refine zj_iload_n dX8_shaped_52 (by rfl) ?_
      refine zj_iload dX8_shaped_53 (by rfl) ?_
      refine zc_8_146 rfl dX8_shaped_55 (by first | assumption | rfl) (m_rowOf w r hp hc hw he (by omega)) (by exact Nat.le_of_ble_eq_true rfl) ?_
      refine zj_imulN dX8_shaped_58 ?_
      rw [ec]
      refine zj_istore dX8_shaped_59 (by decide) ?_
      refine zj_iload dX8_shaped_61 (by rfl) ?_
      refine zj_aload_n dX8_shaped_63 (by rfl) ?_
      refine zg_8_19 rfl dX8_shaped_64 (by first | assumption | rfl) (by rfl) ?_
      refine zj_iload_n dX8_shaped_67 (by rfl) ?_
      refine zj_ialdN dX8_shaped_68 (by first | assumption | rfl) (by omega) ?_
      rw [q51 p hp]
      refine zj_iload dX8_shaped_69 (by rfl) ?_
      refine zj_isubN dX8_shaped_71 (by omega) ?_
      refine zj_icmp_geN (tgt := 91) dX8_shaped_72 (by decide) (by omega) (fun _ => ?_) (fun zq => absurd (by omega) zq)
      refine zj_iload dX8_shaped_91 (by rfl) ?_
      refine zj_aload_n dX8_shaped_93 (by rfl) ?_
      refine zg_8_19 rfl dX8_shaped_94 (by first | assumption | rfl) (by rfl) ?_
      refine zj_iload_n dX8_shaped_97 (by rfl) ?_
      refine zj_ialdN dX8_shaped_98 (by first | assumption | rfl) (by omega) ?_
      rw [q51 p hp]
      refine zj_iload dX8_shaped_99 (by rfl) ?_
      refine zj_isubN dX8_shaped_101 (by omega) ?_
      refine zj_isubN dX8_shaped_102 (by omega) ?_
      refine zj_istore dX8_shaped_103 (by decide) ?_
      refine zj_iincN dX8_shaped_105 (by rfl) (by decide) ?_
      refine zj_goto (tgt := 36) dX8_shaped_108 (by decide) ?_
      exact hJ _
theorem m_shaped (w : WF C P S T H O g) (r : RM h C P S T H O g) {p c wh i : Nat} (hp : p < 6) (hc : 1 ≤ c ∧ c ≤ 9) (hw : wh ≤ 2) (hi : i < 2 ^ 31) (he : ¬ (P p).length = 0) : zD mX8_shaped (d + 3) [.ref 47, .int (nI p), .int (nI c), .int (nI wh), .int (nI i)] h (some (.int (s_oN (s_shd (P p) c (s_R (P p).length c) wh (s_rows (s_R (P p).length c) wh) 0 i)))) h := by
  obtain ⟨m47, m48, m49, m50, m51, m52, m53, m54, m55, m56, m57, m58, m59, m60, m61, m62, m63⟩ := id r
  obtain ⟨rd, wr, hw2, o0⟩ := m47
  obtain ⟨fS, a51, q51⟩ := m51
  have l2 := (w.2.1 p hp).1
  refine zD_of (by decide +kernel) (by exact Nat.le_of_ble_eq_true rfl) ?_
  show zB mX8_shaped _ _ _ 0 [some (.ref 47), some (.int (nI p)), some (.int (nI c)), some (.int (nI wh)), some (.int (nI i)), none, none, none] [] _
  refine zj_iload_n dX8_shaped_0 (by rfl) ?_
  refine zj_iload_n dX8_shaped_1 (by rfl) ?_
  refine zj_iload_n dX8_shaped_2 (by rfl) ?_
  refine zc_8_140 rfl dX8_shaped_3 (m_isShape hp hc hw) (by exact Nat.le_of_ble_eq_true rfl) ?_
  refine zj_if_eq (tgt := 14) dX8_shaped_6 (by decide) (fun zq => absurd zq (by decide)) (fun _ => ?_)
  refine zj_iload dX8_shaped_9 (by rfl) ?_
  refine zj_if_geN (tgt := 17) dX8_shaped_11 (by decide) (by omega) ?_
  refine zj_aload_n dX8_shaped_17 (by rfl) ?_
  refine zg_8_19 rfl dX8_shaped_18 (by first | assumption | rfl) (by rfl) ?_
  refine zj_iload_n dX8_shaped_21 (by rfl) ?_
  refine zj_ialdN dX8_shaped_22 (by first | assumption | rfl) (by omega) ?_
  rw [q51 p hp]
  refine zj_if_neN (tgt := 29) dX8_shaped_23 (by decide) (by omega) (fun _ => ?_) (fun zq => absurd zq (he))
  refine zj_iload dX8_shaped_29 (by rfl) ?_
  refine zj_istore dX8_shaped_31 (by decide) ?_
  refine zj_iconst (v := nI 0) dX8_shaped_33 (by decide) ?_
  refine zj_istore dX8_shaped_34 (by decide) ?_
  exact m_shaped_l (d := d + 1) w r hp hc hw he _ 0 i none (Nat.zero_add _) hi
end M8
