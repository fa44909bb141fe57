section M1
variable {h h' : zH} {C : Nat → List (Nat × Nat)} {P : Nat → List Nat} {S : Nat → Option (List Int32)} {T : List Nat} {H : Nat → Nat} {O : List (Nat × Nat)} {g d : Nat}
theorem m_isOfA (r : RM h C P S T H O g) {c i k : Int32} (hc : c < 0 ∨ 4 ≤ c) : zD mX8_isOf (d + 2) [.ref 47, .int c, .int i, .int k] h (some (.int (-1000000001))) h := by
  refine zD_of (by decide +kernel) (by exact Nat.le_of_ble_eq_true rfl) ?_
  show zB mX8_isOf _ _ _ 0 [some (.ref 47), some (.int c), some (.int i), some (.int k), none] [] _
  refine zj_iload_n dX8_isOf_0 (by rfl) ?_
  refine zc_8_67 rfl dX8_isOf_1 (m_isCycleN hc) (by exact Nat.le_of_ble_eq_true rfl) ?_
  refine zj_if_eq (tgt := 32) dX8_isOf_4 (by decide) (fun _ => ?_) (fun zq => absurd (rfl) zq)
  refine zj_ldc (v := -1000000001) dX8_isOf_32 zq_686 ?_
  refine zj_iret dX8_isOf_34 rfl (Nat.le_refl _) (Nat.le_refl _) ?_
  exact ⟨rfl, rfl⟩
theorem s_le1 {n : Nat} {i : Int32} (h : nI n ≤ i) (hn : n ≤ 1000) (h0 : ¬ i < 0) : nI n - 1 < i := by
  rw [Int32.lt_iff_toInt_lt]
  rw [Int32.le_iff_toInt_le, nI_toInt (by omega)] at h
  rw [show nI n - 1 = iI ((n : Int) - 1) by rw [nI_iI]; exact iI_sub _ 1, iI_toInt (by omega)]
  omega
theorem m_isOfB (w : WF C P S T H O g) (r : RM h C P S T H O g) {c : Nat} (hc : c < 4) {i k : Int32} (hk : i < 0 ∨ nI (C c).length ≤ i ∨ k < 0 ∨ 3 < k) : zD mX8_isOf (d + 2) [.ref 47, .int (nI c), .int i, .int k] h (some (.int (-1000000001))) h := by
  obtain ⟨m47, m48, m49, m50, m51, m52, m53, m54, m55, m56, m57, m58, m59, m60, m61, m62, m63⟩ := r
  obtain ⟨rd, wr, hw, o0⟩ := m47
  obtain ⟨fL, a48, q48⟩ := m48
  have hlen := (w.1 c hc).1
  refine zD_of (by decide +kernel) (by exact Nat.le_of_ble_eq_true rfl) ?_
  show zB mX8_isOf _ _ _ 0 [some (.ref 47), some (.int (nI c)), some (.int i), some (.int k), none] [] _
  refine zj_iload_n dX8_isOf_0 (by rfl) ?_
  refine zc_8_67 rfl dX8_isOf_1 (m_isCycle hc) (by exact Nat.le_of_ble_eq_true rfl) ?_
  refine zj_if_eq (tgt := 32) dX8_isOf_4 (by decide) (fun zq => absurd zq (by decide)) (fun _ => ?_)
  refine zj_iload_n dX8_isOf_7 (by rfl) ?_
  refine zj_iconst (v := 0) dX8_isOf_8 (by decide) ?_
  refine zj_aload_n dX8_isOf_9 (by rfl) ?_
  refine zg_8_7 rfl dX8_isOf_10 (by first | assumption | rfl) (by rfl) ?_
  refine zj_iload_n dX8_isOf_13 (by rfl) ?_
  refine zj_iald dX8_isOf_14 (by first | assumption | rfl) (vp_in_nI (show c < 4 by omega) (by omega)) ?_
  rw [nI_clamp (show c < 2 ^ 31 by omega), q48 c hc]
  refine zj_iconst (v := 1) dX8_isOf_15 (by decide) ?_
  refine zj_isub dX8_isOf_16 ?_
  refine zc_8_63 rfl dX8_isOf_17 (m_isIn _ _ _) (by exact Nat.le_of_ble_eq_true rfl) ?_
  refine zj_if_eq (tgt := 32) dX8_isOf_20 (by decide) (fun q20 => ?_) (fun q20 => ?_)
  · refine zj_ldc (v := -1000000001) dX8_isOf_32 zq_686 ?_
    refine zj_iret dX8_isOf_34 rfl (Nat.le_refl _) (Nat.le_refl _) ?_
    exact ⟨rfl, rfl⟩
  · refine zj_iload_n dX8_isOf_23 (by rfl) ?_
    refine zj_iconst (v := 0) dX8_isOf_24 (by decide) ?_
    refine zj_iconst (v := 3) dX8_isOf_25 (by decide) ?_
    refine zc_8_63 rfl dX8_isOf_26 (m_isIn _ _ _) (by exact Nat.le_of_ble_eq_true rfl) ?_
    refine zj_if_ne (tgt := 35) dX8_isOf_29 (by decide) (fun q29 => ?_) (fun q29 => ?_)
    · exfalso
      rcases hk with hk | hk | hk | hk
      · exact q20 (s_is0 (Or.inl hk))
      · by_cases h0 : i < 0
        · exact q20 (s_is0 (Or.inl h0))
        · exact q20 (s_is0 (Or.inr (s_le1 hk (by omega) h0)))
      · exact q29 (s_is0 (Or.inl hk))
      · exact q29 (s_is0 (Or.inr hk))
    · refine zj_ldc (v := -1000000001) dX8_isOf_32 zq_686 ?_
      refine zj_iret dX8_isOf_34 rfl (Nat.le_refl _) (Nat.le_refl _) ?_
      exact ⟨rfl, rfl⟩
theorem m_isOf (w : WF C P S T H O g) (r : RM h C P S T H O g) {c i k : Nat} (hc : c < 4) (hi : i < (C c).length) (hk : k ≤ 3) : zD mX8_isOf (d + 2) [.ref 47, .int (nI c), .int (nI i), .int (nI k)] h (some (.int (s_isUnder (nI (s_kd C c i)) (nI k)))) h := by
  obtain ⟨m47, m48, m49, m50, m51, m52, m53, m54, m55, m56, m57, m58, m59, m60, m61, m62, m63⟩ := r
  obtain ⟨rd, wr, hw, o0⟩ := m47
  obtain ⟨fL, a48, q48⟩ := m48
  obtain ⟨fK, a49, q49⟩ := m49
  have hlen := (w.1 c hc).1
  have hkd := (WC_hv w.1 hc hi).1
  obtain ⟨kd, hkd0⟩ : ∃ kd, kd = s_kd C c i := ⟨_, rfl⟩
  rw [← hkd0] at hkd ⊢
  refine zD_of (by decide +kernel) (by exact Nat.le_of_ble_eq_true rfl) ?_
  show zB mX8_isOf _ _ _ 0 [some (.ref 47), some (.int (nI c)), some (.int (nI i)), some (.int (nI k)), none] [] _
  refine zj_iload_n dX8_isOf_0 (by rfl) ?_
  refine zc_8_67 rfl dX8_isOf_1 (m_isCycle hc) (by exact Nat.le_of_ble_eq_true rfl) ?_
  refine zj_if_eq (tgt := 32) dX8_isOf_4 (by decide) (fun zq => absurd zq (by decide)) (fun _ => ?_)
  refine zj_iload_n dX8_isOf_7 (by rfl) ?_
  refine zj_iconst (v := nI 0) dX8_isOf_8 (by decide) ?_
  refine zj_aload_n dX8_isOf_9 (by rfl) ?_
  refine zg_8_7 rfl dX8_isOf_10 (by first | assumption | rfl) (by rfl) ?_
  refine zj_iload_n dX8_isOf_13 (by rfl) ?_
  refine zj_ialdN dX8_isOf_14 (by first | assumption | rfl) (by omega) ?_
  rw [q48 c hc]
  refine zj_iconst (v := nI 1) dX8_isOf_15 (by decide) ?_
  refine zj_isubN dX8_isOf_16 (by omega) ?_
  refine zc_8_63 rfl dX8_isOf_17 (m_isIn _ _ _) (by exact Nat.le_of_ble_eq_true rfl) ?_
  rw [s_is1 (nI_nlt (by omega) (by omega)) (nI_nlt (by omega) (by omega))]
  refine zj_if_eq (tgt := 32) dX8_isOf_20 (by decide) (fun zq => absurd zq (by decide)) (fun _ => ?_)
  refine zj_iload_n dX8_isOf_23 (by rfl) ?_
  refine zj_iconst (v := nI 0) dX8_isOf_24 (by decide) ?_
  refine zj_iconst (v := nI 3) dX8_isOf_25 (by decide) ?_
  refine zc_8_63 rfl dX8_isOf_26 (m_isIn _ _ _) (by exact Nat.le_of_ble_eq_true rfl) ?_
  rw [s_is1 (nI_nlt (by omega) (by omega)) (nI_nlt (by omega) (by omega))]
  refine zj_if_ne (tgt := 35) dX8_isOf_29 (by decide) (fun _ => ?_) (fun zq => absurd zq (by decide))
  refine zj_aload_n dX8_isOf_35 (by rfl) ?_
  refine zg_8_13 rfl dX8_isOf_36 (by first | assumption | rfl) (by rfl) ?_
  refine zj_bipush (v := nI 12) dX8_isOf_39 (by decide) ?_
  refine zj_iload_n dX8_isOf_41 (by rfl) ?_
  refine zj_imulN dX8_isOf_42 ?_
  refine zj_iload_n dX8_isOf_43 (by rfl) ?_
  refine zj_iaddN dX8_isOf_44 ?_
  refine zj_ialdN dX8_isOf_45 (by first | assumption | rfl) (by omega) ?_
  rw [q49 c hc i hi, ← hkd0]
  refine zj_istore dX8_isOf_46 (by decide) ?_
  refine zj_iload_n dX8_isOf_48 (by rfl) ?_
  refine zj_if_eqN (tgt := 69) dX8_isOf_49 (by decide) (by omega) (fun q49 => ?_) (fun q49 => ?_)
  · refine zj_iconst (v := nI 1) dX8_isOf_69 (by decide) ?_
    refine zj_goto (tgt := 74) dX8_isOf_70 (by decide) ?_
    refine zj_iret dX8_isOf_74 rfl (Nat.le_refl _) (Nat.le_refl _) ?_
    refine ⟨?_, rfl⟩
    clear hkd0
    rcases (show kd = 0 ∨ kd = 1 ∨ kd = 2 ∨ kd = 3 by omega) with rfl | rfl | rfl | rfl <;> rcases (show k = 0 ∨ k = 1 ∨ k = 2 ∨ k = 3 by omega) with rfl | rfl | rfl | rfl <;> first | omega | rfl
  · refine zj_iload dX8_isOf_52 (by rfl) ?_
    refine zj_iload_n dX8_isOf_54 (by rfl) ?_
    refine zj_icmp_eqN (tgt := 69) dX8_isOf_55 (by decide) (by omega) (fun q55 => ?_) (fun q55 => ?_)
    · refine zj_iconst (v := nI 1) dX8_isOf_69 (by decide) ?_
      refine zj_goto (tgt := 74) dX8_isOf_70 (by decide) ?_
      refine zj_iret dX8_isOf_74 rfl (Nat.le_refl _) (Nat.le_refl _) ?_
      refine ⟨?_, rfl⟩
      clear hkd0
      rcases (show kd = 0 ∨ kd = 1 ∨ kd = 2 ∨ kd = 3 by omega) with rfl | rfl | rfl | rfl <;> rcases (show k = 0 ∨ k = 1 ∨ k = 2 ∨ k = 3 by omega) with rfl | rfl | rfl | rfl <;> first | omega | rfl
    · refine zj_iload_n dX8_isOf_58 (by rfl) ?_
      refine zj_iconst (v := nI 1) dX8_isOf_59 (by decide) ?_
      refine zj_icmp_neN (tgt := 73) dX8_isOf_60 (by decide) (by omega) (fun q60 => ?_) (fun q60 => ?_)
      · refine zj_iconst (v := nI 0) dX8_isOf_73 (by decide) ?_
        refine zj_iret dX8_isOf_74 rfl (Nat.le_refl _) (Nat.le_refl _) ?_
        refine ⟨?_, rfl⟩
        clear hkd0
        rcases (show kd = 0 ∨ kd = 1 ∨ kd = 2 ∨ kd = 3 by omega) with rfl | rfl | rfl | rfl <;> rcases (show k = 0 ∨ k = 1 ∨ k = 2 ∨ k = 3 by omega) with rfl | rfl | rfl | rfl <;> first | omega | rfl
      · refine zj_iload dX8_isOf_63 (by rfl) ?_
        refine zj_iconst (v := nI 3) dX8_isOf_65 (by decide) ?_
        refine zj_icmp_neN (tgt := 73) dX8_isOf_66 (by decide) (by omega) (fun q66 => ?_) (fun q66 => ?_)
        · refine zj_iconst (v := nI 0) dX8_isOf_73 (by decide) ?_
          refine zj_iret dX8_isOf_74 rfl (Nat.le_refl _) (Nat.le_refl _) ?_
          refine ⟨?_, rfl⟩
          clear hkd0
          rcases (show kd = 0 ∨ kd = 1 ∨ kd = 2 ∨ kd = 3 by omega) with rfl | rfl | rfl | rfl <;> rcases (show k = 0 ∨ k = 1 ∨ k = 2 ∨ k = 3 by omega) with rfl | rfl | rfl | rfl <;> first | omega | rfl
        · refine zj_iconst (v := nI 1) dX8_isOf_69 (by decide) ?_
          refine zj_goto (tgt := 74) dX8_isOf_70 (by decide) ?_
          refine zj_iret dX8_isOf_74 rfl (Nat.le_refl _) (Nat.le_refl _) ?_
          refine ⟨?_, rfl⟩
          clear hkd0
          rcases (show kd = 0 ∨ kd = 1 ∨ kd = 2 ∨ kd = 3 by omega) with rfl | rfl | rfl | rfl <;> rcases (show k = 0 ∨ k = 1 ∨ k = 2 ∨ k = 3 by omega) with rfl | rfl | rfl | rfl <;> first | omega | rfl
theorem m_clearA (r : RM h C P S T H O g) {c : Int32} (hc : c < 0 ∨ 4 ≤ c) : zD mX8_clear (d + 2) [.ref 47, .int c] h (some (.int (-1000000001))) h := by
  refine zD_of (by decide +kernel) (by exact Nat.le_of_ble_eq_true rfl) ?_
  show zB mX8_clear _ _ _ 0 [some (.ref 47), some (.int c), none] [] _
  refine zj_iload_n dX8_clear_0 (by rfl) ?_
  refine zc_8_67 rfl dX8_clear_1 (m_isCycleN hc) (by exact Nat.le_of_ble_eq_true rfl) ?_
  refine zj_if_ne (tgt := 10) dX8_clear_4 (by decide) (fun zq => absurd (rfl) zq) (fun _ => ?_)
  refine zj_ldc (v := -1000000001) dX8_clear_7 zq_686 ?_
  refine zj_iret dX8_clear_9 rfl (Nat.le_refl _) (Nat.le_refl _) ?_
  exact ⟨rfl, rfl⟩
theorem m_clear (r : RM h C P S T H O g) {c : Nat} (hc : c < 4) : ∃ h', zD mX8_clear (d + 2) [.ref 47, .int (nI c)] h (some (.int (nI (C c).length))) h' ∧ RM h' (s_up C c []) P S T H O g ∧ zEq 0 46 h h' := by
  obtain ⟨m47, m48, m49, m50, m51, m52, m53, m54, m55, m56, m57, m58, m59, m60, m61, m62, m63⟩ := r
  obtain ⟨rd, wr, hw, o0⟩ := id m47
  obtain ⟨fL, a48, q48⟩ := id m48
  obtain ⟨fK, a49, q49⟩ := id m49
  obtain ⟨fV, a50, q50⟩ := id m50
  have e : ∀ j, (¬ j = 48) → (h.set 48 (.inl (1, 4, .inl (upd fL c (nI 0)))))[j]? = h[j]? := fun j hj => by rw [List.getElem?_set, if_neg (fun x => hj x.symm)]
  refine ⟨_, ?_, ⟨RO_e (e 47 (by decide)) m47, ⟨_, zset_eq a48, ?_⟩, ⟨fK, zset_ne (by decide) a49, ?_⟩, ⟨fV, zset_ne (by decide) a50, ?_⟩, RA_e (e 51 (by decide)) m51, RA_e (e 52 (by decide)) m52, RA_e (e 53 (by decide)) m53, RA_e (e 54 (by decide)) m54, RA_e (e 55 (by decide)) m55, RA_e (e 56 (by decide)) m56, RA_e (e 57 (by decide)) m57, RA_e (e 58 (by decide)) m58, RA_e (e 59 (by decide)) m59, RJ_e (e 60 (by decide)) m60, RA_e (e 61 (by decide)) m61, RA_e (e 62 (by decide)) m62, RA_e (e 63 (by decide)) m63⟩, fun j h1 h2 => e j (by omega)⟩
  · refine zD_of (by decide +kernel) (by exact Nat.le_of_ble_eq_true rfl) ?_
    show zB mX8_clear _ _ _ 0 [some (.ref 47), some (.int (nI c)), none] [] _
    refine zj_iload_n dX8_clear_0 (by rfl) ?_
    refine zc_8_67 rfl dX8_clear_1 (m_isCycle hc) (by exact Nat.le_of_ble_eq_true rfl) ?_
    refine zj_if_ne (tgt := 10) dX8_clear_4 (by decide) (fun _ => ?_) (fun zq => absurd zq (by decide))
    refine zj_aload_n dX8_clear_10 (by rfl) ?_
    refine zg_8_7 rfl dX8_clear_11 (by first | assumption | rfl) (by rfl) ?_
    refine zj_iload_n dX8_clear_14 (by rfl) ?_
    refine zj_ialdN dX8_clear_15 (by first | assumption | rfl) (by omega) ?_
    rw [q48 c hc]
    refine zj_istore_n dX8_clear_16 (by decide) ?_
    refine zj_aload_n dX8_clear_17 (by rfl) ?_
    refine zg_8_7 rfl dX8_clear_18 (by first | assumption | rfl) (by rfl) ?_
    refine zj_iload_n dX8_clear_21 (by rfl) ?_
    refine zj_iconst (v := nI 0) dX8_clear_22 (by decide) ?_
    refine zj_iastN dX8_clear_23 (by first | assumption | rfl) (by omega) ?_
    refine zj_iload_n dX8_clear_24 (by rfl) ?_
    refine zj_iret dX8_clear_25 rfl (Nat.le_refl _) (Nat.le_refl _) ?_
    exact ⟨rfl, rfl⟩
  · intro i2 hi2
    by_cases ei : i2 = c
    · subst ei; rw [pk_us, s_up_eq]; rfl
    · rw [pk_un ei, s_up_ne ei]; exact q48 i2 hi2
  · intro i2 hi2 j hj
    unfold s_kd
    by_cases ei : i2 = c
    · subst ei; rw [s_up_eq] at hj; exact absurd hj (Nat.not_lt_zero _)
    · rw [s_up_ne ei] at hj ⊢; exact q49 i2 hi2 j hj
  · intro i2 hi2 j hj
    unfold s_hv
    by_cases ei : i2 = c
    · subst ei; rw [s_up_eq] at hj; exact absurd hj (Nat.not_lt_zero _)
    · rw [s_up_ne ei] at hj ⊢; exact q50 i2 hi2 j hj
theorem m_lengthOf_l (w : WF C P S T H O g) (r : RM h C P S T H O g) {c : Nat} (hc : c < 4) : ∀ m i, i + m = (C c).length → zB mX8_lengthOf d (some (.int (nI (s_cl C c)))) h 4 [some (.ref 47), some (.int (nI c)), some (.int (nI (s_sum (s_hv C c) i))), some (.int (nI i))] [] h := by
  obtain ⟨m47, m48, m49, m50, m51, m52, m53, m54, m55, m56, m57, m58, m59, m60, m61, m62, m63⟩ := r
  obtain ⟨rd, wr, hw, o0⟩ := m47
  obtain ⟨fL, a48, q48⟩ := m48
  obtain ⟨fV, a50, q50⟩ := m50
  have hlen := (w.1 c hc).1
  intro m
  induction m with
  | zero =>
    intro i hi
    refine zj_iload_n dX8_lengthOf_4 (by rfl) ?_
    refine zj_aload_n dX8_lengthOf_5 (by rfl) ?_
    refine zg_8_7 rfl dX8_lengthOf_6 (by first | assumption | rfl) (by rfl) ?_
    refine zj_iload_n dX8_lengthOf_9 (by rfl) ?_
    refine zj_ialdN dX8_lengthOf_10 (by first | assumption | rfl) (by omega) ?_
    rw [q48 c hc]
    refine zj_icmp_geN (tgt := 37) dX8_lengthOf_11 (by decide) (by omega) (fun _ => ?_) (fun zq => absurd (by omega) zq)
    refine zj_iload_n dX8_lengthOf_37 (by rfl) ?_
    refine zj_iret dX8_lengthOf_38 rfl (Nat.le_refl _) (Nat.le_refl _) ?_
    exact ⟨by rw [show i = (C c).length by omega]; rfl, rfl⟩
  | succ m ih =>
    intro i hi
    have hJ := ih (i + 1) (by omega)
    have e1 : s_sum (s_hv C c) (i + 1) = s_sum (s_hv C c) i + s_hv C c i * 12 := rfl
    rw [e1, Nat.mul_comm] at hJ
    refine zj_iload_n dX8_lengthOf_4 (by rfl) ?_
    refine zj_aload_n dX8_lengthOf_5 (by rfl) ?_
    refine zg_8_7 rfl dX8_lengthOf_6 (by first | assumption | rfl) (by rfl) ?_
    refine zj_iload_n dX8_lengthOf_9 (by rfl) ?_
    refine zj_ialdN dX8_lengthOf_10 (by first | assumption | rfl) (by omega) ?_
    rw [q48 c hc]
    refine zj_icmp_geN (tgt := 37) dX8_lengthOf_11 (by decide) (by omega) (fun zq => absurd zq (by omega)) (fun _ => ?_)
    refine zj_iload_n dX8_lengthOf_14 (by rfl) ?_
    refine zj_bipush (v := nI 12) dX8_lengthOf_15 (by decide) ?_
    refine zj_aload_n dX8_lengthOf_17 (by rfl) ?_
    refine zg_8_16 rfl dX8_lengthOf_18 (by first | assumption | rfl) (by rfl) ?_
    refine zj_bipush (v := nI 12) dX8_lengthOf_21 (by decide) ?_
    refine zj_iload_n dX8_lengthOf_23 (by rfl) ?_
    refine zj_imulN dX8_lengthOf_24 ?_
    refine zj_iload_n dX8_lengthOf_25 (by rfl) ?_
    refine zj_iaddN dX8_lengthOf_26 ?_
    refine zj_ialdN dX8_lengthOf_27 (by first | assumption | rfl) (by omega) ?_
    rw [q50 c hc i (by omega)]
    refine zj_imulN dX8_lengthOf_28 ?_
    refine zj_iaddN dX8_lengthOf_29 ?_
    refine zj_istore_n dX8_lengthOf_30 (by decide) ?_
    refine zj_iincN dX8_lengthOf_31 (by rfl) (by decide) ?_
    refine zj_goto (tgt := 4) dX8_lengthOf_34 (by decide) ?_
    exact hJ
theorem m_lengthOf (w : WF C P S T H O g) (r : RM h C P S T H O g) {c : Nat} (hc : c < 4) : zD mX8_lengthOf d [.ref 47, .int (nI c)] h (some (.int (nI (s_cl C c)))) h := by
  refine zD_of (by decide +kernel) (by exact Nat.le_of_ble_eq_true rfl) ?_
  show zB mX8_lengthOf _ _ _ 0 [some (.ref 47), some (.int (nI c)), none, none] [] _
  refine zj_iconst (v := nI 0) dX8_lengthOf_0 (by decide) ?_
  refine zj_istore_n dX8_lengthOf_1 (by decide) ?_
  refine zj_iconst (v := nI 0) dX8_lengthOf_2 (by decide) ?_
  refine zj_istore_n dX8_lengthOf_3 (by decide) ?_
  exact m_lengthOf_l w r hc (C c).length 0 (by omega)
theorem m_lengthA (r : RM h C P S T H O g) {c : Int32} (hc : c < 0 ∨ 4 ≤ c) : zD mX8_length (d + 2) [.ref 47, .int c] h (some (.int (-1000000001))) h := by
  refine zD_of (by decide +kernel) (by exact Nat.le_of_ble_eq_true rfl) ?_
  show zB mX8_length _ _ _ 0 [some (.ref 47), some (.int c)] [] _
  refine zj_iload_n dX8_length_0 (by rfl) ?_
  refine zc_8_67 rfl dX8_length_1 (m_isCycleN hc) (by exact Nat.le_of_ble_eq_true rfl) ?_
  refine zj_if_eq (tgt := 15) dX8_length_4 (by decide) (fun _ => ?_) (fun zq => absurd (rfl) zq)
  refine zj_ldc (v := -1000000001) dX8_length_15 zq_686 ?_
  refine zj_iret dX8_length_17 rfl (Nat.le_refl _) (Nat.le_refl _) ?_
  exact ⟨rfl, rfl⟩
theorem m_length (w : WF C P S T H O g) (r : RM h C P S T H O g) {c : Nat} (hc : c < 4) : zD mX8_length (d + 2) [.ref 47, .int (nI c)] h (some (.int (nI (s_cl C c)))) h := by
  obtain ⟨⟨rd, wr, hw, o0⟩, -⟩ := id r
  refine zD_of (by decide +kernel) (by exact Nat.le_of_ble_eq_true rfl) ?_
  show zB mX8_length _ _ _ 0 [some (.ref 47), some (.int (nI c))] [] _
  refine zj_iload_n dX8_length_0 (by rfl) ?_
  refine zc_8_67 rfl dX8_length_1 (m_isCycle hc) (by exact Nat.le_of_ble_eq_true rfl) ?_
  refine zj_if_eq (tgt := 15) dX8_length_4 (by decide) (fun zq => absurd zq (by decide)) (fun _ => ?_)
  refine zj_aload_n dX8_length_7 (by rfl) ?_
  refine zj_iload_n dX8_length_8 (by rfl) ?_
  refine zc_8_73 rfl dX8_length_9 (by first | assumption | rfl) (m_lengthOf w r hc) (by exact Nat.le_of_ble_eq_true rfl) ?_
  refine zj_goto (tgt := 17) dX8_length_12 (by decide) ?_
  refine zj_iret dX8_length_17 rfl (Nat.le_refl _) (Nat.le_refl _) ?_
  exact ⟨rfl, rfl⟩
theorem m_handlingA (r : RM h C P S T H O g) {c t : Int32} (hc : c < 0 ∨ 4 ≤ c) : zD mX8_handling (d + 2) [.ref 47, .int c, .int t] h (some (.int (-1000000001))) h := by
  refine zD_of (by decide +kernel) (by exact Nat.le_of_ble_eq_true rfl) ?_
  show zB mX8_handling _ _ _ 0 [some (.ref 47), some (.int c), some (.int t), none, none, none, none] [] _
  refine zj_iload_n dX8_handling_0 (by rfl) ?_
  refine zc_8_67 rfl dX8_handling_1 (m_isCycleN hc) (by exact Nat.le_of_ble_eq_true rfl) ?_
  refine zj_if_eq (tgt := 11) dX8_handling_4 (by decide) (fun _ => ?_) (fun zq => absurd (rfl) zq)
  refine zj_ldc (v := -1000000001) dX8_handling_11 zq_686 ?_
  refine zj_iret dX8_handling_13 rfl (Nat.le_refl _) (Nat.le_refl _) ?_
  exact ⟨rfl, rfl⟩
theorem m_handlingB (r : RM h C P S T H O g) {c : Nat} {t : Int32} (hc : c < 4) (ht : t < 0) : zD mX8_handling (d + 2) [.ref 47, .int (nI c), .int t] h (some (.int (-1000000001))) h := by
  refine zD_of (by decide +kernel) (by exact Nat.le_of_ble_eq_true rfl) ?_
  show zB mX8_handling _ _ _ 0 [some (.ref 47), some (.int (nI c)), some (.int t), none, none, none, none] [] _
  refine zj_iload_n dX8_handling_0 (by rfl) ?_
  refine zc_8_67 rfl dX8_handling_1 (m_isCycle hc) (by exact Nat.le_of_ble_eq_true rfl) ?_
  refine zj_if_eq (tgt := 11) dX8_handling_4 (by decide) (fun zq => absurd zq (by decide)) (fun _ => ?_)
  refine zj_iload_n dX8_handling_7 (by rfl) ?_
  refine zj_if_ge (tgt := 14) dX8_handling_8 (by decide) (fun zq => absurd zq (Int32.not_le.mpr ht)) (fun _ => ?_)
  refine zj_ldc (v := -1000000001) dX8_handling_11 zq_686 ?_
  refine zj_iret dX8_handling_13 rfl (Nat.le_refl _) (Nat.le_refl _) ?_
  exact ⟨rfl, rfl⟩
/-- enough is left in the limbs from i on -/
theorem m_handling_l (w : WF C P S T H O g) (r : RM h C P S T H O g) {c : Nat} {tv : Int32} (hc : c < 4) : ∀ m i left, i + m = (C c).length → s_sum (s_hv C c) i + left < s_cl C c → zB mX8_handling (d + 2) (some (.int (s_hl (s_kd C c) (s_hv C c) m i left))) h 37 [some (.ref 47), some (.int (nI c)), some (.int tv), some (.int (nI left)), some (.int (nI i)), none, none] [] h := by
  obtain ⟨m47, m48, m49, m50, m51, m52, m53, m54, m55, m56, m57, m58, m59, m60, m61, m62, m63⟩ := r
  obtain ⟨rd, wr, hw, o0⟩ := m47
  obtain ⟨fK, a49, q49⟩ := m49
  obtain ⟨fV, a50, q50⟩ := m50
  have hlen := (w.1 c hc).1
  have hLe := s_cl_le w.1 hc
  intro m
  induction m with
  | zero =>
    intro i left hi hs
    rw [show i = (C c).length by omega] at hs
    exact absurd hs (by unfold s_cl; omega)
  | succ m ih =>
    intro i left hi hs
    obtain ⟨k3, v1, v18⟩ := WC_hv w.1 hc (show i < (C c).length by omega)
    have e1 : s_sum (s_hv C c) (i + 1) = s_sum (s_hv C c) i + s_hv C c i * 12 := rfl
    have qk := q49 c hc i (by omega)
    have qv := q50 c hc i (by omega)
    have hJ : ¬ left < s_hv C c i * 12 → _ := fun hh => ih (i + 1) (left - s_hv C c i * 12) (by omega) (by rw [e1]; omega)
    obtain ⟨kd, hkd⟩ : ∃ kd, kd = s_kd C c i := ⟨_, rfl⟩
    obtain ⟨hv, hhv⟩ : ∃ hv, hv = s_hv C c i := ⟨_, rfl⟩
    unfold s_hl
    rw [← hkd] at k3 qk ⊢
    rw [← hhv] at v1 v18 qv hJ ⊢
    have hc2 : 12 * hv = hv * 12 := Nat.mul_comm _ _
    by_cases hin : left < hv * 12
    · rw [if_pos hin]
      unfold s_deed
      refine zj_iload_n dX8_handling_37 (by rfl) ?_
      refine zj_bipush (v := nI 12) dX8_handling_38 (by decide) ?_
      refine zj_aload_n dX8_handling_40 (by rfl) ?_
      refine zg_8_16 rfl dX8_handling_41 (by first | assumption | rfl) (by rfl) ?_
      refine zj_bipush (v := nI 12) dX8_handling_44 (by decide) ?_
      refine zj_iload_n dX8_handling_46 (by rfl) ?_
      refine zj_imulN dX8_handling_47 ?_
      refine zj_iload dX8_handling_48 (by rfl) ?_
      refine zj_iaddN dX8_handling_50 ?_
      refine zj_ialdN dX8_handling_51 (by first | assumption | rfl) (by omega) ?_
      rw [qv]
      refine zj_imulN dX8_handling_52 ?_
      refine zj_icmp_ltN (tgt := 80) dX8_handling_53 (by decide) (by omega) (fun _ => ?_) (fun zq => absurd (by omega) zq)
      refine zj_aload_n dX8_handling_80 (by rfl) ?_
      refine zg_8_13 rfl dX8_handling_81 (by first | assumption | rfl) (by rfl) ?_
      refine zj_bipush (v := nI 12) dX8_handling_84 (by decide) ?_
      refine zj_iload_n dX8_handling_86 (by rfl) ?_
      refine zj_imulN dX8_handling_87 ?_
      refine zj_iload dX8_handling_88 (by rfl) ?_
      refine zj_iaddN dX8_handling_90 ?_
      refine zj_ialdN dX8_handling_91 (by first | assumption | rfl) (by omega) ?_
      rw [qk]
      refine zj_istore dX8_handling_92 (by decide) ?_
      refine zj_iconst (v := nI 0) dX8_handling_94 (by decide) ?_
      refine zj_istore dX8_handling_95 (by decide) ?_
      refine zj_iload_n dX8_handling_97 (by rfl) ?_
      refine zj_if_neN (tgt := 126) dX8_handling_98 (by decide) (by omega) (fun q98 => ?_) (fun q98 => ?_)
      · refine zj_iload dX8_handling_126 (by rfl) ?_
        refine zj_iconst (v := nI 3) dX8_handling_128 (by decide) ?_
        refine zj_icmp_neN (tgt := 164) dX8_handling_129 (by decide) (by omega) (fun q129 => ?_) (fun q129 => ?_)
        · refine zj_bipush (v := nI 10) dX8_handling_164 (by decide) ?_
          refine zj_iload dX8_handling_166 (by rfl) ?_
          refine zj_imulN dX8_handling_168 ?_
          refine zj_iload dX8_handling_169 (by rfl) ?_
          refine zj_iaddN dX8_handling_171 ?_
          refine zj_iret dX8_handling_172 rfl (Nat.le_refl _) (Nat.le_refl _) ?_
          exact ⟨by congr 3; ((repeat' split) <;> omega), rfl⟩
        · refine zj_iload_n dX8_handling_132 (by rfl) ?_
          refine zj_bipush (v := nI 24) dX8_handling_133 (by decide) ?_
          refine zj_iremN dX8_handling_135 (by omega) ?_
          refine zj_if_neN (tgt := 164) dX8_handling_136 (by decide) (by omega) (fun q136 => ?_) (fun q136 => ?_)
          · refine zj_bipush (v := nI 10) dX8_handling_164 (by decide) ?_
            refine zj_iload dX8_handling_166 (by rfl) ?_
            refine zj_imulN dX8_handling_168 ?_
            refine zj_iload dX8_handling_169 (by rfl) ?_
            refine zj_iaddN dX8_handling_171 ?_
            refine zj_iret dX8_handling_172 rfl (Nat.le_refl _) (Nat.le_refl _) ?_
            exact ⟨by congr 3; ((repeat' split) <;> omega), rfl⟩
          · refine zj_iload_n dX8_handling_139 (by rfl) ?_
            refine zj_bipush (v := nI 24) dX8_handling_140 (by decide) ?_
            refine zj_iaddN dX8_handling_142 ?_
            refine zj_bipush (v := nI 12) dX8_handling_143 (by decide) ?_
            refine zj_aload_n dX8_handling_145 (by rfl) ?_
            refine zg_8_16 rfl dX8_handling_146 (by first | assumption | rfl) (by rfl) ?_
            refine zj_bipush (v := nI 12) dX8_handling_149 (by decide) ?_
            refine zj_iload_n dX8_handling_151 (by rfl) ?_
            refine zj_imulN dX8_handling_152 ?_
            refine zj_iload dX8_handling_153 (by rfl) ?_
            refine zj_iaddN dX8_handling_155 ?_
            refine zj_ialdN dX8_handling_156 (by first | assumption | rfl) (by omega) ?_
            rw [qv]
            refine zj_imulN dX8_handling_157 ?_
            refine zj_icmp_gtN (tgt := 164) dX8_handling_158 (by decide) (by omega) (fun q158 => ?_) (fun q158 => ?_)
            · refine zj_bipush (v := nI 10) dX8_handling_164 (by decide) ?_
              refine zj_iload dX8_handling_166 (by rfl) ?_
              refine zj_imulN dX8_handling_168 ?_
              refine zj_iload dX8_handling_169 (by rfl) ?_
              refine zj_iaddN dX8_handling_171 ?_
              refine zj_iret dX8_handling_172 rfl (Nat.le_refl _) (Nat.le_refl _) ?_
              exact ⟨by congr 3; ((repeat' split) <;> omega), rfl⟩
            · refine zj_iconst (v := nI 3) dX8_handling_161 (by decide) ?_
              refine zj_istore dX8_handling_162 (by decide) ?_
              refine zj_bipush (v := nI 10) dX8_handling_164 (by decide) ?_
              refine zj_iload dX8_handling_166 (by rfl) ?_
              refine zj_imulN dX8_handling_168 ?_
              refine zj_iload dX8_handling_169 (by rfl) ?_
              refine zj_iaddN dX8_handling_171 ?_
              refine zj_iret dX8_handling_172 rfl (Nat.le_refl _) (Nat.le_refl _) ?_
              exact ⟨by congr 3; ((repeat' split) <;> omega), rfl⟩
      · refine zj_iload dX8_handling_101 (by rfl) ?_
        refine zj_iconst (v := nI 2) dX8_handling_103 (by decide) ?_
        refine zj_icmp_neN (tgt := 111) dX8_handling_104 (by decide) (by omega) (fun q104 => ?_) (fun q104 => ?_)
        · refine zj_iload dX8_handling_111 (by rfl) ?_
          refine zj_if_neN (tgt := 120) dX8_handling_113 (by decide) (by omega) (fun q113 => ?_) (fun q113 => ?_)
          · refine zj_iconst (v := nI 1) dX8_handling_120 (by decide) ?_
            refine zj_istore dX8_handling_121 (by decide) ?_
            refine zj_goto (tgt := 164) dX8_handling_123 (by decide) ?_
            refine zj_bipush (v := nI 10) dX8_handling_164 (by decide) ?_
            refine zj_iload dX8_handling_166 (by rfl) ?_
            refine zj_imulN dX8_handling_168 ?_
            refine zj_iload dX8_handling_169 (by rfl) ?_
            refine zj_iaddN dX8_handling_171 ?_
            refine zj_iret dX8_handling_172 rfl (Nat.le_refl _) (Nat.le_refl _) ?_
            exact ⟨by congr 3; ((repeat' split) <;> omega), rfl⟩
          · refine zj_iconst (v := nI 0) dX8_handling_116 (by decide) ?_
            refine zj_goto (tgt := 121) dX8_handling_117 (by decide) ?_
            refine zj_istore dX8_handling_121 (by decide) ?_
            refine zj_goto (tgt := 164) dX8_handling_123 (by decide) ?_
            refine zj_bipush (v := nI 10) dX8_handling_164 (by decide) ?_
            refine zj_iload dX8_handling_166 (by rfl) ?_
            refine zj_imulN dX8_handling_168 ?_
            refine zj_iload dX8_handling_169 (by rfl) ?_
            refine zj_iaddN dX8_handling_171 ?_
            refine zj_iret dX8_handling_172 rfl (Nat.le_refl _) (Nat.le_refl _) ?_
            exact ⟨by congr 3; ((repeat' split) <;> omega), rfl⟩
        · refine zj_iconst (v := nI 2) dX8_handling_107 (by decide) ?_
          refine zj_goto (tgt := 121) dX8_handling_108 (by decide) ?_
          refine zj_istore dX8_handling_121 (by decide) ?_
          refine zj_goto (tgt := 164) dX8_handling_123 (by decide) ?_
          refine zj_bipush (v := nI 10) dX8_handling_164 (by decide) ?_
          refine zj_iload dX8_handling_166 (by rfl) ?_
          refine zj_imulN dX8_handling_168 ?_
          refine zj_iload dX8_handling_169 (by rfl) ?_
          refine zj_iaddN dX8_handling_171 ?_
          refine zj_iret dX8_handling_172 rfl (Nat.le_refl _) (Nat.le_refl _) ?_
          exact ⟨by congr 3; ((repeat' split) <;> omega), rfl⟩
    · have hJ2 := hJ hin
      rw [if_neg hin, ← hc2]
      rw [← hc2] at hJ2
      refine zj_iload_n dX8_handling_37 (by rfl) ?_
      refine zj_bipush (v := nI 12) dX8_handling_38 (by decide) ?_
      refine zj_aload_n dX8_handling_40 (by rfl) ?_
      refine zg_8_16 rfl dX8_handling_41 (by first | assumption | rfl) (by rfl) ?_
      refine zj_bipush (v := nI 12) dX8_handling_44 (by decide) ?_
      refine zj_iload_n dX8_handling_46 (by rfl) ?_
      refine zj_imulN dX8_handling_47 ?_
      refine zj_iload dX8_handling_48 (by rfl) ?_
      refine zj_iaddN dX8_handling_50 ?_
      refine zj_ialdN dX8_handling_51 (by first | assumption | rfl) (by omega) ?_
      rw [qv]
      refine zj_imulN dX8_handling_52 ?_
      refine zj_icmp_ltN (tgt := 80) dX8_handling_53 (by decide) (by omega) (fun zq => absurd zq (by omega)) (fun _ => ?_)
      refine zj_iload_n dX8_handling_56 (by rfl) ?_
      refine zj_bipush (v := nI 12) dX8_handling_57 (by decide) ?_
      refine zj_aload_n dX8_handling_59 (by rfl) ?_
      refine zg_8_16 rfl dX8_handling_60 (by first | assumption | rfl) (by rfl) ?_
      refine zj_bipush (v := nI 12) dX8_handling_63 (by decide) ?_
      refine zj_iload_n dX8_handling_65 (by rfl) ?_
      refine zj_imulN dX8_handling_66 ?_
      refine zj_iload dX8_handling_67 (by rfl) ?_
      refine zj_iaddN dX8_handling_69 ?_
      refine zj_ialdN dX8_handling_70 (by first | assumption | rfl) (by omega) ?_
      rw [qv]
      refine zj_imulN dX8_handling_71 ?_
      refine zj_isubN dX8_handling_72 (by omega) ?_
      refine zj_istore_n dX8_handling_73 (by decide) ?_
      refine zj_iincN dX8_handling_74 (by rfl) (by decide) ?_
      refine zj_goto (tgt := 37) dX8_handling_77 (by decide) ?_
      exact hJ2
theorem m_handling (w : WF C P S T H O g) (r : RM h C P S T H O g) {c t : Nat} (hc : c < 4) (ht : t < 2 ^ 31) : zD mX8_handling (d + 2) [.ref 47, .int (nI c), .int (nI t)] h (some (.int (if (C c).length = 0 then -1000000002 else s_hl (s_kd C c) (s_hv C c) (C c).length 0 (t % s_cl C c)))) h := by
  obtain ⟨m47, m48, m49, m50, m51, m52, m53, m54, m55, m56, m57, m58, m59, m60, m61, m62, m63⟩ := id r
  obtain ⟨rd, wr, hw, o0⟩ := m47
  obtain ⟨fL, a48, q48⟩ := m48
  have hlen := (w.1 c hc).1
  have hLe := s_cl_le w.1 hc
  by_cases h0 : (C c).length = 0
  · rw [if_pos h0]
    refine zD_of (by decide +kernel) (by exact Nat.le_of_ble_eq_true rfl) ?_
    show zB mX8_handling _ _ _ 0 [some (.ref 47), some (.int (nI c)), some (.int (nI t)), none, none, none, none] [] _
    refine zj_iload_n dX8_handling_0 (by rfl) ?_
    refine zc_8_67 rfl dX8_handling_1 (m_isCycle hc) (by exact Nat.le_of_ble_eq_true rfl) ?_
    refine zj_if_eq (tgt := 11) dX8_handling_4 (by decide) (fun zq => absurd zq (by decide)) (fun _ => ?_)
    refine zj_iload_n dX8_handling_7 (by rfl) ?_
    refine zj_if_geN (tgt := 14) dX8_handling_8 (by decide) (by omega) ?_
    refine zj_aload_n dX8_handling_14 (by rfl) ?_
    refine zg_8_7 rfl dX8_handling_15 (by first | assumption | rfl) (by rfl) ?_
    refine zj_iload_n dX8_handling_18 (by rfl) ?_
    refine zj_ialdN dX8_handling_19 (by first | assumption | rfl) (by omega) ?_
    rw [q48 c hc]
    refine zj_if_neN (tgt := 26) dX8_handling_20 (by decide) (by omega) (fun zq => absurd (h0) zq) (fun _ => ?_)
    refine zj_ldc (v := -1000000002) dX8_handling_23 zq_708 ?_
    refine zj_iret dX8_handling_25 rfl (Nat.le_refl _) (Nat.le_refl _) ?_
    exact ⟨rfl, rfl⟩
  · rw [if_neg h0]
    have hL := s_cl_pos w.1 hc h0
    have hm := Nat.mod_lt t hL
    refine zD_of (by decide +kernel) (by exact Nat.le_of_ble_eq_true rfl) ?_
    show zB mX8_handling _ _ _ 0 [some (.ref 47), some (.int (nI c)), some (.int (nI t)), none, none, none, none] [] _
    refine zj_iload_n dX8_handling_0 (by rfl) ?_
    refine zc_8_67 rfl dX8_handling_1 (m_isCycle hc) (by exact Nat.le_of_ble_eq_true rfl) ?_
    refine zj_if_eq (tgt := 11) dX8_handling_4 (by decide) (fun zq => absurd zq (by decide)) (fun _ => ?_)
    refine zj_iload_n dX8_handling_7 (by rfl) ?_
    refine zj_if_geN (tgt := 14) dX8_handling_8 (by decide) (by omega) ?_
    refine zj_aload_n dX8_handling_14 (by rfl) ?_
    refine zg_8_7 rfl dX8_handling_15 (by first | assumption | rfl) (by rfl) ?_
    refine zj_iload_n dX8_handling_18 (by rfl) ?_
    refine zj_ialdN dX8_handling_19 (by first | assumption | rfl) (by omega) ?_
    rw [q48 c hc]
    refine zj_if_neN (tgt := 26) dX8_handling_20 (by decide) (by omega) (fun _ => ?_) (fun zq => absurd zq (h0))
    refine zj_iload_n dX8_handling_26 (by rfl) ?_
    refine zj_aload_n dX8_handling_27 (by rfl) ?_
    refine zj_iload_n dX8_handling_28 (by rfl) ?_
    refine zc_8_73 rfl dX8_handling_29 (by first | assumption | rfl) (m_lengthOf w r hc) (by exact Nat.le_of_ble_eq_true rfl) ?_
    refine zj_iremN dX8_handling_32 (by omega) ?_
    refine zj_istore_n dX8_handling_33 (by decide) ?_
    refine zj_iconst (v := nI 0) dX8_handling_34 (by decide) ?_
    refine zj_istore dX8_handling_35 (by decide) ?_
    exact m_handling_l (d := d) w r hc (C c).length 0 _ (by omega) (by show 0 + _ < _; omega)
end M1
