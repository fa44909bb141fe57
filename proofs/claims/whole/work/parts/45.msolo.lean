section M5
variable {h h' : zH} {C : Nat → List (Nat × Nat)} {P : Nat → List Nat} {S : Nat → Option (List Int32)} {T : List Nat} {H : Nat → Nat} {O : List (Nat × Nat)} {g d : Nat}
theorem m_handA (r : RM h C P S T H O g) {s v : Int32} (hb : s < 0 ∨ 8 ≤ s ∨ v < 0 ∨ ¬ v ≤ 3) : zD mX8_hand (d + 1) [.ref 47, .int s, .int v] h (some (.int (-1000000001))) h := by
  refine zD_of (by decide +kernel) (by exact Nat.le_of_ble_eq_true rfl) ?_
  show zB mX8_hand _ _ _ 0 [some (.ref 47), some (.int s), some (.int v), none] [] _
  refine zj_iload_n dX8_hand_0 (by rfl) ?_
  refine zj_iconst (v := 0) dX8_hand_1 (by decide) ?_
  refine zj_bipush (v := 7) dX8_hand_2 (by decide) ?_
  refine zc_8_63 rfl dX8_hand_4 (m_isIn _ _ _) (by exact Nat.le_of_ble_eq_true rfl) ?_
  refine zj_if_eq (tgt := 19) dX8_hand_7 (by decide) (fun q7 => ?_) (fun q7 => ?_)
  · refine zj_ldc (v := -1000000001) dX8_hand_19 zq_686 ?_
    refine zj_iret dX8_hand_21 rfl (Nat.le_refl _) (Nat.le_refl _) ?_
    exact ⟨rfl, rfl⟩
  · refine zj_iload_n dX8_hand_10 (by rfl) ?_
    refine zj_iconst (v := 0) dX8_hand_11 (by decide) ?_
    refine zj_iconst (v := 3) dX8_hand_12 (by decide) ?_
    refine zc_8_63 rfl dX8_hand_13 (m_isIn _ _ _) (by exact Nat.le_of_ble_eq_true rfl) ?_
    refine zj_if_ne (tgt := 22) dX8_hand_16 (by decide) (fun q16 => ?_) (fun q16 => ?_)
    · exfalso
      rcases hb with hb | hb | hb | hb
      · exact q7 (s_is0 (Or.inl hb))
      · exact q7 (s_is0 (Or.inr (Int32.lt_of_lt_of_le (by decide) hb)))
      · exact q16 (s_is0 (Or.inl hb))
      · exact q16 (s_is0 (Or.inr (Int32.not_le.mp hb)))
    · refine zj_ldc (v := -1000000001) dX8_hand_19 zq_686 ?_
      refine zj_iret dX8_hand_21 rfl (Nat.le_refl _) (Nat.le_refl _) ?_
      exact ⟨rfl, rfl⟩
theorem m_hand (r : RM h C P S T H O g) {s v : Nat} (hs : s < 8) (hv : v ≤ 3) : ∃ h', zD mX8_hand (d + 1) [.ref 47, .int (nI s), .int (nI v)] h (some (.int (nI (H s)))) h' ∧ RM h' C P S T (s_up H s v) O g ∧ zEq 0 46 h h' := by
  obtain ⟨m47, m48, m49, m50, m51, m52, m53, m54, m55, m56, m57, m58, m59, m60, m61, m62, m63⟩ := r
  obtain ⟨rd, wr, hw, o0⟩ := id m47
  obtain ⟨f, a53, q53⟩ := id m53
  have e : ∀ j, (¬ j = 53) → (h.set 53 (.inl (1, 8, .inl (upd f s (nI v)))))[j]? = h[j]? := fun j hj => by rw [List.getElem?_set, if_neg (fun x => hj x.symm)]
  refine ⟨_, ?_, ⟨RO_e (e 47 (by decide)) m47, RA_e (e 48 (by decide)) m48, RA_e (e 49 (by decide)) m49, RA_e (e 50 (by decide)) m50, RA_e (e 51 (by decide)) m51, RA_e (e 52 (by decide)) m52, ⟨_, zset_eq a53, ?_⟩, RA_e (e 54 (by decide)) m54, RA_e (e 55 (by decide)) m55, RA_e (e 56 (by decide)) m56, RA_e (e 57 (by decide)) m57, RA_e (e 58 (by decide)) m58, RA_e (e 59 (by decide)) m59, RJ_e (e 60 (by decide)) m60, RA_e (e 61 (by decide)) m61, RA_e (e 62 (by decide)) m62, RA_e (e 63 (by decide)) m63⟩, fun j h1 h2 => e j (by omega)⟩
  · refine zD_of (by decide +kernel) (by exact Nat.le_of_ble_eq_true rfl) ?_
    show zB mX8_hand _ _ _ 0 [some (.ref 47), some (.int (nI s)), some (.int (nI v)), none] [] _
    refine zj_iload_n dX8_hand_0 (by rfl) ?_
    refine zj_iconst (v := nI 0) dX8_hand_1 (by decide) ?_
    refine zj_bipush (v := nI 7) dX8_hand_2 (by decide) ?_
    refine zc_8_63 rfl dX8_hand_4 (m_isIn _ _ _) (by exact Nat.le_of_ble_eq_true rfl) ?_
    rw [s_is1 (nI_nlt (by omega) (by omega)) (nI_nlt (by omega) (by omega))]
    refine zj_if_eq (tgt := 19) dX8_hand_7 (by decide) (fun zq => absurd zq (by decide)) (fun _ => ?_)
    refine zj_iload_n dX8_hand_10 (by rfl) ?_
    refine zj_iconst (v := nI 0) dX8_hand_11 (by decide) ?_
    refine zj_iconst (v := nI 3) dX8_hand_12 (by decide) ?_
    refine zc_8_63 rfl dX8_hand_13 (m_isIn _ _ _) (by exact Nat.le_of_ble_eq_true rfl) ?_
    rw [s_is1 (nI_nlt (by omega) (by omega)) (nI_nlt (by omega) (by omega))]
    refine zj_if_ne (tgt := 22) dX8_hand_16 (by decide) (fun _ => ?_) (fun zq => absurd zq (by decide))
    refine zj_aload_n dX8_hand_22 (by rfl) ?_
    refine zg_8_25 rfl dX8_hand_23 (by first | assumption | rfl) (by rfl) ?_
    refine zj_iload_n dX8_hand_26 (by rfl) ?_
    refine zj_ialdN dX8_hand_27 (by first | assumption | rfl) (by omega) ?_
    rw [q53 s hs]
    refine zj_istore_n dX8_hand_28 (by decide) ?_
    refine zj_aload_n dX8_hand_29 (by rfl) ?_
    refine zg_8_25 rfl dX8_hand_30 (by first | assumption | rfl) (by rfl) ?_
    refine zj_iload_n dX8_hand_33 (by rfl) ?_
    refine zj_iload_n dX8_hand_34 (by rfl) ?_
    refine zj_iastN dX8_hand_35 (by first | assumption | rfl) (by omega) ?_
    refine zj_iload_n dX8_hand_36 (by rfl) ?_
    refine zj_iret dX8_hand_37 rfl (Nat.le_refl _) (Nat.le_refl _) ?_
    exact ⟨rfl, rfl⟩
  · intro j hj
    by_cases ej : j = s
    · subst ej; rw [pk_us, s_up_eq]
    · rw [pk_un ej, s_up_ne ej]; exact q53 j hj
theorem m_joinA (r : RM h C P S T H O g) {p v ti gp : Int32} (hb : s_badj p v ti gp) : zD mX8_join (d + 2) [.ref 47, .int p, .int v, .int ti, .int gp] h (some (.int (-1000000001))) h := by
  by_cases hp : p < 0 ∨ 6 ≤ p
  · refine zD_of (by decide +kernel) (by exact Nat.le_of_ble_eq_true rfl) ?_
    show zB mX8_join _ _ _ 0 [some (.ref 47), some (.int p), some (.int v), some (.int ti), some (.int gp)] [] _
    refine zj_iload_n dX8_join_0 (by rfl) ?_
    refine zc_8_103 rfl dX8_join_1 (m_isPhraseN hp) (by exact Nat.le_of_ble_eq_true rfl) ?_
    refine zj_if_eq (tgt := 35) dX8_join_4 (by decide) (fun _ => ?_) (fun zq => absurd (rfl) zq)
    refine zj_ldc (v := -1000000001) dX8_join_35 zq_686 ?_
    refine zj_iret dX8_join_37 rfl (Nat.le_refl _) (Nat.le_refl _) ?_
    exact ⟨rfl, rfl⟩
  · obtain ⟨j, hj, rfl⟩ : ∃ j, j < 6 ∧ p = nI j := ((pk_ix p (n := 6) (by decide)).resolve_left (fun e => hp (Or.inl e))).resolve_left (fun e => hp (Or.inr e))
    have hb2 := hb.resolve_left hp
    refine zD_of (by decide +kernel) (by exact Nat.le_of_ble_eq_true rfl) ?_
    show zB mX8_join _ _ _ 0 [some (.ref 47), some (.int (nI j)), some (.int v), some (.int ti), some (.int gp)] [] _
    refine zj_iload_n dX8_join_0 (by rfl) ?_
    refine zc_8_103 rfl dX8_join_1 (m_isPhrase hj) (by exact Nat.le_of_ble_eq_true rfl) ?_
    refine zj_if_eq (tgt := 35) dX8_join_4 (by decide) (fun zq => absurd zq (by decide)) (fun _ => ?_)
    refine zj_iload_n dX8_join_7 (by rfl) ?_
    refine zc_8_107 rfl dX8_join_8 (m_isSpeed _) (by exact Nat.le_of_ble_eq_true rfl) ?_
    refine zj_if_eq (tgt := 35) dX8_join_11 (by decide) (fun q11 => ?_) (fun q11 => ?_)
    · refine zj_ldc (v := -1000000001) dX8_join_35 zq_686 ?_
      refine zj_iret dX8_join_37 rfl (Nat.le_refl _) (Nat.le_refl _) ?_
      exact ⟨rfl, rfl⟩
    · refine zj_iload_n dX8_join_14 (by rfl) ?_
      refine zj_iconst (v := 1) dX8_join_15 (by decide) ?_
      refine zj_bipush (v := 9) dX8_join_16 (by decide) ?_
      refine zc_8_63 rfl dX8_join_18 (m_isIn _ _ _) (by exact Nat.le_of_ble_eq_true rfl) ?_
      refine zj_if_eq (tgt := 35) dX8_join_21 (by decide) (fun q21 => ?_) (fun q21 => ?_)
      · refine zj_ldc (v := -1000000001) dX8_join_35 zq_686 ?_
        refine zj_iret dX8_join_37 rfl (Nat.le_refl _) (Nat.le_refl _) ?_
        exact ⟨rfl, rfl⟩
      · refine zj_iload dX8_join_24 (by rfl) ?_
        refine zj_iconst (v := 0) dX8_join_26 (by decide) ?_
        refine zj_bipush (v := 96) dX8_join_27 (by decide) ?_
        refine zc_8_63 rfl dX8_join_29 (m_isIn _ _ _) (by exact Nat.le_of_ble_eq_true rfl) ?_
        refine zj_if_ne (tgt := 38) dX8_join_32 (by decide) (fun q32 => ?_) (fun q32 => ?_)
        · exfalso
          rcases hb2 with hb2 | hb2 | hb2 | hb2 | hb2
          · rw [if_pos hb2] at q11; exact q11 rfl
          · exact q21 (s_is0 (Or.inl hb2))
          · exact q21 (s_is0 (Or.inr hb2))
          · exact q32 (s_is0 (Or.inl hb2))
          · exact q32 (s_is0 (Or.inr hb2))
        · refine zj_ldc (v := -1000000001) dX8_join_35 zq_686 ?_
          refine zj_iret dX8_join_37 rfl (Nat.le_refl _) (Nat.le_refl _) ?_
          exact ⟨rfl, rfl⟩
theorem m_joinN (w : WF C P S T H O g) (r : RM h C P S T H O g) {p ti gp : Nat} {v : Int32} (hp : p < 6) (hv : ¬ s_tpo v = 0) (ht : 1 ≤ ti ∧ ti ≤ 9) (hg : gp ≤ 96) (he : (P p).length = 0) : zD mX8_join (d + 2) [.ref 47, .int (nI p), .int v, .int (nI ti), .int (nI gp)] h (some (.int (-1000000002))) h := by
  obtain ⟨m47, m48, m49, m50, m51, m52, m53, m54, m55, m56, m57, m58, m59, m60, m61, m62, m63⟩ := r
  obtain ⟨rd, wr, hw, o0⟩ := m47
  obtain ⟨fS, a51, q51⟩ := m51
  have hS := m_isSpeed (d := d + 1) (h := h) v
  rw [if_neg hv] at hS
  refine zD_of (by decide +kernel) (by exact Nat.le_of_ble_eq_true rfl) ?_
  show zB mX8_join _ _ _ 0 [some (.ref 47), some (.int (nI p)), some (.int v), some (.int (nI ti)), some (.int (nI gp))] [] _
  refine zj_iload_n dX8_join_0 (by rfl) ?_
  refine zc_8_103 rfl dX8_join_1 (m_isPhrase hp) (by exact Nat.le_of_ble_eq_true rfl) ?_
  refine zj_if_eq (tgt := 35) dX8_join_4 (by decide) (fun zq => absurd zq (by decide)) (fun _ => ?_)
  refine zj_iload_n dX8_join_7 (by rfl) ?_
  refine zc_8_107 rfl dX8_join_8 hS (by exact Nat.le_of_ble_eq_true rfl) ?_
  refine zj_if_eq (tgt := 35) dX8_join_11 (by decide) (fun zq => absurd zq (by decide)) (fun _ => ?_)
  refine zj_iload_n dX8_join_14 (by rfl) ?_
  refine zj_iconst (v := nI 1) dX8_join_15 (by decide) ?_
  refine zj_bipush (v := nI 9) dX8_join_16 (by decide) ?_
  refine zc_8_63 rfl dX8_join_18 (m_isIn _ _ _) (by exact Nat.le_of_ble_eq_true rfl) ?_
  rw [s_is1 (nI_nlt (by omega) (by omega)) (nI_nlt (by omega) (by omega))]
  refine zj_if_eq (tgt := 35) dX8_join_21 (by decide) (fun zq => absurd zq (by decide)) (fun _ => ?_)
  refine zj_iload dX8_join_24 (by rfl) ?_
  refine zj_iconst (v := nI 0) dX8_join_26 (by decide) ?_
  refine zj_bipush (v := nI 96) dX8_join_27 (by decide) ?_
  refine zc_8_63 rfl dX8_join_29 (m_isIn _ _ _) (by exact Nat.le_of_ble_eq_true rfl) ?_
  rw [s_is1 (nI_nlt (by omega) (by omega)) (nI_nlt (by omega) (by omega))]
  refine zj_if_ne (tgt := 38) dX8_join_32 (by decide) (fun _ => ?_) (fun zq => absurd zq (by decide))
  refine zj_aload_n dX8_join_38 (by rfl) ?_
  refine zg_8_19 rfl dX8_join_39 (by first | assumption | rfl) (by rfl) ?_
  refine zj_iload_n dX8_join_42 (by rfl) ?_
  refine zj_ialdN dX8_join_43 (by first | assumption | rfl) (by omega) ?_
  rw [q51 p hp]
  refine zj_if_neN (tgt := 50) dX8_join_44 (by decide) (by omega) (fun zq => absurd (he) zq) (fun _ => ?_)
  refine zj_ldc (v := -1000000002) dX8_join_47 zq_708 ?_
  refine zj_iret dX8_join_49 rfl (Nat.le_refl _) (Nat.le_refl _) ?_
  exact ⟨rfl, rfl⟩
theorem m_joinF (w : WF C P S T H O g) (r : RM h C P S T H O g) {p ti gp : Nat} {v : Int32} (hp : p < 6) (hv : ¬ s_tpo v = 0) (ht : 1 ≤ ti ∧ ti ≤ 9) (hg : gp ≤ 96) (he : ¬ (P p).length = 0) (hf : O.length = 20) : zD mX8_join (d + 2) [.ref 47, .int (nI p), .int v, .int (nI ti), .int (nI gp)] h (some (.int (-1000000003))) h := by
  obtain ⟨m47, m48, m49, m50, m51, m52, m53, m54, m55, m56, m57, m58, m59, m60, m61, m62, m63⟩ := r
  obtain ⟨rd, wr, hw, o0⟩ := m47
  obtain ⟨fS, a51, q51⟩ := m51
  have hS := m_isSpeed (d := d + 1) (h := h) v
  rw [if_neg hv] at hS
  have l2 := (w.2.1 p hp).1
  refine zD_of (by decide +kernel) (by exact Nat.le_of_ble_eq_true rfl) ?_
  show zB mX8_join _ _ _ 0 [some (.ref 47), some (.int (nI p)), some (.int v), some (.int (nI ti)), some (.int (nI gp))] [] _
  refine zj_iload_n dX8_join_0 (by rfl) ?_
  refine zc_8_103 rfl dX8_join_1 (m_isPhrase hp) (by exact Nat.le_of_ble_eq_true rfl) ?_
  refine zj_if_eq (tgt := 35) dX8_join_4 (by decide) (fun zq => absurd zq (by decide)) (fun _ => ?_)
  refine zj_iload_n dX8_join_7 (by rfl) ?_
  refine zc_8_107 rfl dX8_join_8 hS (by exact Nat.le_of_ble_eq_true rfl) ?_
  refine zj_if_eq (tgt := 35) dX8_join_11 (by decide) (fun zq => absurd zq (by decide)) (fun _ => ?_)
  refine zj_iload_n dX8_join_14 (by rfl) ?_
  refine zj_iconst (v := nI 1) dX8_join_15 (by decide) ?_
  refine zj_bipush (v := nI 9) dX8_join_16 (by decide) ?_
  refine zc_8_63 rfl dX8_join_18 (m_isIn _ _ _) (by exact Nat.le_of_ble_eq_true rfl) ?_
  rw [s_is1 (nI_nlt (by omega) (by omega)) (nI_nlt (by omega) (by omega))]
  refine zj_if_eq (tgt := 35) dX8_join_21 (by decide) (fun zq => absurd zq (by decide)) (fun _ => ?_)
  refine zj_iload dX8_join_24 (by rfl) ?_
  refine zj_iconst (v := nI 0) dX8_join_26 (by decide) ?_
  refine zj_bipush (v := nI 96) dX8_join_27 (by decide) ?_
  refine zc_8_63 rfl dX8_join_29 (m_isIn _ _ _) (by exact Nat.le_of_ble_eq_true rfl) ?_
  rw [s_is1 (nI_nlt (by omega) (by omega)) (nI_nlt (by omega) (by omega))]
  refine zj_if_ne (tgt := 38) dX8_join_32 (by decide) (fun _ => ?_) (fun zq => absurd zq (by decide))
  refine zj_aload_n dX8_join_38 (by rfl) ?_
  refine zg_8_19 rfl dX8_join_39 (by first | assumption | rfl) (by rfl) ?_
  refine zj_iload_n dX8_join_42 (by rfl) ?_
  refine zj_ialdN dX8_join_43 (by first | assumption | rfl) (by omega) ?_
  rw [q51 p hp]
  refine zj_if_neN (tgt := 50) dX8_join_44 (by decide) (by omega) (fun _ => ?_) (fun zq => absurd zq (he))
  refine zj_aload_n dX8_join_50 (by rfl) ?_
  refine zg_8_175 rfl dX8_join_51 (by first | assumption | rfl) (by rfl) ?_
  refine zj_bipush (v := nI 20) dX8_join_54 (by decide) ?_
  refine zj_icmp_neN (tgt := 62) dX8_join_56 (by decide) (by omega) (fun zq => absurd (hf) zq) (fun _ => ?_)
  refine zj_ldc (v := -1000000003) dX8_join_59 zq_687 ?_
  refine zj_iret dX8_join_61 rfl (Nat.le_refl _) (Nat.le_refl _) ?_
  exact ⟨rfl, rfl⟩
theorem m_join (w : WF C P S T H O g) (r : RM h C P S T H O g) {p ti gp : Nat} {v : Int32} (hp : p < 6) (hv : ¬ s_tpo v = 0) (ht : 1 ≤ ti ∧ ti ≤ 9) (hg : gp ≤ 96) (he : ¬ (P p).length = 0) (hf : ¬ O.length = 20) : ∃ h', zD mX8_join (d + 2) [.ref 47, .int (nI p), .int v, .int (nI ti), .int (nI gp)] h (some (.int (nI (O.length + 1)))) h' ∧ RM h' C P S T H (O ++ [((P p).length * s_tpo v * ti, gp)]) g ∧ zEq 0 46 h h' := by
  have hTk := m_ticksOf (d := d + 1) r hp hv
  obtain ⟨m47, m48, m49, m50, m51, m52, m53, m54, m55, m56, m57, m58, m59, m60, m61, m62, m63⟩ := r
  obtain ⟨rd, wr, hw, o0⟩ := id m47
  obtain ⟨fS, a51, q51⟩ := id m51
  obtain ⟨f, a54, q54⟩ := id m54
  obtain ⟨f5, a55, q55⟩ := id m55
  have hS := m_isSpeed (d := d + 1) (h := h) v
  rw [if_neg hv] at hS
  have l2 := (w.2.1 p hp).1
  have l3 := w.2.2.2.2.2.1.1
  obtain ⟨x, hx⟩ : ∃ x, x = (P p).length * s_tpo v * ti := ⟨_, rfl⟩
  have hx2 : ti * ((P p).length * s_tpo v) = x := by rw [hx, Nat.mul_comm]
  rw [← hx]
  have o1 := zset_ne (o := 54) (c := .inl (1, 20, .inl (upd f O.length (nI x)))) (by decide) o0
  have b1 := zset_ne (o := 54) (c := .inl (1, 20, .inl (upd f O.length (nI x)))) (by decide) a55
  have o2 := zset_ne (o := 55) (c := .inl (1, 20, .inl (upd f5 O.length (nI gp)))) (by decide) o1
  have o3 := zset_eq (c := .inr (8, s_mo g (O.length + 1) T.length rd wr)) o2
  obtain ⟨hh, hhe⟩ : ∃ hh, hh = ((h.set 54 (.inl (1, 20, .inl (upd f O.length (nI x))))).set 55 (.inl (1, 20, .inl (upd f5 O.length (nI gp))))).set 47 (.inr (8, s_mo g (O.length + 1) T.length rd wr)) := ⟨_, rfl⟩
  have e : ∀ j, (¬ j = 47 ∧ ¬ j = 54 ∧ ¬ j = 55) → hh[j]? = h[j]? := fun j hj => by
    rw [hhe, List.getElem?_set, if_neg (fun x => hj.1 x.symm), List.getElem?_set, if_neg (fun x => hj.2.2 x.symm), List.getElem?_set, if_neg (fun x => hj.2.1 x.symm)]
  refine ⟨hh, ?_, ⟨⟨rd, wr, hw, ?_⟩, RA_e (e 48 (by decide)) m48, RA_e (e 49 (by decide)) m49, RA_e (e 50 (by decide)) m50, RA_e (e 51 (by decide)) m51, RA_e (e 52 (by decide)) m52, RA_e (e 53 (by decide)) m53, ⟨_, by rw [hhe]; exact zset_ne (by decide) (zset_ne (by decide) (zset_eq a54)), ?_⟩, ⟨_, by rw [hhe]; exact zset_ne (by decide) (zset_eq b1), ?_⟩, RA_e (e 56 (by decide)) m56, RA_e (e 57 (by decide)) m57, RA_e (e 58 (by decide)) m58, RA_e (e 59 (by decide)) m59, RJ_e (e 60 (by decide)) m60, RA_e (e 61 (by decide)) m61, RA_e (e 62 (by decide)) m62, RA_e (e 63 (by decide)) m63⟩, fun j h1 h2 => e j (by omega)⟩
  · rw [hhe]
    refine zD_of (by decide +kernel) (by exact Nat.le_of_ble_eq_true rfl) ?_
    show zB mX8_join _ _ _ 0 [some (.ref 47), some (.int (nI p)), some (.int v), some (.int (nI ti)), some (.int (nI gp))] [] _
    refine zj_iload_n dX8_join_0 (by rfl) ?_
    refine zc_8_103 rfl dX8_join_1 (m_isPhrase hp) (by exact Nat.le_of_ble_eq_true rfl) ?_
    refine zj_if_eq (tgt := 35) dX8_join_4 (by decide) (fun zq => absurd zq (by decide)) (fun _ => ?_)
    refine zj_iload_n dX8_join_7 (by rfl) ?_
    refine zc_8_107 rfl dX8_join_8 hS (by exact Nat.le_of_ble_eq_true rfl) ?_
    refine zj_if_eq (tgt := 35) dX8_join_11 (by decide) (fun zq => absurd zq (by decide)) (fun _ => ?_)
    refine zj_iload_n dX8_join_14 (by rfl) ?_
    refine zj_iconst (v := nI 1) dX8_join_15 (by decide) ?_
    refine zj_bipush (v := nI 9) dX8_join_16 (by decide) ?_
    refine zc_8_63 rfl dX8_join_18 (m_isIn _ _ _) (by exact Nat.le_of_ble_eq_true rfl) ?_
    rw [s_is1 (nI_nlt (by omega) (by omega)) (nI_nlt (by omega) (by omega))]
    refine zj_if_eq (tgt := 35) dX8_join_21 (by decide) (fun zq => absurd zq (by decide)) (fun _ => ?_)
    refine zj_iload dX8_join_24 (by rfl) ?_
    refine zj_iconst (v := nI 0) dX8_join_26 (by decide) ?_
    refine zj_bipush (v := nI 96) dX8_join_27 (by decide) ?_
    refine zc_8_63 rfl dX8_join_29 (m_isIn _ _ _) (by exact Nat.le_of_ble_eq_true rfl) ?_
    rw [s_is1 (nI_nlt (by omega) (by omega)) (nI_nlt (by omega) (by omega))]
    refine zj_if_ne (tgt := 38) dX8_join_32 (by decide) (fun _ => ?_) (fun zq => absurd zq (by decide))
    refine zj_aload_n dX8_join_38 (by rfl) ?_
    refine zg_8_19 rfl dX8_join_39 (by first | assumption | rfl) (by rfl) ?_
    refine zj_iload_n dX8_join_42 (by rfl) ?_
    refine zj_ialdN dX8_join_43 (by first | assumption | rfl) (by omega) ?_
    rw [q51 p hp]
    refine zj_if_neN (tgt := 50) dX8_join_44 (by decide) (by omega) (fun _ => ?_) (fun zq => absurd zq (he))
    refine zj_aload_n dX8_join_50 (by rfl) ?_
    refine zg_8_175 rfl dX8_join_51 (by first | assumption | rfl) (by rfl) ?_
    refine zj_bipush (v := nI 20) dX8_join_54 (by decide) ?_
    refine zj_icmp_neN (tgt := 62) dX8_join_56 (by decide) (by omega) (fun _ => ?_) (fun zq => absurd zq (hf))
    refine zj_aload_n dX8_join_62 (by rfl) ?_
    refine zg_8_32 rfl dX8_join_63 (by first | assumption | rfl) (by rfl) ?_
    refine zj_aload_n dX8_join_66 (by rfl) ?_
    refine zg_8_175 rfl dX8_join_67 (by first | assumption | rfl) (by rfl) ?_
    refine zj_iload_n dX8_join_70 (by rfl) ?_
    refine zj_aload_n dX8_join_71 (by rfl) ?_
    refine zj_iload_n dX8_join_72 (by rfl) ?_
    refine zj_iload_n dX8_join_73 (by rfl) ?_
    refine zc_8_110 rfl dX8_join_74 (by first | assumption | rfl) hTk (by exact Nat.le_of_ble_eq_true rfl) ?_
    refine zj_imulN dX8_join_77 ?_
    rw [hx2]
    refine zj_iastN dX8_join_78 (by first | assumption | rfl) (by omega) ?_
    refine zj_aload_n dX8_join_79 (by rfl) ?_
    refine zg_8_35 rfl dX8_join_80 (by first | assumption | rfl) (by rfl) ?_
    refine zj_aload_n dX8_join_83 (by rfl) ?_
    refine zg_8_175 rfl dX8_join_84 (by first | assumption | rfl) (by rfl) ?_
    refine zj_iload dX8_join_87 (by rfl) ?_
    refine zj_iastN dX8_join_89 (by first | assumption | rfl) (by omega) ?_
    refine zj_aload_n dX8_join_90 (by rfl) ?_
    refine zj_dup dX8_join_91 rfl ?_
    refine zg_8_175 rfl dX8_join_92 (by first | assumption | rfl) (by rfl) ?_
    refine zj_iconst (v := nI 1) dX8_join_95 (by decide) ?_
    refine zj_iaddN dX8_join_96 ?_
    refine zp_8_175 rfl dX8_join_97 (by first | assumption | rfl) (by exact Nat.le_of_ble_eq_true rfl) ?_
    refine zj_aload_n dX8_join_100 (by rfl) ?_
    refine zg_8_175 rfl dX8_join_101 (by first | assumption | rfl) (by rfl) ?_
    refine zj_iret dX8_join_104 rfl (Nat.le_refl _) (Nat.le_refl _) ?_
    exact ⟨rfl, rfl⟩
  · rw [hhe, o3]
    simp
  · intro j hj
    rw [List.length_append, List.length_singleton] at hj
    unfold s_tk
    by_cases ej : j = O.length
    · subst ej; rw [pk_us, z_qe]
    · rw [pk_un ej, z_qd (by omega)]; exact q54 j (by omega)
  · intro j hj
    rw [List.length_append, List.length_singleton] at hj
    unfold s_gp
    by_cases ej : j = O.length
    · subst ej; rw [pk_us, z_qe]
    · rw [pk_un ej, z_qd (by omega)]; exact q55 j (by omega)
theorem m_drop (r : RM h C P S T H O g) : ∃ h', zD mX8_drop d [.ref 47] h (some (.int (nI O.length))) h' ∧ RM h' C P S T H [] g ∧ zEq 0 46 h h' := by
  obtain ⟨m47, m48, m49, m50, m51, m52, m53, m54, m55, m56, m57, m58, m59, m60, m61, m62, m63⟩ := r
  obtain ⟨rd, wr, hw, o0⟩ := id m47
  obtain ⟨f, a54, q54⟩ := id m54
  obtain ⟨f5, a55, q55⟩ := id m55
  have e : ∀ j, (¬ j = 47) → (h.set 47 (.inr (8, s_mo g 0 T.length rd wr)))[j]? = h[j]? := fun j hj => by rw [List.getElem?_set, if_neg (fun x => hj x.symm)]
  refine ⟨_, ?_, ⟨⟨rd, wr, hw, zset_eq o0⟩, RA_e (e 48 (by decide)) m48, RA_e (e 49 (by decide)) m49, RA_e (e 50 (by decide)) m50, RA_e (e 51 (by decide)) m51, RA_e (e 52 (by decide)) m52, RA_e (e 53 (by decide)) m53, ⟨f, zset_ne (by decide) a54, fun j hj => absurd hj (Nat.not_lt_zero _)⟩, ⟨f5, zset_ne (by decide) a55, fun j hj => absurd hj (Nat.not_lt_zero _)⟩, RA_e (e 56 (by decide)) m56, RA_e (e 57 (by decide)) m57, RA_e (e 58 (by decide)) m58, RA_e (e 59 (by decide)) m59, RJ_e (e 60 (by decide)) m60, RA_e (e 61 (by decide)) m61, RA_e (e 62 (by decide)) m62, RA_e (e 63 (by decide)) m63⟩, fun j h1 h2 => e j (by omega)⟩
  refine zD_of (by decide +kernel) (by exact Nat.le_of_ble_eq_true rfl) ?_
  show zB mX8_drop _ _ _ 0 [some (.ref 47), none] [] _
  refine zj_aload_n dX8_drop_0 (by rfl) ?_
  refine zg_8_175 rfl dX8_drop_1 (by first | assumption | rfl) (by rfl) ?_
  refine zj_istore_n dX8_drop_4 (by decide) ?_
  refine zj_aload_n dX8_drop_5 (by rfl) ?_
  refine zj_iconst (v := 0) dX8_drop_6 (by decide) ?_
  refine zp_8_175 rfl dX8_drop_7 (by first | assumption | rfl) (by exact Nat.le_of_ble_eq_true rfl) ?_
  refine zj_iload_n dX8_drop_10 (by rfl) ?_
  refine zj_iret dX8_drop_11 rfl (Nat.le_refl _) (Nat.le_refl _) ?_
  exact ⟨rfl, rfl⟩
theorem m_endOf_l (r : RM h C P S T H O g) {p : Nat} (hp : p < O.length) (h20 : O.length ≤ 20) : ∀ m i, i + m = p + 1 → zB mX8_endOf d (some (.int (nI (s_end (s_tk O) (s_gp O) (p + 1))))) h 4 [some (.ref 47), some (.int (nI p)), some (.int (nI (s_end (s_tk O) (s_gp O) i))), some (.int (nI i))] [] h := by
  obtain ⟨m47, m48, m49, m50, m51, m52, m53, m54, m55, m56, m57, m58, m59, m60, m61, m62, m63⟩ := r
  obtain ⟨rd, wr, hw, o0⟩ := m47
  obtain ⟨f, a54, q54⟩ := m54
  obtain ⟨f5, a55, q55⟩ := m55
  intro m
  induction m with
  | zero =>
    intro i hi
    refine zj_iload_n dX8_endOf_4 (by rfl) ?_
    refine zj_iload_n dX8_endOf_5 (by rfl) ?_
    refine zj_icmp_gtN (tgt := 31) dX8_endOf_6 (by decide) (by omega) (fun _ => ?_) (fun zq => absurd (by omega) zq)
    refine zj_iload_n dX8_endOf_31 (by rfl) ?_
    refine zj_iret dX8_endOf_32 rfl (Nat.le_refl _) (Nat.le_refl _) ?_
    exact ⟨by rw [show i = p + 1 by omega], rfl⟩
  | succ m ih =>
    intro i hi
    refine zj_iload_n dX8_endOf_4 (by rfl) ?_
    refine zj_iload_n dX8_endOf_5 (by rfl) ?_
    refine zj_icmp_gtN (tgt := 31) dX8_endOf_6 (by decide) (by omega) (fun zq => absurd zq (by omega)) (fun _ => ?_)
    refine zj_iload_n dX8_endOf_9 (by rfl) ?_
    refine zj_aload_n dX8_endOf_10 (by rfl) ?_
    refine zg_8_32 rfl dX8_endOf_11 (by first | assumption | rfl) (by rfl) ?_
    refine zj_iload_n dX8_endOf_14 (by rfl) ?_
    refine zj_ialdN dX8_endOf_15 (by first | assumption | rfl) (by omega) ?_
    rw [q54 _ (by omega)]
    refine zj_aload_n dX8_endOf_16 (by rfl) ?_
    refine zg_8_35 rfl dX8_endOf_17 (by first | assumption | rfl) (by rfl) ?_
    refine zj_iload_n dX8_endOf_20 (by rfl) ?_
    refine zj_ialdN dX8_endOf_21 (by first | assumption | rfl) (by omega) ?_
    rw [q55 _ (by omega)]
    refine zj_iaddN dX8_endOf_22 ?_
    refine zj_iaddN dX8_endOf_23 ?_
    refine zj_istore_n dX8_endOf_24 (by decide) ?_
    refine zj_iincN dX8_endOf_25 (by rfl) (by decide) ?_
    refine zj_goto (tgt := 4) dX8_endOf_28 (by decide) ?_
    exact ih (i + 1) (by omega)
theorem m_endOf (w : WF C P S T H O g) (r : RM h C P S T H O g) {p : Nat} (hp : p < O.length) : zD mX8_endOf d [.ref 47, .int (nI p)] h (some (.int (nI (s_end (s_tk O) (s_gp O) (p + 1))))) h := by
  refine zD_of (by decide +kernel) (by exact Nat.le_of_ble_eq_true rfl) ?_
  show zB mX8_endOf _ _ _ 0 [some (.ref 47), some (.int (nI p)), none, none] [] _
  refine zj_iconst (v := nI 0) dX8_endOf_0 (by decide) ?_
  refine zj_istore_n dX8_endOf_1 (by decide) ?_
  refine zj_iconst (v := nI 0) dX8_endOf_2 (by decide) ?_
  refine zj_istore_n dX8_endOf_3 (by decide) ?_
  exact m_endOf_l r hp w.2.2.2.2.2.1.1 (p + 1) 0 (by omega)
theorem WO_end (w : WF C P S T H O g) {n : Nat} (hn : n ≤ O.length) : s_end (s_tk O) (s_gp O) n ≤ 261120 := by
  have hb := s_end_le (tk := s_tk O) (gp := s_gp O) n (fun j hj => s_getQ (p := fun q => q.1 ≤ 12960 ∧ q.2 ≤ 96) (show j < O.length by omega) w.2.2.2.2.2.1.2)
  have := w.2.2.2.2.2.1.1
  omega
theorem m_accountA (r : RM h C P S T H O g) {c i : Int32} (hc : c < 0 ∨ 4 ≤ c) : zD mX8_account (d + 2) [.ref 47, .int c, .int i] h (some (.int (-1000000001))) h := by
  refine zD_of (by decide +kernel) (by exact Nat.le_of_ble_eq_true rfl) ?_
  show zB mX8_account _ _ _ 0 [some (.ref 47), some (.int c), some (.int i)] [] _
  refine zj_iload_n dX8_account_0 (by rfl) ?_
  refine zc_8_67 rfl dX8_account_1 (m_isCycleN hc) (by exact Nat.le_of_ble_eq_true rfl) ?_
  refine zj_if_eq (tgt := 21) dX8_account_4 (by decide) (fun _ => ?_) (fun zq => absurd (rfl) zq)
  refine zj_ldc (v := -1000000001) dX8_account_21 zq_686 ?_
  refine zj_iret dX8_account_23 rfl (Nat.le_refl _) (Nat.le_refl _) ?_
  exact ⟨rfl, rfl⟩
theorem m_accountB (w : WF C P S T H O g) (r : RM h C P S T H O g) {c : Nat} {i : Int32} (hc : c < 4) (hi : i < 0 ∨ ¬ i < nI O.length) : zD mX8_account (d + 2) [.ref 47, .int (nI c), .int i] h (some (.int (-1000000001))) h := by
  obtain ⟨⟨rd, wr, hw, o0⟩, -⟩ := id r
  have l3 := w.2.2.2.2.2.1.1
  have hb : i < 0 ∨ nI O.length - 1 < i := by
    by_cases h0 : i < 0
    · exact Or.inl h0
    · exact Or.inr (s_le1 (Int32.not_lt.mp (hi.resolve_left h0)) (by omega) h0)
  refine zD_of (by decide +kernel) (by exact Nat.le_of_ble_eq_true rfl) ?_
  show zB mX8_account _ _ _ 0 [some (.ref 47), some (.int (nI c)), some (.int i)] [] _
  refine zj_iload_n dX8_account_0 (by rfl) ?_
  refine zc_8_67 rfl dX8_account_1 (m_isCycle hc) (by exact Nat.le_of_ble_eq_true rfl) ?_
  refine zj_if_eq (tgt := 21) dX8_account_4 (by decide) (fun zq => absurd zq (by decide)) (fun _ => ?_)
  refine zj_iload_n dX8_account_7 (by rfl) ?_
  refine zj_iconst (v := 0) dX8_account_8 (by decide) ?_
  refine zj_aload_n dX8_account_9 (by rfl) ?_
  refine zg_8_175 rfl dX8_account_10 (by first | assumption | rfl) (by rfl) ?_
  refine zj_iconst (v := 1) dX8_account_13 (by decide) ?_
  refine zj_isub dX8_account_14 ?_
  refine zc_8_63 rfl dX8_account_15 (m_isIn _ _ _) (by exact Nat.le_of_ble_eq_true rfl) ?_
  rw [s_is0 hb]
  refine zj_if_ne (tgt := 24) dX8_account_18 (by decide) (fun zq => absurd (rfl) zq) (fun _ => ?_)
  refine zj_ldc (v := -1000000001) dX8_account_21 zq_686 ?_
  refine zj_iret dX8_account_23 rfl (Nat.le_refl _) (Nat.le_refl _) ?_
  exact ⟨rfl, rfl⟩
theorem m_account (w : WF C P S T H O g) (r : RM h C P S T H O g) {c i : Nat} (hc : c < 4) (hi : i < O.length) : zD mX8_account (d + 2) [.ref 47, .int (nI c), .int (nI i)] h (some (.int (if (C c).length = 0 then -1000000002 else nI (s_end (s_tk O) (s_gp O) (i + 1) % s_cl C c)))) h := by
  have hE := m_endOf (d := d + 1) w r hi
  have hL := m_lengthOf (d := d + 1) w r hc
  obtain ⟨m47, m48, m49, m50, m51, m52, m53, m54, m55, m56, m57, m58, m59, m60, m61, m62, m63⟩ := r
  obtain ⟨rd, wr, hw, o0⟩ := m47
  obtain ⟨fL, a48, q48⟩ := m48
  have l1 := (w.1 c hc).1
  have l3 := w.2.2.2.2.2.1.1
  have hb := WO_end w (n := i + 1) (by omega)
  have hLe := s_cl_le w.1 hc
  refine zD_of (by decide +kernel) (by exact Nat.le_of_ble_eq_true rfl) ?_
  show zB mX8_account _ _ _ 0 [some (.ref 47), some (.int (nI c)), some (.int (nI i))] [] _
  refine zj_iload_n dX8_account_0 (by rfl) ?_
  refine zc_8_67 rfl dX8_account_1 (m_isCycle hc) (by exact Nat.le_of_ble_eq_true rfl) ?_
  refine zj_if_eq (tgt := 21) dX8_account_4 (by decide) (fun zq => absurd zq (by decide)) (fun _ => ?_)
  refine zj_iload_n dX8_account_7 (by rfl) ?_
  refine zj_iconst (v := nI 0) dX8_account_8 (by decide) ?_
  refine zj_aload_n dX8_account_9 (by rfl) ?_
  refine zg_8_175 rfl dX8_account_10 (by first | assumption | rfl) (by rfl) ?_
  refine zj_iconst (v := nI 1) dX8_account_13 (by decide) ?_
  refine zj_isubN dX8_account_14 (by omega) ?_
  refine zc_8_63 rfl dX8_account_15 (m_isIn _ _ _) (by exact Nat.le_of_ble_eq_true rfl) ?_
  rw [s_is1 (nI_nlt (by omega) (by omega)) (nI_nlt (by omega) (by omega))]
  refine zj_if_ne (tgt := 24) dX8_account_18 (by decide) (fun _ => ?_) (fun zq => absurd zq (by decide))
  refine zj_aload_n dX8_account_24 (by rfl) ?_
  refine zg_8_7 rfl dX8_account_25 (by first | assumption | rfl) (by rfl) ?_
  refine zj_iload_n dX8_account_28 (by rfl) ?_
  refine zj_ialdN dX8_account_29 (by first | assumption | rfl) (by omega) ?_
  rw [q48 c hc]
  refine zj_if_neN (tgt := 38) dX8_account_30 (by decide) (by omega) (fun q30 => ?_) (fun q30 => ?_)
  · refine zj_aload_n dX8_account_38 (by rfl) ?_
    refine zj_iload_n dX8_account_39 (by rfl) ?_
    refine zc_8_178 rfl dX8_account_40 (by first | assumption | rfl) hE (by exact Nat.le_of_ble_eq_true rfl) ?_
    refine zj_aload_n dX8_account_43 (by rfl) ?_
    refine zj_iload_n dX8_account_44 (by rfl) ?_
    refine zc_8_73 rfl dX8_account_45 (by first | assumption | rfl) hL (by exact Nat.le_of_ble_eq_true rfl) ?_
    have hLp := s_cl_pos w.1 hc q30
    refine zj_iremN dX8_account_48 (by omega) ?_
    refine zj_iret dX8_account_49 rfl (Nat.le_refl _) (Nat.le_refl _) ?_
    exact ⟨by first | (rw [if_pos q30]; done) | (rw [if_neg q30]; done), rfl⟩
  · refine zj_ldc (v := -1000000002) dX8_account_33 zq_708 ?_
    refine zj_goto (tgt := 49) dX8_account_35 (by decide) ?_
    refine zj_iret dX8_account_49 rfl (Nat.le_refl _) (Nat.le_refl _) ?_
    exact ⟨by first | (rw [if_pos q30]; done) | (rw [if_neg q30]; done), rfl⟩
theorem m_landingsA (r : RM h C P S T H O g) {c : Int32} (hc : c < 0 ∨ 4 ≤ c) : zD mX8_landings (d + 2) [.ref 47, .int c] h (some (.int (-1000000001))) h := by
  refine zD_of (by decide +kernel) (by exact Nat.le_of_ble_eq_true rfl) ?_
  show zB mX8_landings _ _ _ 0 [some (.ref 47), some (.int c), none, none] [] _
  refine zj_iload_n dX8_landings_0 (by rfl) ?_
  refine zc_8_67 rfl dX8_landings_1 (m_isCycleN hc) (by exact Nat.le_of_ble_eq_true rfl) ?_
  refine zj_if_ne (tgt := 10) dX8_landings_4 (by decide) (fun zq => absurd (rfl) zq) (fun _ => ?_)
  refine zj_ldc (v := -1000000001) dX8_landings_7 zq_686 ?_
  refine zj_iret dX8_landings_9 rfl (Nat.le_refl _) (Nat.le_refl _) ?_
  exact ⟨rfl, rfl⟩
theorem m_landings_l (w : WF C P S T H O g) (r : RM h C P S T H O g) {c : Nat} (hc : c < 4) (h0 : ¬ (C c).length = 0) : ∀ m i, i + m = O.length → zB mX8_landings (d + 1) (some (.int (nI (s_lnd (s_tk O) (s_gp O) (s_cl C c) O.length)))) h 26 [some (.ref 47), some (.int (nI c)), some (.int (nI (s_lnd (s_tk O) (s_gp O) (s_cl C c) i))), some (.int (nI i))] [] h := by
  obtain ⟨⟨rd, wr, hw, o0⟩, -⟩ := id r
  have l3 := w.2.2.2.2.2.1.1
  have hLe := s_cl_le w.1 hc
  have hLp := s_cl_pos w.1 hc h0
  have hL := m_lengthOf (d := d) w r hc
  intro m
  induction m with
  | zero =>
    intro i hi
    refine zj_iload_n dX8_landings_26 (by rfl) ?_
    refine zj_aload_n dX8_landings_27 (by rfl) ?_
    refine zg_8_175 rfl dX8_landings_28 (by first | assumption | rfl) (by rfl) ?_
    refine zj_icmp_geN (tgt := 62) dX8_landings_31 (by decide) (by omega) (fun _ => ?_) (fun zq => absurd (by omega) zq)
    refine zj_iload_n dX8_landings_62 (by rfl) ?_
    refine zj_iret dX8_landings_63 rfl (Nat.le_refl _) (Nat.le_refl _) ?_
    exact ⟨by rw [show i = O.length by omega], rfl⟩
  | succ m ih =>
    intro i hi
    have hJ := ih (i + 1) (by omega)
    have e1 : s_lnd (s_tk O) (s_gp O) (s_cl C c) (i + 1) = s_lnd (s_tk O) (s_gp O) (s_cl C c) i + (if s_end (s_tk O) (s_gp O) (i + 1) % s_cl C c = 0 then 1 else 0) := rfl
    have hE := m_endOf (d := d) w r (p := i) (by omega)
    have hb := WO_end w (n := i + 1) (by omega)
    have hm := Nat.mod_lt (s_end (s_tk O) (s_gp O) (i + 1)) hLp
    rw [e1] at hJ
    refine zj_iload_n dX8_landings_26 (by rfl) ?_
    refine zj_aload_n dX8_landings_27 (by rfl) ?_
    refine zg_8_175 rfl dX8_landings_28 (by first | assumption | rfl) (by rfl) ?_
    refine zj_icmp_geN (tgt := 62) dX8_landings_31 (by decide) (by omega) (fun zq => absurd zq (by omega)) (fun _ => ?_)
    refine zj_iload_n dX8_landings_34 (by rfl) ?_
    refine zj_aload_n dX8_landings_35 (by rfl) ?_
    refine zj_iload_n dX8_landings_36 (by rfl) ?_
    refine zc_8_178 rfl dX8_landings_37 (by first | assumption | rfl) hE (by exact Nat.le_of_ble_eq_true rfl) ?_
    refine zj_aload_n dX8_landings_40 (by rfl) ?_
    refine zj_iload_n dX8_landings_41 (by rfl) ?_
    refine zc_8_73 rfl dX8_landings_42 (by first | assumption | rfl) hL (by exact Nat.le_of_ble_eq_true rfl) ?_
    refine zj_iremN dX8_landings_45 (by omega) ?_
    refine zj_if_neN (tgt := 53) dX8_landings_46 (by decide) (by omega) (fun q46 => ?_) (fun q46 => ?_)
    · refine zj_iconst (v := nI 0) dX8_landings_53 (by decide) ?_
      refine zj_iaddN dX8_landings_54 ?_
      refine zj_istore_n dX8_landings_55 (by decide) ?_
      refine zj_iincN dX8_landings_56 (by rfl) (by decide) ?_
      refine zj_goto (tgt := 26) dX8_landings_59 (by decide) ?_
      first | (rw [if_pos q46] at hJ; exact hJ) | (rw [if_neg q46] at hJ; exact hJ)
    · refine zj_iconst (v := nI 1) dX8_landings_49 (by decide) ?_
      refine zj_goto (tgt := 54) dX8_landings_50 (by decide) ?_
      refine zj_iaddN dX8_landings_54 ?_
      refine zj_istore_n dX8_landings_55 (by decide) ?_
      refine zj_iincN dX8_landings_56 (by rfl) (by decide) ?_
      refine zj_goto (tgt := 26) dX8_landings_59 (by decide) ?_
      first | (rw [if_pos q46] at hJ; exact hJ) | (rw [if_neg q46] at hJ; exact hJ)
theorem m_landings (w : WF C P S T H O g) (r : RM h C P S T H O g) {c : Nat} (hc : c < 4) : zD mX8_landings (d + 2) [.ref 47, .int (nI c)] h (some (.int (if (C c).length = 0 then -1000000002 else nI (s_lnd (s_tk O) (s_gp O) (s_cl C c) O.length)))) h := by
  obtain ⟨m47, m48, m49, m50, m51, m52, m53, m54, m55, m56, m57, m58, m59, m60, m61, m62, m63⟩ := id r
  obtain ⟨rd, wr, hw, o0⟩ := m47
  obtain ⟨fL, a48, q48⟩ := m48
  have l1 := (w.1 c hc).1
  refine zD_of (by decide +kernel) (by exact Nat.le_of_ble_eq_true rfl) ?_
  show zB mX8_landings _ _ _ 0 [some (.ref 47), some (.int (nI c)), none, none] [] _
  refine zj_iload_n dX8_landings_0 (by rfl) ?_
  refine zc_8_67 rfl dX8_landings_1 (m_isCycle hc) (by exact Nat.le_of_ble_eq_true rfl) ?_
  refine zj_if_ne (tgt := 10) dX8_landings_4 (by decide) (fun _ => ?_) (fun zq => absurd zq (by decide))
  refine zj_aload_n dX8_landings_10 (by rfl) ?_
  refine zg_8_7 rfl dX8_landings_11 (by first | assumption | rfl) (by rfl) ?_
  refine zj_iload_n dX8_landings_14 (by rfl) ?_
  refine zj_ialdN dX8_landings_15 (by first | assumption | rfl) (by omega) ?_
  rw [q48 c hc]
  refine zj_if_neN (tgt := 22) dX8_landings_16 (by decide) (by omega) (fun q16 => ?_) (fun q16 => ?_)
  · refine zj_iconst (v := nI 0) dX8_landings_22 (by decide) ?_
    refine zj_istore_n dX8_landings_23 (by decide) ?_
    refine zj_iconst (v := nI 0) dX8_landings_24 (by decide) ?_
    refine zj_istore_n dX8_landings_25 (by decide) ?_
    rw [if_neg q16]
    exact m_landings_l (d := d + 1) w r hc q16 O.length 0 (by omega)
  · refine zj_ldc (v := -1000000002) dX8_landings_19 zq_708 ?_
    refine zj_iret dX8_landings_21 rfl (Nat.le_refl _) (Nat.le_refl _) ?_
    exact ⟨by rw [if_pos q16], rfl⟩
theorem m_homeA (r : RM h C P S T H O g) {c : Int32} (hc : c < 0 ∨ 4 ≤ c) : zD mX8_home (d + 2) [.ref 47, .int c] h (some (.int (-1000000001))) h := by
  refine zD_of (by decide +kernel) (by exact Nat.le_of_ble_eq_true rfl) ?_
  show zB mX8_home _ _ _ 0 [some (.ref 47), some (.int c), none] [] _
  refine zj_iload_n dX8_home_0 (by rfl) ?_
  refine zc_8_67 rfl dX8_home_1 (m_isCycleN hc) (by exact Nat.le_of_ble_eq_true rfl) ?_
  refine zj_if_ne (tgt := 10) dX8_home_4 (by decide) (fun zq => absurd (rfl) zq) (fun _ => ?_)
  refine zj_ldc (v := -1000000001) dX8_home_7 zq_686 ?_
  refine zj_iret dX8_home_9 rfl (Nat.le_refl _) (Nat.le_refl _) ?_
  exact ⟨rfl, rfl⟩
theorem m_home (w : WF C P S T H O g) (r : RM h C P S T H O g) {c : Nat} (hc : c < 4) : zD mX8_home (d + 2) [.ref 47, .int (nI c)] h (some (.int (if (C c).length = 0 ∨ O.length = 0 then -1000000002 else nI (s_w (s_end (s_tk O) (s_gp O) O.length - s_gp O (O.length - 1)) (s_cl C c))))) h := by
  have hL := m_lengthOf (d := d + 1) w r hc
  have hE := fun (hp : 0 < O.length) => m_endOf (d := d + 1) w r (p := O.length - 1) (by omega)
  obtain ⟨m47, m48, m49, m50, m51, m52, m53, m54, m55, m56, m57, m58, m59, m60, m61, m62, m63⟩ := id r
  obtain ⟨rd, wr, hw, o0⟩ := m47
  obtain ⟨fL, a48, q48⟩ := m48
  obtain ⟨f5, a55, q55⟩ := m55
  have l1 := (w.1 c hc).1
  have l3 := w.2.2.2.2.2.1.1
  have hLe := s_cl_le w.1 hc
  have hb := WO_end w (n := O.length) (by omega)
  by_cases hz : (C c).length = 0 ∨ O.length = 0
  · rw [if_pos hz]
    refine zD_of (by decide +kernel) (by exact Nat.le_of_ble_eq_true rfl) ?_
    show zB mX8_home _ _ _ 0 [some (.ref 47), some (.int (nI c)), none] [] _
    refine zj_iload_n dX8_home_0 (by rfl) ?_
    refine zc_8_67 rfl dX8_home_1 (m_isCycle hc) (by exact Nat.le_of_ble_eq_true rfl) ?_
    refine zj_if_ne (tgt := 10) dX8_home_4 (by decide) (fun _ => ?_) (fun zq => absurd zq (by decide))
    refine zj_aload_n dX8_home_10 (by rfl) ?_
    refine zg_8_7 rfl dX8_home_11 (by first | assumption | rfl) (by rfl) ?_
    refine zj_iload_n dX8_home_14 (by rfl) ?_
    refine zj_ialdN dX8_home_15 (by first | assumption | rfl) (by omega) ?_
    rw [q48 c hc]
    refine zj_if_eqN (tgt := 26) dX8_home_16 (by decide) (by omega) (fun q16 => ?_) (fun q16 => ?_)
    · refine zj_ldc (v := -1000000002) dX8_home_26 zq_708 ?_
      refine zj_iret dX8_home_28 rfl (Nat.le_refl _) (Nat.le_refl _) ?_
      exact ⟨rfl, rfl⟩
    · refine zj_aload_n dX8_home_19 (by rfl) ?_
      refine zg_8_175 rfl dX8_home_20 (by first | assumption | rfl) (by rfl) ?_
      refine zj_if_neN (tgt := 29) dX8_home_23 (by decide) (by omega) (fun q23 => ?_) (fun q23 => ?_)
      · exact absurd hz (fun hh => hh.elim q16 q23)
      · refine zj_ldc (v := -1000000002) dX8_home_26 zq_708 ?_
        refine zj_iret dX8_home_28 rfl (Nat.le_refl _) (Nat.le_refl _) ?_
        exact ⟨rfl, rfl⟩
  · rw [if_neg hz]
    have hO : 0 < O.length := by omega
    have hLp := s_cl_pos w.1 hc (fun e => hz (Or.inl e))
    have hE1 := hE hO
    rw [show O.length - 1 + 1 = O.length by omega] at hE1
    have he : s_end (s_tk O) (s_gp O) (O.length - 1 + 1) = s_end (s_tk O) (s_gp O) (O.length - 1) + (s_tk O (O.length - 1) + s_gp O (O.length - 1)) := rfl
    rw [show O.length - 1 + 1 = O.length by omega] at he
    have hm := Nat.mod_lt (s_end (s_tk O) (s_gp O) O.length - s_gp O (O.length - 1)) hLp
    refine zD_of (by decide +kernel) (by exact Nat.le_of_ble_eq_true rfl) ?_
    show zB mX8_home _ _ _ 0 [some (.ref 47), some (.int (nI c)), none] [] _
    refine zj_iload_n dX8_home_0 (by rfl) ?_
    refine zc_8_67 rfl dX8_home_1 (m_isCycle hc) (by exact Nat.le_of_ble_eq_true rfl) ?_
    refine zj_if_ne (tgt := 10) dX8_home_4 (by decide) (fun _ => ?_) (fun zq => absurd zq (by decide))
    refine zj_aload_n dX8_home_10 (by rfl) ?_
    refine zg_8_7 rfl dX8_home_11 (by first | assumption | rfl) (by rfl) ?_
    refine zj_iload_n dX8_home_14 (by rfl) ?_
    refine zj_ialdN dX8_home_15 (by first | assumption | rfl) (by omega) ?_
    rw [q48 c hc]
    refine zj_if_eqN (tgt := 26) dX8_home_16 (by decide) (by omega) (fun zq => absurd zq (fun e => hz (Or.inl e))) (fun _ => ?_)
    refine zj_aload_n dX8_home_19 (by rfl) ?_
    refine zg_8_175 rfl dX8_home_20 (by first | assumption | rfl) (by rfl) ?_
    refine zj_if_neN (tgt := 29) dX8_home_23 (by decide) (by omega) (fun _ => ?_) (fun zq => absurd zq (by omega))
    refine zj_aload_n dX8_home_29 (by rfl) ?_
    refine zj_iload_n dX8_home_30 (by rfl) ?_
    refine zc_8_73 rfl dX8_home_31 (by first | assumption | rfl) hL (by exact Nat.le_of_ble_eq_true rfl) ?_
    refine zj_istore_n dX8_home_34 (by decide) ?_
    refine zj_iload_n dX8_home_35 (by rfl) ?_
    refine zj_aload_n dX8_home_36 (by rfl) ?_
    refine zj_aload_n dX8_home_37 (by rfl) ?_
    refine zg_8_175 rfl dX8_home_38 (by first | assumption | rfl) (by rfl) ?_
    refine zj_iconst (v := nI 1) dX8_home_41 (by decide) ?_
    refine zj_isubN dX8_home_42 (by omega) ?_
    refine zc_8_178 rfl dX8_home_43 (by first | assumption | rfl) hE1 (by exact Nat.le_of_ble_eq_true rfl) ?_
    refine zj_aload_n dX8_home_46 (by rfl) ?_
    refine zg_8_35 rfl dX8_home_47 (by first | assumption | rfl) (by rfl) ?_
    refine zj_aload_n dX8_home_50 (by rfl) ?_
    refine zg_8_175 rfl dX8_home_51 (by first | assumption | rfl) (by rfl) ?_
    refine zj_iconst (v := nI 1) dX8_home_54 (by decide) ?_
    refine zj_isubN dX8_home_55 (by omega) ?_
    refine zj_ialdN dX8_home_56 (by first | assumption | rfl) (by omega) ?_
    rw [q55 _ (by omega)]
    refine zj_isubN dX8_home_57 (by omega) ?_
    refine zj_iload_n dX8_home_58 (by rfl) ?_
    refine zj_iremN dX8_home_59 (by omega) ?_
    refine zj_isubN dX8_home_60 (by omega) ?_
    refine zj_iload_n dX8_home_61 (by rfl) ?_
    refine zj_iremN dX8_home_62 (by omega) ?_
    refine zj_iret dX8_home_63 rfl (Nat.le_refl _) (Nat.le_refl _) ?_
    exact ⟨rfl, rfl⟩
end M5
