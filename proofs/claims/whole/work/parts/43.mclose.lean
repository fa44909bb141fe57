section M3
variable {h h' : zH} {C : Nat → List (Nat × Nat)} {P : Nat → List Nat} {S : Nat → Option (List Int32)} {T : List Nat} {H : Nat → Nat} {O : List (Nat × Nat)} {g d : Nat}
def s_bad3 (c p how : Int32) : Prop := (c < 0 ∨ 4 ≤ c) ∨ (p < 0 ∨ 6 ≤ p) ∨ (how < 0 ∨ ∃ v, v < 2 ^ 31 ∧ how = nI v ∧ s_how v = false)
theorem m_refBad (r : RM h C P S T H O g) {c p how : Int32} (hb : s_bad3 c p how) : zD mX8_refused (d + 2) [.ref 47, .int c, .int p, .int how] h (some (.int (-1000000001))) h := by
  by_cases hc : c < 0 ∨ 4 ≤ c
  · refine zD_of (by decide +kernel) (by exact Nat.le_of_ble_eq_true rfl) ?_
    show zB mX8_refused _ _ _ 0 [some (.ref 47), some (.int c), some (.int p), some (.int how)] [] _
    refine zj_iload_n dX8_refused_0 (by rfl) ?_
    refine zc_8_67 rfl dX8_refused_1 (m_isCycleN hc) (by exact Nat.le_of_ble_eq_true rfl) ?_
    refine zj_if_eq (tgt := 36) dX8_refused_4 (by decide) (fun _ => ?_) (fun zq => absurd (rfl) zq)
    refine zj_ldc (v := -1000000001) dX8_refused_36 zq_686 ?_
    refine zj_iret dX8_refused_38 rfl (Nat.le_refl _) (Nat.le_refl _) ?_
    exact ⟨rfl, rfl⟩
  · obtain ⟨i, hi, rfl⟩ : ∃ i, i < 4 ∧ c = nI i := ((pk_ix c (n := 4) (by decide)).resolve_left (fun e => hc (Or.inl e))).resolve_left (fun e => hc (Or.inr e))
    by_cases hp : p < 0 ∨ 6 ≤ p
    · refine zD_of (by decide +kernel) (by exact Nat.le_of_ble_eq_true rfl) ?_
      show zB mX8_refused _ _ _ 0 [some (.ref 47), some (.int (nI i)), some (.int p), some (.int how)] [] _
      refine zj_iload_n dX8_refused_0 (by rfl) ?_
      refine zc_8_67 rfl dX8_refused_1 (m_isCycle hi) (by exact Nat.le_of_ble_eq_true rfl) ?_
      refine zj_if_eq (tgt := 36) dX8_refused_4 (by decide) (fun zq => absurd zq (by decide)) (fun _ => ?_)
      refine zj_iload_n dX8_refused_7 (by rfl) ?_
      refine zc_8_103 rfl dX8_refused_8 (m_isPhraseN hp) (by exact Nat.le_of_ble_eq_true rfl) ?_
      refine zj_if_eq (tgt := 36) dX8_refused_11 (by decide) (fun _ => ?_) (fun zq => absurd (rfl) zq)
      refine zj_ldc (v := -1000000001) dX8_refused_36 zq_686 ?_
      refine zj_iret dX8_refused_38 rfl (Nat.le_refl _) (Nat.le_refl _) ?_
      exact ⟨rfl, rfl⟩
    · obtain ⟨j, hj, rfl⟩ : ∃ j, j < 6 ∧ p = nI j := ((pk_ix p (n := 6) (by decide)).resolve_left (fun e => hp (Or.inl e))).resolve_left (fun e => hp (Or.inr e))
      have hh := (hb.resolve_left hc).resolve_left hp
      by_cases h0 : how < 0
      · refine zD_of (by decide +kernel) (by exact Nat.le_of_ble_eq_true rfl) ?_
        show zB mX8_refused _ _ _ 0 [some (.ref 47), some (.int (nI i)), some (.int (nI j)), some (.int how)] [] _
        refine zj_iload_n dX8_refused_0 (by rfl) ?_
        refine zc_8_67 rfl dX8_refused_1 (m_isCycle hi) (by exact Nat.le_of_ble_eq_true rfl) ?_
        refine zj_if_eq (tgt := 36) dX8_refused_4 (by decide) (fun zq => absurd zq (by decide)) (fun _ => ?_)
        refine zj_iload_n dX8_refused_7 (by rfl) ?_
        refine zc_8_103 rfl dX8_refused_8 (m_isPhrase hj) (by exact Nat.le_of_ble_eq_true rfl) ?_
        refine zj_if_eq (tgt := 36) dX8_refused_11 (by decide) (fun zq => absurd zq (by decide)) (fun _ => ?_)
        refine zj_iload_n dX8_refused_14 (by rfl) ?_
        refine zj_if_lt (tgt := 36) dX8_refused_15 (by decide) (fun _ => ?_) (fun zq => absurd (h0) zq)
        refine zj_ldc (v := -1000000001) dX8_refused_36 zq_686 ?_
        refine zj_iret dX8_refused_38 rfl (Nat.le_refl _) (Nat.le_refl _) ?_
        exact ⟨rfl, rfl⟩
      · obtain ⟨v, hv, rfl, hf⟩ := hh.resolve_left h0
        have hf2 : ¬ (v % 10 ≤ 1 ∧ ¬ s_tpo (nI (v / 10)) = 0) := of_decide_eq_false hf
        have hS := m_isSpeed (d := d + 1) (h := h) (nI (v / 10))
        by_cases h1 : v % 10 ≤ 1
        · rw [if_pos (by by_cases hz : s_tpo (nI (v / 10)) = 0; exact hz; exact absurd ⟨h1, hz⟩ hf2)] at hS
          refine zD_of (by decide +kernel) (by exact Nat.le_of_ble_eq_true rfl) ?_
          show zB mX8_refused _ _ _ 0 [some (.ref 47), some (.int (nI i)), some (.int (nI j)), some (.int (nI v))] [] _
          refine zj_iload_n dX8_refused_0 (by rfl) ?_
          refine zc_8_67 rfl dX8_refused_1 (m_isCycle hi) (by exact Nat.le_of_ble_eq_true rfl) ?_
          refine zj_if_eq (tgt := 36) dX8_refused_4 (by decide) (fun zq => absurd zq (by decide)) (fun _ => ?_)
          refine zj_iload_n dX8_refused_7 (by rfl) ?_
          refine zc_8_103 rfl dX8_refused_8 (m_isPhrase hj) (by exact Nat.le_of_ble_eq_true rfl) ?_
          refine zj_if_eq (tgt := 36) dX8_refused_11 (by decide) (fun zq => absurd zq (by decide)) (fun _ => ?_)
          refine zj_iload_n dX8_refused_14 (by rfl) ?_
          refine zj_if_ltN (tgt := 36) dX8_refused_15 (by decide) (by omega) ?_
          refine zj_iload_n dX8_refused_18 (by rfl) ?_
          refine zj_bipush (v := nI 10) dX8_refused_19 (by decide) ?_
          refine zj_iremN dX8_refused_21 (by omega) ?_
          refine zj_iconst (v := nI 1) dX8_refused_22 (by decide) ?_
          refine zj_icmp_gtN (tgt := 36) dX8_refused_23 (by decide) (by omega) (fun zq => absurd zq (by omega)) (fun _ => ?_)
          refine zj_iload_n dX8_refused_26 (by rfl) ?_
          refine zj_bipush (v := nI 10) dX8_refused_27 (by decide) ?_
          refine zj_idivN dX8_refused_29 (by omega) ?_
          refine zc_8_107 rfl dX8_refused_30 hS (by exact Nat.le_of_ble_eq_true rfl) ?_
          refine zj_if_ne (tgt := 39) dX8_refused_33 (by decide) (fun zq => absurd (rfl) zq) (fun _ => ?_)
          refine zj_ldc (v := -1000000001) dX8_refused_36 zq_686 ?_
          refine zj_iret dX8_refused_38 rfl (Nat.le_refl _) (Nat.le_refl _) ?_
          exact ⟨rfl, rfl⟩
        · refine zD_of (by decide +kernel) (by exact Nat.le_of_ble_eq_true rfl) ?_
          show zB mX8_refused _ _ _ 0 [some (.ref 47), some (.int (nI i)), some (.int (nI j)), some (.int (nI v))] [] _
          refine zj_iload_n dX8_refused_0 (by rfl) ?_
          refine zc_8_67 rfl dX8_refused_1 (m_isCycle hi) (by exact Nat.le_of_ble_eq_true rfl) ?_
          refine zj_if_eq (tgt := 36) dX8_refused_4 (by decide) (fun zq => absurd zq (by decide)) (fun _ => ?_)
          refine zj_iload_n dX8_refused_7 (by rfl) ?_
          refine zc_8_103 rfl dX8_refused_8 (m_isPhrase hj) (by exact Nat.le_of_ble_eq_true rfl) ?_
          refine zj_if_eq (tgt := 36) dX8_refused_11 (by decide) (fun zq => absurd zq (by decide)) (fun _ => ?_)
          refine zj_iload_n dX8_refused_14 (by rfl) ?_
          refine zj_if_ltN (tgt := 36) dX8_refused_15 (by decide) (by omega) ?_
          refine zj_iload_n dX8_refused_18 (by rfl) ?_
          refine zj_bipush (v := nI 10) dX8_refused_19 (by decide) ?_
          refine zj_iremN dX8_refused_21 (by omega) ?_
          refine zj_iconst (v := nI 1) dX8_refused_22 (by decide) ?_
          refine zj_icmp_gtN (tgt := 36) dX8_refused_23 (by decide) (by omega) (fun _ => ?_) (fun zq => absurd (by omega) zq)
          refine zj_ldc (v := -1000000001) dX8_refused_36 zq_686 ?_
          refine zj_iret dX8_refused_38 rfl (Nat.le_refl _) (Nat.le_refl _) ?_
          exact ⟨rfl, rfl⟩
theorem m_ref (w : WF C P S T H O g) (r : RM h C P S T H O g) {c p v : Nat} (hc : c < 4) (hp : p < 6) (hv : v < 2 ^ 31) (hvh : s_how v = true) : zD mX8_refused (d + 2) [.ref 47, .int (nI c), .int (nI p), .int (nI v)] h (some (.int (if (C c).length = 0 ∨ (P p).length = 0 then -1000000002 else 0))) h := by
  obtain ⟨m47, m48, m49, m50, m51, m52, m53, m54, m55, m56, m57, m58, m59, m60, m61, m62, m63⟩ := r
  obtain ⟨rd, wr, hw, o0⟩ := m47
  obtain ⟨fL, a48, q48⟩ := m48
  obtain ⟨fS, a51, q51⟩ := m51
  have l1 := (w.1 c hc).1
  have l2 := (w.2.1 p hp).1
  obtain ⟨hv1, hv2⟩ := of_decide_eq_true hvh
  have hS := m_isSpeed (d := d + 1) (h := h) (nI (v / 10))
  rw [if_neg hv2] at hS
  refine zD_of (by decide +kernel) (by exact Nat.le_of_ble_eq_true rfl) ?_
  show zB mX8_refused _ _ _ 0 [some (.ref 47), some (.int (nI c)), some (.int (nI p)), some (.int (nI v))] [] _
  refine zj_iload_n dX8_refused_0 (by rfl) ?_
  refine zc_8_67 rfl dX8_refused_1 (m_isCycle hc) (by exact Nat.le_of_ble_eq_true rfl) ?_
  refine zj_if_eq (tgt := 36) dX8_refused_4 (by decide) (fun zq => absurd zq (by decide)) (fun _ => ?_)
  refine zj_iload_n dX8_refused_7 (by rfl) ?_
  refine zc_8_103 rfl dX8_refused_8 (m_isPhrase hp) (by exact Nat.le_of_ble_eq_true rfl) ?_
  refine zj_if_eq (tgt := 36) dX8_refused_11 (by decide) (fun zq => absurd zq (by decide)) (fun _ => ?_)
  refine zj_iload_n dX8_refused_14 (by rfl) ?_
  refine zj_if_ltN (tgt := 36) dX8_refused_15 (by decide) (by omega) ?_
  refine zj_iload_n dX8_refused_18 (by rfl) ?_
  refine zj_bipush (v := nI 10) dX8_refused_19 (by decide) ?_
  refine zj_iremN dX8_refused_21 (by omega) ?_
  refine zj_iconst (v := nI 1) dX8_refused_22 (by decide) ?_
  refine zj_icmp_gtN (tgt := 36) dX8_refused_23 (by decide) (by omega) (fun zq => absurd zq (by omega)) (fun _ => ?_)
  refine zj_iload_n dX8_refused_26 (by rfl) ?_
  refine zj_bipush (v := nI 10) dX8_refused_27 (by decide) ?_
  refine zj_idivN dX8_refused_29 (by omega) ?_
  refine zc_8_107 rfl dX8_refused_30 hS (by exact Nat.le_of_ble_eq_true rfl) ?_
  refine zj_if_ne (tgt := 39) dX8_refused_33 (by decide) (fun _ => ?_) (fun zq => absurd zq (by decide))
  refine zj_aload_n dX8_refused_39 (by rfl) ?_
  refine zg_8_7 rfl dX8_refused_40 (by first | assumption | rfl) (by rfl) ?_
  refine zj_iload_n dX8_refused_43 (by rfl) ?_
  refine zj_ialdN dX8_refused_44 (by first | assumption | rfl) (by omega) ?_
  rw [q48 c hc]
  refine zj_if_eqN (tgt := 57) dX8_refused_45 (by decide) (by omega) (fun q45 => ?_) (fun q45 => ?_)
  · refine zj_ldc (v := -1000000002) dX8_refused_57 zq_708 ?_
    refine zj_goto (tgt := 63) dX8_refused_59 (by decide) ?_
    refine zj_iret dX8_refused_63 rfl (Nat.le_refl _) (Nat.le_refl _) ?_
    exact ⟨by first | (rw [if_pos (by omega)]; done) | (rw [if_neg (by omega)]; rfl), rfl⟩
  · refine zj_aload_n dX8_refused_48 (by rfl) ?_
    refine zg_8_19 rfl dX8_refused_49 (by first | assumption | rfl) (by rfl) ?_
    refine zj_iload_n dX8_refused_52 (by rfl) ?_
    refine zj_ialdN dX8_refused_53 (by first | assumption | rfl) (by omega) ?_
    rw [q51 p hp]
    refine zj_if_neN (tgt := 62) dX8_refused_54 (by decide) (by omega) (fun q54 => ?_) (fun q54 => ?_)
    · refine zj_iconst (v := nI 0) dX8_refused_62 (by decide) ?_
      refine zj_iret dX8_refused_63 rfl (Nat.le_refl _) (Nat.le_refl _) ?_
      exact ⟨by first | (rw [if_pos (by omega)]; done) | (rw [if_neg (by omega)]; rfl), rfl⟩
    · refine zj_ldc (v := -1000000002) dX8_refused_57 zq_708 ?_
      refine zj_goto (tgt := 63) dX8_refused_59 (by decide) ?_
      refine zj_iret dX8_refused_63 rfl (Nat.le_refl _) (Nat.le_refl _) ?_
      exact ⟨by first | (rw [if_pos (by omega)]; done) | (rw [if_neg (by omega)]; rfl), rfl⟩
theorem s_base_0 (n t v k : Nat) : s_base n t v k = t + s_base n 0 v k := by unfold s_base; omega
theorem m_till (w : WF C P S T H O g) (r : RM h C P S T H O g) {p v gp : Nat} (hp : p < 6) (hv : v < 2 ^ 31) (hvh : s_how v = true) (hg : gp ≤ 96) (hn : ¬ (P p).length = 0) : zD mX8_till (d + 1) [.ref 47, .int (nI p), .int (nI v), .int (nI gp)] h (some (.long (lN (s_base (P p).length 0 v 3 + 2 * gp)))) h := by
  obtain ⟨⟨rd, wr, hw, o0⟩, -⟩ := id r
  obtain ⟨hv1, hv2⟩ := of_decide_eq_true hvh
  have l2 := (w.2.1 p hp).1
  obtain ⟨n, n1, n2, n3, n4⟩ := s_sp_div hv2
  have hvn : v / 10 = n := (nI_eq (by omega) (by omega)).mp n3
  have hT := m_ticksOf (d := d) r hp hv2
  have hle := s_tpo_le (nI (v / 10))
  have hpr : (P p).length * s_tpo (nI (v / 10)) ≤ 60 * 24 := Nat.mul_le_mul l2 hle
  obtain ⟨t, htd⟩ : ∃ t, t = s_tpo (nI (v / 10)) := ⟨_, rfl⟩
  rw [← htd] at hT hle hpr n4
  have hb0 : s_base (P p).length 0 v 3 = (3 * (P p).length - v % 10) * t := by unfold s_base; rw [← htd, Nat.zero_add]
  have hb1 : v % 10 = 0 → s_base (P p).length 0 v 3 = 3 * ((P p).length * t) := fun e => by rw [hb0, e, Nat.sub_zero, Nat.mul_assoc]
  have hb2 : v % 10 = 1 → s_base (P p).length 0 v 3 + t = 3 * ((P p).length * t) := fun e => by
    rw [hb0, e, ← Nat.mul_assoc]
    have : 3 * (P p).length = (3 * (P p).length - 1) + 1 := by omega
    generalize 3 * (P p).length - 1 = y at *
    rw [this, Nat.succ_mul]
  refine zD_of (by decide +kernel) (by exact Nat.le_of_ble_eq_true rfl) ?_
  show zB mX8_till _ _ _ 0 [some (.ref 47), some (.int (nI p)), some (.int (nI v)), some (.int (nI gp)), none, none] [] _
  refine zj_ldc2 (v := 3) dX8_till_0 zq_768 ?_
  refine zj_aload_n dX8_till_3 (by rfl) ?_
  refine zj_iload_n dX8_till_4 (by rfl) ?_
  refine zj_iload_n dX8_till_5 (by rfl) ?_
  refine zj_bipush (v := nI 10) dX8_till_6 (by decide) ?_
  refine zj_idivN dX8_till_8 (by omega) ?_
  refine zc_8_110 rfl dX8_till_9 (by first | assumption | rfl) hT (by exact Nat.le_of_ble_eq_true rfl) ?_
  refine zj_i2l dX8_till_12 ?_
  rw [nI_l (show (P p).length * t < 2 ^ 31 by omega)]
  refine zj_lmul dX8_till_13 ?_
  rw [show (3 : Int64) = lN 3 from rfl, lN_mul]
  refine zj_ldc2 (v := 2) dX8_till_14 zq_769 ?_
  refine zj_iload_n dX8_till_17 (by rfl) ?_
  refine zj_i2l dX8_till_18 ?_
  rw [nI_l (show gp < 2 ^ 31 by omega)]
  refine zj_lmul dX8_till_19 ?_
  rw [show (2 : Int64) = lN 2 from rfl, lN_mul]
  refine zj_ladd dX8_till_20 ?_
  rw [lN_add]
  refine zj_lstore dX8_till_21 (by decide) ?_
  refine zj_iload_n dX8_till_23 (by rfl) ?_
  refine zj_bipush (v := nI 10) dX8_till_24 (by decide) ?_
  refine zj_iremN dX8_till_26 (by omega) ?_
  refine zj_iconst (v := nI 1) dX8_till_27 (by decide) ?_
  refine zj_icmp_neN (tgt := 45) dX8_till_28 (by decide) (by omega) (fun q28 => ?_) (fun q28 => ?_)
  · refine zj_lload dX8_till_45 (by rfl) ?_
    refine zj_lret dX8_till_47 rfl (Nat.le_refl _) (Nat.le_refl _) ?_
    refine ⟨?_, rfl⟩
    congr 3
    first | (have := hb2 q28; omega) | (have := hb1 (by omega); omega)
  · refine zj_lload dX8_till_31 (by rfl) ?_
    refine zj_bipush (v := nI 24) dX8_till_33 (by decide) ?_
    refine zj_iload_n dX8_till_35 (by rfl) ?_
    refine zj_bipush (v := nI 10) dX8_till_36 (by decide) ?_
    refine zj_idivN dX8_till_38 (by omega) ?_
    refine zj_idivN dX8_till_39 (by omega) ?_
    refine zj_i2l dX8_till_40 ?_
    rw [nI_l (show 24 / (v / 10) < 2 ^ 31 by rw [hvn, ← n4]; omega), hvn, ← n4]
    refine zj_lsub dX8_till_41 ?_
    rw [lN_sub (by have := hb2 q28; omega)]
    refine zj_goto (tgt := 47) dX8_till_42 (by decide) ?_
    refine zj_lret dX8_till_47 rfl (Nat.le_refl _) (Nat.le_refl _) ?_
    refine ⟨?_, rfl⟩
    congr 3
    first | (have := hb2 q28; omega) | (have := hb1 (by omega); omega)
theorem s_lc0 {x : Nat} (hx : x < 2 ^ 62) : lg_cmp (lN x) 0 = 0 ↔ x = 0 := by
  have h1 := pk_lLT (a := 0) (b := x) (by omega) (by omega)
  have h2 := pk_lEQ (a := x) (b := 0) (by omega) (by omega)
  unfold lg_cmp
  by_cases hq : x = 0
  · subst hq; exact ⟨fun _ => rfl, fun _ => by decide⟩
  · rw [if_pos (show lN x > 0 from h1.mpr (by omega))]
    exact ⟨fun e => absurd e (by decide), fun e => absurd e hq⟩
theorem m_doesLand (w : WF C P S T H O g) (r : RM h C P S T H O g) {c t : Nat} (hc : c < 4) (hcl : ¬ (C c).length = 0) (ht : t < 2 ^ 62) : zD mX8_doesLand (d + 1) [.ref 47, .int (nI c), .long (lN t)] h (some (.int (if t % s_cl C c = 0 then 1 else 0))) h := by
  obtain ⟨⟨rd, wr, hw, o0⟩, -⟩ := id r
  have hL := s_cl_pos w.1 hc hcl
  have hLe := s_cl_le w.1 hc
  have hm := Nat.mod_lt t hL
  have h0 := s_lc0 (x := t % s_cl C c) (by omega)
  have hne : ¬ lN (s_cl C c) = 0 := fun e => by
    have := (pk_lEQ (a := s_cl C c) (b := 0) (by omega) (by omega)).mp e
    omega
  refine zD_of (by decide +kernel) (by exact Nat.le_of_ble_eq_true rfl) ?_
  show zB mX8_doesLand _ _ _ 0 [some (.ref 47), some (.int (nI c)), some (.long (lN t)), none] [] _
  refine zj_lload_n dX8_doesLand_0 (by rfl) ?_
  refine zj_aload_n dX8_doesLand_1 (by rfl) ?_
  refine zj_iload_n dX8_doesLand_2 (by rfl) ?_
  refine zc_8_73 rfl dX8_doesLand_3 (by first | assumption | rfl) (m_lengthOf w r hc) (by exact Nat.le_of_ble_eq_true rfl) ?_
  refine zj_i2l dX8_doesLand_6 ?_
  rw [nI_l (show s_cl C c < 2 ^ 31 by omega)]
  refine zj_lrem dX8_doesLand_7 hne ?_
  rw [pk_lRem (by omega) hL (by omega)]
  refine zj_lconst (v := 0) dX8_doesLand_8 (by decide) ?_
  refine zj_lcmp dX8_doesLand_9 ?_
  refine zj_if_ne (tgt := 17) dX8_doesLand_10 (by decide) (fun q10 => ?_) (fun q10 => ?_)
  all_goals rw [h0] at q10
  · refine zj_iconst (v := 0) dX8_doesLand_17 (by decide) ?_
    refine zj_zret dX8_doesLand_18 rfl (by first | exact Or.inl rfl | exact Or.inr rfl) (Nat.le_refl _) (Nat.le_refl _) ?_
    exact ⟨by first | rw [if_pos q10] | rw [if_neg q10], rfl⟩
  · refine zj_iconst (v := 1) dX8_doesLand_13 (by decide) ?_
    refine zj_goto (tgt := 18) dX8_doesLand_14 (by decide) ?_
    refine zj_zret dX8_doesLand_18 rfl (by first | exact Or.inl rfl | exact Or.inr rfl) (Nat.le_refl _) (Nat.le_refl _) ?_
    exact ⟨by first | rw [if_pos q10] | rw [if_neg q10], rfl⟩
theorem s_mBad {c p how t gp : Int32} (hb : s_bad c p how t gp) : s_bad3 c p how ∨ t < 0 ∨ (gp < 0 ∨ 96 < gp) := by
  rcases hb with hb | hb | hb | hb | hb
  · exact Or.inl (Or.inl hb)
  · exact Or.inl (Or.inr (Or.inl hb))
  · exact Or.inl (Or.inr (Or.inr hb))
  · exact Or.inr (Or.inl hb)
  · exact Or.inr (Or.inr hb)
/-- either refused as BAD, or good arguments -/
theorem s_ok3 {c p how : Int32} (hb : ¬ s_bad3 c p how) : ∃ i j v, i < 4 ∧ j < 6 ∧ v < 2 ^ 31 ∧ s_how v = true ∧ c = nI i ∧ p = nI j ∧ how = nI v := by
  have hc : ¬ (c < 0 ∨ 4 ≤ c) := fun e => hb (Or.inl e)
  have hp : ¬ (p < 0 ∨ 6 ≤ p) := fun e => hb (Or.inr (Or.inl e))
  have hh : ¬ (how < 0 ∨ ∃ v, v < 2 ^ 31 ∧ how = nI v ∧ s_how v = false) := fun e => hb (Or.inr (Or.inr e))
  obtain ⟨i, hi, rfl⟩ : ∃ i, i < 4 ∧ c = nI i := ((pk_ix c (n := 4) (by decide)).resolve_left (fun e => hc (Or.inl e))).resolve_left (fun e => hc (Or.inr e))
  obtain ⟨j, hj, rfl⟩ : ∃ j, j < 6 ∧ p = nI j := ((pk_ix p (n := 6) (by decide)).resolve_left (fun e => hp (Or.inl e))).resolve_left (fun e => hp (Or.inr e))
  obtain ⟨v, hv, rfl⟩ := nI_of (fun e => hh (Or.inl e) : ¬ how < 0)
  refine ⟨i, j, v, hi, hj, hv, ?_, rfl, rfl, rfl⟩
  cases he : s_how v with
  | true => rfl
  | false => exact absurd (Or.inr ⟨v, hv, rfl, he⟩) hh
theorem s_noBad {C : Nat → List (Nat × Nat)} {P : Nat → List Nat} {c p : Nat} : ¬ (if (C c).length = 0 ∨ (P p).length = 0 then (-1000000002 : Int32) else 0) = -1000000001 := by
  split <;> decide
theorem m_landsA (w : WF C P S T H O g) (r : RM h C P S T H O g) {c p how t gp : Int32} (hb : s_bad c p how t gp) : zD mX8_lands (d + 3) [.ref 47, .int c, .int p, .int how, .int t, .int gp] h (some (.int (-1000000001))) h := by
  obtain ⟨⟨rd, wr, hw, o0⟩, -⟩ := id r
  by_cases h3 : s_bad3 c p how
  · refine zD_of (by decide +kernel) (by exact Nat.le_of_ble_eq_true rfl) ?_
    show zB mX8_lands _ _ _ 0 [some (.ref 47), some (.int c), some (.int p), some (.int how), some (.int t), some (.int gp), none] [] _
    refine zj_aload_n dX8_lands_0 (by rfl) ?_
    refine zj_iload_n dX8_lands_1 (by rfl) ?_
    refine zj_iload_n dX8_lands_2 (by rfl) ?_
    refine zj_iload_n dX8_lands_3 (by rfl) ?_
    refine zc_8_121 rfl dX8_lands_4 (by first | assumption | rfl) (m_refBad r h3) (by exact Nat.le_of_ble_eq_true rfl) ?_
    refine zj_istore dX8_lands_7 (by decide) ?_
    refine zj_iload dX8_lands_9 (by rfl) ?_
    refine zj_ldc (v := -1000000001) dX8_lands_11 zq_686 ?_
    refine zj_icmp_eq (tgt := 32) dX8_lands_13 (by decide) (fun _ => ?_) (fun zq => absurd (rfl) zq)
    refine zj_ldc (v := -1000000001) dX8_lands_32 zq_686 ?_
    refine zj_iret dX8_lands_34 rfl (Nat.le_refl _) (Nat.le_refl _) ?_
    exact ⟨rfl, rfl⟩
  · have hb2 := (s_mBad hb).resolve_left h3
    obtain ⟨i, j, v, hi, hj, hv, hvh, rfl, rfl, rfl⟩ := s_ok3 h3
    refine zD_of (by decide +kernel) (by exact Nat.le_of_ble_eq_true rfl) ?_
    show zB mX8_lands _ _ _ 0 [some (.ref 47), some (.int (nI i)), some (.int (nI j)), some (.int (nI v)), some (.int t), some (.int gp), none] [] _
    refine zj_aload_n dX8_lands_0 (by rfl) ?_
    refine zj_iload_n dX8_lands_1 (by rfl) ?_
    refine zj_iload_n dX8_lands_2 (by rfl) ?_
    refine zj_iload_n dX8_lands_3 (by rfl) ?_
    refine zc_8_121 rfl dX8_lands_4 (by first | assumption | rfl) (m_ref w r hi hj hv hvh) (by exact Nat.le_of_ble_eq_true rfl) ?_
    refine zj_istore dX8_lands_7 (by decide) ?_
    refine zj_iload dX8_lands_9 (by rfl) ?_
    refine zj_ldc (v := -1000000001) dX8_lands_11 zq_686 ?_
    refine zj_icmp_eq (tgt := 32) dX8_lands_13 (by decide) (fun zq => absurd zq (s_noBad)) (fun _ => ?_)
    refine zj_iload dX8_lands_16 (by rfl) ?_
    refine zj_if_lt (tgt := 32) dX8_lands_18 (by decide) (fun q18 => ?_) (fun q18 => ?_)
    · refine zj_ldc (v := -1000000001) dX8_lands_32 zq_686 ?_
      refine zj_iret dX8_lands_34 rfl (Nat.le_refl _) (Nat.le_refl _) ?_
      exact ⟨rfl, rfl⟩
    · refine zj_iload dX8_lands_21 (by rfl) ?_
      refine zj_iconst (v := 0) dX8_lands_23 (by decide) ?_
      refine zj_bipush (v := 96) dX8_lands_24 (by decide) ?_
      refine zc_8_63 rfl dX8_lands_26 (m_isIn _ _ _) (by exact Nat.le_of_ble_eq_true rfl) ?_
      refine zj_if_ne (tgt := 35) dX8_lands_29 (by decide) (fun q29 => ?_) (fun q29 => ?_)
      · exact absurd hb2 (fun hh => hh.elim q18 (fun h4 => q29 (s_is0 h4)))
      · refine zj_ldc (v := -1000000001) dX8_lands_32 zq_686 ?_
        refine zj_iret dX8_lands_34 rfl (Nat.le_refl _) (Nat.le_refl _) ?_
        exact ⟨rfl, rfl⟩
theorem m_landsN (w : WF C P S T H O g) (r : RM h C P S T H O g) {c p v t gp : Nat} (hc : c < 4) (hp : p < 6) (hv : v < 2 ^ 31) (hvh : s_how v = true) (ht : t < 2 ^ 31) (hg : gp ≤ 96) (he : (C c).length = 0 ∨ (P p).length = 0) : zD mX8_lands (d + 3) [.ref 47, .int (nI c), .int (nI p), .int (nI v), .int (nI t), .int (nI gp)] h (some (.int (-1000000002))) h := by
  obtain ⟨⟨rd, wr, hw, o0⟩, -⟩ := id r
  have hR := m_ref (d := d) w r hc hp hv hvh
  rw [if_pos he] at hR
  refine zD_of (by decide +kernel) (by exact Nat.le_of_ble_eq_true rfl) ?_
  show zB mX8_lands _ _ _ 0 [some (.ref 47), some (.int (nI c)), some (.int (nI p)), some (.int (nI v)), some (.int (nI t)), some (.int (nI gp)), none] [] _
  refine zj_aload_n dX8_lands_0 (by rfl) ?_
  refine zj_iload_n dX8_lands_1 (by rfl) ?_
  refine zj_iload_n dX8_lands_2 (by rfl) ?_
  refine zj_iload_n dX8_lands_3 (by rfl) ?_
  refine zc_8_121 rfl dX8_lands_4 (by first | assumption | rfl) hR (by exact Nat.le_of_ble_eq_true rfl) ?_
  refine zj_istore dX8_lands_7 (by decide) ?_
  refine zj_iload dX8_lands_9 (by rfl) ?_
  refine zj_ldc (v := -1000000001) dX8_lands_11 zq_686 ?_
  refine zj_icmp_eq (tgt := 32) dX8_lands_13 (by decide) (fun zq => absurd zq (by decide)) (fun _ => ?_)
  refine zj_iload dX8_lands_16 (by rfl) ?_
  refine zj_if_ltN (tgt := 32) dX8_lands_18 (by decide) (by omega) ?_
  refine zj_iload dX8_lands_21 (by rfl) ?_
  refine zj_iconst (v := nI 0) dX8_lands_23 (by decide) ?_
  refine zj_bipush (v := nI 96) dX8_lands_24 (by decide) ?_
  refine zc_8_63 rfl dX8_lands_26 (m_isIn _ _ _) (by exact Nat.le_of_ble_eq_true rfl) ?_
  rw [s_is1 (nI_nlt (by omega) (by omega)) (nI_nlt (by omega) (by omega))]
  refine zj_if_ne (tgt := 35) dX8_lands_29 (by decide) (fun _ => ?_) (fun zq => absurd zq (by decide))
  refine zj_iload dX8_lands_35 (by rfl) ?_
  refine zj_ldc (v := -1000000002) dX8_lands_37 zq_708 ?_
  refine zj_icmp_ne (tgt := 45) dX8_lands_39 (by decide) (fun zq => absurd (rfl) zq) (fun _ => ?_)
  refine zj_ldc (v := -1000000002) dX8_lands_42 zq_708 ?_
  refine zj_iret dX8_lands_44 rfl (Nat.le_refl _) (Nat.le_refl _) ?_
  exact ⟨rfl, rfl⟩
theorem m_lands (w : WF C P S T H O g) (r : RM h C P S T H O g) {c p v t gp : Nat} (hc : c < 4) (hp : p < 6) (hv : v < 2 ^ 31) (hvh : s_how v = true) (ht : t < 2 ^ 31) (hg : gp ≤ 96) (he : ¬ ((C c).length = 0 ∨ (P p).length = 0)) : zD mX8_lands (d + 3) [.ref 47, .int (nI c), .int (nI p), .int (nI v), .int (nI t), .int (nI gp)] h (some (.int (if (s_base (P p).length t v 3 + 2 * gp) % s_cl C c = 0 then 1 else 0))) h := by
  obtain ⟨⟨rd, wr, hw, o0⟩, -⟩ := id r
  have hR := m_ref (d := d) w r hc hp hv hvh
  rw [if_neg he] at hR
  have hT := m_till (d := d + 1) w r hp hv hvh hg (fun e => he (Or.inr e))
  have l2 := (w.2.1 p hp).1
  have hle := s_tpo_le (nI (v / 10))
  have hbb : s_base (P p).length 0 v 3 ≤ 180 * 24 := by
    unfold s_base
    rw [Nat.zero_add]
    exact Nat.mul_le_mul (by omega) hle
  have hb0 := s_base_0 (P p).length t v 3
  have hL := m_doesLand (d := d + 1) (t := s_base (P p).length t v 3 + 2 * gp) w r hc (fun e => he (Or.inl e)) (by omega)
  have e1 : lN t + lN (s_base (P p).length 0 v 3 + 2 * gp) = lN (s_base (P p).length t v 3 + 2 * gp) := by rw [lN_add, hb0]; congr 1; omega
  refine zD_of (by decide +kernel) (by exact Nat.le_of_ble_eq_true rfl) ?_
  show zB mX8_lands _ _ _ 0 [some (.ref 47), some (.int (nI c)), some (.int (nI p)), some (.int (nI v)), some (.int (nI t)), some (.int (nI gp)), none] [] _
  refine zj_aload_n dX8_lands_0 (by rfl) ?_
  refine zj_iload_n dX8_lands_1 (by rfl) ?_
  refine zj_iload_n dX8_lands_2 (by rfl) ?_
  refine zj_iload_n dX8_lands_3 (by rfl) ?_
  refine zc_8_121 rfl dX8_lands_4 (by first | assumption | rfl) hR (by exact Nat.le_of_ble_eq_true rfl) ?_
  refine zj_istore dX8_lands_7 (by decide) ?_
  refine zj_iload dX8_lands_9 (by rfl) ?_
  refine zj_ldc (v := -1000000001) dX8_lands_11 zq_686 ?_
  refine zj_icmp_eq (tgt := 32) dX8_lands_13 (by decide) (fun zq => absurd zq (by decide)) (fun _ => ?_)
  refine zj_iload dX8_lands_16 (by rfl) ?_
  refine zj_if_ltN (tgt := 32) dX8_lands_18 (by decide) (by omega) ?_
  refine zj_iload dX8_lands_21 (by rfl) ?_
  refine zj_iconst (v := nI 0) dX8_lands_23 (by decide) ?_
  refine zj_bipush (v := nI 96) dX8_lands_24 (by decide) ?_
  refine zc_8_63 rfl dX8_lands_26 (m_isIn _ _ _) (by exact Nat.le_of_ble_eq_true rfl) ?_
  rw [s_is1 (nI_nlt (by omega) (by omega)) (nI_nlt (by omega) (by omega))]
  refine zj_if_ne (tgt := 35) dX8_lands_29 (by decide) (fun _ => ?_) (fun zq => absurd zq (by decide))
  refine zj_iload dX8_lands_35 (by rfl) ?_
  refine zj_ldc (v := -1000000002) dX8_lands_37 zq_708 ?_
  refine zj_icmp_ne (tgt := 45) dX8_lands_39 (by decide) (fun _ => ?_) (fun zq => absurd zq (by decide))
  refine zj_aload_n dX8_lands_45 (by rfl) ?_
  refine zj_iload_n dX8_lands_46 (by rfl) ?_
  refine zj_iload dX8_lands_47 (by rfl) ?_
  refine zj_i2l dX8_lands_49 ?_
  rw [nI_l ht]
  refine zj_aload_n dX8_lands_50 (by rfl) ?_
  refine zj_iload_n dX8_lands_51 (by rfl) ?_
  refine zj_iload_n dX8_lands_52 (by rfl) ?_
  refine zj_iload dX8_lands_53 (by rfl) ?_
  refine zc_8_125 rfl dX8_lands_55 (by first | assumption | rfl) hT (by exact Nat.le_of_ble_eq_true rfl) ?_
  refine zj_ladd dX8_lands_58 ?_
  rw [e1]
  refine zc_8_129 rfl dX8_lands_59 (by first | assumption | rfl) hL (by exact Nat.le_of_ble_eq_true rfl) ?_
  refine zj_if_eq (tgt := 69) dX8_lands_62 (by decide) (fun q62 => ?_) (fun q62 => ?_)
  · refine zj_iconst (v := nI 0) dX8_lands_69 (by decide) ?_
    refine zj_iret dX8_lands_70 rfl (Nat.le_refl _) (Nat.le_refl _) ?_
    refine ⟨?_, rfl⟩
    by_cases hq : (s_base (P p).length t v 3 + 2 * gp) % s_cl C c = 0
    · rw [if_pos hq] at q62 ⊢; first | rfl | exact absurd q62 (by decide)
    · rw [if_neg hq] at q62 ⊢; first | rfl | exact absurd rfl q62
  · refine zj_iconst (v := nI 1) dX8_lands_65 (by decide) ?_
    refine zj_goto (tgt := 70) dX8_lands_66 (by decide) ?_
    refine zj_iret dX8_lands_70 rfl (Nat.le_refl _) (Nat.le_refl _) ?_
    refine ⟨?_, rfl⟩
    by_cases hq : (s_base (P p).length t v 3 + 2 * gp) % s_cl C c = 0
    · rw [if_pos hq] at q62 ⊢; first | rfl | exact absurd q62 (by decide)
    · rw [if_neg hq] at q62 ⊢; first | rfl | exact absurd rfl q62
end M3
