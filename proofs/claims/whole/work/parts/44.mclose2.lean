section M4
variable {h h' : zH} {C : Nat → List (Nat × Nat)} {P : Nat → List Nat} {S : Nat → Option (List Int32)} {T : List Nat} {H : Nat → Nat} {O : List (Nat × Nat)} {g d : Nat}
theorem s_base_le {n t v k : Nat} (hn : n ≤ 60) (hk : k ≤ 9) : s_base n t v k ≤ t + 540 * 24 := by
  have hle := s_tpo_le (nI (v / 10))
  have h1 : k * n ≤ 9 * 60 := Nat.mul_le_mul hk hn
  have h2 : (k * n - v % 10) * s_tpo (nI (v / 10)) ≤ 540 * 24 := Nat.mul_le_mul (by omega) hle
  unfold s_base
  omega
theorem s_p_g {b l x : Nat} (hx : x % g = 0) : s_p g b l x = decide ((b + 2 * x) % l = 0) := by
  unfold s_p
  simp [hx]
theorem s_p_ng {b l y : Nat} (hy : ¬ y % g = 0) : s_p g b l y = false := by
  unfold s_p
  simp [hy]
theorem s_cnt_g {b l x : Nat} (hg : 1 ≤ g) (hx : x % g = 0) : s_cnt (s_p g b l) (x + g) = s_cnt (s_p g b l) x + (if (b + 2 * x) % l = 0 then 1 else 0) := by
  rw [s_cnt_skip hg (fun y h1 h2 => s_p_ng (fun e => s_mod_ne h1 h2 (by rw [e, hx]))), s_p_g hx]
  simp only [decide_eq_true_eq]
theorem s_cnt_go {b l x : Nat} (hx : x % g = 0) (h1 : 96 < x) (h2 : x < 97 + g) : s_cnt (s_p g b l) x = s_cnt (s_p g b l) 97 := by
  have := s_cnt_no (p := s_p g b l) (x := 97) (x - 97) (fun y y1 y2 => s_p_ng (fun e => s_mod_ne (x := y) (y := x) (a := g) (by omega) (by omega) (by rw [e, hx])))
  rw [show 97 + (x - 97) = x by omega] at this
  exact this
theorem m_gapsA (w : WF C P S T H O g) (r : RM h C P S T H O g) {c p how t : Int32} (hb : s_bad c p how t 0) : zD mX8_gaps (d + 3) [.ref 47, .int c, .int p, .int how, .int t] h (some (.int (-1000000001))) h := by
  obtain ⟨⟨rd, wr, hw, o0⟩, -⟩ := id r
  by_cases h3 : s_bad3 c p how
  · refine zD_of (by decide +kernel) (by exact Nat.le_of_ble_eq_true rfl) ?_
    show zB mX8_gaps _ _ _ 0 [some (.ref 47), some (.int c), some (.int p), some (.int how), some (.int t), none, none, none] [] _
    refine zj_aload_n dX8_gaps_0 (by rfl) ?_
    refine zj_iload_n dX8_gaps_1 (by rfl) ?_
    refine zj_iload_n dX8_gaps_2 (by rfl) ?_
    refine zj_iload_n dX8_gaps_3 (by rfl) ?_
    refine zc_8_121 rfl dX8_gaps_4 (by first | assumption | rfl) (m_refBad r h3) (by exact Nat.le_of_ble_eq_true rfl) ?_
    refine zj_istore dX8_gaps_7 (by decide) ?_
    refine zj_iload dX8_gaps_9 (by rfl) ?_
    refine zj_ldc (v := -1000000001) dX8_gaps_11 zq_686 ?_
    refine zj_icmp_eq (tgt := 21) dX8_gaps_13 (by decide) (fun _ => ?_) (fun zq => absurd (rfl) zq)
    refine zj_ldc (v := -1000000001) dX8_gaps_21 zq_686 ?_
    refine zj_iret dX8_gaps_23 rfl (Nat.le_refl _) (Nat.le_refl _) ?_
    exact ⟨rfl, rfl⟩
  · have hb2 : t < 0 := ((s_mBad hb).resolve_left h3).resolve_right (by decide)
    obtain ⟨i, j, v, hi, hj, hv, hvh, rfl, rfl, rfl⟩ := s_ok3 h3
    refine zD_of (by decide +kernel) (by exact Nat.le_of_ble_eq_true rfl) ?_
    show zB mX8_gaps _ _ _ 0 [some (.ref 47), some (.int (nI i)), some (.int (nI j)), some (.int (nI v)), some (.int t), none, none, none] [] _
    refine zj_aload_n dX8_gaps_0 (by rfl) ?_
    refine zj_iload_n dX8_gaps_1 (by rfl) ?_
    refine zj_iload_n dX8_gaps_2 (by rfl) ?_
    refine zj_iload_n dX8_gaps_3 (by rfl) ?_
    refine zc_8_121 rfl dX8_gaps_4 (by first | assumption | rfl) (m_ref w r hi hj hv hvh) (by exact Nat.le_of_ble_eq_true rfl) ?_
    refine zj_istore dX8_gaps_7 (by decide) ?_
    refine zj_iload dX8_gaps_9 (by rfl) ?_
    refine zj_ldc (v := -1000000001) dX8_gaps_11 zq_686 ?_
    refine zj_icmp_eq (tgt := 21) dX8_gaps_13 (by decide) (fun zq => absurd zq (s_noBad)) (fun _ => ?_)
    refine zj_iload dX8_gaps_16 (by rfl) ?_
    refine zj_if_ge (tgt := 24) dX8_gaps_18 (by decide) (fun zq => absurd zq (Int32.not_le.mpr hb2)) (fun _ => ?_)
    refine zj_ldc (v := -1000000001) dX8_gaps_21 zq_686 ?_
    refine zj_iret dX8_gaps_23 rfl (Nat.le_refl _) (Nat.le_refl _) ?_
    exact ⟨rfl, rfl⟩
theorem m_gapsN (w : WF C P S T H O g) (r : RM h C P S T H O g) {c p v t : Nat} (hc : c < 4) (hp : p < 6) (hv : v < 2 ^ 31) (hvh : s_how v = true) (ht : t < 2 ^ 31) (he : (C c).length = 0 ∨ (P p).length = 0) : zD mX8_gaps (d + 3) [.ref 47, .int (nI c), .int (nI p), .int (nI v), .int (nI t)] h (some (.int (-1000000002))) h := by
  obtain ⟨⟨rd, wr, hw, o0⟩, -⟩ := id r
  have hR := m_ref (d := d) w r hc hp hv hvh
  rw [if_pos he] at hR
  refine zD_of (by decide +kernel) (by exact Nat.le_of_ble_eq_true rfl) ?_
  show zB mX8_gaps _ _ _ 0 [some (.ref 47), some (.int (nI c)), some (.int (nI p)), some (.int (nI v)), some (.int (nI t)), none, none, none] [] _
  refine zj_aload_n dX8_gaps_0 (by rfl) ?_
  refine zj_iload_n dX8_gaps_1 (by rfl) ?_
  refine zj_iload_n dX8_gaps_2 (by rfl) ?_
  refine zj_iload_n dX8_gaps_3 (by rfl) ?_
  refine zc_8_121 rfl dX8_gaps_4 (by first | assumption | rfl) hR (by exact Nat.le_of_ble_eq_true rfl) ?_
  refine zj_istore dX8_gaps_7 (by decide) ?_
  refine zj_iload dX8_gaps_9 (by rfl) ?_
  refine zj_ldc (v := -1000000001) dX8_gaps_11 zq_686 ?_
  refine zj_icmp_eq (tgt := 21) dX8_gaps_13 (by decide) (fun zq => absurd zq (by decide)) (fun _ => ?_)
  refine zj_iload dX8_gaps_16 (by rfl) ?_
  refine zj_if_geN (tgt := 24) dX8_gaps_18 (by decide) (by omega) ?_
  refine zj_iload dX8_gaps_24 (by rfl) ?_
  refine zj_ldc (v := -1000000002) dX8_gaps_26 zq_708 ?_
  refine zj_icmp_ne (tgt := 34) dX8_gaps_28 (by decide) (fun zq => absurd (rfl) zq) (fun _ => ?_)
  refine zj_ldc (v := -1000000002) dX8_gaps_31 zq_708 ?_
  refine zj_iret dX8_gaps_33 rfl (Nat.le_refl _) (Nat.le_refl _) ?_
  exact ⟨rfl, rfl⟩
theorem m_gaps_l (w : WF C P S T H O g) (r : RM h C P S T H O g) {c p v t : Nat} {v5 : Int32} (hc : c < 4) (hp : p < 6) (hv : v < 2 ^ 31) (hvh : s_how v = true) (ht : t < 2 ^ 31) (he : ¬ ((C c).length = 0 ∨ (P p).length = 0)) : ∀ m x, x % g = 0 → x < 97 + g → 97 ≤ x + m → zB mX8_gaps (d + 2) (some (.int (nI (s_cnt (s_p g (s_base (P p).length t v 3) (s_cl C c)) 97)))) h 40 [some (.ref 47), some (.int (nI c)), some (.int (nI p)), some (.int (nI v)), some (.int (nI t)), some (.int v5), some (.int (nI (s_cnt (s_p g (s_base (P p).length t v 3) (s_cl C c)) x))), some (.int (nI x))] [] h := by
  obtain ⟨⟨rd, wr, hw, o0⟩, -⟩ := id r
  obtain ⟨wg1, wg2⟩ := w.2.2.2.2.2.2
  have l2 := (w.2.1 p hp).1
  have hbl := s_base_le (t := t) (v := v) (k := 3) l2 (by omega)
  have hb0 := s_base_0 (P p).length t v 3
  intro m
  induction m with
  | zero =>
    intro x hx h1 h2
    refine zj_iload dX8_gaps_40 (by rfl) ?_
    refine zj_bipush (v := nI 96) dX8_gaps_42 (by decide) ?_
    refine zj_icmp_gtN (tgt := 89) dX8_gaps_44 (by decide) (by omega) (fun _ => ?_) (fun zq => absurd (by omega) zq)
    refine zj_iload dX8_gaps_89 (by rfl) ?_
    refine zj_iret dX8_gaps_91 rfl (Nat.le_refl _) (Nat.le_refl _) ?_
    exact ⟨by rw [s_cnt_go hx (by omega) h1], rfl⟩
  | succ m ih =>
    intro x hx h1 h2
    by_cases hx96 : x ≤ 96
    · have hJ := ih (x + g) (by rw [s_mod_step (by omega)]; exact hx) (by omega) (by omega)
      rw [s_cnt_g wg1 hx] at hJ
      have hT := m_till (d := d) w r hp hv hvh hx96 (fun e => he (Or.inr e))
      have hL := m_doesLand (d := d) (t := s_base (P p).length t v 3 + 2 * x) w r hc (fun e => he (Or.inl e)) (by omega)
      have e1 : lN t + lN (s_base (P p).length 0 v 3 + 2 * x) = lN (s_base (P p).length t v 3 + 2 * x) := by rw [lN_add, hb0]; congr 1; omega
      by_cases hq : (s_base (P p).length t v 3 + 2 * x) % s_cl C c = 0
      · rw [if_pos hq] at hJ hL
        refine zj_iload dX8_gaps_40 (by rfl) ?_
        refine zj_bipush (v := nI 96) dX8_gaps_42 (by decide) ?_
        refine zj_icmp_gtN (tgt := 89) dX8_gaps_44 (by decide) (by omega) (fun zq => absurd zq (by omega)) (fun _ => ?_)
        refine zj_iload dX8_gaps_47 (by rfl) ?_
        refine zj_aload_n dX8_gaps_49 (by rfl) ?_
        refine zj_iload_n dX8_gaps_50 (by rfl) ?_
        refine zj_iload dX8_gaps_51 (by rfl) ?_
        refine zj_i2l dX8_gaps_53 ?_
        rw [nI_l ht]
        refine zj_aload_n dX8_gaps_54 (by rfl) ?_
        refine zj_iload_n dX8_gaps_55 (by rfl) ?_
        refine zj_iload_n dX8_gaps_56 (by rfl) ?_
        refine zj_iload dX8_gaps_57 (by rfl) ?_
        refine zc_8_125 rfl dX8_gaps_59 (by first | assumption | rfl) hT (by exact Nat.le_of_ble_eq_true rfl) ?_
        refine zj_ladd dX8_gaps_62 ?_
        rw [e1]
        refine zc_8_129 rfl dX8_gaps_63 (by first | assumption | rfl) hL (by exact Nat.le_of_ble_eq_true rfl) ?_
        refine zj_if_eq (tgt := 73) dX8_gaps_66 (by decide) (fun zq => absurd zq (by decide)) (fun _ => ?_)
        refine zj_iconst (v := nI 1) dX8_gaps_69 (by decide) ?_
        refine zj_goto (tgt := 74) dX8_gaps_70 (by decide) ?_
        refine zj_iaddN dX8_gaps_74 ?_
        refine zj_istore dX8_gaps_75 (by decide) ?_
        refine zj_iload dX8_gaps_77 (by rfl) ?_
        refine zj_aload_n dX8_gaps_79 (by rfl) ?_
        refine zg_8_28 rfl dX8_gaps_80 (by first | assumption | rfl) (by rfl) ?_
        refine zj_iaddN dX8_gaps_83 ?_
        refine zj_istore dX8_gaps_84 (by decide) ?_
        refine zj_goto (tgt := 40) dX8_gaps_86 (by decide) ?_
        exact hJ
      · rw [if_neg hq] at hJ hL
        refine zj_iload dX8_gaps_40 (by rfl) ?_
        refine zj_bipush (v := nI 96) dX8_gaps_42 (by decide) ?_
        refine zj_icmp_gtN (tgt := 89) dX8_gaps_44 (by decide) (by omega) (fun zq => absurd zq (by omega)) (fun _ => ?_)
        refine zj_iload dX8_gaps_47 (by rfl) ?_
        refine zj_aload_n dX8_gaps_49 (by rfl) ?_
        refine zj_iload_n dX8_gaps_50 (by rfl) ?_
        refine zj_iload dX8_gaps_51 (by rfl) ?_
        refine zj_i2l dX8_gaps_53 ?_
        rw [nI_l ht]
        refine zj_aload_n dX8_gaps_54 (by rfl) ?_
        refine zj_iload_n dX8_gaps_55 (by rfl) ?_
        refine zj_iload_n dX8_gaps_56 (by rfl) ?_
        refine zj_iload dX8_gaps_57 (by rfl) ?_
        refine zc_8_125 rfl dX8_gaps_59 (by first | assumption | rfl) hT (by exact Nat.le_of_ble_eq_true rfl) ?_
        refine zj_ladd dX8_gaps_62 ?_
        rw [e1]
        refine zc_8_129 rfl dX8_gaps_63 (by first | assumption | rfl) hL (by exact Nat.le_of_ble_eq_true rfl) ?_
        refine zj_if_eq (tgt := 73) dX8_gaps_66 (by decide) (fun _ => ?_) (fun zq => absurd (rfl) zq)
        refine zj_iconst (v := nI 0) dX8_gaps_73 (by decide) ?_
        refine zj_iaddN dX8_gaps_74 ?_
        refine zj_istore dX8_gaps_75 (by decide) ?_
        refine zj_iload dX8_gaps_77 (by rfl) ?_
        refine zj_aload_n dX8_gaps_79 (by rfl) ?_
        refine zg_8_28 rfl dX8_gaps_80 (by first | assumption | rfl) (by rfl) ?_
        refine zj_iaddN dX8_gaps_83 ?_
        refine zj_istore dX8_gaps_84 (by decide) ?_
        refine zj_goto (tgt := 40) dX8_gaps_86 (by decide) ?_
        exact hJ
    · refine zj_iload dX8_gaps_40 (by rfl) ?_
      refine zj_bipush (v := nI 96) dX8_gaps_42 (by decide) ?_
      refine zj_icmp_gtN (tgt := 89) dX8_gaps_44 (by decide) (by omega) (fun _ => ?_) (fun zq => absurd (by omega) zq)
      refine zj_iload dX8_gaps_89 (by rfl) ?_
      refine zj_iret dX8_gaps_91 rfl (Nat.le_refl _) (Nat.le_refl _) ?_
      exact ⟨by rw [s_cnt_go hx (by omega) h1], rfl⟩
theorem m_gaps (w : WF C P S T H O g) (r : RM h C P S T H O g) {c p v t : Nat} (hc : c < 4) (hp : p < 6) (hv : v < 2 ^ 31) (hvh : s_how v = true) (ht : t < 2 ^ 31) (he : ¬ ((C c).length = 0 ∨ (P p).length = 0)) : zD mX8_gaps (d + 3) [.ref 47, .int (nI c), .int (nI p), .int (nI v), .int (nI t)] h (some (.int (nI (s_cnt (s_p g (s_base (P p).length t v 3) (s_cl C c)) 97)))) h := by
  obtain ⟨⟨rd, wr, hw, o0⟩, -⟩ := id r
  have hR := m_ref (d := d) w r hc hp hv hvh
  rw [if_neg he] at hR
  refine zD_of (by decide +kernel) (by exact Nat.le_of_ble_eq_true rfl) ?_
  show zB mX8_gaps _ _ _ 0 [some (.ref 47), some (.int (nI c)), some (.int (nI p)), some (.int (nI v)), some (.int (nI t)), none, none, none] [] _
  refine zj_aload_n dX8_gaps_0 (by rfl) ?_
  refine zj_iload_n dX8_gaps_1 (by rfl) ?_
  refine zj_iload_n dX8_gaps_2 (by rfl) ?_
  refine zj_iload_n dX8_gaps_3 (by rfl) ?_
  refine zc_8_121 rfl dX8_gaps_4 (by first | assumption | rfl) hR (by exact Nat.le_of_ble_eq_true rfl) ?_
  refine zj_istore dX8_gaps_7 (by decide) ?_
  refine zj_iload dX8_gaps_9 (by rfl) ?_
  refine zj_ldc (v := -1000000001) dX8_gaps_11 zq_686 ?_
  refine zj_icmp_eq (tgt := 21) dX8_gaps_13 (by decide) (fun zq => absurd zq (by decide)) (fun _ => ?_)
  refine zj_iload dX8_gaps_16 (by rfl) ?_
  refine zj_if_geN (tgt := 24) dX8_gaps_18 (by decide) (by omega) ?_
  refine zj_iload dX8_gaps_24 (by rfl) ?_
  refine zj_ldc (v := -1000000002) dX8_gaps_26 zq_708 ?_
  refine zj_icmp_ne (tgt := 34) dX8_gaps_28 (by decide) (fun _ => ?_) (fun zq => absurd zq (by decide))
  refine zj_iconst (v := nI 0) dX8_gaps_34 (by decide) ?_
  refine zj_istore dX8_gaps_35 (by decide) ?_
  refine zj_iconst (v := nI 0) dX8_gaps_37 (by decide) ?_
  refine zj_istore dX8_gaps_38 (by decide) ?_
  exact m_gaps_l (d := d + 1) w r hc hp hv hvh ht he 97 0 (Nat.zero_mod _) (by omega) (by omega)
theorem s_nth_g {b l x j : Nat} (hg : 1 ≤ g) (hx : x % g = 0) (h96 : x ≤ 96) : s_nth (s_p g b l) (97 - x) x j = if (b + 2 * x) % l = 0 then (if j = 0 then some x else s_nth (s_p g b l) (97 - (x + g)) (x + g) (j - 1)) else s_nth (s_p g b l) (97 - (x + g)) (x + g) j := by
  have hsk := fun j => s_nth_skip (p := s_p g b l) (x := x) (a := g) (j := j) hg (fun y h1 h2 => s_p_ng (fun e => s_mod_ne h1 h2 (by rw [e, hx]))) h96
  rw [show 97 - x = (97 - (x + 1)) + 1 by omega]
  show (if s_p g b l x = true then (if j = 0 then some x else s_nth (s_p g b l) (97 - (x + 1)) (x + 1) (j - 1)) else s_nth (s_p g b l) (97 - (x + 1)) (x + 1) j) = _
  rw [hsk, hsk, s_p_g hx]
  simp only [decide_eq_true_eq]
theorem m_gapA (w : WF C P S T H O g) (r : RM h C P S T H O g) {c p how t i : Int32} (hb : i < 0 ∨ s_bad c p how t 0) : zD mX8_gap (d + 3) [.ref 47, .int c, .int p, .int how, .int t, .int i] h (some (.int (-1000000001))) h := by
  obtain ⟨⟨rd, wr, hw, o0⟩, -⟩ := id r
  by_cases h3 : s_bad3 c p how
  · refine zD_of (by decide +kernel) (by exact Nat.le_of_ble_eq_true rfl) ?_
    show zB mX8_gap _ _ _ 0 [some (.ref 47), some (.int c), some (.int p), some (.int how), some (.int t), some (.int i), none, none, none] [] _
    refine zj_aload_n dX8_gap_0 (by rfl) ?_
    refine zj_iload_n dX8_gap_1 (by rfl) ?_
    refine zj_iload_n dX8_gap_2 (by rfl) ?_
    refine zj_iload_n dX8_gap_3 (by rfl) ?_
    refine zc_8_121 rfl dX8_gap_4 (by first | assumption | rfl) (m_refBad r h3) (by exact Nat.le_of_ble_eq_true rfl) ?_
    refine zj_istore dX8_gap_7 (by decide) ?_
    refine zj_iload dX8_gap_9 (by rfl) ?_
    refine zj_ldc (v := -1000000001) dX8_gap_11 zq_686 ?_
    refine zj_icmp_eq (tgt := 26) dX8_gap_13 (by decide) (fun _ => ?_) (fun zq => absurd (rfl) zq)
    refine zj_ldc (v := -1000000001) dX8_gap_26 zq_686 ?_
    refine zj_iret dX8_gap_28 rfl (Nat.le_refl _) (Nat.le_refl _) ?_
    exact ⟨rfl, rfl⟩
  · have hb2 : i < 0 ∨ t < 0 := hb.imp_right (fun hb => ((s_mBad hb).resolve_left h3).resolve_right (by decide))
    obtain ⟨i1, j, v, hi, hj, hv, hvh, rfl, rfl, rfl⟩ := s_ok3 h3
    refine zD_of (by decide +kernel) (by exact Nat.le_of_ble_eq_true rfl) ?_
    show zB mX8_gap _ _ _ 0 [some (.ref 47), some (.int (nI i1)), some (.int (nI j)), some (.int (nI v)), some (.int t), some (.int i), none, none, none] [] _
    refine zj_aload_n dX8_gap_0 (by rfl) ?_
    refine zj_iload_n dX8_gap_1 (by rfl) ?_
    refine zj_iload_n dX8_gap_2 (by rfl) ?_
    refine zj_iload_n dX8_gap_3 (by rfl) ?_
    refine zc_8_121 rfl dX8_gap_4 (by first | assumption | rfl) (m_ref w r hi hj hv hvh) (by exact Nat.le_of_ble_eq_true rfl) ?_
    refine zj_istore dX8_gap_7 (by decide) ?_
    refine zj_iload dX8_gap_9 (by rfl) ?_
    refine zj_ldc (v := -1000000001) dX8_gap_11 zq_686 ?_
    refine zj_icmp_eq (tgt := 26) dX8_gap_13 (by decide) (fun zq => absurd zq (s_noBad)) (fun _ => ?_)
    refine zj_iload dX8_gap_16 (by rfl) ?_
    refine zj_if_lt (tgt := 26) dX8_gap_18 (by decide) (fun q18 => ?_) (fun q18 => ?_)
    · refine zj_ldc (v := -1000000001) dX8_gap_26 zq_686 ?_
      refine zj_iret dX8_gap_28 rfl (Nat.le_refl _) (Nat.le_refl _) ?_
      exact ⟨rfl, rfl⟩
    · refine zj_iload dX8_gap_21 (by rfl) ?_
      refine zj_if_ge (tgt := 29) dX8_gap_23 (by decide) (fun q23 => ?_) (fun q23 => ?_)
      · exact absurd hb2 (fun hh => hh.elim (fun h4 => Int32.not_le.mpr h4 q23) q18)
      · refine zj_ldc (v := -1000000001) dX8_gap_26 zq_686 ?_
        refine zj_iret dX8_gap_28 rfl (Nat.le_refl _) (Nat.le_refl _) ?_
        exact ⟨rfl, rfl⟩
theorem m_gapN (w : WF C P S T H O g) (r : RM h C P S T H O g) {c p v t i : Nat} (hc : c < 4) (hp : p < 6) (hv : v < 2 ^ 31) (hvh : s_how v = true) (ht : t < 2 ^ 31) (hi : i < 2 ^ 31) (he : (C c).length = 0 ∨ (P p).length = 0) : zD mX8_gap (d + 3) [.ref 47, .int (nI c), .int (nI p), .int (nI v), .int (nI t), .int (nI i)] h (some (.int (-1000000002))) h := by
  obtain ⟨⟨rd, wr, hw, o0⟩, -⟩ := id r
  have hR := m_ref (d := d) w r hc hp hv hvh
  rw [if_pos he] at hR
  refine zD_of (by decide +kernel) (by exact Nat.le_of_ble_eq_true rfl) ?_
  show zB mX8_gap _ _ _ 0 [some (.ref 47), some (.int (nI c)), some (.int (nI p)), some (.int (nI v)), some (.int (nI t)), some (.int (nI i)), none, none, none] [] _
  refine zj_aload_n dX8_gap_0 (by rfl) ?_
  refine zj_iload_n dX8_gap_1 (by rfl) ?_
  refine zj_iload_n dX8_gap_2 (by rfl) ?_
  refine zj_iload_n dX8_gap_3 (by rfl) ?_
  refine zc_8_121 rfl dX8_gap_4 (by first | assumption | rfl) hR (by exact Nat.le_of_ble_eq_true rfl) ?_
  refine zj_istore dX8_gap_7 (by decide) ?_
  refine zj_iload dX8_gap_9 (by rfl) ?_
  refine zj_ldc (v := -1000000001) dX8_gap_11 zq_686 ?_
  refine zj_icmp_eq (tgt := 26) dX8_gap_13 (by decide) (fun zq => absurd zq (by decide)) (fun _ => ?_)
  refine zj_iload dX8_gap_16 (by rfl) ?_
  refine zj_if_ltN (tgt := 26) dX8_gap_18 (by decide) (by omega) ?_
  refine zj_iload dX8_gap_21 (by rfl) ?_
  refine zj_if_geN (tgt := 29) dX8_gap_23 (by decide) (by omega) ?_
  refine zj_iload dX8_gap_29 (by rfl) ?_
  refine zj_ldc (v := -1000000002) dX8_gap_31 zq_708 ?_
  refine zj_icmp_ne (tgt := 39) dX8_gap_33 (by decide) (fun zq => absurd (rfl) zq) (fun _ => ?_)
  refine zj_ldc (v := -1000000002) dX8_gap_36 zq_708 ?_
  refine zj_iret dX8_gap_38 rfl (Nat.le_refl _) (Nat.le_refl _) ?_
  exact ⟨rfl, rfl⟩
theorem m_gap_l (w : WF C P S T H O g) (r : RM h C P S T H O g) {c p v t : Nat} {v5 v6 : Int32} (hc : c < 4) (hp : p < 6) (hv : v < 2 ^ 31) (hvh : s_how v = true) (ht : t < 2 ^ 31) (he : ¬ ((C c).length = 0 ∨ (P p).length = 0)) : ∀ m x i, x % g = 0 → x < 97 + g → 97 ≤ x + m → i < 2 ^ 31 → zB mX8_gap (d + 2) (some (.int (s_oN (s_nth (s_p g (s_base (P p).length t v 3) (s_cl C c)) (97 - x) x i)))) h 46 [some (.ref 47), some (.int (nI c)), some (.int (nI p)), some (.int (nI v)), some (.int (nI t)), some (.int v5), some (.int v6), some (.int (nI i)), some (.int (nI x))] [] h := by
  obtain ⟨⟨rd, wr, hw, o0⟩, -⟩ := id r
  obtain ⟨wg1, wg2⟩ := w.2.2.2.2.2.2
  have l2 := (w.2.1 p hp).1
  have hbl := s_base_le (t := t) (v := v) (k := 3) l2 (by omega)
  have hb0 := s_base_0 (P p).length t v 3
  intro m
  induction m with
  | zero =>
    intro x i hx h1 h2 hi
    rw [show 97 - x = 0 by omega]
    refine zj_iload dX8_gap_46 (by rfl) ?_
    refine zj_bipush (v := nI 96) dX8_gap_48 (by decide) ?_
    refine zj_icmp_gtN (tgt := 96) dX8_gap_50 (by decide) (by omega) (fun _ => ?_) (fun zq => absurd (by omega) zq)
    refine zj_ldc (v := -1000000005) dX8_gap_96 zq_744 ?_
    refine zj_iret dX8_gap_98 rfl (Nat.le_refl _) (Nat.le_refl _) ?_
    exact ⟨rfl, rfl⟩
  | succ m ih =>
    intro x i hx h1 h2 hi
    by_cases hx96 : x ≤ 96
    · rw [s_nth_g wg1 hx hx96]
      have hJ := fun i hi => ih (x + g) i (by rw [s_mod_step (by omega)]; exact hx) (by omega) (by omega) hi
      have hT := m_till (d := d) w r hp hv hvh hx96 (fun e => he (Or.inr e))
      have hL := m_doesLand (d := d) (t := s_base (P p).length t v 3 + 2 * x) w r hc (fun e => he (Or.inl e)) (by omega)
      have e1 : lN t + lN (s_base (P p).length 0 v 3 + 2 * x) = lN (s_base (P p).length t v 3 + 2 * x) := by rw [lN_add, hb0]; congr 1; omega
      by_cases hq : (s_base (P p).length t v 3 + 2 * x) % s_cl C c = 0
      · rw [if_pos hq] at hL ⊢
        by_cases hi0 : i = 0
        · rw [if_pos hi0]
          refine zj_iload dX8_gap_46 (by rfl) ?_
          refine zj_bipush (v := nI 96) dX8_gap_48 (by decide) ?_
          refine zj_icmp_gtN (tgt := 96) dX8_gap_50 (by decide) (by omega) (fun zq => absurd zq (by omega)) (fun _ => ?_)
          refine zj_aload_n dX8_gap_53 (by rfl) ?_
          refine zj_iload_n dX8_gap_54 (by rfl) ?_
          refine zj_iload dX8_gap_55 (by rfl) ?_
          refine zj_i2l dX8_gap_57 ?_
          rw [nI_l ht]
          refine zj_aload_n dX8_gap_58 (by rfl) ?_
          refine zj_iload_n dX8_gap_59 (by rfl) ?_
          refine zj_iload_n dX8_gap_60 (by rfl) ?_
          refine zj_iload dX8_gap_61 (by rfl) ?_
          refine zc_8_125 rfl dX8_gap_63 (by first | assumption | rfl) hT (by exact Nat.le_of_ble_eq_true rfl) ?_
          refine zj_ladd dX8_gap_66 ?_
          rw [e1]
          refine zc_8_129 rfl dX8_gap_67 (by first | assumption | rfl) hL (by exact Nat.le_of_ble_eq_true rfl) ?_
          refine zj_if_eq (tgt := 84) dX8_gap_70 (by decide) (fun zq => absurd zq (by decide)) (fun _ => ?_)
          refine zj_iload dX8_gap_73 (by rfl) ?_
          refine zj_if_neN (tgt := 81) dX8_gap_75 (by decide) (by omega) (fun zq => absurd (hi0) zq) (fun _ => ?_)
          refine zj_iload dX8_gap_78 (by rfl) ?_
          refine zj_iret dX8_gap_80 rfl (Nat.le_refl _) (Nat.le_refl _) ?_
          exact ⟨rfl, rfl⟩
        · rw [if_neg hi0]
          obtain ⟨i1, rfl⟩ : ∃ i1, i = i1 + 1 := ⟨i - 1, by omega⟩
          rw [Nat.add_sub_cancel]
          refine zj_iload dX8_gap_46 (by rfl) ?_
          refine zj_bipush (v := nI 96) dX8_gap_48 (by decide) ?_
          refine zj_icmp_gtN (tgt := 96) dX8_gap_50 (by decide) (by omega) (fun zq => absurd zq (by omega)) (fun _ => ?_)
          refine zj_aload_n dX8_gap_53 (by rfl) ?_
          refine zj_iload_n dX8_gap_54 (by rfl) ?_
          refine zj_iload dX8_gap_55 (by rfl) ?_
          refine zj_i2l dX8_gap_57 ?_
          rw [nI_l ht]
          refine zj_aload_n dX8_gap_58 (by rfl) ?_
          refine zj_iload_n dX8_gap_59 (by rfl) ?_
          refine zj_iload_n dX8_gap_60 (by rfl) ?_
          refine zj_iload dX8_gap_61 (by rfl) ?_
          refine zc_8_125 rfl dX8_gap_63 (by first | assumption | rfl) hT (by exact Nat.le_of_ble_eq_true rfl) ?_
          refine zj_ladd dX8_gap_66 ?_
          rw [e1]
          refine zc_8_129 rfl dX8_gap_67 (by first | assumption | rfl) hL (by exact Nat.le_of_ble_eq_true rfl) ?_
          refine zj_if_eq (tgt := 84) dX8_gap_70 (by decide) (fun zq => absurd zq (by decide)) (fun _ => ?_)
          refine zj_iload dX8_gap_73 (by rfl) ?_
          refine zj_if_neN (tgt := 81) dX8_gap_75 (by decide) (by omega) (fun _ => ?_) (fun zq => absurd zq (hi0))
          refine zj_iincNm dX8_gap_81 (by rfl) (by decide) ?_
          refine zj_iload dX8_gap_84 (by rfl) ?_
          refine zj_aload_n dX8_gap_86 (by rfl) ?_
          refine zg_8_28 rfl dX8_gap_87 (by first | assumption | rfl) (by rfl) ?_
          refine zj_iaddN dX8_gap_90 ?_
          refine zj_istore dX8_gap_91 (by decide) ?_
          refine zj_goto (tgt := 46) dX8_gap_93 (by decide) ?_
          exact hJ i1 (by omega)
      · rw [if_neg hq] at hL ⊢
        refine zj_iload dX8_gap_46 (by rfl) ?_
        refine zj_bipush (v := nI 96) dX8_gap_48 (by decide) ?_
        refine zj_icmp_gtN (tgt := 96) dX8_gap_50 (by decide) (by omega) (fun zq => absurd zq (by omega)) (fun _ => ?_)
        refine zj_aload_n dX8_gap_53 (by rfl) ?_
        refine zj_iload_n dX8_gap_54 (by rfl) ?_
        refine zj_iload dX8_gap_55 (by rfl) ?_
        refine zj_i2l dX8_gap_57 ?_
        rw [nI_l ht]
        refine zj_aload_n dX8_gap_58 (by rfl) ?_
        refine zj_iload_n dX8_gap_59 (by rfl) ?_
        refine zj_iload_n dX8_gap_60 (by rfl) ?_
        refine zj_iload dX8_gap_61 (by rfl) ?_
        refine zc_8_125 rfl dX8_gap_63 (by first | assumption | rfl) hT (by exact Nat.le_of_ble_eq_true rfl) ?_
        refine zj_ladd dX8_gap_66 ?_
        rw [e1]
        refine zc_8_129 rfl dX8_gap_67 (by first | assumption | rfl) hL (by exact Nat.le_of_ble_eq_true rfl) ?_
        refine zj_if_eq (tgt := 84) dX8_gap_70 (by decide) (fun _ => ?_) (fun zq => absurd (rfl) zq)
        refine zj_iload dX8_gap_84 (by rfl) ?_
        refine zj_aload_n dX8_gap_86 (by rfl) ?_
        refine zg_8_28 rfl dX8_gap_87 (by first | assumption | rfl) (by rfl) ?_
        refine zj_iaddN dX8_gap_90 ?_
        refine zj_istore dX8_gap_91 (by decide) ?_
        refine zj_goto (tgt := 46) dX8_gap_93 (by decide) ?_
        exact hJ i hi
    · rw [show 97 - x = 0 by omega]
      refine zj_iload dX8_gap_46 (by rfl) ?_
      refine zj_bipush (v := nI 96) dX8_gap_48 (by decide) ?_
      refine zj_icmp_gtN (tgt := 96) dX8_gap_50 (by decide) (by omega) (fun _ => ?_) (fun zq => absurd (by omega) zq)
      refine zj_ldc (v := -1000000005) dX8_gap_96 zq_744 ?_
      refine zj_iret dX8_gap_98 rfl (Nat.le_refl _) (Nat.le_refl _) ?_
      exact ⟨rfl, rfl⟩
theorem m_gap (w : WF C P S T H O g) (r : RM h C P S T H O g) {c p v t i : Nat} (hc : c < 4) (hp : p < 6) (hv : v < 2 ^ 31) (hvh : s_how v = true) (ht : t < 2 ^ 31) (hi : i < 2 ^ 31) (he : ¬ ((C c).length = 0 ∨ (P p).length = 0)) : zD mX8_gap (d + 3) [.ref 47, .int (nI c), .int (nI p), .int (nI v), .int (nI t), .int (nI i)] h (some (.int (s_oN (s_nth (s_p g (s_base (P p).length t v 3) (s_cl C c)) 97 0 i)))) h := by
  obtain ⟨⟨rd, wr, hw, o0⟩, -⟩ := id r
  have hR := m_ref (d := d) w r hc hp hv hvh
  rw [if_neg he] at hR
  refine zD_of (by decide +kernel) (by exact Nat.le_of_ble_eq_true rfl) ?_
  show zB mX8_gap _ _ _ 0 [some (.ref 47), some (.int (nI c)), some (.int (nI p)), some (.int (nI v)), some (.int (nI t)), some (.int (nI i)), none, none, none] [] _
  refine zj_aload_n dX8_gap_0 (by rfl) ?_
  refine zj_iload_n dX8_gap_1 (by rfl) ?_
  refine zj_iload_n dX8_gap_2 (by rfl) ?_
  refine zj_iload_n dX8_gap_3 (by rfl) ?_
  refine zc_8_121 rfl dX8_gap_4 (by first | assumption | rfl) hR (by exact Nat.le_of_ble_eq_true rfl) ?_
  refine zj_istore dX8_gap_7 (by decide) ?_
  refine zj_iload dX8_gap_9 (by rfl) ?_
  refine zj_ldc (v := -1000000001) dX8_gap_11 zq_686 ?_
  refine zj_icmp_eq (tgt := 26) dX8_gap_13 (by decide) (fun zq => absurd zq (by decide)) (fun _ => ?_)
  refine zj_iload dX8_gap_16 (by rfl) ?_
  refine zj_if_ltN (tgt := 26) dX8_gap_18 (by decide) (by omega) ?_
  refine zj_iload dX8_gap_21 (by rfl) ?_
  refine zj_if_geN (tgt := 29) dX8_gap_23 (by decide) (by omega) ?_
  refine zj_iload dX8_gap_29 (by rfl) ?_
  refine zj_ldc (v := -1000000002) dX8_gap_31 zq_708 ?_
  refine zj_icmp_ne (tgt := 39) dX8_gap_33 (by decide) (fun _ => ?_) (fun zq => absurd zq (by decide))
  refine zj_iload dX8_gap_39 (by rfl) ?_
  refine zj_istore dX8_gap_41 (by decide) ?_
  refine zj_iconst (v := nI 0) dX8_gap_43 (by decide) ?_
  refine zj_istore dX8_gap_44 (by decide) ?_
  exact m_gap_l (d := d + 1) w r hc hp hv hvh ht he 97 0 i (Nat.zero_mod _) (by omega) (by omega) hi
theorem m_startA (w : WF C P S T H O g) (r : RM h C P S T H O g) {c p how gp : Int32} (hb : s_bad c p how 0 gp) : zD mX8_start (d + 3) [.ref 47, .int c, .int p, .int how, .int gp] h (some (.int (-1000000001))) h := by
  obtain ⟨⟨rd, wr, hw, o0⟩, -⟩ := id r
  by_cases h3 : s_bad3 c p how
  · refine zD_of (by decide +kernel) (by exact Nat.le_of_ble_eq_true rfl) ?_
    show zB mX8_start _ _ _ 0 [some (.ref 47), some (.int c), some (.int p), some (.int how), some (.int gp), none, none] [] _
    refine zj_aload_n dX8_start_0 (by rfl) ?_
    refine zj_iload_n dX8_start_1 (by rfl) ?_
    refine zj_iload_n dX8_start_2 (by rfl) ?_
    refine zj_iload_n dX8_start_3 (by rfl) ?_
    refine zc_8_121 rfl dX8_start_4 (by first | assumption | rfl) (m_refBad r h3) (by exact Nat.le_of_ble_eq_true rfl) ?_
    refine zj_istore dX8_start_7 (by decide) ?_
    refine zj_iload dX8_start_9 (by rfl) ?_
    refine zj_ldc (v := -1000000001) dX8_start_11 zq_686 ?_
    refine zj_icmp_eq (tgt := 27) dX8_start_13 (by decide) (fun _ => ?_) (fun zq => absurd (rfl) zq)
    refine zj_ldc (v := -1000000001) dX8_start_27 zq_686 ?_
    refine zj_iret dX8_start_29 rfl (Nat.le_refl _) (Nat.le_refl _) ?_
    exact ⟨rfl, rfl⟩
  · have hb2 : gp < 0 ∨ 96 < gp := ((s_mBad hb).resolve_left h3).resolve_left (by decide)
    obtain ⟨i, j, v, hi, hj, hv, hvh, rfl, rfl, rfl⟩ := s_ok3 h3
    refine zD_of (by decide +kernel) (by exact Nat.le_of_ble_eq_true rfl) ?_
    show zB mX8_start _ _ _ 0 [some (.ref 47), some (.int (nI i)), some (.int (nI j)), some (.int (nI v)), some (.int gp), none, none] [] _
    refine zj_aload_n dX8_start_0 (by rfl) ?_
    refine zj_iload_n dX8_start_1 (by rfl) ?_
    refine zj_iload_n dX8_start_2 (by rfl) ?_
    refine zj_iload_n dX8_start_3 (by rfl) ?_
    refine zc_8_121 rfl dX8_start_4 (by first | assumption | rfl) (m_ref w r hi hj hv hvh) (by exact Nat.le_of_ble_eq_true rfl) ?_
    refine zj_istore dX8_start_7 (by decide) ?_
    refine zj_iload dX8_start_9 (by rfl) ?_
    refine zj_ldc (v := -1000000001) dX8_start_11 zq_686 ?_
    refine zj_icmp_eq (tgt := 27) dX8_start_13 (by decide) (fun zq => absurd zq (s_noBad)) (fun _ => ?_)
    refine zj_iload dX8_start_16 (by rfl) ?_
    refine zj_iconst (v := 0) dX8_start_18 (by decide) ?_
    refine zj_bipush (v := 96) dX8_start_19 (by decide) ?_
    refine zc_8_63 rfl dX8_start_21 (m_isIn _ _ _) (by exact Nat.le_of_ble_eq_true rfl) ?_
    rw [s_is0 hb2]
    refine zj_if_ne (tgt := 30) dX8_start_24 (by decide) (fun zq => absurd (rfl) zq) (fun _ => ?_)
    refine zj_ldc (v := -1000000001) dX8_start_27 zq_686 ?_
    refine zj_iret dX8_start_29 rfl (Nat.le_refl _) (Nat.le_refl _) ?_
    exact ⟨rfl, rfl⟩
theorem m_startN (w : WF C P S T H O g) (r : RM h C P S T H O g) {c p v gp : Nat} (hc : c < 4) (hp : p < 6) (hv : v < 2 ^ 31) (hvh : s_how v = true) (hg : gp ≤ 96) (he : (C c).length = 0 ∨ (P p).length = 0) : zD mX8_start (d + 3) [.ref 47, .int (nI c), .int (nI p), .int (nI v), .int (nI gp)] h (some (.int (-1000000002))) h := by
  obtain ⟨⟨rd, wr, hw, o0⟩, -⟩ := id r
  have hR := m_ref (d := d) w r hc hp hv hvh
  rw [if_pos he] at hR
  refine zD_of (by decide +kernel) (by exact Nat.le_of_ble_eq_true rfl) ?_
  show zB mX8_start _ _ _ 0 [some (.ref 47), some (.int (nI c)), some (.int (nI p)), some (.int (nI v)), some (.int (nI gp)), none, none] [] _
  refine zj_aload_n dX8_start_0 (by rfl) ?_
  refine zj_iload_n dX8_start_1 (by rfl) ?_
  refine zj_iload_n dX8_start_2 (by rfl) ?_
  refine zj_iload_n dX8_start_3 (by rfl) ?_
  refine zc_8_121 rfl dX8_start_4 (by first | assumption | rfl) hR (by exact Nat.le_of_ble_eq_true rfl) ?_
  refine zj_istore dX8_start_7 (by decide) ?_
  refine zj_iload dX8_start_9 (by rfl) ?_
  refine zj_ldc (v := -1000000001) dX8_start_11 zq_686 ?_
  refine zj_icmp_eq (tgt := 27) dX8_start_13 (by decide) (fun zq => absurd zq (by decide)) (fun _ => ?_)
  refine zj_iload dX8_start_16 (by rfl) ?_
  refine zj_iconst (v := nI 0) dX8_start_18 (by decide) ?_
  refine zj_bipush (v := nI 96) dX8_start_19 (by decide) ?_
  refine zc_8_63 rfl dX8_start_21 (m_isIn _ _ _) (by exact Nat.le_of_ble_eq_true rfl) ?_
  rw [s_is1 (nI_nlt (by omega) (by omega)) (nI_nlt (by omega) (by omega))]
  refine zj_if_ne (tgt := 30) dX8_start_24 (by decide) (fun _ => ?_) (fun zq => absurd zq (by decide))
  refine zj_iload dX8_start_30 (by rfl) ?_
  refine zj_ldc (v := -1000000002) dX8_start_32 zq_708 ?_
  refine zj_icmp_ne (tgt := 40) dX8_start_34 (by decide) (fun zq => absurd (rfl) zq) (fun _ => ?_)
  refine zj_ldc (v := -1000000002) dX8_start_37 zq_708 ?_
  refine zj_iret dX8_start_39 rfl (Nat.le_refl _) (Nat.le_refl _) ?_
  exact ⟨rfl, rfl⟩
theorem m_start_l (w : WF C P S T H O g) (r : RM h C P S T H O g) {c p v gp : Nat} {v5 : Int32} (hc : c < 4) (hp : p < 6) (hv : v < 2 ^ 31) (hvh : s_how v = true) (hg : gp ≤ 96) (he : ¬ ((C c).length = 0 ∨ (P p).length = 0)) : ∀ m t, t + m = s_w (s_base (P p).length 0 v 3 + 2 * gp) (s_cl C c) → zB mX8_start (d + 2) (some (.int (nI (s_w (s_base (P p).length 0 v 3 + 2 * gp) (s_cl C c))))) h 43 [some (.ref 47), some (.int (nI c)), some (.int (nI p)), some (.int (nI v)), some (.int (nI gp)), some (.int v5), some (.int (nI t))] [] h := by
  obtain ⟨⟨rd, wr, hw, o0⟩, -⟩ := id r
  have l2 := (w.2.1 p hp).1
  have hLp := s_cl_pos w.1 hc (fun e => he (Or.inl e))
  have hLe := s_cl_le w.1 hc
  have hbl := s_base_le (t := 0) (v := v) (k := 3) l2 (by omega)
  have hlt := s_w_lt (b := s_base (P p).length 0 v 3 + 2 * gp) hLp
  have hT := m_till (d := d) w r hp hv hvh hg (fun e => he (Or.inr e))
  intro m
  induction m with
  | zero =>
    intro t ht
    have hL := m_doesLand (d := d) (t := t + (s_base (P p).length 0 v 3 + 2 * gp)) w r hc (fun e => he (Or.inl e)) (by omega)
    rw [if_pos (by rw [Nat.add_comm]; exact (s_w_iff hLp).mpr (by rw [Nat.mod_eq_of_lt (by omega)]; omega))] at hL
    refine zj_aload_n dX8_start_43 (by rfl) ?_
    refine zj_iload_n dX8_start_44 (by rfl) ?_
    refine zj_iload dX8_start_45 (by rfl) ?_
    refine zj_i2l dX8_start_47 ?_
    rw [nI_l (show t < 2 ^ 31 by omega)]
    refine zj_aload_n dX8_start_48 (by rfl) ?_
    refine zj_iload_n dX8_start_49 (by rfl) ?_
    refine zj_iload_n dX8_start_50 (by rfl) ?_
    refine zj_iload dX8_start_51 (by rfl) ?_
    refine zc_8_125 rfl dX8_start_53 (by first | assumption | rfl) hT (by exact Nat.le_of_ble_eq_true rfl) ?_
    refine zj_ladd dX8_start_56 ?_
    rw [lN_add]
    refine zc_8_129 rfl dX8_start_57 (by first | assumption | rfl) hL (by exact Nat.le_of_ble_eq_true rfl) ?_
    refine zj_if_ne (tgt := 69) dX8_start_60 (by decide) (fun _ => ?_) (fun zq => absurd zq (by decide))
    refine zj_iload dX8_start_69 (by rfl) ?_
    refine zj_iret dX8_start_71 rfl (Nat.le_refl _) (Nat.le_refl _) ?_
    exact ⟨by rw [← ht, Nat.add_zero], rfl⟩
  | succ m ih =>
    intro t ht
    have hJ := ih (t + 1) (by omega)
    have hL := m_doesLand (d := d) (t := t + (s_base (P p).length 0 v 3 + 2 * gp)) w r hc (fun e => he (Or.inl e)) (by omega)
    rw [if_neg (by rw [Nat.add_comm]; intro e; have := (s_w_iff hLp).mp e; rw [Nat.mod_eq_of_lt (by omega)] at this; omega)] at hL
    refine zj_aload_n dX8_start_43 (by rfl) ?_
    refine zj_iload_n dX8_start_44 (by rfl) ?_
    refine zj_iload dX8_start_45 (by rfl) ?_
    refine zj_i2l dX8_start_47 ?_
    rw [nI_l (show t < 2 ^ 31 by omega)]
    refine zj_aload_n dX8_start_48 (by rfl) ?_
    refine zj_iload_n dX8_start_49 (by rfl) ?_
    refine zj_iload_n dX8_start_50 (by rfl) ?_
    refine zj_iload dX8_start_51 (by rfl) ?_
    refine zc_8_125 rfl dX8_start_53 (by first | assumption | rfl) hT (by exact Nat.le_of_ble_eq_true rfl) ?_
    refine zj_ladd dX8_start_56 ?_
    rw [lN_add]
    refine zc_8_129 rfl dX8_start_57 (by first | assumption | rfl) hL (by exact Nat.le_of_ble_eq_true rfl) ?_
    refine zj_if_ne (tgt := 69) dX8_start_60 (by decide) (fun zq => absurd (rfl) zq) (fun _ => ?_)
    refine zj_iincN dX8_start_63 (by rfl) (by decide) ?_
    refine zj_goto (tgt := 43) dX8_start_66 (by decide) ?_
    exact hJ
theorem m_start (w : WF C P S T H O g) (r : RM h C P S T H O g) {c p v gp : Nat} (hc : c < 4) (hp : p < 6) (hv : v < 2 ^ 31) (hvh : s_how v = true) (hg : gp ≤ 96) (he : ¬ ((C c).length = 0 ∨ (P p).length = 0)) : zD mX8_start (d + 3) [.ref 47, .int (nI c), .int (nI p), .int (nI v), .int (nI gp)] h (some (.int (nI (s_w (s_base (P p).length 0 v 3 + 2 * gp) (s_cl C c))))) h := by
  obtain ⟨⟨rd, wr, hw, o0⟩, -⟩ := id r
  have hR := m_ref (d := d) w r hc hp hv hvh
  rw [if_neg he] at hR
  refine zD_of (by decide +kernel) (by exact Nat.le_of_ble_eq_true rfl) ?_
  show zB mX8_start _ _ _ 0 [some (.ref 47), some (.int (nI c)), some (.int (nI p)), some (.int (nI v)), some (.int (nI gp)), none, none] [] _
  refine zj_aload_n dX8_start_0 (by rfl) ?_
  refine zj_iload_n dX8_start_1 (by rfl) ?_
  refine zj_iload_n dX8_start_2 (by rfl) ?_
  refine zj_iload_n dX8_start_3 (by rfl) ?_
  refine zc_8_121 rfl dX8_start_4 (by first | assumption | rfl) hR (by exact Nat.le_of_ble_eq_true rfl) ?_
  refine zj_istore dX8_start_7 (by decide) ?_
  refine zj_iload dX8_start_9 (by rfl) ?_
  refine zj_ldc (v := -1000000001) dX8_start_11 zq_686 ?_
  refine zj_icmp_eq (tgt := 27) dX8_start_13 (by decide) (fun zq => absurd zq (by decide)) (fun _ => ?_)
  refine zj_iload dX8_start_16 (by rfl) ?_
  refine zj_iconst (v := nI 0) dX8_start_18 (by decide) ?_
  refine zj_bipush (v := nI 96) dX8_start_19 (by decide) ?_
  refine zc_8_63 rfl dX8_start_21 (m_isIn _ _ _) (by exact Nat.le_of_ble_eq_true rfl) ?_
  rw [s_is1 (nI_nlt (by omega) (by omega)) (nI_nlt (by omega) (by omega))]
  refine zj_if_ne (tgt := 30) dX8_start_24 (by decide) (fun _ => ?_) (fun zq => absurd zq (by decide))
  refine zj_iload dX8_start_30 (by rfl) ?_
  refine zj_ldc (v := -1000000002) dX8_start_32 zq_708 ?_
  refine zj_icmp_ne (tgt := 40) dX8_start_34 (by decide) (fun _ => ?_) (fun zq => absurd zq (by decide))
  refine zj_iconst (v := nI 0) dX8_start_40 (by decide) ?_
  refine zj_istore dX8_start_41 (by decide) ?_
  exact m_start_l (d := d + 1) w r hc hp hv hvh hg he _ 0 (Nat.zero_add _)
end M4
