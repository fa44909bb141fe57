section M9
variable {h h' : zH} {C : Nat → List (Nat × Nat)} {P : Nat → List Nat} {S : Nat → Option (List Int32)} {T : List Nat} {H : Nat → Nat} {O : List (Nat × Nat)} {g d : Nat}
theorem m_tillDouble (w : WF C P S T H O g) (r : RM h C P S T H O g) {p v gp hp2 : Nat} (hp : p < 6) (hv : v < 2 ^ 31) (hvh : s_how v = true) (hg : gp ≤ 96) (hh : hp2 ≤ 96) (hn : ¬ (P p).length = 0) : zD mX8_tillDouble (d + 1) [.ref 47, .int (nI p), .int (nI v), .int (nI gp), .int (nI hp2)] h (some (.long (lN (s_base (P p).length 0 v 9 + 6 * gp + 2 * hp2)))) h := by
  obtain ⟨⟨rd, wr, hw, o0⟩, -⟩ := id r
  obtain ⟨hv1, hv2⟩ := of_decide_eq_true hvh
  have l2 := (w.2.1 p hp).1
  obtain ⟨n, n1, n2, n3, n4⟩ := s_sp_div hv2
  have hvn : v / 10 = n := (nI_eq (by omega) (by omega)).mp n3
  have hT := m_ticksOf (d := d) r hp hv2
  have hle := s_tpo_le (nI (v / 10))
  have hpr : (P p).length * s_tpo (nI (v / 10)) ≤ 60 * 24 := Nat.mul_le_mul l2 hle
  obtain ⟨t, htd⟩ : ∃ t, t = s_tpo (nI (v / 10)) := ⟨_, rfl⟩
  rw [← htd] at hT hle hpr n4
  have hb0 : s_base (P p).length 0 v 9 = (9 * (P p).length - v % 10) * t := by unfold s_base; rw [← htd, Nat.zero_add]
  have hb1 : v % 10 = 0 → s_base (P p).length 0 v 9 = 9 * ((P p).length * t) := fun e => by rw [hb0, e, Nat.sub_zero, Nat.mul_assoc]
  have hb2 : v % 10 = 1 → s_base (P p).length 0 v 9 + t = 9 * ((P p).length * t) := fun e => by
    rw [hb0, e, ← Nat.mul_assoc]
    have : 9 * (P p).length = (9 * (P p).length - 1) + 1 := by omega
    generalize 9 * (P p).length - 1 = y at *
    rw [this, Nat.succ_mul]
  refine zD_of (by decide +kernel) (by exact Nat.le_of_ble_eq_true rfl) ?_
  show zB mX8_tillDouble _ _ _ 0 [some (.ref 47), some (.int (nI p)), some (.int (nI v)), some (.int (nI gp)), some (.int (nI hp2)), none, none] [] _
  refine zj_ldc2 (v := 9) dX8_tillDouble_0 zq_794 ?_
  refine zj_aload_n dX8_tillDouble_3 (by rfl) ?_
  refine zj_iload_n dX8_tillDouble_4 (by rfl) ?_
  refine zj_iload_n dX8_tillDouble_5 (by rfl) ?_
  refine zj_bipush (v := nI 10) dX8_tillDouble_6 (by decide) ?_
  refine zj_idivN dX8_tillDouble_8 (by omega) ?_
  refine zc_8_110 rfl dX8_tillDouble_9 (by first | assumption | rfl) hT (by exact Nat.le_of_ble_eq_true rfl) ?_
  refine zj_i2l dX8_tillDouble_12 ?_
  rw [nI_l (show (P p).length * t < 2 ^ 31 by omega)]
  refine zj_lmul dX8_tillDouble_13 ?_
  rw [show (9 : Int64) = lN 9 from rfl, lN_mul]
  refine zj_ldc2 (v := 6) dX8_tillDouble_14 zq_795 ?_
  refine zj_iload_n dX8_tillDouble_17 (by rfl) ?_
  refine zj_i2l dX8_tillDouble_18 ?_
  rw [nI_l (show gp < 2 ^ 31 by omega)]
  refine zj_lmul dX8_tillDouble_19 ?_
  rw [show (6 : Int64) = lN 6 from rfl, lN_mul]
  refine zj_ladd dX8_tillDouble_20 ?_
  rw [lN_add]
  refine zj_ldc2 (v := 2) dX8_tillDouble_21 zq_769 ?_
  refine zj_iload dX8_tillDouble_24 (by rfl) ?_
  refine zj_i2l dX8_tillDouble_26 ?_
  rw [nI_l (show hp2 < 2 ^ 31 by omega)]
  refine zj_lmul dX8_tillDouble_27 ?_
  rw [show (2 : Int64) = lN 2 from rfl, lN_mul]
  refine zj_ladd dX8_tillDouble_28 ?_
  rw [lN_add]
  refine zj_lstore dX8_tillDouble_29 (by decide) ?_
  refine zj_iload_n dX8_tillDouble_31 (by rfl) ?_
  refine zj_bipush (v := nI 10) dX8_tillDouble_32 (by decide) ?_
  refine zj_iremN dX8_tillDouble_34 (by omega) ?_
  refine zj_iconst (v := nI 1) dX8_tillDouble_35 (by decide) ?_
  refine zj_icmp_neN (tgt := 53) dX8_tillDouble_36 (by decide) (by omega) (fun q36 => ?_) (fun q36 => ?_)
  · refine zj_lload dX8_tillDouble_53 (by rfl) ?_
    refine zj_lret dX8_tillDouble_55 rfl (Nat.le_refl _) (Nat.le_refl _) ?_
    refine ⟨?_, rfl⟩
    congr 3
    first | (have := hb2 q36; omega) | (have := hb1 (by omega); omega)
  · refine zj_lload dX8_tillDouble_39 (by rfl) ?_
    refine zj_bipush (v := nI 24) dX8_tillDouble_41 (by decide) ?_
    refine zj_iload_n dX8_tillDouble_43 (by rfl) ?_
    refine zj_bipush (v := nI 10) dX8_tillDouble_44 (by decide) ?_
    refine zj_idivN dX8_tillDouble_46 (by omega) ?_
    refine zj_idivN dX8_tillDouble_47 (by omega) ?_
    refine zj_i2l dX8_tillDouble_48 ?_
    rw [nI_l (show 24 / (v / 10) < 2 ^ 31 by rw [hvn, ← n4]; omega), hvn, ← n4]
    refine zj_lsub dX8_tillDouble_49 ?_
    rw [lN_sub (by have := hb2 q36; omega)]
    refine zj_goto (tgt := 55) dX8_tillDouble_50 (by decide) ?_
    refine zj_lret dX8_tillDouble_55 rfl (Nat.le_refl _) (Nat.le_refl _) ?_
    refine ⟨?_, rfl⟩
    congr 3
    first | (have := hb2 q36; omega) | (have := hb1 (by omega); omega)
theorem m_doublesA (w : WF C P S T H O g) (r : RM h C P S T H O g) {c p how t : Int32} (hb : s_bad c p how t 0) : zD mX8_doubles (d + 3) [.ref 47, .int c, .int p, .int how, .int t] h (some (.int (-1000000001))) h := by
  obtain ⟨⟨rd, wr, hw, o0⟩, -⟩ := id r
  by_cases h3 : s_bad3 c p how
  · refine zD_of (by decide +kernel) (by exact Nat.le_of_ble_eq_true rfl) ?_
    show zB mX8_doubles _ _ _ 0 [some (.ref 47), some (.int c), some (.int p), some (.int how), some (.int t), none, none, none, none] [] _
    refine zj_aload_n dX8_doubles_0 (by rfl) ?_
    refine zj_iload_n dX8_doubles_1 (by rfl) ?_
    refine zj_iload_n dX8_doubles_2 (by rfl) ?_
    refine zj_iload_n dX8_doubles_3 (by rfl) ?_
    refine zc_8_121 rfl dX8_doubles_4 (by first | assumption | rfl) (m_refBad r h3) (by exact Nat.le_of_ble_eq_true rfl) ?_
    refine zj_istore dX8_doubles_7 (by decide) ?_
    refine zj_iload dX8_doubles_9 (by rfl) ?_
    refine zj_ldc (v := -1000000001) dX8_doubles_11 zq_686 ?_
    refine zj_icmp_eq (tgt := 21) dX8_doubles_13 (by decide) (fun _ => ?_) (fun zq => absurd (rfl) zq)
    refine zj_ldc (v := -1000000001) dX8_doubles_21 zq_686 ?_
    refine zj_iret dX8_doubles_23 rfl (Nat.le_refl _) (Nat.le_refl _) ?_
    exact ⟨rfl, rfl⟩
  · have hb2 : t < 0 := ((s_mBad hb).resolve_left h3).resolve_right (by decide)
    obtain ⟨i, j, v, hi, hj, hv, hvh, rfl, rfl, rfl⟩ := s_ok3 h3
    refine zD_of (by decide +kernel) (by exact Nat.le_of_ble_eq_true rfl) ?_
    show zB mX8_doubles _ _ _ 0 [some (.ref 47), some (.int (nI i)), some (.int (nI j)), some (.int (nI v)), some (.int t), none, none, none, none] [] _
    refine zj_aload_n dX8_doubles_0 (by rfl) ?_
    refine zj_iload_n dX8_doubles_1 (by rfl) ?_
    refine zj_iload_n dX8_doubles_2 (by rfl) ?_
    refine zj_iload_n dX8_doubles_3 (by rfl) ?_
    refine zc_8_121 rfl dX8_doubles_4 (by first | assumption | rfl) (m_ref w r hi hj hv hvh) (by exact Nat.le_of_ble_eq_true rfl) ?_
    refine zj_istore dX8_doubles_7 (by decide) ?_
    refine zj_iload dX8_doubles_9 (by rfl) ?_
    refine zj_ldc (v := -1000000001) dX8_doubles_11 zq_686 ?_
    refine zj_icmp_eq (tgt := 21) dX8_doubles_13 (by decide) (fun zq => absurd zq (s_noBad)) (fun _ => ?_)
    refine zj_iload dX8_doubles_16 (by rfl) ?_
    refine zj_if_ge (tgt := 24) dX8_doubles_18 (by decide) (fun zq => absurd zq (Int32.not_le.mpr hb2)) (fun _ => ?_)
    refine zj_ldc (v := -1000000001) dX8_doubles_21 zq_686 ?_
    refine zj_iret dX8_doubles_23 rfl (Nat.le_refl _) (Nat.le_refl _) ?_
    exact ⟨rfl, rfl⟩
theorem m_doublesN (w : WF C P S T H O g) (r : RM h C P S T H O g) {c p v t : Nat} (hc : c < 4) (hp : p < 6) (hv : v < 2 ^ 31) (hvh : s_how v = true) (ht : t < 2 ^ 31) (he : (C c).length = 0 ∨ (P p).length = 0) : zD mX8_doubles (d + 3) [.ref 47, .int (nI c), .int (nI p), .int (nI v), .int (nI t)] h (some (.int (-1000000002))) h := by
  obtain ⟨⟨rd, wr, hw, o0⟩, -⟩ := id r
  have hR := m_ref (d := d) w r hc hp hv hvh
  rw [if_pos he] at hR
  refine zD_of (by decide +kernel) (by exact Nat.le_of_ble_eq_true rfl) ?_
  show zB mX8_doubles _ _ _ 0 [some (.ref 47), some (.int (nI c)), some (.int (nI p)), some (.int (nI v)), some (.int (nI t)), none, none, none, none] [] _
  refine zj_aload_n dX8_doubles_0 (by rfl) ?_
  refine zj_iload_n dX8_doubles_1 (by rfl) ?_
  refine zj_iload_n dX8_doubles_2 (by rfl) ?_
  refine zj_iload_n dX8_doubles_3 (by rfl) ?_
  refine zc_8_121 rfl dX8_doubles_4 (by first | assumption | rfl) hR (by exact Nat.le_of_ble_eq_true rfl) ?_
  refine zj_istore dX8_doubles_7 (by decide) ?_
  refine zj_iload dX8_doubles_9 (by rfl) ?_
  refine zj_ldc (v := -1000000001) dX8_doubles_11 zq_686 ?_
  refine zj_icmp_eq (tgt := 21) dX8_doubles_13 (by decide) (fun zq => absurd zq (by decide)) (fun _ => ?_)
  refine zj_iload dX8_doubles_16 (by rfl) ?_
  refine zj_if_geN (tgt := 24) dX8_doubles_18 (by decide) (by omega) ?_
  refine zj_iload dX8_doubles_24 (by rfl) ?_
  refine zj_ldc (v := -1000000002) dX8_doubles_26 zq_708 ?_
  refine zj_icmp_ne (tgt := 34) dX8_doubles_28 (by decide) (fun zq => absurd (rfl) zq) (fun _ => ?_)
  refine zj_ldc (v := -1000000002) dX8_doubles_31 zq_708 ?_
  refine zj_iret dX8_doubles_33 rfl (Nat.le_refl _) (Nat.le_refl _) ?_
  exact ⟨rfl, rfl⟩
theorem m_doubles_i (w : WF C P S T H O g) (r : RM h C P S T H O g) {c p v t x a : Nat} {v5 : Int32} {R : Option Value} (hc : c < 4) (hp : p < 6) (hv : v < 2 ^ 31) (hvh : s_how v = true) (ht : t < 2 ^ 31) (he : ¬ ((C c).length = 0 ∨ (P p).length = 0)) (hx : x ≤ 96) (ha : a < 100000)
    (hK : ∀ y, zB mX8_doubles (d + 2) R h 40 [some (.ref 47), some (.int (nI c)), some (.int (nI p)), some (.int (nI v)), some (.int (nI t)), some (.int v5), some (.int (nI (a + s_cnt (s_p g (s_base (P p).length t v 9 + 6 * x) (s_cl C c)) 97))), some (.int (nI (x + g))), some (.int (nI y))] [] h) : ∀ m y, y % g = 0 → y < 97 + g → 97 ≤ y + m → zB mX8_doubles (d + 2) R h 50 [some (.ref 47), some (.int (nI c)), some (.int (nI p)), some (.int (nI v)), some (.int (nI t)), some (.int v5), some (.int (nI (a + s_cnt (s_p g (s_base (P p).length t v 9 + 6 * x) (s_cl C c)) y))), some (.int (nI x)), some (.int (nI y))] [] h := by
  obtain ⟨⟨rd, wr, hw, o0⟩, -⟩ := id r
  obtain ⟨wg1, wg2⟩ := w.2.2.2.2.2.2
  have l2 := (w.2.1 p hp).1
  have hbl := s_base_le (t := t) (v := v) (k := 9) l2 (by omega)
  have hb0 := s_base_0 (P p).length t v 9
  intro m
  induction m with
  | zero =>
    intro y hy h1 h2
    rw [s_cnt_go hy (by omega) h1]
    refine zj_iload dX8_doubles_50 (by rfl) ?_
    refine zj_bipush (v := nI 96) dX8_doubles_52 (by decide) ?_
    refine zj_icmp_gtN (tgt := 101) dX8_doubles_54 (by decide) (by omega) (fun _ => ?_) (fun zq => absurd (by omega) zq)
    refine zj_iload dX8_doubles_101 (by rfl) ?_
    refine zj_aload_n dX8_doubles_103 (by rfl) ?_
    refine zg_8_28 rfl dX8_doubles_104 (by first | assumption | rfl) (by rfl) ?_
    refine zj_iaddN dX8_doubles_107 ?_
    refine zj_istore dX8_doubles_108 (by decide) ?_
    refine zj_goto (tgt := 40) dX8_doubles_110 (by decide) ?_
    exact hK _
  | succ m ih =>
    intro y hy h1 h2
    by_cases hy96 : y ≤ 96
    · have hJ := ih (y + g) (by rw [s_mod_step (by omega)]; exact hy) (by omega) (by omega)
      rw [s_cnt_g wg1 hy] at hJ
      have hT := m_tillDouble (d := d) w r hp hv hvh hx hy96 (fun e => he (Or.inr e))
      have hL := m_doesLand (d := d) (t := s_base (P p).length t v 9 + 6 * x + 2 * y) w r hc (fun e => he (Or.inl e)) (by omega)
      have e1 : lN t + lN (s_base (P p).length 0 v 9 + 6 * x + 2 * y) = lN (s_base (P p).length t v 9 + 6 * x + 2 * y) := by rw [lN_add, hb0]; congr 1; omega
      have hcl := s_cnt_le (p := s_p g (s_base (P p).length t v 9 + 6 * x) (s_cl C c)) y
      by_cases hq : (s_base (P p).length t v 9 + 6 * x + 2 * y) % s_cl C c = 0
      · rw [if_pos hq] at hJ hL
        refine zj_iload dX8_doubles_50 (by rfl) ?_
        refine zj_bipush (v := nI 96) dX8_doubles_52 (by decide) ?_
        refine zj_icmp_gtN (tgt := 101) dX8_doubles_54 (by decide) (by omega) (fun zq => absurd zq (by omega)) (fun _ => ?_)
        refine zj_iload dX8_doubles_57 (by rfl) ?_
        refine zj_aload_n dX8_doubles_59 (by rfl) ?_
        refine zj_iload_n dX8_doubles_60 (by rfl) ?_
        refine zj_iload dX8_doubles_61 (by rfl) ?_
        refine zj_i2l dX8_doubles_63 ?_
        rw [nI_l ht]
        refine zj_aload_n dX8_doubles_64 (by rfl) ?_
        refine zj_iload_n dX8_doubles_65 (by rfl) ?_
        refine zj_iload_n dX8_doubles_66 (by rfl) ?_
        refine zj_iload dX8_doubles_67 (by rfl) ?_
        refine zj_iload dX8_doubles_69 (by rfl) ?_
        refine zc_8_133 rfl dX8_doubles_71 (by first | assumption | rfl) hT (by exact Nat.le_of_ble_eq_true rfl) ?_
        refine zj_ladd dX8_doubles_74 ?_
        rw [e1]
        refine zc_8_129 rfl dX8_doubles_75 (by first | assumption | rfl) hL (by exact Nat.le_of_ble_eq_true rfl) ?_
        refine zj_if_eq (tgt := 85) dX8_doubles_78 (by decide) (fun zq => absurd zq (by decide)) (fun _ => ?_)
        refine zj_iconst (v := nI 1) dX8_doubles_81 (by decide) ?_
        refine zj_goto (tgt := 86) dX8_doubles_82 (by decide) ?_
        refine zj_iaddN dX8_doubles_86 ?_
        refine zj_istore dX8_doubles_87 (by decide) ?_
        refine zj_iload dX8_doubles_89 (by rfl) ?_
        refine zj_aload_n dX8_doubles_91 (by rfl) ?_
        refine zg_8_28 rfl dX8_doubles_92 (by first | assumption | rfl) (by rfl) ?_
        refine zj_iaddN dX8_doubles_95 ?_
        refine zj_istore dX8_doubles_96 (by decide) ?_
        refine zj_goto (tgt := 50) dX8_doubles_98 (by decide) ?_
        exact hJ
      · rw [if_neg hq] at hJ hL
        refine zj_iload dX8_doubles_50 (by rfl) ?_
        refine zj_bipush (v := nI 96) dX8_doubles_52 (by decide) ?_
        refine zj_icmp_gtN (tgt := 101) dX8_doubles_54 (by decide) (by omega) (fun zq => absurd zq (by omega)) (fun _ => ?_)
        refine zj_iload dX8_doubles_57 (by rfl) ?_
        refine zj_aload_n dX8_doubles_59 (by rfl) ?_
        refine zj_iload_n dX8_doubles_60 (by rfl) ?_
        refine zj_iload dX8_doubles_61 (by rfl) ?_
        refine zj_i2l dX8_doubles_63 ?_
        rw [nI_l ht]
        refine zj_aload_n dX8_doubles_64 (by rfl) ?_
        refine zj_iload_n dX8_doubles_65 (by rfl) ?_
        refine zj_iload_n dX8_doubles_66 (by rfl) ?_
        refine zj_iload dX8_doubles_67 (by rfl) ?_
        refine zj_iload dX8_doubles_69 (by rfl) ?_
        refine zc_8_133 rfl dX8_doubles_71 (by first | assumption | rfl) hT (by exact Nat.le_of_ble_eq_true rfl) ?_
        refine zj_ladd dX8_doubles_74 ?_
        rw [e1]
        refine zc_8_129 rfl dX8_doubles_75 (by first | assumption | rfl) hL (by exact Nat.le_of_ble_eq_true rfl) ?_
        refine zj_if_eq (tgt := 85) dX8_doubles_78 (by decide) (fun _ => ?_) (fun zq => absurd (rfl) zq)
        refine zj_iconst (v := nI 0) dX8_doubles_85 (by decide) ?_
        refine zj_iaddN dX8_doubles_86 ?_
        refine zj_istore dX8_doubles_87 (by decide) ?_
        refine zj_iload dX8_doubles_89 (by rfl) ?_
        refine zj_aload_n dX8_doubles_91 (by rfl) ?_
        refine zg_8_28 rfl dX8_doubles_92 (by first | assumption | rfl) (by rfl) ?_
        refine zj_iaddN dX8_doubles_95 ?_
        refine zj_istore dX8_doubles_96 (by decide) ?_
        refine zj_goto (tgt := 50) dX8_doubles_98 (by decide) ?_
        exact hJ
    · rw [s_cnt_go hy (by omega) h1]
      refine zj_iload dX8_doubles_50 (by rfl) ?_
      refine zj_bipush (v := nI 96) dX8_doubles_52 (by decide) ?_
      refine zj_icmp_gtN (tgt := 101) dX8_doubles_54 (by decide) (by omega) (fun _ => ?_) (fun zq => absurd (by omega) zq)
      refine zj_iload dX8_doubles_101 (by rfl) ?_
      refine zj_aload_n dX8_doubles_103 (by rfl) ?_
      refine zg_8_28 rfl dX8_doubles_104 (by first | assumption | rfl) (by rfl) ?_
      refine zj_iaddN dX8_doubles_107 ?_
      refine zj_istore dX8_doubles_108 (by decide) ?_
      refine zj_goto (tgt := 40) dX8_doubles_110 (by decide) ?_
      exact hK _
theorem m_doubles_l (w : WF C P S T H O g) (r : RM h C P S T H O g) {c p v t : Nat} {v5 : Int32} (hc : c < 4) (hp : p < 6) (hv : v < 2 ^ 31) (hvh : s_how v = true) (ht : t < 2 ^ 31) (he : ¬ ((C c).length = 0 ∨ (P p).length = 0)) : ∀ m x o8, x % g = 0 → x < 97 + g → 97 ≤ x + m → zB mX8_doubles (d + 2) (some (.int (nI (s_dbl g (s_base (P p).length t v 9) (s_cl C c) 97)))) h 40 [some (.ref 47), some (.int (nI c)), some (.int (nI p)), some (.int (nI v)), some (.int (nI t)), some (.int v5), some (.int (nI (s_dbl g (s_base (P p).length t v 9) (s_cl C c) x))), some (.int (nI x)), o8] [] h := by
  obtain ⟨⟨rd, wr, hw, o0⟩, -⟩ := id r
  obtain ⟨wg1, wg2⟩ := w.2.2.2.2.2.2
  intro m
  induction m with
  | zero =>
    intro x o8 hx h1 h2
    refine zj_iload dX8_doubles_40 (by rfl) ?_
    refine zj_bipush (v := nI 96) dX8_doubles_42 (by decide) ?_
    refine zj_icmp_gtN (tgt := 113) dX8_doubles_44 (by decide) (by omega) (fun _ => ?_) (fun zq => absurd (by omega) zq)
    refine zj_iload dX8_doubles_113 (by rfl) ?_
    refine zj_iret dX8_doubles_115 rfl (Nat.le_refl _) (Nat.le_refl _) ?_
    exact ⟨by rw [s_dbl_out (by omega) hx (by omega) h1], rfl⟩
  | succ m ih =>
    intro x o8 hx h1 h2
    by_cases hx96 : x ≤ 96
    · have hJ := fun y : Nat => ih (x + g) (some (.int (nI y))) (by rw [s_mod_step (by omega)]; exact hx) (by omega) (by omega)
      rw [s_dbl_step (by omega) hx] at hJ
      have hle := s_dbl_le (g := g) (b := s_base (P p).length t v 9) (l := s_cl C c) x
      have hI := m_doubles_i (d := d) (a := s_dbl g (s_base (P p).length t v 9) (s_cl C c) x) w r hc hp hv hvh ht he hx96 (by omega) hJ 97 0 (Nat.zero_mod _) (by omega) (by omega)
      refine zj_iload dX8_doubles_40 (by rfl) ?_
      refine zj_bipush (v := nI 96) dX8_doubles_42 (by decide) ?_
      refine zj_icmp_gtN (tgt := 113) dX8_doubles_44 (by decide) (by omega) (fun zq => absurd zq (by omega)) (fun _ => ?_)
      refine zj_iconst (v := nI 0) dX8_doubles_47 (by decide) ?_
      refine zj_istore dX8_doubles_48 (by decide) ?_
      exact hI
    · refine zj_iload dX8_doubles_40 (by rfl) ?_
      refine zj_bipush (v := nI 96) dX8_doubles_42 (by decide) ?_
      refine zj_icmp_gtN (tgt := 113) dX8_doubles_44 (by decide) (by omega) (fun _ => ?_) (fun zq => absurd (by omega) zq)
      refine zj_iload dX8_doubles_113 (by rfl) ?_
      refine zj_iret dX8_doubles_115 rfl (Nat.le_refl _) (Nat.le_refl _) ?_
      exact ⟨by rw [s_dbl_out (by omega) hx (by omega) h1], rfl⟩
theorem m_doubles (w : WF C P S T H O g) (r : RM h C P S T H O g) {c p v t : Nat} (hc : c < 4) (hp : p < 6) (hv : v < 2 ^ 31) (hvh : s_how v = true) (ht : t < 2 ^ 31) (he : ¬ ((C c).length = 0 ∨ (P p).length = 0)) : zD mX8_doubles (d + 3) [.ref 47, .int (nI c), .int (nI p), .int (nI v), .int (nI t)] h (some (.int (nI (s_dbl g (s_base (P p).length t v 9) (s_cl C c) 97)))) h := by
  obtain ⟨⟨rd, wr, hw, o0⟩, -⟩ := id r
  have hR := m_ref (d := d) w r hc hp hv hvh
  rw [if_neg he] at hR
  refine zD_of (by decide +kernel) (by exact Nat.le_of_ble_eq_true rfl) ?_
  show zB mX8_doubles _ _ _ 0 [some (.ref 47), some (.int (nI c)), some (.int (nI p)), some (.int (nI v)), some (.int (nI t)), none, none, none, none] [] _
  refine zj_aload_n dX8_doubles_0 (by rfl) ?_
  refine zj_iload_n dX8_doubles_1 (by rfl) ?_
  refine zj_iload_n dX8_doubles_2 (by rfl) ?_
  refine zj_iload_n dX8_doubles_3 (by rfl) ?_
  refine zc_8_121 rfl dX8_doubles_4 (by first | assumption | rfl) hR (by exact Nat.le_of_ble_eq_true rfl) ?_
  refine zj_istore dX8_doubles_7 (by decide) ?_
  refine zj_iload dX8_doubles_9 (by rfl) ?_
  refine zj_ldc (v := -1000000001) dX8_doubles_11 zq_686 ?_
  refine zj_icmp_eq (tgt := 21) dX8_doubles_13 (by decide) (fun zq => absurd zq (by decide)) (fun _ => ?_)
  refine zj_iload dX8_doubles_16 (by rfl) ?_
  refine zj_if_geN (tgt := 24) dX8_doubles_18 (by decide) (by omega) ?_
  refine zj_iload dX8_doubles_24 (by rfl) ?_
  refine zj_ldc (v := -1000000002) dX8_doubles_26 zq_708 ?_
  refine zj_icmp_ne (tgt := 34) dX8_doubles_28 (by decide) (fun _ => ?_) (fun zq => absurd zq (by decide))
  refine zj_iconst (v := nI 0) dX8_doubles_34 (by decide) ?_
  refine zj_istore dX8_doubles_35 (by decide) ?_
  refine zj_iconst (v := nI 0) dX8_doubles_37 (by decide) ?_
  refine zj_istore dX8_doubles_38 (by decide) ?_
  exact m_doubles_l (d := d + 1) w r hc hp hv hvh ht he 97 0 none (Nat.zero_mod _) (by omega) (by omega)
theorem m_leastA (w : WF C P S T H O g) (r : RM h C P S T H O g) {c p how t : Int32} (hb : s_bad c p how t 0) : zD mX8_least (d + 3) [.ref 47, .int c, .int p, .int how, .int t] h (some (.int (-1000000001))) h := by
  obtain ⟨⟨rd, wr, hw, o0⟩, -⟩ := id r
  by_cases h3 : s_bad3 c p how
  · refine zD_of (by decide +kernel) (by exact Nat.le_of_ble_eq_true rfl) ?_
    show zB mX8_least _ _ _ 0 [some (.ref 47), some (.int c), some (.int p), some (.int how), some (.int t), none, none, none, none, none] [] _
    refine zj_aload_n dX8_least_0 (by rfl) ?_
    refine zj_iload_n dX8_least_1 (by rfl) ?_
    refine zj_iload_n dX8_least_2 (by rfl) ?_
    refine zj_iload_n dX8_least_3 (by rfl) ?_
    refine zc_8_121 rfl dX8_least_4 (by first | assumption | rfl) (m_refBad r h3) (by exact Nat.le_of_ble_eq_true rfl) ?_
    refine zj_istore dX8_least_7 (by decide) ?_
    refine zj_iload dX8_least_9 (by rfl) ?_
    refine zj_ldc (v := -1000000001) dX8_least_11 zq_686 ?_
    refine zj_icmp_eq (tgt := 21) dX8_least_13 (by decide) (fun _ => ?_) (fun zq => absurd (rfl) zq)
    refine zj_ldc (v := -1000000001) dX8_least_21 zq_686 ?_
    refine zj_iret dX8_least_23 rfl (Nat.le_refl _) (Nat.le_refl _) ?_
    exact ⟨rfl, rfl⟩
  · have hb2 : t < 0 := ((s_mBad hb).resolve_left h3).resolve_right (by decide)
    obtain ⟨i, j, v, hi, hj, hv, hvh, rfl, rfl, rfl⟩ := s_ok3 h3
    refine zD_of (by decide +kernel) (by exact Nat.le_of_ble_eq_true rfl) ?_
    show zB mX8_least _ _ _ 0 [some (.ref 47), some (.int (nI i)), some (.int (nI j)), some (.int (nI v)), some (.int t), none, none, none, none, none] [] _
    refine zj_aload_n dX8_least_0 (by rfl) ?_
    refine zj_iload_n dX8_least_1 (by rfl) ?_
    refine zj_iload_n dX8_least_2 (by rfl) ?_
    refine zj_iload_n dX8_least_3 (by rfl) ?_
    refine zc_8_121 rfl dX8_least_4 (by first | assumption | rfl) (m_ref w r hi hj hv hvh) (by exact Nat.le_of_ble_eq_true rfl) ?_
    refine zj_istore dX8_least_7 (by decide) ?_
    refine zj_iload dX8_least_9 (by rfl) ?_
    refine zj_ldc (v := -1000000001) dX8_least_11 zq_686 ?_
    refine zj_icmp_eq (tgt := 21) dX8_least_13 (by decide) (fun zq => absurd zq (s_noBad)) (fun _ => ?_)
    refine zj_iload dX8_least_16 (by rfl) ?_
    refine zj_if_ge (tgt := 24) dX8_least_18 (by decide) (fun zq => absurd zq (Int32.not_le.mpr hb2)) (fun _ => ?_)
    refine zj_ldc (v := -1000000001) dX8_least_21 zq_686 ?_
    refine zj_iret dX8_least_23 rfl (Nat.le_refl _) (Nat.le_refl _) ?_
    exact ⟨rfl, rfl⟩
theorem m_leastN (w : WF C P S T H O g) (r : RM h C P S T H O g) {c p v t : Nat} (hc : c < 4) (hp : p < 6) (hv : v < 2 ^ 31) (hvh : s_how v = true) (ht : t < 2 ^ 31) (he : (C c).length = 0 ∨ (P p).length = 0) : zD mX8_least (d + 3) [.ref 47, .int (nI c), .int (nI p), .int (nI v), .int (nI t)] h (some (.int (-1000000002))) h := by
  obtain ⟨⟨rd, wr, hw, o0⟩, -⟩ := id r
  have hR := m_ref (d := d) w r hc hp hv hvh
  rw [if_pos he] at hR
  refine zD_of (by decide +kernel) (by exact Nat.le_of_ble_eq_true rfl) ?_
  show zB mX8_least _ _ _ 0 [some (.ref 47), some (.int (nI c)), some (.int (nI p)), some (.int (nI v)), some (.int (nI t)), none, none, none, none, none] [] _
  refine zj_aload_n dX8_least_0 (by rfl) ?_
  refine zj_iload_n dX8_least_1 (by rfl) ?_
  refine zj_iload_n dX8_least_2 (by rfl) ?_
  refine zj_iload_n dX8_least_3 (by rfl) ?_
  refine zc_8_121 rfl dX8_least_4 (by first | assumption | rfl) hR (by exact Nat.le_of_ble_eq_true rfl) ?_
  refine zj_istore dX8_least_7 (by decide) ?_
  refine zj_iload dX8_least_9 (by rfl) ?_
  refine zj_ldc (v := -1000000001) dX8_least_11 zq_686 ?_
  refine zj_icmp_eq (tgt := 21) dX8_least_13 (by decide) (fun zq => absurd zq (by decide)) (fun _ => ?_)
  refine zj_iload dX8_least_16 (by rfl) ?_
  refine zj_if_geN (tgt := 24) dX8_least_18 (by decide) (by omega) ?_
  refine zj_iload dX8_least_24 (by rfl) ?_
  refine zj_ldc (v := -1000000002) dX8_least_26 zq_708 ?_
  refine zj_icmp_ne (tgt := 34) dX8_least_28 (by decide) (fun zq => absurd (rfl) zq) (fun _ => ?_)
  refine zj_ldc (v := -1000000002) dX8_least_31 zq_708 ?_
  refine zj_iret dX8_least_33 rfl (Nat.le_refl _) (Nat.le_refl _) ?_
  exact ⟨rfl, rfl⟩
def s_l3 (o : Option (Nat × Nat)) : Nat := match o with
  | none => 0
  | some q => q.1 + q.2
def s_stp (o : Option (Nat × Nat)) (x : Nat) (r : Option Nat) : Option (Nat × Nat) := match r with
      | none => o
      | some y => match o with
        | none => some (x, y)
        | some q => if x + y < q.1 + q.2 then some (x, y) else some q
theorem s_lst_stp {b l x : Nat} (hg : 1 ≤ g) (hx : x % g = 0) : s_lst g b l (x + g) = s_stp (s_lst g b l x) x (s_nth (s_p g (b + 6 * x) l) 97 0 0) := s_lst_step hg hx
/-- nothing more changes once a landing was met in this row -/
theorem m_least_i2 (w : WF C P S T H O g) (r : RM h C P S T H O g) {c p v t x : Nat} {v5 : Int32} {R : Option Value} {q : Nat × Nat} (hc : c < 4) (hp : p < 6) (hv : v < 2 ^ 31) (hvh : s_how v = true) (ht : t < 2 ^ 31) (he : ¬ ((C c).length = 0 ∨ (P p).length = 0)) (hx : x ≤ 96) (hq1 : q.1 ≤ 96 ∧ q.2 ≤ 96)
    (hK : ∀ y, zB mX8_least (d + 2) R h 44 [some (.ref 47), some (.int (nI c)), some (.int (nI p)), some (.int (nI v)), some (.int (nI t)), some (.int v5), some (.int (nI (1000 * q.1 + q.2))), some (.int (nI (q.1 + q.2))), some (.int (nI (x + g))), some (.int (nI y))] [] h) : ∀ m y, y % g = 0 → y < 97 + g → 97 ≤ y + m → q.1 + q.2 ≤ x + y → zB mX8_least (d + 2) R h 54 [some (.ref 47), some (.int (nI c)), some (.int (nI p)), some (.int (nI v)), some (.int (nI t)), some (.int v5), some (.int (nI (1000 * q.1 + q.2))), some (.int (nI (q.1 + q.2))), some (.int (nI x)), some (.int (nI y))] [] h := by
  obtain ⟨⟨rd, wr, hw, o0⟩, -⟩ := id r
  obtain ⟨wg1, wg2⟩ := w.2.2.2.2.2.2
  have l2 := (w.2.1 p hp).1
  have hbl := s_base_le (t := t) (v := v) (k := 9) l2 (by omega)
  have hb0 := s_base_0 (P p).length t v 9
  intro m
  induction m with
  | zero =>
    intro y hy h1 h2 h3
    refine zj_iload dX8_least_54 (by rfl) ?_
    refine zj_bipush (v := nI 96) dX8_least_56 (by decide) ?_
    refine zj_icmp_gtN (tgt := 130) dX8_least_58 (by decide) (by omega) (fun _ => ?_) (fun zq => absurd (by omega) zq)
    refine zj_iload dX8_least_130 (by rfl) ?_
    refine zj_aload_n dX8_least_132 (by rfl) ?_
    refine zg_8_28 rfl dX8_least_133 (by first | assumption | rfl) (by rfl) ?_
    refine zj_iaddN dX8_least_136 ?_
    refine zj_istore dX8_least_137 (by decide) ?_
    refine zj_goto (tgt := 44) dX8_least_139 (by decide) ?_
    exact hK _
  | succ m ih =>
    intro y hy h1 h2 h3
    by_cases hy96 : y ≤ 96
    · have hJ := ih (y + g) (by rw [s_mod_step (by omega)]; exact hy) (by omega) (by omega) (by omega)
      have hT := m_tillDouble (d := d) w r hp hv hvh hx hy96 (fun e => he (Or.inr e))
      have hL := m_doesLand (d := d) (t := s_base (P p).length t v 9 + 6 * x + 2 * y) w r hc (fun e => he (Or.inl e)) (by omega)
      have e1 : lN t + lN (s_base (P p).length 0 v 9 + 6 * x + 2 * y) = lN (s_base (P p).length t v 9 + 6 * x + 2 * y) := by rw [lN_add, hb0]; congr 1; omega
      by_cases hq : (s_base (P p).length t v 9 + 6 * x + 2 * y) % s_cl C c = 0
      · rw [if_pos hq] at hL
        refine zj_iload dX8_least_54 (by rfl) ?_
        refine zj_bipush (v := nI 96) dX8_least_56 (by decide) ?_
        refine zj_icmp_gtN (tgt := 130) dX8_least_58 (by decide) (by omega) (fun zq => absurd zq (by omega)) (fun _ => ?_)
        refine zj_aload_n dX8_least_61 (by rfl) ?_
        refine zj_iload_n dX8_least_62 (by rfl) ?_
        refine zj_iload dX8_least_63 (by rfl) ?_
        refine zj_i2l dX8_least_65 ?_
        rw [nI_l ht]
        refine zj_aload_n dX8_least_66 (by rfl) ?_
        refine zj_iload_n dX8_least_67 (by rfl) ?_
        refine zj_iload_n dX8_least_68 (by rfl) ?_
        refine zj_iload dX8_least_69 (by rfl) ?_
        refine zj_iload dX8_least_71 (by rfl) ?_
        refine zc_8_133 rfl dX8_least_73 (by first | assumption | rfl) hT (by exact Nat.le_of_ble_eq_true rfl) ?_
        refine zj_ladd dX8_least_76 ?_
        rw [e1]
        refine zc_8_129 rfl dX8_least_77 (by first | assumption | rfl) hL (by exact Nat.le_of_ble_eq_true rfl) ?_
        refine zj_if_eq (tgt := 118) dX8_least_80 (by decide) (fun zq => absurd zq (by decide)) (fun _ => ?_)
        refine zj_iload dX8_least_83 (by rfl) ?_
        refine zj_ldc (v := -1000000005) dX8_least_85 zq_744 ?_
        refine zj_icmp_eq (tgt := 100) dX8_least_87 (by decide) (fun zq => absurd zq (s_nN (by omega))) (fun _ => ?_)
        refine zj_iload dX8_least_90 (by rfl) ?_
        refine zj_iload dX8_least_92 (by rfl) ?_
        refine zj_iaddN dX8_least_94 ?_
        refine zj_iload dX8_least_95 (by rfl) ?_
        refine zj_icmp_geN (tgt := 118) dX8_least_97 (by decide) (by omega) (fun _ => ?_) (fun zq => absurd (by omega) zq)
        refine zj_iload dX8_least_118 (by rfl) ?_
        refine zj_aload_n dX8_least_120 (by rfl) ?_
        refine zg_8_28 rfl dX8_least_121 (by first | assumption | rfl) (by rfl) ?_
        refine zj_iaddN dX8_least_124 ?_
        refine zj_istore dX8_least_125 (by decide) ?_
        refine zj_goto (tgt := 54) dX8_least_127 (by decide) ?_
        exact hJ
      · rw [if_neg hq] at hL
        refine zj_iload dX8_least_54 (by rfl) ?_
        refine zj_bipush (v := nI 96) dX8_least_56 (by decide) ?_
        refine zj_icmp_gtN (tgt := 130) dX8_least_58 (by decide) (by omega) (fun zq => absurd zq (by omega)) (fun _ => ?_)
        refine zj_aload_n dX8_least_61 (by rfl) ?_
        refine zj_iload_n dX8_least_62 (by rfl) ?_
        refine zj_iload dX8_least_63 (by rfl) ?_
        refine zj_i2l dX8_least_65 ?_
        rw [nI_l ht]
        refine zj_aload_n dX8_least_66 (by rfl) ?_
        refine zj_iload_n dX8_least_67 (by rfl) ?_
        refine zj_iload_n dX8_least_68 (by rfl) ?_
        refine zj_iload dX8_least_69 (by rfl) ?_
        refine zj_iload dX8_least_71 (by rfl) ?_
        refine zc_8_133 rfl dX8_least_73 (by first | assumption | rfl) hT (by exact Nat.le_of_ble_eq_true rfl) ?_
        refine zj_ladd dX8_least_76 ?_
        rw [e1]
        refine zc_8_129 rfl dX8_least_77 (by first | assumption | rfl) hL (by exact Nat.le_of_ble_eq_true rfl) ?_
        refine zj_if_eq (tgt := 118) dX8_least_80 (by decide) (fun _ => ?_) (fun zq => absurd (rfl) zq)
        refine zj_iload dX8_least_118 (by rfl) ?_
        refine zj_aload_n dX8_least_120 (by rfl) ?_
        refine zg_8_28 rfl dX8_least_121 (by first | assumption | rfl) (by rfl) ?_
        refine zj_iaddN dX8_least_124 ?_
        refine zj_istore dX8_least_125 (by decide) ?_
        refine zj_goto (tgt := 54) dX8_least_127 (by decide) ?_
        exact hJ
    · refine zj_iload dX8_least_54 (by rfl) ?_
      refine zj_bipush (v := nI 96) dX8_least_56 (by decide) ?_
      refine zj_icmp_gtN (tgt := 130) dX8_least_58 (by decide) (by omega) (fun _ => ?_) (fun zq => absurd (by omega) zq)
      refine zj_iload dX8_least_130 (by rfl) ?_
      refine zj_aload_n dX8_least_132 (by rfl) ?_
      refine zg_8_28 rfl dX8_least_133 (by first | assumption | rfl) (by rfl) ?_
      refine zj_iaddN dX8_least_136 ?_
      refine zj_istore dX8_least_137 (by decide) ?_
      refine zj_goto (tgt := 44) dX8_least_139 (by decide) ?_
      exact hK _
theorem m_least_i (w : WF C P S T H O g) (r : RM h C P S T H O g) {c p v t x : Nat} {v5 : Int32} {R : Option Value} {o : Option (Nat × Nat)} (hc : c < 4) (hp : p < 6) (hv : v < 2 ^ 31) (hvh : s_how v = true) (ht : t < 2 ^ 31) (he : ¬ ((C c).length = 0 ∨ (P p).length = 0)) (hx : x ≤ 96) (ho : ∀ q, o = some q → q.1 ≤ 96 ∧ q.2 ≤ 96) : ∀ m y, y % g = 0 → y < 97 + g → 97 ≤ y + m →
    (∀ o', o' = s_stp o x (s_nth (s_p g (s_base (P p).length t v 9 + 6 * x) (s_cl C c)) (97 - y) y 0) → ∀ y, zB mX8_least (d + 2) R h 44 [some (.ref 47), some (.int (nI c)), some (.int (nI p)), some (.int (nI v)), some (.int (nI t)), some (.int v5), some (.int (s_l1 o')), some (.int (nI (s_l3 o'))), some (.int (nI (x + g))), some (.int (nI y))] [] h) → zB mX8_least (d + 2) R h 54 [some (.ref 47), some (.int (nI c)), some (.int (nI p)), some (.int (nI v)), some (.int (nI t)), some (.int v5), some (.int (s_l1 o)), some (.int (nI (s_l3 o))), some (.int (nI x)), some (.int (nI y))] [] h := by
  obtain ⟨⟨rd, wr, hw, o0⟩, -⟩ := id r
  obtain ⟨wg1, wg2⟩ := w.2.2.2.2.2.2
  have l2 := (w.2.1 p hp).1
  have hbl := s_base_le (t := t) (v := v) (k := 9) l2 (by omega)
  have hb0 := s_base_0 (P p).length t v 9
  intro m
  induction m with
  | zero =>
    intro y hy h1 h2 hK
    rw [show 97 - y = 0 by omega] at hK
    have hK := hK o rfl
    refine zj_iload dX8_least_54 (by rfl) ?_
    refine zj_bipush (v := nI 96) dX8_least_56 (by decide) ?_
    refine zj_icmp_gtN (tgt := 130) dX8_least_58 (by decide) (by omega) (fun _ => ?_) (fun zq => absurd (by omega) zq)
    refine zj_iload dX8_least_130 (by rfl) ?_
    refine zj_aload_n dX8_least_132 (by rfl) ?_
    refine zg_8_28 rfl dX8_least_133 (by first | assumption | rfl) (by rfl) ?_
    refine zj_iaddN dX8_least_136 ?_
    refine zj_istore dX8_least_137 (by decide) ?_
    refine zj_goto (tgt := 44) dX8_least_139 (by decide) ?_
    exact hK _
  | succ m ih =>
    intro y hy h1 h2 hK
    by_cases hy96 : y ≤ 96
    · rw [s_nth_g wg1 hy hy96] at hK
      have hT := m_tillDouble (d := d) w r hp hv hvh hx hy96 (fun e => he (Or.inr e))
      have hL := m_doesLand (d := d) (t := s_base (P p).length t v 9 + 6 * x + 2 * y) w r hc (fun e => he (Or.inl e)) (by omega)
      have e1 : lN t + lN (s_base (P p).length 0 v 9 + 6 * x + 2 * y) = lN (s_base (P p).length t v 9 + 6 * x + 2 * y) := by rw [lN_add, hb0]; congr 1; omega
      have hyg : (y + g) % g = 0 := by rw [s_mod_step (by omega)]; exact hy
      by_cases hq : (s_base (P p).length t v 9 + 6 * x + 2 * y) % s_cl C c = 0
      · rw [if_pos hq] at hL hK
        rw [if_pos rfl] at hK
        cases ho2 : o with
        | none =>
          subst ho2
          have hJ := m_least_i2 (q := (x, y)) w r hc hp hv hvh ht he hx ⟨hx, hy96⟩ (hK (some (x, y)) rfl) 97 (y + g) hyg (by omega) (by omega) (by show x + y ≤ _; omega)
          refine zj_iload dX8_least_54 (by rfl) ?_
          refine zj_bipush (v := nI 96) dX8_least_56 (by decide) ?_
          refine zj_icmp_gtN (tgt := 130) dX8_least_58 (by decide) (by omega) (fun zq => absurd zq (by omega)) (fun _ => ?_)
          refine zj_aload_n dX8_least_61 (by rfl) ?_
          refine zj_iload_n dX8_least_62 (by rfl) ?_
          refine zj_iload dX8_least_63 (by rfl) ?_
          refine zj_i2l dX8_least_65 ?_
          rw [nI_l ht]
          refine zj_aload_n dX8_least_66 (by rfl) ?_
          refine zj_iload_n dX8_least_67 (by rfl) ?_
          refine zj_iload_n dX8_least_68 (by rfl) ?_
          refine zj_iload dX8_least_69 (by rfl) ?_
          refine zj_iload dX8_least_71 (by rfl) ?_
          refine zc_8_133 rfl dX8_least_73 (by first | assumption | rfl) hT (by exact Nat.le_of_ble_eq_true rfl) ?_
          refine zj_ladd dX8_least_76 ?_
          rw [e1]
          refine zc_8_129 rfl dX8_least_77 (by first | assumption | rfl) hL (by exact Nat.le_of_ble_eq_true rfl) ?_
          refine zj_if_eq (tgt := 118) dX8_least_80 (by decide) (fun zq => absurd zq (by decide)) (fun _ => ?_)
          refine zj_iload dX8_least_83 (by rfl) ?_
          refine zj_ldc (v := -1000000005) dX8_least_85 zq_744 ?_
          refine zj_icmp_eq (tgt := 100) dX8_least_87 (by decide) (fun _ => ?_) (fun zq => absurd (rfl) zq)
          refine zj_sipush (v := nI 1000) dX8_least_100 (by decide) ?_
          refine zj_iload dX8_least_103 (by rfl) ?_
          refine zj_imulN dX8_least_105 ?_
          refine zj_iload dX8_least_106 (by rfl) ?_
          refine zj_iaddN dX8_least_108 ?_
          refine zj_istore dX8_least_109 (by decide) ?_
          refine zj_iload dX8_least_111 (by rfl) ?_
          refine zj_iload dX8_least_113 (by rfl) ?_
          refine zj_iaddN dX8_least_115 ?_
          refine zj_istore dX8_least_116 (by decide) ?_
          refine zj_iload dX8_least_118 (by rfl) ?_
          refine zj_aload_n dX8_least_120 (by rfl) ?_
          refine zg_8_28 rfl dX8_least_121 (by first | assumption | rfl) (by rfl) ?_
          refine zj_iaddN dX8_least_124 ?_
          refine zj_istore dX8_least_125 (by decide) ?_
          refine zj_goto (tgt := 54) dX8_least_127 (by decide) ?_
          exact hJ
        | some q =>
          subst ho2
          have hqb := ho q rfl
          by_cases hlt2 : x + y < q.1 + q.2
          · have hJ := m_least_i2 (q := (x, y)) w r hc hp hv hvh ht he hx ⟨hx, hy96⟩ (hK (some (x, y)) (if_pos hlt2).symm) 97 (y + g) hyg (by omega) (by omega) (by show x + y ≤ _; omega)
            show zB mX8_least (d + 2) R h 54 [some (.ref 47), some (.int (nI c)), some (.int (nI p)), some (.int (nI v)), some (.int (nI t)), some (.int v5), some (.int (nI (1000 * q.1 + q.2))), some (.int (nI (q.1 + q.2))), some (.int (nI x)), some (.int (nI y))] [] h
            refine zj_iload dX8_least_54 (by rfl) ?_
            refine zj_bipush (v := nI 96) dX8_least_56 (by decide) ?_
            refine zj_icmp_gtN (tgt := 130) dX8_least_58 (by decide) (by omega) (fun zq => absurd zq (by omega)) (fun _ => ?_)
            refine zj_aload_n dX8_least_61 (by rfl) ?_
            refine zj_iload_n dX8_least_62 (by rfl) ?_
            refine zj_iload dX8_least_63 (by rfl) ?_
            refine zj_i2l dX8_least_65 ?_
            rw [nI_l ht]
            refine zj_aload_n dX8_least_66 (by rfl) ?_
            refine zj_iload_n dX8_least_67 (by rfl) ?_
            refine zj_iload_n dX8_least_68 (by rfl) ?_
            refine zj_iload dX8_least_69 (by rfl) ?_
            refine zj_iload dX8_least_71 (by rfl) ?_
            refine zc_8_133 rfl dX8_least_73 (by first | assumption | rfl) hT (by exact Nat.le_of_ble_eq_true rfl) ?_
            refine zj_ladd dX8_least_76 ?_
            rw [e1]
            refine zc_8_129 rfl dX8_least_77 (by first | assumption | rfl) hL (by exact Nat.le_of_ble_eq_true rfl) ?_
            refine zj_if_eq (tgt := 118) dX8_least_80 (by decide) (fun zq => absurd zq (by decide)) (fun _ => ?_)
            refine zj_iload dX8_least_83 (by rfl) ?_
            refine zj_ldc (v := -1000000005) dX8_least_85 zq_744 ?_
            refine zj_icmp_eq (tgt := 100) dX8_least_87 (by decide) (fun zq => absurd zq (s_nN (by omega))) (fun _ => ?_)
            refine zj_iload dX8_least_90 (by rfl) ?_
            refine zj_iload dX8_least_92 (by rfl) ?_
            refine zj_iaddN dX8_least_94 ?_
            refine zj_iload dX8_least_95 (by rfl) ?_
            refine zj_icmp_geN (tgt := 118) dX8_least_97 (by decide) (by omega) (fun zq => absurd zq (by omega)) (fun _ => ?_)
            refine zj_sipush (v := nI 1000) dX8_least_100 (by decide) ?_
            refine zj_iload dX8_least_103 (by rfl) ?_
            refine zj_imulN dX8_least_105 ?_
            refine zj_iload dX8_least_106 (by rfl) ?_
            refine zj_iaddN dX8_least_108 ?_
            refine zj_istore dX8_least_109 (by decide) ?_
            refine zj_iload dX8_least_111 (by rfl) ?_
            refine zj_iload dX8_least_113 (by rfl) ?_
            refine zj_iaddN dX8_least_115 ?_
            refine zj_istore dX8_least_116 (by decide) ?_
            refine zj_iload dX8_least_118 (by rfl) ?_
            refine zj_aload_n dX8_least_120 (by rfl) ?_
            refine zg_8_28 rfl dX8_least_121 (by first | assumption | rfl) (by rfl) ?_
            refine zj_iaddN dX8_least_124 ?_
            refine zj_istore dX8_least_125 (by decide) ?_
            refine zj_goto (tgt := 54) dX8_least_127 (by decide) ?_
            exact hJ
          · have hJ := m_least_i2 (q := q) w r hc hp hv hvh ht he hx hqb (hK (some q) (if_neg hlt2).symm) 97 (y + g) hyg (by omega) (by omega) (by omega)
            show zB mX8_least (d + 2) R h 54 [some (.ref 47), some (.int (nI c)), some (.int (nI p)), some (.int (nI v)), some (.int (nI t)), some (.int v5), some (.int (nI (1000 * q.1 + q.2))), some (.int (nI (q.1 + q.2))), some (.int (nI x)), some (.int (nI y))] [] h
            refine zj_iload dX8_least_54 (by rfl) ?_
            refine zj_bipush (v := nI 96) dX8_least_56 (by decide) ?_
            refine zj_icmp_gtN (tgt := 130) dX8_least_58 (by decide) (by omega) (fun zq => absurd zq (by omega)) (fun _ => ?_)
            refine zj_aload_n dX8_least_61 (by rfl) ?_
            refine zj_iload_n dX8_least_62 (by rfl) ?_
            refine zj_iload dX8_least_63 (by rfl) ?_
            refine zj_i2l dX8_least_65 ?_
            rw [nI_l ht]
            refine zj_aload_n dX8_least_66 (by rfl) ?_
            refine zj_iload_n dX8_least_67 (by rfl) ?_
            refine zj_iload_n dX8_least_68 (by rfl) ?_
            refine zj_iload dX8_least_69 (by rfl) ?_
            refine zj_iload dX8_least_71 (by rfl) ?_
            refine zc_8_133 rfl dX8_least_73 (by first | assumption | rfl) hT (by exact Nat.le_of_ble_eq_true rfl) ?_
            refine zj_ladd dX8_least_76 ?_
            rw [e1]
            refine zc_8_129 rfl dX8_least_77 (by first | assumption | rfl) hL (by exact Nat.le_of_ble_eq_true rfl) ?_
            refine zj_if_eq (tgt := 118) dX8_least_80 (by decide) (fun zq => absurd zq (by decide)) (fun _ => ?_)
            refine zj_iload dX8_least_83 (by rfl) ?_
            refine zj_ldc (v := -1000000005) dX8_least_85 zq_744 ?_
            refine zj_icmp_eq (tgt := 100) dX8_least_87 (by decide) (fun zq => absurd zq (s_nN (by omega))) (fun _ => ?_)
            refine zj_iload dX8_least_90 (by rfl) ?_
            refine zj_iload dX8_least_92 (by rfl) ?_
            refine zj_iaddN dX8_least_94 ?_
            refine zj_iload dX8_least_95 (by rfl) ?_
            refine zj_icmp_geN (tgt := 118) dX8_least_97 (by decide) (by omega) (fun _ => ?_) (fun zq => absurd (by omega) zq)
            refine zj_iload dX8_least_118 (by rfl) ?_
            refine zj_aload_n dX8_least_120 (by rfl) ?_
            refine zg_8_28 rfl dX8_least_121 (by first | assumption | rfl) (by rfl) ?_
            refine zj_iaddN dX8_least_124 ?_
            refine zj_istore dX8_least_125 (by decide) ?_
            refine zj_goto (tgt := 54) dX8_least_127 (by decide) ?_
            exact hJ
      · rw [if_neg hq] at hL hK
        have hJ := ih (y + g) hyg (by omega) (by omega) hK
        refine zj_iload dX8_least_54 (by rfl) ?_
        refine zj_bipush (v := nI 96) dX8_least_56 (by decide) ?_
        refine zj_icmp_gtN (tgt := 130) dX8_least_58 (by decide) (by omega) (fun zq => absurd zq (by omega)) (fun _ => ?_)
        refine zj_aload_n dX8_least_61 (by rfl) ?_
        refine zj_iload_n dX8_least_62 (by rfl) ?_
        refine zj_iload dX8_least_63 (by rfl) ?_
        refine zj_i2l dX8_least_65 ?_
        rw [nI_l ht]
        refine zj_aload_n dX8_least_66 (by rfl) ?_
        refine zj_iload_n dX8_least_67 (by rfl) ?_
        refine zj_iload_n dX8_least_68 (by rfl) ?_
        refine zj_iload dX8_least_69 (by rfl) ?_
        refine zj_iload dX8_least_71 (by rfl) ?_
        refine zc_8_133 rfl dX8_least_73 (by first | assumption | rfl) hT (by exact Nat.le_of_ble_eq_true rfl) ?_
        refine zj_ladd dX8_least_76 ?_
        rw [e1]
        refine zc_8_129 rfl dX8_least_77 (by first | assumption | rfl) hL (by exact Nat.le_of_ble_eq_true rfl) ?_
        refine zj_if_eq (tgt := 118) dX8_least_80 (by decide) (fun _ => ?_) (fun zq => absurd (rfl) zq)
        refine zj_iload dX8_least_118 (by rfl) ?_
        refine zj_aload_n dX8_least_120 (by rfl) ?_
        refine zg_8_28 rfl dX8_least_121 (by first | assumption | rfl) (by rfl) ?_
        refine zj_iaddN dX8_least_124 ?_
        refine zj_istore dX8_least_125 (by decide) ?_
        refine zj_goto (tgt := 54) dX8_least_127 (by decide) ?_
        exact hJ
    · rw [show 97 - y = 0 by omega] at hK
      have hK := hK o rfl
      refine zj_iload dX8_least_54 (by rfl) ?_
      refine zj_bipush (v := nI 96) dX8_least_56 (by decide) ?_
      refine zj_icmp_gtN (tgt := 130) dX8_least_58 (by decide) (by omega) (fun _ => ?_) (fun zq => absurd (by omega) zq)
      refine zj_iload dX8_least_130 (by rfl) ?_
      refine zj_aload_n dX8_least_132 (by rfl) ?_
      refine zg_8_28 rfl dX8_least_133 (by first | assumption | rfl) (by rfl) ?_
      refine zj_iaddN dX8_least_136 ?_
      refine zj_istore dX8_least_137 (by decide) ?_
      refine zj_goto (tgt := 44) dX8_least_139 (by decide) ?_
      exact hK _
theorem m_least_l (w : WF C P S T H O g) (r : RM h C P S T H O g) {c p v t : Nat} {v5 : Int32} (hc : c < 4) (hp : p < 6) (hv : v < 2 ^ 31) (hvh : s_how v = true) (ht : t < 2 ^ 31) (he : ¬ ((C c).length = 0 ∨ (P p).length = 0)) : ∀ m x o9, x % g = 0 → x < 97 + g → 97 ≤ x + m → zB mX8_least (d + 2) (some (.int (s_l1 (s_lst g (s_base (P p).length t v 9) (s_cl C c) 97)))) h 44 [some (.ref 47), some (.int (nI c)), some (.int (nI p)), some (.int (nI v)), some (.int (nI t)), some (.int v5), some (.int (s_l1 (s_lst g (s_base (P p).length t v 9) (s_cl C c) x))), some (.int (nI (s_l3 (s_lst g (s_base (P p).length t v 9) (s_cl C c) x)))), some (.int (nI x)), o9] [] h := by
  obtain ⟨⟨rd, wr, hw, o0⟩, -⟩ := id r
  obtain ⟨wg1, wg2⟩ := w.2.2.2.2.2.2
  intro m
  induction m with
  | zero =>
    intro x o9 hx h1 h2
    refine zj_iload dX8_least_44 (by rfl) ?_
    refine zj_bipush (v := nI 96) dX8_least_46 (by decide) ?_
    refine zj_icmp_gtN (tgt := 142) dX8_least_48 (by decide) (by omega) (fun _ => ?_) (fun zq => absurd (by omega) zq)
    refine zj_iload dX8_least_142 (by rfl) ?_
    refine zj_iret dX8_least_144 rfl (Nat.le_refl _) (Nat.le_refl _) ?_
    exact ⟨by rw [s_lst_out hx (by omega) h1], rfl⟩
  | succ m ih =>
    intro x o9 hx h1 h2
    by_cases hx96 : x ≤ 96
    · have hJ := fun y : Nat => ih (x + g) (some (.int (nI y))) (by rw [s_mod_step (by omega)]; exact hx) (by omega) (by omega)
      have hI := m_least_i (d := d) w r hc hp hv hvh ht he hx96 (s_lst_b (g := g) (b := s_base (P p).length t v 9) (l := s_cl C c) x (by omega)) 97 0 (Nat.zero_mod _) (by omega) (by omega) (fun o' ho' => by rw [ho', ← s_lst_stp wg1 hx]; exact hJ)
      refine zj_iload dX8_least_44 (by rfl) ?_
      refine zj_bipush (v := nI 96) dX8_least_46 (by decide) ?_
      refine zj_icmp_gtN (tgt := 142) dX8_least_48 (by decide) (by omega) (fun zq => absurd zq (by omega)) (fun _ => ?_)
      refine zj_iconst (v := nI 0) dX8_least_51 (by decide) ?_
      refine zj_istore dX8_least_52 (by decide) ?_
      exact hI
    · refine zj_iload dX8_least_44 (by rfl) ?_
      refine zj_bipush (v := nI 96) dX8_least_46 (by decide) ?_
      refine zj_icmp_gtN (tgt := 142) dX8_least_48 (by decide) (by omega) (fun _ => ?_) (fun zq => absurd (by omega) zq)
      refine zj_iload dX8_least_142 (by rfl) ?_
      refine zj_iret dX8_least_144 rfl (Nat.le_refl _) (Nat.le_refl _) ?_
      exact ⟨by rw [s_lst_out hx (by omega) h1], rfl⟩
theorem m_least (w : WF C P S T H O g) (r : RM h C P S T H O g) {c p v t : Nat} (hc : c < 4) (hp : p < 6) (hv : v < 2 ^ 31) (hvh : s_how v = true) (ht : t < 2 ^ 31) (he : ¬ ((C c).length = 0 ∨ (P p).length = 0)) : zD mX8_least (d + 3) [.ref 47, .int (nI c), .int (nI p), .int (nI v), .int (nI t)] h (some (.int (s_l1 (s_lst g (s_base (P p).length t v 9) (s_cl C c) 97)))) h := by
  obtain ⟨⟨rd, wr, hw, o0⟩, -⟩ := id r
  have hR := m_ref (d := d) w r hc hp hv hvh
  rw [if_neg he] at hR
  refine zD_of (by decide +kernel) (by exact Nat.le_of_ble_eq_true rfl) ?_
  show zB mX8_least _ _ _ 0 [some (.ref 47), some (.int (nI c)), some (.int (nI p)), some (.int (nI v)), some (.int (nI t)), none, none, none, none, none] [] _
  refine zj_aload_n dX8_least_0 (by rfl) ?_
  refine zj_iload_n dX8_least_1 (by rfl) ?_
  refine zj_iload_n dX8_least_2 (by rfl) ?_
  refine zj_iload_n dX8_least_3 (by rfl) ?_
  refine zc_8_121 rfl dX8_least_4 (by first | assumption | rfl) hR (by exact Nat.le_of_ble_eq_true rfl) ?_
  refine zj_istore dX8_least_7 (by decide) ?_
  refine zj_iload dX8_least_9 (by rfl) ?_
  refine zj_ldc (v := -1000000001) dX8_least_11 zq_686 ?_
  refine zj_icmp_eq (tgt := 21) dX8_least_13 (by decide) (fun zq => absurd zq (by decide)) (fun _ => ?_)
  refine zj_iload dX8_least_16 (by rfl) ?_
  refine zj_if_geN (tgt := 24) dX8_least_18 (by decide) (by omega) ?_
  refine zj_iload dX8_least_24 (by rfl) ?_
  refine zj_ldc (v := -1000000002) dX8_least_26 zq_708 ?_
  refine zj_icmp_ne (tgt := 34) dX8_least_28 (by decide) (fun _ => ?_) (fun zq => absurd zq (by decide))
  refine zj_ldc (v := -1000000005) dX8_least_34 zq_744 ?_
  refine zj_istore dX8_least_36 (by decide) ?_
  refine zj_iconst (v := nI 0) dX8_least_38 (by decide) ?_
  refine zj_istore dX8_least_39 (by decide) ?_
  refine zj_iconst (v := nI 0) dX8_least_41 (by decide) ?_
  refine zj_istore dX8_least_42 (by decide) ?_
  exact m_least_l (d := d + 1) w r hc hp hv hvh ht he 97 0 none (Nat.zero_mod _) (by omega) (by omega)
end M9
