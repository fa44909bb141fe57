section SH
variable {h : zH} {C : Nat → List (Nat × Nat)} {P : Nat → List Nat} {S : Nat → Option (List Int32)} {T : List Nat} {H : Nat → Nat} {O : List (Nat × Nat)} {g d : Nat}
def s_R (n c : Nat) : Nat := (n + c - 1) / c
/-- the row of a shape's k-th row; a shape's rows -/
def s_row (R wh k : Nat) : Nat := if wh = 0 then k else if wh = 1 then R - 1 - k else if k < R then k else 2 * R - 2 - k
def s_rows (R wh : Nat) : Nat := if wh = 2 then 2 * R - 1 else R
theorem s_R_p {n c : Nat} (hn : 1 ≤ n) (hc : 1 ≤ c) : s_R n c = (n - 1) / c + 1 := by
  unfold s_R
  rw [show n + c - 1 = (n - 1) + c by omega, Nat.add_div_right _ (by omega)]
theorem s_R_le {n c : Nat} (hn : 1 ≤ n) (hc : 1 ≤ c) : s_R n c ≤ n := by
  rw [s_R_p hn hc]
  have := Nat.div_le_self (n - 1) c
  omega
theorem s_row_lt {R wh k : Nat} (hR : 1 ≤ R) (hw : wh ≤ 2) (hk : k < s_rows R wh) : s_row R wh k ≤ R - 1 := by
  unfold s_rows at hk
  unfold s_row
  repeat' split
  all_goals (split at hk <;> omega)
theorem s_row_n {n c r : Nat} (hn : 1 ≤ n) (hc : 1 ≤ c) (hr : r ≤ s_R n c - 1) : r * c < n := by
  rw [s_R_p hn hc, Nat.add_sub_cancel] at hr
  have h1 : r * c ≤ (n - 1) / c * c := Nat.mul_le_mul_right _ hr
  have h2 := Nat.div_mul_le_self (n - 1) c
  omega
def s_bads (p dd wh : Int32) : Prop := (p < 0 ∨ 6 ≤ p) ∨ dd < 1 ∨ 9 < dd ∨ wh < 0 ∨ ¬ wh ≤ 2
theorem x7_srBad (r : RX h C P S T H O g) {p dd wh : Int32} (hb : s_bads p dd wh) : zD mX7_shapeRefusal (d + 1) [.ref 0, .int p, .int dd, .int wh] h (some (.int (-1000000001))) h := by
  obtain ⟨r0, -⟩ := id r
  obtain ⟨q0, -⟩ := id r0
  by_cases hp : p < 0 ∨ 6 ≤ p
  · refine zD_of (by decide +kernel) (by exact Nat.le_of_ble_eq_true rfl) ?_
    show zB mX7_shapeRefusal _ _ _ 0 [some (.ref 0), some (.int p), some (.int dd), some (.int wh), none] [] _
    refine zj_aload_n dX7_shapeRefusal_0 (by rfl) ?_
    refine zj_iload_n dX7_shapeRefusal_1 (by rfl) ?_
    refine zc_7_99 rfl dX7_shapeRefusal_2 (by first | assumption | rfl) (x7_phraseAtN r0 hp) (by exact Nat.le_of_ble_eq_true rfl) ?_
    refine zj_astoreN dX7_shapeRefusal_5 (by decide) ?_
    refine zj_aloadN dX7_shapeRefusal_7 (by rfl) ?_
    refine zj_ifnullN (tgt := 32) dX7_shapeRefusal_9 (by decide) ?_
    refine zj_ldc (v := -1000000001) dX7_shapeRefusal_32 zq_228 ?_
    refine zj_iret dX7_shapeRefusal_34 rfl (Nat.le_refl _) (Nat.le_refl _) ?_
    exact ⟨rfl, rfl⟩
  · obtain ⟨j, hj, rfl⟩ : ∃ j, j < 6 ∧ p = nI j := ((pk_ix p (n := 6) (by decide)).resolve_left (fun e => hp (Or.inl e))).resolve_left (fun e => hp (Or.inr e))
    have hb2 := hb.resolve_left hp
    refine zD_of (by decide +kernel) (by exact Nat.le_of_ble_eq_true rfl) ?_
    show zB mX7_shapeRefusal _ _ _ 0 [some (.ref 0), some (.int (nI j)), some (.int dd), some (.int wh), none] [] _
    refine zj_aload_n dX7_shapeRefusal_0 (by rfl) ?_
    refine zj_iload_n dX7_shapeRefusal_1 (by rfl) ?_
    refine zc_7_99 rfl dX7_shapeRefusal_2 (by first | assumption | rfl) (x7_phraseAt r0 hj) (by exact Nat.le_of_ble_eq_true rfl) ?_
    refine zj_astore dX7_shapeRefusal_5 (by decide) ?_
    refine zj_aload dX7_shapeRefusal_7 (by rfl) ?_
    refine zj_ifnull dX7_shapeRefusal_9 ?_
    refine zj_iload_n dX7_shapeRefusal_12 (by rfl) ?_
    refine zj_iconst (v := 1) dX7_shapeRefusal_13 (by decide) ?_
    refine zj_icmp_lt (tgt := 32) dX7_shapeRefusal_14 (by decide) (fun q14 => ?_) (fun q14 => ?_)
    · refine zj_ldc (v := -1000000001) dX7_shapeRefusal_32 zq_228 ?_
      refine zj_iret dX7_shapeRefusal_34 rfl (Nat.le_refl _) (Nat.le_refl _) ?_
      exact ⟨rfl, rfl⟩
    · refine zj_iload_n dX7_shapeRefusal_17 (by rfl) ?_
      refine zj_bipush (v := 9) dX7_shapeRefusal_18 (by decide) ?_
      refine zj_icmp_gt (tgt := 32) dX7_shapeRefusal_20 (by decide) (fun q20 => ?_) (fun q20 => ?_)
      · refine zj_ldc (v := -1000000001) dX7_shapeRefusal_32 zq_228 ?_
        refine zj_iret dX7_shapeRefusal_34 rfl (Nat.le_refl _) (Nat.le_refl _) ?_
        exact ⟨rfl, rfl⟩
      · refine zj_iload_n dX7_shapeRefusal_23 (by rfl) ?_
        refine zj_if_lt (tgt := 32) dX7_shapeRefusal_24 (by decide) (fun q24 => ?_) (fun q24 => ?_)
        · refine zj_ldc (v := -1000000001) dX7_shapeRefusal_32 zq_228 ?_
          refine zj_iret dX7_shapeRefusal_34 rfl (Nat.le_refl _) (Nat.le_refl _) ?_
          exact ⟨rfl, rfl⟩
        · refine zj_iload_n dX7_shapeRefusal_27 (by rfl) ?_
          refine zj_iconst (v := 2) dX7_shapeRefusal_28 (by decide) ?_
          refine zj_icmp_le (tgt := 35) dX7_shapeRefusal_29 (by decide) (fun q29 => ?_) (fun q29 => ?_)
          · exfalso
            rcases hb2 with hb2 | hb2 | hb2 | hb2
            · exact q14 hb2
            · exact q20 hb2
            · exact q24 hb2
            · exact hb2 q29
          · refine zj_ldc (v := -1000000001) dX7_shapeRefusal_32 zq_228 ?_
            refine zj_iret dX7_shapeRefusal_34 rfl (Nat.le_refl _) (Nat.le_refl _) ?_
            exact ⟨rfl, rfl⟩
theorem x7_sr (w : WF C P S T H O g) (r : RX h C P S T H O g) {p c wh : Nat} (hp : p < 6) (hc : 1 ≤ c ∧ c ≤ 9) (hw : wh ≤ 2) : zD mX7_shapeRefusal (d + 1) [.ref 0, .int (nI p), .int (nI c), .int (nI wh)] h (some (.int (if (P p).length = 0 then -1000000002 else 0))) h := by
  obtain ⟨r0, -, rp, -⟩ := id r
  obtain ⟨q0, -⟩ := id r0
  obtain ⟨p0, -⟩ := rp p hp
  have l2 := (w.2.1 p hp).1
  refine zD_of (by decide +kernel) (by exact Nat.le_of_ble_eq_true rfl) ?_
  show zB mX7_shapeRefusal _ _ _ 0 [some (.ref 0), some (.int (nI p)), some (.int (nI c)), some (.int (nI wh)), none] [] _
  refine zj_aload_n dX7_shapeRefusal_0 (by rfl) ?_
  refine zj_iload_n dX7_shapeRefusal_1 (by rfl) ?_
  refine zc_7_99 rfl dX7_shapeRefusal_2 (by first | assumption | rfl) (x7_phraseAt r0 hp) (by exact Nat.le_of_ble_eq_true rfl) ?_
  refine zj_astore dX7_shapeRefusal_5 (by decide) ?_
  refine zj_aload dX7_shapeRefusal_7 (by rfl) ?_
  refine zj_ifnull dX7_shapeRefusal_9 ?_
  refine zj_iload_n dX7_shapeRefusal_12 (by rfl) ?_
  refine zj_iconst (v := nI 1) dX7_shapeRefusal_13 (by decide) ?_
  refine zj_icmp_ltN (tgt := 32) dX7_shapeRefusal_14 (by decide) (by omega) (fun zq => absurd zq (by omega)) (fun _ => ?_)
  refine zj_iload_n dX7_shapeRefusal_17 (by rfl) ?_
  refine zj_bipush (v := nI 9) dX7_shapeRefusal_18 (by decide) ?_
  refine zj_icmp_gtN (tgt := 32) dX7_shapeRefusal_20 (by decide) (by omega) (fun zq => absurd zq (by omega)) (fun _ => ?_)
  refine zj_iload_n dX7_shapeRefusal_23 (by rfl) ?_
  refine zj_if_ltN (tgt := 32) dX7_shapeRefusal_24 (by decide) (by omega) ?_
  refine zj_iload_n dX7_shapeRefusal_27 (by rfl) ?_
  refine zj_iconst (v := nI 2) dX7_shapeRefusal_28 (by decide) ?_
  refine zj_icmp_leN (tgt := 35) dX7_shapeRefusal_29 (by decide) (by omega) (fun _ => ?_) (fun zq => absurd (by omega) zq)
  refine zj_aload dX7_shapeRefusal_35 (by rfl) ?_
  refine zg_7_113 rfl dX7_shapeRefusal_37 (by first | assumption | rfl) (by rfl) ?_
  refine zj_if_neN (tgt := 48) dX7_shapeRefusal_40 (by decide) (by omega) (fun q40 => ?_) (fun q40 => ?_)
  · refine zj_iconst (v := nI 0) dX7_shapeRefusal_48 (by decide) ?_
    refine zj_iret dX7_shapeRefusal_49 rfl (Nat.le_refl _) (Nat.le_refl _) ?_
    exact ⟨by first | (rw [if_pos (by omega)]; done) | (rw [if_neg (by omega)]; rfl), rfl⟩
  · refine zj_ldc (v := -1000000002) dX7_shapeRefusal_43 zq_354 ?_
    refine zj_goto (tgt := 49) dX7_shapeRefusal_45 (by decide) ?_
    refine zj_iret dX7_shapeRefusal_49 rfl (Nat.le_refl _) (Nat.le_refl _) ?_
    exact ⟨by first | (rw [if_pos (by omega)]; done) | (rw [if_neg (by omega)]; rfl), rfl⟩
theorem x7_shapeRows {k a n c wh : Nat} (hk : h[k]? = some (.inr (2, [.ref a, .int (nI n)]))) (hn : 1 ≤ n ∧ n ≤ 60) (hc : 1 ≤ c ∧ c ≤ 9) (hw : wh ≤ 2) : zD mX7_shapeRows (d + 1) [.ref k, .int (nI c), .int (nI wh)] h (some (.int (nI (s_rows (s_R n c) wh)))) h := by
  have hR := s_R_le hn.1 hc.1
  have hR1 : 1 ≤ s_R n c := by rw [s_R_p hn.1 hc.1]; exact Nat.le_add_left _ _
  unfold s_rows
  refine zD_of (by decide +kernel) (by exact Nat.le_of_ble_eq_true rfl) ?_
  show zB mX7_shapeRows _ _ _ 0 [some (.ref k), some (.int (nI c)), some (.int (nI wh)), none] [] _
  refine zj_aload_n dX7_shapeRows_0 (by rfl) ?_
  refine zj_iload_n dX7_shapeRows_1 (by rfl) ?_
  refine zc_7_242 rfl dX7_shapeRows_2 (by first | assumption | rfl) (show zD mX2_rowsBy d [.ref k, .int (nI c)] h (some (.int (nI (s_R n c)))) h from x2_rowsBy hk hn.2 (by omega)) (by exact Nat.le_of_ble_eq_true rfl) ?_
  refine zj_istore_n dX7_shapeRows_5 (by decide) ?_
  refine zj_iload_n dX7_shapeRows_6 (by rfl) ?_
  refine zj_iconst (v := nI 2) dX7_shapeRows_7 (by decide) ?_
  refine zj_icmp_neN (tgt := 19) dX7_shapeRows_8 (by decide) (by omega) (fun q8 => ?_) (fun q8 => ?_)
  · refine zj_iload_n dX7_shapeRows_19 (by rfl) ?_
    refine zj_iret dX7_shapeRows_20 rfl (Nat.le_refl _) (Nat.le_refl _) ?_
    exact ⟨by first | (rw [if_pos (by omega)]; done) | (rw [if_neg (by omega)]; done), rfl⟩
  · refine zj_iconst (v := nI 2) dX7_shapeRows_11 (by decide) ?_
    refine zj_iload_n dX7_shapeRows_12 (by rfl) ?_
    refine zj_imulN dX7_shapeRows_13 ?_
    refine zj_iconst (v := nI 1) dX7_shapeRows_14 (by decide) ?_
    refine zj_isubN dX7_shapeRows_15 (by omega) ?_
    refine zj_goto (tgt := 20) dX7_shapeRows_16 (by decide) ?_
    refine zj_iret dX7_shapeRows_20 rfl (Nat.le_refl _) (Nat.le_refl _) ?_
    exact ⟨by first | (rw [if_pos (by omega)]; done) | (rw [if_neg (by omega)]; done), rfl⟩
theorem x7_shapeRowStart {k a n c wh row : Nat} (hk : h[k]? = some (.inr (2, [.ref a, .int (nI n)]))) (hn : 1 ≤ n ∧ n ≤ 60) (hc : 1 ≤ c ∧ c ≤ 9) (hw : wh ≤ 2) (hr : row < s_rows (s_R n c) wh) : zD mX7_shapeRowStart (d + 1) [.ref k, .int (nI c), .int (nI wh), .int (nI row)] h (some (.int (nI (s_row (s_R n c) wh row * c)))) h := by
  have hR := s_R_le hn.1 hc.1
  have hR1 : 1 ≤ s_R n c := by rw [s_R_p hn.1 hc.1]; exact Nat.le_add_left _ _
  unfold s_rows at hr
  have hr2 : row < 2 * s_R n c - 1 := by split at hr <;> omega
  have hr3 : ¬ wh = 2 → row < s_R n c := fun e => by rw [if_neg e] at hr; exact hr
  unfold s_row
  refine zD_of (by decide +kernel) (by exact Nat.le_of_ble_eq_true rfl) ?_
  show zB mX7_shapeRowStart _ _ _ 0 [some (.ref k), some (.int (nI c)), some (.int (nI wh)), some (.int (nI row)), none] [] _
  refine zj_aload_n dX7_shapeRowStart_0 (by rfl) ?_
  refine zj_iload_n dX7_shapeRowStart_1 (by rfl) ?_
  refine zc_7_242 rfl dX7_shapeRowStart_2 (by first | assumption | rfl) (show zD mX2_rowsBy d [.ref k, .int (nI c)] h (some (.int (nI (s_R n c)))) h from x2_rowsBy hk hn.2 (by omega)) (by exact Nat.le_of_ble_eq_true rfl) ?_
  refine zj_iconst (v := nI 1) dX7_shapeRowStart_5 (by decide) ?_
  refine zj_isubN dX7_shapeRowStart_6 (by omega) ?_
  refine zj_istore dX7_shapeRowStart_7 (by decide) ?_
  refine zj_iload_n dX7_shapeRowStart_9 (by rfl) ?_
  refine zj_iconst (v := nI 1) dX7_shapeRowStart_10 (by decide) ?_
  refine zj_icmp_neN (tgt := 21) dX7_shapeRowStart_11 (by decide) (by omega) (fun q11 => ?_) (fun q11 => ?_)
  · refine zj_iload_n dX7_shapeRowStart_21 (by rfl) ?_
    refine zj_iload dX7_shapeRowStart_22 (by rfl) ?_
    refine zj_icmp_gtN (tgt := 33) dX7_shapeRowStart_24 (by decide) (by omega) (fun q24 => ?_) (fun q24 => ?_)
    · refine zj_iconst (v := nI 2) dX7_shapeRowStart_33 (by decide) ?_
      refine zj_iload dX7_shapeRowStart_34 (by rfl) ?_
      refine zj_imulN dX7_shapeRowStart_36 ?_
      refine zj_iload_n dX7_shapeRowStart_37 (by rfl) ?_
      refine zj_isubN dX7_shapeRowStart_38 (by omega) ?_
      refine zj_iload_n dX7_shapeRowStart_39 (by rfl) ?_
      refine zj_imulN dX7_shapeRowStart_40 ?_
      refine zj_iret dX7_shapeRowStart_41 rfl (Nat.le_refl _) (Nat.le_refl _) ?_
      refine ⟨?_, rfl⟩
      by_cases h0 : wh = 0
      · first | (rw [if_pos h0]; done) | (have := hr3 (by omega); omega)
      · rw [if_neg h0, if_neg (by omega)]
        first | (rw [if_pos (by omega)]; done) | (rw [if_neg (by omega), show 2 * (s_R n c - 1) - row = 2 * s_R n c - 2 - row by omega]; done)
    · refine zj_iload_n dX7_shapeRowStart_27 (by rfl) ?_
      refine zj_iload_n dX7_shapeRowStart_28 (by rfl) ?_
      refine zj_imulN dX7_shapeRowStart_29 ?_
      refine zj_goto (tgt := 41) dX7_shapeRowStart_30 (by decide) ?_
      refine zj_iret dX7_shapeRowStart_41 rfl (Nat.le_refl _) (Nat.le_refl _) ?_
      refine ⟨?_, rfl⟩
      by_cases h0 : wh = 0
      · first | (rw [if_pos h0]; done) | (have := hr3 (by omega); omega)
      · rw [if_neg h0, if_neg (by omega)]
        first | (rw [if_pos (by omega)]; done) | (rw [if_neg (by omega), show 2 * (s_R n c - 1) - row = 2 * s_R n c - 2 - row by omega]; done)
  · refine zj_iload dX7_shapeRowStart_14 (by rfl) ?_
    refine zj_iload_n dX7_shapeRowStart_16 (by rfl) ?_
    refine zj_isubN dX7_shapeRowStart_17 (by omega) ?_
    refine zj_iload_n dX7_shapeRowStart_18 (by rfl) ?_
    refine zj_imulN dX7_shapeRowStart_19 ?_
    refine zj_iret dX7_shapeRowStart_20 rfl (Nat.le_refl _) (Nat.le_refl _) ?_
    exact ⟨by rw [if_neg (by omega), if_pos (by omega)], rfl⟩
def s_shp (n c R wh : Nat) : Nat → Nat
  | 0 => 0
  | k + 1 => s_shp n c R wh k + (n - s_row R wh k * c)
def s_shd (l : List Nat) (c R wh : Nat) : Nat → Nat → Nat → Option Nat
  | 0, _, _ => none
  | m + 1, k, left => if left < l.length - s_row R wh k * c then some (l.getD (s_row R wh k * c + left) 0) else s_shd l c R wh m (k + 1) (left - (l.length - s_row R wh k * c))
theorem x_shapeA (r : RX h C P S T H O g) {p dd wh : Int32} (hb : s_bads p dd wh) : zD mX7_shape (d + 2) [.ref 0, .int p, .int dd, .int wh] h (some (.int (-1000000001))) h := by
  obtain ⟨r0, -⟩ := id r
  obtain ⟨q0, -⟩ := id r0
  refine zD_of (by decide +kernel) (by exact Nat.le_of_ble_eq_true rfl) ?_
  show zB mX7_shape _ _ _ 0 [some (.ref 0), some (.int p), some (.int dd), some (.int wh), none, none, none, none, none] [] _
  refine zj_aload_n dX7_shape_0 (by rfl) ?_
  refine zj_iload_n dX7_shape_1 (by rfl) ?_
  refine zj_iload_n dX7_shape_2 (by rfl) ?_
  refine zj_iload_n dX7_shape_3 (by rfl) ?_
  refine zc_7_140 rfl dX7_shape_4 (by first | assumption | rfl) (x7_srBad r hb) (by exact Nat.le_of_ble_eq_true rfl) ?_
  refine zj_istore dX7_shape_7 (by decide) ?_
  refine zj_iload dX7_shape_9 (by rfl) ?_
  refine zj_if_eq (tgt := 17) dX7_shape_11 (by decide) (fun zq => absurd zq (by decide)) (fun _ => ?_)
  refine zj_iload dX7_shape_14 (by rfl) ?_
  refine zj_iret dX7_shape_16 rfl (Nat.le_refl _) (Nat.le_refl _) ?_
  exact ⟨rfl, rfl⟩
theorem x_shapeN (w : WF C P S T H O g) (r : RX h C P S T H O g) {p c wh : Nat} (hp : p < 6) (hc : 1 ≤ c ∧ c ≤ 9) (hw : wh ≤ 2) (he : (P p).length = 0) : zD mX7_shape (d + 2) [.ref 0, .int (nI p), .int (nI c), .int (nI wh)] h (some (.int (-1000000002))) h := by
  obtain ⟨r0, -⟩ := id r
  obtain ⟨q0, -⟩ := id r0
  have hR := x7_sr (d := d) w r hp hc hw
  rw [if_pos he] at hR
  refine zD_of (by decide +kernel) (by exact Nat.le_of_ble_eq_true rfl) ?_
  show zB mX7_shape _ _ _ 0 [some (.ref 0), some (.int (nI p)), some (.int (nI c)), some (.int (nI wh)), none, none, none, none, none] [] _
  refine zj_aload_n dX7_shape_0 (by rfl) ?_
  refine zj_iload_n dX7_shape_1 (by rfl) ?_
  refine zj_iload_n dX7_shape_2 (by rfl) ?_
  refine zj_iload_n dX7_shape_3 (by rfl) ?_
  refine zc_7_140 rfl dX7_shape_4 (by first | assumption | rfl) hR (by exact Nat.le_of_ble_eq_true rfl) ?_
  refine zj_istore dX7_shape_7 (by decide) ?_
  refine zj_iload dX7_shape_9 (by rfl) ?_
  refine zj_if_eq (tgt := 17) dX7_shape_11 (by decide) (fun zq => absurd zq (by decide)) (fun _ => ?_)
  refine zj_iload dX7_shape_14 (by rfl) ?_
  refine zj_iret dX7_shape_16 rfl (Nat.le_refl _) (Nat.le_refl _) ?_
  exact ⟨rfl, rfl⟩
theorem x_shape_l (w : WF C P S T H O g) (r : RX h C P S T H O g) {p c wh : Nat} {v1 v4 : Int32} (hp : p < 6) (hc : 1 ≤ c ∧ c ≤ 9) (hw : wh ≤ 2) (he : ¬ (P p).length = 0) : ∀ m k, k + m = s_rows (s_R (P p).length c) wh → zB mX7_shape (d + 2) (some (.int (nI (s_shp (P p).length c (s_R (P p).length c) wh (s_rows (s_R (P p).length c) wh))))) h 39 [some (.ref 0), some (.int v1), some (.int (nI c)), some (.int (nI wh)), some (.int v4), some (.ref (31 + 2 * p)), some (.int (nI (s_rows (s_R (P p).length c) wh))), some (.int (nI (s_shp (P p).length c (s_R (P p).length c) wh k))), some (.int (nI k))] [] h := by
  obtain ⟨r0, -, rp, -⟩ := id r
  obtain ⟨q0, -⟩ := id r0
  obtain ⟨p0, -⟩ := rp p hp
  have l2 := (w.2.1 p hp).1
  have hR := s_R_le (n := (P p).length) (c := c) (by omega) hc.1
  have hR1 : 1 ≤ s_R (P p).length c := by rw [s_R_p (n := (P p).length) (c := c) (by omega) hc.1]; exact Nat.le_add_left _ _
  have hrows : s_rows (s_R (P p).length c) wh ≤ 2 * s_R (P p).length c := by unfold s_rows; split <;> omega
  intro m
  induction m with
  | zero =>
    intro k hk
    refine zj_iload dX7_shape_39 (by rfl) ?_
    refine zj_iload dX7_shape_41 (by rfl) ?_
    refine zj_icmp_geN (tgt := 72) dX7_shape_43 (by decide) (by omega) (fun _ => ?_) (fun zq => absurd (by omega) zq)
    refine zj_iload dX7_shape_72 (by rfl) ?_
    refine zj_iret dX7_shape_74 rfl (Nat.le_refl _) (Nat.le_refl _) ?_
    exact ⟨by rw [show k = s_rows (s_R (P p).length c) wh by omega], rfl⟩
  | succ m ih =>
    intro k hk
    have hlt := s_row_n (n := (P p).length) (c := c) (by omega) hc.1 (s_row_lt (by omega) hw (show k < s_rows (s_R (P p).length c) wh by omega))
    have hJ := ih (k + 1) (by omega)
    refine zj_iload dX7_shape_39 (by rfl) ?_
    refine zj_iload dX7_shape_41 (by rfl) ?_
    refine zj_icmp_geN (tgt := 72) dX7_shape_43 (by decide) (by omega) (fun zq => absurd zq (by omega)) (fun _ => ?_)
    refine zj_iload dX7_shape_46 (by rfl) ?_
    refine zj_aload dX7_shape_48 (by rfl) ?_
    refine zg_7_113 rfl dX7_shape_50 (by first | assumption | rfl) (by rfl) ?_
    refine zj_aload dX7_shape_53 (by rfl) ?_
    refine zj_iload_n dX7_shape_55 (by rfl) ?_
    refine zj_iload_n dX7_shape_56 (by rfl) ?_
    refine zj_iload dX7_shape_57 (by rfl) ?_
    refine zc_7_147 rfl dX7_shape_59 (x7_shapeRowStart p0 (by omega) hc hw (by omega)) (by exact Nat.le_of_ble_eq_true rfl) ?_
    refine zj_isubN dX7_shape_62 (by omega) ?_
    refine zj_iaddN dX7_shape_63 ?_
    refine zj_istore dX7_shape_64 (by decide) ?_
    refine zj_iincN dX7_shape_66 (by rfl) (by decide) ?_
    refine zj_goto (tgt := 39) dX7_shape_69 (by decide) ?_
    exact hJ
theorem x_shape (w : WF C P S T H O g) (r : RX h C P S T H O g) {p c wh : Nat} (hp : p < 6) (hc : 1 ≤ c ∧ c ≤ 9) (hw : wh ≤ 2) (he : ¬ (P p).length = 0) : zD mX7_shape (d + 2) [.ref 0, .int (nI p), .int (nI c), .int (nI wh)] h (some (.int (nI (s_shp (P p).length c (s_R (P p).length c) wh (s_rows (s_R (P p).length c) wh))))) h := by
  obtain ⟨r0, -, rp, -⟩ := id r
  obtain ⟨q0, -⟩ := id r0
  obtain ⟨p0, -⟩ := rp p hp
  have l2 := (w.2.1 p hp).1
  have hR := x7_sr (d := d) w r hp hc hw
  rw [if_neg he] at hR
  refine zD_of (by decide +kernel) (by exact Nat.le_of_ble_eq_true rfl) ?_
  show zB mX7_shape _ _ _ 0 [some (.ref 0), some (.int (nI p)), some (.int (nI c)), some (.int (nI wh)), none, none, none, none, none] [] _
  refine zj_aload_n dX7_shape_0 (by rfl) ?_
  refine zj_iload_n dX7_shape_1 (by rfl) ?_
  refine zj_iload_n dX7_shape_2 (by rfl) ?_
  refine zj_iload_n dX7_shape_3 (by rfl) ?_
  refine zc_7_140 rfl dX7_shape_4 (by first | assumption | rfl) hR (by exact Nat.le_of_ble_eq_true rfl) ?_
  refine zj_istore dX7_shape_7 (by decide) ?_
  refine zj_iload dX7_shape_9 (by rfl) ?_
  refine zj_if_eq (tgt := 17) dX7_shape_11 (by decide) (fun _ => ?_) (fun zq => absurd (rfl) zq)
  refine zj_aload_n dX7_shape_17 (by rfl) ?_
  refine zj_iload_n dX7_shape_18 (by rfl) ?_
  refine zc_7_99 rfl dX7_shape_19 (by first | assumption | rfl) (x7_phraseAt r0 hp) (by exact Nat.le_of_ble_eq_true rfl) ?_
  refine zj_astore dX7_shape_22 (by decide) ?_
  refine zj_aload dX7_shape_24 (by rfl) ?_
  refine zj_iload_n dX7_shape_26 (by rfl) ?_
  refine zj_iload_n dX7_shape_27 (by rfl) ?_
  refine zc_7_143 rfl dX7_shape_28 (x7_shapeRows p0 (by omega) hc hw) (by exact Nat.le_of_ble_eq_true rfl) ?_
  refine zj_istore dX7_shape_31 (by decide) ?_
  refine zj_iconst (v := nI 0) dX7_shape_33 (by decide) ?_
  refine zj_istore dX7_shape_34 (by decide) ?_
  refine zj_iconst (v := nI 0) dX7_shape_36 (by decide) ?_
  refine zj_istore dX7_shape_37 (by decide) ?_
  exact x_shape_l (d := d) w r hp hc hw he _ 0 (Nat.zero_add _)
theorem x_shapedA (r : RX h C P S T H O g) {p dd wh i : Int32} (hb : i < 0 ∨ s_bads p dd wh) : zD mX7_shaped (d + 2) [.ref 0, .int p, .int dd, .int wh, .int i] h (some (.int (-1000000001))) h := by
  obtain ⟨r0, -⟩ := id r
  obtain ⟨q0, -⟩ := id r0
  by_cases hi : i < 0
  · refine zD_of (by decide +kernel) (by exact Nat.le_of_ble_eq_true rfl) ?_
    show zB mX7_shaped _ _ _ 0 [some (.ref 0), some (.int p), some (.int dd), some (.int wh), some (.int i), none, none, none, none, none, none] [] _
    refine zj_iload dX7_shaped_0 (by rfl) ?_
    refine zj_if_ge (tgt := 8) dX7_shaped_2 (by decide) (fun zq => absurd zq (Int32.not_le.mpr hi)) (fun _ => ?_)
    refine zj_ldc (v := -1000000001) dX7_shaped_5 zq_228 ?_
    refine zj_iret dX7_shaped_7 rfl (Nat.le_refl _) (Nat.le_refl _) ?_
    exact ⟨rfl, rfl⟩
  · refine zD_of (by decide +kernel) (by exact Nat.le_of_ble_eq_true rfl) ?_
    show zB mX7_shaped _ _ _ 0 [some (.ref 0), some (.int p), some (.int dd), some (.int wh), some (.int i), none, none, none, none, none, none] [] _
    refine zj_iload dX7_shaped_0 (by rfl) ?_
    refine zj_if_ge (tgt := 8) dX7_shaped_2 (by decide) (fun _ => ?_) (fun zq => absurd (Int32.not_lt.mp hi) zq)
    refine zj_aload_n dX7_shaped_8 (by rfl) ?_
    refine zj_iload_n dX7_shaped_9 (by rfl) ?_
    refine zj_iload_n dX7_shaped_10 (by rfl) ?_
    refine zj_iload_n dX7_shaped_11 (by rfl) ?_
    refine zc_7_140 rfl dX7_shaped_12 (by first | assumption | rfl) (x7_srBad r (hb.resolve_left hi)) (by exact Nat.le_of_ble_eq_true rfl) ?_
    refine zj_istore dX7_shaped_15 (by decide) ?_
    refine zj_iload dX7_shaped_17 (by rfl) ?_
    refine zj_if_eq (tgt := 25) dX7_shaped_19 (by decide) (fun zq => absurd zq (by decide)) (fun _ => ?_)
    refine zj_iload dX7_shaped_22 (by rfl) ?_
    refine zj_iret dX7_shaped_24 rfl (Nat.le_refl _) (Nat.le_refl _) ?_
    exact ⟨rfl, rfl⟩
theorem x_shapedN (w : WF C P S T H O g) (r : RX h C P S T H O g) {p c wh i : Nat} (hp : p < 6) (hc : 1 ≤ c ∧ c ≤ 9) (hw : wh ≤ 2) (hi : i < 2 ^ 31) (he : (P p).length = 0) : zD mX7_shaped (d + 2) [.ref 0, .int (nI p), .int (nI c), .int (nI wh), .int (nI i)] h (some (.int (-1000000002))) h := by
  obtain ⟨r0, -⟩ := id r
  obtain ⟨q0, -⟩ := id r0
  have hR := x7_sr (d := d) w r hp hc hw
  rw [if_pos he] at hR
  refine zD_of (by decide +kernel) (by exact Nat.le_of_ble_eq_true rfl) ?_
  show zB mX7_shaped _ _ _ 0 [some (.ref 0), some (.int (nI p)), some (.int (nI c)), some (.int (nI wh)), some (.int (nI i)), none, none, none, none, none, none] [] _
  refine zj_iload dX7_shaped_0 (by rfl) ?_
  refine zj_if_geN (tgt := 8) dX7_shaped_2 (by decide) (by omega) ?_
  refine zj_aload_n dX7_shaped_8 (by rfl) ?_
  refine zj_iload_n dX7_shaped_9 (by rfl) ?_
  refine zj_iload_n dX7_shaped_10 (by rfl) ?_
  refine zj_iload_n dX7_shaped_11 (by rfl) ?_
  refine zc_7_140 rfl dX7_shaped_12 (by first | assumption | rfl) hR (by exact Nat.le_of_ble_eq_true rfl) ?_
  refine zj_istore dX7_shaped_15 (by decide) ?_
  refine zj_iload dX7_shaped_17 (by rfl) ?_
  refine zj_if_eq (tgt := 25) dX7_shaped_19 (by decide) (fun zq => absurd zq (by decide)) (fun _ => ?_)
  refine zj_iload dX7_shaped_22 (by rfl) ?_
  refine zj_iret dX7_shaped_24 rfl (Nat.le_refl _) (Nat.le_refl _) ?_
  exact ⟨rfl, rfl⟩
theorem x_shaped_l (w : WF C P S T H O g) (r : RX h C P S T H O g) {p c wh : Nat} {v1 v4 v5 : Int32} (hp : p < 6) (hc : 1 ≤ c ∧ c ≤ 9) (hw : wh ≤ 2) (he : ¬ (P p).length = 0) : ∀ m k left o10, k + m = s_rows (s_R (P p).length c) wh → left < 2 ^ 31 → zB mX7_shaped (d + 2) (some (.int (s_oN (s_shd (P p) c (s_R (P p).length c) wh m k left)))) h 48 [some (.ref 0), some (.int v1), some (.int (nI c)), some (.int (nI wh)), some (.int v4), some (.int v5), some (.ref (31 + 2 * p)), some (.int (nI (s_rows (s_R (P p).length c) wh))), some (.int (nI left)), some (.int (nI k)), o10] [] h := by
  obtain ⟨r0, -, rp, -⟩ := id r
  obtain ⟨q0, -⟩ := id r0
  obtain ⟨p0, pf, p1, pq⟩ := rp p hp
  have l2 := (w.2.1 p hp).1
  have hR := s_R_le (n := (P p).length) (c := c) (by omega) hc.1
  have hR1 : 1 ≤ s_R (P p).length c := by rw [s_R_p (n := (P p).length) (c := c) (by omega) hc.1]; exact Nat.le_add_left _ _
  have hrows : s_rows (s_R (P p).length c) wh ≤ 2 * s_R (P p).length c := by unfold s_rows; split <;> omega
  intro m
  induction m with
  | zero =>
    intro k left o10 hk hl
    refine zj_iload dX7_shaped_48 (by rfl) ?_
    refine zj_iload dX7_shaped_50 (by rfl) ?_
    refine zj_icmp_geN (tgt := 109) dX7_shaped_52 (by decide) (by omega) (fun _ => ?_) (fun zq => absurd (by omega) zq)
    refine zj_ldc (v := -1000000005) dX7_shaped_109 zq_389 ?_
    refine zj_iret dX7_shaped_111 rfl (Nat.le_refl _) (Nat.le_refl _) ?_
    exact ⟨rfl, rfl⟩
  | succ m ih =>
    intro k left o10 hk hl
    have hlt := s_row_n (n := (P p).length) (c := c) (by omega) hc.1 (s_row_lt (by omega) hw (show k < s_rows (s_R (P p).length c) wh by omega))
    unfold s_shd
    by_cases hin : left < (P p).length - s_row (s_R (P p).length c) wh k * c
    · rw [if_pos hin]
      have hA := x2_at (d := d + 1) (i := s_row (s_R (P p).length c) wh k * c + left) p0 p1 l2 (by omega)
      rw [if_pos (by omega), pq _ (by omega)] at hA
      refine zj_iload dX7_shaped_48 (by rfl) ?_
      refine zj_iload dX7_shaped_50 (by rfl) ?_
      refine zj_icmp_geN (tgt := 109) dX7_shaped_52 (by decide) (by omega) (fun zq => absurd zq (by omega)) (fun _ => ?_)
      refine zj_aload dX7_shaped_55 (by rfl) ?_
      refine zj_iload_n dX7_shaped_57 (by rfl) ?_
      refine zj_iload_n dX7_shaped_58 (by rfl) ?_
      refine zj_iload dX7_shaped_59 (by rfl) ?_
      refine zc_7_147 rfl dX7_shaped_61 (x7_shapeRowStart p0 (by omega) hc hw (by omega)) (by exact Nat.le_of_ble_eq_true rfl) ?_
      refine zj_istore dX7_shaped_64 (by decide) ?_
      refine zj_iload dX7_shaped_66 (by rfl) ?_
      refine zj_aload dX7_shaped_68 (by rfl) ?_
      refine zg_7_113 rfl dX7_shaped_70 (by first | assumption | rfl) (by rfl) ?_
      refine zj_iload dX7_shaped_73 (by rfl) ?_
      refine zj_isubN dX7_shaped_75 (by omega) ?_
      refine zj_icmp_geN (tgt := 90) dX7_shaped_76 (by decide) (by omega) (fun zq => absurd zq (by omega)) (fun _ => ?_)
      refine zj_aload dX7_shaped_79 (by rfl) ?_
      refine zj_iload dX7_shaped_81 (by rfl) ?_
      refine zj_iload dX7_shaped_83 (by rfl) ?_
      refine zj_iaddN dX7_shaped_85 ?_
      refine zc_7_107 rfl dX7_shaped_86 (by first | assumption | rfl) hA (by exact Nat.le_of_ble_eq_true rfl) ?_
      refine zj_iret dX7_shaped_89 rfl (Nat.le_refl _) (Nat.le_refl _) ?_
      exact ⟨rfl, rfl⟩
    · rw [if_neg hin]
      have hJ := fun x => ih (k + 1) (left - ((P p).length - s_row (s_R (P p).length c) wh k * c)) x (by omega) (by omega)
      refine zj_iload dX7_shaped_48 (by rfl) ?_
      refine zj_iload dX7_shaped_50 (by rfl) ?_
      refine zj_icmp_geN (tgt := 109) dX7_shaped_52 (by decide) (by omega) (fun zq => absurd zq (by omega)) (fun _ => ?_)
      refine zj_aload dX7_shaped_55 (by rfl) ?_
      refine zj_iload_n dX7_shaped_57 (by rfl) ?_
      refine zj_iload_n dX7_shaped_58 (by rfl) ?_
      refine zj_iload dX7_shaped_59 (by rfl) ?_
      refine zc_7_147 rfl dX7_shaped_61 (x7_shapeRowStart p0 (by omega) hc hw (by omega)) (by exact Nat.le_of_ble_eq_true rfl) ?_
      refine zj_istore dX7_shaped_64 (by decide) ?_
      refine zj_iload dX7_shaped_66 (by rfl) ?_
      refine zj_aload dX7_shaped_68 (by rfl) ?_
      refine zg_7_113 rfl dX7_shaped_70 (by first | assumption | rfl) (by rfl) ?_
      refine zj_iload dX7_shaped_73 (by rfl) ?_
      refine zj_isubN dX7_shaped_75 (by omega) ?_
      refine zj_icmp_geN (tgt := 90) dX7_shaped_76 (by decide) (by omega) (fun _ => ?_) (fun zq => absurd (by omega) zq)
      refine zj_iload dX7_shaped_90 (by rfl) ?_
      refine zj_aload dX7_shaped_92 (by rfl) ?_
      refine zg_7_113 rfl dX7_shaped_94 (by first | assumption | rfl) (by rfl) ?_
      refine zj_iload dX7_shaped_97 (by rfl) ?_
      refine zj_isubN dX7_shaped_99 (by omega) ?_
      refine zj_isubN dX7_shaped_100 (by omega) ?_
      refine zj_istore dX7_shaped_101 (by decide) ?_
      refine zj_iincN dX7_shaped_103 (by rfl) (by decide) ?_
      refine zj_goto (tgt := 48) dX7_shaped_106 (by decide) ?_
      exact hJ _
theorem x_shaped (w : WF C P S T H O g) (r : RX h C P S T H O g) {p c wh i : Nat} (hp : p < 6) (hc : 1 ≤ c ∧ c ≤ 9) (hw : wh ≤ 2) (hi : i < 2 ^ 31) (he : ¬ (P p).length = 0) : zD mX7_shaped (d + 2) [.ref 0, .int (nI p), .int (nI c), .int (nI wh), .int (nI i)] h (some (.int (s_oN (s_shd (P p) c (s_R (P p).length c) wh (s_rows (s_R (P p).length c) wh) 0 i)))) h := by
  obtain ⟨r0, -, rp, -⟩ := id r
  obtain ⟨q0, -⟩ := id r0
  obtain ⟨p0, -⟩ := rp p hp
  have l2 := (w.2.1 p hp).1
  have hR := x7_sr (d := d) w r hp hc hw
  rw [if_neg he] at hR
  refine zD_of (by decide +kernel) (by exact Nat.le_of_ble_eq_true rfl) ?_
  show zB mX7_shaped _ _ _ 0 [some (.ref 0), some (.int (nI p)), some (.int (nI c)), some (.int (nI wh)), some (.int (nI i)), none, none, none, none, none, none] [] _
  refine zj_iload dX7_shaped_0 (by rfl) ?_
  refine zj_if_geN (tgt := 8) dX7_shaped_2 (by decide) (by omega) ?_
  refine zj_aload_n dX7_shaped_8 (by rfl) ?_
  refine zj_iload_n dX7_shaped_9 (by rfl) ?_
  refine zj_iload_n dX7_shaped_10 (by rfl) ?_
  refine zj_iload_n dX7_shaped_11 (by rfl) ?_
  refine zc_7_140 rfl dX7_shaped_12 (by first | assumption | rfl) hR (by exact Nat.le_of_ble_eq_true rfl) ?_
  refine zj_istore dX7_shaped_15 (by decide) ?_
  refine zj_iload dX7_shaped_17 (by rfl) ?_
  refine zj_if_eq (tgt := 25) dX7_shaped_19 (by decide) (fun _ => ?_) (fun zq => absurd (rfl) zq)
  refine zj_aload_n dX7_shaped_25 (by rfl) ?_
  refine zj_iload_n dX7_shaped_26 (by rfl) ?_
  refine zc_7_99 rfl dX7_shaped_27 (by first | assumption | rfl) (x7_phraseAt r0 hp) (by exact Nat.le_of_ble_eq_true rfl) ?_
  refine zj_astore dX7_shaped_30 (by decide) ?_
  refine zj_aload dX7_shaped_32 (by rfl) ?_
  refine zj_iload_n dX7_shaped_34 (by rfl) ?_
  refine zj_iload_n dX7_shaped_35 (by rfl) ?_
  refine zc_7_143 rfl dX7_shaped_36 (x7_shapeRows p0 (by omega) hc hw) (by exact Nat.le_of_ble_eq_true rfl) ?_
  refine zj_istore dX7_shaped_39 (by decide) ?_
  refine zj_iload dX7_shaped_41 (by rfl) ?_
  refine zj_istore dX7_shaped_43 (by decide) ?_
  refine zj_iconst (v := nI 0) dX7_shaped_45 (by decide) ?_
  refine zj_istore dX7_shaped_46 (by decide) ?_
  exact x_shaped_l (d := d) w r hp hc hw he _ 0 i none (Nat.zero_add _) hi
end SH
