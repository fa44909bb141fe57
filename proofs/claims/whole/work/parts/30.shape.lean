section SH
variable {h : zH} {C : Nat → List (Nat × Nat)} {P : Nat → List Nat} {S : Nat → Option (List Int32)} {T : List Nat} {H : Nat → Nat} {O : List (Nat × Nat)} {g d : Nat}
def s_R (n c : Nat) : Nat := (n + c - 1) / c
/-- the row of a shape's k-th row; a shape's rows -/
def s_row (R wh k : Nat) : Nat := if wh = 0 then k else if wh = 1 then R - 1 - k else if k < R then k else 2 * R - 2 - k
def s_rows (R wh : Nat) : Nat := if wh = 2 then 2 * R - 1 else R
theorem s_R_p {n c : Nat} (hn : 1 ≤ n) (hc : 1 ≤ c) : s_R n c = (n - 1) / c + 1 := by
  unfold s_R
  rw [show n + c - 1 = (n - 1) + c by omega, Nat.add_div_right _ (by omega)]
theorem s_R_le {n c : Nat} (hn : 1 ≤ n) (hc : 1 ≤ c) : s_R n c ≤ n := by
  rw [s_R_p hn hc]
  have := Nat.div_le_self (n - 1) c
  omega
theorem s_row_lt {R wh k : Nat} (hR : 1 ≤ R) (hw : wh ≤ 2) (hk : k < s_rows R wh) : s_row R wh k ≤ R - 1 := by
  unfold s_rows at hk
  unfold s_row
  repeat' split
  all_goals (split at hk <;> omega)
theorem s_row_n {n c r : Nat} (hn : 1 ≤ n) (hc : 1 ≤ c) (hr : r ≤ s_R n c - 1) : r * c < n := by
  rw [s_R_p hn hc, Nat.add_sub_cancel] at hr
  have h1 : r * c ≤ (n - 1) / c * c := Nat.mul_le_mul_right _ hr
  have h2 := Nat.div_mul_le_self (n - 1) c
  omega
def s_bads (p dd wh : Int32) : Prop := (p < 0 ∨ 6 ≤ p) ∨ dd < 1 ∨ 9 < dd ∨ wh < 0 ∨ ¬ wh ≤ 2
theorem x7_isStep0 {x : Int32} (hx : x < 1 ∨ 9 < x) : zD mX7_isStep d [.int x] h (some (.int 0)) h := by
  refine zD_of (by decide +kernel) (by exact Nat.le_of_ble_eq_true rfl) ?_
  show zB mX7_isStep _ _ _ 0 [some (.int x)] [] _
  refine zj_iload_n dX7_isStep_0 (by rfl) ?_
  refine zj_iconst (v := 1) dX7_isStep_1 (by decide) ?_
  refine zj_icmp_lt (tgt := 15) dX7_isStep_2 (by decide) (fun q2 => ?_) (fun q2 => ?_)
  · refine zj_iconst (v := 0) dX7_isStep_15 (by decide) ?_
    refine zj_zret dX7_isStep_16 rfl (by first | exact Or.inl rfl | exact Or.inr rfl) (Nat.le_refl _) (Nat.le_refl _) ?_
    exact ⟨rfl, rfl⟩
  · refine zj_iload_n dX7_isStep_5 (by rfl) ?_
    refine zj_bipush (v := 9) dX7_isStep_6 (by decide) ?_
    refine zj_icmp_gt (tgt := 15) dX7_isStep_8 (by decide) (fun q8 => ?_) (fun q8 => ?_)
    · refine zj_iconst (v := 0) dX7_isStep_15 (by decide) ?_
      refine zj_zret dX7_isStep_16 rfl (by first | exact Or.inl rfl | exact Or.inr rfl) (Nat.le_refl _) (Nat.le_refl _) ?_
      exact ⟨rfl, rfl⟩
    · exfalso
      rcases hx with hx | hx
      · exact q2 hx
      · exact q8 hx
theorem x7_isStep1 {x : Int32} (hx : ¬ (x < 1 ∨ 9 < x)) : zD mX7_isStep d [.int x] h (some (.int 1)) h := by
  refine zD_of (by decide +kernel) (by exact Nat.le_of_ble_eq_true rfl) ?_
  show zB mX7_isStep _ _ _ 0 [some (.int x)] [] _
  refine zj_iload_n dX7_isStep_0 (by rfl) ?_
  refine zj_iconst (v := 1) dX7_isStep_1 (by decide) ?_
  refine zj_icmp_lt (tgt := 15) dX7_isStep_2 (by decide) (fun zq => absurd zq (fun e => hx (Or.inl e))) (fun _ => ?_)
  refine zj_iload_n dX7_isStep_5 (by rfl) ?_
  refine zj_bipush (v := 9) dX7_isStep_6 (by decide) ?_
  refine zj_icmp_gt (tgt := 15) dX7_isStep_8 (by decide) (fun zq => absurd zq (fun e => hx (Or.inr e))) (fun _ => ?_)
  refine zj_iconst (v := 1) dX7_isStep_11 (by decide) ?_
  refine zj_goto (tgt := 16) dX7_isStep_12 (by decide) ?_
  refine zj_zret dX7_isStep_16 rfl (by first | exact Or.inl rfl | exact Or.inr rfl) (Nat.le_refl _) (Nat.le_refl _) ?_
  exact ⟨rfl, rfl⟩
theorem x7_isStep {c : Nat} (hc : 1 ≤ c ∧ c ≤ 9) : zD mX7_isStep d [.int (nI c)] h (some (.int 1)) h := by
  refine zD_of (by decide +kernel) (by exact Nat.le_of_ble_eq_true rfl) ?_
  show zB mX7_isStep _ _ _ 0 [some (.int (nI c))] [] _
  refine zj_iload_n dX7_isStep_0 (by rfl) ?_
  refine zj_iconst (v := nI 1) dX7_isStep_1 (by decide) ?_
  refine zj_icmp_ltN (tgt := 15) dX7_isStep_2 (by decide) (by omega) (fun zq => absurd zq (by omega)) (fun _ => ?_)
  refine zj_iload_n dX7_isStep_5 (by rfl) ?_
  refine zj_bipush (v := nI 9) dX7_isStep_6 (by decide) ?_
  refine zj_icmp_gtN (tgt := 15) dX7_isStep_8 (by decide) (by omega) (fun zq => absurd zq (by omega)) (fun _ => ?_)
  refine zj_iconst (v := nI 1) dX7_isStep_11 (by decide) ?_
  refine zj_goto (tgt := 16) dX7_isStep_12 (by decide) ?_
  refine zj_zret dX7_isStep_16 rfl (by first | exact Or.inl rfl | exact Or.inr rfl) (Nat.le_refl _) (Nat.le_refl _) ?_
  exact ⟨rfl, rfl⟩
theorem x7_isShape0 {x : Int32} (hx : x < 0 ∨ ¬ x ≤ 2) : zD mX7_isShape d [.int x] h (some (.int 0)) h := by
  refine zD_of (by decide +kernel) (by exact Nat.le_of_ble_eq_true rfl) ?_
  show zB mX7_isShape _ _ _ 0 [some (.int x)] [] _
  refine zj_iload_n dX7_isShape_0 (by rfl) ?_
  refine zj_if_lt (tgt := 13) dX7_isShape_1 (by decide) (fun q1 => ?_) (fun q1 => ?_)
  · refine zj_iconst (v := 0) dX7_isShape_13 (by decide) ?_
    refine zj_zret dX7_isShape_14 rfl (by first | exact Or.inl rfl | exact Or.inr rfl) (Nat.le_refl _) (Nat.le_refl _) ?_
    exact ⟨rfl, rfl⟩
  · refine zj_iload_n dX7_isShape_4 (by rfl) ?_
    refine zj_iconst (v := 2) dX7_isShape_5 (by decide) ?_
    refine zj_icmp_gt (tgt := 13) dX7_isShape_6 (by decide) (fun q6 => ?_) (fun q6 => ?_)
    · refine zj_iconst (v := 0) dX7_isShape_13 (by decide) ?_
      refine zj_zret dX7_isShape_14 rfl (by first | exact Or.inl rfl | exact Or.inr rfl) (Nat.le_refl _) (Nat.le_refl _) ?_
      exact ⟨rfl, rfl⟩
    · exfalso
      rcases hx with hx | hx
      · exact q1 hx
      · exact q6 (Int32.not_le.mp hx)
theorem x7_isShape1 {x : Int32} (hx : ¬ (x < 0 ∨ ¬ x ≤ 2)) : zD mX7_isShape d [.int x] h (some (.int 1)) h := by
  refine zD_of (by decide +kernel) (by exact Nat.le_of_ble_eq_true rfl) ?_
  show zB mX7_isShape _ _ _ 0 [some (.int x)] [] _
  refine zj_iload_n dX7_isShape_0 (by rfl) ?_
  refine zj_if_lt (tgt := 13) dX7_isShape_1 (by decide) (fun zq => absurd zq (fun e => hx (Or.inl e))) (fun _ => ?_)
  refine zj_iload_n dX7_isShape_4 (by rfl) ?_
  refine zj_iconst (v := 2) dX7_isShape_5 (by decide) ?_
  refine zj_icmp_gt (tgt := 13) dX7_isShape_6 (by decide) (fun zq => absurd zq (fun e => hx (Or.inr (Int32.not_le.mpr e)))) (fun _ => ?_)
  refine zj_iconst (v := 1) dX7_isShape_9 (by decide) ?_
  refine zj_goto (tgt := 14) dX7_isShape_10 (by decide) ?_
  refine zj_zret dX7_isShape_14 rfl (by first | exact Or.inl rfl | exact Or.inr rfl) (Nat.le_refl _) (Nat.le_refl _) ?_
  exact ⟨rfl, rfl⟩
theorem x7_isShape {wh : Nat} (hw : wh ≤ 2) : zD mX7_isShape d [.int (nI wh)] h (some (.int 1)) h := by
  refine zD_of (by decide +kernel) (by exact Nat.le_of_ble_eq_true rfl) ?_
  show zB mX7_isShape _ _ _ 0 [some (.int (nI wh))] [] _
  refine zj_iload_n dX7_isShape_0 (by rfl) ?_
  refine zj_if_ltN (tgt := 13) dX7_isShape_1 (by decide) (by omega) ?_
  refine zj_iload_n dX7_isShape_4 (by rfl) ?_
  refine zj_iconst (v := nI 2) dX7_isShape_5 (by decide) ?_
  refine zj_icmp_gtN (tgt := 13) dX7_isShape_6 (by decide) (by omega) (fun zq => absurd zq (by omega)) (fun _ => ?_)
  refine zj_iconst (v := nI 1) dX7_isShape_9 (by decide) ?_
  refine zj_goto (tgt := 14) dX7_isShape_10 (by decide) ?_
  refine zj_zret dX7_isShape_14 rfl (by first | exact Or.inl rfl | exact Or.inr rfl) (Nat.le_refl _) (Nat.le_refl _) ?_
  exact ⟨rfl, rfl⟩
theorem x7_shapeRows {k a n c wh : Nat} (hk : h[k]? = some (.inr (2, [.ref a, .int (nI n)]))) (hn : 1 ≤ n ∧ n ≤ 60) (hc : 1 ≤ c ∧ c ≤ 9) (hw : wh ≤ 2) : zD mX7_shapeRows (d + 1) [.ref k, .int (nI c), .int (nI wh)] h (some (.int (nI (s_rows (s_R n c) wh)))) h := by
  have hR := s_R_le hn.1 hc.1
  have hR1 : 1 ≤ s_R n c := by rw [s_R_p hn.1 hc.1]; exact Nat.le_add_left _ _
  unfold s_rows
  refine zD_of (by decide +kernel) (by exact Nat.le_of_ble_eq_true rfl) ?_
  show zB mX7_shapeRows _ _ _ 0 [some (.ref k), some (.int (nI c)), some (.int (nI wh)), none] [] _
  refine zj_aload_n dX7_shapeRows_0 (by rfl) ?_
  refine zj_iload_n dX7_shapeRows_1 (by rfl) ?_
  refine zc_7_242 rfl dX7_shapeRows_2 (by first | assumption | rfl) (show zD mX2_rowsBy d [.ref k, .int (nI c)] h (some (.int (nI (s_R n c)))) h from x2_rowsBy hk hn.2 (by omega)) (by exact Nat.le_of_ble_eq_true rfl) ?_
  refine zj_istore_n dX7_shapeRows_5 (by decide) ?_
  refine zj_iload_n dX7_shapeRows_6 (by rfl) ?_
  refine zj_iconst (v := nI 2) dX7_shapeRows_7 (by decide) ?_
  refine zj_icmp_neN (tgt := 19) dX7_shapeRows_8 (by decide) (by omega) (fun q8 => ?_) (fun q8 => ?_)
  · refine zj_iload_n dX7_shapeRows_19 (by rfl) ?_
    refine zj_iret dX7_shapeRows_20 rfl (Nat.le_refl _) (Nat.le_refl _) ?_
    exact ⟨by first | (rw [if_pos (by omega)]; done) | (rw [if_neg (by omega)]; done), rfl⟩
  · refine zj_iconst (v := nI 2) dX7_shapeRows_11 (by decide) ?_
    refine zj_iload_n dX7_shapeRows_12 (by rfl) ?_
    refine zj_imulN dX7_shapeRows_13 ?_
    refine zj_iconst (v := nI 1) dX7_shapeRows_14 (by decide) ?_
    refine zj_isubN dX7_shapeRows_15 (by omega) ?_
    refine zj_goto (tgt := 20) dX7_shapeRows_16 (by decide) ?_
    refine zj_iret dX7_shapeRows_20 rfl (Nat.le_refl _) (Nat.le_refl _) ?_
    exact ⟨by first | (rw [if_pos (by omega)]; done) | (rw [if_neg (by omega)]; done), rfl⟩
theorem x7_shapeRowStart {k a n c wh row : Nat} (hk : h[k]? = some (.inr (2, [.ref a, .int (nI n)]))) (hn : 1 ≤ n ∧ n ≤ 60) (hc : 1 ≤ c ∧ c ≤ 9) (hw : wh ≤ 2) (hr : row < s_rows (s_R n c) wh) : zD mX7_shapeRowStart (d + 1) [.ref k, .int (nI c), .int (nI wh), .int (nI row)] h (some (.int (nI (s_row (s_R n c) wh row * c)))) h := by
  have hR := s_R_le hn.1 hc.1
  have hR1 : 1 ≤ s_R n c := by rw [s_R_p hn.1 hc.1]; exact Nat.le_add_left _ _
  unfold s_rows at hr
  have hr2 : row < 2 * s_R n c - 1 := by split at hr <;> omega
  have hr3 : ¬ wh = 2 → row < s_R n c := fun e => by rw [if_neg e] at hr; exact hr
  unfold s_row
  refine zD_of (by decide +kernel) (by exact Nat.le_of_ble_eq_true rfl) ?_
  show zB mX7_shapeRowStart _ _ _ 0 [some (.ref k), some (.int (nI c)), some (.int (nI wh)), some (.int (nI row)), none] [] _
  refine zj_aload_n dX7_shapeRowStart_0 (by rfl) ?_
  refine zj_iload_n dX7_shapeRowStart_1 (by rfl) ?_
  refine zc_7_242 rfl dX7_shapeRowStart_2 (by first | assumption | rfl) (show zD mX2_rowsBy d [.ref k, .int (nI c)] h (some (.int (nI (s_R n c)))) h from x2_rowsBy hk hn.2 (by omega)) (by exact Nat.le_of_ble_eq_true rfl) ?_
  refine zj_iconst (v := nI 1) dX7_shapeRowStart_5 (by decide) ?_
  refine zj_isubN dX7_shapeRowStart_6 (by omega) ?_
  refine zj_istore dX7_shapeRowStart_7 (by decide) ?_
  refine zj_iload_n dX7_shapeRowStart_9 (by rfl) ?_
  refine zj_iconst (v := nI 1) dX7_shapeRowStart_10 (by decide) ?_
  refine zj_icmp_neN (tgt := 21) dX7_shapeRowStart_11 (by decide) (by omega) (fun q11 => ?_) (fun q11 => ?_)
  · refine zj_iload_n dX7_shapeRowStart_21 (by rfl) ?_
    refine zj_iload dX7_shapeRowStart_22 (by rfl) ?_
    refine zj_icmp_gtN (tgt := 33) dX7_shapeRowStart_24 (by decide) (by omega) (fun q24 => ?_) (fun q24 => ?_)
    · refine zj_iconst (v := nI 2) dX7_shapeRowStart_33 (by decide) ?_
      refine zj_iload dX7_shapeRowStart_34 (by rfl) ?_
      refine zj_imulN dX7_shapeRowStart_36 ?_
      refine zj_iload_n dX7_shapeRowStart_37 (by rfl) ?_
      refine zj_isubN dX7_shapeRowStart_38 (by omega) ?_
      refine zj_iload_n dX7_shapeRowStart_39 (by rfl) ?_
      refine zj_imulN dX7_shapeRowStart_40 ?_
      refine zj_iret dX7_shapeRowStart_41 rfl (Nat.le_refl _) (Nat.le_refl _) ?_
      refine ⟨?_, rfl⟩
      by_cases h0 : wh = 0
      · first | (rw [if_pos h0]; done) | (have := hr3 (by omega); omega)
      · rw [if_neg h0, if_neg (by omega)]
        first | (rw [if_pos (by omega)]; done) | (rw [if_neg (by omega), show 2 * (s_R n c - 1) - row = 2 * s_R n c - 2 - row by omega]; done)
    · refine zj_iload_n dX7_shapeRowStart_27 (by rfl) ?_
      refine zj_iload_n dX7_shapeRowStart_28 (by rfl) ?_
      refine zj_imulN dX7_shapeRowStart_29 ?_
      refine zj_goto (tgt := 41) dX7_shapeRowStart_30 (by decide) ?_
      refine zj_iret dX7_shapeRowStart_41 rfl (Nat.le_refl _) (Nat.le_refl _) ?_
      refine ⟨?_, rfl⟩
      by_cases h0 : wh = 0
      · first | (rw [if_pos h0]; done) | (have := hr3 (by omega); omega)
      · rw [if_neg h0, if_neg (by omega)]
        first | (rw [if_pos (by omega)]; done) | (rw [if_neg (by omega), show 2 * (s_R n c - 1) - row = 2 * s_R n c - 2 - row by omega]; done)
  · refine zj_iload dX7_shapeRowStart_14 (by rfl) ?_
    refine zj_iload_n dX7_shapeRowStart_16 (by rfl) ?_
    refine zj_isubN dX7_shapeRowStart_17 (by omega) ?_
    refine zj_iload_n dX7_shapeRowStart_18 (by rfl) ?_
    refine zj_imulN dX7_shapeRowStart_19 ?_
    refine zj_iret dX7_shapeRowStart_20 rfl (Nat.le_refl _) (Nat.le_refl _) ?_
    exact ⟨by rw [if_neg (by omega), if_pos (by omega)], rfl⟩
def s_shp (n c R wh : Nat) : Nat → Nat
  | 0 => 0
  | k + 1 => s_shp n c R wh k + (n - s_row R wh k * c)
def s_shd (l : List Nat) (c R wh : Nat) : Nat → Nat → Nat → Option Nat
  | 0, _, _ => none
  | m + 1, k, left => if left < l.length - s_row R wh k * c then some (l.getD (s_row R wh k * c + left) 0) else s_shd l c R wh m (k + 1) (left - (l.length - s_row R wh k * c))
theorem x_shapeA (r : RX h C P S T H O g) {p dd wh : Int32} (hb : s_bads p dd wh) : zD mX7_shape (d + 2) [.ref 0, .int p, .int dd, .int wh] h (some (.int (-1000000001))) h := by
  obtain ⟨r0, -⟩ := id r
  obtain ⟨q0, -⟩ := id r0
  by_cases hp : p < 0 ∨ 6 ≤ p
  · refine zD_of (by decide +kernel) (by exact Nat.le_of_ble_eq_true rfl) ?_
    show zB mX7_shape _ _ _ 0 [some (.ref 0), some (.int p), some (.int dd), some (.int wh), none, none, none, none] [] _
    refine zj_aload_n dX7_shape_0 (by rfl) ?_
    refine zj_iload_n dX7_shape_1 (by rfl) ?_
    refine zc_7_99 rfl dX7_shape_2 (by first | assumption | rfl) (x7_phraseAtN r0 hp) (by exact Nat.le_of_ble_eq_true rfl) ?_
    refine zj_astoreN dX7_shape_5 (by decide) ?_
    refine zj_aloadN dX7_shape_7 (by rfl) ?_
    refine zj_ifnullN (tgt := 26) dX7_shape_9 (by decide) ?_
    refine zj_ldc (v := -1000000001) dX7_shape_26 zq_226 ?_
    refine zj_iret dX7_shape_28 rfl (Nat.le_refl _) (Nat.le_refl _) ?_
    exact ⟨rfl, rfl⟩
  · obtain ⟨j, hj, rfl⟩ : ∃ j, j < 6 ∧ p = nI j := ((pk_ix p (n := 6) (by decide)).resolve_left (fun e => hp (Or.inl e))).resolve_left (fun e => hp (Or.inr e))
    have hb2 := hb.resolve_left hp
    by_cases h1 : dd < 1 ∨ 9 < dd
    · refine zD_of (by decide +kernel) (by exact Nat.le_of_ble_eq_true rfl) ?_
      show zB mX7_shape _ _ _ 0 [some (.ref 0), some (.int (nI j)), some (.int dd), some (.int wh), none, none, none, none] [] _
      refine zj_aload_n dX7_shape_0 (by rfl) ?_
      refine zj_iload_n dX7_shape_1 (by rfl) ?_
      refine zc_7_99 rfl dX7_shape_2 (by first | assumption | rfl) (x7_phraseAt r0 hj) (by exact Nat.le_of_ble_eq_true rfl) ?_
      refine zj_astore dX7_shape_5 (by decide) ?_
      refine zj_aload dX7_shape_7 (by rfl) ?_
      refine zj_ifnull dX7_shape_9 ?_
      refine zj_iload_n dX7_shape_12 (by rfl) ?_
      refine zc_7_140 rfl dX7_shape_13 (x7_isStep0 h1) (by exact Nat.le_of_ble_eq_true rfl) ?_
      refine zj_if_eq (tgt := 26) dX7_shape_16 (by decide) (fun _ => ?_) (fun zq => absurd (rfl) zq)
      refine zj_ldc (v := -1000000001) dX7_shape_26 zq_226 ?_
      refine zj_iret dX7_shape_28 rfl (Nat.le_refl _) (Nat.le_refl _) ?_
      exact ⟨rfl, rfl⟩
    · have h2 : wh < 0 ∨ ¬ wh ≤ 2 := (hb2.resolve_left (fun e => h1 (Or.inl e))).resolve_left (fun e => h1 (Or.inr e))
      refine zD_of (by decide +kernel) (by exact Nat.le_of_ble_eq_true rfl) ?_
      show zB mX7_shape _ _ _ 0 [some (.ref 0), some (.int (nI j)), some (.int dd), some (.int wh), none, none, none, none] [] _
      refine zj_aload_n dX7_shape_0 (by rfl) ?_
      refine zj_iload_n dX7_shape_1 (by rfl) ?_
      refine zc_7_99 rfl dX7_shape_2 (by first | assumption | rfl) (x7_phraseAt r0 hj) (by exact Nat.le_of_ble_eq_true rfl) ?_
      refine zj_astore dX7_shape_5 (by decide) ?_
      refine zj_aload dX7_shape_7 (by rfl) ?_
      refine zj_ifnull dX7_shape_9 ?_
      refine zj_iload_n dX7_shape_12 (by rfl) ?_
      refine zc_7_140 rfl dX7_shape_13 (x7_isStep1 h1) (by exact Nat.le_of_ble_eq_true rfl) ?_
      refine zj_if_eq (tgt := 26) dX7_shape_16 (by decide) (fun zq => absurd zq (by decide)) (fun _ => ?_)
      refine zj_iload_n dX7_shape_19 (by rfl) ?_
      refine zc_7_143 rfl dX7_shape_20 (x7_isShape0 h2) (by exact Nat.le_of_ble_eq_true rfl) ?_
      refine zj_if_ne (tgt := 29) dX7_shape_23 (by decide) (fun zq => absurd (rfl) zq) (fun _ => ?_)
      refine zj_ldc (v := -1000000001) dX7_shape_26 zq_226 ?_
      refine zj_iret dX7_shape_28 rfl (Nat.le_refl _) (Nat.le_refl _) ?_
      exact ⟨rfl, rfl⟩
theorem x_shapeN (_w : WF C P S T H O g) (r : RX h C P S T H O g) {p c wh : Nat} (hp : p < 6) (hc : 1 ≤ c ∧ c ≤ 9) (hw : wh ≤ 2) (he : (P p).length = 0) : zD mX7_shape (d + 2) [.ref 0, .int (nI p), .int (nI c), .int (nI wh)] h (some (.int (-1000000002))) h := by
  obtain ⟨r0, -, rp, -⟩ := id r
  obtain ⟨q0, -⟩ := id r0
  obtain ⟨p0, -⟩ := rp p hp
  rw [he] at p0
  refine zD_of (by decide +kernel) (by exact Nat.le_of_ble_eq_true rfl) ?_
  show zB mX7_shape _ _ _ 0 [some (.ref 0), some (.int (nI p)), some (.int (nI c)), some (.int (nI wh)), none, none, none, none] [] _
  refine zj_aload_n dX7_shape_0 (by rfl) ?_
  refine zj_iload_n dX7_shape_1 (by rfl) ?_
  refine zc_7_99 rfl dX7_shape_2 (by first | assumption | rfl) (x7_phraseAt r0 hp) (by exact Nat.le_of_ble_eq_true rfl) ?_
  refine zj_astore dX7_shape_5 (by decide) ?_
  refine zj_aload dX7_shape_7 (by rfl) ?_
  refine zj_ifnull dX7_shape_9 ?_
  refine zj_iload_n dX7_shape_12 (by rfl) ?_
  refine zc_7_140 rfl dX7_shape_13 (x7_isStep hc) (by exact Nat.le_of_ble_eq_true rfl) ?_
  refine zj_if_eq (tgt := 26) dX7_shape_16 (by decide) (fun zq => absurd zq (by decide)) (fun _ => ?_)
  refine zj_iload_n dX7_shape_19 (by rfl) ?_
  refine zc_7_143 rfl dX7_shape_20 (x7_isShape hw) (by exact Nat.le_of_ble_eq_true rfl) ?_
  refine zj_if_ne (tgt := 29) dX7_shape_23 (by decide) (fun _ => ?_) (fun zq => absurd zq (by decide))
  refine zj_aload dX7_shape_29 (by rfl) ?_
  refine zg_7_113 rfl dX7_shape_31 (by first | assumption | rfl) (by rfl) ?_
  refine zj_if_ne (tgt := 40) dX7_shape_34 (by decide) (fun zq => absurd (rfl) zq) (fun _ => ?_)
  refine zj_ldc (v := -1000000002) dX7_shape_37 zq_352 ?_
  refine zj_iret dX7_shape_39 rfl (Nat.le_refl _) (Nat.le_refl _) ?_
  exact ⟨rfl, rfl⟩
theorem x_shape_l (w : WF C P S T H O g) (r : RX h C P S T H O g) {p c wh : Nat} {v1 : Int32} (hp : p < 6) (hc : 1 ≤ c ∧ c ≤ 9) (hw : wh ≤ 2) (he : ¬ (P p).length = 0) : ∀ m k, k + m = s_rows (s_R (P p).length c) wh → zB mX7_shape (d + 2) (some (.int (nI (s_shp (P p).length c (s_R (P p).length c) wh (s_rows (s_R (P p).length c) wh))))) h 55 [some (.ref 0), some (.int v1), some (.int (nI c)), some (.int (nI wh)), some (.ref (31 + 2 * p)), some (.int (nI (s_rows (s_R (P p).length c) wh))), some (.int (nI (s_shp (P p).length c (s_R (P p).length c) wh k))), some (.int (nI k))] [] h := by
  obtain ⟨r0, -, rp, -⟩ := id r
  obtain ⟨q0, -⟩ := id r0
  obtain ⟨p0, -⟩ := rp p hp
  have l2 := (w.2.1 p hp).1
  have hR := s_R_le (n := (P p).length) (c := c) (by omega) hc.1
  have hR1 : 1 ≤ s_R (P p).length c := by rw [s_R_p (n := (P p).length) (c := c) (by omega) hc.1]; exact Nat.le_add_left _ _
  have hrows : s_rows (s_R (P p).length c) wh ≤ 2 * s_R (P p).length c := by unfold s_rows; split <;> omega
  intro m
  induction m with
  | zero =>
    intro k hk
    refine zj_iload dX7_shape_55 (by rfl) ?_
    refine zj_iload dX7_shape_57 (by rfl) ?_
    refine zj_icmp_geN (tgt := 88) dX7_shape_59 (by decide) (by omega) (fun _ => ?_) (fun zq => absurd (by omega) zq)
    refine zj_iload dX7_shape_88 (by rfl) ?_
    refine zj_iret dX7_shape_90 rfl (Nat.le_refl _) (Nat.le_refl _) ?_
    exact ⟨by rw [show k = s_rows (s_R (P p).length c) wh by omega], rfl⟩
  | succ m ih =>
    intro k hk
    have hlt := s_row_n (n := (P p).length) (c := c) (by omega) hc.1 (s_row_lt (by omega) hw (show k < s_rows (s_R (P p).length c) wh by omega))
    have hJ := ih (k + 1) (by omega)
    refine zj_iload dX7_shape_55 (by rfl) ?_
    refine zj_iload dX7_shape_57 (by rfl) ?_
    refine zj_icmp_geN (tgt := 88) dX7_shape_59 (by decide) (by omega) (fun zq => absurd zq (by omega)) (fun _ => ?_)
    refine zj_iload dX7_shape_62 (by rfl) ?_
    refine zj_aload dX7_shape_64 (by rfl) ?_
    refine zg_7_113 rfl dX7_shape_66 (by first | assumption | rfl) (by rfl) ?_
    refine zj_aload dX7_shape_69 (by rfl) ?_
    refine zj_iload_n dX7_shape_71 (by rfl) ?_
    refine zj_iload_n dX7_shape_72 (by rfl) ?_
    refine zj_iload dX7_shape_73 (by rfl) ?_
    refine zc_7_151 rfl dX7_shape_75 (x7_shapeRowStart p0 (by omega) hc hw (by omega)) (by exact Nat.le_of_ble_eq_true rfl) ?_
    refine zj_isubN dX7_shape_78 (by omega) ?_
    refine zj_iaddN dX7_shape_79 ?_
    refine zj_istore dX7_shape_80 (by decide) ?_
    refine zj_iincN dX7_shape_82 (by rfl) (by decide) ?_
    refine zj_goto (tgt := 55) dX7_shape_85 (by decide) ?_
    exact hJ
theorem x_shape (w : WF C P S T H O g) (r : RX h C P S T H O g) {p c wh : Nat} (hp : p < 6) (hc : 1 ≤ c ∧ c ≤ 9) (hw : wh ≤ 2) (he : ¬ (P p).length = 0) : zD mX7_shape (d + 2) [.ref 0, .int (nI p), .int (nI c), .int (nI wh)] h (some (.int (nI (s_shp (P p).length c (s_R (P p).length c) wh (s_rows (s_R (P p).length c) wh))))) h := by
  obtain ⟨r0, -, rp, -⟩ := id r
  obtain ⟨q0, -⟩ := id r0
  obtain ⟨p0, -⟩ := rp p hp
  have l2 := (w.2.1 p hp).1
  refine zD_of (by decide +kernel) (by exact Nat.le_of_ble_eq_true rfl) ?_
  show zB mX7_shape _ _ _ 0 [some (.ref 0), some (.int (nI p)), some (.int (nI c)), some (.int (nI wh)), none, none, none, none] [] _
  refine zj_aload_n dX7_shape_0 (by rfl) ?_
  refine zj_iload_n dX7_shape_1 (by rfl) ?_
  refine zc_7_99 rfl dX7_shape_2 (by first | assumption | rfl) (x7_phraseAt r0 hp) (by exact Nat.le_of_ble_eq_true rfl) ?_
  refine zj_astore dX7_shape_5 (by decide) ?_
  refine zj_aload dX7_shape_7 (by rfl) ?_
  refine zj_ifnull dX7_shape_9 ?_
  refine zj_iload_n dX7_shape_12 (by rfl) ?_
  refine zc_7_140 rfl dX7_shape_13 (x7_isStep hc) (by exact Nat.le_of_ble_eq_true rfl) ?_
  refine zj_if_eq (tgt := 26) dX7_shape_16 (by decide) (fun zq => absurd zq (by decide)) (fun _ => ?_)
  refine zj_iload_n dX7_shape_19 (by rfl) ?_
  refine zc_7_143 rfl dX7_shape_20 (x7_isShape hw) (by exact Nat.le_of_ble_eq_true rfl) ?_
  refine zj_if_ne (tgt := 29) dX7_shape_23 (by decide) (fun _ => ?_) (fun zq => absurd zq (by decide))
  refine zj_aload dX7_shape_29 (by rfl) ?_
  refine zg_7_113 rfl dX7_shape_31 (by first | assumption | rfl) (by rfl) ?_
  refine zj_if_neN (tgt := 40) dX7_shape_34 (by decide) (by omega) (fun _ => ?_) (fun zq => absurd zq (he))
  refine zj_aload dX7_shape_40 (by rfl) ?_
  refine zj_iload_n dX7_shape_42 (by rfl) ?_
  refine zj_iload_n dX7_shape_43 (by rfl) ?_
  refine zc_7_147 rfl dX7_shape_44 (x7_shapeRows p0 (by omega) hc hw) (by exact Nat.le_of_ble_eq_true rfl) ?_
  refine zj_istore dX7_shape_47 (by decide) ?_
  refine zj_iconst (v := nI 0) dX7_shape_49 (by decide) ?_
  refine zj_istore dX7_shape_50 (by decide) ?_
  refine zj_iconst (v := nI 0) dX7_shape_52 (by decide) ?_
  refine zj_istore dX7_shape_53 (by decide) ?_
  exact x_shape_l (d := d) w r hp hc hw he _ 0 (Nat.zero_add _)
theorem x_shapedA (r : RX h C P S T H O g) {p dd wh i : Int32} (hb : i < 0 ∨ s_bads p dd wh) : zD mX7_shaped (d + 2) [.ref 0, .int p, .int dd, .int wh, .int i] h (some (.int (-1000000001))) h := by
  obtain ⟨r0, -⟩ := id r
  obtain ⟨q0, -⟩ := id r0
  by_cases hp : p < 0 ∨ 6 ≤ p
  · refine zD_of (by decide +kernel) (by exact Nat.le_of_ble_eq_true rfl) ?_
    show zB mX7_shaped _ _ _ 0 [some (.ref 0), some (.int p), some (.int dd), some (.int wh), some (.int i), none, none, none, none, none] [] _
    refine zj_aload_n dX7_shaped_0 (by rfl) ?_
    refine zj_iload_n dX7_shaped_1 (by rfl) ?_
    refine zc_7_99 rfl dX7_shaped_2 (by first | assumption | rfl) (x7_phraseAtN r0 hp) (by exact Nat.le_of_ble_eq_true rfl) ?_
    refine zj_astoreN dX7_shaped_5 (by decide) ?_
    refine zj_aloadN dX7_shaped_7 (by rfl) ?_
    refine zj_ifnullN (tgt := 31) dX7_shaped_9 (by decide) ?_
    refine zj_ldc (v := -1000000001) dX7_shaped_31 zq_226 ?_
    refine zj_iret dX7_shaped_33 rfl (Nat.le_refl _) (Nat.le_refl _) ?_
    exact ⟨rfl, rfl⟩
  · obtain ⟨j, hj, rfl⟩ : ∃ j, j < 6 ∧ p = nI j := ((pk_ix p (n := 6) (by decide)).resolve_left (fun e => hp (Or.inl e))).resolve_left (fun e => hp (Or.inr e))
    by_cases h1 : dd < 1 ∨ 9 < dd
    · refine zD_of (by decide +kernel) (by exact Nat.le_of_ble_eq_true rfl) ?_
      show zB mX7_shaped _ _ _ 0 [some (.ref 0), some (.int (nI j)), some (.int dd), some (.int wh), some (.int i), none, none, none, none, none] [] _
      refine zj_aload_n dX7_shaped_0 (by rfl) ?_
      refine zj_iload_n dX7_shaped_1 (by rfl) ?_
      refine zc_7_99 rfl dX7_shaped_2 (by first | assumption | rfl) (x7_phraseAt r0 hj) (by exact Nat.le_of_ble_eq_true rfl) ?_
      refine zj_astore dX7_shaped_5 (by decide) ?_
      refine zj_aload dX7_shaped_7 (by rfl) ?_
      refine zj_ifnull dX7_shaped_9 ?_
      refine zj_iload_n dX7_shaped_12 (by rfl) ?_
      refine zc_7_140 rfl dX7_shaped_13 (x7_isStep0 h1) (by exact Nat.le_of_ble_eq_true rfl) ?_
      refine zj_if_eq (tgt := 31) dX7_shaped_16 (by decide) (fun _ => ?_) (fun zq => absurd (rfl) zq)
      refine zj_ldc (v := -1000000001) dX7_shaped_31 zq_226 ?_
      refine zj_iret dX7_shaped_33 rfl (Nat.le_refl _) (Nat.le_refl _) ?_
      exact ⟨rfl, rfl⟩
    · by_cases h2 : wh < 0 ∨ ¬ wh ≤ 2
      · refine zD_of (by decide +kernel) (by exact Nat.le_of_ble_eq_true rfl) ?_
        show zB mX7_shaped _ _ _ 0 [some (.ref 0), some (.int (nI j)), some (.int dd), some (.int wh), some (.int i), none, none, none, none, none] [] _
        refine zj_aload_n dX7_shaped_0 (by rfl) ?_
        refine zj_iload_n dX7_shaped_1 (by rfl) ?_
        refine zc_7_99 rfl dX7_shaped_2 (by first | assumption | rfl) (x7_phraseAt r0 hj) (by exact Nat.le_of_ble_eq_true rfl) ?_
        refine zj_astore dX7_shaped_5 (by decide) ?_
        refine zj_aload dX7_shaped_7 (by rfl) ?_
        refine zj_ifnull dX7_shaped_9 ?_
        refine zj_iload_n dX7_shaped_12 (by rfl) ?_
        refine zc_7_140 rfl dX7_shaped_13 (x7_isStep1 h1) (by exact Nat.le_of_ble_eq_true rfl) ?_
        refine zj_if_eq (tgt := 31) dX7_shaped_16 (by decide) (fun zq => absurd zq (by decide)) (fun _ => ?_)
        refine zj_iload_n dX7_shaped_19 (by rfl) ?_
        refine zc_7_143 rfl dX7_shaped_20 (x7_isShape0 h2) (by exact Nat.le_of_ble_eq_true rfl) ?_
        refine zj_if_eq (tgt := 31) dX7_shaped_23 (by decide) (fun _ => ?_) (fun zq => absurd (rfl) zq)
        refine zj_ldc (v := -1000000001) dX7_shaped_31 zq_226 ?_
        refine zj_iret dX7_shaped_33 rfl (Nat.le_refl _) (Nat.le_refl _) ?_
        exact ⟨rfl, rfl⟩
      · have hi : i < 0 := hb.resolve_right (fun e => h2 (((e.resolve_left hp).resolve_left (fun e => h1 (Or.inl e))).resolve_left (fun e => h1 (Or.inr e))))
        refine zD_of (by decide +kernel) (by exact Nat.le_of_ble_eq_true rfl) ?_
        show zB mX7_shaped _ _ _ 0 [some (.ref 0), some (.int (nI j)), some (.int dd), some (.int wh), some (.int i), none, none, none, none, none] [] _
        refine zj_aload_n dX7_shaped_0 (by rfl) ?_
        refine zj_iload_n dX7_shaped_1 (by rfl) ?_
        refine zc_7_99 rfl dX7_shaped_2 (by first | assumption | rfl) (x7_phraseAt r0 hj) (by exact Nat.le_of_ble_eq_true rfl) ?_
        refine zj_astore dX7_shaped_5 (by decide) ?_
        refine zj_aload dX7_shaped_7 (by rfl) ?_
        refine zj_ifnull dX7_shaped_9 ?_
        refine zj_iload_n dX7_shaped_12 (by rfl) ?_
        refine zc_7_140 rfl dX7_shaped_13 (x7_isStep1 h1) (by exact Nat.le_of_ble_eq_true rfl) ?_
        refine zj_if_eq (tgt := 31) dX7_shaped_16 (by decide) (fun zq => absurd zq (by decide)) (fun _ => ?_)
        refine zj_iload_n dX7_shaped_19 (by rfl) ?_
        refine zc_7_143 rfl dX7_shaped_20 (x7_isShape1 h2) (by exact Nat.le_of_ble_eq_true rfl) ?_
        refine zj_if_eq (tgt := 31) dX7_shaped_23 (by decide) (fun zq => absurd zq (by decide)) (fun _ => ?_)
        refine zj_iload dX7_shaped_26 (by rfl) ?_
        refine zj_if_ge (tgt := 34) dX7_shaped_28 (by decide) (fun zq => absurd zq (Int32.not_le.mpr hi)) (fun _ => ?_)
        refine zj_ldc (v := -1000000001) dX7_shaped_31 zq_226 ?_
        refine zj_iret dX7_shaped_33 rfl (Nat.le_refl _) (Nat.le_refl _) ?_
        exact ⟨rfl, rfl⟩
theorem x_shapedN (w : WF C P S T H O g) (r : RX h C P S T H O g) {p c wh i : Nat} (hp : p < 6) (hc : 1 ≤ c ∧ c ≤ 9) (hw : wh ≤ 2) (hi : i < 2 ^ 31) (he : (P p).length = 0) : zD mX7_shaped (d + 2) [.ref 0, .int (nI p), .int (nI c), .int (nI wh), .int (nI i)] h (some (.int (-1000000002))) h := by
  obtain ⟨r0, -, rp, -⟩ := id r
  obtain ⟨q0, -⟩ := id r0
  obtain ⟨p0, -⟩ := rp p hp
  have l2 := (w.2.1 p hp).1
  refine zD_of (by decide +kernel) (by exact Nat.le_of_ble_eq_true rfl) ?_
  show zB mX7_shaped _ _ _ 0 [some (.ref 0), some (.int (nI p)), some (.int (nI c)), some (.int (nI wh)), some (.int (nI i)), none, none, none, none, none] [] _
  refine zj_aload_n dX7_shaped_0 (by rfl) ?_
  refine zj_iload_n dX7_shaped_1 (by rfl) ?_
  refine zc_7_99 rfl dX7_shaped_2 (by first | assumption | rfl) (x7_phraseAt r0 hp) (by exact Nat.le_of_ble_eq_true rfl) ?_
  refine zj_astore dX7_shaped_5 (by decide) ?_
  refine zj_aload dX7_shaped_7 (by rfl) ?_
  refine zj_ifnull dX7_shaped_9 ?_
  refine zj_iload_n dX7_shaped_12 (by rfl) ?_
  refine zc_7_140 rfl dX7_shaped_13 (x7_isStep hc) (by exact Nat.le_of_ble_eq_true rfl) ?_
  refine zj_if_eq (tgt := 31) dX7_shaped_16 (by decide) (fun zq => absurd zq (by decide)) (fun _ => ?_)
  refine zj_iload_n dX7_shaped_19 (by rfl) ?_
  refine zc_7_143 rfl dX7_shaped_20 (x7_isShape hw) (by exact Nat.le_of_ble_eq_true rfl) ?_
  refine zj_if_eq (tgt := 31) dX7_shaped_23 (by decide) (fun zq => absurd zq (by decide)) (fun _ => ?_)
  refine zj_iload dX7_shaped_26 (by rfl) ?_
  refine zj_if_geN (tgt := 34) dX7_shaped_28 (by decide) (by omega) ?_
  refine zj_aload dX7_shaped_34 (by rfl) ?_
  refine zg_7_113 rfl dX7_shaped_36 (by first | assumption | rfl) (by rfl) ?_
  refine zj_if_neN (tgt := 45) dX7_shaped_39 (by decide) (by omega) (fun zq => absurd (he) zq) (fun _ => ?_)
  refine zj_ldc (v := -1000000002) dX7_shaped_42 zq_352 ?_
  refine zj_iret dX7_shaped_44 rfl (Nat.le_refl _) (Nat.le_refl _) ?_
  exact ⟨rfl, rfl⟩
theorem x_shaped_l (w : WF C P S T H O g) (r : RX h C P S T H O g) {p c wh : Nat} {v1 v4 : Int32} (hp : p < 6) (hc : 1 ≤ c ∧ c ≤ 9) (hw : wh ≤ 2) (he : ¬ (P p).length = 0) : ∀ m k left o10, k + m = s_rows (s_R (P p).length c) wh → left < 2 ^ 31 → zB mX7_shaped (d + 2) (some (.int (s_oN (s_shd (P p) c (s_R (P p).length c) wh m k left)))) h 61 [some (.ref 0), some (.int v1), some (.int (nI c)), some (.int (nI wh)), some (.int v4), some (.ref (31 + 2 * p)), some (.int (nI (s_rows (s_R (P p).length c) wh))), some (.int (nI left)), some (.int (nI k)), o10] [] h := by
  obtain ⟨r0, -, rp, -⟩ := id r
  obtain ⟨q0, -⟩ := id r0
  obtain ⟨p0, pf, p1, pq⟩ := rp p hp
  have l2 := (w.2.1 p hp).1
  have hR := s_R_le (n := (P p).length) (c := c) (by omega) hc.1
  have hR1 : 1 ≤ s_R (P p).length c := by rw [s_R_p (n := (P p).length) (c := c) (by omega) hc.1]; exact Nat.le_add_left _ _
  have hrows : s_rows (s_R (P p).length c) wh ≤ 2 * s_R (P p).length c := by unfold s_rows; split <;> omega
  intro m
  induction m with
  | zero =>
    intro k left o10 hk hl
    refine zj_iload dX7_shaped_61 (by rfl) ?_
    refine zj_iload dX7_shaped_63 (by rfl) ?_
    refine zj_icmp_geN (tgt := 122) dX7_shaped_65 (by decide) (by omega) (fun _ => ?_) (fun zq => absurd (by omega) zq)
    refine zj_ldc (v := -1000000005) dX7_shaped_122 zq_387 ?_
    refine zj_iret dX7_shaped_124 rfl (Nat.le_refl _) (Nat.le_refl _) ?_
    exact ⟨rfl, rfl⟩
  | succ m ih =>
    intro k left o10 hk hl
    have hlt := s_row_n (n := (P p).length) (c := c) (by omega) hc.1 (s_row_lt (by omega) hw (show k < s_rows (s_R (P p).length c) wh by omega))
    unfold s_shd
    by_cases hin : left < (P p).length - s_row (s_R (P p).length c) wh k * c
    · rw [if_pos hin]
      have hA := x2_at (d := d + 1) (i := s_row (s_R (P p).length c) wh k * c + left) p0 p1 l2 (by omega)
      rw [if_pos (by omega), pq _ (by omega)] at hA
      refine zj_iload dX7_shaped_61 (by rfl) ?_
      refine zj_iload dX7_shaped_63 (by rfl) ?_
      refine zj_icmp_geN (tgt := 122) dX7_shaped_65 (by decide) (by omega) (fun zq => absurd zq (by omega)) (fun _ => ?_)
      refine zj_aload dX7_shaped_68 (by rfl) ?_
      refine zj_iload_n dX7_shaped_70 (by rfl) ?_
      refine zj_iload_n dX7_shaped_71 (by rfl) ?_
      refine zj_iload dX7_shaped_72 (by rfl) ?_
      refine zc_7_151 rfl dX7_shaped_74 (x7_shapeRowStart p0 (by omega) hc hw (by omega)) (by exact Nat.le_of_ble_eq_true rfl) ?_
      refine zj_istore dX7_shaped_77 (by decide) ?_
      refine zj_iload dX7_shaped_79 (by rfl) ?_
      refine zj_aload dX7_shaped_81 (by rfl) ?_
      refine zg_7_113 rfl dX7_shaped_83 (by first | assumption | rfl) (by rfl) ?_
      refine zj_iload dX7_shaped_86 (by rfl) ?_
      refine zj_isubN dX7_shaped_88 (by omega) ?_
      refine zj_icmp_geN (tgt := 103) dX7_shaped_89 (by decide) (by omega) (fun zq => absurd zq (by omega)) (fun _ => ?_)
      refine zj_aload dX7_shaped_92 (by rfl) ?_
      refine zj_iload dX7_shaped_94 (by rfl) ?_
      refine zj_iload dX7_shaped_96 (by rfl) ?_
      refine zj_iaddN dX7_shaped_98 ?_
      refine zc_7_107 rfl dX7_shaped_99 (by first | assumption | rfl) hA (by exact Nat.le_of_ble_eq_true rfl) ?_
      refine zj_iret dX7_shaped_102 rfl (Nat.le_refl _) (Nat.le_refl _) ?_
      exact ⟨rfl, rfl⟩
    · rw [if_neg hin]
      have hJ := fun x => ih (k + 1) (left - ((P p).length - s_row (s_R (P p).length c) wh k * c)) x (by omega) (by omega)
      refine zj_iload dX7_shaped_61 (by rfl) ?_
      refine zj_iload dX7_shaped_63 (by rfl) ?_
      refine zj_icmp_geN (tgt := 122) dX7_shaped_65 (by decide) (by omega) (fun zq => absurd zq (by omega)) (fun _ => ?_)
      refine zj_aload dX7_shaped_68 (by rfl) ?_
      refine zj_iload_n dX7_shaped_70 (by rfl) ?_
      refine zj_iload_n dX7_shaped_71 (by rfl) ?_
      refine zj_iload dX7_shaped_72 (by rfl) ?_
      refine zc_7_151 rfl dX7_shaped_74 (x7_shapeRowStart p0 (by omega) hc hw (by omega)) (by exact Nat.le_of_ble_eq_true rfl) ?_
      refine zj_istore dX7_shaped_77 (by decide) ?_
      refine zj_iload dX7_shaped_79 (by rfl) ?_
      refine zj_aload dX7_shaped_81 (by rfl) ?_
      refine zg_7_113 rfl dX7_shaped_83 (by first | assumption | rfl) (by rfl) ?_
      refine zj_iload dX7_shaped_86 (by rfl) ?_
      refine zj_isubN dX7_shaped_88 (by omega) ?_
      refine zj_icmp_geN (tgt := 103) dX7_shaped_89 (by decide) (by omega) (fun _ => ?_) (fun zq => absurd (by omega) zq)
      refine zj_iload dX7_shaped_103 (by rfl) ?_
      refine zj_aload dX7_shaped_105 (by rfl) ?_
      refine zg_7_113 rfl dX7_shaped_107 (by first | assumption | rfl) (by rfl) ?_
      refine zj_iload dX7_shaped_110 (by rfl) ?_
      refine zj_isubN dX7_shaped_112 (by omega) ?_
      refine zj_isubN dX7_shaped_113 (by omega) ?_
      refine zj_istore dX7_shaped_114 (by decide) ?_
      refine zj_iincN dX7_shaped_116 (by rfl) (by decide) ?_
      refine zj_goto (tgt := 61) dX7_shaped_119 (by decide) ?_
      exact hJ _
theorem x_shaped (w : WF C P S T H O g) (r : RX h C P S T H O g) {p c wh i : Nat} (hp : p < 6) (hc : 1 ≤ c ∧ c ≤ 9) (hw : wh ≤ 2) (hi : i < 2 ^ 31) (he : ¬ (P p).length = 0) : zD mX7_shaped (d + 2) [.ref 0, .int (nI p), .int (nI c), .int (nI wh), .int (nI i)] h (some (.int (s_oN (s_shd (P p) c (s_R (P p).length c) wh (s_rows (s_R (P p).length c) wh) 0 i)))) h := by
  obtain ⟨r0, -, rp, -⟩ := id r
  obtain ⟨q0, -⟩ := id r0
  obtain ⟨p0, -⟩ := rp p hp
  have l2 := (w.2.1 p hp).1
  refine zD_of (by decide +kernel) (by exact Nat.le_of_ble_eq_true rfl) ?_
  show zB mX7_shaped _ _ _ 0 [some (.ref 0), some (.int (nI p)), some (.int (nI c)), some (.int (nI wh)), some (.int (nI i)), none, none, none, none, none] [] _
  refine zj_aload_n dX7_shaped_0 (by rfl) ?_
  refine zj_iload_n dX7_shaped_1 (by rfl) ?_
  refine zc_7_99 rfl dX7_shaped_2 (by first | assumption | rfl) (x7_phraseAt r0 hp) (by exact Nat.le_of_ble_eq_true rfl) ?_
  refine zj_astore dX7_shaped_5 (by decide) ?_
  refine zj_aload dX7_shaped_7 (by rfl) ?_
  refine zj_ifnull dX7_shaped_9 ?_
  refine zj_iload_n dX7_shaped_12 (by rfl) ?_
  refine zc_7_140 rfl dX7_shaped_13 (x7_isStep hc) (by exact Nat.le_of_ble_eq_true rfl) ?_
  refine zj_if_eq (tgt := 31) dX7_shaped_16 (by decide) (fun zq => absurd zq (by decide)) (fun _ => ?_)
  refine zj_iload_n dX7_shaped_19 (by rfl) ?_
  refine zc_7_143 rfl dX7_shaped_20 (x7_isShape hw) (by exact Nat.le_of_ble_eq_true rfl) ?_
  refine zj_if_eq (tgt := 31) dX7_shaped_23 (by decide) (fun zq => absurd zq (by decide)) (fun _ => ?_)
  refine zj_iload dX7_shaped_26 (by rfl) ?_
  refine zj_if_geN (tgt := 34) dX7_shaped_28 (by decide) (by omega) ?_
  refine zj_aload dX7_shaped_34 (by rfl) ?_
  refine zg_7_113 rfl dX7_shaped_36 (by first | assumption | rfl) (by rfl) ?_
  refine zj_if_neN (tgt := 45) dX7_shaped_39 (by decide) (by omega) (fun _ => ?_) (fun zq => absurd zq (he))
  refine zj_aload dX7_shaped_45 (by rfl) ?_
  refine zj_iload_n dX7_shaped_47 (by rfl) ?_
  refine zj_iload_n dX7_shaped_48 (by rfl) ?_
  refine zc_7_147 rfl dX7_shaped_49 (x7_shapeRows p0 (by omega) hc hw) (by exact Nat.le_of_ble_eq_true rfl) ?_
  refine zj_istore dX7_shaped_52 (by decide) ?_
  refine zj_iload dX7_shaped_54 (by rfl) ?_
  refine zj_istore dX7_shaped_56 (by decide) ?_
  refine zj_iconst (v := nI 0) dX7_shaped_58 (by decide) ?_
  refine zj_istore dX7_shaped_59 (by decide) ?_
  exact x_shaped_l (d := d) w r hp hc hw he _ 0 i none (Nat.zero_add _) hi
end SH
