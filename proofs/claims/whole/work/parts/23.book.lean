/-! CountBook's own helpers -/
section BK
variable {d : Nat} {h : zH}
def s_tpo (x : Int32) : Nat := if x = 1 then 24 else if x = 2 then 12 else if x = 3 then 8 else if x = 4 then 6 else if x = 6 then 4 else if x = 8 then 3 else 0
theorem s_tpo_le (x : Int32) : s_tpo x ≤ 24 := by
  unfold s_tpo
  repeat' split
  all_goals omega
theorem s_tpo_nI {v : Nat} (hv : v < 2 ^ 31) : s_tpo (nI v) = if v = 1 ∨ v = 2 ∨ v = 3 ∨ v = 4 ∨ v = 6 ∨ v = 8 then 24 / v else 0 := by
  have e : ∀ c, c < 2 ^ 31 → (nI v = nI c ↔ v = c) := fun c hc => nI_eq hv hc
  unfold s_tpo
  rw [show (1 : Int32) = nI 1 from rfl, show (2 : Int32) = nI 2 from rfl, show (3 : Int32) = nI 3 from rfl, show (4 : Int32) = nI 4 from rfl, show (6 : Int32) = nI 6 from rfl, show (8 : Int32) = nI 8 from rfl]
  simp only [e 1 (by decide), e 2 (by decide), e 3 (by decide), e 4 (by decide), e 6 (by decide), e 8 (by decide)]
  by_cases h1 : v = 1
  · subst h1; decide
  by_cases h2 : v = 2
  · subst h2; decide
  by_cases h3 : v = 3
  · subst h3; decide
  by_cases h4 : v = 4
  · subst h4; decide
  by_cases h6 : v = 6
  · subst h6; decide
  by_cases h8 : v = 8
  · subst h8; decide
  simp [h1, h2, h3, h4, h6, h8]
theorem i32_of {x : Int32} {v : Int} (hx : x.toInt = v) : x = Int32.ofInt v := by rw [← hx, Int32.ofInt_toInt]
theorem x7_ticksOfOne (x : Int32) : zD mX7_ticksOfOne d [.int x] h (some (.int (nI (s_tpo x)))) h := by
  refine zD_of (by decide +kernel) (by exact Nat.le_of_ble_eq_true rfl) ?_
  show zB mX7_ticksOfOne _ _ _ 0 [some (.int x)] [] _
  refine zj_iload_n dX7_ticksOfOne_0 (by rfl) ?_
  by_cases hr : x.toInt < 1 ∨ 8 < x.toInt
  · refine zj_tout (tgt := 53) dX7_ticksOfOne_1 hr (by decide) ?_
    refine zj_iconst (v := 0) dX7_ticksOfOne_53 (by decide) ?_
    refine zj_iret dX7_ticksOfOne_54 rfl (Nat.le_refl _) (Nat.le_refl _) ⟨?_, rfl⟩
    have n1 : ¬ x = 1 := fun e => by subst e; exact absurd hr (by decide)
    have n2 : ¬ x = 2 := fun e => by subst e; exact absurd hr (by decide)
    have n3 : ¬ x = 3 := fun e => by subst e; exact absurd hr (by decide)
    have n4 : ¬ x = 4 := fun e => by subst e; exact absurd hr (by decide)
    have n6 : ¬ x = 6 := fun e => by subst e; exact absurd hr (by decide)
    have n8 : ¬ x = 8 := fun e => by subst e; exact absurd hr (by decide)
    unfold s_tpo
    rw [if_neg n1, if_neg n2, if_neg n3, if_neg n4, if_neg n6, if_neg n8]
    rfl
  · have hc : x.toInt = 1 ∨ x.toInt = 2 ∨ x.toInt = 3 ∨ x.toInt = 4 ∨ x.toInt = 5 ∨ x.toInt = 6 ∨ x.toInt = 7 ∨ x.toInt = 8 := by omega
    rcases hc with hc | hc | hc | hc | hc | hc | hc | hc <;> (have hx := i32_of hc; subst hx)
    · refine zj_tin (off := 47) (tgt := 48) dX7_ticksOfOne_1 (by decide) (by decide) (by decide) (by decide) ?_
      refine zj_bipush (v := 24) dX7_ticksOfOne_48 (by decide) ?_
      refine zj_iload_n dX7_ticksOfOne_50 (by rfl) ?_
      refine zj_idiv dX7_ticksOfOne_51 (by decide) ?_
      exact zj_iret dX7_ticksOfOne_52 rfl (Nat.le_refl _) (Nat.le_refl _) ⟨by decide, rfl⟩
    · refine zj_tin (off := 47) (tgt := 48) dX7_ticksOfOne_1 (by decide) (by decide) (by decide) (by decide) ?_
      refine zj_bipush (v := 24) dX7_ticksOfOne_48 (by decide) ?_
      refine zj_iload_n dX7_ticksOfOne_50 (by rfl) ?_
      refine zj_idiv dX7_ticksOfOne_51 (by decide) ?_
      exact zj_iret dX7_ticksOfOne_52 rfl (Nat.le_refl _) (Nat.le_refl _) ⟨by decide, rfl⟩
    · refine zj_tin (off := 47) (tgt := 48) dX7_ticksOfOne_1 (by decide) (by decide) (by decide) (by decide) ?_
      refine zj_bipush (v := 24) dX7_ticksOfOne_48 (by decide) ?_
      refine zj_iload_n dX7_ticksOfOne_50 (by rfl) ?_
      refine zj_idiv dX7_ticksOfOne_51 (by decide) ?_
      exact zj_iret dX7_ticksOfOne_52 rfl (Nat.le_refl _) (Nat.le_refl _) ⟨by decide, rfl⟩
    · refine zj_tin (off := 47) (tgt := 48) dX7_ticksOfOne_1 (by decide) (by decide) (by decide) (by decide) ?_
      refine zj_bipush (v := 24) dX7_ticksOfOne_48 (by decide) ?_
      refine zj_iload_n dX7_ticksOfOne_50 (by rfl) ?_
      refine zj_idiv dX7_ticksOfOne_51 (by decide) ?_
      exact zj_iret dX7_ticksOfOne_52 rfl (Nat.le_refl _) (Nat.le_refl _) ⟨by decide, rfl⟩
    · refine zj_tin (off := 52) (tgt := 53) dX7_ticksOfOne_1 (by decide) (by decide) (by decide) (by decide) ?_
      refine zj_iconst (v := 0) dX7_ticksOfOne_53 (by decide) ?_
      exact zj_iret dX7_ticksOfOne_54 rfl (Nat.le_refl _) (Nat.le_refl _) ⟨by decide, rfl⟩
    · refine zj_tin (off := 47) (tgt := 48) dX7_ticksOfOne_1 (by decide) (by decide) (by decide) (by decide) ?_
      refine zj_bipush (v := 24) dX7_ticksOfOne_48 (by decide) ?_
      refine zj_iload_n dX7_ticksOfOne_50 (by rfl) ?_
      refine zj_idiv dX7_ticksOfOne_51 (by decide) ?_
      exact zj_iret dX7_ticksOfOne_52 rfl (Nat.le_refl _) (Nat.le_refl _) ⟨by decide, rfl⟩
    · refine zj_tin (off := 52) (tgt := 53) dX7_ticksOfOne_1 (by decide) (by decide) (by decide) (by decide) ?_
      refine zj_iconst (v := 0) dX7_ticksOfOne_53 (by decide) ?_
      exact zj_iret dX7_ticksOfOne_54 rfl (Nat.le_refl _) (Nat.le_refl _) ⟨by decide, rfl⟩
    · refine zj_tin (off := 47) (tgt := 48) dX7_ticksOfOne_1 (by decide) (by decide) (by decide) (by decide) ?_
      refine zj_bipush (v := 24) dX7_ticksOfOne_48 (by decide) ?_
      refine zj_iload_n dX7_ticksOfOne_50 (by rfl) ?_
      refine zj_idiv dX7_ticksOfOne_51 (by decide) ?_
      exact zj_iret dX7_ticksOfOne_52 rfl (Nat.le_refl _) (Nat.le_refl _) ⟨by decide, rfl⟩
theorem x7_isGap (x : Int32) : zD mX7_isGap d [.int x] h (some (.int (if x < 0 then 0 else if 96 < x then 0 else 1))) h := by
  refine zD_of (by decide +kernel) (by exact Nat.le_of_ble_eq_true rfl) ?_
  show zB mX7_isGap _ _ _ 0 [some (.int x)] [] _
  refine zj_iload_n dX7_isGap_0 (by rfl) ?_
  refine zj_if_lt (tgt := 14) dX7_isGap_1 (by decide) (fun q1 => ?_) (fun q1 => ?_)
  · refine zj_iconst (v := 0) dX7_isGap_14 (by decide) ?_
    refine zj_zret dX7_isGap_15 rfl (by first | exact Or.inl rfl | exact Or.inr rfl) (Nat.le_refl _) (Nat.le_refl _) ?_
    exact ⟨by first | rfl | (simp [*]; done) | (simp_all; done), rfl⟩
  · refine zj_iload_n dX7_isGap_4 (by rfl) ?_
    refine zj_bipush (v := 96) dX7_isGap_5 (by decide) ?_
    refine zj_icmp_gt (tgt := 14) dX7_isGap_7 (by decide) (fun q7 => ?_) (fun q7 => ?_)
    · refine zj_iconst (v := 0) dX7_isGap_14 (by decide) ?_
      refine zj_zret dX7_isGap_15 rfl (by first | exact Or.inl rfl | exact Or.inr rfl) (Nat.le_refl _) (Nat.le_refl _) ?_
      exact ⟨by first | rfl | (simp [*]; done) | (simp_all; done), rfl⟩
    · refine zj_iconst (v := 1) dX7_isGap_10 (by decide) ?_
      refine zj_goto (tgt := 15) dX7_isGap_11 (by decide) ?_
      refine zj_zret dX7_isGap_15 rfl (by first | exact Or.inl rfl | exact Or.inr rfl) (Nat.le_refl _) (Nat.le_refl _) ?_
      exact ⟨by first | rfl | (simp [*]; done) | (simp_all; done), rfl⟩

/-- how = 10 * speed + last; the speed is one of six -/
def s_how (v : Nat) : Bool := decide (v % 10 ≤ 1 ∧ ¬ s_tpo (nI (v / 10)) = 0)
theorem x7_isHow {v : Nat} (hv : v < 2 ^ 31) : zD mX7_isHow (d + 1) [.int (nI v)] h (some (.int (if s_how v = true then 1 else 0))) h := by
  have hle := s_tpo_le (nI (v / 10))
  unfold s_how
  simp only [decide_eq_true_eq]
  refine zD_of (by decide +kernel) (by exact Nat.le_of_ble_eq_true rfl) ?_
  show zB mX7_isHow _ _ _ 0 [some (.int (nI v))] [] _
  refine zj_iload_n dX7_isHow_0 (by rfl) ?_
  refine zj_if_ltN (tgt := 26) dX7_isHow_1 (by decide) (by omega) ?_
  refine zj_iload_n dX7_isHow_4 (by rfl) ?_
  refine zj_bipush (v := nI 10) dX7_isHow_5 (by decide) ?_
  refine zj_iremN dX7_isHow_7 (by omega) ?_
  refine zj_iconst (v := nI 1) dX7_isHow_8 (by decide) ?_
  refine zj_icmp_gtN (tgt := 26) dX7_isHow_9 (by decide) (by omega) (fun q9 => ?_) (fun q9 => ?_)
  · refine zj_iconst (v := nI 0) dX7_isHow_26 (by decide) ?_
    refine zj_zret dX7_isHow_27 rfl (by first | exact Or.inl rfl | exact Or.inr rfl) (Nat.le_refl _) (Nat.le_refl _) ?_
    exact ⟨by first | (rw [if_pos (by omega)]; rfl) | (rw [if_neg (by omega)]; rfl), rfl⟩
  · refine zj_iload_n dX7_isHow_12 (by rfl) ?_
    refine zj_bipush (v := nI 10) dX7_isHow_13 (by decide) ?_
    refine zj_idivN dX7_isHow_15 (by omega) ?_
    refine zc_7_110 rfl dX7_isHow_16 (x7_ticksOfOne _) (by exact Nat.le_of_ble_eq_true rfl) ?_
    refine zj_if_eqN (tgt := 26) dX7_isHow_19 (by decide) (by omega) (fun q19 => ?_) (fun q19 => ?_)
    · refine zj_iconst (v := nI 0) dX7_isHow_26 (by decide) ?_
      refine zj_zret dX7_isHow_27 rfl (by first | exact Or.inl rfl | exact Or.inr rfl) (Nat.le_refl _) (Nat.le_refl _) ?_
      exact ⟨by first | (rw [if_pos (by omega)]; rfl) | (rw [if_neg (by omega)]; rfl), rfl⟩
    · refine zj_iconst (v := nI 1) dX7_isHow_22 (by decide) ?_
      refine zj_goto (tgt := 27) dX7_isHow_23 (by decide) ?_
      refine zj_zret dX7_isHow_27 rfl (by first | exact Or.inl rfl | exact Or.inr rfl) (Nat.le_refl _) (Nat.le_refl _) ?_
      exact ⟨by first | (rw [if_pos (by omega)]; rfl) | (rw [if_neg (by omega)]; rfl), rfl⟩
theorem x7_isHowN {x : Int32} (hx : x < 0) : zD mX7_isHow (d + 1) [.int x] h (some (.int 0)) h := by
  refine zD_of (by decide +kernel) (by exact Nat.le_of_ble_eq_true rfl) ?_
  show zB mX7_isHow _ _ _ 0 [some (.int x)] [] _
  refine zj_iload_n dX7_isHow_0 (by rfl) ?_
  refine zj_if_lt (tgt := 26) dX7_isHow_1 (by decide) (fun _ => ?_) (fun zq => absurd (hx) zq)
  refine zj_iconst (v := 0) dX7_isHow_26 (by decide) ?_
  refine zj_zret dX7_isHow_27 rfl (by first | exact Or.inl rfl | exact Or.inr rfl) (Nat.le_refl _) (Nat.le_refl _) ?_
  exact ⟨by first | rfl | (simp [*]; done) | (simp_all; done), rfl⟩
theorem x7_lessGaps {w t l : Nat} (hw : w < 2 ^ 30) (ht : t < 2 ^ 30) (hl : 0 < l ∧ l < 2 ^ 30) : zD mX7_lessGaps (d + 1) [.int (nI w), .int (nI t), .int (nI l)] h (some (.int (nI (((w : Int) - t) % (l : Int)).toNat))) h := by
  refine zD_of (by decide +kernel) (by exact Nat.le_of_ble_eq_true rfl) ?_
  show zB mX7_lessGaps _ _ _ 0 [some (.int (nI w)), some (.int (nI t)), some (.int (nI l))] [] _
  refine zj_iload_n dX7_lessGaps_0 (by rfl) ?_
  refine zj_if_gtN (tgt := 8) dX7_lessGaps_1 (by decide) (by omega) (fun _ => ?_) (fun zq => absurd (hl.1) zq)
  refine zj_iload_n dX7_lessGaps_8 (by rfl) ?_
  refine zj_iload_n dX7_lessGaps_9 (by rfl) ?_
  refine zj_isub dX7_lessGaps_10 ?_
  rw [nI_iI w, nI_iI t, iI_sub]
  refine zj_iload_n dX7_lessGaps_11 (by rfl) ?_
  refine zc_7_195 rfl dX7_lessGaps_12 (j9_floorMod (by omega) hl) (by exact Nat.le_of_ble_eq_true rfl) ?_
  refine zj_iret dX7_lessGaps_15 rfl (Nat.le_refl _) (Nat.le_refl _) ?_
  exact ⟨rfl, rfl⟩
end BK
/-- how many of 0 .. n - 1 have it -/
def s_cnt (p : Nat → Bool) : Nat → Nat
  | 0 => 0
  | n + 1 => s_cnt p n + (if p n = true then 1 else 0)
theorem s_cnt_le {p : Nat → Bool} : ∀ n, s_cnt p n ≤ n
  | 0 => Nat.le_refl _
  | n + 1 => by
    have := s_cnt_le (p := p) n
    show s_cnt p n + (if _ then 1 else 0) ≤ _
    split <;> omega
theorem s_cnt_no {p : Nat → Bool} {x : Nat} : ∀ m, (∀ y, x ≤ y → y < x + m → p y = false) → s_cnt p (x + m) = s_cnt p x
  | 0, _ => rfl
  | m + 1, h => by
    show s_cnt p (x + m) + (if p (x + m) = true then 1 else 0) = _
    rw [h (x + m) (by omega) (by omega), s_cnt_no m (fun y h1 h2 => h y h1 (by omega))]
    rfl
theorem s_cnt_skip {p : Nat → Bool} {x a : Nat} (ha : 1 ≤ a) (h : ∀ y, x < y → y < x + a → p y = false) : s_cnt p (x + a) = s_cnt p x + (if p x = true then 1 else 0) := by
  have := s_cnt_no (p := p) (x := x + 1) (a - 1) (fun y h1 h2 => h y (by omega) (by omega))
  rw [show x + 1 + (a - 1) = x + a by omega] at this
  rw [this]
  rfl
/-- the i-th from x on, among m numbers -/
def s_nth (p : Nat → Bool) : Nat → Nat → Nat → Option Nat
  | 0, _, _ => none
  | m + 1, x, i => if p x = true then (if i = 0 then some x else s_nth p m (x + 1) (i - 1)) else s_nth p m (x + 1) i
theorem s_nth_no {p : Nat → Bool} {i : Nat} : ∀ k m x, (∀ y, x ≤ y → y < x + k → p y = false) → s_nth p (m + k) x i = s_nth p m (x + k) i
  | 0, _, _, _ => rfl
  | k + 1, m, x, h => by
    show (if p x = true then _ else s_nth p (m + k) (x + 1) i) = _
    rw [h x (by omega) (by omega), s_nth_no k m (x + 1) (fun y h1 h2 => h y (by omega) (by omega))]
    rw [show x + 1 + k = x + (k + 1) by omega]
    rfl
theorem s_nth_le {p : Nat → Bool} : ∀ m x i r, s_nth p m x i = some r → x ≤ r ∧ r < x + m
  | 0, _, _, _, h => by cases h
  | m + 1, x, i, r, h => by
    unfold s_nth at h
    split at h
    · split at h
      · cases h; omega
      · have := s_nth_le m (x + 1) _ r h; omega
    · have := s_nth_le m (x + 1) _ r h; omega
