/-! closings -/
/-- what is wanting from b until a multiple of l -/
def s_w (b l : Nat) : Nat := (l - b % l) % l
theorem s_w_lt {b l : Nat} (hl : 0 < l) : s_w b l < l := Nat.mod_lt _ hl
theorem s_w_iff {b y l : Nat} (hl : 0 < l) : (b + y) % l = 0 ↔ y % l = s_w b l := by
  have h1 := Nat.mod_lt b hl
  have h2 := Nat.mod_lt y hl
  rw [Nat.add_mod]
  unfold s_w
  generalize b % l = r at *
  generalize y % l = q at *
  by_cases h0 : r = 0
  · subst h0
    rw [Nat.zero_add, Nat.sub_zero, Nat.mod_self, Nat.mod_eq_of_lt h2]
  · rw [Nat.mod_eq_of_lt (show l - r < l by omega)]
    by_cases hs : r + q < l
    · rw [Nat.mod_eq_of_lt hs]; omega
    · rw [Nat.mod_eq_sub_mod (by omega), Nat.mod_eq_of_lt (by omega)]; omega
theorem s_w_0 {b l : Nat} (hl : 0 < l) : s_w b l = 0 ↔ b % l = 0 := by
  have := s_w_iff (b := b) (y := 0) hl
  rw [Nat.add_zero, Nat.zero_mod] at this
  rw [this]
  exact ⟨fun h => h.symm, fun h => h.symm⟩
theorem s_w_int {z : Int} {b l : Nat} (hl : 0 < l) (h : (z + b) % (l : Int) = 0) : (z % (l : Int)).toNat = s_w b l := by
  have h0 : 0 ≤ z % (l : Int) := Int.emod_nonneg _ (by omega)
  have h1 : z % (l : Int) < l := Int.emod_lt_of_pos _ (by omega)
  obtain ⟨m, hm⟩ : ∃ m : Nat, (m : Int) = z % (l : Int) := ⟨(z % (l : Int)).toNat, by omega⟩
  rw [← hm, Int.toNat_natCast]
  have h2 : ((b : Int) + m) % (l : Int) = 0 := by
    rw [hm, Int.add_comm, Int.emod_add_emod]
    exact h
  have h3 : (b + m) % l = 0 := by
    have : (((b + m) % l : Nat) : Int) = 0 := by push_cast; exact h2
    omega
  have h4 := (s_w_iff hl).mp h3
  rw [Nat.mod_eq_of_lt (by omega)] at h4
  exact h4
theorem s_w_add {b t l : Nat} (hl : 0 < l) : (((s_w b l : Nat) : Int) - t) % (l : Int) = (((s_w (b + t) l : Nat)) : Int) := by
  have h1 : ((((s_w b l : Nat) : Int) - t) + ((b + t : Nat) : Int)) % (l : Int) = 0 := by
    have h2 := (s_w_iff (b := b) (y := s_w b l) hl).mpr (Nat.mod_eq_of_lt (s_w_lt hl))
    rw [show (((s_w b l : Nat) : Int) - t) + ((b + t : Nat) : Int) = ((b + s_w b l : Nat) : Int) by push_cast; omega]
    rw [← Int.natCast_emod, h2]
    rfl
  have h3 := s_w_int hl h1
  have h0 : 0 ≤ (((s_w b l : Nat) : Int) - t) % (l : Int) := Int.emod_nonneg _ (by omega)
  omega
/-- a gap that is looked at and lands -/
def s_p (g b l x : Nat) : Bool := decide (x % g = 0 ∧ (b + 2 * x) % l = 0)
theorem s_p_mod {g b a x : Nat} (ha : 0 < a) (h : s_p g b (2 * a) x = true) : s_w b (2 * a) % 2 = 0 ∧ x % a = s_w b (2 * a) / 2 := by
  have h2 := (of_decide_eq_true h).2
  have h3 := (s_w_iff (by omega)).mp h2
  rw [Nat.mul_mod_mul_left] at h3
  omega
theorem s_p_iff {g b a x : Nat} (ha : 0 < a) (hw : s_w b (2 * a) % 2 = 0) (hx : x % a = s_w b (2 * a) / 2) : s_p g b (2 * a) x = decide (x % g = 0) := by
  have h3 : (b + 2 * x) % (2 * a) = 0 := by
    rw [s_w_iff (by omega), Nat.mul_mod_mul_left]
    omega
  unfold s_p
  simp [h3]
theorem s_mod_step {x a : Nat} (ha : 0 < a) : (x + a) % a = x % a := Nat.add_mod_right x a
theorem s_mod_ne {x y a : Nat} (h1 : x < y) (h2 : y < x + a) (e : y % a = x % a) : False := by
  have h3 : (y - x) % a = 0 := Nat.sub_mod_eq_zero_of_mod_eq e
  rw [Nat.mod_eq_of_lt (by omega)] at h3
  omega
section CL
variable {h : zH} {C : Nat → List (Nat × Nat)} {P : Nat → List Nat} {S : Nat → Option (List Int32)} {T : List Nat} {H : Nat → Nat} {O : List (Nat × Nat)} {g d : Nat}
theorem x7_lengthOf (w : WF C P S T H O g) (r : RX h C P S T H O g) {c : Nat} (hc : c < 4) : zD mX7_lengthOf (d + 1) [.ref 0, .int (nI c)] h (some (.int (nI (s_cl C c)))) h := by
  obtain ⟨r0, rc, -⟩ := id r
  obtain ⟨q0, -⟩ := id r0
  obtain ⟨c0, f, g2, c1, c2, c3⟩ := rc c hc
  have hL := x0_allTicks (d := d) (hv := s_hv C c) c0 c2 (w.1 c hc).1 (fun j hj => (c3 j hj).2)
  refine zD_of (by decide +kernel) (by exact Nat.le_of_ble_eq_true rfl) ?_
  show zB mX7_lengthOf _ _ _ 0 [some (.ref 0), some (.int (nI c)), none] [] _
  refine zj_aload_n dX7_lengthOf_0 (by rfl) ?_
  refine zj_iload_n dX7_lengthOf_1 (by rfl) ?_
  refine zc_7_62 rfl dX7_lengthOf_2 (by first | assumption | rfl) (x7_cycleAt r0 hc) (by exact Nat.le_of_ble_eq_true rfl) ?_
  refine zj_astore_n dX7_lengthOf_5 (by decide) ?_
  refine zj_aload_n dX7_lengthOf_6 (by rfl) ?_
  refine zj_ifnonnull (tgt := 14) dX7_lengthOf_7 (by decide) ?_
  refine zj_aload_n dX7_lengthOf_14 (by rfl) ?_
  refine zc_7_82 rfl dX7_lengthOf_15 (by first | assumption | rfl) hL (by exact Nat.le_of_ble_eq_true rfl) ?_
  refine zj_iret dX7_lengthOf_18 rfl (Nat.le_refl _) (Nat.le_refl _) ?_
  exact ⟨rfl, rfl⟩
theorem x7_isLookedAt (w : WF C P S T H O g) (r : RX h C P S T H O g) {x : Nat} (hx : x < 2 ^ 31) : zD mX7_isLookedAt d [.ref 0, .int (nI x)] h (some (.int (if x % g = 0 then 1 else 0))) h := by
  obtain ⟨r0, -⟩ := id r
  obtain ⟨q0, -⟩ := id r0
  obtain ⟨wg1, wg2⟩ := w.2.2.2.2.2.2
  have hm := Nat.mod_lt x (show 0 < g by omega)
  refine zD_of (by decide +kernel) (by exact Nat.le_of_ble_eq_true rfl) ?_
  show zB mX7_isLookedAt _ _ _ 0 [some (.ref 0), some (.int (nI x))] [] _
  refine zj_aload_n dX7_isLookedAt_0 (by rfl) ?_
  refine zg_7_55 rfl dX7_isLookedAt_1 (by first | assumption | rfl) (by rfl) ?_
  refine zj_if_leN (tgt := 20) dX7_isLookedAt_4 (by decide) (by omega) (fun zq => absurd zq (by omega)) (fun _ => ?_)
  refine zj_iload_n dX7_isLookedAt_7 (by rfl) ?_
  refine zj_aload_n dX7_isLookedAt_8 (by rfl) ?_
  refine zg_7_55 rfl dX7_isLookedAt_9 (by first | assumption | rfl) (by rfl) ?_
  refine zj_iremN dX7_isLookedAt_12 (by omega) ?_
  refine zj_if_neN (tgt := 20) dX7_isLookedAt_13 (by decide) (by omega) (fun q13 => ?_) (fun q13 => ?_)
  · refine zj_iconst (v := nI 0) dX7_isLookedAt_20 (by decide) ?_
    refine zj_zret dX7_isLookedAt_21 rfl (by first | exact Or.inl rfl | exact Or.inr rfl) (Nat.le_refl _) (Nat.le_refl _) ?_
    exact ⟨by first | (rw [if_pos (by omega)]; rfl) | (rw [if_neg (by omega)]; rfl), rfl⟩
  · refine zj_iconst (v := nI 1) dX7_isLookedAt_16 (by decide) ?_
    refine zj_goto (tgt := 21) dX7_isLookedAt_17 (by decide) ?_
    refine zj_zret dX7_isLookedAt_21 rfl (by first | exact Or.inl rfl | exact Or.inr rfl) (Nat.le_refl _) (Nat.le_refl _) ?_
    exact ⟨by first | (rw [if_pos (by omega)]; rfl) | (rw [if_neg (by omega)]; rfl), rfl⟩
theorem x7_gapsFilling_l (w : WF C P S T H O g) (r : RX h C P S T H O g) {b a : Nat} {wv lv : Int32} (ha : 0 < a ∧ a < 3000) (hw : s_w b (2 * a) % 2 = 0) : ∀ m x, x % a = s_w b (2 * a) / 2 → x < 97 + a → 97 ≤ x + m → zB mX7_gapsFilling (d + 1) (some (.int (nI (s_cnt (s_p g b (2 * a)) 97)))) h 24 [some (.ref 0), some (.int wv), some (.int lv), some (.int (nI a)), some (.int (nI (s_cnt (s_p g b (2 * a)) x))), some (.int (nI x))] [] h := by
  obtain ⟨r0, -⟩ := id r
  obtain ⟨q0, -⟩ := id r0
  have hout : ∀ x, x % a = s_w b (2 * a) / 2 → x < 97 + a → ¬ x ≤ 96 → s_cnt (s_p g b (2 * a)) x = s_cnt (s_p g b (2 * a)) 97 := by
    intro x hx h1 h2
    have := s_cnt_no (p := s_p g b (2 * a)) (x := 97) (x - 97) (fun y y1 y2 => by
      cases hp : s_p g b (2 * a) y with
      | false => rfl
      | true => exact (s_mod_ne (x := y) (y := x) (a := a) (by omega) (by omega) (by rw [hx, (s_p_mod ha.1 hp).2])).elim)
    rw [show 97 + (x - 97) = x by omega] at this
    exact this
  intro m
  induction m with
  | zero =>
    intro x hx h1 h2
    have hc := s_cnt_le (p := s_p g b (2 * a)) x
    refine zj_iload dX7_gapsFilling_24 (by rfl) ?_
    refine zj_bipush (v := nI 96) dX7_gapsFilling_26 (by decide) ?_
    refine zj_icmp_gtN (tgt := 52) dX7_gapsFilling_28 (by decide) (by omega) (fun _ => ?_) (fun zq => absurd (by omega) zq)
    refine zj_iload dX7_gapsFilling_52 (by rfl) ?_
    refine zj_iret dX7_gapsFilling_54 rfl (Nat.le_refl _) (Nat.le_refl _) ?_
    exact ⟨by rw [hout x hx h1 (by omega)], rfl⟩
  | succ m ih =>
    intro x hx h1 h2
    by_cases hx96 : x ≤ 96
    · have hsk := s_cnt_skip (p := s_p g b (2 * a)) (x := x) (a := a) (by omega) (fun y y1 y2 => by
        cases hp : s_p g b (2 * a) y with
        | false => rfl
        | true => exact (s_mod_ne y1 y2 (by rw [hx, (s_p_mod ha.1 hp).2])).elim)
      have hpx := s_p_iff (g := g) ha.1 hw hx
      have hJ := ih (x + a) (by rw [s_mod_step ha.1]; exact hx) (by omega) (by omega)
      rw [hsk, hpx] at hJ
      simp only [decide_eq_true_eq] at hJ
      have hL := x7_isLookedAt (d := d) w r (show x < 2 ^ 31 by omega)
      by_cases hg : x % g = 0
      · rw [if_pos hg] at hJ hL
        refine zj_iload dX7_gapsFilling_24 (by rfl) ?_
        refine zj_bipush (v := nI 96) dX7_gapsFilling_26 (by decide) ?_
        refine zj_icmp_gtN (tgt := 52) dX7_gapsFilling_28 (by decide) (by omega) (fun zq => absurd zq (by omega)) (fun _ => ?_)
        refine zj_aload_n dX7_gapsFilling_31 (by rfl) ?_
        refine zj_iload dX7_gapsFilling_32 (by rfl) ?_
        refine zc_7_239 rfl dX7_gapsFilling_34 (by first | assumption | rfl) hL (by exact Nat.le_of_ble_eq_true rfl) ?_
        refine zj_if_eq (tgt := 43) dX7_gapsFilling_37 (by decide) (fun zq => absurd zq (by decide)) (fun _ => ?_)
        refine zj_iincN dX7_gapsFilling_40 (by rfl) (by decide) ?_
        refine zj_iload dX7_gapsFilling_43 (by rfl) ?_
        refine zj_iload_n dX7_gapsFilling_45 (by rfl) ?_
        refine zj_iaddN dX7_gapsFilling_46 ?_
        refine zj_istore dX7_gapsFilling_47 (by decide) ?_
        refine zj_goto (tgt := 24) dX7_gapsFilling_49 (by decide) ?_
        exact hJ
      · rw [if_neg hg] at hJ hL
        refine zj_iload dX7_gapsFilling_24 (by rfl) ?_
        refine zj_bipush (v := nI 96) dX7_gapsFilling_26 (by decide) ?_
        refine zj_icmp_gtN (tgt := 52) dX7_gapsFilling_28 (by decide) (by omega) (fun zq => absurd zq (by omega)) (fun _ => ?_)
        refine zj_aload_n dX7_gapsFilling_31 (by rfl) ?_
        refine zj_iload dX7_gapsFilling_32 (by rfl) ?_
        refine zc_7_239 rfl dX7_gapsFilling_34 (by first | assumption | rfl) hL (by exact Nat.le_of_ble_eq_true rfl) ?_
        refine zj_if_eq (tgt := 43) dX7_gapsFilling_37 (by decide) (fun _ => ?_) (fun zq => absurd (rfl) zq)
        refine zj_iload dX7_gapsFilling_43 (by rfl) ?_
        refine zj_iload_n dX7_gapsFilling_45 (by rfl) ?_
        refine zj_iaddN dX7_gapsFilling_46 ?_
        refine zj_istore dX7_gapsFilling_47 (by decide) ?_
        refine zj_goto (tgt := 24) dX7_gapsFilling_49 (by decide) ?_
        exact hJ
    · refine zj_iload dX7_gapsFilling_24 (by rfl) ?_
      refine zj_bipush (v := nI 96) dX7_gapsFilling_26 (by decide) ?_
      refine zj_icmp_gtN (tgt := 52) dX7_gapsFilling_28 (by decide) (by omega) (fun _ => ?_) (fun zq => absurd (by omega) zq)
      refine zj_iload dX7_gapsFilling_52 (by rfl) ?_
      refine zj_iret dX7_gapsFilling_54 rfl (Nat.le_refl _) (Nat.le_refl _) ?_
      exact ⟨by rw [hout x hx h1 (by omega)], rfl⟩
theorem x7_gapsFilling (w : WF C P S T H O g) (r : RX h C P S T H O g) {b a : Nat} (ha : 0 < a ∧ a < 3000) : zD mX7_gapsFilling (d + 1) [.ref 0, .int (nI (s_w b (2 * a))), .int (nI (2 * a))] h (some (.int (nI (s_cnt (s_p g b (2 * a)) 97)))) h := by
  have hlt := s_w_lt (b := b) (l := 2 * a) (by omega)
  have h2a : 2 * a / 2 = a := by omega
  refine zD_of (by decide +kernel) (by exact Nat.le_of_ble_eq_true rfl) ?_
  show zB mX7_gapsFilling _ _ _ 0 [some (.ref 0), some (.int (nI (s_w b (2 * a)))), some (.int (nI (2 * a))), none, none, none] [] _
  refine zj_iload_n dX7_gapsFilling_0 (by rfl) ?_
  refine zj_iconst (v := nI 2) dX7_gapsFilling_1 (by decide) ?_
  refine zj_idivN dX7_gapsFilling_2 (by omega) ?_
  rw [h2a]
  refine zj_istore_n dX7_gapsFilling_3 (by decide) ?_
  refine zj_iload_n dX7_gapsFilling_4 (by rfl) ?_
  refine zj_if_leN (tgt := 14) dX7_gapsFilling_5 (by decide) (by omega) (fun zq => absurd zq (by omega)) (fun _ => ?_)
  refine zj_iload_n dX7_gapsFilling_8 (by rfl) ?_
  refine zj_iconst (v := nI 2) dX7_gapsFilling_9 (by decide) ?_
  refine zj_iremN dX7_gapsFilling_10 (by omega) ?_
  refine zj_if_eqN (tgt := 16) dX7_gapsFilling_11 (by decide) (by omega) (fun q11 => ?_) (fun q11 => ?_)
  · refine zj_iconst (v := nI 0) dX7_gapsFilling_16 (by decide) ?_
    refine zj_istore dX7_gapsFilling_17 (by decide) ?_
    refine zj_iload_n dX7_gapsFilling_19 (by rfl) ?_
    refine zj_iconst (v := nI 2) dX7_gapsFilling_20 (by decide) ?_
    refine zj_idivN dX7_gapsFilling_21 (by omega) ?_
    refine zj_istore dX7_gapsFilling_22 (by decide) ?_
    have hz := s_cnt_no (p := s_p g b (2 * a)) (x := 0) (s_w b (2 * a) / 2) (fun y y1 y2 => by
      cases hp : s_p g b (2 * a) y with
      | false => rfl
      | true =>
        have h5 := (s_p_mod ha.1 hp).2
        rw [Nat.mod_eq_of_lt (by omega)] at h5
        omega)
    rw [Nat.zero_add] at hz
    have hJ := x7_gapsFilling_l (d := d) (wv := nI (s_w b (2 * a))) (lv := nI (2 * a)) w r ha q11 97 (s_w b (2 * a) / 2) (Nat.mod_eq_of_lt (by omega)) (by omega) (by omega)
    rw [hz] at hJ
    exact hJ
  · refine zj_iconst (v := nI 0) dX7_gapsFilling_14 (by decide) ?_
    refine zj_iret dX7_gapsFilling_15 rfl (Nat.le_refl _) (Nat.le_refl _) ?_
    refine ⟨?_, rfl⟩
    have := s_cnt_no (p := s_p g b (2 * a)) (x := 0) 97 (fun y y1 y2 => by
      cases hp : s_p g b (2 * a) y with
      | false => rfl
      | true => exact absurd (s_p_mod ha.1 hp).1 q11)
    rw [Nat.zero_add] at this
    rw [this]
    rfl
theorem s_nth_skip {p : Nat → Bool} {x a j : Nat} (ha : 1 ≤ a) (hp : ∀ y, x < y → y < x + a → p y = false) (hx : x ≤ 96) : s_nth p (97 - (x + 1)) (x + 1) j = s_nth p (97 - (x + a)) (x + a) j := by
  by_cases h : x + a ≤ 97
  · have := s_nth_no (p := p) (i := j) (a - 1) (97 - (x + a)) (x + 1) (fun y y1 y2 => hp y (by omega) (by omega))
    rw [show 97 - (x + a) + (a - 1) = 97 - (x + 1) by omega, show x + 1 + (a - 1) = x + a by omega] at this
    exact this
  · have := s_nth_no (p := p) (i := j) (97 - (x + 1)) 0 (x + 1) (fun y y1 y2 => hp y (by omega) (by omega))
    rw [Nat.zero_add] at this
    rw [this, show 97 - (x + a) = 0 by omega]
    rfl
theorem x7_gapFilling_l (w : WF C P S T H O g) (r : RX h C P S T H O g) {b a : Nat} {wv lv iv : Int32} (ha : 0 < a ∧ a < 3000) (hw : s_w b (2 * a) % 2 = 0) : ∀ m x i, x % a = s_w b (2 * a) / 2 → x < 97 + a → 97 ≤ x + m → i < 2 ^ 31 → zB mX7_gapFilling (d + 1) (some (.int (s_oN (s_nth (s_p g b (2 * a)) (97 - x) x i)))) h 27 [some (.ref 0), some (.int wv), some (.int lv), some (.int iv), some (.int (nI a)), some (.int (nI i)), some (.int (nI x))] [] h := by
  obtain ⟨r0, -⟩ := id r
  obtain ⟨q0, -⟩ := id r0
  intro m
  induction m with
  | zero =>
    intro x i hx h1 h2 hi
    rw [show 97 - x = 0 by omega]
    refine zj_iload dX7_gapFilling_27 (by rfl) ?_
    refine zj_bipush (v := nI 96) dX7_gapFilling_29 (by decide) ?_
    refine zj_icmp_gtN (tgt := 64) dX7_gapFilling_31 (by decide) (by omega) (fun _ => ?_) (fun zq => absurd (by omega) zq)
    refine zj_ldc (v := -1000000005) dX7_gapFilling_64 zq_387 ?_
    refine zj_iret dX7_gapFilling_66 rfl (Nat.le_refl _) (Nat.le_refl _) ?_
    exact ⟨rfl, rfl⟩
  | succ m ih =>
    intro x i hx h1 h2 hi
    by_cases hx96 : x ≤ 96
    · have hsk := fun j => s_nth_skip (p := s_p g b (2 * a)) (x := x) (a := a) (j := j) (by omega) (fun y y1 y2 => by
        cases hp : s_p g b (2 * a) y with
        | false => rfl
        | true => exact (s_mod_ne y1 y2 (by rw [hx, (s_p_mod ha.1 hp).2])).elim) hx96
      have hpx := s_p_iff (g := g) ha.1 hw hx
      have hL := x7_isLookedAt (d := d) w r (show x < 2 ^ 31 by omega)
      have e97 : s_nth (s_p g b (2 * a)) (97 - x) x i = if s_p g b (2 * a) x = true then (if i = 0 then some x else s_nth (s_p g b (2 * a)) (97 - (x + 1)) (x + 1) (i - 1)) else s_nth (s_p g b (2 * a)) (97 - (x + 1)) (x + 1) i := by
        rw [show 97 - x = (97 - (x + 1)) + 1 by omega]
        rfl
      rw [e97, hsk, hsk, hpx]
      simp only [decide_eq_true_eq]
      by_cases hg : x % g = 0
      · rw [if_pos hg] at hL ⊢
        by_cases hi0 : i = 0
        · rw [if_pos hi0]
          refine zj_iload dX7_gapFilling_27 (by rfl) ?_
          refine zj_bipush (v := nI 96) dX7_gapFilling_29 (by decide) ?_
          refine zj_icmp_gtN (tgt := 64) dX7_gapFilling_31 (by decide) (by omega) (fun zq => absurd zq (by omega)) (fun _ => ?_)
          refine zj_aload_n dX7_gapFilling_34 (by rfl) ?_
          refine zj_iload dX7_gapFilling_35 (by rfl) ?_
          refine zc_7_239 rfl dX7_gapFilling_37 (by first | assumption | rfl) hL (by exact Nat.le_of_ble_eq_true rfl) ?_
          refine zj_if_eq (tgt := 54) dX7_gapFilling_40 (by decide) (fun zq => absurd zq (by decide)) (fun _ => ?_)
          refine zj_iload dX7_gapFilling_43 (by rfl) ?_
          refine zj_if_neN (tgt := 51) dX7_gapFilling_45 (by decide) (by omega) (fun zq => absurd (hi0) zq) (fun _ => ?_)
          refine zj_iload dX7_gapFilling_48 (by rfl) ?_
          refine zj_iret dX7_gapFilling_50 rfl (Nat.le_refl _) (Nat.le_refl _) ?_
          exact ⟨rfl, rfl⟩
        · rw [if_neg hi0]
          obtain ⟨i1, rfl⟩ : ∃ i1, i = i1 + 1 := ⟨i - 1, by omega⟩
          have hJ := ih (x + a) i1 (by rw [s_mod_step ha.1]; exact hx) (by omega) (by omega) (by omega)
          rw [Nat.add_sub_cancel]
          refine zj_iload dX7_gapFilling_27 (by rfl) ?_
          refine zj_bipush (v := nI 96) dX7_gapFilling_29 (by decide) ?_
          refine zj_icmp_gtN (tgt := 64) dX7_gapFilling_31 (by decide) (by omega) (fun zq => absurd zq (by omega)) (fun _ => ?_)
          refine zj_aload_n dX7_gapFilling_34 (by rfl) ?_
          refine zj_iload dX7_gapFilling_35 (by rfl) ?_
          refine zc_7_239 rfl dX7_gapFilling_37 (by first | assumption | rfl) hL (by exact Nat.le_of_ble_eq_true rfl) ?_
          refine zj_if_eq (tgt := 54) dX7_gapFilling_40 (by decide) (fun zq => absurd zq (by decide)) (fun _ => ?_)
          refine zj_iload dX7_gapFilling_43 (by rfl) ?_
          refine zj_if_neN (tgt := 51) dX7_gapFilling_45 (by decide) (by omega) (fun _ => ?_) (fun zq => absurd zq (hi0))
          refine zj_iincNm dX7_gapFilling_51 (by rfl) (by decide) ?_
          refine zj_iload dX7_gapFilling_54 (by rfl) ?_
          refine zj_iload dX7_gapFilling_56 (by rfl) ?_
          refine zj_iaddN dX7_gapFilling_58 ?_
          refine zj_istore dX7_gapFilling_59 (by decide) ?_
          refine zj_goto (tgt := 27) dX7_gapFilling_61 (by decide) ?_
          exact hJ
      · rw [if_neg hg] at hL ⊢
        have hJ := ih (x + a) i (by rw [s_mod_step ha.1]; exact hx) (by omega) (by omega) (by omega)
        refine zj_iload dX7_gapFilling_27 (by rfl) ?_
        refine zj_bipush (v := nI 96) dX7_gapFilling_29 (by decide) ?_
        refine zj_icmp_gtN (tgt := 64) dX7_gapFilling_31 (by decide) (by omega) (fun zq => absurd zq (by omega)) (fun _ => ?_)
        refine zj_aload_n dX7_gapFilling_34 (by rfl) ?_
        refine zj_iload dX7_gapFilling_35 (by rfl) ?_
        refine zc_7_239 rfl dX7_gapFilling_37 (by first | assumption | rfl) hL (by exact Nat.le_of_ble_eq_true rfl) ?_
        refine zj_if_eq (tgt := 54) dX7_gapFilling_40 (by decide) (fun _ => ?_) (fun zq => absurd (rfl) zq)
        refine zj_iload dX7_gapFilling_54 (by rfl) ?_
        refine zj_iload dX7_gapFilling_56 (by rfl) ?_
        refine zj_iaddN dX7_gapFilling_58 ?_
        refine zj_istore dX7_gapFilling_59 (by decide) ?_
        refine zj_goto (tgt := 27) dX7_gapFilling_61 (by decide) ?_
        exact hJ
    · rw [show 97 - x = 0 by omega]
      refine zj_iload dX7_gapFilling_27 (by rfl) ?_
      refine zj_bipush (v := nI 96) dX7_gapFilling_29 (by decide) ?_
      refine zj_icmp_gtN (tgt := 64) dX7_gapFilling_31 (by decide) (by omega) (fun _ => ?_) (fun zq => absurd (by omega) zq)
      refine zj_ldc (v := -1000000005) dX7_gapFilling_64 zq_387 ?_
      refine zj_iret dX7_gapFilling_66 rfl (Nat.le_refl _) (Nat.le_refl _) ?_
      exact ⟨rfl, rfl⟩
theorem x7_gapFilling (w : WF C P S T H O g) (r : RX h C P S T H O g) {b a i : Nat} (ha : 0 < a ∧ a < 3000) (hi : i < 2 ^ 31) : zD mX7_gapFilling (d + 1) [.ref 0, .int (nI (s_w b (2 * a))), .int (nI (2 * a)), .int (nI i)] h (some (.int (s_oN (s_nth (s_p g b (2 * a)) 97 0 i)))) h := by
  have hlt := s_w_lt (b := b) (l := 2 * a) (by omega)
  have h2a : 2 * a / 2 = a := by omega
  refine zD_of (by decide +kernel) (by exact Nat.le_of_ble_eq_true rfl) ?_
  show zB mX7_gapFilling _ _ _ 0 [some (.ref 0), some (.int (nI (s_w b (2 * a)))), some (.int (nI (2 * a))), some (.int (nI i)), none, none, none] [] _
  refine zj_iload_n dX7_gapFilling_0 (by rfl) ?_
  refine zj_iconst (v := nI 2) dX7_gapFilling_1 (by decide) ?_
  refine zj_idivN dX7_gapFilling_2 (by omega) ?_
  rw [h2a]
  refine zj_istore dX7_gapFilling_3 (by decide) ?_
  refine zj_iload dX7_gapFilling_5 (by rfl) ?_
  refine zj_if_leN (tgt := 16) dX7_gapFilling_7 (by decide) (by omega) (fun zq => absurd zq (by omega)) (fun _ => ?_)
  refine zj_iload_n dX7_gapFilling_10 (by rfl) ?_
  refine zj_iconst (v := nI 2) dX7_gapFilling_11 (by decide) ?_
  refine zj_iremN dX7_gapFilling_12 (by omega) ?_
  refine zj_if_eqN (tgt := 19) dX7_gapFilling_13 (by decide) (by omega) (fun q13 => ?_) (fun q13 => ?_)
  · refine zj_iload_n dX7_gapFilling_19 (by rfl) ?_
    refine zj_istore dX7_gapFilling_20 (by decide) ?_
    refine zj_iload_n dX7_gapFilling_22 (by rfl) ?_
    refine zj_iconst (v := nI 2) dX7_gapFilling_23 (by decide) ?_
    refine zj_idivN dX7_gapFilling_24 (by omega) ?_
    refine zj_istore dX7_gapFilling_25 (by decide) ?_
    have hz : s_nth (s_p g b (2 * a)) 97 0 i = s_nth (s_p g b (2 * a)) (97 - s_w b (2 * a) / 2) (s_w b (2 * a) / 2) i := by
      have hfalse : ∀ y, y < s_w b (2 * a) / 2 → s_p g b (2 * a) y = false := fun y y2 => by
        cases hp : s_p g b (2 * a) y with
        | false => rfl
        | true =>
          have h5 := (s_p_mod ha.1 hp).2
          rw [Nat.mod_eq_of_lt (by omega)] at h5
          omega
      by_cases h97 : s_w b (2 * a) / 2 ≤ 97
      · have := s_nth_no (p := s_p g b (2 * a)) (i := i) (s_w b (2 * a) / 2) (97 - s_w b (2 * a) / 2) 0 (fun y y1 y2 => hfalse y (by omega))
        rw [show 97 - s_w b (2 * a) / 2 + s_w b (2 * a) / 2 = 97 by omega, Nat.zero_add] at this
        exact this
      · have := s_nth_no (p := s_p g b (2 * a)) (i := i) 97 0 0 (fun y y1 y2 => hfalse y (by omega))
        rw [Nat.zero_add] at this
        rw [this, show 97 - s_w b (2 * a) / 2 = 0 by omega]
        rfl
    rw [hz]
    exact x7_gapFilling_l (d := d) (wv := nI (s_w b (2 * a))) (lv := nI (2 * a)) (iv := nI i) w r ha q13 97 (s_w b (2 * a) / 2) i (Nat.mod_eq_of_lt (by omega)) (by omega) (by omega) hi
  · refine zj_ldc (v := -1000000005) dX7_gapFilling_16 zq_387 ?_
    refine zj_iret dX7_gapFilling_18 rfl (Nat.le_refl _) (Nat.le_refl _) ?_
    refine ⟨?_, rfl⟩
    have := s_nth_no (p := s_p g b (2 * a)) (i := i) 97 0 0 (fun y y1 y2 => by
      cases hp : s_p g b (2 * a) y with
      | false => rfl
      | true => exact absurd (s_p_mod ha.1 hp).1 q13)
    rw [Nat.zero_add] at this
    rw [this]
    rfl
/-- the ticks said, from tick t on, k times, by how v -/
def s_base (n t v k : Nat) : Nat := t + (k * n - v % 10) * s_tpo (nI (v / 10))
theorem x7_wantingIn (w : WF C P S T H O g) (r : RX h C P S T H O g) {c p v t k : Nat} (hc : c < 4) (hp : p < 6) (hv : v < 2 ^ 31) (hv1 : v % 10 ≤ 1) (ht : t < 2 ^ 31) (hk : 1 ≤ k ∧ k ≤ 9) (hcl : ¬ (C c).length = 0) (hpl : ¬ (P p).length = 0) : zD mX7_wantingIn (d + 2) [.ref 0, .int (nI c), .int (nI p), .int (nI v), .int (nI t), .int (nI k)] h (some (.int (nI (s_w (s_base (P p).length t v k) (s_cl C c))))) h := by
  obtain ⟨r0, -, rp, -⟩ := id r
  obtain ⟨q0, -⟩ := id r0
  obtain ⟨p0, -⟩ := rp p hp
  have hL := s_cl_pos w.1 hc hcl
  have hLe := s_cl_le w.1 hc
  have hn := (w.2.1 p hp).1
  have hle := s_tpo_le (nI (v / 10))
  have hkn : 1 * 1 ≤ k * (P p).length := Nat.mul_le_mul hk.1 (by omega)
  have hkn2 : k * (P p).length ≤ 9 * 60 := Nat.mul_le_mul hk.2 hn
  have hq : (k * (P p).length - v % 10) * s_tpo (nI (v / 10)) ≤ 540 * 24 := Nat.mul_le_mul (by omega) hle
  have hm := Nat.mod_lt t hL
  have hz : (-((t % s_cl C c : Nat) : Int) - (((k * (P p).length - v % 10) * s_tpo (nI (v / 10)) : Nat) : Int) + ((s_base (P p).length t v k : Nat) : Int)) % ((s_cl C c : Nat) : Int) = 0 := by
    have e1 : (-((t % s_cl C c : Nat) : Int) - (((k * (P p).length - v % 10) * s_tpo (nI (v / 10)) : Nat) : Int) + ((s_base (P p).length t v k : Nat) : Int)) = ((s_cl C c * (t / s_cl C c) : Nat) : Int) := by
      have := Nat.div_add_mod t (s_cl C c)
      unfold s_base
      omega
    rw [e1]
    push_cast
    exact Int.mul_emod_right _ _
  have hw := s_w_int hL hz
  refine zD_of (by decide +kernel) (by exact Nat.le_of_ble_eq_true rfl) ?_
  show zB mX7_wantingIn _ _ _ 0 [some (.ref 0), some (.int (nI c)), some (.int (nI p)), some (.int (nI v)), some (.int (nI t)), some (.int (nI k)), none, none, none, none] [] _
  refine zj_aload_n dX7_wantingIn_0 (by rfl) ?_
  refine zj_iload_n dX7_wantingIn_1 (by rfl) ?_
  refine zc_7_121 rfl dX7_wantingIn_2 (by first | assumption | rfl) (x7_lengthOf w r hc) (by exact Nat.le_of_ble_eq_true rfl) ?_
  refine zj_istore dX7_wantingIn_5 (by decide) ?_
  refine zj_aload_n dX7_wantingIn_7 (by rfl) ?_
  refine zj_iload_n dX7_wantingIn_8 (by rfl) ?_
  refine zc_7_99 rfl dX7_wantingIn_9 (by first | assumption | rfl) (x7_phraseAt r0 hp) (by exact Nat.le_of_ble_eq_true rfl) ?_
  refine zj_astore dX7_wantingIn_12 (by decide) ?_
  refine zj_iload dX7_wantingIn_14 (by rfl) ?_
  refine zj_if_leN (tgt := 24) dX7_wantingIn_16 (by decide) (by omega) (fun zq => absurd zq (by omega)) (fun _ => ?_)
  refine zj_aload dX7_wantingIn_19 (by rfl) ?_
  refine zj_ifnonnull (tgt := 26) dX7_wantingIn_21 (by decide) ?_
  refine zj_iload_n dX7_wantingIn_26 (by rfl) ?_
  refine zj_bipush (v := nI 10) dX7_wantingIn_27 (by decide) ?_
  refine zj_iremN dX7_wantingIn_29 (by omega) ?_
  refine zj_istore dX7_wantingIn_30 (by decide) ?_
  refine zj_iload dX7_wantingIn_32 (by rfl) ?_
  refine zj_aload dX7_wantingIn_34 (by rfl) ?_
  refine zg_7_113 rfl dX7_wantingIn_36 (by first | assumption | rfl) (by rfl) ?_
  refine zj_imulN dX7_wantingIn_39 ?_
  refine zj_iload dX7_wantingIn_40 (by rfl) ?_
  refine zj_isubN dX7_wantingIn_42 (by omega) ?_
  refine zj_istore dX7_wantingIn_43 (by decide) ?_
  refine zj_iload dX7_wantingIn_45 (by rfl) ?_
  refine zj_iload dX7_wantingIn_47 (by rfl) ?_
  refine zj_iremN dX7_wantingIn_49 (by omega) ?_
  refine zj_ineg dX7_wantingIn_50 ?_
  refine zj_iload dX7_wantingIn_51 (by rfl) ?_
  refine zj_iload_n dX7_wantingIn_53 (by rfl) ?_
  refine zj_bipush (v := nI 10) dX7_wantingIn_54 (by decide) ?_
  refine zj_idivN dX7_wantingIn_56 (by omega) ?_
  refine zc_7_110 rfl dX7_wantingIn_57 (x7_ticksOfOne _) (by exact Nat.le_of_ble_eq_true rfl) ?_
  refine zj_imulN dX7_wantingIn_60 ?_
  refine zj_isub dX7_wantingIn_61 ?_
  rw [nI_iI (t % s_cl C c), nI_iI ((k * (P p).length - v % 10) * s_tpo (nI (v / 10))), iI_neg, iI_sub]
  refine zj_iload dX7_wantingIn_62 (by rfl) ?_
  refine zc_7_195 rfl dX7_wantingIn_64 (j9_floorMod (by omega) (by omega)) (by exact Nat.le_of_ble_eq_true rfl) ?_
  refine zj_iret dX7_wantingIn_67 rfl (Nat.le_refl _) (Nat.le_refl _) ?_
  exact ⟨by rw [hw], rfl⟩
end CL
