/-! CountBook$Cycle -/
section X0
variable {d k a b : Nat} {h : zH} {f g : Nat → Int32} {n : Nat}
theorem x0_isKind (kd : Int32) : zD mX0_isKind d [.int kd] h (some (.int (if kd < 0 then 0 else if 3 < kd then 0 else 1))) h := by
  refine zD_of (by decide +kernel) (by exact Nat.le_of_ble_eq_true rfl) ?_
  show zB mX0_isKind _ _ _ 0 [some (.int kd)] [] _
  refine zj_iload_n dX0_isKind_0 (by rfl) ?_
  refine zj_if_lt (tgt := 13) dX0_isKind_1 (by decide) (fun q1 => ?_) (fun q1 => ?_)
  · refine zj_iconst (v := 0) dX0_isKind_13 (by decide) ?_
    refine zj_zret dX0_isKind_14 rfl (by first | exact Or.inl rfl | exact Or.inr rfl) (Nat.le_refl _) (Nat.le_refl _) ?_
    exact ⟨by first | rfl | (simp [*]; done) | (simp_all; done), rfl⟩
  · refine zj_iload_n dX0_isKind_4 (by rfl) ?_
    refine zj_iconst (v := 3) dX0_isKind_5 (by decide) ?_
    refine zj_icmp_gt (tgt := 13) dX0_isKind_6 (by decide) (fun q6 => ?_) (fun q6 => ?_)
    · refine zj_iconst (v := 0) dX0_isKind_13 (by decide) ?_
      refine zj_zret dX0_isKind_14 rfl (by first | exact Or.inl rfl | exact Or.inr rfl) (Nat.le_refl _) (Nat.le_refl _) ?_
      exact ⟨by first | rfl | (simp [*]; done) | (simp_all; done), rfl⟩
    · refine zj_iconst (v := 1) dX0_isKind_9 (by decide) ?_
      refine zj_goto (tgt := 14) dX0_isKind_10 (by decide) ?_
      refine zj_zret dX0_isKind_14 rfl (by first | exact Or.inl rfl | exact Or.inr rfl) (Nat.le_refl _) (Nat.le_refl _) ?_
      exact ⟨by first | rfl | (simp [*]; done) | (simp_all; done), rfl⟩
def s_isUnder (x y : Int32) : Int32 := if x = y then 1 else if y = 0 then 1 else if x = 3 then (if y = 1 then 1 else 0) else 0
theorem x0_isUnder (x y : Int32) : zD mX0_isUnder d [.int x, .int y] h (some (.int (s_isUnder x y))) h := by
  unfold s_isUnder
  refine zD_of (by decide +kernel) (by exact Nat.le_of_ble_eq_true rfl) ?_
  show zB mX0_isUnder _ _ _ 0 [some (.int x), some (.int y)] [] _
  refine zj_iload_n dX0_isUnder_0 (by rfl) ?_
  refine zj_iload_n dX0_isUnder_1 (by rfl) ?_
  refine zj_icmp_eq (tgt := 19) dX0_isUnder_2 (by decide) (fun q2 => ?_) (fun q2 => ?_)
  · refine zj_iconst (v := 1) dX0_isUnder_19 (by decide) ?_
    refine zj_goto (tgt := 24) dX0_isUnder_20 (by decide) ?_
    refine zj_zret dX0_isUnder_24 rfl (by first | exact Or.inl rfl | exact Or.inr rfl) (Nat.le_refl _) (Nat.le_refl _) ?_
    exact ⟨by first | rfl | (simp [*]; done) | (simp_all; done), rfl⟩
  · refine zj_iload_n dX0_isUnder_5 (by rfl) ?_
    refine zj_if_eq (tgt := 19) dX0_isUnder_6 (by decide) (fun q6 => ?_) (fun q6 => ?_)
    · refine zj_iconst (v := 1) dX0_isUnder_19 (by decide) ?_
      refine zj_goto (tgt := 24) dX0_isUnder_20 (by decide) ?_
      refine zj_zret dX0_isUnder_24 rfl (by first | exact Or.inl rfl | exact Or.inr rfl) (Nat.le_refl _) (Nat.le_refl _) ?_
      exact ⟨by first | rfl | (simp [*]; done) | (simp_all; done), rfl⟩
    · refine zj_iload_n dX0_isUnder_9 (by rfl) ?_
      refine zj_iconst (v := 3) dX0_isUnder_10 (by decide) ?_
      refine zj_icmp_ne (tgt := 23) dX0_isUnder_11 (by decide) (fun q11 => ?_) (fun q11 => ?_)
      · refine zj_iconst (v := 0) dX0_isUnder_23 (by decide) ?_
        refine zj_zret dX0_isUnder_24 rfl (by first | exact Or.inl rfl | exact Or.inr rfl) (Nat.le_refl _) (Nat.le_refl _) ?_
        exact ⟨by first | rfl | (simp [*]; done) | (simp_all; done), rfl⟩
      · refine zj_iload_n dX0_isUnder_14 (by rfl) ?_
        refine zj_iconst (v := 1) dX0_isUnder_15 (by decide) ?_
        refine zj_icmp_ne (tgt := 23) dX0_isUnder_16 (by decide) (fun q16 => ?_) (fun q16 => ?_)
        · refine zj_iconst (v := 0) dX0_isUnder_23 (by decide) ?_
          refine zj_zret dX0_isUnder_24 rfl (by first | exact Or.inl rfl | exact Or.inr rfl) (Nat.le_refl _) (Nat.le_refl _) ?_
          exact ⟨by first | rfl | (simp [*]; done) | (simp_all; done), rfl⟩
        · refine zj_iconst (v := 1) dX0_isUnder_19 (by decide) ?_
          refine zj_goto (tgt := 24) dX0_isUnder_20 (by decide) ?_
          refine zj_zret dX0_isUnder_24 rfl (by first | exact Or.inl rfl | exact Or.inr rfl) (Nat.le_refl _) (Nat.le_refl _) ?_
          exact ⟨by first | rfl | (simp [*]; done) | (simp_all; done), rfl⟩
/-- the heap behind take -/
def x0_put (h : zH) (k a b n : Nat) (f g : Nat → Int32) (x y : Int32) : zH := ((h.set a (.inl (1, 12, .inl (upd f n x)))).set b (.inl (1, 12, .inl (upd g n y)))).set k (.inr (0, [.ref a, .ref b, .int (nI (n + 1))]))
theorem x0_takeF (x y : Int32) (hk : h[k]? = some (.inr (0, [.ref a, .ref b, .int (nI 12)]))) : zD mX0_take d [.ref k, .int x, .int y] h (some (.int (-1000000003))) h := by
  refine zD_of (by decide +kernel) (by exact Nat.le_of_ble_eq_true rfl) ?_
  show zB mX0_take _ _ _ 0 [some (.ref k), some (.int x), some (.int y)] [] _
  refine zj_aload_n dX0_take_0 (by rfl) ?_
  refine zg_0_18 rfl dX0_take_1 (by first | assumption | rfl) (by rfl) ?_
  refine zj_bipush (v := nI 12) dX0_take_4 (by decide) ?_
  refine zj_icmp_ltN (tgt := 12) dX0_take_6 (by decide) (by omega) (fun zq => absurd zq (by omega)) (fun _ => ?_)
  refine zj_ldc (v := -1000000003) dX0_take_9 zq_231 ?_
  refine zj_iret dX0_take_11 rfl (Nat.le_refl _) (Nat.le_refl _) ?_
  exact ⟨by first | rfl | (simp [*]; done) | (simp_all; done), rfl⟩
theorem x0_take (x y : Int32) (hk : h[k]? = some (.inr (0, [.ref a, .ref b, .int (nI n)]))) (ha : h[a]? = some (.inl (1, 12, .inl f))) (hb : h[b]? = some (.inl (1, 12, .inl g))) (hab : ¬ a = b) (hak : ¬ a = k) (hbk : ¬ b = k) (hn : n < 12) : zD mX0_take d [.ref k, .int x, .int y] h (some (.int (nI (n + 1)))) (x0_put h k a b n f g x y) := by
  refine zD_of (by decide +kernel) (by exact Nat.le_of_ble_eq_true rfl) ?_
  show zB mX0_take _ _ _ 0 [some (.ref k), some (.int x), some (.int y)] [] _
  refine zj_aload_n dX0_take_0 (by rfl) ?_
  refine zg_0_18 rfl dX0_take_1 (by first | assumption | rfl) (by rfl) ?_
  refine zj_bipush (v := nI 12) dX0_take_4 (by decide) ?_
  refine zj_icmp_ltN (tgt := 12) dX0_take_6 (by decide) (by omega) (fun _ => ?_) (fun zq => absurd (hn) zq)
  refine zj_aload_n dX0_take_12 (by rfl) ?_
  refine zg_0_11 rfl dX0_take_13 (by first | assumption | rfl) (by rfl) ?_
  refine zj_aload_n dX0_take_16 (by rfl) ?_
  refine zg_0_18 rfl dX0_take_17 (by first | assumption | rfl) (by rfl) ?_
  refine zj_iload_n dX0_take_20 (by rfl) ?_
  refine zj_iastN dX0_take_21 (by first | assumption | rfl) (by omega) ?_
  have hk1 := zset_ne (c := .inl (1, 12, .inl (upd f n x))) hak hk
  have hb1 := zset_ne (c := .inl (1, 12, .inl (upd f n x))) hab hb
  refine zj_aload_n dX0_take_22 (by rfl) ?_
  refine zg_0_15 rfl dX0_take_23 (by first | assumption | rfl) (by rfl) ?_
  refine zj_aload_n dX0_take_26 (by rfl) ?_
  refine zg_0_18 rfl dX0_take_27 (by first | assumption | rfl) (by rfl) ?_
  refine zj_iload_n dX0_take_30 (by rfl) ?_
  refine zj_iastN dX0_take_31 (by first | assumption | rfl) (by omega) ?_
  have hk2 := zset_ne (c := .inl (1, 12, .inl (upd g n y))) hbk hk1
  refine zj_aload_n dX0_take_32 (by rfl) ?_
  refine zj_dup dX0_take_33 rfl ?_
  refine zg_0_18 rfl dX0_take_34 (by first | assumption | rfl) (by rfl) ?_
  refine zj_iconst (v := nI 1) dX0_take_37 (by decide) ?_
  refine zj_iaddN dX0_take_38 ?_
  refine zp_0_18 rfl dX0_take_39 (by first | assumption | rfl) (by exact Nat.le_of_ble_eq_true rfl) ?_
  have hk3 := zset_eq (c := .inr (0, [.ref a, .ref b, .int (nI (n + 1))])) hk2
  refine zj_aload_n dX0_take_42 (by rfl) ?_
  refine zg_0_18 rfl dX0_take_43 (by first | assumption | rfl) (by rfl) ?_
  refine zj_iret dX0_take_46 rfl (Nat.le_refl _) (Nat.le_refl _) ?_
  exact ⟨rfl, rfl⟩
theorem z01 {s : Int32} (h : s = 0 ∨ s = 1) (q : ¬ s = 0) : s = 1 := h.resolve_left q
theorem s_isUnder_01 (x y : Int32) : s_isUnder x y = 0 ∨ s_isUnder x y = 1 := by
  unfold s_isUnder
  split
  · exact Or.inr rfl
  · split
    · exact Or.inr rfl
    · split
      · split
        · exact Or.inr rfl
        · exact Or.inl rfl
      · exact Or.inl rfl
theorem x0_limbIs (i : Nat) (y : Int32) (hk : h[k]? = some (.inr (0, [.ref a, .ref b, .int (nI n)]))) (ha : h[a]? = some (.inl (1, 12, .inl f))) (hn : n ≤ 12) (hi : i < n) : zD mX0_limbIs (d + 1) [.ref k, .int (nI i), .int y] h (some (.int (s_isUnder (f i) y))) h := by
  refine zD_of (by decide +kernel) (by exact Nat.le_of_ble_eq_true rfl) ?_
  show zB mX0_limbIs _ _ _ 0 [some (.ref k), some (.int (nI i)), some (.int y)] [] _
  refine zj_iload_n dX0_limbIs_0 (by rfl) ?_
  refine zj_if_ltN (tgt := 29) dX0_limbIs_1 (by decide) (by omega) ?_
  refine zj_iload_n dX0_limbIs_4 (by rfl) ?_
  refine zj_aload_n dX0_limbIs_5 (by rfl) ?_
  refine zg_0_18 rfl dX0_limbIs_6 (by first | assumption | rfl) (by rfl) ?_
  refine zj_icmp_geN (tgt := 29) dX0_limbIs_9 (by decide) (by omega) (fun zq => absurd zq (by omega)) (fun _ => ?_)
  refine zj_aload_n dX0_limbIs_12 (by rfl) ?_
  refine zg_0_11 rfl dX0_limbIs_13 (by first | assumption | rfl) (by rfl) ?_
  refine zj_iload_n dX0_limbIs_16 (by rfl) ?_
  refine zj_ialdN dX0_limbIs_17 (by first | assumption | rfl) (by omega) ?_
  refine zj_iload_n dX0_limbIs_18 (by rfl) ?_
  refine zc_0_23 rfl dX0_limbIs_19 (x0_isUnder _ _) (by exact Nat.le_of_ble_eq_true rfl) ?_
  refine zj_if_eq (tgt := 29) dX0_limbIs_22 (by decide) (fun q22 => ?_) (fun q22 => ?_)
  · refine zj_iconst (v := nI 0) dX0_limbIs_29 (by decide) ?_
    refine zj_zret dX0_limbIs_30 rfl (by first | exact Or.inl rfl | exact Or.inr rfl) (Nat.le_refl _) (Nat.le_refl _) ?_
    exact ⟨by first | (rw [q22]; rfl) | (rw [z01 (s_isUnder_01 _ _) q22]; rfl), rfl⟩
  · refine zj_iconst (v := nI 1) dX0_limbIs_25 (by decide) ?_
    refine zj_goto (tgt := 30) dX0_limbIs_26 (by decide) ?_
    refine zj_zret dX0_limbIs_30 rfl (by first | exact Or.inl rfl | exact Or.inr rfl) (Nat.le_refl _) (Nat.le_refl _) ?_
    exact ⟨by first | (rw [q22]; rfl) | (rw [z01 (s_isUnder_01 _ _) q22]; rfl), rfl⟩
/-- the ticks of the first limbs -/
def s_sum (hv : Nat → Nat) : Nat → Nat
  | 0 => 0
  | i + 1 => s_sum hv i + hv i * 12
theorem s_sum_le {hv : Nat → Nat} : ∀ (n : Nat), (∀ j, j < n → hv j ≤ 18) → s_sum hv n ≤ 216 * n
  | 0, _ => Nat.le_refl _
  | n + 1, h => by
    have h1 := s_sum_le n (fun j hj => h j (by omega))
    have h2 := h n (by omega)
    show s_sum hv n + hv n * 12 ≤ _
    omega
theorem s_sum_pos {hv : Nat → Nat} {n : Nat} (hn : 0 < n) (h : ∀ j, j < n → 1 ≤ hv j) : 0 < s_sum hv n := by
  cases n with
  | zero => omega
  | succ n =>
    have h2 := h n (by omega)
    show 0 < s_sum hv n + hv n * 12
    omega
theorem s_sum_even {hv : Nat → Nat} : ∀ (n : Nat), s_sum hv n % 12 = 0
  | 0 => rfl
  | n + 1 => by
    have h1 := s_sum_even (hv := hv) n
    show (s_sum hv n + hv n * 12) % 12 = 0
    omega
theorem s_sum_mono {hv : Nat → Nat} {i : Nat} : ∀ (m : Nat), s_sum hv i ≤ s_sum hv (i + m)
  | 0 => Nat.le_refl _
  | m + 1 => Nat.le_trans (s_sum_mono m) (Nat.le_add_right _ _)
theorem x0_allTicks_l {hv : Nat → Nat} (hk : h[k]? = some (.inr (0, [.ref a, .ref b, .int (nI n)]))) (hb : h[b]? = some (.inl (1, 12, .inl g))) (hn : n ≤ 12) (hg : ∀ j, j < n → g j = nI (hv j)) : ∀ m i, i + m = n → zB mX0_allTicks d (some (.int (nI (s_sum hv n)))) h 4 [some (.ref k), some (.int (nI (s_sum hv i))), some (.int (nI i))] [] h := by
  intro m
  induction m with
  | zero =>
    intro i hi
    refine zj_iload_n dX0_allTicks_4 (by rfl) ?_
    refine zj_aload_n dX0_allTicks_5 (by rfl) ?_
    refine zg_0_18 rfl dX0_allTicks_6 (by first | assumption | rfl) (by rfl) ?_
    refine zj_icmp_geN (tgt := 30) dX0_allTicks_9 (by decide) (by omega) (fun _ => ?_) (fun zq => absurd (by omega) zq)
    refine zj_iload_n dX0_allTicks_30 (by rfl) ?_
    refine zj_iret dX0_allTicks_31 rfl (Nat.le_refl _) (Nat.le_refl _) ?_
    exact ⟨by rw [show i = n by omega], rfl⟩
  | succ m ih =>
    intro i hi
    refine zj_iload_n dX0_allTicks_4 (by rfl) ?_
    refine zj_aload_n dX0_allTicks_5 (by rfl) ?_
    refine zg_0_18 rfl dX0_allTicks_6 (by first | assumption | rfl) (by rfl) ?_
    refine zj_icmp_geN (tgt := 30) dX0_allTicks_9 (by decide) (by omega) (fun zq => absurd zq (by omega)) (fun _ => ?_)
    refine zj_iload_n dX0_allTicks_12 (by rfl) ?_
    refine zj_aload_n dX0_allTicks_13 (by rfl) ?_
    refine zg_0_15 rfl dX0_allTicks_14 (by first | assumption | rfl) (by rfl) ?_
    refine zj_iload_n dX0_allTicks_17 (by rfl) ?_
    refine zj_ialdN dX0_allTicks_18 (by first | assumption | rfl) (by omega) ?_
    rw [hg _ (by omega)]
    refine zj_bipush (v := nI 12) dX0_allTicks_19 (by decide) ?_
    refine zj_imulN dX0_allTicks_21 ?_
    refine zj_iaddN dX0_allTicks_22 ?_
    refine zj_istore_n dX0_allTicks_23 (by decide) ?_
    refine zj_iincN dX0_allTicks_24 (by rfl) (by decide) ?_
    refine zj_goto (tgt := 4) dX0_allTicks_27 (by decide) ?_
    exact ih (i + 1) (by omega)
theorem x0_allTicks {hv : Nat → Nat} (hk : h[k]? = some (.inr (0, [.ref a, .ref b, .int (nI n)]))) (hb : h[b]? = some (.inl (1, 12, .inl g))) (hn : n ≤ 12) (hg : ∀ j, j < n → g j = nI (hv j)) : zD mX0_allTicks d [.ref k] h (some (.int (nI (s_sum hv n)))) h := by
  refine zD_of (by decide +kernel) (by exact Nat.le_of_ble_eq_true rfl) ?_
  show zB mX0_allTicks _ _ _ 0 [some (.ref k), none, none] [] _
  refine zj_iconst (v := nI 0) dX0_allTicks_0 (by decide) ?_
  refine zj_istore_n dX0_allTicks_1 (by decide) ?_
  refine zj_iconst (v := nI 0) dX0_allTicks_2 (by decide) ?_
  refine zj_istore_n dX0_allTicks_3 (by decide) ?_
  exact x0_allTicks_l hk hb hn hg n 0 (by omega)
def s_deed (kd t l : Nat) : Nat := if t = 0 then (if kd = 1 ∨ kd = 3 then 1 else if kd = 2 then 2 else 0) else if t % 24 = 0 ∧ t + 24 ≤ l ∧ kd = 3 then 3 else 0
theorem s_isUnder_clap {kd : Nat} (h : kd ≤ 3) : s_isUnder (nI kd) 1 = if kd = 1 ∨ kd = 3 then 1 else 0 := by
  rcases (show kd = 0 ∨ kd = 1 ∨ kd = 2 ∨ kd = 3 by omega) with rfl | rfl | rfl | rfl <;> decide
theorem x0_deedAt {kd t l : Nat} (hkd : kd ≤ 3) (ht : t < 10000) (hl : l < 10000) : zD mX0_deedAt (d + 1) [.int (nI kd), .int (nI t), .int (nI l)] h (some (.int (nI (s_deed kd t l)))) h := by
  unfold s_deed
  refine zD_of (by decide +kernel) (by exact Nat.le_of_ble_eq_true rfl) ?_
  show zB mX0_deedAt _ _ _ 0 [some (.int (nI kd)), some (.int (nI t)), some (.int (nI l)), none] [] _
  refine zj_iload_n dX0_deedAt_0 (by rfl) ?_
  refine zj_if_neN (tgt := 27) dX0_deedAt_1 (by decide) (by omega) (fun q1 => ?_) (fun q1 => ?_)
  · refine zj_iload_n dX0_deedAt_27 (by rfl) ?_
    refine zj_bipush (v := nI 24) dX0_deedAt_28 (by decide) ?_
    refine zj_iremN dX0_deedAt_30 (by omega) ?_
    refine zj_if_neN (tgt := 46) dX0_deedAt_31 (by decide) (by omega) (fun q31 => ?_) (fun q31 => ?_)
    · refine zj_iconst (v := nI 0) dX0_deedAt_46 (by decide) ?_
      refine zj_istore_n dX0_deedAt_47 (by decide) ?_
      refine zj_iload_n dX0_deedAt_48 (by rfl) ?_
      refine zj_iconst (v := nI 3) dX0_deedAt_49 (by decide) ?_
      refine zj_icmp_neN (tgt := 61) dX0_deedAt_50 (by decide) (by omega) (fun q50 => ?_) (fun q50 => ?_)
      · refine zj_iconst (v := nI 0) dX0_deedAt_61 (by decide) ?_
        refine zj_iret dX0_deedAt_62 rfl (Nat.le_refl _) (Nat.le_refl _) ?_
        exact ⟨by first | (congr 3; simp_all; done) | (congr 3; split at q9 <;> simp_all; done) | (congr 3; (repeat' split) <;> first | rfl | omega | (simp_all; done)), rfl⟩
      · refine zj_iload_n dX0_deedAt_53 (by rfl) ?_
        refine zj_if_eqN (tgt := 61) dX0_deedAt_54 (by decide) (by omega) (fun q54 => ?_) (fun q54 => ?_)
        · refine zj_iconst (v := nI 0) dX0_deedAt_61 (by decide) ?_
          refine zj_iret dX0_deedAt_62 rfl (Nat.le_refl _) (Nat.le_refl _) ?_
          exact ⟨by first | (congr 3; simp_all; done) | (congr 3; split at q9 <;> simp_all; done) | (congr 3; (repeat' split) <;> first | rfl | omega | (simp_all; done)), rfl⟩
        · refine zj_iconst (v := nI 3) dX0_deedAt_57 (by decide) ?_
          refine zj_goto (tgt := 62) dX0_deedAt_58 (by decide) ?_
          refine zj_iret dX0_deedAt_62 rfl (Nat.le_refl _) (Nat.le_refl _) ?_
          exact ⟨by first | (congr 3; simp_all; done) | (congr 3; split at q9 <;> simp_all; done) | (congr 3; (repeat' split) <;> first | rfl | omega | (simp_all; done)), rfl⟩
    · refine zj_iload_n dX0_deedAt_34 (by rfl) ?_
      refine zj_bipush (v := nI 24) dX0_deedAt_35 (by decide) ?_
      refine zj_iaddN dX0_deedAt_37 ?_
      refine zj_iload_n dX0_deedAt_38 (by rfl) ?_
      refine zj_icmp_gtN (tgt := 46) dX0_deedAt_39 (by decide) (by omega) (fun q39 => ?_) (fun q39 => ?_)
      · refine zj_iconst (v := nI 0) dX0_deedAt_46 (by decide) ?_
        refine zj_istore_n dX0_deedAt_47 (by decide) ?_
        refine zj_iload_n dX0_deedAt_48 (by rfl) ?_
        refine zj_iconst (v := nI 3) dX0_deedAt_49 (by decide) ?_
        refine zj_icmp_neN (tgt := 61) dX0_deedAt_50 (by decide) (by omega) (fun q50 => ?_) (fun q50 => ?_)
        · refine zj_iconst (v := nI 0) dX0_deedAt_61 (by decide) ?_
          refine zj_iret dX0_deedAt_62 rfl (Nat.le_refl _) (Nat.le_refl _) ?_
          exact ⟨by first | (congr 3; simp_all; done) | (congr 3; split at q9 <;> simp_all; done) | (congr 3; (repeat' split) <;> first | rfl | omega | (simp_all; done)), rfl⟩
        · refine zj_iload_n dX0_deedAt_53 (by rfl) ?_
          refine zj_if_eqN (tgt := 61) dX0_deedAt_54 (by decide) (by omega) (fun q54 => ?_) (fun q54 => ?_)
          · refine zj_iconst (v := nI 0) dX0_deedAt_61 (by decide) ?_
            refine zj_iret dX0_deedAt_62 rfl (Nat.le_refl _) (Nat.le_refl _) ?_
            exact ⟨by first | (congr 3; simp_all; done) | (congr 3; split at q9 <;> simp_all; done) | (congr 3; (repeat' split) <;> first | rfl | omega | (simp_all; done)), rfl⟩
          · refine zj_iconst (v := nI 3) dX0_deedAt_57 (by decide) ?_
            refine zj_goto (tgt := 62) dX0_deedAt_58 (by decide) ?_
            refine zj_iret dX0_deedAt_62 rfl (Nat.le_refl _) (Nat.le_refl _) ?_
            exact ⟨by first | (congr 3; simp_all; done) | (congr 3; split at q9 <;> simp_all; done) | (congr 3; (repeat' split) <;> first | rfl | omega | (simp_all; done)), rfl⟩
      · refine zj_iconst (v := nI 1) dX0_deedAt_42 (by decide) ?_
        refine zj_goto (tgt := 47) dX0_deedAt_43 (by decide) ?_
        refine zj_istore_n dX0_deedAt_47 (by decide) ?_
        refine zj_iload_n dX0_deedAt_48 (by rfl) ?_
        refine zj_iconst (v := nI 3) dX0_deedAt_49 (by decide) ?_
        refine zj_icmp_neN (tgt := 61) dX0_deedAt_50 (by decide) (by omega) (fun q50 => ?_) (fun q50 => ?_)
        · refine zj_iconst (v := nI 0) dX0_deedAt_61 (by decide) ?_
          refine zj_iret dX0_deedAt_62 rfl (Nat.le_refl _) (Nat.le_refl _) ?_
          exact ⟨by first | (congr 3; simp_all; done) | (congr 3; split at q9 <;> simp_all; done) | (congr 3; (repeat' split) <;> first | rfl | omega | (simp_all; done)), rfl⟩
        · refine zj_iload_n dX0_deedAt_53 (by rfl) ?_
          refine zj_if_eqN (tgt := 61) dX0_deedAt_54 (by decide) (by omega) (fun q54 => ?_) (fun q54 => ?_)
          · refine zj_iconst (v := nI 0) dX0_deedAt_61 (by decide) ?_
            refine zj_iret dX0_deedAt_62 rfl (Nat.le_refl _) (Nat.le_refl _) ?_
            exact ⟨by first | (congr 3; simp_all; done) | (congr 3; split at q9 <;> simp_all; done) | (congr 3; (repeat' split) <;> first | rfl | omega | (simp_all; done)), rfl⟩
          · refine zj_iconst (v := nI 3) dX0_deedAt_57 (by decide) ?_
            refine zj_goto (tgt := 62) dX0_deedAt_58 (by decide) ?_
            refine zj_iret dX0_deedAt_62 rfl (Nat.le_refl _) (Nat.le_refl _) ?_
            exact ⟨by first | (congr 3; simp_all; done) | (congr 3; split at q9 <;> simp_all; done) | (congr 3; (repeat' split) <;> first | rfl | omega | (simp_all; done)), rfl⟩
  · refine zj_iload_n dX0_deedAt_4 (by rfl) ?_
    refine zj_iconst (v := nI 1) dX0_deedAt_5 (by decide) ?_
    refine zc_0_23 rfl dX0_deedAt_6 (x0_isUnder _ _) (by exact Nat.le_of_ble_eq_true rfl) ?_
    rw [show s_isUnder (nI kd) (nI 1) = _ from s_isUnder_clap hkd]
    refine zj_if_eq (tgt := 16) dX0_deedAt_9 (by decide) (fun q9 => ?_) (fun q9 => ?_)
    · refine zj_iload_n dX0_deedAt_16 (by rfl) ?_
      refine zj_iconst (v := nI 2) dX0_deedAt_17 (by decide) ?_
      refine zj_icmp_neN (tgt := 25) dX0_deedAt_18 (by decide) (by omega) (fun q18 => ?_) (fun q18 => ?_)
      · refine zj_iconst (v := nI 0) dX0_deedAt_25 (by decide) ?_
        refine zj_iret dX0_deedAt_26 rfl (Nat.le_refl _) (Nat.le_refl _) ?_
        exact ⟨by first | (congr 3; simp_all; done) | (congr 3; split at q9 <;> simp_all; done) | (congr 3; (repeat' split) <;> first | rfl | omega | (simp_all; done)), rfl⟩
      · refine zj_iconst (v := nI 2) dX0_deedAt_21 (by decide) ?_
        refine zj_goto (tgt := 26) dX0_deedAt_22 (by decide) ?_
        refine zj_iret dX0_deedAt_26 rfl (Nat.le_refl _) (Nat.le_refl _) ?_
        exact ⟨by first | (congr 3; simp_all; done) | (congr 3; split at q9 <;> simp_all; done) | (congr 3; (repeat' split) <;> first | rfl | omega | (simp_all; done)), rfl⟩
    · refine zj_iconst (v := nI 1) dX0_deedAt_12 (by decide) ?_
      refine zj_goto (tgt := 26) dX0_deedAt_13 (by decide) ?_
      refine zj_iret dX0_deedAt_26 rfl (Nat.le_refl _) (Nat.le_refl _) ?_
      exact ⟨by first | (congr 3; simp_all; done) | (congr 3; split at q9 <;> simp_all; done) | (congr 3; (repeat' split) <;> first | rfl | omega | (simp_all; done)), rfl⟩
end X0
