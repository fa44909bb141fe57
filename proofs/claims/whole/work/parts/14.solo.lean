section SO
variable {d k a b : Nat} {h : zH} {f g : Nat → Int32} {n : Nat} {tk gp : Nat → Nat}
/-- where the first parts end, gaps told too -/
def s_end (tk gp : Nat → Nat) : Nat → Nat
  | 0 => 0
  | i + 1 => s_end tk gp i + (tk i + gp i)
theorem s_end_le : ∀ (n : Nat), (∀ j, j < n → tk j ≤ 12960 ∧ gp j ≤ 96) → s_end tk gp n ≤ 13056 * n
  | 0, _ => Nat.le_refl _
  | n + 1, h => by
    have h1 := s_end_le n (fun j hj => h j (by omega))
    have h2 := h n (by omega)
    show s_end tk gp n + (tk n + gp n) ≤ _
    omega
/-- how many of the parts 0 .. n - 1 end on the one -/
def s_lnd (tk gp : Nat → Nat) (l : Nat) : Nat → Nat
  | 0 => 0
  | i + 1 => s_lnd tk gp l i + (if s_end tk gp (i + 1) % l = 0 then 1 else 0)
theorem s_lnd_le {l : Nat} : ∀ (n : Nat), s_lnd tk gp l n ≤ n
  | 0 => Nat.le_refl _
  | n + 1 => by
    have h1 := s_lnd_le (l := l) n
    show s_lnd tk gp l n + (if _ then 1 else 0) ≤ _
    split <;> omega
def x4_put (h : zH) (k a b n : Nat) (f g : Nat → Int32) (x y : Int32) : zH := ((h.set a (.inl (1, 20, .inl (upd f n x)))).set b (.inl (1, 20, .inl (upd g n y)))).set k (.inr (4, [.ref a, .ref b, .int (nI (n + 1))]))
theorem x4_takeF (x y : Int32) (hk : h[k]? = some (.inr (4, [.ref a, .ref b, .int (nI 20)]))) : zD mX4_take d [.ref k, .int x, .int y] h (some (.int (-1000000003))) h := by
  refine zD_of (by decide +kernel) (by exact Nat.le_of_ble_eq_true rfl) ?_
  show zB mX4_take _ _ _ 0 [some (.ref k), some (.int x), some (.int y)] [] _
  refine zj_aload_n dX4_take_0 (by rfl) ?_
  refine zg_4_18 rfl dX4_take_1 (by first | assumption | rfl) (by rfl) ?_
  refine zj_bipush (v := nI 20) dX4_take_4 (by decide) ?_
  refine zj_icmp_ltN (tgt := 12) dX4_take_6 (by decide) (by omega) (fun zq => absurd zq (by omega)) (fun _ => ?_)
  refine zj_ldc (v := -1000000003) dX4_take_9 zq_529 ?_
  refine zj_iret dX4_take_11 rfl (Nat.le_refl _) (Nat.le_refl _) ?_
  exact ⟨by first | rfl | (simp [*]; done) | (simp_all; done), rfl⟩
theorem x4_take (x y : Int32) (hk : h[k]? = some (.inr (4, [.ref a, .ref b, .int (nI n)]))) (ha : h[a]? = some (.inl (1, 20, .inl f))) (hb : h[b]? = some (.inl (1, 20, .inl g))) (hab : ¬ a = b) (hak : ¬ a = k) (hbk : ¬ b = k) (hn : n < 20) : zD mX4_take d [.ref k, .int x, .int y] h (some (.int (nI (n + 1)))) (x4_put h k a b n f g x y) := by
  refine zD_of (by decide +kernel) (by exact Nat.le_of_ble_eq_true rfl) ?_
  show zB mX4_take _ _ _ 0 [some (.ref k), some (.int x), some (.int y)] [] _
  refine zj_aload_n dX4_take_0 (by rfl) ?_
  refine zg_4_18 rfl dX4_take_1 (by first | assumption | rfl) (by rfl) ?_
  refine zj_bipush (v := nI 20) dX4_take_4 (by decide) ?_
  refine zj_icmp_ltN (tgt := 12) dX4_take_6 (by decide) (by omega) (fun _ => ?_) (fun zq => absurd (hn) zq)
  refine zj_aload_n dX4_take_12 (by rfl) ?_
  refine zg_4_11 rfl dX4_take_13 (by first | assumption | rfl) (by rfl) ?_
  refine zj_aload_n dX4_take_16 (by rfl) ?_
  refine zg_4_18 rfl dX4_take_17 (by first | assumption | rfl) (by rfl) ?_
  refine zj_iload_n dX4_take_20 (by rfl) ?_
  refine zj_iastN dX4_take_21 (by first | assumption | rfl) (by omega) ?_
  have hk1 := zset_ne (c := .inl (1, 20, .inl (upd f n x))) hak hk
  have hb1 := zset_ne (c := .inl (1, 20, .inl (upd f n x))) hab hb
  refine zj_aload_n dX4_take_22 (by rfl) ?_
  refine zg_4_15 rfl dX4_take_23 (by first | assumption | rfl) (by rfl) ?_
  refine zj_aload_n dX4_take_26 (by rfl) ?_
  refine zg_4_18 rfl dX4_take_27 (by first | assumption | rfl) (by rfl) ?_
  refine zj_iload_n dX4_take_30 (by rfl) ?_
  refine zj_iastN dX4_take_31 (by first | assumption | rfl) (by omega) ?_
  have hk2 := zset_ne (c := .inl (1, 20, .inl (upd g n y))) hbk hk1
  refine zj_aload_n dX4_take_32 (by rfl) ?_
  refine zj_dup dX4_take_33 rfl ?_
  refine zg_4_18 rfl dX4_take_34 (by first | assumption | rfl) (by rfl) ?_
  refine zj_iconst (v := nI 1) dX4_take_37 (by decide) ?_
  refine zj_iaddN dX4_take_38 ?_
  refine zp_4_18 rfl dX4_take_39 (by first | assumption | rfl) (by exact Nat.le_of_ble_eq_true rfl) ?_
  have hk3 := zset_eq (c := .inr (4, [.ref a, .ref b, .int (nI (n + 1))])) hk2
  refine zj_aload_n dX4_take_42 (by rfl) ?_
  refine zg_4_18 rfl dX4_take_43 (by first | assumption | rfl) (by rfl) ?_
  refine zj_iret dX4_take_46 rfl (Nat.le_refl _) (Nat.le_refl _) ?_
  exact ⟨rfl, rfl⟩
theorem x4_endOf_l {p : Nat} (hk : h[k]? = some (.inr (4, [.ref a, .ref b, .int (nI n)]))) (ha : h[a]? = some (.inl (1, 20, .inl f))) (hb : h[b]? = some (.inl (1, 20, .inl g))) (hn : n ≤ 20) (hp : p < n) (hf : ∀ j, j < n → f j = nI (tk j)) (hg : ∀ j, j < n → g j = nI (gp j)) : ∀ m i, i + m = p + 1 → zB mX4_endOf d (some (.int (nI (s_end tk gp (p + 1))))) h 4 [some (.ref k), some (.int (nI p)), some (.int (nI (s_end tk gp i))), some (.int (nI i))] [] h := by
  intro m
  induction m with
  | zero =>
    intro i hi
    refine zj_iload_n dX4_endOf_4 (by rfl) ?_
    refine zj_iload_n dX4_endOf_5 (by rfl) ?_
    refine zj_icmp_gtN (tgt := 39) dX4_endOf_6 (by decide) (by omega) (fun _ => ?_) (fun zq => absurd (by omega) zq)
    refine zj_iload_n dX4_endOf_39 (by rfl) ?_
    refine zj_iret dX4_endOf_40 rfl (Nat.le_refl _) (Nat.le_refl _) ?_
    exact ⟨by rw [show i = p + 1 by omega], rfl⟩
  | succ m ih =>
    intro i hi
    refine zj_iload_n dX4_endOf_4 (by rfl) ?_
    refine zj_iload_n dX4_endOf_5 (by rfl) ?_
    refine zj_icmp_gtN (tgt := 39) dX4_endOf_6 (by decide) (by omega) (fun zq => absurd zq (by omega)) (fun _ => ?_)
    refine zj_iload_n dX4_endOf_9 (by rfl) ?_
    refine zj_aload_n dX4_endOf_10 (by rfl) ?_
    refine zg_4_18 rfl dX4_endOf_11 (by first | assumption | rfl) (by rfl) ?_
    refine zj_icmp_geN (tgt := 39) dX4_endOf_14 (by decide) (by omega) (fun zq => absurd zq (by omega)) (fun _ => ?_)
    refine zj_iload_n dX4_endOf_17 (by rfl) ?_
    refine zj_aload_n dX4_endOf_18 (by rfl) ?_
    refine zg_4_11 rfl dX4_endOf_19 (by first | assumption | rfl) (by rfl) ?_
    refine zj_iload_n dX4_endOf_22 (by rfl) ?_
    refine zj_ialdN dX4_endOf_23 (by first | assumption | rfl) (by omega) ?_
    rw [hf _ (by omega)]
    refine zj_aload_n dX4_endOf_24 (by rfl) ?_
    refine zg_4_15 rfl dX4_endOf_25 (by first | assumption | rfl) (by rfl) ?_
    refine zj_iload_n dX4_endOf_28 (by rfl) ?_
    refine zj_ialdN dX4_endOf_29 (by first | assumption | rfl) (by omega) ?_
    rw [hg _ (by omega)]
    refine zj_iaddN dX4_endOf_30 ?_
    refine zj_iaddN dX4_endOf_31 ?_
    refine zj_istore_n dX4_endOf_32 (by decide) ?_
    refine zj_iincN dX4_endOf_33 (by rfl) (by decide) ?_
    refine zj_goto (tgt := 4) dX4_endOf_36 (by decide) ?_
    exact ih (i + 1) (by omega)
theorem x4_endOf {p : Nat} (hk : h[k]? = some (.inr (4, [.ref a, .ref b, .int (nI n)]))) (ha : h[a]? = some (.inl (1, 20, .inl f))) (hb : h[b]? = some (.inl (1, 20, .inl g))) (hn : n ≤ 20) (hp : p < n) (hf : ∀ j, j < n → f j = nI (tk j)) (hg : ∀ j, j < n → g j = nI (gp j)) : zD mX4_endOf d [.ref k, .int (nI p)] h (some (.int (nI (s_end tk gp (p + 1))))) h := by
  refine zD_of (by decide +kernel) (by exact Nat.le_of_ble_eq_true rfl) ?_
  show zB mX4_endOf _ _ _ 0 [some (.ref k), some (.int (nI p)), none, none] [] _
  refine zj_iconst (v := nI 0) dX4_endOf_0 (by decide) ?_
  refine zj_istore_n dX4_endOf_1 (by decide) ?_
  refine zj_iconst (v := nI 0) dX4_endOf_2 (by decide) ?_
  refine zj_istore_n dX4_endOf_3 (by decide) ?_
  exact x4_endOf_l hk ha hb hn hp hf hg (p + 1) 0 (by omega)
theorem x4_endW (hk : h[k]? = some (.inr (4, [.ref a, .ref b, .int (nI n)]))) (ha : h[a]? = some (.inl (1, 20, .inl f))) (hb : h[b]? = some (.inl (1, 20, .inl g))) (hn : n ≤ 20) (hp : 0 < n) (hf : ∀ j, j < n → f j = nI (tk j)) (hg : ∀ j, j < n → g j = nI (gp j)) : zD mX4_endWithoutLastGap (d + 1) [.ref k] h (some (.int (nI (s_end tk gp n - gp (n - 1))))) h := by
  have he : s_end tk gp (n - 1 + 1) = s_end tk gp (n - 1) + (tk (n - 1) + gp (n - 1)) := rfl
  have he2 : n - 1 + 1 = n := by omega
  refine zD_of (by decide +kernel) (by exact Nat.le_of_ble_eq_true rfl) ?_
  show zB mX4_endWithoutLastGap _ _ _ 0 [some (.ref k)] [] _
  refine zj_aload_n dX4_endWithoutLastGap_0 (by rfl) ?_
  refine zg_4_18 rfl dX4_endWithoutLastGap_1 (by first | assumption | rfl) (by rfl) ?_
  refine zj_if_gtN (tgt := 11) dX4_endWithoutLastGap_4 (by decide) (by omega) (fun _ => ?_) (fun zq => absurd (hp) zq)
  refine zj_aload_n dX4_endWithoutLastGap_11 (by rfl) ?_
  refine zj_aload_n dX4_endWithoutLastGap_12 (by rfl) ?_
  refine zg_4_18 rfl dX4_endWithoutLastGap_13 (by first | assumption | rfl) (by rfl) ?_
  refine zj_iconst (v := nI 1) dX4_endWithoutLastGap_16 (by decide) ?_
  refine zj_isubN dX4_endWithoutLastGap_17 (by omega) ?_
  refine zc_4_23 rfl dX4_endWithoutLastGap_18 (by first | assumption | rfl) (x4_endOf hk ha hb hn (show n - 1 < n by omega) hf hg) (by exact Nat.le_of_ble_eq_true rfl) ?_
  refine zj_aload_n dX4_endWithoutLastGap_21 (by rfl) ?_
  refine zg_4_15 rfl dX4_endWithoutLastGap_22 (by first | assumption | rfl) (by rfl) ?_
  refine zj_aload_n dX4_endWithoutLastGap_25 (by rfl) ?_
  refine zg_4_18 rfl dX4_endWithoutLastGap_26 (by first | assumption | rfl) (by rfl) ?_
  refine zj_iconst (v := nI 1) dX4_endWithoutLastGap_29 (by decide) ?_
  refine zj_isubN dX4_endWithoutLastGap_30 (by omega) ?_
  refine zj_ialdN dX4_endWithoutLastGap_31 (by first | assumption | rfl) (by omega) ?_
  rw [hg _ (by omega)]
  refine zj_isubN dX4_endWithoutLastGap_32 (by rw [he]; omega) ?_
  refine zj_iret dX4_endWithoutLastGap_33 rfl (Nat.le_refl _) (Nat.le_refl _) ?_
  exact ⟨by rw [he2], rfl⟩
theorem x4_endsAtOne_l {l : Nat} (hl : 0 < l ∧ l < 3000) (hk : h[k]? = some (.inr (4, [.ref a, .ref b, .int (nI n)]))) (ha : h[a]? = some (.inl (1, 20, .inl f))) (hb : h[b]? = some (.inl (1, 20, .inl g))) (hn : n ≤ 20) (hf : ∀ j, j < n → f j = nI (tk j)) (hg : ∀ j, j < n → g j = nI (gp j)) (hbd : ∀ j, j < n → tk j ≤ 12960 ∧ gp j ≤ 96) : ∀ m i, i + m = n → zB mX4_endsAtOne d (some (.int (nI (s_lnd tk gp l n)))) h 13 [some (.ref k), some (.int (nI l)), some (.int (nI (s_lnd tk gp l i))), some (.int (nI (s_end tk gp i))), some (.int (nI i))] [] h := by
  intro m
  induction m with
  | zero =>
    intro i hi
    refine zj_iload dX4_endsAtOne_13 (by rfl) ?_
    refine zj_aload_n dX4_endsAtOne_15 (by rfl) ?_
    refine zg_4_18 rfl dX4_endsAtOne_16 (by first | assumption | rfl) (by rfl) ?_
    refine zj_icmp_geN (tgt := 55) dX4_endsAtOne_19 (by decide) (by omega) (fun _ => ?_) (fun zq => absurd (by omega) zq)
    refine zj_iload_n dX4_endsAtOne_55 (by rfl) ?_
    refine zj_iret dX4_endsAtOne_56 rfl (Nat.le_refl _) (Nat.le_refl _) ?_
    exact ⟨by rw [show i = n by omega], rfl⟩
  | succ m ih =>
    intro i hi
    have hle := s_end_le (i + 1) (fun j hj => hbd j (by omega))
    have hs : s_end tk gp (i + 1) = s_end tk gp i + (tk i + gp i) := rfl
    have hmod := Nat.mod_lt (s_end tk gp i + (tk i + gp i)) hl.1
    have hi2 := ih (i + 1) (by omega)
    refine zj_iload dX4_endsAtOne_13 (by rfl) ?_
    refine zj_aload_n dX4_endsAtOne_15 (by rfl) ?_
    refine zg_4_18 rfl dX4_endsAtOne_16 (by first | assumption | rfl) (by rfl) ?_
    refine zj_icmp_geN (tgt := 55) dX4_endsAtOne_19 (by decide) (by omega) (fun zq => absurd zq (by omega)) (fun _ => ?_)
    refine zj_iload_n dX4_endsAtOne_22 (by rfl) ?_
    refine zj_aload_n dX4_endsAtOne_23 (by rfl) ?_
    refine zg_4_11 rfl dX4_endsAtOne_24 (by first | assumption | rfl) (by rfl) ?_
    refine zj_iload dX4_endsAtOne_27 (by rfl) ?_
    refine zj_ialdN dX4_endsAtOne_29 (by first | assumption | rfl) (by omega) ?_
    rw [hf _ (by omega)]
    refine zj_aload_n dX4_endsAtOne_30 (by rfl) ?_
    refine zg_4_15 rfl dX4_endsAtOne_31 (by first | assumption | rfl) (by rfl) ?_
    refine zj_iload dX4_endsAtOne_34 (by rfl) ?_
    refine zj_ialdN dX4_endsAtOne_36 (by first | assumption | rfl) (by omega) ?_
    rw [hg _ (by omega)]
    refine zj_iaddN dX4_endsAtOne_37 ?_
    refine zj_iaddN dX4_endsAtOne_38 ?_
    refine zj_istore_n dX4_endsAtOne_39 (by decide) ?_
    refine zj_iload_n dX4_endsAtOne_40 (by rfl) ?_
    refine zj_iload_n dX4_endsAtOne_41 (by rfl) ?_
    refine zj_iremN dX4_endsAtOne_42 (by omega) ?_
    refine zj_if_neN (tgt := 49) dX4_endsAtOne_43 (by decide) (by omega) (fun q43 => ?_) (fun q43 => ?_)
    · refine zj_iincN dX4_endsAtOne_49 (by rfl) (by decide) ?_
      refine zj_goto (tgt := 13) dX4_endsAtOne_52 (by decide) ?_
      have e : s_lnd tk gp l (i + 1) = s_lnd tk gp l i + (if s_end tk gp (i + 1) % l = 0 then 1 else 0) := rfl
      rw [hs] at e
      first | (rw [if_pos q43] at e; rw [e, hs] at hi2; exact hi2) | (rw [if_neg q43] at e; rw [e, hs] at hi2; exact hi2)
    · refine zj_iincN dX4_endsAtOne_46 (by rfl) (by decide) ?_
      refine zj_iincN dX4_endsAtOne_49 (by rfl) (by decide) ?_
      refine zj_goto (tgt := 13) dX4_endsAtOne_52 (by decide) ?_
      have e : s_lnd tk gp l (i + 1) = s_lnd tk gp l i + (if s_end tk gp (i + 1) % l = 0 then 1 else 0) := rfl
      rw [hs] at e
      first | (rw [if_pos q43] at e; rw [e, hs] at hi2; exact hi2) | (rw [if_neg q43] at e; rw [e, hs] at hi2; exact hi2)
theorem x4_endsAtOne {l : Nat} (hl : 0 < l ∧ l < 3000) (hk : h[k]? = some (.inr (4, [.ref a, .ref b, .int (nI n)]))) (ha : h[a]? = some (.inl (1, 20, .inl f))) (hb : h[b]? = some (.inl (1, 20, .inl g))) (hn : n ≤ 20) (hf : ∀ j, j < n → f j = nI (tk j)) (hg : ∀ j, j < n → g j = nI (gp j)) (hbd : ∀ j, j < n → tk j ≤ 12960 ∧ gp j ≤ 96) : zD mX4_endsAtOne d [.ref k, .int (nI l)] h (some (.int (nI (s_lnd tk gp l n)))) h := by
  refine zD_of (by decide +kernel) (by exact Nat.le_of_ble_eq_true rfl) ?_
  show zB mX4_endsAtOne _ _ _ 0 [some (.ref k), some (.int (nI l)), none, none, none] [] _
  refine zj_iload_n dX4_endsAtOne_0 (by rfl) ?_
  refine zj_if_gtN (tgt := 6) dX4_endsAtOne_1 (by decide) (by omega) (fun _ => ?_) (fun zq => absurd (hl.1) zq)
  refine zj_iconst (v := nI 0) dX4_endsAtOne_6 (by decide) ?_
  refine zj_istore_n dX4_endsAtOne_7 (by decide) ?_
  refine zj_iconst (v := nI 0) dX4_endsAtOne_8 (by decide) ?_
  refine zj_istore_n dX4_endsAtOne_9 (by decide) ?_
  refine zj_iconst (v := nI 0) dX4_endsAtOne_10 (by decide) ?_
  refine zj_istore dX4_endsAtOne_11 (by decide) ?_
  exact x4_endsAtOne_l hl hk ha hb hn hf hg hbd n 0 (by omega)
end SO
