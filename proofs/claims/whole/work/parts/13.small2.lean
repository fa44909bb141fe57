section SM2
variable {d k a b : Nat} {h : zH} {f g : Nat → Int32} {n : Nat}
/-- handling, from limb i on, with m limbs left -/
def s_hl (kd hv : Nat → Nat) : Nat → Nat → Nat → Int32
  | 0, _, _ => -1000000002
  | m + 1, i, left => if left < hv i * 12 then nI (10 * i + s_deed (kd i) left (hv i * 12)) else s_hl kd hv m (i + 1) (left - hv i * 12)
theorem x0_handlingAt_l {kd hv : Nat → Nat} {tk ln : Int32} (hk : h[k]? = some (.inr (0, [.ref a, .ref b, .int (nI n)]))) (ha : h[a]? = some (.inl (1, 12, .inl f))) (hb : h[b]? = some (.inl (1, 12, .inl g))) (hn : n ≤ 12) (hf : ∀ j, j < n → f j = nI (kd j)) (hg : ∀ j, j < n → g j = nI (hv j)) (hkd : ∀ j, j < n → kd j ≤ 3) (hhv : ∀ j, j < n → hv j ≤ 18) : ∀ m i left o5, i + m = n → left < 3000 → zB mX0_handlingAt (d + 2) (some (.int (s_hl kd hv m i left))) h 19 [some (.ref k), some (.int tk), some (.int ln), some (.int (nI left)), some (.int (nI i)), o5] [] h := by
  intro m
  induction m with
  | zero =>
    intro i left o5 hi hle
    refine zj_iload dX0_handlingAt_19 (by rfl) ?_
    refine zj_aload_n dX0_handlingAt_21 (by rfl) ?_
    refine zg_0_18 rfl dX0_handlingAt_22 (by first | assumption | rfl) (by rfl) ?_
    refine zj_icmp_geN (tgt := 77) dX0_handlingAt_25 (by decide) (by omega) (fun _ => ?_) (fun zq => absurd (by omega) zq)
    refine zj_ldc (v := -1000000002) dX0_handlingAt_77 zq_264 ?_
    refine zj_iret dX0_handlingAt_79 rfl (Nat.le_refl _) (Nat.le_refl _) ?_
    exact ⟨by first | rfl | (simp [*]; done) | (simp_all; done), rfl⟩
  | succ m ih =>
    intro i left o5 hi hle
    have h18 := hhv i (by omega)
    have h3 := hkd i (by omega)
    unfold s_hl
    refine zj_iload dX0_handlingAt_19 (by rfl) ?_
    refine zj_aload_n dX0_handlingAt_21 (by rfl) ?_
    refine zg_0_18 rfl dX0_handlingAt_22 (by first | assumption | rfl) (by rfl) ?_
    refine zj_icmp_geN (tgt := 77) dX0_handlingAt_25 (by decide) (by omega) (fun zq => absurd zq (by omega)) (fun _ => ?_)
    refine zj_aload_n dX0_handlingAt_28 (by rfl) ?_
    refine zg_0_15 rfl dX0_handlingAt_29 (by first | assumption | rfl) (by rfl) ?_
    refine zj_iload dX0_handlingAt_32 (by rfl) ?_
    refine zj_ialdN dX0_handlingAt_34 (by first | assumption | rfl) (by omega) ?_
    rw [hg _ (by omega)]
    refine zj_bipush (v := nI 12) dX0_handlingAt_35 (by decide) ?_
    refine zj_imulN dX0_handlingAt_37 ?_
    refine zj_istore dX0_handlingAt_38 (by decide) ?_
    refine zj_iload_n dX0_handlingAt_40 (by rfl) ?_
    refine zj_iload dX0_handlingAt_41 (by rfl) ?_
    refine zj_icmp_geN (tgt := 66) dX0_handlingAt_43 (by decide) (by omega) (fun q43 => ?_) (fun q43 => ?_)
    · refine zj_iload_n dX0_handlingAt_66 (by rfl) ?_
      refine zj_iload dX0_handlingAt_67 (by rfl) ?_
      refine zj_isubN dX0_handlingAt_69 (by omega) ?_
      refine zj_istore_n dX0_handlingAt_70 (by decide) ?_
      refine zj_iincN dX0_handlingAt_71 (by rfl) (by decide) ?_
      refine zj_goto (tgt := 19) dX0_handlingAt_74 (by decide) ?_
      rw [if_neg (by omega)]
      exact ih (i + 1) (left - hv i * 12) _ (by omega) (by omega)
    · refine zj_bipush (v := nI 10) dX0_handlingAt_46 (by decide) ?_
      refine zj_iload dX0_handlingAt_48 (by rfl) ?_
      refine zj_imulN dX0_handlingAt_50 ?_
      refine zj_aload_n dX0_handlingAt_51 (by rfl) ?_
      refine zg_0_11 rfl dX0_handlingAt_52 (by first | assumption | rfl) (by rfl) ?_
      refine zj_iload dX0_handlingAt_55 (by rfl) ?_
      refine zj_ialdN dX0_handlingAt_57 (by first | assumption | rfl) (by omega) ?_
      rw [hf _ (by omega)]
      refine zj_iload_n dX0_handlingAt_58 (by rfl) ?_
      refine zj_iload dX0_handlingAt_59 (by rfl) ?_
      refine zc_0_32 rfl dX0_handlingAt_61 (x0_deedAt h3 (by omega) (by omega)) (by exact Nat.le_of_ble_eq_true rfl) ?_
      refine zj_iaddN dX0_handlingAt_64 ?_
      refine zj_iret dX0_handlingAt_65 rfl (Nat.le_refl _) (Nat.le_refl _) ?_
      exact ⟨by rw [if_pos (by omega)], rfl⟩
theorem x0_handlingAt {kd hv : Nat → Nat} {t : Nat} (hk : h[k]? = some (.inr (0, [.ref a, .ref b, .int (nI n)]))) (ha : h[a]? = some (.inl (1, 12, .inl f))) (hb : h[b]? = some (.inl (1, 12, .inl g))) (hn : n ≤ 12) (hf : ∀ j, j < n → f j = nI (kd j)) (hg : ∀ j, j < n → g j = nI (hv j)) (hkd : ∀ j, j < n → kd j ≤ 3) (hhv : ∀ j, j < n → 1 ≤ hv j ∧ hv j ≤ 18) (ht : t < 2 ^ 31) : zD mX0_handlingAt (d + 2) [.ref k, .int (nI t)] h (some (.int (if n = 0 then -1000000002 else s_hl kd hv n 0 (t % s_sum hv n)))) h := by
  have hs := s_sum_le n (fun j hj => (hhv j hj).2)
  refine zD_of (by decide +kernel) (by exact Nat.le_of_ble_eq_true rfl) ?_
  show zB mX0_handlingAt _ _ _ 0 [some (.ref k), some (.int (nI t)), none, none, none, none] [] _
  refine zj_aload_n dX0_handlingAt_0 (by rfl) ?_
  refine zc_0_27 rfl dX0_handlingAt_1 (by first | assumption | rfl) (x0_allTicks (d := d + 1) hk hb hn hg) (by exact Nat.le_of_ble_eq_true rfl) ?_
  refine zj_istore_n dX0_handlingAt_4 (by decide) ?_
  refine zj_iload_n dX0_handlingAt_5 (by rfl) ?_
  refine zj_if_gtN (tgt := 12) dX0_handlingAt_6 (by decide) (by omega) (fun q6 => ?_) (fun q6 => ?_)
  · refine zj_iload_n dX0_handlingAt_12 (by rfl) ?_
    refine zj_iload_n dX0_handlingAt_13 (by rfl) ?_
    have hp : 0 < s_sum hv n := by omega
    have hmod := Nat.mod_lt t hp
    refine zj_iremN dX0_handlingAt_14 (by omega) ?_
    refine zj_istore_n dX0_handlingAt_15 (by decide) ?_
    refine zj_iconst (v := nI 0) dX0_handlingAt_16 (by decide) ?_
    refine zj_istore dX0_handlingAt_17 (by decide) ?_
    rw [if_neg (by intro h0; subst h0; exact absurd hp (by simp [s_sum]))]
    exact x0_handlingAt_l hk ha hb hn hf hg hkd (fun j hj => (hhv j hj).2) n 0 _ none (by omega) (by omega)
  · refine zj_ldc (v := -1000000002) dX0_handlingAt_9 zq_264 ?_
    refine zj_iret dX0_handlingAt_11 rfl (Nat.le_refl _) (Nat.le_refl _) ?_
    exact ⟨by rw [if_pos]; by_cases h0 : n = 0; exact h0; exact absurd (s_sum_pos (by omega) (fun j hj => (hhv j hj).1)) (by omega), rfl⟩
theorem x3_layOut_l {o : Option Nat} {v : Int32} : ∀ m i (f : Nat → Int32) (h : zH), h[k]? = some (.inr (3, [.ref a, .int (s_pl o)])) → h[a]? = some (.inl (0, 60, .inl f)) → ¬ a = k → i + m = 60 → (∀ j, j < i → f j = 0) → ∃ f', (∀ j, j < 60 → f' j = 0) ∧ zB mX3_layOut d none ((h.set a (.inl (0, 60, .inl f'))).set k (.inr (3, [.ref a, .int v]))) 2 [some (.ref k), some (.int v), some (.int (nI i))] [] h := by
  intro m
  induction m with
  | zero =>
    intro i f h hk ha hak hi hf
    refine ⟨f, fun j hj => hf j (by omega), ?_⟩
    have he : h.set a (.inl (0, 60, .inl f)) = h := by
      apply List.ext_getElem?
      intro j
      by_cases hj : a = j
      · subst hj; rw [zset_eq ha, ha]
      · rw [List.getElem?_set, if_neg hj]
    rw [he]
    refine zj_iload_n dX3_layOut_2 (by rfl) ?_
    refine zj_aload_n dX3_layOut_3 (by rfl) ?_
    refine zg_3_11 rfl dX3_layOut_4 (by first | assumption | rfl) (by rfl) ?_
    refine zj_alenI dX3_layOut_7 (by first | assumption | rfl) (by decide) ?_
    refine zj_icmp_geN (tgt := 24) dX3_layOut_8 (by decide) (by omega) (fun _ => ?_) (fun zq => absurd (by omega) zq)
    refine zj_aload_n dX3_layOut_24 (by rfl) ?_
    refine zj_iload_n dX3_layOut_25 (by rfl) ?_
    refine zp_3_15 rfl dX3_layOut_26 (by first | assumption | rfl) (by exact Nat.le_of_ble_eq_true rfl) ?_
    refine zj_vret dX3_layOut_29 rfl (Nat.le_refl _) (Nat.le_refl _) ?_
    exact ⟨rfl, rfl⟩
  | succ m ih =>
    intro i f h hk ha hak hi hf
    obtain ⟨f', hf', hJ⟩ := ih (i + 1) (upd f i (vp_nar .byte (nI 0))) (h.set a (.inl (0, 60, .inl (upd f i (vp_nar .byte (nI 0)))))) (zset_ne hak hk) (zset_eq ha) hak (by omega) (fun j hj => by
      by_cases hji : j = i
      · subst hji; rw [pk_us]; decide
      · rw [pk_un hji]; exact hf j (by omega))
    refine ⟨f', hf', ?_⟩
    rw [List.set_set] at hJ
    refine zj_iload_n dX3_layOut_2 (by rfl) ?_
    refine zj_aload_n dX3_layOut_3 (by rfl) ?_
    refine zg_3_11 rfl dX3_layOut_4 (by first | assumption | rfl) (by rfl) ?_
    refine zj_alenI dX3_layOut_7 (by first | assumption | rfl) (by decide) ?_
    refine zj_icmp_geN (tgt := 24) dX3_layOut_8 (by decide) (by omega) (fun zq => absurd zq (by omega)) (fun _ => ?_)
    refine zj_aload_n dX3_layOut_11 (by rfl) ?_
    refine zg_3_11 rfl dX3_layOut_12 (by first | assumption | rfl) (by rfl) ?_
    refine zj_iload_n dX3_layOut_15 (by rfl) ?_
    refine zj_iconst (v := nI 0) dX3_layOut_16 (by decide) ?_
    refine zj_bastN dX3_layOut_17 (by first | assumption | rfl) (by omega) ?_
    refine zj_iincN dX3_layOut_18 (by rfl) (by decide) ?_
    refine zj_goto (tgt := 2) dX3_layOut_21 (by decide) ?_
    exact hJ
theorem x3_layOut {o : Option Nat} {v : Int32} (hk : h[k]? = some (.inr (3, [.ref a, .int (s_pl o)]))) (ha : h[a]? = some (.inl (0, 60, .inl f))) (hak : ¬ a = k) : ∃ f', (∀ j, j < 60 → f' j = 0) ∧ zD mX3_layOut d [.ref k, .int v] h none ((h.set a (.inl (0, 60, .inl f'))).set k (.inr (3, [.ref a, .int v]))) := by
  obtain ⟨f', hf', hJ⟩ := x3_layOut_l (d := d) (v := v) 60 0 f h hk ha hak (by omega) (fun j hj => by omega)
  refine ⟨f', hf', ?_⟩
  refine zD_of (by decide +kernel) (by exact Nat.le_of_ble_eq_true rfl) ?_
  show zB mX3_layOut _ _ _ 0 [some (.ref k), some (.int v), none] [] _
  refine zj_iconst (v := nI 0) dX3_layOut_0 (by decide) ?_
  refine zj_istore_n dX3_layOut_1 (by decide) ?_
  exact hJ
theorem x3_change {v : Int32} (hk : h[k]? = some (.inr (3, [.ref a, .int (nI n)]))) (ha : h[a]? = some (.inl (0, 60, .inl f))) (hn : n ≤ 60) {i : Nat} (hi : i < n) : zD mX3_change d [.ref k, .int (nI i), .int v] h (some (.int (f i))) (h.set a (.inl (0, 60, .inl (upd f i (vp_nar .byte v))))) := by
  refine zD_of (by decide +kernel) (by exact Nat.le_of_ble_eq_true rfl) ?_
  show zB mX3_change _ _ _ 0 [some (.ref k), some (.int (nI i)), some (.int v), none] [] _
  refine zj_iload_n dX3_change_0 (by rfl) ?_
  refine zj_if_ltN (tgt := 12) dX3_change_1 (by decide) (by omega) ?_
  refine zj_iload_n dX3_change_4 (by rfl) ?_
  refine zj_aload_n dX3_change_5 (by rfl) ?_
  refine zg_3_15 rfl dX3_change_6 (by first | assumption | rfl) (by rfl) ?_
  refine zj_icmp_ltN (tgt := 15) dX3_change_9 (by decide) (by omega) (fun _ => ?_) (fun zq => absurd (hi) zq)
  refine zj_aload_n dX3_change_15 (by rfl) ?_
  refine zg_3_11 rfl dX3_change_16 (by first | assumption | rfl) (by rfl) ?_
  refine zj_iload_n dX3_change_19 (by rfl) ?_
  refine zj_baldN dX3_change_20 (by first | assumption | rfl) (by omega) ?_
  refine zj_istore_n dX3_change_21 (by decide) ?_
  refine zj_aload_n dX3_change_22 (by rfl) ?_
  refine zg_3_11 rfl dX3_change_23 (by first | assumption | rfl) (by rfl) ?_
  refine zj_iload_n dX3_change_26 (by rfl) ?_
  refine zj_iload_n dX3_change_27 (by rfl) ?_
  refine zj_bastN dX3_change_28 (by first | assumption | rfl) (by omega) ?_
  refine zj_iload_n dX3_change_29 (by rfl) ?_
  refine zj_iret dX3_change_30 rfl (Nat.le_refl _) (Nat.le_refl _) ?_
  exact ⟨rfl, rfl⟩
theorem x3_changeX {v x : Int32} (hk : h[k]? = some (.inr (3, [.ref a, .int (nI n)]))) (hx : x < 0 ∨ nI n ≤ x) : zD mX3_change d [.ref k, .int x, .int v] h (some (.int (-1000000013))) h := by
  refine zD_of (by decide +kernel) (by exact Nat.le_of_ble_eq_true rfl) ?_
  show zB mX3_change _ _ _ 0 [some (.ref k), some (.int x), some (.int v), none] [] _
  refine zj_iload_n dX3_change_0 (by rfl) ?_
  refine zj_if_lt (tgt := 12) dX3_change_1 (by decide) (fun q1 => ?_) (fun q1 => ?_)
  · refine zj_ldc (v := -1000000013) dX3_change_12 zq_576 ?_
    refine zj_iret dX3_change_14 rfl (Nat.le_refl _) (Nat.le_refl _) ?_
    exact ⟨by first | rfl | (simp [*]; done) | (simp_all; done), rfl⟩
  · refine zj_iload_n dX3_change_4 (by rfl) ?_
    refine zj_aload_n dX3_change_5 (by rfl) ?_
    refine zg_3_15 rfl dX3_change_6 (by first | assumption | rfl) (by rfl) ?_
    refine zj_icmp_lt (tgt := 15) dX3_change_9 (by decide) (fun zq => absurd zq (fun hq => hx.elim (fun h => q1 h) (fun h => Int32.not_le.mpr hq h))) (fun _ => ?_)
    refine zj_ldc (v := -1000000013) dX3_change_12 zq_576 ?_
    refine zj_iret dX3_change_14 rfl (Nat.le_refl _) (Nat.le_refl _) ?_
    exact ⟨by first | rfl | (simp [*]; done) | (simp_all; done), rfl⟩
end SM2
