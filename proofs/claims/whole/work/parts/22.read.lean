section RD
variable {d k a c b o n p r : Nat} {h : zH} {f F A B g : Nat → Int32} {tb : Nat → Nat} {np : Int32}
theorem s3_self (hc : h[c]? = some (.inl (0, 60, .inl F))) (hb : h[b]? = some (.inl (1, 6, .inl A))) (ho : h[o]? = some (.inl (1, 6, .inl B))) (m1 : ¬ c = b) (m2 : ¬ c = o) (m3 : ¬ b = o) : s_h3 h c b o F A B = h := by
  unfold s_h3
  apply List.ext_getElem?
  intro j
  by_cases j1 : o = j
  · subst j1; rw [zset_eq (zset_ne m3 (zset_ne m2 ho)), ho]
  · rw [List.getElem?_set, if_neg j1]
    by_cases j2 : b = j
    · subst j2; rw [zset_eq (zset_ne m1 hb), hb]
    · rw [List.getElem?_set, if_neg j2]
      by_cases j3 : c = j
      · subst j3; rw [zset_eq hc, hc]
      · rw [List.getElem?_set, if_neg j3]
theorem x5_speak (hT : s_T3 h k a c b o n f) (hn : n ≤ 60) (hf : ∀ j, j < n → f j = s_by (tb j) ∧ tb j < 256) (hfp : s_fp tb n 0 0 true = none) (hs3 : s_h3 h c b o F A B = h) : ∃ F' A' B', (∀ l', s_sp tb n 0 [] 1 [] = some l' → s_arr F' l' ∧ l'.length ≤ 60) ∧ zD mX5_speak (d + 2) [.ref k] h (some (.int (s_lI (s_sp tb n 0 [] 1 [])))) (s_h3 h c b o F' A' B') := by
  obtain ⟨F', A', B', hg, hJ⟩ := x5_speak_l (d := d) hT hn hf n 0 [] 1 [] true F A B none (by omega) hfp ⟨fun j hj => absurd hj (Nat.not_lt_zero _), fun v hv => absurd hv List.not_mem_nil⟩ (by simp) (by omega) trivial (by simp)
  refine ⟨F', A', B', hg, ?_⟩
  rw [hs3] at hJ
  refine zD_of (by decide +kernel) (by exact Nat.le_of_ble_eq_true rfl) ?_
  show zB mX5_speak _ _ _ 0 [some (.ref k), none, none, none, none, none] [] _
  refine zj_iconst (v := nI 0) dX5_speak_0 (by decide) ?_
  refine zj_istore_n dX5_speak_1 (by decide) ?_
  refine zj_iconst (v := nI 1) dX5_speak_2 (by decide) ?_
  refine zj_istore_n dX5_speak_3 (by decide) ?_
  refine zj_iconst (v := nI 0) dX5_speak_4 (by decide) ?_
  refine zj_istore_n dX5_speak_5 (by decide) ?_
  refine zj_iconst (v := nI 0) dX5_speak_6 (by decide) ?_
  refine zj_istore dX5_speak_7 (by decide) ?_
  exact hJ
theorem s_fits8 {v : Nat} (h : v < 128) : fits .byte (.int (nI v)) = true := by
  have := pk_fb (nI v)
  rw [show (nI v).toInt8.toInt32 = nI v from s_by_small v h] at this
  exact this
theorem s_nfw : nativeFrameWords "java/lang/System" "arraycopy" 5 ≤ 100 := by decide +kernel
theorem x5_readF {i : Nat} (hk : h[k]? = some (.inr (5, [.ref a, .int (nI n), .ref c, .ref b, .ref o]))) (ha : h[a]? = some (.inl (0, 60, .inl f))) (hn : n ≤ 60) (hf : ∀ j, j < n → f j = s_by (tb j) ∧ tb j < 256) (hi : i ≤ 60) (hfp : s_fp tb n 0 0 true = some i) : zD mX5_readInto (d + 3) [.ref k, .ref p] h (some (.int ((-100) - nI i))) h := by
  have hJ := x5_faultPlace (d := d + 1) hk ha hn hf
  rw [hfp] at hJ
  refine zD_of (by decide +kernel) (by exact Nat.le_of_ble_eq_true rfl) ?_
  show zB mX5_readInto _ _ _ 0 [some (.ref k), some (.ref p), none, none] [] _
  refine zj_aload_n dX5_readInto_0 (by rfl) ?_
  refine zc_5_31 rfl dX5_readInto_1 (by first | assumption | rfl) hJ (by exact Nat.le_of_ble_eq_true rfl) ?_
  refine zj_istore_n dX5_readInto_4 (by decide) ?_
  refine zj_iload_n dX5_readInto_5 (by rfl) ?_
  refine zj_if_lt (tgt := 14) dX5_readInto_6 (by decide) (fun zq => absurd zq (nI_pos (show i < 2 ^ 31 by omega))) (fun _ => ?_)
  refine zj_bipush (v := (-100)) dX5_readInto_9 (by decide) ?_
  refine zj_iload_n dX5_readInto_11 (by rfl) ?_
  refine zj_isub dX5_readInto_12 ?_
  refine zj_iret dX5_readInto_13 rfl (Nat.le_refl _) (Nat.le_refl _) ?_
  exact ⟨rfl, rfl⟩
theorem x5_readN (hT : s_T3 h k a c b o n f) (hn : n ≤ 60) (hf : ∀ j, j < n → f j = s_by (tb j) ∧ tb j < 256) (hfp : s_fp tb n 0 0 true = none) (hs3 : s_h3 h c b o F A B = h) (hsp : s_sp tb n 0 [] 1 [] = none) : ∃ F' A' B', zD mX5_readInto (d + 3) [.ref k, .ref p] h (some (.int (-1000000003))) (s_h3 h c b o F' A' B') := by
  obtain ⟨F', A', B', hg, hJ2⟩ := x5_speak (d := d) hT hn hf hfp hs3
  refine ⟨F', A', B', ?_⟩
  obtain ⟨hk, ha, -⟩ := id hT
  have hJ := x5_faultPlace (d := d + 1) hk ha hn hf
  rw [hfp] at hJ
  rw [hsp] at hJ2
  refine zD_of (by decide +kernel) (by exact Nat.le_of_ble_eq_true rfl) ?_
  show zB mX5_readInto _ _ _ 0 [some (.ref k), some (.ref p), none, none] [] _
  refine zj_aload_n dX5_readInto_0 (by rfl) ?_
  refine zc_5_31 rfl dX5_readInto_1 (by first | assumption | rfl) hJ (by exact Nat.le_of_ble_eq_true rfl) ?_
  refine zj_istore_n dX5_readInto_4 (by decide) ?_
  refine zj_iload_n dX5_readInto_5 (by rfl) ?_
  refine zj_if_lt (tgt := 14) dX5_readInto_6 (by decide) (fun _ => ?_) (fun zq => absurd (by decide) zq)
  refine zj_aload_n dX5_readInto_14 (by rfl) ?_
  refine zc_5_35 rfl dX5_readInto_15 (by first | assumption | rfl) hJ2 (by exact Nat.le_of_ble_eq_true rfl) ?_
  refine zj_istore_n dX5_readInto_18 (by decide) ?_
  refine zj_iload_n dX5_readInto_19 (by rfl) ?_
  refine zj_if_ge (tgt := 26) dX5_readInto_20 (by decide) (fun zq => absurd zq (by decide)) (fun _ => ?_)
  refine zj_ldc (v := -1000000003) dX5_readInto_23 zq_318 ?_
  refine zj_iret dX5_readInto_25 rfl (Nat.le_refl _) (Nat.le_refl _) ?_
  exact ⟨rfl, rfl⟩
theorem x5_readS {l : List Nat} (hT : s_T3 h k a c b o n f) (hn : n ≤ 60) (hf : ∀ j, j < n → f j = s_by (tb j) ∧ tb j < 256) (hfp : s_fp tb n 0 0 true = none) (hs3 : s_h3 h c b o F A B = h) (hsp : s_sp tb n 0 [] 1 [] = some l) (hp : h[p]? = some (.inr (2, [.ref r, .int np]))) (hr : h[r]? = some (.inl (0, 60, .inl g))) (hne : ¬ c = p ∧ ¬ b = p ∧ ¬ o = p ∧ ¬ c = r ∧ ¬ b = r ∧ ¬ o = r ∧ ¬ r = p) : ∃ F' A' B' g', (s_arr g' l ∧ l.length ≤ 60) ∧ zD mX5_readInto (d + 3) [.ref k, .ref p] h (some (.int (nI l.length))) (((s_h3 h c b o F' A' B').set r (.inl (0, 60, .inl g'))).set p (.inr (2, [.ref r, .int (nI l.length)]))) := by
  obtain ⟨F', A', B', hg, hJ2⟩ := x5_speak (d := d) hT hn hf hfp hs3
  obtain ⟨hg1, hg2⟩ := hg l hsp
  refine ⟨F', A', B', va_cpy F' g 0 0 l.length, ⟨⟨fun j hj => by rw [sb_cpy0 hj]; exact hg1.1 j hj, hg1.2⟩, hg2⟩, ?_⟩
  obtain ⟨hk, ha, -⟩ := id hT
  have hJ := x5_faultPlace (d := d + 1) hk ha hn hf
  rw [hfp] at hJ
  rw [hsp] at hJ2
  have hk3 := s3_k hT F' A' B'
  have hc3 := s3_c hT F' A' B'
  have hp3 : (s_h3 h c b o F' A' B')[p]? = some (.inr (2, [.ref r, .int np])) := zset_ne hne.2.2.1 (zset_ne hne.2.1 (zset_ne hne.1 hp))
  have hr3 : (s_h3 h c b o F' A' B')[r]? = some (.inl (0, 60, .inl g)) := zset_ne hne.2.2.2.2.2.1 (zset_ne hne.2.2.2.2.1 (zset_ne hne.2.2.2.1 hr))
  have hp4 := zset_ne (c := .inl (0, 60, .inl (va_cpy F' g 0 0 l.length))) hne.2.2.2.2.2.2 hp3
  have hcl : (nI l.length).toNatClampNeg = l.length := nI_clamp (by omega)
  have hc0 : (0 : Int32).toNatClampNeg = 0 := sb_cl0
  have hnfw := s_nfw
  refine zD_of (by decide +kernel) (by exact Nat.le_of_ble_eq_true rfl) ?_
  show zB mX5_readInto _ _ _ 0 [some (.ref k), some (.ref p), none, none] [] _
  refine zj_aload_n dX5_readInto_0 (by rfl) ?_
  refine zc_5_31 rfl dX5_readInto_1 (by first | assumption | rfl) hJ (by exact Nat.le_of_ble_eq_true rfl) ?_
  refine zj_istore_n dX5_readInto_4 (by decide) ?_
  refine zj_iload_n dX5_readInto_5 (by rfl) ?_
  refine zj_if_lt (tgt := 14) dX5_readInto_6 (by decide) (fun _ => ?_) (fun zq => absurd (by decide) zq)
  refine zj_aload_n dX5_readInto_14 (by rfl) ?_
  refine zc_5_35 rfl dX5_readInto_15 (by first | assumption | rfl) hJ2 (by exact Nat.le_of_ble_eq_true rfl) ?_
  refine zj_istore_n dX5_readInto_18 (by decide) ?_
  refine zj_iload_n dX5_readInto_19 (by rfl) ?_
  refine zj_if_ge (tgt := 26) dX5_readInto_20 (by decide) (fun _ => ?_) (fun zq => absurd (nI_pos' (show l.length < 2 ^ 31 by omega)) zq)
  refine zj_aload_n dX5_readInto_26 (by rfl) ?_
  refine zg_5_21 rfl dX5_readInto_27 (by first | assumption | rfl) (by rfl) ?_
  refine zj_iconst (v := 0) dX5_readInto_30 (by decide) ?_
  refine zj_aload_n dX5_readInto_31 (by rfl) ?_
  refine zg_5_39 rfl dX5_readInto_32 (by first | assumption | rfl) (by rfl) ?_
  refine zj_iconst (v := 0) dX5_readInto_35 (by decide) ?_
  refine zj_iload_n dX5_readInto_36 (by rfl) ?_
  refine zj_copyb dX5_readInto_37 zq_319 hc3 hr3 (by decide) (by decide) (nI_pos (by omega)) (by rw [hc0]; show 0 + (nI l.length).toNatClampNeg ≤ 60; rw [hcl]; omega) (by rw [hc0]; show 0 + (nI l.length).toNatClampNeg ≤ 60; rw [hcl]; omega) (fun j hj => by rw [hc0, Nat.zero_add]; have hj2 : j < l.length := by { rw [← hcl]; exact hj }; rw [hg1.1 j hj2]; exact s_fits8 (by have := s_getD_le (j := j) hg1.2; omega)) (by show 1 ≤ d + 3; omega) (by show 0 + _ ≤ 60 * (d + 3); omega) ?_
  rw [hc0, show (s_lI (some l)).toNatClampNeg = l.length from hcl]
  refine zj_aload_n dX5_readInto_40 (by rfl) ?_
  refine zj_iload_n dX5_readInto_41 (by rfl) ?_
  refine zp_5_48 rfl dX5_readInto_42 (by first | assumption | rfl) (by exact Nat.le_of_ble_eq_true rfl) ?_
  refine zj_iload_n dX5_readInto_45 (by rfl) ?_
  refine zj_iret dX5_readInto_46 rfl (Nat.le_refl _) (Nat.le_refl _) ?_
  exact ⟨rfl, rfl⟩
/-- byte j of a number, the highest first -/
def s_b4 (x : Int32) (j : Nat) : Nat := (x >>> (nI (24 - 8 * j) &&& 31)).toBitVec.toNat % 256
theorem s_m8 (a : Nat) : nI (a + 8) + (-8) = nI a := by
  rw [← nI_add, Int32.add_assoc, show nI 8 + (-8) = 0 from by decide, Int32.add_zero]
theorem x5_write_l {x : Int32} (hak : ¬ a = k) : ∀ m n (f : Nat → Int32) (h : zH), h[k]? = some (.inr (5, [.ref a, .int (nI n), .ref c, .ref b, .ref o])) → h[a]? = some (.inl (0, 60, .inl f)) → n + m ≤ 60 → m ≤ 4 → ∃ f', (∀ j, j < n → f' j = f j) ∧ (∀ j, j < m → f' (n + j) = s_by (s_b4 x (4 - m + j))) ∧ zB mX5_write d none ((h.set a (.inl (0, 60, .inl f'))).set k (.inr (5, [.ref a, .int (nI (n + m)), .ref c, .ref b, .ref o]))) 3 [some (.ref k), some (.int x), some (.int (nI (8 * m) + (-8)))] [] h := by
  intro m
  induction m with
  | zero =>
    intro n f h hk ha hn hm
    refine ⟨f, fun _ _ => rfl, fun j hj => absurd hj (Nat.not_lt_zero _), ?_⟩
    have he : (h.set a (.inl (0, 60, .inl f))).set k (.inr (5, [.ref a, .int (nI (n + 0)), .ref c, .ref b, .ref o])) = h := by
      apply List.ext_getElem?
      intro j
      by_cases hj : k = j
      · subst hj; rw [zset_eq (zset_ne hak hk), hk, Nat.add_zero]
      · rw [List.getElem?_set, if_neg hj]
        by_cases hj : a = j
        · subst hj; rw [zset_eq ha, ha]
        · rw [List.getElem?_set, if_neg hj]
    rw [he]
    refine zj_iload_n dX5_write_3 (by rfl) ?_
    refine zj_if_lt (tgt := 45) dX5_write_4 (by decide) (fun _ => ?_) (fun zq => absurd (by decide) zq)
    refine zj_vret dX5_write_45 rfl (Nat.le_refl _) (Nat.le_refl _) ?_
    exact ⟨rfl, rfl⟩
  | succ m ih =>
    intro n f h hk ha hn hm
    have hb : vp_nar .byte ((x >>> (nI (8 * m) &&& 31)).toInt8.toInt32) = s_by (s_b4 x (4 - (m + 1))) := by
      rw [pk_vb, s_by_of]
      unfold s_b4
      rw [show 24 - 8 * (4 - (m + 1)) = 8 * m by omega]
    have ha1 := zset_eq (c := .inl (0, 60, .inl (upd f n (s_by (s_b4 x (4 - (m + 1))))))) ha
    have hk1 := zset_ne (c := .inl (0, 60, .inl (upd f n (s_by (s_b4 x (4 - (m + 1))))))) hak hk
    have hk2 := zset_eq (c := .inr (5, [.ref a, .int (nI (n + 1)), .ref c, .ref b, .ref o])) hk1
    have ha2 := zset_ne (c := .inr (5, [.ref a, .int (nI (n + 1)), .ref c, .ref b, .ref o])) (fun e => hak e.symm) ha1
    obtain ⟨f', hf1, hf2, hJ⟩ := ih (n + 1) _ _ hk2 ha2 (by omega) (by omega)
    refine ⟨f', fun j hj => by rw [hf1 j (by omega), pk_un (by omega)], fun j hj => ?_, ?_⟩
    · by_cases hj0 : j = 0
      · subst hj0; rw [Nat.add_zero, Nat.add_zero, hf1 n (by omega), pk_us]
      · have := hf2 (j - 1) (by omega)
        rw [show n + 1 + (j - 1) = n + j by omega, show 4 - m + (j - 1) = 4 - (m + 1) + j by omega] at this
        exact this
    · rw [zset4 hak, show n + 1 + m = n + (m + 1) by omega] at hJ
      rw [show 8 * (m + 1) = 8 * m + 8 by omega, s_m8]
      refine zj_iload_n dX5_write_3 (by rfl) ?_
      refine zj_if_lt (tgt := 45) dX5_write_4 (by decide) (fun zq => absurd zq (nI_pos (by omega))) (fun _ => ?_)
      refine zj_aload_n dX5_write_7 (by rfl) ?_
      refine zg_5_15 rfl dX5_write_8 (by first | assumption | rfl) (by rfl) ?_
      refine zj_bipush (v := 60) dX5_write_11 (by decide) ?_
      refine zj_icmp_ge (tgt := 39) dX5_write_13 (by decide) (fun zq => absurd zq (nI_ge (show n < 60 by omega) (by decide))) (fun _ => ?_)
      refine zj_aload_n dX5_write_16 (by rfl) ?_
      refine zg_5_11 rfl dX5_write_17 (by first | assumption | rfl) (by rfl) ?_
      refine zj_aload_n dX5_write_20 (by rfl) ?_
      refine zg_5_15 rfl dX5_write_21 (by first | assumption | rfl) (by rfl) ?_
      refine zj_iload_n dX5_write_24 (by rfl) ?_
      refine zj_iload_n dX5_write_25 (by rfl) ?_
      refine zj_ishr dX5_write_26 ?_
      refine zj_i2b dX5_write_27 ?_
      refine zj_bast dX5_write_28 (by first | assumption | rfl) (vp_in_nI (show n < 60 by omega) (by omega)) ?_
      rw [nI_clamp (show n < 2 ^ 31 by omega), hb]
      refine zj_aload_n dX5_write_29 (by rfl) ?_
      refine zj_dup dX5_write_30 rfl ?_
      refine zg_5_15 rfl dX5_write_31 (by first | assumption | rfl) (by rfl) ?_
      refine zj_iconst (v := 1) dX5_write_34 (by decide) ?_
      refine zj_iadd dX5_write_35 ?_
      rw [nI_1]
      refine zp_5_15 rfl dX5_write_36 (by first | assumption | rfl) (by exact Nat.le_of_ble_eq_true rfl) ?_
      refine zj_iinc (v := (-8)) dX5_write_39 (by decide) (by rfl) (by decide) ?_
      refine zj_goto (tgt := 3) dX5_write_42 (by decide) ?_
      exact hJ
theorem x5_write {x : Int32} (hak : ¬ a = k) (hk : h[k]? = some (.inr (5, [.ref a, .int (nI n), .ref c, .ref b, .ref o]))) (ha : h[a]? = some (.inl (0, 60, .inl f))) (hn : n + 4 ≤ 60) : ∃ f', (∀ j, j < n → f' j = f j) ∧ (∀ j, j < 4 → f' (n + j) = s_by (s_b4 x j)) ∧ zD mX5_write d [.ref k, .int x] h none ((h.set a (.inl (0, 60, .inl f'))).set k (.inr (5, [.ref a, .int (nI (n + 4)), .ref c, .ref b, .ref o]))) := by
  obtain ⟨f', hf1, hf2, hJ⟩ := x5_write_l (d := d) (x := x) hak 4 n f h hk ha hn (by omega)
  refine ⟨f', hf1, fun j hj => by have := hf2 j hj; rw [show 4 - 4 + j = j by omega] at this; exact this, ?_⟩
  refine zD_of (by decide +kernel) (by exact Nat.le_of_ble_eq_true rfl) ?_
  show zB mX5_write _ _ _ 0 [some (.ref k), some (.int x), none] [] _
  refine zj_bipush (v := 24) dX5_write_0 (by decide) ?_
  refine zj_istore_n dX5_write_2 (by decide) ?_
  exact hJ
end RD
