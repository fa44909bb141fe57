theorem s_fit_big {f g : Nat → Int32} {n e i : Nat} (hi : n ≤ i) : ∀ t, s_fit f g n e t i = 0
  | 0 => rfl
  | t + 1 => by unfold s_fit; rw [if_neg (by omega)]
def s_wl (P : Nat → Nat) (t : Nat) : Nat := if t = 0 then 0 else P (t + 1) - P t
section TV
variable {d k c b p r s q n e : Nat} {h : zH} {f g ft : Nat → Int32} {wb : Nat → Int64}
def s_TB (h : zH) (k c b p r s q n e : Nat) (f g : Nat → Int32) : Prop := h[k]? = some (.inr (6, [.ref c, .ref b])) ∧ h[p]? = some (.inr (2, [.ref r, .int (nI n)])) ∧ h[r]? = some (.inl (0, 60, .inl f)) ∧ h[s]? = some (.inr (3, [.ref q, .int (nI e)])) ∧ h[q]? = some (.inl (0, 60, .inl g)) ∧ n ≤ 60 ∧ e ≤ 60
def s_tn (k c b p r s q : Nat) : Prop := ¬ c = b ∧ (¬ c = k ∧ ¬ c = p ∧ ¬ c = r ∧ ¬ c = s ∧ ¬ c = q) ∧ (¬ b = k ∧ ¬ b = p ∧ ¬ b = r ∧ ¬ b = s ∧ ¬ b = q)
theorem s_TB_c (hne : s_tn k c b p r s q) (hB : s_TB h k c b p r s q n e f g) (x : va_E) : s_TB (h.set c x) k c b p r s q n e f g := by
  obtain ⟨n0, ⟨n1, n2, n3, n4, n5⟩, -⟩ := hne
  obtain ⟨h1, h2, h3, h4, h5, h6⟩ := hB
  exact ⟨zset_ne n1 h1, zset_ne n2 h2, zset_ne n3 h3, zset_ne n4 h4, zset_ne n5 h5, h6⟩
theorem s_TB_b (hne : s_tn k c b p r s q) (hB : s_TB h k c b p r s q n e f g) (x : va_E) : s_TB (h.set b x) k c b p r s q n e f g := by
  obtain ⟨n0, -, ⟨n1, n2, n3, n4, n5⟩⟩ := hne
  obtain ⟨h1, h2, h3, h4, h5, h6⟩ := hB
  exact ⟨zset_ne n1 h1, zset_ne n2 h2, zset_ne n3 h3, zset_ne n4 h4, zset_ne n5 h5, h6⟩
theorem x6_allWays_l (hne : s_tn k c b p r s q) (he1 : 1 ≤ e) : ∀ m ft wb (h : zH), s_TB h k c b p r s q n e f g → h[c]? = some (.inl (1, 61, .inl ft)) → h[b]? = some (.inl (2, 62, .inr (.inl wb))) → m ≤ e → (∀ j, j ≤ 60 → ft j = nI (s_fit f g n e (e - m) j)) → (∀ j, m ≤ j → j ≤ e + 1 → wb j = lN (s_P (s_fit f g n e) n (e + 1 - j))) → ∃ ft' wb', zB mX6_allWays (d + 2) (some (.int (nI (s_wl (s_P (s_fit f g n e) n) e)))) ((h.set c (.inl (1, 61, .inl ft'))).set b (.inl (2, 62, .inr (.inl wb')))) 45 [some (.ref k), some (.ref p), some (.ref s), some (.int (nI e)), some (.long (lN (s_wl (s_P (s_fit f g n e) n) (e - m)))), none, some (.int (nI m + (-1)))] [] h := by
  intro m
  induction m with
  | zero =>
    intro ft wb h hB hc hb hm hf hw
    refine ⟨ft, wb, ?_⟩
    have he : (h.set c (.inl (1, 61, .inl ft))).set b (.inl (2, 62, .inr (.inl wb))) = h := by
      apply List.ext_getElem?
      intro j
      by_cases hj : b = j
      · subst hj; rw [zset_eq (zset_ne hne.1 hb), hb]
      · rw [List.getElem?_set, if_neg hj]
        by_cases hj : c = j
        · subst hj; rw [zset_eq hc, hc]
        · rw [List.getElem?_set, if_neg hj]
    rw [he]
    refine zj_iload dX6_allWays_45 (by rfl) ?_
    refine zj_if_lt (tgt := 103) dX6_allWays_47 (by decide) (fun _ => ?_) (fun zq => absurd (by decide) zq)
    refine zj_lload dX6_allWays_103 (by rfl) ?_
    refine zj_l2i dX6_allWays_105 ?_
    rw [lN_i]
    refine zj_iret dX6_allWays_106 rfl (Nat.le_refl _) (Nat.le_refl _) ?_
    exact ⟨rfl, rfl⟩
  | succ m ih =>
    intro ft wb h hB hc hb hm hf hw
    obtain ⟨t, ht⟩ : ∃ t, t = e - (m + 1) := ⟨_, rfl⟩
    have ht1 : e - m = t + 1 := by omega
    have htm : e - (t + 1) = m := by omega
    rw [← ht] at hf
    obtain ⟨hk, hp, hr, hs, hq, hn, he⟩ := id hB
    obtain ⟨ft1, hf1, hf2, hD1⟩ := x6_fitFrom (d := d + 1) (w := g m) (F := s_fit f g n e t) hn hk hc hp hr ⟨hne.2.1.1, hne.2.1.2.1, hne.2.1.2.2.1⟩ hf
    have hfn : ∀ j, j ≤ 60 → ft1 j = nI (s_fit f g n e (t + 1) j) := by
      intro j hj
      by_cases hjn : j < n
      · rw [hf1 j hjn]
        show _ = nI (if j < n then _ else _)
        rw [if_pos hjn, htm]
      · rw [hf2 j (by omega) hj, s_fit_big (by omega), s_fit_big (by omega)]
    have hB1 := s_TB_c hne hB (.inl (1, 61, .inl ft1))
    have hc1 := zset_eq (c := .inl (1, 61, .inl ft1)) hc
    have hb1 := zset_ne (c := .inl (1, 61, .inl ft1)) hne.1 hb
    obtain ⟨hk1, hp1, hr1, hs1, hq1, -⟩ := id hB1
    have hWF := x6_waysFrom (d := d) (F := s_fit f g n e (t + 1)) (P := s_P (s_fit f g n e) n) (at_ := m) hn he (by omega) hk1 hc1 hb1 hp1 (fun j hj => ⟨hfn j (by omega), by rw [ht1]; exact s_fit_le _ _⟩) (fun j h1 h2 => hw j (by omega) h2) (fun j hj => by
      have := s_P_mono (fit := s_fit f g n e) (n := n) (k := j) (e - m - j)
      rw [show j + (e - m - j) = e - m by omega] at this
      exact this)
    rw [ht1] at hWF
    have hP2 := s_P_2 (fit := s_fit f g n e) (n := n) t
    have hle1 := s_acc_le (P := s_P (s_fit f g n e) n) (F := s_fit f g n e (t + 1)) (T := t + 1) n
    have hle2 := s_P_le (fit := s_fit f g n e) (n := n) (t + 1)
    have hle3 : s_P (s_fit f g n e) n (t + 1) * n ≤ s_M * (t + 1) * n := Nat.mul_le_mul_right _ hle2
    have hle4 : s_M * (t + 1) * n ≤ s_M * 61 * 60 := Nat.mul_le_mul (Nat.mul_le_mul_left _ (by omega)) hn
    have hM : s_M = 1000000000 := rfl
    have hb2 := zset_eq (c := .inl (2, 62, .inr (.inl (vp_updL wb m (lN (s_P (s_fit f g n e) n (t + 2))))))) hb1
    have hc2 := zset_ne (c := .inl (2, 62, .inr (.inl (vp_updL wb m (lN (s_P (s_fit f g n e) n (t + 2))))))) (fun x => hne.1 x.symm) hc1
    obtain ⟨ft', wb', hJ⟩ := ih ft1 _ _ (s_TB_b hne hB1 _) hc2 hb2 (by omega) (by rw [ht1]; exact hfn) (fun j h1 h2 => by
      by_cases hj : j = m
      · subst hj; rw [pk_uLs, show e + 1 - j = t + 2 by omega]
      · rw [pk_uLn hj]; exact hw j (by omega) h2)
    refine ⟨ft', wb', ?_⟩
    rw [zset4 hne.1] at hJ
    have hwl : s_wl (s_P (s_fit f g n e) n) (e - m) = min (s_acc (s_P (s_fit f g n e) n) (s_fit f g n e (t + 1)) (t + 1) n) s_M := by
      rw [ht1]
      unfold s_wl
      rw [if_neg (by omega), hP2]
      omega
    rw [hwl] at hJ
    rw [pk_m1]
    refine zj_iload dX6_allWays_45 (by rfl) ?_
    refine zj_if_lt (tgt := 103) dX6_allWays_47 (by decide) (fun zq => absurd zq (nI_pos (by omega))) (fun _ => ?_)
    refine zj_aload_n dX6_allWays_50 (by rfl) ?_
    refine zj_aload_n dX6_allWays_51 (by rfl) ?_
    refine zj_aload_n dX6_allWays_52 (by rfl) ?_
    refine zg_6_30 rfl dX6_allWays_53 (by first | assumption | rfl) (by rfl) ?_
    refine zj_iload dX6_allWays_56 (by rfl) ?_
    refine zj_bald dX6_allWays_58 (by first | assumption | rfl) (vp_in_nI (show m < 60 by omega) (by omega)) ?_
    rw [nI_clamp (show m < 2 ^ 31 by omega)]
    refine zc_6_34 rfl dX6_allWays_59 (by first | assumption | rfl) hD1 (by exact Nat.le_of_ble_eq_true rfl) ?_
    refine zj_aload_n dX6_allWays_62 (by rfl) ?_
    refine zj_aload_n dX6_allWays_63 (by rfl) ?_
    refine zj_iload dX6_allWays_64 (by rfl) ?_
    refine zj_iload_n dX6_allWays_66 (by rfl) ?_
    refine zc_6_38 rfl dX6_allWays_67 (by first | assumption | rfl) hWF (by exact Nat.le_of_ble_eq_true rfl) ?_
    refine zj_ldc2 (v := 1000000000) dX6_allWays_70 zq_461 ?_
    refine zc_6_44 rfl dX6_allWays_73 (show zD mJ9_min_f86c9 _ [.long (lN (s_acc (s_P (s_fit f g n e) n) (s_fit f g n e (t + 1)) (t + 1) n)), .long 1000000000] _ (some (.long (lN (min (s_acc (s_P (s_fit f g n e) n) (s_fit f g n e (t + 1)) (t + 1) n) s_M)))) _ from j9_minL (y := s_M) (by omega) (by omega)) (by exact Nat.le_of_ble_eq_true rfl) ?_
    refine zj_lstore dX6_allWays_76 (by decide) ?_
    refine zj_aload_n dX6_allWays_78 (by rfl) ?_
    refine zg_6_19 rfl dX6_allWays_79 (by first | assumption | rfl) (by rfl) ?_
    refine zj_iload dX6_allWays_82 (by rfl) ?_
    refine zj_aload_n dX6_allWays_84 (by rfl) ?_
    refine zg_6_19 rfl dX6_allWays_85 (by first | assumption | rfl) (by rfl) ?_
    refine zj_iload dX6_allWays_88 (by rfl) ?_
    refine zj_iconst (v := 1) dX6_allWays_90 (by decide) ?_
    refine zj_iadd dX6_allWays_91 ?_
    rw [nI_1]
    refine zj_lald dX6_allWays_92 (by first | assumption | rfl) (vp_in_nI (show m + 1 < 62 by omega) (by omega)) ?_
    rw [nI_clamp (show m + 1 < 2 ^ 31 by omega), hw (m + 1) (by omega) (by omega), show e + 1 - (m + 1) = t + 1 by omega]
    refine zj_lload dX6_allWays_93 (by rfl) ?_
    refine zj_ladd dX6_allWays_95 ?_
    rw [lN_add, ← hP2]
    refine zj_last dX6_allWays_96 (by first | assumption | rfl) (vp_in_nI (show m < 62 by omega) (by omega)) ?_
    rw [nI_clamp (show m < 2 ^ 31 by omega)]
    refine zj_iinc (v := (-1)) dX6_allWays_97 (by decide) (by rfl) (by decide) ?_
    refine zj_goto (tgt := 45) dX6_allWays_100 (by decide) ?_
    exact hJ
theorem x6_allWays (hne : s_tn k c b p r s q) (hB : s_TB h k c b p r s q n e f g) (hc : h[c]? = some (.inl (1, 61, .inl ft))) (hb : h[b]? = some (.inl (2, 62, .inr (.inl wb)))) (he1 : 1 ≤ e) : ∃ ft' wb', zD mX6_allWays (d + 2) [.ref k, .ref p, .ref s] h (some (.int (nI (s_wl (s_P (s_fit f g n e) n) e)))) ((h.set c (.inl (1, 61, .inl ft'))).set b (.inl (2, 62, .inr (.inl wb')))) := by
  obtain ⟨hk, hp, hr, hs, hq, hn, he⟩ := id hB
  obtain ⟨ft1, hf1, hD1⟩ := x6_forget (d := d + 1) hk hc hne.2.1.1
  have hB1 := s_TB_c hne hB (.inl (1, 61, .inl ft1))
  have hc1 := zset_eq (c := .inl (1, 61, .inl ft1)) hc
  have hb1 := zset_ne (c := .inl (1, 61, .inl ft1)) hne.1 hb
  obtain ⟨hk1, hp1, hr1, hs1, hq1, -⟩ := id hB1
  have hb2 := zset_eq (c := .inl (2, 62, .inr (.inl (vp_updL wb (e + 1) 0)))) hb1
  obtain ⟨hk2, -⟩ := s_TB_b hne hB1 (.inl (2, 62, .inr (.inl (vp_updL wb (e + 1) 0))))
  have hB2 := s_TB_b hne hB1 (.inl (2, 62, .inr (.inl (vp_updL (vp_updL wb (e + 1) 0) e 1))))
  have hb3 := zset_eq (c := .inl (2, 62, .inr (.inl (vp_updL (vp_updL wb (e + 1) 0) e 1)))) hb1
  have hc3 := zset_ne (c := .inl (2, 62, .inr (.inl (vp_updL (vp_updL wb (e + 1) 0) e 1)))) (fun x => hne.1 x.symm) hc1
  obtain ⟨ft', wb', hJ⟩ := x6_allWays_l (d := d) hne he1 e ft1 _ _ hB2 hc3 hb3 (Nat.le_refl _) (fun j hj => by rw [hf1 j (by omega), Nat.sub_self]; rfl) (fun j h1 h2 => by
    by_cases hj : j = e
    · subst hj; rw [pk_uLs, show j + 1 - j = 1 by omega, s_P_1]; rfl
    · have hj2 : j = e + 1 := by omega
      subst hj2; rw [pk_uLn (by omega), pk_uLs, Nat.sub_self, s_P_0]; rfl)
  refine ⟨ft', wb', ?_⟩
  rw [zset4 hne.1, Nat.sub_self] at hJ
  refine zD_of (by decide +kernel) (by exact Nat.le_of_ble_eq_true rfl) ?_
  show zB mX6_allWays _ _ _ 0 [some (.ref k), some (.ref p), some (.ref s), none, none, none, none] [] _
  refine zj_aload_n dX6_allWays_0 (by rfl) ?_
  refine zg_6_23 rfl dX6_allWays_1 (by first | assumption | rfl) (by rfl) ?_
  refine zj_istore_n dX6_allWays_4 (by decide) ?_
  refine zj_iload_n dX6_allWays_5 (by rfl) ?_
  refine zj_if_leN (tgt := 15) dX6_allWays_6 (by decide) (by omega) (fun zq => absurd zq (by omega)) (fun _ => ?_)
  refine zj_iload_n dX6_allWays_9 (by rfl) ?_
  refine zj_bipush (v := nI 60) dX6_allWays_10 (by decide) ?_
  refine zj_icmp_leN (tgt := 17) dX6_allWays_12 (by decide) (by omega) (fun _ => ?_) (fun zq => absurd (by omega) zq)
  refine zj_aload_n dX6_allWays_17 (by rfl) ?_
  refine zc_6_27 rfl dX6_allWays_18 (by first | assumption | rfl) hD1 (by exact Nat.le_of_ble_eq_true rfl) ?_
  refine zj_aload_n dX6_allWays_21 (by rfl) ?_
  refine zg_6_19 rfl dX6_allWays_22 (by first | assumption | rfl) (by rfl) ?_
  refine zj_iload_n dX6_allWays_25 (by rfl) ?_
  refine zj_iconst (v := nI 1) dX6_allWays_26 (by decide) ?_
  refine zj_iaddN dX6_allWays_27 ?_
  refine zj_lconst (v := 0) dX6_allWays_28 (by decide) ?_
  refine zj_lastN dX6_allWays_29 (by first | assumption | rfl) (by omega) ?_
  refine zj_aload_n dX6_allWays_30 (by rfl) ?_
  refine zg_6_19 rfl dX6_allWays_31 (by first | assumption | rfl) (by rfl) ?_
  refine zj_iload_n dX6_allWays_34 (by rfl) ?_
  refine zj_lconst (v := 1) dX6_allWays_35 (by decide) ?_
  refine zj_lastN dX6_allWays_36 (by first | assumption | rfl) (by omega) ?_
  rw [List.set_set]
  refine zj_lconst (v := 0) dX6_allWays_37 (by decide) ?_
  refine zj_lstore dX6_allWays_38 (by decide) ?_
  refine zj_iload_n dX6_allWays_40 (by rfl) ?_
  refine zj_iconst (v := 1) dX6_allWays_41 (by decide) ?_
  refine zj_isub dX6_allWays_42 ?_
  refine zj_istore dX6_allWays_43 (by decide) ?_
  rw [show nI e - 1 = nI e + (-1) from Int32.sub_eq_add_neg _ _]
  exact hJ
theorem x6_allWays0 (hs : h[s]? = some (.inr (3, [.ref q, .int (nI 0)]))) : zD mX6_allWays (d + 2) [.ref k, .ref p, .ref s] h (some (.int 0)) h := by
  refine zD_of (by decide +kernel) (by exact Nat.le_of_ble_eq_true rfl) ?_
  show zB mX6_allWays _ _ _ 0 [some (.ref k), some (.ref p), some (.ref s), none, none, none, none] [] _
  refine zj_aload_n dX6_allWays_0 (by rfl) ?_
  refine zg_6_23 rfl dX6_allWays_1 (by first | assumption | rfl) (by rfl) ?_
  refine zj_istore_n dX6_allWays_4 (by decide) ?_
  refine zj_iload_n dX6_allWays_5 (by rfl) ?_
  refine zj_if_leN (tgt := 15) dX6_allWays_6 (by decide) (by omega) (fun _ => ?_) (fun zq => absurd (by omega) zq)
  refine zj_iconst (v := nI 0) dX6_allWays_15 (by decide) ?_
  refine zj_iret dX6_allWays_16 rfl (Nat.le_refl _) (Nat.le_refl _) ?_
  exact ⟨by first | rfl | (simp [*]; done) | (simp_all; done), rfl⟩
/-- the longest cut for the sheet from at_ on, among those from the first places -/
def s_lc (f g : Nat → Int32) (n e at_ : Nat) : Nat → Nat
  | 0 => 0
  | i + 1 => max (s_lc f g n e at_ i) (s_fit f g n e (e - at_) i)
theorem s_lc_le {at_ : Nat} : ∀ i, s_lc f g n e at_ i ≤ e - at_
  | 0 => Nat.zero_le _
  | i + 1 => by
    have h1 := s_lc_le (at_ := at_) i
    have h2 := s_fit_le (f := f) (g := g) (n := n) (e := e) (e - at_) i
    show max _ _ ≤ _
    omega
theorem x6_longest_in {at_ i : Nat} {lg : Int32} {Q : Option Value → zH → Prop} (hp : h[p]? = some (.inr (2, [.ref r, .int (nI n)]))) (hr : h[r]? = some (.inl (0, 60, .inl f))) (hs : h[s]? = some (.inr (3, [.ref q, .int (nI e)]))) (hq : h[q]? = some (.inl (0, 60, .inl g))) (hn : n ≤ 60) (he : e ≤ 60) (hat : at_ < e) (hi : i < n)
    (hK : zJ mX6_longestCut (rmD (d + 1)) false 0 0 none Q 70 [some (.ref p), some (.ref s), some (.int (nI at_)), some (.int lg), some (.int (nI i)), some (.int (nI (min (n - i) (e - at_)))), some (.int (nI (s_fit f g n e (e - at_) i)))] [] h 0 0) : ∀ m x, x + m = s_fit f g n e (e - at_) i → s_fit f g n e (e - at_ - x) (i + x) = m → zJ mX6_longestCut (rmD (d + 1)) false 0 0 none Q 35 [some (.ref p), some (.ref s), some (.int (nI at_)), some (.int lg), some (.int (nI i)), some (.int (nI (min (n - i) (e - at_)))), some (.int (nI x))] [] h 0 0 := by
  intro m
  induction m with
  | zero =>
    intro x hx hz
    have hx1 := s_fit_le (f := f) (g := g) (n := n) (e := e) (e - at_) i
    rw [← hx, Nat.add_zero] at hK
    refine zj_iload dX6_longestCut_35 (by rfl) ?_
    refine zj_iload dX6_longestCut_37 (by rfl) ?_
    refine zj_icmp_geN (tgt := 70) dX6_longestCut_39 (by decide) (by omega) (fun q39 => ?_) (fun q39 => ?_)
    · exact hK
    · refine zj_aload_n dX6_longestCut_42 (by rfl) ?_
      refine zg_6_58 rfl dX6_longestCut_43 (by first | assumption | rfl) (by rfl) ?_
      refine zj_iload dX6_longestCut_46 (by rfl) ?_
      refine zj_iload dX6_longestCut_48 (by rfl) ?_
      refine zj_iaddN dX6_longestCut_50 ?_
      refine zj_baldN dX6_longestCut_51 (by first | assumption | rfl) (by omega) ?_
      refine zj_aload_n dX6_longestCut_52 (by rfl) ?_
      refine zg_6_30 rfl dX6_longestCut_53 (by first | assumption | rfl) (by rfl) ?_
      refine zj_iload_n dX6_longestCut_56 (by rfl) ?_
      refine zj_iload dX6_longestCut_57 (by rfl) ?_
      refine zj_iaddN dX6_longestCut_59 ?_
      refine zj_baldN dX6_longestCut_60 (by first | assumption | rfl) (by omega) ?_
      refine zj_icmp_ne (tgt := 70) dX6_longestCut_61 (by decide) (fun q61 => ?_) (fun q61 => ?_)
      · exact hK
      · exfalso
        rw [show e - at_ - x = (e - at_ - x - 1) + 1 by omega] at hz
        unfold s_fit at hz
        rw [if_pos (by omega), show e - (e - at_ - x - 1 + 1) = at_ + x by omega, if_pos q61] at hz
        omega
  | succ m ih =>
    intro x hx hz
    have hz1 := s_fit_le (f := f) (g := g) (n := n) (e := e) (e - at_ - x) (i + x)
    have hz2 := s_fit_le2 (f := f) (g := g) (n := n) (e := e) (e - at_ - x) (i + x)
    have hz3 := hz
    rw [show e - at_ - x = (e - at_ - (x + 1)) + 1 by omega] at hz3
    unfold s_fit at hz3
    rw [if_pos (by omega), show e - (e - at_ - (x + 1) + 1) = at_ + x by omega] at hz3
    have hfe : f (i + x) = g (at_ + x) := by
      by_cases h0 : f (i + x) = g (at_ + x)
      · exact h0
      · rw [if_neg h0] at hz3; omega
    rw [if_pos hfe] at hz3
    have hJ := ih (x + 1) (by omega) (by rw [show i + (x + 1) = i + x + 1 by omega]; omega)
    refine zj_iload dX6_longestCut_35 (by rfl) ?_
    refine zj_iload dX6_longestCut_37 (by rfl) ?_
    refine zj_icmp_geN (tgt := 70) dX6_longestCut_39 (by decide) (by omega) (fun zq => absurd zq (by omega)) (fun _ => ?_)
    refine zj_aload_n dX6_longestCut_42 (by rfl) ?_
    refine zg_6_58 rfl dX6_longestCut_43 (by first | assumption | rfl) (by rfl) ?_
    refine zj_iload dX6_longestCut_46 (by rfl) ?_
    refine zj_iload dX6_longestCut_48 (by rfl) ?_
    refine zj_iaddN dX6_longestCut_50 ?_
    refine zj_baldN dX6_longestCut_51 (by first | assumption | rfl) (by omega) ?_
    refine zj_aload_n dX6_longestCut_52 (by rfl) ?_
    refine zg_6_30 rfl dX6_longestCut_53 (by first | assumption | rfl) (by rfl) ?_
    refine zj_iload_n dX6_longestCut_56 (by rfl) ?_
    refine zj_iload dX6_longestCut_57 (by rfl) ?_
    refine zj_iaddN dX6_longestCut_59 ?_
    refine zj_baldN dX6_longestCut_60 (by first | assumption | rfl) (by omega) ?_
    refine zj_icmp_ne (tgt := 70) dX6_longestCut_61 (by decide) (fun zq => absurd (hfe) zq) (fun _ => ?_)
    refine zj_iincN dX6_longestCut_64 (by rfl) (by decide) ?_
    refine zj_goto (tgt := 35) dX6_longestCut_67 (by decide) ?_
    exact hJ
theorem x6_longestCut_l {at_ : Nat} (hp : h[p]? = some (.inr (2, [.ref r, .int (nI n)]))) (hr : h[r]? = some (.inl (0, 60, .inl f))) (hs : h[s]? = some (.inr (3, [.ref q, .int (nI e)]))) (hq : h[q]? = some (.inl (0, 60, .inl g))) (hn : n ≤ 60) (he : e ≤ 60) (hat : at_ < e) : ∀ m i o5 o6, i + m = n → zB mX6_longestCut (d + 1) (some (.int (nI (s_lc f g n e at_ n)))) h 5 [some (.ref p), some (.ref s), some (.int (nI at_)), some (.int (nI (s_lc f g n e at_ i))), some (.int (nI i)), o5, o6] [] h := by
  intro m
  induction m with
  | zero =>
    intro i o5 o6 hi
    refine zj_iload dX6_longestCut_5 (by rfl) ?_
    refine zj_aload_n dX6_longestCut_7 (by rfl) ?_
    refine zg_6_55 rfl dX6_longestCut_8 (by first | assumption | rfl) (by rfl) ?_
    refine zj_icmp_geN (tgt := 83) dX6_longestCut_11 (by decide) (by omega) (fun _ => ?_) (fun zq => absurd (by omega) zq)
    refine zj_iload_n dX6_longestCut_83 (by rfl) ?_
    refine zj_iret dX6_longestCut_84 rfl (Nat.le_refl _) (Nat.le_refl _) ?_
    exact ⟨by rw [show i = n by omega], rfl⟩
  | succ m ih =>
    intro i o5 o6 hi
    have hi2 := fun x5 x6 => ih (i + 1) x5 x6 (by omega)
    have l1 := s_lc_le (f := f) (g := g) (n := n) (e := e) (at_ := at_) i
    have l2 := s_fit_le (f := f) (g := g) (n := n) (e := e) (e - at_) i
    have hin := x6_longest_in (d := d) (lg := nI (s_lc f g n e at_ i)) (Q := fun v h' => v = some (.int (nI (s_lc f g n e at_ n))) ∧ h' = h) hp hr hs hq hn he hat (show i < n by omega) (by
      refine zj_iload_n dX6_longestCut_70 (by rfl) ?_
      refine zj_iload dX6_longestCut_71 (by rfl) ?_
      refine zc_6_62 rfl dX6_longestCut_73 (j9_max (by omega) (by omega)) (by exact Nat.le_of_ble_eq_true rfl) ?_
      refine zj_istore_n dX6_longestCut_76 (by decide) ?_
      refine zj_iincN dX6_longestCut_77 (by rfl) (by decide) ?_
      refine zj_goto (tgt := 5) dX6_longestCut_80 (by decide) ?_
      exact hi2 _ _) (s_fit f g n e (e - at_) i) 0 (by omega) (by rw [Nat.sub_zero, Nat.add_zero])
    refine zj_iload dX6_longestCut_5 (by rfl) ?_
    refine zj_aload_n dX6_longestCut_7 (by rfl) ?_
    refine zg_6_55 rfl dX6_longestCut_8 (by first | assumption | rfl) (by rfl) ?_
    refine zj_icmp_geN (tgt := 83) dX6_longestCut_11 (by decide) (by omega) (fun zq => absurd zq (by omega)) (fun _ => ?_)
    refine zj_aload_n dX6_longestCut_14 (by rfl) ?_
    refine zg_6_55 rfl dX6_longestCut_15 (by first | assumption | rfl) (by rfl) ?_
    refine zj_iload dX6_longestCut_18 (by rfl) ?_
    refine zj_isubN dX6_longestCut_20 (by omega) ?_
    refine zj_aload_n dX6_longestCut_21 (by rfl) ?_
    refine zg_6_23 rfl dX6_longestCut_22 (by first | assumption | rfl) (by rfl) ?_
    refine zj_iload_n dX6_longestCut_25 (by rfl) ?_
    refine zj_isubN dX6_longestCut_26 (by omega) ?_
    refine zc_6_59 rfl dX6_longestCut_27 (j9_min (by omega) (by omega)) (by exact Nat.le_of_ble_eq_true rfl) ?_
    refine zj_istore dX6_longestCut_30 (by decide) ?_
    refine zj_iconst (v := nI 0) dX6_longestCut_32 (by decide) ?_
    refine zj_istore dX6_longestCut_33 (by decide) ?_
    exact hin
theorem x6_longestCut {at_ : Nat} (hp : h[p]? = some (.inr (2, [.ref r, .int (nI n)]))) (hr : h[r]? = some (.inl (0, 60, .inl f))) (hs : h[s]? = some (.inr (3, [.ref q, .int (nI e)]))) (hq : h[q]? = some (.inl (0, 60, .inl g))) (hn : n ≤ 60) (he : e ≤ 60) (hat : at_ < e) : zD mX6_longestCut (d + 1) [.ref p, .ref s, .int (nI at_)] h (some (.int (nI (s_lc f g n e at_ n)))) h := by
  refine zD_of (by decide +kernel) (by exact Nat.le_of_ble_eq_true rfl) ?_
  show zB mX6_longestCut _ _ _ 0 [some (.ref p), some (.ref s), some (.int (nI at_)), none, none, none, none] [] _
  refine zj_iconst (v := nI 0) dX6_longestCut_0 (by decide) ?_
  refine zj_istore_n dX6_longestCut_1 (by decide) ?_
  refine zj_iconst (v := nI 0) dX6_longestCut_2 (by decide) ?_
  refine zj_istore dX6_longestCut_3 (by decide) ?_
  exact x6_longestCut_l (d := d) hp hr hs hq hn he hat n 0 none none (by omega)
/-- the greedy cuts: from at_ on, with c done -/
def s_gc (lc : Nat → Nat) (e : Nat) : Nat → Nat → Nat → Option Nat
  | 0, at_, c => if e ≤ at_ then some c else none
  | m + 1, at_, c => if e ≤ at_ then some c else if lc at_ = 0 then none else s_gc lc e m (at_ + lc at_) (c + 1)
def s_oN (o : Option Nat) : Int32 := match o with
  | none => -1000000005
  | some c => nI c
theorem x6_fewestCuts_l (hp : h[p]? = some (.inr (2, [.ref r, .int (nI n)]))) (hr : h[r]? = some (.inl (0, 60, .inl f))) (hs : h[s]? = some (.inr (3, [.ref q, .int (nI e)]))) (hq : h[q]? = some (.inl (0, 60, .inl g))) (hn : n ≤ 60) (he : e ≤ 60) : ∀ m at_ c o5, e - at_ ≤ m → at_ ≤ e → zB mX6_fewestCuts (d + 2) (some (.int (s_oN (s_gc (fun x => s_lc f g n e x n) e m at_ c)))) h 15 [some (.ref k), some (.ref p), some (.ref s), some (.int (nI c)), some (.int (nI at_)), o5] [] h := by
  intro m
  induction m with
  | zero =>
    intro at_ c o5 hm ha
    have hg : s_gc (fun x => s_lc f g n e x n) e 0 at_ c = some c := by unfold s_gc; rw [if_pos (by omega)]
    rw [hg]
    refine zj_iload dX6_fewestCuts_15 (by rfl) ?_
    refine zj_aload_n dX6_fewestCuts_17 (by rfl) ?_
    refine zg_6_23 rfl dX6_fewestCuts_18 (by first | assumption | rfl) (by rfl) ?_
    refine zj_icmp_geN (tgt := 54) dX6_fewestCuts_21 (by decide) (by omega) (fun _ => ?_) (fun zq => absurd (by omega) zq)
    refine zj_iload_n dX6_fewestCuts_54 (by rfl) ?_
    refine zj_iret dX6_fewestCuts_55 rfl (Nat.le_refl _) (Nat.le_refl _) ?_
    exact ⟨rfl, rfl⟩
  | succ m ih =>
    intro at_ c o5 hm ha
    have l1 := s_lc_le (f := f) (g := g) (n := n) (e := e) (at_ := at_) n
    unfold s_gc
    refine zj_iload dX6_fewestCuts_15 (by rfl) ?_
    refine zj_aload_n dX6_fewestCuts_17 (by rfl) ?_
    refine zg_6_23 rfl dX6_fewestCuts_18 (by first | assumption | rfl) (by rfl) ?_
    refine zj_icmp_geN (tgt := 54) dX6_fewestCuts_21 (by decide) (by omega) (fun q21 => ?_) (fun q21 => ?_)
    · refine zj_iload_n dX6_fewestCuts_54 (by rfl) ?_
      refine zj_iret dX6_fewestCuts_55 rfl (Nat.le_refl _) (Nat.le_refl _) ?_
      exact ⟨by rw [if_pos (by omega)]; rfl, rfl⟩
    · refine zj_aload_n dX6_fewestCuts_24 (by rfl) ?_
      refine zj_aload_n dX6_fewestCuts_25 (by rfl) ?_
      refine zj_iload dX6_fewestCuts_26 (by rfl) ?_
      refine zc_6_51 rfl dX6_fewestCuts_28 (x6_longestCut (d := d) hp hr hs hq hn he (by omega)) (by exact Nat.le_of_ble_eq_true rfl) ?_
      refine zj_istore dX6_fewestCuts_31 (by decide) ?_
      refine zj_iload dX6_fewestCuts_33 (by rfl) ?_
      refine zj_if_gtN (tgt := 41) dX6_fewestCuts_35 (by decide) (by omega) (fun q35 => ?_) (fun q35 => ?_)
      · refine zj_iload dX6_fewestCuts_41 (by rfl) ?_
        refine zj_iload dX6_fewestCuts_43 (by rfl) ?_
        refine zj_iaddN dX6_fewestCuts_45 ?_
        refine zj_istore dX6_fewestCuts_46 (by decide) ?_
        refine zj_iincN dX6_fewestCuts_48 (by rfl) (by decide) ?_
        refine zj_goto (tgt := 15) dX6_fewestCuts_51 (by decide) ?_
        rw [if_neg (by omega), if_neg (by show ¬ s_lc f g n e at_ n = 0; omega)]
        exact ih (at_ + s_lc f g n e at_ n) (c + 1) _ (by omega) (by omega)
      · refine zj_ldc (v := -1000000005) dX6_fewestCuts_38 zq_473 ?_
        refine zj_iret dX6_fewestCuts_40 rfl (Nat.le_refl _) (Nat.le_refl _) ?_
        exact ⟨by rw [if_neg (by omega), if_pos (by show s_lc f g n e at_ n = 0; omega)]; rfl, rfl⟩
theorem x6_fewestCuts (hp : h[p]? = some (.inr (2, [.ref r, .int (nI n)]))) (hr : h[r]? = some (.inl (0, 60, .inl f))) (hs : h[s]? = some (.inr (3, [.ref q, .int (nI e)]))) (hq : h[q]? = some (.inl (0, 60, .inl g))) (hn : n ≤ 60) (he : e ≤ 60) : zD mX6_fewestCuts (d + 2) [.ref k, .ref p, .ref s] h (some (.int (if e = 0 then -1000000005 else s_oN (s_gc (fun x => s_lc f g n e x n) e e 0 0)))) h := by
  refine zD_of (by decide +kernel) (by exact Nat.le_of_ble_eq_true rfl) ?_
  show zB mX6_fewestCuts _ _ _ 0 [some (.ref k), some (.ref p), some (.ref s), none, none, none] [] _
  refine zj_aload_n dX6_fewestCuts_0 (by rfl) ?_
  refine zg_6_23 rfl dX6_fewestCuts_1 (by first | assumption | rfl) (by rfl) ?_
  refine zj_if_gtN (tgt := 10) dX6_fewestCuts_4 (by decide) (by omega) (fun q4 => ?_) (fun q4 => ?_)
  · refine zj_iconst (v := nI 0) dX6_fewestCuts_10 (by decide) ?_
    refine zj_istore_n dX6_fewestCuts_11 (by decide) ?_
    refine zj_iconst (v := nI 0) dX6_fewestCuts_12 (by decide) ?_
    refine zj_istore dX6_fewestCuts_13 (by decide) ?_
    rw [if_neg (by omega)]
    exact x6_fewestCuts_l (d := d) hp hr hs hq hn he e 0 0 none (by omega) (by omega)
  · refine zj_ldc (v := -1000000005) dX6_fewestCuts_7 zq_473 ?_
    refine zj_iret dX6_fewestCuts_9 rfl (Nat.le_refl _) (Nat.le_refl _) ?_
    exact ⟨by rw [if_pos (by omega)], rfl⟩
end TV
