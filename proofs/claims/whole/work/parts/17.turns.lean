/-! CountBook$Turns -/
/-- how far the phrase from i on goes along with the sheet's last t places -/
def s_fit (f g : Nat → Int32) (n e : Nat) : Nat → Nat → Nat
  | 0, _ => 0
  | t + 1, i => if i < n then (if f i = g (e - (t + 1)) then s_fit f g n e t (i + 1) + 1 else 0) else 0
theorem s_fit_le {f g : Nat → Int32} {n e : Nat} : ∀ (t i : Nat), s_fit f g n e t i ≤ t
  | 0, _ => Nat.le_refl _
  | t + 1, i => by
    have h := s_fit_le (f := f) (g := g) (n := n) (e := e) t (i + 1)
    unfold s_fit
    split
    · split <;> omega
    · omega
theorem s_fit_le2 {f g : Nat → Int32} {n e : Nat} : ∀ (t i : Nat), s_fit f g n e t i ≤ n - i
  | 0, _ => Nat.zero_le _
  | t + 1, i => by
    have h := s_fit_le2 (f := f) (g := g) (n := n) (e := e) t (i + 1)
    unfold s_fit
    split
    · split <;> omega
    · omega
def s_acc (P F : Nat → Nat) (T : Nat) : Nat → Nat
  | 0 => 0
  | i + 1 => s_acc P F T i + (P T - P (T - F i))
theorem s_acc_congr {P P' F F' : Nat → Nat} {T : Nat} : ∀ n, (∀ k, k ≤ T → P k = P' k) → (∀ i, i < n → F i = F' i) → s_acc P F T n = s_acc P' F' T n
  | 0, _, _ => rfl
  | n + 1, hP, hF => by
    show s_acc P F T n + _ = s_acc P' F' T n + _
    rw [s_acc_congr n hP (fun i hi => hF i (by omega)), hP T (Nat.le_refl _), hP (T - F n) (by omega), hF n (by omega)]
def s_M : Nat := 1000000000
/-- sums of the ways of what is left, of fewer than k places; good for k up to t + 1 -/
def s_ps (fit : Nat → Nat → Nat) (n : Nat) : Nat → Nat → Nat
  | 0, k => if k = 0 then 0 else 1
  | t + 1, k => if k ≤ t + 1 then s_ps fit n t k else s_ps fit n t (t + 1) + min (s_acc (s_ps fit n t) (fit (t + 1)) (t + 1) n) s_M
def s_P (fit : Nat → Nat → Nat) (n k : Nat) : Nat := s_ps fit n k k
theorem s_ps_st {fit : Nat → Nat → Nat} {n : Nat} (t : Nat) : ∀ (m k : Nat), k ≤ t + 1 → s_ps fit n (t + m) k = s_ps fit n t k
  | 0, _, _ => rfl
  | m + 1, k, h => by
    show (if k ≤ t + m + 1 then _ else _) = _
    rw [if_pos (by omega)]
    exact s_ps_st t m k h
theorem s_P_eq {fit : Nat → Nat → Nat} {n t k : Nat} (h : k ≤ t + 1) : s_ps fit n t k = s_P fit n k := by
  unfold s_P
  by_cases hk : k ≤ t
  · have := s_ps_st (fit := fit) (n := n) k (t - k) k (by omega)
    rw [show k + (t - k) = t by omega] at this
    exact this
  · have hk2 : k = t + 1 := by omega
    subst hk2
    have := s_ps_st (fit := fit) (n := n) t 1 (t + 1) (by omega)
    exact this.symm
theorem s_P_0 {fit : Nat → Nat → Nat} {n : Nat} : s_P fit n 0 = 0 := rfl
theorem s_P_1 {fit : Nat → Nat → Nat} {n : Nat} : s_P fit n 1 = 1 := by
  rw [← s_P_eq (t := 0) (by omega)]; rfl
theorem s_P_2 {fit : Nat → Nat → Nat} {n : Nat} (t : Nat) : s_P fit n (t + 2) = s_P fit n (t + 1) + min (s_acc (s_P fit n) (fit (t + 1)) (t + 1) n) s_M := by
  rw [← s_P_eq (t := t + 1) (k := t + 2) (by omega)]
  show (if t + 2 ≤ t + 1 then _ else _) = _
  rw [if_neg (by omega), s_P_eq (by omega), s_acc_congr n (fun k hk => s_P_eq (by omega)) (fun i _ => rfl)]
theorem s_P_s {fit : Nat → Nat → Nat} {n : Nat} : ∀ k, s_P fit n k ≤ s_P fit n (k + 1) ∧ s_P fit n (k + 1) ≤ s_P fit n k + s_M
  | 0 => by rw [s_P_0, s_P_1]; unfold s_M; omega
  | k + 1 => by rw [s_P_2]; omega
theorem s_P_mono {fit : Nat → Nat → Nat} {n : Nat} {k : Nat} : ∀ m, s_P fit n k ≤ s_P fit n (k + m)
  | 0 => Nat.le_refl _
  | m + 1 => Nat.le_trans (s_P_mono m) (s_P_s _).1
theorem s_P_le {fit : Nat → Nat → Nat} {n : Nat} : ∀ k, s_P fit n k ≤ s_M * k
  | 0 => by rw [s_P_0]; omega
  | k + 1 => by
    have h1 := s_P_le (fit := fit) (n := n) k
    have h2 := (s_P_s (fit := fit) (n := n) k).2
    rw [Nat.mul_succ]
    omega
theorem s_acc_le {P F : Nat → Nat} {T : Nat} : ∀ n, s_acc P F T n ≤ P T * n
  | 0 => Nat.zero_le _
  | n + 1 => by
    have h := s_acc_le (P := P) (F := F) (T := T) n
    show s_acc P F T n + (P T - P (T - F n)) ≤ _
    rw [Nat.mul_succ]
    omega
section TU
variable {d k c b p r s q n e : Nat} {h : zH} {f g ft : Nat → Int32} {wb : Nat → Int64}
theorem x6_forget_l : ∀ m i (ft : Nat → Int32) (h : zH), h[k]? = some (.inr (6, [.ref c, .ref b])) → h[c]? = some (.inl (1, 61, .inl ft)) → ¬ c = k → i + m = 61 → (∀ j, j < i → ft j = nI 0) → ∃ ft', (∀ j, j < 61 → ft' j = nI 0) ∧ zB mX6_forgetFits d none (h.set c (.inl (1, 61, .inl ft'))) 2 [some (.ref k), some (.int (nI i))] [] h := by
  intro m
  induction m with
  | zero =>
    intro i ft h hk hc hck hi hf
    refine ⟨ft, fun j hj => hf j (by omega), ?_⟩
    have he : h.set c (.inl (1, 61, .inl ft)) = h := by
      apply List.ext_getElem?
      intro j
      by_cases hj : c = j
      · subst hj; rw [zset_eq hc, hc]
      · rw [List.getElem?_set, if_neg hj]
    rw [he]
    refine zj_iload_n dX6_forgetFits_2 (by rfl) ?_
    refine zj_aload_n dX6_forgetFits_3 (by rfl) ?_
    refine zg_6_11 rfl dX6_forgetFits_4 (by first | assumption | rfl) (by rfl) ?_
    refine zj_alenI dX6_forgetFits_7 (by first | assumption | rfl) (by decide) ?_
    refine zj_icmp_geN (tgt := 24) dX6_forgetFits_8 (by decide) (by omega) (fun _ => ?_) (fun zq => absurd (by omega) zq)
    refine zj_vret dX6_forgetFits_24 rfl (Nat.le_refl _) (Nat.le_refl _) ?_
    exact ⟨rfl, rfl⟩
  | succ m ih =>
    intro i ft h hk hc hck hi hf
    obtain ⟨f', hf', hJ⟩ := ih (i + 1) (upd ft i (nI 0)) (h.set c (.inl (1, 61, .inl (upd ft i (nI 0))))) (zset_ne hck hk) (zset_eq hc) hck (by omega) (fun j hj => by
      by_cases hji : j = i
      · subst hji; rw [pk_us]
      · rw [pk_un hji]; exact hf j (by omega))
    refine ⟨f', hf', ?_⟩
    rw [List.set_set] at hJ
    refine zj_iload_n dX6_forgetFits_2 (by rfl) ?_
    refine zj_aload_n dX6_forgetFits_3 (by rfl) ?_
    refine zg_6_11 rfl dX6_forgetFits_4 (by first | assumption | rfl) (by rfl) ?_
    refine zj_alenI dX6_forgetFits_7 (by first | assumption | rfl) (by decide) ?_
    refine zj_icmp_geN (tgt := 24) dX6_forgetFits_8 (by decide) (by omega) (fun zq => absurd zq (by omega)) (fun _ => ?_)
    refine zj_aload_n dX6_forgetFits_11 (by rfl) ?_
    refine zg_6_11 rfl dX6_forgetFits_12 (by first | assumption | rfl) (by rfl) ?_
    refine zj_iload_n dX6_forgetFits_15 (by rfl) ?_
    refine zj_iconst (v := nI 0) dX6_forgetFits_16 (by decide) ?_
    refine zj_iastN dX6_forgetFits_17 (by first | assumption | rfl) (by omega) ?_
    refine zj_iincN dX6_forgetFits_18 (by rfl) (by decide) ?_
    refine zj_goto (tgt := 2) dX6_forgetFits_21 (by decide) ?_
    exact hJ
theorem x6_forget (hk : h[k]? = some (.inr (6, [.ref c, .ref b]))) (hc : h[c]? = some (.inl (1, 61, .inl ft))) (hck : ¬ c = k) : ∃ ft', (∀ j, j < 61 → ft' j = nI 0) ∧ zD mX6_forgetFits d [.ref k] h none (h.set c (.inl (1, 61, .inl ft'))) := by
  obtain ⟨f', hf', hJ⟩ := x6_forget_l (d := d) 61 0 ft h hk hc hck (by omega) (fun j hj => by omega)
  refine ⟨f', hf', ?_⟩
  refine zD_of (by decide +kernel) (by exact Nat.le_of_ble_eq_true rfl) ?_
  show zB mX6_forgetFits _ _ _ 0 [some (.ref k), none] [] _
  refine zj_iconst (v := nI 0) dX6_forgetFits_0 (by decide) ?_
  refine zj_istore_n dX6_forgetFits_1 (by decide) ?_
  exact hJ
theorem x6_fitFrom_l {w : Int32} {F : Nat → Nat} (hn : n ≤ 60) : ∀ m i (ft : Nat → Int32) (h : zH), h[k]? = some (.inr (6, [.ref c, .ref b])) → h[c]? = some (.inl (1, 61, .inl ft)) → h[p]? = some (.inr (2, [.ref r, .int (nI n)])) → h[r]? = some (.inl (0, 60, .inl f)) → ¬ c = k ∧ ¬ c = p ∧ ¬ c = r → i + m = n → (∀ j, j < i → ft j = nI (if f j = w then F (j + 1) + 1 else 0)) → (∀ j, i ≤ j → j ≤ 60 → ft j = nI (F j)) → ∃ ft', (∀ j, j < n → ft' j = nI (if f j = w then F (j + 1) + 1 else 0)) ∧ (∀ j, n ≤ j → j ≤ 60 → ft' j = nI (F j)) ∧ zB mX6_fitFrom d none (h.set c (.inl (1, 61, .inl ft'))) 2 [some (.ref k), some (.ref p), some (.int w), some (.int (nI i))] [] h := by
  intro m
  induction m with
  | zero =>
    intro i ft h hk hc hp hr hne hi h1 h2
    refine ⟨ft, fun j hj => h1 j (by omega), fun j hj h6 => h2 j (by omega) h6, ?_⟩
    have he : h.set c (.inl (1, 61, .inl ft)) = h := by
      apply List.ext_getElem?
      intro j
      by_cases hj : c = j
      · subst hj; rw [zset_eq hc, hc]
      · rw [List.getElem?_set, if_neg hj]
    rw [he]
    refine zj_iload_n dX6_fitFrom_2 (by rfl) ?_
    refine zj_aload_n dX6_fitFrom_3 (by rfl) ?_
    refine zg_6_55 rfl dX6_fitFrom_4 (by first | assumption | rfl) (by rfl) ?_
    refine zj_icmp_geN (tgt := 46) dX6_fitFrom_7 (by decide) (by omega) (fun _ => ?_) (fun zq => absurd (by omega) zq)
    refine zj_vret dX6_fitFrom_46 rfl (Nat.le_refl _) (Nat.le_refl _) ?_
    exact ⟨rfl, rfl⟩
  | succ m ih =>
    intro i ft h hk hc hp hr hne hi h1 h2
    obtain ⟨f', hf1, hf2, hJ⟩ := ih (i + 1) (upd ft i (nI (if f i = w then F (i + 1) + 1 else 0))) (h.set c (.inl (1, 61, .inl (upd ft i (nI (if f i = w then F (i + 1) + 1 else 0)))))) (zset_ne hne.1 hk) (zset_eq hc) (zset_ne hne.2.1 hp) (zset_ne hne.2.2 hr) hne (by omega) (fun j hj => by
      by_cases hji : j = i
      · subst hji; rw [pk_us]
      · rw [pk_un hji]; exact h1 j (by omega)) (fun j hj h6 => by rw [pk_un (by omega)]; exact h2 j (by omega) h6)
    refine ⟨f', hf1, hf2, ?_⟩
    rw [List.set_set] at hJ
    refine zj_iload_n dX6_fitFrom_2 (by rfl) ?_
    refine zj_aload_n dX6_fitFrom_3 (by rfl) ?_
    refine zg_6_55 rfl dX6_fitFrom_4 (by first | assumption | rfl) (by rfl) ?_
    refine zj_icmp_geN (tgt := 46) dX6_fitFrom_7 (by decide) (by omega) (fun zq => absurd zq (by omega)) (fun _ => ?_)
    refine zj_aload_n dX6_fitFrom_10 (by rfl) ?_
    refine zg_6_11 rfl dX6_fitFrom_11 (by first | assumption | rfl) (by rfl) ?_
    refine zj_iload_n dX6_fitFrom_14 (by rfl) ?_
    refine zj_aload_n dX6_fitFrom_15 (by rfl) ?_
    refine zg_6_58 rfl dX6_fitFrom_16 (by first | assumption | rfl) (by rfl) ?_
    refine zj_iload_n dX6_fitFrom_19 (by rfl) ?_
    refine zj_baldN dX6_fitFrom_20 (by first | assumption | rfl) (by omega) ?_
    refine zj_iload_n dX6_fitFrom_21 (by rfl) ?_
    refine zj_icmp_ne (tgt := 38) dX6_fitFrom_22 (by decide) (fun q22 => ?_) (fun q22 => ?_)
    · refine zj_iconst (v := nI 0) dX6_fitFrom_38 (by decide) ?_
      refine zj_iastN dX6_fitFrom_39 (by first | assumption | rfl) (by omega) ?_
      refine zj_iincN dX6_fitFrom_40 (by rfl) (by decide) ?_
      refine zj_goto (tgt := 2) dX6_fitFrom_43 (by decide) ?_
      first | (rw [if_pos q22] at hJ; exact hJ) | (rw [if_neg q22] at hJ; exact hJ)
    · refine zj_aload_n dX6_fitFrom_25 (by rfl) ?_
      refine zg_6_11 rfl dX6_fitFrom_26 (by first | assumption | rfl) (by rfl) ?_
      refine zj_iload_n dX6_fitFrom_29 (by rfl) ?_
      refine zj_iconst (v := nI 1) dX6_fitFrom_30 (by decide) ?_
      refine zj_iaddN dX6_fitFrom_31 ?_
      refine zj_ialdN dX6_fitFrom_32 (by first | assumption | rfl) (by omega) ?_
      rw [h2 (i + 1) (by omega) (by omega)]
      refine zj_iconst (v := nI 1) dX6_fitFrom_33 (by decide) ?_
      refine zj_iaddN dX6_fitFrom_34 ?_
      refine zj_goto (tgt := 39) dX6_fitFrom_35 (by decide) ?_
      refine zj_iastN dX6_fitFrom_39 (by first | assumption | rfl) (by omega) ?_
      refine zj_iincN dX6_fitFrom_40 (by rfl) (by decide) ?_
      refine zj_goto (tgt := 2) dX6_fitFrom_43 (by decide) ?_
      first | (rw [if_pos q22] at hJ; exact hJ) | (rw [if_neg q22] at hJ; exact hJ)
theorem x6_fitFrom {w : Int32} {F : Nat → Nat} (hn : n ≤ 60) (hk : h[k]? = some (.inr (6, [.ref c, .ref b]))) (hc : h[c]? = some (.inl (1, 61, .inl ft))) (hp : h[p]? = some (.inr (2, [.ref r, .int (nI n)]))) (hr : h[r]? = some (.inl (0, 60, .inl f))) (hne : ¬ c = k ∧ ¬ c = p ∧ ¬ c = r) (h2 : ∀ j, j ≤ 60 → ft j = nI (F j)) : ∃ ft', (∀ j, j < n → ft' j = nI (if f j = w then F (j + 1) + 1 else 0)) ∧ (∀ j, n ≤ j → j ≤ 60 → ft' j = nI (F j)) ∧ zD mX6_fitFrom d [.ref k, .ref p, .int w] h none (h.set c (.inl (1, 61, .inl ft'))) := by
  obtain ⟨f', hf1, hf2, hJ⟩ := x6_fitFrom_l (d := d) (w := w) (F := F) hn n 0 ft h hk hc hp hr hne (by omega) (fun j hj => by omega) (fun j _ h6 => h2 j h6)
  refine ⟨f', hf1, hf2, ?_⟩
  refine zD_of (by decide +kernel) (by exact Nat.le_of_ble_eq_true rfl) ?_
  show zB mX6_fitFrom _ _ _ 0 [some (.ref k), some (.ref p), some (.int w), none] [] _
  refine zj_iconst (v := nI 0) dX6_fitFrom_0 (by decide) ?_
  refine zj_istore_n dX6_fitFrom_1 (by decide) ?_
  exact hJ
theorem x6_waysFrom_l {F P : Nat → Nat} {at_ : Nat} (hn : n ≤ 60) (he : e ≤ 60) (hat : at_ < e) (hk : h[k]? = some (.inr (6, [.ref c, .ref b]))) (hc : h[c]? = some (.inl (1, 61, .inl ft))) (hb : h[b]? = some (.inl (2, 62, .inr (.inl wb)))) (hp : h[p]? = some (.inr (2, [.ref r, .int (nI n)]))) (hF : ∀ j, j < n → ft j = nI (F j) ∧ F j ≤ e - at_) (hw : ∀ j, at_ < j → j ≤ e + 1 → wb j = lN (P (e + 1 - j))) (hP : ∀ j, j ≤ e - at_ → P j ≤ P (e - at_)) : ∀ m i o7, i + m = n → zB mX6_waysFrom (d + 1) (some (.long (lN (s_acc P F (e - at_) n)))) h 6 [some (.ref k), some (.ref p), some (.int (nI at_)), some (.int (nI e)), some (.long (lN (s_acc P F (e - at_) i))), none, some (.int (nI i)), o7] [] h := by
  intro m
  induction m with
  | zero =>
    intro i o7 hi
    refine zj_iload dX6_waysFrom_6 (by rfl) ?_
    refine zj_aload_n dX6_waysFrom_8 (by rfl) ?_
    refine zg_6_55 rfl dX6_waysFrom_9 (by first | assumption | rfl) (by rfl) ?_
    refine zj_icmp_geN (tgt := 59) dX6_waysFrom_12 (by decide) (by omega) (fun _ => ?_) (fun zq => absurd (by omega) zq)
    refine zj_lload dX6_waysFrom_59 (by rfl) ?_
    refine zj_lret dX6_waysFrom_61 rfl (Nat.le_refl _) (Nat.le_refl _) ?_
    exact ⟨by rw [show i = n by omega], rfl⟩
  | succ m ih =>
    intro i o7 hi
    obtain ⟨hF1, hF2⟩ := hF i (by omega)
    have hi2 := fun x7 => ih (i + 1) x7 (by omega)
    have e1 : s_acc P F (e - at_) (i + 1) = s_acc P F (e - at_) i + (P (e - at_) - P (e - at_ - F i)) := rfl
    have e2 : min (at_ + F i) e = at_ + F i := by omega
    rw [e1] at hi2
    refine zj_iload dX6_waysFrom_6 (by rfl) ?_
    refine zj_aload_n dX6_waysFrom_8 (by rfl) ?_
    refine zg_6_55 rfl dX6_waysFrom_9 (by first | assumption | rfl) (by rfl) ?_
    refine zj_icmp_geN (tgt := 59) dX6_waysFrom_12 (by decide) (by omega) (fun zq => absurd zq (by omega)) (fun _ => ?_)
    refine zj_iload_n dX6_waysFrom_15 (by rfl) ?_
    refine zj_aload_n dX6_waysFrom_16 (by rfl) ?_
    refine zg_6_11 rfl dX6_waysFrom_17 (by first | assumption | rfl) (by rfl) ?_
    refine zj_iload dX6_waysFrom_20 (by rfl) ?_
    refine zj_ialdN dX6_waysFrom_22 (by first | assumption | rfl) (by omega) ?_
    rw [hF1]
    refine zj_iaddN dX6_waysFrom_23 ?_
    refine zj_iload_n dX6_waysFrom_24 (by rfl) ?_
    refine zc_6_59 rfl dX6_waysFrom_25 (j9_min (show at_ + F i < 2 ^ 31 by omega) (show e < 2 ^ 31 by omega)) (by exact Nat.le_of_ble_eq_true rfl) ?_
    rw [e2]
    refine zj_iconst (v := nI 1) dX6_waysFrom_28 (by decide) ?_
    refine zj_iaddN dX6_waysFrom_29 ?_
    refine zj_istore dX6_waysFrom_30 (by decide) ?_
    refine zj_lload dX6_waysFrom_32 (by rfl) ?_
    refine zj_aload_n dX6_waysFrom_34 (by rfl) ?_
    refine zg_6_19 rfl dX6_waysFrom_35 (by first | assumption | rfl) (by rfl) ?_
    refine zj_iload_n dX6_waysFrom_38 (by rfl) ?_
    refine zj_iconst (v := nI 1) dX6_waysFrom_39 (by decide) ?_
    refine zj_iaddN dX6_waysFrom_40 ?_
    refine zj_laldN dX6_waysFrom_41 (by first | assumption | rfl) (by omega) ?_
    rw [hw (at_ + 1) (by omega) (by omega)]
    refine zj_aload_n dX6_waysFrom_42 (by rfl) ?_
    refine zg_6_19 rfl dX6_waysFrom_43 (by first | assumption | rfl) (by rfl) ?_
    refine zj_iload dX6_waysFrom_46 (by rfl) ?_
    refine zj_laldN dX6_waysFrom_48 (by first | assumption | rfl) (by omega) ?_
    rw [hw (at_ + F i + 1) (by omega) (by omega), show e + 1 - (at_ + 1) = e - at_ by omega, show e + 1 - (at_ + F i + 1) = e - at_ - F i by omega]
    refine zj_lsub dX6_waysFrom_49 ?_
    rw [lN_sub (hP _ (by omega))]
    refine zj_ladd dX6_waysFrom_50 ?_
    rw [lN_add]
    refine zj_lstore dX6_waysFrom_51 (by decide) ?_
    refine zj_iincN dX6_waysFrom_53 (by rfl) (by decide) ?_
    refine zj_goto (tgt := 6) dX6_waysFrom_56 (by decide) ?_
    exact hi2 _
theorem x6_waysFrom {F P : Nat → Nat} {at_ : Nat} (hn : n ≤ 60) (he : e ≤ 60) (hat : at_ < e) (hk : h[k]? = some (.inr (6, [.ref c, .ref b]))) (hc : h[c]? = some (.inl (1, 61, .inl ft))) (hb : h[b]? = some (.inl (2, 62, .inr (.inl wb)))) (hp : h[p]? = some (.inr (2, [.ref r, .int (nI n)]))) (hF : ∀ j, j < n → ft j = nI (F j) ∧ F j ≤ e - at_) (hw : ∀ j, at_ < j → j ≤ e + 1 → wb j = lN (P (e + 1 - j))) (hP : ∀ j, j ≤ e - at_ → P j ≤ P (e - at_)) : zD mX6_waysFrom (d + 1) [.ref k, .ref p, .int (nI at_), .int (nI e)] h (some (.long (lN (s_acc P F (e - at_) n)))) h := by
  refine zD_of (by decide +kernel) (by exact Nat.le_of_ble_eq_true rfl) ?_
  show zB mX6_waysFrom _ _ _ 0 [some (.ref k), some (.ref p), some (.int (nI at_)), some (.int (nI e)), none, none, none, none] [] _
  refine zj_lconst (v := 0) dX6_waysFrom_0 (by decide) ?_
  refine zj_lstore dX6_waysFrom_1 (by decide) ?_
  refine zj_iconst (v := nI 0) dX6_waysFrom_3 (by decide) ?_
  refine zj_istore dX6_waysFrom_4 (by decide) ?_
  exact x6_waysFrom_l (d := d) hn he hat hk hc hb hp hF hw hP n 0 none (by omega)
end TU
