/-! ways, cuts, hand, strains, plays: class side -/
theorem s_fit_congr {f f' g g' : Nat → Int32} {n e : Nat} (hf : ∀ i, i < n → f i = f' i) (hg : ∀ j, j < e → g j = g' j) : ∀ t i, t ≤ e → s_fit f g n e t i = s_fit f' g' n e t i
  | 0, _, _ => rfl
  | t + 1, i, ht => by
    unfold s_fit
    by_cases hi : i < n
    · rw [if_pos hi, if_pos hi, hf i hi, hg _ (by omega), s_fit_congr hf hg t (i + 1) (by omega)]
    · rw [if_neg hi, if_neg hi]
theorem s_ps_congr {fit fit' : Nat → Nat → Nat} {n K : Nat} (hf : ∀ t, t ≤ K → ∀ i, fit t i = fit' t i) : ∀ t, t ≤ K → ∀ k, s_ps fit n t k = s_ps fit' n t k
  | 0, _, _ => rfl
  | t + 1, ht, k => by
    have ih := s_ps_congr (n := n) hf t (by omega)
    show (if k ≤ t + 1 then _ else _) = (if k ≤ t + 1 then _ else _)
    rw [ih k, ih (t + 1), s_acc_congr n (fun k _ => ih k) (fun i _ => hf (t + 1) ht i)]
theorem s_wl_congr {fit fit' : Nat → Nat → Nat} {n e : Nat} (hf : ∀ t, t ≤ e → ∀ i, fit t i = fit' t i) : s_wl (s_P fit n) e = s_wl (s_P fit' n) e := by
  unfold s_wl
  rw [← s_P_eq (t := e) (k := e + 1) (by omega), ← s_P_eq (t := e) (k := e + 1) (by omega), ← s_P_eq (t := e) (k := e) (by omega), ← s_P_eq (t := e) (k := e) (by omega), s_ps_congr hf e (Nat.le_refl _), s_ps_congr hf e (Nat.le_refl _)]
theorem s_lc_congr {f f' g g' : Nat → Int32} {n e x : Nat} (hf : ∀ i, i < n → f i = f' i) (hg : ∀ j, j < e → g j = g' j) : ∀ i, s_lc f g n e x i = s_lc f' g' n e x i
  | 0 => rfl
  | i + 1 => by
    show max _ _ = max _ _
    rw [s_lc_congr hf hg i, s_fit_congr hf hg _ _ (by omega)]
theorem s_gc_congr {lc lc' : Nat → Nat} {e : Nat} (h : ∀ x, lc x = lc' x) : ∀ m x c, s_gc lc e m x c = s_gc lc' e m x c
  | 0, _, _ => rfl
  | m + 1, x, c => by
    unfold s_gc
    rw [h x, s_gc_congr h m]
/-- a phrase's and a sheet's rows as the machine's numbers -/
def s_pf (l : List Nat) : Nat → Int32 := fun j => nI (l.getD j 0)
def s_sg (l : List Int32) : Nat → Int32 := fun j => l.getD j 0
section TO
variable {h h' : zH} {C : Nat → List (Nat × Nat)} {P : Nat → List Nat} {S : Nat → Option (List Int32)} {T : List Nat} {H H' : Nat → Nat} {O : List (Nat × Nat)} {g d : Nat}
theorem WS_le (w : WS S) {i : Nat} (hi : i < 2) : ∀ n, (S i).map List.length = some n → n ≤ 60 := by
  intro n hn
  cases hs : S i with
  | none => rw [hs] at hn; cases hn
  | some l => rw [hs] at hn; cases hn; exact (w i hi l hs).1
def s_badt (p s : Int32) : Prop := (p < 0 ∨ 6 ≤ p) ∨ (s < 0 ∨ 2 ≤ s)
/-- a sheet is there, or isn't, as isMissing says -/
theorem x3_mN (w : WF C P S T H O g) (r : RX h C P S T H O g) {s : Nat} (hs : s < 2) (hn : S s = none) : zD mX3_isMissing d [.ref (43 + 2 * s)] h (some (.int 1)) h := by
  obtain ⟨-, -, -, rs, -⟩ := id r
  obtain ⟨s0, -⟩ := rs s hs
  have hM := x3_isMissing (d := d) s0 (WS_le w.2.2.1 hs)
  rw [if_pos (by rw [hn]; rfl)] at hM
  exact hM
theorem x3_mY (w : WF C P S T H O g) (r : RX h C P S T H O g) {s : Nat} {l : List Int32} (hs : s < 2) (hl : S s = some l) : zD mX3_isMissing d [.ref (43 + 2 * s)] h (some (.int 0)) h := by
  obtain ⟨-, -, -, rs, -⟩ := id r
  obtain ⟨s0, -⟩ := rs s hs
  have hM := x3_isMissing (d := d) s0 (WS_le w.2.2.1 hs)
  rw [if_neg (by rw [hl]; intro e; cases e)] at hM
  exact hM
theorem RX_U (r : RX h C P S T H O g) (e1 : zEq 0 8 h h') (e2 : zEq 12 63 h h') (ru : RU h') : RX h' C P S T H O g := by
  obtain ⟨r0, r1, r2, r3, r4, r5, r6, r7⟩ := r
  exact ⟨R0_f (fun j a b => e1 j (by omega) (by omega)) r0, RC_f (fun j a b => e2 j (by omega) (by omega)) r1, RP_f (fun j a b => e2 j (by omega) (by omega)) r2, RS_f (fun j a b => e2 j (by omega) (by omega)) r3, RT_f (fun j a b => e1 j (by omega) (by omega)) r4, ru, RH_f (fun j a b => e2 j (by omega) (by omega)) r6, RO_f (fun j a b => e2 j (by omega) (by omega)) r7⟩
theorem RX_H (r : RX h C P S T H O g) (e1 : zEq 0 11 h h') (e2 : zEq 16 63 h h') (rh : RH h' H') : RX h' C P S T H' O g := by
  obtain ⟨r0, r1, r2, r3, r4, r5, r6, r7⟩ := r
  exact ⟨R0_f (fun j a b => e1 j (by omega) (by omega)) r0, RC_f (fun j a b => e2 j (by omega) (by omega)) r1, RP_f (fun j a b => e2 j (by omega) (by omega)) r2, RS_f (fun j a b => e2 j (by omega) (by omega)) r3, RT_f (fun j a b => e1 j (by omega) (by omega)) r4, RU_f (fun j a b => e1 j (by omega) (by omega)) r5, rh, RO_f (fun j a b => e2 j (by omega) (by omega)) r7⟩
theorem x_waysA (r : RX h C P S T H O g) {p s : Int32} (hb : s_badt p s) : zD mX7_ways (d + 3) [.ref 0, .int p, .int s] h (some (.int (-1000000001))) h := by
  obtain ⟨r0, -⟩ := id r
  obtain ⟨q0, -⟩ := id r0
  by_cases hp : p < 0 ∨ 6 ≤ p
  · by_cases hs : s < 0 ∨ 2 ≤ s
    · refine zD_of (by decide +kernel) (by exact Nat.le_of_ble_eq_true rfl) ?_
      show zB mX7_ways _ _ _ 0 [some (.ref 0), some (.int p), some (.int s), none, none] [] _
      refine zj_aload_n dX7_ways_0 (by rfl) ?_
      refine zj_iload_n dX7_ways_1 (by rfl) ?_
      refine zc_7_99 rfl dX7_ways_2 (by first | assumption | rfl) (x7_phraseAtN r0 hp) (by exact Nat.le_of_ble_eq_true rfl) ?_
      refine zj_astore_nN dX7_ways_5 (by decide) ?_
      refine zj_aload_n dX7_ways_6 (by rfl) ?_
      refine zj_iload_n dX7_ways_7 (by rfl) ?_
      refine zc_7_155 rfl dX7_ways_8 (by first | assumption | rfl) (x7_sheetAtN r0 hs) (by exact Nat.le_of_ble_eq_true rfl) ?_
      refine zj_astoreN dX7_ways_11 (by decide) ?_
      refine zj_aload_nN dX7_ways_13 (by rfl) ?_
      refine zj_ifnullN (tgt := 22) dX7_ways_14 (by decide) ?_
      refine zj_ldc (v := -1000000001) dX7_ways_22 zq_226 ?_
      refine zj_iret dX7_ways_24 rfl (Nat.le_refl _) (Nat.le_refl _) ?_
      exact ⟨rfl, rfl⟩
    · obtain ⟨j, hj, rfl⟩ : ∃ j, j < 2 ∧ s = nI j := ((pk_ix s (n := 2) (by decide)).resolve_left (fun e => hs (Or.inl e))).resolve_left (fun e => hs (Or.inr e))
      refine zD_of (by decide +kernel) (by exact Nat.le_of_ble_eq_true rfl) ?_
      show zB mX7_ways _ _ _ 0 [some (.ref 0), some (.int p), some (.int (nI j)), none, none] [] _
      refine zj_aload_n dX7_ways_0 (by rfl) ?_
      refine zj_iload_n dX7_ways_1 (by rfl) ?_
      refine zc_7_99 rfl dX7_ways_2 (by first | assumption | rfl) (x7_phraseAtN r0 hp) (by exact Nat.le_of_ble_eq_true rfl) ?_
      refine zj_astore_nN dX7_ways_5 (by decide) ?_
      refine zj_aload_n dX7_ways_6 (by rfl) ?_
      refine zj_iload_n dX7_ways_7 (by rfl) ?_
      refine zc_7_155 rfl dX7_ways_8 (by first | assumption | rfl) (x7_sheetAt r0 hj) (by exact Nat.le_of_ble_eq_true rfl) ?_
      refine zj_astore dX7_ways_11 (by decide) ?_
      refine zj_aload_nN dX7_ways_13 (by rfl) ?_
      refine zj_ifnullN (tgt := 22) dX7_ways_14 (by decide) ?_
      refine zj_ldc (v := -1000000001) dX7_ways_22 zq_226 ?_
      refine zj_iret dX7_ways_24 rfl (Nat.le_refl _) (Nat.le_refl _) ?_
      exact ⟨rfl, rfl⟩
  · obtain ⟨i, hi, rfl⟩ : ∃ i, i < 6 ∧ p = nI i := ((pk_ix p (n := 6) (by decide)).resolve_left (fun e => hp (Or.inl e))).resolve_left (fun e => hp (Or.inr e))
    have hs := hb.resolve_left hp
    refine zD_of (by decide +kernel) (by exact Nat.le_of_ble_eq_true rfl) ?_
    show zB mX7_ways _ _ _ 0 [some (.ref 0), some (.int (nI i)), some (.int s), none, none] [] _
    refine zj_aload_n dX7_ways_0 (by rfl) ?_
    refine zj_iload_n dX7_ways_1 (by rfl) ?_
    refine zc_7_99 rfl dX7_ways_2 (by first | assumption | rfl) (x7_phraseAt r0 hi) (by exact Nat.le_of_ble_eq_true rfl) ?_
    refine zj_astore_n dX7_ways_5 (by decide) ?_
    refine zj_aload_n dX7_ways_6 (by rfl) ?_
    refine zj_iload_n dX7_ways_7 (by rfl) ?_
    refine zc_7_155 rfl dX7_ways_8 (by first | assumption | rfl) (x7_sheetAtN r0 hs) (by exact Nat.le_of_ble_eq_true rfl) ?_
    refine zj_astoreN dX7_ways_11 (by decide) ?_
    refine zj_aload_n dX7_ways_13 (by rfl) ?_
    refine zj_ifnull dX7_ways_14 ?_
    refine zj_aloadN dX7_ways_17 (by rfl) ?_
    refine zj_ifnonnullN dX7_ways_19 ?_
    refine zj_ldc (v := -1000000001) dX7_ways_22 zq_226 ?_
    refine zj_iret dX7_ways_24 rfl (Nat.le_refl _) (Nat.le_refl _) ?_
    exact ⟨rfl, rfl⟩
theorem x_waysN (w : WF C P S T H O g) (r : RX h C P S T H O g) {p s : Nat} (hp : p < 6) (hs : s < 2) (hn : S s = none) : zD mX7_ways (d + 3) [.ref 0, .int (nI p), .int (nI s)] h (some (.int (-1000000011))) h := by
  obtain ⟨r0, -, -, rs, -⟩ := id r
  obtain ⟨q0, -⟩ := id r0
  obtain ⟨s0, -⟩ := rs s hs
  refine zD_of (by decide +kernel) (by exact Nat.le_of_ble_eq_true rfl) ?_
  show zB mX7_ways _ _ _ 0 [some (.ref 0), some (.int (nI p)), some (.int (nI s)), none, none] [] _
  refine zj_aload_n dX7_ways_0 (by rfl) ?_
  refine zj_iload_n dX7_ways_1 (by rfl) ?_
  refine zc_7_99 rfl dX7_ways_2 (by first | assumption | rfl) (x7_phraseAt r0 hp) (by exact Nat.le_of_ble_eq_true rfl) ?_
  refine zj_astore_n dX7_ways_5 (by decide) ?_
  refine zj_aload_n dX7_ways_6 (by rfl) ?_
  refine zj_iload_n dX7_ways_7 (by rfl) ?_
  refine zc_7_155 rfl dX7_ways_8 (by first | assumption | rfl) (x7_sheetAt r0 hs) (by exact Nat.le_of_ble_eq_true rfl) ?_
  refine zj_astore dX7_ways_11 (by decide) ?_
  refine zj_aload_n dX7_ways_13 (by rfl) ?_
  refine zj_ifnull dX7_ways_14 ?_
  refine zj_aload dX7_ways_17 (by rfl) ?_
  refine zj_ifnonnull (tgt := 25) dX7_ways_19 (by decide) ?_
  refine zj_aload dX7_ways_25 (by rfl) ?_
  refine zc_7_159 rfl dX7_ways_27 (by first | assumption | rfl) (x3_mN w r hs hn) (by exact Nat.le_of_ble_eq_true rfl) ?_
  refine zj_if_eq (tgt := 38) dX7_ways_30 (by decide) (fun zq => absurd zq (by decide)) (fun _ => ?_)
  refine zj_ldc (v := -1000000011) dX7_ways_33 zq_443 ?_
  refine zj_goto (tgt := 48) dX7_ways_35 (by decide) ?_
  refine zj_iret dX7_ways_48 rfl (Nat.le_refl _) (Nat.le_refl _) ?_
  exact ⟨rfl, rfl⟩
theorem x_ways (w : WF C P S T H O g) (r : RX h C P S T H O g) {p s : Nat} {l : List Int32} (hp : p < 6) (hs : s < 2) (hl : S s = some l) : ∃ h', zD mX7_ways (d + 3) [.ref 0, .int (nI p), .int (nI s)] h (some (.int (nI (s_wl (s_P (s_fit (s_pf (P p)) (s_sg l) (P p).length l.length) (P p).length) l.length)))) h' ∧ RX h' C P S T H O g ∧ zEq 47 63 h h' := by
  obtain ⟨r0, r1, r2, r3, r4, r5, r6, r7⟩ := id r
  obtain ⟨q0, -⟩ := id r0
  obtain ⟨p0, pf, p1, pq⟩ := r2 p hp
  obtain ⟨s0, sf, s1, sq⟩ := r3 s hs
  obtain ⟨u0, ft, wb, u1, u2⟩ := id r5
  rw [hl] at s0
  by_cases h0 : l.length = 0
  · refine ⟨h, ?_, r, zEq_rf⟩
    have hA := x6_allWays0 (d := d) (k := 9) (p := 31 + 2 * p) (h := h) (s := 43 + 2 * s) (q := 44 + 2 * s) (by rw [s0]; show some (Sum.inr (3, [Value.ref (44 + 2 * s), Value.int (nI l.length)])) = _; rw [h0])
    have hz : s_wl (s_P (s_fit (s_pf (P p)) (s_sg l) (P p).length l.length) (P p).length) l.length = 0 := by unfold s_wl; rw [if_pos h0]
    rw [hz]
    refine zD_of (by decide +kernel) (by exact Nat.le_of_ble_eq_true rfl) ?_
    show zB mX7_ways _ _ _ 0 [some (.ref 0), some (.int (nI p)), some (.int (nI s)), none, none] [] _
    refine zj_aload_n dX7_ways_0 (by rfl) ?_
    refine zj_iload_n dX7_ways_1 (by rfl) ?_
    refine zc_7_99 rfl dX7_ways_2 (by first | assumption | rfl) (x7_phraseAt r0 hp) (by exact Nat.le_of_ble_eq_true rfl) ?_
    refine zj_astore_n dX7_ways_5 (by decide) ?_
    refine zj_aload_n dX7_ways_6 (by rfl) ?_
    refine zj_iload_n dX7_ways_7 (by rfl) ?_
    refine zc_7_155 rfl dX7_ways_8 (by first | assumption | rfl) (x7_sheetAt r0 hs) (by exact Nat.le_of_ble_eq_true rfl) ?_
    refine zj_astore dX7_ways_11 (by decide) ?_
    refine zj_aload_n dX7_ways_13 (by rfl) ?_
    refine zj_ifnull dX7_ways_14 ?_
    refine zj_aload dX7_ways_17 (by rfl) ?_
    refine zj_ifnonnull (tgt := 25) dX7_ways_19 (by decide) ?_
    refine zj_aload dX7_ways_25 (by rfl) ?_
    refine zc_7_159 rfl dX7_ways_27 (by first | assumption | rfl) (x3_mY w r hs hl) (by exact Nat.le_of_ble_eq_true rfl) ?_
    refine zj_if_eq (tgt := 38) dX7_ways_30 (by decide) (fun _ => ?_) (fun zq => absurd (rfl) zq)
    refine zj_aload_n dX7_ways_38 (by rfl) ?_
    refine zg_7_37 rfl dX7_ways_39 (by first | assumption | rfl) (by rfl) ?_
    refine zj_aload_n dX7_ways_42 (by rfl) ?_
    refine zj_aload dX7_ways_43 (by rfl) ?_
    refine zc_7_164 rfl dX7_ways_45 (by first | assumption | rfl) hA (by exact Nat.le_of_ble_eq_true rfl) ?_
    refine zj_iret dX7_ways_48 rfl (Nat.le_refl _) (Nat.le_refl _) ?_
    exact ⟨rfl, rfl⟩
  · obtain ⟨ft', wb', hA⟩ := x6_allWays (d := d) (k := 9) (c := 10) (b := 11) (p := 31 + 2 * p) (r := 32 + 2 * p) (s := 43 + 2 * s) (q := 44 + 2 * s) (n := (P p).length) (e := l.length) (f := pf) (g := sf) (by unfold s_tn; omega) ⟨u0, p0, p1, s0, s1, (w.2.1 p hp).1, (w.2.2.1 s hs l hl).1⟩ u1 u2 (by omega)
    have hc : s_wl (s_P (s_fit pf sf (P p).length l.length) (P p).length) l.length = s_wl (s_P (s_fit (s_pf (P p)) (s_sg l) (P p).length l.length) (P p).length) l.length := s_wl_congr (fun t ht i => s_fit_congr pq (sq l hl) t i ht)
    rw [hc] at hA
    have e : ∀ lo hi', (11 < lo ∨ hi' < 10) → zEq lo hi' h ((h.set 10 (.inl (1, 61, .inl ft'))).set 11 (.inl (2, 62, .inr (.inl wb')))) := fun lo hi' hh => zEq_set (zEq_set zEq_rf (by omega)) (by omega)
    refine ⟨_, ?_, RX_U r (e _ _ (by omega)) (e _ _ (by omega)) ⟨zset_ne (by decide) (zset_ne (by decide) u0), ft', wb', zset_ne (by decide) (zset_eq u1), zset_eq (zset_ne (by decide) u2)⟩, e _ _ (by omega)⟩
    refine zD_of (by decide +kernel) (by exact Nat.le_of_ble_eq_true rfl) ?_
    show zB mX7_ways _ _ _ 0 [some (.ref 0), some (.int (nI p)), some (.int (nI s)), none, none] [] _
    refine zj_aload_n dX7_ways_0 (by rfl) ?_
    refine zj_iload_n dX7_ways_1 (by rfl) ?_
    refine zc_7_99 rfl dX7_ways_2 (by first | assumption | rfl) (x7_phraseAt r0 hp) (by exact Nat.le_of_ble_eq_true rfl) ?_
    refine zj_astore_n dX7_ways_5 (by decide) ?_
    refine zj_aload_n dX7_ways_6 (by rfl) ?_
    refine zj_iload_n dX7_ways_7 (by rfl) ?_
    refine zc_7_155 rfl dX7_ways_8 (by first | assumption | rfl) (x7_sheetAt r0 hs) (by exact Nat.le_of_ble_eq_true rfl) ?_
    refine zj_astore dX7_ways_11 (by decide) ?_
    refine zj_aload_n dX7_ways_13 (by rfl) ?_
    refine zj_ifnull dX7_ways_14 ?_
    refine zj_aload dX7_ways_17 (by rfl) ?_
    refine zj_ifnonnull (tgt := 25) dX7_ways_19 (by decide) ?_
    refine zj_aload dX7_ways_25 (by rfl) ?_
    refine zc_7_159 rfl dX7_ways_27 (by first | assumption | rfl) (x3_mY w r hs hl) (by exact Nat.le_of_ble_eq_true rfl) ?_
    refine zj_if_eq (tgt := 38) dX7_ways_30 (by decide) (fun _ => ?_) (fun zq => absurd (rfl) zq)
    refine zj_aload_n dX7_ways_38 (by rfl) ?_
    refine zg_7_37 rfl dX7_ways_39 (by first | assumption | rfl) (by rfl) ?_
    refine zj_aload_n dX7_ways_42 (by rfl) ?_
    refine zj_aload dX7_ways_43 (by rfl) ?_
    refine zc_7_164 rfl dX7_ways_45 (by first | assumption | rfl) hA (by exact Nat.le_of_ble_eq_true rfl) ?_
    refine zj_iret dX7_ways_48 rfl (Nat.le_refl _) (Nat.le_refl _) ?_
    exact ⟨rfl, rfl⟩
theorem x_cutsA (r : RX h C P S T H O g) {p s : Int32} (hb : s_badt p s) : zD mX7_cuts (d + 3) [.ref 0, .int p, .int s] h (some (.int (-1000000001))) h := by
  obtain ⟨r0, -⟩ := id r
  obtain ⟨q0, -⟩ := id r0
  by_cases hp : p < 0 ∨ 6 ≤ p
  · by_cases hs : s < 0 ∨ 2 ≤ s
    · refine zD_of (by decide +kernel) (by exact Nat.le_of_ble_eq_true rfl) ?_
      show zB mX7_cuts _ _ _ 0 [some (.ref 0), some (.int p), some (.int s), none, none] [] _
      refine zj_aload_n dX7_cuts_0 (by rfl) ?_
      refine zj_iload_n dX7_cuts_1 (by rfl) ?_
      refine zc_7_99 rfl dX7_cuts_2 (by first | assumption | rfl) (x7_phraseAtN r0 hp) (by exact Nat.le_of_ble_eq_true rfl) ?_
      refine zj_astore_nN dX7_cuts_5 (by decide) ?_
      refine zj_aload_n dX7_cuts_6 (by rfl) ?_
      refine zj_iload_n dX7_cuts_7 (by rfl) ?_
      refine zc_7_155 rfl dX7_cuts_8 (by first | assumption | rfl) (x7_sheetAtN r0 hs) (by exact Nat.le_of_ble_eq_true rfl) ?_
      refine zj_astoreN dX7_cuts_11 (by decide) ?_
      refine zj_aload_nN dX7_cuts_13 (by rfl) ?_
      refine zj_ifnullN (tgt := 22) dX7_cuts_14 (by decide) ?_
      refine zj_ldc (v := -1000000001) dX7_cuts_22 zq_226 ?_
      refine zj_iret dX7_cuts_24 rfl (Nat.le_refl _) (Nat.le_refl _) ?_
      exact ⟨rfl, rfl⟩
    · obtain ⟨j, hj, rfl⟩ : ∃ j, j < 2 ∧ s = nI j := ((pk_ix s (n := 2) (by decide)).resolve_left (fun e => hs (Or.inl e))).resolve_left (fun e => hs (Or.inr e))
      refine zD_of (by decide +kernel) (by exact Nat.le_of_ble_eq_true rfl) ?_
      show zB mX7_cuts _ _ _ 0 [some (.ref 0), some (.int p), some (.int (nI j)), none, none] [] _
      refine zj_aload_n dX7_cuts_0 (by rfl) ?_
      refine zj_iload_n dX7_cuts_1 (by rfl) ?_
      refine zc_7_99 rfl dX7_cuts_2 (by first | assumption | rfl) (x7_phraseAtN r0 hp) (by exact Nat.le_of_ble_eq_true rfl) ?_
      refine zj_astore_nN dX7_cuts_5 (by decide) ?_
      refine zj_aload_n dX7_cuts_6 (by rfl) ?_
      refine zj_iload_n dX7_cuts_7 (by rfl) ?_
      refine zc_7_155 rfl dX7_cuts_8 (by first | assumption | rfl) (x7_sheetAt r0 hj) (by exact Nat.le_of_ble_eq_true rfl) ?_
      refine zj_astore dX7_cuts_11 (by decide) ?_
      refine zj_aload_nN dX7_cuts_13 (by rfl) ?_
      refine zj_ifnullN (tgt := 22) dX7_cuts_14 (by decide) ?_
      refine zj_ldc (v := -1000000001) dX7_cuts_22 zq_226 ?_
      refine zj_iret dX7_cuts_24 rfl (Nat.le_refl _) (Nat.le_refl _) ?_
      exact ⟨rfl, rfl⟩
  · obtain ⟨i, hi, rfl⟩ : ∃ i, i < 6 ∧ p = nI i := ((pk_ix p (n := 6) (by decide)).resolve_left (fun e => hp (Or.inl e))).resolve_left (fun e => hp (Or.inr e))
    have hs := hb.resolve_left hp
    refine zD_of (by decide +kernel) (by exact Nat.le_of_ble_eq_true rfl) ?_
    show zB mX7_cuts _ _ _ 0 [some (.ref 0), some (.int (nI i)), some (.int s), none, none] [] _
    refine zj_aload_n dX7_cuts_0 (by rfl) ?_
    refine zj_iload_n dX7_cuts_1 (by rfl) ?_
    refine zc_7_99 rfl dX7_cuts_2 (by first | assumption | rfl) (x7_phraseAt r0 hi) (by exact Nat.le_of_ble_eq_true rfl) ?_
    refine zj_astore_n dX7_cuts_5 (by decide) ?_
    refine zj_aload_n dX7_cuts_6 (by rfl) ?_
    refine zj_iload_n dX7_cuts_7 (by rfl) ?_
    refine zc_7_155 rfl dX7_cuts_8 (by first | assumption | rfl) (x7_sheetAtN r0 hs) (by exact Nat.le_of_ble_eq_true rfl) ?_
    refine zj_astoreN dX7_cuts_11 (by decide) ?_
    refine zj_aload_n dX7_cuts_13 (by rfl) ?_
    refine zj_ifnull dX7_cuts_14 ?_
    refine zj_aloadN dX7_cuts_17 (by rfl) ?_
    refine zj_ifnonnullN dX7_cuts_19 ?_
    refine zj_ldc (v := -1000000001) dX7_cuts_22 zq_226 ?_
    refine zj_iret dX7_cuts_24 rfl (Nat.le_refl _) (Nat.le_refl _) ?_
    exact ⟨rfl, rfl⟩
theorem x_cutsN (w : WF C P S T H O g) (r : RX h C P S T H O g) {p s : Nat} (hp : p < 6) (hs : s < 2) (hn : S s = none) : zD mX7_cuts (d + 3) [.ref 0, .int (nI p), .int (nI s)] h (some (.int (-1000000011))) h := by
  obtain ⟨r0, -, -, rs, -⟩ := id r
  obtain ⟨q0, -⟩ := id r0
  obtain ⟨s0, -⟩ := rs s hs
  refine zD_of (by decide +kernel) (by exact Nat.le_of_ble_eq_true rfl) ?_
  show zB mX7_cuts _ _ _ 0 [some (.ref 0), some (.int (nI p)), some (.int (nI s)), none, none] [] _
  refine zj_aload_n dX7_cuts_0 (by rfl) ?_
  refine zj_iload_n dX7_cuts_1 (by rfl) ?_
  refine zc_7_99 rfl dX7_cuts_2 (by first | assumption | rfl) (x7_phraseAt r0 hp) (by exact Nat.le_of_ble_eq_true rfl) ?_
  refine zj_astore_n dX7_cuts_5 (by decide) ?_
  refine zj_aload_n dX7_cuts_6 (by rfl) ?_
  refine zj_iload_n dX7_cuts_7 (by rfl) ?_
  refine zc_7_155 rfl dX7_cuts_8 (by first | assumption | rfl) (x7_sheetAt r0 hs) (by exact Nat.le_of_ble_eq_true rfl) ?_
  refine zj_astore dX7_cuts_11 (by decide) ?_
  refine zj_aload_n dX7_cuts_13 (by rfl) ?_
  refine zj_ifnull dX7_cuts_14 ?_
  refine zj_aload dX7_cuts_17 (by rfl) ?_
  refine zj_ifnonnull (tgt := 25) dX7_cuts_19 (by decide) ?_
  refine zj_aload dX7_cuts_25 (by rfl) ?_
  refine zc_7_159 rfl dX7_cuts_27 (by first | assumption | rfl) (x3_mN w r hs hn) (by exact Nat.le_of_ble_eq_true rfl) ?_
  refine zj_if_eq (tgt := 38) dX7_cuts_30 (by decide) (fun zq => absurd zq (by decide)) (fun _ => ?_)
  refine zj_ldc (v := -1000000011) dX7_cuts_33 zq_443 ?_
  refine zj_goto (tgt := 48) dX7_cuts_35 (by decide) ?_
  refine zj_iret dX7_cuts_48 rfl (Nat.le_refl _) (Nat.le_refl _) ?_
  exact ⟨rfl, rfl⟩
theorem x_cuts (w : WF C P S T H O g) (r : RX h C P S T H O g) {p s : Nat} {l : List Int32} (hp : p < 6) (hs : s < 2) (hl : S s = some l) : zD mX7_cuts (d + 3) [.ref 0, .int (nI p), .int (nI s)] h (some (.int (if l.length = 0 then -1000000005 else s_oN (s_gc (fun x => s_lc (s_pf (P p)) (s_sg l) (P p).length l.length x (P p).length) l.length l.length 0 0)))) h := by
  obtain ⟨r0, r1, r2, r3, r4, r5, r6, r7⟩ := id r
  obtain ⟨q0, -⟩ := id r0
  obtain ⟨p0, pf, p1, pq⟩ := r2 p hp
  obtain ⟨s0, sf, s1, sq⟩ := r3 s hs
  obtain ⟨u0, ft, wb, u1, u2⟩ := id r5
  rw [hl] at s0
  have hA := x6_fewestCuts (d := d) (k := 9) p0 p1 s0 s1 (w.2.1 p hp).1 (w.2.2.1 s hs l hl).1
  have hc : s_gc (fun x => s_lc pf sf (P p).length l.length x (P p).length) l.length l.length 0 0 = s_gc (fun x => s_lc (s_pf (P p)) (s_sg l) (P p).length l.length x (P p).length) l.length l.length 0 0 := s_gc_congr (fun x => s_lc_congr pq (sq l hl) _) _ _ _
  rw [hc] at hA
  refine zD_of (by decide +kernel) (by exact Nat.le_of_ble_eq_true rfl) ?_
  show zB mX7_cuts _ _ _ 0 [some (.ref 0), some (.int (nI p)), some (.int (nI s)), none, none] [] _
  refine zj_aload_n dX7_cuts_0 (by rfl) ?_
  refine zj_iload_n dX7_cuts_1 (by rfl) ?_
  refine zc_7_99 rfl dX7_cuts_2 (by first | assumption | rfl) (x7_phraseAt r0 hp) (by exact Nat.le_of_ble_eq_true rfl) ?_
  refine zj_astore_n dX7_cuts_5 (by decide) ?_
  refine zj_aload_n dX7_cuts_6 (by rfl) ?_
  refine zj_iload_n dX7_cuts_7 (by rfl) ?_
  refine zc_7_155 rfl dX7_cuts_8 (by first | assumption | rfl) (x7_sheetAt r0 hs) (by exact Nat.le_of_ble_eq_true rfl) ?_
  refine zj_astore dX7_cuts_11 (by decide) ?_
  refine zj_aload_n dX7_cuts_13 (by rfl) ?_
  refine zj_ifnull dX7_cuts_14 ?_
  refine zj_aload dX7_cuts_17 (by rfl) ?_
  refine zj_ifnonnull (tgt := 25) dX7_cuts_19 (by decide) ?_
  refine zj_aload dX7_cuts_25 (by rfl) ?_
  refine zc_7_159 rfl dX7_cuts_27 (by first | assumption | rfl) (x3_mY w r hs hl) (by exact Nat.le_of_ble_eq_true rfl) ?_
  refine zj_if_eq (tgt := 38) dX7_cuts_30 (by decide) (fun _ => ?_) (fun zq => absurd (rfl) zq)
  refine zj_aload_n dX7_cuts_38 (by rfl) ?_
  refine zg_7_37 rfl dX7_cuts_39 (by first | assumption | rfl) (by rfl) ?_
  refine zj_aload_n dX7_cuts_42 (by rfl) ?_
  refine zj_aload dX7_cuts_43 (by rfl) ?_
  refine zc_7_168 rfl dX7_cuts_45 (by first | assumption | rfl) hA (by exact Nat.le_of_ble_eq_true rfl) ?_
  refine zj_iret dX7_cuts_48 rfl (Nat.le_refl _) (Nat.le_refl _) ?_
  exact ⟨rfl, rfl⟩
theorem x_handA (r : RX h C P S T H O g) {s v : Int32} (hb : s < 0 ∨ 8 ≤ s ∨ v < 0 ∨ ¬ v ≤ 3) : zD mX7_hand (d + 1) [.ref 0, .int s, .int v] h (some (.int (-1000000001))) h := by
  obtain ⟨r0, -, -, -, -, -, r6, -⟩ := id r
  obtain ⟨q0, -⟩ := id r0
  obtain ⟨u0, ⟨ho, u1, uq⟩, -⟩ := id r6
  refine zD_of (by decide +kernel) (by exact Nat.le_of_ble_eq_true rfl) ?_
  show zB mX7_hand _ _ _ 0 [some (.ref 0), some (.int s), some (.int v)] [] _
  refine zj_aload_n dX7_hand_0 (by rfl) ?_
  refine zg_7_44 rfl dX7_hand_1 (by first | assumption | rfl) (by rfl) ?_
  refine zj_iload_n dX7_hand_4 (by rfl) ?_
  refine zj_iload_n dX7_hand_5 (by rfl) ?_
  refine zc_7_171 rfl dX7_hand_6 (by first | assumption | rfl) (x1_changeX u0 u1 hb) (by exact Nat.le_of_ble_eq_true rfl) ?_
  refine zj_iret dX7_hand_9 rfl (Nat.le_refl _) (Nat.le_refl _) ?_
  exact ⟨rfl, rfl⟩
theorem x_hand (r : RX h C P S T H O g) {s v : Nat} (hs : s < 8) (hv : v ≤ 3) : ∃ h', zD mX7_hand (d + 1) [.ref 0, .int (nI s), .int (nI v)] h (some (.int (nI (H s)))) h' ∧ RX h' C P S T (s_up H s v) O g ∧ zEq 47 63 h h' := by
  obtain ⟨r0, -, -, -, -, -, r6, -⟩ := id r
  obtain ⟨q0, -⟩ := id r0
  obtain ⟨u0, ⟨ho, u1, uq⟩, fl, fr, u2, u3⟩ := id r6
  have hA := x1_change (d := d) (v := nI v) u0 u1 hs ⟨nI_pos (by omega), nI_le (b := 3) hv (by decide)⟩
  rw [uq s hs] at hA
  have e : ∀ lo hi', (13 < lo ∨ hi' < 13) → zEq lo hi' h (h.set 13 (.inl (1, 8, .inl (upd ho s (nI v))))) := fun lo hi' hh => zEq_set zEq_rf (by omega)
  refine ⟨_, ?_, RX_H r (e _ _ (by omega)) (e _ _ (by omega)) ⟨zset_ne (by decide) u0, ⟨upd ho s (nI v), zset_eq u1, fun j hj => ?_⟩, fl, fr, zset_ne (by decide) u2, zset_ne (by decide) u3⟩, e _ _ (by omega)⟩
  · refine zD_of (by decide +kernel) (by exact Nat.le_of_ble_eq_true rfl) ?_
    show zB mX7_hand _ _ _ 0 [some (.ref 0), some (.int (nI s)), some (.int (nI v))] [] _
    refine zj_aload_n dX7_hand_0 (by rfl) ?_
    refine zg_7_44 rfl dX7_hand_1 (by first | assumption | rfl) (by rfl) ?_
    refine zj_iload_n dX7_hand_4 (by rfl) ?_
    refine zj_iload_n dX7_hand_5 (by rfl) ?_
    refine zc_7_171 rfl dX7_hand_6 (by first | assumption | rfl) hA (by exact Nat.le_of_ble_eq_true rfl) ?_
    refine zj_iret dX7_hand_9 rfl (Nat.le_refl _) (Nat.le_refl _) ?_
    exact ⟨rfl, rfl⟩
  · by_cases ej : j = s
    · subst ej; rw [pk_us, s_up_eq]
    · rw [pk_un ej, s_up_ne ej]; exact uq j hj
theorem x_strainsA (r : RX h C P S T H O g) {p : Int32} (hp : p < 0 ∨ 6 ≤ p) : zD mX7_strains (d + 5) [.ref 0, .int p] h (some (.int (-1000000001))) h := by
  obtain ⟨r0, -⟩ := id r
  obtain ⟨q0, -⟩ := id r0
  refine zD_of (by decide +kernel) (by exact Nat.le_of_ble_eq_true rfl) ?_
  show zB mX7_strains _ _ _ 0 [some (.ref 0), some (.int p), none] [] _
  refine zj_aload_n dX7_strains_0 (by rfl) ?_
  refine zj_iload_n dX7_strains_1 (by rfl) ?_
  refine zc_7_99 rfl dX7_strains_2 (by first | assumption | rfl) (x7_phraseAtN r0 hp) (by exact Nat.le_of_ble_eq_true rfl) ?_
  refine zj_astore_nN dX7_strains_5 (by decide) ?_
  refine zj_aload_nN dX7_strains_6 (by rfl) ?_
  refine zj_ifnonnullN dX7_strains_7 ?_
  refine zj_ldc (v := -1000000001) dX7_strains_10 zq_226 ?_
  refine zj_iret dX7_strains_12 rfl (Nat.le_refl _) (Nat.le_refl _) ?_
  exact ⟨rfl, rfl⟩
theorem x_strainsN (r : RX h C P S T H O g) {p : Nat} (hp : p < 6) (he : (P p).length = 0) : zD mX7_strains (d + 5) [.ref 0, .int (nI p)] h (some (.int (-1000000002))) h := by
  obtain ⟨r0, -, rp, -⟩ := id r
  obtain ⟨q0, -⟩ := id r0
  obtain ⟨p0, -⟩ := rp p hp
  rw [he] at p0
  refine zD_of (by decide +kernel) (by exact Nat.le_of_ble_eq_true rfl) ?_
  show zB mX7_strains _ _ _ 0 [some (.ref 0), some (.int (nI p)), none] [] _
  refine zj_aload_n dX7_strains_0 (by rfl) ?_
  refine zj_iload_n dX7_strains_1 (by rfl) ?_
  refine zc_7_99 rfl dX7_strains_2 (by first | assumption | rfl) (x7_phraseAt r0 hp) (by exact Nat.le_of_ble_eq_true rfl) ?_
  refine zj_astore_n dX7_strains_5 (by decide) ?_
  refine zj_aload_n dX7_strains_6 (by rfl) ?_
  refine zj_ifnonnull (tgt := 13) dX7_strains_7 (by decide) ?_
  refine zj_aload_n dX7_strains_13 (by rfl) ?_
  refine zg_7_113 rfl dX7_strains_14 (by first | assumption | rfl) (by rfl) ?_
  refine zj_if_ne (tgt := 25) dX7_strains_17 (by decide) (fun zq => absurd (rfl) zq) (fun _ => ?_)
  refine zj_ldc (v := -1000000002) dX7_strains_20 zq_352 ?_
  refine zj_goto (tgt := 33) dX7_strains_22 (by decide) ?_
  refine zj_iret dX7_strains_33 rfl (Nat.le_refl _) (Nat.le_refl _) ?_
  exact ⟨rfl, rfl⟩
theorem RX_HB (w : WF C P S T H O g) (r : RX h C P S T H O g) {p : Nat} (hp : p < 6) : ∃ ho f fl fr, s_HB h 12 13 14 15 (31 + 2 * p) (32 + 2 * p) (P p).length ho f H (fun j => (P p).getD j 0) ∧ h[14]? = some (.inl (1, 60, .inl fl)) ∧ h[15]? = some (.inl (1, 60, .inl fr)) ∧ s_ne 14 15 12 13 (31 + 2 * p) (32 + 2 * p) := by
  obtain ⟨r0, -, rp, -, -, -, r6, -⟩ := id r
  obtain ⟨p0, pf, p1, pq⟩ := rp p hp
  obtain ⟨u0, ⟨ho, u1, uq⟩, fl, fr, u2, u3⟩ := id r6
  exact ⟨ho, pf, fl, fr, ⟨u0, u1, p0, p1, (w.2.1 p hp).1, pq, fun j hj => s_getD_le (w.2.1 p hp).2, uq, w.2.2.2.2.1⟩, u2, u3, by unfold s_ne; omega⟩
theorem RX_scr (r : RX h C P S T H O g) {fl fr fl' fr' : Nat → Int32} (u2 : h[14]? = some (.inl (1, 60, .inl fl))) (u3 : h[15]? = some (.inl (1, 60, .inl fr))) : RX ((h.set 14 (.inl (1, 60, .inl fl'))).set 15 (.inl (1, 60, .inl fr'))) C P S T H O g ∧ zEq 47 63 h ((h.set 14 (.inl (1, 60, .inl fl'))).set 15 (.inl (1, 60, .inl fr'))) := by
  obtain ⟨r0, -, rp, -, -, -, r6, -⟩ := id r
  obtain ⟨u0, ⟨ho, u1, uq⟩, -⟩ := id r6
  have e : ∀ lo hi', (15 < lo ∨ hi' < 14) → zEq lo hi' h ((h.set 14 (.inl (1, 60, .inl fl'))).set 15 (.inl (1, 60, .inl fr'))) := fun lo hi' hh => zEq_set (zEq_set zEq_rf (by omega)) (by omega)
  exact ⟨RX_H r (e _ _ (by omega)) (e _ _ (by omega)) ⟨zset_ne (by decide) (zset_ne (by decide) u0), ⟨ho, zset_ne (by decide) (zset_ne (by decide) u1), uq⟩, fl', fr', zset_ne (by decide) (zset_eq u2), zset_eq (zset_ne (by decide) u3)⟩, e _ _ (by omega)⟩
theorem x_strains (w : WF C P S T H O g) (r : RX h C P S T H O g) {p : Nat} (hp : p < 6) (he : ¬ (P p).length = 0) : ∃ h', zD mX7_strains (d + 5) [.ref 0, .int (nI p)] h (some (.int (nI (min (s_F (s_U H (fun j => (P p).getD j 0)) (P p).length ((P p).length - 1) (s_U H (fun j => (P p).getD j 0) 0 0)) (s_F (s_U H (fun j => (P p).getD j 0)) (P p).length ((P p).length - 1) (s_U H (fun j => (P p).getD j 0) 0 1)))))) h' ∧ RX h' C P S T H O g ∧ zEq 47 63 h h' := by
  obtain ⟨r0, -, rp, -, -, -, r6, -⟩ := id r
  obtain ⟨q0, -⟩ := id r0
  obtain ⟨p0, -⟩ := rp p hp
  obtain ⟨u0, -⟩ := id r6
  have l2 := (w.2.1 p hp).1
  obtain ⟨ho, f, fl, fr, hB, u2, u3, hne⟩ := RX_HB w r hp
  obtain ⟨fl', fr', hD⟩ := x1_fewestStrains (d := d) hne hB u2 u3 (by omega)
  obtain ⟨hR, hE⟩ := RX_scr (fl' := fl') (fr' := fr') r u2 u3
  refine ⟨_, ?_, hR, hE⟩
  refine zD_of (by decide +kernel) (by exact Nat.le_of_ble_eq_true rfl) ?_
  show zB mX7_strains _ _ _ 0 [some (.ref 0), some (.int (nI p)), none] [] _
  refine zj_aload_n dX7_strains_0 (by rfl) ?_
  refine zj_iload_n dX7_strains_1 (by rfl) ?_
  refine zc_7_99 rfl dX7_strains_2 (by first | assumption | rfl) (x7_phraseAt r0 hp) (by exact Nat.le_of_ble_eq_true rfl) ?_
  refine zj_astore_n dX7_strains_5 (by decide) ?_
  refine zj_aload_n dX7_strains_6 (by rfl) ?_
  refine zj_ifnonnull (tgt := 13) dX7_strains_7 (by decide) ?_
  refine zj_aload_n dX7_strains_13 (by rfl) ?_
  refine zg_7_113 rfl dX7_strains_14 (by first | assumption | rfl) (by rfl) ?_
  refine zj_if_neN (tgt := 25) dX7_strains_17 (by decide) (by omega) (fun _ => ?_) (fun zq => absurd zq (he))
  refine zj_aload_n dX7_strains_25 (by rfl) ?_
  refine zg_7_44 rfl dX7_strains_26 (by first | assumption | rfl) (by rfl) ?_
  refine zj_aload_n dX7_strains_29 (by rfl) ?_
  refine zc_7_174 rfl dX7_strains_30 (by first | assumption | rfl) hD (by exact Nat.le_of_ble_eq_true rfl) ?_
  refine zj_iret dX7_strains_33 rfl (Nat.le_refl _) (Nat.le_refl _) ?_
  exact ⟨rfl, rfl⟩
theorem x_playsA (r : RX h C P S T H O g) {p i : Int32} (hp : p < 0 ∨ 6 ≤ p) : zD mX7_plays (d + 5) [.ref 0, .int p, .int i] h (some (.int (-1000000001))) h := by
  obtain ⟨r0, -⟩ := id r
  obtain ⟨q0, -⟩ := id r0
  refine zD_of (by decide +kernel) (by exact Nat.le_of_ble_eq_true rfl) ?_
  show zB mX7_plays _ _ _ 0 [some (.ref 0), some (.int p), some (.int i), none] [] _
  refine zj_aload_n dX7_plays_0 (by rfl) ?_
  refine zj_iload_n dX7_plays_1 (by rfl) ?_
  refine zc_7_99 rfl dX7_plays_2 (by first | assumption | rfl) (x7_phraseAtN r0 hp) (by exact Nat.le_of_ble_eq_true rfl) ?_
  refine zj_astore_nN dX7_plays_5 (by decide) ?_
  refine zj_aload_nN dX7_plays_6 (by rfl) ?_
  refine zj_ifnullN (tgt := 14) dX7_plays_7 (by decide) ?_
  refine zj_ldc (v := -1000000001) dX7_plays_14 zq_226 ?_
  refine zj_iret dX7_plays_16 rfl (Nat.le_refl _) (Nat.le_refl _) ?_
  exact ⟨rfl, rfl⟩
theorem x_playsB (r : RX h C P S T H O g) {p : Nat} {i : Int32} (hp : p < 6) (hi : i < 0) : zD mX7_plays (d + 5) [.ref 0, .int (nI p), .int i] h (some (.int (-1000000001))) h := by
  obtain ⟨r0, -⟩ := id r
  obtain ⟨q0, -⟩ := id r0
  refine zD_of (by decide +kernel) (by exact Nat.le_of_ble_eq_true rfl) ?_
  show zB mX7_plays _ _ _ 0 [some (.ref 0), some (.int (nI p)), some (.int i), none] [] _
  refine zj_aload_n dX7_plays_0 (by rfl) ?_
  refine zj_iload_n dX7_plays_1 (by rfl) ?_
  refine zc_7_99 rfl dX7_plays_2 (by first | assumption | rfl) (x7_phraseAt r0 hp) (by exact Nat.le_of_ble_eq_true rfl) ?_
  refine zj_astore_n dX7_plays_5 (by decide) ?_
  refine zj_aload_n dX7_plays_6 (by rfl) ?_
  refine zj_ifnull dX7_plays_7 ?_
  refine zj_iload_n dX7_plays_10 (by rfl) ?_
  refine zj_if_ge (tgt := 17) dX7_plays_11 (by decide) (fun zq => absurd zq (Int32.not_le.mpr hi)) (fun _ => ?_)
  refine zj_ldc (v := -1000000001) dX7_plays_14 zq_226 ?_
  refine zj_iret dX7_plays_16 rfl (Nat.le_refl _) (Nat.le_refl _) ?_
  exact ⟨rfl, rfl⟩
theorem x_playsN (r : RX h C P S T H O g) {p i : Nat} (hp : p < 6) (hi : i < 2 ^ 31) (he : (P p).length = 0) : zD mX7_plays (d + 5) [.ref 0, .int (nI p), .int (nI i)] h (some (.int (-1000000002))) h := by
  obtain ⟨r0, -, rp, -⟩ := id r
  obtain ⟨q0, -⟩ := id r0
  obtain ⟨p0, -⟩ := rp p hp
  rw [he] at p0
  refine zD_of (by decide +kernel) (by exact Nat.le_of_ble_eq_true rfl) ?_
  show zB mX7_plays _ _ _ 0 [some (.ref 0), some (.int (nI p)), some (.int (nI i)), none] [] _
  refine zj_aload_n dX7_plays_0 (by rfl) ?_
  refine zj_iload_n dX7_plays_1 (by rfl) ?_
  refine zc_7_99 rfl dX7_plays_2 (by first | assumption | rfl) (x7_phraseAt r0 hp) (by exact Nat.le_of_ble_eq_true rfl) ?_
  refine zj_astore_n dX7_plays_5 (by decide) ?_
  refine zj_aload_n dX7_plays_6 (by rfl) ?_
  refine zj_ifnull dX7_plays_7 ?_
  refine zj_iload_n dX7_plays_10 (by rfl) ?_
  refine zj_if_ge (tgt := 17) dX7_plays_11 (by decide) (fun _ => ?_) (fun zq => absurd (nI_pos' hi) zq)
  refine zj_aload_n dX7_plays_17 (by rfl) ?_
  refine zg_7_113 rfl dX7_plays_18 (by first | assumption | rfl) (by rfl) ?_
  refine zj_if_ne (tgt := 27) dX7_plays_21 (by decide) (fun zq => absurd (rfl) zq) (fun _ => ?_)
  refine zj_ldc (v := -1000000002) dX7_plays_24 zq_352 ?_
  refine zj_iret dX7_plays_26 rfl (Nat.le_refl _) (Nat.le_refl _) ?_
  exact ⟨rfl, rfl⟩
theorem x_playsC (w : WF C P S T H O g) (r : RX h C P S T H O g) {p i : Nat} (hp : p < 6) (hi : i < 2 ^ 31) (he : ¬ (P p).length = 0) (hl : ¬ i < (P p).length) : zD mX7_plays (d + 5) [.ref 0, .int (nI p), .int (nI i)] h (some (.int (-1000000001))) h := by
  obtain ⟨r0, -, rp, -⟩ := id r
  obtain ⟨q0, -⟩ := id r0
  obtain ⟨p0, -⟩ := rp p hp
  have l2 := (w.2.1 p hp).1
  refine zD_of (by decide +kernel) (by exact Nat.le_of_ble_eq_true rfl) ?_
  show zB mX7_plays _ _ _ 0 [some (.ref 0), some (.int (nI p)), some (.int (nI i)), none] [] _
  refine zj_aload_n dX7_plays_0 (by rfl) ?_
  refine zj_iload_n dX7_plays_1 (by rfl) ?_
  refine zc_7_99 rfl dX7_plays_2 (by first | assumption | rfl) (x7_phraseAt r0 hp) (by exact Nat.le_of_ble_eq_true rfl) ?_
  refine zj_astore_n dX7_plays_5 (by decide) ?_
  refine zj_aload_n dX7_plays_6 (by rfl) ?_
  refine zj_ifnull dX7_plays_7 ?_
  refine zj_iload_n dX7_plays_10 (by rfl) ?_
  refine zj_if_geN (tgt := 17) dX7_plays_11 (by decide) (by omega) ?_
  refine zj_aload_n dX7_plays_17 (by rfl) ?_
  refine zg_7_113 rfl dX7_plays_18 (by first | assumption | rfl) (by rfl) ?_
  refine zj_if_neN (tgt := 27) dX7_plays_21 (by decide) (by omega) (fun _ => ?_) (fun zq => absurd zq (he))
  refine zj_iload_n dX7_plays_27 (by rfl) ?_
  refine zj_aload_n dX7_plays_28 (by rfl) ?_
  refine zg_7_113 rfl dX7_plays_29 (by first | assumption | rfl) (by rfl) ?_
  refine zj_icmp_ltN (tgt := 40) dX7_plays_32 (by decide) (by omega) (fun zq => absurd zq (hl)) (fun _ => ?_)
  refine zj_ldc (v := -1000000001) dX7_plays_35 zq_226 ?_
  refine zj_goto (tgt := 49) dX7_plays_37 (by decide) ?_
  refine zj_iret dX7_plays_49 rfl (Nat.le_refl _) (Nat.le_refl _) ?_
  exact ⟨rfl, rfl⟩
theorem x_plays (w : WF C P S T H O g) (r : RX h C P S T H O g) {p i : Nat} (hp : p < 6) (hl : i < (P p).length) : ∃ h', zD mX7_plays (d + 5) [.ref 0, .int (nI p), .int (nI i)] h (some (.int (if s_us (s_U H (fun j => (P p).getD j 0)) (P p).length (i + 1) = 0 then -1000000005 else nI (s_us (s_U H (fun j => (P p).getD j 0)) (P p).length (i + 1) - 1)))) h' ∧ RX h' C P S T H O g ∧ zEq 47 63 h h' := by
  obtain ⟨r0, -, rp, -, -, -, r6, -⟩ := id r
  obtain ⟨q0, -⟩ := id r0
  obtain ⟨p0, -⟩ := rp p hp
  obtain ⟨u0, -⟩ := id r6
  have l2 := (w.2.1 p hp).1
  obtain ⟨ho, f, fl, fr, hB, u2, u3, hne⟩ := RX_HB w r hp
  obtain ⟨fl', fr', hD⟩ := x1_handAt (d := d) (pl := i) hne hB u2 u3 hl
  obtain ⟨hR, hE⟩ := RX_scr (fl' := fl') (fr' := fr') r u2 u3
  refine ⟨_, ?_, hR, hE⟩
  refine zD_of (by decide +kernel) (by exact Nat.le_of_ble_eq_true rfl) ?_
  show zB mX7_plays _ _ _ 0 [some (.ref 0), some (.int (nI p)), some (.int (nI i)), none] [] _
  refine zj_aload_n dX7_plays_0 (by rfl) ?_
  refine zj_iload_n dX7_plays_1 (by rfl) ?_
  refine zc_7_99 rfl dX7_plays_2 (by first | assumption | rfl) (x7_phraseAt r0 hp) (by exact Nat.le_of_ble_eq_true rfl) ?_
  refine zj_astore_n dX7_plays_5 (by decide) ?_
  refine zj_aload_n dX7_plays_6 (by rfl) ?_
  refine zj_ifnull dX7_plays_7 ?_
  refine zj_iload_n dX7_plays_10 (by rfl) ?_
  refine zj_if_geN (tgt := 17) dX7_plays_11 (by decide) (by omega) ?_
  refine zj_aload_n dX7_plays_17 (by rfl) ?_
  refine zg_7_113 rfl dX7_plays_18 (by first | assumption | rfl) (by rfl) ?_
  refine zj_if_neN (tgt := 27) dX7_plays_21 (by decide) (by omega) (fun _ => ?_) (fun zq => absurd zq (by omega))
  refine zj_iload_n dX7_plays_27 (by rfl) ?_
  refine zj_aload_n dX7_plays_28 (by rfl) ?_
  refine zg_7_113 rfl dX7_plays_29 (by first | assumption | rfl) (by rfl) ?_
  refine zj_icmp_ltN (tgt := 40) dX7_plays_32 (by decide) (by omega) (fun _ => ?_) (fun zq => absurd (hl) zq)
  refine zj_aload_n dX7_plays_40 (by rfl) ?_
  refine zg_7_44 rfl dX7_plays_41 (by first | assumption | rfl) (by rfl) ?_
  refine zj_aload_n dX7_plays_44 (by rfl) ?_
  refine zj_iload_n dX7_plays_45 (by rfl) ?_
  refine zc_7_177 rfl dX7_plays_46 (by first | assumption | rfl) hD (by exact Nat.le_of_ble_eq_true rfl) ?_
  refine zj_iret dX7_plays_49 rfl (Nat.le_refl _) (Nat.le_refl _) ?_
  exact ⟨rfl, rfl⟩
end TO
