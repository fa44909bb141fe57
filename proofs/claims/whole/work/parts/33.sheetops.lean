/-! sheet, mark, copy, count: class side -/
section SS
variable {h h' : zH} {C : Nat → List (Nat × Nat)} {P : Nat → List Nat} {S S' : Nat → Option (List Int32)} {T : List Nat} {H : Nat → Nat} {O : List (Nat × Nat)} {g d : Nat}
theorem RX_S (r : RX h C P S T H O g) (e1 : zEq 0 42 h h') (rs : RS h' S') : RX h' C P S' T H O g := by
  obtain ⟨r0, r1, r2, r3, r4, r5, r6, r7⟩ := r
  exact ⟨R0_f (fun j a b => e1 j (by omega) (by omega)) r0, RC_f (fun j a b => e1 j (by omega) (by omega)) r1, RP_f (fun j a b => e1 j (by omega) (by omega)) r2, rs, RT_f (fun j a b => e1 j (by omega) (by omega)) r4, RU_f (fun j a b => e1 j (by omega) (by omega)) r5, RH_f (fun j a b => e1 j (by omega) (by omega)) r6, RO_f (fun j a b => e1 j (by omega) (by omega)) r7⟩
/-- one sheet's cells changed -/
theorem RS_up {s : Nat} {l : List Int32} {f : Nat → Int32} (rs : RS h S) (e : ∀ j, 43 ≤ j → j ≤ 46 → ¬ j = 43 + 2 * s → ¬ j = 44 + 2 * s → h'[j]? = h[j]?) (h1 : h'[43 + 2 * s]? = some (.inr (3, [.ref (44 + 2 * s), .int (nI l.length)]))) (h2 : h'[44 + 2 * s]? = some (.inl (0, 60, .inl f))) (hq : ∀ j, j < l.length → f j = l.getD j 0) : RS h' (s_up S s (some l)) := by
  intro i hi
  by_cases ei : i = s
  · subst ei
    rw [s_up_eq]
    exact ⟨h1, f, h2, fun l2 hl2 => by cases hl2; exact hq⟩
  · rw [s_up_ne ei]
    obtain ⟨r0, f0, r1, rq⟩ := rs i hi
    exact ⟨by rw [e _ (by omega) (by omega) (by omega) (by omega)]; exact r0, f0, by rw [e _ (by omega) (by omega) (by omega) (by omega)]; exact r1, rq⟩
theorem x_sheetA (r : RX h C P S T H O g) {s n : Int32} (hs : (s < 0 ∨ 2 ≤ s) ∨ ¬ n ≤ 60) : zD mX7_sheet (d + 1) [.ref 0, .int s, .int n] h (some (.int (-1000000001))) h := by
  obtain ⟨r0, -⟩ := id r
  obtain ⟨q0, -⟩ := id r0
  by_cases hs1 : s < 0 ∨ 2 ≤ s
  · refine zD_of (by decide +kernel) (by exact Nat.le_of_ble_eq_true rfl) ?_
    show zB mX7_sheet _ _ _ 0 [some (.ref 0), some (.int s), some (.int n), none] [] _
    refine zj_aload_n dX7_sheet_0 (by rfl) ?_
    refine zj_iload_n dX7_sheet_1 (by rfl) ?_
    refine zc_7_155 rfl dX7_sheet_2 (by first | assumption | rfl) (x7_sheetAtN r0 hs1) (by exact Nat.le_of_ble_eq_true rfl) ?_
    refine zj_astore_nN dX7_sheet_5 (by decide) ?_
    refine zj_aload_nN dX7_sheet_6 (by rfl) ?_
    refine zj_ifnullN (tgt := 16) dX7_sheet_7 (by decide) ?_
    refine zj_ldc (v := -1000000001) dX7_sheet_16 zq_226 ?_
    refine zj_iret dX7_sheet_18 rfl (Nat.le_refl _) (Nat.le_refl _) ?_
    exact ⟨rfl, rfl⟩
  · obtain ⟨j, hj, rfl⟩ : ∃ j, j < 2 ∧ s = nI j := ((pk_ix s (n := 2) (by decide)).resolve_left (fun e => hs1 (Or.inl e))).resolve_left (fun e => hs1 (Or.inr e))
    refine zD_of (by decide +kernel) (by exact Nat.le_of_ble_eq_true rfl) ?_
    show zB mX7_sheet _ _ _ 0 [some (.ref 0), some (.int (nI j)), some (.int n), none] [] _
    refine zj_aload_n dX7_sheet_0 (by rfl) ?_
    refine zj_iload_n dX7_sheet_1 (by rfl) ?_
    refine zc_7_155 rfl dX7_sheet_2 (by first | assumption | rfl) (x7_sheetAt r0 hj) (by exact Nat.le_of_ble_eq_true rfl) ?_
    refine zj_astore_n dX7_sheet_5 (by decide) ?_
    refine zj_aload_n dX7_sheet_6 (by rfl) ?_
    refine zj_ifnull dX7_sheet_7 ?_
    refine zj_iload_n dX7_sheet_10 (by rfl) ?_
    refine zj_bipush (v := 60) dX7_sheet_11 (by decide) ?_
    refine zj_icmp_le (tgt := 19) dX7_sheet_13 (by decide) (fun zq => absurd zq (hs.resolve_left hs1)) (fun _ => ?_)
    refine zj_ldc (v := -1000000001) dX7_sheet_16 zq_226 ?_
    refine zj_iret dX7_sheet_18 rfl (Nat.le_refl _) (Nat.le_refl _) ?_
    exact ⟨rfl, rfl⟩
theorem x_sheetS (r : RX h C P S T H O g) {s : Nat} {n : Int32} (hs : s < 2) (hn : n < 0) : zD mX7_sheet (d + 1) [.ref 0, .int (nI s), .int n] h (some (.int (-1000000014))) h := by
  obtain ⟨r0, -⟩ := id r
  obtain ⟨q0, -⟩ := id r0
  have h60 : n ≤ 60 := Int32.le_of_lt (Int32.lt_trans hn (by decide))
  refine zD_of (by decide +kernel) (by exact Nat.le_of_ble_eq_true rfl) ?_
  show zB mX7_sheet _ _ _ 0 [some (.ref 0), some (.int (nI s)), some (.int n), none] [] _
  refine zj_aload_n dX7_sheet_0 (by rfl) ?_
  refine zj_iload_n dX7_sheet_1 (by rfl) ?_
  refine zc_7_155 rfl dX7_sheet_2 (by first | assumption | rfl) (x7_sheetAt r0 hs) (by exact Nat.le_of_ble_eq_true rfl) ?_
  refine zj_astore_n dX7_sheet_5 (by decide) ?_
  refine zj_aload_n dX7_sheet_6 (by rfl) ?_
  refine zj_ifnull dX7_sheet_7 ?_
  refine zj_iload_n dX7_sheet_10 (by rfl) ?_
  refine zj_bipush (v := 60) dX7_sheet_11 (by decide) ?_
  refine zj_icmp_le (tgt := 19) dX7_sheet_13 (by decide) (fun _ => ?_) (fun zq => absurd (h60) zq)
  refine zj_iload_n dX7_sheet_19 (by rfl) ?_
  refine zj_if_ge (tgt := 26) dX7_sheet_20 (by decide) (fun zq => absurd zq (Int32.not_le.mpr hn)) (fun _ => ?_)
  refine zj_ldc (v := -1000000014) dX7_sheet_23 zq_563 ?_
  refine zj_iret dX7_sheet_25 rfl (Nat.le_refl _) (Nat.le_refl _) ?_
  exact ⟨rfl, rfl⟩
theorem x_sheet (r : RX h C P S T H O g) {s n : Nat} (hs : s < 2) (hn : n ≤ 60) : ∃ h', zD mX7_sheet (d + 1) [.ref 0, .int (nI s), .int (nI n)] h (some (.int (nI n))) h' ∧ RX h' C P (s_up S s (some (List.replicate n 0))) T H O g ∧ zEq 47 63 h h' := by
  obtain ⟨r0, -, -, rs, -⟩ := id r
  obtain ⟨q0, -⟩ := id r0
  obtain ⟨s0, f, s1, sq⟩ := rs s hs
  obtain ⟨f', hf', hD⟩ := x3_layOut (d := d) (v := nI n) s0 s1 (by omega)
  have e : ∀ lo hi', (44 + 2 * s < lo ∨ hi' < 43 + 2 * s) → zEq lo hi' h ((h.set (44 + 2 * s) (.inl (0, 60, .inl f'))).set (43 + 2 * s) (.inr (3, [.ref (44 + 2 * s), .int (nI n)]))) := fun lo hi' hh => zEq_set (zEq_set zEq_rf (by omega)) (by omega)
  refine ⟨_, ?_, RX_S r (e _ _ (by omega)) (RS_up (f := f') rs (fun j a b c1 c2 => e j j (by omega) j (Nat.le_refl _) (Nat.le_refl _)) ?_ ?_ ?_), e _ _ (by omega)⟩
  · refine zD_of (by decide +kernel) (by exact Nat.le_of_ble_eq_true rfl) ?_
    show zB mX7_sheet _ _ _ 0 [some (.ref 0), some (.int (nI s)), some (.int (nI n)), none] [] _
    refine zj_aload_n dX7_sheet_0 (by rfl) ?_
    refine zj_iload_n dX7_sheet_1 (by rfl) ?_
    refine zc_7_155 rfl dX7_sheet_2 (by first | assumption | rfl) (x7_sheetAt r0 hs) (by exact Nat.le_of_ble_eq_true rfl) ?_
    refine zj_astore_n dX7_sheet_5 (by decide) ?_
    refine zj_aload_n dX7_sheet_6 (by rfl) ?_
    refine zj_ifnull dX7_sheet_7 ?_
    refine zj_iload_n dX7_sheet_10 (by rfl) ?_
    refine zj_bipush (v := 60) dX7_sheet_11 (by decide) ?_
    refine zj_icmp_le (tgt := 19) dX7_sheet_13 (by decide) (fun _ => ?_) (fun zq => absurd (nI_le (b := 60) hn (by decide)) zq)
    refine zj_iload_n dX7_sheet_19 (by rfl) ?_
    refine zj_if_ge (tgt := 26) dX7_sheet_20 (by decide) (fun _ => ?_) (fun zq => absurd (nI_pos' (by omega)) zq)
    refine zj_aload_n dX7_sheet_26 (by rfl) ?_
    refine zj_iload_n dX7_sheet_27 (by rfl) ?_
    refine zc_7_199 rfl dX7_sheet_28 (by first | assumption | rfl) hD (by exact Nat.le_of_ble_eq_true rfl) ?_
    refine zj_iload_n dX7_sheet_31 (by rfl) ?_
    refine zj_iret dX7_sheet_32 rfl (Nat.le_refl _) (Nat.le_refl _) ?_
    exact ⟨rfl, rfl⟩
  · rw [List.length_replicate]
    exact zset_eq (zset_ne (by omega) s0)
  · exact zset_ne (by omega) (zset_eq s1)
  · intro j hj
    rw [List.length_replicate] at hj
    rw [hf' j (by omega)]
    simp [List.getD, List.getElem?_replicate]
    split <;> rfl
theorem x_markA (r : RX h C P S T H O g) {s i v : Int32} (hs : s < 0 ∨ 2 ≤ s) : zD mX7_mark (d + 1) [.ref 0, .int s, .int i, .int v] h (some (.int (-1000000001))) h := by
  obtain ⟨r0, -⟩ := id r
  obtain ⟨q0, -⟩ := id r0
  refine zD_of (by decide +kernel) (by exact Nat.le_of_ble_eq_true rfl) ?_
  show zB mX7_mark _ _ _ 0 [some (.ref 0), some (.int s), some (.int i), some (.int v), none] [] _
  refine zj_aload_n dX7_mark_0 (by rfl) ?_
  refine zj_iload_n dX7_mark_1 (by rfl) ?_
  refine zc_7_155 rfl dX7_mark_2 (by first | assumption | rfl) (x7_sheetAtN r0 hs) (by exact Nat.le_of_ble_eq_true rfl) ?_
  refine zj_astoreN dX7_mark_5 (by decide) ?_
  refine zj_aloadN dX7_mark_7 (by rfl) ?_
  refine zj_ifnonnullN dX7_mark_9 ?_
  refine zj_ldc (v := -1000000001) dX7_mark_12 zq_226 ?_
  refine zj_iret dX7_mark_14 rfl (Nat.le_refl _) (Nat.le_refl _) ?_
  exact ⟨rfl, rfl⟩
theorem x_markN (w : WF C P S T H O g) (r : RX h C P S T H O g) {s : Nat} {i v : Int32} (hs : s < 2) (hn : S s = none) : zD mX7_mark (d + 1) [.ref 0, .int (nI s), .int i, .int v] h (some (.int (-1000000011))) h := by
  obtain ⟨r0, -, -, rs, -⟩ := id r
  obtain ⟨q0, -⟩ := id r0
  obtain ⟨s0, -⟩ := rs s hs
  have hM := x3_isMissing (d := d) s0 (WS_le w.2.2.1 hs)
  rw [if_pos (by rw [hn]; rfl)] at hM
  refine zD_of (by decide +kernel) (by exact Nat.le_of_ble_eq_true rfl) ?_
  show zB mX7_mark _ _ _ 0 [some (.ref 0), some (.int (nI s)), some (.int i), some (.int v), none] [] _
  refine zj_aload_n dX7_mark_0 (by rfl) ?_
  refine zj_iload_n dX7_mark_1 (by rfl) ?_
  refine zc_7_155 rfl dX7_mark_2 (by first | assumption | rfl) (x7_sheetAt r0 hs) (by exact Nat.le_of_ble_eq_true rfl) ?_
  refine zj_astore dX7_mark_5 (by decide) ?_
  refine zj_aload dX7_mark_7 (by rfl) ?_
  refine zj_ifnonnull (tgt := 15) dX7_mark_9 (by decide) ?_
  refine zj_aload dX7_mark_15 (by rfl) ?_
  refine zc_7_159 rfl dX7_mark_17 (by first | assumption | rfl) hM (by exact Nat.le_of_ble_eq_true rfl) ?_
  refine zj_if_eq (tgt := 26) dX7_mark_20 (by decide) (fun zq => absurd zq (by decide)) (fun _ => ?_)
  refine zj_ldc (v := -1000000011) dX7_mark_23 zq_443 ?_
  refine zj_iret dX7_mark_25 rfl (Nat.le_refl _) (Nat.le_refl _) ?_
  exact ⟨rfl, rfl⟩
theorem x_markI (w : WF C P S T H O g) (r : RX h C P S T H O g) {s : Nat} {i v : Int32} {l : List Int32} (hs : s < 2) (hl : S s = some l) (hi : i < 0 ∨ nI l.length ≤ i) : zD mX7_mark (d + 1) [.ref 0, .int (nI s), .int i, .int v] h (some (.int (-1000000013))) h := by
  obtain ⟨r0, -, -, rs, -⟩ := id r
  obtain ⟨q0, -⟩ := id r0
  obtain ⟨s0, -⟩ := rs s hs
  have hM := x3_isMissing (d := d) s0 (WS_le w.2.2.1 hs)
  rw [if_neg (by rw [hl]; intro e; cases e)] at hM
  rw [hl] at s0
  refine zD_of (by decide +kernel) (by exact Nat.le_of_ble_eq_true rfl) ?_
  show zB mX7_mark _ _ _ 0 [some (.ref 0), some (.int (nI s)), some (.int i), some (.int v), none] [] _
  refine zj_aload_n dX7_mark_0 (by rfl) ?_
  refine zj_iload_n dX7_mark_1 (by rfl) ?_
  refine zc_7_155 rfl dX7_mark_2 (by first | assumption | rfl) (x7_sheetAt r0 hs) (by exact Nat.le_of_ble_eq_true rfl) ?_
  refine zj_astore dX7_mark_5 (by decide) ?_
  refine zj_aload dX7_mark_7 (by rfl) ?_
  refine zj_ifnonnull (tgt := 15) dX7_mark_9 (by decide) ?_
  refine zj_aload dX7_mark_15 (by rfl) ?_
  refine zc_7_159 rfl dX7_mark_17 (by first | assumption | rfl) hM (by exact Nat.le_of_ble_eq_true rfl) ?_
  refine zj_if_eq (tgt := 26) dX7_mark_20 (by decide) (fun _ => ?_) (fun zq => absurd (rfl) zq)
  refine zj_aload dX7_mark_26 (by rfl) ?_
  refine zj_iload_n dX7_mark_28 (by rfl) ?_
  refine zj_iload_n dX7_mark_29 (by rfl) ?_
  refine zj_i2b dX7_mark_30 ?_
  refine zc_7_202 rfl dX7_mark_31 (by first | assumption | rfl) (x3_changeX s0 hi) (by exact Nat.le_of_ble_eq_true rfl) ?_
  refine zj_iret dX7_mark_34 rfl (Nat.le_refl _) (Nat.le_refl _) ?_
  exact ⟨rfl, rfl⟩
theorem z_gset {l : List Int32} {i j : Nat} {v : Int32} (hi : i < l.length) : (l.set i v).getD j 0 = if j = i then v else l.getD j 0 := by
  simp only [List.getD, List.getElem?_set]
  by_cases e : i = j
  · subst e; simp [hi]
  · rw [if_neg e, if_neg (fun x => e x.symm)]
theorem x_mark (w : WF C P S T H O g) (r : RX h C P S T H O g) {s i : Nat} {v : Int32} {l : List Int32} (hs : s < 2) (hl : S s = some l) (hi : i < l.length) : ∃ h', zD mX7_mark (d + 1) [.ref 0, .int (nI s), .int (nI i), .int v] h (some (.int (l.getD i 0))) h' ∧ RX h' C P (s_up S s (some (l.set i v.toInt8.toInt32))) T H O g ∧ zEq 47 63 h h' := by
  obtain ⟨r0, -, -, rs, -⟩ := id r
  obtain ⟨q0, -⟩ := id r0
  obtain ⟨s0, f, s1, sq⟩ := rs s hs
  have hM := x3_isMissing (d := d) s0 (WS_le w.2.2.1 hs)
  rw [if_neg (by rw [hl]; intro e; cases e)] at hM
  rw [hl] at s0
  have l60 := (w.2.2.1 s hs l hl).1
  have hD := x3_change (d := d) (v := v.toInt8.toInt32) s0 s1 l60 hi
  rw [sq l hl i hi, pk_vb] at hD
  have e : ∀ lo hi', (44 + 2 * s < lo ∨ hi' < 44 + 2 * s) → zEq lo hi' h (h.set (44 + 2 * s) (.inl (0, 60, .inl (upd f i v.toInt8.toInt32)))) := fun lo hi' hh => zEq_set zEq_rf (by omega)
  refine ⟨_, ?_, RX_S r (e _ _ (by omega)) (RS_up (f := upd f i v.toInt8.toInt32) rs (fun j a b c1 c2 => e j j (by omega) j (Nat.le_refl _) (Nat.le_refl _)) ?_ ?_ ?_), e _ _ (by omega)⟩
  · refine zD_of (by decide +kernel) (by exact Nat.le_of_ble_eq_true rfl) ?_
    show zB mX7_mark _ _ _ 0 [some (.ref 0), some (.int (nI s)), some (.int (nI i)), some (.int v), none] [] _
    refine zj_aload_n dX7_mark_0 (by rfl) ?_
    refine zj_iload_n dX7_mark_1 (by rfl) ?_
    refine zc_7_155 rfl dX7_mark_2 (by first | assumption | rfl) (x7_sheetAt r0 hs) (by exact Nat.le_of_ble_eq_true rfl) ?_
    refine zj_astore dX7_mark_5 (by decide) ?_
    refine zj_aload dX7_mark_7 (by rfl) ?_
    refine zj_ifnonnull (tgt := 15) dX7_mark_9 (by decide) ?_
    refine zj_aload dX7_mark_15 (by rfl) ?_
    refine zc_7_159 rfl dX7_mark_17 (by first | assumption | rfl) hM (by exact Nat.le_of_ble_eq_true rfl) ?_
    refine zj_if_eq (tgt := 26) dX7_mark_20 (by decide) (fun _ => ?_) (fun zq => absurd (rfl) zq)
    refine zj_aload dX7_mark_26 (by rfl) ?_
    refine zj_iload_n dX7_mark_28 (by rfl) ?_
    refine zj_iload_n dX7_mark_29 (by rfl) ?_
    refine zj_i2b dX7_mark_30 ?_
    refine zc_7_202 rfl dX7_mark_31 (by first | assumption | rfl) hD (by exact Nat.le_of_ble_eq_true rfl) ?_
    refine zj_iret dX7_mark_34 rfl (Nat.le_refl _) (Nat.le_refl _) ?_
    exact ⟨rfl, rfl⟩
  · rw [List.length_set]
    exact zset_ne (by omega) s0
  · exact zset_eq s1
  · intro j hj
    rw [List.length_set] at hj
    rw [z_gset hi]
    by_cases ej : j = i
    · subst ej; rw [pk_us, if_pos rfl]
    · rw [pk_un ej, if_neg ej]; exact sq l hl j hj
theorem x7_lieY {a b n : Nat} (hn : n ≤ 60) (hab : a + b ≤ n) : zD mX7_lieWithin d [.int (nI a), .int (nI b), .int (nI n)] h (some (.int 1)) h := by
  refine zD_of (by decide +kernel) (by exact Nat.le_of_ble_eq_true rfl) ?_
  show zB mX7_lieWithin _ _ _ 0 [some (.int (nI a)), some (.int (nI b)), some (.int (nI n))] [] _
  refine zj_iload_n dX7_lieWithin_0 (by rfl) ?_
  refine zj_if_ltN (tgt := 24) dX7_lieWithin_1 (by decide) (by omega) ?_
  refine zj_iload_n dX7_lieWithin_4 (by rfl) ?_
  refine zj_if_ltN (tgt := 24) dX7_lieWithin_5 (by decide) (by omega) ?_
  refine zj_iload_n dX7_lieWithin_8 (by rfl) ?_
  refine zj_iload_n dX7_lieWithin_9 (by rfl) ?_
  refine zj_icmp_gtN (tgt := 24) dX7_lieWithin_10 (by decide) (by omega) (fun zq => absurd zq (by omega)) (fun _ => ?_)
  refine zj_iload_n dX7_lieWithin_13 (by rfl) ?_
  refine zj_iload_n dX7_lieWithin_14 (by rfl) ?_
  refine zj_iload_n dX7_lieWithin_15 (by rfl) ?_
  refine zj_isubN dX7_lieWithin_16 (by omega) ?_
  refine zj_icmp_gtN (tgt := 24) dX7_lieWithin_17 (by decide) (by omega) (fun zq => absurd zq (by omega)) (fun _ => ?_)
  refine zj_iconst (v := nI 1) dX7_lieWithin_20 (by decide) ?_
  refine zj_goto (tgt := 25) dX7_lieWithin_21 (by decide) ?_
  refine zj_zret dX7_lieWithin_25 rfl (by first | exact Or.inl rfl | exact Or.inr rfl) (Nat.le_refl _) (Nat.le_refl _) ?_
  exact ⟨rfl, rfl⟩
theorem x7_lieN {a b : Int32} {n : Nat} (hn : n ≤ 60) (hab : a < 0 ∨ b < 0 ∨ ∃ x y, x < 2 ^ 31 ∧ y < 2 ^ 31 ∧ a = nI x ∧ b = nI y ∧ ¬ x + y ≤ n) : zD mX7_lieWithin d [.int a, .int b, .int (nI n)] h (some (.int 0)) h := by
  by_cases ha : a < 0
  · refine zD_of (by decide +kernel) (by exact Nat.le_of_ble_eq_true rfl) ?_
    show zB mX7_lieWithin _ _ _ 0 [some (.int a), some (.int b), some (.int (nI n))] [] _
    refine zj_iload_n dX7_lieWithin_0 (by rfl) ?_
    refine zj_if_lt (tgt := 24) dX7_lieWithin_1 (by decide) (fun _ => ?_) (fun zq => absurd (ha) zq)
    refine zj_iconst (v := 0) dX7_lieWithin_24 (by decide) ?_
    refine zj_zret dX7_lieWithin_25 rfl (by first | exact Or.inl rfl | exact Or.inr rfl) (Nat.le_refl _) (Nat.le_refl _) ?_
    exact ⟨by first | rfl | (simp [*]; done) | (simp_all; done), rfl⟩
  · by_cases hb : b < 0
    · refine zD_of (by decide +kernel) (by exact Nat.le_of_ble_eq_true rfl) ?_
      show zB mX7_lieWithin _ _ _ 0 [some (.int a), some (.int b), some (.int (nI n))] [] _
      refine zj_iload_n dX7_lieWithin_0 (by rfl) ?_
      refine zj_if_lt (tgt := 24) dX7_lieWithin_1 (by decide) (fun zq => absurd zq (ha)) (fun _ => ?_)
      refine zj_iload_n dX7_lieWithin_4 (by rfl) ?_
      refine zj_if_lt (tgt := 24) dX7_lieWithin_5 (by decide) (fun _ => ?_) (fun zq => absurd (hb) zq)
      refine zj_iconst (v := 0) dX7_lieWithin_24 (by decide) ?_
      refine zj_zret dX7_lieWithin_25 rfl (by first | exact Or.inl rfl | exact Or.inr rfl) (Nat.le_refl _) (Nat.le_refl _) ?_
      exact ⟨by first | rfl | (simp [*]; done) | (simp_all; done), rfl⟩
    · obtain ⟨x, y, hx, hy, rfl, rfl, hxy⟩ := (hab.resolve_left ha).resolve_left hb
      by_cases hxn : x ≤ n
      · refine zD_of (by decide +kernel) (by exact Nat.le_of_ble_eq_true rfl) ?_
        show zB mX7_lieWithin _ _ _ 0 [some (.int (nI x)), some (.int (nI y)), some (.int (nI n))] [] _
        refine zj_iload_n dX7_lieWithin_0 (by rfl) ?_
        refine zj_if_ltN (tgt := 24) dX7_lieWithin_1 (by decide) (by omega) ?_
        refine zj_iload_n dX7_lieWithin_4 (by rfl) ?_
        refine zj_if_ltN (tgt := 24) dX7_lieWithin_5 (by decide) (by omega) ?_
        refine zj_iload_n dX7_lieWithin_8 (by rfl) ?_
        refine zj_iload_n dX7_lieWithin_9 (by rfl) ?_
        refine zj_icmp_gtN (tgt := 24) dX7_lieWithin_10 (by decide) (by omega) (fun zq => absurd zq (by omega)) (fun _ => ?_)
        refine zj_iload_n dX7_lieWithin_13 (by rfl) ?_
        refine zj_iload_n dX7_lieWithin_14 (by rfl) ?_
        refine zj_iload_n dX7_lieWithin_15 (by rfl) ?_
        refine zj_isubN dX7_lieWithin_16 (by omega) ?_
        refine zj_icmp_gtN (tgt := 24) dX7_lieWithin_17 (by decide) (by omega) (fun _ => ?_) (fun zq => absurd (by omega) zq)
        refine zj_iconst (v := nI 0) dX7_lieWithin_24 (by decide) ?_
        refine zj_zret dX7_lieWithin_25 rfl (by first | exact Or.inl rfl | exact Or.inr rfl) (Nat.le_refl _) (Nat.le_refl _) ?_
        exact ⟨rfl, rfl⟩
      · refine zD_of (by decide +kernel) (by exact Nat.le_of_ble_eq_true rfl) ?_
        show zB mX7_lieWithin _ _ _ 0 [some (.int (nI x)), some (.int (nI y)), some (.int (nI n))] [] _
        refine zj_iload_n dX7_lieWithin_0 (by rfl) ?_
        refine zj_if_ltN (tgt := 24) dX7_lieWithin_1 (by decide) (by omega) ?_
        refine zj_iload_n dX7_lieWithin_4 (by rfl) ?_
        refine zj_if_ltN (tgt := 24) dX7_lieWithin_5 (by decide) (by omega) ?_
        refine zj_iload_n dX7_lieWithin_8 (by rfl) ?_
        refine zj_iload_n dX7_lieWithin_9 (by rfl) ?_
        refine zj_icmp_gtN (tgt := 24) dX7_lieWithin_10 (by decide) (by omega) (fun _ => ?_) (fun zq => absurd (by omega) zq)
        refine zj_iconst (v := nI 0) dX7_lieWithin_24 (by decide) ?_
        refine zj_zret dX7_lieWithin_25 rfl (by first | exact Or.inl rfl | exact Or.inr rfl) (Nat.le_refl _) (Nat.le_refl _) ?_
        exact ⟨rfl, rfl⟩
theorem x_copyA (r : RX h C P S T H O g) {p f s a m : Int32} (hb : s_badt p s) : zD mX7_copy (d + 2) [.ref 0, .int p, .int f, .int s, .int a, .int m] h (some (.int (-1000000001))) h := by
  obtain ⟨r0, -⟩ := id r
  obtain ⟨q0, -⟩ := id r0
  by_cases hp : p < 0 ∨ 6 ≤ p
  · by_cases hs : s < 0 ∨ 2 ≤ s
    · refine zD_of (by decide +kernel) (by exact Nat.le_of_ble_eq_true rfl) ?_
      show zB mX7_copy _ _ _ 0 [some (.ref 0), some (.int p), some (.int f), some (.int s), some (.int a), some (.int m), none, none] [] _
      refine zj_aload_n dX7_copy_0 (by rfl) ?_
      refine zj_iload_n dX7_copy_1 (by rfl) ?_
      refine zc_7_99 rfl dX7_copy_2 (by first | assumption | rfl) (x7_phraseAtN r0 hp) (by exact Nat.le_of_ble_eq_true rfl) ?_
      refine zj_astoreN dX7_copy_5 (by decide) ?_
      refine zj_aload_n dX7_copy_7 (by rfl) ?_
      refine zj_iload_n dX7_copy_8 (by rfl) ?_
      refine zc_7_155 rfl dX7_copy_9 (by first | assumption | rfl) (x7_sheetAtN r0 hs) (by exact Nat.le_of_ble_eq_true rfl) ?_
      refine zj_astoreN dX7_copy_12 (by decide) ?_
      refine zj_aloadN dX7_copy_14 (by rfl) ?_
      refine zj_ifnullN (tgt := 24) dX7_copy_16 (by decide) ?_
      refine zj_ldc (v := -1000000001) dX7_copy_24 zq_226 ?_
      refine zj_iret dX7_copy_26 rfl (Nat.le_refl _) (Nat.le_refl _) ?_
      exact ⟨rfl, rfl⟩
    · obtain ⟨j, hj, rfl⟩ : ∃ j, j < 2 ∧ s = nI j := ((pk_ix s (n := 2) (by decide)).resolve_left (fun e => hs (Or.inl e))).resolve_left (fun e => hs (Or.inr e))
      refine zD_of (by decide +kernel) (by exact Nat.le_of_ble_eq_true rfl) ?_
      show zB mX7_copy _ _ _ 0 [some (.ref 0), some (.int p), some (.int f), some (.int (nI j)), some (.int a), some (.int m), none, none] [] _
      refine zj_aload_n dX7_copy_0 (by rfl) ?_
      refine zj_iload_n dX7_copy_1 (by rfl) ?_
      refine zc_7_99 rfl dX7_copy_2 (by first | assumption | rfl) (x7_phraseAtN r0 hp) (by exact Nat.le_of_ble_eq_true rfl) ?_
      refine zj_astoreN dX7_copy_5 (by decide) ?_
      refine zj_aload_n dX7_copy_7 (by rfl) ?_
      refine zj_iload_n dX7_copy_8 (by rfl) ?_
      refine zc_7_155 rfl dX7_copy_9 (by first | assumption | rfl) (x7_sheetAt r0 hj) (by exact Nat.le_of_ble_eq_true rfl) ?_
      refine zj_astore dX7_copy_12 (by decide) ?_
      refine zj_aloadN dX7_copy_14 (by rfl) ?_
      refine zj_ifnullN (tgt := 24) dX7_copy_16 (by decide) ?_
      refine zj_ldc (v := -1000000001) dX7_copy_24 zq_226 ?_
      refine zj_iret dX7_copy_26 rfl (Nat.le_refl _) (Nat.le_refl _) ?_
      exact ⟨rfl, rfl⟩
  · obtain ⟨i, hi, rfl⟩ : ∃ i, i < 6 ∧ p = nI i := ((pk_ix p (n := 6) (by decide)).resolve_left (fun e => hp (Or.inl e))).resolve_left (fun e => hp (Or.inr e))
    have hs := hb.resolve_left hp
    refine zD_of (by decide +kernel) (by exact Nat.le_of_ble_eq_true rfl) ?_
    show zB mX7_copy _ _ _ 0 [some (.ref 0), some (.int (nI i)), some (.int f), some (.int s), some (.int a), some (.int m), none, none] [] _
    refine zj_aload_n dX7_copy_0 (by rfl) ?_
    refine zj_iload_n dX7_copy_1 (by rfl) ?_
    refine zc_7_99 rfl dX7_copy_2 (by first | assumption | rfl) (x7_phraseAt r0 hi) (by exact Nat.le_of_ble_eq_true rfl) ?_
    refine zj_astore dX7_copy_5 (by decide) ?_
    refine zj_aload_n dX7_copy_7 (by rfl) ?_
    refine zj_iload_n dX7_copy_8 (by rfl) ?_
    refine zc_7_155 rfl dX7_copy_9 (by first | assumption | rfl) (x7_sheetAtN r0 hs) (by exact Nat.le_of_ble_eq_true rfl) ?_
    refine zj_astoreN dX7_copy_12 (by decide) ?_
    refine zj_aload dX7_copy_14 (by rfl) ?_
    refine zj_ifnull dX7_copy_16 ?_
    refine zj_aloadN dX7_copy_19 (by rfl) ?_
    refine zj_ifnonnullN dX7_copy_21 ?_
    refine zj_ldc (v := -1000000001) dX7_copy_24 zq_226 ?_
    refine zj_iret dX7_copy_26 rfl (Nat.le_refl _) (Nat.le_refl _) ?_
    exact ⟨rfl, rfl⟩
theorem x_copyN (w : WF C P S T H O g) (r : RX h C P S T H O g) {p s : Nat} {f a m : Int32} (hp : p < 6) (hs : s < 2) (hn : S s = none) : zD mX7_copy (d + 2) [.ref 0, .int (nI p), .int f, .int (nI s), .int a, .int m] h (some (.int (-1000000011))) h := by
  obtain ⟨r0, -, -, rs, -⟩ := id r
  obtain ⟨q0, -⟩ := id r0
  obtain ⟨s0, -⟩ := rs s hs
  refine zD_of (by decide +kernel) (by exact Nat.le_of_ble_eq_true rfl) ?_
  show zB mX7_copy _ _ _ 0 [some (.ref 0), some (.int (nI p)), some (.int f), some (.int (nI s)), some (.int a), some (.int m), none, none] [] _
  refine zj_aload_n dX7_copy_0 (by rfl) ?_
  refine zj_iload_n dX7_copy_1 (by rfl) ?_
  refine zc_7_99 rfl dX7_copy_2 (by first | assumption | rfl) (x7_phraseAt r0 hp) (by exact Nat.le_of_ble_eq_true rfl) ?_
  refine zj_astore dX7_copy_5 (by decide) ?_
  refine zj_aload_n dX7_copy_7 (by rfl) ?_
  refine zj_iload_n dX7_copy_8 (by rfl) ?_
  refine zc_7_155 rfl dX7_copy_9 (by first | assumption | rfl) (x7_sheetAt r0 hs) (by exact Nat.le_of_ble_eq_true rfl) ?_
  refine zj_astore dX7_copy_12 (by decide) ?_
  refine zj_aload dX7_copy_14 (by rfl) ?_
  refine zj_ifnull dX7_copy_16 ?_
  refine zj_aload dX7_copy_19 (by rfl) ?_
  refine zj_ifnonnull (tgt := 27) dX7_copy_21 (by decide) ?_
  refine zj_aload dX7_copy_27 (by rfl) ?_
  refine zc_7_159 rfl dX7_copy_29 (by first | assumption | rfl) (x3_mN w r hs hn) (by exact Nat.le_of_ble_eq_true rfl) ?_
  refine zj_if_eq (tgt := 38) dX7_copy_32 (by decide) (fun zq => absurd zq (by decide)) (fun _ => ?_)
  refine zj_ldc (v := -1000000011) dX7_copy_35 zq_443 ?_
  refine zj_iret dX7_copy_37 rfl (Nat.le_refl _) (Nat.le_refl _) ?_
  exact ⟨rfl, rfl⟩
/-- from + many within n, all of them at least 0 -/
def s_in (a b : Int32) (n : Nat) : Prop := ∃ x y, x < 2 ^ 31 ∧ y < 2 ^ 31 ∧ a = nI x ∧ b = nI y ∧ x + y ≤ n
theorem s_in_n {a b : Int32} {n : Nat} (hi : ¬ s_in a b n) : a < 0 ∨ b < 0 ∨ ∃ x y, x < 2 ^ 31 ∧ y < 2 ^ 31 ∧ a = nI x ∧ b = nI y ∧ ¬ x + y ≤ n := by
  by_cases ha : a < 0
  · exact Or.inl ha
  · by_cases hb : b < 0
    · exact Or.inr (Or.inl hb)
    · obtain ⟨x, hx, rfl⟩ := nI_of ha
      obtain ⟨y, hy, rfl⟩ := nI_of hb
      exact Or.inr (Or.inr ⟨x, y, hx, hy, rfl, rfl, fun e => hi ⟨x, y, hx, hy, rfl, rfl, e⟩⟩)
theorem x_copyI (w : WF C P S T H O g) (r : RX h C P S T H O g) {p s : Nat} {f a m : Int32} {l : List Int32} (hp : p < 6) (hs : s < 2) (hl : S s = some l) (hi : ¬ (s_in f m (P p).length ∧ s_in a m l.length)) : zD mX7_copy (d + 2) [.ref 0, .int (nI p), .int f, .int (nI s), .int a, .int m] h (some (.int (-1000000013))) h := by
  obtain ⟨r0, -, rp, rs, -⟩ := id r
  obtain ⟨q0, -⟩ := id r0
  obtain ⟨p0, pf, p1, pq⟩ := rp p hp
  obtain ⟨s0, sf, s1, sq⟩ := rs s hs
  rw [hl] at s0
  by_cases h1 : s_in f m (P p).length
  · have h2 : ¬ s_in a m l.length := fun e => hi ⟨h1, e⟩
    have hN := x7_lieN (d := d + 1) (h := h) (w.2.2.1 s hs l hl).1 (s_in_n h2)
    obtain ⟨x, y, hx, hy, rfl, rfl, hxy⟩ := h1
    have hY := x7_lieY (d := d + 1) (h := h) (w.2.1 p hp).1 hxy
    refine zD_of (by decide +kernel) (by exact Nat.le_of_ble_eq_true rfl) ?_
    show zB mX7_copy _ _ _ 0 [some (.ref 0), some (.int (nI p)), some (.int (nI x)), some (.int (nI s)), some (.int a), some (.int (nI y)), none, none] [] _
    refine zj_aload_n dX7_copy_0 (by rfl) ?_
    refine zj_iload_n dX7_copy_1 (by rfl) ?_
    refine zc_7_99 rfl dX7_copy_2 (by first | assumption | rfl) (x7_phraseAt r0 hp) (by exact Nat.le_of_ble_eq_true rfl) ?_
    refine zj_astore dX7_copy_5 (by decide) ?_
    refine zj_aload_n dX7_copy_7 (by rfl) ?_
    refine zj_iload_n dX7_copy_8 (by rfl) ?_
    refine zc_7_155 rfl dX7_copy_9 (by first | assumption | rfl) (x7_sheetAt r0 hs) (by exact Nat.le_of_ble_eq_true rfl) ?_
    refine zj_astore dX7_copy_12 (by decide) ?_
    refine zj_aload dX7_copy_14 (by rfl) ?_
    refine zj_ifnull dX7_copy_16 ?_
    refine zj_aload dX7_copy_19 (by rfl) ?_
    refine zj_ifnonnull (tgt := 27) dX7_copy_21 (by decide) ?_
    refine zj_aload dX7_copy_27 (by rfl) ?_
    refine zc_7_159 rfl dX7_copy_29 (by first | assumption | rfl) (x3_mY w r hs hl) (by exact Nat.le_of_ble_eq_true rfl) ?_
    refine zj_if_eq (tgt := 38) dX7_copy_32 (by decide) (fun _ => ?_) (fun zq => absurd (rfl) zq)
    refine zj_iload_n dX7_copy_38 (by rfl) ?_
    refine zj_iload dX7_copy_39 (by rfl) ?_
    refine zj_aload dX7_copy_41 (by rfl) ?_
    refine zg_7_113 rfl dX7_copy_43 (by first | assumption | rfl) (by rfl) ?_
    refine zc_7_205 rfl dX7_copy_46 hY (by exact Nat.le_of_ble_eq_true rfl) ?_
    refine zj_if_eq (tgt := 67) dX7_copy_49 (by decide) (fun zq => absurd zq (by decide)) (fun _ => ?_)
    refine zj_iload dX7_copy_52 (by rfl) ?_
    refine zj_iload dX7_copy_54 (by rfl) ?_
    refine zj_aload dX7_copy_56 (by rfl) ?_
    refine zg_7_209 rfl dX7_copy_58 (by first | assumption | rfl) (by rfl) ?_
    refine zc_7_205 rfl dX7_copy_61 hN (by exact Nat.le_of_ble_eq_true rfl) ?_
    refine zj_if_ne (tgt := 70) dX7_copy_64 (by decide) (fun zq => absurd (rfl) zq) (fun _ => ?_)
    refine zj_ldc (v := -1000000013) dX7_copy_67 zq_584 ?_
    refine zj_iret dX7_copy_69 rfl (Nat.le_refl _) (Nat.le_refl _) ?_
    exact ⟨rfl, rfl⟩
  · have hN := x7_lieN (d := d + 1) (h := h) (w.2.1 p hp).1 (s_in_n h1)
    refine zD_of (by decide +kernel) (by exact Nat.le_of_ble_eq_true rfl) ?_
    show zB mX7_copy _ _ _ 0 [some (.ref 0), some (.int (nI p)), some (.int f), some (.int (nI s)), some (.int a), some (.int m), none, none] [] _
    refine zj_aload_n dX7_copy_0 (by rfl) ?_
    refine zj_iload_n dX7_copy_1 (by rfl) ?_
    refine zc_7_99 rfl dX7_copy_2 (by first | assumption | rfl) (x7_phraseAt r0 hp) (by exact Nat.le_of_ble_eq_true rfl) ?_
    refine zj_astore dX7_copy_5 (by decide) ?_
    refine zj_aload_n dX7_copy_7 (by rfl) ?_
    refine zj_iload_n dX7_copy_8 (by rfl) ?_
    refine zc_7_155 rfl dX7_copy_9 (by first | assumption | rfl) (x7_sheetAt r0 hs) (by exact Nat.le_of_ble_eq_true rfl) ?_
    refine zj_astore dX7_copy_12 (by decide) ?_
    refine zj_aload dX7_copy_14 (by rfl) ?_
    refine zj_ifnull dX7_copy_16 ?_
    refine zj_aload dX7_copy_19 (by rfl) ?_
    refine zj_ifnonnull (tgt := 27) dX7_copy_21 (by decide) ?_
    refine zj_aload dX7_copy_27 (by rfl) ?_
    refine zc_7_159 rfl dX7_copy_29 (by first | assumption | rfl) (x3_mY w r hs hl) (by exact Nat.le_of_ble_eq_true rfl) ?_
    refine zj_if_eq (tgt := 38) dX7_copy_32 (by decide) (fun _ => ?_) (fun zq => absurd (rfl) zq)
    refine zj_iload_n dX7_copy_38 (by rfl) ?_
    refine zj_iload dX7_copy_39 (by rfl) ?_
    refine zj_aload dX7_copy_41 (by rfl) ?_
    refine zg_7_113 rfl dX7_copy_43 (by first | assumption | rfl) (by rfl) ?_
    refine zc_7_205 rfl dX7_copy_46 hN (by exact Nat.le_of_ble_eq_true rfl) ?_
    refine zj_if_eq (tgt := 67) dX7_copy_49 (by decide) (fun _ => ?_) (fun zq => absurd (rfl) zq)
    refine zj_ldc (v := -1000000013) dX7_copy_67 zq_584 ?_
    refine zj_iret dX7_copy_69 rfl (Nat.le_refl _) (Nat.le_refl _) ?_
    exact ⟨rfl, rfl⟩
/-- a sheet's row with a piece of a phrase copied in -/
def s_cp (l : List Int32) (q : List Nat) (f a m : Nat) : List Int32 := (List.range l.length).map (fun j => if a ≤ j ∧ j < a + m then nI (q.getD (f + (j - a)) 0) else l.getD j 0)
theorem s_cp_len {l : List Int32} {q : List Nat} {f a m : Nat} : (s_cp l q f a m).length = l.length := by simp [s_cp]
theorem s_cp_get {l : List Int32} {q : List Nat} {f a m j : Nat} (hj : j < l.length) : (s_cp l q f a m).getD j 0 = if a ≤ j ∧ j < a + m then nI (q.getD (f + (j - a)) 0) else l.getD j 0 := by
  unfold s_cp
  rw [List.getD, List.getElem?_map, List.getElem?_range hj]
  rfl
theorem x_copy (w : WF C P S T H O g) (r : RX h C P S T H O g) {p s f a m : Nat} {l : List Int32} (hp : p < 6) (hs : s < 2) (hl : S s = some l) (h1 : f + m ≤ (P p).length) (h2 : a + m ≤ l.length) : ∃ h', zD mX7_copy (d + 2) [.ref 0, .int (nI p), .int (nI f), .int (nI s), .int (nI a), .int (nI m)] h (some (.int (nI m))) h' ∧ RX h' C P (s_up S s (some (s_cp l (P p) f a m))) T H O g ∧ zEq 47 63 h h' := by
  obtain ⟨r0, -, rp, rs, -⟩ := id r
  obtain ⟨q0, -⟩ := id r0
  obtain ⟨p0, pf, p1, pq⟩ := rp p hp
  obtain ⟨s0, sf, s1, sq⟩ := rs s hs
  rw [hl] at s0
  have hp60 := (w.2.1 p hp).1
  have hl60 := (w.2.2.1 s hs l hl).1
  have hY1 := x7_lieY (d := d + 1) (h := h) hp60 h1
  have hY2 := x7_lieY (d := d + 1) (h := h) hl60 h2
  have c1 : (nI f).toNatClampNeg = f := nI_clamp (by omega)
  have c2 : (nI a).toNatClampNeg = a := nI_clamp (by omega)
  have c3 : (nI m).toNatClampNeg = m := nI_clamp (by omega)
  have hnfw := s_nfw
  have e : ∀ lo hi', (44 + 2 * s < lo ∨ hi' < 44 + 2 * s) → zEq lo hi' h (h.set (44 + 2 * s) (.inl (0, 60, .inl (va_cpy pf sf f a m)))) := fun lo hi' hh => zEq_set zEq_rf (by omega)
  refine ⟨_, ?_, RX_S r (e _ _ (by omega)) (RS_up (f := va_cpy pf sf f a m) rs (fun j a b c1 c2 => e j j (by omega) j (Nat.le_refl _) (Nat.le_refl _)) ?_ ?_ ?_), e _ _ (by omega)⟩
  · refine zD_of (by decide +kernel) (by exact Nat.le_of_ble_eq_true rfl) ?_
    show zB mX7_copy _ _ _ 0 [some (.ref 0), some (.int (nI p)), some (.int (nI f)), some (.int (nI s)), some (.int (nI a)), some (.int (nI m)), none, none] [] _
    refine zj_aload_n dX7_copy_0 (by rfl) ?_
    refine zj_iload_n dX7_copy_1 (by rfl) ?_
    refine zc_7_99 rfl dX7_copy_2 (by first | assumption | rfl) (x7_phraseAt r0 hp) (by exact Nat.le_of_ble_eq_true rfl) ?_
    refine zj_astore dX7_copy_5 (by decide) ?_
    refine zj_aload_n dX7_copy_7 (by rfl) ?_
    refine zj_iload_n dX7_copy_8 (by rfl) ?_
    refine zc_7_155 rfl dX7_copy_9 (by first | assumption | rfl) (x7_sheetAt r0 hs) (by exact Nat.le_of_ble_eq_true rfl) ?_
    refine zj_astore dX7_copy_12 (by decide) ?_
    refine zj_aload dX7_copy_14 (by rfl) ?_
    refine zj_ifnull dX7_copy_16 ?_
    refine zj_aload dX7_copy_19 (by rfl) ?_
    refine zj_ifnonnull (tgt := 27) dX7_copy_21 (by decide) ?_
    refine zj_aload dX7_copy_27 (by rfl) ?_
    refine zc_7_159 rfl dX7_copy_29 (by first | assumption | rfl) (x3_mY w r hs hl) (by exact Nat.le_of_ble_eq_true rfl) ?_
    refine zj_if_eq (tgt := 38) dX7_copy_32 (by decide) (fun _ => ?_) (fun zq => absurd (rfl) zq)
    refine zj_iload_n dX7_copy_38 (by rfl) ?_
    refine zj_iload dX7_copy_39 (by rfl) ?_
    refine zj_aload dX7_copy_41 (by rfl) ?_
    refine zg_7_113 rfl dX7_copy_43 (by first | assumption | rfl) (by rfl) ?_
    refine zc_7_205 rfl dX7_copy_46 hY1 (by exact Nat.le_of_ble_eq_true rfl) ?_
    refine zj_if_eq (tgt := 67) dX7_copy_49 (by decide) (fun zq => absurd zq (by decide)) (fun _ => ?_)
    refine zj_iload dX7_copy_52 (by rfl) ?_
    refine zj_iload dX7_copy_54 (by rfl) ?_
    refine zj_aload dX7_copy_56 (by rfl) ?_
    refine zg_7_209 rfl dX7_copy_58 (by first | assumption | rfl) (by rfl) ?_
    refine zc_7_205 rfl dX7_copy_61 hY2 (by exact Nat.le_of_ble_eq_true rfl) ?_
    refine zj_if_ne (tgt := 70) dX7_copy_64 (by decide) (fun _ => ?_) (fun zq => absurd zq (by decide))
    refine zj_aload dX7_copy_70 (by rfl) ?_
    refine zg_7_213 rfl dX7_copy_72 (by first | assumption | rfl) (by rfl) ?_
    refine zj_iload_n dX7_copy_75 (by rfl) ?_
    refine zj_aload dX7_copy_76 (by rfl) ?_
    refine zg_7_217 rfl dX7_copy_78 (by first | assumption | rfl) (by rfl) ?_
    refine zj_iload dX7_copy_81 (by rfl) ?_
    refine zj_iload dX7_copy_83 (by rfl) ?_
    refine zj_copyb dX7_copy_85 zq_585 p1 s1 (nI_pos (by omega)) (nI_pos (by omega)) (nI_pos (by omega)) (by rw [c1, c3]; omega) (by rw [c2, c3]; omega) (fun j hj => by rw [c3] at hj; rw [c1, pq _ (by omega)]; exact s_fits8 (by have := s_getD_le (j := f + j) (w.2.1 p hp).2; omega)) (by show 1 ≤ d + 2; omega) (by show 0 + _ ≤ 60 * (d + 2); omega) ?_
    rw [c1, c2, c3]
    refine zj_iload dX7_copy_88 (by rfl) ?_
    refine zj_iret dX7_copy_90 rfl (Nat.le_refl _) (Nat.le_refl _) ?_
    exact ⟨rfl, rfl⟩
  · rw [s_cp_len]
    exact zset_ne (by omega) s0
  · exact zset_eq s1
  · intro j hj
    rw [s_cp_len] at hj
    rw [s_cp_get hj]
    by_cases hj2 : a ≤ j ∧ j < a + m
    · rw [if_pos hj2, pk_cpy_in hj2.1 hj2.2, pq _ (by omega)]
    · rw [if_neg hj2, pk_cpy_out (by omega)]
      exact sq l hl j hj
/-- sums -/
def s_add (f : Nat → Nat) : Nat → Nat
  | 0 => 0
  | n + 1 => s_add f n + f n
theorem x7_limbs_l (r : RX h C P S T H O g) : ∀ m i, i + m = 4 → zB mX7_limbsInAll d (some (.int (nI (s_add (fun j => (C j).length) 4)))) h 4 [some (.ref 0), some (.int (nI (s_add (fun j => (C j).length) i))), some (.int (nI i))] [] h := by
  obtain ⟨r0, rc, -⟩ := id r
  obtain ⟨q0, ⟨f1, x1, y1⟩, -⟩ := id r0
  intro m
  induction m with
  | zero =>
    intro i hi
    refine zj_iload_n dX7_limbsInAll_4 (by rfl) ?_
    refine zj_aload_n dX7_limbsInAll_5 (by rfl) ?_
    refine zg_7_9 rfl dX7_limbsInAll_6 (by first | assumption | rfl) (by rfl) ?_
    refine zj_alenA dX7_limbsInAll_9 (by first | assumption | rfl) (by decide) ?_
    refine zj_icmp_geN (tgt := 31) dX7_limbsInAll_10 (by decide) (by omega) (fun _ => ?_) (fun zq => absurd (by omega) zq)
    refine zj_iload_n dX7_limbsInAll_31 (by rfl) ?_
    refine zj_iret dX7_limbsInAll_32 rfl (Nat.le_refl _) (Nat.le_refl _) ?_
    exact ⟨by rw [show i = 4 by omega], rfl⟩
  | succ m ih =>
    intro i hi
    obtain ⟨c0, -⟩ := rc i (by omega)
    have hJ := ih (i + 1) (by omega)
    refine zj_iload_n dX7_limbsInAll_4 (by rfl) ?_
    refine zj_aload_n dX7_limbsInAll_5 (by rfl) ?_
    refine zg_7_9 rfl dX7_limbsInAll_6 (by first | assumption | rfl) (by rfl) ?_
    refine zj_alenA dX7_limbsInAll_9 (by first | assumption | rfl) (by decide) ?_
    refine zj_icmp_geN (tgt := 31) dX7_limbsInAll_10 (by decide) (by omega) (fun zq => absurd zq (by omega)) (fun _ => ?_)
    refine zj_iload_n dX7_limbsInAll_13 (by rfl) ?_
    refine zj_aload_n dX7_limbsInAll_14 (by rfl) ?_
    refine zg_7_9 rfl dX7_limbsInAll_15 (by first | assumption | rfl) (by rfl) ?_
    refine zj_iload_n dX7_limbsInAll_18 (by rfl) ?_
    refine zj_aaldN dX7_limbsInAll_19 (by first | assumption | rfl) (fun _ => rfl) (by omega) ?_
    rw [y1 i (by omega)]
    refine zg_7_75 rfl dX7_limbsInAll_20 (by first | assumption | rfl) (by rfl) ?_
    refine zj_iaddN dX7_limbsInAll_23 ?_
    refine zj_istore_n dX7_limbsInAll_24 (by decide) ?_
    refine zj_iincN dX7_limbsInAll_25 (by rfl) (by decide) ?_
    refine zj_goto (tgt := 4) dX7_limbsInAll_28 (by decide) ?_
    exact hJ
theorem x7_pne_l (w : WF C P S T H O g) (r : RX h C P S T H O g) : ∀ m i, i + m = 6 → zB mX7_phrasesNotEmpty d (some (.int (nI (s_add (fun j => if 0 < (P j).length then 1 else 0) 6)))) h 4 [some (.ref 0), some (.int (nI (s_add (fun j => if 0 < (P j).length then 1 else 0) i))), some (.int (nI i))] [] h := by
  obtain ⟨r0, -, rp, -⟩ := id r
  obtain ⟨q0, -, ⟨f1, x1, y1⟩, -⟩ := id r0
  intro m
  induction m with
  | zero =>
    intro i hi
    refine zj_iload_n dX7_phrasesNotEmpty_4 (by rfl) ?_
    refine zj_aload_n dX7_phrasesNotEmpty_5 (by rfl) ?_
    refine zg_7_17 rfl dX7_phrasesNotEmpty_6 (by first | assumption | rfl) (by rfl) ?_
    refine zj_alenA dX7_phrasesNotEmpty_9 (by first | assumption | rfl) (by decide) ?_
    refine zj_icmp_geN (tgt := 34) dX7_phrasesNotEmpty_10 (by decide) (by omega) (fun _ => ?_) (fun zq => absurd (by omega) zq)
    refine zj_iload_n dX7_phrasesNotEmpty_34 (by rfl) ?_
    refine zj_iret dX7_phrasesNotEmpty_35 rfl (Nat.le_refl _) (Nat.le_refl _) ?_
    exact ⟨by rw [show i = 6 by omega], rfl⟩
  | succ m ih =>
    intro i hi
    obtain ⟨c0, -⟩ := rp i (by omega)
    have l2 := (w.2.1 i (by omega)).1
    have hJ := ih (i + 1) (by omega)
    have e1 : s_add (fun j => if 0 < (P j).length then 1 else 0) (i + 1) = s_add (fun j => if 0 < (P j).length then 1 else 0) i + (if 0 < (P i).length then 1 else 0) := rfl
    refine zj_iload_n dX7_phrasesNotEmpty_4 (by rfl) ?_
    refine zj_aload_n dX7_phrasesNotEmpty_5 (by rfl) ?_
    refine zg_7_17 rfl dX7_phrasesNotEmpty_6 (by first | assumption | rfl) (by rfl) ?_
    refine zj_alenA dX7_phrasesNotEmpty_9 (by first | assumption | rfl) (by decide) ?_
    refine zj_icmp_geN (tgt := 34) dX7_phrasesNotEmpty_10 (by decide) (by omega) (fun zq => absurd zq (by omega)) (fun _ => ?_)
    refine zj_aload_n dX7_phrasesNotEmpty_13 (by rfl) ?_
    refine zg_7_17 rfl dX7_phrasesNotEmpty_14 (by first | assumption | rfl) (by rfl) ?_
    refine zj_iload_n dX7_phrasesNotEmpty_17 (by rfl) ?_
    refine zj_aaldN dX7_phrasesNotEmpty_18 (by first | assumption | rfl) (fun _ => rfl) (by omega) ?_
    rw [y1 i (by omega)]
    refine zg_7_113 rfl dX7_phrasesNotEmpty_19 (by first | assumption | rfl) (by rfl) ?_
    refine zj_if_leN (tgt := 28) dX7_phrasesNotEmpty_22 (by decide) (by omega) (fun q22 => ?_) (fun q22 => ?_)
    · refine zj_iincN dX7_phrasesNotEmpty_28 (by rfl) (by decide) ?_
      refine zj_goto (tgt := 4) dX7_phrasesNotEmpty_31 (by decide) ?_
      first | (rw [if_pos (by omega)] at e1; rw [e1] at hJ; exact hJ) | (rw [if_neg (by omega)] at e1; rw [e1] at hJ; exact hJ)
    · refine zj_iincN dX7_phrasesNotEmpty_25 (by rfl) (by decide) ?_
      refine zj_iincN dX7_phrasesNotEmpty_28 (by rfl) (by decide) ?_
      refine zj_goto (tgt := 4) dX7_phrasesNotEmpty_31 (by decide) ?_
      first | (rw [if_pos (by omega)] at e1; rw [e1] at hJ; exact hJ) | (rw [if_neg (by omega)] at e1; rw [e1] at hJ; exact hJ)
theorem x7_sylla_l (r : RX h C P S T H O g) : ∀ m i, i + m = 6 → zB mX7_syllablesInAll d (some (.int (nI (s_add (fun j => (P j).length) 6)))) h 4 [some (.ref 0), some (.int (nI (s_add (fun j => (P j).length) i))), some (.int (nI i))] [] h := by
  obtain ⟨r0, -, rp, -⟩ := id r
  obtain ⟨q0, -, ⟨f1, x1, y1⟩, -⟩ := id r0
  intro m
  induction m with
  | zero =>
    intro i hi
    refine zj_iload_n dX7_syllablesInAll_4 (by rfl) ?_
    refine zj_aload_n dX7_syllablesInAll_5 (by rfl) ?_
    refine zg_7_17 rfl dX7_syllablesInAll_6 (by first | assumption | rfl) (by rfl) ?_
    refine zj_alenA dX7_syllablesInAll_9 (by first | assumption | rfl) (by decide) ?_
    refine zj_icmp_geN (tgt := 31) dX7_syllablesInAll_10 (by decide) (by omega) (fun _ => ?_) (fun zq => absurd (by omega) zq)
    refine zj_iload_n dX7_syllablesInAll_31 (by rfl) ?_
    refine zj_iret dX7_syllablesInAll_32 rfl (Nat.le_refl _) (Nat.le_refl _) ?_
    exact ⟨by rw [show i = 6 by omega], rfl⟩
  | succ m ih =>
    intro i hi
    obtain ⟨c0, -⟩ := rp i (by omega)
    have hJ := ih (i + 1) (by omega)
    refine zj_iload_n dX7_syllablesInAll_4 (by rfl) ?_
    refine zj_aload_n dX7_syllablesInAll_5 (by rfl) ?_
    refine zg_7_17 rfl dX7_syllablesInAll_6 (by first | assumption | rfl) (by rfl) ?_
    refine zj_alenA dX7_syllablesInAll_9 (by first | assumption | rfl) (by decide) ?_
    refine zj_icmp_geN (tgt := 31) dX7_syllablesInAll_10 (by decide) (by omega) (fun zq => absurd zq (by omega)) (fun _ => ?_)
    refine zj_iload_n dX7_syllablesInAll_13 (by rfl) ?_
    refine zj_aload_n dX7_syllablesInAll_14 (by rfl) ?_
    refine zg_7_17 rfl dX7_syllablesInAll_15 (by first | assumption | rfl) (by rfl) ?_
    refine zj_iload_n dX7_syllablesInAll_18 (by rfl) ?_
    refine zj_aaldN dX7_syllablesInAll_19 (by first | assumption | rfl) (fun _ => rfl) (by omega) ?_
    rw [y1 i (by omega)]
    refine zg_7_113 rfl dX7_syllablesInAll_20 (by first | assumption | rfl) (by rfl) ?_
    refine zj_iaddN dX7_syllablesInAll_23 ?_
    refine zj_istore_n dX7_syllablesInAll_24 (by decide) ?_
    refine zj_iincN dX7_syllablesInAll_25 (by rfl) (by decide) ?_
    refine zj_goto (tgt := 4) dX7_syllablesInAll_28 (by decide) ?_
    exact hJ
theorem x7_snm_l (w : WF C P S T H O g) (r : RX h C P S T H O g) : ∀ m i, i + m = 2 → zB mX7_sheetsNotMissing (d + 1) (some (.int (nI (s_add (fun j => if S j = none then 0 else 1) 2)))) h 4 [some (.ref 0), some (.int (nI (s_add (fun j => if S j = none then 0 else 1) i))), some (.int (nI i))] [] h := by
  obtain ⟨r0, -, -, rs, -⟩ := id r
  obtain ⟨q0, -, -, ⟨f1, x1, y1⟩⟩ := id r0
  intro m
  induction m with
  | zero =>
    intro i hi
    refine zj_iload_n dX7_sheetsNotMissing_4 (by rfl) ?_
    refine zj_aload_n dX7_sheetsNotMissing_5 (by rfl) ?_
    refine zg_7_23 rfl dX7_sheetsNotMissing_6 (by first | assumption | rfl) (by rfl) ?_
    refine zj_alenA dX7_sheetsNotMissing_9 (by first | assumption | rfl) (by decide) ?_
    refine zj_icmp_geN (tgt := 34) dX7_sheetsNotMissing_10 (by decide) (by omega) (fun _ => ?_) (fun zq => absurd (by omega) zq)
    refine zj_iload_n dX7_sheetsNotMissing_34 (by rfl) ?_
    refine zj_iret dX7_sheetsNotMissing_35 rfl (Nat.le_refl _) (Nat.le_refl _) ?_
    exact ⟨by rw [show i = 2 by omega], rfl⟩
  | succ m ih =>
    intro i hi
    obtain ⟨s0, -⟩ := rs i (by omega)
    have hM := x3_isMissing (d := d) s0 (WS_le w.2.2.1 (by omega))
    have hJ := ih (i + 1) (by omega)
    have e1 : s_add (fun j => if S j = none then 0 else 1) (i + 1) = s_add (fun j => if S j = none then 0 else 1) i + (if S i = none then 0 else 1) := rfl
    by_cases hn : S i = none
    · rw [if_pos (by rw [hn]; rfl)] at hM
      rw [if_pos hn] at e1
      rw [e1] at hJ
      refine zj_iload_n dX7_sheetsNotMissing_4 (by rfl) ?_
      refine zj_aload_n dX7_sheetsNotMissing_5 (by rfl) ?_
      refine zg_7_23 rfl dX7_sheetsNotMissing_6 (by first | assumption | rfl) (by rfl) ?_
      refine zj_alenA dX7_sheetsNotMissing_9 (by first | assumption | rfl) (by decide) ?_
      refine zj_icmp_geN (tgt := 34) dX7_sheetsNotMissing_10 (by decide) (by omega) (fun zq => absurd zq (by omega)) (fun _ => ?_)
      refine zj_aload_n dX7_sheetsNotMissing_13 (by rfl) ?_
      refine zg_7_23 rfl dX7_sheetsNotMissing_14 (by first | assumption | rfl) (by rfl) ?_
      refine zj_iload_n dX7_sheetsNotMissing_17 (by rfl) ?_
      refine zj_aaldN dX7_sheetsNotMissing_18 (by first | assumption | rfl) (fun _ => rfl) (by omega) ?_
      rw [y1 i (by omega)]
      refine zc_7_159 rfl dX7_sheetsNotMissing_19 (by first | assumption | rfl) hM (by exact Nat.le_of_ble_eq_true rfl) ?_
      refine zj_if_ne (tgt := 28) dX7_sheetsNotMissing_22 (by decide) (fun _ => ?_) (fun zq => absurd zq (by decide))
      refine zj_iincN dX7_sheetsNotMissing_28 (by rfl) (by decide) ?_
      refine zj_goto (tgt := 4) dX7_sheetsNotMissing_31 (by decide) ?_
      exact hJ
    · rw [if_neg (by intro e; exact hn (Option.map_eq_none_iff.mp e))] at hM
      rw [if_neg hn] at e1
      rw [e1] at hJ
      refine zj_iload_n dX7_sheetsNotMissing_4 (by rfl) ?_
      refine zj_aload_n dX7_sheetsNotMissing_5 (by rfl) ?_
      refine zg_7_23 rfl dX7_sheetsNotMissing_6 (by first | assumption | rfl) (by rfl) ?_
      refine zj_alenA dX7_sheetsNotMissing_9 (by first | assumption | rfl) (by decide) ?_
      refine zj_icmp_geN (tgt := 34) dX7_sheetsNotMissing_10 (by decide) (by omega) (fun zq => absurd zq (by omega)) (fun _ => ?_)
      refine zj_aload_n dX7_sheetsNotMissing_13 (by rfl) ?_
      refine zg_7_23 rfl dX7_sheetsNotMissing_14 (by first | assumption | rfl) (by rfl) ?_
      refine zj_iload_n dX7_sheetsNotMissing_17 (by rfl) ?_
      refine zj_aaldN dX7_sheetsNotMissing_18 (by first | assumption | rfl) (fun _ => rfl) (by omega) ?_
      rw [y1 i (by omega)]
      refine zc_7_159 rfl dX7_sheetsNotMissing_19 (by first | assumption | rfl) hM (by exact Nat.le_of_ble_eq_true rfl) ?_
      refine zj_if_ne (tgt := 28) dX7_sheetsNotMissing_22 (by decide) (fun zq => absurd (rfl) zq) (fun _ => ?_)
      refine zj_iincN dX7_sheetsNotMissing_25 (by rfl) (by decide) ?_
      refine zj_iincN dX7_sheetsNotMissing_28 (by rfl) (by decide) ?_
      refine zj_goto (tgt := 4) dX7_sheetsNotMissing_31 (by decide) ?_
      exact hJ
theorem x7_limbs (r : RX h C P S T H O g) : zD mX7_limbsInAll d [.ref 0] h (some (.int (nI (s_add (fun j => (C j).length) 4)))) h := by
  refine zD_of (by decide +kernel) (by exact Nat.le_of_ble_eq_true rfl) ?_
  show zB mX7_limbsInAll _ _ _ 0 [some (.ref 0), none, none] [] _
  refine zj_iconst (v := nI 0) dX7_limbsInAll_0 (by decide) ?_
  refine zj_istore_n dX7_limbsInAll_1 (by decide) ?_
  refine zj_iconst (v := nI 0) dX7_limbsInAll_2 (by decide) ?_
  refine zj_istore_n dX7_limbsInAll_3 (by decide) ?_
  exact x7_limbs_l r 4 0 (by omega)
theorem x7_pne (w : WF C P S T H O g) (r : RX h C P S T H O g) : zD mX7_phrasesNotEmpty d [.ref 0] h (some (.int (nI (s_add (fun j => if 0 < (P j).length then 1 else 0) 6)))) h := by
  refine zD_of (by decide +kernel) (by exact Nat.le_of_ble_eq_true rfl) ?_
  show zB mX7_phrasesNotEmpty _ _ _ 0 [some (.ref 0), none, none] [] _
  refine zj_iconst (v := nI 0) dX7_phrasesNotEmpty_0 (by decide) ?_
  refine zj_istore_n dX7_phrasesNotEmpty_1 (by decide) ?_
  refine zj_iconst (v := nI 0) dX7_phrasesNotEmpty_2 (by decide) ?_
  refine zj_istore_n dX7_phrasesNotEmpty_3 (by decide) ?_
  exact x7_pne_l w r 6 0 (by omega)
theorem x7_sylla (r : RX h C P S T H O g) : zD mX7_syllablesInAll d [.ref 0] h (some (.int (nI (s_add (fun j => (P j).length) 6)))) h := by
  refine zD_of (by decide +kernel) (by exact Nat.le_of_ble_eq_true rfl) ?_
  show zB mX7_syllablesInAll _ _ _ 0 [some (.ref 0), none, none] [] _
  refine zj_iconst (v := nI 0) dX7_syllablesInAll_0 (by decide) ?_
  refine zj_istore_n dX7_syllablesInAll_1 (by decide) ?_
  refine zj_iconst (v := nI 0) dX7_syllablesInAll_2 (by decide) ?_
  refine zj_istore_n dX7_syllablesInAll_3 (by decide) ?_
  exact x7_sylla_l r 6 0 (by omega)
theorem x7_snm (w : WF C P S T H O g) (r : RX h C P S T H O g) : zD mX7_sheetsNotMissing (d + 1) [.ref 0] h (some (.int (nI (s_add (fun j => if S j = none then 0 else 1) 2)))) h := by
  refine zD_of (by decide +kernel) (by exact Nat.le_of_ble_eq_true rfl) ?_
  show zB mX7_sheetsNotMissing _ _ _ 0 [some (.ref 0), none, none] [] _
  refine zj_iconst (v := nI 0) dX7_sheetsNotMissing_0 (by decide) ?_
  refine zj_istore_n dX7_sheetsNotMissing_1 (by decide) ?_
  refine zj_iconst (v := nI 0) dX7_sheetsNotMissing_2 (by decide) ?_
  refine zj_istore_n dX7_sheetsNotMissing_3 (by decide) ?_
  exact x7_snm_l (d := d) w r 2 0 (by omega)
/-- what count answers -/
def s_count (C : Nat → List (Nat × Nat)) (P : Nat → List Nat) (S : Nat → Option (List Int32)) (T : List Nat) (O : List (Nat × Nat)) (x : Int32) : Int32 :=
  if x = 0 then nI (s_add (fun j => (C j).length) 4) else if x = 1 then nI (s_add (fun j => if 0 < (P j).length then 1 else 0) 6) else if x = 2 then nI (s_add (fun j => (P j).length) 6) else if x = 3 then nI O.length else if x = 4 then nI T.length else if x = 5 then nI (s_add (fun j => if S j = none then 0 else 1) 2) else -1000000001
theorem x_count (w : WF C P S T H O g) (r : RX h C P S T H O g) (x : Int32) : zD mX7_count (d + 2) [.ref 0, .int x] h (some (.int (s_count C P S T O x))) h := by
  obtain ⟨r0, -, -, -, rt, -, -, ro⟩ := id r
  obtain ⟨q0, -⟩ := id r0
  obtain ⟨t0, -⟩ := id rt
  obtain ⟨o0, -⟩ := id ro
  refine zD_of (by decide +kernel) (by exact Nat.le_of_ble_eq_true rfl) ?_
  show zB mX7_count _ _ _ 0 [some (.ref 0), some (.int x)] [] _
  refine zj_iload_n dX7_count_0 (by rfl) ?_
  by_cases hr : x.toInt < 0 ∨ 5 < x.toInt
  · refine zj_tout (tgt := 76) dX7_count_1 hr (by decide) ?_
    refine zj_ldc (v := -1000000001) dX7_count_76 zq_226 ?_
    refine zj_iret dX7_count_78 rfl (Nat.le_refl _) (Nat.le_refl _) ⟨?_, rfl⟩
    have n0 : ¬ x = 0 := fun e => by subst e; exact absurd hr (by decide)
    have n1 : ¬ x = 1 := fun e => by subst e; exact absurd hr (by decide)
    have n2 : ¬ x = 2 := fun e => by subst e; exact absurd hr (by decide)
    have n3 : ¬ x = 3 := fun e => by subst e; exact absurd hr (by decide)
    have n4 : ¬ x = 4 := fun e => by subst e; exact absurd hr (by decide)
    have n5 : ¬ x = 5 := fun e => by subst e; exact absurd hr (by decide)
    unfold s_count
    rw [if_neg n0, if_neg n1, if_neg n2, if_neg n3, if_neg n4, if_neg n5]
  · have hc : x.toInt = 0 ∨ x.toInt = 1 ∨ x.toInt = 2 ∨ x.toInt = 3 ∨ x.toInt = 4 ∨ x.toInt = 5 := by omega
    rcases hc with hc | hc | hc | hc | hc | hc <;> (have hx := i32_of hc; subst hx)
    · refine zj_tin (off := 39) (tgt := 40) dX7_count_1 (by decide) (by decide) (by decide) (by decide) ?_
      refine zj_aload_n dX7_count_40 (by rfl) ?_
      refine zc_7_224 rfl dX7_count_41 (by first | assumption | rfl) (x7_limbs r) (by exact Nat.le_of_ble_eq_true rfl) ?_
      exact zj_iret dX7_count_44 rfl (Nat.le_refl _) (Nat.le_refl _) ⟨rfl, rfl⟩
    · refine zj_tin (off := 44) (tgt := 45) dX7_count_1 (by decide) (by decide) (by decide) (by decide) ?_
      refine zj_aload_n dX7_count_45 (by rfl) ?_
      refine zc_7_227 rfl dX7_count_46 (by first | assumption | rfl) (x7_pne w r) (by exact Nat.le_of_ble_eq_true rfl) ?_
      exact zj_iret dX7_count_49 rfl (Nat.le_refl _) (Nat.le_refl _) ⟨rfl, rfl⟩
    · refine zj_tin (off := 49) (tgt := 50) dX7_count_1 (by decide) (by decide) (by decide) (by decide) ?_
      refine zj_aload_n dX7_count_50 (by rfl) ?_
      refine zc_7_230 rfl dX7_count_51 (by first | assumption | rfl) (x7_sylla r) (by exact Nat.le_of_ble_eq_true rfl) ?_
      exact zj_iret dX7_count_54 rfl (Nat.le_refl _) (Nat.le_refl _) ⟨rfl, rfl⟩
    · refine zj_tin (off := 54) (tgt := 55) dX7_count_1 (by decide) (by decide) (by decide) (by decide) ?_
      refine zj_aload_n dX7_count_55 (by rfl) ?_
      refine zg_7_51 rfl dX7_count_56 (by first | assumption | rfl) (by rfl) ?_
      refine zg_7_185 rfl dX7_count_59 (by first | assumption | rfl) (by rfl) ?_
      exact zj_iret dX7_count_62 rfl (Nat.le_refl _) (Nat.le_refl _) ⟨rfl, rfl⟩
    · refine zj_tin (off := 62) (tgt := 63) dX7_count_1 (by decide) (by decide) (by decide) (by decide) ?_
      refine zj_aload_n dX7_count_63 (by rfl) ?_
      refine zg_7_30 rfl dX7_count_64 (by first | assumption | rfl) (by rfl) ?_
      refine zg_7_98 rfl dX7_count_67 (by first | assumption | rfl) (by rfl) ?_
      exact zj_iret dX7_count_70 rfl (Nat.le_refl _) (Nat.le_refl _) ⟨rfl, rfl⟩
    · refine zj_tin (off := 70) (tgt := 71) dX7_count_1 (by decide) (by decide) (by decide) (by decide) ?_
      refine zj_aload_n dX7_count_71 (by rfl) ?_
      refine zc_7_233 rfl dX7_count_72 (by first | assumption | rfl) (x7_snm (d := d) w r) (by exact Nat.le_of_ble_eq_true rfl) ?_
      exact zj_iret dX7_count_75 rfl (Nat.le_refl _) (Nat.le_refl _) ⟨rfl, rfl⟩
end SS
