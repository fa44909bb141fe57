section M6
variable {h h' : zH} {C : Nat → List (Nat × Nat)} {P : Nat → List Nat} {S : Nat → Option (List Int32)} {T : List Nat} {H : Nat → Nat} {O : List (Nat × Nat)} {g d : Nat}
theorem m_isSheet {i : Nat} (hi : i < 2) : zD mX8_isSheet (d + 1) [.int (nI i)] h (some (.int 1)) h := by
  have hI := m_isIn (d := d) (h := h) (nI i) 0 1
  rw [s_is1 (v := nI i) (lo := 0) (hi := 1) (nI_pos (by omega)) (nI_nlt (a := 1) (by omega) (by decide))] at hI
  refine zD_of (by decide +kernel) (by exact Nat.le_of_ble_eq_true rfl) ?_
  show zB mX8_isSheet _ _ _ 0 [some (.int (nI i))] [] _
  refine zj_iload_n dX8_isSheet_0 (by rfl) ?_
  refine zj_iconst (v := 0) dX8_isSheet_1 (by decide) ?_
  refine zj_iconst (v := 1) dX8_isSheet_2 (by decide) ?_
  refine zc_8_63 rfl dX8_isSheet_3 hI (by exact Nat.le_of_ble_eq_true rfl) ?_
  refine zj_zret dX8_isSheet_6 rfl (Or.inr rfl) (Nat.le_refl _) (Nat.le_refl _) ?_
  exact ⟨rfl, rfl⟩
theorem m_isSheetN {x : Int32} (hx : x < 0 ∨ 2 ≤ x) : zD mX8_isSheet (d + 1) [.int x] h (some (.int 0)) h := by
  have hI := m_isIn (d := d) (h := h) x 0 1
  rw [s_is0 (s_x2 hx)] at hI
  refine zD_of (by decide +kernel) (by exact Nat.le_of_ble_eq_true rfl) ?_
  show zB mX8_isSheet _ _ _ 0 [some (.int x)] [] _
  refine zj_iload_n dX8_isSheet_0 (by rfl) ?_
  refine zj_iconst (v := 0) dX8_isSheet_1 (by decide) ?_
  refine zj_iconst (v := 1) dX8_isSheet_2 (by decide) ?_
  refine zc_8_63 rfl dX8_isSheet_3 hI (by exact Nat.le_of_ble_eq_true rfl) ?_
  refine zj_zret dX8_isSheet_6 rfl (Or.inl rfl) (Nat.le_refl _) (Nat.le_refl _) ?_
  exact ⟨rfl, rfl⟩
theorem s_pl_lt {o : Option Nat} (h : ∀ n, o = some n → n ≤ 60) : (¬ 0 ≤ s_pl o) ↔ o = none := by
  cases o with
  | none => exact ⟨fun _ => rfl, fun _ => by decide⟩
  | some n => exact ⟨fun hh => absurd (nI_pos' (by have := h n rfl; omega)) hh, fun e => by cases e⟩
theorem m_sheetA (r : RM h C P S T H O g) {s n : Int32} (hs : (s < 0 ∨ 2 ≤ s) ∨ ¬ n ≤ 60) : zD mX8_sheet (d + 2) [.ref 47, .int s, .int n] h (some (.int (-1000000001))) h := by
  by_cases hs1 : s < 0 ∨ 2 ≤ s
  · refine zD_of (by decide +kernel) (by exact Nat.le_of_ble_eq_true rfl) ?_
    show zB mX8_sheet _ _ _ 0 [some (.ref 47), some (.int s), some (.int n), none] [] _
    refine zj_iload_n dX8_sheet_0 (by rfl) ?_
    refine zc_8_155 rfl dX8_sheet_1 (m_isSheetN hs1) (by exact Nat.le_of_ble_eq_true rfl) ?_
    refine zj_if_eq (tgt := 13) dX8_sheet_4 (by decide) (fun _ => ?_) (fun zq => absurd (rfl) zq)
    refine zj_ldc (v := -1000000001) dX8_sheet_13 zq_686 ?_
    refine zj_iret dX8_sheet_15 rfl (Nat.le_refl _) (Nat.le_refl _) ?_
    exact ⟨rfl, rfl⟩
  · obtain ⟨j, hj, rfl⟩ : ∃ j, j < 2 ∧ s = nI j := ((pk_ix s (n := 2) (by decide)).resolve_left (fun e => hs1 (Or.inl e))).resolve_left (fun e => hs1 (Or.inr e))
    refine zD_of (by decide +kernel) (by exact Nat.le_of_ble_eq_true rfl) ?_
    show zB mX8_sheet _ _ _ 0 [some (.ref 47), some (.int (nI j)), some (.int n), none] [] _
    refine zj_iload_n dX8_sheet_0 (by rfl) ?_
    refine zc_8_155 rfl dX8_sheet_1 (m_isSheet hj) (by exact Nat.le_of_ble_eq_true rfl) ?_
    refine zj_if_eq (tgt := 13) dX8_sheet_4 (by decide) (fun zq => absurd zq (by decide)) (fun _ => ?_)
    refine zj_iload_n dX8_sheet_7 (by rfl) ?_
    refine zj_bipush (v := 60) dX8_sheet_8 (by decide) ?_
    refine zj_icmp_le (tgt := 16) dX8_sheet_10 (by decide) (fun zq => absurd zq (hs.resolve_left hs1)) (fun _ => ?_)
    refine zj_ldc (v := -1000000001) dX8_sheet_13 zq_686 ?_
    refine zj_iret dX8_sheet_15 rfl (Nat.le_refl _) (Nat.le_refl _) ?_
    exact ⟨rfl, rfl⟩
theorem m_sheetS (r : RM h C P S T H O g) {s : Nat} {n : Int32} (hs : s < 2) (hn : n < 0) : zD mX8_sheet (d + 2) [.ref 47, .int (nI s), .int n] h (some (.int (-1000000014))) h := by
  have h60 : n ≤ 60 := Int32.le_of_lt (Int32.lt_trans hn (by decide))
  refine zD_of (by decide +kernel) (by exact Nat.le_of_ble_eq_true rfl) ?_
  show zB mX8_sheet _ _ _ 0 [some (.ref 47), some (.int (nI s)), some (.int n), none] [] _
  refine zj_iload_n dX8_sheet_0 (by rfl) ?_
  refine zc_8_155 rfl dX8_sheet_1 (m_isSheet hs) (by exact Nat.le_of_ble_eq_true rfl) ?_
  refine zj_if_eq (tgt := 13) dX8_sheet_4 (by decide) (fun zq => absurd zq (by decide)) (fun _ => ?_)
  refine zj_iload_n dX8_sheet_7 (by rfl) ?_
  refine zj_bipush (v := 60) dX8_sheet_8 (by decide) ?_
  refine zj_icmp_le (tgt := 16) dX8_sheet_10 (by decide) (fun _ => ?_) (fun zq => absurd (h60) zq)
  refine zj_iload_n dX8_sheet_16 (by rfl) ?_
  refine zj_if_ge (tgt := 23) dX8_sheet_17 (by decide) (fun zq => absurd zq (Int32.not_le.mpr hn)) (fun _ => ?_)
  refine zj_ldc (v := -1000000014) dX8_sheet_20 zq_903 ?_
  refine zj_iret dX8_sheet_22 rfl (Nat.le_refl _) (Nat.le_refl _) ?_
  exact ⟨rfl, rfl⟩
theorem m_sheet_l {s n : Nat} {v : List Value} (hs : s < 2) (hn : n ≤ 60) (hv : v[13]? = some (.ref 58)) : ∀ m i (f : Nat → Int32) (h : zH), h[47]? = some (.inr (8, v)) → h[58]? = some (.inl (1, 120, .inl f)) → i + m = n → (∀ j, j < i → f (60 * s + j) = 0) → ∃ f', (∀ j, j < n → f' (60 * s + j) = 0) ∧ (∀ q, q < 60 * s ∨ 60 * s + 60 ≤ q → f' q = f q) ∧ zB mX8_sheet (d + 2) (some (.int (nI n))) (h.set 58 (.inl (1, 120, .inl f'))) 32 [some (.ref 47), some (.int (nI s)), some (.int (nI n)), some (.int (nI i))] [] h := by
  intro m
  induction m with
  | zero =>
    intro i f h hk ha hi hf
    refine ⟨f, fun j hj => hf j (by omega), fun _ _ => rfl, ?_⟩
    have he : h.set 58 (.inl (1, 120, .inl f)) = h := by
      apply List.ext_getElem?
      intro j
      by_cases hj : 58 = j
      · subst hj; rw [zset_eq ha, ha]
      · rw [List.getElem?_set, if_neg hj]
    rw [he]
    refine zj_iload_n dX8_sheet_32 (by rfl) ?_
    refine zj_iload_n dX8_sheet_33 (by rfl) ?_
    refine zj_icmp_geN (tgt := 55) dX8_sheet_34 (by decide) (by omega) (fun _ => ?_) (fun zq => absurd (by omega) zq)
    refine zj_iload_n dX8_sheet_55 (by rfl) ?_
    refine zj_iret dX8_sheet_56 rfl (Nat.le_refl _) (Nat.le_refl _) ?_
    exact ⟨rfl, rfl⟩
  | succ m ih =>
    intro i f h hk ha hi hf
    obtain ⟨f', hf1, hf2, hJ⟩ := ih (i + 1) (upd f (60 * s + i) (nI 0)) (h.set 58 (.inl (1, 120, .inl (upd f (60 * s + i) (nI 0))))) (zset_ne (by decide) hk) (zset_eq ha) (by omega) (fun j hj => by
      by_cases hji : j = i
      · subst hji; rw [pk_us]; rfl
      · rw [pk_un (by omega)]; exact hf j (by omega))
    refine ⟨f', hf1, fun q hq => by rw [hf2 q hq, pk_un (by omega)], ?_⟩
    rw [List.set_set] at hJ
    refine zj_iload_n dX8_sheet_32 (by rfl) ?_
    refine zj_iload_n dX8_sheet_33 (by rfl) ?_
    refine zj_icmp_geN (tgt := 55) dX8_sheet_34 (by decide) (by omega) (fun zq => absurd zq (by omega)) (fun _ => ?_)
    refine zj_aload_n dX8_sheet_37 (by rfl) ?_
    refine zg_8_44 rfl dX8_sheet_38 (by first | assumption | rfl) hv ?_
    refine zj_bipush (v := nI 60) dX8_sheet_41 (by decide) ?_
    refine zj_iload_n dX8_sheet_43 (by rfl) ?_
    refine zj_imulN dX8_sheet_44 ?_
    refine zj_iload_n dX8_sheet_45 (by rfl) ?_
    refine zj_iaddN dX8_sheet_46 ?_
    refine zj_iconst (v := nI 0) dX8_sheet_47 (by decide) ?_
    refine zj_iastN dX8_sheet_48 (by first | assumption | rfl) (by omega) ?_
    refine zj_iincN dX8_sheet_49 (by rfl) (by decide) ?_
    refine zj_goto (tgt := 32) dX8_sheet_52 (by decide) ?_
    exact hJ
theorem m_sheet (w : WF C P S T H O g) (r : RM h C P S T H O g) {s n : Nat} (hs : s < 2) (hn : n ≤ 60) : ∃ h', zD mX8_sheet (d + 2) [.ref 47, .int (nI s), .int (nI n)] h (some (.int (nI n))) h' ∧ RM h' C P (s_up S s (some (List.replicate n 0))) T H O g ∧ zEq 0 46 h h' := by
  obtain ⟨m47, m48, m49, m50, m51, m52, m53, m54, m55, m56, m57, m58, m59, m60, m61, m62, m63⟩ := r
  obtain ⟨rd, wr, hw, o0⟩ := id m47
  obtain ⟨f7, a57, q57⟩ := id m57
  obtain ⟨f8, a58, q58⟩ := id m58
  have o1 := zset_ne (o := 57) (c := .inl (1, 2, .inl (upd f7 s (nI n)))) (by decide) o0
  have b1 := zset_ne (o := 57) (c := .inl (1, 2, .inl (upd f7 s (nI n)))) (by decide) a58
  obtain ⟨f', hf1, hf2, hJ⟩ := m_sheet_l (d := d) hs hn rfl n 0 f8 _ o1 b1 (by omega) (fun j hj => by omega)
  have e : ∀ j, (¬ j = 57 ∧ ¬ j = 58) → ((h.set 57 (.inl (1, 2, .inl (upd f7 s (nI n))))).set 58 (.inl (1, 120, .inl f')))[j]? = h[j]? := fun j hj => by
    rw [List.getElem?_set, if_neg (fun x => hj.2 x.symm), List.getElem?_set, if_neg (fun x => hj.1 x.symm)]
  refine ⟨_, ?_, ⟨RO_e (e 47 (by decide)) m47, RA_e (e 48 (by decide)) m48, RA_e (e 49 (by decide)) m49, RA_e (e 50 (by decide)) m50, RA_e (e 51 (by decide)) m51, RA_e (e 52 (by decide)) m52, RA_e (e 53 (by decide)) m53, RA_e (e 54 (by decide)) m54, RA_e (e 55 (by decide)) m55, RA_e (e 56 (by decide)) m56, ⟨_, zset_ne (by decide) (zset_eq a57), ?_⟩, ⟨f', zset_eq b1, ?_⟩, RA_e (e 59 (by decide)) m59, RJ_e (e 60 (by decide)) m60, RA_e (e 61 (by decide)) m61, RA_e (e 62 (by decide)) m62, RA_e (e 63 (by decide)) m63⟩, fun j h1 h2 => e j (by omega)⟩
  · refine zD_of (by decide +kernel) (by exact Nat.le_of_ble_eq_true rfl) ?_
    show zB mX8_sheet _ _ _ 0 [some (.ref 47), some (.int (nI s)), some (.int (nI n)), none] [] _
    refine zj_iload_n dX8_sheet_0 (by rfl) ?_
    refine zc_8_155 rfl dX8_sheet_1 (m_isSheet hs) (by exact Nat.le_of_ble_eq_true rfl) ?_
    refine zj_if_eq (tgt := 13) dX8_sheet_4 (by decide) (fun zq => absurd zq (by decide)) (fun _ => ?_)
    refine zj_iload_n dX8_sheet_7 (by rfl) ?_
    refine zj_bipush (v := nI 60) dX8_sheet_8 (by decide) ?_
    refine zj_icmp_leN (tgt := 16) dX8_sheet_10 (by decide) (by omega) (fun _ => ?_) (fun zq => absurd (hn) zq)
    refine zj_iload_n dX8_sheet_16 (by rfl) ?_
    refine zj_if_geN (tgt := 23) dX8_sheet_17 (by decide) (by omega) ?_
    refine zj_aload_n dX8_sheet_23 (by rfl) ?_
    refine zg_8_41 rfl dX8_sheet_24 (by first | assumption | rfl) (by rfl) ?_
    refine zj_iload_n dX8_sheet_27 (by rfl) ?_
    refine zj_iload_n dX8_sheet_28 (by rfl) ?_
    refine zj_iastN dX8_sheet_29 (by first | assumption | rfl) (by omega) ?_
    refine zj_iconst (v := nI 0) dX8_sheet_30 (by decide) ?_
    refine zj_istore_n dX8_sheet_31 (by decide) ?_
    exact hJ
  · intro i hi
    by_cases ei : i = s
    · subst ei; rw [pk_us, s_up_eq]; simp [s_pl]
    · rw [pk_un ei, s_up_ne ei]; exact q57 i hi
  · intro i hi l hl j hj
    by_cases ei : i = s
    · subst ei
      rw [s_up_eq] at hl
      cases hl
      rw [List.length_replicate] at hj
      rw [hf1 j hj]
      simp [List.getD, List.getElem?_replicate]
      split <;> rfl
    · rw [s_up_ne ei] at hl
      have h60 := (w.2.2.1 i hi l hl).1
      rw [hf2 _ (by omega)]
      exact q58 i hi l hl j hj
theorem m_markA (r : RM h C P S T H O g) {s i v : Int32} (hs : s < 0 ∨ 2 ≤ s) : zD mX8_mark (d + 2) [.ref 47, .int s, .int i, .int v] h (some (.int (-1000000001))) h := by
  refine zD_of (by decide +kernel) (by exact Nat.le_of_ble_eq_true rfl) ?_
  show zB mX8_mark _ _ _ 0 [some (.ref 47), some (.int s), some (.int i), some (.int v), none] [] _
  refine zj_iload_n dX8_mark_0 (by rfl) ?_
  refine zc_8_155 rfl dX8_mark_1 (m_isSheetN hs) (by exact Nat.le_of_ble_eq_true rfl) ?_
  refine zj_if_ne (tgt := 10) dX8_mark_4 (by decide) (fun zq => absurd (rfl) zq) (fun _ => ?_)
  refine zj_ldc (v := -1000000001) dX8_mark_7 zq_686 ?_
  refine zj_iret dX8_mark_9 rfl (Nat.le_refl _) (Nat.le_refl _) ?_
  exact ⟨rfl, rfl⟩
theorem m_markN (r : RM h C P S T H O g) {s : Nat} {i v : Int32} (hs : s < 2) (hn : S s = none) : zD mX8_mark (d + 2) [.ref 47, .int (nI s), .int i, .int v] h (some (.int (-1000000011))) h := by
  obtain ⟨m47, m48, m49, m50, m51, m52, m53, m54, m55, m56, m57, m58, m59, m60, m61, m62, m63⟩ := r
  obtain ⟨rd, wr, hw, o0⟩ := m47
  obtain ⟨f7, a57, q57⟩ := m57
  have q := q57 s hs
  rw [hn] at q
  refine zD_of (by decide +kernel) (by exact Nat.le_of_ble_eq_true rfl) ?_
  show zB mX8_mark _ _ _ 0 [some (.ref 47), some (.int (nI s)), some (.int i), some (.int v), none] [] _
  refine zj_iload_n dX8_mark_0 (by rfl) ?_
  refine zc_8_155 rfl dX8_mark_1 (m_isSheet hs) (by exact Nat.le_of_ble_eq_true rfl) ?_
  refine zj_if_ne (tgt := 10) dX8_mark_4 (by decide) (fun _ => ?_) (fun zq => absurd zq (by decide))
  refine zj_aload_n dX8_mark_10 (by rfl) ?_
  refine zg_8_41 rfl dX8_mark_11 (by first | assumption | rfl) (by rfl) ?_
  refine zj_iload_n dX8_mark_14 (by rfl) ?_
  refine zj_ialdN dX8_mark_15 (by first | assumption | rfl) (by omega) ?_
  rw [q]
  refine zj_if_ge (tgt := 22) dX8_mark_16 (by decide) (fun zq => absurd zq (by decide)) (fun _ => ?_)
  refine zj_ldc (v := -1000000011) dX8_mark_19 zq_834 ?_
  refine zj_iret dX8_mark_21 rfl (Nat.le_refl _) (Nat.le_refl _) ?_
  exact ⟨rfl, rfl⟩
theorem m_markI (w : WF C P S T H O g) (r : RM h C P S T H O g) {s : Nat} {i v : Int32} {l : List Int32} (hs : s < 2) (hl : S s = some l) (hi : i < 0 ∨ nI l.length ≤ i) : zD mX8_mark (d + 2) [.ref 47, .int (nI s), .int i, .int v] h (some (.int (-1000000013))) h := by
  obtain ⟨m47, m48, m49, m50, m51, m52, m53, m54, m55, m56, m57, m58, m59, m60, m61, m62, m63⟩ := r
  obtain ⟨rd, wr, hw, o0⟩ := m47
  obtain ⟨f7, a57, q57⟩ := m57
  have q : f7 s = nI l.length := by have q := q57 s hs; rw [hl] at q; exact q
  have h60 := (w.2.2.1 s hs l hl).1
  have hb : i < 0 ∨ nI l.length - 1 < i := by
    by_cases h0 : i < 0
    · exact Or.inl h0
    · exact Or.inr (s_le1 (hi.resolve_left h0) (by omega) h0)
  refine zD_of (by decide +kernel) (by exact Nat.le_of_ble_eq_true rfl) ?_
  show zB mX8_mark _ _ _ 0 [some (.ref 47), some (.int (nI s)), some (.int i), some (.int v), none] [] _
  refine zj_iload_n dX8_mark_0 (by rfl) ?_
  refine zc_8_155 rfl dX8_mark_1 (m_isSheet hs) (by exact Nat.le_of_ble_eq_true rfl) ?_
  refine zj_if_ne (tgt := 10) dX8_mark_4 (by decide) (fun _ => ?_) (fun zq => absurd zq (by decide))
  refine zj_aload_n dX8_mark_10 (by rfl) ?_
  refine zg_8_41 rfl dX8_mark_11 (by first | assumption | rfl) (by rfl) ?_
  refine zj_iload_n dX8_mark_14 (by rfl) ?_
  refine zj_iald dX8_mark_15 (by first | assumption | rfl) (vp_in_nI (show s < 2 by omega) (by omega)) ?_
  rw [nI_clamp (show s < 2 ^ 31 by omega), q]
  refine zj_if_ge (tgt := 22) dX8_mark_16 (by decide) (fun _ => ?_) (fun zq => absurd (nI_pos' (by omega)) zq)
  refine zj_iload_n dX8_mark_22 (by rfl) ?_
  refine zj_iconst (v := 0) dX8_mark_23 (by decide) ?_
  refine zj_aload_n dX8_mark_24 (by rfl) ?_
  refine zg_8_41 rfl dX8_mark_25 (by first | assumption | rfl) (by rfl) ?_
  refine zj_iload_n dX8_mark_28 (by rfl) ?_
  refine zj_iald dX8_mark_29 (by first | assumption | rfl) (vp_in_nI (show s < 2 by omega) (by omega)) ?_
  rw [nI_clamp (show s < 2 ^ 31 by omega), q]
  refine zj_iconst (v := 1) dX8_mark_30 (by decide) ?_
  refine zj_isub dX8_mark_31 ?_
  refine zc_8_63 rfl dX8_mark_32 (m_isIn _ _ _) (by exact Nat.le_of_ble_eq_true rfl) ?_
  rw [s_is0 hb]
  refine zj_if_ne (tgt := 41) dX8_mark_35 (by decide) (fun zq => absurd (rfl) zq) (fun _ => ?_)
  refine zj_ldc (v := -1000000013) dX8_mark_38 zq_908 ?_
  refine zj_iret dX8_mark_40 rfl (Nat.le_refl _) (Nat.le_refl _) ?_
  exact ⟨rfl, rfl⟩
theorem m_mark (w : WF C P S T H O g) (r : RM h C P S T H O g) {s i : Nat} {v : Int32} {l : List Int32} (hs : s < 2) (hl : S s = some l) (hi : i < l.length) : ∃ h', zD mX8_mark (d + 2) [.ref 47, .int (nI s), .int (nI i), .int v] h (some (.int (l.getD i 0))) h' ∧ RM h' C P (s_up S s (some (l.set i v.toInt8.toInt32))) T H O g ∧ zEq 0 46 h h' := by
  obtain ⟨m47, m48, m49, m50, m51, m52, m53, m54, m55, m56, m57, m58, m59, m60, m61, m62, m63⟩ := r
  obtain ⟨rd, wr, hw, o0⟩ := id m47
  obtain ⟨f7, a57, q57⟩ := id m57
  obtain ⟨f8, a58, q58⟩ := id m58
  have q : f7 s = nI l.length := by have q := q57 s hs; rw [hl] at q; exact q
  have h60 := (w.2.2.1 s hs l hl).1
  have e : ∀ j, (¬ j = 58) → (h.set 58 (.inl (1, 120, .inl (upd f8 (60 * s + i) v.toInt8.toInt32))))[j]? = h[j]? := fun j hj => by rw [List.getElem?_set, if_neg (fun x => hj x.symm)]
  refine ⟨_, ?_, ⟨RO_e (e 47 (by decide)) m47, RA_e (e 48 (by decide)) m48, RA_e (e 49 (by decide)) m49, RA_e (e 50 (by decide)) m50, RA_e (e 51 (by decide)) m51, RA_e (e 52 (by decide)) m52, RA_e (e 53 (by decide)) m53, RA_e (e 54 (by decide)) m54, RA_e (e 55 (by decide)) m55, RA_e (e 56 (by decide)) m56, ⟨f7, zset_ne (by decide) a57, ?_⟩, ⟨_, zset_eq a58, ?_⟩, RA_e (e 59 (by decide)) m59, RJ_e (e 60 (by decide)) m60, RA_e (e 61 (by decide)) m61, RA_e (e 62 (by decide)) m62, RA_e (e 63 (by decide)) m63⟩, fun j h1 h2 => e j (by omega)⟩
  · refine zD_of (by decide +kernel) (by exact Nat.le_of_ble_eq_true rfl) ?_
    show zB mX8_mark _ _ _ 0 [some (.ref 47), some (.int (nI s)), some (.int (nI i)), some (.int v), none] [] _
    refine zj_iload_n dX8_mark_0 (by rfl) ?_
    refine zc_8_155 rfl dX8_mark_1 (m_isSheet hs) (by exact Nat.le_of_ble_eq_true rfl) ?_
    refine zj_if_ne (tgt := 10) dX8_mark_4 (by decide) (fun _ => ?_) (fun zq => absurd zq (by decide))
    refine zj_aload_n dX8_mark_10 (by rfl) ?_
    refine zg_8_41 rfl dX8_mark_11 (by first | assumption | rfl) (by rfl) ?_
    refine zj_iload_n dX8_mark_14 (by rfl) ?_
    refine zj_ialdN dX8_mark_15 (by first | assumption | rfl) (by omega) ?_
    rw [q]
    refine zj_if_geN (tgt := 22) dX8_mark_16 (by decide) (by omega) ?_
    refine zj_iload_n dX8_mark_22 (by rfl) ?_
    refine zj_iconst (v := nI 0) dX8_mark_23 (by decide) ?_
    refine zj_aload_n dX8_mark_24 (by rfl) ?_
    refine zg_8_41 rfl dX8_mark_25 (by first | assumption | rfl) (by rfl) ?_
    refine zj_iload_n dX8_mark_28 (by rfl) ?_
    refine zj_ialdN dX8_mark_29 (by first | assumption | rfl) (by omega) ?_
    rw [q]
    refine zj_iconst (v := nI 1) dX8_mark_30 (by decide) ?_
    refine zj_isubN dX8_mark_31 (by omega) ?_
    refine zc_8_63 rfl dX8_mark_32 (m_isIn _ _ _) (by exact Nat.le_of_ble_eq_true rfl) ?_
    rw [s_is1 (nI_nlt (by omega) (by omega)) (nI_nlt (by omega) (by omega))]
    refine zj_if_ne (tgt := 41) dX8_mark_35 (by decide) (fun _ => ?_) (fun zq => absurd zq (by decide))
    refine zj_aload_n dX8_mark_41 (by rfl) ?_
    refine zg_8_44 rfl dX8_mark_42 (by first | assumption | rfl) (by rfl) ?_
    refine zj_bipush (v := nI 60) dX8_mark_45 (by decide) ?_
    refine zj_iload_n dX8_mark_47 (by rfl) ?_
    refine zj_imulN dX8_mark_48 ?_
    refine zj_iload_n dX8_mark_49 (by rfl) ?_
    refine zj_iaddN dX8_mark_50 ?_
    refine zj_ialdN dX8_mark_51 (by first | assumption | rfl) (by omega) ?_
    rw [q58 s hs l hl i hi]
    refine zj_istore dX8_mark_52 (by decide) ?_
    refine zj_aload_n dX8_mark_54 (by rfl) ?_
    refine zg_8_44 rfl dX8_mark_55 (by first | assumption | rfl) (by rfl) ?_
    refine zj_bipush (v := nI 60) dX8_mark_58 (by decide) ?_
    refine zj_iload_n dX8_mark_60 (by rfl) ?_
    refine zj_imulN dX8_mark_61 ?_
    refine zj_iload_n dX8_mark_62 (by rfl) ?_
    refine zj_iaddN dX8_mark_63 ?_
    refine zj_iload_n dX8_mark_64 (by rfl) ?_
    refine zj_i2b dX8_mark_65 ?_
    refine zj_iastN dX8_mark_66 (by first | assumption | rfl) (by omega) ?_
    refine zj_iload dX8_mark_67 (by rfl) ?_
    refine zj_iret dX8_mark_69 rfl (Nat.le_refl _) (Nat.le_refl _) ?_
    exact ⟨rfl, rfl⟩
  · intro i2 hi2
    by_cases ei : i2 = s
    · subst ei; rw [s_up_eq, q]; simp [s_pl]
    · rw [s_up_ne ei]; exact q57 i2 hi2
  · intro i2 hi2 l2 hl2 j hj
    by_cases ei : i2 = s
    · subst ei
      rw [s_up_eq] at hl2
      cases hl2
      rw [List.length_set] at hj
      rw [z_gset hi]
      by_cases ej : j = i
      · subst ej; rw [pk_us, if_pos rfl]
      · rw [pk_un (by omega), if_neg ej]; exact q58 i2 hi2 l hl j hj
    · rw [s_up_ne ei] at hl2
      have := (w.2.2.1 i2 hi2 l2 hl2).1
      rw [pk_un (by omega)]
      exact q58 i2 hi2 l2 hl2 j hj
theorem m_copyA (r : RM h C P S T H O g) {p f s a m : Int32} (hb : s_badt p s) : zD mX8_copy (d + 2) [.ref 47, .int p, .int f, .int s, .int a, .int m] h (some (.int (-1000000001))) h := by
  by_cases hp : p < 0 ∨ 6 ≤ p
  · refine zD_of (by decide +kernel) (by exact Nat.le_of_ble_eq_true rfl) ?_
    show zB mX8_copy _ _ _ 0 [some (.ref 47), some (.int p), some (.int f), some (.int s), some (.int a), some (.int m), none] [] _
    refine zj_iload_n dX8_copy_0 (by rfl) ?_
    refine zc_8_103 rfl dX8_copy_1 (m_isPhraseN hp) (by exact Nat.le_of_ble_eq_true rfl) ?_
    refine zj_if_eq (tgt := 14) dX8_copy_4 (by decide) (fun _ => ?_) (fun zq => absurd (rfl) zq)
    refine zj_ldc (v := -1000000001) dX8_copy_14 zq_686 ?_
    refine zj_iret dX8_copy_16 rfl (Nat.le_refl _) (Nat.le_refl _) ?_
    exact ⟨rfl, rfl⟩
  · obtain ⟨i, hi, rfl⟩ : ∃ i, i < 6 ∧ p = nI i := ((pk_ix p (n := 6) (by decide)).resolve_left (fun e => hp (Or.inl e))).resolve_left (fun e => hp (Or.inr e))
    refine zD_of (by decide +kernel) (by exact Nat.le_of_ble_eq_true rfl) ?_
    show zB mX8_copy _ _ _ 0 [some (.ref 47), some (.int (nI i)), some (.int f), some (.int s), some (.int a), some (.int m), none] [] _
    refine zj_iload_n dX8_copy_0 (by rfl) ?_
    refine zc_8_103 rfl dX8_copy_1 (m_isPhrase hi) (by exact Nat.le_of_ble_eq_true rfl) ?_
    refine zj_if_eq (tgt := 14) dX8_copy_4 (by decide) (fun zq => absurd zq (by decide)) (fun _ => ?_)
    refine zj_iload_n dX8_copy_7 (by rfl) ?_
    refine zc_8_155 rfl dX8_copy_8 (m_isSheetN (hb.resolve_left hp)) (by exact Nat.le_of_ble_eq_true rfl) ?_
    refine zj_if_ne (tgt := 17) dX8_copy_11 (by decide) (fun zq => absurd (rfl) zq) (fun _ => ?_)
    refine zj_ldc (v := -1000000001) dX8_copy_14 zq_686 ?_
    refine zj_iret dX8_copy_16 rfl (Nat.le_refl _) (Nat.le_refl _) ?_
    exact ⟨rfl, rfl⟩
theorem m_copyN (r : RM h C P S T H O g) {p s : Nat} {f a m : Int32} (hp : p < 6) (hs : s < 2) (hn : S s = none) : zD mX8_copy (d + 2) [.ref 47, .int (nI p), .int f, .int (nI s), .int a, .int m] h (some (.int (-1000000011))) h := by
  obtain ⟨m47, m48, m49, m50, m51, m52, m53, m54, m55, m56, m57, m58, m59, m60, m61, m62, m63⟩ := r
  obtain ⟨rd, wr, hw, o0⟩ := m47
  obtain ⟨f7, a57, q57⟩ := m57
  have q := q57 s hs
  rw [hn] at q
  refine zD_of (by decide +kernel) (by exact Nat.le_of_ble_eq_true rfl) ?_
  show zB mX8_copy _ _ _ 0 [some (.ref 47), some (.int (nI p)), some (.int f), some (.int (nI s)), some (.int a), some (.int m), none] [] _
  refine zj_iload_n dX8_copy_0 (by rfl) ?_
  refine zc_8_103 rfl dX8_copy_1 (m_isPhrase hp) (by exact Nat.le_of_ble_eq_true rfl) ?_
  refine zj_if_eq (tgt := 14) dX8_copy_4 (by decide) (fun zq => absurd zq (by decide)) (fun _ => ?_)
  refine zj_iload_n dX8_copy_7 (by rfl) ?_
  refine zc_8_155 rfl dX8_copy_8 (m_isSheet hs) (by exact Nat.le_of_ble_eq_true rfl) ?_
  refine zj_if_ne (tgt := 17) dX8_copy_11 (by decide) (fun _ => ?_) (fun zq => absurd zq (by decide))
  refine zj_aload_n dX8_copy_17 (by rfl) ?_
  refine zg_8_41 rfl dX8_copy_18 (by first | assumption | rfl) (by rfl) ?_
  refine zj_iload_n dX8_copy_21 (by rfl) ?_
  refine zj_ialdN dX8_copy_22 (by first | assumption | rfl) (by omega) ?_
  rw [q]
  refine zj_if_ge (tgt := 29) dX8_copy_23 (by decide) (fun zq => absurd zq (by decide)) (fun _ => ?_)
  refine zj_ldc (v := -1000000011) dX8_copy_26 zq_834 ?_
  refine zj_iret dX8_copy_28 rfl (Nat.le_refl _) (Nat.le_refl _) ?_
  exact ⟨rfl, rfl⟩
end M6
