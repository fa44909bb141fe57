/-! THE REFERENCE: its cells -/
def s_mo (g pn tn : Nat) (rd wr : Int32) : List Value := [.ref 48, .ref 49, .ref 50, .ref 51, .ref 52, .ref 53, .int (nI g), .int (nI pn), .ref 54, .ref 55, .ref 56, .int (nI tn), .ref 57, .ref 58, .int rd, .int wr, .ref 59, .ref 60, .ref 61, .ref 62, .ref 63]
def RMo (h : zH) (g pn tn : Nat) : Prop := ∃ (rd wr : Int32), (wr = 0 ∨ wr = 1) ∧ h[47]? = some (.inr (8, s_mo g pn tn rd wr))
def RA (h : zH) (k n : Nat) (p : (Nat → Int32) → Prop) : Prop := ∃ f, h[k]? = some (.inl (1, n, .inl f)) ∧ p f
def RJ (h : zH) (k n : Nat) : Prop := ∃ f, h[k]? = some (.inl (2, n, .inr (.inl f)))
def RM (h : zH) (C : Nat → List (Nat × Nat)) (P : Nat → List Nat) (S : Nat → Option (List Int32)) (T : List Nat) (H : Nat → Nat) (O : List (Nat × Nat)) (g : Nat) : Prop :=
  RMo h g O.length T.length ∧ RA h 48 4 (fun f => ∀ i, i < 4 → f i = nI (C i).length) ∧ RA h 49 48 (fun f => ∀ i, i < 4 → ∀ j, j < (C i).length → f (12 * i + j) = nI (s_kd C i j)) ∧ RA h 50 48 (fun f => ∀ i, i < 4 → ∀ j, j < (C i).length → f (12 * i + j) = nI (s_hv C i j)) ∧ RA h 51 6 (fun f => ∀ i, i < 6 → f i = nI (P i).length) ∧ RA h 52 360 (fun f => ∀ i, i < 6 → ∀ j, j < (P i).length → f (60 * i + j) = nI ((P i).getD j 0)) ∧ RA h 53 8 (fun f => ∀ s, s < 8 → f s = nI (H s)) ∧ RA h 54 20 (fun f => ∀ j, j < O.length → f j = nI (s_tk O j)) ∧ RA h 55 20 (fun f => ∀ j, j < O.length → f j = nI (s_gp O j)) ∧ RA h 56 60 (fun f => ∀ j, j < T.length → f j = nI (T.getD j 0)) ∧ RA h 57 2 (fun f => ∀ i, i < 2 → f i = s_pl ((S i).map List.length)) ∧ RA h 58 120 (fun f => ∀ i, i < 2 → ∀ l, S i = some l → ∀ j, j < l.length → f (60 * i + j) = l.getD j 0) ∧ RA h 59 60 (fun _ => True) ∧ RJ h 60 61 ∧ RA h 61 61 (fun _ => True) ∧ RA h 62 300 (fun _ => True) ∧ RA h 63 60 (fun _ => True)
section MO
variable {h h' : zH} {k n : Nat} {p : (Nat → Int32) → Prop} {C : Nat → List (Nat × Nat)} {P : Nat → List Nat} {S : Nat → Option (List Int32)} {T : List Nat} {H : Nat → Nat} {O : List (Nat × Nat)} {g pn tn d : Nat}
theorem RA_e (e : h'[k]? = h[k]?) (r : RA h k n p) : RA h' k n p := by
  obtain ⟨f, r0, q⟩ := r
  exact ⟨f, e.trans r0, q⟩
theorem RJ_e (e : h'[k]? = h[k]?) (r : RJ h k n) : RJ h' k n := by
  obtain ⟨f, r0⟩ := r
  exact ⟨f, e.trans r0⟩
theorem RO_e (e : h'[47]? = h[47]?) (r : RMo h g pn tn) : RMo h' g pn tn := by
  obtain ⟨rd, wr, hw, r0⟩ := r
  exact ⟨rd, wr, hw, e.trans r0⟩
theorem RM_f (z : zEq 47 63 h h') (r : RM h C P S T H O g) : RM h' C P S T H O g := by
  obtain ⟨m47, m48, m49, m50, m51, m52, m53, m54, m55, m56, m57, m58, m59, m60, m61, m62, m63⟩ := r
  have e : ∀ j, 47 ≤ j ∧ j ≤ 63 → h'[j]? = h[j]? := fun j hj => z j hj.1 hj.2
  exact ⟨RO_e (e 47 (by decide)) m47, RA_e (e 48 (by decide)) m48, RA_e (e 49 (by decide)) m49, RA_e (e 50 (by decide)) m50, RA_e (e 51 (by decide)) m51, RA_e (e 52 (by decide)) m52, RA_e (e 53 (by decide)) m53, RA_e (e 54 (by decide)) m54, RA_e (e 55 (by decide)) m55, RA_e (e 56 (by decide)) m56, RA_e (e 57 (by decide)) m57, RA_e (e 58 (by decide)) m58, RA_e (e 59 (by decide)) m59, RJ_e (e 60 (by decide)) m60, RA_e (e 61 (by decide)) m61, RA_e (e 62 (by decide)) m62, RA_e (e 63 (by decide)) m63⟩
theorem m_isIn (v lo hi : Int32) : zD mX8_isIn d [.int v, .int lo, .int hi] h (some (.int (if v < lo then 0 else if hi < v then 0 else 1))) h := by
  refine zD_of (by decide +kernel) (by exact Nat.le_of_ble_eq_true rfl) ?_
  show zB mX8_isIn _ _ _ 0 [some (.int v), some (.int lo), some (.int hi)] [] _
  refine zj_iload_n dX8_isIn_0 (by rfl) ?_
  refine zj_iload_n dX8_isIn_1 (by rfl) ?_
  refine zj_icmp_lt (tgt := 14) dX8_isIn_2 (by decide) (fun q2 => ?_) (fun q2 => ?_)
  · refine zj_iconst (v := 0) dX8_isIn_14 (by decide) ?_
    refine zj_zret dX8_isIn_15 rfl (by first | exact Or.inl rfl | exact Or.inr rfl) (Nat.le_refl _) (Nat.le_refl _) ?_
    exact ⟨by first | rfl | (simp [*]; done) | (simp_all; done), rfl⟩
  · refine zj_iload_n dX8_isIn_5 (by rfl) ?_
    refine zj_iload_n dX8_isIn_6 (by rfl) ?_
    refine zj_icmp_gt (tgt := 14) dX8_isIn_7 (by decide) (fun q7 => ?_) (fun q7 => ?_)
    · refine zj_iconst (v := 0) dX8_isIn_14 (by decide) ?_
      refine zj_zret dX8_isIn_15 rfl (by first | exact Or.inl rfl | exact Or.inr rfl) (Nat.le_refl _) (Nat.le_refl _) ?_
      exact ⟨by first | rfl | (simp [*]; done) | (simp_all; done), rfl⟩
    · refine zj_iconst (v := 1) dX8_isIn_10 (by decide) ?_
      refine zj_goto (tgt := 15) dX8_isIn_11 (by decide) ?_
      refine zj_zret dX8_isIn_15 rfl (by first | exact Or.inl rfl | exact Or.inr rfl) (Nat.le_refl _) (Nat.le_refl _) ?_
      exact ⟨by first | rfl | (simp [*]; done) | (simp_all; done), rfl⟩
theorem s_is1 {v lo hi : Int32} (h1 : ¬ v < lo) (h2 : ¬ hi < v) : (if v < lo then (0 : Int32) else if hi < v then 0 else 1) = 1 := by rw [if_neg h1, if_neg h2]
theorem s_is0 {v lo hi : Int32} (h1 : v < lo ∨ hi < v) : (if v < lo then (0 : Int32) else if hi < v then 0 else 1) = 0 := by
  by_cases h2 : v < lo
  · rw [if_pos h2]
  · rw [if_neg h2, if_pos (h1.resolve_left h2)]
theorem m_isCycle {i : Nat} (hi : i < 4) : zD mX8_isCycle (d + 1) [.int (nI i)] h (some (.int 1)) h := by
  have hI := m_isIn (d := d) (h := h) (nI i) 0 3
  rw [s_is1 (v := nI i) (lo := 0) (hi := 3) (nI_pos (by omega)) (nI_nlt (a := 3) (by omega) (by decide))] at hI
  refine zD_of (by decide +kernel) (by exact Nat.le_of_ble_eq_true rfl) ?_
  show zB mX8_isCycle _ _ _ 0 [some (.int (nI i))] [] _
  refine zj_iload_n dX8_isCycle_0 (by rfl) ?_
  refine zj_iconst (v := 0) dX8_isCycle_1 (by decide) ?_
  refine zj_iconst (v := 3) dX8_isCycle_2 (by decide) ?_
  refine zc_8_63 rfl dX8_isCycle_3 hI (by exact Nat.le_of_ble_eq_true rfl) ?_
  refine zj_zret dX8_isCycle_6 rfl (Or.inr rfl) (Nat.le_refl _) (Nat.le_refl _) ?_
  exact ⟨rfl, rfl⟩
theorem s_x4 {x : Int32} (hx : x < 0 ∨ 4 ≤ x) : x < 0 ∨ 3 < x := hx.imp_right (fun h => Int32.lt_of_lt_of_le (by decide) h)
theorem s_x6 {x : Int32} (hx : x < 0 ∨ 6 ≤ x) : x < 0 ∨ 5 < x := hx.imp_right (fun h => Int32.lt_of_lt_of_le (by decide) h)
theorem s_x2 {x : Int32} (hx : x < 0 ∨ 2 ≤ x) : x < 0 ∨ 1 < x := hx.imp_right (fun h => Int32.lt_of_lt_of_le (by decide) h)
theorem m_isCycleN {x : Int32} (hx : x < 0 ∨ 4 ≤ x) : zD mX8_isCycle (d + 1) [.int x] h (some (.int 0)) h := by
  have hI := m_isIn (d := d) (h := h) x 0 3
  rw [s_is0 (s_x4 hx)] at hI
  refine zD_of (by decide +kernel) (by exact Nat.le_of_ble_eq_true rfl) ?_
  show zB mX8_isCycle _ _ _ 0 [some (.int x)] [] _
  refine zj_iload_n dX8_isCycle_0 (by rfl) ?_
  refine zj_iconst (v := 0) dX8_isCycle_1 (by decide) ?_
  refine zj_iconst (v := 3) dX8_isCycle_2 (by decide) ?_
  refine zc_8_63 rfl dX8_isCycle_3 hI (by exact Nat.le_of_ble_eq_true rfl) ?_
  refine zj_zret dX8_isCycle_6 rfl (Or.inl rfl) (Nat.le_refl _) (Nat.le_refl _) ?_
  exact ⟨rfl, rfl⟩
theorem m_isPhrase {i : Nat} (hi : i < 6) : zD mX8_isPhrase (d + 1) [.int (nI i)] h (some (.int 1)) h := by
  have hI := m_isIn (d := d) (h := h) (nI i) 0 5
  rw [s_is1 (v := nI i) (lo := 0) (hi := 5) (nI_pos (by omega)) (nI_nlt (a := 5) (by omega) (by decide))] at hI
  refine zD_of (by decide +kernel) (by exact Nat.le_of_ble_eq_true rfl) ?_
  show zB mX8_isPhrase _ _ _ 0 [some (.int (nI i))] [] _
  refine zj_iload_n dX8_isPhrase_0 (by rfl) ?_
  refine zj_iconst (v := 0) dX8_isPhrase_1 (by decide) ?_
  refine zj_iconst (v := 5) dX8_isPhrase_2 (by decide) ?_
  refine zc_8_63 rfl dX8_isPhrase_3 hI (by exact Nat.le_of_ble_eq_true rfl) ?_
  refine zj_zret dX8_isPhrase_6 rfl (Or.inr rfl) (Nat.le_refl _) (Nat.le_refl _) ?_
  exact ⟨rfl, rfl⟩
theorem m_isPhraseN {x : Int32} (hx : x < 0 ∨ 6 ≤ x) : zD mX8_isPhrase (d + 1) [.int x] h (some (.int 0)) h := by
  have hI := m_isIn (d := d) (h := h) x 0 5
  rw [s_is0 (s_x6 hx)] at hI
  refine zD_of (by decide +kernel) (by exact Nat.le_of_ble_eq_true rfl) ?_
  show zB mX8_isPhrase _ _ _ 0 [some (.int x)] [] _
  refine zj_iload_n dX8_isPhrase_0 (by rfl) ?_
  refine zj_iconst (v := 0) dX8_isPhrase_1 (by decide) ?_
  refine zj_iconst (v := 5) dX8_isPhrase_2 (by decide) ?_
  refine zc_8_63 rfl dX8_isPhrase_3 hI (by exact Nat.le_of_ble_eq_true rfl) ?_
  refine zj_zret dX8_isPhrase_6 rfl (Or.inl rfl) (Nat.le_refl _) (Nat.le_refl _) ?_
  exact ⟨rfl, rfl⟩
theorem m_isSpeed (x : Int32) : zD mX8_isSpeed d [.int x] h (some (.int (if s_tpo x = 0 then 0 else 1))) h := by
  unfold s_tpo
  refine zD_of (by decide +kernel) (by exact Nat.le_of_ble_eq_true rfl) ?_
  show zB mX8_isSpeed _ _ _ 0 [some (.int x)] [] _
  refine zj_iload_n dX8_isSpeed_0 (by rfl) ?_
  refine zj_iconst (v := 1) dX8_isSpeed_1 (by decide) ?_
  refine zj_icmp_eq (tgt := 32) dX8_isSpeed_2 (by decide) (fun q2 => ?_) (fun q2 => ?_)
  · refine zj_iconst (v := 1) dX8_isSpeed_32 (by decide) ?_
    refine zj_goto (tgt := 37) dX8_isSpeed_33 (by decide) ?_
    refine zj_zret dX8_isSpeed_37 rfl (by first | exact Or.inl rfl | exact Or.inr rfl) (Nat.le_refl _) (Nat.le_refl _) ?_
    exact ⟨by simp [*], rfl⟩
  · refine zj_iload_n dX8_isSpeed_5 (by rfl) ?_
    refine zj_iconst (v := 2) dX8_isSpeed_6 (by decide) ?_
    refine zj_icmp_eq (tgt := 32) dX8_isSpeed_7 (by decide) (fun q7 => ?_) (fun q7 => ?_)
    · refine zj_iconst (v := 1) dX8_isSpeed_32 (by decide) ?_
      refine zj_goto (tgt := 37) dX8_isSpeed_33 (by decide) ?_
      refine zj_zret dX8_isSpeed_37 rfl (by first | exact Or.inl rfl | exact Or.inr rfl) (Nat.le_refl _) (Nat.le_refl _) ?_
      exact ⟨by simp [*], rfl⟩
    · refine zj_iload_n dX8_isSpeed_10 (by rfl) ?_
      refine zj_iconst (v := 3) dX8_isSpeed_11 (by decide) ?_
      refine zj_icmp_eq (tgt := 32) dX8_isSpeed_12 (by decide) (fun q12 => ?_) (fun q12 => ?_)
      · refine zj_iconst (v := 1) dX8_isSpeed_32 (by decide) ?_
        refine zj_goto (tgt := 37) dX8_isSpeed_33 (by decide) ?_
        refine zj_zret dX8_isSpeed_37 rfl (by first | exact Or.inl rfl | exact Or.inr rfl) (Nat.le_refl _) (Nat.le_refl _) ?_
        exact ⟨by simp [*], rfl⟩
      · refine zj_iload_n dX8_isSpeed_15 (by rfl) ?_
        refine zj_iconst (v := 4) dX8_isSpeed_16 (by decide) ?_
        refine zj_icmp_eq (tgt := 32) dX8_isSpeed_17 (by decide) (fun q17 => ?_) (fun q17 => ?_)
        · refine zj_iconst (v := 1) dX8_isSpeed_32 (by decide) ?_
          refine zj_goto (tgt := 37) dX8_isSpeed_33 (by decide) ?_
          refine zj_zret dX8_isSpeed_37 rfl (by first | exact Or.inl rfl | exact Or.inr rfl) (Nat.le_refl _) (Nat.le_refl _) ?_
          exact ⟨by simp [*], rfl⟩
        · refine zj_iload_n dX8_isSpeed_20 (by rfl) ?_
          refine zj_bipush (v := 6) dX8_isSpeed_21 (by decide) ?_
          refine zj_icmp_eq (tgt := 32) dX8_isSpeed_23 (by decide) (fun q23 => ?_) (fun q23 => ?_)
          · refine zj_iconst (v := 1) dX8_isSpeed_32 (by decide) ?_
            refine zj_goto (tgt := 37) dX8_isSpeed_33 (by decide) ?_
            refine zj_zret dX8_isSpeed_37 rfl (by first | exact Or.inl rfl | exact Or.inr rfl) (Nat.le_refl _) (Nat.le_refl _) ?_
            exact ⟨by simp [*], rfl⟩
          · refine zj_iload_n dX8_isSpeed_26 (by rfl) ?_
            refine zj_bipush (v := 8) dX8_isSpeed_27 (by decide) ?_
            refine zj_icmp_ne (tgt := 36) dX8_isSpeed_29 (by decide) (fun q29 => ?_) (fun q29 => ?_)
            · refine zj_iconst (v := 0) dX8_isSpeed_36 (by decide) ?_
              refine zj_zret dX8_isSpeed_37 rfl (by first | exact Or.inl rfl | exact Or.inr rfl) (Nat.le_refl _) (Nat.le_refl _) ?_
              exact ⟨by simp [*], rfl⟩
            · refine zj_iconst (v := 1) dX8_isSpeed_32 (by decide) ?_
              refine zj_goto (tgt := 37) dX8_isSpeed_33 (by decide) ?_
              refine zj_zret dX8_isSpeed_37 rfl (by first | exact Or.inl rfl | exact Or.inr rfl) (Nat.le_refl _) (Nat.le_refl _) ?_
              exact ⟨by simp [*], rfl⟩
theorem m_limbA (r : RM h C P S T H O g) {c k n : Int32} (hc : c < 0 ∨ 4 ≤ c) : zD mX8_limb (d + 2) [.ref 47, .int c, .int k, .int n] h (some (.int (-1000000001))) h := by
  refine zD_of (by decide +kernel) (by exact Nat.le_of_ble_eq_true rfl) ?_
  show zB mX8_limb _ _ _ 0 [some (.ref 47), some (.int c), some (.int k), some (.int n), none] [] _
  refine zj_iload_n dX8_limb_0 (by rfl) ?_
  refine zc_8_67 rfl dX8_limb_1 (m_isCycleN hc) (by exact Nat.le_of_ble_eq_true rfl) ?_
  refine zj_if_eq (tgt := 26) dX8_limb_4 (by decide) (fun _ => ?_) (fun zq => absurd (rfl) zq)
  refine zj_ldc (v := -1000000001) dX8_limb_26 zq_686 ?_
  refine zj_iret dX8_limb_28 rfl (Nat.le_refl _) (Nat.le_refl _) ?_
  exact ⟨rfl, rfl⟩
theorem m_limbB (r : RM h C P S T H O g) {i : Nat} (hi : i < 4) {k n : Int32} (hk : k < 0 ∨ 3 < k ∨ n < 1 ∨ ¬ n ≤ 18) : zD mX8_limb (d + 2) [.ref 47, .int (nI i), .int k, .int n] h (some (.int (-1000000001))) h := by
  refine zD_of (by decide +kernel) (by exact Nat.le_of_ble_eq_true rfl) ?_
  show zB mX8_limb _ _ _ 0 [some (.ref 47), some (.int (nI i)), some (.int k), some (.int n), none] [] _
  refine zj_iload_n dX8_limb_0 (by rfl) ?_
  refine zc_8_67 rfl dX8_limb_1 (m_isCycle hi) (by exact Nat.le_of_ble_eq_true rfl) ?_
  refine zj_if_eq (tgt := 26) dX8_limb_4 (by decide) (fun zq => absurd zq (by decide)) (fun _ => ?_)
  refine zj_iload_n dX8_limb_7 (by rfl) ?_
  refine zj_iconst (v := 0) dX8_limb_8 (by decide) ?_
  refine zj_iconst (v := 3) dX8_limb_9 (by decide) ?_
  refine zc_8_63 rfl dX8_limb_10 (m_isIn _ _ _) (by exact Nat.le_of_ble_eq_true rfl) ?_
  refine zj_if_eq (tgt := 26) dX8_limb_13 (by decide) (fun q13 => ?_) (fun q13 => ?_)
  · refine zj_ldc (v := -1000000001) dX8_limb_26 zq_686 ?_
    refine zj_iret dX8_limb_28 rfl (Nat.le_refl _) (Nat.le_refl _) ?_
    exact ⟨rfl, rfl⟩
  · refine zj_iload_n dX8_limb_16 (by rfl) ?_
    refine zj_iconst (v := 1) dX8_limb_17 (by decide) ?_
    refine zj_bipush (v := 18) dX8_limb_18 (by decide) ?_
    refine zc_8_63 rfl dX8_limb_20 (m_isIn _ _ _) (by exact Nat.le_of_ble_eq_true rfl) ?_
    refine zj_if_ne (tgt := 29) dX8_limb_23 (by decide) (fun q23 => ?_) (fun q23 => ?_)
    · exfalso
      rcases hk with hk | hk | hk | hk
      · exact q13 (s_is0 (Or.inl hk))
      · exact q13 (s_is0 (Or.inr hk))
      · exact q23 (s_is0 (Or.inl hk))
      · exact q23 (s_is0 (Or.inr (Int32.not_le.mp hk)))
    · refine zj_ldc (v := -1000000001) dX8_limb_26 zq_686 ?_
      refine zj_iret dX8_limb_28 rfl (Nat.le_refl _) (Nat.le_refl _) ?_
      exact ⟨rfl, rfl⟩
theorem m_limbF (r : RM h C P S T H O g) {i kk m : Nat} (hi : i < 4) (hk : kk ≤ 3) (hm : 1 ≤ m ∧ m ≤ 18) (hl : (C i).length = 12) : zD mX8_limb (d + 2) [.ref 47, .int (nI i), .int (nI kk), .int (nI m)] h (some (.int (-1000000003))) h := by
  obtain ⟨m47, m48, m49, m50, m51, m52, m53, m54, m55, m56, m57, m58, m59, m60, m61, m62, m63⟩ := r
  obtain ⟨rd, wr, hw, o0⟩ := m47
  obtain ⟨fL, a48, q48⟩ := m48
  refine zD_of (by decide +kernel) (by exact Nat.le_of_ble_eq_true rfl) ?_
  show zB mX8_limb _ _ _ 0 [some (.ref 47), some (.int (nI i)), some (.int (nI kk)), some (.int (nI m)), none] [] _
  refine zj_iload_n dX8_limb_0 (by rfl) ?_
  refine zc_8_67 rfl dX8_limb_1 (m_isCycle hi) (by exact Nat.le_of_ble_eq_true rfl) ?_
  refine zj_if_eq (tgt := 26) dX8_limb_4 (by decide) (fun zq => absurd zq (by decide)) (fun _ => ?_)
  refine zj_iload_n dX8_limb_7 (by rfl) ?_
  refine zj_iconst (v := nI 0) dX8_limb_8 (by decide) ?_
  refine zj_iconst (v := nI 3) dX8_limb_9 (by decide) ?_
  refine zc_8_63 rfl dX8_limb_10 (m_isIn _ _ _) (by exact Nat.le_of_ble_eq_true rfl) ?_
  rw [s_is1 (nI_nlt (by omega) (by omega)) (nI_nlt (by omega) (by omega))]
  refine zj_if_eq (tgt := 26) dX8_limb_13 (by decide) (fun zq => absurd zq (by decide)) (fun _ => ?_)
  refine zj_iload_n dX8_limb_16 (by rfl) ?_
  refine zj_iconst (v := nI 1) dX8_limb_17 (by decide) ?_
  refine zj_bipush (v := nI 18) dX8_limb_18 (by decide) ?_
  refine zc_8_63 rfl dX8_limb_20 (m_isIn _ _ _) (by exact Nat.le_of_ble_eq_true rfl) ?_
  rw [s_is1 (nI_nlt (by omega) (by omega)) (nI_nlt (by omega) (by omega))]
  refine zj_if_ne (tgt := 29) dX8_limb_23 (by decide) (fun _ => ?_) (fun zq => absurd zq (by decide))
  refine zj_aload_n dX8_limb_29 (by rfl) ?_
  refine zg_8_7 rfl dX8_limb_30 (by first | assumption | rfl) (by rfl) ?_
  refine zj_iload_n dX8_limb_33 (by rfl) ?_
  refine zj_ialdN dX8_limb_34 (by first | assumption | rfl) (by omega) ?_
  rw [q48 i hi]
  refine zj_bipush (v := nI 12) dX8_limb_35 (by decide) ?_
  refine zj_icmp_neN (tgt := 43) dX8_limb_37 (by decide) (by omega) (fun zq => absurd (hl) zq) (fun _ => ?_)
  refine zj_ldc (v := -1000000003) dX8_limb_40 zq_687 ?_
  refine zj_iret dX8_limb_42 rfl (Nat.le_refl _) (Nat.le_refl _) ?_
  exact ⟨rfl, rfl⟩
theorem m_limb (w : WF C P S T H O g) (r : RM h C P S T H O g) {i kk m : Nat} (hi : i < 4) (hk : kk ≤ 3) (hm : 1 ≤ m ∧ m ≤ 18) (hl : ¬ (C i).length = 12) : ∃ h', zD mX8_limb (d + 2) [.ref 47, .int (nI i), .int (nI kk), .int (nI m)] h (some (.int (nI ((C i).length + 1)))) h' ∧ RM h' (s_up C i (C i ++ [(kk, m)])) P S T H O g ∧ zEq 0 46 h h' := by
  obtain ⟨m47, m48, m49, m50, m51, m52, m53, m54, m55, m56, m57, m58, m59, m60, m61, m62, m63⟩ := r
  obtain ⟨rd, wr, hw, o0⟩ := id m47
  obtain ⟨fL, a48, q48⟩ := id m48
  obtain ⟨fK, a49, q49⟩ := id m49
  obtain ⟨fV, a50, q50⟩ := id m50
  have hlen := (w.1 i hi).1
  have o1 := zset_ne (o := 49) (c := .inl (1, 48, .inl (upd fK (12 * i + (C i).length) (nI kk)))) (by decide) o0
  have v1 := zset_ne (o := 49) (c := .inl (1, 48, .inl (upd fK (12 * i + (C i).length) (nI kk)))) (by decide) a50
  have l1 := zset_ne (o := 49) (c := .inl (1, 48, .inl (upd fK (12 * i + (C i).length) (nI kk)))) (by decide) a48
  have o2 := zset_ne (o := 50) (c := .inl (1, 48, .inl (upd fV (12 * i + (C i).length) (nI m)))) (by decide) o1
  have l2 := zset_ne (o := 50) (c := .inl (1, 48, .inl (upd fV (12 * i + (C i).length) (nI m)))) (by decide) l1
  have o3 := zset_ne (o := 48) (c := .inl (1, 4, .inl (upd fL i (nI ((C i).length + 1))))) (by decide) o2
  have l3 := zset_eq (c := .inl (1, 4, .inl (upd fL i (nI ((C i).length + 1))))) l2
  obtain ⟨hh, hhe⟩ : ∃ hh, hh = ((h.set 49 (.inl (1, 48, .inl (upd fK (12 * i + (C i).length) (nI kk))))).set 50 (.inl (1, 48, .inl (upd fV (12 * i + (C i).length) (nI m))))).set 48 (.inl (1, 4, .inl (upd fL i (nI ((C i).length + 1))))) := ⟨_, rfl⟩
  have e : ∀ j, (¬ j = 48 ∧ ¬ j = 49 ∧ ¬ j = 50) → hh[j]? = h[j]? := fun j hj => by
    rw [hhe, List.getElem?_set, if_neg (fun x => hj.1 x.symm), List.getElem?_set, if_neg (fun x => hj.2.2 x.symm), List.getElem?_set, if_neg (fun x => hj.2.1 x.symm)]
  refine ⟨hh, ?_, ⟨RO_e (e 47 (by decide)) m47, ⟨_, by rw [hhe]; exact l3, ?_⟩, ⟨_, by rw [hhe]; exact zset_ne (by decide) (zset_ne (by decide) (zset_eq a49)), ?_⟩, ⟨_, by rw [hhe]; exact zset_ne (by decide) (zset_eq v1), ?_⟩, RA_e (e 51 (by decide)) m51, RA_e (e 52 (by decide)) m52, RA_e (e 53 (by decide)) m53, RA_e (e 54 (by decide)) m54, RA_e (e 55 (by decide)) m55, RA_e (e 56 (by decide)) m56, RA_e (e 57 (by decide)) m57, RA_e (e 58 (by decide)) m58, RA_e (e 59 (by decide)) m59, RJ_e (e 60 (by decide)) m60, RA_e (e 61 (by decide)) m61, RA_e (e 62 (by decide)) m62, RA_e (e 63 (by decide)) m63⟩, fun j h1 h2 => e j (by omega)⟩
  · rw [hhe]
    refine zD_of (by decide +kernel) (by exact Nat.le_of_ble_eq_true rfl) ?_
    show zB mX8_limb _ _ _ 0 [some (.ref 47), some (.int (nI i)), some (.int (nI kk)), some (.int (nI m)), none] [] _
    refine zj_iload_n dX8_limb_0 (by rfl) ?_
    refine zc_8_67 rfl dX8_limb_1 (m_isCycle hi) (by exact Nat.le_of_ble_eq_true rfl) ?_
    refine zj_if_eq (tgt := 26) dX8_limb_4 (by decide) (fun zq => absurd zq (by decide)) (fun _ => ?_)
    refine zj_iload_n dX8_limb_7 (by rfl) ?_
    refine zj_iconst (v := nI 0) dX8_limb_8 (by decide) ?_
    refine zj_iconst (v := nI 3) dX8_limb_9 (by decide) ?_
    refine zc_8_63 rfl dX8_limb_10 (m_isIn _ _ _) (by exact Nat.le_of_ble_eq_true rfl) ?_
    rw [s_is1 (nI_nlt (by omega) (by omega)) (nI_nlt (by omega) (by omega))]
    refine zj_if_eq (tgt := 26) dX8_limb_13 (by decide) (fun zq => absurd zq (by decide)) (fun _ => ?_)
    refine zj_iload_n dX8_limb_16 (by rfl) ?_
    refine zj_iconst (v := nI 1) dX8_limb_17 (by decide) ?_
    refine zj_bipush (v := nI 18) dX8_limb_18 (by decide) ?_
    refine zc_8_63 rfl dX8_limb_20 (m_isIn _ _ _) (by exact Nat.le_of_ble_eq_true rfl) ?_
    rw [s_is1 (nI_nlt (by omega) (by omega)) (nI_nlt (by omega) (by omega))]
    refine zj_if_ne (tgt := 29) dX8_limb_23 (by decide) (fun _ => ?_) (fun zq => absurd zq (by decide))
    refine zj_aload_n dX8_limb_29 (by rfl) ?_
    refine zg_8_7 rfl dX8_limb_30 (by first | assumption | rfl) (by rfl) ?_
    refine zj_iload_n dX8_limb_33 (by rfl) ?_
    refine zj_ialdN dX8_limb_34 (by first | assumption | rfl) (by omega) ?_
    rw [q48 i hi]
    refine zj_bipush (v := nI 12) dX8_limb_35 (by decide) ?_
    refine zj_icmp_neN (tgt := 43) dX8_limb_37 (by decide) (by omega) (fun _ => ?_) (fun zq => absurd zq (hl))
    refine zj_bipush (v := nI 12) dX8_limb_43 (by decide) ?_
    refine zj_iload_n dX8_limb_45 (by rfl) ?_
    refine zj_imulN dX8_limb_46 ?_
    refine zj_aload_n dX8_limb_47 (by rfl) ?_
    refine zg_8_7 rfl dX8_limb_48 (by first | assumption | rfl) (by rfl) ?_
    refine zj_iload_n dX8_limb_51 (by rfl) ?_
    refine zj_ialdN dX8_limb_52 (by first | assumption | rfl) (by omega) ?_
    rw [q48 i hi]
    refine zj_iaddN dX8_limb_53 ?_
    refine zj_istore dX8_limb_54 (by decide) ?_
    refine zj_aload_n dX8_limb_56 (by rfl) ?_
    refine zg_8_13 rfl dX8_limb_57 (by first | assumption | rfl) (by rfl) ?_
    refine zj_iload dX8_limb_60 (by rfl) ?_
    refine zj_iload_n dX8_limb_62 (by rfl) ?_
    refine zj_iastN dX8_limb_63 (by first | assumption | rfl) (by omega) ?_
    refine zj_aload_n dX8_limb_64 (by rfl) ?_
    refine zg_8_16 rfl dX8_limb_65 (by first | assumption | rfl) (by rfl) ?_
    refine zj_iload dX8_limb_68 (by rfl) ?_
    refine zj_iload_n dX8_limb_70 (by rfl) ?_
    refine zj_iastN dX8_limb_71 (by first | assumption | rfl) (by omega) ?_
    refine zj_aload_n dX8_limb_72 (by rfl) ?_
    refine zg_8_7 rfl dX8_limb_73 (by first | assumption | rfl) (by rfl) ?_
    refine zj_iload_n dX8_limb_76 (by rfl) ?_
    refine zj_dup2 dX8_limb_77 rfl rfl ?_
    refine zj_ialdN dX8_limb_78 (by first | assumption | rfl) (by omega) ?_
    rw [q48 i hi]
    refine zj_iconst (v := nI 1) dX8_limb_79 (by decide) ?_
    refine zj_iaddN dX8_limb_80 ?_
    refine zj_iastN dX8_limb_81 (by first | assumption | rfl) (by omega) ?_
    refine zj_aload_n dX8_limb_82 (by rfl) ?_
    refine zg_8_7 rfl dX8_limb_83 (by first | assumption | rfl) (by rfl) ?_
    refine zj_iload_n dX8_limb_86 (by rfl) ?_
    refine zj_ialdN dX8_limb_87 (by first | assumption | rfl) (by omega) ?_
    rw [pk_us]
    refine zj_iret dX8_limb_88 rfl (Nat.le_refl _) (Nat.le_refl _) ?_
    exact ⟨rfl, rfl⟩
  · intro i2 hi2
    by_cases ei : i2 = i
    · subst ei; rw [pk_us, s_up_eq]; simp
    · rw [pk_un ei, s_up_ne ei]; exact q48 i2 hi2
  · intro i2 hi2 j hj
    unfold s_kd
    by_cases ei : i2 = i
    · subst ei
      rw [s_up_eq] at hj ⊢
      rw [List.length_append, List.length_singleton] at hj
      by_cases ej : j = (C i2).length
      · subst ej; rw [pk_us, z_qe]
      · rw [pk_un (by omega), z_qd (by omega)]; exact q49 i2 hi2 j (by omega)
    · rw [s_up_ne ei] at hj ⊢
      have := (w.1 i2 hi2).1
      rw [pk_un (by omega)]
      exact q49 i2 hi2 j hj
  · intro i2 hi2 j hj
    unfold s_hv
    by_cases ei : i2 = i
    · subst ei
      rw [s_up_eq] at hj ⊢
      rw [List.length_append, List.length_singleton] at hj
      by_cases ej : j = (C i2).length
      · subst ej; rw [pk_us, z_qe]
      · rw [pk_un (by omega), z_qd (by omega)]; exact q50 i2 hi2 j (by omega)
    · rw [s_up_ne ei] at hj ⊢
      have := (w.1 i2 hi2).1
      rw [pk_un (by omega)]
      exact q50 i2 hi2 j hj
end MO
