section MH
variable {h h' : zH} {C : Nat → List (Nat × Nat)} {P : Nat → List Nat} {S : Nat → Option (List Int32)} {T : List Nat} {H : Nat → Nat} {O : List (Nat × Nat)} {g d : Nat} {pr : Nat → Nat} {n : Nat}
/-- the class's word for a hand of the reference -/
def s_ph (x : Nat) : Nat := if x = 4 then 0 else x + 1
def s_sn (a b : Nat) : Nat := if a < 4 ∧ b < 4 ∧ (a = b ∨ a = 2 ∨ b = 2) then 1 else 0
theorem s_sn_le (a b : Nat) : s_sn a b ≤ 1 := by unfold s_sn; split <;> omega
theorem s_sn_st0 : ∀ a, a < 5 → ∀ b, b < 5 → ¬ a = 3 → ¬ b = 3 → s_sn a b = s_st (s_ph a) (s_ph b) := by decide
def s_ow (H pr : Nat → Nat) (i : Nat) : Nat := if pr i = 8 then 4 else H (pr i)
def s_fh (own e : Nat) : Nat := if own = 3 then e else own
def s_okh (own x : Nat) : Bool := if own = 3 then decide (x < 2) else decide (own = x)
theorem s_ow_le (hH : WH H) (h8 : ∀ i, pr i ≤ 8) (i : Nat) : s_ow H pr i ≤ 4 := by
  unfold s_ow
  have := h8 i
  split
  · omega
  · have := hH (pr i) (by omega); omega
theorem s_fh_le {own e : Nat} (ho : own ≤ 4) (he : e ≤ 1) : s_fh own e < 5 ∧ ¬ s_fh own e = 3 := by
  unfold s_fh; split <;> omega
theorem s_U_ph (hH : WH H) (h8 : ∀ i, pr i ≤ 8) {i e : Nat} (he : e ≤ 1) : s_U H pr i e = s_ph (s_fh (s_ow H pr i) e) := by
  have h1 := h8 i
  unfold s_U s_ph s_fh s_ow
  by_cases hq : pr i = 8
  · rw [if_neg (by omega), if_pos hq]; rfl
  · have := hH (pr i) (by omega)
    rw [if_pos (by omega), if_neg hq]
    split
    · rw [if_neg (by omega)]
    · rw [if_neg (by omega)]
theorem s_okh_t {own x : Nat} (hq : (own = 3 ∧ x < 2) ∨ (¬ own = 3 ∧ own = x)) : s_okh own x = true := by
  unfold s_okh
  split
  · exact decide_eq_true (by omega)
  · exact decide_eq_true (by omega)
theorem s_okh_f {own x : Nat} (hq : (own = 3 ∧ ¬ x < 2) ∨ (¬ own = 3 ∧ ¬ own = x)) : ¬ s_okh own x = true := by
  unfold s_okh
  split
  · exact fun e => absurd (of_decide_eq_true e) (by omega)
  · exact fun e => absurd (of_decide_eq_true e) (by omega)
theorem s_okh_3 {own x : Nat} (hk : s_okh own x = true) (hx : x < 5) : ¬ x = 3 := by
  unfold s_okh at hk
  split at hk
  · have := of_decide_eq_true hk; omega
  · have := of_decide_eq_true hk; omega
/-- the least over the allowed -/
def s_B (ok : Nat → Bool) (val : Nat → Nat) : Nat → Option Nat
  | 0 => none
  | o + 1 => if ok o = true then (match s_B ok val o with
    | none => some (val o)
    | some b => some (if val o < b then val o else b)) else s_B ok val o
theorem s_B_5 {own : Nat} {val : Nat → Nat} (ho : own ≤ 4) : s_B (s_okh own) val 5 = some (min (val (s_fh own 0)) (val (s_fh own 1))) := by
  have h5 : own = 0 ∨ own = 1 ∨ own = 2 ∨ own = 3 ∨ own = 4 := by omega
  rcases h5 with rfl | rfl | rfl | rfl | rfl
  · show some (val 0) = some (min (val 0) (val 0)); rw [Nat.min_self]
  · show some (val 1) = some (min (val 1) (val 1)); rw [Nat.min_self]
  · show some (val 2) = some (min (val 2) (val 2)); rw [Nat.min_self]
  · show some (if val 1 < val 0 then val 1 else val 0) = some (min (val 0) (val 1))
    congr 1
    rw [Nat.min_def]
    split <;> split <;> omega
  · show some (val 4) = some (min (val 4) (val 4)); rw [Nat.min_self]
theorem s_B_le {ok : Nat → Bool} {val : Nat → Nat} {K : Nat} (hv : ∀ o, o < 5 → ok o = true → val o ≤ K) : ∀ o, o ≤ 5 → ∀ b, s_B ok val o = some b → b ≤ K
  | 0, _, _, h => by cases h
  | o + 1, ho, b, h => by
    have ih := s_B_le hv o (by omega)
    unfold s_B at h
    split at h
    · rename_i hk
      have h1 := hv o (by omega) hk
      split at h
      · cases h; exact h1
      · rename_i b2 hb2
        have h2 := ih b2 hb2
        cases h
        split <;> omega
    · exact ih b h
/-- the first best of the allowed -/
def s_Ch (ok : Nat → Bool) (val : Nat → Nat) : Nat → Option Nat
  | 0 => none
  | o + 1 => if ok o = true then (match s_Ch ok val o with
    | none => some o
    | some b => if val o < val b then some o else some b) else s_Ch ok val o
theorem s_Ch_5 {own : Nat} {val : Nat → Nat} (ho : own ≤ 4) : s_Ch (s_okh own) val 5 = some (if val (s_fh own 0) ≤ val (s_fh own 1) then s_fh own 0 else s_fh own 1) := by
  have h5 : own = 0 ∨ own = 1 ∨ own = 2 ∨ own = 3 ∨ own = 4 := by omega
  rcases h5 with rfl | rfl | rfl | rfl | rfl
  · show some 0 = some (if val 0 ≤ val 0 then 0 else 0); rw [if_pos (Nat.le_refl _)]
  · show some 1 = some (if val 1 ≤ val 1 then 1 else 1); rw [if_pos (Nat.le_refl _)]
  · show some 2 = some (if val 2 ≤ val 2 then 2 else 2); rw [if_pos (Nat.le_refl _)]
  · show (if val 1 < val 0 then some 1 else some 0) = some (if val 0 ≤ val 1 then 0 else 1)
    split
    · rw [if_neg (by omega)]
    · rw [if_pos (by omega)]
  · show some 4 = some (if val 4 ≤ val 4 then 4 else 4); rw [if_pos (Nat.le_refl _)]
theorem s_Ch_b {ok : Nat → Bool} {val : Nat → Nat} : ∀ o b, s_Ch ok val o = some b → b < o ∧ ok b = true
  | 0, _, h => by cases h
  | o + 1, b, h => by
    have ih := s_Ch_b (ok := ok) (val := val) o
    unfold s_Ch at h
    split at h
    · rename_i hk
      split at h
      · cases h; exact ⟨by omega, hk⟩
      · rename_i b2 hb2
        have h2 := ih b2 hb2
        split at h
        · cases h; exact ⟨by omega, hk⟩
        · cases h; exact ⟨by omega, h2.2⟩
    · have := ih b h; exact ⟨by omega, this.2⟩
/-- the hand that plays before place i, in the reference's words -/
def s_lp (H pr : Nat → Nat) (n : Nat) : Nat → Nat
  | 0 => 4
  | i + 1 => if s_F (s_U H pr) n (n - 1 - i) (s_ph (s_fh (s_ow H pr i) 0)) + s_sn (s_lp H pr n i) (s_fh (s_ow H pr i) 0) ≤ s_F (s_U H pr) n (n - 1 - i) (s_ph (s_fh (s_ow H pr i) 1)) + s_sn (s_lp H pr n i) (s_fh (s_ow H pr i) 1) then s_fh (s_ow H pr i) 0 else s_fh (s_ow H pr i) 1
theorem s_lp_le (hH : WH H) (h8 : ∀ i, pr i ≤ 8) : ∀ i, s_lp H pr n i < 5 ∧ ¬ s_lp H pr n i = 3
  | 0 => by show 4 < 5 ∧ ¬ 4 = 3; omega
  | i + 1 => by
    unfold s_lp
    split
    · exact s_fh_le (s_ow_le hH h8 i) (by omega)
    · exact s_fh_le (s_ow_le hH h8 i) (by omega)
theorem s_lp_us (hH : WH H) (h8 : ∀ i, pr i ≤ 8) : ∀ i, s_ph (s_lp H pr n i) = s_us (s_U H pr) n i
  | 0 => rfl
  | i + 1 => by
    have ih := s_lp_us hH h8 i
    have hl := s_lp_le (n := n) hH h8 i
    have f0 := s_fh_le (e := 0) (s_ow_le hH h8 i) (by omega)
    have f1 := s_fh_le (e := 1) (s_ow_le hH h8 i) (by omega)
    have u0 := s_U_ph hH h8 (i := i) (e := 0) (by omega)
    have u1 := s_U_ph hH h8 (i := i) (e := 1) (by omega)
    unfold s_us
    rw [← ih, u0, u1, ← s_sn_st0 _ hl.1 _ f0.1 hl.2 f0.2, ← s_sn_st0 _ hl.1 _ f1.1 hl.2 f1.2]
    have e3 : s_lp H pr n (i + 1) = if s_F (s_U H pr) n (n - 1 - i) (s_ph (s_fh (s_ow H pr i) 0)) + s_sn (s_lp H pr n i) (s_fh (s_ow H pr i) 0) ≤ s_F (s_U H pr) n (n - 1 - i) (s_ph (s_fh (s_ow H pr i) 1)) + s_sn (s_lp H pr n i) (s_fh (s_ow H pr i) 1) then s_fh (s_ow H pr i) 0 else s_fh (s_ow H pr i) 1 := rfl
    rw [e3, Nat.add_comm (s_sn _ _), Nat.add_comm (s_sn _ _)]
    split
    · rfl
    · rfl
/-- the strains of what is played, from place i on -/
def s_su (H pr : Nat → Nat) (n : Nat) : Nat → Nat
  | 0 => 0
  | i + 1 => s_su H pr n i + s_sn (s_lp H pr n (i + 1)) (s_lp H pr n (i + 2))
theorem s_su_le (i : Nat) : s_su H pr n i ≤ i := by
  induction i with
  | zero => exact Nat.le_refl _
  | succ i ih =>
    have := s_sn_le (s_lp H pr n (i + 1)) (s_lp H pr n (i + 2))
    show s_su H pr n i + _ ≤ _
    omega
theorem s_F_us {U : Nat → Nat → Nat} {n i : Nat} (hi : i < n) : s_F U n (n - i) (s_us U n i) = s_st (s_us U n i) (s_us U n (i + 1)) + s_F U n (n - 1 - i) (s_us U n (i + 1)) := by
  have e1 : n - i = (n - 1 - i) + 1 := by omega
  rw [e1]
  have e2 : n - 1 - (n - 1 - i) = i := by omega
  show min (s_st (s_us U n i) (U (n - 1 - (n - 1 - i)) 0) + s_F U n (n - 1 - i) (U (n - 1 - (n - 1 - i)) 0)) (s_st (s_us U n i) (U (n - 1 - (n - 1 - i)) 1) + s_F U n (n - 1 - i) (U (n - 1 - (n - 1 - i)) 1)) = _
  rw [e2]
  have e3 : s_us U n (i + 1) = if s_st (s_us U n i) (U i 0) + s_F U n (n - 1 - i) (U i 0) ≤ s_st (s_us U n i) (U i 1) + s_F U n (n - 1 - i) (U i 1) then U i 0 else U i 1 := rfl
  rw [e3]
  split
  · rename_i hq; rw [Nat.min_eq_left hq]
  · rename_i hq; rw [Nat.min_eq_right (by omega)]
theorem s_su_eq (hH : WH H) (h8 : ∀ i, pr i ≤ 8) (hn : 0 < n) : ∀ i, i ≤ n - 1 → s_su H pr n i + s_F (s_U H pr) n (n - 1 - i) (s_us (s_U H pr) n (i + 1)) = min (s_F (s_U H pr) n (n - 1) (s_U H pr 0 0)) (s_F (s_U H pr) n (n - 1) (s_U H pr 0 1))
  | 0, _ => by
    show 0 + s_F (s_U H pr) n (n - 1 - 0) (s_us (s_U H pr) n 1) = _
    have hz : ∀ x, s_st 0 x = 0 := fun x => by unfold s_st; rw [Nat.zero_and, if_pos rfl]
    have e3 : s_us (s_U H pr) n 1 = if s_st 0 (s_U H pr 0 0) + s_F (s_U H pr) n (n - 1 - 0) (s_U H pr 0 0) ≤ s_st 0 (s_U H pr 0 1) + s_F (s_U H pr) n (n - 1 - 0) (s_U H pr 0 1) then s_U H pr 0 0 else s_U H pr 0 1 := rfl
    rw [e3, hz, hz, Nat.zero_add, Nat.zero_add, Nat.zero_add, Nat.sub_zero]
    split
    · rename_i hq; rw [Nat.min_eq_left hq]
    · rename_i hq; rw [Nat.min_eq_right (by omega)]
  | i + 1, hi => by
    have ih := s_su_eq hH h8 hn i (by omega)
    have hF := s_F_us (U := s_U H pr) (n := n) (i := i + 1) (by omega)
    have l1 := s_lp_le (n := n) hH h8 (i + 1)
    have l2 := s_lp_le (n := n) hH h8 (i + 2)
    have hs := s_sn_st0 _ l1.1 _ l2.1 l1.2 l2.2
    rw [s_lp_us hH h8, s_lp_us hH h8] at hs
    rw [← ih]
    show s_su H pr n i + s_sn (s_lp H pr n (i + 1)) (s_lp H pr n (i + 2)) + _ = _
    rw [hs, show n - 1 - i = n - (i + 1) by omega, hF]
    rw [Nat.add_assoc]
theorem s_su_min (hH : WH H) (h8 : ∀ i, pr i ≤ 8) (hn : 0 < n) : s_su H pr n (n - 1) = min (s_F (s_U H pr) n (n - 1) (s_U H pr 0 0)) (s_F (s_U H pr) n (n - 1) (s_U H pr 0 1)) := by
  have h1 := s_su_eq (n := n) hH h8 hn (n - 1) (Nat.le_refl _)
  rw [Nat.sub_self] at h1
  exact h1
theorem RM_62 {f f2 : Nat → Int32} (r : RM h C P S T H O g) (a : h[62]? = some (.inl (1, 300, .inl f))) : RM (h.set 62 (.inl (1, 300, .inl f2))) C P S T H O g := by
  obtain ⟨m47, m48, m49, m50, m51, m52, m53, m54, m55, m56, m57, m58, m59, m60, m61, m62, m63⟩ := r
  have e : ∀ j, ¬ j = 62 → (h.set 62 (.inl (1, 300, .inl f2)))[j]? = h[j]? := fun j hj => by
    rw [List.getElem?_set, if_neg (fun x => hj x.symm)]
  exact ⟨RO_e (e 47 (by decide)) m47, RA_e (e 48 (by decide)) m48, RA_e (e 49 (by decide)) m49, RA_e (e 50 (by decide)) m50, RA_e (e 51 (by decide)) m51, RA_e (e 52 (by decide)) m52, RA_e (e 53 (by decide)) m53, RA_e (e 54 (by decide)) m54, RA_e (e 55 (by decide)) m55, RA_e (e 56 (by decide)) m56, RA_e (e 57 (by decide)) m57, RA_e (e 58 (by decide)) m58, RA_e (e 59 (by decide)) m59, RJ_e (e 60 (by decide)) m60, RA_e (e 61 (by decide)) m61, ⟨f2, zset_eq a, trivial⟩, RA_e (e 63 (by decide)) m63⟩
theorem RM_63 {f f2 : Nat → Int32} (r : RM h C P S T H O g) (a : h[63]? = some (.inl (1, 60, .inl f))) : RM (h.set 63 (.inl (1, 60, .inl f2))) C P S T H O g := by
  obtain ⟨m47, m48, m49, m50, m51, m52, m53, m54, m55, m56, m57, m58, m59, m60, m61, m62, m63⟩ := r
  have e : ∀ j, ¬ j = 63 → (h.set 63 (.inl (1, 60, .inl f2)))[j]? = h[j]? := fun j hj => by
    rw [List.getElem?_set, if_neg (fun x => hj x.symm)]
  exact ⟨RO_e (e 47 (by decide)) m47, RA_e (e 48 (by decide)) m48, RA_e (e 49 (by decide)) m49, RA_e (e 50 (by decide)) m50, RA_e (e 51 (by decide)) m51, RA_e (e 52 (by decide)) m52, RA_e (e 53 (by decide)) m53, RA_e (e 54 (by decide)) m54, RA_e (e 55 (by decide)) m55, RA_e (e 56 (by decide)) m56, RA_e (e 57 (by decide)) m57, RA_e (e 58 (by decide)) m58, RA_e (e 59 (by decide)) m59, RJ_e (e 60 (by decide)) m60, RA_e (e 61 (by decide)) m61, RA_e (e 62 (by decide)) m62, ⟨f2, zset_eq a, trivial⟩⟩
theorem m_handOf (w : WF C P S T H O g) (r : RM h C P S T H O g) {p i : Nat} (hp : p < 6) (hi : i < (P p).length) : zD mX8_handOf d [.ref 47, .int (nI p), .int (nI i)] h (some (.int (nI (s_ow H (fun j => (P p).getD j 0) i)))) h := by
  obtain ⟨m47, m48, m49, m50, m51, m52, m53, m54, m55, m56, m57, m58, m59, m60, m61, m62, m63⟩ := r
  obtain ⟨rd, wr, hw, o0⟩ := m47
  obtain ⟨fD, a52, q52⟩ := m52
  obtain ⟨fH, a53, q53⟩ := m53
  have l2 := (w.2.1 p hp).1
  have l8 := s_getD_le (j := i) (w.2.1 p hp).2
  have hu : s_ow H (fun j => (P p).getD j 0) i = if (P p).getD i 0 = 8 then 4 else H ((P p).getD i 0) := rfl
  rw [hu]
  refine zD_of (by decide +kernel) (by exact Nat.le_of_ble_eq_true rfl) ?_
  show zB mX8_handOf _ _ _ 0 [some (.ref 47), some (.int (nI p)), some (.int (nI i)), none] [] _
  refine zj_aload_n dX8_handOf_0 (by rfl) ?_
  refine zg_8_22 rfl dX8_handOf_1 (by first | assumption | rfl) (by rfl) ?_
  refine zj_bipush (v := nI 60) dX8_handOf_4 (by decide) ?_
  refine zj_iload_n dX8_handOf_6 (by rfl) ?_
  refine zj_imulN dX8_handOf_7 ?_
  refine zj_iload_n dX8_handOf_8 (by rfl) ?_
  refine zj_iaddN dX8_handOf_9 ?_
  refine zj_ialdN dX8_handOf_10 (by first | assumption | rfl) (by omega) ?_
  rw [q52 p hp i hi]
  refine zj_istore_n dX8_handOf_11 (by decide) ?_
  refine zj_iload_n dX8_handOf_12 (by rfl) ?_
  refine zj_bipush (v := nI 8) dX8_handOf_13 (by decide) ?_
  refine zj_icmp_neN (tgt := 22) dX8_handOf_15 (by decide) (by omega) (fun q15 => ?_) (fun q15 => ?_)
  · refine zj_aload_n dX8_handOf_22 (by rfl) ?_
    refine zg_8_25 rfl dX8_handOf_23 (by first | assumption | rfl) (by rfl) ?_
    refine zj_iload_n dX8_handOf_26 (by rfl) ?_
    refine zj_ialdN dX8_handOf_27 (by first | assumption | rfl) (by omega) ?_
    rw [q53 _ (by omega)]
    refine zj_iret dX8_handOf_28 rfl (Nat.le_refl _) (Nat.le_refl _) ?_
    exact ⟨by first | (rw [if_pos (by omega)]; done) | (rw [if_neg (by omega)]; done), rfl⟩
  · refine zj_iconst (v := nI 4) dX8_handOf_18 (by decide) ?_
    refine zj_goto (tgt := 28) dX8_handOf_19 (by decide) ?_
    refine zj_iret dX8_handOf_28 rfl (Nat.le_refl _) (Nat.le_refl _) ?_
    exact ⟨by first | (rw [if_pos (by omega)]; done) | (rw [if_neg (by omega)]; done), rfl⟩
theorem m_mayBe (w : WF C P S T H O g) (r : RM h C P S T H O g) {p i x : Nat} (hp : p < 6) (hi : i < (P p).length) (hx : x < 5) : zD mX8_mayBe (d + 1) [.ref 47, .int (nI p), .int (nI i), .int (nI x)] h (some (.int (if s_okh (s_ow H (fun j => (P p).getD j 0) i) x = true then 1 else 0))) h := by
  obtain ⟨⟨rd, wr, hw, o0⟩, -⟩ := id r
  have hO := m_handOf (d := d) w r hp hi
  have hle := s_ow_le (pr := fun j => (P p).getD j 0) w.2.2.2.2.1 (fun i => s_getD_le (w.2.1 p hp).2) i
  generalize s_ow H (fun j => (P p).getD j 0) i = ow at *
  refine zD_of (by decide +kernel) (by exact Nat.le_of_ble_eq_true rfl) ?_
  show zB mX8_mayBe _ _ _ 0 [some (.ref 47), some (.int (nI p)), some (.int (nI i)), some (.int (nI x)), none] [] _
  refine zj_aload_n dX8_mayBe_0 (by rfl) ?_
  refine zj_iload_n dX8_mayBe_1 (by rfl) ?_
  refine zj_iload_n dX8_mayBe_2 (by rfl) ?_
  refine zc_8_163 rfl dX8_mayBe_3 (by first | assumption | rfl) hO (by exact Nat.le_of_ble_eq_true rfl) ?_
  refine zj_istore dX8_mayBe_6 (by decide) ?_
  refine zj_iload dX8_mayBe_8 (by rfl) ?_
  refine zj_iconst (v := nI 3) dX8_mayBe_10 (by decide) ?_
  refine zj_icmp_neN (tgt := 27) dX8_mayBe_11 (by decide) (by omega) (fun q11 => ?_) (fun q11 => ?_)
  · refine zj_iload dX8_mayBe_27 (by rfl) ?_
    refine zj_iload_n dX8_mayBe_29 (by rfl) ?_
    refine zj_icmp_neN (tgt := 37) dX8_mayBe_30 (by decide) (by omega) (fun q30 => ?_) (fun q30 => ?_)
    · refine zj_iconst (v := nI 0) dX8_mayBe_37 (by decide) ?_
      refine zj_zret dX8_mayBe_38 rfl (by first | exact Or.inl rfl | exact Or.inr rfl) (Nat.le_refl _) (Nat.le_refl _) ?_
      exact ⟨by first | (rw [if_pos (s_okh_t (by omega))]; rfl) | (rw [if_neg (s_okh_f (by omega))]; rfl), rfl⟩
    · refine zj_iconst (v := nI 1) dX8_mayBe_33 (by decide) ?_
      refine zj_goto (tgt := 38) dX8_mayBe_34 (by decide) ?_
      refine zj_zret dX8_mayBe_38 rfl (by first | exact Or.inl rfl | exact Or.inr rfl) (Nat.le_refl _) (Nat.le_refl _) ?_
      exact ⟨by first | (rw [if_pos (s_okh_t (by omega))]; rfl) | (rw [if_neg (s_okh_f (by omega))]; rfl), rfl⟩
  · refine zj_iload_n dX8_mayBe_14 (by rfl) ?_
    refine zj_iconst (v := nI 2) dX8_mayBe_15 (by decide) ?_
    refine zj_icmp_geN (tgt := 23) dX8_mayBe_16 (by decide) (by omega) (fun q16 => ?_) (fun q16 => ?_)
    · refine zj_iconst (v := nI 0) dX8_mayBe_23 (by decide) ?_
      refine zj_goto (tgt := 38) dX8_mayBe_24 (by decide) ?_
      refine zj_zret dX8_mayBe_38 rfl (by first | exact Or.inl rfl | exact Or.inr rfl) (Nat.le_refl _) (Nat.le_refl _) ?_
      exact ⟨by first | (rw [if_pos (s_okh_t (by omega))]; rfl) | (rw [if_neg (s_okh_f (by omega))]; rfl), rfl⟩
    · refine zj_iconst (v := nI 1) dX8_mayBe_19 (by decide) ?_
      refine zj_goto (tgt := 38) dX8_mayBe_20 (by decide) ?_
      refine zj_zret dX8_mayBe_38 rfl (by first | exact Or.inl rfl | exact Or.inr rfl) (Nat.le_refl _) (Nat.le_refl _) ?_
      exact ⟨by first | (rw [if_pos (s_okh_t (by omega))]; rfl) | (rw [if_neg (s_okh_f (by omega))]; rfl), rfl⟩
theorem m_strain {a b : Nat} (ha : a < 5) (hb : b < 5) : zD mX8_strain d [.int (nI a), .int (nI b)] h (some (.int (nI (s_sn a b)))) h := by
  refine zD_of (by decide +kernel) (by exact Nat.le_of_ble_eq_true rfl) ?_
  show zB mX8_strain _ _ _ 0 [some (.int (nI a)), some (.int (nI b))] [] _
  refine zj_iload_n dX8_strain_0 (by rfl) ?_
  refine zj_iconst (v := nI 4) dX8_strain_1 (by decide) ?_
  refine zj_icmp_geN (tgt := 29) dX8_strain_2 (by decide) (by omega) (fun q2 => ?_) (fun q2 => ?_)
  · refine zj_iconst (v := nI 0) dX8_strain_29 (by decide) ?_
    refine zj_iret dX8_strain_30 rfl (Nat.le_refl _) (Nat.le_refl _) ?_
    refine ⟨?_, rfl⟩
    unfold s_sn
    first | (rw [if_pos (by omega)]; done) | (rw [if_neg (by omega)]; done)
  · refine zj_iload_n dX8_strain_5 (by rfl) ?_
    refine zj_iconst (v := nI 4) dX8_strain_6 (by decide) ?_
    refine zj_icmp_geN (tgt := 29) dX8_strain_7 (by decide) (by omega) (fun q7 => ?_) (fun q7 => ?_)
    · refine zj_iconst (v := nI 0) dX8_strain_29 (by decide) ?_
      refine zj_iret dX8_strain_30 rfl (Nat.le_refl _) (Nat.le_refl _) ?_
      refine ⟨?_, rfl⟩
      unfold s_sn
      first | (rw [if_pos (by omega)]; done) | (rw [if_neg (by omega)]; done)
    · refine zj_iload_n dX8_strain_10 (by rfl) ?_
      refine zj_iload_n dX8_strain_11 (by rfl) ?_
      refine zj_icmp_eqN (tgt := 25) dX8_strain_12 (by decide) (by omega) (fun q12 => ?_) (fun q12 => ?_)
      · refine zj_iconst (v := nI 1) dX8_strain_25 (by decide) ?_
        refine zj_goto (tgt := 30) dX8_strain_26 (by decide) ?_
        refine zj_iret dX8_strain_30 rfl (Nat.le_refl _) (Nat.le_refl _) ?_
        refine ⟨?_, rfl⟩
        unfold s_sn
        first | (rw [if_pos (by omega)]; done) | (rw [if_neg (by omega)]; done)
      · refine zj_iload_n dX8_strain_15 (by rfl) ?_
        refine zj_iconst (v := nI 2) dX8_strain_16 (by decide) ?_
        refine zj_icmp_eqN (tgt := 25) dX8_strain_17 (by decide) (by omega) (fun q17 => ?_) (fun q17 => ?_)
        · refine zj_iconst (v := nI 1) dX8_strain_25 (by decide) ?_
          refine zj_goto (tgt := 30) dX8_strain_26 (by decide) ?_
          refine zj_iret dX8_strain_30 rfl (Nat.le_refl _) (Nat.le_refl _) ?_
          refine ⟨?_, rfl⟩
          unfold s_sn
          first | (rw [if_pos (by omega)]; done) | (rw [if_neg (by omega)]; done)
        · refine zj_iload_n dX8_strain_20 (by rfl) ?_
          refine zj_iconst (v := nI 2) dX8_strain_21 (by decide) ?_
          refine zj_icmp_neN (tgt := 29) dX8_strain_22 (by decide) (by omega) (fun q22 => ?_) (fun q22 => ?_)
          · refine zj_iconst (v := nI 0) dX8_strain_29 (by decide) ?_
            refine zj_iret dX8_strain_30 rfl (Nat.le_refl _) (Nat.le_refl _) ?_
            refine ⟨?_, rfl⟩
            unfold s_sn
            first | (rw [if_pos (by omega)]; done) | (rw [if_neg (by omega)]; done)
          · refine zj_iconst (v := nI 1) dX8_strain_25 (by decide) ?_
            refine zj_goto (tgt := 30) dX8_strain_26 (by decide) ?_
            refine zj_iret dX8_strain_30 rfl (Nat.le_refl _) (Nat.le_refl _) ?_
            refine ⟨?_, rfl⟩
            unfold s_sn
            first | (rw [if_pos (by omega)]; done) | (rw [if_neg (by omega)]; done)
end MH
