section MP
variable {h h' : zH} {C : Nat → List (Nat × Nat)} {P : Nat → List Nat} {S : Nat → Option (List Int32)} {T : List Nat} {H : Nat → Nat} {O : List (Nat × Nat)} {g d p : Nat} {R : Option Value} {h1 : zH}
theorem zset_id {k : Nat} {c : va_E} (a : h[k]? = some c) : h.set k c = h := by
  apply List.ext_getElem?
  intro j
  by_cases hj : k = j
  · subst hj; rw [zset_eq a, a]
  · rw [List.getElem?_set, if_neg hj]
def s_dn (m : Nat) : Int32 := match m with
  | 0 => -1
  | m + 1 => nI m
theorem s_dn_eq (m : Nat) : nI m + (-1) = s_dn m := by
  cases m with
  | zero => decide
  | succ m => rw [pk_m1]; rfl
def s_GF (H : Nat → Nat) (l : List Nat) (j x : Nat) : Nat := s_F (s_U H (fun j => l.getD j 0)) l.length (l.length - 1 - j) (s_ph x)
theorem s_GF_le {l : List Nat} {j x : Nat} : s_GF H l j x ≤ l.length - 1 - j := s_F_le _ _
theorem m_fp_o (w : WF C P S T H O g) (r : RM h C P S T H O g) {i x : Nat} {fw : Nat → Int32} {val : Nat → Nat} (hp : p < 6) (hx : x < 5) (hi : i + 1 < (P p).length) (a62 : h[62]? = some (.inl (1, 300, .inl fw))) (hfw : ∀ o, o < 5 → ¬ o = 3 → fw (5 * (i + 1) + o) = nI (s_GF H (P p) (i + 1) o)) (hval : ∀ o, val o = s_GF H (P p) (i + 1) o + s_sn x o)
    (hK : ∀ o7, zB mX8_findPlay (d + 2) R h1 106 [some (.ref 47), some (.int (nI p)), some (.int (nI (P p).length)), some (.int (nI i)), some (.int (nI x)), some (.int (s_fI (s_B (s_okh (s_ow H (fun j => (P p).getD j 0) (i + 1))) val 5))), some (.int (nI 5)), o7] [] h) : ∀ m o o7, o + m = 5 → zB mX8_findPlay (d + 2) R h1 30 [some (.ref 47), some (.int (nI p)), some (.int (nI (P p).length)), some (.int (nI i)), some (.int (nI x)), some (.int (s_fI (s_B (s_okh (s_ow H (fun j => (P p).getD j 0) (i + 1))) val o))), some (.int (nI o)), o7] [] h := by
  obtain ⟨⟨rd, wr, hw, o0⟩, -⟩ := id r
  have l2 := (w.2.1 p hp).1
  have hvl : ∀ o, val o ≤ 60 := fun o => by
    have h1 := s_GF_le (H := H) (l := P p) (j := i + 1) (x := o)
    have h2 := s_sn_le x o
    rw [hval]
    omega
  intro m
  induction m with
  | zero =>
    intro o o7 ho
    obtain rfl : o = 5 := by omega
    refine zj_iload dX8_findPlay_30 (by rfl) ?_
    refine zj_iconst (v := nI 5) dX8_findPlay_32 (by decide) ?_
    refine zj_icmp_geN (tgt := 106) dX8_findPlay_33 (by decide) (by omega) (fun _ => ?_) (fun zq => absurd (by omega) zq)
    exact hK _
  | succ m ih =>
    intro o o7 ho
    have hJ := fun o7 => ih (o + 1) o7 (by omega)
    have hM := m_mayBe (d := d) w r hp hi (show o < 5 by omega)
    have hS := m_strain (d := d + 1) (h := h) hx (show o < 5 by omega)
    by_cases hk : s_okh (s_ow H (fun j => (P p).getD j 0) (i + 1)) o = true
    · have h3 := s_okh_3 hk (by omega)
      rw [if_pos hk] at hM
      have hBs : s_B (s_okh (s_ow H (fun j => (P p).getD j 0) (i + 1))) val (o + 1) = (match s_B (s_okh (s_ow H (fun j => (P p).getD j 0) (i + 1))) val o with
        | none => some (val o)
        | some b => some (if val o < b then val o else b)) := if_pos hk
      rw [hBs] at hJ
      have hv := hvl o
      cases hb : s_B (s_okh (s_ow H (fun j => (P p).getD j 0) (i + 1))) val o with
      | none =>
        rw [hb] at hJ
        rw [hval] at hJ hv
        refine zj_iload dX8_findPlay_30 (by rfl) ?_
        refine zj_iconst (v := nI 5) dX8_findPlay_32 (by decide) ?_
        refine zj_icmp_geN (tgt := 106) dX8_findPlay_33 (by decide) (by omega) (fun zq => absurd zq (by omega)) (fun _ => ?_)
        refine zj_iload_n dX8_findPlay_36 (by rfl) ?_
        refine zj_iload_n dX8_findPlay_37 (by rfl) ?_
        refine zj_iconst (v := nI 1) dX8_findPlay_38 (by decide) ?_
        refine zj_isubN dX8_findPlay_39 (by omega) ?_
        refine zj_icmp_geN (tgt := 106) dX8_findPlay_40 (by decide) (by omega) (fun zq => absurd zq (by omega)) (fun _ => ?_)
        refine zj_aload_n dX8_findPlay_43 (by rfl) ?_
        refine zj_iload_n dX8_findPlay_44 (by rfl) ?_
        refine zj_iload_n dX8_findPlay_45 (by rfl) ?_
        refine zj_iconst (v := nI 1) dX8_findPlay_46 (by decide) ?_
        refine zj_iaddN dX8_findPlay_47 ?_
        refine zj_iload dX8_findPlay_48 (by rfl) ?_
        refine zc_8_166 rfl dX8_findPlay_50 (by first | assumption | rfl) hM (by exact Nat.le_of_ble_eq_true rfl) ?_
        refine zj_if_eq (tgt := 100) dX8_findPlay_53 (by decide) (fun zq => absurd zq (by decide)) (fun _ => ?_)
        refine zj_aload_n dX8_findPlay_56 (by rfl) ?_
        refine zg_8_57 rfl dX8_findPlay_57 (by first | assumption | rfl) (by rfl) ?_
        refine zj_iconst (v := nI 5) dX8_findPlay_60 (by decide) ?_
        refine zj_iload_n dX8_findPlay_61 (by rfl) ?_
        refine zj_iconst (v := nI 1) dX8_findPlay_62 (by decide) ?_
        refine zj_iaddN dX8_findPlay_63 ?_
        refine zj_imulN dX8_findPlay_64 ?_
        refine zj_iload dX8_findPlay_65 (by rfl) ?_
        refine zj_iaddN dX8_findPlay_67 ?_
        refine zj_ialdN dX8_findPlay_68 (by first | assumption | rfl) (by omega) ?_
        rw [hfw o (by omega) h3]
        refine zj_iload dX8_findPlay_69 (by rfl) ?_
        refine zj_iload dX8_findPlay_71 (by rfl) ?_
        refine zc_8_169 rfl dX8_findPlay_73 hS (by exact Nat.le_of_ble_eq_true rfl) ?_
        refine zj_iaddN dX8_findPlay_76 ?_
        refine zj_istore dX8_findPlay_77 (by decide) ?_
        refine zj_iload dX8_findPlay_79 (by rfl) ?_
        refine zj_if_lt (tgt := 91) dX8_findPlay_81 (by decide) (fun _ => ?_) (fun zq => absurd (by decide) zq)
        refine zj_iload dX8_findPlay_91 (by rfl) ?_
        refine zj_goto (tgt := 98) dX8_findPlay_93 (by decide) ?_
        refine zj_istore dX8_findPlay_98 (by decide) ?_
        refine zj_iincN dX8_findPlay_100 (by rfl) (by decide) ?_
        refine zj_goto (tgt := 30) dX8_findPlay_103 (by decide) ?_
        exact hJ _
      | some b =>
        rw [hb] at hJ
        have hbl := s_B_le (K := 60) (fun o _ _ => hvl o) o (by omega) b hb
        by_cases hlt : val o < b
        · simp only [if_pos hlt] at hJ
          rw [hval] at hJ hlt hv
          show zB mX8_findPlay (d + 2) R h1 30 [some (.ref 47), some (.int (nI p)), some (.int (nI (P p).length)), some (.int (nI i)), some (.int (nI x)), some (.int (nI b)), some (.int (nI o)), o7] [] h
          refine zj_iload dX8_findPlay_30 (by rfl) ?_
          refine zj_iconst (v := nI 5) dX8_findPlay_32 (by decide) ?_
          refine zj_icmp_geN (tgt := 106) dX8_findPlay_33 (by decide) (by omega) (fun zq => absurd zq (by omega)) (fun _ => ?_)
          refine zj_iload_n dX8_findPlay_36 (by rfl) ?_
          refine zj_iload_n dX8_findPlay_37 (by rfl) ?_
          refine zj_iconst (v := nI 1) dX8_findPlay_38 (by decide) ?_
          refine zj_isubN dX8_findPlay_39 (by omega) ?_
          refine zj_icmp_geN (tgt := 106) dX8_findPlay_40 (by decide) (by omega) (fun zq => absurd zq (by omega)) (fun _ => ?_)
          refine zj_aload_n dX8_findPlay_43 (by rfl) ?_
          refine zj_iload_n dX8_findPlay_44 (by rfl) ?_
          refine zj_iload_n dX8_findPlay_45 (by rfl) ?_
          refine zj_iconst (v := nI 1) dX8_findPlay_46 (by decide) ?_
          refine zj_iaddN dX8_findPlay_47 ?_
          refine zj_iload dX8_findPlay_48 (by rfl) ?_
          refine zc_8_166 rfl dX8_findPlay_50 (by first | assumption | rfl) hM (by exact Nat.le_of_ble_eq_true rfl) ?_
          refine zj_if_eq (tgt := 100) dX8_findPlay_53 (by decide) (fun zq => absurd zq (by decide)) (fun _ => ?_)
          refine zj_aload_n dX8_findPlay_56 (by rfl) ?_
          refine zg_8_57 rfl dX8_findPlay_57 (by first | assumption | rfl) (by rfl) ?_
          refine zj_iconst (v := nI 5) dX8_findPlay_60 (by decide) ?_
          refine zj_iload_n dX8_findPlay_61 (by rfl) ?_
          refine zj_iconst (v := nI 1) dX8_findPlay_62 (by decide) ?_
          refine zj_iaddN dX8_findPlay_63 ?_
          refine zj_imulN dX8_findPlay_64 ?_
          refine zj_iload dX8_findPlay_65 (by rfl) ?_
          refine zj_iaddN dX8_findPlay_67 ?_
          refine zj_ialdN dX8_findPlay_68 (by first | assumption | rfl) (by omega) ?_
          rw [hfw o (by omega) h3]
          refine zj_iload dX8_findPlay_69 (by rfl) ?_
          refine zj_iload dX8_findPlay_71 (by rfl) ?_
          refine zc_8_169 rfl dX8_findPlay_73 hS (by exact Nat.le_of_ble_eq_true rfl) ?_
          refine zj_iaddN dX8_findPlay_76 ?_
          refine zj_istore dX8_findPlay_77 (by decide) ?_
          refine zj_iload dX8_findPlay_79 (by rfl) ?_
          refine zj_if_ltN (tgt := 91) dX8_findPlay_81 (by decide) (by omega) ?_
          refine zj_iload dX8_findPlay_84 (by rfl) ?_
          refine zj_iload dX8_findPlay_86 (by rfl) ?_
          refine zj_icmp_geN (tgt := 96) dX8_findPlay_88 (by decide) (by omega) (fun zq => absurd zq (by omega)) (fun _ => ?_)
          refine zj_iload dX8_findPlay_91 (by rfl) ?_
          refine zj_goto (tgt := 98) dX8_findPlay_93 (by decide) ?_
          refine zj_istore dX8_findPlay_98 (by decide) ?_
          refine zj_iincN dX8_findPlay_100 (by rfl) (by decide) ?_
          refine zj_goto (tgt := 30) dX8_findPlay_103 (by decide) ?_
          exact hJ _
        · simp only [if_neg hlt] at hJ
          rw [hval] at hlt hv
          show zB mX8_findPlay (d + 2) R h1 30 [some (.ref 47), some (.int (nI p)), some (.int (nI (P p).length)), some (.int (nI i)), some (.int (nI x)), some (.int (nI b)), some (.int (nI o)), o7] [] h
          refine zj_iload dX8_findPlay_30 (by rfl) ?_
          refine zj_iconst (v := nI 5) dX8_findPlay_32 (by decide) ?_
          refine zj_icmp_geN (tgt := 106) dX8_findPlay_33 (by decide) (by omega) (fun zq => absurd zq (by omega)) (fun _ => ?_)
          refine zj_iload_n dX8_findPlay_36 (by rfl) ?_
          refine zj_iload_n dX8_findPlay_37 (by rfl) ?_
          refine zj_iconst (v := nI 1) dX8_findPlay_38 (by decide) ?_
          refine zj_isubN dX8_findPlay_39 (by omega) ?_
          refine zj_icmp_geN (tgt := 106) dX8_findPlay_40 (by decide) (by omega) (fun zq => absurd zq (by omega)) (fun _ => ?_)
          refine zj_aload_n dX8_findPlay_43 (by rfl) ?_
          refine zj_iload_n dX8_findPlay_44 (by rfl) ?_
          refine zj_iload_n dX8_findPlay_45 (by rfl) ?_
          refine zj_iconst (v := nI 1) dX8_findPlay_46 (by decide) ?_
          refine zj_iaddN dX8_findPlay_47 ?_
          refine zj_iload dX8_findPlay_48 (by rfl) ?_
          refine zc_8_166 rfl dX8_findPlay_50 (by first | assumption | rfl) hM (by exact Nat.le_of_ble_eq_true rfl) ?_
          refine zj_if_eq (tgt := 100) dX8_findPlay_53 (by decide) (fun zq => absurd zq (by decide)) (fun _ => ?_)
          refine zj_aload_n dX8_findPlay_56 (by rfl) ?_
          refine zg_8_57 rfl dX8_findPlay_57 (by first | assumption | rfl) (by rfl) ?_
          refine zj_iconst (v := nI 5) dX8_findPlay_60 (by decide) ?_
          refine zj_iload_n dX8_findPlay_61 (by rfl) ?_
          refine zj_iconst (v := nI 1) dX8_findPlay_62 (by decide) ?_
          refine zj_iaddN dX8_findPlay_63 ?_
          refine zj_imulN dX8_findPlay_64 ?_
          refine zj_iload dX8_findPlay_65 (by rfl) ?_
          refine zj_iaddN dX8_findPlay_67 ?_
          refine zj_ialdN dX8_findPlay_68 (by first | assumption | rfl) (by omega) ?_
          rw [hfw o (by omega) h3]
          refine zj_iload dX8_findPlay_69 (by rfl) ?_
          refine zj_iload dX8_findPlay_71 (by rfl) ?_
          refine zc_8_169 rfl dX8_findPlay_73 hS (by exact Nat.le_of_ble_eq_true rfl) ?_
          refine zj_iaddN dX8_findPlay_76 ?_
          refine zj_istore dX8_findPlay_77 (by decide) ?_
          refine zj_iload dX8_findPlay_79 (by rfl) ?_
          refine zj_if_ltN (tgt := 91) dX8_findPlay_81 (by decide) (by omega) ?_
          refine zj_iload dX8_findPlay_84 (by rfl) ?_
          refine zj_iload dX8_findPlay_86 (by rfl) ?_
          refine zj_icmp_geN (tgt := 96) dX8_findPlay_88 (by decide) (by omega) (fun _ => ?_) (fun zq => absurd (by omega) zq)
          refine zj_iload dX8_findPlay_96 (by rfl) ?_
          refine zj_istore dX8_findPlay_98 (by decide) ?_
          refine zj_iincN dX8_findPlay_100 (by rfl) (by decide) ?_
          refine zj_goto (tgt := 30) dX8_findPlay_103 (by decide) ?_
          exact hJ _
    · rw [if_neg hk] at hM
      have hBs : s_B (s_okh (s_ow H (fun j => (P p).getD j 0) (i + 1))) val (o + 1) = s_B (s_okh (s_ow H (fun j => (P p).getD j 0) (i + 1))) val o := if_neg hk
      rw [hBs] at hJ
      refine zj_iload dX8_findPlay_30 (by rfl) ?_
      refine zj_iconst (v := nI 5) dX8_findPlay_32 (by decide) ?_
      refine zj_icmp_geN (tgt := 106) dX8_findPlay_33 (by decide) (by omega) (fun zq => absurd zq (by omega)) (fun _ => ?_)
      refine zj_iload_n dX8_findPlay_36 (by rfl) ?_
      refine zj_iload_n dX8_findPlay_37 (by rfl) ?_
      refine zj_iconst (v := nI 1) dX8_findPlay_38 (by decide) ?_
      refine zj_isubN dX8_findPlay_39 (by omega) ?_
      refine zj_icmp_geN (tgt := 106) dX8_findPlay_40 (by decide) (by omega) (fun zq => absurd zq (by omega)) (fun _ => ?_)
      refine zj_aload_n dX8_findPlay_43 (by rfl) ?_
      refine zj_iload_n dX8_findPlay_44 (by rfl) ?_
      refine zj_iload_n dX8_findPlay_45 (by rfl) ?_
      refine zj_iconst (v := nI 1) dX8_findPlay_46 (by decide) ?_
      refine zj_iaddN dX8_findPlay_47 ?_
      refine zj_iload dX8_findPlay_48 (by rfl) ?_
      refine zc_8_166 rfl dX8_findPlay_50 (by first | assumption | rfl) hM (by exact Nat.le_of_ble_eq_true rfl) ?_
      refine zj_if_eq (tgt := 100) dX8_findPlay_53 (by decide) (fun _ => ?_) (fun zq => absurd (rfl) zq)
      refine zj_iincN dX8_findPlay_100 (by rfl) (by decide) ?_
      refine zj_goto (tgt := 30) dX8_findPlay_103 (by decide) ?_
      exact hJ _
theorem s_GF_s (w : WF C P S T H O g) (hp : p < 6) {i x : Nat} (hi : i + 1 < (P p).length) (hx : x < 5) (h3 : ¬ x = 3) : min (s_GF H (P p) (i + 1) (s_fh (s_ow H (fun j => (P p).getD j 0) (i + 1)) 0) + s_sn x (s_fh (s_ow H (fun j => (P p).getD j 0) (i + 1)) 0)) (s_GF H (P p) (i + 1) (s_fh (s_ow H (fun j => (P p).getD j 0) (i + 1)) 1) + s_sn x (s_fh (s_ow H (fun j => (P p).getD j 0) (i + 1)) 1)) = s_GF H (P p) i x := by
  have h8 : ∀ i, (fun j => (P p).getD j 0) i ≤ 8 := fun i => s_getD_le (w.2.1 p hp).2
  have hH := w.2.2.2.2.1
  have f0 := s_fh_le (e := 0) (s_ow_le hH h8 (i + 1)) (by omega)
  have f1 := s_fh_le (e := 1) (s_ow_le hH h8 (i + 1)) (by omega)
  have u0 := s_U_ph hH h8 (i := i + 1) (e := 0) (by omega)
  have u1 := s_U_ph hH h8 (i := i + 1) (e := 1) (by omega)
  rw [s_sn_st0 _ hx _ f0.1 h3 f0.2, s_sn_st0 _ hx _ f1.1 h3 f1.2]
  unfold s_GF
  rw [← u0, ← u1, show (P p).length - 1 - i = ((P p).length - 1 - (i + 1)) + 1 by omega]
  show _ = min (s_st (s_ph x) (s_U H _ ((P p).length - 1 - ((P p).length - 1 - (i + 1))) 0) + _) (s_st (s_ph x) (s_U H _ ((P p).length - 1 - ((P p).length - 1 - (i + 1))) 1) + _)
  rw [show (P p).length - 1 - ((P p).length - 1 - (i + 1)) = i + 1 by omega, Nat.add_comm, Nat.add_comm (s_st (s_ph x) (s_U H _ (i + 1) 1))]
theorem m_fp_h (w : WF C P S T H O g) {Q : zH → Prop} {i : Nat} (hp : p < 6) (hi : i < (P p).length) : ∀ m x (fw : Nat → Int32) (h : zH), x + m = 5 → RM h C P S T H O g → h[62]? = some (.inl (1, 300, .inl fw)) → (i + 1 < (P p).length → ∀ o, o < 5 → ¬ o = 3 → fw (5 * (i + 1) + o) = nI (s_GF H (P p) (i + 1) o)) → (∀ k, k < x → ¬ k = 3 → fw (5 * i + k) = nI (s_GF H (P p) i k)) →
    (∀ fw', (∀ j, j < 5 * i ∨ 5 * i + 5 ≤ j → fw' j = fw j) → (∀ k, k < 5 → ¬ k = 3 → fw' (5 * i + k) = nI (s_GF H (P p) i k)) → ∃ h1, Q h1 ∧ ∀ o5 o6 o7, zB mX8_findPlay (d + 2) none h1 136 [some (.ref 47), some (.int (nI p)), some (.int (nI (P p).length)), some (.int (nI i)), some (.int (nI 5)), o5, o6, o7] [] (h.set 62 (.inl (1, 300, .inl fw')))) →
    ∃ h1, Q h1 ∧ ∀ o5 o6 o7, zB mX8_findPlay (d + 2) none h1 18 [some (.ref 47), some (.int (nI p)), some (.int (nI (P p).length)), some (.int (nI i)), some (.int (nI x)), o5, o6, o7] [] h := by
  have l2 := (w.2.1 p hp).1
  intro m
  induction m with
  | zero =>
    intro x fw h hx r a62 hT hB hK
    obtain rfl : x = 5 := by omega
    obtain ⟨h1, q1, hz⟩ := hK fw (fun _ _ => rfl) hB
    rw [zset_id a62] at hz
    refine ⟨h1, q1, fun o5 o6 o7 => ?_⟩
    refine zj_iload dX8_findPlay_18 (by rfl) ?_
    refine zj_iconst (v := nI 5) dX8_findPlay_20 (by decide) ?_
    refine zj_icmp_geN (tgt := 136) dX8_findPlay_21 (by decide) (by omega) (fun _ => ?_) (fun zq => absurd (by omega) zq)
    exact hz _ _ _
  | succ m ih =>
    intro x fw h hx r a62 hT hB hK
    obtain ⟨⟨rd, wr, hw, o0⟩, -⟩ := id r
    by_cases hl : i + 1 < (P p).length
    · obtain ⟨val, hval⟩ : ∃ val : Nat → Nat, ∀ o, val o = s_GF H (P p) (i + 1) o + s_sn x o := ⟨_, fun _ => rfl⟩
      have hle := s_ow_le (pr := fun j => (P p).getD j 0) w.2.2.2.2.1 (fun i => s_getD_le (w.2.1 p hp).2) (i + 1)
      have hb5 := s_B_5 (val := val) hle
      obtain ⟨b, hb⟩ : ∃ b, b = min (val (s_fh (s_ow H (fun j => (P p).getD j 0) (i + 1)) 0)) (val (s_fh (s_ow H (fun j => (P p).getD j 0) (i + 1)) 1)) := ⟨_, rfl⟩
      rw [← hb] at hb5
      have hbv : ¬ x = 3 → b = s_GF H (P p) i x := fun h3 => by
        rw [hb, hval, hval, s_GF_s w hp hl (by omega) h3]
      obtain ⟨h1, q1, hz⟩ := ih (x + 1) (upd fw (5 * i + x) (nI b)) (h.set 62 (.inl (1, 300, .inl (upd fw (5 * i + x) (nI b))))) (by omega) (RM_62 r a62) (zset_eq a62)
        (fun hl o ho h3 => by rw [pk_un (by omega)]; exact hT hl o ho h3)
        (fun k hk h3 => by
          by_cases hkx : k = x
          · subst hkx; rw [pk_us, hbv h3]
          · rw [pk_un (by omega)]; exact hB k (by omega) h3)
        (fun fw' e1 e2 => by
          rw [List.set_set]
          exact hK fw' (fun j hj => by rw [e1 j hj, pk_un (by omega)]) e2)
      refine ⟨h1, q1, fun o5 o6 o7 => ?_⟩
      have hI := m_fp_o (d := d) (R := none) (h1 := h1) w r hp (show x < 5 by omega) hl a62 (hT hl) hval (fun o7 => by
        rw [hb5]
        show zB mX8_findPlay (d + 2) none h1 106 [some (.ref 47), some (.int (nI p)), some (.int (nI (P p).length)), some (.int (nI i)), some (.int (nI x)), some (.int (nI b)), some (.int (nI 5)), o7] [] h
        refine zj_aload_n dX8_findPlay_106 (by rfl) ?_
        refine zg_8_57 rfl dX8_findPlay_107 (by first | assumption | rfl) (by rfl) ?_
        refine zj_iconst (v := nI 5) dX8_findPlay_110 (by decide) ?_
        refine zj_iload_n dX8_findPlay_111 (by rfl) ?_
        refine zj_imulN dX8_findPlay_112 ?_
        refine zj_iload dX8_findPlay_113 (by rfl) ?_
        refine zj_iaddN dX8_findPlay_115 ?_
        refine zj_iload_n dX8_findPlay_116 (by rfl) ?_
        refine zj_iload_n dX8_findPlay_117 (by rfl) ?_
        refine zj_iconst (v := nI 1) dX8_findPlay_118 (by decide) ?_
        refine zj_isubN dX8_findPlay_119 (by omega) ?_
        refine zj_icmp_neN (tgt := 127) dX8_findPlay_120 (by decide) (by omega) (fun _ => ?_) (fun zq => absurd zq (by omega))
        refine zj_iload dX8_findPlay_127 (by rfl) ?_
        refine zj_iastN dX8_findPlay_129 (by first | assumption | rfl) (by omega) ?_
        refine zj_iincN dX8_findPlay_130 (by rfl) (by decide) ?_
        refine zj_goto (tgt := 18) dX8_findPlay_133 (by decide) ?_
        exact hz _ _ _) 5 0 o7 (by omega)
      refine zj_iload dX8_findPlay_18 (by rfl) ?_
      refine zj_iconst (v := nI 5) dX8_findPlay_20 (by decide) ?_
      refine zj_icmp_geN (tgt := 136) dX8_findPlay_21 (by decide) (by omega) (fun zq => absurd zq (by omega)) (fun _ => ?_)
      refine zj_iconst (v := (-1)) dX8_findPlay_24 (by decide) ?_
      refine zj_istore dX8_findPlay_25 (by decide) ?_
      refine zj_iconst (v := nI 0) dX8_findPlay_27 (by decide) ?_
      refine zj_istore dX8_findPlay_28 (by decide) ?_
      exact hI
    · have hG : ∀ k, s_GF H (P p) i k = 0 := fun k => by
        have := s_GF_le (H := H) (l := P p) (j := i) (x := k)
        omega
      obtain ⟨h1, q1, hz⟩ := ih (x + 1) (upd fw (5 * i + x) (nI 0)) (h.set 62 (.inl (1, 300, .inl (upd fw (5 * i + x) (nI 0))))) (by omega) (RM_62 r a62) (zset_eq a62)
        (fun hl o ho h3 => by rw [pk_un (by omega)]; exact hT hl o ho h3)
        (fun k hk h3 => by
          by_cases hkx : k = x
          · subst hkx; rw [pk_us, hG]
          · rw [pk_un (by omega)]; exact hB k (by omega) h3)
        (fun fw' e1 e2 => by
          rw [List.set_set]
          exact hK fw' (fun j hj => by rw [e1 j hj, pk_un (by omega)]) e2)
      refine ⟨h1, q1, fun o5 o6 o7 => ?_⟩
      refine zj_iload dX8_findPlay_18 (by rfl) ?_
      refine zj_iconst (v := nI 5) dX8_findPlay_20 (by decide) ?_
      refine zj_icmp_geN (tgt := 136) dX8_findPlay_21 (by decide) (by omega) (fun zq => absurd zq (by omega)) (fun _ => ?_)
      refine zj_iconst (v := (-1)) dX8_findPlay_24 (by decide) ?_
      refine zj_istore dX8_findPlay_25 (by decide) ?_
      refine zj_iconst (v := nI 0) dX8_findPlay_27 (by decide) ?_
      refine zj_istore dX8_findPlay_28 (by decide) ?_
      refine zj_iload dX8_findPlay_30 (by rfl) ?_
      refine zj_iconst (v := nI 5) dX8_findPlay_32 (by decide) ?_
      refine zj_icmp_geN (tgt := 106) dX8_findPlay_33 (by decide) (by omega) (fun zq => absurd zq (by omega)) (fun _ => ?_)
      refine zj_iload_n dX8_findPlay_36 (by rfl) ?_
      refine zj_iload_n dX8_findPlay_37 (by rfl) ?_
      refine zj_iconst (v := nI 1) dX8_findPlay_38 (by decide) ?_
      refine zj_isubN dX8_findPlay_39 (by omega) ?_
      refine zj_icmp_geN (tgt := 106) dX8_findPlay_40 (by decide) (by omega) (fun _ => ?_) (fun zq => absurd (by omega) zq)
      refine zj_aload_n dX8_findPlay_106 (by rfl) ?_
      refine zg_8_57 rfl dX8_findPlay_107 (by first | assumption | rfl) (by rfl) ?_
      refine zj_iconst (v := nI 5) dX8_findPlay_110 (by decide) ?_
      refine zj_iload_n dX8_findPlay_111 (by rfl) ?_
      refine zj_imulN dX8_findPlay_112 ?_
      refine zj_iload dX8_findPlay_113 (by rfl) ?_
      refine zj_iaddN dX8_findPlay_115 ?_
      refine zj_iload_n dX8_findPlay_116 (by rfl) ?_
      refine zj_iload_n dX8_findPlay_117 (by rfl) ?_
      refine zj_iconst (v := nI 1) dX8_findPlay_118 (by decide) ?_
      refine zj_isubN dX8_findPlay_119 (by omega) ?_
      refine zj_icmp_neN (tgt := 127) dX8_findPlay_120 (by decide) (by omega) (fun zq => absurd (by omega) zq) (fun _ => ?_)
      refine zj_iconst (v := nI 0) dX8_findPlay_123 (by decide) ?_
      refine zj_goto (tgt := 129) dX8_findPlay_124 (by decide) ?_
      refine zj_iastN dX8_findPlay_129 (by first | assumption | rfl) (by omega) ?_
      refine zj_iincN dX8_findPlay_130 (by rfl) (by decide) ?_
      refine zj_goto (tgt := 18) dX8_findPlay_133 (by decide) ?_
      exact hz _ _ _
theorem m_fp_b (w : WF C P S T H O g) {Q : zH → Prop} (hp : p < 6) : ∀ m (fw : Nat → Int32) (h : zH), m ≤ (P p).length → RM h C P S T H O g → h[62]? = some (.inl (1, 300, .inl fw)) → (∀ j, m ≤ j → j < (P p).length → ∀ k, k < 5 → ¬ k = 3 → fw (5 * j + k) = nI (s_GF H (P p) j k)) →
    (∀ fw', (∀ j, j < (P p).length → ∀ k, k < 5 → ¬ k = 3 → fw' (5 * j + k) = nI (s_GF H (P p) j k)) → ∃ h1, Q h1 ∧ ∀ v3 o4 o5 o6 o7, zB mX8_findPlay (d + 2) none h1 142 [some (.ref 47), some (.int (nI p)), some (.int (nI (P p).length)), some (.int v3), o4, o5, o6, o7] [] (h.set 62 (.inl (1, 300, .inl fw')))) →
    ∃ h1, Q h1 ∧ ∀ o4 o5 o6 o7, zB mX8_findPlay (d + 2) none h1 11 [some (.ref 47), some (.int (nI p)), some (.int (nI (P p).length)), some (.int (s_dn m)), o4, o5, o6, o7] [] h := by
  have l2 := (w.2.1 p hp).1
  intro m
  induction m with
  | zero =>
    intro fw h hm r a62 hT hK
    obtain ⟨h1, q1, hz⟩ := hK fw (fun j hj => hT j (by omega) hj)
    rw [zset_id a62] at hz
    refine ⟨h1, q1, fun o4 o5 o6 o7 => ?_⟩
    show zB mX8_findPlay (d + 2) none h1 11 [some (.ref 47), some (.int (nI p)), some (.int (nI (P p).length)), some (.int (-1)), o4, o5, o6, o7] [] h
    refine zj_iload_n dX8_findPlay_11 (by rfl) ?_
    refine zj_if_lt (tgt := 142) dX8_findPlay_12 (by decide) (fun _ => ?_) (fun zq => absurd (by decide) zq)
    exact hz _ _ _ _ _
  | succ m ih =>
    intro fw h hm r a62 hT hK
    obtain ⟨⟨rd, wr, hw, o0⟩, -⟩ := id r
    obtain ⟨h1, q1, hz⟩ := m_fp_h (d := d) (Q := Q) (i := m) w hp (by omega) 5 0 fw h (by omega) r a62 (fun hl o ho h3 => hT (m + 1) (by omega) hl o ho h3) (fun k hk => by omega) (fun fw' e1 e2 => by
      obtain ⟨h1, q1, hz⟩ := ih fw' (h.set 62 (.inl (1, 300, .inl fw'))) (by omega) (RM_62 r a62) (zset_eq a62) (fun j hj hj2 k hk h3 => by
        by_cases hjm : j = m
        · subst hjm; exact e2 k hk h3
        · rw [e1 _ (by omega)]; exact hT j (by omega) hj2 k hk h3) (fun fw2 e3 => by rw [List.set_set]; exact hK fw2 e3)
      refine ⟨h1, q1, fun o5 o6 o7 => ?_⟩
      refine zj_iinc (v := (-1)) dX8_findPlay_136 (by decide) (by rfl) (by decide) ?_
      rw [s_dn_eq]
      refine zj_goto (tgt := 11) dX8_findPlay_139 (by decide) ?_
      exact hz _ _ _ _)
    refine ⟨h1, q1, fun o4 o5 o6 o7 => ?_⟩
    show zB mX8_findPlay (d + 2) none h1 11 [some (.ref 47), some (.int (nI p)), some (.int (nI (P p).length)), some (.int (nI m)), o4, o5, o6, o7] [] h
    refine zj_iload_n dX8_findPlay_11 (by rfl) ?_
    refine zj_if_ltN (tgt := 142) dX8_findPlay_12 (by decide) (by omega) ?_
    refine zj_iconst (v := nI 0) dX8_findPlay_15 (by decide) ?_
    refine zj_istore dX8_findPlay_16 (by decide) ?_
    exact hz _ _ _
/-- the forward pass: one place -/
theorem m_fp_c (w : WF C P S T H O g) (r : RM h C P S T H O g) {i la : Nat} {fw : Nat → Int32} {val : Nat → Nat} (hp : p < 6) (hla : la < 5) (hi : i < (P p).length) (a62 : h[62]? = some (.inl (1, 300, .inl fw))) (hfw : ∀ o, o < 5 → ¬ o = 3 → fw (5 * i + o) = nI (s_GF H (P p) i o)) (hval : ∀ o, val o = s_GF H (P p) i o + s_sn la o) {o7 : Option Value}
    (hK : zB mX8_findPlay (d + 2) R h1 233 [some (.ref 47), some (.int (nI p)), some (.int (nI (P p).length)), some (.int (nI la)), some (.int (nI i)), some (.int (s_fI (s_Ch (s_okh (s_ow H (fun j => (P p).getD j 0) i)) val 5))), some (.int (nI 5)), o7] [] h) : ∀ m o, o + m = 5 → zB mX8_findPlay (d + 2) R h1 159 [some (.ref 47), some (.int (nI p)), some (.int (nI (P p).length)), some (.int (nI la)), some (.int (nI i)), some (.int (s_fI (s_Ch (s_okh (s_ow H (fun j => (P p).getD j 0) i)) val o))), some (.int (nI o)), o7] [] h := by
  obtain ⟨⟨rd, wr, hw, o0⟩, -⟩ := id r
  have l2 := (w.2.1 p hp).1
  have hvl : ∀ o, val o ≤ 60 := fun o => by
    have h1 := s_GF_le (H := H) (l := P p) (j := i) (x := o)
    have h2 := s_sn_le la o
    rw [hval]
    omega
  intro m
  induction m with
  | zero =>
    intro o ho
    obtain rfl : o = 5 := by omega
    refine zj_iload dX8_findPlay_159 (by rfl) ?_
    refine zj_iconst (v := nI 5) dX8_findPlay_161 (by decide) ?_
    refine zj_icmp_geN (tgt := 233) dX8_findPlay_162 (by decide) (by omega) (fun _ => ?_) (fun zq => absurd (by omega) zq)
    exact hK
  | succ m ih =>
    intro o ho
    have hJ := ih (o + 1) (by omega)
    have hM := m_mayBe (d := d) w r hp hi (show o < 5 by omega)
    have hS := m_strain (d := d + 1) (h := h) hla (show o < 5 by omega)
    by_cases hk : s_okh (s_ow H (fun j => (P p).getD j 0) i) o = true
    · have h3 := s_okh_3 hk (by omega)
      rw [if_pos hk] at hM
      have hBs : s_Ch (s_okh (s_ow H (fun j => (P p).getD j 0) i)) val (o + 1) = (match s_Ch (s_okh (s_ow H (fun j => (P p).getD j 0) i)) val o with
        | none => some o
        | some b => if val o < val b then some o else some b) := if_pos hk
      rw [hBs] at hJ
      have hv := hvl o
      cases hb : s_Ch (s_okh (s_ow H (fun j => (P p).getD j 0) i)) val o with
      | none =>
        rw [hb] at hJ
        refine zj_iload dX8_findPlay_159 (by rfl) ?_
        refine zj_iconst (v := nI 5) dX8_findPlay_161 (by decide) ?_
        refine zj_icmp_geN (tgt := 233) dX8_findPlay_162 (by decide) (by omega) (fun zq => absurd zq (by omega)) (fun _ => ?_)
        refine zj_aload_n dX8_findPlay_165 (by rfl) ?_
        refine zj_iload_n dX8_findPlay_166 (by rfl) ?_
        refine zj_iload dX8_findPlay_167 (by rfl) ?_
        refine zj_iload dX8_findPlay_169 (by rfl) ?_
        refine zc_8_166 rfl dX8_findPlay_171 (by first | assumption | rfl) hM (by exact Nat.le_of_ble_eq_true rfl) ?_
        refine zj_if_eq (tgt := 227) dX8_findPlay_174 (by decide) (fun zq => absurd zq (by decide)) (fun _ => ?_)
        refine zj_iload dX8_findPlay_177 (by rfl) ?_
        refine zj_if_lt (tgt := 223) dX8_findPlay_179 (by decide) (fun _ => ?_) (fun zq => absurd (by decide) zq)
        refine zj_iload dX8_findPlay_223 (by rfl) ?_
        refine zj_istore dX8_findPlay_225 (by decide) ?_
        refine zj_iincN dX8_findPlay_227 (by rfl) (by decide) ?_
        refine zj_goto (tgt := 159) dX8_findPlay_230 (by decide) ?_
        exact hJ
      | some b =>
        rw [hb] at hJ
        obtain ⟨hbl, hbk⟩ := s_Ch_b o b hb
        have hb3 := s_okh_3 hbk (by omega)
        have hvb := hvl b
        have hS2 := m_strain (d := d + 1) (h := h) hla (show b < 5 by omega)
        by_cases hlt : val o < val b
        · simp only [if_pos hlt] at hJ
          rw [hval, hval] at hlt
          rw [hval] at hv hvb
          show zB mX8_findPlay (d + 2) R h1 159 [some (.ref 47), some (.int (nI p)), some (.int (nI (P p).length)), some (.int (nI la)), some (.int (nI i)), some (.int (nI b)), some (.int (nI o)), o7] [] h
          refine zj_iload dX8_findPlay_159 (by rfl) ?_
          refine zj_iconst (v := nI 5) dX8_findPlay_161 (by decide) ?_
          refine zj_icmp_geN (tgt := 233) dX8_findPlay_162 (by decide) (by omega) (fun zq => absurd zq (by omega)) (fun _ => ?_)
          refine zj_aload_n dX8_findPlay_165 (by rfl) ?_
          refine zj_iload_n dX8_findPlay_166 (by rfl) ?_
          refine zj_iload dX8_findPlay_167 (by rfl) ?_
          refine zj_iload dX8_findPlay_169 (by rfl) ?_
          refine zc_8_166 rfl dX8_findPlay_171 (by first | assumption | rfl) hM (by exact Nat.le_of_ble_eq_true rfl) ?_
          refine zj_if_eq (tgt := 227) dX8_findPlay_174 (by decide) (fun zq => absurd zq (by decide)) (fun _ => ?_)
          refine zj_iload dX8_findPlay_177 (by rfl) ?_
          refine zj_if_ltN (tgt := 223) dX8_findPlay_179 (by decide) (by omega) ?_
          refine zj_aload_n dX8_findPlay_182 (by rfl) ?_
          refine zg_8_57 rfl dX8_findPlay_183 (by first | assumption | rfl) (by rfl) ?_
          refine zj_iconst (v := nI 5) dX8_findPlay_186 (by decide) ?_
          refine zj_iload dX8_findPlay_187 (by rfl) ?_
          refine zj_imulN dX8_findPlay_189 ?_
          refine zj_iload dX8_findPlay_190 (by rfl) ?_
          refine zj_iaddN dX8_findPlay_192 ?_
          refine zj_ialdN dX8_findPlay_193 (by first | assumption | rfl) (by omega) ?_
          rw [hfw o (by omega) h3]
          refine zj_iload_n dX8_findPlay_194 (by rfl) ?_
          refine zj_iload dX8_findPlay_195 (by rfl) ?_
          refine zc_8_169 rfl dX8_findPlay_197 hS (by exact Nat.le_of_ble_eq_true rfl) ?_
          refine zj_iaddN dX8_findPlay_200 ?_
          refine zj_aload_n dX8_findPlay_201 (by rfl) ?_
          refine zg_8_57 rfl dX8_findPlay_202 (by first | assumption | rfl) (by rfl) ?_
          refine zj_iconst (v := nI 5) dX8_findPlay_205 (by decide) ?_
          refine zj_iload dX8_findPlay_206 (by rfl) ?_
          refine zj_imulN dX8_findPlay_208 ?_
          refine zj_iload dX8_findPlay_209 (by rfl) ?_
          refine zj_iaddN dX8_findPlay_211 ?_
          refine zj_ialdN dX8_findPlay_212 (by first | assumption | rfl) (by omega) ?_
          rw [hfw b (by omega) hb3]
          refine zj_iload_n dX8_findPlay_213 (by rfl) ?_
          refine zj_iload dX8_findPlay_214 (by rfl) ?_
          refine zc_8_169 rfl dX8_findPlay_216 hS2 (by exact Nat.le_of_ble_eq_true rfl) ?_
          refine zj_iaddN dX8_findPlay_219 ?_
          refine zj_icmp_geN (tgt := 227) dX8_findPlay_220 (by decide) (by omega) (fun zq => absurd zq (by omega)) (fun _ => ?_)
          refine zj_iload dX8_findPlay_223 (by rfl) ?_
          refine zj_istore dX8_findPlay_225 (by decide) ?_
          refine zj_iincN dX8_findPlay_227 (by rfl) (by decide) ?_
          refine zj_goto (tgt := 159) dX8_findPlay_230 (by decide) ?_
          exact hJ
        · simp only [if_neg hlt] at hJ
          rw [hval, hval] at hlt
          rw [hval] at hv hvb
          show zB mX8_findPlay (d + 2) R h1 159 [some (.ref 47), some (.int (nI p)), some (.int (nI (P p).length)), some (.int (nI la)), some (.int (nI i)), some (.int (nI b)), some (.int (nI o)), o7] [] h
          refine zj_iload dX8_findPlay_159 (by rfl) ?_
          refine zj_iconst (v := nI 5) dX8_findPlay_161 (by decide) ?_
          refine zj_icmp_geN (tgt := 233) dX8_findPlay_162 (by decide) (by omega) (fun zq => absurd zq (by omega)) (fun _ => ?_)
          refine zj_aload_n dX8_findPlay_165 (by rfl) ?_
          refine zj_iload_n dX8_findPlay_166 (by rfl) ?_
          refine zj_iload dX8_findPlay_167 (by rfl) ?_
          refine zj_iload dX8_findPlay_169 (by rfl) ?_
          refine zc_8_166 rfl dX8_findPlay_171 (by first | assumption | rfl) hM (by exact Nat.le_of_ble_eq_true rfl) ?_
          refine zj_if_eq (tgt := 227) dX8_findPlay_174 (by decide) (fun zq => absurd zq (by decide)) (fun _ => ?_)
          refine zj_iload dX8_findPlay_177 (by rfl) ?_
          refine zj_if_ltN (tgt := 223) dX8_findPlay_179 (by decide) (by omega) ?_
          refine zj_aload_n dX8_findPlay_182 (by rfl) ?_
          refine zg_8_57 rfl dX8_findPlay_183 (by first | assumption | rfl) (by rfl) ?_
          refine zj_iconst (v := nI 5) dX8_findPlay_186 (by decide) ?_
          refine zj_iload dX8_findPlay_187 (by rfl) ?_
          refine zj_imulN dX8_findPlay_189 ?_
          refine zj_iload dX8_findPlay_190 (by rfl) ?_
          refine zj_iaddN dX8_findPlay_192 ?_
          refine zj_ialdN dX8_findPlay_193 (by first | assumption | rfl) (by omega) ?_
          rw [hfw o (by omega) h3]
          refine zj_iload_n dX8_findPlay_194 (by rfl) ?_
          refine zj_iload dX8_findPlay_195 (by rfl) ?_
          refine zc_8_169 rfl dX8_findPlay_197 hS (by exact Nat.le_of_ble_eq_true rfl) ?_
          refine zj_iaddN dX8_findPlay_200 ?_
          refine zj_aload_n dX8_findPlay_201 (by rfl) ?_
          refine zg_8_57 rfl dX8_findPlay_202 (by first | assumption | rfl) (by rfl) ?_
          refine zj_iconst (v := nI 5) dX8_findPlay_205 (by decide) ?_
          refine zj_iload dX8_findPlay_206 (by rfl) ?_
          refine zj_imulN dX8_findPlay_208 ?_
          refine zj_iload dX8_findPlay_209 (by rfl) ?_
          refine zj_iaddN dX8_findPlay_211 ?_
          refine zj_ialdN dX8_findPlay_212 (by first | assumption | rfl) (by omega) ?_
          rw [hfw b (by omega) hb3]
          refine zj_iload_n dX8_findPlay_213 (by rfl) ?_
          refine zj_iload dX8_findPlay_214 (by rfl) ?_
          refine zc_8_169 rfl dX8_findPlay_216 hS2 (by exact Nat.le_of_ble_eq_true rfl) ?_
          refine zj_iaddN dX8_findPlay_219 ?_
          refine zj_icmp_geN (tgt := 227) dX8_findPlay_220 (by decide) (by omega) (fun _ => ?_) (fun zq => absurd (by omega) zq)
          refine zj_iincN dX8_findPlay_227 (by rfl) (by decide) ?_
          refine zj_goto (tgt := 159) dX8_findPlay_230 (by decide) ?_
          exact hJ
    · rw [if_neg hk] at hM
      have hBs : s_Ch (s_okh (s_ow H (fun j => (P p).getD j 0) i)) val (o + 1) = s_Ch (s_okh (s_ow H (fun j => (P p).getD j 0) i)) val o := if_neg hk
      rw [hBs] at hJ
      refine zj_iload dX8_findPlay_159 (by rfl) ?_
      refine zj_iconst (v := nI 5) dX8_findPlay_161 (by decide) ?_
      refine zj_icmp_geN (tgt := 233) dX8_findPlay_162 (by decide) (by omega) (fun zq => absurd zq (by omega)) (fun _ => ?_)
      refine zj_aload_n dX8_findPlay_165 (by rfl) ?_
      refine zj_iload_n dX8_findPlay_166 (by rfl) ?_
      refine zj_iload dX8_findPlay_167 (by rfl) ?_
      refine zj_iload dX8_findPlay_169 (by rfl) ?_
      refine zc_8_166 rfl dX8_findPlay_171 (by first | assumption | rfl) hM (by exact Nat.le_of_ble_eq_true rfl) ?_
      refine zj_if_eq (tgt := 227) dX8_findPlay_174 (by decide) (fun _ => ?_) (fun zq => absurd (rfl) zq)
      refine zj_iincN dX8_findPlay_227 (by rfl) (by decide) ?_
      refine zj_goto (tgt := 159) dX8_findPlay_230 (by decide) ?_
      exact hJ
theorem m_fp_f (w : WF C P S T H O g) {fw : Nat → Int32} (hp : p < 6) (hfw : ∀ j, j < (P p).length → ∀ k, k < 5 → ¬ k = 3 → fw (5 * j + k) = nI (s_GF H (P p) j k)) : ∀ m i (pl : Nat → Int32) (h : zH), i + m = (P p).length → RM h C P S T H O g → h[62]? = some (.inl (1, 300, .inl fw)) → h[63]? = some (.inl (1, 60, .inl pl)) → (∀ j, j < i → pl j = nI (s_lp H (fun j => (P p).getD j 0) (P p).length (j + 1))) →
    ∃ pl', (∀ j, j < (P p).length → pl' j = nI (s_lp H (fun j => (P p).getD j 0) (P p).length (j + 1))) ∧ ∀ o5 o6 o7, zB mX8_findPlay (d + 2) none (h.set 63 (.inl (1, 60, .inl pl'))) 147 [some (.ref 47), some (.int (nI p)), some (.int (nI (P p).length)), some (.int (nI (s_lp H (fun j => (P p).getD j 0) (P p).length i))), some (.int (nI i)), o5, o6, o7] [] h := by
  have l2 := (w.2.1 p hp).1
  have h8 : ∀ i, (fun j => (P p).getD j 0) i ≤ 8 := fun i => s_getD_le (w.2.1 p hp).2
  have hH := w.2.2.2.2.1
  intro m
  induction m with
  | zero =>
    intro i pl h hi r a62 a63 hpl
    refine ⟨pl, fun j hj => hpl j (by omega), fun o5 o6 o7 => ?_⟩
    rw [zset_id a63]
    refine zj_iload dX8_findPlay_147 (by rfl) ?_
    refine zj_iload_n dX8_findPlay_149 (by rfl) ?_
    refine zj_icmp_geN (tgt := 251) dX8_findPlay_150 (by decide) (by omega) (fun _ => ?_) (fun zq => absurd (by omega) zq)
    refine zj_vret dX8_findPlay_251 rfl (Nat.le_refl _) (Nat.le_refl _) ?_
    exact ⟨rfl, rfl⟩
  | succ m ih =>
    intro i pl h hi r a62 a63 hpl
    obtain ⟨⟨rd, wr, hw, o0⟩, -⟩ := id r
    have hla := s_lp_le (n := (P p).length) hH h8 i
    have hb1 := s_lp_le (n := (P p).length) hH h8 (i + 1)
    have hle := s_ow_le hH h8 i
    obtain ⟨val, hval⟩ : ∃ val : Nat → Nat, ∀ o, val o = s_GF H (P p) i o + s_sn (s_lp H (fun j => (P p).getD j 0) (P p).length i) o := ⟨_, fun _ => rfl⟩
    have hc5 : s_Ch (s_okh (s_ow H (fun j => (P p).getD j 0) i)) val 5 = some (s_lp H (fun j => (P p).getD j 0) (P p).length (i + 1)) := by
      rw [s_Ch_5 hle, hval, hval]; rfl
    obtain ⟨pl', q1, hz⟩ := ih (i + 1) (upd pl i (nI (s_lp H (fun j => (P p).getD j 0) (P p).length (i + 1)))) (h.set 63 (.inl (1, 60, .inl (upd pl i (nI (s_lp H (fun j => (P p).getD j 0) (P p).length (i + 1))))))) (by omega) (RM_63 r a63) (zset_ne (by decide) a62) (zset_eq a63) (fun j hj => by
      by_cases hji : j = i
      · subst hji; rw [pk_us]
      · rw [pk_un (by omega)]; exact hpl j (by omega))
    rw [List.set_set] at hz
    refine ⟨pl', q1, fun o5 o6 o7 => ?_⟩
    have hI := m_fp_c (d := d) (o7 := o7) (R := none) (h1 := h.set 63 (.inl (1, 60, .inl pl'))) w r hp hla.1 (show i < (P p).length by omega) a62 (hfw i (by omega)) hval (by
      rw [hc5]
      show zB mX8_findPlay (d + 2) none _ 233 [some (.ref 47), some (.int (nI p)), some (.int (nI (P p).length)), some (.int (nI (s_lp H (fun j => (P p).getD j 0) (P p).length i))), some (.int (nI i)), some (.int (nI (s_lp H (fun j => (P p).getD j 0) (P p).length (i + 1)))), some (.int (nI 5)), o7] [] h
      refine zj_aload_n dX8_findPlay_233 (by rfl) ?_
      refine zg_8_60 rfl dX8_findPlay_234 (by first | assumption | rfl) (by rfl) ?_
      refine zj_iload dX8_findPlay_237 (by rfl) ?_
      refine zj_iload dX8_findPlay_239 (by rfl) ?_
      refine zj_iastN dX8_findPlay_241 (by first | assumption | rfl) (by omega) ?_
      refine zj_iload dX8_findPlay_242 (by rfl) ?_
      refine zj_istore_n dX8_findPlay_244 (by decide) ?_
      refine zj_iincN dX8_findPlay_245 (by rfl) (by decide) ?_
      refine zj_goto (tgt := 147) dX8_findPlay_248 (by decide) ?_
      exact hz _ _ _) 5 0 (by omega)
    refine zj_iload dX8_findPlay_147 (by rfl) ?_
    refine zj_iload_n dX8_findPlay_149 (by rfl) ?_
    refine zj_icmp_geN (tgt := 251) dX8_findPlay_150 (by decide) (by omega) (fun zq => absurd zq (by omega)) (fun _ => ?_)
    refine zj_iconst (v := (-1)) dX8_findPlay_153 (by decide) ?_
    refine zj_istore dX8_findPlay_154 (by decide) ?_
    refine zj_iconst (v := nI 0) dX8_findPlay_156 (by decide) ?_
    refine zj_istore dX8_findPlay_157 (by decide) ?_
    exact hI
theorem m_findPlay (w : WF C P S T H O g) (r : RM h C P S T H O g) (hp : p < 6) (hn : ¬ (P p).length = 0) : ∃ h', (RM h' C P S T H O g ∧ (∃ pl, h'[63]? = some (.inl (1, 60, .inl pl)) ∧ ∀ j, j < (P p).length → pl j = nI (s_lp H (fun j => (P p).getD j 0) (P p).length (j + 1))) ∧ zEq 0 46 h h') ∧ zD mX8_findPlay (d + 2) [.ref 47, .int (nI p)] h none h' := by
  obtain ⟨m47, m48, m49, m50, m51, m52, m53, m54, m55, m56, m57, m58, m59, m60, m61, m62, m63⟩ := id r
  obtain ⟨rd, wr, hw, o0⟩ := m47
  obtain ⟨fS, a51, q51⟩ := m51
  obtain ⟨fw, a62, -⟩ := m62
  obtain ⟨pl, a63, -⟩ := m63
  have l2 := (w.2.1 p hp).1
  obtain ⟨h1, q1, hz⟩ := m_fp_b (d := d) (Q := fun h' => RM h' C P S T H O g ∧ (∃ pl, h'[63]? = some (.inl (1, 60, .inl pl)) ∧ ∀ j, j < (P p).length → pl j = nI (s_lp H (fun j => (P p).getD j 0) (P p).length (j + 1))) ∧ zEq 0 46 h h') w hp (P p).length fw h (Nat.le_refl _) r a62 (fun j h1 h2 => by omega) (fun fw' hf => by
    obtain ⟨pl', q1, hz⟩ := m_fp_f (d := d) w hp hf (P p).length 0 pl (h.set 62 (.inl (1, 300, .inl fw'))) (by omega) (RM_62 r a62) (zset_eq a62) (zset_ne (by decide) a63) (fun j hj => by omega)
    refine ⟨(h.set 62 (.inl (1, 300, .inl fw'))).set 63 (.inl (1, 60, .inl pl')), ⟨RM_63 (RM_62 r a62) (zset_ne (by decide) a63), ⟨pl', zset_eq (zset_ne (by decide) a63), q1⟩, zEq_set (zEq_set zEq_rf (by omega)) (by omega)⟩, fun v3 o4 o5 o6 o7 => ?_⟩
    refine zj_iconst (v := nI 4) dX8_findPlay_142 (by decide) ?_
    refine zj_istore_n dX8_findPlay_143 (by decide) ?_
    refine zj_iconst (v := nI 0) dX8_findPlay_144 (by decide) ?_
    refine zj_istore dX8_findPlay_145 (by decide) ?_
    exact hz _ _ _)
  refine ⟨h1, q1, ?_⟩
  have hd : s_dn (P p).length = nI ((P p).length - 1) := by
    cases hl : (P p).length with
    | zero => exact absurd hl hn
    | succ m => rfl
  rw [hd] at hz
  refine zD_of (by decide +kernel) (by exact Nat.le_of_ble_eq_true rfl) ?_
  show zB mX8_findPlay _ _ _ 0 [some (.ref 47), some (.int (nI p)), none, none, none, none, none, none] [] _
  refine zj_aload_n dX8_findPlay_0 (by rfl) ?_
  refine zg_8_19 rfl dX8_findPlay_1 (by first | assumption | rfl) (by rfl) ?_
  refine zj_iload_n dX8_findPlay_4 (by rfl) ?_
  refine zj_ialdN dX8_findPlay_5 (by first | assumption | rfl) (by omega) ?_
  rw [q51 p hp]
  refine zj_istore_n dX8_findPlay_6 (by decide) ?_
  refine zj_iload_n dX8_findPlay_7 (by rfl) ?_
  refine zj_iconst (v := nI 1) dX8_findPlay_8 (by decide) ?_
  refine zj_isubN dX8_findPlay_9 (by omega) ?_
  refine zj_istore_n dX8_findPlay_10 (by decide) ?_
  exact hz _ _ _ _
theorem m_strainsA (r : RM h C P S T H O g) {p : Int32} (hp : p < 0 ∨ 6 ≤ p) : zD mX8_strains (d + 3) [.ref 47, .int p] h (some (.int (-1000000001))) h := by
  refine zD_of (by decide +kernel) (by exact Nat.le_of_ble_eq_true rfl) ?_
  show zB mX8_strains _ _ _ 0 [some (.ref 47), some (.int p), none, none] [] _
  refine zj_iload_n dX8_strains_0 (by rfl) ?_
  refine zc_8_103 rfl dX8_strains_1 (m_isPhraseN hp) (by exact Nat.le_of_ble_eq_true rfl) ?_
  refine zj_if_ne (tgt := 10) dX8_strains_4 (by decide) (fun zq => absurd (rfl) zq) (fun _ => ?_)
  refine zj_ldc (v := -1000000001) dX8_strains_7 zq_686 ?_
  refine zj_iret dX8_strains_9 rfl (Nat.le_refl _) (Nat.le_refl _) ?_
  exact ⟨rfl, rfl⟩
theorem m_strainsN (r : RM h C P S T H O g) (hp : p < 6) (he : (P p).length = 0) : zD mX8_strains (d + 3) [.ref 47, .int (nI p)] h (some (.int (-1000000002))) h := by
  obtain ⟨m47, m48, m49, m50, m51, m52, m53, m54, m55, m56, m57, m58, m59, m60, m61, m62, m63⟩ := id r
  obtain ⟨rd, wr, hw, o0⟩ := m47
  obtain ⟨fS, a51, q51⟩ := m51
  have q51 := q51 p hp
  rw [he] at q51
  refine zD_of (by decide +kernel) (by exact Nat.le_of_ble_eq_true rfl) ?_
  show zB mX8_strains _ _ _ 0 [some (.ref 47), some (.int (nI p)), none, none] [] _
  refine zj_iload_n dX8_strains_0 (by rfl) ?_
  refine zc_8_103 rfl dX8_strains_1 (m_isPhrase hp) (by exact Nat.le_of_ble_eq_true rfl) ?_
  refine zj_if_ne (tgt := 10) dX8_strains_4 (by decide) (fun _ => ?_) (fun zq => absurd zq (by decide))
  refine zj_aload_n dX8_strains_10 (by rfl) ?_
  refine zg_8_19 rfl dX8_strains_11 (by first | assumption | rfl) (by rfl) ?_
  refine zj_iload_n dX8_strains_14 (by rfl) ?_
  refine zj_ialdN dX8_strains_15 (by first | assumption | rfl) (by omega) ?_
  rw [q51]
  refine zj_if_neN (tgt := 22) dX8_strains_16 (by decide) (by omega) (fun zq => absurd (rfl) zq) (fun _ => ?_)
  refine zj_ldc (v := -1000000002) dX8_strains_19 zq_708 ?_
  refine zj_iret dX8_strains_21 rfl (Nat.le_refl _) (Nat.le_refl _) ?_
  exact ⟨rfl, rfl⟩
theorem m_strains_l (w : WF C P S T H O g) (r : RM h C P S T H O g) {pl : Nat → Int32} (hp : p < 6) (a63 : h[63]? = some (.inl (1, 60, .inl pl))) (hpl : ∀ j, j < (P p).length → pl j = nI (s_lp H (fun j => (P p).getD j 0) (P p).length (j + 1))) : ∀ m i, i + 1 + m = (P p).length → zB mX8_strains (d + 2) (some (.int (nI (s_su H (fun j => (P p).getD j 0) (P p).length ((P p).length - 1))))) h 31 [some (.ref 47), some (.int (nI p)), some (.int (nI (s_su H (fun j => (P p).getD j 0) (P p).length i))), some (.int (nI (i + 1)))] [] h := by
  obtain ⟨m47, m48, m49, m50, m51, m52, m53, m54, m55, m56, m57, m58, m59, m60, m61, m62, m63⟩ := id r
  obtain ⟨rd, wr, hw, o0⟩ := m47
  obtain ⟨fS, a51, q51⟩ := m51
  have l2 := (w.2.1 p hp).1
  have h8 : ∀ i, (fun j => (P p).getD j 0) i ≤ 8 := fun i => s_getD_le (w.2.1 p hp).2
  have hH := w.2.2.2.2.1
  intro m
  induction m with
  | zero =>
    intro i hi
    obtain rfl : i = (P p).length - 1 := by omega
    refine zj_iload_n dX8_strains_31 (by rfl) ?_
    refine zj_aload_n dX8_strains_32 (by rfl) ?_
    refine zg_8_19 rfl dX8_strains_33 (by first | assumption | rfl) (by rfl) ?_
    refine zj_iload_n dX8_strains_36 (by rfl) ?_
    refine zj_ialdN dX8_strains_37 (by first | assumption | rfl) (by omega) ?_
    rw [q51 p hp]
    refine zj_icmp_geN (tgt := 67) dX8_strains_38 (by decide) (by omega) (fun _ => ?_) (fun zq => absurd (by omega) zq)
    refine zj_iload_n dX8_strains_67 (by rfl) ?_
    refine zj_iret dX8_strains_68 rfl (Nat.le_refl _) (Nat.le_refl _) ?_
    exact ⟨rfl, rfl⟩
  | succ m ih =>
    intro i hi
    have hJ := ih (i + 1) (by omega)
    have hl1 := s_lp_le (n := (P p).length) hH h8 (i + 1)
    have hl2 := s_lp_le (n := (P p).length) hH h8 (i + 2)
    have hS := m_strain (d := d + 1) (h := h) hl1.1 hl2.1
    have e1 := hpl i (by omega)
    have e2 := hpl (i + 1) (by omega)
    refine zj_iload_n dX8_strains_31 (by rfl) ?_
    refine zj_aload_n dX8_strains_32 (by rfl) ?_
    refine zg_8_19 rfl dX8_strains_33 (by first | assumption | rfl) (by rfl) ?_
    refine zj_iload_n dX8_strains_36 (by rfl) ?_
    refine zj_ialdN dX8_strains_37 (by first | assumption | rfl) (by omega) ?_
    rw [q51 p hp]
    refine zj_icmp_geN (tgt := 67) dX8_strains_38 (by decide) (by omega) (fun zq => absurd zq (by omega)) (fun _ => ?_)
    refine zj_iload_n dX8_strains_41 (by rfl) ?_
    refine zj_aload_n dX8_strains_42 (by rfl) ?_
    refine zg_8_60 rfl dX8_strains_43 (by first | assumption | rfl) (by rfl) ?_
    refine zj_iload_n dX8_strains_46 (by rfl) ?_
    refine zj_iconst (v := nI 1) dX8_strains_47 (by decide) ?_
    refine zj_isubN dX8_strains_48 (by omega) ?_
    refine zj_ialdN dX8_strains_49 (by first | assumption | rfl) (by omega) ?_
    rw [Nat.add_sub_cancel, e1]
    refine zj_aload_n dX8_strains_50 (by rfl) ?_
    refine zg_8_60 rfl dX8_strains_51 (by first | assumption | rfl) (by rfl) ?_
    refine zj_iload_n dX8_strains_54 (by rfl) ?_
    refine zj_ialdN dX8_strains_55 (by first | assumption | rfl) (by omega) ?_
    rw [e2]
    refine zc_8_169 rfl dX8_strains_56 hS (by exact Nat.le_of_ble_eq_true rfl) ?_
    refine zj_iaddN dX8_strains_59 ?_
    refine zj_istore_n dX8_strains_60 (by decide) ?_
    refine zj_iincN dX8_strains_61 (by rfl) (by decide) ?_
    refine zj_goto (tgt := 31) dX8_strains_64 (by decide) ?_
    exact hJ
theorem m_strains (w : WF C P S T H O g) (r : RM h C P S T H O g) (hp : p < 6) (he : ¬ (P p).length = 0) : ∃ h', zD mX8_strains (d + 3) [.ref 47, .int (nI p)] h (some (.int (nI (min (s_F (s_U H (fun j => (P p).getD j 0)) (P p).length ((P p).length - 1) (s_U H (fun j => (P p).getD j 0) 0 0)) (s_F (s_U H (fun j => (P p).getD j 0)) (P p).length ((P p).length - 1) (s_U H (fun j => (P p).getD j 0) 0 1)))))) h' ∧ RM h' C P S T H O g ∧ zEq 0 46 h h' := by
  obtain ⟨m47, m48, m49, m50, m51, m52, m53, m54, m55, m56, m57, m58, m59, m60, m61, m62, m63⟩ := id r
  obtain ⟨rd, wr, hw, o0⟩ := m47
  obtain ⟨fS, a51, q51⟩ := m51
  have l2 := (w.2.1 p hp).1
  have h8 : ∀ i, (fun j => (P p).getD j 0) i ≤ 8 := fun i => s_getD_le (w.2.1 p hp).2
  obtain ⟨h1, ⟨r1, ⟨pl, a63, hpl⟩, e1⟩, hF⟩ := m_findPlay (d := d) w r hp he
  refine ⟨h1, ?_, r1, e1⟩
  have hJ := m_strains_l (d := d + 1) w r1 hp a63 hpl ((P p).length - 1) 0 (by omega)
  rw [s_su_min w.2.2.2.2.1 h8 (by omega)] at hJ
  refine zD_of (by decide +kernel) (by exact Nat.le_of_ble_eq_true rfl) ?_
  show zB mX8_strains _ _ _ 0 [some (.ref 47), some (.int (nI p)), none, none] [] _
  refine zj_iload_n dX8_strains_0 (by rfl) ?_
  refine zc_8_103 rfl dX8_strains_1 (m_isPhrase hp) (by exact Nat.le_of_ble_eq_true rfl) ?_
  refine zj_if_ne (tgt := 10) dX8_strains_4 (by decide) (fun _ => ?_) (fun zq => absurd zq (by decide))
  refine zj_aload_n dX8_strains_10 (by rfl) ?_
  refine zg_8_19 rfl dX8_strains_11 (by first | assumption | rfl) (by rfl) ?_
  refine zj_iload_n dX8_strains_14 (by rfl) ?_
  refine zj_ialdN dX8_strains_15 (by first | assumption | rfl) (by omega) ?_
  rw [q51 p hp]
  refine zj_if_neN (tgt := 22) dX8_strains_16 (by decide) (by omega) (fun _ => ?_) (fun zq => absurd zq (he))
  refine zj_aload_n dX8_strains_22 (by rfl) ?_
  refine zj_iload_n dX8_strains_23 (by rfl) ?_
  refine zc_8_172 rfl dX8_strains_24 (by first | assumption | rfl) hF (by exact Nat.le_of_ble_eq_true rfl) ?_
  refine zj_iconst (v := nI 0) dX8_strains_27 (by decide) ?_
  refine zj_istore_n dX8_strains_28 (by decide) ?_
  refine zj_iconst (v := nI 1) dX8_strains_29 (by decide) ?_
  refine zj_istore_n dX8_strains_30 (by decide) ?_
  exact hJ
theorem m_playsA (r : RM h C P S T H O g) {p i : Int32} (hp : p < 0 ∨ 6 ≤ p) : zD mX8_plays (d + 3) [.ref 47, .int p, .int i] h (some (.int (-1000000001))) h := by
  refine zD_of (by decide +kernel) (by exact Nat.le_of_ble_eq_true rfl) ?_
  show zB mX8_plays _ _ _ 0 [some (.ref 47), some (.int p), some (.int i)] [] _
  refine zj_iload_n dX8_plays_0 (by rfl) ?_
  refine zc_8_103 rfl dX8_plays_1 (m_isPhraseN hp) (by exact Nat.le_of_ble_eq_true rfl) ?_
  refine zj_if_eq (tgt := 11) dX8_plays_4 (by decide) (fun _ => ?_) (fun zq => absurd (rfl) zq)
  refine zj_ldc (v := -1000000001) dX8_plays_11 zq_686 ?_
  refine zj_iret dX8_plays_13 rfl (Nat.le_refl _) (Nat.le_refl _) ?_
  exact ⟨rfl, rfl⟩
theorem m_playsB (r : RM h C P S T H O g) {i : Int32} (hp : p < 6) (hi : i < 0) : zD mX8_plays (d + 3) [.ref 47, .int (nI p), .int i] h (some (.int (-1000000001))) h := by
  refine zD_of (by decide +kernel) (by exact Nat.le_of_ble_eq_true rfl) ?_
  show zB mX8_plays _ _ _ 0 [some (.ref 47), some (.int (nI p)), some (.int i)] [] _
  refine zj_iload_n dX8_plays_0 (by rfl) ?_
  refine zc_8_103 rfl dX8_plays_1 (m_isPhrase hp) (by exact Nat.le_of_ble_eq_true rfl) ?_
  refine zj_if_eq (tgt := 11) dX8_plays_4 (by decide) (fun zq => absurd zq (by decide)) (fun _ => ?_)
  refine zj_iload_n dX8_plays_7 (by rfl) ?_
  refine zj_if_ge (tgt := 14) dX8_plays_8 (by decide) (fun zq => absurd zq (Int32.not_le.mpr hi)) (fun _ => ?_)
  refine zj_ldc (v := -1000000001) dX8_plays_11 zq_686 ?_
  refine zj_iret dX8_plays_13 rfl (Nat.le_refl _) (Nat.le_refl _) ?_
  exact ⟨rfl, rfl⟩
theorem m_playsN (r : RM h C P S T H O g) {i : Nat} (hp : p < 6) (hi : i < 2 ^ 31) (he : (P p).length = 0) : zD mX8_plays (d + 3) [.ref 47, .int (nI p), .int (nI i)] h (some (.int (-1000000002))) h := by
  obtain ⟨m47, m48, m49, m50, m51, m52, m53, m54, m55, m56, m57, m58, m59, m60, m61, m62, m63⟩ := id r
  obtain ⟨rd, wr, hw, o0⟩ := m47
  obtain ⟨fS, a51, q51⟩ := m51
  have q51 := q51 p hp
  rw [he] at q51
  refine zD_of (by decide +kernel) (by exact Nat.le_of_ble_eq_true rfl) ?_
  show zB mX8_plays _ _ _ 0 [some (.ref 47), some (.int (nI p)), some (.int (nI i))] [] _
  refine zj_iload_n dX8_plays_0 (by rfl) ?_
  refine zc_8_103 rfl dX8_plays_1 (m_isPhrase hp) (by exact Nat.le_of_ble_eq_true rfl) ?_
  refine zj_if_eq (tgt := 11) dX8_plays_4 (by decide) (fun zq => absurd zq (by decide)) (fun _ => ?_)
  refine zj_iload_n dX8_plays_7 (by rfl) ?_
  refine zj_if_geN (tgt := 14) dX8_plays_8 (by decide) (by omega) ?_
  refine zj_aload_n dX8_plays_14 (by rfl) ?_
  refine zg_8_19 rfl dX8_plays_15 (by first | assumption | rfl) (by rfl) ?_
  refine zj_iload_n dX8_plays_18 (by rfl) ?_
  refine zj_ialdN dX8_plays_19 (by first | assumption | rfl) (by omega) ?_
  rw [q51]
  refine zj_if_neN (tgt := 26) dX8_plays_20 (by decide) (by omega) (fun zq => absurd (rfl) zq) (fun _ => ?_)
  refine zj_ldc (v := -1000000002) dX8_plays_23 zq_708 ?_
  refine zj_iret dX8_plays_25 rfl (Nat.le_refl _) (Nat.le_refl _) ?_
  exact ⟨rfl, rfl⟩
theorem m_playsC (w : WF C P S T H O g) (r : RM h C P S T H O g) {i : Nat} (hp : p < 6) (hi : i < 2 ^ 31) (he : ¬ (P p).length = 0) (hl : ¬ i < (P p).length) : zD mX8_plays (d + 3) [.ref 47, .int (nI p), .int (nI i)] h (some (.int (-1000000001))) h := by
  obtain ⟨m47, m48, m49, m50, m51, m52, m53, m54, m55, m56, m57, m58, m59, m60, m61, m62, m63⟩ := id r
  obtain ⟨rd, wr, hw, o0⟩ := m47
  obtain ⟨fS, a51, q51⟩ := m51
  have l2 := (w.2.1 p hp).1
  refine zD_of (by decide +kernel) (by exact Nat.le_of_ble_eq_true rfl) ?_
  show zB mX8_plays _ _ _ 0 [some (.ref 47), some (.int (nI p)), some (.int (nI i))] [] _
  refine zj_iload_n dX8_plays_0 (by rfl) ?_
  refine zc_8_103 rfl dX8_plays_1 (m_isPhrase hp) (by exact Nat.le_of_ble_eq_true rfl) ?_
  refine zj_if_eq (tgt := 11) dX8_plays_4 (by decide) (fun zq => absurd zq (by decide)) (fun _ => ?_)
  refine zj_iload_n dX8_plays_7 (by rfl) ?_
  refine zj_if_geN (tgt := 14) dX8_plays_8 (by decide) (by omega) ?_
  refine zj_aload_n dX8_plays_14 (by rfl) ?_
  refine zg_8_19 rfl dX8_plays_15 (by first | assumption | rfl) (by rfl) ?_
  refine zj_iload_n dX8_plays_18 (by rfl) ?_
  refine zj_ialdN dX8_plays_19 (by first | assumption | rfl) (by omega) ?_
  rw [q51 p hp]
  refine zj_if_neN (tgt := 26) dX8_plays_20 (by decide) (by omega) (fun _ => ?_) (fun zq => absurd zq (he))
  refine zj_iload_n dX8_plays_26 (by rfl) ?_
  refine zj_aload_n dX8_plays_27 (by rfl) ?_
  refine zg_8_19 rfl dX8_plays_28 (by first | assumption | rfl) (by rfl) ?_
  refine zj_iload_n dX8_plays_31 (by rfl) ?_
  refine zj_ialdN dX8_plays_32 (by first | assumption | rfl) (by omega) ?_
  rw [q51 p hp]
  refine zj_icmp_ltN (tgt := 39) dX8_plays_33 (by decide) (by omega) (fun zq => absurd zq (by omega)) (fun _ => ?_)
  refine zj_ldc (v := -1000000001) dX8_plays_36 zq_686 ?_
  refine zj_iret dX8_plays_38 rfl (Nat.le_refl _) (Nat.le_refl _) ?_
  exact ⟨rfl, rfl⟩
theorem m_plays (w : WF C P S T H O g) (r : RM h C P S T H O g) {i : Nat} (hp : p < 6) (hl : i < (P p).length) : ∃ h', zD mX8_plays (d + 3) [.ref 47, .int (nI p), .int (nI i)] h (some (.int (if s_us (s_U H (fun j => (P p).getD j 0)) (P p).length (i + 1) = 0 then -1000000005 else nI (s_us (s_U H (fun j => (P p).getD j 0)) (P p).length (i + 1) - 1)))) h' ∧ RM h' C P S T H O g ∧ zEq 0 46 h h' := by
  obtain ⟨m47, m48, m49, m50, m51, m52, m53, m54, m55, m56, m57, m58, m59, m60, m61, m62, m63⟩ := id r
  obtain ⟨rd, wr, hw, o0⟩ := m47
  obtain ⟨fS, a51, q51⟩ := m51
  have l2 := (w.2.1 p hp).1
  have h8 : ∀ i, (fun j => (P p).getD j 0) i ≤ 8 := fun i => s_getD_le (w.2.1 p hp).2
  obtain ⟨h1, ⟨r1, ⟨pl, a63, hpl⟩, e1⟩, hF⟩ := m_findPlay (d := d) w r hp (by omega)
  refine ⟨h1, ?_, r1, e1⟩
  obtain ⟨⟨rd1, wr1, hw1, o1⟩, -⟩ := id r1
  have e1 := hpl i hl
  have hb := s_lp_le (n := (P p).length) w.2.2.2.2.1 h8 (i + 1)
  have hu := s_lp_us (n := (P p).length) w.2.2.2.2.1 h8 (i + 1)
  rw [← hu]
  generalize s_lp H (fun j => (P p).getD j 0) (P p).length (i + 1) = x at *
  have hx : (if s_ph x = 0 then (-1000000005 : Int32) else nI (s_ph x - 1)) = if x = 4 then -1000000005 else nI x := by
    unfold s_ph
    by_cases hq : x = 4
    · rw [if_pos hq, if_pos rfl, if_pos hq]
    · rw [if_neg hq, if_neg (by omega), if_neg hq, Nat.add_sub_cancel]
  rw [hx]
  refine zD_of (by decide +kernel) (by exact Nat.le_of_ble_eq_true rfl) ?_
  show zB mX8_plays _ _ _ 0 [some (.ref 47), some (.int (nI p)), some (.int (nI i))] [] _
  refine zj_iload_n dX8_plays_0 (by rfl) ?_
  refine zc_8_103 rfl dX8_plays_1 (m_isPhrase hp) (by exact Nat.le_of_ble_eq_true rfl) ?_
  refine zj_if_eq (tgt := 11) dX8_plays_4 (by decide) (fun zq => absurd zq (by decide)) (fun _ => ?_)
  refine zj_iload_n dX8_plays_7 (by rfl) ?_
  refine zj_if_geN (tgt := 14) dX8_plays_8 (by decide) (by omega) ?_
  refine zj_aload_n dX8_plays_14 (by rfl) ?_
  refine zg_8_19 rfl dX8_plays_15 (by first | assumption | rfl) (by rfl) ?_
  refine zj_iload_n dX8_plays_18 (by rfl) ?_
  refine zj_ialdN dX8_plays_19 (by first | assumption | rfl) (by omega) ?_
  rw [q51 p hp]
  refine zj_if_neN (tgt := 26) dX8_plays_20 (by decide) (by omega) (fun _ => ?_) (fun zq => absurd zq (by omega))
  refine zj_iload_n dX8_plays_26 (by rfl) ?_
  refine zj_aload_n dX8_plays_27 (by rfl) ?_
  refine zg_8_19 rfl dX8_plays_28 (by first | assumption | rfl) (by rfl) ?_
  refine zj_iload_n dX8_plays_31 (by rfl) ?_
  refine zj_ialdN dX8_plays_32 (by first | assumption | rfl) (by omega) ?_
  rw [q51 p hp]
  refine zj_icmp_ltN (tgt := 39) dX8_plays_33 (by decide) (by omega) (fun _ => ?_) (fun zq => absurd (hl) zq)
  refine zj_aload_n dX8_plays_39 (by rfl) ?_
  refine zj_iload_n dX8_plays_40 (by rfl) ?_
  refine zc_8_172 rfl dX8_plays_41 (by first | assumption | rfl) hF (by exact Nat.le_of_ble_eq_true rfl) ?_
  refine zj_aload_n dX8_plays_44 (by rfl) ?_
  refine zg_8_60 rfl dX8_plays_45 (by first | assumption | rfl) (by rfl) ?_
  refine zj_iload_n dX8_plays_48 (by rfl) ?_
  refine zj_ialdN dX8_plays_49 (by first | assumption | rfl) (by omega) ?_
  rw [e1]
  refine zj_iconst (v := nI 4) dX8_plays_50 (by decide) ?_
  refine zj_icmp_neN (tgt := 59) dX8_plays_51 (by decide) (by omega) (fun q51 => ?_) (fun q51 => ?_)
  · refine zj_aload_n dX8_plays_59 (by rfl) ?_
    refine zg_8_60 rfl dX8_plays_60 (by first | assumption | rfl) (by rfl) ?_
    refine zj_iload_n dX8_plays_63 (by rfl) ?_
    refine zj_ialdN dX8_plays_64 (by first | assumption | rfl) (by omega) ?_
    rw [e1]
    refine zj_iret dX8_plays_65 rfl (Nat.le_refl _) (Nat.le_refl _) ?_
    exact ⟨by first | (rw [if_pos (by omega)]; done) | (rw [if_neg (by omega)]; done), rfl⟩
  · refine zj_ldc (v := -1000000005) dX8_plays_54 zq_744 ?_
    refine zj_goto (tgt := 65) dX8_plays_56 (by decide) ?_
    refine zj_iret dX8_plays_65 rfl (Nat.le_refl _) (Nat.le_refl _) ?_
    exact ⟨by first | (rw [if_pos (by omega)]; done) | (rw [if_neg (by omega)]; done), rfl⟩
end MP
