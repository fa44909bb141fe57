section MQ5
variable {h h1 : zH} {C : Nat → List (Nat × Nat)} {P : Nat → List Nat} {S : Nat → Option (List Int32)} {T : List Nat} {H : Nat → Nat} {O : List (Nat × Nat)} {g d p : Nat} {F0 : Nat → Int32} {R : Option Value}
theorem rh_0 {pn tn : Nat} {rd wr : Int32} (a59 : h[59]? = some (.inl (1, 60, .inl F0))) : (h.set 47 (.inr (8, (s_mo g pn tn rd wr).set 14 (.int (nI 0))))).set 47 (.inr (8, ((s_mo g pn tn rd wr).set 14 (.int (nI 0))).set 15 (.int (nI 0)))) = s_rh h g pn tn 0 0 F0 := by
  unfold s_rh
  rw [List.set_set]
  exact (zset_id (h := h.set 47 _) (zset_ne (by decide) a59)).symm
theorem RB_of (w : WF C P S T H O g) (r : RM h C P S T H O g) : s_RB h T := by
  obtain ⟨m47, m48, m49, m50, m51, m52, m53, m54, m55, m56, m57, m58, m59, m60, m61, m62, m63⟩ := r
  obtain ⟨rd, wr, hw, o0⟩ := m47
  obtain ⟨f, a56, q56⟩ := m56
  obtain ⟨F, a59, -⟩ := m59
  exact ⟨⟨_, o0⟩, ⟨F, a59⟩, ⟨f, a56, q56⟩, w.2.2.2.1.1, w.2.2.2.1.2⟩
theorem RM_rh {j : Nat} {wr : Int32} {F' : Nat → Int32} (hwr : wr = 0 ∨ wr = 1) (r : RM h C P S T H O g) : RM (s_rh h g O.length 0 j wr F') C P S [] H O g ∧ zEq 0 46 h (s_rh h g O.length 0 j wr F') := by
  obtain ⟨m47, m48, m49, m50, m51, m52, m53, m54, m55, m56, m57, m58, m59, m60, m61, m62, m63⟩ := r
  obtain ⟨rd, wr0, hw, o0⟩ := id m47
  obtain ⟨f, a56, q56⟩ := id m56
  obtain ⟨F, a59, -⟩ := id m59
  have e : ∀ j2, (¬ j2 = 47 ∧ ¬ j2 = 59) → (s_rh h g O.length 0 j wr F')[j2]? = h[j2]? := fun j2 hj => by
    unfold s_rh
    rw [List.getElem?_set, if_neg (fun x => hj.2 x.symm), List.getElem?_set, if_neg (fun x => hj.1 x.symm)]
  exact ⟨⟨⟨_, wr, hwr, zset_ne (by decide) (zset_eq o0)⟩, RA_e (e 48 (by decide)) m48, RA_e (e 49 (by decide)) m49, RA_e (e 50 (by decide)) m50, RA_e (e 51 (by decide)) m51, RA_e (e 52 (by decide)) m52, RA_e (e 53 (by decide)) m53, RA_e (e 54 (by decide)) m54, RA_e (e 55 (by decide)) m55, ⟨f, (e 56 (by decide)).trans a56, fun j hj => absurd hj (Nat.not_lt_zero _)⟩, RA_e (e 57 (by decide)) m57, RA_e (e 58 (by decide)) m58, ⟨F', zset_eq (zset_ne (by decide) a59), trivial⟩, RJ_e (e 60 (by decide)) m60, RA_e (e 61 (by decide)) m61, RA_e (e 62 (by decide)) m62, RA_e (e 63 (by decide)) m63⟩, fun j h1 h2 => e j (by omega)⟩
theorem m_ph0 (w : WF C P S T H O g) (r : RM h C P S T H O g) : ∃ F j wr v F', s_RR T 0 0 0 F j wr v F' ∧ ∀ p R h1, zB mX8_phrase (d + 15) R h1 52 [some (.ref 47), some (.int p), some (.int (nI v)), some (.int (if wr = 0 ∧ j = T.length then nI 1 else nI 0)), some (.int (nI j)), none] [] (s_rh h g O.length 0 j wr F') → zD mX8_phrase (d + 15) [.ref 47, .int p] h R h1 := by
  have b := RB_of w r
  obtain ⟨m47, m48, m49, m50, m51, m52, m53, m54, m55, m56, m57, m58, m59, m60, m61, m62, m63⟩ := id r
  obtain ⟨rd, wr0, hw, o0⟩ := m47
  obtain ⟨F, a59, -⟩ := m59
  have h60 := w.2.2.2.1.1
  obtain ⟨j, wr, v, F', hRR, hZ⟩ := m_row (d := d) (g := g) (pn := O.length) b 6 0 0 0 F rfl (Nat.zero_le _) (Nat.zero_le _)
  have hj : j ≤ T.length := by
    rcases hRR with ⟨-, -, hj, -⟩ | ⟨-, x, hgd, -⟩
    · exact hj
    · exact hgd.2.1
  have hwr : wr = 0 ∨ wr = 1 := by
    rcases hRR with ⟨e, -⟩ | ⟨e, -⟩
    · exact Or.inr e
    · exact Or.inl e
  refine ⟨F, j, wr, v, F', hRR, fun p R h1 hJ => ?_⟩
  have k47 : ∀ A, (h.set 47 A)[47]? = some A := fun A => zset_eq o0
  rcases hwr with rfl | rfl
  · by_cases hjn : j = T.length
    · rw [if_pos ⟨rfl, hjn⟩] at hJ
      refine zD_of (by decide +kernel) (by exact Nat.le_of_ble_eq_true rfl) ?_
      show zB mX8_phrase _ _ _ 0 [some (.ref 47), some (.int p), none, none, none, none] [] _
      refine zj_aload_n dX8_phrase_0 (by rfl) ?_
      refine zj_iconst (v := nI 0) dX8_phrase_1 (by decide) ?_
      refine zp_8_85 rfl dX8_phrase_2 (by first | exact o0 | exact rh47 b | exact k47 _) (by exact Nat.le_of_ble_eq_true rfl) ?_
      refine zj_aload_n dX8_phrase_5 (by rfl) ?_
      refine zj_iconst (v := nI 0) dX8_phrase_6 (by decide) ?_
      refine zp_8_96 rfl dX8_phrase_7 (k47 _) (by exact Nat.le_of_ble_eq_true rfl) (Or.inl rfl) ?_
      rw [rh_0 a59]
      refine zj_aload_n dX8_phrase_10 (by rfl) ?_
      refine zj_iconst (v := nI 0) dX8_phrase_11 (by decide) ?_
      refine zj_iconst (v := nI 0) dX8_phrase_12 (by decide) ?_
      refine zc_8_92 rfl dX8_phrase_13 (by first | exact o0 | exact rh47 b | exact k47 _) hZ (by exact Nat.le_of_ble_eq_true rfl) ?_
      refine zj_istore_n dX8_phrase_16 (by decide) ?_
      refine zj_aload_n dX8_phrase_17 (by rfl) ?_
      refine zg_8_96 rfl dX8_phrase_18 (by first | exact o0 | exact rh47 b | exact k47 _) (by rfl) ?_
      refine zj_if_ne (tgt := 39) dX8_phrase_21 (by decide) (fun zq => absurd (rfl) zq) (fun _ => ?_)
      refine zj_aload_n dX8_phrase_24 (by rfl) ?_
      refine zg_8_85 rfl dX8_phrase_25 (by first | exact o0 | exact rh47 b | exact k47 _) (by rfl) ?_
      refine zj_aload_n dX8_phrase_28 (by rfl) ?_
      refine zg_8_78 rfl dX8_phrase_29 (by first | exact o0 | exact rh47 b | exact k47 _) (by rfl) ?_
      refine zj_icmp_neN (tgt := 39) dX8_phrase_32 (by decide) (by omega) (fun zq => absurd (by omega) zq) (fun _ => ?_)
      refine zj_iconst (v := nI 1) dX8_phrase_35 (by decide) ?_
      refine zj_goto (tgt := 40) dX8_phrase_36 (by decide) ?_
      refine zj_istore_n dX8_phrase_40 (by decide) ?_
      refine zj_aload_n dX8_phrase_41 (by rfl) ?_
      refine zg_8_85 rfl dX8_phrase_42 (by first | exact o0 | exact rh47 b | exact k47 _) (by rfl) ?_
      refine zj_istore dX8_phrase_45 (by decide) ?_
      refine zj_aload_n dX8_phrase_47 (by rfl) ?_
      refine zj_iconst (v := nI 0) dX8_phrase_48 (by decide) ?_
      refine zp_8_78 rfl dX8_phrase_49 (rh47 b) (by exact Nat.le_of_ble_eq_true rfl) ?_
      rw [rh_t]
      exact hJ
    · rw [if_neg (fun x => hjn x.2)] at hJ
      refine zD_of (by decide +kernel) (by exact Nat.le_of_ble_eq_true rfl) ?_
      show zB mX8_phrase _ _ _ 0 [some (.ref 47), some (.int p), none, none, none, none] [] _
      refine zj_aload_n dX8_phrase_0 (by rfl) ?_
      refine zj_iconst (v := nI 0) dX8_phrase_1 (by decide) ?_
      refine zp_8_85 rfl dX8_phrase_2 (by first | exact o0 | exact rh47 b | exact k47 _) (by exact Nat.le_of_ble_eq_true rfl) ?_
      refine zj_aload_n dX8_phrase_5 (by rfl) ?_
      refine zj_iconst (v := nI 0) dX8_phrase_6 (by decide) ?_
      refine zp_8_96 rfl dX8_phrase_7 (k47 _) (by exact Nat.le_of_ble_eq_true rfl) (Or.inl rfl) ?_
      rw [rh_0 a59]
      refine zj_aload_n dX8_phrase_10 (by rfl) ?_
      refine zj_iconst (v := nI 0) dX8_phrase_11 (by decide) ?_
      refine zj_iconst (v := nI 0) dX8_phrase_12 (by decide) ?_
      refine zc_8_92 rfl dX8_phrase_13 (by first | exact o0 | exact rh47 b | exact k47 _) hZ (by exact Nat.le_of_ble_eq_true rfl) ?_
      refine zj_istore_n dX8_phrase_16 (by decide) ?_
      refine zj_aload_n dX8_phrase_17 (by rfl) ?_
      refine zg_8_96 rfl dX8_phrase_18 (by first | exact o0 | exact rh47 b | exact k47 _) (by rfl) ?_
      refine zj_if_ne (tgt := 39) dX8_phrase_21 (by decide) (fun zq => absurd (rfl) zq) (fun _ => ?_)
      refine zj_aload_n dX8_phrase_24 (by rfl) ?_
      refine zg_8_85 rfl dX8_phrase_25 (by first | exact o0 | exact rh47 b | exact k47 _) (by rfl) ?_
      refine zj_aload_n dX8_phrase_28 (by rfl) ?_
      refine zg_8_78 rfl dX8_phrase_29 (by first | exact o0 | exact rh47 b | exact k47 _) (by rfl) ?_
      refine zj_icmp_neN (tgt := 39) dX8_phrase_32 (by decide) (by omega) (fun _ => ?_) (fun zq => absurd zq (by omega))
      refine zj_iconst (v := nI 0) dX8_phrase_39 (by decide) ?_
      refine zj_istore_n dX8_phrase_40 (by decide) ?_
      refine zj_aload_n dX8_phrase_41 (by rfl) ?_
      refine zg_8_85 rfl dX8_phrase_42 (by first | exact o0 | exact rh47 b | exact k47 _) (by rfl) ?_
      refine zj_istore dX8_phrase_45 (by decide) ?_
      refine zj_aload_n dX8_phrase_47 (by rfl) ?_
      refine zj_iconst (v := nI 0) dX8_phrase_48 (by decide) ?_
      refine zp_8_78 rfl dX8_phrase_49 (rh47 b) (by exact Nat.le_of_ble_eq_true rfl) ?_
      rw [rh_t]
      exact hJ
  · rw [if_neg (fun x => absurd x.1 (by decide))] at hJ
    refine zD_of (by decide +kernel) (by exact Nat.le_of_ble_eq_true rfl) ?_
    show zB mX8_phrase _ _ _ 0 [some (.ref 47), some (.int p), none, none, none, none] [] _
    refine zj_aload_n dX8_phrase_0 (by rfl) ?_
    refine zj_iconst (v := nI 0) dX8_phrase_1 (by decide) ?_
    refine zp_8_85 rfl dX8_phrase_2 (by first | exact o0 | exact rh47 b | exact k47 _) (by exact Nat.le_of_ble_eq_true rfl) ?_
    refine zj_aload_n dX8_phrase_5 (by rfl) ?_
    refine zj_iconst (v := nI 0) dX8_phrase_6 (by decide) ?_
    refine zp_8_96 rfl dX8_phrase_7 (k47 _) (by exact Nat.le_of_ble_eq_true rfl) (Or.inl rfl) ?_
    rw [rh_0 a59]
    refine zj_aload_n dX8_phrase_10 (by rfl) ?_
    refine zj_iconst (v := nI 0) dX8_phrase_11 (by decide) ?_
    refine zj_iconst (v := nI 0) dX8_phrase_12 (by decide) ?_
    refine zc_8_92 rfl dX8_phrase_13 (by first | exact o0 | exact rh47 b | exact k47 _) hZ (by exact Nat.le_of_ble_eq_true rfl) ?_
    refine zj_istore_n dX8_phrase_16 (by decide) ?_
    refine zj_aload_n dX8_phrase_17 (by rfl) ?_
    refine zg_8_96 rfl dX8_phrase_18 (by first | exact o0 | exact rh47 b | exact k47 _) (by rfl) ?_
    refine zj_if_ne (tgt := 39) dX8_phrase_21 (by decide) (fun _ => ?_) (fun zq => absurd zq (by decide))
    refine zj_iconst (v := nI 0) dX8_phrase_39 (by decide) ?_
    refine zj_istore_n dX8_phrase_40 (by decide) ?_
    refine zj_aload_n dX8_phrase_41 (by rfl) ?_
    refine zg_8_85 rfl dX8_phrase_42 (by first | exact o0 | exact rh47 b | exact k47 _) (by rfl) ?_
    refine zj_istore dX8_phrase_45 (by decide) ?_
    refine zj_aload_n dX8_phrase_47 (by rfl) ?_
    refine zj_iconst (v := nI 0) dX8_phrase_48 (by decide) ?_
    refine zp_8_78 rfl dX8_phrase_49 (rh47 b) (by exact Nat.le_of_ble_eq_true rfl) ?_
    rw [rh_t]
    exact hJ
theorem m_phraseA (w : WF C P S T H O g) (r : RM h C P S T H O g) {p : Int32} (hp : p < 0 ∨ 6 ≤ p) : ∃ h', zD mX8_phrase (d + 15) [.ref 47, .int p] h (some (.int (-1000000001))) h' ∧ RM h' C P S [] H O g ∧ zEq 0 46 h h' := by
  obtain ⟨F, j, wr, v, F', hRR, hJ⟩ := m_ph0 (d := d) w r
  have hwr : wr = 0 ∨ wr = 1 := by
    rcases hRR with ⟨e, -⟩ | ⟨e, -⟩
    · exact Or.inr e
    · exact Or.inl e
  obtain ⟨r1, z1⟩ := RM_rh (j := j) (F' := F') hwr r
  refine ⟨_, hJ _ _ _ ?_, r1, z1⟩
  refine zj_iload_n dX8_phrase_52 (by rfl) ?_
  refine zc_8_103 rfl dX8_phrase_53 (m_isPhraseN hp) (by exact Nat.le_of_ble_eq_true rfl) ?_
  refine zj_if_ne (tgt := 62) dX8_phrase_56 (by decide) (fun zq => absurd (rfl) zq) (fun _ => ?_)
  refine zj_ldc (v := -1000000001) dX8_phrase_59 zq_686 ?_
  refine zj_iret dX8_phrase_61 rfl (Nat.le_refl _) (Nat.le_refl _) ?_
  exact ⟨rfl, rfl⟩
theorem m_phraseF (w : WF C P S T H O g) (r : RM h C P S T H O g) {i : Nat} (hp : p < 6) (hf : s_fp (fun j => T.getD j 0) T.length 0 0 true = some i) : ∃ h', zD mX8_phrase (d + 15) [.ref 47, .int (nI p)] h (some (.int ((-100) - nI i))) h' ∧ RM h' C P S [] H O g ∧ zEq 0 46 h h' := by
  obtain ⟨F, j, wr, v, F', hRR, hJ⟩ := m_ph0 (d := d) w r
  have hwr : wr = 0 ∨ wr = 1 := by
    rcases hRR with ⟨e, -⟩ | ⟨e, -⟩
    · exact Or.inr e
    · exact Or.inl e
  obtain ⟨r1, z1⟩ := RM_rh (j := j) (F' := F') hwr r
  have key : ¬ (wr = 0 ∧ j = T.length) ∧ i = j := by
    rcases hRR with ⟨rfl, -, -, hfp⟩ | ⟨rfl, x, hgd, -, -, hnb⟩
    · rw [Nat.sub_zero, hf] at hfp
      exact ⟨fun x => absurd x.1 (by decide), Option.some.inj hfp⟩
    · by_cases hjn : j = T.length
      · have := (gd_end hgd hjn).1
        rw [hf] at this
        cases this
      · have hjl := hgd.2.1
        have := gd_fault hgd (by omega) (hnb (by omega))
        rw [hf] at this
        exact ⟨fun x => hjn x.2, Option.some.inj this⟩
  rw [if_neg key.1] at hJ
  rw [key.2]
  refine ⟨_, hJ _ _ _ ?_, r1, z1⟩
  refine zj_iload_n dX8_phrase_52 (by rfl) ?_
  refine zc_8_103 rfl dX8_phrase_53 (m_isPhrase hp) (by exact Nat.le_of_ble_eq_true rfl) ?_
  refine zj_if_ne (tgt := 62) dX8_phrase_56 (by decide) (fun _ => ?_) (fun zq => absurd zq (by decide))
  refine zj_iload_n dX8_phrase_62 (by rfl) ?_
  refine zj_if_neN (tgt := 72) dX8_phrase_63 (by decide) (by omega) (fun zq => absurd (by omega) zq) (fun _ => ?_)
  refine zj_bipush (v := (-100)) dX8_phrase_66 (by decide) ?_
  refine zj_iload dX8_phrase_68 (by rfl) ?_
  refine zj_isub dX8_phrase_70 ?_
  refine zj_iret dX8_phrase_71 rfl (Nat.le_refl _) (Nat.le_refl _) ?_
  exact ⟨rfl, rfl⟩
theorem m_ph_g (w : WF C P S T H O g) {j : Nat} {wr : Int32} {v : Nat} {F F' : Nat → Int32} (hRR : s_RR T 0 0 0 F j wr v F') (hf : s_fp (fun j => T.getD j 0) T.length 0 0 true = none) : wr = 0 ∧ j = T.length ∧ ∃ x : List Nat, v = min x.length 1000 ∧ s_wr F F' 0 x ∧ s_sp (fun j => T.getD j 0) T.length 0 [] 1 [] = if x.length ≤ 60 then some x else none := by
  rcases hRR with ⟨rfl, -, -, hfp⟩ | ⟨rfl, x, hgd, hv, hw, hnb⟩
  · rw [Nat.sub_zero, hf] at hfp
    cases hfp
  · by_cases hjn : j = T.length
    · exact ⟨rfl, hjn, x, hv, hw, (gd_end hgd hjn).2⟩
    · have hjl := hgd.2.1
      have := gd_fault hgd (by omega) (hnb (by omega))
      rw [hf] at this
      cases this
theorem m_phraseN (w : WF C P S T H O g) (r : RM h C P S T H O g) (hp : p < 6) (hf : s_fp (fun j => T.getD j 0) T.length 0 0 true = none) (hsp : s_sp (fun j => T.getD j 0) T.length 0 [] 1 [] = none) : ∃ h', zD mX8_phrase (d + 15) [.ref 47, .int (nI p)] h (some (.int (-1000000003))) h' ∧ RM h' C P S [] H O g ∧ zEq 0 46 h h' := by
  obtain ⟨F, j, wr, v, F', hRR, hJ⟩ := m_ph0 (d := d) w r
  obtain ⟨rfl, hj, x, rfl, hw, hx⟩ := m_ph_g w hRR hf
  obtain ⟨r1, z1⟩ := RM_rh (j := j) (F' := F') (Or.inl rfl) r
  rw [if_pos ⟨rfl, hj⟩] at hJ
  rw [hsp] at hx
  have hl : ¬ x.length ≤ 60 := fun y => by rw [if_pos y] at hx; cases hx
  refine ⟨_, hJ _ _ _ ?_, r1, z1⟩
  refine zj_iload_n dX8_phrase_52 (by rfl) ?_
  refine zc_8_103 rfl dX8_phrase_53 (m_isPhrase hp) (by exact Nat.le_of_ble_eq_true rfl) ?_
  refine zj_if_ne (tgt := 62) dX8_phrase_56 (by decide) (fun _ => ?_) (fun zq => absurd zq (by decide))
  refine zj_iload_n dX8_phrase_62 (by rfl) ?_
  refine zj_if_neN (tgt := 72) dX8_phrase_63 (by decide) (by omega) (fun _ => ?_) (fun zq => absurd zq (by omega))
  refine zj_iload_n dX8_phrase_72 (by rfl) ?_
  refine zj_bipush (v := nI 60) dX8_phrase_73 (by decide) ?_
  refine zj_icmp_leN (tgt := 81) dX8_phrase_75 (by decide) (by omega) (fun zq => absurd zq (by omega)) (fun _ => ?_)
  refine zj_ldc (v := -1000000003) dX8_phrase_78 zq_687 ?_
  refine zj_iret dX8_phrase_80 rfl (Nat.le_refl _) (Nat.le_refl _) ?_
  exact ⟨rfl, rfl⟩
theorem m_ph_l {n : Nat} {v4 v3 : Int32} {F' f2 : Nat → Int32} {mo : List Value} (hp : p < 6) (hn : n ≤ 60) (o0 : h[47]? = some (.inr (8, mo))) (m4 : mo[4]? = some (.ref 52)) (m16 : mo[16]? = some (.ref 59)) (a59 : h[59]? = some (.inl (1, 60, .inl F'))) (a52 : h[52]? = some (.inl (1, 360, .inl f2))) : ∀ m i f, i + m = n → (∀ q, q < i → f (60 * p + q) = F' q) → (∀ q, (q < 60 * p ∨ 60 * p + 60 ≤ q) → f q = f2 q) → ∃ f', (∀ q, q < n → f' (60 * p + q) = F' q) ∧ (∀ q, (q < 60 * p ∨ 60 * p + 60 ≤ q) → f' q = f2 q) ∧ zB mX8_phrase (d + 15) (some (.int (nI n))) (h.set 52 (.inl (1, 360, .inl f'))) 91 [some (.ref 47), some (.int (nI p)), some (.int (nI n)), some (.int v3), some (.int v4), some (.int (nI i))] [] (h.set 52 (.inl (1, 360, .inl f))) := by
  have k47 : ∀ A, (h.set 52 A)[47]? = some (.inr (8, mo)) := fun A => zset_ne (by decide) o0
  have k59 : ∀ A, (h.set 52 A)[59]? = some (.inl (1, 60, .inl F')) := fun A => zset_ne (by decide) a59
  have k52 : ∀ A, (h.set 52 A)[52]? = some A := fun A => zset_eq a52
  intro m
  induction m with
  | zero =>
    intro i f hi h1 h2
    refine ⟨f, fun q hq => h1 q (by omega), h2, ?_⟩
    refine zj_iload dX8_phrase_91 (by rfl) ?_
    refine zj_iload_n dX8_phrase_93 (by rfl) ?_
    refine zj_icmp_geN (tgt := 122) dX8_phrase_94 (by decide) (by omega) (fun _ => ?_) (fun zq => absurd (by omega) zq)
    refine zj_iload_n dX8_phrase_122 (by rfl) ?_
    refine zj_iret dX8_phrase_123 rfl (Nat.le_refl _) (Nat.le_refl _) ?_
    exact ⟨rfl, rfl⟩
  | succ m ih =>
    intro i f hi h1 h2
    obtain ⟨f', a1, a2, hJ⟩ := ih (i + 1) (upd f (60 * p + i) (F' i)) (by omega) (fun q hq => by
      by_cases e : q = i
      · subst e; rw [pk_us]
      · rw [pk_un (by omega)]; exact h1 q (by omega)) (fun q hq => by rw [pk_un (by omega)]; exact h2 q hq)
    refine ⟨f', a1, a2, ?_⟩
    refine zj_iload dX8_phrase_91 (by rfl) ?_
    refine zj_iload_n dX8_phrase_93 (by rfl) ?_
    refine zj_icmp_geN (tgt := 122) dX8_phrase_94 (by decide) (by omega) (fun zq => absurd zq (by omega)) (fun _ => ?_)
    refine zj_aload_n dX8_phrase_97 (by rfl) ?_
    refine zg_8_22 rfl dX8_phrase_98 (k47 _) m4 ?_
    refine zj_bipush (v := nI 60) dX8_phrase_101 (by decide) ?_
    refine zj_iload_n dX8_phrase_103 (by rfl) ?_
    refine zj_imulN dX8_phrase_104 ?_
    refine zj_iload dX8_phrase_105 (by rfl) ?_
    refine zj_iaddN dX8_phrase_107 ?_
    refine zj_aload_n dX8_phrase_108 (by rfl) ?_
    refine zg_8_47 rfl dX8_phrase_109 (k47 _) m16 ?_
    refine zj_iload dX8_phrase_112 (by rfl) ?_
    refine zj_ialdN dX8_phrase_114 (by first | exact k47 _ | exact k59 _ | exact k52 _) (by omega) ?_
    refine zj_iastN dX8_phrase_115 (by first | exact k47 _ | exact k59 _ | exact k52 _) (by omega) ?_
    rw [List.set_set]
    refine zj_iincN dX8_phrase_116 (by rfl) (by decide) ?_
    refine zj_goto (tgt := 91) dX8_phrase_119 (by decide) ?_
    exact hJ
theorem m_phrase (w : WF C P S T H O g) (r : RM h C P S T H O g) {l : List Nat} (hp : p < 6) (hf : s_fp (fun j => T.getD j 0) T.length 0 0 true = none) (hsp : s_sp (fun j => T.getD j 0) T.length 0 [] 1 [] = some l) : ∃ h', zD mX8_phrase (d + 15) [.ref 47, .int (nI p)] h (some (.int (nI l.length))) h' ∧ RM h' C (s_up P p l) S [] H O g ∧ zEq 0 46 h h' := by
  obtain ⟨F, j, wr, v, F', hRR, hJ⟩ := m_ph0 (d := d) w r
  obtain ⟨rfl, hj, x, rfl, hw, hx⟩ := m_ph_g w hRR hf
  obtain ⟨r1, z1⟩ := RM_rh (j := j) (F' := F') (Or.inl rfl) r
  rw [if_pos ⟨rfl, hj⟩] at hJ
  rw [hsp] at hx
  have hl : x.length ≤ 60 := Classical.byContradiction (fun y => by rw [if_neg y] at hx; cases hx)
  rw [if_pos hl] at hx
  obtain rfl : l = x := Option.some.inj hx
  have e60 : min l.length 1000 = l.length := by omega
  rw [e60] at hJ
  have b := RB_of w r
  obtain ⟨m47, m48, m49, m50, m51, m52, m53, m54, m55, m56, m57, m58, m59, m60, m61, m62, m63⟩ := r1
  obtain ⟨rd, wr, hwr, o0⟩ := id m47
  obtain ⟨fS, a51, q51⟩ := id m51
  obtain ⟨fD, a52, q52⟩ := id m52
  have k47 := rh47 (g := g) (pn := O.length) (tn := 0) (i := j) (wr := 0) (F := F') b
  have k59 := rh59 (g := g) (pn := O.length) (tn := 0) (i := j) (wr := 0) (F := F') b
  have o1 := zset_ne (o := 51) (c := .inl (1, 6, .inl (upd fS p (nI l.length)))) (by decide) k47
  have b2 := zset_ne (o := 51) (c := .inl (1, 6, .inl (upd fS p (nI l.length)))) (by decide) a52
  have b9 := zset_ne (o := 51) (c := .inl (1, 6, .inl (upd fS p (nI l.length)))) (by decide) k59
  obtain ⟨f', hf1, hf2, hJ2⟩ := m_ph_l (d := d) (n := l.length) (v4 := nI j) (v3 := nI 1) hp hl o1 rfl rfl b9 b2 l.length 0 fD (by omega) (fun q hq => by omega) (fun _ _ => rfl)
  rw [zset_id b2] at hJ2
  have e : ∀ j2, (¬ j2 = 51 ∧ ¬ j2 = 52) → (((s_rh h g O.length 0 j 0 F').set 51 (.inl (1, 6, .inl (upd fS p (nI l.length))))).set 52 (.inl (1, 360, .inl f')))[j2]? = (s_rh h g O.length 0 j 0 F')[j2]? := fun j2 hj => by
    rw [List.getElem?_set, if_neg (fun x => hj.2 x.symm), List.getElem?_set, if_neg (fun x => hj.1 x.symm)]
  refine ⟨_, hJ _ _ _ ?_, ⟨RO_e (e 47 (by decide)) m47, RA_e (e 48 (by decide)) m48, RA_e (e 49 (by decide)) m49, RA_e (e 50 (by decide)) m50, ⟨_, zset_ne (by decide) (zset_eq a51), ?_⟩, ⟨f', zset_eq b2, ?_⟩, RA_e (e 53 (by decide)) m53, RA_e (e 54 (by decide)) m54, RA_e (e 55 (by decide)) m55, RA_e (e 56 (by decide)) m56, RA_e (e 57 (by decide)) m57, RA_e (e 58 (by decide)) m58, RA_e (e 59 (by decide)) m59, RJ_e (e 60 (by decide)) m60, RA_e (e 61 (by decide)) m61, RA_e (e 62 (by decide)) m62, RA_e (e 63 (by decide)) m63⟩, zEq_tr z1 (fun j h1 h2 => e j (by omega))⟩
  · refine zj_iload_n dX8_phrase_52 (by rfl) ?_
    refine zc_8_103 rfl dX8_phrase_53 (m_isPhrase hp) (by exact Nat.le_of_ble_eq_true rfl) ?_
    refine zj_if_ne (tgt := 62) dX8_phrase_56 (by decide) (fun _ => ?_) (fun zq => absurd zq (by decide))
    refine zj_iload_n dX8_phrase_62 (by rfl) ?_
    refine zj_if_neN (tgt := 72) dX8_phrase_63 (by decide) (by omega) (fun _ => ?_) (fun zq => absurd zq (by omega))
    refine zj_iload_n dX8_phrase_72 (by rfl) ?_
    refine zj_bipush (v := nI 60) dX8_phrase_73 (by decide) ?_
    refine zj_icmp_leN (tgt := 81) dX8_phrase_75 (by decide) (by omega) (fun _ => ?_) (fun zq => absurd (by omega) zq)
    refine zj_aload_n dX8_phrase_81 (by rfl) ?_
    refine zg_8_19 rfl dX8_phrase_82 (by first | exact k47 | assumption) (by rfl) ?_
    refine zj_iload_n dX8_phrase_85 (by rfl) ?_
    refine zj_iload_n dX8_phrase_86 (by rfl) ?_
    refine zj_iastN dX8_phrase_87 (by first | exact k47 | assumption) (by omega) ?_
    refine zj_iconst (v := nI 0) dX8_phrase_88 (by decide) ?_
    refine zj_istore dX8_phrase_89 (by decide) ?_
    exact hJ2
  · intro i hi
    by_cases ei : i = p
    · subst ei; rw [pk_us, s_up_eq]
    · rw [pk_un ei, s_up_ne ei]; exact q51 i hi
  · intro i hi q hq
    by_cases ei : i = p
    · subst ei
      rw [s_up_eq] at hq ⊢
      rw [hf1 q hq]
      have := hw.2 q hq (by omega)
      rw [Nat.zero_add] at this
      exact this
    · rw [s_up_ne ei] at hq ⊢
      have h60 := (w.2.1 i hi).1
      rw [hf2 _ (by omega)]
      exact q52 i hi q hq
end MQ5
