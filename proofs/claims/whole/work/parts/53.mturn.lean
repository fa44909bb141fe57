section MT
variable {h h' : zH} {C : Nat → List (Nat × Nat)} {P : Nat → List Nat} {S : Nat → Option (List Int32)} {T : List Nat} {H : Nat → Nat} {O : List (Nat × Nat)} {g d p s : Nat} {l : List Int32}
theorem RM_6061 {w0 w2 : Nat → Int64} {f f2 : Nat → Int32} (r : RM h C P S T H O g) (a : h[60]? = some (.inl (2, 61, .inr (.inl w0)))) (b : h[61]? = some (.inl (1, 61, .inl f))) : RM ((h.set 60 (.inl (2, 61, .inr (.inl w2)))).set 61 (.inl (1, 61, .inl f2))) C P S T H O g := by
  obtain ⟨m47, m48, m49, m50, m51, m52, m53, m54, m55, m56, m57, m58, m59, m60, m61, m62, m63⟩ := r
  have e : ∀ j, ¬ j = 60 ∧ ¬ j = 61 → ((h.set 60 (.inl (2, 61, .inr (.inl w2)))).set 61 (.inl (1, 61, .inl f2)))[j]? = h[j]? := fun j hj => by
    rw [List.getElem?_set, if_neg (fun x => hj.2 x.symm), List.getElem?_set, if_neg (fun x => hj.1 x.symm)]
  exact ⟨RO_e (e 47 (by decide)) m47, RA_e (e 48 (by decide)) m48, RA_e (e 49 (by decide)) m49, RA_e (e 50 (by decide)) m50, RA_e (e 51 (by decide)) m51, RA_e (e 52 (by decide)) m52, RA_e (e 53 (by decide)) m53, RA_e (e 54 (by decide)) m54, RA_e (e 55 (by decide)) m55, RA_e (e 56 (by decide)) m56, RA_e (e 57 (by decide)) m57, RA_e (e 58 (by decide)) m58, RA_e (e 59 (by decide)) m59, ⟨w2, zset_ne (by decide) (zset_eq a)⟩, ⟨f2, zset_eq (zset_ne (by decide) b), trivial⟩, RA_e (e 62 (by decide)) m62, RA_e (e 63 (by decide)) m63⟩
theorem s_c60 {A B A2 : va_E} : ((h.set 60 A).set 61 B).set 60 A2 = (h.set 60 A2).set 61 B := by
  rw [List.set_comm _ _ (by decide), List.set_set]
theorem m_st_in (w : WF C P S T H O g) (r : RM h C P S T H O g) {a t q : Nat} {nn : Int32} {R : Option Value} {h1 : zH} (hp : p < 6) (hs : s < 2) (hl : S s = some l) (ht : t ≤ l.length) (hat : a < t) (hq : q + (t - a) ≤ (P p).length)
    (hK : ∀ o8, zB mX8_standsAt d R h1 85 [some (.ref 47), some (.int (nI p)), some (.int (nI s)), some (.int (nI a)), some (.int (nI t)), some (.int nn), some (.int (nI q)), some (.int (if s_mt (s_pf (P p)) (s_sg l) (t - a) q a = true then 1 else 0)), o8] [] h) : ∀ m i, i + m = t → a ≤ i → s_mt (s_pf (P p)) (s_sg l) m (q + (i - a)) i = s_mt (s_pf (P p)) (s_sg l) (t - a) q a → zB mX8_standsAt d R h1 28 [some (.ref 47), some (.int (nI p)), some (.int (nI s)), some (.int (nI a)), some (.int (nI t)), some (.int nn), some (.int (nI q)), some (.int 1), some (.int (nI i))] [] h := by
  obtain ⟨m47, m48, m49, m50, m51, m52, m53, m54, m55, m56, m57, m58, m59, m60, m61, m62, m63⟩ := id r
  obtain ⟨rd, wr, hw, o0⟩ := m47
  obtain ⟨f2, a52, q52⟩ := m52
  obtain ⟨f8, a58, q58⟩ := m58
  have l2 := (w.2.1 p hp).1
  have l3 := (w.2.2.1 s hs l hl).1
  intro m
  induction m with
  | zero =>
    intro i hi hai hm
    have : s_mt (s_pf (P p)) (s_sg l) (t - a) q a = true := hm.symm
    rw [this, if_pos rfl] at hK
    refine zj_iload dX8_standsAt_28 (by rfl) ?_
    refine zj_iload dX8_standsAt_30 (by rfl) ?_
    refine zj_icmp_geN (tgt := 85) dX8_standsAt_32 (by decide) (by omega) (fun _ => ?_) (fun zq => absurd (by omega) zq)
    exact hK _
  | succ m ih =>
    intro i hi hai hm
    have e0 : s_mt (s_pf (P p)) (s_sg l) (m + 1) (q + (i - a)) i = if s_pf (P p) (q + (i - a)) = s_sg l i then s_mt (s_pf (P p)) (s_sg l) m (q + (i - a) + 1) (i + 1) else false := rfl
    rw [e0] at hm
    have v8 := q58 s hs l hl i (by omega)
    have v2 := q52 p hp (q + (i - a)) (by omega)
    by_cases hc : s_pf (P p) (q + (i - a)) = s_sg l i
    · rw [if_pos hc] at hm
      have hJ := ih (i + 1) (by omega) (by omega) (by rw [show i + 1 - a = i - a + 1 by omega]; exact hm)
      refine zj_iload dX8_standsAt_28 (by rfl) ?_
      refine zj_iload dX8_standsAt_30 (by rfl) ?_
      refine zj_icmp_geN (tgt := 85) dX8_standsAt_32 (by decide) (by omega) (fun zq => absurd zq (by omega)) (fun _ => ?_)
      refine zj_iload dX8_standsAt_35 (by rfl) ?_
      refine zj_if_eq (tgt := 85) dX8_standsAt_37 (by decide) (fun zq => absurd zq (by decide)) (fun _ => ?_)
      refine zj_aload_n dX8_standsAt_40 (by rfl) ?_
      refine zg_8_44 rfl dX8_standsAt_41 (by first | assumption | rfl) (by rfl) ?_
      refine zj_bipush (v := nI 60) dX8_standsAt_44 (by decide) ?_
      refine zj_iload_n dX8_standsAt_46 (by rfl) ?_
      refine zj_imulN dX8_standsAt_47 ?_
      refine zj_iload dX8_standsAt_48 (by rfl) ?_
      refine zj_iaddN dX8_standsAt_50 ?_
      refine zj_ialdN dX8_standsAt_51 (by first | assumption | rfl) (by omega) ?_
      rw [v8]
      refine zj_aload_n dX8_standsAt_52 (by rfl) ?_
      refine zg_8_22 rfl dX8_standsAt_53 (by first | assumption | rfl) (by rfl) ?_
      refine zj_bipush (v := nI 60) dX8_standsAt_56 (by decide) ?_
      refine zj_iload_n dX8_standsAt_58 (by rfl) ?_
      refine zj_imulN dX8_standsAt_59 ?_
      refine zj_iload dX8_standsAt_60 (by rfl) ?_
      refine zj_iaddN dX8_standsAt_62 ?_
      refine zj_iload dX8_standsAt_63 (by rfl) ?_
      refine zj_iaddN dX8_standsAt_65 ?_
      refine zj_iload_n dX8_standsAt_66 (by rfl) ?_
      refine zj_isubN dX8_standsAt_67 (by omega) ?_
      rw [show 60 * p + q + i - a = 60 * p + (q + (i - a)) by omega]
      refine zj_ialdN dX8_standsAt_68 (by first | assumption | rfl) (by omega) ?_
      rw [v2]
      refine zj_icmp_ne (tgt := 76) dX8_standsAt_69 (by decide) (fun zq => absurd (hc.symm) zq) (fun _ => ?_)
      refine zj_iconst (v := nI 1) dX8_standsAt_72 (by decide) ?_
      refine zj_goto (tgt := 77) dX8_standsAt_73 (by decide) ?_
      refine zj_istore dX8_standsAt_77 (by decide) ?_
      refine zj_iincN dX8_standsAt_79 (by rfl) (by decide) ?_
      refine zj_goto (tgt := 28) dX8_standsAt_82 (by decide) ?_
      exact hJ
    · rw [if_neg hc] at hm
      rw [← hm] at hK
      refine zj_iload dX8_standsAt_28 (by rfl) ?_
      refine zj_iload dX8_standsAt_30 (by rfl) ?_
      refine zj_icmp_geN (tgt := 85) dX8_standsAt_32 (by decide) (by omega) (fun zq => absurd zq (by omega)) (fun _ => ?_)
      refine zj_iload dX8_standsAt_35 (by rfl) ?_
      refine zj_if_eq (tgt := 85) dX8_standsAt_37 (by decide) (fun zq => absurd zq (by decide)) (fun _ => ?_)
      refine zj_aload_n dX8_standsAt_40 (by rfl) ?_
      refine zg_8_44 rfl dX8_standsAt_41 (by first | assumption | rfl) (by rfl) ?_
      refine zj_bipush (v := nI 60) dX8_standsAt_44 (by decide) ?_
      refine zj_iload_n dX8_standsAt_46 (by rfl) ?_
      refine zj_imulN dX8_standsAt_47 ?_
      refine zj_iload dX8_standsAt_48 (by rfl) ?_
      refine zj_iaddN dX8_standsAt_50 ?_
      refine zj_ialdN dX8_standsAt_51 (by first | assumption | rfl) (by omega) ?_
      rw [v8]
      refine zj_aload_n dX8_standsAt_52 (by rfl) ?_
      refine zg_8_22 rfl dX8_standsAt_53 (by first | assumption | rfl) (by rfl) ?_
      refine zj_bipush (v := nI 60) dX8_standsAt_56 (by decide) ?_
      refine zj_iload_n dX8_standsAt_58 (by rfl) ?_
      refine zj_imulN dX8_standsAt_59 ?_
      refine zj_iload dX8_standsAt_60 (by rfl) ?_
      refine zj_iaddN dX8_standsAt_62 ?_
      refine zj_iload dX8_standsAt_63 (by rfl) ?_
      refine zj_iaddN dX8_standsAt_65 ?_
      refine zj_iload_n dX8_standsAt_66 (by rfl) ?_
      refine zj_isubN dX8_standsAt_67 (by omega) ?_
      rw [show 60 * p + q + i - a = 60 * p + (q + (i - a)) by omega]
      refine zj_ialdN dX8_standsAt_68 (by first | assumption | rfl) (by omega) ?_
      rw [v2]
      refine zj_icmp_ne (tgt := 76) dX8_standsAt_69 (by decide) (fun _ => ?_) (fun zq => absurd zq (fun e => hc e.symm))
      refine zj_iconst (v := nI 0) dX8_standsAt_76 (by decide) ?_
      refine zj_istore dX8_standsAt_77 (by decide) ?_
      refine zj_iincN dX8_standsAt_79 (by rfl) (by decide) ?_
      refine zj_goto (tgt := 28) dX8_standsAt_82 (by decide) ?_
      skip
      by_cases hie : i + 1 = t
      · refine zj_iload dX8_standsAt_28 (by rfl) ?_
        refine zj_iload dX8_standsAt_30 (by rfl) ?_
        refine zj_icmp_geN (tgt := 85) dX8_standsAt_32 (by decide) (by omega) (fun _ => ?_) (fun zq => absurd (by omega) zq)
        exact hK _
      · refine zj_iload dX8_standsAt_28 (by rfl) ?_
        refine zj_iload dX8_standsAt_30 (by rfl) ?_
        refine zj_icmp_geN (tgt := 85) dX8_standsAt_32 (by decide) (by omega) (fun zq => absurd zq (by omega)) (fun _ => ?_)
        refine zj_iload dX8_standsAt_35 (by rfl) ?_
        refine zj_if_eq (tgt := 85) dX8_standsAt_37 (by decide) (fun _ => ?_) (fun zq => absurd (rfl) zq)
        exact hK _
theorem m_st_l (w : WF C P S T H O g) (r : RM h C P S T H O g) {a t : Nat} (hp : p < 6) (hs : s < 2) (hl : S s = some l) (ht : t ≤ l.length) (hat : a < t) : ∀ m q, q + m = (P p).length + 1 - (t - a) → ∀ o7 o8, zB mX8_standsAt d (some (.int (nI (s_ct (fun q => s_mt (s_pf (P p)) (s_sg l) (t - a) q a) ((P p).length + 1 - (t - a)))))) h 6 [some (.ref 47), some (.int (nI p)), some (.int (nI s)), some (.int (nI a)), some (.int (nI t)), some (.int (nI (s_ct (fun q => s_mt (s_pf (P p)) (s_sg l) (t - a) q a) q))), some (.int (nI q)), o7, o8] [] h := by
  obtain ⟨m47, m48, m49, m50, m51, m52, m53, m54, m55, m56, m57, m58, m59, m60, m61, m62, m63⟩ := id r
  obtain ⟨rd, wr, hw, o0⟩ := m47
  obtain ⟨f1, a51, q51⟩ := m51
  have l2 := (w.2.1 p hp).1
  have l3 := (w.2.2.1 s hs l hl).1
  have v1 := q51 p hp
  intro m
  induction m with
  | zero =>
    intro q hq o7 o8
    refine zj_iload dX8_standsAt_6 (by rfl) ?_
    refine zj_iload dX8_standsAt_8 (by rfl) ?_
    refine zj_iaddN dX8_standsAt_10 ?_
    refine zj_iload_n dX8_standsAt_11 (by rfl) ?_
    refine zj_isubN dX8_standsAt_12 (by omega) ?_
    refine zj_aload_n dX8_standsAt_13 (by rfl) ?_
    refine zg_8_19 rfl dX8_standsAt_14 (by first | assumption | rfl) (by rfl) ?_
    refine zj_iload_n dX8_standsAt_17 (by rfl) ?_
    refine zj_ialdN dX8_standsAt_18 (by first | assumption | rfl) (by omega) ?_
    rw [v1]
    refine zj_icmp_gtN (tgt := 106) dX8_standsAt_19 (by decide) (by omega) (fun _ => ?_) (fun zq => absurd (by omega) zq)
    refine zj_iload dX8_standsAt_106 (by rfl) ?_
    refine zj_iret dX8_standsAt_108 rfl (Nat.le_refl _) (Nat.le_refl _) ?_
    exact ⟨by rw [← hq]; rfl, rfl⟩
  | succ m ih =>
    intro q hq o7 o8
    have hJ := ih (q + 1) (by omega)
    have e1 : s_ct (fun q => s_mt (s_pf (P p)) (s_sg l) (t - a) q a) (q + 1) = s_ct (fun q => s_mt (s_pf (P p)) (s_sg l) (t - a) q a) q + (if s_mt (s_pf (P p)) (s_sg l) (t - a) q a = true then 1 else 0) := rfl
    rw [e1] at hJ
    have hK : ∀ o8, zB mX8_standsAt d (some (.int (nI (s_ct (fun q => s_mt (s_pf (P p)) (s_sg l) (t - a) q a) ((P p).length + 1 - (t - a)))))) h 85 [some (.ref 47), some (.int (nI p)), some (.int (nI s)), some (.int (nI a)), some (.int (nI t)), some (.int (nI (s_ct (fun q => s_mt (s_pf (P p)) (s_sg l) (t - a) q a) q))), some (.int (nI q)), some (.int (if s_mt (s_pf (P p)) (s_sg l) (t - a) q a = true then 1 else 0)), o8] [] h := by
      intro o8
      by_cases hm : s_mt (s_pf (P p)) (s_sg l) (t - a) q a = true
      · rw [if_pos hm] at hJ ⊢
        refine zj_iload dX8_standsAt_85 (by rfl) ?_
        refine zj_iload dX8_standsAt_87 (by rfl) ?_
        refine zj_if_eq (tgt := 96) dX8_standsAt_89 (by decide) (fun zq => absurd zq (by decide)) (fun _ => ?_)
        refine zj_iconst (v := nI 1) dX8_standsAt_92 (by decide) ?_
        refine zj_goto (tgt := 97) dX8_standsAt_93 (by decide) ?_
        refine zj_iaddN dX8_standsAt_97 ?_
        refine zj_istore dX8_standsAt_98 (by decide) ?_
        refine zj_iincN dX8_standsAt_100 (by rfl) (by decide) ?_
        refine zj_goto (tgt := 6) dX8_standsAt_103 (by decide) ?_
        exact hJ _ _
      · rw [if_neg hm] at hJ ⊢
        refine zj_iload dX8_standsAt_85 (by rfl) ?_
        refine zj_iload dX8_standsAt_87 (by rfl) ?_
        refine zj_if_eq (tgt := 96) dX8_standsAt_89 (by decide) (fun _ => ?_) (fun zq => absurd (rfl) zq)
        refine zj_iconst (v := nI 0) dX8_standsAt_96 (by decide) ?_
        refine zj_iaddN dX8_standsAt_97 ?_
        refine zj_istore dX8_standsAt_98 (by decide) ?_
        refine zj_iincN dX8_standsAt_100 (by rfl) (by decide) ?_
        refine zj_goto (tgt := 6) dX8_standsAt_103 (by decide) ?_
        exact hJ _ _
    have hI := m_st_in (d := d) w r hp hs hl ht hat (by omega) hK (t - a) a (by omega) (Nat.le_refl _) (by rw [Nat.sub_self]; rfl)
    refine zj_iload dX8_standsAt_6 (by rfl) ?_
    refine zj_iload dX8_standsAt_8 (by rfl) ?_
    refine zj_iaddN dX8_standsAt_10 ?_
    refine zj_iload_n dX8_standsAt_11 (by rfl) ?_
    refine zj_isubN dX8_standsAt_12 (by omega) ?_
    refine zj_aload_n dX8_standsAt_13 (by rfl) ?_
    refine zg_8_19 rfl dX8_standsAt_14 (by first | assumption | rfl) (by rfl) ?_
    refine zj_iload_n dX8_standsAt_17 (by rfl) ?_
    refine zj_ialdN dX8_standsAt_18 (by first | assumption | rfl) (by omega) ?_
    rw [v1]
    refine zj_icmp_gtN (tgt := 106) dX8_standsAt_19 (by decide) (by omega) (fun zq => absurd zq (by omega)) (fun _ => ?_)
    refine zj_iconst (v := 1) dX8_standsAt_22 (by decide) ?_
    refine zj_istore dX8_standsAt_23 (by decide) ?_
    refine zj_iload_n dX8_standsAt_25 (by rfl) ?_
    refine zj_istore dX8_standsAt_26 (by decide) ?_
    exact hI
theorem m_standsAt (w : WF C P S T H O g) (r : RM h C P S T H O g) {a t : Nat} (hp : p < 6) (hs : s < 2) (hl : S s = some l) (ht : t ≤ l.length) (hat : a < t) : zD mX8_standsAt d [.ref 47, .int (nI p), .int (nI s), .int (nI a), .int (nI t)] h (some (.int (nI (s_K (s_pf (P p)) (s_sg l) (P p).length l.length a t)))) h := by
  rw [← s_K_mt hat ht]
  have hI := m_st_l (d := d) w r hp hs hl ht hat _ 0 (Nat.zero_add _) none none
  refine zD_of (by decide +kernel) (by exact Nat.le_of_ble_eq_true rfl) ?_
  show zB mX8_standsAt _ _ _ 0 [some (.ref 47), some (.int (nI p)), some (.int (nI s)), some (.int (nI a)), some (.int (nI t)), none, none, none, none] [] _
  refine zj_iconst (v := nI 0) dX8_standsAt_0 (by decide) ?_
  refine zj_istore dX8_standsAt_1 (by decide) ?_
  refine zj_iconst (v := nI 0) dX8_standsAt_3 (by decide) ?_
  refine zj_istore dX8_standsAt_4 (by decide) ?_
  exact hI
theorem m_ft_in (w : WF C P S T H O g) (r : RM h C P S T H O g) {t : Nat} {W c : Nat → Nat} {w0 : Nat → Int64} {f0 : Nat → Int32} {Q : zH → Prop} (hp : p < 6) (hs : s < 2) (hl : S s = some l) (ht : t ≤ l.length) (a60 : h[60]? = some (.inl (2, 61, .inr (.inl w0)))) (a61 : h[61]? = some (.inl (1, 61, .inl f0))) (hW : ∀ k, k < t → W k ≤ s_M) (hc : ∀ k, k < t → c k ≤ k)
    (hK : ∀ wf cf, (∀ k, k < t → wf k = lN (W k)) → wf t = lN (s_wi W (fun v => s_K (s_pf (P p)) (s_sg l) (P p).length l.length v t) t) → (∀ k, k < t → cf k = nI (c k)) → cf t = nI (s_ci W (fun v => s_K (s_pf (P p)) (s_sg l) (P p).length l.length v t) c t) → ∃ h1, Q h1 ∧ ∀ o5 o6, zB mX8_findTurn (d + 1) none h1 182 [some (.ref 47), some (.int (nI p)), some (.int (nI s)), some (.int (nI t)), some (.int (nI t)), o5, o6] [] ((h.set 60 (.inl (2, 61, .inr (.inl wf)))).set 61 (.inl (1, 61, .inl cf)))) : ∀ m v wf cf, v + m = t → (∀ k, k < t → wf k = lN (W k)) → wf t = lN (s_wi W (fun v => s_K (s_pf (P p)) (s_sg l) (P p).length l.length v t) v) → (∀ k, k < t → cf k = nI (c k)) → cf t = nI (s_ci W (fun v => s_K (s_pf (P p)) (s_sg l) (P p).length l.length v t) c v) → ∃ h1, Q h1 ∧ ∀ o5 o6, zB mX8_findTurn (d + 1) none h1 37 [some (.ref 47), some (.int (nI p)), some (.int (nI s)), some (.int (nI t)), some (.int (nI v)), o5, o6] [] ((h.set 60 (.inl (2, 61, .inr (.inl wf)))).set 61 (.inl (1, 61, .inl cf))) := by
  obtain ⟨⟨rd, wr, hw, o0⟩, -⟩ := id r
  have l2 := (w.2.1 p hp).1
  have l3 := (w.2.2.1 s hs l hl).1
  have k47 : ∀ A B, ((h.set 60 A).set 61 B)[47]? = some (.inr (8, s_mo g O.length T.length rd wr)) := fun A B => zset_ne (by decide) (zset_ne (by decide) o0)
  have k60 : ∀ A B, ((h.set 60 (.inl (2, 61, .inr (.inl A)))).set 61 B)[60]? = some (.inl (2, 61, .inr (.inl A))) := fun A B => zset_ne (by decide) (zset_eq a60)
  have k61 : ∀ A B, ((h.set 60 A).set 61 (.inl (1, 61, .inl B)))[61]? = some (.inl (1, 61, .inl B)) := fun A B => zset_eq (zset_ne (by decide) a61)
  intro m
  induction m with
  | zero =>
    intro v wf cf hv h1 h2 h3 h4
    obtain rfl : v = t := by omega
    obtain ⟨hh, hQ, hJ⟩ := hK wf cf h1 h2 h3 h4
    refine ⟨hh, hQ, fun o5 o6 => ?_⟩
    refine zj_iload dX8_findTurn_37 (by rfl) ?_
    refine zj_iload_n dX8_findTurn_39 (by rfl) ?_
    refine zj_icmp_geN (tgt := 182) dX8_findTurn_40 (by decide) (by omega) (fun _ => ?_) (fun zq => absurd (by omega) zq)
    exact hJ _ _
  | succ m ih =>
    intro v wf cf hv h1 h2 h3 h4
    have hvt : v < t := by omega
    have hWv := hW v hvt
    have m9 : s_M = 1000000000 := rfl
    have hcv := hc v hvt
    have hwl := s_wi_le (w := W) (K := fun v => s_K (s_pf (P p)) (s_sg l) (P p).length l.length v t) v
    have hcl := s_ci_le (w := W) (K := fun v => s_K (s_pf (P p)) (s_sg l) (P p).length l.length v t) (c := c) (b := t) v (fun j hj => by have := hc j (by omega); omega)
    have hKl := s_K_le (f := s_pf (P p)) (g := s_sg l) (n := (P p).length) (e := l.length) (v := v) (t := t)
    have ew : s_wi W (fun v => s_K (s_pf (P p)) (s_sg l) (P p).length l.length v t) (v + 1) = if W v = 0 ∨ s_K (s_pf (P p)) (s_sg l) (P p).length l.length v t = 0 then s_wi W (fun v => s_K (s_pf (P p)) (s_sg l) (P p).length l.length v t) v else min (s_wi W (fun v => s_K (s_pf (P p)) (s_sg l) (P p).length l.length v t) v + W v * s_K (s_pf (P p)) (s_sg l) (P p).length l.length v t) s_M := rfl
    have ec : s_ci W (fun v => s_K (s_pf (P p)) (s_sg l) (P p).length l.length v t) c (v + 1) = if W v = 0 ∨ s_K (s_pf (P p)) (s_sg l) (P p).length l.length v t = 0 then s_ci W (fun v => s_K (s_pf (P p)) (s_sg l) (P p).length l.length v t) c v else if s_ci W (fun v => s_K (s_pf (P p)) (s_sg l) (P p).length l.length v t) c v = 0 ∨ c v + 1 < s_ci W (fun v => s_K (s_pf (P p)) (s_sg l) (P p).length l.length v t) c v then c v + 1 else s_ci W (fun v => s_K (s_pf (P p)) (s_sg l) (P p).length l.length v t) c v := rfl
    have hS := fun A B => m_standsAt (d := d) w (RM_6061 (w2 := A) (f2 := B) r a60 a61) hp hs hl ht hvt
    have g1 := h1 v hvt
    have g3 := h3 v hvt
    have ihv := ih (v + 1)
    rw [ew, ec] at ihv
    clear ew ec hK ih
    generalize hNe : s_K (s_pf (P p)) (s_sg l) (P p).length l.length v t = N at *
    generalize s_wi W (fun v => s_K (s_pf (P p)) (s_sg l) (P p).length l.length v t) v = a at *
    generalize s_ci W (fun v => s_K (s_pf (P p)) (s_sg l) (P p).length l.length v t) c v = b at *
    by_cases z1 : W v = 0
    · rw [if_pos (Or.inl z1), if_pos (Or.inl z1)] at ihv
      obtain ⟨hh, hQ, hJ⟩ := ihv wf cf (by omega) h1 h2 h3 h4
      refine ⟨hh, hQ, fun o5 o6 => ?_⟩
      refine zj_iload dX8_findTurn_37 (by rfl) ?_
      refine zj_iload_n dX8_findTurn_39 (by rfl) ?_
      refine zj_icmp_geN (tgt := 182) dX8_findTurn_40 (by decide) (by omega) (fun zq => absurd zq (by omega)) (fun _ => ?_)
      refine zj_aload_n dX8_findTurn_43 (by rfl) ?_
      refine zg_8_50 rfl dX8_findTurn_44 (by first | exact k47 _ _ | exact k60 _ _ | exact k61 _ _) (by rfl) ?_
      refine zj_iload dX8_findTurn_47 (by rfl) ?_
      refine zj_laldN dX8_findTurn_49 (by first | exact k47 _ _ | exact k60 _ _ | exact k61 _ _) (by omega) ?_
      rw [g1]
      refine zj_lconst (v := 0) dX8_findTurn_50 (by decide) ?_
      refine zj_lcmp dX8_findTurn_51 ?_
      refine zj_if_ne (tgt := 58) dX8_findTurn_52 (by decide) (fun zq => absurd ((s_lc0 (by omega)).mpr z1) zq) (fun _ => ?_)
      refine zj_goto (tgt := 176) dX8_findTurn_55 (by decide) ?_
      refine zj_iincN dX8_findTurn_176 (by rfl) (by decide) ?_
      refine zj_goto (tgt := 37) dX8_findTurn_179 (by decide) ?_
      exact hJ _ _
    · by_cases z2 : N = 0
      · rw [if_pos (Or.inr z2), if_pos (Or.inr z2)] at ihv
        obtain ⟨hh, hQ, hJ⟩ := ihv wf cf (by omega) h1 h2 h3 h4
        refine ⟨hh, hQ, fun o5 o6 => ?_⟩
        refine zj_iload dX8_findTurn_37 (by rfl) ?_
        refine zj_iload_n dX8_findTurn_39 (by rfl) ?_
        refine zj_icmp_geN (tgt := 182) dX8_findTurn_40 (by decide) (by omega) (fun zq => absurd zq (by omega)) (fun _ => ?_)
        refine zj_aload_n dX8_findTurn_43 (by rfl) ?_
        refine zg_8_50 rfl dX8_findTurn_44 (by first | exact k47 _ _ | exact k60 _ _ | exact k61 _ _) (by rfl) ?_
        refine zj_iload dX8_findTurn_47 (by rfl) ?_
        refine zj_laldN dX8_findTurn_49 (by first | exact k47 _ _ | exact k60 _ _ | exact k61 _ _) (by omega) ?_
        rw [g1]
        refine zj_lconst (v := 0) dX8_findTurn_50 (by decide) ?_
        refine zj_lcmp dX8_findTurn_51 ?_
        refine zj_if_ne (tgt := 58) dX8_findTurn_52 (by decide) (fun _ => ?_) (fun zq => absurd zq (mt (s_lc0 (by omega)).mp z1))
        refine zj_aload_n dX8_findTurn_58 (by rfl) ?_
        refine zj_iload_n dX8_findTurn_59 (by rfl) ?_
        refine zj_iload_n dX8_findTurn_60 (by rfl) ?_
        refine zj_iload dX8_findTurn_61 (by rfl) ?_
        refine zj_iload_n dX8_findTurn_63 (by rfl) ?_
        refine zc_8_150 rfl dX8_findTurn_64 (by first | exact k47 _ _ | exact k60 _ _ | exact k61 _ _) (hS _ _) (by exact Nat.le_of_ble_eq_true rfl) ?_
        refine zj_istore dX8_findTurn_67 (by decide) ?_
        refine zj_iload dX8_findTurn_69 (by rfl) ?_
        refine zj_if_neN (tgt := 77) dX8_findTurn_71 (by decide) (by omega) (fun zq => absurd (by omega) zq) (fun _ => ?_)
        refine zj_goto (tgt := 176) dX8_findTurn_74 (by decide) ?_
        refine zj_iincN dX8_findTurn_176 (by rfl) (by decide) ?_
        refine zj_goto (tgt := 37) dX8_findTurn_179 (by decide) ?_
        exact hJ _ _
      · rw [if_neg (fun x => x.elim z1 z2), if_neg (fun x => x.elim z1 z2)] at ihv
        have hmul : W v * N ≤ s_M * 60 := Nat.mul_le_mul hWv (by omega)
        have e9 : (1000000000 : Int64) = lN 1000000000 := rfl
        have sl := s_lcl (x := a + W v * N) (y := 1000000000) (by omega) (by omega)
        have hk : ∀ x y, ∀ k, k < t → vp_updL (vp_updL wf t x) t y k = lN (W k) := fun x y k hk => by
          rw [pk_uLn (by omega), pk_uLn (by omega)]; exact h1 k hk
        have hk2 : ∀ x, ∀ k, k < t → upd cf t x k = nI (c k) := fun x k hk => by
          rw [pk_un (by omega)]; exact h3 k hk
        by_cases z3 : a + W v * N ≤ s_M
        · rw [show min (a + W v * N) s_M = a + W v * N by omega] at ihv
          by_cases z4 : b = 0
          · rw [if_pos (Or.inl z4)] at ihv
            obtain ⟨hh, hQ, hJ⟩ := ihv (vp_updL (vp_updL wf t (lN (a + W v * N))) t (lN (a + W v * N))) (upd cf t (nI (c v + 1))) (by omega) (hk _ _) pk_uLs (hk2 _) pk_us
            refine ⟨hh, hQ, fun o5 o6 => ?_⟩
            refine zj_iload dX8_findTurn_37 (by rfl) ?_
            refine zj_iload_n dX8_findTurn_39 (by rfl) ?_
            refine zj_icmp_geN (tgt := 182) dX8_findTurn_40 (by decide) (by omega) (fun zq => absurd zq (by omega)) (fun _ => ?_)
            refine zj_aload_n dX8_findTurn_43 (by rfl) ?_
            refine zg_8_50 rfl dX8_findTurn_44 (by first | exact k47 _ _ | exact k60 _ _ | exact k61 _ _) (by rfl) ?_
            refine zj_iload dX8_findTurn_47 (by rfl) ?_
            refine zj_laldN dX8_findTurn_49 (by first | exact k47 _ _ | exact k60 _ _ | exact k61 _ _) (by omega) ?_
            rw [g1]
            refine zj_lconst (v := 0) dX8_findTurn_50 (by decide) ?_
            refine zj_lcmp dX8_findTurn_51 ?_
            refine zj_if_ne (tgt := 58) dX8_findTurn_52 (by decide) (fun _ => ?_) (fun zq => absurd zq (mt (s_lc0 (by omega)).mp z1))
            refine zj_aload_n dX8_findTurn_58 (by rfl) ?_
            refine zj_iload_n dX8_findTurn_59 (by rfl) ?_
            refine zj_iload_n dX8_findTurn_60 (by rfl) ?_
            refine zj_iload dX8_findTurn_61 (by rfl) ?_
            refine zj_iload_n dX8_findTurn_63 (by rfl) ?_
            refine zc_8_150 rfl dX8_findTurn_64 (by first | exact k47 _ _ | exact k60 _ _ | exact k61 _ _) (hS _ _) (by exact Nat.le_of_ble_eq_true rfl) ?_
            refine zj_istore dX8_findTurn_67 (by decide) ?_
            refine zj_iload dX8_findTurn_69 (by rfl) ?_
            refine zj_if_neN (tgt := 77) dX8_findTurn_71 (by decide) (by omega) (fun _ => ?_) (fun zq => absurd zq (by omega))
            refine zj_aload_n dX8_findTurn_77 (by rfl) ?_
            refine zg_8_50 rfl dX8_findTurn_78 (by first | exact k47 _ _ | exact k60 _ _ | exact k61 _ _) (by rfl) ?_
            refine zj_iload_n dX8_findTurn_81 (by rfl) ?_
            refine zj_dup2 dX8_findTurn_82 rfl rfl ?_
            refine zj_laldN dX8_findTurn_83 (by first | exact k47 _ _ | exact k60 _ _ | exact k61 _ _) (by omega) ?_
            rw [h2]
            refine zj_aload_n dX8_findTurn_84 (by rfl) ?_
            refine zg_8_50 rfl dX8_findTurn_85 (by first | exact k47 _ _ | exact k60 _ _ | exact k61 _ _) (by rfl) ?_
            refine zj_iload dX8_findTurn_88 (by rfl) ?_
            refine zj_laldN dX8_findTurn_90 (by first | exact k47 _ _ | exact k60 _ _ | exact k61 _ _) (by omega) ?_
            rw [g1]
            refine zj_iload dX8_findTurn_91 (by rfl) ?_
            refine zj_i2l dX8_findTurn_93 ?_
            rw [nI_l (by omega)]
            refine zj_lmul dX8_findTurn_94 ?_
            rw [lN_mul]
            refine zj_ladd dX8_findTurn_95 ?_
            rw [lN_add]
            refine zj_lastN dX8_findTurn_96 (by first | exact k47 _ _ | exact k60 _ _ | exact k61 _ _) (by omega) ?_
            rw [s_c60]
            refine zj_aload_n dX8_findTurn_97 (by rfl) ?_
            refine zg_8_50 rfl dX8_findTurn_98 (by first | exact k47 _ _ | exact k60 _ _ | exact k61 _ _) (by rfl) ?_
            refine zj_iload_n dX8_findTurn_101 (by rfl) ?_
            refine zj_aload_n dX8_findTurn_102 (by rfl) ?_
            refine zg_8_50 rfl dX8_findTurn_103 (by first | exact k47 _ _ | exact k60 _ _ | exact k61 _ _) (by rfl) ?_
            refine zj_iload_n dX8_findTurn_106 (by rfl) ?_
            refine zj_laldN dX8_findTurn_107 (by first | exact k47 _ _ | exact k60 _ _ | exact k61 _ _) (by omega) ?_
            rw [pk_uLs]
            refine zj_ldc2 (v := 1000000000) dX8_findTurn_108 zq_843 ?_
            rw [e9]
            refine zj_lcmp dX8_findTurn_111 ?_
            refine zj_if_le (tgt := 121) dX8_findTurn_112 (by decide) (fun _ => ?_) (fun zq => absurd (sl.mpr (by omega)) zq)
            refine zj_aload_n dX8_findTurn_121 (by rfl) ?_
            refine zg_8_50 rfl dX8_findTurn_122 (by first | exact k47 _ _ | exact k60 _ _ | exact k61 _ _) (by rfl) ?_
            refine zj_iload_n dX8_findTurn_125 (by rfl) ?_
            refine zj_laldN dX8_findTurn_126 (by first | exact k47 _ _ | exact k60 _ _ | exact k61 _ _) (by omega) ?_
            rw [pk_uLs]
            refine zj_lastN dX8_findTurn_127 (by first | exact k47 _ _ | exact k60 _ _ | exact k61 _ _) (by omega) ?_
            rw [s_c60]
            refine zj_aload_n dX8_findTurn_128 (by rfl) ?_
            refine zg_8_54 rfl dX8_findTurn_129 (by first | exact k47 _ _ | exact k60 _ _ | exact k61 _ _) (by rfl) ?_
            refine zj_iload dX8_findTurn_132 (by rfl) ?_
            refine zj_ialdN dX8_findTurn_134 (by first | exact k47 _ _ | exact k60 _ _ | exact k61 _ _) (by omega) ?_
            rw [g3]
            refine zj_iconst (v := nI 1) dX8_findTurn_135 (by decide) ?_
            refine zj_iaddN dX8_findTurn_136 ?_
            refine zj_istore dX8_findTurn_137 (by decide) ?_
            refine zj_aload_n dX8_findTurn_139 (by rfl) ?_
            refine zg_8_54 rfl dX8_findTurn_140 (by first | exact k47 _ _ | exact k60 _ _ | exact k61 _ _) (by rfl) ?_
            refine zj_iload_n dX8_findTurn_143 (by rfl) ?_
            refine zj_aload_n dX8_findTurn_144 (by rfl) ?_
            refine zg_8_54 rfl dX8_findTurn_145 (by first | exact k47 _ _ | exact k60 _ _ | exact k61 _ _) (by rfl) ?_
            refine zj_iload_n dX8_findTurn_148 (by rfl) ?_
            refine zj_ialdN dX8_findTurn_149 (by first | exact k47 _ _ | exact k60 _ _ | exact k61 _ _) (by omega) ?_
            rw [h4]
            refine zj_if_eqN (tgt := 164) dX8_findTurn_150 (by decide) (by omega) (fun _ => ?_) (fun zq => absurd (by omega) zq)
            refine zj_iload dX8_findTurn_164 (by rfl) ?_
            refine zj_goto (tgt := 175) dX8_findTurn_166 (by decide) ?_
            refine zj_iastN dX8_findTurn_175 (by first | exact k47 _ _ | exact k60 _ _ | exact k61 _ _) (by omega) ?_
            rw [List.set_set]
            refine zj_iincN dX8_findTurn_176 (by rfl) (by decide) ?_
            refine zj_goto (tgt := 37) dX8_findTurn_179 (by decide) ?_
            exact hJ _ _
          · by_cases z5 : c v + 1 < b
            · rw [if_pos (Or.inr z5)] at ihv
              obtain ⟨hh, hQ, hJ⟩ := ihv (vp_updL (vp_updL wf t (lN (a + W v * N))) t (lN (a + W v * N))) (upd cf t (nI (c v + 1))) (by omega) (hk _ _) pk_uLs (hk2 _) pk_us
              refine ⟨hh, hQ, fun o5 o6 => ?_⟩
              refine zj_iload dX8_findTurn_37 (by rfl) ?_
              refine zj_iload_n dX8_findTurn_39 (by rfl) ?_
              refine zj_icmp_geN (tgt := 182) dX8_findTurn_40 (by decide) (by omega) (fun zq => absurd zq (by omega)) (fun _ => ?_)
              refine zj_aload_n dX8_findTurn_43 (by rfl) ?_
              refine zg_8_50 rfl dX8_findTurn_44 (by first | exact k47 _ _ | exact k60 _ _ | exact k61 _ _) (by rfl) ?_
              refine zj_iload dX8_findTurn_47 (by rfl) ?_
              refine zj_laldN dX8_findTurn_49 (by first | exact k47 _ _ | exact k60 _ _ | exact k61 _ _) (by omega) ?_
              rw [g1]
              refine zj_lconst (v := 0) dX8_findTurn_50 (by decide) ?_
              refine zj_lcmp dX8_findTurn_51 ?_
              refine zj_if_ne (tgt := 58) dX8_findTurn_52 (by decide) (fun _ => ?_) (fun zq => absurd zq (mt (s_lc0 (by omega)).mp z1))
              refine zj_aload_n dX8_findTurn_58 (by rfl) ?_
              refine zj_iload_n dX8_findTurn_59 (by rfl) ?_
              refine zj_iload_n dX8_findTurn_60 (by rfl) ?_
              refine zj_iload dX8_findTurn_61 (by rfl) ?_
              refine zj_iload_n dX8_findTurn_63 (by rfl) ?_
              refine zc_8_150 rfl dX8_findTurn_64 (by first | exact k47 _ _ | exact k60 _ _ | exact k61 _ _) (hS _ _) (by exact Nat.le_of_ble_eq_true rfl) ?_
              refine zj_istore dX8_findTurn_67 (by decide) ?_
              refine zj_iload dX8_findTurn_69 (by rfl) ?_
              refine zj_if_neN (tgt := 77) dX8_findTurn_71 (by decide) (by omega) (fun _ => ?_) (fun zq => absurd zq (by omega))
              refine zj_aload_n dX8_findTurn_77 (by rfl) ?_
              refine zg_8_50 rfl dX8_findTurn_78 (by first | exact k47 _ _ | exact k60 _ _ | exact k61 _ _) (by rfl) ?_
              refine zj_iload_n dX8_findTurn_81 (by rfl) ?_
              refine zj_dup2 dX8_findTurn_82 rfl rfl ?_
              refine zj_laldN dX8_findTurn_83 (by first | exact k47 _ _ | exact k60 _ _ | exact k61 _ _) (by omega) ?_
              rw [h2]
              refine zj_aload_n dX8_findTurn_84 (by rfl) ?_
              refine zg_8_50 rfl dX8_findTurn_85 (by first | exact k47 _ _ | exact k60 _ _ | exact k61 _ _) (by rfl) ?_
              refine zj_iload dX8_findTurn_88 (by rfl) ?_
              refine zj_laldN dX8_findTurn_90 (by first | exact k47 _ _ | exact k60 _ _ | exact k61 _ _) (by omega) ?_
              rw [g1]
              refine zj_iload dX8_findTurn_91 (by rfl) ?_
              refine zj_i2l dX8_findTurn_93 ?_
              rw [nI_l (by omega)]
              refine zj_lmul dX8_findTurn_94 ?_
              rw [lN_mul]
              refine zj_ladd dX8_findTurn_95 ?_
              rw [lN_add]
              refine zj_lastN dX8_findTurn_96 (by first | exact k47 _ _ | exact k60 _ _ | exact k61 _ _) (by omega) ?_
              rw [s_c60]
              refine zj_aload_n dX8_findTurn_97 (by rfl) ?_
              refine zg_8_50 rfl dX8_findTurn_98 (by first | exact k47 _ _ | exact k60 _ _ | exact k61 _ _) (by rfl) ?_
              refine zj_iload_n dX8_findTurn_101 (by rfl) ?_
              refine zj_aload_n dX8_findTurn_102 (by rfl) ?_
              refine zg_8_50 rfl dX8_findTurn_103 (by first | exact k47 _ _ | exact k60 _ _ | exact k61 _ _) (by rfl) ?_
              refine zj_iload_n dX8_findTurn_106 (by rfl) ?_
              refine zj_laldN dX8_findTurn_107 (by first | exact k47 _ _ | exact k60 _ _ | exact k61 _ _) (by omega) ?_
              rw [pk_uLs]
              refine zj_ldc2 (v := 1000000000) dX8_findTurn_108 zq_843 ?_
              rw [e9]
              refine zj_lcmp dX8_findTurn_111 ?_
              refine zj_if_le (tgt := 121) dX8_findTurn_112 (by decide) (fun _ => ?_) (fun zq => absurd (sl.mpr (by omega)) zq)
              refine zj_aload_n dX8_findTurn_121 (by rfl) ?_
              refine zg_8_50 rfl dX8_findTurn_122 (by first | exact k47 _ _ | exact k60 _ _ | exact k61 _ _) (by rfl) ?_
              refine zj_iload_n dX8_findTurn_125 (by rfl) ?_
              refine zj_laldN dX8_findTurn_126 (by first | exact k47 _ _ | exact k60 _ _ | exact k61 _ _) (by omega) ?_
              rw [pk_uLs]
              refine zj_lastN dX8_findTurn_127 (by first | exact k47 _ _ | exact k60 _ _ | exact k61 _ _) (by omega) ?_
              rw [s_c60]
              refine zj_aload_n dX8_findTurn_128 (by rfl) ?_
              refine zg_8_54 rfl dX8_findTurn_129 (by first | exact k47 _ _ | exact k60 _ _ | exact k61 _ _) (by rfl) ?_
              refine zj_iload dX8_findTurn_132 (by rfl) ?_
              refine zj_ialdN dX8_findTurn_134 (by first | exact k47 _ _ | exact k60 _ _ | exact k61 _ _) (by omega) ?_
              rw [g3]
              refine zj_iconst (v := nI 1) dX8_findTurn_135 (by decide) ?_
              refine zj_iaddN dX8_findTurn_136 ?_
              refine zj_istore dX8_findTurn_137 (by decide) ?_
              refine zj_aload_n dX8_findTurn_139 (by rfl) ?_
              refine zg_8_54 rfl dX8_findTurn_140 (by first | exact k47 _ _ | exact k60 _ _ | exact k61 _ _) (by rfl) ?_
              refine zj_iload_n dX8_findTurn_143 (by rfl) ?_
              refine zj_aload_n dX8_findTurn_144 (by rfl) ?_
              refine zg_8_54 rfl dX8_findTurn_145 (by first | exact k47 _ _ | exact k60 _ _ | exact k61 _ _) (by rfl) ?_
              refine zj_iload_n dX8_findTurn_148 (by rfl) ?_
              refine zj_ialdN dX8_findTurn_149 (by first | exact k47 _ _ | exact k60 _ _ | exact k61 _ _) (by omega) ?_
              rw [h4]
              refine zj_if_eqN (tgt := 164) dX8_findTurn_150 (by decide) (by omega) (fun zq => absurd zq (by omega)) (fun _ => ?_)
              refine zj_iload dX8_findTurn_153 (by rfl) ?_
              refine zj_aload_n dX8_findTurn_155 (by rfl) ?_
              refine zg_8_54 rfl dX8_findTurn_156 (by first | exact k47 _ _ | exact k60 _ _ | exact k61 _ _) (by rfl) ?_
              refine zj_iload_n dX8_findTurn_159 (by rfl) ?_
              refine zj_ialdN dX8_findTurn_160 (by first | exact k47 _ _ | exact k60 _ _ | exact k61 _ _) (by omega) ?_
              rw [h4]
              refine zj_icmp_geN (tgt := 169) dX8_findTurn_161 (by decide) (by omega) (fun zq => absurd zq (by omega)) (fun _ => ?_)
              refine zj_iload dX8_findTurn_164 (by rfl) ?_
              refine zj_goto (tgt := 175) dX8_findTurn_166 (by decide) ?_
              refine zj_iastN dX8_findTurn_175 (by first | exact k47 _ _ | exact k60 _ _ | exact k61 _ _) (by omega) ?_
              rw [List.set_set]
              refine zj_iincN dX8_findTurn_176 (by rfl) (by decide) ?_
              refine zj_goto (tgt := 37) dX8_findTurn_179 (by decide) ?_
              exact hJ _ _
            · rw [if_neg (fun x => x.elim z4 z5)] at ihv
              obtain ⟨hh, hQ, hJ⟩ := ihv (vp_updL (vp_updL wf t (lN (a + W v * N))) t (lN (a + W v * N))) (upd cf t (nI b)) (by omega) (hk _ _) pk_uLs (hk2 _) pk_us
              refine ⟨hh, hQ, fun o5 o6 => ?_⟩
              refine zj_iload dX8_findTurn_37 (by rfl) ?_
              refine zj_iload_n dX8_findTurn_39 (by rfl) ?_
              refine zj_icmp_geN (tgt := 182) dX8_findTurn_40 (by decide) (by omega) (fun zq => absurd zq (by omega)) (fun _ => ?_)
              refine zj_aload_n dX8_findTurn_43 (by rfl) ?_
              refine zg_8_50 rfl dX8_findTurn_44 (by first | exact k47 _ _ | exact k60 _ _ | exact k61 _ _) (by rfl) ?_
              refine zj_iload dX8_findTurn_47 (by rfl) ?_
              refine zj_laldN dX8_findTurn_49 (by first | exact k47 _ _ | exact k60 _ _ | exact k61 _ _) (by omega) ?_
              rw [g1]
              refine zj_lconst (v := 0) dX8_findTurn_50 (by decide) ?_
              refine zj_lcmp dX8_findTurn_51 ?_
              refine zj_if_ne (tgt := 58) dX8_findTurn_52 (by decide) (fun _ => ?_) (fun zq => absurd zq (mt (s_lc0 (by omega)).mp z1))
              refine zj_aload_n dX8_findTurn_58 (by rfl) ?_
              refine zj_iload_n dX8_findTurn_59 (by rfl) ?_
              refine zj_iload_n dX8_findTurn_60 (by rfl) ?_
              refine zj_iload dX8_findTurn_61 (by rfl) ?_
              refine zj_iload_n dX8_findTurn_63 (by rfl) ?_
              refine zc_8_150 rfl dX8_findTurn_64 (by first | exact k47 _ _ | exact k60 _ _ | exact k61 _ _) (hS _ _) (by exact Nat.le_of_ble_eq_true rfl) ?_
              refine zj_istore dX8_findTurn_67 (by decide) ?_
              refine zj_iload dX8_findTurn_69 (by rfl) ?_
              refine zj_if_neN (tgt := 77) dX8_findTurn_71 (by decide) (by omega) (fun _ => ?_) (fun zq => absurd zq (by omega))
              refine zj_aload_n dX8_findTurn_77 (by rfl) ?_
              refine zg_8_50 rfl dX8_findTurn_78 (by first | exact k47 _ _ | exact k60 _ _ | exact k61 _ _) (by rfl) ?_
              refine zj_iload_n dX8_findTurn_81 (by rfl) ?_
              refine zj_dup2 dX8_findTurn_82 rfl rfl ?_
              refine zj_laldN dX8_findTurn_83 (by first | exact k47 _ _ | exact k60 _ _ | exact k61 _ _) (by omega) ?_
              rw [h2]
              refine zj_aload_n dX8_findTurn_84 (by rfl) ?_
              refine zg_8_50 rfl dX8_findTurn_85 (by first | exact k47 _ _ | exact k60 _ _ | exact k61 _ _) (by rfl) ?_
              refine zj_iload dX8_findTurn_88 (by rfl) ?_
              refine zj_laldN dX8_findTurn_90 (by first | exact k47 _ _ | exact k60 _ _ | exact k61 _ _) (by omega) ?_
              rw [g1]
              refine zj_iload dX8_findTurn_91 (by rfl) ?_
              refine zj_i2l dX8_findTurn_93 ?_
              rw [nI_l (by omega)]
              refine zj_lmul dX8_findTurn_94 ?_
              rw [lN_mul]
              refine zj_ladd dX8_findTurn_95 ?_
              rw [lN_add]
              refine zj_lastN dX8_findTurn_96 (by first | exact k47 _ _ | exact k60 _ _ | exact k61 _ _) (by omega) ?_
              rw [s_c60]
              refine zj_aload_n dX8_findTurn_97 (by rfl) ?_
              refine zg_8_50 rfl dX8_findTurn_98 (by first | exact k47 _ _ | exact k60 _ _ | exact k61 _ _) (by rfl) ?_
              refine zj_iload_n dX8_findTurn_101 (by rfl) ?_
              refine zj_aload_n dX8_findTurn_102 (by rfl) ?_
              refine zg_8_50 rfl dX8_findTurn_103 (by first | exact k47 _ _ | exact k60 _ _ | exact k61 _ _) (by rfl) ?_
              refine zj_iload_n dX8_findTurn_106 (by rfl) ?_
              refine zj_laldN dX8_findTurn_107 (by first | exact k47 _ _ | exact k60 _ _ | exact k61 _ _) (by omega) ?_
              rw [pk_uLs]
              refine zj_ldc2 (v := 1000000000) dX8_findTurn_108 zq_843 ?_
              rw [e9]
              refine zj_lcmp dX8_findTurn_111 ?_
              refine zj_if_le (tgt := 121) dX8_findTurn_112 (by decide) (fun _ => ?_) (fun zq => absurd (sl.mpr (by omega)) zq)
              refine zj_aload_n dX8_findTurn_121 (by rfl) ?_
              refine zg_8_50 rfl dX8_findTurn_122 (by first | exact k47 _ _ | exact k60 _ _ | exact k61 _ _) (by rfl) ?_
              refine zj_iload_n dX8_findTurn_125 (by rfl) ?_
              refine zj_laldN dX8_findTurn_126 (by first | exact k47 _ _ | exact k60 _ _ | exact k61 _ _) (by omega) ?_
              rw [pk_uLs]
              refine zj_lastN dX8_findTurn_127 (by first | exact k47 _ _ | exact k60 _ _ | exact k61 _ _) (by omega) ?_
              rw [s_c60]
              refine zj_aload_n dX8_findTurn_128 (by rfl) ?_
              refine zg_8_54 rfl dX8_findTurn_129 (by first | exact k47 _ _ | exact k60 _ _ | exact k61 _ _) (by rfl) ?_
              refine zj_iload dX8_findTurn_132 (by rfl) ?_
              refine zj_ialdN dX8_findTurn_134 (by first | exact k47 _ _ | exact k60 _ _ | exact k61 _ _) (by omega) ?_
              rw [g3]
              refine zj_iconst (v := nI 1) dX8_findTurn_135 (by decide) ?_
              refine zj_iaddN dX8_findTurn_136 ?_
              refine zj_istore dX8_findTurn_137 (by decide) ?_
              refine zj_aload_n dX8_findTurn_139 (by rfl) ?_
              refine zg_8_54 rfl dX8_findTurn_140 (by first | exact k47 _ _ | exact k60 _ _ | exact k61 _ _) (by rfl) ?_
              refine zj_iload_n dX8_findTurn_143 (by rfl) ?_
              refine zj_aload_n dX8_findTurn_144 (by rfl) ?_
              refine zg_8_54 rfl dX8_findTurn_145 (by first | exact k47 _ _ | exact k60 _ _ | exact k61 _ _) (by rfl) ?_
              refine zj_iload_n dX8_findTurn_148 (by rfl) ?_
              refine zj_ialdN dX8_findTurn_149 (by first | exact k47 _ _ | exact k60 _ _ | exact k61 _ _) (by omega) ?_
              rw [h4]
              refine zj_if_eqN (tgt := 164) dX8_findTurn_150 (by decide) (by omega) (fun zq => absurd zq (by omega)) (fun _ => ?_)
              refine zj_iload dX8_findTurn_153 (by rfl) ?_
              refine zj_aload_n dX8_findTurn_155 (by rfl) ?_
              refine zg_8_54 rfl dX8_findTurn_156 (by first | exact k47 _ _ | exact k60 _ _ | exact k61 _ _) (by rfl) ?_
              refine zj_iload_n dX8_findTurn_159 (by rfl) ?_
              refine zj_ialdN dX8_findTurn_160 (by first | exact k47 _ _ | exact k60 _ _ | exact k61 _ _) (by omega) ?_
              rw [h4]
              refine zj_icmp_geN (tgt := 169) dX8_findTurn_161 (by decide) (by omega) (fun _ => ?_) (fun zq => absurd (by omega) zq)
              refine zj_aload_n dX8_findTurn_169 (by rfl) ?_
              refine zg_8_54 rfl dX8_findTurn_170 (by first | exact k47 _ _ | exact k60 _ _ | exact k61 _ _) (by rfl) ?_
              refine zj_iload_n dX8_findTurn_173 (by rfl) ?_
              refine zj_ialdN dX8_findTurn_174 (by first | exact k47 _ _ | exact k60 _ _ | exact k61 _ _) (by omega) ?_
              rw [h4]
              refine zj_iastN dX8_findTurn_175 (by first | exact k47 _ _ | exact k60 _ _ | exact k61 _ _) (by omega) ?_
              rw [List.set_set]
              refine zj_iincN dX8_findTurn_176 (by rfl) (by decide) ?_
              refine zj_goto (tgt := 37) dX8_findTurn_179 (by decide) ?_
              exact hJ _ _
        · rw [show min (a + W v * N) s_M = 1000000000 by omega] at ihv
          by_cases z4 : b = 0
          · rw [if_pos (Or.inl z4)] at ihv
            obtain ⟨hh, hQ, hJ⟩ := ihv (vp_updL (vp_updL wf t (lN (a + W v * N))) t (lN 1000000000)) (upd cf t (nI (c v + 1))) (by omega) (hk _ _) pk_uLs (hk2 _) pk_us
            refine ⟨hh, hQ, fun o5 o6 => ?_⟩
            refine zj_iload dX8_findTurn_37 (by rfl) ?_
            refine zj_iload_n dX8_findTurn_39 (by rfl) ?_
            refine zj_icmp_geN (tgt := 182) dX8_findTurn_40 (by decide) (by omega) (fun zq => absurd zq (by omega)) (fun _ => ?_)
            refine zj_aload_n dX8_findTurn_43 (by rfl) ?_
            refine zg_8_50 rfl dX8_findTurn_44 (by first | exact k47 _ _ | exact k60 _ _ | exact k61 _ _) (by rfl) ?_
            refine zj_iload dX8_findTurn_47 (by rfl) ?_
            refine zj_laldN dX8_findTurn_49 (by first | exact k47 _ _ | exact k60 _ _ | exact k61 _ _) (by omega) ?_
            rw [g1]
            refine zj_lconst (v := 0) dX8_findTurn_50 (by decide) ?_
            refine zj_lcmp dX8_findTurn_51 ?_
            refine zj_if_ne (tgt := 58) dX8_findTurn_52 (by decide) (fun _ => ?_) (fun zq => absurd zq (mt (s_lc0 (by omega)).mp z1))
            refine zj_aload_n dX8_findTurn_58 (by rfl) ?_
            refine zj_iload_n dX8_findTurn_59 (by rfl) ?_
            refine zj_iload_n dX8_findTurn_60 (by rfl) ?_
            refine zj_iload dX8_findTurn_61 (by rfl) ?_
            refine zj_iload_n dX8_findTurn_63 (by rfl) ?_
            refine zc_8_150 rfl dX8_findTurn_64 (by first | exact k47 _ _ | exact k60 _ _ | exact k61 _ _) (hS _ _) (by exact Nat.le_of_ble_eq_true rfl) ?_
            refine zj_istore dX8_findTurn_67 (by decide) ?_
            refine zj_iload dX8_findTurn_69 (by rfl) ?_
            refine zj_if_neN (tgt := 77) dX8_findTurn_71 (by decide) (by omega) (fun _ => ?_) (fun zq => absurd zq (by omega))
            refine zj_aload_n dX8_findTurn_77 (by rfl) ?_
            refine zg_8_50 rfl dX8_findTurn_78 (by first | exact k47 _ _ | exact k60 _ _ | exact k61 _ _) (by rfl) ?_
            refine zj_iload_n dX8_findTurn_81 (by rfl) ?_
            refine zj_dup2 dX8_findTurn_82 rfl rfl ?_
            refine zj_laldN dX8_findTurn_83 (by first | exact k47 _ _ | exact k60 _ _ | exact k61 _ _) (by omega) ?_
            rw [h2]
            refine zj_aload_n dX8_findTurn_84 (by rfl) ?_
            refine zg_8_50 rfl dX8_findTurn_85 (by first | exact k47 _ _ | exact k60 _ _ | exact k61 _ _) (by rfl) ?_
            refine zj_iload dX8_findTurn_88 (by rfl) ?_
            refine zj_laldN dX8_findTurn_90 (by first | exact k47 _ _ | exact k60 _ _ | exact k61 _ _) (by omega) ?_
            rw [g1]
            refine zj_iload dX8_findTurn_91 (by rfl) ?_
            refine zj_i2l dX8_findTurn_93 ?_
            rw [nI_l (by omega)]
            refine zj_lmul dX8_findTurn_94 ?_
            rw [lN_mul]
            refine zj_ladd dX8_findTurn_95 ?_
            rw [lN_add]
            refine zj_lastN dX8_findTurn_96 (by first | exact k47 _ _ | exact k60 _ _ | exact k61 _ _) (by omega) ?_
            rw [s_c60]
            refine zj_aload_n dX8_findTurn_97 (by rfl) ?_
            refine zg_8_50 rfl dX8_findTurn_98 (by first | exact k47 _ _ | exact k60 _ _ | exact k61 _ _) (by rfl) ?_
            refine zj_iload_n dX8_findTurn_101 (by rfl) ?_
            refine zj_aload_n dX8_findTurn_102 (by rfl) ?_
            refine zg_8_50 rfl dX8_findTurn_103 (by first | exact k47 _ _ | exact k60 _ _ | exact k61 _ _) (by rfl) ?_
            refine zj_iload_n dX8_findTurn_106 (by rfl) ?_
            refine zj_laldN dX8_findTurn_107 (by first | exact k47 _ _ | exact k60 _ _ | exact k61 _ _) (by omega) ?_
            rw [pk_uLs]
            refine zj_ldc2 (v := 1000000000) dX8_findTurn_108 zq_843 ?_
            rw [e9]
            refine zj_lcmp dX8_findTurn_111 ?_
            refine zj_if_le (tgt := 121) dX8_findTurn_112 (by decide) (fun zq => absurd zq (mt sl.mp (by omega))) (fun _ => ?_)
            refine zj_ldc2 (v := 1000000000) dX8_findTurn_115 zq_843 ?_
            rw [e9]
            refine zj_goto (tgt := 127) dX8_findTurn_118 (by decide) ?_
            refine zj_lastN dX8_findTurn_127 (by first | exact k47 _ _ | exact k60 _ _ | exact k61 _ _) (by omega) ?_
            rw [s_c60]
            refine zj_aload_n dX8_findTurn_128 (by rfl) ?_
            refine zg_8_54 rfl dX8_findTurn_129 (by first | exact k47 _ _ | exact k60 _ _ | exact k61 _ _) (by rfl) ?_
            refine zj_iload dX8_findTurn_132 (by rfl) ?_
            refine zj_ialdN dX8_findTurn_134 (by first | exact k47 _ _ | exact k60 _ _ | exact k61 _ _) (by omega) ?_
            rw [g3]
            refine zj_iconst (v := nI 1) dX8_findTurn_135 (by decide) ?_
            refine zj_iaddN dX8_findTurn_136 ?_
            refine zj_istore dX8_findTurn_137 (by decide) ?_
            refine zj_aload_n dX8_findTurn_139 (by rfl) ?_
            refine zg_8_54 rfl dX8_findTurn_140 (by first | exact k47 _ _ | exact k60 _ _ | exact k61 _ _) (by rfl) ?_
            refine zj_iload_n dX8_findTurn_143 (by rfl) ?_
            refine zj_aload_n dX8_findTurn_144 (by rfl) ?_
            refine zg_8_54 rfl dX8_findTurn_145 (by first | exact k47 _ _ | exact k60 _ _ | exact k61 _ _) (by rfl) ?_
            refine zj_iload_n dX8_findTurn_148 (by rfl) ?_
            refine zj_ialdN dX8_findTurn_149 (by first | exact k47 _ _ | exact k60 _ _ | exact k61 _ _) (by omega) ?_
            rw [h4]
            refine zj_if_eqN (tgt := 164) dX8_findTurn_150 (by decide) (by omega) (fun _ => ?_) (fun zq => absurd (by omega) zq)
            refine zj_iload dX8_findTurn_164 (by rfl) ?_
            refine zj_goto (tgt := 175) dX8_findTurn_166 (by decide) ?_
            refine zj_iastN dX8_findTurn_175 (by first | exact k47 _ _ | exact k60 _ _ | exact k61 _ _) (by omega) ?_
            rw [List.set_set]
            refine zj_iincN dX8_findTurn_176 (by rfl) (by decide) ?_
            refine zj_goto (tgt := 37) dX8_findTurn_179 (by decide) ?_
            exact hJ _ _
          · by_cases z5 : c v + 1 < b
            · rw [if_pos (Or.inr z5)] at ihv
              obtain ⟨hh, hQ, hJ⟩ := ihv (vp_updL (vp_updL wf t (lN (a + W v * N))) t (lN 1000000000)) (upd cf t (nI (c v + 1))) (by omega) (hk _ _) pk_uLs (hk2 _) pk_us
              refine ⟨hh, hQ, fun o5 o6 => ?_⟩
              refine zj_iload dX8_findTurn_37 (by rfl) ?_
              refine zj_iload_n dX8_findTurn_39 (by rfl) ?_
              refine zj_icmp_geN (tgt := 182) dX8_findTurn_40 (by decide) (by omega) (fun zq => absurd zq (by omega)) (fun _ => ?_)
              refine zj_aload_n dX8_findTurn_43 (by rfl) ?_
              refine zg_8_50 rfl dX8_findTurn_44 (by first | exact k47 _ _ | exact k60 _ _ | exact k61 _ _) (by rfl) ?_
              refine zj_iload dX8_findTurn_47 (by rfl) ?_
              refine zj_laldN dX8_findTurn_49 (by first | exact k47 _ _ | exact k60 _ _ | exact k61 _ _) (by omega) ?_
              rw [g1]
              refine zj_lconst (v := 0) dX8_findTurn_50 (by decide) ?_
              refine zj_lcmp dX8_findTurn_51 ?_
              refine zj_if_ne (tgt := 58) dX8_findTurn_52 (by decide) (fun _ => ?_) (fun zq => absurd zq (mt (s_lc0 (by omega)).mp z1))
              refine zj_aload_n dX8_findTurn_58 (by rfl) ?_
              refine zj_iload_n dX8_findTurn_59 (by rfl) ?_
              refine zj_iload_n dX8_findTurn_60 (by rfl) ?_
              refine zj_iload dX8_findTurn_61 (by rfl) ?_
              refine zj_iload_n dX8_findTurn_63 (by rfl) ?_
              refine zc_8_150 rfl dX8_findTurn_64 (by first | exact k47 _ _ | exact k60 _ _ | exact k61 _ _) (hS _ _) (by exact Nat.le_of_ble_eq_true rfl) ?_
              refine zj_istore dX8_findTurn_67 (by decide) ?_
              refine zj_iload dX8_findTurn_69 (by rfl) ?_
              refine zj_if_neN (tgt := 77) dX8_findTurn_71 (by decide) (by omega) (fun _ => ?_) (fun zq => absurd zq (by omega))
              refine zj_aload_n dX8_findTurn_77 (by rfl) ?_
              refine zg_8_50 rfl dX8_findTurn_78 (by first | exact k47 _ _ | exact k60 _ _ | exact k61 _ _) (by rfl) ?_
              refine zj_iload_n dX8_findTurn_81 (by rfl) ?_
              refine zj_dup2 dX8_findTurn_82 rfl rfl ?_
              refine zj_laldN dX8_findTurn_83 (by first | exact k47 _ _ | exact k60 _ _ | exact k61 _ _) (by omega) ?_
              rw [h2]
              refine zj_aload_n dX8_findTurn_84 (by rfl) ?_
              refine zg_8_50 rfl dX8_findTurn_85 (by first | exact k47 _ _ | exact k60 _ _ | exact k61 _ _) (by rfl) ?_
              refine zj_iload dX8_findTurn_88 (by rfl) ?_
              refine zj_laldN dX8_findTurn_90 (by first | exact k47 _ _ | exact k60 _ _ | exact k61 _ _) (by omega) ?_
              rw [g1]
              refine zj_iload dX8_findTurn_91 (by rfl) ?_
              refine zj_i2l dX8_findTurn_93 ?_
              rw [nI_l (by omega)]
              refine zj_lmul dX8_findTurn_94 ?_
              rw [lN_mul]
              refine zj_ladd dX8_findTurn_95 ?_
              rw [lN_add]
              refine zj_lastN dX8_findTurn_96 (by first | exact k47 _ _ | exact k60 _ _ | exact k61 _ _) (by omega) ?_
              rw [s_c60]
              refine zj_aload_n dX8_findTurn_97 (by rfl) ?_
              refine zg_8_50 rfl dX8_findTurn_98 (by first | exact k47 _ _ | exact k60 _ _ | exact k61 _ _) (by rfl) ?_
              refine zj_iload_n dX8_findTurn_101 (by rfl) ?_
              refine zj_aload_n dX8_findTurn_102 (by rfl) ?_
              refine zg_8_50 rfl dX8_findTurn_103 (by first | exact k47 _ _ | exact k60 _ _ | exact k61 _ _) (by rfl) ?_
              refine zj_iload_n dX8_findTurn_106 (by rfl) ?_
              refine zj_laldN dX8_findTurn_107 (by first | exact k47 _ _ | exact k60 _ _ | exact k61 _ _) (by omega) ?_
              rw [pk_uLs]
              refine zj_ldc2 (v := 1000000000) dX8_findTurn_108 zq_843 ?_
              rw [e9]
              refine zj_lcmp dX8_findTurn_111 ?_
              refine zj_if_le (tgt := 121) dX8_findTurn_112 (by decide) (fun zq => absurd zq (mt sl.mp (by omega))) (fun _ => ?_)
              refine zj_ldc2 (v := 1000000000) dX8_findTurn_115 zq_843 ?_
              rw [e9]
              refine zj_goto (tgt := 127) dX8_findTurn_118 (by decide) ?_
              refine zj_lastN dX8_findTurn_127 (by first | exact k47 _ _ | exact k60 _ _ | exact k61 _ _) (by omega) ?_
              rw [s_c60]
              refine zj_aload_n dX8_findTurn_128 (by rfl) ?_
              refine zg_8_54 rfl dX8_findTurn_129 (by first | exact k47 _ _ | exact k60 _ _ | exact k61 _ _) (by rfl) ?_
              refine zj_iload dX8_findTurn_132 (by rfl) ?_
              refine zj_ialdN dX8_findTurn_134 (by first | exact k47 _ _ | exact k60 _ _ | exact k61 _ _) (by omega) ?_
              rw [g3]
              refine zj_iconst (v := nI 1) dX8_findTurn_135 (by decide) ?_
              refine zj_iaddN dX8_findTurn_136 ?_
              refine zj_istore dX8_findTurn_137 (by decide) ?_
              refine zj_aload_n dX8_findTurn_139 (by rfl) ?_
              refine zg_8_54 rfl dX8_findTurn_140 (by first | exact k47 _ _ | exact k60 _ _ | exact k61 _ _) (by rfl) ?_
              refine zj_iload_n dX8_findTurn_143 (by rfl) ?_
              refine zj_aload_n dX8_findTurn_144 (by rfl) ?_
              refine zg_8_54 rfl dX8_findTurn_145 (by first | exact k47 _ _ | exact k60 _ _ | exact k61 _ _) (by rfl) ?_
              refine zj_iload_n dX8_findTurn_148 (by rfl) ?_
              refine zj_ialdN dX8_findTurn_149 (by first | exact k47 _ _ | exact k60 _ _ | exact k61 _ _) (by omega) ?_
              rw [h4]
              refine zj_if_eqN (tgt := 164) dX8_findTurn_150 (by decide) (by omega) (fun zq => absurd zq (by omega)) (fun _ => ?_)
              refine zj_iload dX8_findTurn_153 (by rfl) ?_
              refine zj_aload_n dX8_findTurn_155 (by rfl) ?_
              refine zg_8_54 rfl dX8_findTurn_156 (by first | exact k47 _ _ | exact k60 _ _ | exact k61 _ _) (by rfl) ?_
              refine zj_iload_n dX8_findTurn_159 (by rfl) ?_
              refine zj_ialdN dX8_findTurn_160 (by first | exact k47 _ _ | exact k60 _ _ | exact k61 _ _) (by omega) ?_
              rw [h4]
              refine zj_icmp_geN (tgt := 169) dX8_findTurn_161 (by decide) (by omega) (fun zq => absurd zq (by omega)) (fun _ => ?_)
              refine zj_iload dX8_findTurn_164 (by rfl) ?_
              refine zj_goto (tgt := 175) dX8_findTurn_166 (by decide) ?_
              refine zj_iastN dX8_findTurn_175 (by first | exact k47 _ _ | exact k60 _ _ | exact k61 _ _) (by omega) ?_
              rw [List.set_set]
              refine zj_iincN dX8_findTurn_176 (by rfl) (by decide) ?_
              refine zj_goto (tgt := 37) dX8_findTurn_179 (by decide) ?_
              exact hJ _ _
            · rw [if_neg (fun x => x.elim z4 z5)] at ihv
              obtain ⟨hh, hQ, hJ⟩ := ihv (vp_updL (vp_updL wf t (lN (a + W v * N))) t (lN 1000000000)) (upd cf t (nI b)) (by omega) (hk _ _) pk_uLs (hk2 _) pk_us
              refine ⟨hh, hQ, fun o5 o6 => ?_⟩
              refine zj_iload dX8_findTurn_37 (by rfl) ?_
              refine zj_iload_n dX8_findTurn_39 (by rfl) ?_
              refine zj_icmp_geN (tgt := 182) dX8_findTurn_40 (by decide) (by omega) (fun zq => absurd zq (by omega)) (fun _ => ?_)
              refine zj_aload_n dX8_findTurn_43 (by rfl) ?_
              refine zg_8_50 rfl dX8_findTurn_44 (by first | exact k47 _ _ | exact k60 _ _ | exact k61 _ _) (by rfl) ?_
              refine zj_iload dX8_findTurn_47 (by rfl) ?_
              refine zj_laldN dX8_findTurn_49 (by first | exact k47 _ _ | exact k60 _ _ | exact k61 _ _) (by omega) ?_
              rw [g1]
              refine zj_lconst (v := 0) dX8_findTurn_50 (by decide) ?_
              refine zj_lcmp dX8_findTurn_51 ?_
              refine zj_if_ne (tgt := 58) dX8_findTurn_52 (by decide) (fun _ => ?_) (fun zq => absurd zq (mt (s_lc0 (by omega)).mp z1))
              refine zj_aload_n dX8_findTurn_58 (by rfl) ?_
              refine zj_iload_n dX8_findTurn_59 (by rfl) ?_
              refine zj_iload_n dX8_findTurn_60 (by rfl) ?_
              refine zj_iload dX8_findTurn_61 (by rfl) ?_
              refine zj_iload_n dX8_findTurn_63 (by rfl) ?_
              refine zc_8_150 rfl dX8_findTurn_64 (by first | exact k47 _ _ | exact k60 _ _ | exact k61 _ _) (hS _ _) (by exact Nat.le_of_ble_eq_true rfl) ?_
              refine zj_istore dX8_findTurn_67 (by decide) ?_
              refine zj_iload dX8_findTurn_69 (by rfl) ?_
              refine zj_if_neN (tgt := 77) dX8_findTurn_71 (by decide) (by omega) (fun _ => ?_) (fun zq => absurd zq (by omega))
              refine zj_aload_n dX8_findTurn_77 (by rfl) ?_
              refine zg_8_50 rfl dX8_findTurn_78 (by first | exact k47 _ _ | exact k60 _ _ | exact k61 _ _) (by rfl) ?_
              refine zj_iload_n dX8_findTurn_81 (by rfl) ?_
              refine zj_dup2 dX8_findTurn_82 rfl rfl ?_
              refine zj_laldN dX8_findTurn_83 (by first | exact k47 _ _ | exact k60 _ _ | exact k61 _ _) (by omega) ?_
              rw [h2]
              refine zj_aload_n dX8_findTurn_84 (by rfl) ?_
              refine zg_8_50 rfl dX8_findTurn_85 (by first | exact k47 _ _ | exact k60 _ _ | exact k61 _ _) (by rfl) ?_
              refine zj_iload dX8_findTurn_88 (by rfl) ?_
              refine zj_laldN dX8_findTurn_90 (by first | exact k47 _ _ | exact k60 _ _ | exact k61 _ _) (by omega) ?_
              rw [g1]
              refine zj_iload dX8_findTurn_91 (by rfl) ?_
              refine zj_i2l dX8_findTurn_93 ?_
              rw [nI_l (by omega)]
              refine zj_lmul dX8_findTurn_94 ?_
              rw [lN_mul]
              refine zj_ladd dX8_findTurn_95 ?_
              rw [lN_add]
              refine zj_lastN dX8_findTurn_96 (by first | exact k47 _ _ | exact k60 _ _ | exact k61 _ _) (by omega) ?_
              rw [s_c60]
              refine zj_aload_n dX8_findTurn_97 (by rfl) ?_
              refine zg_8_50 rfl dX8_findTurn_98 (by first | exact k47 _ _ | exact k60 _ _ | exact k61 _ _) (by rfl) ?_
              refine zj_iload_n dX8_findTurn_101 (by rfl) ?_
              refine zj_aload_n dX8_findTurn_102 (by rfl) ?_
              refine zg_8_50 rfl dX8_findTurn_103 (by first | exact k47 _ _ | exact k60 _ _ | exact k61 _ _) (by rfl) ?_
              refine zj_iload_n dX8_findTurn_106 (by rfl) ?_
              refine zj_laldN dX8_findTurn_107 (by first | exact k47 _ _ | exact k60 _ _ | exact k61 _ _) (by omega) ?_
              rw [pk_uLs]
              refine zj_ldc2 (v := 1000000000) dX8_findTurn_108 zq_843 ?_
              rw [e9]
              refine zj_lcmp dX8_findTurn_111 ?_
              refine zj_if_le (tgt := 121) dX8_findTurn_112 (by decide) (fun zq => absurd zq (mt sl.mp (by omega))) (fun _ => ?_)
              refine zj_ldc2 (v := 1000000000) dX8_findTurn_115 zq_843 ?_
              rw [e9]
              refine zj_goto (tgt := 127) dX8_findTurn_118 (by decide) ?_
              refine zj_lastN dX8_findTurn_127 (by first | exact k47 _ _ | exact k60 _ _ | exact k61 _ _) (by omega) ?_
              rw [s_c60]
              refine zj_aload_n dX8_findTurn_128 (by rfl) ?_
              refine zg_8_54 rfl dX8_findTurn_129 (by first | exact k47 _ _ | exact k60 _ _ | exact k61 _ _) (by rfl) ?_
              refine zj_iload dX8_findTurn_132 (by rfl) ?_
              refine zj_ialdN dX8_findTurn_134 (by first | exact k47 _ _ | exact k60 _ _ | exact k61 _ _) (by omega) ?_
              rw [g3]
              refine zj_iconst (v := nI 1) dX8_findTurn_135 (by decide) ?_
              refine zj_iaddN dX8_findTurn_136 ?_
              refine zj_istore dX8_findTurn_137 (by decide) ?_
              refine zj_aload_n dX8_findTurn_139 (by rfl) ?_
              refine zg_8_54 rfl dX8_findTurn_140 (by first | exact k47 _ _ | exact k60 _ _ | exact k61 _ _) (by rfl) ?_
              refine zj_iload_n dX8_findTurn_143 (by rfl) ?_
              refine zj_aload_n dX8_findTurn_144 (by rfl) ?_
              refine zg_8_54 rfl dX8_findTurn_145 (by first | exact k47 _ _ | exact k60 _ _ | exact k61 _ _) (by rfl) ?_
              refine zj_iload_n dX8_findTurn_148 (by rfl) ?_
              refine zj_ialdN dX8_findTurn_149 (by first | exact k47 _ _ | exact k60 _ _ | exact k61 _ _) (by omega) ?_
              rw [h4]
              refine zj_if_eqN (tgt := 164) dX8_findTurn_150 (by decide) (by omega) (fun zq => absurd zq (by omega)) (fun _ => ?_)
              refine zj_iload dX8_findTurn_153 (by rfl) ?_
              refine zj_aload_n dX8_findTurn_155 (by rfl) ?_
              refine zg_8_54 rfl dX8_findTurn_156 (by first | exact k47 _ _ | exact k60 _ _ | exact k61 _ _) (by rfl) ?_
              refine zj_iload_n dX8_findTurn_159 (by rfl) ?_
              refine zj_ialdN dX8_findTurn_160 (by first | exact k47 _ _ | exact k60 _ _ | exact k61 _ _) (by omega) ?_
              rw [h4]
              refine zj_icmp_geN (tgt := 169) dX8_findTurn_161 (by decide) (by omega) (fun _ => ?_) (fun zq => absurd (by omega) zq)
              refine zj_aload_n dX8_findTurn_169 (by rfl) ?_
              refine zg_8_54 rfl dX8_findTurn_170 (by first | exact k47 _ _ | exact k60 _ _ | exact k61 _ _) (by rfl) ?_
              refine zj_iload_n dX8_findTurn_173 (by rfl) ?_
              refine zj_ialdN dX8_findTurn_174 (by first | exact k47 _ _ | exact k60 _ _ | exact k61 _ _) (by omega) ?_
              rw [h4]
              refine zj_iastN dX8_findTurn_175 (by first | exact k47 _ _ | exact k60 _ _ | exact k61 _ _) (by omega) ?_
              rw [List.set_set]
              refine zj_iincN dX8_findTurn_176 (by rfl) (by decide) ?_
              refine zj_goto (tgt := 37) dX8_findTurn_179 (by decide) ?_
              exact hJ _ _
theorem s_wi_congr {w w' K : Nat → Nat} : ∀ v, (∀ j, j < v → w j = w' j) → s_wi w K v = s_wi w' K v
  | 0, _ => rfl
  | v + 1, h => by
    have ih := s_wi_congr (w := w) (w' := w') (K := K) v (fun j hj => h j (by omega))
    have e : ∀ w, s_wi w K (v + 1) = if w v = 0 ∨ K v = 0 then s_wi w K v else min (s_wi w K v + w v * K v) s_M := fun _ => rfl
    rw [e, e, ih, h v (by omega)]
theorem s_ci_congr {w w' K c c' : Nat → Nat} : ∀ v, (∀ j, j < v → w j = w' j ∧ c j = c' j) → s_ci w K c v = s_ci w' K c' v
  | 0, _ => rfl
  | v + 1, h => by
    have ih := s_ci_congr (w := w) (w' := w') (K := K) (c := c) (c' := c') v (fun j hj => h j (by omega))
    have e : ∀ w c, s_ci w K c (v + 1) = if w v = 0 ∨ K v = 0 then s_ci w K c v else if s_ci w K c v = 0 ∨ c v + 1 < s_ci w K c v then c v + 1 else s_ci w K c v := fun _ _ => rfl
    rw [e, e, ih, (h v (by omega)).1, (h v (by omega)).2]
theorem s_wc_le {f g : Nat → Int32} {n e t : Nat} {W c : Nat → Nat} (h : s_wc f g n e W c t) : ∀ k, k ≤ t → W k ≤ s_M ∧ c k ≤ k := by
  have key : ∀ b k, k ≤ b → k ≤ t → W k ≤ s_M ∧ c k ≤ k := by
    intro b
    induction b with
    | zero => intro k hk _; rw [show k = 0 by omega, h.1, h.2.1]; exact ⟨s_M1, Nat.le_refl _⟩
    | succ b ih =>
      intro k hk hkt
      by_cases h0 : k ≤ b
      · exact ih k h0 hkt
      · rw [(h.2.2 k (by omega) hkt).1, (h.2.2 k (by omega) hkt).2]
        exact ⟨s_wi_le _, s_ci_le k (fun j hj => by have := (ih j (by omega) (by omega)).2; omega)⟩
  exact fun k hk => key k k (Nat.le_refl _) hk
theorem s_wc_up {f g : Nat → Int32} {n e t : Nat} {W c : Nat → Nat} (h : s_wc f g n e W c t) : ∃ W' c', s_wc f g n e W' c' (t + 1) ∧ (∀ k, k ≤ t → W' k = W k ∧ c' k = c k) ∧ W' (t + 1) = s_wi W (fun v => s_K f g n e v (t + 1)) (t + 1) ∧ c' (t + 1) = s_ci W (fun v => s_K f g n e v (t + 1)) c (t + 1) := by
  refine ⟨fun k => if k = t + 1 then s_wi W (fun v => s_K f g n e v (t + 1)) (t + 1) else W k, fun k => if k = t + 1 then s_ci W (fun v => s_K f g n e v (t + 1)) c (t + 1) else c k, ⟨?_, ?_, ?_⟩, ?_, if_pos rfl, if_pos rfl⟩
  · show (if 0 = t + 1 then _ else _) = _; rw [if_neg (by omega)]; exact h.1
  · show (if 0 = t + 1 then _ else _) = _; rw [if_neg (by omega)]; exact h.2.1
  · intro x hx1 hx2
    have a1 : ∀ j, j < x → W j = (fun k => if k = t + 1 then s_wi W (fun v => s_K f g n e v (t + 1)) (t + 1) else W k) j := fun j hj => by
      show _ = if j = t + 1 then _ else _
      rw [if_neg (by omega)]
    have a2 : ∀ j, j < x → c j = (fun k => if k = t + 1 then s_ci W (fun v => s_K f g n e v (t + 1)) c (t + 1) else c k) j := fun j hj => by
      show _ = if j = t + 1 then _ else _
      rw [if_neg (by omega)]
    rw [← s_wi_congr x a1, ← s_ci_congr x (fun j hj => ⟨a1 j hj, a2 j hj⟩)]
    by_cases hx : x = t + 1
    · subst hx
      exact ⟨if_pos rfl, if_pos rfl⟩
    · refine ⟨?_, ?_⟩
      · show (if x = t + 1 then _ else _) = _; rw [if_neg hx]; exact (h.2.2 x hx1 (by omega)).1
      · show (if x = t + 1 then _ else _) = _; rw [if_neg hx]; exact (h.2.2 x hx1 (by omega)).2
  · intro k hk
    exact ⟨if_neg (by omega), if_neg (by omega)⟩
def s_FT (h : zH) (l : List Int32) (q : List Nat) (h1 : zH) : Prop := ∃ W c wf cf, s_wc (s_pf q) (s_sg l) q.length l.length W c l.length ∧ (∀ k, k ≤ l.length → wf k = lN (W k)) ∧ (∀ k, k ≤ l.length → cf k = nI (c k)) ∧ h1 = (h.set 60 (.inl (2, 61, .inr (.inl wf)))).set 61 (.inl (1, 61, .inl cf))
theorem m_ft_l (w : WF C P S T H O g) (r : RM h C P S T H O g) {w0 : Nat → Int64} {f0 : Nat → Int32} (hp : p < 6) (hs : s < 2) (hl : S s = some l) (a60 : h[60]? = some (.inl (2, 61, .inr (.inl w0)))) (a61 : h[61]? = some (.inl (1, 61, .inl f0))) : ∀ m t W c wf cf, t + m = l.length → s_wc (s_pf (P p)) (s_sg l) (P p).length l.length W c t → (∀ k, k ≤ t → wf k = lN (W k)) → (∀ k, k ≤ t → cf k = nI (c k)) → ∃ h1, s_FT h l (P p) h1 ∧ ∀ o4 o5 o6, zB mX8_findTurn (d + 1) none h1 2 [some (.ref 47), some (.int (nI p)), some (.int (nI s)), some (.int (nI (t + 1))), o4, o5, o6] [] ((h.set 60 (.inl (2, 61, .inr (.inl wf)))).set 61 (.inl (1, 61, .inl cf))) := by
  obtain ⟨m47, m48, m49, m50, m51, m52, m53, m54, m55, m56, m57, m58, m59, m60, m61, m62, m63⟩ := id r
  obtain ⟨rd, wr, hw, o0⟩ := m47
  obtain ⟨f7, a57, q57⟩ := m57
  have q : f7 s = nI l.length := by have q := q57 s hs; rw [hl] at q; exact q
  have l2 := (w.2.1 p hp).1
  have l3 := (w.2.2.1 s hs l hl).1
  have k47 : ∀ A B, ((h.set 60 A).set 61 B)[47]? = some (.inr (8, s_mo g O.length T.length rd wr)) := fun A B => zset_ne (by decide) (zset_ne (by decide) o0)
  have k57 : ∀ A B, ((h.set 60 A).set 61 B)[57]? = some (.inl (1, 2, .inl f7)) := fun A B => zset_ne (by decide) (zset_ne (by decide) a57)
  have k60 : ∀ A B, ((h.set 60 (.inl (2, 61, .inr (.inl A)))).set 61 B)[60]? = some (.inl (2, 61, .inr (.inl A))) := fun A B => zset_ne (by decide) (zset_eq a60)
  have k61 : ∀ A B, ((h.set 60 A).set 61 (.inl (1, 61, .inl B)))[61]? = some (.inl (1, 61, .inl B)) := fun A B => zset_eq (zset_ne (by decide) a61)
  intro m
  induction m with
  | zero =>
    intro t W c wf cf ht hwc hwf hcf
    obtain rfl : t = l.length := by omega
    refine ⟨_, ⟨W, c, wf, cf, hwc, hwf, hcf, rfl⟩, fun o4 o5 o6 => ?_⟩
    refine zj_iload_n dX8_findTurn_2 (by rfl) ?_
    refine zj_aload_n dX8_findTurn_3 (by rfl) ?_
    refine zg_8_41 rfl dX8_findTurn_4 (by first | exact k47 _ _ | exact k57 _ _ | exact k60 _ _ | exact k61 _ _) (by rfl) ?_
    refine zj_iload_n dX8_findTurn_7 (by rfl) ?_
    refine zj_ialdN dX8_findTurn_8 (by first | exact k47 _ _ | exact k57 _ _ | exact k60 _ _ | exact k61 _ _) (by omega) ?_
    rw [q]
    refine zj_icmp_gtN (tgt := 188) dX8_findTurn_9 (by decide) (by omega) (fun _ => ?_) (fun zq => absurd (by omega) zq)
    refine zj_vret dX8_findTurn_188 rfl (Nat.le_refl _) (Nat.le_refl _) ?_
    exact ⟨rfl, rfl⟩
  | succ m ih =>
    intro t W c wf cf ht hwc hwf hcf
    obtain ⟨W', c', hwc', hag, hW', hc'⟩ := s_wc_up hwc
    have hle := s_wc_le hwc
    have hI := m_ft_in (d := d) (t := t + 1) (W := W) (c := c) (Q := s_FT h l (P p)) w r hp hs hl (by omega) a60 a61 (fun k hk => (hle k (by omega)).1) (fun k hk => (hle k (by omega)).2) (fun wf cf b1 b2 b3 b4 => by
      obtain ⟨hh, hQ, hJ⟩ := ih (t + 1) W' c' wf cf (by omega) hwc' (fun k hk => by
        by_cases e : k = t + 1
        · rw [e, hW']; exact b2
        · rw [(hag k (by omega)).1]; exact b1 k (by omega)) (fun k hk => by
        by_cases e : k = t + 1
        · rw [e, hc']; exact b4
        · rw [(hag k (by omega)).2]; exact b3 k (by omega))
      refine ⟨hh, hQ, fun o5 o6 => ?_⟩
      refine zj_iincN dX8_findTurn_182 (by rfl) (by decide) ?_
      refine zj_goto (tgt := 2) dX8_findTurn_185 (by decide) ?_
      exact hJ _ _ _) (t + 1) 0 (vp_updL wf (t + 1) (lN 0)) (upd cf (t + 1) (nI 0)) (by omega) (fun k hk => by rw [pk_uLn (by omega)]; exact hwf k (by omega)) pk_uLs (fun k hk => by rw [pk_un (by omega)]; exact hcf k (by omega)) pk_us
    obtain ⟨hh, hQ, hJ⟩ := hI
    refine ⟨hh, hQ, fun o4 o5 o6 => ?_⟩
    refine zj_iload_n dX8_findTurn_2 (by rfl) ?_
    refine zj_aload_n dX8_findTurn_3 (by rfl) ?_
    refine zg_8_41 rfl dX8_findTurn_4 (by first | exact k47 _ _ | exact k57 _ _ | exact k60 _ _ | exact k61 _ _) (by rfl) ?_
    refine zj_iload_n dX8_findTurn_7 (by rfl) ?_
    refine zj_ialdN dX8_findTurn_8 (by first | exact k47 _ _ | exact k57 _ _ | exact k60 _ _ | exact k61 _ _) (by omega) ?_
    rw [q]
    refine zj_icmp_gtN (tgt := 188) dX8_findTurn_9 (by decide) (by omega) (fun zq => absurd zq (by omega)) (fun _ => ?_)
    refine zj_aload_n dX8_findTurn_12 (by rfl) ?_
    refine zg_8_50 rfl dX8_findTurn_13 (by first | exact k47 _ _ | exact k57 _ _ | exact k60 _ _ | exact k61 _ _) (by rfl) ?_
    refine zj_iload_n dX8_findTurn_16 (by rfl) ?_
    refine zj_iload_n dX8_findTurn_17 (by rfl) ?_
    refine zj_if_neN (tgt := 25) dX8_findTurn_18 (by decide) (by omega) (fun _ => ?_) (fun zq => absurd zq (by omega))
    refine zj_lconst (v := 0) dX8_findTurn_25 (by decide) ?_
    rw [show (0 : Int64) = lN 0 from rfl]
    refine zj_lastN dX8_findTurn_26 (by first | exact k47 _ _ | exact k57 _ _ | exact k60 _ _ | exact k61 _ _) (by omega) ?_
    rw [s_c60]
    refine zj_aload_n dX8_findTurn_27 (by rfl) ?_
    refine zg_8_54 rfl dX8_findTurn_28 (by first | exact k47 _ _ | exact k57 _ _ | exact k60 _ _ | exact k61 _ _) (by rfl) ?_
    refine zj_iload_n dX8_findTurn_31 (by rfl) ?_
    refine zj_iconst (v := nI 0) dX8_findTurn_32 (by decide) ?_
    refine zj_iastN dX8_findTurn_33 (by first | exact k47 _ _ | exact k57 _ _ | exact k60 _ _ | exact k61 _ _) (by omega) ?_
    rw [List.set_set]
    refine zj_iconst (v := nI 0) dX8_findTurn_34 (by decide) ?_
    refine zj_istore dX8_findTurn_35 (by decide) ?_
    exact hJ _ _
theorem m_findTurn (w : WF C P S T H O g) (r : RM h C P S T H O g) (hp : p < 6) (hs : s < 2) (hl : S s = some l) : ∃ h1 W c wf cf, (s_wc (s_pf (P p)) (s_sg l) (P p).length l.length W c l.length ∧ (∀ k, k ≤ l.length → wf k = lN (W k)) ∧ (∀ k, k ≤ l.length → cf k = nI (c k)) ∧ h1[60]? = some (.inl (2, 61, .inr (.inl wf))) ∧ h1[61]? = some (.inl (1, 61, .inl cf)) ∧ RM h1 C P S T H O g ∧ zEq 0 46 h h1) ∧ zD mX8_findTurn (d + 1) [.ref 47, .int (nI p), .int (nI s)] h none h1 := by
  obtain ⟨m47, m48, m49, m50, m51, m52, m53, m54, m55, m56, m57, m58, m59, m60, m61, m62, m63⟩ := id r
  obtain ⟨rd, wr, hw, o0⟩ := m47
  obtain ⟨f7, a57, q57⟩ := m57
  obtain ⟨w0, a60⟩ := m60
  obtain ⟨f0, a61, -⟩ := m61
  have q : f7 s = nI l.length := by have q := q57 s hs; rw [hl] at q; exact q
  have l3 := (w.2.2.1 s hs l hl).1
  obtain ⟨h1, ⟨W, c, wf, cf, e1, e2, e3, e4⟩, hJ⟩ := m_ft_l (d := d) w r hp hs hl a60 a61 l.length 0 (fun _ => 1) (fun _ => 0) (vp_updL w0 0 (lN 1)) (upd f0 0 (nI 0)) (by omega) ⟨rfl, rfl, fun x h1 h2 => by omega⟩ (fun k hk => by rw [show k = 0 by omega]; exact pk_uLs) (fun k hk => by rw [show k = 0 by omega]; exact pk_us)
  refine ⟨h1, W, c, wf, cf, ⟨e1, e2, e3, ?_, ?_, ?_, ?_⟩, ?_⟩
  · rw [e4]; exact zset_ne (by decide) (zset_eq a60)
  · rw [e4]; exact zset_eq (zset_ne (by decide) a61)
  · rw [e4]; exact RM_6061 r a60 a61
  · rw [e4]
    intro j j1 j2
    rw [List.getElem?_set, if_neg (by omega), List.getElem?_set, if_neg (by omega)]
  · have k47 : ∀ A, (h.set 60 A)[47]? = some (.inr (8, s_mo g O.length T.length rd wr)) := fun A => zset_ne (by decide) o0
    have k61 : ∀ A, (h.set 60 A)[61]? = some (.inl (1, 61, .inl f0)) := fun A => zset_ne (by decide) a61
    refine zD_of (by decide +kernel) (by exact Nat.le_of_ble_eq_true rfl) ?_
    show zB mX8_findTurn _ _ _ 0 [some (.ref 47), some (.int (nI p)), some (.int (nI s)), none, none, none, none] [] _
    refine zj_iconst (v := nI 0) dX8_findTurn_0 (by decide) ?_
    refine zj_istore_n dX8_findTurn_1 (by decide) ?_
    skip
    refine zj_iload_n dX8_findTurn_2 (by rfl) ?_
    refine zj_aload_n dX8_findTurn_3 (by rfl) ?_
    refine zg_8_41 rfl dX8_findTurn_4 (by first | assumption | exact k47 _ | exact k61 _) (by rfl) ?_
    refine zj_iload_n dX8_findTurn_7 (by rfl) ?_
    refine zj_ialdN dX8_findTurn_8 (by first | assumption | exact k47 _ | exact k61 _) (by omega) ?_
    rw [q]
    refine zj_icmp_gtN (tgt := 188) dX8_findTurn_9 (by decide) (by omega) (fun zq => absurd zq (by omega)) (fun _ => ?_)
    refine zj_aload_n dX8_findTurn_12 (by rfl) ?_
    refine zg_8_50 rfl dX8_findTurn_13 (by first | assumption | exact k47 _ | exact k61 _) (by rfl) ?_
    refine zj_iload_n dX8_findTurn_16 (by rfl) ?_
    refine zj_iload_n dX8_findTurn_17 (by rfl) ?_
    refine zj_if_neN (tgt := 25) dX8_findTurn_18 (by decide) (by omega) (fun zq => absurd (by omega) zq) (fun _ => ?_)
    refine zj_lconst (v := 1) dX8_findTurn_21 (by decide) ?_
    rw [show (1 : Int64) = lN 1 from rfl]
    refine zj_goto (tgt := 26) dX8_findTurn_22 (by decide) ?_
    refine zj_lastN dX8_findTurn_26 (by first | assumption | exact k47 _ | exact k61 _) (by omega) ?_
    refine zj_aload_n dX8_findTurn_27 (by rfl) ?_
    refine zg_8_54 rfl dX8_findTurn_28 (by first | assumption | exact k47 _ | exact k61 _) (by rfl) ?_
    refine zj_iload_n dX8_findTurn_31 (by rfl) ?_
    refine zj_iconst (v := nI 0) dX8_findTurn_32 (by decide) ?_
    refine zj_iastN dX8_findTurn_33 (by first | assumption | exact k47 _ | exact k61 _) (by omega) ?_
    refine zj_iconst (v := nI 0) dX8_findTurn_34 (by decide) ?_
    refine zj_istore dX8_findTurn_35 (by decide) ?_
    refine zj_iload dX8_findTurn_37 (by rfl) ?_
    refine zj_iload_n dX8_findTurn_39 (by rfl) ?_
    refine zj_icmp_geN (tgt := 182) dX8_findTurn_40 (by decide) (by omega) (fun _ => ?_) (fun zq => absurd (by omega) zq)
    refine zj_iincN dX8_findTurn_182 (by rfl) (by decide) ?_
    refine zj_goto (tgt := 2) dX8_findTurn_185 (by decide) ?_
    exact hJ _ _ _
theorem m_badt {p s : Int32} (hb : s_badt p s) : (∃ z, zD mX8_isPhrase (d + 1) [.int p] h (some (.int z)) h ∧ z = 0) ∨ ((∃ q, q < 6 ∧ p = nI q) ∧ zD mX8_isSheet (d + 1) [.int s] h (some (.int 0)) h) := by
  by_cases h1 : p < 0 ∨ 6 ≤ p
  · exact Or.inl ⟨0, m_isPhraseN h1, rfl⟩
  · obtain ⟨j, hj, e⟩ : ∃ j, j < 6 ∧ p = nI j := ((pk_ix p (n := 6) (by decide)).resolve_left (fun e => h1 (Or.inl e))).resolve_left (fun e => h1 (Or.inr e))
    exact Or.inr ⟨⟨j, hj, e⟩, m_isSheetN (hb.resolve_left h1)⟩
theorem m_waysA (r : RM h C P S T H O g) {p s : Int32} (hb : s_badt p s) : zD mX8_ways (d + 2) [.ref 47, .int p, .int s] h (some (.int (-1000000001))) h := by
  rcases m_badt (d := d) (h := h) hb with ⟨z, h1, rfl⟩ | ⟨⟨q, hq, rfl⟩, h2⟩
  · refine zD_of (by decide +kernel) (by exact Nat.le_of_ble_eq_true rfl) ?_
    show zB mX8_ways _ _ _ 0 [some (.ref 47), some (.int p), some (.int s)] [] _
    refine zj_iload_n dX8_ways_0 (by rfl) ?_
    refine zc_8_103 rfl dX8_ways_1 h1 (by exact Nat.le_of_ble_eq_true rfl) ?_
    refine zj_if_eq (tgt := 14) dX8_ways_4 (by decide) (fun _ => ?_) (fun zq => absurd (rfl) zq)
    refine zj_ldc (v := -1000000001) dX8_ways_14 zq_686 ?_
    refine zj_iret dX8_ways_16 rfl (Nat.le_refl _) (Nat.le_refl _) ?_
    exact ⟨rfl, rfl⟩
  · refine zD_of (by decide +kernel) (by exact Nat.le_of_ble_eq_true rfl) ?_
    show zB mX8_ways _ _ _ 0 [some (.ref 47), some (.int (nI q)), some (.int s)] [] _
    refine zj_iload_n dX8_ways_0 (by rfl) ?_
    refine zc_8_103 rfl dX8_ways_1 (m_isPhrase hq) (by exact Nat.le_of_ble_eq_true rfl) ?_
    refine zj_if_eq (tgt := 14) dX8_ways_4 (by decide) (fun zq => absurd zq (by decide)) (fun _ => ?_)
    refine zj_iload_n dX8_ways_7 (by rfl) ?_
    refine zc_8_155 rfl dX8_ways_8 h2 (by exact Nat.le_of_ble_eq_true rfl) ?_
    refine zj_if_ne (tgt := 17) dX8_ways_11 (by decide) (fun zq => absurd (rfl) zq) (fun _ => ?_)
    refine zj_ldc (v := -1000000001) dX8_ways_14 zq_686 ?_
    refine zj_iret dX8_ways_16 rfl (Nat.le_refl _) (Nat.le_refl _) ?_
    exact ⟨rfl, rfl⟩
theorem m_waysN (r : RM h C P S T H O g) (hp : p < 6) (hs : s < 2) (hn : S s = none) : zD mX8_ways (d + 2) [.ref 47, .int (nI p), .int (nI s)] h (some (.int (-1000000011))) h := by
  obtain ⟨m47, m48, m49, m50, m51, m52, m53, m54, m55, m56, m57, m58, m59, m60, m61, m62, m63⟩ := id r
  obtain ⟨rd, wr, hw, o0⟩ := m47
  obtain ⟨f7, a57, q57⟩ := m57
  have q : f7 s = -1 := by have q := q57 s hs; rw [hn] at q; exact q
  refine zD_of (by decide +kernel) (by exact Nat.le_of_ble_eq_true rfl) ?_
  show zB mX8_ways _ _ _ 0 [some (.ref 47), some (.int (nI p)), some (.int (nI s))] [] _
  refine zj_iload_n dX8_ways_0 (by rfl) ?_
  refine zc_8_103 rfl dX8_ways_1 (m_isPhrase hp) (by exact Nat.le_of_ble_eq_true rfl) ?_
  refine zj_if_eq (tgt := 14) dX8_ways_4 (by decide) (fun zq => absurd zq (by decide)) (fun _ => ?_)
  refine zj_iload_n dX8_ways_7 (by rfl) ?_
  refine zc_8_155 rfl dX8_ways_8 (m_isSheet hs) (by exact Nat.le_of_ble_eq_true rfl) ?_
  refine zj_if_ne (tgt := 17) dX8_ways_11 (by decide) (fun _ => ?_) (fun zq => absurd zq (by decide))
  refine zj_aload_n dX8_ways_17 (by rfl) ?_
  refine zg_8_41 rfl dX8_ways_18 (by first | assumption | rfl) (by rfl) ?_
  refine zj_iload_n dX8_ways_21 (by rfl) ?_
  refine zj_iald dX8_ways_22 (by first | assumption | rfl) (vp_in_nI (show s < 2 by omega) (by omega)) ?_
  rw [nI_clamp (show s < 2 ^ 31 by omega), q]
  refine zj_if_ge (tgt := 29) dX8_ways_23 (by decide) (fun zq => absurd zq (by decide)) (fun _ => ?_)
  refine zj_ldc (v := -1000000011) dX8_ways_26 zq_834 ?_
  refine zj_iret dX8_ways_28 rfl (Nat.le_refl _) (Nat.le_refl _) ?_
  exact ⟨rfl, rfl⟩
theorem m_ways (w : WF C P S T H O g) (r : RM h C P S T H O g) (hp : p < 6) (hs : s < 2) (hl : S s = some l) : ∃ h', zD mX8_ways (d + 2) [.ref 47, .int (nI p), .int (nI s)] h (some (.int (nI (s_wl (s_P (s_fit (s_pf (P p)) (s_sg l) (P p).length l.length) (P p).length) l.length)))) h' ∧ RM h' C P S T H O g ∧ zEq 0 46 h h' := by
  obtain ⟨m47, m48, m49, m50, m51, m52, m53, m54, m55, m56, m57, m58, m59, m60, m61, m62, m63⟩ := id r
  obtain ⟨rd, wr, hw, o0⟩ := m47
  obtain ⟨f7, a57, q57⟩ := m57
  have q : f7 s = nI l.length := by have q := q57 s hs; rw [hl] at q; exact q
  have l3 := (w.2.2.1 s hs l hl).1
  obtain ⟨h1, W, c, wf, cf, ⟨e1, e2, e3, b60, b61, r1, z1⟩, hF⟩ := m_findTurn (d := d) w r hp hs hl
  refine ⟨h1, ?_, r1, z1⟩
  obtain ⟨n47, n48, n49, n50, n51, n52, n53, n54, n55, n56, n57, n58, n59, n60, n61, n62, n63⟩ := id r1
  obtain ⟨rd1, wr1, hw1, o1⟩ := n47
  obtain ⟨f71, b57, q571⟩ := n57
  have q1 : f71 s = nI l.length := by have q := q571 s hs; rw [hl] at q; exact q
  by_cases h0 : l.length = 0
  · have ea : s_wl (s_P (s_fit (s_pf (P p)) (s_sg l) (P p).length l.length) (P p).length) l.length = 0 := if_pos h0
    rw [ea]
    refine zD_of (by decide +kernel) (by exact Nat.le_of_ble_eq_true rfl) ?_
    show zB mX8_ways _ _ _ 0 [some (.ref 47), some (.int (nI p)), some (.int (nI s))] [] _
    refine zj_iload_n dX8_ways_0 (by rfl) ?_
    refine zc_8_103 rfl dX8_ways_1 (m_isPhrase hp) (by exact Nat.le_of_ble_eq_true rfl) ?_
    refine zj_if_eq (tgt := 14) dX8_ways_4 (by decide) (fun zq => absurd zq (by decide)) (fun _ => ?_)
    refine zj_iload_n dX8_ways_7 (by rfl) ?_
    refine zc_8_155 rfl dX8_ways_8 (m_isSheet hs) (by exact Nat.le_of_ble_eq_true rfl) ?_
    refine zj_if_ne (tgt := 17) dX8_ways_11 (by decide) (fun _ => ?_) (fun zq => absurd zq (by decide))
    refine zj_aload_n dX8_ways_17 (by rfl) ?_
    refine zg_8_41 rfl dX8_ways_18 (by first | assumption | rfl) (by rfl) ?_
    refine zj_iload_n dX8_ways_21 (by rfl) ?_
    refine zj_ialdN dX8_ways_22 (by first | assumption | rfl) (by omega) ?_
    rw [q]
    refine zj_if_geN (tgt := 29) dX8_ways_23 (by decide) (by omega) ?_
    refine zj_aload_n dX8_ways_29 (by rfl) ?_
    refine zj_iload_n dX8_ways_30 (by rfl) ?_
    refine zj_iload_n dX8_ways_31 (by rfl) ?_
    refine zc_8_159 rfl dX8_ways_32 (by first | assumption | rfl) hF (by exact Nat.le_of_ble_eq_true rfl) ?_
    refine zj_aload_n dX8_ways_35 (by rfl) ?_
    refine zg_8_41 rfl dX8_ways_36 (by first | assumption | rfl) (by rfl) ?_
    refine zj_iload_n dX8_ways_39 (by rfl) ?_
    refine zj_ialdN dX8_ways_40 (by first | assumption | rfl) (by omega) ?_
    rw [q1]
    refine zj_if_neN (tgt := 48) dX8_ways_41 (by decide) (by omega) (fun zq => absurd (by omega) zq) (fun _ => ?_)
    refine zj_iconst (v := nI 0) dX8_ways_44 (by decide) ?_
    refine zj_goto (tgt := 60) dX8_ways_45 (by decide) ?_
    refine zj_iret dX8_ways_60 rfl (Nat.le_refl _) (Nat.le_refl _) ?_
    exact ⟨rfl, rfl⟩
  · have ea := s_wc_ways (by omega) e1
    have ew := e2 l.length (Nat.le_refl _)
    rw [ea] at ew
    refine zD_of (by decide +kernel) (by exact Nat.le_of_ble_eq_true rfl) ?_
    show zB mX8_ways _ _ _ 0 [some (.ref 47), some (.int (nI p)), some (.int (nI s))] [] _
    refine zj_iload_n dX8_ways_0 (by rfl) ?_
    refine zc_8_103 rfl dX8_ways_1 (m_isPhrase hp) (by exact Nat.le_of_ble_eq_true rfl) ?_
    refine zj_if_eq (tgt := 14) dX8_ways_4 (by decide) (fun zq => absurd zq (by decide)) (fun _ => ?_)
    refine zj_iload_n dX8_ways_7 (by rfl) ?_
    refine zc_8_155 rfl dX8_ways_8 (m_isSheet hs) (by exact Nat.le_of_ble_eq_true rfl) ?_
    refine zj_if_ne (tgt := 17) dX8_ways_11 (by decide) (fun _ => ?_) (fun zq => absurd zq (by decide))
    refine zj_aload_n dX8_ways_17 (by rfl) ?_
    refine zg_8_41 rfl dX8_ways_18 (by first | assumption | rfl) (by rfl) ?_
    refine zj_iload_n dX8_ways_21 (by rfl) ?_
    refine zj_ialdN dX8_ways_22 (by first | assumption | rfl) (by omega) ?_
    rw [q]
    refine zj_if_geN (tgt := 29) dX8_ways_23 (by decide) (by omega) ?_
    refine zj_aload_n dX8_ways_29 (by rfl) ?_
    refine zj_iload_n dX8_ways_30 (by rfl) ?_
    refine zj_iload_n dX8_ways_31 (by rfl) ?_
    refine zc_8_159 rfl dX8_ways_32 (by first | assumption | rfl) hF (by exact Nat.le_of_ble_eq_true rfl) ?_
    refine zj_aload_n dX8_ways_35 (by rfl) ?_
    refine zg_8_41 rfl dX8_ways_36 (by first | assumption | rfl) (by rfl) ?_
    refine zj_iload_n dX8_ways_39 (by rfl) ?_
    refine zj_ialdN dX8_ways_40 (by first | assumption | rfl) (by omega) ?_
    rw [q1]
    refine zj_if_neN (tgt := 48) dX8_ways_41 (by decide) (by omega) (fun _ => ?_) (fun zq => absurd zq (by omega))
    refine zj_aload_n dX8_ways_48 (by rfl) ?_
    refine zg_8_50 rfl dX8_ways_49 (by first | assumption | rfl) (by rfl) ?_
    refine zj_aload_n dX8_ways_52 (by rfl) ?_
    refine zg_8_41 rfl dX8_ways_53 (by first | assumption | rfl) (by rfl) ?_
    refine zj_iload_n dX8_ways_56 (by rfl) ?_
    refine zj_ialdN dX8_ways_57 (by first | assumption | rfl) (by omega) ?_
    rw [q1]
    refine zj_laldN dX8_ways_58 (by first | assumption | rfl) (by omega) ?_
    rw [ew]
    refine zj_l2i dX8_ways_59 ?_
    rw [lN_i]
    refine zj_iret dX8_ways_60 rfl (Nat.le_refl _) (Nat.le_refl _) ?_
    exact ⟨rfl, rfl⟩
theorem m_cutsA (r : RM h C P S T H O g) {p s : Int32} (hb : s_badt p s) : zD mX8_cuts (d + 2) [.ref 47, .int p, .int s] h (some (.int (-1000000001))) h := by
  rcases m_badt (d := d) (h := h) hb with ⟨z, h1, rfl⟩ | ⟨⟨q, hq, rfl⟩, h2⟩
  · refine zD_of (by decide +kernel) (by exact Nat.le_of_ble_eq_true rfl) ?_
    show zB mX8_cuts _ _ _ 0 [some (.ref 47), some (.int p), some (.int s)] [] _
    refine zj_iload_n dX8_cuts_0 (by rfl) ?_
    refine zc_8_103 rfl dX8_cuts_1 h1 (by exact Nat.le_of_ble_eq_true rfl) ?_
    refine zj_if_eq (tgt := 14) dX8_cuts_4 (by decide) (fun _ => ?_) (fun zq => absurd (rfl) zq)
    refine zj_ldc (v := -1000000001) dX8_cuts_14 zq_686 ?_
    refine zj_iret dX8_cuts_16 rfl (Nat.le_refl _) (Nat.le_refl _) ?_
    exact ⟨rfl, rfl⟩
  · refine zD_of (by decide +kernel) (by exact Nat.le_of_ble_eq_true rfl) ?_
    show zB mX8_cuts _ _ _ 0 [some (.ref 47), some (.int (nI q)), some (.int s)] [] _
    refine zj_iload_n dX8_cuts_0 (by rfl) ?_
    refine zc_8_103 rfl dX8_cuts_1 (m_isPhrase hq) (by exact Nat.le_of_ble_eq_true rfl) ?_
    refine zj_if_eq (tgt := 14) dX8_cuts_4 (by decide) (fun zq => absurd zq (by decide)) (fun _ => ?_)
    refine zj_iload_n dX8_cuts_7 (by rfl) ?_
    refine zc_8_155 rfl dX8_cuts_8 h2 (by exact Nat.le_of_ble_eq_true rfl) ?_
    refine zj_if_ne (tgt := 17) dX8_cuts_11 (by decide) (fun zq => absurd (rfl) zq) (fun _ => ?_)
    refine zj_ldc (v := -1000000001) dX8_cuts_14 zq_686 ?_
    refine zj_iret dX8_cuts_16 rfl (Nat.le_refl _) (Nat.le_refl _) ?_
    exact ⟨rfl, rfl⟩
theorem m_cutsN (r : RM h C P S T H O g) (hp : p < 6) (hs : s < 2) (hn : S s = none) : zD mX8_cuts (d + 2) [.ref 47, .int (nI p), .int (nI s)] h (some (.int (-1000000011))) h := by
  obtain ⟨m47, m48, m49, m50, m51, m52, m53, m54, m55, m56, m57, m58, m59, m60, m61, m62, m63⟩ := id r
  obtain ⟨rd, wr, hw, o0⟩ := m47
  obtain ⟨f7, a57, q57⟩ := m57
  have q : f7 s = -1 := by have q := q57 s hs; rw [hn] at q; exact q
  refine zD_of (by decide +kernel) (by exact Nat.le_of_ble_eq_true rfl) ?_
  show zB mX8_cuts _ _ _ 0 [some (.ref 47), some (.int (nI p)), some (.int (nI s))] [] _
  refine zj_iload_n dX8_cuts_0 (by rfl) ?_
  refine zc_8_103 rfl dX8_cuts_1 (m_isPhrase hp) (by exact Nat.le_of_ble_eq_true rfl) ?_
  refine zj_if_eq (tgt := 14) dX8_cuts_4 (by decide) (fun zq => absurd zq (by decide)) (fun _ => ?_)
  refine zj_iload_n dX8_cuts_7 (by rfl) ?_
  refine zc_8_155 rfl dX8_cuts_8 (m_isSheet hs) (by exact Nat.le_of_ble_eq_true rfl) ?_
  refine zj_if_ne (tgt := 17) dX8_cuts_11 (by decide) (fun _ => ?_) (fun zq => absurd zq (by decide))
  refine zj_aload_n dX8_cuts_17 (by rfl) ?_
  refine zg_8_41 rfl dX8_cuts_18 (by first | assumption | rfl) (by rfl) ?_
  refine zj_iload_n dX8_cuts_21 (by rfl) ?_
  refine zj_iald dX8_cuts_22 (by first | assumption | rfl) (vp_in_nI (show s < 2 by omega) (by omega)) ?_
  rw [nI_clamp (show s < 2 ^ 31 by omega), q]
  refine zj_if_ge (tgt := 29) dX8_cuts_23 (by decide) (fun zq => absurd zq (by decide)) (fun _ => ?_)
  refine zj_ldc (v := -1000000011) dX8_cuts_26 zq_834 ?_
  refine zj_iret dX8_cuts_28 rfl (Nat.le_refl _) (Nat.le_refl _) ?_
  exact ⟨rfl, rfl⟩
theorem m_cuts (w : WF C P S T H O g) (r : RM h C P S T H O g) (hp : p < 6) (hs : s < 2) (hl : S s = some l) : ∃ h', zD mX8_cuts (d + 2) [.ref 47, .int (nI p), .int (nI s)] h (some (.int (if l.length = 0 then -1000000005 else s_oN (s_gc (fun x => s_lc (s_pf (P p)) (s_sg l) (P p).length l.length x (P p).length) l.length l.length 0 0)))) h' ∧ RM h' C P S T H O g ∧ zEq 0 46 h h' := by
  obtain ⟨m47, m48, m49, m50, m51, m52, m53, m54, m55, m56, m57, m58, m59, m60, m61, m62, m63⟩ := id r
  obtain ⟨rd, wr, hw, o0⟩ := m47
  obtain ⟨f7, a57, q57⟩ := m57
  have q : f7 s = nI l.length := by have q := q57 s hs; rw [hl] at q; exact q
  have l3 := (w.2.2.1 s hs l hl).1
  obtain ⟨h1, W, c, wf, cf, ⟨e1, e2, e3, b60, b61, r1, z1⟩, hF⟩ := m_findTurn (d := d) w r hp hs hl
  refine ⟨h1, ?_, r1, z1⟩
  obtain ⟨n47, n48, n49, n50, n51, n52, n53, n54, n55, n56, n57, n58, n59, n60, n61, n62, n63⟩ := id r1
  obtain ⟨rd1, wr1, hw1, o1⟩ := n47
  obtain ⟨f71, b57, q571⟩ := n57
  have q1 : f71 s = nI l.length := by have q := q571 s hs; rw [hl] at q; exact q
  by_cases h0 : l.length = 0
  · rw [if_pos h0]
    refine zD_of (by decide +kernel) (by exact Nat.le_of_ble_eq_true rfl) ?_
    show zB mX8_cuts _ _ _ 0 [some (.ref 47), some (.int (nI p)), some (.int (nI s))] [] _
    refine zj_iload_n dX8_cuts_0 (by rfl) ?_
    refine zc_8_103 rfl dX8_cuts_1 (m_isPhrase hp) (by exact Nat.le_of_ble_eq_true rfl) ?_
    refine zj_if_eq (tgt := 14) dX8_cuts_4 (by decide) (fun zq => absurd zq (by decide)) (fun _ => ?_)
    refine zj_iload_n dX8_cuts_7 (by rfl) ?_
    refine zc_8_155 rfl dX8_cuts_8 (m_isSheet hs) (by exact Nat.le_of_ble_eq_true rfl) ?_
    refine zj_if_ne (tgt := 17) dX8_cuts_11 (by decide) (fun _ => ?_) (fun zq => absurd zq (by decide))
    refine zj_aload_n dX8_cuts_17 (by rfl) ?_
    refine zg_8_41 rfl dX8_cuts_18 (by first | assumption | rfl) (by rfl) ?_
    refine zj_iload_n dX8_cuts_21 (by rfl) ?_
    refine zj_ialdN dX8_cuts_22 (by first | assumption | rfl) (by omega) ?_
    rw [q]
    refine zj_if_geN (tgt := 29) dX8_cuts_23 (by decide) (by omega) ?_
    refine zj_aload_n dX8_cuts_29 (by rfl) ?_
    refine zj_iload_n dX8_cuts_30 (by rfl) ?_
    refine zj_iload_n dX8_cuts_31 (by rfl) ?_
    refine zc_8_159 rfl dX8_cuts_32 (by first | assumption | rfl) hF (by exact Nat.le_of_ble_eq_true rfl) ?_
    refine zj_aload_n dX8_cuts_35 (by rfl) ?_
    refine zg_8_41 rfl dX8_cuts_36 (by first | assumption | rfl) (by rfl) ?_
    refine zj_iload_n dX8_cuts_39 (by rfl) ?_
    refine zj_ialdN dX8_cuts_40 (by first | assumption | rfl) (by omega) ?_
    rw [q1]
    refine zj_if_eqN (tgt := 60) dX8_cuts_41 (by decide) (by omega) (fun _ => ?_) (fun zq => absurd (by omega) zq)
    refine zj_ldc (v := -1000000005) dX8_cuts_60 zq_744 ?_
    refine zj_goto (tgt := 76) dX8_cuts_62 (by decide) ?_
    refine zj_iret dX8_cuts_76 rfl (Nat.le_refl _) (Nat.le_refl _) ?_
    exact ⟨rfl, rfl⟩
  · rw [if_neg h0, ← s_wc_cuts e1]
    have ew := e2 l.length (Nat.le_refl _)
    have ec := e3 l.length (Nat.le_refl _)
    have hb := (s_wc_le e1 l.length (Nat.le_refl _)).1
    have m9 : s_M = 1000000000 := rfl
    by_cases hz : W l.length = 0
    · rw [if_pos hz]
      refine zD_of (by decide +kernel) (by exact Nat.le_of_ble_eq_true rfl) ?_
      show zB mX8_cuts _ _ _ 0 [some (.ref 47), some (.int (nI p)), some (.int (nI s))] [] _
      refine zj_iload_n dX8_cuts_0 (by rfl) ?_
      refine zc_8_103 rfl dX8_cuts_1 (m_isPhrase hp) (by exact Nat.le_of_ble_eq_true rfl) ?_
      refine zj_if_eq (tgt := 14) dX8_cuts_4 (by decide) (fun zq => absurd zq (by decide)) (fun _ => ?_)
      refine zj_iload_n dX8_cuts_7 (by rfl) ?_
      refine zc_8_155 rfl dX8_cuts_8 (m_isSheet hs) (by exact Nat.le_of_ble_eq_true rfl) ?_
      refine zj_if_ne (tgt := 17) dX8_cuts_11 (by decide) (fun _ => ?_) (fun zq => absurd zq (by decide))
      refine zj_aload_n dX8_cuts_17 (by rfl) ?_
      refine zg_8_41 rfl dX8_cuts_18 (by first | assumption | rfl) (by rfl) ?_
      refine zj_iload_n dX8_cuts_21 (by rfl) ?_
      refine zj_ialdN dX8_cuts_22 (by first | assumption | rfl) (by omega) ?_
      rw [q]
      refine zj_if_geN (tgt := 29) dX8_cuts_23 (by decide) (by omega) ?_
      refine zj_aload_n dX8_cuts_29 (by rfl) ?_
      refine zj_iload_n dX8_cuts_30 (by rfl) ?_
      refine zj_iload_n dX8_cuts_31 (by rfl) ?_
      refine zc_8_159 rfl dX8_cuts_32 (by first | assumption | rfl) hF (by exact Nat.le_of_ble_eq_true rfl) ?_
      refine zj_aload_n dX8_cuts_35 (by rfl) ?_
      refine zg_8_41 rfl dX8_cuts_36 (by first | assumption | rfl) (by rfl) ?_
      refine zj_iload_n dX8_cuts_39 (by rfl) ?_
      refine zj_ialdN dX8_cuts_40 (by first | assumption | rfl) (by omega) ?_
      rw [q1]
      refine zj_if_eqN (tgt := 60) dX8_cuts_41 (by decide) (by omega) (fun zq => absurd zq (by omega)) (fun _ => ?_)
      refine zj_aload_n dX8_cuts_44 (by rfl) ?_
      refine zg_8_50 rfl dX8_cuts_45 (by first | assumption | rfl) (by rfl) ?_
      refine zj_aload_n dX8_cuts_48 (by rfl) ?_
      refine zg_8_41 rfl dX8_cuts_49 (by first | assumption | rfl) (by rfl) ?_
      refine zj_iload_n dX8_cuts_52 (by rfl) ?_
      refine zj_ialdN dX8_cuts_53 (by first | assumption | rfl) (by omega) ?_
      rw [q1]
      refine zj_laldN dX8_cuts_54 (by first | assumption | rfl) (by omega) ?_
      rw [ew]
      refine zj_lconst (v := 0) dX8_cuts_55 (by decide) ?_
      refine zj_lcmp dX8_cuts_56 ?_
      refine zj_if_ne (tgt := 65) dX8_cuts_57 (by decide) (fun zq => absurd ((s_lc0 (by omega)).mpr hz) zq) (fun _ => ?_)
      refine zj_ldc (v := -1000000005) dX8_cuts_60 zq_744 ?_
      refine zj_goto (tgt := 76) dX8_cuts_62 (by decide) ?_
      refine zj_iret dX8_cuts_76 rfl (Nat.le_refl _) (Nat.le_refl _) ?_
      exact ⟨rfl, rfl⟩
    · rw [if_neg hz]
      refine zD_of (by decide +kernel) (by exact Nat.le_of_ble_eq_true rfl) ?_
      show zB mX8_cuts _ _ _ 0 [some (.ref 47), some (.int (nI p)), some (.int (nI s))] [] _
      refine zj_iload_n dX8_cuts_0 (by rfl) ?_
      refine zc_8_103 rfl dX8_cuts_1 (m_isPhrase hp) (by exact Nat.le_of_ble_eq_true rfl) ?_
      refine zj_if_eq (tgt := 14) dX8_cuts_4 (by decide) (fun zq => absurd zq (by decide)) (fun _ => ?_)
      refine zj_iload_n dX8_cuts_7 (by rfl) ?_
      refine zc_8_155 rfl dX8_cuts_8 (m_isSheet hs) (by exact Nat.le_of_ble_eq_true rfl) ?_
      refine zj_if_ne (tgt := 17) dX8_cuts_11 (by decide) (fun _ => ?_) (fun zq => absurd zq (by decide))
      refine zj_aload_n dX8_cuts_17 (by rfl) ?_
      refine zg_8_41 rfl dX8_cuts_18 (by first | assumption | rfl) (by rfl) ?_
      refine zj_iload_n dX8_cuts_21 (by rfl) ?_
      refine zj_ialdN dX8_cuts_22 (by first | assumption | rfl) (by omega) ?_
      rw [q]
      refine zj_if_geN (tgt := 29) dX8_cuts_23 (by decide) (by omega) ?_
      refine zj_aload_n dX8_cuts_29 (by rfl) ?_
      refine zj_iload_n dX8_cuts_30 (by rfl) ?_
      refine zj_iload_n dX8_cuts_31 (by rfl) ?_
      refine zc_8_159 rfl dX8_cuts_32 (by first | assumption | rfl) hF (by exact Nat.le_of_ble_eq_true rfl) ?_
      refine zj_aload_n dX8_cuts_35 (by rfl) ?_
      refine zg_8_41 rfl dX8_cuts_36 (by first | assumption | rfl) (by rfl) ?_
      refine zj_iload_n dX8_cuts_39 (by rfl) ?_
      refine zj_ialdN dX8_cuts_40 (by first | assumption | rfl) (by omega) ?_
      rw [q1]
      refine zj_if_eqN (tgt := 60) dX8_cuts_41 (by decide) (by omega) (fun zq => absurd zq (by omega)) (fun _ => ?_)
      refine zj_aload_n dX8_cuts_44 (by rfl) ?_
      refine zg_8_50 rfl dX8_cuts_45 (by first | assumption | rfl) (by rfl) ?_
      refine zj_aload_n dX8_cuts_48 (by rfl) ?_
      refine zg_8_41 rfl dX8_cuts_49 (by first | assumption | rfl) (by rfl) ?_
      refine zj_iload_n dX8_cuts_52 (by rfl) ?_
      refine zj_ialdN dX8_cuts_53 (by first | assumption | rfl) (by omega) ?_
      rw [q1]
      refine zj_laldN dX8_cuts_54 (by first | assumption | rfl) (by omega) ?_
      rw [ew]
      refine zj_lconst (v := 0) dX8_cuts_55 (by decide) ?_
      refine zj_lcmp dX8_cuts_56 ?_
      refine zj_if_ne (tgt := 65) dX8_cuts_57 (by decide) (fun _ => ?_) (fun zq => absurd zq (mt (s_lc0 (by omega)).mp hz))
      refine zj_aload_n dX8_cuts_65 (by rfl) ?_
      refine zg_8_54 rfl dX8_cuts_66 (by first | assumption | rfl) (by rfl) ?_
      refine zj_aload_n dX8_cuts_69 (by rfl) ?_
      refine zg_8_41 rfl dX8_cuts_70 (by first | assumption | rfl) (by rfl) ?_
      refine zj_iload_n dX8_cuts_73 (by rfl) ?_
      refine zj_ialdN dX8_cuts_74 (by first | assumption | rfl) (by omega) ?_
      rw [q1]
      refine zj_ialdN dX8_cuts_75 (by first | assumption | rfl) (by omega) ?_
      rw [ec]
      refine zj_iret dX8_cuts_76 rfl (Nat.le_refl _) (Nat.le_refl _) ?_
      exact ⟨rfl, rfl⟩
end MT
