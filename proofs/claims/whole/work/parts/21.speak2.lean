def s_sp (tb : Nat → Nat) : Nat → Nat → List Nat → Nat → List (Nat × Nat) → Option (List Nat)
  | 0, _, l, _, _ => some l
  | m + 1, i, l, t, stk =>
    if s_isT (tb i) = true then s_sp tb m (i + 1) l (min (t * (tb i - 48)) 61) stk
    else if tb i = 40 ∧ stk.length < 6 then s_sp tb m (i + 1) l 1 ((l.length, t) :: stk)
    else if tb i = 41 ∧ 0 < stk.length then (s_say l (stk.headD (0, 0)).1 (stk.headD (0, 0)).2).bind (fun l' => s_sp tb m (i + 1) l' t stk.tail)
    else if l.length < 60 then (s_say (l ++ [(s_syl (tb i)).getD 0]) l.length t).bind (fun l' => s_sp tb m (i + 1) l' 1 stk)
    else none
def s_stk (A B : Nat → Int32) (L : Nat) : List (Nat × Nat) → Prop
  | [] => True
  | q :: rest => A rest.length = nI q.1 ∧ B rest.length = nI q.2 ∧ q.1 ≤ L ∧ (1 ≤ q.2 ∧ q.2 ≤ 61) ∧ s_stk A B L rest
theorem s_stk_mono {A B : Nat → Int32} {L L' : Nat} (hL : L ≤ L') : ∀ stk, s_stk A B L stk → s_stk A B L' stk
  | [], _ => trivial
  | _ :: rest, h => ⟨h.1, h.2.1, Nat.le_trans h.2.2.1 hL, h.2.2.2.1, s_stk_mono hL rest h.2.2.2.2⟩
theorem s_stk_upd {A B : Nat → Int32} {L j : Nat} {x y : Int32} : ∀ stk, stk.length ≤ j → s_stk A B L stk → s_stk (upd A j x) (upd B j y) L stk
  | [], _, _ => trivial
  | q :: rest, hj, h => by
    have hl : rest.length < j := by simp at hj; omega
    exact ⟨by rw [pk_un (by omega)]; exact h.1, by rw [pk_un (by omega)]; exact h.2.1, h.2.2.1, h.2.2.2.1, s_stk_upd rest (by omega) h.2.2.2.2⟩
def s_h3 (h : zH) (c b o : Nat) (F A B : Nat → Int32) : zH := ((h.set c (.inl (0, 60, .inl F))).set b (.inl (1, 6, .inl A))).set o (.inl (1, 6, .inl B))
/-- the tape's cells -/
def s_T3 (h : zH) (k a c b o n : Nat) (f : Nat → Int32) : Prop := h[k]? = some (.inr (5, [.ref a, .int (nI n), .ref c, .ref b, .ref o])) ∧ h[a]? = some (.inl (0, 60, .inl f)) ∧ c < h.length ∧ b < h.length ∧ o < h.length ∧ (¬ c = k ∧ ¬ c = a ∧ ¬ b = k ∧ ¬ b = a ∧ ¬ o = k ∧ ¬ o = a) ∧ ¬ c = b ∧ ¬ c = o ∧ ¬ b = o
section SK
variable {d k a c b o n : Nat} {h : zH} {f F A B F' A' B' : Nat → Int32} {tb : Nat → Nat}
theorem s3_k (hT : s_T3 h k a c b o n f) (F A B : Nat → Int32) : (s_h3 h c b o F A B)[k]? = some (.inr (5, [.ref a, .int (nI n), .ref c, .ref b, .ref o])) := by
  obtain ⟨h1, h2, h3, h4, h5, ⟨n1, n2, n3, n4, n5, n6⟩, m1, m2, m3⟩ := hT
  exact zset_ne n5 (zset_ne n3 (zset_ne n1 h1))
theorem s3_a (hT : s_T3 h k a c b o n f) (F A B : Nat → Int32) : (s_h3 h c b o F A B)[a]? = some (.inl (0, 60, .inl f)) := by
  obtain ⟨h1, h2, h3, h4, h5, ⟨n1, n2, n3, n4, n5, n6⟩, m1, m2, m3⟩ := hT
  exact zset_ne n6 (zset_ne n4 (zset_ne n2 h2))
theorem s3_c (hT : s_T3 h k a c b o n f) (F A B : Nat → Int32) : (s_h3 h c b o F A B)[c]? = some (.inl (0, 60, .inl F)) := by
  obtain ⟨h1, h2, h3, h4, h5, -, m1, m2, m3⟩ := hT
  exact zset_ne (fun e => m2 e.symm) (zset_ne (fun e => m1 e.symm) (zset_eq (List.getElem?_eq_getElem h3)))
theorem s3_b (hT : s_T3 h k a c b o n f) (F A B : Nat → Int32) : (s_h3 h c b o F A B)[b]? = some (.inl (1, 6, .inl A)) := by
  obtain ⟨h1, h2, h3, h4, h5, -, m1, m2, m3⟩ := hT
  exact zset_ne (fun e => m3 e.symm) (zset_eq (zset_ne m1 (List.getElem?_eq_getElem h4)))
theorem s3_o (hT : s_T3 h k a c b o n f) (F A B : Nat → Int32) : (s_h3 h c b o F A B)[o]? = some (.inl (1, 6, .inl B)) := by
  obtain ⟨h1, h2, h3, h4, h5, -, m1, m2, m3⟩ := hT
  exact zset_eq (zset_ne m3 (zset_ne m2 (List.getElem?_eq_getElem h5)))
theorem s3_sc (hT : s_T3 h k a c b o n f) : (s_h3 h c b o F A B).set c (.inl (0, 60, .inl F')) = s_h3 h c b o F' A B := by
  obtain ⟨h1, h2, h3, h4, h5, -, m1, m2, m3⟩ := hT
  unfold s_h3
  apply List.ext_getElem?
  intro j
  simp only [List.getElem?_set, List.length_set]
  by_cases j1 : c = j
  · subst j1
    have m1' : ¬ b = c := fun e => m1 e.symm
    have m2' : ¬ o = c := fun e => m2 e.symm
    simp [m1', m2']
  · simp [j1]
theorem s3_sb (hT : s_T3 h k a c b o n f) : (s_h3 h c b o F A B).set b (.inl (1, 6, .inl A')) = s_h3 h c b o F A' B := by
  obtain ⟨h1, h2, h3, h4, h5, -, m1, m2, m3⟩ := hT
  unfold s_h3
  apply List.ext_getElem?
  intro j
  simp only [List.getElem?_set, List.length_set]
  by_cases j1 : b = j
  · subst j1
    have m3' : ¬ o = b := fun e => m3 e.symm
    simp [m3']
  · simp [j1]
theorem s3_so (hT : s_T3 h k a c b o n f) : (s_h3 h c b o F A B).set o (.inl (1, 6, .inl B')) = s_h3 h c b o F A B' := by
  unfold s_h3
  rw [List.set_set]
def s_lI (r : Option (List Nat)) : Int32 := match r with
  | none => -1
  | some l => nI l.length
theorem s_dig {v : Nat} (h : s_isT v = true) : 50 ≤ v ∧ v ≤ 57 := by
  unfold s_isT at h
  exact of_decide_eq_true h
theorem s_say_len {l l' : List Nat} {fr t : Nat} (ht : 1 ≤ t) (h : s_say l fr t = some l') : l.length ≤ l'.length ∧ l'.length ≤ 60 := by
  unfold s_say at h
  by_cases hh : fr < l.length ∧ fr + (l.length - fr) * t ≤ 60
  · rw [if_pos hh] at h
    cases h
    have hm : (l.length - fr) * 1 ≤ (l.length - fr) * t := Nat.mul_le_mul_left _ ht
    rw [s_ext_len (by omega)]
    omega
  · rw [if_neg hh] at h; cases h
theorem s_arr_push {l : List Nat} {s : Nat} (hF : s_arr F l) (hs : s ≤ 8) : s_arr (upd F l.length (nI s)) (l ++ [s]) := by
  refine ⟨fun j hj => ?_, fun v hv => ?_⟩
  · by_cases hjl : j = l.length
    · subst hjl; rw [pk_us, z_gr (Nat.le_refl _)]; simp
    · rw [List.length_append, List.length_singleton] at hj
      rw [pk_un hjl, z_gl (by omega)]
      exact hF.1 j (by omega)
  · rcases List.mem_append.mp hv with h | h
    · exact hF.2 v h
    · simp at h; omega
set_option maxHeartbeats 1000000 in
theorem x5_speak_l (hT : s_T3 h k a c b o n f) (hn : n ≤ 60) (hf : ∀ j, j < n → f j = s_by (tb j) ∧ tb j < 256) : ∀ m i l t stk due F A B o5, i + m = n → s_fp tb m i stk.length due = none → s_arr F l → l.length ≤ 60 → (1 ≤ t ∧ t ≤ 61) → s_stk A B l.length stk → stk.length ≤ 6 → ∃ F' A' B', (∀ l', s_sp tb m i l t stk = some l' → s_arr F' l' ∧ l'.length ≤ 60) ∧ zB mX5_speak (d + 2) (some (.int (s_lI (s_sp tb m i l t stk)))) (s_h3 h c b o F' A' B') 9 [some (.ref k), some (.int (nI l.length)), some (.int (nI t)), some (.int (nI stk.length)), some (.int (nI i)), o5] [] (s_h3 h c b o F A B) := by
  have hk3 := s3_k hT
  have ha3 := s3_a hT
  have hc3 := s3_c hT
  have hb3 := s3_b hT
  have ho3 := s3_o hT
  have hck : ¬ c = k := hT.2.2.2.2.2.1.1
  intro m
  induction m with
  | zero =>
    intro i l t stk due F A B o5 hi hfp hF hl ht hs h6
    refine ⟨F, A, B, fun l' hl' => by cases hl'; exact ⟨hF, hl⟩, ?_⟩
    show zB mX5_speak (d + 2) (some (.int (nI l.length))) _ 9 _ [] _
    refine zj_iload dX5_speak_9 (by rfl) ?_
    refine zj_aload_n dX5_speak_11 (by rfl) ?_
    refine zg_5_15 rfl dX5_speak_12 (by first | exact hk3 _ _ _ | exact ha3 _ _ _ | exact hc3 _ _ _ | exact hb3 _ _ _ | exact ho3 _ _ _) (by rfl) ?_
    refine zj_icmp_geN (tgt := 171) dX5_speak_15 (by decide) (by omega) (fun _ => ?_) (fun zq => absurd (by omega) zq)
    refine zj_iload_n dX5_speak_171 (by rfl) ?_
    refine zj_iret dX5_speak_172 rfl (Nat.le_refl _) (Nat.le_refl _) ?_
    exact ⟨rfl, rfl⟩
  | succ m ih =>
    intro i l t stk due F A B o5 hi hfp hF hl ht hs h6
    obtain ⟨hf1, hv⟩ := hf i (by omega)
    have he := s_by_eq (tb i) hv
    unfold s_fp at hfp
    by_cases hT1 : s_isT (tb i) = true
    · have hd1 := s_dig hT1
      rw [if_neg (by omega), if_neg (by omega), if_pos hT1] at hfp
      have hb1 : 1 * 1 ≤ t * (tb i - 48) := Nat.mul_le_mul ht.1 (by omega)
      have hb2 : t * (tb i - 48) ≤ 61 * 9 := Nat.mul_le_mul ht.2 (by omega)
      obtain ⟨F', A', B', hg, hJ⟩ := ih (i + 1) l (min (t * (tb i - 48)) 61) stk true F A B (some (.int (nI (tb i)))) (by omega) hfp hF hl (by omega) hs h6
      have hsp : s_sp tb (m + 1) i l t stk = s_sp tb m (i + 1) l (min (t * (tb i - 48)) 61) stk := by
        show (if _ then _ else _) = _
        rw [if_pos hT1]
      rw [hsp]
      refine ⟨F', A', B', hg, ?_⟩
      have hJ1 := x5_isTimes (d := d + 1) (h := s_h3 h c b o F A B) hv
      rw [if_pos hT1, s_by_small _ (by omega)] at hJ1
      rw [s_by_small _ (by omega)] at hf1
      refine zj_iload dX5_speak_9 (by rfl) ?_
      refine zj_aload_n dX5_speak_11 (by rfl) ?_
      refine zg_5_15 rfl dX5_speak_12 (by first | exact hk3 _ _ _ | exact ha3 _ _ _ | exact hc3 _ _ _ | exact hb3 _ _ _ | exact ho3 _ _ _) (by rfl) ?_
      refine zj_icmp_geN (tgt := 171) dX5_speak_15 (by decide) (by omega) (fun zq => absurd zq (by omega)) (fun _ => ?_)
      refine zj_aload_n dX5_speak_18 (by rfl) ?_
      refine zg_5_11 rfl dX5_speak_19 (by first | exact hk3 _ _ _ | exact ha3 _ _ _ | exact hc3 _ _ _ | exact hb3 _ _ _ | exact ho3 _ _ _) (by rfl) ?_
      refine zj_iload dX5_speak_22 (by rfl) ?_
      refine zj_baldN dX5_speak_24 (by first | exact hk3 _ _ _ | exact ha3 _ _ _ | exact hc3 _ _ _ | exact hb3 _ _ _ | exact ho3 _ _ _) (by omega) ?_
      rw [hf1]
      refine zj_istore dX5_speak_25 (by decide) ?_
      refine zj_iload dX5_speak_27 (by rfl) ?_
      refine zc_5_49 rfl dX5_speak_29 hJ1 (by exact Nat.le_of_ble_eq_true rfl) ?_
      refine zj_if_eq (tgt := 51) dX5_speak_32 (by decide) (fun zq => absurd zq (by decide)) (fun _ => ?_)
      refine zj_iload_n dX5_speak_35 (by rfl) ?_
      refine zj_iload dX5_speak_36 (by rfl) ?_
      refine zj_bipush (v := nI 48) dX5_speak_38 (by decide) ?_
      refine zj_isubN dX5_speak_40 (by omega) ?_
      refine zj_imulN dX5_speak_41 ?_
      refine zj_bipush (v := nI 61) dX5_speak_42 (by decide) ?_
      refine zc_5_57 rfl dX5_speak_44 (j9_min (by omega) (by omega)) (by exact Nat.le_of_ble_eq_true rfl) ?_
      refine zj_istore_n dX5_speak_47 (by decide) ?_
      refine zj_goto (tgt := 159) dX5_speak_48 (by decide) ?_
      refine zj_iload_n dX5_speak_159 (by rfl) ?_
      refine zj_if_geN (tgt := 165) dX5_speak_160 (by decide) (by omega) ?_
      refine zj_iincN dX5_speak_165 (by rfl) (by decide) ?_
      refine zj_goto (tgt := 9) dX5_speak_168 (by decide) ?_
      exact hJ
    · rw [if_neg hT1] at hfp
      have hJ1 := x5_isTimes (d := d + 1) (h := s_h3 h c b o F A B) hv
      rw [if_neg hT1] at hJ1
      by_cases h40 : tb i = 40
      · rw [if_pos h40] at hfp
        by_cases ho6 : stk.length < 6
        · rw [if_pos ho6] at hfp
          obtain ⟨F', A', B', hg, hJ⟩ := ih (i + 1) l 1 ((l.length, t) :: stk) true F (upd A stk.length (nI l.length)) (upd B stk.length (nI t)) (some (.int (s_by (tb i)))) (by omega) hfp hF hl (by omega) ⟨by rw [pk_us], by rw [pk_us], Nat.le_refl _, ht, s_stk_upd stk (Nat.le_refl _) hs⟩ (by simp; omega)
          have hsp : s_sp tb (m + 1) i l t stk = s_sp tb m (i + 1) l 1 ((l.length, t) :: stk) := by
            show (if _ then _ else _) = _
            rw [if_neg hT1, if_pos ⟨h40, ho6⟩]
          rw [hsp]
          refine ⟨F', A', B', hg, ?_⟩
          refine zj_iload dX5_speak_9 (by rfl) ?_
          refine zj_aload_n dX5_speak_11 (by rfl) ?_
          refine zg_5_15 rfl dX5_speak_12 (by first | exact hk3 _ _ _ | exact ha3 _ _ _ | exact hc3 _ _ _ | exact hb3 _ _ _ | exact ho3 _ _ _) (by rfl) ?_
          refine zj_icmp_geN (tgt := 171) dX5_speak_15 (by decide) (by omega) (fun zq => absurd zq (by omega)) (fun _ => ?_)
          refine zj_aload_n dX5_speak_18 (by rfl) ?_
          refine zg_5_11 rfl dX5_speak_19 (by first | exact hk3 _ _ _ | exact ha3 _ _ _ | exact hc3 _ _ _ | exact hb3 _ _ _ | exact ho3 _ _ _) (by rfl) ?_
          refine zj_iload dX5_speak_22 (by rfl) ?_
          refine zj_baldN dX5_speak_24 (by first | exact hk3 _ _ _ | exact ha3 _ _ _ | exact hc3 _ _ _ | exact hb3 _ _ _ | exact ho3 _ _ _) (by omega) ?_
          rw [hf1]
          refine zj_istore dX5_speak_25 (by decide) ?_
          refine zj_iload dX5_speak_27 (by rfl) ?_
          refine zc_5_49 rfl dX5_speak_29 hJ1 (by exact Nat.le_of_ble_eq_true rfl) ?_
          refine zj_if_eq (tgt := 51) dX5_speak_32 (by decide) (fun _ => ?_) (fun zq => absurd (rfl) zq)
          refine zj_iload dX5_speak_51 (by rfl) ?_
          refine zj_bipush (v := 40) dX5_speak_53 (by decide) ?_
          refine zj_icmp_ne (tgt := 86) dX5_speak_55 (by decide) (fun zq => absurd (he.1.mpr h40) zq) (fun _ => ?_)
          refine zj_iload_n dX5_speak_58 (by rfl) ?_
          refine zj_bipush (v := nI 6) dX5_speak_59 (by decide) ?_
          refine zj_icmp_geN (tgt := 86) dX5_speak_61 (by decide) (by omega) (fun zq => absurd zq (by omega)) (fun _ => ?_)
          refine zj_aload_n dX5_speak_64 (by rfl) ?_
          refine zg_5_24 rfl dX5_speak_65 (by first | exact hk3 _ _ _ | exact ha3 _ _ _ | exact hc3 _ _ _ | exact hb3 _ _ _ | exact ho3 _ _ _) (by rfl) ?_
          refine zj_iload_n dX5_speak_68 (by rfl) ?_
          refine zj_iload_n dX5_speak_69 (by rfl) ?_
          refine zj_iastN dX5_speak_70 (by first | exact hk3 _ _ _ | exact ha3 _ _ _ | exact hc3 _ _ _ | exact hb3 _ _ _ | exact ho3 _ _ _) (by omega) ?_
          rw [s3_sb hT]
          refine zj_aload_n dX5_speak_71 (by rfl) ?_
          refine zg_5_28 rfl dX5_speak_72 (by first | exact hk3 _ _ _ | exact ha3 _ _ _ | exact hc3 _ _ _ | exact hb3 _ _ _ | exact ho3 _ _ _) (by rfl) ?_
          refine zj_iload_n dX5_speak_75 (by rfl) ?_
          refine zj_iload_n dX5_speak_76 (by rfl) ?_
          refine zj_iastN dX5_speak_77 (by first | exact hk3 _ _ _ | exact ha3 _ _ _ | exact hc3 _ _ _ | exact hb3 _ _ _ | exact ho3 _ _ _) (by omega) ?_
          rw [s3_so hT]
          refine zj_iincN dX5_speak_78 (by rfl) (by decide) ?_
          refine zj_iconst (v := nI 1) dX5_speak_81 (by decide) ?_
          refine zj_istore_n dX5_speak_82 (by decide) ?_
          refine zj_goto (tgt := 159) dX5_speak_83 (by decide) ?_
          refine zj_iload_n dX5_speak_159 (by rfl) ?_
          refine zj_if_geN (tgt := 165) dX5_speak_160 (by decide) (by omega) ?_
          refine zj_iincN dX5_speak_165 (by rfl) (by decide) ?_
          refine zj_goto (tgt := 9) dX5_speak_168 (by decide) ?_
          exact hJ
        · rw [if_neg ho6] at hfp; cases hfp
      · rw [if_neg h40] at hfp
        by_cases h41 : tb i = 41
        · rw [if_pos h41] at hfp
          by_cases hdo : due = true ∨ stk.length = 0
          · rw [if_pos hdo] at hfp; cases hfp
          · rw [if_neg hdo] at hfp
            obtain ⟨q, rest, rfl⟩ : ∃ q rest, stk = q :: rest := by
              cases stk with
              | nil => exact absurd (Or.inr rfl) hdo
              | cons q rest => exact ⟨q, rest, rfl⟩
            obtain ⟨hq1, hq2, hq3, hq4, hq5⟩ := hs
            have hlen : (q :: rest).length = rest.length + 1 := rfl
            rw [hlen] at h6 hfp ⊢
            have hsp : s_sp tb (m + 1) i l t (q :: rest) = (s_say l q.1 q.2).bind (fun l' => s_sp tb m (i + 1) l' t rest) := by
              show (if _ then _ else _) = _
              rw [if_neg hT1, if_neg (fun hh => h40 hh.1), if_pos ⟨h41, by simp⟩]
              rfl
            rw [hsp]
            cases hsay : s_say l q.1 q.2 with
            | none =>
              refine ⟨F, A, B, fun l' hl' => (by cases hl'), ?_⟩
              show zB mX5_speak (d + 2) (some (.int (-1))) _ 9 _ [] _
              refine zj_iload dX5_speak_9 (by rfl) ?_
              refine zj_aload_n dX5_speak_11 (by rfl) ?_
              refine zg_5_15 rfl dX5_speak_12 (by first | exact hk3 _ _ _ | exact ha3 _ _ _ | exact hc3 _ _ _ | exact hb3 _ _ _ | exact ho3 _ _ _) (by rfl) ?_
              refine zj_icmp_geN (tgt := 171) dX5_speak_15 (by decide) (by omega) (fun zq => absurd zq (by omega)) (fun _ => ?_)
              refine zj_aload_n dX5_speak_18 (by rfl) ?_
              refine zg_5_11 rfl dX5_speak_19 (by first | exact hk3 _ _ _ | exact ha3 _ _ _ | exact hc3 _ _ _ | exact hb3 _ _ _ | exact ho3 _ _ _) (by rfl) ?_
              refine zj_iload dX5_speak_22 (by rfl) ?_
              refine zj_baldN dX5_speak_24 (by first | exact hk3 _ _ _ | exact ha3 _ _ _ | exact hc3 _ _ _ | exact hb3 _ _ _ | exact ho3 _ _ _) (by omega) ?_
              rw [hf1]
              refine zj_istore dX5_speak_25 (by decide) ?_
              refine zj_iload dX5_speak_27 (by rfl) ?_
              refine zc_5_49 rfl dX5_speak_29 hJ1 (by exact Nat.le_of_ble_eq_true rfl) ?_
              refine zj_if_eq (tgt := 51) dX5_speak_32 (by decide) (fun _ => ?_) (fun zq => absurd (rfl) zq)
              refine zj_iload dX5_speak_51 (by rfl) ?_
              refine zj_bipush (v := 40) dX5_speak_53 (by decide) ?_
              refine zj_icmp_ne (tgt := 86) dX5_speak_55 (by decide) (fun _ => ?_) (fun zq => absurd zq (mt he.1.mp h40))
              refine zj_iload dX5_speak_86 (by rfl) ?_
              refine zj_bipush (v := 41) dX5_speak_88 (by decide) ?_
              refine zj_icmp_ne (tgt := 121) dX5_speak_90 (by decide) (fun zq => absurd (he.2.1.mpr h41) zq) (fun _ => ?_)
              refine zj_iload_n dX5_speak_93 (by rfl) ?_
              refine zj_if_leN (tgt := 121) dX5_speak_94 (by decide) (by omega) (fun zq => absurd zq (by omega)) (fun _ => ?_)
              refine zj_iincNm dX5_speak_97 (by rfl) (by decide) ?_
              refine zj_aload_n dX5_speak_100 (by rfl) ?_
              refine zj_aload_n dX5_speak_101 (by rfl) ?_
              refine zg_5_24 rfl dX5_speak_102 (by first | exact hk3 _ _ _ | exact ha3 _ _ _ | exact hc3 _ _ _ | exact hb3 _ _ _ | exact ho3 _ _ _) (by rfl) ?_
              refine zj_iload_n dX5_speak_105 (by rfl) ?_
              refine zj_ialdN dX5_speak_106 (by first | exact hk3 _ _ _ | exact ha3 _ _ _ | exact hc3 _ _ _ | exact hb3 _ _ _ | exact ho3 _ _ _) (by omega) ?_
              rw [hq1]
              refine zj_iload_n dX5_speak_107 (by rfl) ?_
              refine zj_aload_n dX5_speak_108 (by rfl) ?_
              refine zg_5_28 rfl dX5_speak_109 (by first | exact hk3 _ _ _ | exact ha3 _ _ _ | exact hc3 _ _ _ | exact hb3 _ _ _ | exact ho3 _ _ _) (by rfl) ?_
              refine zj_iload_n dX5_speak_112 (by rfl) ?_
              refine zj_ialdN dX5_speak_113 (by first | exact hk3 _ _ _ | exact ha3 _ _ _ | exact hc3 _ _ _ | exact hb3 _ _ _ | exact ho3 _ _ _) (by omega) ?_
              rw [hq2]
              refine zc_5_63 rfl dX5_speak_114 (by first | exact hk3 _ _ _ | exact ha3 _ _ _ | exact hc3 _ _ _ | exact hb3 _ _ _ | exact ho3 _ _ _) (x5_sayN (hk3 _ _ _) (hc3 _ _ _) hq3 hl hq4 hsay) (by exact Nat.le_of_ble_eq_true rfl) ?_
              refine zj_istore_n dX5_speak_117 (by decide) ?_
              refine zj_goto (tgt := 159) dX5_speak_118 (by decide) ?_
              refine zj_iload_n dX5_speak_159 (by rfl) ?_
              refine zj_if_ge (tgt := 165) dX5_speak_160 (by decide) (fun zq => absurd zq (by decide)) (fun _ => ?_)
              refine zj_iconst (v := (-1)) dX5_speak_163 (by decide) ?_
              refine zj_iret dX5_speak_164 rfl (Nat.le_refl _) (Nat.le_refl _) ?_
              exact ⟨rfl, rfl⟩
            | some l2 =>
              have hl2 := s_say_len hq4.1 hsay
              obtain ⟨F2, hF2, hD2⟩ := x5_say (d := d + 1) (hk3 F A B) (hc3 F A B) hck hF hl hq4 hsay
              rw [s3_sc hT] at hD2
              obtain ⟨F', A', B', hg, hJ⟩ := ih (i + 1) l2 t rest due F2 A B (some (.int (s_by (tb i)))) (by omega) (by rw [Nat.add_sub_cancel] at hfp; exact hfp) hF2 hl2.2 ht (s_stk_mono hl2.1 rest hq5) (by omega)
              refine ⟨F', A', B', hg, ?_⟩
              show zB mX5_speak (d + 2) (some (.int (s_lI (s_sp tb m (i + 1) l2 t rest)))) _ 9 _ [] _
              refine zj_iload dX5_speak_9 (by rfl) ?_
              refine zj_aload_n dX5_speak_11 (by rfl) ?_
              refine zg_5_15 rfl dX5_speak_12 (by first | exact hk3 _ _ _ | exact ha3 _ _ _ | exact hc3 _ _ _ | exact hb3 _ _ _ | exact ho3 _ _ _) (by rfl) ?_
              refine zj_icmp_geN (tgt := 171) dX5_speak_15 (by decide) (by omega) (fun zq => absurd zq (by omega)) (fun _ => ?_)
              refine zj_aload_n dX5_speak_18 (by rfl) ?_
              refine zg_5_11 rfl dX5_speak_19 (by first | exact hk3 _ _ _ | exact ha3 _ _ _ | exact hc3 _ _ _ | exact hb3 _ _ _ | exact ho3 _ _ _) (by rfl) ?_
              refine zj_iload dX5_speak_22 (by rfl) ?_
              refine zj_baldN dX5_speak_24 (by first | exact hk3 _ _ _ | exact ha3 _ _ _ | exact hc3 _ _ _ | exact hb3 _ _ _ | exact ho3 _ _ _) (by omega) ?_
              rw [hf1]
              refine zj_istore dX5_speak_25 (by decide) ?_
              refine zj_iload dX5_speak_27 (by rfl) ?_
              refine zc_5_49 rfl dX5_speak_29 hJ1 (by exact Nat.le_of_ble_eq_true rfl) ?_
              refine zj_if_eq (tgt := 51) dX5_speak_32 (by decide) (fun _ => ?_) (fun zq => absurd (rfl) zq)
              refine zj_iload dX5_speak_51 (by rfl) ?_
              refine zj_bipush (v := 40) dX5_speak_53 (by decide) ?_
              refine zj_icmp_ne (tgt := 86) dX5_speak_55 (by decide) (fun _ => ?_) (fun zq => absurd zq (mt he.1.mp h40))
              refine zj_iload dX5_speak_86 (by rfl) ?_
              refine zj_bipush (v := 41) dX5_speak_88 (by decide) ?_
              refine zj_icmp_ne (tgt := 121) dX5_speak_90 (by decide) (fun zq => absurd (he.2.1.mpr h41) zq) (fun _ => ?_)
              refine zj_iload_n dX5_speak_93 (by rfl) ?_
              refine zj_if_leN (tgt := 121) dX5_speak_94 (by decide) (by omega) (fun zq => absurd zq (by omega)) (fun _ => ?_)
              refine zj_iincNm dX5_speak_97 (by rfl) (by decide) ?_
              refine zj_aload_n dX5_speak_100 (by rfl) ?_
              refine zj_aload_n dX5_speak_101 (by rfl) ?_
              refine zg_5_24 rfl dX5_speak_102 (by first | exact hk3 _ _ _ | exact ha3 _ _ _ | exact hc3 _ _ _ | exact hb3 _ _ _ | exact ho3 _ _ _) (by rfl) ?_
              refine zj_iload_n dX5_speak_105 (by rfl) ?_
              refine zj_ialdN dX5_speak_106 (by first | exact hk3 _ _ _ | exact ha3 _ _ _ | exact hc3 _ _ _ | exact hb3 _ _ _ | exact ho3 _ _ _) (by omega) ?_
              rw [hq1]
              refine zj_iload_n dX5_speak_107 (by rfl) ?_
              refine zj_aload_n dX5_speak_108 (by rfl) ?_
              refine zg_5_28 rfl dX5_speak_109 (by first | exact hk3 _ _ _ | exact ha3 _ _ _ | exact hc3 _ _ _ | exact hb3 _ _ _ | exact ho3 _ _ _) (by rfl) ?_
              refine zj_iload_n dX5_speak_112 (by rfl) ?_
              refine zj_ialdN dX5_speak_113 (by first | exact hk3 _ _ _ | exact ha3 _ _ _ | exact hc3 _ _ _ | exact hb3 _ _ _ | exact ho3 _ _ _) (by omega) ?_
              rw [hq2]
              refine zc_5_63 rfl dX5_speak_114 (by first | exact hk3 _ _ _ | exact ha3 _ _ _ | exact hc3 _ _ _ | exact hb3 _ _ _ | exact ho3 _ _ _) hD2 (by exact Nat.le_of_ble_eq_true rfl) ?_
              refine zj_istore_n dX5_speak_117 (by decide) ?_
              refine zj_goto (tgt := 159) dX5_speak_118 (by decide) ?_
              refine zj_iload_n dX5_speak_159 (by rfl) ?_
              refine zj_if_geN (tgt := 165) dX5_speak_160 (by decide) (by omega) ?_
              refine zj_iincN dX5_speak_165 (by rfl) (by decide) ?_
              refine zj_goto (tgt := 9) dX5_speak_168 (by decide) ?_
              exact hJ
        · rw [if_neg h41] at hfp
          by_cases hsn : s_syl (tb i) = none
          · rw [if_pos hsn] at hfp; cases hfp
          · rw [if_neg hsn] at hfp
            obtain ⟨sy, hsy⟩ : ∃ sy, s_syl (tb i) = some sy := by
              cases hx : s_syl (tb i) with
              | none => exact absurd hx hsn
              | some sy => exact ⟨sy, rfl⟩
            have h8 := s_syl_le hsy
            have hsp : s_sp tb (m + 1) i l t stk = if l.length < 60 then (s_say (l ++ [sy]) l.length t).bind (fun l' => s_sp tb m (i + 1) l' 1 stk) else none := by
              show (if _ then _ else _) = _
              rw [if_neg hT1, if_neg (fun hh => h40 hh.1), if_neg (fun hh => h41 hh.1), hsy]
              rfl
            rw [hsp]
            have hSy := x5_syllableOf (d := d + 1) (h := s_h3 h c b o F A B) hv
            rw [hsy] at hSy
            by_cases hl60 : l.length < 60
            · rw [if_pos hl60]
              have hF1 := s_arr_push hF h8.1
              have hlen1 : (l ++ [sy]).length = l.length + 1 := by simp
              have hnar : vp_nar .byte ((nI sy).toInt8.toInt32) = nI sy := by rw [pk_vb]; exact s_by_small sy (by omega)
              cases hsay : s_say (l ++ [sy]) l.length t with
              | none =>
                refine ⟨upd F l.length (nI sy), A, B, fun l' hl' => (by cases hl'), ?_⟩
                show zB mX5_speak (d + 2) (some (.int (-1))) _ 9 _ [] _
                have hN := x5_sayN (d := d + 1) (hk3 (upd F l.length (nI sy)) A B) (hc3 (upd F l.length (nI sy)) A B) (by omega) (by omega) ht hsay
                rw [hlen1] at hN
                refine zj_iload dX5_speak_9 (by rfl) ?_
                refine zj_aload_n dX5_speak_11 (by rfl) ?_
                refine zg_5_15 rfl dX5_speak_12 (by first | exact hk3 _ _ _ | exact ha3 _ _ _ | exact hc3 _ _ _ | exact hb3 _ _ _ | exact ho3 _ _ _) (by rfl) ?_
                refine zj_icmp_geN (tgt := 171) dX5_speak_15 (by decide) (by omega) (fun zq => absurd zq (by omega)) (fun _ => ?_)
                refine zj_aload_n dX5_speak_18 (by rfl) ?_
                refine zg_5_11 rfl dX5_speak_19 (by first | exact hk3 _ _ _ | exact ha3 _ _ _ | exact hc3 _ _ _ | exact hb3 _ _ _ | exact ho3 _ _ _) (by rfl) ?_
                refine zj_iload dX5_speak_22 (by rfl) ?_
                refine zj_baldN dX5_speak_24 (by first | exact hk3 _ _ _ | exact ha3 _ _ _ | exact hc3 _ _ _ | exact hb3 _ _ _ | exact ho3 _ _ _) (by omega) ?_
                rw [hf1]
                refine zj_istore dX5_speak_25 (by decide) ?_
                refine zj_iload dX5_speak_27 (by rfl) ?_
                refine zc_5_49 rfl dX5_speak_29 hJ1 (by exact Nat.le_of_ble_eq_true rfl) ?_
                refine zj_if_eq (tgt := 51) dX5_speak_32 (by decide) (fun _ => ?_) (fun zq => absurd (rfl) zq)
                refine zj_iload dX5_speak_51 (by rfl) ?_
                refine zj_bipush (v := 40) dX5_speak_53 (by decide) ?_
                refine zj_icmp_ne (tgt := 86) dX5_speak_55 (by decide) (fun _ => ?_) (fun zq => absurd zq (mt he.1.mp h40))
                refine zj_iload dX5_speak_86 (by rfl) ?_
                refine zj_bipush (v := 41) dX5_speak_88 (by decide) ?_
                refine zj_icmp_ne (tgt := 121) dX5_speak_90 (by decide) (fun _ => ?_) (fun zq => absurd zq (mt he.2.1.mp h41))
                refine zj_iload_n dX5_speak_121 (by rfl) ?_
                refine zj_aload_n dX5_speak_122 (by rfl) ?_
                refine zg_5_21 rfl dX5_speak_123 (by first | exact hk3 _ _ _ | exact ha3 _ _ _ | exact hc3 _ _ _ | exact hb3 _ _ _ | exact ho3 _ _ _) (by rfl) ?_
                refine zj_alenI dX5_speak_126 (by first | exact hk3 _ _ _ | exact ha3 _ _ _ | exact hc3 _ _ _ | exact hb3 _ _ _ | exact ho3 _ _ _) (by decide) ?_
                refine zj_icmp_geN (tgt := 157) dX5_speak_127 (by decide) (by omega) (fun zq => absurd zq (by omega)) (fun _ => ?_)
                refine zj_aload_n dX5_speak_130 (by rfl) ?_
                refine zg_5_21 rfl dX5_speak_131 (by first | exact hk3 _ _ _ | exact ha3 _ _ _ | exact hc3 _ _ _ | exact hb3 _ _ _ | exact ho3 _ _ _) (by rfl) ?_
                refine zj_iload_n dX5_speak_134 (by rfl) ?_
                refine zj_iload dX5_speak_135 (by rfl) ?_
                refine zc_5_53 rfl dX5_speak_137 hSy (by exact Nat.le_of_ble_eq_true rfl) ?_
                refine zj_i2b dX5_speak_140 ?_
                refine zj_bastN dX5_speak_141 (by first | exact hk3 _ _ _ | exact ha3 _ _ _ | exact hc3 _ _ _ | exact hb3 _ _ _ | exact ho3 _ _ _) (by omega) ?_
                rw [show vp_nar .byte ((s_sI (some sy)).toInt8.toInt32) = nI sy from hnar, s3_sc hT]
                refine zj_aload_n dX5_speak_142 (by rfl) ?_
                refine zj_iload_n dX5_speak_143 (by rfl) ?_
                refine zj_iload_n dX5_speak_144 (by rfl) ?_
                refine zj_iconst (v := nI 1) dX5_speak_145 (by decide) ?_
                refine zj_iaddN dX5_speak_146 ?_
                refine zj_iload_n dX5_speak_147 (by rfl) ?_
                refine zc_5_63 rfl dX5_speak_148 (by first | exact hk3 _ _ _ | exact ha3 _ _ _ | exact hc3 _ _ _ | exact hb3 _ _ _ | exact ho3 _ _ _) hN (by exact Nat.le_of_ble_eq_true rfl) ?_
                refine zj_istore_n dX5_speak_151 (by decide) ?_
                refine zj_iconst (v := nI 1) dX5_speak_152 (by decide) ?_
                refine zj_istore_n dX5_speak_153 (by decide) ?_
                refine zj_goto (tgt := 159) dX5_speak_154 (by decide) ?_
                refine zj_iload_n dX5_speak_159 (by rfl) ?_
                refine zj_if_ge (tgt := 165) dX5_speak_160 (by decide) (fun zq => absurd zq (by decide)) (fun _ => ?_)
                refine zj_iconst (v := (-1)) dX5_speak_163 (by decide) ?_
                refine zj_iret dX5_speak_164 rfl (Nat.le_refl _) (Nat.le_refl _) ?_
                exact ⟨rfl, rfl⟩
              | some l2 =>
                have hl2 := s_say_len ht.1 hsay
                rw [hlen1] at hl2
                obtain ⟨F2, hF2, hD2⟩ := x5_say (d := d + 1) (hk3 (upd F l.length (nI sy)) A B) (hc3 (upd F l.length (nI sy)) A B) hck hF1 (by omega) ht hsay
                rw [s3_sc hT, hlen1] at hD2
                obtain ⟨F', A', B', hg, hJ⟩ := ih (i + 1) l2 1 stk false F2 A B (some (.int (s_by (tb i)))) (by omega) hfp hF2 hl2.2 (by omega) (s_stk_mono (by omega) stk hs) h6
                refine ⟨F', A', B', hg, ?_⟩
                show zB mX5_speak (d + 2) (some (.int (s_lI (s_sp tb m (i + 1) l2 1 stk)))) _ 9 _ [] _
                refine zj_iload dX5_speak_9 (by rfl) ?_
                refine zj_aload_n dX5_speak_11 (by rfl) ?_
                refine zg_5_15 rfl dX5_speak_12 (by first | exact hk3 _ _ _ | exact ha3 _ _ _ | exact hc3 _ _ _ | exact hb3 _ _ _ | exact ho3 _ _ _) (by rfl) ?_
                refine zj_icmp_geN (tgt := 171) dX5_speak_15 (by decide) (by omega) (fun zq => absurd zq (by omega)) (fun _ => ?_)
                refine zj_aload_n dX5_speak_18 (by rfl) ?_
                refine zg_5_11 rfl dX5_speak_19 (by first | exact hk3 _ _ _ | exact ha3 _ _ _ | exact hc3 _ _ _ | exact hb3 _ _ _ | exact ho3 _ _ _) (by rfl) ?_
                refine zj_iload dX5_speak_22 (by rfl) ?_
                refine zj_baldN dX5_speak_24 (by first | exact hk3 _ _ _ | exact ha3 _ _ _ | exact hc3 _ _ _ | exact hb3 _ _ _ | exact ho3 _ _ _) (by omega) ?_
                rw [hf1]
                refine zj_istore dX5_speak_25 (by decide) ?_
                refine zj_iload dX5_speak_27 (by rfl) ?_
                refine zc_5_49 rfl dX5_speak_29 hJ1 (by exact Nat.le_of_ble_eq_true rfl) ?_
                refine zj_if_eq (tgt := 51) dX5_speak_32 (by decide) (fun _ => ?_) (fun zq => absurd (rfl) zq)
                refine zj_iload dX5_speak_51 (by rfl) ?_
                refine zj_bipush (v := 40) dX5_speak_53 (by decide) ?_
                refine zj_icmp_ne (tgt := 86) dX5_speak_55 (by decide) (fun _ => ?_) (fun zq => absurd zq (mt he.1.mp h40))
                refine zj_iload dX5_speak_86 (by rfl) ?_
                refine zj_bipush (v := 41) dX5_speak_88 (by decide) ?_
                refine zj_icmp_ne (tgt := 121) dX5_speak_90 (by decide) (fun _ => ?_) (fun zq => absurd zq (mt he.2.1.mp h41))
                refine zj_iload_n dX5_speak_121 (by rfl) ?_
                refine zj_aload_n dX5_speak_122 (by rfl) ?_
                refine zg_5_21 rfl dX5_speak_123 (by first | exact hk3 _ _ _ | exact ha3 _ _ _ | exact hc3 _ _ _ | exact hb3 _ _ _ | exact ho3 _ _ _) (by rfl) ?_
                refine zj_alenI dX5_speak_126 (by first | exact hk3 _ _ _ | exact ha3 _ _ _ | exact hc3 _ _ _ | exact hb3 _ _ _ | exact ho3 _ _ _) (by decide) ?_
                refine zj_icmp_geN (tgt := 157) dX5_speak_127 (by decide) (by omega) (fun zq => absurd zq (by omega)) (fun _ => ?_)
                refine zj_aload_n dX5_speak_130 (by rfl) ?_
                refine zg_5_21 rfl dX5_speak_131 (by first | exact hk3 _ _ _ | exact ha3 _ _ _ | exact hc3 _ _ _ | exact hb3 _ _ _ | exact ho3 _ _ _) (by rfl) ?_
                refine zj_iload_n dX5_speak_134 (by rfl) ?_
                refine zj_iload dX5_speak_135 (by rfl) ?_
                refine zc_5_53 rfl dX5_speak_137 hSy (by exact Nat.le_of_ble_eq_true rfl) ?_
                refine zj_i2b dX5_speak_140 ?_
                refine zj_bastN dX5_speak_141 (by first | exact hk3 _ _ _ | exact ha3 _ _ _ | exact hc3 _ _ _ | exact hb3 _ _ _ | exact ho3 _ _ _) (by omega) ?_
                rw [show vp_nar .byte ((s_sI (some sy)).toInt8.toInt32) = nI sy from hnar, s3_sc hT]
                refine zj_aload_n dX5_speak_142 (by rfl) ?_
                refine zj_iload_n dX5_speak_143 (by rfl) ?_
                refine zj_iload_n dX5_speak_144 (by rfl) ?_
                refine zj_iconst (v := nI 1) dX5_speak_145 (by decide) ?_
                refine zj_iaddN dX5_speak_146 ?_
                refine zj_iload_n dX5_speak_147 (by rfl) ?_
                refine zc_5_63 rfl dX5_speak_148 (by first | exact hk3 _ _ _ | exact ha3 _ _ _ | exact hc3 _ _ _ | exact hb3 _ _ _ | exact ho3 _ _ _) hD2 (by exact Nat.le_of_ble_eq_true rfl) ?_
                refine zj_istore_n dX5_speak_151 (by decide) ?_
                refine zj_iconst (v := nI 1) dX5_speak_152 (by decide) ?_
                refine zj_istore_n dX5_speak_153 (by decide) ?_
                refine zj_goto (tgt := 159) dX5_speak_154 (by decide) ?_
                refine zj_iload_n dX5_speak_159 (by rfl) ?_
                refine zj_if_geN (tgt := 165) dX5_speak_160 (by decide) (by omega) ?_
                refine zj_iincN dX5_speak_165 (by rfl) (by decide) ?_
                refine zj_goto (tgt := 9) dX5_speak_168 (by decide) ?_
                exact hJ
            · rw [if_neg hl60]
              refine ⟨F, A, B, fun l' hl' => (by cases hl'), ?_⟩
              show zB mX5_speak (d + 2) (some (.int (-1))) _ 9 _ [] _
              refine zj_iload dX5_speak_9 (by rfl) ?_
              refine zj_aload_n dX5_speak_11 (by rfl) ?_
              refine zg_5_15 rfl dX5_speak_12 (by first | exact hk3 _ _ _ | exact ha3 _ _ _ | exact hc3 _ _ _ | exact hb3 _ _ _ | exact ho3 _ _ _) (by rfl) ?_
              refine zj_icmp_geN (tgt := 171) dX5_speak_15 (by decide) (by omega) (fun zq => absurd zq (by omega)) (fun _ => ?_)
              refine zj_aload_n dX5_speak_18 (by rfl) ?_
              refine zg_5_11 rfl dX5_speak_19 (by first | exact hk3 _ _ _ | exact ha3 _ _ _ | exact hc3 _ _ _ | exact hb3 _ _ _ | exact ho3 _ _ _) (by rfl) ?_
              refine zj_iload dX5_speak_22 (by rfl) ?_
              refine zj_baldN dX5_speak_24 (by first | exact hk3 _ _ _ | exact ha3 _ _ _ | exact hc3 _ _ _ | exact hb3 _ _ _ | exact ho3 _ _ _) (by omega) ?_
              rw [hf1]
              refine zj_istore dX5_speak_25 (by decide) ?_
              refine zj_iload dX5_speak_27 (by rfl) ?_
              refine zc_5_49 rfl dX5_speak_29 hJ1 (by exact Nat.le_of_ble_eq_true rfl) ?_
              refine zj_if_eq (tgt := 51) dX5_speak_32 (by decide) (fun _ => ?_) (fun zq => absurd (rfl) zq)
              refine zj_iload dX5_speak_51 (by rfl) ?_
              refine zj_bipush (v := 40) dX5_speak_53 (by decide) ?_
              refine zj_icmp_ne (tgt := 86) dX5_speak_55 (by decide) (fun _ => ?_) (fun zq => absurd zq (mt he.1.mp h40))
              refine zj_iload dX5_speak_86 (by rfl) ?_
              refine zj_bipush (v := 41) dX5_speak_88 (by decide) ?_
              refine zj_icmp_ne (tgt := 121) dX5_speak_90 (by decide) (fun _ => ?_) (fun zq => absurd zq (mt he.2.1.mp h41))
              refine zj_iload_n dX5_speak_121 (by rfl) ?_
              refine zj_aload_n dX5_speak_122 (by rfl) ?_
              refine zg_5_21 rfl dX5_speak_123 (by first | exact hk3 _ _ _ | exact ha3 _ _ _ | exact hc3 _ _ _ | exact hb3 _ _ _ | exact ho3 _ _ _) (by rfl) ?_
              refine zj_alenI dX5_speak_126 (by first | exact hk3 _ _ _ | exact ha3 _ _ _ | exact hc3 _ _ _ | exact hb3 _ _ _ | exact ho3 _ _ _) (by decide) ?_
              refine zj_icmp_geN (tgt := 157) dX5_speak_127 (by decide) (by omega) (fun _ => ?_) (fun zq => absurd (by omega) zq)
              refine zj_iconst (v := (-1)) dX5_speak_157 (by decide) ?_
              refine zj_iret dX5_speak_158 rfl (Nat.le_refl _) (Nat.le_refl _) ?_
              exact ⟨rfl, rfl⟩
end SK
