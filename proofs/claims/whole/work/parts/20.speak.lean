/-! Tape.sayAgain, speak, readInto, write -/
theorem z_gl {x y : List Nat} {j : Nat} (h : j < x.length) : (x ++ y).getD j 0 = x.getD j 0 := by simp [List.getD, List.getElem?_append_left h]
theorem z_gr {x y : List Nat} {j : Nat} (h : x.length ≤ j) : (x ++ y).getD j 0 = y.getD (j - x.length) 0 := by simp [List.getD, List.getElem?_append_right h]
def s_rep (t : Nat) (x : List Nat) : List Nat := (List.replicate t x).flatten
theorem s_rep_s (t : Nat) (x : List Nat) : s_rep (t + 1) x = x ++ s_rep t x := by
  unfold s_rep
  rw [List.replicate_succ, List.flatten_cons]
theorem s_rep_len (t : Nat) (x : List Nat) : (s_rep t x).length = x.length * t := by
  induction t with
  | zero => rfl
  | succ t ih => rw [s_rep_s, List.length_append, ih, Nat.mul_succ]; omega
theorem s_rep_get (x : List Nat) : ∀ (t q : Nat), q < x.length * t → (s_rep t x).getD q 0 = x.getD (q % x.length) 0
  | 0, q, h => by rw [Nat.mul_zero] at h; omega
  | t + 1, q, h => by
    rw [s_rep_s]
    by_cases hq : q < x.length
    · rw [Nat.mod_eq_of_lt hq, z_gl hq]
    · rw [z_gr (by omega), s_rep_get x t (q - x.length) (by rw [Nat.mul_succ] at h; omega), ← Nat.mod_eq_sub_mod (by omega)]
theorem s_rep_mem {t : Nat} {x : List Nat} {v : Nat} (h : v ∈ s_rep t x) : v ∈ x := by
  unfold s_rep at h
  obtain ⟨y, hy, hv⟩ := List.mem_flatten.mp h
  rw [List.mem_replicate] at hy
  rw [← hy.2]
  exact hv
def s_ext (l : List Nat) (fr t : Nat) : List Nat := l.take fr ++ s_rep t (l.drop fr)
def s_say (l : List Nat) (fr t : Nat) : Option (List Nat) := if fr < l.length ∧ fr + (l.length - fr) * t ≤ 60 then some (s_ext l fr t) else none
theorem s_ext_len {l : List Nat} {fr t : Nat} (h : fr ≤ l.length) : (s_ext l fr t).length = fr + (l.length - fr) * t := by
  unfold s_ext
  rw [List.length_append, s_rep_len, List.length_take, List.length_drop]
  congr 1
  omega
theorem s_ext_mem {l : List Nat} {fr t v : Nat} (h : v ∈ s_ext l fr t) : v ∈ l := by
  unfold s_ext at h
  rcases List.mem_append.mp h with h | h
  · exact List.mem_of_mem_take h
  · exact List.mem_of_mem_drop (s_rep_mem h)
theorem s_ext_hi {l : List Nat} {fr t j : Nat} (h : fr ≤ l.length) (h1 : fr ≤ j) (h2 : j < fr + (l.length - fr) * t) : (s_ext l fr t).getD j 0 = (l.drop fr).getD ((j - fr) % (l.length - fr)) 0 := by
  unfold s_ext
  rw [z_gr (by rw [List.length_take]; omega), List.length_take, Nat.min_eq_left h, s_rep_get _ _ _ (by rw [List.length_drop]; omega), List.length_drop]
theorem s_ext_lo {l : List Nat} {fr t j : Nat} (h : fr < l.length) (ht : 1 ≤ t) (h1 : j < l.length) : (s_ext l fr t).getD j 0 = l.getD j 0 := by
  have hm : (l.length - fr) * 1 ≤ (l.length - fr) * t := Nat.mul_le_mul_left _ ht
  by_cases hj : j < fr
  · unfold s_ext
    rw [z_gl (by rw [List.length_take]; omega)]
    simp [List.getD, List.getElem?_take, hj]
  · rw [s_ext_hi (by omega) (by omega) (by omega), Nat.mod_eq_of_lt (by omega)]
    simp only [List.getD, List.getElem?_drop]
    rw [show fr + (j - fr) = j by omega]
theorem s_ext_per {l : List Nat} {fr t j : Nat} (h : fr < l.length) (h1 : l.length ≤ j) (h2 : j < fr + (l.length - fr) * t) : (s_ext l fr t).getD j 0 = (s_ext l fr t).getD (j - (l.length - fr)) 0 := by
  rw [s_ext_hi (by omega) (by omega) h2, s_ext_hi (by omega) (by omega) (by omega), Nat.mod_eq_sub_mod (by omega)]
  congr 2
  omega
/-- an array holds a row of syllables -/
def s_arr (F : Nat → Int32) (l : List Nat) : Prop := (∀ j, j < l.length → F j = nI (l.getD j 0)) ∧ ∀ v ∈ l, v ≤ 8
theorem s_getD_le {l : List Nat} {j : Nat} (hv : ∀ v ∈ l, v ≤ 8) : l.getD j 0 ≤ 8 := by
  by_cases hj : j < l.length
  · have : l.getD j 0 = l[j] := by simp [List.getD, hj]
    rw [this]
    exact hv _ (List.getElem_mem hj)
  · simp [List.getD, hj]
section SA
variable {d k a c b o n : Nat} {h : zH} {f F A B : Nat → Int32} {tb : Nat → Nat} {l : List Nat} {fr t : Nat}
theorem x5_sayN (hk : h[k]? = some (.inr (5, [.ref a, .int (nI n), .ref c, .ref b, .ref o]))) (hc : h[c]? = some (.inl (0, 60, .inl F))) (hfr : fr ≤ l.length) (hl : l.length ≤ 60) (ht : 1 ≤ t ∧ t ≤ 61) (hs : s_say l fr t = none) : zD mX5_sayAgain d [.ref k, .int (nI fr), .int (nI l.length), .int (nI t)] h (some (.int (-1))) h := by
  have hbd : (l.length - fr) * t ≤ 60 * 61 := Nat.mul_le_mul (by omega) (by omega)
  have hn : ¬ (fr < l.length ∧ fr + (l.length - fr) * t ≤ 60) := fun hh => by unfold s_say at hs; rw [if_pos hh] at hs; cases hs
  refine zD_of (by decide +kernel) (by exact Nat.le_of_ble_eq_true rfl) ?_
  show zB mX5_sayAgain _ _ _ 0 [some (.ref k), some (.int (nI fr)), some (.int (nI l.length)), some (.int (nI t)), none, none, none] [] _
  refine zj_iload_n dX5_sayAgain_0 (by rfl) ?_
  refine zj_iload_n dX5_sayAgain_1 (by rfl) ?_
  refine zj_isubN dX5_sayAgain_2 (by omega) ?_
  refine zj_istore dX5_sayAgain_3 (by decide) ?_
  refine zj_iload_n dX5_sayAgain_5 (by rfl) ?_
  refine zj_iload dX5_sayAgain_6 (by rfl) ?_
  refine zj_iload_n dX5_sayAgain_8 (by rfl) ?_
  refine zj_imulN dX5_sayAgain_9 ?_
  refine zj_iaddN dX5_sayAgain_10 ?_
  refine zj_istore dX5_sayAgain_11 (by decide) ?_
  refine zj_iload_n dX5_sayAgain_13 (by rfl) ?_
  refine zj_if_ltN (tgt := 32) dX5_sayAgain_14 (by decide) (by omega) ?_
  refine zj_iload dX5_sayAgain_17 (by rfl) ?_
  refine zj_if_leN (tgt := 32) dX5_sayAgain_19 (by decide) (by omega) (fun q19 => ?_) (fun q19 => ?_)
  · refine zj_iconst (v := (-1)) dX5_sayAgain_32 (by decide) ?_
    refine zj_iret dX5_sayAgain_33 rfl (Nat.le_refl _) (Nat.le_refl _) ?_
    exact ⟨by first | rfl | (simp [*]; done) | (simp_all; done), rfl⟩
  · refine zj_iload dX5_sayAgain_22 (by rfl) ?_
    refine zj_aload_n dX5_sayAgain_24 (by rfl) ?_
    refine zg_5_21 rfl dX5_sayAgain_25 (by first | assumption | rfl) (by rfl) ?_
    refine zj_alenI dX5_sayAgain_28 (by first | assumption | rfl) (by decide) ?_
    refine zj_icmp_leN (tgt := 34) dX5_sayAgain_29 (by decide) (by omega) (fun zq => absurd zq (by omega)) (fun _ => ?_)
    refine zj_iconst (v := (-1)) dX5_sayAgain_32 (by decide) ?_
    refine zj_iret dX5_sayAgain_33 rfl (Nat.le_refl _) (Nat.le_refl _) ?_
    exact ⟨by first | rfl | (simp [*]; done) | (simp_all; done), rfl⟩
theorem x5_say_l (hfr : fr < l.length) (ht : 1 ≤ t ∧ t ≤ 61) (hle : fr + (l.length - fr) * t ≤ 60) (h8 : ∀ v ∈ l, v ≤ 8) : ∀ m i (F : Nat → Int32) (h : zH), h[k]? = some (.inr (5, [.ref a, .int (nI n), .ref c, .ref b, .ref o])) → h[c]? = some (.inl (0, 60, .inl F)) → ¬ c = k → l.length ≤ i → i + m = fr + (l.length - fr) * t → (∀ j, j < i → F j = nI ((s_ext l fr t).getD j 0)) → ∃ F', s_arr F' (s_ext l fr t) ∧ zB mX5_sayAgain d (some (.int (nI (s_ext l fr t).length))) (h.set c (.inl (0, 60, .inl F'))) 37 [some (.ref k), some (.int (nI fr)), some (.int (nI l.length)), some (.int (nI t)), some (.int (nI (l.length - fr))), some (.int (nI (fr + (l.length - fr) * t))), some (.int (nI i))] [] h := by
  have hlen := s_ext_len (t := t) (Nat.le_of_lt hfr)
  have h8' : ∀ v ∈ s_ext l fr t, v ≤ 8 := fun v hv => h8 v (s_ext_mem hv)
  intro m
  induction m with
  | zero =>
    intro i F h hk hc hck hi hm hF
    refine ⟨F, ⟨fun j hj => hF j (by omega), h8'⟩, ?_⟩
    have he : h.set c (.inl (0, 60, .inl F)) = h := by
      apply List.ext_getElem?
      intro j
      by_cases hj : c = j
      · subst hj; rw [zset_eq hc, hc]
      · rw [List.getElem?_set, if_neg hj]
    rw [he]
    refine zj_iload dX5_sayAgain_37 (by rfl) ?_
    refine zj_iload dX5_sayAgain_39 (by rfl) ?_
    refine zj_icmp_geN (tgt := 67) dX5_sayAgain_41 (by decide) (by omega) (fun _ => ?_) (fun zq => absurd (by omega) zq)
    refine zj_iload dX5_sayAgain_67 (by rfl) ?_
    refine zj_iret dX5_sayAgain_69 rfl (Nat.le_refl _) (Nat.le_refl _) ?_
    exact ⟨by rw [hlen], rfl⟩
  | succ m ih =>
    intro i F h hk hc hck hi hm hF
    have hp := s_ext_per (t := t) hfr hi (by omega)
    have hv8 := s_getD_le (j := i) h8'
    obtain ⟨F', hF', hJ⟩ := ih (i + 1) (upd F i (nI ((s_ext l fr t).getD i 0))) (h.set c (.inl (0, 60, .inl (upd F i (nI ((s_ext l fr t).getD i 0)))))) (zset_ne hck hk) (zset_eq hc) hck (by omega) (by omega) (fun j hj => by
      by_cases hji : j = i
      · subst hji; rw [pk_us]
      · rw [pk_un hji]; exact hF j (by omega))
    refine ⟨F', hF', ?_⟩
    rw [List.set_set] at hJ
    refine zj_iload dX5_sayAgain_37 (by rfl) ?_
    refine zj_iload dX5_sayAgain_39 (by rfl) ?_
    refine zj_icmp_geN (tgt := 67) dX5_sayAgain_41 (by decide) (by omega) (fun zq => absurd zq (by omega)) (fun _ => ?_)
    refine zj_aload_n dX5_sayAgain_44 (by rfl) ?_
    refine zg_5_21 rfl dX5_sayAgain_45 (by first | assumption | rfl) (by rfl) ?_
    refine zj_iload dX5_sayAgain_48 (by rfl) ?_
    refine zj_aload_n dX5_sayAgain_50 (by rfl) ?_
    refine zg_5_21 rfl dX5_sayAgain_51 (by first | assumption | rfl) (by rfl) ?_
    refine zj_iload dX5_sayAgain_54 (by rfl) ?_
    refine zj_iload dX5_sayAgain_56 (by rfl) ?_
    refine zj_isubN dX5_sayAgain_58 (by omega) ?_
    refine zj_baldN dX5_sayAgain_59 (by first | assumption | rfl) (by omega) ?_
    rw [hF _ (by omega), ← hp]
    refine zj_bastN dX5_sayAgain_60 (by first | assumption | rfl) (by omega) ?_
    rw [s_nar8 _ (by omega)]
    refine zj_iincN dX5_sayAgain_61 (by rfl) (by decide) ?_
    refine zj_goto (tgt := 37) dX5_sayAgain_64 (by decide) ?_
    exact hJ
theorem x5_say {l' : List Nat} (hk : h[k]? = some (.inr (5, [.ref a, .int (nI n), .ref c, .ref b, .ref o]))) (hc : h[c]? = some (.inl (0, 60, .inl F))) (hck : ¬ c = k) (hF : s_arr F l) (hl : l.length ≤ 60) (ht : 1 ≤ t ∧ t ≤ 61) (hs : s_say l fr t = some l') : ∃ F', s_arr F' l' ∧ zD mX5_sayAgain d [.ref k, .int (nI fr), .int (nI l.length), .int (nI t)] h (some (.int (nI l'.length))) (h.set c (.inl (0, 60, .inl F'))) := by
  unfold s_say at hs
  by_cases hh : fr < l.length ∧ fr + (l.length - fr) * t ≤ 60
  · rw [if_pos hh] at hs
    cases hs
    have hm : (l.length - fr) * 1 ≤ (l.length - fr) * t := Nat.mul_le_mul_left _ ht.1
    obtain ⟨F', hF', hJ⟩ := x5_say_l (d := d) hh.1 ht hh.2 hF.2 (fr + (l.length - fr) * t - l.length) l.length F h hk hc hck (Nat.le_refl _) (by omega) (fun j hj => by rw [s_ext_lo hh.1 ht.1 hj]; exact hF.1 j hj)
    refine ⟨F', hF', ?_⟩
    refine zD_of (by decide +kernel) (by exact Nat.le_of_ble_eq_true rfl) ?_
    show zB mX5_sayAgain _ _ _ 0 [some (.ref k), some (.int (nI fr)), some (.int (nI l.length)), some (.int (nI t)), none, none, none] [] _
    refine zj_iload_n dX5_sayAgain_0 (by rfl) ?_
    refine zj_iload_n dX5_sayAgain_1 (by rfl) ?_
    refine zj_isubN dX5_sayAgain_2 (by omega) ?_
    refine zj_istore dX5_sayAgain_3 (by decide) ?_
    refine zj_iload_n dX5_sayAgain_5 (by rfl) ?_
    refine zj_iload dX5_sayAgain_6 (by rfl) ?_
    refine zj_iload_n dX5_sayAgain_8 (by rfl) ?_
    refine zj_imulN dX5_sayAgain_9 ?_
    refine zj_iaddN dX5_sayAgain_10 ?_
    refine zj_istore dX5_sayAgain_11 (by decide) ?_
    refine zj_iload_n dX5_sayAgain_13 (by rfl) ?_
    refine zj_if_ltN (tgt := 32) dX5_sayAgain_14 (by decide) (by omega) ?_
    refine zj_iload dX5_sayAgain_17 (by rfl) ?_
    refine zj_if_leN (tgt := 32) dX5_sayAgain_19 (by decide) (by omega) (fun zq => absurd zq (by omega)) (fun _ => ?_)
    refine zj_iload dX5_sayAgain_22 (by rfl) ?_
    refine zj_aload_n dX5_sayAgain_24 (by rfl) ?_
    refine zg_5_21 rfl dX5_sayAgain_25 (by first | assumption | rfl) (by rfl) ?_
    refine zj_alenI dX5_sayAgain_28 (by first | assumption | rfl) (by decide) ?_
    refine zj_icmp_leN (tgt := 34) dX5_sayAgain_29 (by decide) (by omega) (fun _ => ?_) (fun zq => absurd (by omega) zq)
    refine zj_iload_n dX5_sayAgain_34 (by rfl) ?_
    refine zj_istore dX5_sayAgain_35 (by decide) ?_
    exact hJ
  · rw [if_neg hh] at hs; cases hs
end SA
