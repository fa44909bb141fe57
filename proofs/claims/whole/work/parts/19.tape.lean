/-! CountBook$Tape -/
/-- a byte 0 .. 255 as Java's byte -/
def s_by (v : Nat) : Int32 := (nI v).toInt8.toInt32
theorem s_by_eq : ∀ v, v < 256 → (s_by v = 40 ↔ v = 40) ∧ (s_by v = 41 ↔ v = 41) ∧ (s_by v = 45 ↔ v = 45) := by decide +kernel
theorem s_by_lt : ∀ v, v < 256 → (s_by v < 50 ↔ v < 50 ∨ 128 ≤ v) ∧ (57 < s_by v ↔ 57 < v ∧ v < 128) ∧ (s_by v < 97 ↔ v < 97 ∨ 128 ≤ v) ∧ (104 < s_by v ↔ 104 < v ∧ v < 128) := by decide +kernel
theorem s_by_small : ∀ v, v < 128 → s_by v = nI v := by decide +kernel
theorem s_by_of (y : Int32) : y.toInt8.toInt32 = s_by (y.toBitVec.toNat % 256) := by
  unfold s_by
  congr 1
  apply Int8.toBitVec_inj.mp
  apply BitVec.eq_of_toNat_eq
  simp [nI, BitVec.signExtend_eq_setWidth_of_le]
theorem s_by_nar (y : Int32) : vp_nar .byte y.toInt8.toInt32 = y.toInt8.toInt32 := pk_vb y
theorem s_nar8 : ∀ v, v < 128 → vp_nar .byte (nI v) = nI v := by
  intro v hv
  rw [vp_nar_byte]
  exact s_by_small v hv
def s_isT (v : Nat) : Bool := decide (50 ≤ v ∧ v ≤ 57)
def s_syl (v : Nat) : Option Nat := if v = 45 then some 8 else if 97 ≤ v ∧ v ≤ 104 then some (v - 97) else none
theorem s_syl_le {v s : Nat} (h : s_syl v = some s) : s ≤ 8 ∧ v < 128 ∧ ¬ v = 40 ∧ ¬ v = 41 ∧ s_isT v = false := by
  unfold s_syl at h
  split at h
  · simp at h; subst h; rename_i hv; subst hv; decide
  · split at h
    · simp at h
      unfold s_isT
      simp
      omega
    · cases h
section TA
variable {d k a c b o n : Nat} {h : zH} {f F A B : Nat → Int32} {tb : Nat → Nat}
theorem x5_isTimes {v : Nat} (hv : v < 256) : zD mX5_isTimes d [.int (s_by v)] h (some (.int (if s_isT v = true then 1 else 0))) h := by
  have hl := s_by_lt v hv
  unfold s_isT
  simp only [decide_eq_true_eq]
  refine zD_of (by decide +kernel) (by exact Nat.le_of_ble_eq_true rfl) ?_
  show zB mX5_isTimes _ _ _ 0 [some (.int (s_by v))] [] _
  refine zj_iload_n dX5_isTimes_0 (by rfl) ?_
  refine zj_bipush (v := 50) dX5_isTimes_1 (by decide) ?_
  refine zj_icmp_lt (tgt := 16) dX5_isTimes_3 (by decide) (fun q3 => ?_) (fun q3 => ?_)
  · refine zj_iconst (v := 0) dX5_isTimes_16 (by decide) ?_
    refine zj_zret dX5_isTimes_17 rfl (by first | exact Or.inl rfl | exact Or.inr rfl) (Nat.le_refl _) (Nat.le_refl _) ?_
    refine ⟨?_, rfl⟩
    first | (rw [hl.1] at q3; rw [if_neg (by omega)]) | (rw [hl.1] at q3; rw [hl.2.1] at q9; rw [if_neg (by omega)]) | (rw [hl.1] at q3; rw [hl.2.1] at q9; rw [if_pos (by omega)])
  · refine zj_iload_n dX5_isTimes_6 (by rfl) ?_
    refine zj_bipush (v := 57) dX5_isTimes_7 (by decide) ?_
    refine zj_icmp_gt (tgt := 16) dX5_isTimes_9 (by decide) (fun q9 => ?_) (fun q9 => ?_)
    · refine zj_iconst (v := 0) dX5_isTimes_16 (by decide) ?_
      refine zj_zret dX5_isTimes_17 rfl (by first | exact Or.inl rfl | exact Or.inr rfl) (Nat.le_refl _) (Nat.le_refl _) ?_
      refine ⟨?_, rfl⟩
      first | (rw [hl.1] at q3; rw [if_neg (by omega)]) | (rw [hl.1] at q3; rw [hl.2.1] at q9; rw [if_neg (by omega)]) | (rw [hl.1] at q3; rw [hl.2.1] at q9; rw [if_pos (by omega)])
    · refine zj_iconst (v := 1) dX5_isTimes_12 (by decide) ?_
      refine zj_goto (tgt := 17) dX5_isTimes_13 (by decide) ?_
      refine zj_zret dX5_isTimes_17 rfl (by first | exact Or.inl rfl | exact Or.inr rfl) (Nat.le_refl _) (Nat.le_refl _) ?_
      refine ⟨?_, rfl⟩
      first | (rw [hl.1] at q3; rw [if_neg (by omega)]) | (rw [hl.1] at q3; rw [hl.2.1] at q9; rw [if_neg (by omega)]) | (rw [hl.1] at q3; rw [hl.2.1] at q9; rw [if_pos (by omega)])
def s_sI (o : Option Nat) : Int32 := match o with
  | none => -1
  | some s => nI s
theorem x5_syllableOf {v : Nat} (hv : v < 256) : zD mX5_syllableOf d [.int (s_by v)] h (some (.int (s_sI (s_syl v)))) h := by
  have hl := s_by_lt v hv
  have he := s_by_eq v hv
  unfold s_syl
  refine zD_of (by decide +kernel) (by exact Nat.le_of_ble_eq_true rfl) ?_
  show zB mX5_syllableOf _ _ _ 0 [some (.int (s_by v))] [] _
  refine zj_iload_n dX5_syllableOf_0 (by rfl) ?_
  refine zj_bipush (v := 45) dX5_syllableOf_1 (by decide) ?_
  refine zj_icmp_ne (tgt := 9) dX5_syllableOf_3 (by decide) (fun q3 => ?_) (fun q3 => ?_)
  all_goals rw [he.2.2] at q3
  · refine zj_iload_n dX5_syllableOf_9 (by rfl) ?_
    refine zj_bipush (v := 97) dX5_syllableOf_10 (by decide) ?_
    refine zj_icmp_lt (tgt := 28) dX5_syllableOf_12 (by decide) (fun q12 => ?_) (fun q12 => ?_)
    · refine zj_iconst (v := (-1)) dX5_syllableOf_28 (by decide) ?_
      refine zj_iret dX5_syllableOf_29 rfl (Nat.le_refl _) (Nat.le_refl _) ?_
      refine ⟨?_, rfl⟩
      rw [if_neg q3]
      first | (rw [hl.2.2.1] at q12; rw [if_neg (by omega)]; rfl) | (rw [hl.2.2.1] at q12; rw [hl.2.2.2] at q18; rw [if_neg (by omega)]; rfl) | (rw [hl.2.2.1] at q12; rw [hl.2.2.2] at q18; rw [if_pos (by omega), s_by_small v (by omega)]; show some (Value.int (nI v - nI 97)) = _; rw [pk_sub (by omega)]; rfl)
    · refine zj_iload_n dX5_syllableOf_15 (by rfl) ?_
      refine zj_bipush (v := 104) dX5_syllableOf_16 (by decide) ?_
      refine zj_icmp_gt (tgt := 28) dX5_syllableOf_18 (by decide) (fun q18 => ?_) (fun q18 => ?_)
      · refine zj_iconst (v := (-1)) dX5_syllableOf_28 (by decide) ?_
        refine zj_iret dX5_syllableOf_29 rfl (Nat.le_refl _) (Nat.le_refl _) ?_
        refine ⟨?_, rfl⟩
        rw [if_neg q3]
        first | (rw [hl.2.2.1] at q12; rw [if_neg (by omega)]; rfl) | (rw [hl.2.2.1] at q12; rw [hl.2.2.2] at q18; rw [if_neg (by omega)]; rfl) | (rw [hl.2.2.1] at q12; rw [hl.2.2.2] at q18; rw [if_pos (by omega), s_by_small v (by omega)]; show some (Value.int (nI v - nI 97)) = _; rw [pk_sub (by omega)]; rfl)
      · refine zj_iload_n dX5_syllableOf_21 (by rfl) ?_
        refine zj_bipush (v := 97) dX5_syllableOf_22 (by decide) ?_
        refine zj_isub dX5_syllableOf_24 ?_
        refine zj_goto (tgt := 29) dX5_syllableOf_25 (by decide) ?_
        refine zj_iret dX5_syllableOf_29 rfl (Nat.le_refl _) (Nat.le_refl _) ?_
        refine ⟨?_, rfl⟩
        rw [if_neg q3]
        first | (rw [hl.2.2.1] at q12; rw [if_neg (by omega)]; rfl) | (rw [hl.2.2.1] at q12; rw [hl.2.2.2] at q18; rw [if_neg (by omega)]; rfl) | (rw [hl.2.2.1] at q12; rw [hl.2.2.2] at q18; rw [if_pos (by omega), s_by_small v (by omega)]; show some (Value.int (nI v - nI 97)) = _; rw [pk_sub (by omega)]; rfl)
  · refine zj_bipush (v := 8) dX5_syllableOf_6 (by decide) ?_
    refine zj_iret dX5_syllableOf_8 rfl (Nat.le_refl _) (Nat.le_refl _) ?_
    exact ⟨by rw [if_pos q3]; rfl, rfl⟩
theorem x5_hasRoomFor (hk : h[k]? = some (.inr (5, [.ref a, .int (nI n), .ref c, .ref b, .ref o]))) (hn : n ≤ 60) : zD mX5_hasRoomFor d [.ref k, .int (nI 12)] h (some (.int (if n + 12 ≤ 60 then 1 else 0))) h := by
  refine zD_of (by decide +kernel) (by exact Nat.le_of_ble_eq_true rfl) ?_
  show zB mX5_hasRoomFor _ _ _ 0 [some (.ref k), some (.int (nI 12))] [] _
  refine zj_aload_n dX5_hasRoomFor_0 (by rfl) ?_
  refine zg_5_15 rfl dX5_hasRoomFor_1 (by first | assumption | rfl) (by rfl) ?_
  refine zj_iload_n dX5_hasRoomFor_4 (by rfl) ?_
  refine zj_iaddN dX5_hasRoomFor_5 ?_
  refine zj_bipush (v := nI 60) dX5_hasRoomFor_6 (by decide) ?_
  refine zj_icmp_gtN (tgt := 15) dX5_hasRoomFor_8 (by decide) (by omega) (fun q8 => ?_) (fun q8 => ?_)
  · refine zj_iconst (v := nI 0) dX5_hasRoomFor_15 (by decide) ?_
    refine zj_zret dX5_hasRoomFor_16 rfl (by first | exact Or.inl rfl | exact Or.inr rfl) (Nat.le_refl _) (Nat.le_refl _) ?_
    exact ⟨by first | (rw [if_pos (by omega)]; rfl) | (rw [if_neg (by omega)]; rfl), rfl⟩
  · refine zj_iconst (v := nI 1) dX5_hasRoomFor_11 (by decide) ?_
    refine zj_goto (tgt := 16) dX5_hasRoomFor_12 (by decide) ?_
    refine zj_zret dX5_hasRoomFor_16 rfl (by first | exact Or.inl rfl | exact Or.inr rfl) (Nat.le_refl _) (Nat.le_refl _) ?_
    exact ⟨by first | (rw [if_pos (by omega)]; rfl) | (rw [if_neg (by omega)]; rfl), rfl⟩
/-- where the tape goes wrong: m bytes left, place i -/
def s_fp (tb : Nat → Nat) : Nat → Nat → Nat → Bool → Option Nat
  | 0, i, op, due => if due = true ∨ 0 < op then some i else none
  | m + 1, i, op, due => if tb i = 40 then (if op < 6 then s_fp tb m (i + 1) (op + 1) true else some i) else if tb i = 41 then (if due = true ∨ op = 0 then some i else s_fp tb m (i + 1) (op - 1) due) else if s_isT (tb i) = true then s_fp tb m (i + 1) op true else if s_syl (tb i) = none then some i else s_fp tb m (i + 1) op false
def s_fI (o : Option Nat) : Int32 := match o with
  | none => -1
  | some i => nI i
def s_bI (x : Bool) : Int32 := if x = true then nI 1 else nI 0
theorem x5_faultPlace_l (hk : h[k]? = some (.inr (5, [.ref a, .int (nI n), .ref c, .ref b, .ref o]))) (ha : h[a]? = some (.inl (0, 60, .inl f))) (hn : n ≤ 60) (hf : ∀ j, j < n → f j = s_by (tb j) ∧ tb j < 256) : ∀ m i op due o4, i + m = n → op ≤ 6 → zB mX5_faultPlace (d + 1) (some (.int (s_fI (s_fp tb m i op due)))) h 6 [some (.ref k), some (.int (nI op)), some (.int (s_bI due)), some (.int (nI i)), o4] [] h := by
  intro m
  induction m with
  | zero =>
    intro i op due o4 hi hop
    have hin : i = n := by omega
    unfold s_fp
    cases due <;> (unfold s_bI; simp only [if_true, Bool.false_eq_true, if_false, true_or, false_or])
    · refine zj_iload_n dX5_faultPlace_6 (by rfl) ?_
      refine zj_aload_n dX5_faultPlace_7 (by rfl) ?_
      refine zg_5_15 rfl dX5_faultPlace_8 (by first | assumption | rfl) (by rfl) ?_
      refine zj_icmp_geN (tgt := 102) dX5_faultPlace_11 (by decide) (by omega) (fun _ => ?_) (fun zq => absurd (by omega) zq)
      refine zj_iload_n dX5_faultPlace_102 (by rfl) ?_
      refine zj_if_neN (tgt := 110) dX5_faultPlace_103 (by decide) (by omega) (fun zq => absurd (by omega) zq) (fun _ => ?_)
      refine zj_iload_n dX5_faultPlace_106 (by rfl) ?_
      refine zj_if_leN (tgt := 117) dX5_faultPlace_107 (by decide) (by omega) (fun q107 => ?_) (fun q107 => ?_)
      · refine zj_iconst (v := (-1)) dX5_faultPlace_117 (by decide) ?_
        refine zj_iret dX5_faultPlace_118 rfl (Nat.le_refl _) (Nat.le_refl _) ?_
        exact ⟨by first | (rw [if_pos (by omega), ← hin]; rfl) | (rw [if_neg (by omega)]; rfl), rfl⟩
      · refine zj_aload_n dX5_faultPlace_110 (by rfl) ?_
        refine zg_5_15 rfl dX5_faultPlace_111 (by first | assumption | rfl) (by rfl) ?_
        refine zj_goto (tgt := 118) dX5_faultPlace_114 (by decide) ?_
        refine zj_iret dX5_faultPlace_118 rfl (Nat.le_refl _) (Nat.le_refl _) ?_
        exact ⟨by first | (rw [if_pos (by omega), ← hin]; rfl) | (rw [if_neg (by omega)]; rfl), rfl⟩
    · refine zj_iload_n dX5_faultPlace_6 (by rfl) ?_
      refine zj_aload_n dX5_faultPlace_7 (by rfl) ?_
      refine zg_5_15 rfl dX5_faultPlace_8 (by first | assumption | rfl) (by rfl) ?_
      refine zj_icmp_geN (tgt := 102) dX5_faultPlace_11 (by decide) (by omega) (fun _ => ?_) (fun zq => absurd (by omega) zq)
      refine zj_iload_n dX5_faultPlace_102 (by rfl) ?_
      refine zj_if_neN (tgt := 110) dX5_faultPlace_103 (by decide) (by omega) (fun _ => ?_) (fun zq => absurd zq (by omega))
      refine zj_aload_n dX5_faultPlace_110 (by rfl) ?_
      refine zg_5_15 rfl dX5_faultPlace_111 (by first | assumption | rfl) (by rfl) ?_
      refine zj_goto (tgt := 118) dX5_faultPlace_114 (by decide) ?_
      refine zj_iret dX5_faultPlace_118 rfl (Nat.le_refl _) (Nat.le_refl _) ?_
      exact ⟨by rw [← hin]; rfl, rfl⟩
  | succ m ih =>
    intro i op due o4 hi hop
    obtain ⟨hf1, hv⟩ := hf i (by omega)
    have he := s_by_eq (tb i) hv
    unfold s_fp
    refine zj_iload_n dX5_faultPlace_6 (by rfl) ?_
    refine zj_aload_n dX5_faultPlace_7 (by rfl) ?_
    refine zg_5_15 rfl dX5_faultPlace_8 (by first | assumption | rfl) (by rfl) ?_
    refine zj_icmp_ge (tgt := 102) dX5_faultPlace_11 (by decide) (fun zq => absurd zq (nI_ge (show i < n by omega) (by omega))) (fun _ => ?_)
    refine zj_aload_n dX5_faultPlace_14 (by rfl) ?_
    refine zg_5_11 rfl dX5_faultPlace_15 (by first | assumption | rfl) (by rfl) ?_
    refine zj_iload_n dX5_faultPlace_18 (by rfl) ?_
    refine zj_bald dX5_faultPlace_19 (by first | assumption | rfl) (vp_in_nI (show i < 60 by omega) (by omega)) ?_
    rw [nI_clamp (show i < 2 ^ 31 by omega), hf1]
    refine zj_istore dX5_faultPlace_20 (by decide) ?_
    refine zj_iload dX5_faultPlace_22 (by rfl) ?_
    refine zj_bipush (v := 40) dX5_faultPlace_24 (by decide) ?_
    refine zj_icmp_ne (tgt := 45) dX5_faultPlace_26 (by decide) (fun q26 => ?_) (fun q26 => ?_)
    all_goals rw [he.1] at q26
    · refine zj_iload dX5_faultPlace_45 (by rfl) ?_
      refine zj_bipush (v := 41) dX5_faultPlace_47 (by decide) ?_
      refine zj_icmp_ne (tgt := 68) dX5_faultPlace_49 (by decide) (fun q49 => ?_) (fun q49 => ?_)
      all_goals rw [he.2.1] at q49
      · refine zj_iload dX5_faultPlace_68 (by rfl) ?_
        refine zc_5_49 rfl dX5_faultPlace_70 (x5_isTimes hv) (by exact Nat.le_of_ble_eq_true rfl) ?_
        refine zj_if_eq (tgt := 81) dX5_faultPlace_73 (by decide) (fun q73 => ?_) (fun q73 => ?_)
        · refine zj_iload dX5_faultPlace_81 (by rfl) ?_
          refine zc_5_53 rfl dX5_faultPlace_83 (x5_syllableOf hv) (by exact Nat.le_of_ble_eq_true rfl) ?_
          refine zj_if_lt (tgt := 94) dX5_faultPlace_86 (by decide) (fun q86 => ?_) (fun q86 => ?_)
          · refine zj_iload_n dX5_faultPlace_94 (by rfl) ?_
            refine zj_iret dX5_faultPlace_95 rfl (Nat.le_refl _) (Nat.le_refl _) ?_
            refine ⟨?_, rfl⟩
            have h1 : ¬ s_isT (tb i) = true := fun hh => by rw [if_pos hh] at q73; exact absurd q73 (by decide)
            have h2 : s_syl (tb i) = none := by
              cases hs : s_syl (tb i) with
              | none => rfl
              | some s => rw [hs] at q86; exact absurd q86 (nI_pos (by have := (s_syl_le hs).1; omega))
            rw [if_neg q26, if_neg q49, if_neg h1, if_pos h2]
            rfl
          · refine zj_iconst (v := 0) dX5_faultPlace_89 (by decide) ?_
            refine zj_istore_n dX5_faultPlace_90 (by decide) ?_
            have h1 : ¬ s_isT (tb i) = true := fun hh => by rw [if_pos hh] at q73; exact absurd q73 (by decide)
            have h2 : ¬ s_syl (tb i) = none := fun hs => by rw [hs] at q86; exact q86 (by decide)
            rw [if_neg q26, if_neg q49, if_neg h1, if_neg h2]
            have hJ := fun x => ih (i + 1) op false x
            refine zj_goto (tgt := 96) dX5_faultPlace_91 (by decide) ?_
            refine zj_iinc (v := 1) dX5_faultPlace_96 (by decide) (by rfl) (by decide) ?_
            rw [nI_1]
            refine zj_goto (tgt := 6) dX5_faultPlace_99 (by decide) ?_
            exact hJ _ (by omega) (by omega)
        · refine zj_iconst (v := 1) dX5_faultPlace_76 (by decide) ?_
          refine zj_istore_n dX5_faultPlace_77 (by decide) ?_
          have h1 : s_isT (tb i) = true := by
            by_cases hh : s_isT (tb i) = true
            · exact hh
            · rw [if_neg hh] at q73; exact absurd rfl q73
          rw [if_neg q26, if_neg q49, if_pos h1]
          have hJ := fun x => ih (i + 1) op true x
          refine zj_goto (tgt := 96) dX5_faultPlace_78 (by decide) ?_
          refine zj_iinc (v := 1) dX5_faultPlace_96 (by decide) (by rfl) (by decide) ?_
          rw [nI_1]
          refine zj_goto (tgt := 6) dX5_faultPlace_99 (by decide) ?_
          exact hJ _ (by omega) (by omega)
      · refine zj_iload_n dX5_faultPlace_52 (by rfl) ?_
        refine zj_if_ne (tgt := 60) dX5_faultPlace_53 (by decide) (fun q53 => ?_) (fun q53 => ?_)
        · refine zj_iload_n dX5_faultPlace_60 (by rfl) ?_
          refine zj_iret dX5_faultPlace_61 rfl (Nat.le_refl _) (Nat.le_refl _) ?_
          refine ⟨?_, rfl⟩
          have hor : due = true ∨ op = 0 := by
            cases due with
            | true => exact Or.inl rfl
            | false => exact Or.inr ((zn_0 (by omega)).mp (by first | exact q57 | exact absurd (show s_bI false = 0 from rfl) q53))
          rw [if_neg q26, if_pos q49, if_pos hor]
          rfl
        · refine zj_iload_n dX5_faultPlace_56 (by rfl) ?_
          refine zj_if_ne (tgt := 62) dX5_faultPlace_57 (by decide) (fun q57 => ?_) (fun q57 => ?_)
          · refine zj_iinc (v := (-1)) dX5_faultPlace_62 (by decide) (by rfl) (by decide) ?_
            have h0 : ¬ op = 0 := mt (zn_0 (by omega)).mpr q57
            have hdf : due = false := by
              cases due with
              | false => rfl
              | true => exact absurd q53 (by decide)
            subst hdf
            obtain ⟨op1, rfl⟩ : ∃ j, op = j + 1 := ⟨op - 1, by omega⟩
            rw [pk_m1, if_neg q26, if_pos q49, if_neg (by simp), Nat.add_sub_cancel]
            have hJ := fun x => ih (i + 1) op1 false x
            refine zj_goto (tgt := 96) dX5_faultPlace_65 (by decide) ?_
            refine zj_iinc (v := 1) dX5_faultPlace_96 (by decide) (by rfl) (by decide) ?_
            rw [nI_1]
            refine zj_goto (tgt := 6) dX5_faultPlace_99 (by decide) ?_
            exact hJ _ (by omega) (by omega)
          · refine zj_iload_n dX5_faultPlace_60 (by rfl) ?_
            refine zj_iret dX5_faultPlace_61 rfl (Nat.le_refl _) (Nat.le_refl _) ?_
            refine ⟨?_, rfl⟩
            have hor : due = true ∨ op = 0 := by
              cases due with
              | true => exact Or.inl rfl
              | false => exact Or.inr ((zn_0 (by omega)).mp (by first | exact q57 | exact absurd (show s_bI false = 0 from rfl) q53))
            rw [if_neg q26, if_pos q49, if_pos hor]
            rfl
    · refine zj_iload_n dX5_faultPlace_29 (by rfl) ?_
      refine zj_bipush (v := 6) dX5_faultPlace_30 (by decide) ?_
      refine zj_icmp_lt (tgt := 37) dX5_faultPlace_32 (by decide) (fun q32 => ?_) (fun q32 => ?_)
      all_goals rw [show (6 : Int32) = nI 6 from rfl, nI_ltI (by omega) (by omega)] at q32
      · refine zj_iinc (v := 1) dX5_faultPlace_37 (by decide) (by rfl) (by decide) ?_
        rw [nI_1, if_pos q26, if_pos q32]
        have hJ := fun x => ih (i + 1) (op + 1) true x
        refine zj_iconst (v := 1) dX5_faultPlace_40 (by decide) ?_
        refine zj_istore_n dX5_faultPlace_41 (by decide) ?_
        refine zj_goto (tgt := 96) dX5_faultPlace_42 (by decide) ?_
        refine zj_iinc (v := 1) dX5_faultPlace_96 (by decide) (by rfl) (by decide) ?_
        rw [nI_1]
        refine zj_goto (tgt := 6) dX5_faultPlace_99 (by decide) ?_
        exact hJ _ (by omega) (by omega)
      · refine zj_iload_n dX5_faultPlace_35 (by rfl) ?_
        refine zj_iret dX5_faultPlace_36 rfl (Nat.le_refl _) (Nat.le_refl _) ?_
        exact ⟨by rw [if_pos q26, if_neg q32]; rfl, rfl⟩
theorem x5_faultPlace (hk : h[k]? = some (.inr (5, [.ref a, .int (nI n), .ref c, .ref b, .ref o]))) (ha : h[a]? = some (.inl (0, 60, .inl f))) (hn : n ≤ 60) (hf : ∀ j, j < n → f j = s_by (tb j) ∧ tb j < 256) : zD mX5_faultPlace (d + 1) [.ref k] h (some (.int (s_fI (s_fp tb n 0 0 true)))) h := by
  refine zD_of (by decide +kernel) (by exact Nat.le_of_ble_eq_true rfl) ?_
  show zB mX5_faultPlace _ _ _ 0 [some (.ref k), none, none, none, none] [] _
  refine zj_iconst (v := 0) dX5_faultPlace_0 (by decide) ?_
  refine zj_istore_n dX5_faultPlace_1 (by decide) ?_
  refine zj_iconst (v := 1) dX5_faultPlace_2 (by decide) ?_
  refine zj_istore_n dX5_faultPlace_3 (by decide) ?_
  refine zj_iconst (v := 0) dX5_faultPlace_4 (by decide) ?_
  refine zj_istore_n dX5_faultPlace_5 (by decide) ?_
  exact x5_faultPlace_l (d := d) hk ha hn hf n 0 0 true none (by omega) (by omega)
end TA
