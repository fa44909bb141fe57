section CM
variable {h : zH} {C : Nat → List (Nat × Nat)} {P : Nat → List Nat} {S : Nat → Option (List Int32)} {T : List Nat} {H : Nat → Nat} {O : List (Nat × Nat)} {g d : Nat}
/-- what a closing's arguments must be -/
def s_bad (c p how t gp : Int32) : Prop := (c < 0 ∨ 4 ≤ c) ∨ (p < 0 ∨ 6 ≤ p) ∨ (how < 0 ∨ ∃ v, v < 2 ^ 31 ∧ how = nI v ∧ s_how v = false) ∨ t < 0 ∨ (gp < 0 ∨ 96 < gp)
theorem x7_crBad (r : RX h C P S T H O g) {c p how t gp : Int32} (hb : s_bad c p how t gp) : zD mX7_closingRefusal (d + 2) [.ref 0, .int c, .int p, .int how, .int t, .int gp] h (some (.int (-1000000001))) h := by
  obtain ⟨r0, -⟩ := id r
  obtain ⟨q0, -⟩ := id r0
  by_cases hc : c < 0 ∨ 4 ≤ c
  · by_cases hp : p < 0 ∨ 6 ≤ p
    · refine zD_of (by decide +kernel) (by exact Nat.le_of_ble_eq_true rfl) ?_
      show zB mX7_closingRefusal _ _ _ 0 [some (.ref 0), some (.int c), some (.int p), some (.int how), some (.int t), some (.int gp), none, none] [] _
      refine zj_aload_n dX7_closingRefusal_0 (by rfl) ?_
      refine zj_iload_n dX7_closingRefusal_1 (by rfl) ?_
      refine zc_7_62 rfl dX7_closingRefusal_2 (by first | assumption | rfl) (x7_cycleAtN r0 hc) (by exact Nat.le_of_ble_eq_true rfl) ?_
      refine zj_astoreN dX7_closingRefusal_5 (by decide) ?_
      refine zj_aload_n dX7_closingRefusal_7 (by rfl) ?_
      refine zj_iload_n dX7_closingRefusal_8 (by rfl) ?_
      refine zc_7_99 rfl dX7_closingRefusal_9 (by first | assumption | rfl) (x7_phraseAtN r0 hp) (by exact Nat.le_of_ble_eq_true rfl) ?_
      refine zj_astoreN dX7_closingRefusal_12 (by decide) ?_
      refine zj_aloadN dX7_closingRefusal_14 (by rfl) ?_
      refine zj_ifnullN (tgt := 44) dX7_closingRefusal_16 (by decide) ?_
      refine zj_ldc (v := -1000000001) dX7_closingRefusal_44 zq_226 ?_
      refine zj_iret dX7_closingRefusal_46 rfl (Nat.le_refl _) (Nat.le_refl _) ?_
      exact ⟨rfl, rfl⟩
    · obtain ⟨j, hj, rfl⟩ : ∃ j, j < 6 ∧ p = nI j := ((pk_ix p (n := 6) (by decide)).resolve_left (fun e => hp (Or.inl e))).resolve_left (fun e => hp (Or.inr e))
      refine zD_of (by decide +kernel) (by exact Nat.le_of_ble_eq_true rfl) ?_
      show zB mX7_closingRefusal _ _ _ 0 [some (.ref 0), some (.int c), some (.int (nI j)), some (.int how), some (.int t), some (.int gp), none, none] [] _
      refine zj_aload_n dX7_closingRefusal_0 (by rfl) ?_
      refine zj_iload_n dX7_closingRefusal_1 (by rfl) ?_
      refine zc_7_62 rfl dX7_closingRefusal_2 (by first | assumption | rfl) (x7_cycleAtN r0 hc) (by exact Nat.le_of_ble_eq_true rfl) ?_
      refine zj_astoreN dX7_closingRefusal_5 (by decide) ?_
      refine zj_aload_n dX7_closingRefusal_7 (by rfl) ?_
      refine zj_iload_n dX7_closingRefusal_8 (by rfl) ?_
      refine zc_7_99 rfl dX7_closingRefusal_9 (by first | assumption | rfl) (x7_phraseAt r0 hj) (by exact Nat.le_of_ble_eq_true rfl) ?_
      refine zj_astore dX7_closingRefusal_12 (by decide) ?_
      refine zj_aloadN dX7_closingRefusal_14 (by rfl) ?_
      refine zj_ifnullN (tgt := 44) dX7_closingRefusal_16 (by decide) ?_
      refine zj_ldc (v := -1000000001) dX7_closingRefusal_44 zq_226 ?_
      refine zj_iret dX7_closingRefusal_46 rfl (Nat.le_refl _) (Nat.le_refl _) ?_
      exact ⟨rfl, rfl⟩
  · obtain ⟨i, hi, rfl⟩ : ∃ i, i < 4 ∧ c = nI i := ((pk_ix c (n := 4) (by decide)).resolve_left (fun e => hc (Or.inl e))).resolve_left (fun e => hc (Or.inr e))
    by_cases hp : p < 0 ∨ 6 ≤ p
    · refine zD_of (by decide +kernel) (by exact Nat.le_of_ble_eq_true rfl) ?_
      show zB mX7_closingRefusal _ _ _ 0 [some (.ref 0), some (.int (nI i)), some (.int p), some (.int how), some (.int t), some (.int gp), none, none] [] _
      refine zj_aload_n dX7_closingRefusal_0 (by rfl) ?_
      refine zj_iload_n dX7_closingRefusal_1 (by rfl) ?_
      refine zc_7_62 rfl dX7_closingRefusal_2 (by first | assumption | rfl) (x7_cycleAt r0 hi) (by exact Nat.le_of_ble_eq_true rfl) ?_
      refine zj_astore dX7_closingRefusal_5 (by decide) ?_
      refine zj_aload_n dX7_closingRefusal_7 (by rfl) ?_
      refine zj_iload_n dX7_closingRefusal_8 (by rfl) ?_
      refine zc_7_99 rfl dX7_closingRefusal_9 (by first | assumption | rfl) (x7_phraseAtN r0 hp) (by exact Nat.le_of_ble_eq_true rfl) ?_
      refine zj_astoreN dX7_closingRefusal_12 (by decide) ?_
      refine zj_aload dX7_closingRefusal_14 (by rfl) ?_
      refine zj_ifnull dX7_closingRefusal_16 ?_
      refine zj_aloadN dX7_closingRefusal_19 (by rfl) ?_
      refine zj_ifnullN (tgt := 44) dX7_closingRefusal_21 (by decide) ?_
      refine zj_ldc (v := -1000000001) dX7_closingRefusal_44 zq_226 ?_
      refine zj_iret dX7_closingRefusal_46 rfl (Nat.le_refl _) (Nat.le_refl _) ?_
      exact ⟨rfl, rfl⟩
    · obtain ⟨j, hj, rfl⟩ : ∃ j, j < 6 ∧ p = nI j := ((pk_ix p (n := 6) (by decide)).resolve_left (fun e => hp (Or.inl e))).resolve_left (fun e => hp (Or.inr e))
      by_cases hh : how < 0 ∨ ∃ v, v < 2 ^ 31 ∧ how = nI v ∧ s_how v = false
      · have hH : zD mX7_isHow (d + 1) [.int how] h (some (.int 0)) h := by
          rcases hh with hh | ⟨v, hv, rfl, hf⟩
          · exact x7_isHowN hh
          · have := x7_isHow (d := d) (h := h) hv
            rw [hf] at this
            exact this
        refine zD_of (by decide +kernel) (by exact Nat.le_of_ble_eq_true rfl) ?_
        show zB mX7_closingRefusal _ _ _ 0 [some (.ref 0), some (.int (nI i)), some (.int (nI j)), some (.int how), some (.int t), some (.int gp), none, none] [] _
        refine zj_aload_n dX7_closingRefusal_0 (by rfl) ?_
        refine zj_iload_n dX7_closingRefusal_1 (by rfl) ?_
        refine zc_7_62 rfl dX7_closingRefusal_2 (by first | assumption | rfl) (x7_cycleAt r0 hi) (by exact Nat.le_of_ble_eq_true rfl) ?_
        refine zj_astore dX7_closingRefusal_5 (by decide) ?_
        refine zj_aload_n dX7_closingRefusal_7 (by rfl) ?_
        refine zj_iload_n dX7_closingRefusal_8 (by rfl) ?_
        refine zc_7_99 rfl dX7_closingRefusal_9 (by first | assumption | rfl) (x7_phraseAt r0 hj) (by exact Nat.le_of_ble_eq_true rfl) ?_
        refine zj_astore dX7_closingRefusal_12 (by decide) ?_
        refine zj_aload dX7_closingRefusal_14 (by rfl) ?_
        refine zj_ifnull dX7_closingRefusal_16 ?_
        refine zj_aload dX7_closingRefusal_19 (by rfl) ?_
        refine zj_ifnull dX7_closingRefusal_21 ?_
        refine zj_iload_n dX7_closingRefusal_24 (by rfl) ?_
        refine zc_7_236 rfl dX7_closingRefusal_25 hH (by exact Nat.le_of_ble_eq_true rfl) ?_
        refine zj_if_eq (tgt := 44) dX7_closingRefusal_28 (by decide) (fun _ => ?_) (fun zq => absurd (rfl) zq)
        refine zj_ldc (v := -1000000001) dX7_closingRefusal_44 zq_226 ?_
        refine zj_iret dX7_closingRefusal_46 rfl (Nat.le_refl _) (Nat.le_refl _) ?_
        exact ⟨rfl, rfl⟩
      · obtain ⟨v, hv, rfl⟩ := nI_of (fun e => hh (Or.inl e) : ¬ how < 0)
        have hvh : s_how v = true := by
          cases he : s_how v with
          | true => rfl
          | false => exact absurd (Or.inr ⟨v, hv, rfl, he⟩) hh
        have hH := x7_isHow (d := d) (h := h) hv
        rw [if_pos hvh] at hH
        have hb2 : t < 0 ∨ (gp < 0 ∨ 96 < gp) := by
          rcases hb with hb | hb | hb | hb
          · exact absurd hb hc
          · exact absurd hb hp
          · exact absurd hb hh
          · exact hb
        refine zD_of (by decide +kernel) (by exact Nat.le_of_ble_eq_true rfl) ?_
        show zB mX7_closingRefusal _ _ _ 0 [some (.ref 0), some (.int (nI i)), some (.int (nI j)), some (.int (nI v)), some (.int t), some (.int gp), none, none] [] _
        refine zj_aload_n dX7_closingRefusal_0 (by rfl) ?_
        refine zj_iload_n dX7_closingRefusal_1 (by rfl) ?_
        refine zc_7_62 rfl dX7_closingRefusal_2 (by first | assumption | rfl) (x7_cycleAt r0 hi) (by exact Nat.le_of_ble_eq_true rfl) ?_
        refine zj_astore dX7_closingRefusal_5 (by decide) ?_
        refine zj_aload_n dX7_closingRefusal_7 (by rfl) ?_
        refine zj_iload_n dX7_closingRefusal_8 (by rfl) ?_
        refine zc_7_99 rfl dX7_closingRefusal_9 (by first | assumption | rfl) (x7_phraseAt r0 hj) (by exact Nat.le_of_ble_eq_true rfl) ?_
        refine zj_astore dX7_closingRefusal_12 (by decide) ?_
        refine zj_aload dX7_closingRefusal_14 (by rfl) ?_
        refine zj_ifnull dX7_closingRefusal_16 ?_
        refine zj_aload dX7_closingRefusal_19 (by rfl) ?_
        refine zj_ifnull dX7_closingRefusal_21 ?_
        refine zj_iload_n dX7_closingRefusal_24 (by rfl) ?_
        refine zc_7_236 rfl dX7_closingRefusal_25 hH (by exact Nat.le_of_ble_eq_true rfl) ?_
        refine zj_if_eq (tgt := 44) dX7_closingRefusal_28 (by decide) (fun zq => absurd zq (by decide)) (fun _ => ?_)
        refine zj_iload dX7_closingRefusal_31 (by rfl) ?_
        refine zj_if_lt (tgt := 44) dX7_closingRefusal_33 (by decide) (fun q33 => ?_) (fun q33 => ?_)
        · refine zj_ldc (v := -1000000001) dX7_closingRefusal_44 zq_226 ?_
          refine zj_iret dX7_closingRefusal_46 rfl (Nat.le_refl _) (Nat.le_refl _) ?_
          exact ⟨rfl, rfl⟩
        · refine zj_iload dX7_closingRefusal_36 (by rfl) ?_
          refine zc_7_181 rfl dX7_closingRefusal_38 (x7_isGap _) (by exact Nat.le_of_ble_eq_true rfl) ?_
          refine zj_if_ne (tgt := 47) dX7_closingRefusal_41 (by decide) (fun q41 => ?_) (fun q41 => ?_)
          · exfalso
            rcases hb2 with hb2 | hb2 | hb2
            · exact q33 hb2
            · rw [if_pos hb2] at q41; exact q41 rfl
            · by_cases hk0 : gp < 0; rw [if_pos hk0] at q41; exact q41 rfl; rw [if_neg hk0, if_pos hb2] at q41; exact q41 rfl
          · refine zj_ldc (v := -1000000001) dX7_closingRefusal_44 zq_226 ?_
            refine zj_iret dX7_closingRefusal_46 rfl (Nat.le_refl _) (Nat.le_refl _) ?_
            exact ⟨rfl, rfl⟩
theorem x7_cr (w : WF C P S T H O g) (r : RX h C P S T H O g) {c p v t gp : Nat} (hc : c < 4) (hp : p < 6) (hv : v < 2 ^ 31) (hvh : s_how v = true) (ht : t < 2 ^ 31) (hg : gp ≤ 96) : zD mX7_closingRefusal (d + 2) [.ref 0, .int (nI c), .int (nI p), .int (nI v), .int (nI t), .int (nI gp)] h (some (.int (if (C c).length = 0 ∨ (P p).length = 0 then -1000000002 else 0))) h := by
  obtain ⟨r0, rc, rp, -⟩ := id r
  obtain ⟨q0, -⟩ := id r0
  obtain ⟨c0, -⟩ := rc c hc
  obtain ⟨p0, -⟩ := rp p hp
  have l1 := (w.1 c hc).1
  have l2 := (w.2.1 p hp).1
  have hH := x7_isHow (d := d) (h := h) hv
  rw [if_pos hvh] at hH
  have hG := x7_isGap (d := d + 1) (h := h) (nI gp)
  rw [if_neg (nI_pos (by omega)), if_neg (show ¬ (96 : Int32) < nI gp from nI_nlt (a := 96) (b := gp) hg (by decide))] at hG
  refine zD_of (by decide +kernel) (by exact Nat.le_of_ble_eq_true rfl) ?_
  show zB mX7_closingRefusal _ _ _ 0 [some (.ref 0), some (.int (nI c)), some (.int (nI p)), some (.int (nI v)), some (.int (nI t)), some (.int (nI gp)), none, none] [] _
  refine zj_aload_n dX7_closingRefusal_0 (by rfl) ?_
  refine zj_iload_n dX7_closingRefusal_1 (by rfl) ?_
  refine zc_7_62 rfl dX7_closingRefusal_2 (by first | assumption | rfl) (x7_cycleAt r0 hc) (by exact Nat.le_of_ble_eq_true rfl) ?_
  refine zj_astore dX7_closingRefusal_5 (by decide) ?_
  refine zj_aload_n dX7_closingRefusal_7 (by rfl) ?_
  refine zj_iload_n dX7_closingRefusal_8 (by rfl) ?_
  refine zc_7_99 rfl dX7_closingRefusal_9 (by first | assumption | rfl) (x7_phraseAt r0 hp) (by exact Nat.le_of_ble_eq_true rfl) ?_
  refine zj_astore dX7_closingRefusal_12 (by decide) ?_
  refine zj_aload dX7_closingRefusal_14 (by rfl) ?_
  refine zj_ifnull dX7_closingRefusal_16 ?_
  refine zj_aload dX7_closingRefusal_19 (by rfl) ?_
  refine zj_ifnull dX7_closingRefusal_21 ?_
  refine zj_iload_n dX7_closingRefusal_24 (by rfl) ?_
  refine zc_7_236 rfl dX7_closingRefusal_25 hH (by exact Nat.le_of_ble_eq_true rfl) ?_
  refine zj_if_eq (tgt := 44) dX7_closingRefusal_28 (by decide) (fun zq => absurd zq (by decide)) (fun _ => ?_)
  refine zj_iload dX7_closingRefusal_31 (by rfl) ?_
  refine zj_if_ltN (tgt := 44) dX7_closingRefusal_33 (by decide) (by omega) ?_
  refine zj_iload dX7_closingRefusal_36 (by rfl) ?_
  refine zc_7_181 rfl dX7_closingRefusal_38 hG (by exact Nat.le_of_ble_eq_true rfl) ?_
  refine zj_if_ne (tgt := 47) dX7_closingRefusal_41 (by decide) (fun _ => ?_) (fun zq => absurd zq (by decide))
  refine zj_aload dX7_closingRefusal_47 (by rfl) ?_
  refine zg_7_75 rfl dX7_closingRefusal_49 (by first | assumption | rfl) (by rfl) ?_
  refine zj_if_eqN (tgt := 63) dX7_closingRefusal_52 (by decide) (by omega) (fun q52 => ?_) (fun q52 => ?_)
  · refine zj_ldc (v := -1000000002) dX7_closingRefusal_63 zq_352 ?_
    refine zj_goto (tgt := 69) dX7_closingRefusal_65 (by decide) ?_
    refine zj_iret dX7_closingRefusal_69 rfl (Nat.le_refl _) (Nat.le_refl _) ?_
    exact ⟨by first | (rw [if_pos (by omega)]; done) | (rw [if_neg (by omega)]; rfl), rfl⟩
  · refine zj_aload dX7_closingRefusal_55 (by rfl) ?_
    refine zg_7_113 rfl dX7_closingRefusal_57 (by first | assumption | rfl) (by rfl) ?_
    refine zj_if_neN (tgt := 68) dX7_closingRefusal_60 (by decide) (by omega) (fun q60 => ?_) (fun q60 => ?_)
    · refine zj_iconst (v := nI 0) dX7_closingRefusal_68 (by decide) ?_
      refine zj_iret dX7_closingRefusal_69 rfl (Nat.le_refl _) (Nat.le_refl _) ?_
      exact ⟨by first | (rw [if_pos (by omega)]; done) | (rw [if_neg (by omega)]; rfl), rfl⟩
    · refine zj_ldc (v := -1000000002) dX7_closingRefusal_63 zq_352 ?_
      refine zj_goto (tgt := 69) dX7_closingRefusal_65 (by decide) ?_
      refine zj_iret dX7_closingRefusal_69 rfl (Nat.le_refl _) (Nat.le_refl _) ?_
      exact ⟨by first | (rw [if_pos (by omega)]; done) | (rw [if_neg (by omega)]; rfl), rfl⟩
theorem s_how_1 {v : Nat} (h : s_how v = true) : v % 10 ≤ 1 := (of_decide_eq_true h).1
theorem s_cl_2 {i : Nat} : s_cl C i = 2 * (s_cl C i / 2) := by
  have := s_sum_even (hv := s_hv C i) (C i).length
  unfold s_cl
  omega
theorem x_landsA (r : RX h C P S T H O g) {c p how t gp : Int32} (hb : s_bad c p how t gp) : zD mX7_lands (d + 3) [.ref 0, .int c, .int p, .int how, .int t, .int gp] h (some (.int (-1000000001))) h := by
  obtain ⟨r0, -⟩ := id r
  obtain ⟨q0, -⟩ := id r0
  refine zD_of (by decide +kernel) (by exact Nat.le_of_ble_eq_true rfl) ?_
  show zB mX7_lands _ _ _ 0 [some (.ref 0), some (.int c), some (.int p), some (.int how), some (.int t), some (.int gp), none, none] [] _
  refine zj_aload_n dX7_lands_0 (by rfl) ?_
  refine zj_iload_n dX7_lands_1 (by rfl) ?_
  refine zj_iload_n dX7_lands_2 (by rfl) ?_
  refine zj_iload_n dX7_lands_3 (by rfl) ?_
  refine zj_iload dX7_lands_4 (by rfl) ?_
  refine zj_iload dX7_lands_6 (by rfl) ?_
  refine zc_7_114 rfl dX7_lands_8 (by first | assumption | rfl) (x7_crBad r hb) (by exact Nat.le_of_ble_eq_true rfl) ?_
  refine zj_istore dX7_lands_11 (by decide) ?_
  refine zj_iload dX7_lands_13 (by rfl) ?_
  refine zj_if_eq (tgt := 21) dX7_lands_15 (by decide) (fun zq => absurd zq (by decide)) (fun _ => ?_)
  refine zj_iload dX7_lands_18 (by rfl) ?_
  refine zj_iret dX7_lands_20 rfl (Nat.le_refl _) (Nat.le_refl _) ?_
  exact ⟨rfl, rfl⟩
theorem x_landsN (w : WF C P S T H O g) (r : RX h C P S T H O g) {c p v t gp : Nat} (hc : c < 4) (hp : p < 6) (hv : v < 2 ^ 31) (hvh : s_how v = true) (ht : t < 2 ^ 31) (hg : gp ≤ 96) (he : (C c).length = 0 ∨ (P p).length = 0) : zD mX7_lands (d + 3) [.ref 0, .int (nI c), .int (nI p), .int (nI v), .int (nI t), .int (nI gp)] h (some (.int (-1000000002))) h := by
  obtain ⟨r0, -⟩ := id r
  obtain ⟨q0, -⟩ := id r0
  have hR := x7_cr (d := d) w r hc hp hv hvh ht hg
  rw [if_pos he] at hR
  refine zD_of (by decide +kernel) (by exact Nat.le_of_ble_eq_true rfl) ?_
  show zB mX7_lands _ _ _ 0 [some (.ref 0), some (.int (nI c)), some (.int (nI p)), some (.int (nI v)), some (.int (nI t)), some (.int (nI gp)), none, none] [] _
  refine zj_aload_n dX7_lands_0 (by rfl) ?_
  refine zj_iload_n dX7_lands_1 (by rfl) ?_
  refine zj_iload_n dX7_lands_2 (by rfl) ?_
  refine zj_iload_n dX7_lands_3 (by rfl) ?_
  refine zj_iload dX7_lands_4 (by rfl) ?_
  refine zj_iload dX7_lands_6 (by rfl) ?_
  refine zc_7_114 rfl dX7_lands_8 (by first | assumption | rfl) hR (by exact Nat.le_of_ble_eq_true rfl) ?_
  refine zj_istore dX7_lands_11 (by decide) ?_
  refine zj_iload dX7_lands_13 (by rfl) ?_
  refine zj_if_eq (tgt := 21) dX7_lands_15 (by decide) (fun zq => absurd zq (by decide)) (fun _ => ?_)
  refine zj_iload dX7_lands_18 (by rfl) ?_
  refine zj_iret dX7_lands_20 rfl (Nat.le_refl _) (Nat.le_refl _) ?_
  exact ⟨rfl, rfl⟩
theorem x_lands (w : WF C P S T H O g) (r : RX h C P S T H O g) {c p v t gp : Nat} (hc : c < 4) (hp : p < 6) (hv : v < 2 ^ 31) (hvh : s_how v = true) (ht : t < 2 ^ 31) (hg : gp ≤ 96) (he : ¬ ((C c).length = 0 ∨ (P p).length = 0)) : zD mX7_lands (d + 3) [.ref 0, .int (nI c), .int (nI p), .int (nI v), .int (nI t), .int (nI gp)] h (some (.int (if (s_base (P p).length t v 3 + 2 * gp) % s_cl C c = 0 then 1 else 0))) h := by
  obtain ⟨r0, -⟩ := id r
  obtain ⟨q0, -⟩ := id r0
  have hR := x7_cr (d := d) w r hc hp hv hvh ht hg
  rw [if_neg he] at hR
  have hL := s_cl_pos w.1 hc (fun e => he (Or.inl e))
  have hLe := s_cl_le w.1 hc
  have hlt := s_w_lt (b := s_base (P p).length t v 3) hL
  have hlt2 := s_w_lt (b := s_base (P p).length t v 3 + 2 * gp) hL
  have hW := x7_wantingIn (d := d) (k := 3) w r hc hp hv (s_how_1 hvh) ht (by omega) (fun e => he (Or.inl e)) (fun e => he (Or.inr e))
  have hG := x7_lessGaps (d := d + 1) (h := h) (w := s_w (s_base (P p).length t v 3) (s_cl C c)) (t := 2 * gp) (l := s_cl C c) (by omega) (by omega) (by omega)
  rw [s_w_add hL, Int.toNat_natCast] at hG
  have hz := s_w_0 (b := s_base (P p).length t v 3 + 2 * gp) hL
  refine zD_of (by decide +kernel) (by exact Nat.le_of_ble_eq_true rfl) ?_
  show zB mX7_lands _ _ _ 0 [some (.ref 0), some (.int (nI c)), some (.int (nI p)), some (.int (nI v)), some (.int (nI t)), some (.int (nI gp)), none, none] [] _
  refine zj_aload_n dX7_lands_0 (by rfl) ?_
  refine zj_iload_n dX7_lands_1 (by rfl) ?_
  refine zj_iload_n dX7_lands_2 (by rfl) ?_
  refine zj_iload_n dX7_lands_3 (by rfl) ?_
  refine zj_iload dX7_lands_4 (by rfl) ?_
  refine zj_iload dX7_lands_6 (by rfl) ?_
  refine zc_7_114 rfl dX7_lands_8 (by first | assumption | rfl) hR (by exact Nat.le_of_ble_eq_true rfl) ?_
  refine zj_istore dX7_lands_11 (by decide) ?_
  refine zj_iload dX7_lands_13 (by rfl) ?_
  refine zj_if_eq (tgt := 21) dX7_lands_15 (by decide) (fun _ => ?_) (fun zq => absurd (rfl) zq)
  refine zj_aload_n dX7_lands_21 (by rfl) ?_
  refine zj_iload_n dX7_lands_22 (by rfl) ?_
  refine zj_iload_n dX7_lands_23 (by rfl) ?_
  refine zj_iload_n dX7_lands_24 (by rfl) ?_
  refine zj_iload dX7_lands_25 (by rfl) ?_
  refine zj_iconst (v := nI 3) dX7_lands_27 (by decide) ?_
  refine zc_7_118 rfl dX7_lands_28 (by first | assumption | rfl) hW (by exact Nat.le_of_ble_eq_true rfl) ?_
  refine zj_istore dX7_lands_31 (by decide) ?_
  refine zj_iload dX7_lands_33 (by rfl) ?_
  refine zj_iconst (v := nI 2) dX7_lands_35 (by decide) ?_
  refine zj_iload dX7_lands_36 (by rfl) ?_
  refine zj_imulN dX7_lands_38 ?_
  refine zj_aload_n dX7_lands_39 (by rfl) ?_
  refine zj_iload_n dX7_lands_40 (by rfl) ?_
  refine zc_7_121 rfl dX7_lands_41 (by first | assumption | rfl) (x7_lengthOf w r hc) (by exact Nat.le_of_ble_eq_true rfl) ?_
  refine zc_7_124 rfl dX7_lands_44 hG (by exact Nat.le_of_ble_eq_true rfl) ?_
  refine zj_if_neN (tgt := 54) dX7_lands_47 (by decide) (by omega) (fun q47 => ?_) (fun q47 => ?_)
  · refine zj_iconst (v := nI 0) dX7_lands_54 (by decide) ?_
    refine zj_iret dX7_lands_55 rfl (Nat.le_refl _) (Nat.le_refl _) ?_
    exact ⟨by first | (rw [if_pos (hz.mp q47)]; rfl) | (rw [if_neg (mt hz.mpr q47)]; rfl), rfl⟩
  · refine zj_iconst (v := nI 1) dX7_lands_50 (by decide) ?_
    refine zj_goto (tgt := 55) dX7_lands_51 (by decide) ?_
    refine zj_iret dX7_lands_55 rfl (Nat.le_refl _) (Nat.le_refl _) ?_
    exact ⟨by first | (rw [if_pos (hz.mp q47)]; rfl) | (rw [if_neg (mt hz.mpr q47)]; rfl), rfl⟩
theorem x_gapsA (r : RX h C P S T H O g) {c p how t : Int32} (hb : s_bad c p how t 0) : zD mX7_gaps (d + 3) [.ref 0, .int c, .int p, .int how, .int t] h (some (.int (-1000000001))) h := by
  obtain ⟨r0, -⟩ := id r
  obtain ⟨q0, -⟩ := id r0
  refine zD_of (by decide +kernel) (by exact Nat.le_of_ble_eq_true rfl) ?_
  show zB mX7_gaps _ _ _ 0 [some (.ref 0), some (.int c), some (.int p), some (.int how), some (.int t), none] [] _
  refine zj_aload_n dX7_gaps_0 (by rfl) ?_
  refine zj_iload_n dX7_gaps_1 (by rfl) ?_
  refine zj_iload_n dX7_gaps_2 (by rfl) ?_
  refine zj_iload_n dX7_gaps_3 (by rfl) ?_
  refine zj_iload dX7_gaps_4 (by rfl) ?_
  refine zj_iconst (v := 0) dX7_gaps_6 (by decide) ?_
  refine zc_7_114 rfl dX7_gaps_7 (by first | assumption | rfl) (x7_crBad r hb) (by exact Nat.le_of_ble_eq_true rfl) ?_
  refine zj_istore dX7_gaps_10 (by decide) ?_
  refine zj_iload dX7_gaps_12 (by rfl) ?_
  refine zj_if_eq (tgt := 20) dX7_gaps_14 (by decide) (fun zq => absurd zq (by decide)) (fun _ => ?_)
  refine zj_iload dX7_gaps_17 (by rfl) ?_
  refine zj_iret dX7_gaps_19 rfl (Nat.le_refl _) (Nat.le_refl _) ?_
  exact ⟨rfl, rfl⟩
theorem x_gapsN (w : WF C P S T H O g) (r : RX h C P S T H O g) {c p v t : Nat} (hc : c < 4) (hp : p < 6) (hv : v < 2 ^ 31) (hvh : s_how v = true) (ht : t < 2 ^ 31) (he : (C c).length = 0 ∨ (P p).length = 0) : zD mX7_gaps (d + 3) [.ref 0, .int (nI c), .int (nI p), .int (nI v), .int (nI t)] h (some (.int (-1000000002))) h := by
  obtain ⟨r0, -⟩ := id r
  obtain ⟨q0, -⟩ := id r0
  have hR := x7_cr (d := d) (gp := 0) w r hc hp hv hvh ht (by omega)
  rw [if_pos he] at hR
  refine zD_of (by decide +kernel) (by exact Nat.le_of_ble_eq_true rfl) ?_
  show zB mX7_gaps _ _ _ 0 [some (.ref 0), some (.int (nI c)), some (.int (nI p)), some (.int (nI v)), some (.int (nI t)), none] [] _
  refine zj_aload_n dX7_gaps_0 (by rfl) ?_
  refine zj_iload_n dX7_gaps_1 (by rfl) ?_
  refine zj_iload_n dX7_gaps_2 (by rfl) ?_
  refine zj_iload_n dX7_gaps_3 (by rfl) ?_
  refine zj_iload dX7_gaps_4 (by rfl) ?_
  refine zj_iconst (v := nI 0) dX7_gaps_6 (by decide) ?_
  refine zc_7_114 rfl dX7_gaps_7 (by first | assumption | rfl) hR (by exact Nat.le_of_ble_eq_true rfl) ?_
  refine zj_istore dX7_gaps_10 (by decide) ?_
  refine zj_iload dX7_gaps_12 (by rfl) ?_
  refine zj_if_eq (tgt := 20) dX7_gaps_14 (by decide) (fun zq => absurd zq (by decide)) (fun _ => ?_)
  refine zj_iload dX7_gaps_17 (by rfl) ?_
  refine zj_iret dX7_gaps_19 rfl (Nat.le_refl _) (Nat.le_refl _) ?_
  exact ⟨rfl, rfl⟩
theorem x_gaps (w : WF C P S T H O g) (r : RX h C P S T H O g) {c p v t : Nat} (hc : c < 4) (hp : p < 6) (hv : v < 2 ^ 31) (hvh : s_how v = true) (ht : t < 2 ^ 31) (he : ¬ ((C c).length = 0 ∨ (P p).length = 0)) : zD mX7_gaps (d + 3) [.ref 0, .int (nI c), .int (nI p), .int (nI v), .int (nI t)] h (some (.int (nI (s_cnt (s_p g (s_base (P p).length t v 3) (s_cl C c)) 97)))) h := by
  obtain ⟨r0, -⟩ := id r
  obtain ⟨q0, -⟩ := id r0
  have hR := x7_cr (d := d) (gp := 0) w r hc hp hv hvh ht (by omega)
  rw [if_neg he] at hR
  have hL := s_cl_pos w.1 hc (fun e => he (Or.inl e))
  have hLe := s_cl_le w.1 hc
  have h2 := s_cl_2 (C := C) (i := c)
  have hW := x7_wantingIn (d := d) (k := 3) w r hc hp hv (s_how_1 hvh) ht (by omega) (fun e => he (Or.inl e)) (fun e => he (Or.inr e))
  have hG := x7_gapsFilling (d := d + 1) (b := s_base (P p).length t v 3) (a := s_cl C c / 2) w r (by omega)
  rw [← h2] at hG
  refine zD_of (by decide +kernel) (by exact Nat.le_of_ble_eq_true rfl) ?_
  show zB mX7_gaps _ _ _ 0 [some (.ref 0), some (.int (nI c)), some (.int (nI p)), some (.int (nI v)), some (.int (nI t)), none] [] _
  refine zj_aload_n dX7_gaps_0 (by rfl) ?_
  refine zj_iload_n dX7_gaps_1 (by rfl) ?_
  refine zj_iload_n dX7_gaps_2 (by rfl) ?_
  refine zj_iload_n dX7_gaps_3 (by rfl) ?_
  refine zj_iload dX7_gaps_4 (by rfl) ?_
  refine zj_iconst (v := nI 0) dX7_gaps_6 (by decide) ?_
  refine zc_7_114 rfl dX7_gaps_7 (by first | assumption | rfl) hR (by exact Nat.le_of_ble_eq_true rfl) ?_
  refine zj_istore dX7_gaps_10 (by decide) ?_
  refine zj_iload dX7_gaps_12 (by rfl) ?_
  refine zj_if_eq (tgt := 20) dX7_gaps_14 (by decide) (fun _ => ?_) (fun zq => absurd (rfl) zq)
  refine zj_aload_n dX7_gaps_20 (by rfl) ?_
  refine zj_aload_n dX7_gaps_21 (by rfl) ?_
  refine zj_iload_n dX7_gaps_22 (by rfl) ?_
  refine zj_iload_n dX7_gaps_23 (by rfl) ?_
  refine zj_iload_n dX7_gaps_24 (by rfl) ?_
  refine zj_iload dX7_gaps_25 (by rfl) ?_
  refine zj_iconst (v := nI 3) dX7_gaps_27 (by decide) ?_
  refine zc_7_118 rfl dX7_gaps_28 (by first | assumption | rfl) hW (by exact Nat.le_of_ble_eq_true rfl) ?_
  refine zj_aload_n dX7_gaps_31 (by rfl) ?_
  refine zj_iload_n dX7_gaps_32 (by rfl) ?_
  refine zc_7_121 rfl dX7_gaps_33 (by first | assumption | rfl) (x7_lengthOf w r hc) (by exact Nat.le_of_ble_eq_true rfl) ?_
  refine zc_7_128 rfl dX7_gaps_36 (by first | assumption | rfl) hG (by exact Nat.le_of_ble_eq_true rfl) ?_
  refine zj_iret dX7_gaps_39 rfl (Nat.le_refl _) (Nat.le_refl _) ?_
  exact ⟨rfl, rfl⟩
theorem x_gapA (r : RX h C P S T H O g) {c p how t i : Int32} (hb : i < 0 ∨ s_bad c p how t 0) : zD mX7_gap (d + 3) [.ref 0, .int c, .int p, .int how, .int t, .int i] h (some (.int (-1000000001))) h := by
  obtain ⟨r0, -⟩ := id r
  obtain ⟨q0, -⟩ := id r0
  by_cases hi : i < 0
  · refine zD_of (by decide +kernel) (by exact Nat.le_of_ble_eq_true rfl) ?_
    show zB mX7_gap _ _ _ 0 [some (.ref 0), some (.int c), some (.int p), some (.int how), some (.int t), some (.int i), none] [] _
    refine zj_iload dX7_gap_0 (by rfl) ?_
    refine zj_if_ge (tgt := 8) dX7_gap_2 (by decide) (fun zq => absurd zq (Int32.not_le.mpr hi)) (fun _ => ?_)
    refine zj_ldc (v := -1000000001) dX7_gap_5 zq_226 ?_
    refine zj_iret dX7_gap_7 rfl (Nat.le_refl _) (Nat.le_refl _) ?_
    exact ⟨rfl, rfl⟩
  · refine zD_of (by decide +kernel) (by exact Nat.le_of_ble_eq_true rfl) ?_
    show zB mX7_gap _ _ _ 0 [some (.ref 0), some (.int c), some (.int p), some (.int how), some (.int t), some (.int i), none] [] _
    refine zj_iload dX7_gap_0 (by rfl) ?_
    refine zj_if_ge (tgt := 8) dX7_gap_2 (by decide) (fun _ => ?_) (fun zq => absurd (Int32.not_lt.mp hi) zq)
    refine zj_aload_n dX7_gap_8 (by rfl) ?_
    refine zj_iload_n dX7_gap_9 (by rfl) ?_
    refine zj_iload_n dX7_gap_10 (by rfl) ?_
    refine zj_iload_n dX7_gap_11 (by rfl) ?_
    refine zj_iload dX7_gap_12 (by rfl) ?_
    refine zj_iconst (v := 0) dX7_gap_14 (by decide) ?_
    refine zc_7_114 rfl dX7_gap_15 (by first | assumption | rfl) (x7_crBad r (hb.resolve_left hi)) (by exact Nat.le_of_ble_eq_true rfl) ?_
    refine zj_istore dX7_gap_18 (by decide) ?_
    refine zj_iload dX7_gap_20 (by rfl) ?_
    refine zj_if_eq (tgt := 28) dX7_gap_22 (by decide) (fun zq => absurd zq (by decide)) (fun _ => ?_)
    refine zj_iload dX7_gap_25 (by rfl) ?_
    refine zj_iret dX7_gap_27 rfl (Nat.le_refl _) (Nat.le_refl _) ?_
    exact ⟨rfl, rfl⟩
theorem x_gapN (w : WF C P S T H O g) (r : RX h C P S T H O g) {c p v t i : Nat} (hc : c < 4) (hp : p < 6) (hv : v < 2 ^ 31) (hvh : s_how v = true) (ht : t < 2 ^ 31) (hi : i < 2 ^ 31) (he : (C c).length = 0 ∨ (P p).length = 0) : zD mX7_gap (d + 3) [.ref 0, .int (nI c), .int (nI p), .int (nI v), .int (nI t), .int (nI i)] h (some (.int (-1000000002))) h := by
  obtain ⟨r0, -⟩ := id r
  obtain ⟨q0, -⟩ := id r0
  have hR := x7_cr (d := d) (gp := 0) w r hc hp hv hvh ht (by omega)
  rw [if_pos he] at hR
  refine zD_of (by decide +kernel) (by exact Nat.le_of_ble_eq_true rfl) ?_
  show zB mX7_gap _ _ _ 0 [some (.ref 0), some (.int (nI c)), some (.int (nI p)), some (.int (nI v)), some (.int (nI t)), some (.int (nI i)), none] [] _
  refine zj_iload dX7_gap_0 (by rfl) ?_
  refine zj_if_geN (tgt := 8) dX7_gap_2 (by decide) (by omega) ?_
  refine zj_aload_n dX7_gap_8 (by rfl) ?_
  refine zj_iload_n dX7_gap_9 (by rfl) ?_
  refine zj_iload_n dX7_gap_10 (by rfl) ?_
  refine zj_iload_n dX7_gap_11 (by rfl) ?_
  refine zj_iload dX7_gap_12 (by rfl) ?_
  refine zj_iconst (v := nI 0) dX7_gap_14 (by decide) ?_
  refine zc_7_114 rfl dX7_gap_15 (by first | assumption | rfl) hR (by exact Nat.le_of_ble_eq_true rfl) ?_
  refine zj_istore dX7_gap_18 (by decide) ?_
  refine zj_iload dX7_gap_20 (by rfl) ?_
  refine zj_if_eq (tgt := 28) dX7_gap_22 (by decide) (fun zq => absurd zq (by decide)) (fun _ => ?_)
  refine zj_iload dX7_gap_25 (by rfl) ?_
  refine zj_iret dX7_gap_27 rfl (Nat.le_refl _) (Nat.le_refl _) ?_
  exact ⟨rfl, rfl⟩
theorem x_gap (w : WF C P S T H O g) (r : RX h C P S T H O g) {c p v t i : Nat} (hc : c < 4) (hp : p < 6) (hv : v < 2 ^ 31) (hvh : s_how v = true) (ht : t < 2 ^ 31) (hi : i < 2 ^ 31) (he : ¬ ((C c).length = 0 ∨ (P p).length = 0)) : zD mX7_gap (d + 3) [.ref 0, .int (nI c), .int (nI p), .int (nI v), .int (nI t), .int (nI i)] h (some (.int (s_oN (s_nth (s_p g (s_base (P p).length t v 3) (s_cl C c)) 97 0 i)))) h := by
  obtain ⟨r0, -⟩ := id r
  obtain ⟨q0, -⟩ := id r0
  have hR := x7_cr (d := d) (gp := 0) w r hc hp hv hvh ht (by omega)
  rw [if_neg he] at hR
  have hL := s_cl_pos w.1 hc (fun e => he (Or.inl e))
  have hLe := s_cl_le w.1 hc
  have h2 := s_cl_2 (C := C) (i := c)
  have hW := x7_wantingIn (d := d) (k := 3) w r hc hp hv (s_how_1 hvh) ht (by omega) (fun e => he (Or.inl e)) (fun e => he (Or.inr e))
  have hG := x7_gapFilling (d := d + 1) (b := s_base (P p).length t v 3) (a := s_cl C c / 2) w r (by omega) hi
  rw [← h2] at hG
  refine zD_of (by decide +kernel) (by exact Nat.le_of_ble_eq_true rfl) ?_
  show zB mX7_gap _ _ _ 0 [some (.ref 0), some (.int (nI c)), some (.int (nI p)), some (.int (nI v)), some (.int (nI t)), some (.int (nI i)), none] [] _
  refine zj_iload dX7_gap_0 (by rfl) ?_
  refine zj_if_geN (tgt := 8) dX7_gap_2 (by decide) (by omega) ?_
  refine zj_aload_n dX7_gap_8 (by rfl) ?_
  refine zj_iload_n dX7_gap_9 (by rfl) ?_
  refine zj_iload_n dX7_gap_10 (by rfl) ?_
  refine zj_iload_n dX7_gap_11 (by rfl) ?_
  refine zj_iload dX7_gap_12 (by rfl) ?_
  refine zj_iconst (v := nI 0) dX7_gap_14 (by decide) ?_
  refine zc_7_114 rfl dX7_gap_15 (by first | assumption | rfl) hR (by exact Nat.le_of_ble_eq_true rfl) ?_
  refine zj_istore dX7_gap_18 (by decide) ?_
  refine zj_iload dX7_gap_20 (by rfl) ?_
  refine zj_if_eq (tgt := 28) dX7_gap_22 (by decide) (fun _ => ?_) (fun zq => absurd (rfl) zq)
  refine zj_aload_n dX7_gap_28 (by rfl) ?_
  refine zj_aload_n dX7_gap_29 (by rfl) ?_
  refine zj_iload_n dX7_gap_30 (by rfl) ?_
  refine zj_iload_n dX7_gap_31 (by rfl) ?_
  refine zj_iload_n dX7_gap_32 (by rfl) ?_
  refine zj_iload dX7_gap_33 (by rfl) ?_
  refine zj_iconst (v := nI 3) dX7_gap_35 (by decide) ?_
  refine zc_7_118 rfl dX7_gap_36 (by first | assumption | rfl) hW (by exact Nat.le_of_ble_eq_true rfl) ?_
  refine zj_aload_n dX7_gap_39 (by rfl) ?_
  refine zj_iload_n dX7_gap_40 (by rfl) ?_
  refine zc_7_121 rfl dX7_gap_41 (by first | assumption | rfl) (x7_lengthOf w r hc) (by exact Nat.le_of_ble_eq_true rfl) ?_
  refine zj_iload dX7_gap_44 (by rfl) ?_
  refine zc_7_131 rfl dX7_gap_46 (by first | assumption | rfl) hG (by exact Nat.le_of_ble_eq_true rfl) ?_
  refine zj_iret dX7_gap_49 rfl (Nat.le_refl _) (Nat.le_refl _) ?_
  exact ⟨rfl, rfl⟩
theorem x_startA (r : RX h C P S T H O g) {c p how gp : Int32} (hb : s_bad c p how 0 gp) : zD mX7_start (d + 3) [.ref 0, .int c, .int p, .int how, .int gp] h (some (.int (-1000000001))) h := by
  obtain ⟨r0, -⟩ := id r
  obtain ⟨q0, -⟩ := id r0
  refine zD_of (by decide +kernel) (by exact Nat.le_of_ble_eq_true rfl) ?_
  show zB mX7_start _ _ _ 0 [some (.ref 0), some (.int c), some (.int p), some (.int how), some (.int gp), none, none] [] _
  refine zj_aload_n dX7_start_0 (by rfl) ?_
  refine zj_iload_n dX7_start_1 (by rfl) ?_
  refine zj_iload_n dX7_start_2 (by rfl) ?_
  refine zj_iload_n dX7_start_3 (by rfl) ?_
  refine zj_iconst (v := 0) dX7_start_4 (by decide) ?_
  refine zj_iload dX7_start_5 (by rfl) ?_
  refine zc_7_114 rfl dX7_start_7 (by first | assumption | rfl) (x7_crBad r hb) (by exact Nat.le_of_ble_eq_true rfl) ?_
  refine zj_istore dX7_start_10 (by decide) ?_
  refine zj_iload dX7_start_12 (by rfl) ?_
  refine zj_if_eq (tgt := 20) dX7_start_14 (by decide) (fun zq => absurd zq (by decide)) (fun _ => ?_)
  refine zj_iload dX7_start_17 (by rfl) ?_
  refine zj_iret dX7_start_19 rfl (Nat.le_refl _) (Nat.le_refl _) ?_
  exact ⟨rfl, rfl⟩
theorem x_startN (w : WF C P S T H O g) (r : RX h C P S T H O g) {c p v gp : Nat} (hc : c < 4) (hp : p < 6) (hv : v < 2 ^ 31) (hvh : s_how v = true) (hg : gp ≤ 96) (he : (C c).length = 0 ∨ (P p).length = 0) : zD mX7_start (d + 3) [.ref 0, .int (nI c), .int (nI p), .int (nI v), .int (nI gp)] h (some (.int (-1000000002))) h := by
  obtain ⟨r0, -⟩ := id r
  obtain ⟨q0, -⟩ := id r0
  have hR := x7_cr (d := d) (t := 0) w r hc hp hv hvh (by omega) hg
  rw [if_pos he] at hR
  refine zD_of (by decide +kernel) (by exact Nat.le_of_ble_eq_true rfl) ?_
  show zB mX7_start _ _ _ 0 [some (.ref 0), some (.int (nI c)), some (.int (nI p)), some (.int (nI v)), some (.int (nI gp)), none, none] [] _
  refine zj_aload_n dX7_start_0 (by rfl) ?_
  refine zj_iload_n dX7_start_1 (by rfl) ?_
  refine zj_iload_n dX7_start_2 (by rfl) ?_
  refine zj_iload_n dX7_start_3 (by rfl) ?_
  refine zj_iconst (v := nI 0) dX7_start_4 (by decide) ?_
  refine zj_iload dX7_start_5 (by rfl) ?_
  refine zc_7_114 rfl dX7_start_7 (by first | assumption | rfl) hR (by exact Nat.le_of_ble_eq_true rfl) ?_
  refine zj_istore dX7_start_10 (by decide) ?_
  refine zj_iload dX7_start_12 (by rfl) ?_
  refine zj_if_eq (tgt := 20) dX7_start_14 (by decide) (fun zq => absurd zq (by decide)) (fun _ => ?_)
  refine zj_iload dX7_start_17 (by rfl) ?_
  refine zj_iret dX7_start_19 rfl (Nat.le_refl _) (Nat.le_refl _) ?_
  exact ⟨rfl, rfl⟩
theorem x_start (w : WF C P S T H O g) (r : RX h C P S T H O g) {c p v gp : Nat} (hc : c < 4) (hp : p < 6) (hv : v < 2 ^ 31) (hvh : s_how v = true) (hg : gp ≤ 96) (he : ¬ ((C c).length = 0 ∨ (P p).length = 0)) : zD mX7_start (d + 3) [.ref 0, .int (nI c), .int (nI p), .int (nI v), .int (nI gp)] h (some (.int (nI (s_w (s_base (P p).length 0 v 3 + 2 * gp) (s_cl C c))))) h := by
  obtain ⟨r0, -⟩ := id r
  obtain ⟨q0, -⟩ := id r0
  have hR := x7_cr (d := d) (t := 0) w r hc hp hv hvh (by omega) hg
  rw [if_neg he] at hR
  have hL := s_cl_pos w.1 hc (fun e => he (Or.inl e))
  have hLe := s_cl_le w.1 hc
  have hlt := s_w_lt (b := s_base (P p).length 0 v 3) hL
  have hW := x7_wantingIn (d := d) (t := 0) (k := 3) w r hc hp hv (s_how_1 hvh) (by omega) (by omega) (fun e => he (Or.inl e)) (fun e => he (Or.inr e))
  have hG := x7_lessGaps (d := d + 1) (h := h) (w := s_w (s_base (P p).length 0 v 3) (s_cl C c)) (t := 2 * gp) (l := s_cl C c) (by omega) (by omega) (by omega)
  rw [s_w_add hL, Int.toNat_natCast] at hG
  refine zD_of (by decide +kernel) (by exact Nat.le_of_ble_eq_true rfl) ?_
  show zB mX7_start _ _ _ 0 [some (.ref 0), some (.int (nI c)), some (.int (nI p)), some (.int (nI v)), some (.int (nI gp)), none, none] [] _
  refine zj_aload_n dX7_start_0 (by rfl) ?_
  refine zj_iload_n dX7_start_1 (by rfl) ?_
  refine zj_iload_n dX7_start_2 (by rfl) ?_
  refine zj_iload_n dX7_start_3 (by rfl) ?_
  refine zj_iconst (v := nI 0) dX7_start_4 (by decide) ?_
  refine zj_iload dX7_start_5 (by rfl) ?_
  refine zc_7_114 rfl dX7_start_7 (by first | assumption | rfl) hR (by exact Nat.le_of_ble_eq_true rfl) ?_
  refine zj_istore dX7_start_10 (by decide) ?_
  refine zj_iload dX7_start_12 (by rfl) ?_
  refine zj_if_eq (tgt := 20) dX7_start_14 (by decide) (fun _ => ?_) (fun zq => absurd (rfl) zq)
  refine zj_aload_n dX7_start_20 (by rfl) ?_
  refine zj_iload_n dX7_start_21 (by rfl) ?_
  refine zj_iload_n dX7_start_22 (by rfl) ?_
  refine zj_iload_n dX7_start_23 (by rfl) ?_
  refine zj_iconst (v := nI 0) dX7_start_24 (by decide) ?_
  refine zj_iconst (v := nI 3) dX7_start_25 (by decide) ?_
  refine zc_7_118 rfl dX7_start_26 (by first | assumption | rfl) hW (by exact Nat.le_of_ble_eq_true rfl) ?_
  refine zj_istore dX7_start_29 (by decide) ?_
  refine zj_iload dX7_start_31 (by rfl) ?_
  refine zj_iconst (v := nI 2) dX7_start_33 (by decide) ?_
  refine zj_iload dX7_start_34 (by rfl) ?_
  refine zj_imulN dX7_start_36 ?_
  refine zj_aload_n dX7_start_37 (by rfl) ?_
  refine zj_iload_n dX7_start_38 (by rfl) ?_
  refine zc_7_121 rfl dX7_start_39 (by first | assumption | rfl) (x7_lengthOf w r hc) (by exact Nat.le_of_ble_eq_true rfl) ?_
  refine zc_7_124 rfl dX7_start_42 hG (by exact Nat.le_of_ble_eq_true rfl) ?_
  refine zj_iret dX7_start_45 rfl (Nat.le_refl _) (Nat.le_refl _) ?_
  exact ⟨rfl, rfl⟩
theorem x_gridA (r : RX h C P S T H O g) {v : Int32} (hv : v < 1 ∨ ¬ v ≤ 24) : zD mX7_grid d [.ref 0, .int v] h (some (.int (-1000000001))) h := by
  refine zD_of (by decide +kernel) (by exact Nat.le_of_ble_eq_true rfl) ?_
  show zB mX7_grid _ _ _ 0 [some (.ref 0), some (.int v), none] [] _
  refine zj_iload_n dX7_grid_0 (by rfl) ?_
  refine zj_iconst (v := 1) dX7_grid_1 (by decide) ?_
  refine zj_icmp_lt (tgt := 11) dX7_grid_2 (by decide) (fun q2 => ?_) (fun q2 => ?_)
  · refine zj_ldc (v := -1000000001) dX7_grid_11 zq_226 ?_
    refine zj_iret dX7_grid_13 rfl (Nat.le_refl _) (Nat.le_refl _) ?_
    exact ⟨rfl, rfl⟩
  · refine zj_iload_n dX7_grid_5 (by rfl) ?_
    refine zj_bipush (v := 24) dX7_grid_6 (by decide) ?_
    refine zj_icmp_le (tgt := 14) dX7_grid_8 (by decide) (fun q8 => ?_) (fun q8 => ?_)
    · exact absurd hv (fun hh => hh.elim q2 (fun h4 => h4 q8))
    · refine zj_ldc (v := -1000000001) dX7_grid_11 zq_226 ?_
      refine zj_iret dX7_grid_13 rfl (Nat.le_refl _) (Nat.le_refl _) ?_
      exact ⟨rfl, rfl⟩
theorem x_grid (r : RX h C P S T H O g) {v : Nat} (hv : 1 ≤ v ∧ v ≤ 24) : ∃ h', zD mX7_grid d [.ref 0, .int (nI v)] h (some (.int (nI g))) h' ∧ RX h' C P S T H O v ∧ zEq 47 63 h h' := by
  obtain ⟨r0, r1, r2, r3, r4, r5, r6, r7⟩ := id r
  obtain ⟨q0, ⟨f1, x1, y1⟩, ⟨f2, x2, y2⟩, ⟨f3, x3, y3⟩⟩ := id r0
  have e : ∀ lo hi', (0 < lo) → zEq lo hi' h (h.set 0 (.inr (7, [.ref 1, .ref 2, .ref 3, .ref 4, .ref 9, .ref 12, .ref 16, .int (nI v)]))) := fun lo hi' hh => zEq_set zEq_rf (by omega)
  refine ⟨h.set 0 (.inr (7, [.ref 1, .ref 2, .ref 3, .ref 4, .ref 9, .ref 12, .ref 16, .int (nI v)])), ?_, ⟨⟨zset_eq q0, ⟨f1, zset_ne (by decide) x1, y1⟩, ⟨f2, zset_ne (by decide) x2, y2⟩, ⟨f3, zset_ne (by decide) x3, y3⟩⟩, RC_f (e _ _ (by omega)) r1, RP_f (e _ _ (by omega)) r2, RS_f (e _ _ (by omega)) r3, RT_f (e _ _ (by omega)) r4, RU_f (e _ _ (by omega)) r5, RH_f (e _ _ (by omega)) r6, RO_f (e _ _ (by omega)) r7⟩, e _ _ (by omega)⟩
  refine zD_of (by decide +kernel) (by exact Nat.le_of_ble_eq_true rfl) ?_
  show zB mX7_grid _ _ _ 0 [some (.ref 0), some (.int (nI v)), none] [] _
  refine zj_iload_n dX7_grid_0 (by rfl) ?_
  refine zj_iconst (v := 1) dX7_grid_1 (by decide) ?_
  refine zj_icmp_lt (tgt := 11) dX7_grid_2 (by decide) (fun zq => absurd zq (nI_nlt (b := 1) (by omega) (by omega))) (fun _ => ?_)
  refine zj_iload_n dX7_grid_5 (by rfl) ?_
  refine zj_bipush (v := 24) dX7_grid_6 (by decide) ?_
  refine zj_icmp_le (tgt := 14) dX7_grid_8 (by decide) (fun _ => ?_) (fun zq => absurd (nI_le (b := 24) (by omega) (by decide)) zq)
  refine zj_aload_n dX7_grid_14 (by rfl) ?_
  refine zg_7_55 rfl dX7_grid_15 (by first | assumption | rfl) (by rfl) ?_
  refine zj_istore_n dX7_grid_18 (by decide) ?_
  refine zj_aload_n dX7_grid_19 (by rfl) ?_
  refine zj_iload_n dX7_grid_20 (by rfl) ?_
  refine zp_7_55 rfl dX7_grid_21 (by first | assumption | rfl) (by exact Nat.le_of_ble_eq_true rfl) ?_
  refine zj_iload_n dX7_grid_24 (by rfl) ?_
  refine zj_iret dX7_grid_25 rfl (Nat.le_refl _) (Nat.le_refl _) ?_
  exact ⟨rfl, rfl⟩
end CM
