/-! join, drop, account, landings, home: class side -/
def s_tk (O : List (Nat × Nat)) (j : Nat) : Nat := (O.getD j (0, 0)).1
def s_gp (O : List (Nat × Nat)) (j : Nat) : Nat := (O.getD j (0, 0)).2
section SP
variable {h h' : zH} {C : Nat → List (Nat × Nat)} {P : Nat → List Nat} {S : Nat → Option (List Int32)} {T : List Nat} {H : Nat → Nat} {O O' : List (Nat × Nat)} {g d : Nat}
theorem RX_O (r : RX h C P S T H O g) (e1 : zEq 0 15 h h') (e2 : zEq 19 63 h h') (ro : RO h' O') : RX h' C P S T H O' g := by
  obtain ⟨r0, r1, r2, r3, r4, r5, r6, r7⟩ := r
  exact ⟨R0_f (fun j a b => e1 j (by omega) (by omega)) r0, RC_f (fun j a b => e2 j (by omega) (by omega)) r1, RP_f (fun j a b => e2 j (by omega) (by omega)) r2, RS_f (fun j a b => e2 j (by omega) (by omega)) r3, RT_f (fun j a b => e1 j (by omega) (by omega)) r4, RU_f (fun j a b => e1 j (by omega) (by omega)) r5, RH_f (fun j a b => e1 j (by omega) (by omega)) r6, ro⟩
def s_badj (p v ti gp : Int32) : Prop := (p < 0 ∨ 6 ≤ p) ∨ s_tpo v = 0 ∨ ti < 1 ∨ 9 < ti ∨ gp < 0 ∨ 96 < gp
theorem x_joinA (r : RX h C P S T H O g) {p v ti gp : Int32} (hb : s_badj p v ti gp) : zD mX7_join (d + 1) [.ref 0, .int p, .int v, .int ti, .int gp] h (some (.int (-1000000001))) h := by
  obtain ⟨r0, -⟩ := id r
  obtain ⟨q0, -⟩ := id r0
  by_cases hp : p < 0 ∨ 6 ≤ p
  · refine zD_of (by decide +kernel) (by exact Nat.le_of_ble_eq_true rfl) ?_
    show zB mX7_join _ _ _ 0 [some (.ref 0), some (.int p), some (.int v), some (.int ti), some (.int gp), none, none] [] _
    refine zj_aload_n dX7_join_0 (by rfl) ?_
    refine zj_iload_n dX7_join_1 (by rfl) ?_
    refine zc_7_99 rfl dX7_join_2 (by first | assumption | rfl) (x7_phraseAtN r0 hp) (by exact Nat.le_of_ble_eq_true rfl) ?_
    refine zj_astoreN dX7_join_5 (by decide) ?_
    refine zj_iload_n dX7_join_7 (by rfl) ?_
    refine zc_7_110 rfl dX7_join_8 (x7_ticksOfOne _) (by exact Nat.le_of_ble_eq_true rfl) ?_
    refine zj_istore dX7_join_11 (by decide) ?_
    refine zj_aloadN dX7_join_13 (by rfl) ?_
    refine zj_ifnullN (tgt := 42) dX7_join_15 (by decide) ?_
    refine zj_ldc (v := -1000000001) dX7_join_42 zq_226 ?_
    refine zj_iret dX7_join_44 rfl (Nat.le_refl _) (Nat.le_refl _) ?_
    exact ⟨rfl, rfl⟩
  · obtain ⟨j, hj, rfl⟩ : ∃ j, j < 6 ∧ p = nI j := ((pk_ix p (n := 6) (by decide)).resolve_left (fun e => hp (Or.inl e))).resolve_left (fun e => hp (Or.inr e))
    have hb2 := hb.resolve_left hp
    have hle := s_tpo_le v
    have hz := zn_0 (a := s_tpo v) (by omega)
    refine zD_of (by decide +kernel) (by exact Nat.le_of_ble_eq_true rfl) ?_
    show zB mX7_join _ _ _ 0 [some (.ref 0), some (.int (nI j)), some (.int v), some (.int ti), some (.int gp), none, none] [] _
    refine zj_aload_n dX7_join_0 (by rfl) ?_
    refine zj_iload_n dX7_join_1 (by rfl) ?_
    refine zc_7_99 rfl dX7_join_2 (by first | assumption | rfl) (x7_phraseAt r0 hj) (by exact Nat.le_of_ble_eq_true rfl) ?_
    refine zj_astore dX7_join_5 (by decide) ?_
    refine zj_iload_n dX7_join_7 (by rfl) ?_
    refine zc_7_110 rfl dX7_join_8 (x7_ticksOfOne _) (by exact Nat.le_of_ble_eq_true rfl) ?_
    refine zj_istore dX7_join_11 (by decide) ?_
    refine zj_aload dX7_join_13 (by rfl) ?_
    refine zj_ifnull dX7_join_15 ?_
    refine zj_iload dX7_join_18 (by rfl) ?_
    refine zj_if_eq (tgt := 42) dX7_join_20 (by decide) (fun q20 => ?_) (fun q20 => ?_)
    · refine zj_ldc (v := -1000000001) dX7_join_42 zq_226 ?_
      refine zj_iret dX7_join_44 rfl (Nat.le_refl _) (Nat.le_refl _) ?_
      exact ⟨rfl, rfl⟩
    · refine zj_iload_n dX7_join_23 (by rfl) ?_
      refine zj_iconst (v := 1) dX7_join_24 (by decide) ?_
      refine zj_icmp_lt (tgt := 42) dX7_join_25 (by decide) (fun q25 => ?_) (fun q25 => ?_)
      · refine zj_ldc (v := -1000000001) dX7_join_42 zq_226 ?_
        refine zj_iret dX7_join_44 rfl (Nat.le_refl _) (Nat.le_refl _) ?_
        exact ⟨rfl, rfl⟩
      · refine zj_iload_n dX7_join_28 (by rfl) ?_
        refine zj_bipush (v := 9) dX7_join_29 (by decide) ?_
        refine zj_icmp_gt (tgt := 42) dX7_join_31 (by decide) (fun q31 => ?_) (fun q31 => ?_)
        · refine zj_ldc (v := -1000000001) dX7_join_42 zq_226 ?_
          refine zj_iret dX7_join_44 rfl (Nat.le_refl _) (Nat.le_refl _) ?_
          exact ⟨rfl, rfl⟩
        · refine zj_iload dX7_join_34 (by rfl) ?_
          refine zc_7_181 rfl dX7_join_36 (x7_isGap _) (by exact Nat.le_of_ble_eq_true rfl) ?_
          refine zj_if_ne (tgt := 45) dX7_join_39 (by decide) (fun q39 => ?_) (fun q39 => ?_)
          · exfalso
            rcases hb2 with hb2 | hb2 | hb2 | hb2 | hb2
            · exact q20 (hz.mpr hb2)
            · exact q25 hb2
            · exact q31 hb2
            · rw [if_pos hb2] at q39; exact q39 rfl
            · by_cases hk0 : gp < 0; rw [if_pos hk0] at q39; exact q39 rfl; rw [if_neg hk0, if_pos hb2] at q39; exact q39 rfl
          · refine zj_ldc (v := -1000000001) dX7_join_42 zq_226 ?_
            refine zj_iret dX7_join_44 rfl (Nat.le_refl _) (Nat.le_refl _) ?_
            exact ⟨rfl, rfl⟩
theorem s_gok {gp : Nat} (hg : gp ≤ 96) : (if nI gp < 0 then (0 : Int32) else if 96 < nI gp then 0 else 1) = 1 := by
  rw [if_neg (nI_pos (by omega)), if_neg (show ¬ (96 : Int32) < nI gp from nI_nlt (a := 96) (b := gp) hg (by decide))]
theorem x_joinN (w : WF C P S T H O g) (r : RX h C P S T H O g) {p ti gp : Nat} {v : Int32} (hp : p < 6) (hv : ¬ s_tpo v = 0) (ht : 1 ≤ ti ∧ ti ≤ 9) (hg : gp ≤ 96) (he : (P p).length = 0) : zD mX7_join (d + 1) [.ref 0, .int (nI p), .int v, .int (nI ti), .int (nI gp)] h (some (.int (-1000000002))) h := by
  obtain ⟨r0, -, rp, -⟩ := id r
  obtain ⟨q0, -⟩ := id r0
  obtain ⟨p0, -⟩ := rp p hp
  have l2 := (w.2.1 p hp).1
  have hle := s_tpo_le v
  refine zD_of (by decide +kernel) (by exact Nat.le_of_ble_eq_true rfl) ?_
  show zB mX7_join _ _ _ 0 [some (.ref 0), some (.int (nI p)), some (.int v), some (.int (nI ti)), some (.int (nI gp)), none, none] [] _
  refine zj_aload_n dX7_join_0 (by rfl) ?_
  refine zj_iload_n dX7_join_1 (by rfl) ?_
  refine zc_7_99 rfl dX7_join_2 (by first | assumption | rfl) (x7_phraseAt r0 hp) (by exact Nat.le_of_ble_eq_true rfl) ?_
  refine zj_astore dX7_join_5 (by decide) ?_
  refine zj_iload_n dX7_join_7 (by rfl) ?_
  refine zc_7_110 rfl dX7_join_8 (x7_ticksOfOne _) (by exact Nat.le_of_ble_eq_true rfl) ?_
  refine zj_istore dX7_join_11 (by decide) ?_
  refine zj_aload dX7_join_13 (by rfl) ?_
  refine zj_ifnull dX7_join_15 ?_
  refine zj_iload dX7_join_18 (by rfl) ?_
  refine zj_if_eqN (tgt := 42) dX7_join_20 (by decide) (by omega) (fun zq => absurd zq (hv)) (fun _ => ?_)
  refine zj_iload_n dX7_join_23 (by rfl) ?_
  refine zj_iconst (v := nI 1) dX7_join_24 (by decide) ?_
  refine zj_icmp_ltN (tgt := 42) dX7_join_25 (by decide) (by omega) (fun zq => absurd zq (by omega)) (fun _ => ?_)
  refine zj_iload_n dX7_join_28 (by rfl) ?_
  refine zj_bipush (v := nI 9) dX7_join_29 (by decide) ?_
  refine zj_icmp_gtN (tgt := 42) dX7_join_31 (by decide) (by omega) (fun zq => absurd zq (by omega)) (fun _ => ?_)
  refine zj_iload dX7_join_34 (by rfl) ?_
  refine zc_7_181 rfl dX7_join_36 (x7_isGap _) (by exact Nat.le_of_ble_eq_true rfl) ?_
  rw [s_gok hg]
  refine zj_if_ne (tgt := 45) dX7_join_39 (by decide) (fun _ => ?_) (fun zq => absurd zq (by decide))
  refine zj_aload dX7_join_45 (by rfl) ?_
  refine zg_7_113 rfl dX7_join_47 (by first | assumption | rfl) (by rfl) ?_
  refine zj_if_neN (tgt := 58) dX7_join_50 (by decide) (by omega) (fun zq => absurd (he) zq) (fun _ => ?_)
  refine zj_ldc (v := -1000000002) dX7_join_53 zq_352 ?_
  refine zj_goto (tgt := 77) dX7_join_55 (by decide) ?_
  refine zj_iret dX7_join_77 rfl (Nat.le_refl _) (Nat.le_refl _) ?_
  exact ⟨rfl, rfl⟩
theorem x_joinF (w : WF C P S T H O g) (r : RX h C P S T H O g) {p ti gp : Nat} {v : Int32} (hp : p < 6) (hv : ¬ s_tpo v = 0) (ht : 1 ≤ ti ∧ ti ≤ 9) (hg : gp ≤ 96) (he : ¬ (P p).length = 0) (hf : O.length = 20) : zD mX7_join (d + 1) [.ref 0, .int (nI p), .int v, .int (nI ti), .int (nI gp)] h (some (.int (-1000000003))) h := by
  obtain ⟨r0, -, rp, -, -, -, -, ro⟩ := id r
  obtain ⟨q0, -⟩ := id r0
  obtain ⟨p0, -⟩ := rp p hp
  obtain ⟨o0, -⟩ := id ro
  rw [hf] at o0
  have l2 := (w.2.1 p hp).1
  have hle := s_tpo_le v
  refine zD_of (by decide +kernel) (by exact Nat.le_of_ble_eq_true rfl) ?_
  show zB mX7_join _ _ _ 0 [some (.ref 0), some (.int (nI p)), some (.int v), some (.int (nI ti)), some (.int (nI gp)), none, none] [] _
  refine zj_aload_n dX7_join_0 (by rfl) ?_
  refine zj_iload_n dX7_join_1 (by rfl) ?_
  refine zc_7_99 rfl dX7_join_2 (by first | assumption | rfl) (x7_phraseAt r0 hp) (by exact Nat.le_of_ble_eq_true rfl) ?_
  refine zj_astore dX7_join_5 (by decide) ?_
  refine zj_iload_n dX7_join_7 (by rfl) ?_
  refine zc_7_110 rfl dX7_join_8 (x7_ticksOfOne _) (by exact Nat.le_of_ble_eq_true rfl) ?_
  refine zj_istore dX7_join_11 (by decide) ?_
  refine zj_aload dX7_join_13 (by rfl) ?_
  refine zj_ifnull dX7_join_15 ?_
  refine zj_iload dX7_join_18 (by rfl) ?_
  refine zj_if_eqN (tgt := 42) dX7_join_20 (by decide) (by omega) (fun zq => absurd zq (hv)) (fun _ => ?_)
  refine zj_iload_n dX7_join_23 (by rfl) ?_
  refine zj_iconst (v := nI 1) dX7_join_24 (by decide) ?_
  refine zj_icmp_ltN (tgt := 42) dX7_join_25 (by decide) (by omega) (fun zq => absurd zq (by omega)) (fun _ => ?_)
  refine zj_iload_n dX7_join_28 (by rfl) ?_
  refine zj_bipush (v := nI 9) dX7_join_29 (by decide) ?_
  refine zj_icmp_gtN (tgt := 42) dX7_join_31 (by decide) (by omega) (fun zq => absurd zq (by omega)) (fun _ => ?_)
  refine zj_iload dX7_join_34 (by rfl) ?_
  refine zc_7_181 rfl dX7_join_36 (x7_isGap _) (by exact Nat.le_of_ble_eq_true rfl) ?_
  rw [s_gok hg]
  refine zj_if_ne (tgt := 45) dX7_join_39 (by decide) (fun _ => ?_) (fun zq => absurd zq (by decide))
  refine zj_aload dX7_join_45 (by rfl) ?_
  refine zg_7_113 rfl dX7_join_47 (by first | assumption | rfl) (by rfl) ?_
  refine zj_if_neN (tgt := 58) dX7_join_50 (by decide) (by omega) (fun _ => ?_) (fun zq => absurd zq (he))
  refine zj_aload_n dX7_join_58 (by rfl) ?_
  refine zg_7_51 rfl dX7_join_59 (by first | assumption | rfl) (by rfl) ?_
  refine zj_aload dX7_join_62 (by rfl) ?_
  refine zg_7_113 rfl dX7_join_64 (by first | assumption | rfl) (by rfl) ?_
  refine zj_iload dX7_join_67 (by rfl) ?_
  refine zj_imulN dX7_join_69 ?_
  refine zj_iload_n dX7_join_70 (by rfl) ?_
  refine zj_imulN dX7_join_71 ?_
  refine zj_iload dX7_join_72 (by rfl) ?_
  refine zc_7_184 rfl dX7_join_74 (by first | assumption | rfl) (x4_takeF _ _ o0) (by exact Nat.le_of_ble_eq_true rfl) ?_
  refine zj_iret dX7_join_77 rfl (Nat.le_refl _) (Nat.le_refl _) ?_
  exact ⟨rfl, rfl⟩
theorem x_join (w : WF C P S T H O g) (r : RX h C P S T H O g) {p ti gp : Nat} {v : Int32} (hp : p < 6) (hv : ¬ s_tpo v = 0) (ht : 1 ≤ ti ∧ ti ≤ 9) (hg : gp ≤ 96) (he : ¬ (P p).length = 0) (hf : ¬ O.length = 20) : ∃ h', zD mX7_join (d + 1) [.ref 0, .int (nI p), .int v, .int (nI ti), .int (nI gp)] h (some (.int (nI (O.length + 1)))) h' ∧ RX h' C P S T H (O ++ [((P p).length * s_tpo v * ti, gp)]) g ∧ zEq 47 63 h h' := by
  obtain ⟨r0, -, rp, -, -, -, -, ro⟩ := id r
  obtain ⟨q0, -⟩ := id r0
  obtain ⟨p0, -⟩ := rp p hp
  obtain ⟨o0, f, g2, o1, o2, oq⟩ := id ro
  have l2 := (w.2.1 p hp).1
  have l3 := w.2.2.2.2.2.1.1
  have hle := s_tpo_le v
  have hA := x4_take (d := d) (nI ((P p).length * s_tpo v * ti)) (nI gp) o0 o1 o2 (by decide) (by decide) (by decide) (show O.length < 20 by omega)
  have e : ∀ lo hi', (18 < lo ∨ hi' < 16) → zEq lo hi' h (x4_put h 16 17 18 O.length f g2 (nI ((P p).length * s_tpo v * ti)) (nI gp)) := fun lo hi' hh => zEq_set (zEq_set (zEq_set zEq_rf (by omega)) (by omega)) (by omega)
  refine ⟨_, ?_, RX_O r (e _ _ (by omega)) (e _ _ (by omega)) ?_, e _ _ (by omega)⟩
  · refine zD_of (by decide +kernel) (by exact Nat.le_of_ble_eq_true rfl) ?_
    show zB mX7_join _ _ _ 0 [some (.ref 0), some (.int (nI p)), some (.int v), some (.int (nI ti)), some (.int (nI gp)), none, none] [] _
    refine zj_aload_n dX7_join_0 (by rfl) ?_
    refine zj_iload_n dX7_join_1 (by rfl) ?_
    refine zc_7_99 rfl dX7_join_2 (by first | assumption | rfl) (x7_phraseAt r0 hp) (by exact Nat.le_of_ble_eq_true rfl) ?_
    refine zj_astore dX7_join_5 (by decide) ?_
    refine zj_iload_n dX7_join_7 (by rfl) ?_
    refine zc_7_110 rfl dX7_join_8 (x7_ticksOfOne _) (by exact Nat.le_of_ble_eq_true rfl) ?_
    refine zj_istore dX7_join_11 (by decide) ?_
    refine zj_aload dX7_join_13 (by rfl) ?_
    refine zj_ifnull dX7_join_15 ?_
    refine zj_iload dX7_join_18 (by rfl) ?_
    refine zj_if_eqN (tgt := 42) dX7_join_20 (by decide) (by omega) (fun zq => absurd zq (hv)) (fun _ => ?_)
    refine zj_iload_n dX7_join_23 (by rfl) ?_
    refine zj_iconst (v := nI 1) dX7_join_24 (by decide) ?_
    refine zj_icmp_ltN (tgt := 42) dX7_join_25 (by decide) (by omega) (fun zq => absurd zq (by omega)) (fun _ => ?_)
    refine zj_iload_n dX7_join_28 (by rfl) ?_
    refine zj_bipush (v := nI 9) dX7_join_29 (by decide) ?_
    refine zj_icmp_gtN (tgt := 42) dX7_join_31 (by decide) (by omega) (fun zq => absurd zq (by omega)) (fun _ => ?_)
    refine zj_iload dX7_join_34 (by rfl) ?_
    refine zc_7_181 rfl dX7_join_36 (x7_isGap _) (by exact Nat.le_of_ble_eq_true rfl) ?_
    rw [s_gok hg]
    refine zj_if_ne (tgt := 45) dX7_join_39 (by decide) (fun _ => ?_) (fun zq => absurd zq (by decide))
    refine zj_aload dX7_join_45 (by rfl) ?_
    refine zg_7_113 rfl dX7_join_47 (by first | assumption | rfl) (by rfl) ?_
    refine zj_if_neN (tgt := 58) dX7_join_50 (by decide) (by omega) (fun _ => ?_) (fun zq => absurd zq (he))
    refine zj_aload_n dX7_join_58 (by rfl) ?_
    refine zg_7_51 rfl dX7_join_59 (by first | assumption | rfl) (by rfl) ?_
    refine zj_aload dX7_join_62 (by rfl) ?_
    refine zg_7_113 rfl dX7_join_64 (by first | assumption | rfl) (by rfl) ?_
    refine zj_iload dX7_join_67 (by rfl) ?_
    refine zj_imulN dX7_join_69 ?_
    refine zj_iload_n dX7_join_70 (by rfl) ?_
    refine zj_imulN dX7_join_71 ?_
    refine zj_iload dX7_join_72 (by rfl) ?_
    refine zc_7_184 rfl dX7_join_74 (by first | assumption | rfl) hA (by exact Nat.le_of_ble_eq_true rfl) ?_
    refine zj_iret dX7_join_77 rfl (Nat.le_refl _) (Nat.le_refl _) ?_
    exact ⟨rfl, rfl⟩
  · unfold x4_put
    refine ⟨?_, upd f O.length (nI ((P p).length * s_tpo v * ti)), upd g2 O.length (nI gp), zset_ne (by decide) (zset_ne (by decide) (zset_eq o1)), zset_ne (by decide) (zset_eq (zset_ne (by decide) o2)), fun j hj => ?_⟩
    · rw [zset_eq (zset_ne (by decide) (zset_ne (by decide) o0))]
      simp
    · rw [List.length_append, List.length_singleton] at hj
      by_cases ej : j = O.length
      · subst ej
        rw [pk_us, pk_us, z_qe]
        exact ⟨rfl, rfl⟩
      · rw [pk_un ej, pk_un ej, z_qd (by omega)]
        exact oq j (by omega)
theorem x_drop (r : RX h C P S T H O g) : ∃ h', zD mX7_drop d [.ref 0] h (some (.int (nI O.length))) h' ∧ RX h' C P S T H [] g ∧ zEq 47 63 h h' := by
  obtain ⟨r0, -, rp, -, -, -, -, ro⟩ := id r
  obtain ⟨q0, -⟩ := id r0
  obtain ⟨o0, f, g2, o1, o2, oq⟩ := id ro
  have e : ∀ lo hi', (16 < lo ∨ hi' < 16) → zEq lo hi' h (h.set 16 (.inr (4, [.ref 17, .ref 18, .int 0]))) := fun lo hi' hh => zEq_set zEq_rf (by omega)
  refine ⟨h.set 16 (.inr (4, [.ref 17, .ref 18, .int 0])), ?_, RX_O r (e _ _ (by omega)) (e _ _ (by omega)) ⟨zset_eq o0, f, g2, zset_ne (by decide) o1, zset_ne (by decide) o2, fun j hj => absurd hj (Nat.not_lt_zero _)⟩, e _ _ (by omega)⟩
  refine zD_of (by decide +kernel) (by exact Nat.le_of_ble_eq_true rfl) ?_
  show zB mX7_drop _ _ _ 0 [some (.ref 0), none] [] _
  refine zj_aload_n dX7_drop_0 (by rfl) ?_
  refine zg_7_51 rfl dX7_drop_1 (by first | assumption | rfl) (by rfl) ?_
  refine zg_7_185 rfl dX7_drop_4 (by first | assumption | rfl) (by rfl) ?_
  refine zj_istore_n dX7_drop_7 (by decide) ?_
  refine zj_aload_n dX7_drop_8 (by rfl) ?_
  refine zg_7_51 rfl dX7_drop_9 (by first | assumption | rfl) (by rfl) ?_
  refine zj_iconst (v := 0) dX7_drop_12 (by decide) ?_
  refine zp_7_185 rfl dX7_drop_13 (by first | assumption | rfl) (by exact Nat.le_of_ble_eq_true rfl) ?_
  refine zj_iload_n dX7_drop_16 (by rfl) ?_
  refine zj_iret dX7_drop_17 rfl (Nat.le_refl _) (Nat.le_refl _) ?_
  exact ⟨rfl, rfl⟩
theorem x_accountA (r : RX h C P S T H O g) {c i : Int32} (hc : c < 0 ∨ 4 ≤ c) : zD mX7_account (d + 1) [.ref 0, .int c, .int i] h (some (.int (-1000000001))) h := by
  obtain ⟨r0, -⟩ := id r
  obtain ⟨q0, -⟩ := id r0
  refine zD_of (by decide +kernel) (by exact Nat.le_of_ble_eq_true rfl) ?_
  show zB mX7_account _ _ _ 0 [some (.ref 0), some (.int c), some (.int i), none, none] [] _
  refine zj_aload_n dX7_account_0 (by rfl) ?_
  refine zj_iload_n dX7_account_1 (by rfl) ?_
  refine zc_7_62 rfl dX7_account_2 (by first | assumption | rfl) (x7_cycleAtN r0 hc) (by exact Nat.le_of_ble_eq_true rfl) ?_
  refine zj_astore_nN dX7_account_5 (by decide) ?_
  refine zj_aload_nN dX7_account_6 (by rfl) ?_
  refine zj_ifnullN (tgt := 25) dX7_account_7 (by decide) ?_
  refine zj_ldc (v := -1000000001) dX7_account_25 zq_226 ?_
  refine zj_iret dX7_account_27 rfl (Nat.le_refl _) (Nat.le_refl _) ?_
  exact ⟨rfl, rfl⟩
theorem x_accountB (r : RX h C P S T H O g) {c : Nat} {i : Int32} (hc : c < 4) (hi : i < 0 ∨ ¬ i < nI O.length) : zD mX7_account (d + 1) [.ref 0, .int (nI c), .int i] h (some (.int (-1000000001))) h := by
  obtain ⟨r0, -, -, -, -, -, -, ro⟩ := id r
  obtain ⟨q0, -⟩ := id r0
  obtain ⟨o0, -⟩ := id ro
  refine zD_of (by decide +kernel) (by exact Nat.le_of_ble_eq_true rfl) ?_
  show zB mX7_account _ _ _ 0 [some (.ref 0), some (.int (nI c)), some (.int i), none, none] [] _
  refine zj_aload_n dX7_account_0 (by rfl) ?_
  refine zj_iload_n dX7_account_1 (by rfl) ?_
  refine zc_7_62 rfl dX7_account_2 (by first | assumption | rfl) (x7_cycleAt r0 hc) (by exact Nat.le_of_ble_eq_true rfl) ?_
  refine zj_astore_n dX7_account_5 (by decide) ?_
  refine zj_aload_n dX7_account_6 (by rfl) ?_
  refine zj_ifnull dX7_account_7 ?_
  refine zj_iload_n dX7_account_10 (by rfl) ?_
  refine zj_if_lt (tgt := 25) dX7_account_11 (by decide) (fun q11 => ?_) (fun q11 => ?_)
  · refine zj_ldc (v := -1000000001) dX7_account_25 zq_226 ?_
    refine zj_iret dX7_account_27 rfl (Nat.le_refl _) (Nat.le_refl _) ?_
    exact ⟨rfl, rfl⟩
  · refine zj_iload_n dX7_account_14 (by rfl) ?_
    refine zj_aload_n dX7_account_15 (by rfl) ?_
    refine zg_7_51 rfl dX7_account_16 (by first | assumption | rfl) (by rfl) ?_
    refine zg_7_185 rfl dX7_account_19 (by first | assumption | rfl) (by rfl) ?_
    refine zj_icmp_lt (tgt := 28) dX7_account_22 (by decide) (fun q22 => ?_) (fun q22 => ?_)
    · exact absurd hi (fun hh => hh.elim q11 (fun h4 => h4 q22))
    · refine zj_ldc (v := -1000000001) dX7_account_25 zq_226 ?_
      refine zj_iret dX7_account_27 rfl (Nat.le_refl _) (Nat.le_refl _) ?_
      exact ⟨rfl, rfl⟩
theorem x_account (w : WF C P S T H O g) (r : RX h C P S T H O g) {c i : Nat} (hc : c < 4) (hi : i < O.length) : zD mX7_account (d + 1) [.ref 0, .int (nI c), .int (nI i)] h (some (.int (if (C c).length = 0 then -1000000002 else nI (s_end (s_tk O) (s_gp O) (i + 1) % s_cl C c)))) h := by
  obtain ⟨r0, rc, -, -, -, -, -, ro⟩ := id r
  obtain ⟨q0, -⟩ := id r0
  obtain ⟨o0, f, g2, o1, o2, oq⟩ := id ro
  obtain ⟨c0, cf, cg, c1, c2, c3⟩ := rc c hc
  have l3 := w.2.2.2.2.2.1.1
  have hLe := s_cl_le w.1 hc
  have hL := x0_allTicks (d := d) (hv := s_hv C c) c0 c2 (w.1 c hc).1 (fun j hj => (c3 j hj).2)
  have hE := x4_endOf (d := d) (tk := s_tk O) (gp := s_gp O) o0 o1 o2 l3 hi (fun j hj => (oq j hj).1) (fun j hj => (oq j hj).2)
  have hb := s_end_le (tk := s_tk O) (gp := s_gp O) (i + 1) (fun j hj => s_getQ (p := fun q => q.1 ≤ 12960 ∧ q.2 ≤ 96) (show j < O.length by omega) w.2.2.2.2.2.1.2)
  have hcl : s_sum (s_hv C c) (C c).length = s_cl C c := rfl
  rw [hcl] at hL
  refine zD_of (by decide +kernel) (by exact Nat.le_of_ble_eq_true rfl) ?_
  show zB mX7_account _ _ _ 0 [some (.ref 0), some (.int (nI c)), some (.int (nI i)), none, none] [] _
  refine zj_aload_n dX7_account_0 (by rfl) ?_
  refine zj_iload_n dX7_account_1 (by rfl) ?_
  refine zc_7_62 rfl dX7_account_2 (by first | assumption | rfl) (x7_cycleAt r0 hc) (by exact Nat.le_of_ble_eq_true rfl) ?_
  refine zj_astore_n dX7_account_5 (by decide) ?_
  refine zj_aload_n dX7_account_6 (by rfl) ?_
  refine zj_ifnull dX7_account_7 ?_
  refine zj_iload_n dX7_account_10 (by rfl) ?_
  refine zj_if_ltN (tgt := 25) dX7_account_11 (by decide) (by omega) ?_
  refine zj_iload_n dX7_account_14 (by rfl) ?_
  refine zj_aload_n dX7_account_15 (by rfl) ?_
  refine zg_7_51 rfl dX7_account_16 (by first | assumption | rfl) (by rfl) ?_
  refine zg_7_185 rfl dX7_account_19 (by first | assumption | rfl) (by rfl) ?_
  refine zj_icmp_ltN (tgt := 28) dX7_account_22 (by decide) (by omega) (fun _ => ?_) (fun zq => absurd (hi) zq)
  refine zj_aload_n dX7_account_28 (by rfl) ?_
  refine zc_7_82 rfl dX7_account_29 (by first | assumption | rfl) hL (by exact Nat.le_of_ble_eq_true rfl) ?_
  refine zj_istore dX7_account_32 (by decide) ?_
  refine zj_iload dX7_account_34 (by rfl) ?_
  refine zj_if_gtN (tgt := 44) dX7_account_36 (by decide) (by omega) (fun q36 => ?_) (fun q36 => ?_)
  · refine zj_aload_n dX7_account_44 (by rfl) ?_
    refine zg_7_51 rfl dX7_account_45 (by first | assumption | rfl) (by rfl) ?_
    refine zj_iload_n dX7_account_48 (by rfl) ?_
    refine zc_7_186 rfl dX7_account_49 (by first | assumption | rfl) hE (by exact Nat.le_of_ble_eq_true rfl) ?_
    refine zj_iload dX7_account_52 (by rfl) ?_
    refine zj_iremN dX7_account_54 (by omega) ?_
    refine zj_iret dX7_account_55 rfl (Nat.le_refl _) (Nat.le_refl _) ?_
    exact ⟨by first | (rw [if_pos (by by_cases hh : (C c).length = 0; exact hh; exact absurd (s_cl_pos w.1 hc hh) (by omega))]; done) | (rw [if_neg (fun hh => by rw [s_cl_0 hh] at q36; omega)]; done), rfl⟩
  · refine zj_ldc (v := -1000000002) dX7_account_39 zq_352 ?_
    refine zj_goto (tgt := 55) dX7_account_41 (by decide) ?_
    refine zj_iret dX7_account_55 rfl (Nat.le_refl _) (Nat.le_refl _) ?_
    exact ⟨by first | (rw [if_pos (by by_cases hh : (C c).length = 0; exact hh; exact absurd (s_cl_pos w.1 hc hh) (by omega))]; done) | (rw [if_neg (fun hh => by rw [s_cl_0 hh] at q36; omega)]; done), rfl⟩
theorem x_landingsA (r : RX h C P S T H O g) {c : Int32} (hc : c < 0 ∨ 4 ≤ c) : zD mX7_landings (d + 1) [.ref 0, .int c] h (some (.int (-1000000001))) h := by
  obtain ⟨r0, -⟩ := id r
  obtain ⟨q0, -⟩ := id r0
  refine zD_of (by decide +kernel) (by exact Nat.le_of_ble_eq_true rfl) ?_
  show zB mX7_landings _ _ _ 0 [some (.ref 0), some (.int c), none, none] [] _
  refine zj_aload_n dX7_landings_0 (by rfl) ?_
  refine zj_iload_n dX7_landings_1 (by rfl) ?_
  refine zc_7_62 rfl dX7_landings_2 (by first | assumption | rfl) (x7_cycleAtN r0 hc) (by exact Nat.le_of_ble_eq_true rfl) ?_
  refine zj_astore_nN dX7_landings_5 (by decide) ?_
  refine zj_aload_nN dX7_landings_6 (by rfl) ?_
  refine zj_ifnonnullN dX7_landings_7 ?_
  refine zj_ldc (v := -1000000001) dX7_landings_10 zq_226 ?_
  refine zj_iret dX7_landings_12 rfl (Nat.le_refl _) (Nat.le_refl _) ?_
  exact ⟨rfl, rfl⟩
theorem x_landings (w : WF C P S T H O g) (r : RX h C P S T H O g) {c : Nat} (hc : c < 4) : zD mX7_landings (d + 1) [.ref 0, .int (nI c)] h (some (.int (if (C c).length = 0 then -1000000002 else nI (s_lnd (s_tk O) (s_gp O) (s_cl C c) O.length)))) h := by
  obtain ⟨r0, rc, -, -, -, -, -, ro⟩ := id r
  obtain ⟨q0, -⟩ := id r0
  obtain ⟨o0, f, g2, o1, o2, oq⟩ := id ro
  obtain ⟨c0, cf, cg, c1, c2, c3⟩ := rc c hc
  have l3 := w.2.2.2.2.2.1.1
  have hLe := s_cl_le w.1 hc
  have hL := x0_allTicks (d := d) (hv := s_hv C c) c0 c2 (w.1 c hc).1 (fun j hj => (c3 j hj).2)
  have hcl : s_sum (s_hv C c) (C c).length = s_cl C c := rfl
  rw [hcl] at hL
  have hE := fun (hp : 0 < s_cl C c) => x4_endsAtOne (d := d) (l := s_cl C c) (tk := s_tk O) (gp := s_gp O) (by omega) o0 o1 o2 l3 (fun j hj => (oq j hj).1) (fun j hj => (oq j hj).2) (fun j hj => s_getQ (p := fun q => q.1 ≤ 12960 ∧ q.2 ≤ 96) hj w.2.2.2.2.2.1.2)
  refine zD_of (by decide +kernel) (by exact Nat.le_of_ble_eq_true rfl) ?_
  show zB mX7_landings _ _ _ 0 [some (.ref 0), some (.int (nI c)), none, none] [] _
  refine zj_aload_n dX7_landings_0 (by rfl) ?_
  refine zj_iload_n dX7_landings_1 (by rfl) ?_
  refine zc_7_62 rfl dX7_landings_2 (by first | assumption | rfl) (x7_cycleAt r0 hc) (by exact Nat.le_of_ble_eq_true rfl) ?_
  refine zj_astore_n dX7_landings_5 (by decide) ?_
  refine zj_aload_n dX7_landings_6 (by rfl) ?_
  refine zj_ifnonnull (tgt := 13) dX7_landings_7 (by decide) ?_
  refine zj_aload_n dX7_landings_13 (by rfl) ?_
  refine zc_7_82 rfl dX7_landings_14 (by first | assumption | rfl) hL (by exact Nat.le_of_ble_eq_true rfl) ?_
  refine zj_istore_n dX7_landings_17 (by decide) ?_
  refine zj_iload_n dX7_landings_18 (by rfl) ?_
  refine zj_if_gtN (tgt := 27) dX7_landings_19 (by decide) (by omega) (fun q19 => ?_) (fun q19 => ?_)
  · refine zj_aload_n dX7_landings_27 (by rfl) ?_
    refine zg_7_51 rfl dX7_landings_28 (by first | assumption | rfl) (by rfl) ?_
    refine zj_iload_n dX7_landings_31 (by rfl) ?_
    refine zc_7_189 rfl dX7_landings_32 (by first | assumption | rfl) (hE q19) (by exact Nat.le_of_ble_eq_true rfl) ?_
    refine zj_iret dX7_landings_35 rfl (Nat.le_refl _) (Nat.le_refl _) ?_
    exact ⟨by first | (rw [if_pos (by by_cases hh : (C c).length = 0; exact hh; exact absurd (s_cl_pos w.1 hc hh) (by omega))]; done) | (rw [if_neg (fun hh => by rw [s_cl_0 hh] at q19; omega)]; done), rfl⟩
  · refine zj_ldc (v := -1000000002) dX7_landings_22 zq_352 ?_
    refine zj_goto (tgt := 35) dX7_landings_24 (by decide) ?_
    refine zj_iret dX7_landings_35 rfl (Nat.le_refl _) (Nat.le_refl _) ?_
    exact ⟨by first | (rw [if_pos (by by_cases hh : (C c).length = 0; exact hh; exact absurd (s_cl_pos w.1 hc hh) (by omega))]; done) | (rw [if_neg (fun hh => by rw [s_cl_0 hh] at q19; omega)]; done), rfl⟩
theorem x_homeA (r : RX h C P S T H O g) {c : Int32} (hc : c < 0 ∨ 4 ≤ c) : zD mX7_home (d + 2) [.ref 0, .int c] h (some (.int (-1000000001))) h := by
  obtain ⟨r0, -⟩ := id r
  obtain ⟨q0, -⟩ := id r0
  refine zD_of (by decide +kernel) (by exact Nat.le_of_ble_eq_true rfl) ?_
  show zB mX7_home _ _ _ 0 [some (.ref 0), some (.int c), none, none] [] _
  refine zj_aload_n dX7_home_0 (by rfl) ?_
  refine zj_iload_n dX7_home_1 (by rfl) ?_
  refine zc_7_62 rfl dX7_home_2 (by first | assumption | rfl) (x7_cycleAtN r0 hc) (by exact Nat.le_of_ble_eq_true rfl) ?_
  refine zj_astore_nN dX7_home_5 (by decide) ?_
  refine zj_aload_nN dX7_home_6 (by rfl) ?_
  refine zj_ifnonnullN dX7_home_7 ?_
  refine zj_ldc (v := -1000000001) dX7_home_10 zq_226 ?_
  refine zj_iret dX7_home_12 rfl (Nat.le_refl _) (Nat.le_refl _) ?_
  exact ⟨rfl, rfl⟩
theorem x_home (w : WF C P S T H O g) (r : RX h C P S T H O g) {c : Nat} (hc : c < 4) : zD mX7_home (d + 2) [.ref 0, .int (nI c)] h (some (.int (if (C c).length = 0 ∨ O.length = 0 then -1000000002 else nI (s_w (s_end (s_tk O) (s_gp O) O.length - s_gp O (O.length - 1)) (s_cl C c))))) h := by
  obtain ⟨r0, rc, -, -, -, -, -, ro⟩ := id r
  obtain ⟨q0, -⟩ := id r0
  obtain ⟨o0, f, g2, o1, o2, oq⟩ := id ro
  obtain ⟨c0, cf, cg, c1, c2, c3⟩ := rc c hc
  have l3 := w.2.2.2.2.2.1.1
  have hLe := s_cl_le w.1 hc
  have hL := x0_allTicks (d := d + 1) (hv := s_hv C c) c0 c2 (w.1 c hc).1 (fun j hj => (c3 j hj).2)
  have hcl : s_sum (s_hv C c) (C c).length = s_cl C c := rfl
  rw [hcl] at hL
  have hE := fun (hp : 0 < O.length) => x4_endW (d := d) (tk := s_tk O) (gp := s_gp O) o0 o1 o2 l3 hp (fun j hj => (oq j hj).1) (fun j hj => (oq j hj).2)
  have hb := s_end_le (tk := s_tk O) (gp := s_gp O) O.length (fun j hj => s_getQ (p := fun q => q.1 ≤ 12960 ∧ q.2 ≤ 96) hj w.2.2.2.2.2.1.2)
  obtain ⟨ev, hev⟩ : ∃ ev, ev = s_end (s_tk O) (s_gp O) O.length - s_gp O (O.length - 1) := ⟨_, rfl⟩
  have hevb : ev ≤ 13056 * 20 := by omega
  rw [← hev] at hE ⊢
  have hz : (-(ev : Int) + (ev : Int)) % ((s_cl C c : Nat) : Int) = 0 := by rw [Int.add_left_neg, Int.zero_emod]
  refine zD_of (by decide +kernel) (by exact Nat.le_of_ble_eq_true rfl) ?_
  show zB mX7_home _ _ _ 0 [some (.ref 0), some (.int (nI c)), none, none] [] _
  refine zj_aload_n dX7_home_0 (by rfl) ?_
  refine zj_iload_n dX7_home_1 (by rfl) ?_
  refine zc_7_62 rfl dX7_home_2 (by first | assumption | rfl) (x7_cycleAt r0 hc) (by exact Nat.le_of_ble_eq_true rfl) ?_
  refine zj_astore_n dX7_home_5 (by decide) ?_
  refine zj_aload_n dX7_home_6 (by rfl) ?_
  refine zj_ifnonnull (tgt := 13) dX7_home_7 (by decide) ?_
  refine zj_aload_n dX7_home_13 (by rfl) ?_
  refine zc_7_82 rfl dX7_home_14 (by first | assumption | rfl) hL (by exact Nat.le_of_ble_eq_true rfl) ?_
  refine zj_istore_n dX7_home_17 (by decide) ?_
  refine zj_iload_n dX7_home_18 (by rfl) ?_
  refine zj_if_leN (tgt := 32) dX7_home_19 (by decide) (by omega) (fun q19 => ?_) (fun q19 => ?_)
  · refine zj_ldc (v := -1000000002) dX7_home_32 zq_352 ?_
    refine zj_iret dX7_home_34 rfl (Nat.le_refl _) (Nat.le_refl _) ?_
    exact ⟨by rw [if_pos]; first | exact Or.inr (by omega) | (by_cases hh : (C c).length = 0; exact Or.inl hh; exact absurd (s_cl_pos w.1 hc hh) (by omega)), rfl⟩
  · refine zj_aload_n dX7_home_22 (by rfl) ?_
    refine zg_7_51 rfl dX7_home_23 (by first | assumption | rfl) (by rfl) ?_
    refine zg_7_185 rfl dX7_home_26 (by first | assumption | rfl) (by rfl) ?_
    refine zj_if_neN (tgt := 35) dX7_home_29 (by decide) (by omega) (fun q29 => ?_) (fun q29 => ?_)
    · refine zj_aload_n dX7_home_35 (by rfl) ?_
      refine zg_7_51 rfl dX7_home_36 (by first | assumption | rfl) (by rfl) ?_
      refine zc_7_192 rfl dX7_home_39 (by first | assumption | rfl) (hE (by omega)) (by exact Nat.le_of_ble_eq_true rfl) ?_
      refine zj_ineg dX7_home_42 ?_
      rw [nI_iI ev, iI_neg]
      refine zj_iload_n dX7_home_43 (by rfl) ?_
      refine zc_7_195 rfl dX7_home_44 (j9_floorMod (by omega) (by omega)) (by exact Nat.le_of_ble_eq_true rfl) ?_
      refine zj_iret dX7_home_47 rfl (Nat.le_refl _) (Nat.le_refl _) ?_
      exact ⟨by rw [if_neg (fun hh => hh.elim (fun h1 => by rw [s_cl_0 h1] at q19; omega) (fun h1 => by omega)), s_w_int (by omega) hz], rfl⟩
    · refine zj_ldc (v := -1000000002) dX7_home_32 zq_352 ?_
      refine zj_iret dX7_home_34 rfl (Nat.le_refl _) (Nat.le_refl _) ?_
      exact ⟨by rw [if_pos]; first | exact Or.inr (by omega) | (by_cases hh : (C c).length = 0; exact Or.inl hh; exact absurd (s_cl_pos w.1 hc hh) (by omega)), rfl⟩
end SP
