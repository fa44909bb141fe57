def s_up {α : Type} (f : Nat → α) (i : Nat) (v : α) : Nat → α := fun j => if j = i then v else f j
theorem s_up_eq {α : Type} {f : Nat → α} {i : Nat} {v : α} : s_up f i v i = v := by unfold s_up; rw [if_pos rfl]
theorem s_up_ne {α : Type} {f : Nat → α} {i j : Nat} {v : α} (h : ¬ j = i) : s_up f i v j = f j := by unfold s_up; rw [if_neg h]
section O1
variable {h h' : zH} {C : Nat → List (Nat × Nat)} {P : Nat → List Nat} {S : Nat → Option (List Int32)} {T : List Nat} {H : Nat → Nat} {O : List (Nat × Nat)} {g d : Nat}
theorem z_qd {l : List (Nat × Nat)} {q : Nat × Nat} {j : Nat} (hj : j < l.length) : (l ++ [q]).getD j (0, 0) = l.getD j (0, 0) := by simp [List.getD, List.getElem?_append_left hj]
theorem z_qe {l : List (Nat × Nat)} {q : Nat × Nat} : (l ++ [q]).getD l.length (0, 0) = q := by simp [List.getD]
/-- what stays where only cycle cells changed -/
theorem RX_C {C' : Nat → List (Nat × Nat)} (r : RX h C P S T H O g) (e1 : zEq 0 18 h h') (e2 : zEq 31 63 h h') (rc : RC h' C') : RX h' C' P S T H O g := by
  obtain ⟨r0, r1, r2, r3, r4, r5, r6, r7⟩ := r
  exact ⟨R0_f (fun j a b => e1 j (by omega) (by omega)) r0, rc, RP_f (fun j a b => e2 j (by omega) (by omega)) r2, RS_f (fun j a b => e2 j (by omega) (by omega)) r3, RT_f (fun j a b => e1 j (by omega) (by omega)) r4, RU_f (fun j a b => e1 j (by omega) (by omega)) r5, RH_f (fun j a b => e1 j (by omega) (by omega)) r6, RO_f (fun j a b => e1 j (by omega) (by omega)) r7⟩
theorem RC_push {i kk m : Nat} (w : WC C) (hi : i < 4) (rc : RC h C) {f g : Nat → Int32} (ha : h[20 + 3 * i]? = some (.inl (1, 12, .inl f))) (hb : h[21 + 3 * i]? = some (.inl (1, 12, .inl g))) (hq : ∀ j, j < (C i).length → f j = nI (s_kd C i j) ∧ g j = nI (s_hv C i j)) : RC (x0_put h (19 + 3 * i) (20 + 3 * i) (21 + 3 * i) (C i).length f g (nI kk) (nI m)) (s_up C i (C i ++ [(kk, m)])) := by
  intro i2 hi2
  obtain ⟨r0, -⟩ := rc i hi
  by_cases e : i2 = i
  · subst e
    rw [s_up_eq]
    unfold x0_put
    refine ⟨?_, upd f (C i2).length (nI kk), upd g (C i2).length (nI m), ?_, ?_, ?_⟩
    · rw [zset_eq (zset_ne (by omega) (zset_ne (by omega) r0))]
      simp
    · exact zset_ne (by omega) (zset_ne (by omega) (zset_eq ha))
    · exact zset_ne (by omega) (zset_eq (zset_ne (by omega) hb))
    · intro j hj
      rw [List.length_append, List.length_singleton] at hj
      unfold s_kd s_hv
      rw [s_up_eq]
      by_cases ej : j = (C i2).length
      · subst ej
        rw [pk_us, pk_us, z_qe]
        exact ⟨rfl, rfl⟩
      · rw [pk_un ej, pk_un ej, z_qd (by omega)]
        exact hq j (by omega)
  · obtain ⟨q0, f2, g2, q1, q2, q3⟩ := rc i2 hi2
    unfold s_kd s_hv
    rw [s_up_ne e]
    unfold x0_put
    exact ⟨zset_ne (by omega) (zset_ne (by omega) (zset_ne (by omega) q0)), f2, g2, zset_ne (by omega) (zset_ne (by omega) (zset_ne (by omega) q1)), zset_ne (by omega) (zset_ne (by omega) (zset_ne (by omega) q2)), q3⟩
theorem x_limbA (r : RX h C P S T H O g) {c k n : Int32} (hc : c < 0 ∨ 4 ≤ c) : zD mX7_limb (d + 1) [.ref 0, .int c, .int k, .int n] h (some (.int (-1000000001))) h := by
  obtain ⟨r0, -⟩ := id r
  obtain ⟨q0, -⟩ := id r0
  refine zD_of (by decide +kernel) (by exact Nat.le_of_ble_eq_true rfl) ?_
  show zB mX7_limb _ _ _ 0 [some (.ref 0), some (.int c), some (.int k), some (.int n), none] [] _
  refine zj_aload_n dX7_limb_0 (by rfl) ?_
  refine zj_iload_n dX7_limb_1 (by rfl) ?_
  refine zc_7_62 rfl dX7_limb_2 (by first | assumption | rfl) (x7_cycleAtN r0 hc) (by exact Nat.le_of_ble_eq_true rfl) ?_
  refine zj_astoreN dX7_limb_5 (by decide) ?_
  refine zj_aloadN dX7_limb_7 (by rfl) ?_
  refine zj_ifnullN (tgt := 30) dX7_limb_9 (by decide) ?_
  refine zj_ldc (v := -1000000001) dX7_limb_30 zq_226 ?_
  refine zj_iret dX7_limb_32 rfl (Nat.le_refl _) (Nat.le_refl _) ?_
  exact ⟨rfl, rfl⟩
theorem x_limbB (r : RX h C P S T H O g) {i : Nat} (hi : i < 4) {k n : Int32} (hk : k < 0 ∨ 3 < k ∨ n < 1 ∨ ¬ n ≤ 18) : zD mX7_limb (d + 1) [.ref 0, .int (nI i), .int k, .int n] h (some (.int (-1000000001))) h := by
  obtain ⟨r0, -⟩ := id r
  obtain ⟨q0, -⟩ := id r0
  refine zD_of (by decide +kernel) (by exact Nat.le_of_ble_eq_true rfl) ?_
  show zB mX7_limb _ _ _ 0 [some (.ref 0), some (.int (nI i)), some (.int k), some (.int n), none] [] _
  refine zj_aload_n dX7_limb_0 (by rfl) ?_
  refine zj_iload_n dX7_limb_1 (by rfl) ?_
  refine zc_7_62 rfl dX7_limb_2 (by first | assumption | rfl) (x7_cycleAt r0 hi) (by exact Nat.le_of_ble_eq_true rfl) ?_
  refine zj_astore dX7_limb_5 (by decide) ?_
  refine zj_aload dX7_limb_7 (by rfl) ?_
  refine zj_ifnull dX7_limb_9 ?_
  refine zj_iload_n dX7_limb_12 (by rfl) ?_
  refine zc_7_66 rfl dX7_limb_13 (x0_isKind _) (by exact Nat.le_of_ble_eq_true rfl) ?_
  refine zj_if_eq (tgt := 30) dX7_limb_16 (by decide) (fun q16 => ?_) (fun q16 => ?_)
  · refine zj_ldc (v := -1000000001) dX7_limb_30 zq_226 ?_
    refine zj_iret dX7_limb_32 rfl (Nat.le_refl _) (Nat.le_refl _) ?_
    exact ⟨rfl, rfl⟩
  · refine zj_iload_n dX7_limb_19 (by rfl) ?_
    refine zj_iconst (v := 1) dX7_limb_20 (by decide) ?_
    refine zj_icmp_lt (tgt := 30) dX7_limb_21 (by decide) (fun q21 => ?_) (fun q21 => ?_)
    · refine zj_ldc (v := -1000000001) dX7_limb_30 zq_226 ?_
      refine zj_iret dX7_limb_32 rfl (Nat.le_refl _) (Nat.le_refl _) ?_
      exact ⟨rfl, rfl⟩
    · refine zj_iload_n dX7_limb_24 (by rfl) ?_
      refine zj_bipush (v := 18) dX7_limb_25 (by decide) ?_
      refine zj_icmp_le (tgt := 33) dX7_limb_27 (by decide) (fun q27 => ?_) (fun q27 => ?_)
      · exfalso
        rcases hk with hk | hk | hk | hk
        · rw [if_pos hk] at q16; exact q16 rfl
        · by_cases hk0 : k < 0; rw [if_pos hk0] at q16; exact q16 rfl; rw [if_neg hk0, if_pos hk] at q16; exact q16 rfl
        · exact q21 hk
        · exact hk q27
      · refine zj_ldc (v := -1000000001) dX7_limb_30 zq_226 ?_
        refine zj_iret dX7_limb_32 rfl (Nat.le_refl _) (Nat.le_refl _) ?_
        exact ⟨rfl, rfl⟩
theorem s_kok {kk : Nat} (h : kk ≤ 3) : (if nI kk < 0 then (0 : Int32) else if 3 < nI kk then 0 else 1) = 1 := by
  rcases (show kk = 0 ∨ kk = 1 ∨ kk = 2 ∨ kk = 3 by omega) with rfl | rfl | rfl | rfl <;> decide
theorem x_limbF (w : WF C P S T H O g) (r : RX h C P S T H O g) {i kk m : Nat} (hi : i < 4) (hk : kk ≤ 3) (hm : 1 ≤ m ∧ m ≤ 18) (hl : (C i).length = 12) : zD mX7_limb (d + 1) [.ref 0, .int (nI i), .int (nI kk), .int (nI m)] h (some (.int (-1000000003))) h := by
  obtain ⟨r0, rc, -⟩ := id r
  obtain ⟨q0, -⟩ := id r0
  obtain ⟨c0, -⟩ := rc i hi
  rw [hl] at c0
  refine zD_of (by decide +kernel) (by exact Nat.le_of_ble_eq_true rfl) ?_
  show zB mX7_limb _ _ _ 0 [some (.ref 0), some (.int (nI i)), some (.int (nI kk)), some (.int (nI m)), none] [] _
  refine zj_aload_n dX7_limb_0 (by rfl) ?_
  refine zj_iload_n dX7_limb_1 (by rfl) ?_
  refine zc_7_62 rfl dX7_limb_2 (by first | assumption | rfl) (x7_cycleAt r0 hi) (by exact Nat.le_of_ble_eq_true rfl) ?_
  refine zj_astore dX7_limb_5 (by decide) ?_
  refine zj_aload dX7_limb_7 (by rfl) ?_
  refine zj_ifnull dX7_limb_9 ?_
  refine zj_iload_n dX7_limb_12 (by rfl) ?_
  refine zc_7_66 rfl dX7_limb_13 (x0_isKind _) (by exact Nat.le_of_ble_eq_true rfl) ?_
  rw [s_kok hk]
  refine zj_if_eq (tgt := 30) dX7_limb_16 (by decide) (fun zq => absurd zq (by decide)) (fun _ => ?_)
  refine zj_iload_n dX7_limb_19 (by rfl) ?_
  refine zj_iconst (v := 1) dX7_limb_20 (by decide) ?_
  refine zj_icmp_lt (tgt := 30) dX7_limb_21 (by decide) (fun zq => absurd zq (nI_nlt (b := 1) (by omega) (by omega))) (fun _ => ?_)
  refine zj_iload_n dX7_limb_24 (by rfl) ?_
  refine zj_bipush (v := 18) dX7_limb_25 (by decide) ?_
  refine zj_icmp_le (tgt := 33) dX7_limb_27 (by decide) (fun _ => ?_) (fun zq => absurd (nI_le (b := 18) (by omega) (by decide)) zq)
  refine zj_aload dX7_limb_33 (by rfl) ?_
  refine zj_iload_n dX7_limb_35 (by rfl) ?_
  refine zj_iload_n dX7_limb_36 (by rfl) ?_
  refine zc_7_71 rfl dX7_limb_37 (by first | assumption | rfl) (x0_takeF _ _ c0) (by exact Nat.le_of_ble_eq_true rfl) ?_
  refine zj_iret dX7_limb_40 rfl (Nat.le_refl _) (Nat.le_refl _) ?_
  exact ⟨rfl, rfl⟩
theorem x_limb (w : WF C P S T H O g) (r : RX h C P S T H O g) {i kk m : Nat} (hi : i < 4) (hk : kk ≤ 3) (hm : 1 ≤ m ∧ m ≤ 18) (hl : ¬ (C i).length = 12) : ∃ h', zD mX7_limb (d + 1) [.ref 0, .int (nI i), .int (nI kk), .int (nI m)] h (some (.int (nI ((C i).length + 1)))) h' ∧ RX h' (s_up C i (C i ++ [(kk, m)])) P S T H O g ∧ zEq 47 63 h h' := by
  obtain ⟨r0, rc, -⟩ := id r
  obtain ⟨q0, -⟩ := id r0
  obtain ⟨c0, f, g2, c1, c2, c3⟩ := rc i hi
  have hlen := (w.1 i hi).1
  have hT := x0_take (d := d) (nI kk) (nI m) c0 c1 c2 (by omega) (by omega) (by omega) (show (C i).length < 12 by omega)
  have e : ∀ lo hi', (19 + 3 * i + 2 < lo ∨ hi' < 19 + 3 * i) → zEq lo hi' h (x0_put h (19 + 3 * i) (20 + 3 * i) (21 + 3 * i) (C i).length f g2 (nI kk) (nI m)) := fun lo hi' hh => zEq_set (zEq_set (zEq_set zEq_rf (by omega)) (by omega)) (by omega)
  refine ⟨x0_put h (19 + 3 * i) (20 + 3 * i) (21 + 3 * i) (C i).length f g2 (nI kk) (nI m), ?_, RX_C r (e _ _ (by omega)) (e _ _ (by omega)) (RC_push w.1 hi rc c1 c2 c3), e _ _ (by omega)⟩
  refine zD_of (by decide +kernel) (by exact Nat.le_of_ble_eq_true rfl) ?_
  show zB mX7_limb _ _ _ 0 [some (.ref 0), some (.int (nI i)), some (.int (nI kk)), some (.int (nI m)), none] [] _
  refine zj_aload_n dX7_limb_0 (by rfl) ?_
  refine zj_iload_n dX7_limb_1 (by rfl) ?_
  refine zc_7_62 rfl dX7_limb_2 (by first | assumption | rfl) (x7_cycleAt r0 hi) (by exact Nat.le_of_ble_eq_true rfl) ?_
  refine zj_astore dX7_limb_5 (by decide) ?_
  refine zj_aload dX7_limb_7 (by rfl) ?_
  refine zj_ifnull dX7_limb_9 ?_
  refine zj_iload_n dX7_limb_12 (by rfl) ?_
  refine zc_7_66 rfl dX7_limb_13 (x0_isKind _) (by exact Nat.le_of_ble_eq_true rfl) ?_
  rw [s_kok hk]
  refine zj_if_eq (tgt := 30) dX7_limb_16 (by decide) (fun zq => absurd zq (by decide)) (fun _ => ?_)
  refine zj_iload_n dX7_limb_19 (by rfl) ?_
  refine zj_iconst (v := 1) dX7_limb_20 (by decide) ?_
  refine zj_icmp_lt (tgt := 30) dX7_limb_21 (by decide) (fun zq => absurd zq (nI_nlt (b := 1) (by omega) (by omega))) (fun _ => ?_)
  refine zj_iload_n dX7_limb_24 (by rfl) ?_
  refine zj_bipush (v := 18) dX7_limb_25 (by decide) ?_
  refine zj_icmp_le (tgt := 33) dX7_limb_27 (by decide) (fun _ => ?_) (fun zq => absurd (nI_le (b := 18) (by omega) (by decide)) zq)
  refine zj_aload dX7_limb_33 (by rfl) ?_
  refine zj_iload_n dX7_limb_35 (by rfl) ?_
  refine zj_iload_n dX7_limb_36 (by rfl) ?_
  refine zc_7_71 rfl dX7_limb_37 (by first | assumption | rfl) hT (by exact Nat.le_of_ble_eq_true rfl) ?_
  refine zj_iret dX7_limb_40 rfl (Nat.le_refl _) (Nat.le_refl _) ?_
  exact ⟨rfl, rfl⟩
theorem x_isOfA (r : RX h C P S T H O g) {c i k : Int32} (hc : c < 0 ∨ 4 ≤ c) : zD mX7_isOf (d + 2) [.ref 0, .int c, .int i, .int k] h (some (.int (-1000000001))) h := by
  obtain ⟨r0, -⟩ := id r
  obtain ⟨q0, -⟩ := id r0
  refine zD_of (by decide +kernel) (by exact Nat.le_of_ble_eq_true rfl) ?_
  show zB mX7_isOf _ _ _ 0 [some (.ref 0), some (.int c), some (.int i), some (.int k), none] [] _
  refine zj_aload_n dX7_isOf_0 (by rfl) ?_
  refine zj_iload_n dX7_isOf_1 (by rfl) ?_
  refine zc_7_62 rfl dX7_isOf_2 (by first | assumption | rfl) (x7_cycleAtN r0 hc) (by exact Nat.le_of_ble_eq_true rfl) ?_
  refine zj_astoreN dX7_isOf_5 (by decide) ?_
  refine zj_aloadN dX7_isOf_7 (by rfl) ?_
  refine zj_ifnullN (tgt := 32) dX7_isOf_9 (by decide) ?_
  refine zj_ldc (v := -1000000001) dX7_isOf_32 zq_226 ?_
  refine zj_iret dX7_isOf_34 rfl (Nat.le_refl _) (Nat.le_refl _) ?_
  exact ⟨rfl, rfl⟩
theorem x_isOfB (r : RX h C P S T H O g) {c : Nat} (hc : c < 4) {i k : Int32} (hk : i < 0 ∨ nI (C c).length ≤ i ∨ k < 0 ∨ 3 < k) : zD mX7_isOf (d + 2) [.ref 0, .int (nI c), .int i, .int k] h (some (.int (-1000000001))) h := by
  obtain ⟨r0, rc, -⟩ := id r
  obtain ⟨q0, -⟩ := id r0
  obtain ⟨c0, -⟩ := rc c hc
  refine zD_of (by decide +kernel) (by exact Nat.le_of_ble_eq_true rfl) ?_
  show zB mX7_isOf _ _ _ 0 [some (.ref 0), some (.int (nI c)), some (.int i), some (.int k), none] [] _
  refine zj_aload_n dX7_isOf_0 (by rfl) ?_
  refine zj_iload_n dX7_isOf_1 (by rfl) ?_
  refine zc_7_62 rfl dX7_isOf_2 (by first | assumption | rfl) (x7_cycleAt r0 hc) (by exact Nat.le_of_ble_eq_true rfl) ?_
  refine zj_astore dX7_isOf_5 (by decide) ?_
  refine zj_aload dX7_isOf_7 (by rfl) ?_
  refine zj_ifnull dX7_isOf_9 ?_
  refine zj_iload_n dX7_isOf_12 (by rfl) ?_
  refine zj_if_lt (tgt := 32) dX7_isOf_13 (by decide) (fun q13 => ?_) (fun q13 => ?_)
  · refine zj_ldc (v := -1000000001) dX7_isOf_32 zq_226 ?_
    refine zj_iret dX7_isOf_34 rfl (Nat.le_refl _) (Nat.le_refl _) ?_
    exact ⟨rfl, rfl⟩
  · refine zj_iload_n dX7_isOf_16 (by rfl) ?_
    refine zj_aload dX7_isOf_17 (by rfl) ?_
    refine zg_7_75 rfl dX7_isOf_19 (by first | assumption | rfl) (by rfl) ?_
    refine zj_icmp_ge (tgt := 32) dX7_isOf_22 (by decide) (fun q22 => ?_) (fun q22 => ?_)
    · refine zj_ldc (v := -1000000001) dX7_isOf_32 zq_226 ?_
      refine zj_iret dX7_isOf_34 rfl (Nat.le_refl _) (Nat.le_refl _) ?_
      exact ⟨rfl, rfl⟩
    · refine zj_iload_n dX7_isOf_25 (by rfl) ?_
      refine zc_7_66 rfl dX7_isOf_26 (x0_isKind _) (by exact Nat.le_of_ble_eq_true rfl) ?_
      refine zj_if_ne (tgt := 35) dX7_isOf_29 (by decide) (fun q29 => ?_) (fun q29 => ?_)
      · exfalso
        rcases hk with hk | hk | hk | hk
        · exact q13 hk
        · exact q22 hk
        · rw [if_pos hk] at q29; exact q29 rfl
        · by_cases hk0 : k < 0; rw [if_pos hk0] at q29; exact q29 rfl; rw [if_neg hk0, if_pos hk] at q29; exact q29 rfl
      · refine zj_ldc (v := -1000000001) dX7_isOf_32 zq_226 ?_
        refine zj_iret dX7_isOf_34 rfl (Nat.le_refl _) (Nat.le_refl _) ?_
        exact ⟨rfl, rfl⟩
theorem x_isOf (w : WF C P S T H O g) (r : RX h C P S T H O g) {c i k : Nat} (hc : c < 4) (hi : i < (C c).length) (hk : k ≤ 3) : zD mX7_isOf (d + 2) [.ref 0, .int (nI c), .int (nI i), .int (nI k)] h (some (.int (s_isUnder (nI (s_kd C c i)) (nI k)))) h := by
  obtain ⟨r0, rc, -⟩ := id r
  obtain ⟨q0, -⟩ := id r0
  obtain ⟨c0, f, g2, c1, c2, c3⟩ := rc c hc
  have hlen := (w.1 c hc).1
  have hL := x0_limbIs (d := d) i (nI k) c0 c1 hlen hi
  rw [(c3 i hi).1] at hL
  refine zD_of (by decide +kernel) (by exact Nat.le_of_ble_eq_true rfl) ?_
  show zB mX7_isOf _ _ _ 0 [some (.ref 0), some (.int (nI c)), some (.int (nI i)), some (.int (nI k)), none] [] _
  refine zj_aload_n dX7_isOf_0 (by rfl) ?_
  refine zj_iload_n dX7_isOf_1 (by rfl) ?_
  refine zc_7_62 rfl dX7_isOf_2 (by first | assumption | rfl) (x7_cycleAt r0 hc) (by exact Nat.le_of_ble_eq_true rfl) ?_
  refine zj_astore dX7_isOf_5 (by decide) ?_
  refine zj_aload dX7_isOf_7 (by rfl) ?_
  refine zj_ifnull dX7_isOf_9 ?_
  refine zj_iload_n dX7_isOf_12 (by rfl) ?_
  refine zj_if_lt (tgt := 32) dX7_isOf_13 (by decide) (fun zq => absurd zq (nI_pos (by omega))) (fun _ => ?_)
  refine zj_iload_n dX7_isOf_16 (by rfl) ?_
  refine zj_aload dX7_isOf_17 (by rfl) ?_
  refine zg_7_75 rfl dX7_isOf_19 (by first | assumption | rfl) (by rfl) ?_
  refine zj_icmp_ge (tgt := 32) dX7_isOf_22 (by decide) (fun zq => absurd zq (nI_ge hi (by omega))) (fun _ => ?_)
  refine zj_iload_n dX7_isOf_25 (by rfl) ?_
  refine zc_7_66 rfl dX7_isOf_26 (x0_isKind _) (by exact Nat.le_of_ble_eq_true rfl) ?_
  rw [s_kok hk]
  refine zj_if_ne (tgt := 35) dX7_isOf_29 (by decide) (fun _ => ?_) (fun zq => absurd zq (by decide))
  refine zj_aload dX7_isOf_35 (by rfl) ?_
  refine zj_iload_n dX7_isOf_37 (by rfl) ?_
  refine zj_iload_n dX7_isOf_38 (by rfl) ?_
  refine zc_7_78 rfl dX7_isOf_39 (by first | assumption | rfl) hL (by exact Nat.le_of_ble_eq_true rfl) ?_
  refine zj_if_eq (tgt := 49) dX7_isOf_42 (by decide) (fun q42 => ?_) (fun q42 => ?_)
  · refine zj_iconst (v := 0) dX7_isOf_49 (by decide) ?_
    refine zj_iret dX7_isOf_50 rfl (Nat.le_refl _) (Nat.le_refl _) ?_
    exact ⟨by first | (rw [q42]; done) | (rw [z01 (s_isUnder_01 _ _) q42]; done), rfl⟩
  · refine zj_iconst (v := 1) dX7_isOf_45 (by decide) ?_
    refine zj_goto (tgt := 50) dX7_isOf_46 (by decide) ?_
    refine zj_iret dX7_isOf_50 rfl (Nat.le_refl _) (Nat.le_refl _) ?_
    exact ⟨by first | (rw [q42]; done) | (rw [z01 (s_isUnder_01 _ _) q42]; done), rfl⟩
theorem x_clearA (r : RX h C P S T H O g) {c : Int32} (hc : c < 0 ∨ 4 ≤ c) : zD mX7_clear (d + 1) [.ref 0, .int c] h (some (.int (-1000000001))) h := by
  obtain ⟨r0, -⟩ := id r
  obtain ⟨q0, -⟩ := id r0
  refine zD_of (by decide +kernel) (by exact Nat.le_of_ble_eq_true rfl) ?_
  show zB mX7_clear _ _ _ 0 [some (.ref 0), some (.int c), none, none] [] _
  refine zj_aload_n dX7_clear_0 (by rfl) ?_
  refine zj_iload_n dX7_clear_1 (by rfl) ?_
  refine zc_7_62 rfl dX7_clear_2 (by first | assumption | rfl) (x7_cycleAtN r0 hc) (by exact Nat.le_of_ble_eq_true rfl) ?_
  refine zj_astore_nN dX7_clear_5 (by decide) ?_
  refine zj_aload_nN dX7_clear_6 (by rfl) ?_
  refine zj_ifnonnullN dX7_clear_7 ?_
  refine zj_ldc (v := -1000000001) dX7_clear_10 zq_226 ?_
  refine zj_iret dX7_clear_12 rfl (Nat.le_refl _) (Nat.le_refl _) ?_
  exact ⟨rfl, rfl⟩
theorem x_clear (r : RX h C P S T H O g) {c : Nat} (hc : c < 4) : ∃ h', zD mX7_clear (d + 1) [.ref 0, .int (nI c)] h (some (.int (nI (C c).length))) h' ∧ RX h' (s_up C c []) P S T H O g ∧ zEq 47 63 h h' := by
  obtain ⟨r0, rc, -⟩ := id r
  obtain ⟨q0, -⟩ := id r0
  obtain ⟨c0, f, g2, c1, c2, c3⟩ := rc c hc
  have e : ∀ lo hi', (19 + 3 * c < lo ∨ hi' < 19 + 3 * c) → zEq lo hi' h (h.set (19 + 3 * c) (.inr (0, [.ref (20 + 3 * c), .ref (21 + 3 * c), .int 0]))) := fun lo hi' hh => zEq_set zEq_rf (by omega)
  refine ⟨h.set (19 + 3 * c) (.inr (0, [.ref (20 + 3 * c), .ref (21 + 3 * c), .int 0])), ?_, RX_C r (e _ _ (by omega)) (e _ _ (by omega)) ?_, e _ _ (by omega)⟩
  · refine zD_of (by decide +kernel) (by exact Nat.le_of_ble_eq_true rfl) ?_
    show zB mX7_clear _ _ _ 0 [some (.ref 0), some (.int (nI c)), none, none] [] _
    refine zj_aload_n dX7_clear_0 (by rfl) ?_
    refine zj_iload_n dX7_clear_1 (by rfl) ?_
    refine zc_7_62 rfl dX7_clear_2 (by first | assumption | rfl) (x7_cycleAt r0 hc) (by exact Nat.le_of_ble_eq_true rfl) ?_
    refine zj_astore_n dX7_clear_5 (by decide) ?_
    refine zj_aload_n dX7_clear_6 (by rfl) ?_
    refine zj_ifnonnull (tgt := 13) dX7_clear_7 (by decide) ?_
    refine zj_aload_n dX7_clear_13 (by rfl) ?_
    refine zg_7_75 rfl dX7_clear_14 (by first | assumption | rfl) (by rfl) ?_
    refine zj_istore_n dX7_clear_17 (by decide) ?_
    refine zj_aload_n dX7_clear_18 (by rfl) ?_
    refine zj_iconst (v := 0) dX7_clear_19 (by decide) ?_
    refine zp_7_75 rfl dX7_clear_20 (by first | assumption | rfl) (by exact Nat.le_of_ble_eq_true rfl) ?_
    refine zj_iload_n dX7_clear_23 (by rfl) ?_
    refine zj_iret dX7_clear_24 rfl (Nat.le_refl _) (Nat.le_refl _) ?_
    exact ⟨rfl, rfl⟩
  · intro i2 hi2
    by_cases e : i2 = c
    · subst e
      rw [s_up_eq]
      refine ⟨zset_eq c0, f, g2, zset_ne (by omega) c1, zset_ne (by omega) c2, fun j hj => absurd hj (Nat.not_lt_zero _)⟩
    · obtain ⟨q0, f2, g2, q1, q2, q3⟩ := rc i2 hi2
      unfold s_kd s_hv
      rw [s_up_ne e]
      exact ⟨zset_ne (by omega) q0, f2, g2, zset_ne (by omega) q1, zset_ne (by omega) q2, q3⟩
theorem x_lengthA (r : RX h C P S T H O g) {c : Int32} (hc : c < 0 ∨ 4 ≤ c) : zD mX7_length (d + 1) [.ref 0, .int c] h (some (.int (-1000000001))) h := by
  obtain ⟨r0, -⟩ := id r
  obtain ⟨q0, -⟩ := id r0
  refine zD_of (by decide +kernel) (by exact Nat.le_of_ble_eq_true rfl) ?_
  show zB mX7_length _ _ _ 0 [some (.ref 0), some (.int c), none] [] _
  refine zj_aload_n dX7_length_0 (by rfl) ?_
  refine zj_iload_n dX7_length_1 (by rfl) ?_
  refine zc_7_62 rfl dX7_length_2 (by first | assumption | rfl) (x7_cycleAtN r0 hc) (by exact Nat.le_of_ble_eq_true rfl) ?_
  refine zj_astore_nN dX7_length_5 (by decide) ?_
  refine zj_aload_nN dX7_length_6 (by rfl) ?_
  refine zj_ifnonnullN dX7_length_7 ?_
  refine zj_ldc (v := -1000000001) dX7_length_10 zq_226 ?_
  refine zj_goto (tgt := 19) dX7_length_12 (by decide) ?_
  refine zj_iret dX7_length_19 rfl (Nat.le_refl _) (Nat.le_refl _) ?_
  exact ⟨rfl, rfl⟩
theorem x_length (w : WF C P S T H O g) (r : RX h C P S T H O g) {c : Nat} (hc : c < 4) : zD mX7_length (d + 1) [.ref 0, .int (nI c)] h (some (.int (nI (s_cl C c)))) h := by
  obtain ⟨r0, rc, -⟩ := id r
  obtain ⟨q0, -⟩ := id r0
  obtain ⟨c0, f, g2, c1, c2, c3⟩ := rc c hc
  have hL := x0_allTicks (d := d) (hv := s_hv C c) c0 c2 (w.1 c hc).1 (fun j hj => (c3 j hj).2)
  refine zD_of (by decide +kernel) (by exact Nat.le_of_ble_eq_true rfl) ?_
  show zB mX7_length _ _ _ 0 [some (.ref 0), some (.int (nI c)), none] [] _
  refine zj_aload_n dX7_length_0 (by rfl) ?_
  refine zj_iload_n dX7_length_1 (by rfl) ?_
  refine zc_7_62 rfl dX7_length_2 (by first | assumption | rfl) (x7_cycleAt r0 hc) (by exact Nat.le_of_ble_eq_true rfl) ?_
  refine zj_astore_n dX7_length_5 (by decide) ?_
  refine zj_aload_n dX7_length_6 (by rfl) ?_
  refine zj_ifnonnull (tgt := 15) dX7_length_7 (by decide) ?_
  refine zj_aload_n dX7_length_15 (by rfl) ?_
  refine zc_7_82 rfl dX7_length_16 (by first | assumption | rfl) hL (by exact Nat.le_of_ble_eq_true rfl) ?_
  refine zj_iret dX7_length_19 rfl (Nat.le_refl _) (Nat.le_refl _) ?_
  exact ⟨rfl, rfl⟩
theorem x_handlingA (r : RX h C P S T H O g) {c t : Int32} (hc : c < 0 ∨ 4 ≤ c) : zD mX7_handling (d + 3) [.ref 0, .int c, .int t] h (some (.int (-1000000001))) h := by
  obtain ⟨r0, -⟩ := id r
  obtain ⟨q0, -⟩ := id r0
  refine zD_of (by decide +kernel) (by exact Nat.le_of_ble_eq_true rfl) ?_
  show zB mX7_handling _ _ _ 0 [some (.ref 0), some (.int c), some (.int t), none] [] _
  refine zj_aload_n dX7_handling_0 (by rfl) ?_
  refine zj_iload_n dX7_handling_1 (by rfl) ?_
  refine zc_7_62 rfl dX7_handling_2 (by first | assumption | rfl) (x7_cycleAtN r0 hc) (by exact Nat.le_of_ble_eq_true rfl) ?_
  refine zj_astore_nN dX7_handling_5 (by decide) ?_
  refine zj_aload_nN dX7_handling_6 (by rfl) ?_
  refine zj_ifnullN (tgt := 14) dX7_handling_7 (by decide) ?_
  refine zj_ldc (v := -1000000001) dX7_handling_14 zq_226 ?_
  refine zj_iret dX7_handling_16 rfl (Nat.le_refl _) (Nat.le_refl _) ?_
  exact ⟨rfl, rfl⟩
theorem x_handlingB (r : RX h C P S T H O g) {c : Nat} {t : Int32} (hc : c < 4) (ht : t < 0) : zD mX7_handling (d + 3) [.ref 0, .int (nI c), .int t] h (some (.int (-1000000001))) h := by
  obtain ⟨r0, -⟩ := id r
  obtain ⟨q0, -⟩ := id r0
  refine zD_of (by decide +kernel) (by exact Nat.le_of_ble_eq_true rfl) ?_
  show zB mX7_handling _ _ _ 0 [some (.ref 0), some (.int (nI c)), some (.int t), none] [] _
  refine zj_aload_n dX7_handling_0 (by rfl) ?_
  refine zj_iload_n dX7_handling_1 (by rfl) ?_
  refine zc_7_62 rfl dX7_handling_2 (by first | assumption | rfl) (x7_cycleAt r0 hc) (by exact Nat.le_of_ble_eq_true rfl) ?_
  refine zj_astore_n dX7_handling_5 (by decide) ?_
  refine zj_aload_n dX7_handling_6 (by rfl) ?_
  refine zj_ifnull dX7_handling_7 ?_
  refine zj_iload_n dX7_handling_10 (by rfl) ?_
  refine zj_if_ge (tgt := 17) dX7_handling_11 (by decide) (fun zq => absurd zq (Int32.not_le.mpr ht)) (fun _ => ?_)
  refine zj_ldc (v := -1000000001) dX7_handling_14 zq_226 ?_
  refine zj_iret dX7_handling_16 rfl (Nat.le_refl _) (Nat.le_refl _) ?_
  exact ⟨rfl, rfl⟩
theorem x_handling (w : WF C P S T H O g) (r : RX h C P S T H O g) {c t : Nat} (hc : c < 4) (ht : t < 2 ^ 31) : zD mX7_handling (d + 3) [.ref 0, .int (nI c), .int (nI t)] h (some (.int (if (C c).length = 0 then -1000000002 else s_hl (s_kd C c) (s_hv C c) (C c).length 0 (t % s_cl C c)))) h := by
  obtain ⟨r0, rc, -⟩ := id r
  obtain ⟨q0, -⟩ := id r0
  obtain ⟨c0, f, g2, c1, c2, c3⟩ := rc c hc
  have hL := x0_handlingAt (d := d) (kd := s_kd C c) (hv := s_hv C c) (t := t) c0 c1 c2 (w.1 c hc).1 (fun j hj => (c3 j hj).1) (fun j hj => (c3 j hj).2) (fun j hj => (WC_hv w.1 hc hj).1) (fun j hj => (WC_hv w.1 hc hj).2) ht
  refine zD_of (by decide +kernel) (by exact Nat.le_of_ble_eq_true rfl) ?_
  show zB mX7_handling _ _ _ 0 [some (.ref 0), some (.int (nI c)), some (.int (nI t)), none] [] _
  refine zj_aload_n dX7_handling_0 (by rfl) ?_
  refine zj_iload_n dX7_handling_1 (by rfl) ?_
  refine zc_7_62 rfl dX7_handling_2 (by first | assumption | rfl) (x7_cycleAt r0 hc) (by exact Nat.le_of_ble_eq_true rfl) ?_
  refine zj_astore_n dX7_handling_5 (by decide) ?_
  refine zj_aload_n dX7_handling_6 (by rfl) ?_
  refine zj_ifnull dX7_handling_7 ?_
  refine zj_iload_n dX7_handling_10 (by rfl) ?_
  refine zj_if_ge (tgt := 17) dX7_handling_11 (by decide) (fun _ => ?_) (fun zq => absurd (nI_pos' ht) zq)
  refine zj_aload_n dX7_handling_17 (by rfl) ?_
  refine zj_iload_n dX7_handling_18 (by rfl) ?_
  refine zc_7_86 rfl dX7_handling_19 (by first | assumption | rfl) hL (by exact Nat.le_of_ble_eq_true rfl) ?_
  refine zj_iret dX7_handling_22 rfl (Nat.le_refl _) (Nat.le_refl _) ?_
  exact ⟨rfl, rfl⟩
end O1
