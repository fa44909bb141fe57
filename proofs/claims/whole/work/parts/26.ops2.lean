section O2
variable {h h' : zH} {C : Nat → List (Nat × Nat)} {P P' : Nat → List Nat} {S : Nat → Option (List Int32)} {T T' : List Nat} {H : Nat → Nat} {O : List (Nat × Nat)} {g d : Nat}
/-- the four bytes of a number -/
def s_bs (x : Int32) : List Nat := [s_b4 x 0, s_b4 x 1, s_b4 x 2, s_b4 x 3]
theorem s_bs_len (x : Int32) : (s_bs x).length = 4 := rfl
theorem s_bs_lt {x : Int32} {v : Nat} (hv : v ∈ s_bs x) : v < 256 := by
  unfold s_bs at hv
  simp only [List.mem_cons, List.not_mem_nil, or_false] at hv
  rcases hv with rfl | rfl | rfl | rfl <;> exact Nat.mod_lt _ (by decide)
theorem RX_T (r : RX h C P S T H O g) (e1 : zEq 0 3 h h') (e2 : zEq 9 63 h h') (rt : RT h' T') : RX h' C P S T' H O g := by
  obtain ⟨r0, r1, r2, r3, r4, r5, r6, r7⟩ := r
  exact ⟨R0_f e1 r0, RC_f (fun j a b => e2 j (by omega) (by omega)) r1, RP_f (fun j a b => e2 j (by omega) (by omega)) r2, RS_f (fun j a b => e2 j (by omega) (by omega)) r3, rt, RU_f (fun j a b => e2 j (by omega) (by omega)) r5, RH_f (fun j a b => e2 j (by omega) (by omega)) r6, RO_f (fun j a b => e2 j (by omega) (by omega)) r7⟩
theorem RT_write (r : RT h T) (hn : T.length + 4 ≤ 60) (x : Int32) : ∃ h', zD mX5_write d [.ref 4, .int x] h none h' ∧ RT h' (T ++ s_bs x) ∧ zEq 0 3 h h' ∧ zEq 9 63 h h' := by
  obtain ⟨r0, ⟨f, r1, q⟩, F, A, B, r2, r3, r4⟩ := r
  obtain ⟨f', hf1, hf2, hD⟩ := x5_write (d := d) (x := x) (by decide) r0 r1 hn
  refine ⟨_, hD, ⟨?_, ⟨f', ?_, ?_⟩, F, A, B, ?_, ?_, ?_⟩, zEq_set (zEq_set zEq_rf (by omega)) (by omega), zEq_set (zEq_set zEq_rf (by omega)) (by omega)⟩
  · rw [zset_eq (zset_ne (by decide) r0)]
    simp [s_bs_len]
  · exact zset_ne (by decide) (zset_eq r1)
  · intro j hj
    rw [List.length_append, s_bs_len] at hj
    by_cases hj1 : j < T.length
    · rw [hf1 j hj1, q j hj1, z_gl hj1]
    · rw [z_gr (by omega)]
      have := hf2 (j - T.length) (by omega)
      rw [show T.length + (j - T.length) = j by omega] at this
      rw [this]
      congr 1
      rcases (show j - T.length = 0 ∨ j - T.length = 1 ∨ j - T.length = 2 ∨ j - T.length = 3 by omega) with e | e | e | e <;> rw [e] <;> rfl
  · exact zset_ne (by decide) (zset_ne (by decide) r2)
  · exact zset_ne (by decide) (zset_ne (by decide) r3)
  · exact zset_ne (by decide) (zset_ne (by decide) r4)
theorem x_feedF (w : WF C P S T H O g) (r : RX h C P S T H O g) {a b c : Int32} (hn : ¬ T.length + 12 ≤ 60) : zD mX7_feed (d + 1) [.ref 0, .int a, .int b, .int c] h (some (.int (-1000000003))) h := by
  obtain ⟨r0, -, -, -, rt, -⟩ := id r
  obtain ⟨q0, -⟩ := id r0
  obtain ⟨t0, -⟩ := id rt
  have hJ := x5_hasRoomFor (d := d) t0 w.2.2.2.1.1
  rw [if_neg hn] at hJ
  refine zD_of (by decide +kernel) (by exact Nat.le_of_ble_eq_true rfl) ?_
  show zB mX7_feed _ _ _ 0 [some (.ref 0), some (.int a), some (.int b), some (.int c)] [] _
  refine zj_aload_n dX7_feed_0 (by rfl) ?_
  refine zg_7_30 rfl dX7_feed_1 (by first | assumption | rfl) (by rfl) ?_
  refine zj_bipush (v := 12) dX7_feed_4 (by decide) ?_
  refine zc_7_90 rfl dX7_feed_6 (by first | assumption | rfl) hJ (by exact Nat.le_of_ble_eq_true rfl) ?_
  refine zj_if_ne (tgt := 15) dX7_feed_9 (by decide) (fun zq => absurd (rfl) zq) (fun _ => ?_)
  refine zj_ldc (v := -1000000003) dX7_feed_12 zq_276 ?_
  refine zj_iret dX7_feed_14 rfl (Nat.le_refl _) (Nat.le_refl _) ?_
  exact ⟨rfl, rfl⟩
theorem x_feed (w : WF C P S T H O g) (r : RX h C P S T H O g) {a b c : Int32} (hn : T.length + 12 ≤ 60) : ∃ h', zD mX7_feed (d + 1) [.ref 0, .int a, .int b, .int c] h (some (.int (nI (T.length + 12)))) h' ∧ RX h' C P S (T ++ s_bs a ++ s_bs b ++ s_bs c) H O g ∧ zEq 47 63 h h' := by
  obtain ⟨r0, -, -, -, rt, -⟩ := id r
  obtain ⟨q0, -⟩ := id r0
  obtain ⟨t0, -⟩ := id rt
  have hJ := x5_hasRoomFor (d := d) t0 w.2.2.2.1.1
  rw [if_pos hn] at hJ
  obtain ⟨h1, hD1, rt1, e1, f1⟩ := RT_write (d := d) rt (by omega) a
  have l1 : (T ++ s_bs a).length = T.length + 4 := by simp [s_bs_len]
  obtain ⟨h2, hD2, rt2, e2, f2⟩ := RT_write (d := d) rt1 (by omega) b
  have l2 : (T ++ s_bs a ++ s_bs b).length = T.length + 8 := by simp [s_bs_len]
  obtain ⟨h3, hD3, rt3, e3, f3⟩ := RT_write (d := d) rt2 (by omega) c
  have l3 : (T ++ s_bs a ++ s_bs b ++ s_bs c).length = T.length + 12 := by simp [s_bs_len]
  have p1 : h1[0]? = _ := (e1 0 (by omega) (by omega)).trans q0
  have p2 : h2[0]? = _ := (e2 0 (by omega) (by omega)).trans p1
  have p3 : h3[0]? = _ := (e3 0 (by omega) (by omega)).trans p2
  obtain ⟨t1, -⟩ := id rt1
  obtain ⟨t2, -⟩ := id rt2
  obtain ⟨t3, -⟩ := id rt3
  rw [l3] at t3
  have ee := zEq_tr (zEq_tr e1 e2) e3
  have ff := zEq_tr (zEq_tr f1 f2) f3
  refine ⟨h3, ?_, RX_T r ee ff rt3, fun j a b => ff j (by omega) (by omega)⟩
  refine zD_of (by decide +kernel) (by exact Nat.le_of_ble_eq_true rfl) ?_
  show zB mX7_feed _ _ _ 0 [some (.ref 0), some (.int a), some (.int b), some (.int c)] [] _
  refine zj_aload_n dX7_feed_0 (by rfl) ?_
  refine zg_7_30 rfl dX7_feed_1 (by first | assumption | rfl) (by rfl) ?_
  refine zj_bipush (v := 12) dX7_feed_4 (by decide) ?_
  refine zc_7_90 rfl dX7_feed_6 (by first | assumption | rfl) hJ (by exact Nat.le_of_ble_eq_true rfl) ?_
  refine zj_if_ne (tgt := 15) dX7_feed_9 (by decide) (fun _ => ?_) (fun zq => absurd zq (by decide))
  refine zj_aload_n dX7_feed_15 (by rfl) ?_
  refine zg_7_30 rfl dX7_feed_16 (by first | assumption | rfl) (by rfl) ?_
  refine zj_iload_n dX7_feed_19 (by rfl) ?_
  refine zc_7_94 rfl dX7_feed_20 (by first | assumption | rfl) hD1 (by exact Nat.le_of_ble_eq_true rfl) ?_
  refine zj_aload_n dX7_feed_23 (by rfl) ?_
  refine zg_7_30 rfl dX7_feed_24 (by first | assumption | rfl) (by rfl) ?_
  refine zj_iload_n dX7_feed_27 (by rfl) ?_
  refine zc_7_94 rfl dX7_feed_28 (by first | assumption | rfl) hD2 (by exact Nat.le_of_ble_eq_true rfl) ?_
  refine zj_aload_n dX7_feed_31 (by rfl) ?_
  refine zg_7_30 rfl dX7_feed_32 (by first | assumption | rfl) (by rfl) ?_
  refine zj_iload_n dX7_feed_35 (by rfl) ?_
  refine zc_7_94 rfl dX7_feed_36 (by first | assumption | rfl) hD3 (by exact Nat.le_of_ble_eq_true rfl) ?_
  refine zj_aload_n dX7_feed_39 (by rfl) ?_
  refine zg_7_30 rfl dX7_feed_40 (by first | assumption | rfl) (by rfl) ?_
  refine zg_7_98 rfl dX7_feed_43 (by first | assumption | rfl) (by rfl) ?_
  refine zj_iret dX7_feed_46 rfl (Nat.le_refl _) (Nat.le_refl _) ?_
  exact ⟨rfl, rfl⟩
theorem x_trimA (r : RX h C P S T H O g) {n : Int32} (hn : n < 0 ∨ ¬ n ≤ nI T.length) : zD mX7_trim d [.ref 0, .int n] h (some (.int (-1000000001))) h := by
  obtain ⟨r0, -, -, -, rt, -⟩ := id r
  obtain ⟨q0, -⟩ := id r0
  obtain ⟨t0, -⟩ := id rt
  refine zD_of (by decide +kernel) (by exact Nat.le_of_ble_eq_true rfl) ?_
  show zB mX7_trim _ _ _ 0 [some (.ref 0), some (.int n)] [] _
  refine zj_iload_n dX7_trim_0 (by rfl) ?_
  refine zj_if_lt (tgt := 15) dX7_trim_1 (by decide) (fun q1 => ?_) (fun q1 => ?_)
  · refine zj_ldc (v := -1000000001) dX7_trim_15 zq_226 ?_
    refine zj_iret dX7_trim_17 rfl (Nat.le_refl _) (Nat.le_refl _) ?_
    exact ⟨rfl, rfl⟩
  · refine zj_iload_n dX7_trim_4 (by rfl) ?_
    refine zj_aload_n dX7_trim_5 (by rfl) ?_
    refine zg_7_30 rfl dX7_trim_6 (by first | assumption | rfl) (by rfl) ?_
    refine zg_7_98 rfl dX7_trim_9 (by first | assumption | rfl) (by rfl) ?_
    refine zj_icmp_le (tgt := 18) dX7_trim_12 (by decide) (fun q12 => ?_) (fun q12 => ?_)
    · exact absurd hn (fun hh => hh.elim q1 (fun h4 => h4 q12))
    · refine zj_ldc (v := -1000000001) dX7_trim_15 zq_226 ?_
      refine zj_iret dX7_trim_17 rfl (Nat.le_refl _) (Nat.le_refl _) ?_
      exact ⟨rfl, rfl⟩
theorem x_trim (w : WF C P S T H O g) (r : RX h C P S T H O g) {n : Nat} (hn : n ≤ T.length) : ∃ h', zD mX7_trim d [.ref 0, .int (nI n)] h (some (.int (nI n))) h' ∧ RX h' C P S (T.take n) H O g ∧ zEq 47 63 h h' := by
  obtain ⟨r0, -, -, -, rt, -⟩ := id r
  obtain ⟨q0, -⟩ := id r0
  obtain ⟨t0, ⟨f, t1, tq⟩, F, A, B, t2, t3, t4⟩ := id rt
  have h60 := w.2.2.2.1.1
  have e : ∀ lo hi', (4 < lo ∨ hi' < 4) → zEq lo hi' h (h.set 4 (.inr (5, [.ref 5, .int (nI n), .ref 6, .ref 7, .ref 8]))) := fun lo hi' hh => zEq_set zEq_rf (by omega)
  refine ⟨h.set 4 (.inr (5, [.ref 5, .int (nI n), .ref 6, .ref 7, .ref 8])), ?_, RX_T r (e _ _ (by omega)) (e _ _ (by omega)) ⟨?_, ⟨f, zset_ne (by decide) t1, fun j hj => ?_⟩, F, A, B, zset_ne (by decide) t2, zset_ne (by decide) t3, zset_ne (by decide) t4⟩, e _ _ (by omega)⟩
  · refine zD_of (by decide +kernel) (by exact Nat.le_of_ble_eq_true rfl) ?_
    show zB mX7_trim _ _ _ 0 [some (.ref 0), some (.int (nI n))] [] _
    refine zj_iload_n dX7_trim_0 (by rfl) ?_
    refine zj_if_lt (tgt := 15) dX7_trim_1 (by decide) (fun zq => absurd zq (nI_pos (by omega))) (fun _ => ?_)
    refine zj_iload_n dX7_trim_4 (by rfl) ?_
    refine zj_aload_n dX7_trim_5 (by rfl) ?_
    refine zg_7_30 rfl dX7_trim_6 (by first | assumption | rfl) (by rfl) ?_
    refine zg_7_98 rfl dX7_trim_9 (by first | assumption | rfl) (by rfl) ?_
    refine zj_icmp_le (tgt := 18) dX7_trim_12 (by decide) (fun _ => ?_) (fun zq => absurd (nI_le hn (by omega)) zq)
    refine zj_aload_n dX7_trim_18 (by rfl) ?_
    refine zg_7_30 rfl dX7_trim_19 (by first | assumption | rfl) (by rfl) ?_
    refine zj_iload_n dX7_trim_22 (by rfl) ?_
    refine zp_7_98 rfl dX7_trim_23 (by first | assumption | rfl) (by exact Nat.le_of_ble_eq_true rfl) ?_
    refine zj_iload_n dX7_trim_26 (by rfl) ?_
    refine zj_iret dX7_trim_27 rfl (Nat.le_refl _) (Nat.le_refl _) ?_
    exact ⟨rfl, rfl⟩
  · rw [zset_eq t0, List.length_take, Nat.min_eq_left hn]
  · rw [List.length_take] at hj
    rw [tq j (by omega)]
    congr 1
    simp [List.getD, List.getElem?_take, show j < n by omega]
theorem x_syllableA (r : RX h C P S T H O g) {p i : Int32} (hp : p < 0 ∨ 6 ≤ p) : zD mX7_syllable (d + 1) [.ref 0, .int p, .int i] h (some (.int (-1000000001))) h := by
  obtain ⟨r0, -⟩ := id r
  obtain ⟨q0, -⟩ := id r0
  refine zD_of (by decide +kernel) (by exact Nat.le_of_ble_eq_true rfl) ?_
  show zB mX7_syllable _ _ _ 0 [some (.ref 0), some (.int p), some (.int i), none] [] _
  refine zj_aload_n dX7_syllable_0 (by rfl) ?_
  refine zj_iload_n dX7_syllable_1 (by rfl) ?_
  refine zc_7_99 rfl dX7_syllable_2 (by first | assumption | rfl) (x7_phraseAtN r0 hp) (by exact Nat.le_of_ble_eq_true rfl) ?_
  refine zj_astore_nN dX7_syllable_5 (by decide) ?_
  refine zj_aload_nN dX7_syllable_6 (by rfl) ?_
  refine zj_ifnullN (tgt := 14) dX7_syllable_7 (by decide) ?_
  refine zj_ldc (v := -1000000001) dX7_syllable_14 zq_226 ?_
  refine zj_iret dX7_syllable_16 rfl (Nat.le_refl _) (Nat.le_refl _) ?_
  exact ⟨rfl, rfl⟩
theorem x_syllableB (r : RX h C P S T H O g) {p : Nat} {i : Int32} (hp : p < 6) (hi : i < 0) : zD mX7_syllable (d + 1) [.ref 0, .int (nI p), .int i] h (some (.int (-1000000001))) h := by
  obtain ⟨r0, -⟩ := id r
  obtain ⟨q0, -⟩ := id r0
  refine zD_of (by decide +kernel) (by exact Nat.le_of_ble_eq_true rfl) ?_
  show zB mX7_syllable _ _ _ 0 [some (.ref 0), some (.int (nI p)), some (.int i), none] [] _
  refine zj_aload_n dX7_syllable_0 (by rfl) ?_
  refine zj_iload_n dX7_syllable_1 (by rfl) ?_
  refine zc_7_99 rfl dX7_syllable_2 (by first | assumption | rfl) (x7_phraseAt r0 hp) (by exact Nat.le_of_ble_eq_true rfl) ?_
  refine zj_astore_n dX7_syllable_5 (by decide) ?_
  refine zj_aload_n dX7_syllable_6 (by rfl) ?_
  refine zj_ifnull dX7_syllable_7 ?_
  refine zj_iload_n dX7_syllable_10 (by rfl) ?_
  refine zj_if_ge (tgt := 17) dX7_syllable_11 (by decide) (fun zq => absurd zq (Int32.not_le.mpr hi)) (fun _ => ?_)
  refine zj_ldc (v := -1000000001) dX7_syllable_14 zq_226 ?_
  refine zj_iret dX7_syllable_16 rfl (Nat.le_refl _) (Nat.le_refl _) ?_
  exact ⟨rfl, rfl⟩
theorem x_syllable (w : WF C P S T H O g) (r : RX h C P S T H O g) {p i : Nat} (hp : p < 6) (hi : i < 2 ^ 31) : zD mX7_syllable (d + 1) [.ref 0, .int (nI p), .int (nI i)] h (some (.int (if i < (P p).length then nI ((P p).getD i 0) else -1000000005))) h := by
  obtain ⟨r0, -, rp, -⟩ := id r
  obtain ⟨q0, -⟩ := id r0
  obtain ⟨p0, f, p1, pq⟩ := rp p hp
  have hJ := x2_at (d := d) p0 p1 (w.2.1 p hp).1 hi
  have he : (if i < (P p).length then f i else -1000000005) = if i < (P p).length then nI ((P p).getD i 0) else -1000000005 := by
    by_cases hh : i < (P p).length
    · rw [if_pos hh, if_pos hh, pq i hh]
    · rw [if_neg hh, if_neg hh]
  rw [he] at hJ
  refine zD_of (by decide +kernel) (by exact Nat.le_of_ble_eq_true rfl) ?_
  show zB mX7_syllable _ _ _ 0 [some (.ref 0), some (.int (nI p)), some (.int (nI i)), none] [] _
  refine zj_aload_n dX7_syllable_0 (by rfl) ?_
  refine zj_iload_n dX7_syllable_1 (by rfl) ?_
  refine zc_7_99 rfl dX7_syllable_2 (by first | assumption | rfl) (x7_phraseAt r0 hp) (by exact Nat.le_of_ble_eq_true rfl) ?_
  refine zj_astore_n dX7_syllable_5 (by decide) ?_
  refine zj_aload_n dX7_syllable_6 (by rfl) ?_
  refine zj_ifnull dX7_syllable_7 ?_
  refine zj_iload_n dX7_syllable_10 (by rfl) ?_
  refine zj_if_ge (tgt := 17) dX7_syllable_11 (by decide) (fun _ => ?_) (fun zq => absurd (nI_pos' hi) zq)
  refine zj_aload_n dX7_syllable_17 (by rfl) ?_
  refine zj_iload_n dX7_syllable_18 (by rfl) ?_
  refine zc_7_107 rfl dX7_syllable_19 (by first | assumption | rfl) hJ (by exact Nat.le_of_ble_eq_true rfl) ?_
  refine zj_iret dX7_syllable_22 rfl (Nat.le_refl _) (Nat.le_refl _) ?_
  exact ⟨rfl, rfl⟩
theorem x_ticksA (r : RX h C P S T H O g) {p v : Int32} (hp : p < 0 ∨ 6 ≤ p) : zD mX7_ticks (d + 1) [.ref 0, .int p, .int v] h (some (.int (-1000000001))) h := by
  obtain ⟨r0, -⟩ := id r
  obtain ⟨q0, -⟩ := id r0
  refine zD_of (by decide +kernel) (by exact Nat.le_of_ble_eq_true rfl) ?_
  show zB mX7_ticks _ _ _ 0 [some (.ref 0), some (.int p), some (.int v), none, none] [] _
  refine zj_aload_n dX7_ticks_0 (by rfl) ?_
  refine zj_iload_n dX7_ticks_1 (by rfl) ?_
  refine zc_7_99 rfl dX7_ticks_2 (by first | assumption | rfl) (x7_phraseAtN r0 hp) (by exact Nat.le_of_ble_eq_true rfl) ?_
  refine zj_astore_nN dX7_ticks_5 (by decide) ?_
  refine zj_iload_n dX7_ticks_6 (by rfl) ?_
  refine zc_7_110 rfl dX7_ticks_7 (x7_ticksOfOne _) (by exact Nat.le_of_ble_eq_true rfl) ?_
  refine zj_istore dX7_ticks_10 (by decide) ?_
  refine zj_aload_nN dX7_ticks_12 (by rfl) ?_
  refine zj_ifnullN (tgt := 21) dX7_ticks_13 (by decide) ?_
  refine zj_ldc (v := -1000000001) dX7_ticks_21 zq_226 ?_
  refine zj_iret dX7_ticks_23 rfl (Nat.le_refl _) (Nat.le_refl _) ?_
  exact ⟨rfl, rfl⟩
theorem x_ticksB (r : RX h C P S T H O g) {p : Nat} {v : Int32} (hp : p < 6) (hv : s_tpo v = 0) : zD mX7_ticks (d + 1) [.ref 0, .int (nI p), .int v] h (some (.int (-1000000001))) h := by
  obtain ⟨r0, -⟩ := id r
  obtain ⟨q0, -⟩ := id r0
  refine zD_of (by decide +kernel) (by exact Nat.le_of_ble_eq_true rfl) ?_
  show zB mX7_ticks _ _ _ 0 [some (.ref 0), some (.int (nI p)), some (.int v), none, none] [] _
  refine zj_aload_n dX7_ticks_0 (by rfl) ?_
  refine zj_iload_n dX7_ticks_1 (by rfl) ?_
  refine zc_7_99 rfl dX7_ticks_2 (by first | assumption | rfl) (x7_phraseAt r0 hp) (by exact Nat.le_of_ble_eq_true rfl) ?_
  refine zj_astore_n dX7_ticks_5 (by decide) ?_
  refine zj_iload_n dX7_ticks_6 (by rfl) ?_
  refine zc_7_110 rfl dX7_ticks_7 (x7_ticksOfOne _) (by exact Nat.le_of_ble_eq_true rfl) ?_
  rw [hv]
  refine zj_istore dX7_ticks_10 (by decide) ?_
  refine zj_aload_n dX7_ticks_12 (by rfl) ?_
  refine zj_ifnull dX7_ticks_13 ?_
  refine zj_iload dX7_ticks_16 (by rfl) ?_
  refine zj_if_ne (tgt := 24) dX7_ticks_18 (by decide) (fun zq => absurd (rfl) zq) (fun _ => ?_)
  refine zj_ldc (v := -1000000001) dX7_ticks_21 zq_226 ?_
  refine zj_iret dX7_ticks_23 rfl (Nat.le_refl _) (Nat.le_refl _) ?_
  exact ⟨rfl, rfl⟩
theorem x_ticks (r : RX h C P S T H O g) {p : Nat} {v : Int32} (hp : p < 6) (hv : ¬ s_tpo v = 0) : zD mX7_ticks (d + 1) [.ref 0, .int (nI p), .int v] h (some (.int (nI ((P p).length * s_tpo v)))) h := by
  obtain ⟨r0, -, rp, -⟩ := id r
  obtain ⟨q0, -⟩ := id r0
  obtain ⟨p0, -⟩ := rp p hp
  have hle := s_tpo_le v
  refine zD_of (by decide +kernel) (by exact Nat.le_of_ble_eq_true rfl) ?_
  show zB mX7_ticks _ _ _ 0 [some (.ref 0), some (.int (nI p)), some (.int v), none, none] [] _
  refine zj_aload_n dX7_ticks_0 (by rfl) ?_
  refine zj_iload_n dX7_ticks_1 (by rfl) ?_
  refine zc_7_99 rfl dX7_ticks_2 (by first | assumption | rfl) (x7_phraseAt r0 hp) (by exact Nat.le_of_ble_eq_true rfl) ?_
  refine zj_astore_n dX7_ticks_5 (by decide) ?_
  refine zj_iload_n dX7_ticks_6 (by rfl) ?_
  refine zc_7_110 rfl dX7_ticks_7 (x7_ticksOfOne _) (by exact Nat.le_of_ble_eq_true rfl) ?_
  refine zj_istore dX7_ticks_10 (by decide) ?_
  refine zj_aload_n dX7_ticks_12 (by rfl) ?_
  refine zj_ifnull dX7_ticks_13 ?_
  refine zj_iload dX7_ticks_16 (by rfl) ?_
  refine zj_if_neN (tgt := 24) dX7_ticks_18 (by decide) (by omega) (fun _ => ?_) (fun zq => absurd zq (hv))
  refine zj_aload_n dX7_ticks_24 (by rfl) ?_
  refine zg_7_113 rfl dX7_ticks_25 (by first | assumption | rfl) (by rfl) ?_
  refine zj_iload dX7_ticks_28 (by rfl) ?_
  refine zj_imulN dX7_ticks_30 ?_
  refine zj_iret dX7_ticks_31 rfl (Nat.le_refl _) (Nat.le_refl _) ?_
  exact ⟨rfl, rfl⟩
/-- the tape's cells as the reader wants them -/
theorem RT_3 (r : RT h T) (w : WT T) : ∃ f F A B, s_T3 h 4 5 6 7 8 T.length f ∧ (∀ j, j < T.length → f j = s_by (T.getD j 0) ∧ T.getD j 0 < 256) ∧ s_h3 h 6 7 8 F A B = h := by
  obtain ⟨t0, ⟨f, t1, tq⟩, F, A, B, t2, t3, t4⟩ := r
  refine ⟨f, F, A, B, ⟨t0, t1, (List.getElem?_eq_some_iff.mp t2).1, (List.getElem?_eq_some_iff.mp t3).1, (List.getElem?_eq_some_iff.mp t4).1, by decide, by decide, by decide, by decide⟩, fun j hj => ⟨tq j hj, ?_⟩, s3_self t2 t3 t4 (by decide) (by decide) (by decide)⟩
  have : T.getD j 0 = T[j] := by simp [List.getD, hj]
  rw [this]
  exact w.2 _ (List.getElem_mem hj)
/-- the tape used up -/
theorem RT_0 {f F A B : Nat → Int32} {n : Int32} (t0 : h[4]? = some (.inr (5, [.ref 5, .int n, .ref 6, .ref 7, .ref 8]))) (t1 : h[5]? = some (.inl (0, 60, .inl f))) (t2 : h[6]? = some (.inl (0, 60, .inl F))) (t3 : h[7]? = some (.inl (1, 6, .inl A))) (t4 : h[8]? = some (.inl (1, 6, .inl B))) : RT (h.set 4 (.inr (5, [.ref 5, .int 0, .ref 6, .ref 7, .ref 8]))) [] :=
  ⟨zset_eq t0, ⟨f, zset_ne (by decide) t1, fun j hj => absurd hj (Nat.not_lt_zero _)⟩, F, A, B, zset_ne (by decide) t2, zset_ne (by decide) t3, zset_ne (by decide) t4⟩
theorem x_phraseA (r : RX h C P S T H O g) {p : Int32} (hp : p < 0 ∨ 6 ≤ p) : ∃ h', zD mX7_phrase (d + 4) [.ref 0, .int p] h (some (.int (-1000000001))) h' ∧ RX h' C P S [] H O g ∧ zEq 47 63 h h' := by
  obtain ⟨r0, -, -, -, rt, -⟩ := id r
  obtain ⟨q0, -⟩ := id r0
  obtain ⟨t0, ⟨f, t1, tq⟩, F, A, B, t2, t3, t4⟩ := id rt
  have e : ∀ lo hi', (4 < lo ∨ hi' < 4) → zEq lo hi' h (h.set 4 (.inr (5, [.ref 5, .int 0, .ref 6, .ref 7, .ref 8]))) := fun lo hi' hh => zEq_set zEq_rf (by omega)
  refine ⟨h.set 4 (.inr (5, [.ref 5, .int 0, .ref 6, .ref 7, .ref 8])), ?_, RX_T r (e _ _ (by omega)) (e _ _ (by omega)) (RT_0 t0 t1 t2 t3 t4), e _ _ (by omega)⟩
  refine zD_of (by decide +kernel) (by exact Nat.le_of_ble_eq_true rfl) ?_
  show zB mX7_phrase _ _ _ 0 [some (.ref 0), some (.int p), none, none] [] _
  refine zj_aload_n dX7_phrase_0 (by rfl) ?_
  refine zj_iload_n dX7_phrase_1 (by rfl) ?_
  refine zc_7_99 rfl dX7_phrase_2 (by first | assumption | rfl) (x7_phraseAtN r0 hp) (by exact Nat.le_of_ble_eq_true rfl) ?_
  refine zj_astore_nN dX7_phrase_5 (by decide) ?_
  refine zj_aload_nN dX7_phrase_6 (by rfl) ?_
  refine zj_ifnonnullN dX7_phrase_7 ?_
  refine zj_ldc (v := -1000000001) dX7_phrase_10 zq_226 ?_
  refine zj_goto (tgt := 23) dX7_phrase_12 (by decide) ?_
  refine zj_istore_n dX7_phrase_23 (by decide) ?_
  refine zj_aload_n dX7_phrase_24 (by rfl) ?_
  refine zg_7_30 rfl dX7_phrase_25 (by first | assumption | rfl) (by rfl) ?_
  refine zj_iconst (v := 0) dX7_phrase_28 (by decide) ?_
  refine zp_7_98 rfl dX7_phrase_29 (by first | assumption | rfl) (by exact Nat.le_of_ble_eq_true rfl) ?_
  refine zj_iload_n dX7_phrase_32 (by rfl) ?_
  refine zj_iret dX7_phrase_33 rfl (Nat.le_refl _) (Nat.le_refl _) ?_
  exact ⟨rfl, rfl⟩
theorem s_fp_le {tb : Nat → Nat} : ∀ m i op due r, s_fp tb m i op due = some r → r ≤ i + m
  | 0, i, op, due, r, h => by
    unfold s_fp at h
    split at h
    · cases h; omega
    · cases h
  | m + 1, i, op, due, r, h => by
    unfold s_fp at h
    split at h
    · split at h
      · have := s_fp_le m (i + 1) _ _ r h; omega
      · cases h; omega
    · split at h
      · split at h
        · cases h; omega
        · have := s_fp_le m (i + 1) _ _ r h; omega
      · split at h
        · have := s_fp_le m (i + 1) _ _ r h; omega
        · split at h
          · cases h; omega
          · have := s_fp_le m (i + 1) _ _ r h; omega
theorem x_phraseF (w : WF C P S T H O g) (r : RX h C P S T H O g) {p i : Nat} (hp : p < 6) (hf : s_fp (fun j => T.getD j 0) T.length 0 0 true = some i) : ∃ h', zD mX7_phrase (d + 4) [.ref 0, .int (nI p)] h (some (.int ((-100) - nI i))) h' ∧ RX h' C P S [] H O g ∧ zEq 47 63 h h' := by
  obtain ⟨r0, -, -, -, rt, -⟩ := id r
  obtain ⟨q0, -⟩ := id r0
  obtain ⟨t0, ⟨f0, t1, tq⟩, F0, A0, B0, t2, t3, t4⟩ := id rt
  obtain ⟨f, F, A, B, hT, hq, hs⟩ := RT_3 rt w.2.2.2.1
  have hle := s_fp_le _ _ _ _ _ hf
  have h60 := w.2.2.2.1.1
  have hJ := x5_readF (d := d) (p := 31 + 2 * p) hT.1 hT.2.1 h60 hq (by omega) hf
  have e : ∀ lo hi', (4 < lo ∨ hi' < 4) → zEq lo hi' h (h.set 4 (.inr (5, [.ref 5, .int 0, .ref 6, .ref 7, .ref 8]))) := fun lo hi' hh => zEq_set zEq_rf (by omega)
  refine ⟨h.set 4 (.inr (5, [.ref 5, .int 0, .ref 6, .ref 7, .ref 8])), ?_, RX_T r (e _ _ (by omega)) (e _ _ (by omega)) (RT_0 t0 t1 t2 t3 t4), e _ _ (by omega)⟩
  refine zD_of (by decide +kernel) (by exact Nat.le_of_ble_eq_true rfl) ?_
  show zB mX7_phrase _ _ _ 0 [some (.ref 0), some (.int (nI p)), none, none] [] _
  refine zj_aload_n dX7_phrase_0 (by rfl) ?_
  refine zj_iload_n dX7_phrase_1 (by rfl) ?_
  refine zc_7_99 rfl dX7_phrase_2 (by first | assumption | rfl) (x7_phraseAt r0 hp) (by exact Nat.le_of_ble_eq_true rfl) ?_
  refine zj_astore_n dX7_phrase_5 (by decide) ?_
  refine zj_aload_n dX7_phrase_6 (by rfl) ?_
  refine zj_ifnonnull (tgt := 15) dX7_phrase_7 (by decide) ?_
  refine zj_aload_n dX7_phrase_15 (by rfl) ?_
  refine zg_7_30 rfl dX7_phrase_16 (by first | assumption | rfl) (by rfl) ?_
  refine zj_aload_n dX7_phrase_19 (by rfl) ?_
  refine zc_7_103 rfl dX7_phrase_20 (by first | assumption | rfl) hJ (by exact Nat.le_of_ble_eq_true rfl) ?_
  refine zj_istore_n dX7_phrase_23 (by decide) ?_
  refine zj_aload_n dX7_phrase_24 (by rfl) ?_
  refine zg_7_30 rfl dX7_phrase_25 (by first | assumption | rfl) (by rfl) ?_
  refine zj_iconst (v := 0) dX7_phrase_28 (by decide) ?_
  refine zp_7_98 rfl dX7_phrase_29 (by first | assumption | rfl) (by exact Nat.le_of_ble_eq_true rfl) ?_
  refine zj_iload_n dX7_phrase_32 (by rfl) ?_
  refine zj_iret dX7_phrase_33 rfl (Nat.le_refl _) (Nat.le_refl _) ?_
  exact ⟨rfl, rfl⟩
theorem x_phraseN (w : WF C P S T H O g) (r : RX h C P S T H O g) {p : Nat} (hp : p < 6) (hf : s_fp (fun j => T.getD j 0) T.length 0 0 true = none) (hsp : s_sp (fun j => T.getD j 0) T.length 0 [] 1 [] = none) : ∃ h', zD mX7_phrase (d + 4) [.ref 0, .int (nI p)] h (some (.int (-1000000003))) h' ∧ RX h' C P S [] H O g ∧ zEq 47 63 h h' := by
  obtain ⟨r0, -, -, -, rt, -⟩ := id r
  obtain ⟨q0, -⟩ := id r0
  obtain ⟨f, F, A, B, hT, hq, hs⟩ := RT_3 rt w.2.2.2.1
  obtain ⟨F', A', B', hJ⟩ := x5_readN (d := d) (p := 31 + 2 * p) hT w.2.2.2.1.1 hq hf hs hsp
  have k0 := hT.1
  have k3 := s3_k hT F' A' B'
  have a3 := s3_a hT F' A' B'
  have c3 := s3_c hT F' A' B'
  have b3 := s3_b hT F' A' B'
  have o3 := s3_o hT F' A' B'
  have e : ∀ lo hi', (8 < lo ∨ hi' < 4) → zEq lo hi' h ((s_h3 h 6 7 8 F' A' B').set 4 (.inr (5, [.ref 5, .int 0, .ref 6, .ref 7, .ref 8]))) := fun lo hi' hh => zEq_set (zEq_set (zEq_set (zEq_set zEq_rf (by omega)) (by omega)) (by omega)) (by omega)
  have z3 : (s_h3 h 6 7 8 F' A' B')[0]? = _ := zset_ne (by decide) (zset_ne (by decide) (zset_ne (by decide) q0))
  refine ⟨(s_h3 h 6 7 8 F' A' B').set 4 (.inr (5, [.ref 5, .int 0, .ref 6, .ref 7, .ref 8])), ?_, RX_T r (e _ _ (by omega)) (e _ _ (by omega)) (RT_0 k3 a3 c3 b3 o3), e _ _ (by omega)⟩
  refine zD_of (by decide +kernel) (by exact Nat.le_of_ble_eq_true rfl) ?_
  show zB mX7_phrase _ _ _ 0 [some (.ref 0), some (.int (nI p)), none, none] [] _
  refine zj_aload_n dX7_phrase_0 (by rfl) ?_
  refine zj_iload_n dX7_phrase_1 (by rfl) ?_
  refine zc_7_99 rfl dX7_phrase_2 (by first | assumption | rfl) (x7_phraseAt r0 hp) (by exact Nat.le_of_ble_eq_true rfl) ?_
  refine zj_astore_n dX7_phrase_5 (by decide) ?_
  refine zj_aload_n dX7_phrase_6 (by rfl) ?_
  refine zj_ifnonnull (tgt := 15) dX7_phrase_7 (by decide) ?_
  refine zj_aload_n dX7_phrase_15 (by rfl) ?_
  refine zg_7_30 rfl dX7_phrase_16 (by first | assumption | rfl) (by rfl) ?_
  refine zj_aload_n dX7_phrase_19 (by rfl) ?_
  refine zc_7_103 rfl dX7_phrase_20 (by first | assumption | rfl) hJ (by exact Nat.le_of_ble_eq_true rfl) ?_
  refine zj_istore_n dX7_phrase_23 (by decide) ?_
  refine zj_aload_n dX7_phrase_24 (by rfl) ?_
  refine zg_7_30 rfl dX7_phrase_25 (by first | assumption | rfl) (by rfl) ?_
  refine zj_iconst (v := 0) dX7_phrase_28 (by decide) ?_
  refine zp_7_98 rfl dX7_phrase_29 (by first | assumption | rfl) (by exact Nat.le_of_ble_eq_true rfl) ?_
  refine zj_iload_n dX7_phrase_32 (by rfl) ?_
  refine zj_iret dX7_phrase_33 rfl (Nat.le_refl _) (Nat.le_refl _) ?_
  exact ⟨rfl, rfl⟩
theorem x_phrase (w : WF C P S T H O g) (r : RX h C P S T H O g) {p : Nat} {l : List Nat} (hp : p < 6) (hf : s_fp (fun j => T.getD j 0) T.length 0 0 true = none) (hsp : s_sp (fun j => T.getD j 0) T.length 0 [] 1 [] = some l) : ∃ h', zD mX7_phrase (d + 4) [.ref 0, .int (nI p)] h (some (.int (nI l.length))) h' ∧ RX h' C (s_up P p l) S [] H O g ∧ zEq 47 63 h h' ∧ l.length ≤ 60 ∧ ∀ v ∈ l, v ≤ 8 := by
  obtain ⟨r0, r1, rp, r3, rt, r5, r6, r7⟩ := id r
  obtain ⟨q0, -⟩ := id r0
  obtain ⟨p0, pf, p1, pq⟩ := rp p hp
  obtain ⟨f, F, A, B, hT, hq, hs⟩ := RT_3 rt w.2.2.2.1
  obtain ⟨F', A', B', g', ⟨hg1, hg2⟩, hJ⟩ := x5_readS (d := d) (p := 31 + 2 * p) hT w.2.2.2.1.1 hq hf hs hsp p0 p1 (by omega)
  obtain ⟨hh, hhe⟩ : ∃ hh, hh = ((s_h3 h 6 7 8 F' A' B').set (32 + 2 * p) (.inl (0, 60, .inl g'))).set (31 + 2 * p) (.inr (2, [.ref (32 + 2 * p), .int (nI l.length)])) := ⟨_, rfl⟩
  have k0 := hT.1
  have L : ∀ j x, ¬ 31 + 2 * p = j → ¬ 32 + 2 * p = j → (s_h3 h 6 7 8 F' A' B')[j]? = some x → hh[j]? = some x := fun j x n1 n2 hx => by rw [hhe]; exact zset_ne n1 (zset_ne n2 hx)
  have k3 := L 4 _ (by omega) (by omega) (s3_k hT F' A' B')
  have a3 := L 5 _ (by omega) (by omega) (s3_a hT F' A' B')
  have c3 := L 6 _ (by omega) (by omega) (s3_c hT F' A' B')
  have b3 := L 7 _ (by omega) (by omega) (s3_b hT F' A' B')
  have o3 := L 8 _ (by omega) (by omega) (s3_o hT F' A' B')
  have e0 : ∀ lo hi', (8 < lo ∨ hi' < 4) → (32 + 2 * p < lo ∨ hi' < 31 + 2 * p) → zEq lo hi' h hh := fun lo hi' h1 h2 => by
    rw [hhe]
    exact zEq_set (zEq_set (zEq_set (zEq_set (zEq_set zEq_rf (by omega)) (by omega)) (by omega)) (by omega)) (by omega)
  have z3 := (e0 0 0 (by omega) (by omega) 0 (by omega) (by omega)).trans q0
  have e : ∀ lo hi', (8 < lo ∨ hi' < 4) → (32 + 2 * p < lo ∨ hi' < 31 + 2 * p) → zEq lo hi' h (hh.set 4 (.inr (5, [.ref 5, .int 0, .ref 6, .ref 7, .ref 8]))) := fun lo hi' h1 h2 => zEq_set (e0 _ _ h1 h2) (by omega)
  rw [← hhe] at hJ
  refine ⟨hh.set 4 (.inr (5, [.ref 5, .int 0, .ref 6, .ref 7, .ref 8])), ?_, ⟨R0_f (e _ _ (by omega) (by omega)) r0, RC_f (e _ _ (by omega) (by omega)) r1, ?_, RS_f (e _ _ (by omega) (by omega)) r3, RT_0 k3 a3 c3 b3 o3, RU_f (e _ _ (by omega) (by omega)) r5, RH_f (e _ _ (by omega) (by omega)) r6, RO_f (e _ _ (by omega) (by omega)) r7⟩, e _ _ (by omega) (by omega), hg2, hg1.2⟩
  · refine zD_of (by decide +kernel) (by exact Nat.le_of_ble_eq_true rfl) ?_
    show zB mX7_phrase _ _ _ 0 [some (.ref 0), some (.int (nI p)), none, none] [] _
    refine zj_aload_n dX7_phrase_0 (by rfl) ?_
    refine zj_iload_n dX7_phrase_1 (by rfl) ?_
    refine zc_7_99 rfl dX7_phrase_2 (by first | assumption | rfl) (x7_phraseAt r0 hp) (by exact Nat.le_of_ble_eq_true rfl) ?_
    refine zj_astore_n dX7_phrase_5 (by decide) ?_
    refine zj_aload_n dX7_phrase_6 (by rfl) ?_
    refine zj_ifnonnull (tgt := 15) dX7_phrase_7 (by decide) ?_
    refine zj_aload_n dX7_phrase_15 (by rfl) ?_
    refine zg_7_30 rfl dX7_phrase_16 (by first | assumption | rfl) (by rfl) ?_
    refine zj_aload_n dX7_phrase_19 (by rfl) ?_
    refine zc_7_103 rfl dX7_phrase_20 (by first | assumption | rfl) hJ (by exact Nat.le_of_ble_eq_true rfl) ?_
    refine zj_istore_n dX7_phrase_23 (by decide) ?_
    refine zj_aload_n dX7_phrase_24 (by rfl) ?_
    refine zg_7_30 rfl dX7_phrase_25 (by first | assumption | rfl) (by rfl) ?_
    refine zj_iconst (v := 0) dX7_phrase_28 (by decide) ?_
    refine zp_7_98 rfl dX7_phrase_29 (by first | assumption | rfl) (by exact Nat.le_of_ble_eq_true rfl) ?_
    refine zj_iload_n dX7_phrase_32 (by rfl) ?_
    refine zj_iret dX7_phrase_33 rfl (Nat.le_refl _) (Nat.le_refl _) ?_
    exact ⟨rfl, rfl⟩
  · intro i2 hi2
    by_cases ei : i2 = p
    · subst ei
      rw [s_up_eq]
      refine ⟨?_, g', ?_, hg1.1⟩
      · rw [List.getElem?_set, if_neg (by omega), hhe]
        exact zset_eq (zset_ne (by omega) (zset_ne (by omega) (zset_ne (by omega) (zset_ne (by omega) p0))))
      · rw [List.getElem?_set, if_neg (by omega), hhe]
        exact zset_ne (by omega) (zset_eq (zset_ne (by omega) (zset_ne (by omega) (zset_ne (by omega) p1))))
    · rw [s_up_ne ei]
      obtain ⟨x0, xf, x1, xq⟩ := rp i2 hi2
      refine ⟨?_, xf, ?_, xq⟩
      · rw [e (31 + 2 * i2) (31 + 2 * i2) (by omega) (by omega) _ (Nat.le_refl _) (Nat.le_refl _)]
        exact x0
      · rw [e (32 + 2 * i2) (32 + 2 * i2) (by omega) (by omega) _ (Nat.le_refl _) (Nat.le_refl _)]
        exact x1
end O2
