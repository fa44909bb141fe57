/-! THE STATE: cycles C (kind, halves), phrases P, sheets S, tape T, hands H, solo O, grid g; and the cells that hold it -/
def s_kd (C : Nat → List (Nat × Nat)) (i j : Nat) : Nat := ((C i).getD j (0, 0)).1
def s_hv (C : Nat → List (Nat × Nat)) (i j : Nat) : Nat := ((C i).getD j (0, 0)).2
/-- the length of a cycle in ticks -/
def s_cl (C : Nat → List (Nat × Nat)) (i : Nat) : Nat := s_sum (s_hv C i) (C i).length
def WC (C : Nat → List (Nat × Nat)) : Prop := ∀ i, i < 4 → (C i).length ≤ 12 ∧ ∀ q ∈ C i, q.1 ≤ 3 ∧ 1 ≤ q.2 ∧ q.2 ≤ 18
def WP (P : Nat → List Nat) : Prop := ∀ i, i < 6 → (P i).length ≤ 60 ∧ ∀ v ∈ P i, v ≤ 8
def WS (S : Nat → Option (List Int32)) : Prop := ∀ i, i < 2 → ∀ l, S i = some l → l.length ≤ 60 ∧ ∀ v ∈ l, v.toInt8.toInt32 = v
def WT (T : List Nat) : Prop := T.length ≤ 60 ∧ ∀ v ∈ T, v < 256
def WH (H : Nat → Nat) : Prop := ∀ s, s < 8 → H s ≤ 3
def WO (O : List (Nat × Nat)) : Prop := O.length ≤ 20 ∧ ∀ q ∈ O, q.1 ≤ 12960 ∧ q.2 ≤ 96
def WG (g : Nat) : Prop := 1 ≤ g ∧ g ≤ 24
def R0 (h : zH) (g : Nat) : Prop := h[0]? = some (.inr (7, [.ref 1, .ref 2, .ref 3, .ref 4, .ref 9, .ref 12, .ref 16, .int (nI g)])) ∧ (∃ f, h[1]? = some (.inl (3, 4, .inr (.inr (.inr (.inr f))))) ∧ ∀ i, i < 4 → f i = some (19 + 3 * i)) ∧ (∃ f, h[2]? = some (.inl (4, 6, .inr (.inr (.inr (.inr f))))) ∧ ∀ i, i < 6 → f i = some (31 + 2 * i)) ∧ (∃ f, h[3]? = some (.inl (5, 2, .inr (.inr (.inr (.inr f))))) ∧ ∀ i, i < 2 → f i = some (43 + 2 * i))
def RC (h : zH) (C : Nat → List (Nat × Nat)) : Prop := ∀ i, i < 4 → h[19 + 3 * i]? = some (.inr (0, [.ref (20 + 3 * i), .ref (21 + 3 * i), .int (nI (C i).length)])) ∧ ∃ f g, h[20 + 3 * i]? = some (.inl (1, 12, .inl f)) ∧ h[21 + 3 * i]? = some (.inl (1, 12, .inl g)) ∧ ∀ j, j < (C i).length → f j = nI (s_kd C i j) ∧ g j = nI (s_hv C i j)
def RP (h : zH) (P : Nat → List Nat) : Prop := ∀ i, i < 6 → h[31 + 2 * i]? = some (.inr (2, [.ref (32 + 2 * i), .int (nI (P i).length)])) ∧ ∃ f, h[32 + 2 * i]? = some (.inl (0, 60, .inl f)) ∧ ∀ j, j < (P i).length → f j = nI ((P i).getD j 0)
def RS (h : zH) (S : Nat → Option (List Int32)) : Prop := ∀ i, i < 2 → h[43 + 2 * i]? = some (.inr (3, [.ref (44 + 2 * i), .int (s_pl ((S i).map List.length))])) ∧ ∃ f, h[44 + 2 * i]? = some (.inl (0, 60, .inl f)) ∧ ∀ l, S i = some l → ∀ j, j < l.length → f j = l.getD j 0
def RT (h : zH) (T : List Nat) : Prop := h[4]? = some (.inr (5, [.ref 5, .int (nI T.length), .ref 6, .ref 7, .ref 8])) ∧ (∃ f, h[5]? = some (.inl (0, 60, .inl f)) ∧ ∀ j, j < T.length → f j = s_by (T.getD j 0)) ∧ ∃ F A B, h[6]? = some (.inl (0, 60, .inl F)) ∧ h[7]? = some (.inl (1, 6, .inl A)) ∧ h[8]? = some (.inl (1, 6, .inl B))
def RU (h : zH) : Prop := h[9]? = some (.inr (6, [.ref 10, .ref 11])) ∧ ∃ ft wb, h[10]? = some (.inl (1, 61, .inl ft)) ∧ h[11]? = some (.inl (2, 62, .inr (.inl wb)))
def RH (h : zH) (H : Nat → Nat) : Prop := h[12]? = some (.inr (1, [.ref 13, .ref 14, .ref 15])) ∧ (∃ ho, h[13]? = some (.inl (1, 8, .inl ho)) ∧ ∀ s, s < 8 → ho s = nI (H s)) ∧ ∃ fl fr, h[14]? = some (.inl (1, 60, .inl fl)) ∧ h[15]? = some (.inl (1, 60, .inl fr))
def RO (h : zH) (O : List (Nat × Nat)) : Prop := h[16]? = some (.inr (4, [.ref 17, .ref 18, .int (nI O.length)])) ∧ ∃ f g, h[17]? = some (.inl (1, 20, .inl f)) ∧ h[18]? = some (.inl (1, 20, .inl g)) ∧ ∀ j, j < O.length → f j = nI (O.getD j (0, 0)).1 ∧ g j = nI (O.getD j (0, 0)).2
def RX (h : zH) (C : Nat → List (Nat × Nat)) (P : Nat → List Nat) (S : Nat → Option (List Int32)) (T : List Nat) (H : Nat → Nat) (O : List (Nat × Nat)) (g : Nat) : Prop := R0 h g ∧ RC h C ∧ RP h P ∧ RS h S ∧ RT h T ∧ RU h ∧ RH h H ∧ RO h O
def WF (C : Nat → List (Nat × Nat)) (P : Nat → List Nat) (S : Nat → Option (List Int32)) (T : List Nat) (H : Nat → Nat) (O : List (Nat × Nat)) (g : Nat) : Prop := WC C ∧ WP P ∧ WS S ∧ WT T ∧ WH H ∧ WO O ∧ WG g
/-- two heaps agree from lo to hi -/
def zEq (lo hi : Nat) (h h' : zH) : Prop := ∀ j, lo ≤ j → j ≤ hi → h'[j]? = h[j]?
section ST
variable {h h' h2 : zH} {lo hi k : Nat} {c : va_E} {C : Nat → List (Nat × Nat)} {P : Nat → List Nat} {S : Nat → Option (List Int32)} {T : List Nat} {H : Nat → Nat} {O : List (Nat × Nat)} {g d : Nat}
theorem zEq_rf : zEq lo hi h h := fun _ _ _ => rfl
theorem zEq_set (e : zEq lo hi h h') (hk : k < lo ∨ hi < k) : zEq lo hi h (h'.set k c) := fun j h1 h2 => by
  rw [List.getElem?_set, if_neg (by omega)]
  exact e j h1 h2
theorem zEq_tr (e : zEq lo hi h h') (e2 : zEq lo hi h' h2) : zEq lo hi h h2 := fun j h1 h3 => (e2 j h1 h3).trans (e j h1 h3)
theorem R0_f (e : zEq 0 3 h h') (r : R0 h g) : R0 h' g := by
  obtain ⟨r0, ⟨f1, r1, q1⟩, ⟨f2, r2, q2⟩, ⟨f3, r3, q3⟩⟩ := r
  exact ⟨by rw [e 0 (by omega) (by omega)]; exact r0, ⟨f1, by rw [e 1 (by omega) (by omega)]; exact r1, q1⟩, ⟨f2, by rw [e 2 (by omega) (by omega)]; exact r2, q2⟩, ⟨f3, by rw [e 3 (by omega) (by omega)]; exact r3, q3⟩⟩
theorem RC_f (e : zEq 19 30 h h') (r : RC h C) : RC h' C := fun i hi => by
  obtain ⟨r0, f, g, r1, r2, q⟩ := r i hi
  exact ⟨by rw [e _ (by omega) (by omega)]; exact r0, f, g, by rw [e _ (by omega) (by omega)]; exact r1, by rw [e _ (by omega) (by omega)]; exact r2, q⟩
theorem RP_f (e : zEq 31 42 h h') (r : RP h P) : RP h' P := fun i hi => by
  obtain ⟨r0, f, r1, q⟩ := r i hi
  exact ⟨by rw [e _ (by omega) (by omega)]; exact r0, f, by rw [e _ (by omega) (by omega)]; exact r1, q⟩
theorem RS_f (e : zEq 43 46 h h') (r : RS h S) : RS h' S := fun i hi => by
  obtain ⟨r0, f, r1, q⟩ := r i hi
  exact ⟨by rw [e _ (by omega) (by omega)]; exact r0, f, by rw [e _ (by omega) (by omega)]; exact r1, q⟩
theorem RT_f (e : zEq 4 8 h h') (r : RT h T) : RT h' T := by
  obtain ⟨r0, ⟨f, r1, q⟩, F, A, B, r2, r3, r4⟩ := r
  exact ⟨by rw [e _ (by omega) (by omega)]; exact r0, ⟨f, by rw [e _ (by omega) (by omega)]; exact r1, q⟩, F, A, B, by rw [e _ (by omega) (by omega)]; exact r2, by rw [e _ (by omega) (by omega)]; exact r3, by rw [e _ (by omega) (by omega)]; exact r4⟩
theorem RU_f (e : zEq 9 11 h h') (r : RU h) : RU h' := by
  obtain ⟨r0, f, w, r1, r2⟩ := r
  exact ⟨by rw [e _ (by omega) (by omega)]; exact r0, f, w, by rw [e _ (by omega) (by omega)]; exact r1, by rw [e _ (by omega) (by omega)]; exact r2⟩
theorem RH_f (e : zEq 12 15 h h') (r : RH h H) : RH h' H := by
  obtain ⟨r0, ⟨f, r1, q⟩, F, A, r2, r3⟩ := r
  exact ⟨by rw [e _ (by omega) (by omega)]; exact r0, ⟨f, by rw [e _ (by omega) (by omega)]; exact r1, q⟩, F, A, by rw [e _ (by omega) (by omega)]; exact r2, by rw [e _ (by omega) (by omega)]; exact r3⟩
theorem RO_f (e : zEq 16 18 h h') (r : RO h O) : RO h' O := by
  obtain ⟨r0, f, g, r1, r2, q⟩ := r
  exact ⟨by rw [e _ (by omega) (by omega)]; exact r0, f, g, by rw [e _ (by omega) (by omega)]; exact r1, by rw [e _ (by omega) (by omega)]; exact r2, q⟩
theorem s_getQ {l : List (Nat × Nat)} {j : Nat} {p : Nat × Nat → Prop} (hj : j < l.length) (h : ∀ q ∈ l, p q) : p (l.getD j (0, 0)) := by
  have : l.getD j (0, 0) = l[j] := by simp [List.getD, hj]
  rw [this]
  exact h _ (List.getElem_mem hj)
theorem WC_hv (w : WC C) {i j : Nat} (hi : i < 4) (hj : j < (C i).length) : s_kd C i j ≤ 3 ∧ 1 ≤ s_hv C i j ∧ s_hv C i j ≤ 18 := s_getQ hj (w i hi).2
theorem s_cl_le (w : WC C) {i : Nat} (hi : i < 4) : s_cl C i ≤ 2592 := by
  have h1 := s_sum_le (C i).length (fun j hj => (WC_hv w hi hj).2.2)
  have h2 := (w i hi).1
  unfold s_cl
  omega
theorem s_cl_pos (w : WC C) {i : Nat} (hi : i < 4) (hl : ¬ (C i).length = 0) : 0 < s_cl C i := s_sum_pos (by omega) (fun j hj => (WC_hv w hi hj).2.1)
theorem s_cl_0 {i : Nat} (hl : (C i).length = 0) : s_cl C i = 0 := by unfold s_cl; rw [hl]; rfl
theorem x7_cycleAt (r : R0 h g) {i : Nat} (hi : i < 4) : zD mX7_cycleAt d [.ref 0, .int (nI i)] h (some (.ref (19 + 3 * i))) h := by
  obtain ⟨r0, ⟨f1, r1, q1⟩, -⟩ := r
  refine zD_of (by decide +kernel) (by exact Nat.le_of_ble_eq_true rfl) ?_
  show zB mX7_cycleAt _ _ _ 0 [some (.ref 0), some (.int (nI i))] [] _
  refine zj_iload_n dX7_cycleAt_0 (by rfl) ?_
  refine zj_if_ltN (tgt := 22) dX7_cycleAt_1 (by decide) (by omega) ?_
  refine zj_iload_n dX7_cycleAt_4 (by rfl) ?_
  refine zj_aload_n dX7_cycleAt_5 (by rfl) ?_
  refine zg_7_9 rfl dX7_cycleAt_6 (by first | assumption | rfl) (by rfl) ?_
  refine zj_alenA dX7_cycleAt_9 (by first | assumption | rfl) (by decide) ?_
  refine zj_icmp_geN (tgt := 22) dX7_cycleAt_10 (by decide) (by omega) (fun zq => absurd zq (by omega)) (fun _ => ?_)
  refine zj_aload_n dX7_cycleAt_13 (by rfl) ?_
  refine zg_7_9 rfl dX7_cycleAt_14 (by first | assumption | rfl) (by rfl) ?_
  refine zj_iload_n dX7_cycleAt_17 (by rfl) ?_
  refine zj_aaldN dX7_cycleAt_18 (by first | assumption | rfl) (fun _ => rfl) (by omega) ?_
  rw [q1 i hi]
  show zJ _ _ _ _ _ _ _ _ _ (.ref (19 + 3 * i) :: []) _ _ _
  refine zj_goto (tgt := 23) dX7_cycleAt_19 (by decide) ?_
  refine zj_aret dX7_cycleAt_23 rfl (Nat.le_refl _) (Nat.le_refl _) ?_
  exact ⟨rfl, rfl⟩
theorem x7_cycleAtN (r : R0 h g) {x : Int32} (hx : x < 0 ∨ 4 ≤ x) : zD mX7_cycleAt d [.ref 0, .int x] h (some .null) h := by
  obtain ⟨r0, ⟨f1, r1, q1⟩, -⟩ := r
  refine zD_of (by decide +kernel) (by exact Nat.le_of_ble_eq_true rfl) ?_
  show zB mX7_cycleAt _ _ _ 0 [some (.ref 0), some (.int x)] [] _
  refine zj_iload_n dX7_cycleAt_0 (by rfl) ?_
  refine zj_if_lt (tgt := 22) dX7_cycleAt_1 (by decide) (fun q1 => ?_) (fun q1 => ?_)
  · refine zj_null dX7_cycleAt_22 ?_
    refine zj_aretN dX7_cycleAt_23 rfl (Nat.le_refl _) (Nat.le_refl _) ?_
    exact ⟨rfl, rfl⟩
  · refine zj_iload_n dX7_cycleAt_4 (by rfl) ?_
    refine zj_aload_n dX7_cycleAt_5 (by rfl) ?_
    refine zg_7_9 rfl dX7_cycleAt_6 (by first | assumption | rfl) (by rfl) ?_
    refine zj_alenA dX7_cycleAt_9 (by first | assumption | rfl) (by decide) ?_
    refine zj_icmp_ge (tgt := 22) dX7_cycleAt_10 (by decide) (fun q10 => ?_) (fun q10 => ?_)
    · refine zj_null dX7_cycleAt_22 ?_
      refine zj_aretN dX7_cycleAt_23 rfl (Nat.le_refl _) (Nat.le_refl _) ?_
      exact ⟨rfl, rfl⟩
    · exact absurd hx (fun hh => hh.elim (by assumption) (fun h4 => q10 h4))
theorem x7_phraseAt (r : R0 h g) {i : Nat} (hi : i < 6) : zD mX7_phraseAt d [.ref 0, .int (nI i)] h (some (.ref (31 + 2 * i))) h := by
  obtain ⟨r0, -, ⟨f1, r1, q1⟩, -⟩ := r
  refine zD_of (by decide +kernel) (by exact Nat.le_of_ble_eq_true rfl) ?_
  show zB mX7_phraseAt _ _ _ 0 [some (.ref 0), some (.int (nI i))] [] _
  refine zj_iload_n dX7_phraseAt_0 (by rfl) ?_
  refine zj_if_ltN (tgt := 22) dX7_phraseAt_1 (by decide) (by omega) ?_
  refine zj_iload_n dX7_phraseAt_4 (by rfl) ?_
  refine zj_aload_n dX7_phraseAt_5 (by rfl) ?_
  refine zg_7_17 rfl dX7_phraseAt_6 (by first | assumption | rfl) (by rfl) ?_
  refine zj_alenA dX7_phraseAt_9 (by first | assumption | rfl) (by decide) ?_
  refine zj_icmp_geN (tgt := 22) dX7_phraseAt_10 (by decide) (by omega) (fun zq => absurd zq (by omega)) (fun _ => ?_)
  refine zj_aload_n dX7_phraseAt_13 (by rfl) ?_
  refine zg_7_17 rfl dX7_phraseAt_14 (by first | assumption | rfl) (by rfl) ?_
  refine zj_iload_n dX7_phraseAt_17 (by rfl) ?_
  refine zj_aaldN dX7_phraseAt_18 (by first | assumption | rfl) (fun _ => rfl) (by omega) ?_
  rw [q1 i hi]
  show zJ _ _ _ _ _ _ _ _ _ (.ref (31 + 2 * i) :: []) _ _ _
  refine zj_goto (tgt := 23) dX7_phraseAt_19 (by decide) ?_
  refine zj_aret dX7_phraseAt_23 rfl (Nat.le_refl _) (Nat.le_refl _) ?_
  exact ⟨rfl, rfl⟩
theorem x7_phraseAtN (r : R0 h g) {x : Int32} (hx : x < 0 ∨ 6 ≤ x) : zD mX7_phraseAt d [.ref 0, .int x] h (some .null) h := by
  obtain ⟨r0, -, ⟨f1, r1, q1⟩, -⟩ := r
  refine zD_of (by decide +kernel) (by exact Nat.le_of_ble_eq_true rfl) ?_
  show zB mX7_phraseAt _ _ _ 0 [some (.ref 0), some (.int x)] [] _
  refine zj_iload_n dX7_phraseAt_0 (by rfl) ?_
  refine zj_if_lt (tgt := 22) dX7_phraseAt_1 (by decide) (fun q1 => ?_) (fun q1 => ?_)
  · refine zj_null dX7_phraseAt_22 ?_
    refine zj_aretN dX7_phraseAt_23 rfl (Nat.le_refl _) (Nat.le_refl _) ?_
    exact ⟨rfl, rfl⟩
  · refine zj_iload_n dX7_phraseAt_4 (by rfl) ?_
    refine zj_aload_n dX7_phraseAt_5 (by rfl) ?_
    refine zg_7_17 rfl dX7_phraseAt_6 (by first | assumption | rfl) (by rfl) ?_
    refine zj_alenA dX7_phraseAt_9 (by first | assumption | rfl) (by decide) ?_
    refine zj_icmp_ge (tgt := 22) dX7_phraseAt_10 (by decide) (fun q10 => ?_) (fun q10 => ?_)
    · refine zj_null dX7_phraseAt_22 ?_
      refine zj_aretN dX7_phraseAt_23 rfl (Nat.le_refl _) (Nat.le_refl _) ?_
      exact ⟨rfl, rfl⟩
    · exact absurd hx (fun hh => hh.elim (by assumption) (fun h4 => q10 h4))
theorem x7_sheetAt (r : R0 h g) {i : Nat} (hi : i < 2) : zD mX7_sheetAt d [.ref 0, .int (nI i)] h (some (.ref (43 + 2 * i))) h := by
  obtain ⟨r0, -, -, ⟨f1, r1, q1⟩⟩ := r
  refine zD_of (by decide +kernel) (by exact Nat.le_of_ble_eq_true rfl) ?_
  show zB mX7_sheetAt _ _ _ 0 [some (.ref 0), some (.int (nI i))] [] _
  refine zj_iload_n dX7_sheetAt_0 (by rfl) ?_
  refine zj_if_ltN (tgt := 22) dX7_sheetAt_1 (by decide) (by omega) ?_
  refine zj_iload_n dX7_sheetAt_4 (by rfl) ?_
  refine zj_aload_n dX7_sheetAt_5 (by rfl) ?_
  refine zg_7_23 rfl dX7_sheetAt_6 (by first | assumption | rfl) (by rfl) ?_
  refine zj_alenA dX7_sheetAt_9 (by first | assumption | rfl) (by decide) ?_
  refine zj_icmp_geN (tgt := 22) dX7_sheetAt_10 (by decide) (by omega) (fun zq => absurd zq (by omega)) (fun _ => ?_)
  refine zj_aload_n dX7_sheetAt_13 (by rfl) ?_
  refine zg_7_23 rfl dX7_sheetAt_14 (by first | assumption | rfl) (by rfl) ?_
  refine zj_iload_n dX7_sheetAt_17 (by rfl) ?_
  refine zj_aaldN dX7_sheetAt_18 (by first | assumption | rfl) (fun _ => rfl) (by omega) ?_
  rw [q1 i hi]
  show zJ _ _ _ _ _ _ _ _ _ (.ref (43 + 2 * i) :: []) _ _ _
  refine zj_goto (tgt := 23) dX7_sheetAt_19 (by decide) ?_
  refine zj_aret dX7_sheetAt_23 rfl (Nat.le_refl _) (Nat.le_refl _) ?_
  exact ⟨rfl, rfl⟩
theorem x7_sheetAtN (r : R0 h g) {x : Int32} (hx : x < 0 ∨ 2 ≤ x) : zD mX7_sheetAt d [.ref 0, .int x] h (some .null) h := by
  obtain ⟨r0, -, -, ⟨f1, r1, q1⟩⟩ := r
  refine zD_of (by decide +kernel) (by exact Nat.le_of_ble_eq_true rfl) ?_
  show zB mX7_sheetAt _ _ _ 0 [some (.ref 0), some (.int x)] [] _
  refine zj_iload_n dX7_sheetAt_0 (by rfl) ?_
  refine zj_if_lt (tgt := 22) dX7_sheetAt_1 (by decide) (fun q1 => ?_) (fun q1 => ?_)
  · refine zj_null dX7_sheetAt_22 ?_
    refine zj_aretN dX7_sheetAt_23 rfl (Nat.le_refl _) (Nat.le_refl _) ?_
    exact ⟨rfl, rfl⟩
  · refine zj_iload_n dX7_sheetAt_4 (by rfl) ?_
    refine zj_aload_n dX7_sheetAt_5 (by rfl) ?_
    refine zg_7_23 rfl dX7_sheetAt_6 (by first | assumption | rfl) (by rfl) ?_
    refine zj_alenA dX7_sheetAt_9 (by first | assumption | rfl) (by decide) ?_
    refine zj_icmp_ge (tgt := 22) dX7_sheetAt_10 (by decide) (fun q10 => ?_) (fun q10 => ?_)
    · refine zj_null dX7_sheetAt_22 ?_
      refine zj_aretN dX7_sheetAt_23 rfl (Nat.le_refl _) (Nat.le_refl _) ?_
      exact ⟨rfl, rfl⟩
    · exact absurd hx (fun hh => hh.elim (by assumption) (fun h4 => q10 h4))
end ST
