/-! the maths of turns: forward and backward counts of ways, least and greedy cuts -/
def s_sm (f : Nat → Nat) : Nat → Nat
  | 0 => 0
  | k + 1 => s_sm f k + f k
theorem s_sm_congr {f f' : Nat → Nat} : ∀ k, (∀ j, j < k → f j = f' j) → s_sm f k = s_sm f' k
  | 0, _ => rfl
  | k + 1, h => by
    show s_sm f k + f k = s_sm f' k + f' k
    rw [s_sm_congr k (fun j hj => h j (by omega)), h k (by omega)]
theorem s_sm_add {f f' : Nat → Nat} : ∀ k, s_sm (fun j => f j + f' j) k = s_sm f k + s_sm f' k
  | 0 => rfl
  | k + 1 => by
    show s_sm (fun j => f j + f' j) k + (f k + f' k) = (s_sm f k + f k) + (s_sm f' k + f' k)
    rw [s_sm_add k]; omega
theorem s_sm_mul {f : Nat → Nat} {c : Nat} : ∀ k, s_sm (fun j => f j * c) k = s_sm f k * c
  | 0 => (Nat.zero_mul _).symm
  | k + 1 => by
    show s_sm (fun j => f j * c) k + f k * c = (s_sm f k + f k) * c
    rw [s_sm_mul k, Nat.add_mul]
def s_ct (q : Nat → Bool) : Nat → Nat
  | 0 => 0
  | k + 1 => s_ct q k + (if q k = true then 1 else 0)
theorem s_ct_congr {q q' : Nat → Bool} : ∀ k, (∀ j, j < k → q j = q' j) → s_ct q k = s_ct q' k
  | 0, _ => rfl
  | k + 1, h => by
    show s_ct q k + _ = s_ct q' k + _
    rw [s_ct_congr k (fun j hj => h j (by omega)), h k (by omega)]
theorem s_ct_tail {q : Nat → Bool} {k : Nat} : ∀ m, (∀ j, k ≤ j → j < k + m → q j = false) → s_ct q (k + m) = s_ct q k
  | 0, _ => rfl
  | m + 1, h => by
    show s_ct q (k + m) + (if q (k + m) = true then 1 else 0) = _
    rw [s_ct_tail m (fun j h1 h2 => h j h1 (by omega)), h (k + m) (by omega) (by omega)]
    simp
theorem s_ct_pos {q : Nat → Bool} : ∀ k, s_ct q k ≠ 0 ↔ ∃ j, j < k ∧ q j = true
  | 0 => ⟨fun h => absurd rfl h, fun ⟨j, hj, _⟩ => absurd hj (Nat.not_lt_zero _)⟩
  | k + 1 => by
    have ih := s_ct_pos (q := q) k
    have e : s_ct q (k + 1) = s_ct q k + (if q k = true then 1 else 0) := rfl
    rw [e]
    constructor
    · intro h
      by_cases hq : q k = true
      · exact ⟨k, by omega, hq⟩
      · rw [if_neg hq, Nat.add_zero] at h
        obtain ⟨j, hj, hj2⟩ := ih.mp h
        exact ⟨j, by omega, hj2⟩
    · intro ⟨j, hj, hj2⟩
      by_cases hjk : j = k
      · subst hjk; rw [if_pos hj2]; omega
      · have := ih.mpr ⟨j, by omega, hj2⟩
        omega
theorem s_ct_le {q : Nat → Bool} : ∀ k, s_ct q k ≤ k
  | 0 => Nat.le_refl _
  | k + 1 => by
    have ih := s_ct_le (q := q) k
    have e : s_ct q (k + 1) = s_ct q k + (if q k = true then 1 else 0) := rfl
    rw [e]
    split <;> omega
/-- do the phrase's L places from p on stand in the sheet from a on? -/
def s_mt (f g : Nat → Int32) : Nat → Nat → Nat → Bool
  | 0, _, _ => true
  | L + 1, p, a => if f p = g a then s_mt f g L (p + 1) (a + 1) else false
theorem s_mt_fit {f g : Nat → Int32} {n e : Nat} : ∀ L p a, a + L ≤ e → p + L ≤ n → (s_mt f g L p a = true ↔ L ≤ s_fit f g n e (e - a) p)
  | 0, _, _, _, _ => ⟨fun _ => Nat.zero_le _, fun _ => rfl⟩
  | L + 1, p, a, h1, h2 => by
    have ih := s_mt_fit (f := f) (g := g) (n := n) (e := e) L (p + 1) (a + 1) (by omega) (by omega)
    have e1 : s_mt f g (L + 1) p a = if f p = g a then s_mt f g L (p + 1) (a + 1) else false := rfl
    obtain ⟨t, ht⟩ : ∃ t, e - a = t + 1 := ⟨e - a - 1, by omega⟩
    have e2 : s_fit f g n e (t + 1) p = if p < n then (if f p = g (e - (t + 1)) then s_fit f g n e t (p + 1) + 1 else 0) else 0 := rfl
    rw [e1, ht, e2, if_pos (show p < n by omega), show e - (t + 1) = a by omega]
    rw [show e - (a + 1) = t by omega] at ih
    by_cases hq : f p = g a
    · rw [if_pos hq, if_pos hq, ih]; omega
    · rw [if_neg hq, if_neg hq]; simp
/-- how often the sheet's places from v to t stand in the phrase -/
def s_K (f g : Nat → Int32) (n e v t : Nat) : Nat := s_ct (fun i => decide (t - v ≤ s_fit f g n e (e - v) i)) n
theorem s_K_le {f g : Nat → Int32} {n e v t : Nat} : s_K f g n e v t ≤ n := s_ct_le _
theorem s_K_mt {f g : Nat → Int32} {n e v t : Nat} (h1 : v < t) (h2 : t ≤ e) : s_ct (fun p => s_mt f g (t - v) p v) (n + 1 - (t - v)) = s_K f g n e v t := by
  unfold s_K
  by_cases hn : t - v ≤ n
  · have := s_ct_tail (q := fun i => decide (t - v ≤ s_fit f g n e (e - v) i)) (k := n + 1 - (t - v)) (n - (n + 1 - (t - v))) (fun j hj1 hj2 => by
      have := s_fit_le2 (f := f) (g := g) (n := n) (e := e) (e - v) j
      exact decide_eq_false (by omega))
    rw [show n + 1 - (t - v) + (n - (n + 1 - (t - v))) = n by omega] at this
    rw [this]
    refine s_ct_congr _ (fun j hj => ?_)
    have := s_mt_fit (f := f) (g := g) (n := n) (e := e) (t - v) j v (by omega) (by omega)
    rw [Bool.eq_iff_iff, this, decide_eq_true_iff]
  · rw [show n + 1 - (t - v) = 0 by omega]
    have := s_ct_tail (q := fun i => decide (t - v ≤ s_fit f g n e (e - v) i)) (k := 0) n (fun j hj1 hj2 => by
      have := s_fit_le2 (f := f) (g := g) (n := n) (e := e) (e - v) j
      exact decide_eq_false (by omega))
    rw [Nat.zero_add] at this
    rw [this]; rfl
theorem s_M1 : 1 ≤ s_M := by unfold s_M; omega
/-- alike when cut at the largest number of ways -/
def s_sim (a b : Nat) : Prop := min a s_M = min b s_M
theorem s_sim_add {a a' b b' : Nat} (h : s_sim a a') (h' : s_sim b b') : s_sim (a + b) (a' + b') := by
  unfold s_sim at *; omega
theorem s_sim_mul {a a' : Nat} (h : s_sim a a') (b : Nat) : s_sim (a * b) (a' * b) := by
  unfold s_sim at *
  by_cases e : a = a'
  · rw [e]
  · by_cases hb : b = 0
    · subst hb; rfl
    · have h1 : a ≤ a * b := Nat.le_mul_of_pos_right _ (by omega)
      have h2 : a' ≤ a' * b := Nat.le_mul_of_pos_right _ (by omega)
      omega
theorem s_sim_sm {f f' : Nat → Nat} : ∀ k, (∀ j, j < k → s_sim (f j) (f' j)) → s_sim (s_sm f k) (s_sm f' k)
  | 0, _ => rfl
  | k + 1, h => s_sim_add (s_sim_sm k (fun j hj => h j (by omega))) (h k (by omega))
theorem s_sim_t {a b c : Nat} (h : s_sim a b) (h' : s_sim b c) : s_sim a c := Eq.trans h h'
theorem s_sim_s {a b : Nat} (h : s_sim a b) : s_sim b a := Eq.symm h
theorem s_fwbw {A W : Nat → Nat} {K : Nat → Nat → Nat} {e : Nat} (he : 1 ≤ e) (hA0 : A 0 = 1) (hW0 : W 0 = 1) (hA : ∀ t, 1 ≤ t → t ≤ e → s_sim (A t) (s_sm (fun v => A v * K v t) t)) (hW : ∀ k, 1 ≤ k → k ≤ e → s_sim (W k) (s_sm (fun j => K (e - k) (e - j) * W j) k)) : s_sim (A e) (W e) := by
  have hZ : ∀ t, t < e → s_sim (s_sm (fun v => A v * s_sm (fun j => K v (e - j) * W j) (e - t)) (t + 1)) (W e) := by
    intro t
    induction t with
    | zero =>
      intro _
      show s_sim (0 + A 0 * s_sm (fun j => K 0 (e - j) * W j) e) (W e)
      rw [hA0, Nat.zero_add, Nat.one_mul]
      have := hW e he (Nat.le_refl _)
      rw [Nat.sub_self] at this
      exact s_sim_s this
    | succ t ih =>
      intro ht
      refine s_sim_t ?_ (ih (by omega))
      apply s_sim_s
      have e1 : ∀ v, s_sm (fun j => K v (e - j) * W j) (e - t) = s_sm (fun j => K v (e - j) * W j) (e - (t + 1)) + K v (t + 1) * W (e - (t + 1)) := by
        intro v
        rw [show e - t = (e - (t + 1)) + 1 by omega]
        show _ + K v (e - (e - (t + 1))) * _ = _
        rw [show e - (e - (t + 1)) = t + 1 by omega]
      have e2 : s_sm (fun v => A v * s_sm (fun j => K v (e - j) * W j) (e - t)) (t + 1) = s_sm (fun v => A v * s_sm (fun j => K v (e - j) * W j) (e - (t + 1))) (t + 1) + s_sm (fun v => A v * K v (t + 1)) (t + 1) * W (e - (t + 1)) := by
        rw [← s_sm_mul, ← s_sm_add]
        refine s_sm_congr _ (fun j _ => ?_)
        rw [e1, Nat.mul_add, Nat.mul_assoc]
      rw [e2]
      show s_sim _ (s_sm (fun v => A v * s_sm (fun j => K v (e - j) * W j) (e - (t + 1))) (t + 1) + A (t + 1) * s_sm (fun j => K (t + 1) (e - j) * W j) (e - (t + 1)))
      refine s_sim_add rfl ?_
      refine s_sim_t (s_sim_s (s_sim_mul (hA (t + 1) (by omega) (by omega)) _)) ?_
      have := hW (e - (t + 1)) (by omega) (by omega)
      rw [show e - (e - (t + 1)) = t + 1 by omega] at this
      rw [Nat.mul_comm, Nat.mul_comm (A (t + 1))]
      exact s_sim_mul this _
  have := hZ (e - 1) (by omega)
  refine s_sim_t (s_sim_t (hA e he (Nat.le_refl _)) ?_) this
  rw [show e - 1 + 1 = e by omega, show e - (e - 1) = 0 + 1 by omega]
  have e3 : s_sm (fun v => A v * K v e) e = s_sm (fun v => A v * s_sm (fun j => K v (e - j) * W j) (0 + 1)) e := by
    refine s_sm_congr _ (fun j _ => ?_)
    show _ = A j * (0 + K j (e - 0) * W 0)
    rw [hW0, Nat.zero_add, Nat.mul_one]; rfl
  rw [e3]; rfl
theorem s_acc_tel {P : Nat → Nat} (hP : ∀ k, P k ≤ P (k + 1)) : ∀ T x, x ≤ T → s_sm (fun j => (if x ≤ j then 1 else 0) * (P (j + 1) - P j)) T + P x = P T ∧ P x ≤ P T
  | 0, x, h => by
    rw [show x = 0 by omega]; exact ⟨Nat.zero_add _, Nat.le_refl _⟩
  | T + 1, x, h => by
    show s_sm (fun j => (if x ≤ j then 1 else 0) * (P (j + 1) - P j)) T + (if x ≤ T then 1 else 0) * (P (T + 1) - P T) + P x = _ ∧ _
    by_cases hx : x ≤ T
    · have ih := s_acc_tel hP T x hx
      have := hP T
      rw [if_pos hx, Nat.one_mul]; omega
    · have hx2 : x = T + 1 := by omega
      rw [if_neg hx, Nat.zero_mul]
      have z : ∀ k, k ≤ T → s_sm (fun j => (if x ≤ j then 1 else 0) * (P (j + 1) - P j)) k = 0 := by
        intro k
        induction k with
        | zero => intro _; rfl
        | succ k ih =>
          intro hk
          show s_sm (fun j => (if x ≤ j then 1 else 0) * (P (j + 1) - P j)) k + (if x ≤ k then 1 else 0) * _ = 0
          rw [ih (by omega), if_neg (by omega), Nat.zero_mul]
      rw [z T (Nat.le_refl _), hx2]; omega
theorem s_acc_sm {P F : Nat → Nat} {T : Nat} (hP : ∀ k, P k ≤ P (k + 1)) : ∀ n, (∀ i, i < n → F i ≤ T) → s_acc P F T n = s_sm (fun j => s_ct (fun i => decide (T - j ≤ F i)) n * (P (j + 1) - P j)) T
  | 0, _ => by
    have z : ∀ k, s_sm (fun j => s_ct (fun i => decide (T - j ≤ F i)) 0 * (P (j + 1) - P j)) k = 0 := by
      intro k
      induction k with
      | zero => rfl
      | succ k ih =>
        show s_sm (fun j => s_ct (fun i => decide (T - j ≤ F i)) 0 * (P (j + 1) - P j)) k + 0 * _ = 0
        rw [ih, Nat.zero_mul]
    rw [z]; rfl
  | n + 1, hF => by
    have ih := s_acc_sm hP n (fun i hi => hF i (by omega))
    have hn := hF n (by omega)
    have t := s_acc_tel hP T (T - F n) (by omega)
    show s_acc P F T n + (P T - P (T - F n)) = _
    have e1 : s_sm (fun j => s_ct (fun i => decide (T - j ≤ F i)) (n + 1) * (P (j + 1) - P j)) T = s_sm (fun j => s_ct (fun i => decide (T - j ≤ F i)) n * (P (j + 1) - P j)) T + s_sm (fun j => (if T - F n ≤ j then 1 else 0) * (P (j + 1) - P j)) T := by
      rw [← s_sm_add]
      refine s_sm_congr _ (fun j hj => ?_)
      rw [← Nat.add_mul]
      congr 1
      show _ + (if decide (T - j ≤ F n) = true then 1 else 0) = _ + (if T - F n ≤ j then 1 else 0)
      congr 1
      by_cases hq : T - j ≤ F n
      · rw [if_pos (decide_eq_true hq), if_pos (by omega)]
      · rw [if_neg (by simp [hq]), if_neg (by omega)]
    rw [e1, ← ih]; omega
/-- the reference's ways to a place, so far -/
def s_wi (w K : Nat → Nat) : Nat → Nat
  | 0 => 0
  | v + 1 => if w v = 0 ∨ K v = 0 then s_wi w K v else min (s_wi w K v + w v * K v) s_M
def s_ci (w K c : Nat → Nat) : Nat → Nat
  | 0 => 0
  | v + 1 => if w v = 0 ∨ K v = 0 then s_ci w K c v else if s_ci w K c v = 0 ∨ c v + 1 < s_ci w K c v then c v + 1 else s_ci w K c v
theorem s_wi_le {w K : Nat → Nat} : ∀ v, s_wi w K v ≤ s_M
  | 0 => Nat.zero_le _
  | v + 1 => by
    have ih := s_wi_le (w := w) (K := K) v
    have e : s_wi w K (v + 1) = if w v = 0 ∨ K v = 0 then s_wi w K v else min (s_wi w K v + w v * K v) s_M := rfl
    rw [e]; split <;> omega
theorem s_wi_sim {w K : Nat → Nat} : ∀ v, s_sim (s_wi w K v) (s_sm (fun j => w j * K j) v)
  | 0 => rfl
  | v + 1 => by
    have ih := s_wi_sim (w := w) (K := K) v
    have e : s_wi w K (v + 1) = if w v = 0 ∨ K v = 0 then s_wi w K v else min (s_wi w K v + w v * K v) s_M := rfl
    rw [e]
    show s_sim _ (s_sm (fun j => w j * K j) v + w v * K v)
    unfold s_sim at *
    split
    · rename_i h
      have z : w v * K v = 0 := by
        rcases h with h | h <;> rw [h] <;> simp
      rw [z]; omega
    · omega
theorem s_ci_le {w K c : Nat → Nat} {b : Nat} : ∀ v, (∀ j, j < v → c j < b) → s_ci w K c v ≤ b
  | 0, _ => Nat.zero_le _
  | v + 1, h => by
    have ih := s_ci_le (w := w) (K := K) (c := c) (b := b) v (fun j hj => h j (by omega))
    have h1 := h v (by omega)
    have e : s_ci w K c (v + 1) = if w v = 0 ∨ K v = 0 then s_ci w K c v else if s_ci w K c v = 0 ∨ c v + 1 < s_ci w K c v then c v + 1 else s_ci w K c v := rfl
    rw [e]; split
    · omega
    · split <;> omega
theorem s_wi_pos {w K : Nat → Nat} : ∀ v, s_wi w K v ≠ 0 ↔ ∃ j, j < v ∧ w j ≠ 0 ∧ K j ≠ 0
  | 0 => ⟨fun h => absurd rfl h, fun ⟨j, hj, _⟩ => absurd hj (Nat.not_lt_zero _)⟩
  | v + 1 => by
    have ih := s_wi_pos (w := w) (K := K) v
    have m1 := s_M1
    have e : s_wi w K (v + 1) = if w v = 0 ∨ K v = 0 then s_wi w K v else min (s_wi w K v + w v * K v) s_M := rfl
    rw [e]
    by_cases h : w v = 0 ∨ K v = 0
    · rw [if_pos h, ih]
      constructor
      · intro ⟨j, hj, h2⟩; exact ⟨j, by omega, h2⟩
      · intro ⟨j, hj, h2⟩
        have hjv : j ≠ v := fun hv => h.elim (fun z => h2.1 (by rw [hv]; exact z)) (fun z => h2.2 (by rw [hv]; exact z))
        exact ⟨j, by omega, h2⟩
    · rw [if_neg h]
      constructor
      · intro _; exact ⟨v, by omega, by omega, by omega⟩
      · intro _
        have : 0 < w v * K v := Nat.mul_pos (by omega) (by omega)
        omega
theorem s_ci_spec {w K c : Nat → Nat} : ∀ v, (∀ j, j < v → w j ≠ 0 → K j ≠ 0 → s_ci w K c v ≤ c j + 1 ∧ s_ci w K c v ≠ 0) ∧ (s_ci w K c v ≠ 0 → ∃ j, j < v ∧ w j ≠ 0 ∧ K j ≠ 0 ∧ s_ci w K c v = c j + 1)
  | 0 => ⟨fun j hj => absurd hj (Nat.not_lt_zero _), fun h => absurd rfl h⟩
  | v + 1 => by
    obtain ⟨i1, i2⟩ := s_ci_spec (w := w) (K := K) (c := c) v
    have e : s_ci w K c (v + 1) = if w v = 0 ∨ K v = 0 then s_ci w K c v else if s_ci w K c v = 0 ∨ c v + 1 < s_ci w K c v then c v + 1 else s_ci w K c v := rfl
    rw [e]
    by_cases h : w v = 0 ∨ K v = 0
    · rw [if_pos h]
      refine ⟨fun j hj a b => ?_, fun hh => ?_⟩
      · have hjv : j ≠ v := fun hv => h.elim (fun z => a (by rw [hv]; exact z)) (fun z => b (by rw [hv]; exact z))
        exact i1 j (by omega) a b
      · obtain ⟨j, hj, r⟩ := i2 hh
        exact ⟨j, by omega, r⟩
    · rw [if_neg h]
      by_cases h2 : s_ci w K c v = 0 ∨ c v + 1 < s_ci w K c v
      · rw [if_pos h2]
        refine ⟨fun j hj a b => ⟨?_, by omega⟩, fun _ => ⟨v, by omega, by omega, by omega, rfl⟩⟩
        by_cases hjv : j = v
        · subst hjv; omega
        · have := i1 j (by omega) a b
          omega
      · rw [if_neg h2]
        refine ⟨fun j hj a b => ?_, fun hh => ?_⟩
        · by_cases hjv : j = v
          · subst hjv; omega
          · exact i1 j (by omega) a b
        · obtain ⟨j, hj, r⟩ := i2 hh
          exact ⟨j, by omega, r⟩
/-- what the reference's two rows hold, to the place t -/
def s_wc (f g : Nat → Int32) (n e : Nat) (w c : Nat → Nat) (t : Nat) : Prop := w 0 = 1 ∧ c 0 = 0 ∧ ∀ x, 1 ≤ x → x ≤ t → w x = s_wi w (fun v => s_K f g n e v x) x ∧ c x = s_ci w (fun v => s_K f g n e v x) c x
theorem s_wc_ways {f g : Nat → Int32} {n e : Nat} {w c : Nat → Nat} (he : 1 ≤ e) (h : s_wc f g n e w c e) : w e = s_wl (s_P (s_fit f g n e) n) e := by
  obtain ⟨h0, _, h1⟩ := h
  have key : s_sim (w e) (s_P (s_fit f g n e) n (e + 1) - s_P (s_fit f g n e) n e) := by
    refine s_fwbw (A := w) (W := fun k => s_P (s_fit f g n e) n (k + 1) - s_P (s_fit f g n e) n k) (K := s_K f g n e) he h0 (by show s_P _ n 1 - s_P _ n 0 = 1; rw [s_P_1, s_P_0]) ?_ ?_
    · intro t ht1 ht2
      have := (h1 t ht1 ht2).1
      rw [this]
      exact s_wi_sim t
    · intro k hk1 hk2
      obtain ⟨k', hk'⟩ : ∃ k', k = k' + 1 := ⟨k - 1, by omega⟩
      subst hk'
      show s_sim (s_P (s_fit f g n e) n (k' + 2) - s_P (s_fit f g n e) n (k' + 1)) _
      rw [s_P_2, Nat.add_sub_cancel_left, s_acc_sm (fun k => (s_P_s k).1) n (fun i _ => s_fit_le _ _)]
      have e1 : s_sm (fun j => s_ct (fun i => decide (k' + 1 - j ≤ s_fit f g n e (k' + 1) i)) n * (s_P (s_fit f g n e) n (j + 1) - s_P (s_fit f g n e) n j)) (k' + 1) = s_sm (fun j => s_K f g n e (e - (k' + 1)) (e - j) * (s_P (s_fit f g n e) n (j + 1) - s_P (s_fit f g n e) n j)) (k' + 1) := by
        refine s_sm_congr _ (fun j hj => ?_)
        unfold s_K
        rw [show e - j - (e - (k' + 1)) = k' + 1 - j by omega, show e - (e - (k' + 1)) = k' + 1 by omega]
      rw [e1]
      unfold s_sim; omega
  have a1 : w e ≤ s_M := by rw [(h1 e he (Nat.le_refl _)).1]; exact s_wi_le _
  have a2 := s_P_s (fit := s_fit f g n e) (n := n) e
  unfold s_wl
  rw [if_neg (by omega)]
  unfold s_sim at key
  omega
theorem s_lc_ge {f g : Nat → Int32} {n e v : Nat} : ∀ k i, i < k → s_fit f g n e (e - v) i ≤ s_lc f g n e v k
  | 0, i, h => absurd h (Nat.not_lt_zero _)
  | k + 1, i, h => by
    show _ ≤ max (s_lc f g n e v k) (s_fit f g n e (e - v) k)
    by_cases hi : i = k
    · subst hi; omega
    · have := s_lc_ge (f := f) (g := g) (n := n) (e := e) (v := v) k i (by omega)
      omega
theorem s_lc_ex {f g : Nat → Int32} {n e v : Nat} : ∀ k, s_lc f g n e v k ≠ 0 → ∃ i, i < k ∧ s_fit f g n e (e - v) i = s_lc f g n e v k
  | 0, h => absurd rfl h
  | k + 1, h => by
    have e1 : s_lc f g n e v (k + 1) = max (s_lc f g n e v k) (s_fit f g n e (e - v) k) := rfl
    rw [e1] at h ⊢
    by_cases hm : s_lc f g n e v k ≤ s_fit f g n e (e - v) k
    · exact ⟨k, by omega, by omega⟩
    · obtain ⟨i, hi, h2⟩ := s_lc_ex (f := f) (g := g) (n := n) (e := e) (v := v) k (by omega)
      exact ⟨i, by omega, by omega⟩
theorem s_K_lc {f g : Nat → Int32} {n e v t : Nat} (h : v < t) : s_K f g n e v t ≠ 0 ↔ t - v ≤ s_lc f g n e v n := by
  unfold s_K
  rw [s_ct_pos]
  constructor
  · intro ⟨j, hj, h2⟩
    have h3 := of_decide_eq_true h2
    have := s_lc_ge (f := f) (g := g) (n := n) (e := e) (v := v) n j hj
    omega
  · intro h2
    obtain ⟨i, hi, h3⟩ := s_lc_ex (f := f) (g := g) (n := n) (e := e) (v := v) n (by omega)
    exact ⟨i, hi, decide_eq_true (by omega)⟩
theorem s_lc_mono {f g : Nat → Int32} {n e : Nat} (x : Nat) : x + s_lc f g n e x n ≤ x + 1 + s_lc f g n e (x + 1) n := by
  by_cases hz : s_lc f g n e x n = 0
  · omega
  · obtain ⟨i, hi, h3⟩ := s_lc_ex (f := f) (g := g) (n := n) (e := e) (v := x) n hz
    have hle := s_lc_le (f := f) (g := g) (n := n) (e := e) (at_ := x) n
    obtain ⟨t, ht⟩ : ∃ t, e - x = t + 1 := ⟨e - x - 1, by omega⟩
    have e2 : s_fit f g n e (t + 1) i = if i < n then (if f i = g (e - (t + 1)) then s_fit f g n e t (i + 1) + 1 else 0) else 0 := rfl
    rw [ht, e2, if_pos hi] at h3
    by_cases hq : f i = g (e - (t + 1))
    · rw [if_pos hq] at h3
      by_cases hin : i + 1 < n
      · have := s_lc_ge (f := f) (g := g) (n := n) (e := e) (v := x + 1) n (i + 1) hin
        rw [show e - (x + 1) = t by omega] at this
        omega
      · have := s_fit_big (f := f) (g := g) (n := n) (e := e) (i := i + 1) (by omega) t
        omega
    · rw [if_neg hq] at h3; omega
theorem s_mono_le {m : Nat → Nat} (h : ∀ x, m x ≤ m (x + 1)) (x : Nat) : ∀ k, m x ≤ m (x + k)
  | 0 => Nat.le_refl _
  | k + 1 => Nat.le_trans (s_mono_le h x k) (h _)
/-- how far c greedy cuts go -/
def s_ga (lc : Nat → Nat) : Nat → Nat
  | 0 => 0
  | c + 1 => s_ga lc c + lc (s_ga lc c)
theorem s_ga_stuck {lc : Nat → Nat} {c : Nat} (h : lc (s_ga lc c) = 0) : ∀ k, s_ga lc (c + k) = s_ga lc c
  | 0 => rfl
  | k + 1 => by
    show s_ga lc (c + k) + lc (s_ga lc (c + k)) = _
    rw [s_ga_stuck h k, h]; rfl
theorem s_gc_spec {lc : Nat → Nat} {e : Nat} : ∀ m c, e - s_ga lc c ≤ m → (∀ c', c' < c → s_ga lc c' < e) → (∀ r, s_gc lc e m (s_ga lc c) c = some r → e ≤ s_ga lc r ∧ ∀ c', e ≤ s_ga lc c' → r ≤ c') ∧ (s_gc lc e m (s_ga lc c) c = none → ∀ c', s_ga lc c' < e)
  | 0, c, hm, hlt => by
    have e1 : s_gc lc e 0 (s_ga lc c) c = if e ≤ s_ga lc c then some c else none := rfl
    rw [e1, if_pos (by omega)]
    refine ⟨fun r hr => ?_, fun hn => by cases hn⟩
    cases hr
    refine ⟨by omega, fun c' hc' => ?_⟩
    by_cases h : c' < c
    · have := hlt c' h; omega
    · omega
  | m + 1, c, hm, hlt => by
    have e1 : s_gc lc e (m + 1) (s_ga lc c) c = if e ≤ s_ga lc c then some c else if lc (s_ga lc c) = 0 then none else s_gc lc e m (s_ga lc (c + 1)) (c + 1) := rfl
    rw [e1]
    by_cases h1 : e ≤ s_ga lc c
    · rw [if_pos h1]
      refine ⟨fun r hr => ?_, fun hn => by cases hn⟩
      cases hr
      refine ⟨by omega, fun c' hc' => ?_⟩
      by_cases h : c' < c
      · have := hlt c' h; omega
      · omega
    · rw [if_neg h1]
      by_cases h2 : lc (s_ga lc c) = 0
      · rw [if_pos h2]
        refine ⟨fun r hr => by (cases hr), fun _ c' => ?_⟩
        by_cases h : c' < c
        · exact hlt c' h
        · have := s_ga_stuck h2 (c' - c)
          rw [show c + (c' - c) = c' by omega] at this
          omega
      · rw [if_neg h2]
        refine s_gc_spec m (c + 1) ?_ ?_
        · show e - (s_ga lc c + lc (s_ga lc c)) ≤ m
          omega
        · intro c' hc'
          by_cases h : c' < c
          · exact hlt c' h
          · rw [show c' = c by omega]; omega
theorem s_wc_cuts {f g : Nat → Int32} {n e : Nat} {w c : Nat → Nat} (h : s_wc f g n e w c e) : (if w e = 0 then -1000000005 else nI (c e)) = s_oN (s_gc (fun x => s_lc f g n e x n) e e 0 0) := by
  obtain ⟨h0, hc0, h1⟩ := h
  have hm : ∀ x y, x ≤ y → x + s_lc f g n e x n ≤ y + s_lc f g n e y n := by
    intro x y hxy
    have := s_mono_le (m := fun x => x + s_lc f g n e x n) (fun x => s_lc_mono x) x (y - x)
    rw [show x + (y - x) = y by omega] at this
    exact this
  have key : ∀ b t, t ≤ b → t ≤ e → (w t ≠ 0 → t ≤ s_ga (fun x => s_lc f g n e x n) (c t)) ∧ (∀ k, t ≤ s_ga (fun x => s_lc f g n e x n) k → w t ≠ 0 ∧ c t ≤ k) := by
    intro b
    induction b with
    | zero =>
      intro t ht _
      rw [show t = 0 by omega, h0, hc0]
      exact ⟨fun _ => Nat.zero_le _, fun k _ => ⟨by omega, by omega⟩⟩
    | succ b ih =>
      intro t ht hte
      by_cases htb : t ≤ b
      · exact ih t htb hte
      · obtain ⟨hw, hc⟩ := h1 t (by omega) hte
        obtain ⟨sp1, sp2⟩ := s_ci_spec (w := w) (K := fun v => s_K f g n e v t) (c := c) t
        have wp := s_wi_pos (w := w) (K := fun v => s_K f g n e v t) t
        constructor
        · intro hwt
          rw [hw] at hwt
          obtain ⟨j, hj, hj1, hj2⟩ := wp.mp hwt
          obtain ⟨v, hv, hv1, hv2, hv3⟩ := sp2 (sp1 j hj hj1 hj2).2
          have i1 := (ih v (by omega) (by omega)).1 hv1
          have k1 := (s_K_lc (f := f) (g := g) (n := n) (e := e) hv).mp hv2
          have m1 := hm _ _ i1
          rw [hc, hv3]
          show t ≤ s_ga _ (c v) + s_lc f g n e (s_ga _ (c v)) n
          omega
        · intro k
          induction k with
          | zero => intro hk; exact absurd hk (by show ¬ t ≤ 0; omega)
          | succ k ihk =>
            intro hk
            by_cases hk2 : t ≤ s_ga (fun x => s_lc f g n e x n) k
            · have := ihk hk2; exact ⟨this.1, by omega⟩
            · have hk3 : t ≤ s_ga (fun x => s_lc f g n e x n) k + s_lc f g n e (s_ga (fun x => s_lc f g n e x n) k) n := hk
              have iv := (ih (s_ga (fun x => s_lc f g n e x n) k) (by omega) (by omega)).2 k (Nat.le_refl _)
              have kv := (s_K_lc (f := f) (g := g) (n := n) (e := e) (v := s_ga (fun x => s_lc f g n e x n) k) (t := t) (by omega)).mpr (by omega)
              have s1 := sp1 (s_ga (fun x => s_lc f g n e x n) k) (by omega) iv.1 kv
              refine ⟨?_, ?_⟩
              · rw [hw]; exact wp.mpr ⟨_, by omega, iv.1, kv⟩
              · rw [hc]; omega
  obtain ⟨k1, k2⟩ := key e e (Nat.le_refl _) (Nat.le_refl _)
  have gs := s_gc_spec (lc := fun x => s_lc f g n e x n) (e := e) e 0 (by omega) (fun c' hc' => absurd hc' (Nat.not_lt_zero _))
  have e0 : s_ga (fun x => s_lc f g n e x n) 0 = 0 := rfl
  rw [e0] at gs
  cases hg : s_gc (fun x => s_lc f g n e x n) e e 0 0 with
  | none =>
    have := gs.2 hg
    by_cases hw : w e = 0
    · rw [if_pos hw]; rfl
    · have := this (c e); have := k1 hw; omega
  | some r =>
    obtain ⟨g1, g2⟩ := gs.1 r hg
    obtain ⟨a1, a2⟩ := k2 r g1
    have a3 := g2 _ (k1 a1)
    rw [if_neg a1, show c e = r by omega]; rfl
