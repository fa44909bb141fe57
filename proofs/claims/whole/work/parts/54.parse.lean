/-! the maths of reading: what an item and a row do to the class's two scanners -/
def s_beg (v : Nat) : Prop := s_isT v = true ∨ v = 40 ∨ s_syl v ≠ none
theorem s_isT_ne {v : Nat} (h : s_isT v = true) : ¬ v = 40 ∧ ¬ v = 41 ∧ 50 ≤ v ∧ v ≤ 57 := by
  have := of_decide_eq_true h
  omega
section PM
variable {tb : Nat → Nat} {n deep i j i0 op p m : Nat} {due : Bool} {l x y : List Nat} {stk : List (Nat × Nat)}
theorem fp_s : s_fp tb (m + 1) i op due = if tb i = 40 then (if op < 6 then s_fp tb m (i + 1) (op + 1) true else some i) else if tb i = 41 then (if due = true ∨ op = 0 then some i else s_fp tb m (i + 1) (op - 1) due) else if s_isT (tb i) = true then s_fp tb m (i + 1) op true else if s_syl (tb i) = none then some i else s_fp tb m (i + 1) op false := rfl
theorem fp_T (h : s_isT (tb i) = true) : s_fp tb (m + 1) i op due = s_fp tb m (i + 1) op true := by
  have := s_isT_ne h
  rw [fp_s, if_neg this.1, if_neg this.2.1, if_pos h]
theorem fp_open (h : tb i = 40) (ho : op < 6) : s_fp tb (m + 1) i op due = s_fp tb m (i + 1) (op + 1) true := by
  rw [fp_s, if_pos h, if_pos ho]
theorem fp_syl {s : Nat} (h : s_syl (tb i) = some s) : s_fp tb (m + 1) i op due = s_fp tb m (i + 1) op false := by
  have := s_syl_le h
  rw [fp_s, if_neg this.2.2.1, if_neg this.2.2.2.1, if_neg (by rw [this.2.2.2.2]; decide), if_neg (by rw [h]; exact fun e => by cases e)]
theorem fp_close (h : tb i = 41) : s_fp tb (m + 1) i (op + 1) false = s_fp tb m (i + 1) op false := by
  rw [fp_s, if_neg (by omega), if_pos h, if_neg (by simp)]
  rfl
theorem fp_beg (h : s_beg (tb i)) : s_fp tb (m + 1) i op due = s_fp tb (m + 1) i op true := by
  rcases h with h | h | h
  · rw [fp_T h, fp_T h]
  · rw [fp_s, fp_s, if_pos h, if_pos h]
  · cases hs : s_syl (tb i) with
    | none => exact absurd hs h
    | some s => rw [fp_syl hs, fp_syl hs]
theorem fp_stop (h : i < n → ¬ s_isT (tb i) = true ∧ ¬ (tb i = 40 ∧ deep < 6) ∧ s_syl (tb i) = none) : s_fp tb (n - i) i deep true = some i := by
  cases hm : n - i with
  | zero => exact if_pos (Or.inl rfl)
  | succ m =>
    obtain ⟨h1, h2, h3⟩ := h (by omega)
    rw [fp_s]
    by_cases a : tb i = 40
    · rw [if_pos a, if_neg (fun x => h2 ⟨a, x⟩)]
    · rw [if_neg a]
      by_cases b : tb i = 41
      · rw [if_pos b, if_pos (Or.inl rfl)]
      · rw [if_neg b, if_neg h1, if_pos h3]
theorem fp_stop2 (h : i < n → ¬ s_beg (tb i) ∧ (tb i = 41 → op = 0)) (ho : n ≤ i → 0 < op) : s_fp tb (n - i) i op false = some i := by
  cases hm : n - i with
  | zero => exact if_pos (Or.inr (ho (by omega)))
  | succ m =>
    obtain ⟨h1, h2⟩ := h (by omega)
    rw [fp_s, if_neg (fun x => h1 (Or.inr (Or.inl x)))]
    by_cases b : tb i = 41
    · rw [if_pos b, if_pos (Or.inr (h2 b))]
    · rw [if_neg b, if_neg (fun x => h1 (Or.inl x)), if_pos (Classical.byContradiction (fun x => h1 (Or.inr (Or.inr x))))]
theorem sp_s {t : Nat} : s_sp tb (m + 1) i l t stk = if s_isT (tb i) = true then s_sp tb m (i + 1) l (min (t * (tb i - 48)) 61) stk
    else if tb i = 40 ∧ stk.length < 6 then s_sp tb m (i + 1) l 1 ((l.length, t) :: stk)
    else if tb i = 41 ∧ 0 < stk.length then (s_say l (stk.headD (0, 0)).1 (stk.headD (0, 0)).2).bind (fun l' => s_sp tb m (i + 1) l' t stk.tail)
    else if l.length < 60 then (s_say (l ++ [(s_syl (tb i)).getD 0]) l.length t).bind (fun l' => s_sp tb m (i + 1) l' 1 stk)
    else none := rfl
theorem s_ext_app {t : Nat} : s_ext (l ++ y) l.length t = l ++ s_rep t y := by
  unfold s_ext
  rw [List.take_left, List.drop_left]
theorem s_say_app {t : Nat} (hy : y ≠ []) : s_say (l ++ y) l.length t = if l.length + y.length * t ≤ 60 then some (l ++ s_rep t y) else none := by
  have : 0 < y.length := List.length_pos_iff.mpr hy
  unfold s_say
  rw [s_ext_app, List.length_append, Nat.add_sub_cancel_left]
  by_cases h : l.length + y.length * t ≤ 60
  · rw [if_pos ⟨by omega, h⟩, if_pos h]
  · rw [if_neg (fun x => h x.2), if_neg h]
theorem s_bind_ite {α β : Type} {c : Prop} [Decidable c] {a : α} {f : α → Option β} : (if c then some a else none).bind f = if c then f a else none := by
  split <;> rfl
theorem s_rep_1 {s : Nat} (t : Nat) : (s_rep t [s]).length = t := by rw [s_rep_len]; exact Nat.one_mul t
/-- repeated too often is too long, however it is clipped -/
theorem s_clip {a b p : Nat} (hb : 0 < b) (ha : a ≤ 60) {α : Type} {f : Nat → Option α} : (if a + b * min p 61 ≤ 60 then f (min p 61) else none) = if a + b * p ≤ 60 then f p else none := by
  by_cases h : p ≤ 61
  · rw [show min p 61 = p by omega]
  · have h1 : b * 61 ≤ b * p := Nat.mul_le_mul_left _ (by omega)
    have h2 : 1 * 61 ≤ b * 61 := Nat.mul_le_mul_right _ hb
    rw [show min p 61 = 61 by omega, if_neg (by omega), if_neg (by omega)]
theorem sp_syl {s : Nat} {t : Nat} (h : s_syl (tb i) = some s) (ht : 1 ≤ t) (hl : l.length ≤ 60) : s_sp tb (m + 1) i l t stk = if l.length + t ≤ 60 then s_sp tb m (i + 1) (l ++ s_rep t [s]) 1 stk else none := by
  have hh := s_syl_le h
  rw [sp_s, if_neg (by rw [hh.2.2.2.2]; decide), if_neg (fun x => hh.2.2.1 x.1), if_neg (fun x => hh.2.2.2.1 x.1), h]
  by_cases hq : l.length < 60
  · rw [if_pos hq, s_say_app (by simp), s_bind_ite]
    show (if l.length + 1 * t ≤ 60 then _ else _) = _
    rw [Nat.one_mul]
    rfl
  · rw [if_neg hq, if_neg (by omega)]
theorem sp_open {t : Nat} (h : tb i = 40) (hs : stk.length < 6) : s_sp tb (m + 1) i l t stk = s_sp tb m (i + 1) l 1 ((l.length, t) :: stk) := by
  rw [sp_s, if_neg (by rw [h]; decide), if_pos ⟨h, hs⟩]
theorem sp_close {t u : Nat} (h : tb i = 41) (hy : y ≠ []) : s_sp tb (m + 1) i (l ++ y) u ((l.length, t) :: stk) = if l.length + y.length * t ≤ 60 then s_sp tb m (i + 1) (l ++ s_rep t y) u stk else none := by
  rw [sp_s, if_neg (by rw [h]; decide), if_neg (fun x => by omega), if_pos ⟨h, by simp⟩]
  show (s_say (l ++ y) l.length t).bind _ = _
  rw [s_say_app hy, s_bind_ite]
  rfl
/-- from i to j stands what is spoken as x -/
def s_gd (tb : Nat → Nat) (n deep i j : Nat) (x : List Nat) : Prop := i < j ∧ j ≤ n ∧ s_fp tb (n - i) i deep true = s_fp tb (n - j) j deep false ∧ x ≠ [] ∧ (∀ v ∈ x, v ≤ 8) ∧ ∀ l stk, stk.length = deep → l.length ≤ 60 → s_sp tb (n - i) i l 1 stk = if l.length + x.length ≤ 60 then s_sp tb (n - j) j (l ++ x) 1 stk else none
/-- from i0 to i stand the numbers whose product is p -/
def s_pre (tb : Nat → Nat) (n deep i0 i p : Nat) : Prop := i0 ≤ i ∧ i ≤ n ∧ 1 ≤ p ∧ s_fp tb (n - i0) i0 deep true = s_fp tb (n - i) i deep true ∧ ∀ l stk, s_sp tb (n - i0) i0 l 1 stk = s_sp tb (n - i) i l (min p 61) stk
theorem pre_0 (h : i ≤ n) : s_pre tb n deep i i 1 := ⟨Nat.le_refl _, h, Nat.le_refl _, rfl, fun _ _ => rfl⟩
theorem s_min_mul {p c : Nat} (hc : 1 ≤ c) (K : Nat) : min (min p K * c) K = min (p * c) K := by
  by_cases h : p ≤ K
  · rw [show min p K = p by omega]
  · have h1 : K * 1 ≤ K * c := Nat.mul_le_mul_left _ hc
    have h2 : K * c ≤ p * c := Nat.mul_le_mul_right _ (by omega)
    rw [show min p K = K by omega]
    omega
theorem pre_s (h : s_pre tb n deep i0 i p) (hi : i < n) (hT : s_isT (tb i) = true) : s_pre tb n deep i0 (i + 1) (p * (tb i - 48)) := by
  obtain ⟨a, b, c, e, f⟩ := h
  have hv := s_isT_ne hT
  have hm : n - i = (n - (i + 1)) + 1 := by omega
  refine ⟨by omega, by omega, Nat.mul_pos c (by omega), ?_, ?_⟩
  · rw [e, hm, fp_T hT]
  · intro l stk
    rw [f, hm, sp_s, if_pos hT, s_min_mul (by omega)]
theorem s_rep_ne (hy : y ≠ []) (hp : 1 ≤ p) : s_rep p y ≠ [] := by
  have h1 : 0 < y.length := List.length_pos_iff.mpr hy
  have h2 := s_rep_len p y
  have h3 : 0 < y.length * p := Nat.mul_pos h1 hp
  exact List.length_pos_iff.mp (by omega)
theorem gd_syl {s : Nat} (h : s_pre tb n deep i0 i p) (hi : i < n) (hs : s_syl (tb i) = some s) : s_gd tb n deep i0 (i + 1) (s_rep p [s]) := by
  obtain ⟨a, b, c, e, f⟩ := h
  have hm : n - i = (n - (i + 1)) + 1 := by omega
  refine ⟨by omega, by omega, ?_, s_rep_ne (by simp) c, ?_, ?_⟩
  · rw [e, hm, fp_syl hs]
  · intro v hv
    have := s_rep_mem hv
    simp at this
    rw [this]
    exact (s_syl_le hs).1
  · intro l stk hk hl
    rw [f, hm, sp_syl hs (by omega) hl]
    have := s_clip (a := l.length) (b := 1) (p := p) (by omega) hl (f := fun t => s_sp tb (n - (i + 1)) (i + 1) (l ++ s_rep t [s]) 1 stk)
    rw [Nat.one_mul, Nat.one_mul] at this
    rw [this, s_rep_1]
theorem gd_open (h : s_pre tb n deep i0 i p) (hi : i < n) (ho : tb i = 40) (hd : deep < 6) (hy : s_gd tb n (deep + 1) (i + 1) j y) (hj : j < n) (hc : tb j = 41) : s_gd tb n deep i0 (j + 1) (s_rep p y) := by
  obtain ⟨a, b, c, e, f⟩ := h
  obtain ⟨a', b', e', c', d', f'⟩ := hy
  have hm : n - i = (n - (i + 1)) + 1 := by omega
  have hm2 : n - j = (n - (j + 1)) + 1 := by omega
  have hyl : 0 < y.length := List.length_pos_iff.mpr c'
  have hpl : y.length * 1 ≤ y.length * p := Nat.mul_le_mul_left _ c
  refine ⟨by omega, by omega, ?_, s_rep_ne c' c, fun v hv => d' v (s_rep_mem hv), ?_⟩
  · rw [e, hm, fp_open ho hd, e', hm2, fp_close hc]
  · intro l stk hk hl
    rw [f, hm, sp_open ho (by omega), f' l ((l.length, min p 61) :: stk) (by simp [hk]) hl, hm2, sp_close hc c', s_rep_len]
    rw [s_clip (a := l.length) (b := y.length) (p := p) hyl hl (f := fun t => s_sp tb (n - (j + 1)) (j + 1) (l ++ s_rep t y) 1 stk)]
    by_cases hq : l.length + y.length ≤ 60
    · rw [if_pos hq]
    · rw [if_neg hq, if_neg (by omega)]
theorem gd_app {j2 : Nat} (h : s_gd tb n deep i j x) (hb : s_beg (tb j)) (h' : s_gd tb n deep j j2 y) : s_gd tb n deep i j2 (x ++ y) := by
  obtain ⟨a, b, e, c, d, f⟩ := h
  obtain ⟨a', b', e', c', d', f'⟩ := h'
  have hm : n - j = (n - j - 1) + 1 := by omega
  refine ⟨by omega, b', ?_, by simp [c], ?_, ?_⟩
  · rw [e, ← e', hm, fp_beg hb]
  · intro v hv
    rcases List.mem_append.mp hv with hv | hv
    · exact d v hv
    · exact d' v hv
  · intro l stk hk hl
    rw [f l stk hk hl, List.length_append]
    by_cases hq : l.length + x.length ≤ 60
    · rw [if_pos hq, f' (l ++ x) stk hk (by rw [List.length_append]; omega), List.length_append, List.append_assoc]
      by_cases hq2 : l.length + x.length + y.length ≤ 60
      · rw [if_pos hq2, if_pos (by omega)]
      · rw [if_neg hq2, if_neg (by omega)]
    · rw [if_neg hq, if_neg (by omega)]
/-- what the whole tape is, when its first row ends at j -/
theorem gd_end (h : s_gd tb n 0 0 j x) (hj : j = n) : s_fp tb n 0 0 true = none ∧ s_sp tb n 0 [] 1 [] = if x.length ≤ 60 then some x else none := by
  subst hj
  obtain ⟨a, b, e, c, d, f⟩ := h
  have f0 := f [] [] rfl (by simp)
  rw [Nat.sub_self] at e f0
  rw [Nat.sub_zero] at e f0
  refine ⟨e, ?_⟩
  rw [f0]
  show (if 0 + x.length ≤ 60 then _ else _) = _
  rw [Nat.zero_add]
  rfl
theorem gd_fault (h : s_gd tb n 0 0 j x) (hj : j < n) (hb : ¬ s_beg (tb j)) : s_fp tb n 0 0 true = some j := by
  obtain ⟨a, b, e, c, d, f⟩ := h
  rw [Nat.sub_zero] at e
  rw [e]
  exact fp_stop2 (fun _ => ⟨hb, fun _ => rfl⟩) (fun x => by omega)
end PM
/-- the row of what is written, from a place on -/
def s_wr (F F' : Nat → Int32) (fr : Nat) (x : List Nat) : Prop := (∀ q, q < fr → F' q = F q) ∧ ∀ q, q < x.length → fr + q < 60 → F' (fr + q) = nI (x.getD q 0)
theorem wr_app {F F' F2 : Nat → Int32} {fr k : Nat} {x y : List Nat} (h : s_wr F F' fr x) (h' : s_wr F' F2 (fr + k) y) (hk : k = x.length ∨ (60 ≤ k ∧ k ≤ x.length)) : s_wr F F2 fr (x ++ y) := by
  refine ⟨fun q hq => by rw [h'.1 q (by omega), h.1 q hq], fun q hq hf => ?_⟩
  rw [List.length_append] at hq
  by_cases hx : q < x.length
  · rw [z_gl hx, h'.1 _ (by omega), h.2 q hx hf]
  · rw [z_gr (by omega)]
    have := h'.2 (q - x.length) (by omega) (by omega)
    rw [show fr + k + (q - x.length) = fr + q by omega] at this
    exact this
