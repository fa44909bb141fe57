section DB
variable {h : zH} {C : Nat → List (Nat × Nat)} {P : Nat → List Nat} {S : Nat → Option (List Int32)} {T : List Nat} {H : Nat → Nat} {O : List (Nat × Nat)} {g d : Nat}
/-- the pairs of gaps that land: over the first n gaps of the grid -/
def s_dbl (g b l : Nat) : Nat → Nat
  | 0 => 0
  | n + 1 => s_dbl g b l n + (if n % g = 0 then s_cnt (s_p g (b + 6 * n) l) 97 else 0)
theorem s_dbl_le {b l : Nat} : ∀ n, s_dbl g b l n ≤ 97 * n
  | 0 => Nat.le_refl _
  | n + 1 => by
    have h1 := s_dbl_le (b := b) (l := l) n
    have h2 := s_cnt_le (p := s_p g (b + 6 * n) l) 97
    show s_dbl g b l n + (if _ then _ else _) ≤ _
    split <;> omega
theorem s_dbl_skip {b l x : Nat} (hg : 1 ≤ g) (hx : x % g = 0) : ∀ m, m ≤ g - 1 → s_dbl g b l (x + 1 + m) = s_dbl g b l (x + 1)
  | 0, _ => rfl
  | m + 1, hm => by
    show s_dbl g b l (x + 1 + m) + (if (x + 1 + m) % g = 0 then _ else _) = _
    rw [s_dbl_skip hg hx m (by omega), if_neg]
    · rfl
    · intro e
      exact s_mod_ne (x := x) (y := x + 1 + m) (a := g) (by omega) (by omega) (by rw [e, hx])
theorem s_dbl_step {b l x : Nat} (hg : 1 ≤ g) (hx : x % g = 0) : s_dbl g b l (x + g) = s_dbl g b l x + s_cnt (s_p g (b + 6 * x) l) 97 := by
  have := s_dbl_skip (b := b) (l := l) hg hx (g - 1) (Nat.le_refl _)
  rw [show x + 1 + (g - 1) = x + g by omega] at this
  rw [this]
  show s_dbl g b l x + (if x % g = 0 then _ else _) = _
  rw [if_pos hx]
theorem s_dbl_out {b l x : Nat} (hg : 1 ≤ g) (hx : x % g = 0) (h1 : 96 < x) (h2 : x < 97 + g) : s_dbl g b l x = s_dbl g b l 97 := by
  have : ∀ m, 97 + m ≤ x → s_dbl g b l (97 + m) = s_dbl g b l 97 := by
    intro m
    induction m with
    | zero => intro _; rfl
    | succ m ih =>
      intro hm
      show s_dbl g b l (97 + m) + (if (97 + m) % g = 0 then _ else _) = _
      rw [ih (by omega), if_neg]
      · exact Nat.add_zero _
      · intro e
        exact s_mod_ne (x := 97 + m) (y := x) (a := g) (by omega) (by omega) (by rw [e, hx])
  have h3 := this (x - 97) (by omega)
  rw [show 97 + (x - 97) = x by omega] at h3
  exact h3
theorem x_doublesA (r : RX h C P S T H O g) {c p how t : Int32} (hb : s_bad c p how t 0) : zD mX7_doubles (d + 3) [.ref 0, .int c, .int p, .int how, .int t] h (some (.int (-1000000001))) h := by
  obtain ⟨r0, -⟩ := id r
  obtain ⟨q0, -⟩ := id r0
  refine zD_of (by decide +kernel) (by exact Nat.le_of_ble_eq_true rfl) ?_
  show zB mX7_doubles _ _ _ 0 [some (.ref 0), some (.int c), some (.int p), some (.int how), some (.int t), none, none, none, none, none] [] _
  refine zj_aload_n dX7_doubles_0 (by rfl) ?_
  refine zj_iload_n dX7_doubles_1 (by rfl) ?_
  refine zj_iload_n dX7_doubles_2 (by rfl) ?_
  refine zj_iload_n dX7_doubles_3 (by rfl) ?_
  refine zj_iload dX7_doubles_4 (by rfl) ?_
  refine zj_iconst (v := 0) dX7_doubles_6 (by decide) ?_
  refine zc_7_114 rfl dX7_doubles_7 (by first | assumption | rfl) (x7_crBad r hb) (by exact Nat.le_of_ble_eq_true rfl) ?_
  refine zj_istore dX7_doubles_10 (by decide) ?_
  refine zj_iload dX7_doubles_12 (by rfl) ?_
  refine zj_if_eq (tgt := 20) dX7_doubles_14 (by decide) (fun zq => absurd zq (by decide)) (fun _ => ?_)
  refine zj_iload dX7_doubles_17 (by rfl) ?_
  refine zj_iret dX7_doubles_19 rfl (Nat.le_refl _) (Nat.le_refl _) ?_
  exact ⟨rfl, rfl⟩
theorem x_doublesN (w : WF C P S T H O g) (r : RX h C P S T H O g) {c p v t : Nat} (hc : c < 4) (hp : p < 6) (hv : v < 2 ^ 31) (hvh : s_how v = true) (ht : t < 2 ^ 31) (he : (C c).length = 0 ∨ (P p).length = 0) : zD mX7_doubles (d + 3) [.ref 0, .int (nI c), .int (nI p), .int (nI v), .int (nI t)] h (some (.int (-1000000002))) h := by
  obtain ⟨r0, -⟩ := id r
  obtain ⟨q0, -⟩ := id r0
  have hR := x7_cr (d := d) (gp := 0) w r hc hp hv hvh ht (by omega)
  rw [if_pos he] at hR
  refine zD_of (by decide +kernel) (by exact Nat.le_of_ble_eq_true rfl) ?_
  show zB mX7_doubles _ _ _ 0 [some (.ref 0), some (.int (nI c)), some (.int (nI p)), some (.int (nI v)), some (.int (nI t)), none, none, none, none, none] [] _
  refine zj_aload_n dX7_doubles_0 (by rfl) ?_
  refine zj_iload_n dX7_doubles_1 (by rfl) ?_
  refine zj_iload_n dX7_doubles_2 (by rfl) ?_
  refine zj_iload_n dX7_doubles_3 (by rfl) ?_
  refine zj_iload dX7_doubles_4 (by rfl) ?_
  refine zj_iconst (v := nI 0) dX7_doubles_6 (by decide) ?_
  refine zc_7_114 rfl dX7_doubles_7 (by first | assumption | rfl) hR (by exact Nat.le_of_ble_eq_true rfl) ?_
  refine zj_istore dX7_doubles_10 (by decide) ?_
  refine zj_iload dX7_doubles_12 (by rfl) ?_
  refine zj_if_eq (tgt := 20) dX7_doubles_14 (by decide) (fun zq => absurd zq (by decide)) (fun _ => ?_)
  refine zj_iload dX7_doubles_17 (by rfl) ?_
  refine zj_iret dX7_doubles_19 rfl (Nat.le_refl _) (Nat.le_refl _) ?_
  exact ⟨rfl, rfl⟩
theorem x_doubles_l (w : WF C P S T H O g) (r : RX h C P S T H O g) {b l : Nat} {v1 v2 v3 v4 v5 : Int32} (hl : 0 < l ∧ l < 3000) (h2 : l = 2 * (l / 2)) : ∀ m x, x % g = 0 → x < 97 + g → 97 ≤ x + m → zB mX7_doubles (d + 2) (some (.int (nI (s_dbl g b l 97)))) h 46 [some (.ref 0), some (.int v1), some (.int v2), some (.int v3), some (.int v4), some (.int v5), some (.int (nI (s_w b l))), some (.int (nI l)), some (.int (nI (s_dbl g b l x))), some (.int (nI x))] [] h := by
  obtain ⟨r0, -⟩ := id r
  obtain ⟨q0, -⟩ := id r0
  obtain ⟨wg1, wg2⟩ := w.2.2.2.2.2.2
  have hlt := s_w_lt (b := b) hl.1
  have hX := j9_max (d := d + 1) (h := h) (x := 1) (y := g) (by omega) (by omega)
  rw [Nat.max_eq_right wg1] at hX
  intro m
  induction m with
  | zero =>
    intro x hx h1 h3
    refine zj_iload dX7_doubles_46 (by rfl) ?_
    refine zj_bipush (v := nI 96) dX7_doubles_48 (by decide) ?_
    refine zj_icmp_gtN (tgt := 92) dX7_doubles_50 (by decide) (by omega) (fun _ => ?_) (fun zq => absurd (by omega) zq)
    refine zj_iload dX7_doubles_92 (by rfl) ?_
    refine zj_iret dX7_doubles_94 rfl (Nat.le_refl _) (Nat.le_refl _) ?_
    exact ⟨by rw [s_dbl_out (by omega) hx (by omega) (by omega)], rfl⟩
  | succ m ih =>
    intro x hx h1 h3
    by_cases hx96 : x ≤ 96
    · have hJ := ih (x + g) (by rw [s_mod_step (by omega)]; exact hx) (by omega) (by omega)
      rw [s_dbl_step (by omega) hx] at hJ
      have hG := x7_lessGaps (d := d) (h := h) (w := s_w b l) (t := 6 * x) (l := l) (by omega) (by omega) (by omega)
      rw [s_w_add hl.1, Int.toNat_natCast] at hG
      have hF := x7_gapsFilling (d := d) (b := b + 6 * x) (a := l / 2) w r (by omega)
      rw [← h2] at hF
      refine zj_iload dX7_doubles_46 (by rfl) ?_
      refine zj_bipush (v := nI 96) dX7_doubles_48 (by decide) ?_
      refine zj_icmp_gtN (tgt := 92) dX7_doubles_50 (by decide) (by omega) (fun zq => absurd zq (by omega)) (fun _ => ?_)
      refine zj_iload dX7_doubles_53 (by rfl) ?_
      refine zj_aload_n dX7_doubles_55 (by rfl) ?_
      refine zj_iload dX7_doubles_56 (by rfl) ?_
      refine zj_bipush (v := nI 6) dX7_doubles_58 (by decide) ?_
      refine zj_iload dX7_doubles_60 (by rfl) ?_
      refine zj_imulN dX7_doubles_62 ?_
      refine zj_iload dX7_doubles_63 (by rfl) ?_
      refine zc_7_124 rfl dX7_doubles_65 hG (by exact Nat.le_of_ble_eq_true rfl) ?_
      refine zj_iload dX7_doubles_68 (by rfl) ?_
      refine zc_7_128 rfl dX7_doubles_70 (by first | assumption | rfl) hF (by exact Nat.le_of_ble_eq_true rfl) ?_
      refine zj_iaddN dX7_doubles_73 ?_
      refine zj_istore dX7_doubles_74 (by decide) ?_
      refine zj_iload dX7_doubles_76 (by rfl) ?_
      refine zj_iconst (v := nI 1) dX7_doubles_78 (by decide) ?_
      refine zj_aload_n dX7_doubles_79 (by rfl) ?_
      refine zg_7_55 rfl dX7_doubles_80 (by first | assumption | rfl) (by rfl) ?_
      refine zc_7_134 rfl dX7_doubles_83 hX (by exact Nat.le_of_ble_eq_true rfl) ?_
      refine zj_iaddN dX7_doubles_86 ?_
      refine zj_istore dX7_doubles_87 (by decide) ?_
      refine zj_goto (tgt := 46) dX7_doubles_89 (by decide) ?_
      exact hJ
    · refine zj_iload dX7_doubles_46 (by rfl) ?_
      refine zj_bipush (v := nI 96) dX7_doubles_48 (by decide) ?_
      refine zj_icmp_gtN (tgt := 92) dX7_doubles_50 (by decide) (by omega) (fun _ => ?_) (fun zq => absurd (by omega) zq)
      refine zj_iload dX7_doubles_92 (by rfl) ?_
      refine zj_iret dX7_doubles_94 rfl (Nat.le_refl _) (Nat.le_refl _) ?_
      exact ⟨by rw [s_dbl_out (by omega) hx (by omega) (by omega)], rfl⟩
theorem x_doubles (w : WF C P S T H O g) (r : RX h C P S T H O g) {c p v t : Nat} (hc : c < 4) (hp : p < 6) (hv : v < 2 ^ 31) (hvh : s_how v = true) (ht : t < 2 ^ 31) (he : ¬ ((C c).length = 0 ∨ (P p).length = 0)) : zD mX7_doubles (d + 3) [.ref 0, .int (nI c), .int (nI p), .int (nI v), .int (nI t)] h (some (.int (nI (s_dbl g (s_base (P p).length t v 9) (s_cl C c) 97)))) h := by
  obtain ⟨r0, -⟩ := id r
  obtain ⟨q0, -⟩ := id r0
  have hR := x7_cr (d := d) (gp := 0) w r hc hp hv hvh ht (by omega)
  rw [if_neg he] at hR
  have hL := s_cl_pos w.1 hc (fun e => he (Or.inl e))
  have hLe := s_cl_le w.1 hc
  have h2 := s_cl_2 (C := C) (i := c)
  have hW := x7_wantingIn (d := d) (k := 9) w r hc hp hv (s_how_1 hvh) ht (by omega) (fun e => he (Or.inl e)) (fun e => he (Or.inr e))
  refine zD_of (by decide +kernel) (by exact Nat.le_of_ble_eq_true rfl) ?_
  show zB mX7_doubles _ _ _ 0 [some (.ref 0), some (.int (nI c)), some (.int (nI p)), some (.int (nI v)), some (.int (nI t)), none, none, none, none, none] [] _
  refine zj_aload_n dX7_doubles_0 (by rfl) ?_
  refine zj_iload_n dX7_doubles_1 (by rfl) ?_
  refine zj_iload_n dX7_doubles_2 (by rfl) ?_
  refine zj_iload_n dX7_doubles_3 (by rfl) ?_
  refine zj_iload dX7_doubles_4 (by rfl) ?_
  refine zj_iconst (v := nI 0) dX7_doubles_6 (by decide) ?_
  refine zc_7_114 rfl dX7_doubles_7 (by first | assumption | rfl) hR (by exact Nat.le_of_ble_eq_true rfl) ?_
  refine zj_istore dX7_doubles_10 (by decide) ?_
  refine zj_iload dX7_doubles_12 (by rfl) ?_
  refine zj_if_eq (tgt := 20) dX7_doubles_14 (by decide) (fun _ => ?_) (fun zq => absurd (rfl) zq)
  refine zj_aload_n dX7_doubles_20 (by rfl) ?_
  refine zj_iload_n dX7_doubles_21 (by rfl) ?_
  refine zj_iload_n dX7_doubles_22 (by rfl) ?_
  refine zj_iload_n dX7_doubles_23 (by rfl) ?_
  refine zj_iload dX7_doubles_24 (by rfl) ?_
  refine zj_bipush (v := nI 9) dX7_doubles_26 (by decide) ?_
  refine zc_7_118 rfl dX7_doubles_28 (by first | assumption | rfl) hW (by exact Nat.le_of_ble_eq_true rfl) ?_
  refine zj_istore dX7_doubles_31 (by decide) ?_
  refine zj_aload_n dX7_doubles_33 (by rfl) ?_
  refine zj_iload_n dX7_doubles_34 (by rfl) ?_
  refine zc_7_121 rfl dX7_doubles_35 (by first | assumption | rfl) (x7_lengthOf w r hc) (by exact Nat.le_of_ble_eq_true rfl) ?_
  refine zj_istore dX7_doubles_38 (by decide) ?_
  refine zj_iconst (v := nI 0) dX7_doubles_40 (by decide) ?_
  refine zj_istore dX7_doubles_41 (by decide) ?_
  refine zj_iconst (v := nI 0) dX7_doubles_43 (by decide) ?_
  refine zj_istore dX7_doubles_44 (by decide) ?_
  exact x_doubles_l (d := d + 1) w r (by omega) h2 97 0 (Nat.zero_mod _) (by omega) (by omega)
/-- the least pair so far: answer and sum, over the first n gaps of the grid -/
def s_lst (g b l : Nat) : Nat → Option (Nat × Nat)
  | 0 => none
  | n + 1 => if n % g = 0 then (match s_nth (s_p g (b + 6 * n) l) 97 0 0 with
      | none => s_lst g b l n
      | some y => match s_lst g b l n with
        | none => some (n, y)
        | some q => if n + y < q.1 + q.2 then some (n, y) else some q) else s_lst g b l n
def s_l1 (o : Option (Nat × Nat)) : Int32 := match o with
  | none => -1000000005
  | some q => nI (1000 * q.1 + q.2)
def s_l2 (o : Option (Nat × Nat)) : Nat := match o with
  | none => 193
  | some q => q.1 + q.2
theorem s_lst_b {b l : Nat} : ∀ n, n ≤ 97 → ∀ q, s_lst g b l n = some q → q.1 ≤ 96 ∧ q.2 ≤ 96
  | 0, _, _, h => by cases h
  | n + 1, hn, q, h => by
    have ih := s_lst_b (b := b) (l := l) n (by omega)
    unfold s_lst at h
    split at h
    · split at h
      · exact ih q h
      · rename_i y hy
        have hb := s_nth_le _ _ _ _ hy
        split at h
        · cases h
          show n ≤ 96 ∧ y ≤ 96
          omega
        · rename_i q2 hq2
          split at h
          · cases h
            show n ≤ 96 ∧ y ≤ 96
            omega
          · cases h
            exact ih _ hq2
    · exact ih q h
theorem s_lst_no {b l x : Nat} : ∀ m, (∀ y, x ≤ y → y < x + m → ¬ y % g = 0) → s_lst g b l (x + m) = s_lst g b l x
  | 0, _ => rfl
  | m + 1, h => by
    show (if (x + m) % g = 0 then _ else s_lst g b l (x + m)) = _
    rw [if_neg (h (x + m) (by omega) (by omega)), s_lst_no m (fun y h1 h2 => h y h1 (by omega))]
theorem s_lst_step {b l x : Nat} (hg : 1 ≤ g) (hx : x % g = 0) : s_lst g b l (x + g) = match s_nth (s_p g (b + 6 * x) l) 97 0 0 with
      | none => s_lst g b l x
      | some y => match s_lst g b l x with
        | none => some (x, y)
        | some q => if x + y < q.1 + q.2 then some (x, y) else some q := by
  have := s_lst_no (g := g) (b := b) (l := l) (x := x + 1) (g - 1) (fun y h1 h2 e => s_mod_ne (x := x) (y := y) (a := g) (by omega) (by omega) (by rw [e, hx]))
  rw [show x + 1 + (g - 1) = x + g by omega] at this
  rw [this]
  show (if x % g = 0 then _ else _) = _
  rw [if_pos hx]
theorem s_lst_out {b l x : Nat} (hx : x % g = 0) (h1 : 96 < x) (h2 : x < 97 + g) : s_lst g b l x = s_lst g b l 97 := by
  have := s_lst_no (g := g) (b := b) (l := l) (x := 97) (x - 97) (fun y h3 h4 e => s_mod_ne (x := y) (y := x) (a := g) (by omega) (by omega) (by rw [e, hx]))
  rw [show 97 + (x - 97) = x by omega] at this
  exact this
theorem x_leastA (r : RX h C P S T H O g) {c p how t : Int32} (hb : s_bad c p how t 0) : zD mX7_least (d + 3) [.ref 0, .int c, .int p, .int how, .int t] h (some (.int (-1000000001))) h := by
  obtain ⟨r0, -⟩ := id r
  obtain ⟨q0, -⟩ := id r0
  refine zD_of (by decide +kernel) (by exact Nat.le_of_ble_eq_true rfl) ?_
  show zB mX7_least _ _ _ 0 [some (.ref 0), some (.int c), some (.int p), some (.int how), some (.int t), none, none, none, none, none, none, none] [] _
  refine zj_aload_n dX7_least_0 (by rfl) ?_
  refine zj_iload_n dX7_least_1 (by rfl) ?_
  refine zj_iload_n dX7_least_2 (by rfl) ?_
  refine zj_iload_n dX7_least_3 (by rfl) ?_
  refine zj_iload dX7_least_4 (by rfl) ?_
  refine zj_iconst (v := 0) dX7_least_6 (by decide) ?_
  refine zc_7_114 rfl dX7_least_7 (by first | assumption | rfl) (x7_crBad r hb) (by exact Nat.le_of_ble_eq_true rfl) ?_
  refine zj_istore dX7_least_10 (by decide) ?_
  refine zj_iload dX7_least_12 (by rfl) ?_
  refine zj_if_eq (tgt := 20) dX7_least_14 (by decide) (fun zq => absurd zq (by decide)) (fun _ => ?_)
  refine zj_iload dX7_least_17 (by rfl) ?_
  refine zj_iret dX7_least_19 rfl (Nat.le_refl _) (Nat.le_refl _) ?_
  exact ⟨rfl, rfl⟩
theorem x_leastN (w : WF C P S T H O g) (r : RX h C P S T H O g) {c p v t : Nat} (hc : c < 4) (hp : p < 6) (hv : v < 2 ^ 31) (hvh : s_how v = true) (ht : t < 2 ^ 31) (he : (C c).length = 0 ∨ (P p).length = 0) : zD mX7_least (d + 3) [.ref 0, .int (nI c), .int (nI p), .int (nI v), .int (nI t)] h (some (.int (-1000000002))) h := by
  obtain ⟨r0, -⟩ := id r
  obtain ⟨q0, -⟩ := id r0
  have hR := x7_cr (d := d) (gp := 0) w r hc hp hv hvh ht (by omega)
  rw [if_pos he] at hR
  refine zD_of (by decide +kernel) (by exact Nat.le_of_ble_eq_true rfl) ?_
  show zB mX7_least _ _ _ 0 [some (.ref 0), some (.int (nI c)), some (.int (nI p)), some (.int (nI v)), some (.int (nI t)), none, none, none, none, none, none, none] [] _
  refine zj_aload_n dX7_least_0 (by rfl) ?_
  refine zj_iload_n dX7_least_1 (by rfl) ?_
  refine zj_iload_n dX7_least_2 (by rfl) ?_
  refine zj_iload_n dX7_least_3 (by rfl) ?_
  refine zj_iload dX7_least_4 (by rfl) ?_
  refine zj_iconst (v := nI 0) dX7_least_6 (by decide) ?_
  refine zc_7_114 rfl dX7_least_7 (by first | assumption | rfl) hR (by exact Nat.le_of_ble_eq_true rfl) ?_
  refine zj_istore dX7_least_10 (by decide) ?_
  refine zj_iload dX7_least_12 (by rfl) ?_
  refine zj_if_eq (tgt := 20) dX7_least_14 (by decide) (fun zq => absurd zq (by decide)) (fun _ => ?_)
  refine zj_iload dX7_least_17 (by rfl) ?_
  refine zj_iret dX7_least_19 rfl (Nat.le_refl _) (Nat.le_refl _) ?_
  exact ⟨rfl, rfl⟩
theorem s_nN {y : Nat} (hy : y < 2 ^ 31) : ¬ nI y = -1000000005 := fun e => by
  have h1 : (nI y).toInt = (-1000000005 : Int32).toInt := by rw [e]
  rw [nI_toInt hy] at h1
  have h2 : (-1000000005 : Int32).toInt = -1000000005 := by decide
  omega
theorem x_least_l (w : WF C P S T H O g) (r : RX h C P S T H O g) {b l : Nat} {v1 v2 v3 v4 v5 : Int32} (hl : 0 < l ∧ l < 3000) (h2 : l = 2 * (l / 2)) : ∀ m x o11, x % g = 0 → x < 97 + g → 97 ≤ x + m → zB mX7_least (d + 2) (some (.int (s_l1 (s_lst g b l 97)))) h 52 [some (.ref 0), some (.int v1), some (.int v2), some (.int v3), some (.int v4), some (.int v5), some (.int (nI (s_w b l))), some (.int (nI l)), some (.int (s_l1 (s_lst g b l x))), some (.int (nI (s_l2 (s_lst g b l x)))), some (.int (nI x)), o11] [] h := by
  obtain ⟨r0, -⟩ := id r
  obtain ⟨q0, -⟩ := id r0
  obtain ⟨wg1, wg2⟩ := w.2.2.2.2.2.2
  have hlt := s_w_lt (b := b) hl.1
  have hX := j9_max (d := d + 1) (h := h) (x := 1) (y := g) (by omega) (by omega)
  rw [Nat.max_eq_right wg1] at hX
  intro m
  induction m with
  | zero =>
    intro x o11 hx h1 h3
    refine zj_iload dX7_least_52 (by rfl) ?_
    refine zj_bipush (v := nI 96) dX7_least_54 (by decide) ?_
    refine zj_icmp_gtN (tgt := 131) dX7_least_56 (by decide) (by omega) (fun _ => ?_) (fun zq => absurd (by omega) zq)
    refine zj_iload dX7_least_131 (by rfl) ?_
    refine zj_iret dX7_least_133 rfl (Nat.le_refl _) (Nat.le_refl _) ?_
    exact ⟨by rw [s_lst_out hx (by omega) (by omega)], rfl⟩
  | succ m ih =>
    intro x o11 hx h1 h3
    by_cases hx96 : x ≤ 96
    · have hJ := fun x11 => ih (x + g) x11 (by rw [s_mod_step (by omega)]; exact hx) (by omega) (by omega)
      rw [s_lst_step (by omega) hx] at hJ
      have hG := x7_lessGaps (d := d) (h := h) (w := s_w b l) (t := 6 * x) (l := l) (by omega) (by omega) (by omega)
      rw [s_w_add hl.1, Int.toNat_natCast] at hG
      have hF := x7_gapFilling (d := d) (b := b + 6 * x) (a := l / 2) (i := 0) w r (by omega) (by omega)
      rw [← h2] at hF
      cases hn : s_nth (s_p g (b + 6 * x) l) 97 0 0 with
      | none =>
        rw [hn] at hJ hF
        refine zj_iload dX7_least_52 (by rfl) ?_
        refine zj_bipush (v := nI 96) dX7_least_54 (by decide) ?_
        refine zj_icmp_gtN (tgt := 131) dX7_least_56 (by decide) (by omega) (fun zq => absurd zq (by omega)) (fun _ => ?_)
        refine zj_aload_n dX7_least_59 (by rfl) ?_
        refine zj_iload dX7_least_60 (by rfl) ?_
        refine zj_bipush (v := nI 6) dX7_least_62 (by decide) ?_
        refine zj_iload dX7_least_64 (by rfl) ?_
        refine zj_imulN dX7_least_66 ?_
        refine zj_iload dX7_least_67 (by rfl) ?_
        refine zc_7_124 rfl dX7_least_69 hG (by exact Nat.le_of_ble_eq_true rfl) ?_
        refine zj_iload dX7_least_72 (by rfl) ?_
        refine zj_iconst (v := nI 0) dX7_least_74 (by decide) ?_
        refine zc_7_131 rfl dX7_least_75 (by first | assumption | rfl) hF (by exact Nat.le_of_ble_eq_true rfl) ?_
        refine zj_istore dX7_least_78 (by decide) ?_
        refine zj_iload dX7_least_80 (by rfl) ?_
        refine zj_ldc (v := -1000000005) dX7_least_82 zq_387 ?_
        refine zj_icmp_eq (tgt := 115) dX7_least_84 (by decide) (fun _ => ?_) (fun zq => absurd (rfl) zq)
        refine zj_iload dX7_least_115 (by rfl) ?_
        refine zj_iconst (v := nI 1) dX7_least_117 (by decide) ?_
        refine zj_aload_n dX7_least_118 (by rfl) ?_
        refine zg_7_55 rfl dX7_least_119 (by first | assumption | rfl) (by rfl) ?_
        refine zc_7_134 rfl dX7_least_122 hX (by exact Nat.le_of_ble_eq_true rfl) ?_
        refine zj_iaddN dX7_least_125 ?_
        refine zj_istore dX7_least_126 (by decide) ?_
        refine zj_goto (tgt := 52) dX7_least_128 (by decide) ?_
        exact hJ _
      | some y =>
        rw [hn] at hJ hF
        have hyb := s_nth_le _ _ _ _ hn
        cases hs : s_lst g b l x with
        | none =>
          rw [hs] at hJ
          refine zj_iload dX7_least_52 (by rfl) ?_
          refine zj_bipush (v := nI 96) dX7_least_54 (by decide) ?_
          refine zj_icmp_gtN (tgt := 131) dX7_least_56 (by decide) (by omega) (fun zq => absurd zq (by omega)) (fun _ => ?_)
          refine zj_aload_n dX7_least_59 (by rfl) ?_
          refine zj_iload dX7_least_60 (by rfl) ?_
          refine zj_bipush (v := nI 6) dX7_least_62 (by decide) ?_
          refine zj_iload dX7_least_64 (by rfl) ?_
          refine zj_imulN dX7_least_66 ?_
          refine zj_iload dX7_least_67 (by rfl) ?_
          refine zc_7_124 rfl dX7_least_69 hG (by exact Nat.le_of_ble_eq_true rfl) ?_
          refine zj_iload dX7_least_72 (by rfl) ?_
          refine zj_iconst (v := nI 0) dX7_least_74 (by decide) ?_
          refine zc_7_131 rfl dX7_least_75 (by first | assumption | rfl) hF (by exact Nat.le_of_ble_eq_true rfl) ?_
          refine zj_istore dX7_least_78 (by decide) ?_
          refine zj_iload dX7_least_80 (by rfl) ?_
          refine zj_ldc (v := -1000000005) dX7_least_82 zq_387 ?_
          refine zj_icmp_eq (tgt := 115) dX7_least_84 (by decide) (fun zq => absurd zq (s_nN (by omega))) (fun _ => ?_)
          refine zj_iload dX7_least_87 (by rfl) ?_
          refine zj_iload dX7_least_89 (by rfl) ?_
          refine zj_iaddN dX7_least_91 ?_
          refine zj_iload dX7_least_92 (by rfl) ?_
          refine zj_icmp_geN (b := 193) (tgt := 115) dX7_least_94 (by decide) (by omega) (fun zq => absurd zq (by omega)) (fun _ => ?_)
          refine zj_sipush (v := nI 1000) dX7_least_97 (by decide) ?_
          refine zj_iload dX7_least_100 (by rfl) ?_
          refine zj_imulN dX7_least_102 ?_
          refine zj_iload dX7_least_103 (by rfl) ?_
          refine zj_iaddN dX7_least_105 ?_
          refine zj_istore dX7_least_106 (by decide) ?_
          refine zj_iload dX7_least_108 (by rfl) ?_
          refine zj_iload dX7_least_110 (by rfl) ?_
          refine zj_iaddN dX7_least_112 ?_
          refine zj_istore dX7_least_113 (by decide) ?_
          refine zj_iload dX7_least_115 (by rfl) ?_
          refine zj_iconst (v := nI 1) dX7_least_117 (by decide) ?_
          refine zj_aload_n dX7_least_118 (by rfl) ?_
          refine zg_7_55 rfl dX7_least_119 (by first | assumption | rfl) (by rfl) ?_
          refine zc_7_134 rfl dX7_least_122 hX (by exact Nat.le_of_ble_eq_true rfl) ?_
          refine zj_iaddN dX7_least_125 ?_
          refine zj_istore dX7_least_126 (by decide) ?_
          refine zj_goto (tgt := 52) dX7_least_128 (by decide) ?_
          exact hJ _
        | some q =>
          rw [hs] at hJ
          have hqb := s_lst_b (g := g) (b := b) (l := l) x (by omega) q hs
          by_cases hlt2 : x + y < q.1 + q.2
          · simp only [if_pos hlt2] at hJ
            refine zj_iload dX7_least_52 (by rfl) ?_
            refine zj_bipush (v := nI 96) dX7_least_54 (by decide) ?_
            refine zj_icmp_gtN (tgt := 131) dX7_least_56 (by decide) (by omega) (fun zq => absurd zq (by omega)) (fun _ => ?_)
            refine zj_aload_n dX7_least_59 (by rfl) ?_
            refine zj_iload dX7_least_60 (by rfl) ?_
            refine zj_bipush (v := nI 6) dX7_least_62 (by decide) ?_
            refine zj_iload dX7_least_64 (by rfl) ?_
            refine zj_imulN dX7_least_66 ?_
            refine zj_iload dX7_least_67 (by rfl) ?_
            refine zc_7_124 rfl dX7_least_69 hG (by exact Nat.le_of_ble_eq_true rfl) ?_
            refine zj_iload dX7_least_72 (by rfl) ?_
            refine zj_iconst (v := nI 0) dX7_least_74 (by decide) ?_
            refine zc_7_131 rfl dX7_least_75 (by first | assumption | rfl) hF (by exact Nat.le_of_ble_eq_true rfl) ?_
            refine zj_istore dX7_least_78 (by decide) ?_
            refine zj_iload dX7_least_80 (by rfl) ?_
            refine zj_ldc (v := -1000000005) dX7_least_82 zq_387 ?_
            refine zj_icmp_eq (tgt := 115) dX7_least_84 (by decide) (fun zq => absurd zq (s_nN (by omega))) (fun _ => ?_)
            refine zj_iload dX7_least_87 (by rfl) ?_
            refine zj_iload dX7_least_89 (by rfl) ?_
            refine zj_iaddN dX7_least_91 ?_
            refine zj_iload dX7_least_92 (by rfl) ?_
            refine zj_icmp_geN (b := q.1 + q.2) (tgt := 115) dX7_least_94 (by decide) (by omega) (fun zq => absurd zq (by omega)) (fun _ => ?_)
            refine zj_sipush (v := nI 1000) dX7_least_97 (by decide) ?_
            refine zj_iload dX7_least_100 (by rfl) ?_
            refine zj_imulN dX7_least_102 ?_
            refine zj_iload dX7_least_103 (by rfl) ?_
            refine zj_iaddN dX7_least_105 ?_
            refine zj_istore dX7_least_106 (by decide) ?_
            refine zj_iload dX7_least_108 (by rfl) ?_
            refine zj_iload dX7_least_110 (by rfl) ?_
            refine zj_iaddN dX7_least_112 ?_
            refine zj_istore dX7_least_113 (by decide) ?_
            refine zj_iload dX7_least_115 (by rfl) ?_
            refine zj_iconst (v := nI 1) dX7_least_117 (by decide) ?_
            refine zj_aload_n dX7_least_118 (by rfl) ?_
            refine zg_7_55 rfl dX7_least_119 (by first | assumption | rfl) (by rfl) ?_
            refine zc_7_134 rfl dX7_least_122 hX (by exact Nat.le_of_ble_eq_true rfl) ?_
            refine zj_iaddN dX7_least_125 ?_
            refine zj_istore dX7_least_126 (by decide) ?_
            refine zj_goto (tgt := 52) dX7_least_128 (by decide) ?_
            exact hJ _
          · simp only [if_neg hlt2] at hJ
            refine zj_iload dX7_least_52 (by rfl) ?_
            refine zj_bipush (v := nI 96) dX7_least_54 (by decide) ?_
            refine zj_icmp_gtN (tgt := 131) dX7_least_56 (by decide) (by omega) (fun zq => absurd zq (by omega)) (fun _ => ?_)
            refine zj_aload_n dX7_least_59 (by rfl) ?_
            refine zj_iload dX7_least_60 (by rfl) ?_
            refine zj_bipush (v := nI 6) dX7_least_62 (by decide) ?_
            refine zj_iload dX7_least_64 (by rfl) ?_
            refine zj_imulN dX7_least_66 ?_
            refine zj_iload dX7_least_67 (by rfl) ?_
            refine zc_7_124 rfl dX7_least_69 hG (by exact Nat.le_of_ble_eq_true rfl) ?_
            refine zj_iload dX7_least_72 (by rfl) ?_
            refine zj_iconst (v := nI 0) dX7_least_74 (by decide) ?_
            refine zc_7_131 rfl dX7_least_75 (by first | assumption | rfl) hF (by exact Nat.le_of_ble_eq_true rfl) ?_
            refine zj_istore dX7_least_78 (by decide) ?_
            refine zj_iload dX7_least_80 (by rfl) ?_
            refine zj_ldc (v := -1000000005) dX7_least_82 zq_387 ?_
            refine zj_icmp_eq (tgt := 115) dX7_least_84 (by decide) (fun zq => absurd zq (s_nN (by omega))) (fun _ => ?_)
            refine zj_iload dX7_least_87 (by rfl) ?_
            refine zj_iload dX7_least_89 (by rfl) ?_
            refine zj_iaddN dX7_least_91 ?_
            refine zj_iload dX7_least_92 (by rfl) ?_
            show zJ _ _ _ _ _ _ _ _ _ (.int (nI (q.1 + q.2)) :: .int (nI (x + y)) :: []) _ _ _
            refine zj_icmp_geN (tgt := 115) dX7_least_94 (by decide) (by omega) (fun _ => ?_) (fun zq => absurd ((by omega : q.1 + q.2 ≤ x + y)) zq)
            refine zj_iload dX7_least_115 (by rfl) ?_
            refine zj_iconst (v := nI 1) dX7_least_117 (by decide) ?_
            refine zj_aload_n dX7_least_118 (by rfl) ?_
            refine zg_7_55 rfl dX7_least_119 (by first | assumption | rfl) (by rfl) ?_
            refine zc_7_134 rfl dX7_least_122 hX (by exact Nat.le_of_ble_eq_true rfl) ?_
            refine zj_iaddN dX7_least_125 ?_
            refine zj_istore dX7_least_126 (by decide) ?_
            refine zj_goto (tgt := 52) dX7_least_128 (by decide) ?_
            exact hJ _
    · refine zj_iload dX7_least_52 (by rfl) ?_
      refine zj_bipush (v := nI 96) dX7_least_54 (by decide) ?_
      refine zj_icmp_gtN (tgt := 131) dX7_least_56 (by decide) (by omega) (fun _ => ?_) (fun zq => absurd (by omega) zq)
      refine zj_iload dX7_least_131 (by rfl) ?_
      refine zj_iret dX7_least_133 rfl (Nat.le_refl _) (Nat.le_refl _) ?_
      exact ⟨by rw [s_lst_out hx (by omega) (by omega)], rfl⟩
theorem x_least (w : WF C P S T H O g) (r : RX h C P S T H O g) {c p v t : Nat} (hc : c < 4) (hp : p < 6) (hv : v < 2 ^ 31) (hvh : s_how v = true) (ht : t < 2 ^ 31) (he : ¬ ((C c).length = 0 ∨ (P p).length = 0)) : zD mX7_least (d + 3) [.ref 0, .int (nI c), .int (nI p), .int (nI v), .int (nI t)] h (some (.int (s_l1 (s_lst g (s_base (P p).length t v 9) (s_cl C c) 97)))) h := by
  obtain ⟨r0, -⟩ := id r
  obtain ⟨q0, -⟩ := id r0
  have hR := x7_cr (d := d) (gp := 0) w r hc hp hv hvh ht (by omega)
  rw [if_neg he] at hR
  have hL := s_cl_pos w.1 hc (fun e => he (Or.inl e))
  have hLe := s_cl_le w.1 hc
  have h2 := s_cl_2 (C := C) (i := c)
  have hW := x7_wantingIn (d := d) (k := 9) w r hc hp hv (s_how_1 hvh) ht (by omega) (fun e => he (Or.inl e)) (fun e => he (Or.inr e))
  refine zD_of (by decide +kernel) (by exact Nat.le_of_ble_eq_true rfl) ?_
  show zB mX7_least _ _ _ 0 [some (.ref 0), some (.int (nI c)), some (.int (nI p)), some (.int (nI v)), some (.int (nI t)), none, none, none, none, none, none, none] [] _
  refine zj_aload_n dX7_least_0 (by rfl) ?_
  refine zj_iload_n dX7_least_1 (by rfl) ?_
  refine zj_iload_n dX7_least_2 (by rfl) ?_
  refine zj_iload_n dX7_least_3 (by rfl) ?_
  refine zj_iload dX7_least_4 (by rfl) ?_
  refine zj_iconst (v := nI 0) dX7_least_6 (by decide) ?_
  refine zc_7_114 rfl dX7_least_7 (by first | assumption | rfl) hR (by exact Nat.le_of_ble_eq_true rfl) ?_
  refine zj_istore dX7_least_10 (by decide) ?_
  refine zj_iload dX7_least_12 (by rfl) ?_
  refine zj_if_eq (tgt := 20) dX7_least_14 (by decide) (fun _ => ?_) (fun zq => absurd (rfl) zq)
  refine zj_aload_n dX7_least_20 (by rfl) ?_
  refine zj_iload_n dX7_least_21 (by rfl) ?_
  refine zj_iload_n dX7_least_22 (by rfl) ?_
  refine zj_iload_n dX7_least_23 (by rfl) ?_
  refine zj_iload dX7_least_24 (by rfl) ?_
  refine zj_bipush (v := nI 9) dX7_least_26 (by decide) ?_
  refine zc_7_118 rfl dX7_least_28 (by first | assumption | rfl) hW (by exact Nat.le_of_ble_eq_true rfl) ?_
  refine zj_istore dX7_least_31 (by decide) ?_
  refine zj_aload_n dX7_least_33 (by rfl) ?_
  refine zj_iload_n dX7_least_34 (by rfl) ?_
  refine zc_7_121 rfl dX7_least_35 (by first | assumption | rfl) (x7_lengthOf w r hc) (by exact Nat.le_of_ble_eq_true rfl) ?_
  refine zj_istore dX7_least_38 (by decide) ?_
  refine zj_ldc (v := -1000000005) dX7_least_40 zq_387 ?_
  refine zj_istore dX7_least_42 (by decide) ?_
  refine zj_sipush (v := nI 193) dX7_least_44 (by decide) ?_
  refine zj_istore dX7_least_47 (by decide) ?_
  refine zj_iconst (v := nI 0) dX7_least_49 (by decide) ?_
  refine zj_istore dX7_least_50 (by decide) ?_
  exact x_least_l (d := d + 1) w r (by omega) h2 97 0 none (Nat.zero_mod _) (by omega) (by omega)
end DB
