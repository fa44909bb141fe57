def s_rh (h : zH) (g pn tn i : Nat) (wr : Int32) (F : Nat → Int32) : zH := (h.set 47 (.inr (8, s_mo g pn tn (nI i) wr))).set 59 (.inl (1, 60, .inl F))
/-- what reading needs of the heap -/
def s_RB (h : zH) (T : List Nat) : Prop := (∃ v, h[47]? = some (.inr (8, v))) ∧ (∃ F, h[59]? = some (.inl (1, 60, .inl F))) ∧ (∃ f, h[56]? = some (.inl (1, 60, .inl f)) ∧ ∀ j, j < T.length → f j = nI (T.getD j 0)) ∧ T.length ≤ 60 ∧ ∀ v ∈ T, v < 256
def s_hr (T : List Nat) (i : Nat) : Int32 := if i < T.length then nI (T.getD i 0) else -1
theorem s_hr1 {T : List Nat} {i : Nat} (h : i < T.length) : s_hr T i = nI (T.getD i 0) := if_pos h
theorem s_hr0 {T : List Nat} {i : Nat} (h : ¬ i < T.length) : s_hr T i = -1 := if_neg h
theorem s_tlt {T : List Nat} {i : Nat} (hT : ∀ v ∈ T, v < 256) : T.getD i 0 < 256 := by
  by_cases hi : i < T.length
  · have e : T.getD i 0 = T[i] := by simp [List.getD, hi]
    rw [e]; exact hT _ (List.getElem_mem hi)
  · simp [List.getD, hi]
section MR
variable {h h1 : zH} {T : List Nat} {g pn tn i j d fr deep : Nat} {wr : Int32} {F F0 F' : Nat → Int32} {R : Option Value}
theorem rh47 (b : s_RB h T) : (s_rh h g pn tn i wr F)[47]? = some (.inr (8, s_mo g pn tn (nI i) wr)) := by
  obtain ⟨⟨v, hv⟩, -⟩ := b
  exact zset_ne (by decide) (zset_eq hv)
theorem rh59 (b : s_RB h T) : (s_rh h g pn tn i wr F)[59]? = some (.inl (1, 60, .inl F)) := by
  obtain ⟨-, ⟨F2, hF⟩, -⟩ := b
  exact zset_eq (zset_ne (by decide) hF)
theorem rh56 (b : s_RB h T) : ∃ f, (∀ g pn tn i wr F, (s_rh h g pn tn i wr F)[56]? = some (.inl (1, 60, .inl f))) ∧ ∀ j, j < T.length → f j = nI (T.getD j 0) := by
  obtain ⟨-, -, ⟨f, a, q⟩, -⟩ := b
  exact ⟨f, fun _ _ _ _ _ _ => zset_ne (by decide) (zset_ne (by decide) a), q⟩
theorem rh_r : (s_rh h g pn tn i wr F).set 47 (.inr (8, (s_mo g pn tn (nI i) wr).set 14 (.int (nI j)))) = s_rh h g pn tn j wr F := by
  unfold s_rh
  rw [List.set_comm _ _ (by decide), List.set_set]
  rfl
theorem rh_w {w2 : Int32} : (s_rh h g pn tn i wr F).set 47 (.inr (8, (s_mo g pn tn (nI i) wr).set 15 (.int w2))) = s_rh h g pn tn i w2 F := by
  unfold s_rh
  rw [List.set_comm _ _ (by decide), List.set_set]
  rfl
theorem rh_t {t2 : Nat} : (s_rh h g pn tn i wr F).set 47 (.inr (8, (s_mo g pn tn (nI i) wr).set 11 (.int (nI t2)))) = s_rh h g pn t2 i wr F := by
  unfold s_rh
  rw [List.set_comm _ _ (by decide), List.set_set]
  rfl
theorem rh_F : (s_rh h g pn tn i wr F).set 59 (.inl (1, 60, .inl F')) = s_rh h g pn tn i wr F' := by
  unfold s_rh
  rw [List.set_set]
theorem m_here (b : s_RB h T) (hi : i ≤ 60) : zD mX8_here d [.ref 47] (s_rh h g pn T.length i wr F) (some (.int (s_hr T i))) (s_rh h g pn T.length i wr F) := by
  obtain ⟨f, k56, q56⟩ := rh56 b
  have hn := b.2.2.2.1
  by_cases hT : i < T.length
  · rw [s_hr1 hT]
    refine zD_of (by decide +kernel) (by exact Nat.le_of_ble_eq_true rfl) ?_
    show zB mX8_here _ _ _ 0 [some (.ref 47)] [] _
    refine zj_aload_n dX8_here_0 (by rfl) ?_
    refine zg_8_85 rfl dX8_here_1 (by first | exact rh47 b | exact k56 _ _ _ _ _ _) (by rfl) ?_
    refine zj_aload_n dX8_here_4 (by rfl) ?_
    refine zg_8_78 rfl dX8_here_5 (by first | exact rh47 b | exact k56 _ _ _ _ _ _) (by rfl) ?_
    refine zj_icmp_geN (tgt := 23) dX8_here_8 (by decide) (by omega) (fun zq => absurd zq (by omega)) (fun _ => ?_)
    refine zj_aload_n dX8_here_11 (by rfl) ?_
    refine zg_8_38 rfl dX8_here_12 (by first | exact rh47 b | exact k56 _ _ _ _ _ _) (by rfl) ?_
    refine zj_aload_n dX8_here_15 (by rfl) ?_
    refine zg_8_85 rfl dX8_here_16 (by first | exact rh47 b | exact k56 _ _ _ _ _ _) (by rfl) ?_
    refine zj_ialdN dX8_here_19 (by first | exact rh47 b | exact k56 _ _ _ _ _ _) (by omega) ?_
    rw [q56 i hT]
    refine zj_goto (tgt := 24) dX8_here_20 (by decide) ?_
    refine zj_iret dX8_here_24 rfl (Nat.le_refl _) (Nat.le_refl _) ?_
    exact ⟨rfl, rfl⟩
  · rw [s_hr0 hT]
    refine zD_of (by decide +kernel) (by exact Nat.le_of_ble_eq_true rfl) ?_
    show zB mX8_here _ _ _ 0 [some (.ref 47)] [] _
    refine zj_aload_n dX8_here_0 (by rfl) ?_
    refine zg_8_85 rfl dX8_here_1 (by first | exact rh47 b | exact k56 _ _ _ _ _ _) (by rfl) ?_
    refine zj_aload_n dX8_here_4 (by rfl) ?_
    refine zg_8_78 rfl dX8_here_5 (by first | exact rh47 b | exact k56 _ _ _ _ _ _) (by rfl) ?_
    refine zj_icmp_geN (tgt := 23) dX8_here_8 (by decide) (by omega) (fun _ => ?_) (fun zq => absurd (by omega) zq)
    refine zj_iconst (v := (-1)) dX8_here_23 (by decide) ?_
    refine zj_iret dX8_here_24 rfl (Nat.le_refl _) (Nat.le_refl _) ?_
    exact ⟨rfl, rfl⟩
theorem m_dig (b : s_RB h1 T) (hi : i < T.length) (ht : s_isT (T.getD i 0) = true) : zD mX8_isIn d [.int (s_hr T i), .int (nI 50), .int (nI 57)] h (some (.int (nI 1))) h := by
  have hv := s_isT_ne ht
  have := m_isIn (d := d) (h := h) (s_hr T i) (nI 50) (nI 57)
  rw [s_hr1 hi, s_is1 (nI_nlt (by omega) (by omega)) (nI_nlt (by omega) (by omega))] at this
  rw [s_hr1 hi]
  exact this
theorem m_digN (b : s_RB h1 T) (ht : i < T.length → ¬ s_isT (T.getD i 0) = true) : zD mX8_isIn d [.int (s_hr T i), .int (nI 50), .int (nI 57)] h (some (.int (nI 0))) h := by
  have := m_isIn (d := d) (h := h) (s_hr T i) (nI 50) (nI 57)
  have hb := s_tlt (i := i) b.2.2.2.2
  have hq : s_hr T i < nI 50 ∨ nI 57 < s_hr T i := by
    by_cases hi : i < T.length
    · rw [s_hr1 hi]
      have := ht hi
      unfold s_isT at this
      rw [decide_eq_true_iff] at this
      by_cases h5 : T.getD i 0 < 50
      · exact Or.inl (nI_lt h5 (by omega))
      · exact Or.inr (nI_lt (by omega) (by omega))
    · rw [s_hr0 hi]; exact Or.inl (by decide)
  rw [s_is0 hq] at this
  exact this
theorem m_let (hi : i < T.length) (h1 : 97 ≤ T.getD i 0 ∧ T.getD i 0 ≤ 104) : zD mX8_isIn d [.int (s_hr T i), .int (nI 97), .int (nI 104)] h (some (.int (nI 1))) h := by
  have := m_isIn (d := d) (h := h) (s_hr T i) (nI 97) (nI 104)
  rw [s_hr1 hi, s_is1 (nI_nlt (by omega) (by omega)) (nI_nlt (by omega) (by omega))] at this
  rw [s_hr1 hi]
  exact this
theorem m_letN (b : s_RB h1 T) (ht : i < T.length → ¬ (97 ≤ T.getD i 0 ∧ T.getD i 0 ≤ 104)) : zD mX8_isIn d [.int (s_hr T i), .int (nI 97), .int (nI 104)] h (some (.int (nI 0))) h := by
  have := m_isIn (d := d) (h := h) (s_hr T i) (nI 97) (nI 104)
  have hb := s_tlt (i := i) b.2.2.2.2
  have hq : s_hr T i < nI 97 ∨ nI 104 < s_hr T i := by
    by_cases hi : i < T.length
    · rw [s_hr1 hi]
      have := ht hi
      by_cases h5 : T.getD i 0 < 97
      · exact Or.inl (nI_lt h5 (by omega))
      · exact Or.inr (nI_lt (by omega) (by omega))
    · rw [s_hr0 hi]; exact Or.inl (by decide)
  rw [s_is0 hq] at this
  exact this
theorem s_hrN (b : s_RB h1 T) {c : Nat} (hc : c < 128) (ht : ¬ (i < T.length ∧ T.getD i 0 = c)) : ¬ s_hr T i = nI c := by
  have hb := s_tlt (i := i) b.2.2.2.2
  by_cases hi : i < T.length
  · rw [s_hr1 hi]
    intro e
    have h1 := (nI_leI (show T.getD i 0 < 2 ^ 31 by omega) (show c < 2 ^ 31 by omega)).mp (by rw [e]; exact Int32.le_refl _)
    have h2 := (nI_leI (show c < 2 ^ 31 by omega) (show T.getD i 0 < 2 ^ 31 by omega)).mp (by rw [e]; exact Int32.le_refl _)
    exact ht ⟨hi, by omega⟩
  · rw [s_hr0 hi]
    intro e
    have := nI_pos (n := c) (by omega)
    rw [← e] at this
    exact this (by decide)
theorem s_hrY {c : Nat} (hi : i < T.length) (hc : T.getD i 0 = c) : s_hr T i = nI c := by rw [s_hr1 hi, hc]
theorem m_it_rep (b : s_RB h T) {n t : Nat} {X : List Nat} (hnt : n * t ≤ 1000000) (hfr : fr ≤ 7000) (hn : n ≤ 1000) (ht : t ≤ 1000) (hper : ∀ k, n ≤ k → k < X.length → k < 60 → X.getD k 0 = X.getD (k - n) 0) (hN : X.length ≤ n * t ∨ 60 ≤ n * t) (hv : min (n * t) 1000 = min X.length 1000) (hn1 : 1 ≤ n) : ∀ m k F, n ≤ k → n * t - k ≤ m → (∀ q, q < fr → F q = F0 q) → (∀ q, q < k → q < X.length → fr + q < 60 → F (fr + q) = nI (X.getD q 0)) → k ≤ 1000000 → ∃ F', s_wr F0 F' fr X ∧ zB mX8_item d (some (.int (nI (min X.length 1000)))) (s_rh h g pn tn j 0 F') 230 [some (.ref 47), some (.int (nI fr)), some (.int (nI deep)), some (.int (nI t)), some (.int (nI n)), some (.int (nI k))] [] (s_rh h g pn tn j 0 F) := by
  have hout : ∀ o5 F', zB mX8_item d (some (.int (nI (min X.length 1000)))) (s_rh h g pn tn j 0 F') 275 [some (.ref 47), some (.int (nI fr)), some (.int (nI deep)), some (.int (nI t)), some (.int (nI n)), o5] [] (s_rh h g pn tn j 0 F') := by
    intro o5 F'
    by_cases hq : n * t ≤ 1000
    · rw [← hv, show min (n * t) 1000 = n * t by omega]
      refine zj_iload dX8_item_275 (by rfl) ?_
      refine zj_iload_n dX8_item_277 (by rfl) ?_
      refine zj_imulN dX8_item_278 ?_
      refine zj_sipush (v := nI 1000) dX8_item_279 (by decide) ?_
      refine zj_icmp_leN (tgt := 291) dX8_item_282 (by decide) (by omega) (fun _ => ?_) (fun zq => absurd (by omega) zq)
      refine zj_iload dX8_item_291 (by rfl) ?_
      refine zj_iload_n dX8_item_293 (by rfl) ?_
      refine zj_imulN dX8_item_294 ?_
      refine zj_iret dX8_item_295 rfl (Nat.le_refl _) (Nat.le_refl _) ?_
      exact ⟨rfl, rfl⟩
    · rw [← hv, show min (n * t) 1000 = 1000 by omega]
      refine zj_iload dX8_item_275 (by rfl) ?_
      refine zj_iload_n dX8_item_277 (by rfl) ?_
      refine zj_imulN dX8_item_278 ?_
      refine zj_sipush (v := nI 1000) dX8_item_279 (by decide) ?_
      refine zj_icmp_leN (tgt := 291) dX8_item_282 (by decide) (by omega) (fun zq => absurd zq (by omega)) (fun _ => ?_)
      refine zj_sipush (v := nI 1000) dX8_item_285 (by decide) ?_
      refine zj_goto (tgt := 295) dX8_item_288 (by decide) ?_
      refine zj_iret dX8_item_295 rfl (Nat.le_refl _) (Nat.le_refl _) ?_
      exact ⟨rfl, rfl⟩
  intro m
  induction m with
  | zero =>
    intro k F hk hm h1 h2 hkb
    refine ⟨F, ⟨h1, fun q hq hf => h2 q (by omega) hq hf⟩, ?_⟩
    refine zj_iload dX8_item_230 (by rfl) ?_
    refine zj_iload dX8_item_232 (by rfl) ?_
    refine zj_iload_n dX8_item_234 (by rfl) ?_
    refine zj_imulN dX8_item_235 ?_
    refine zj_icmp_geN (tgt := 275) dX8_item_236 (by decide) (by omega) (fun _ => ?_) (fun zq => absurd (by omega) zq)
    exact hout _ _
  | succ m ih =>
    intro k F hk hm h1 h2 hkb
    by_cases c1 : n * t ≤ k
    · refine ⟨F, ⟨h1, fun q hq hf => h2 q (by omega) hq hf⟩, ?_⟩
      refine zj_iload dX8_item_230 (by rfl) ?_
      refine zj_iload dX8_item_232 (by rfl) ?_
      refine zj_iload_n dX8_item_234 (by rfl) ?_
      refine zj_imulN dX8_item_235 ?_
      refine zj_icmp_geN (tgt := 275) dX8_item_236 (by decide) (by omega) (fun _ => ?_) (fun zq => absurd (by omega) zq)
      exact hout _ _
    · by_cases c2 : 60 ≤ fr + k
      · refine ⟨F, ⟨h1, fun q hq hf => h2 q (by omega) hq hf⟩, ?_⟩
        refine zj_iload dX8_item_230 (by rfl) ?_
        refine zj_iload dX8_item_232 (by rfl) ?_
        refine zj_iload_n dX8_item_234 (by rfl) ?_
        refine zj_imulN dX8_item_235 ?_
        refine zj_icmp_geN (tgt := 275) dX8_item_236 (by decide) (by omega) (fun zq => absurd zq (by omega)) (fun _ => ?_)
        refine zj_iload_n dX8_item_239 (by rfl) ?_
        refine zj_iload dX8_item_240 (by rfl) ?_
        refine zj_iaddN dX8_item_242 ?_
        refine zj_bipush (v := nI 60) dX8_item_243 (by decide) ?_
        refine zj_icmp_geN (tgt := 275) dX8_item_245 (by decide) (by omega) (fun _ => ?_) (fun zq => absurd (by omega) zq)
        exact hout _ _
      · obtain ⟨F', hF', hJ⟩ := ih (k + 1) (upd F (fr + k) (F (fr + k - n))) (by omega) (by omega) (fun q hq => by rw [pk_un (by omega)]; exact h1 q hq) (fun q hq hx hf => by
          by_cases e : q = k
          · subst e
            rw [pk_us, show fr + q - n = fr + (q - n) by omega, h2 (q - n) (by omega) (by omega) (by omega), hper q hk hx (by omega)]
          · rw [pk_un (by omega)]; exact h2 q (by omega) hx hf) (by omega)
        refine ⟨F', hF', ?_⟩
        refine zj_iload dX8_item_230 (by rfl) ?_
        refine zj_iload dX8_item_232 (by rfl) ?_
        refine zj_iload_n dX8_item_234 (by rfl) ?_
        refine zj_imulN dX8_item_235 ?_
        refine zj_icmp_geN (tgt := 275) dX8_item_236 (by decide) (by omega) (fun zq => absurd zq (by omega)) (fun _ => ?_)
        refine zj_iload_n dX8_item_239 (by rfl) ?_
        refine zj_iload dX8_item_240 (by rfl) ?_
        refine zj_iaddN dX8_item_242 ?_
        refine zj_bipush (v := nI 60) dX8_item_243 (by decide) ?_
        refine zj_icmp_geN (tgt := 275) dX8_item_245 (by decide) (by omega) (fun zq => absurd zq (by omega)) (fun _ => ?_)
        refine zj_aload_n dX8_item_248 (by rfl) ?_
        refine zg_8_47 rfl dX8_item_249 (by first | exact rh47 b | exact rh59 b) (by rfl) ?_
        refine zj_iload_n dX8_item_252 (by rfl) ?_
        refine zj_iload dX8_item_253 (by rfl) ?_
        refine zj_iaddN dX8_item_255 ?_
        refine zj_aload_n dX8_item_256 (by rfl) ?_
        refine zg_8_47 rfl dX8_item_257 (by first | exact rh47 b | exact rh59 b) (by rfl) ?_
        refine zj_iload_n dX8_item_260 (by rfl) ?_
        refine zj_iload dX8_item_261 (by rfl) ?_
        refine zj_iaddN dX8_item_263 ?_
        refine zj_iload dX8_item_264 (by rfl) ?_
        refine zj_isubN dX8_item_266 (by omega) ?_
        refine zj_ialdN dX8_item_267 (by first | exact rh47 b | exact rh59 b) (by omega) ?_
        refine zj_iastN dX8_item_268 (by first | exact rh47 b | exact rh59 b) (by omega) ?_
        rw [rh_F]
        refine zj_iincN dX8_item_269 (by rfl) (by decide) ?_
        refine zj_goto (tgt := 230) dX8_item_272 (by decide) ?_
        exact hJ
theorem m_it_207 (b : s_RB h T) {p : Nat} {y : List Nat} (hy : y ≠ []) (hp : 1 ≤ p) (hfr : fr ≤ 7000) (hj : j ≤ 60) (hw : s_wr F0 F fr y) : ∃ F', s_wr F0 F' fr (s_rep p y) ∧ ∀ o5, zB mX8_item d (some (.int (nI (min (s_rep p y).length 1000)))) (s_rh h g pn tn (j + 1) 0 F') 207 [some (.ref 47), some (.int (nI fr)), some (.int (nI deep)), some (.int (nI (min p 1000))), some (.int (nI (min y.length 1000))), o5] [] (s_rh h g pn tn j 0 F) := by
  have hyl : 0 < y.length := List.length_pos_iff.mpr hy
  have hnt : min y.length 1000 * min p 1000 ≤ 1000 * 1000 := Nat.mul_le_mul (by omega) (by omega)
  have hXl := s_rep_len p y
  have hv : min (min y.length 1000 * min p 1000) 1000 = min (y.length * p) 1000 := by
    rw [s_min_mul (by omega), Nat.mul_comm, s_min_mul (by omega), Nat.mul_comm]
  have hN : (s_rep p y).length ≤ min y.length 1000 * min p 1000 ∨ 60 ≤ min y.length 1000 * min p 1000 := by
    rw [hXl]; omega
  obtain ⟨F', hF', hJ⟩ := m_it_rep (d := d) (g := g) (pn := pn) (tn := tn) (j := j + 1) (deep := deep) (F0 := F0) (X := s_rep p y) (n := min y.length 1000) (t := min p 1000) b (by omega) hfr (by omega) (by omega) (fun k hk hx h60 => by
    have en : min y.length 1000 = y.length := by omega
    rw [en] at hk ⊢
    rw [hXl] at hx
    rw [s_rep_get _ _ _ hx, s_rep_get _ _ _ (by omega), Nat.mod_eq_sub_mod hk]) hN (by rw [hXl]; exact hv) (by omega) (min y.length 1000 * min p 1000) (min y.length 1000) F (Nat.le_refl _) (by omega) hw.1 (fun q hq hx hf => by
    rw [hXl] at hx
    rw [s_rep_get _ _ _ hx, Nat.mod_eq_of_lt (by omega)]
    exact hw.2 q (by omega) hf) (by omega)
  refine ⟨F', hF', fun o5 => ?_⟩
  refine zj_aload_n dX8_item_207 (by rfl) ?_
  refine zg_8_96 rfl dX8_item_208 (by first | exact rh47 b | exact rh59 b) (by rfl) ?_
  refine zj_if_eq (tgt := 216) dX8_item_211 (by decide) (fun _ => ?_) (fun zq => absurd (rfl) zq)
  refine zj_aload_n dX8_item_216 (by rfl) ?_
  refine zj_dup dX8_item_217 rfl ?_
  refine zg_8_85 rfl dX8_item_218 (by first | exact rh47 b | exact rh59 b) (by rfl) ?_
  refine zj_iconst (v := nI 1) dX8_item_221 (by decide) ?_
  refine zj_iaddN dX8_item_222 ?_
  refine zp_8_85 rfl dX8_item_223 (by first | exact rh47 b | exact rh59 b) (by exact Nat.le_of_ble_eq_true rfl) ?_
  rw [rh_r]
  refine zj_iload dX8_item_226 (by rfl) ?_
  refine zj_istore dX8_item_228 (by decide) ?_
  exact hJ
theorem m_it_d (b : s_RB h T) {i0 : Nat} : ∀ m i p, T.length - i ≤ m → s_pre (fun j => T.getD j 0) T.length deep i0 i p → ∃ i' p', s_pre (fun j => T.getD j 0) T.length deep i0 i' p' ∧ (i' < T.length → ¬ s_isT (T.getD i' 0) = true) ∧ ∀ R h1 o4 o5, zB mX8_item (d + 1) R h1 54 [some (.ref 47), some (.int (nI fr)), some (.int (nI deep)), some (.int (nI (min p' 1000))), o4, o5] [] (s_rh h g pn T.length i' 0 F) → zB mX8_item (d + 1) R h1 2 [some (.ref 47), some (.int (nI fr)), some (.int (nI deep)), some (.int (nI (min p 1000))), o4, o5] [] (s_rh h g pn T.length i 0 F) := by
  have hn := b.2.2.2.1
  intro m
  induction m with
  | zero =>
    intro i p hm hp
    refine ⟨i, p, hp, fun x => by omega, fun R h1 o4 o5 hJ => ?_⟩
    have hiN := hp.2.1
    refine zj_aload_n dX8_item_2 (by rfl) ?_
    refine zc_8_88 rfl dX8_item_3 (by first | exact rh47 b | exact rh59 b) (m_here b (by omega)) (by exact Nat.le_of_ble_eq_true rfl) ?_
    refine zj_bipush (v := nI 50) dX8_item_6 (by decide) ?_
    refine zj_bipush (v := nI 57) dX8_item_8 (by decide) ?_
    refine zc_8_63 rfl dX8_item_10 (m_digN b (fun x => by omega)) (by exact Nat.le_of_ble_eq_true rfl) ?_
    refine zj_if_eqN (tgt := 54) dX8_item_13 (by decide) (by omega) (fun _ => ?_) (fun zq => absurd (by omega) zq)
    exact hJ
  | succ m ih =>
    intro i p hm hp
    have hiN := hp.2.1
    by_cases hd : i < T.length ∧ s_isT (T.getD i 0) = true
    · obtain ⟨i', p', a1, a2, a3⟩ := ih (i + 1) (p * (T.getD i 0 - 48)) (by omega) (pre_s hp hd.1 hd.2)
      refine ⟨i', p', a1, a2, fun R h1 o4 o5 hJ => ?_⟩
      have hv := s_isT_ne hd.2
      have hJ2 := a3 R h1 o4 o5 hJ
      have hm1 : min (min p 1000 * (T.getD i 0 - 48)) 1000 = min (p * (T.getD i 0 - 48)) 1000 := s_min_mul (by omega) 1000
      rw [← hm1] at hJ2
      have hb9 : min p 1000 * (T.getD i 0 - 48) ≤ 1000 * 9 := Nat.mul_le_mul (by omega) (by omega)
      by_cases hq : min p 1000 * (T.getD i 0 - 48) ≤ 1000
      · rw [show min (min p 1000 * (T.getD i 0 - 48)) 1000 = min p 1000 * (T.getD i 0 - 48) by omega] at hJ2
        refine zj_aload_n dX8_item_2 (by rfl) ?_
        refine zc_8_88 rfl dX8_item_3 (by first | exact rh47 b | exact rh59 b) (m_here b (by omega)) (by exact Nat.le_of_ble_eq_true rfl) ?_
        refine zj_bipush (v := nI 50) dX8_item_6 (by decide) ?_
        refine zj_bipush (v := nI 57) dX8_item_8 (by decide) ?_
        refine zc_8_63 rfl dX8_item_10 (m_dig b hd.1 hd.2) (by exact Nat.le_of_ble_eq_true rfl) ?_
        refine zj_if_eqN (tgt := 54) dX8_item_13 (by decide) (by omega) (fun zq => absurd zq (by omega)) (fun _ => ?_)
        refine zj_iload_n dX8_item_16 (by rfl) ?_
        refine zj_aload_n dX8_item_17 (by rfl) ?_
        refine zc_8_88 rfl dX8_item_18 (by first | exact rh47 b | exact rh59 b) (m_here b (by omega)) (by exact Nat.le_of_ble_eq_true rfl) ?_
        rw [s_hr1 hd.1]
        refine zj_bipush (v := nI 48) dX8_item_21 (by decide) ?_
        show zJ _ _ _ _ _ _ _ _ _ (.int (nI 48) :: .int (nI (T.getD i 0)) :: _) _ _ _
        refine zj_isubN dX8_item_23 (by omega) ?_
        refine zj_imulN dX8_item_24 ?_
        refine zj_istore_n dX8_item_25 (by decide) ?_
        refine zj_iload_n dX8_item_26 (by rfl) ?_
        refine zj_sipush (v := nI 1000) dX8_item_27 (by decide) ?_
        refine zj_icmp_leN (tgt := 39) dX8_item_30 (by decide) (by omega) (fun _ => ?_) (fun zq => absurd (by omega) zq)
        refine zj_iload_n dX8_item_39 (by rfl) ?_
        refine zj_istore_n dX8_item_40 (by decide) ?_
        refine zj_aload_n dX8_item_41 (by rfl) ?_
        refine zj_dup dX8_item_42 rfl ?_
        refine zg_8_85 rfl dX8_item_43 (by first | exact rh47 b | exact rh59 b) (by rfl) ?_
        refine zj_iconst (v := nI 1) dX8_item_46 (by decide) ?_
        refine zj_iaddN dX8_item_47 ?_
        refine zp_8_85 rfl dX8_item_48 (by first | exact rh47 b | exact rh59 b) (by exact Nat.le_of_ble_eq_true rfl) ?_
        rw [rh_r]
        refine zj_goto (tgt := 2) dX8_item_51 (by decide) ?_
        exact hJ2
      · rw [show min (min p 1000 * (T.getD i 0 - 48)) 1000 = 1000 by omega] at hJ2
        refine zj_aload_n dX8_item_2 (by rfl) ?_
        refine zc_8_88 rfl dX8_item_3 (by first | exact rh47 b | exact rh59 b) (m_here b (by omega)) (by exact Nat.le_of_ble_eq_true rfl) ?_
        refine zj_bipush (v := nI 50) dX8_item_6 (by decide) ?_
        refine zj_bipush (v := nI 57) dX8_item_8 (by decide) ?_
        refine zc_8_63 rfl dX8_item_10 (m_dig b hd.1 hd.2) (by exact Nat.le_of_ble_eq_true rfl) ?_
        refine zj_if_eqN (tgt := 54) dX8_item_13 (by decide) (by omega) (fun zq => absurd zq (by omega)) (fun _ => ?_)
        refine zj_iload_n dX8_item_16 (by rfl) ?_
        refine zj_aload_n dX8_item_17 (by rfl) ?_
        refine zc_8_88 rfl dX8_item_18 (by first | exact rh47 b | exact rh59 b) (m_here b (by omega)) (by exact Nat.le_of_ble_eq_true rfl) ?_
        rw [s_hr1 hd.1]
        refine zj_bipush (v := nI 48) dX8_item_21 (by decide) ?_
        show zJ _ _ _ _ _ _ _ _ _ (.int (nI 48) :: .int (nI (T.getD i 0)) :: _) _ _ _
        refine zj_isubN dX8_item_23 (by omega) ?_
        refine zj_imulN dX8_item_24 ?_
        refine zj_istore_n dX8_item_25 (by decide) ?_
        refine zj_iload_n dX8_item_26 (by rfl) ?_
        refine zj_sipush (v := nI 1000) dX8_item_27 (by decide) ?_
        refine zj_icmp_leN (tgt := 39) dX8_item_30 (by decide) (by omega) (fun zq => absurd zq (by omega)) (fun _ => ?_)
        refine zj_sipush (v := nI 1000) dX8_item_33 (by decide) ?_
        refine zj_goto (tgt := 40) dX8_item_36 (by decide) ?_
        refine zj_istore_n dX8_item_40 (by decide) ?_
        refine zj_aload_n dX8_item_41 (by rfl) ?_
        refine zj_dup dX8_item_42 rfl ?_
        refine zg_8_85 rfl dX8_item_43 (by first | exact rh47 b | exact rh59 b) (by rfl) ?_
        refine zj_iconst (v := nI 1) dX8_item_46 (by decide) ?_
        refine zj_iaddN dX8_item_47 ?_
        refine zp_8_85 rfl dX8_item_48 (by first | exact rh47 b | exact rh59 b) (by exact Nat.le_of_ble_eq_true rfl) ?_
        rw [rh_r]
        refine zj_goto (tgt := 2) dX8_item_51 (by decide) ?_
        exact hJ2
    · refine ⟨i, p, hp, fun x y => hd ⟨x, y⟩, fun R h1 o4 o5 hJ => ?_⟩
      refine zj_aload_n dX8_item_2 (by rfl) ?_
      refine zc_8_88 rfl dX8_item_3 (by first | exact rh47 b | exact rh59 b) (m_here b (by omega)) (by exact Nat.le_of_ble_eq_true rfl) ?_
      refine zj_bipush (v := nI 50) dX8_item_6 (by decide) ?_
      refine zj_bipush (v := nI 57) dX8_item_8 (by decide) ?_
      refine zc_8_63 rfl dX8_item_10 (m_digN b (fun x y => hd ⟨x, y⟩)) (by exact Nat.le_of_ble_eq_true rfl) ?_
      refine zj_if_eqN (tgt := 54) dX8_item_13 (by decide) (by omega) (fun _ => ?_) (fun zq => absurd (by omega) zq)
      exact hJ
/-- what an item leaves -/
def s_IR (T : List Nat) (deep i fr : Nat) (F : Nat → Int32) (j : Nat) (wr : Int32) (v : Nat) (F' : Nat → Int32) : Prop := (wr = 1 ∧ v ≤ 1000 ∧ j ≤ T.length ∧ s_fp (fun j => T.getD j 0) (T.length - i) i deep true = some j) ∨ (wr = 0 ∧ ∃ x, s_gd (fun j => T.getD j 0) T.length deep i j x ∧ v = min x.length 1000 ∧ s_wr F F' fr x)
/-- what a row leaves -/
def s_RR (T : List Nat) (deep i fr : Nat) (F : Nat → Int32) (j : Nat) (wr : Int32) (v : Nat) (F' : Nat → Int32) : Prop := (wr = 1 ∧ v ≤ 1000 ∧ j ≤ T.length ∧ s_fp (fun j => T.getD j 0) (T.length - i) i deep true = some j) ∨ (wr = 0 ∧ ∃ x, s_gd (fun j => T.getD j 0) T.length deep i j x ∧ v = min x.length 1000 ∧ s_wr F F' fr x ∧ (j < T.length → ¬ s_beg (T.getD j 0)))
theorem m_it_120W (b : s_RB h T) {t : Int32} (hi : i ≤ T.length) (hs : i < T.length → s_syl (T.getD i 0) = none) : ∀ o5, zB mX8_item (d + 1) (some (.int (nI 0))) (s_rh h g pn T.length i 1 F) 120 [some (.ref 47), some (.int (nI fr)), some (.int (nI deep)), some (.int t), some (.int (nI 1)), o5] [] (s_rh h g pn T.length i 0 F) := by
  intro o5
  have hn := b.2.2.2.1
  have n45 : ¬ (i < T.length ∧ T.getD i 0 = 45) := fun x => by
    have := hs x.1
    unfold s_syl at this
    rw [if_pos x.2] at this
    cases this
  have nlet : i < T.length → ¬ (97 ≤ T.getD i 0 ∧ T.getD i 0 ≤ 104) := fun x y => by
    have := hs x
    unfold s_syl at this
    rw [if_neg (by omega), if_pos y] at this
    cases this
  refine zj_aload_n dX8_item_120 (by rfl) ?_
  refine zc_8_88 rfl dX8_item_121 (by first | exact rh47 b | exact rh59 b) (m_here b (by omega)) (by exact Nat.le_of_ble_eq_true rfl) ?_
  refine zj_bipush (v := nI 45) dX8_item_124 (by decide) ?_
  refine zj_icmp_ne (tgt := 133) dX8_item_126 (by decide) (fun _ => ?_) (fun zq => absurd zq (s_hrN b (by omega) n45))
  refine zj_iconst (v := nI 0) dX8_item_133 (by decide) ?_
  refine zj_istore dX8_item_134 (by decide) ?_
  refine zj_aload_n dX8_item_136 (by rfl) ?_
  refine zj_aload_n dX8_item_137 (by rfl) ?_
  refine zg_8_96 rfl dX8_item_138 (by first | exact rh47 b | exact rh59 b) (by rfl) ?_
  refine zj_if_ne (tgt := 163) dX8_item_141 (by decide) (fun zq => absurd (rfl) zq) (fun _ => ?_)
  refine zj_iload dX8_item_144 (by rfl) ?_
  refine zj_if_neN (tgt := 167) dX8_item_146 (by decide) (by omega) (fun zq => absurd (by omega) zq) (fun _ => ?_)
  refine zj_aload_n dX8_item_149 (by rfl) ?_
  refine zc_8_88 rfl dX8_item_150 (by first | exact rh47 b | exact rh59 b) (m_here b (by omega)) (by exact Nat.le_of_ble_eq_true rfl) ?_
  refine zj_bipush (v := nI 97) dX8_item_153 (by decide) ?_
  refine zj_bipush (v := nI 104) dX8_item_155 (by decide) ?_
  refine zc_8_63 rfl dX8_item_157 (m_letN b nlet) (by exact Nat.le_of_ble_eq_true rfl) ?_
  refine zj_if_neN (tgt := 167) dX8_item_160 (by decide) (by omega) (fun zq => absurd (by omega) zq) (fun _ => ?_)
  refine zj_iconst (v := nI 1) dX8_item_163 (by decide) ?_
  refine zj_goto (tgt := 168) dX8_item_164 (by decide) ?_
  refine zp_8_96 rfl dX8_item_168 (rh47 b) (by exact Nat.le_of_ble_eq_true rfl) (Or.inr rfl) ?_
  rw [show nI 1 = (1 : Int32) from rfl, rh_w]
  refine zj_aload_n dX8_item_171 (by rfl) ?_
  refine zg_8_96 rfl dX8_item_172 (by first | exact rh47 b | exact rh59 b) (by rfl) ?_
  refine zj_if_ne (tgt := 207) dX8_item_175 (by decide) (fun _ => ?_) (fun zq => absurd zq (by decide))
  refine zj_aload_n dX8_item_207 (by rfl) ?_
  refine zg_8_96 rfl dX8_item_208 (by first | exact rh47 b | exact rh59 b) (by rfl) ?_
  refine zj_if_eq (tgt := 216) dX8_item_211 (by decide) (fun zq => absurd zq (by decide)) (fun _ => ?_)
  refine zj_iconst (v := nI 0) dX8_item_214 (by decide) ?_
  refine zj_iret dX8_item_215 rfl (Nat.le_refl _) (Nat.le_refl _) ?_
  exact ⟨rfl, rfl⟩
theorem m_it_120S (b : s_RB h T) {s p : Nat} (hp : 1 ≤ p) (hfr : fr ≤ 7000) (hi : i < T.length) (hs : s_syl (T.getD i 0) = some s) : ∃ F', s_wr F F' fr (s_rep p [s]) ∧ ∀ o5, zB mX8_item (d + 1) (some (.int (nI (min (s_rep p [s]).length 1000)))) (s_rh h g pn T.length (i + 1) 0 F') 120 [some (.ref 47), some (.int (nI fr)), some (.int (nI deep)), some (.int (nI (min p 1000))), some (.int (nI 1)), o5] [] (s_rh h g pn T.length i 0 F) := by
  have hn := b.2.2.2.1
  have hw : s_wr F (if fr < 60 then upd F fr (nI s) else F) fr [s] := by
    by_cases h6 : fr < 60
    · rw [if_pos h6]
      refine ⟨fun q hq => pk_un (by omega), fun q hq hf => ?_⟩
      have hq0 : q = 0 := by simp at hq; omega
      rw [hq0]
      exact pk_us
    · rw [if_neg h6]
      exact ⟨fun q hq => rfl, fun q hq hf => by omega⟩
  obtain ⟨F', hF', hJ⟩ := m_it_207 (d := d + 1) (g := g) (pn := pn) (tn := T.length) (deep := deep) b (y := [s]) (by simp) hp hfr (show i ≤ 60 by omega) hw
  refine ⟨F', hF', fun o5 => ?_⟩
  have e1 : min [s].length 1000 = 1 := rfl
  rw [e1] at hJ
  unfold s_syl at hs
  by_cases h45 : T.getD i 0 = 45
  · rw [if_pos h45] at hs
    obtain rfl : 8 = s := Option.some.inj hs
    by_cases h6 : fr < 60
    · rw [if_pos h6] at hJ
      refine zj_aload_n dX8_item_120 (by rfl) ?_
      refine zc_8_88 rfl dX8_item_121 (by first | exact rh47 b | exact rh59 b) (m_here b (by omega)) (by exact Nat.le_of_ble_eq_true rfl) ?_
      refine zj_bipush (v := nI 45) dX8_item_124 (by decide) ?_
      refine zj_icmp_ne (tgt := 133) dX8_item_126 (by decide) (fun zq => absurd (s_hrY hi h45) zq) (fun _ => ?_)
      refine zj_iconst (v := nI 1) dX8_item_129 (by decide) ?_
      refine zj_goto (tgt := 134) dX8_item_130 (by decide) ?_
      refine zj_istore dX8_item_134 (by decide) ?_
      refine zj_aload_n dX8_item_136 (by rfl) ?_
      refine zj_aload_n dX8_item_137 (by rfl) ?_
      refine zg_8_96 rfl dX8_item_138 (by first | exact rh47 b | exact rh59 b) (by rfl) ?_
      refine zj_if_ne (tgt := 163) dX8_item_141 (by decide) (fun zq => absurd (rfl) zq) (fun _ => ?_)
      refine zj_iload dX8_item_144 (by rfl) ?_
      refine zj_if_neN (tgt := 167) dX8_item_146 (by decide) (by omega) (fun _ => ?_) (fun zq => absurd zq (by omega))
      refine zj_iconst (v := nI 0) dX8_item_167 (by decide) ?_
      refine zp_8_96 rfl dX8_item_168 (rh47 b) (by exact Nat.le_of_ble_eq_true rfl) (Or.inl rfl) ?_
      rw [show nI 0 = (0 : Int32) from rfl, rh_w]
      refine zj_aload_n dX8_item_171 (by rfl) ?_
      refine zg_8_96 rfl dX8_item_172 (by first | exact rh47 b | exact rh59 b) (by rfl) ?_
      refine zj_if_ne (tgt := 207) dX8_item_175 (by decide) (fun zq => absurd (rfl) zq) (fun _ => ?_)
      refine zj_iload_n dX8_item_178 (by rfl) ?_
      refine zj_bipush (v := nI 60) dX8_item_179 (by decide) ?_
      refine zj_icmp_geN (tgt := 207) dX8_item_181 (by decide) (by omega) (fun zq => absurd zq (by omega)) (fun _ => ?_)
      refine zj_aload_n dX8_item_184 (by rfl) ?_
      refine zg_8_47 rfl dX8_item_185 (by first | exact rh47 b | exact rh59 b) (by rfl) ?_
      refine zj_iload_n dX8_item_188 (by rfl) ?_
      refine zj_iload dX8_item_189 (by rfl) ?_
      refine zj_if_eqN (tgt := 199) dX8_item_191 (by decide) (by omega) (fun zq => absurd zq (by omega)) (fun _ => ?_)
      refine zj_bipush (v := nI 8) dX8_item_194 (by decide) ?_
      refine zj_goto (tgt := 206) dX8_item_196 (by decide) ?_
      refine zj_iastN dX8_item_206 (by first | exact rh47 b | exact rh59 b) (by omega) ?_
      rw [rh_F]
      exact hJ _
    · rw [if_neg h6] at hJ
      refine zj_aload_n dX8_item_120 (by rfl) ?_
      refine zc_8_88 rfl dX8_item_121 (by first | exact rh47 b | exact rh59 b) (m_here b (by omega)) (by exact Nat.le_of_ble_eq_true rfl) ?_
      refine zj_bipush (v := nI 45) dX8_item_124 (by decide) ?_
      refine zj_icmp_ne (tgt := 133) dX8_item_126 (by decide) (fun zq => absurd (s_hrY hi h45) zq) (fun _ => ?_)
      refine zj_iconst (v := nI 1) dX8_item_129 (by decide) ?_
      refine zj_goto (tgt := 134) dX8_item_130 (by decide) ?_
      refine zj_istore dX8_item_134 (by decide) ?_
      refine zj_aload_n dX8_item_136 (by rfl) ?_
      refine zj_aload_n dX8_item_137 (by rfl) ?_
      refine zg_8_96 rfl dX8_item_138 (by first | exact rh47 b | exact rh59 b) (by rfl) ?_
      refine zj_if_ne (tgt := 163) dX8_item_141 (by decide) (fun zq => absurd (rfl) zq) (fun _ => ?_)
      refine zj_iload dX8_item_144 (by rfl) ?_
      refine zj_if_neN (tgt := 167) dX8_item_146 (by decide) (by omega) (fun _ => ?_) (fun zq => absurd zq (by omega))
      refine zj_iconst (v := nI 0) dX8_item_167 (by decide) ?_
      refine zp_8_96 rfl dX8_item_168 (rh47 b) (by exact Nat.le_of_ble_eq_true rfl) (Or.inl rfl) ?_
      rw [show nI 0 = (0 : Int32) from rfl, rh_w]
      refine zj_aload_n dX8_item_171 (by rfl) ?_
      refine zg_8_96 rfl dX8_item_172 (by first | exact rh47 b | exact rh59 b) (by rfl) ?_
      refine zj_if_ne (tgt := 207) dX8_item_175 (by decide) (fun zq => absurd (rfl) zq) (fun _ => ?_)
      refine zj_iload_n dX8_item_178 (by rfl) ?_
      refine zj_bipush (v := nI 60) dX8_item_179 (by decide) ?_
      refine zj_icmp_geN (tgt := 207) dX8_item_181 (by decide) (by omega) (fun _ => ?_) (fun zq => absurd (by omega) zq)
      exact hJ _
  · rw [if_neg h45] at hs
    by_cases hl : 97 ≤ T.getD i 0 ∧ T.getD i 0 ≤ 104
    · rw [if_pos hl] at hs
      obtain rfl : T.getD i 0 - 97 = s := Option.some.inj hs
      by_cases h6 : fr < 60
      · rw [if_pos h6] at hJ
        refine zj_aload_n dX8_item_120 (by rfl) ?_
        refine zc_8_88 rfl dX8_item_121 (by first | exact rh47 b | exact rh59 b) (m_here b (by omega)) (by exact Nat.le_of_ble_eq_true rfl) ?_
        refine zj_bipush (v := nI 45) dX8_item_124 (by decide) ?_
        refine zj_icmp_ne (tgt := 133) dX8_item_126 (by decide) (fun _ => ?_) (fun zq => absurd zq (s_hrN b (by omega) (fun x => h45 x.2)))
        refine zj_iconst (v := nI 0) dX8_item_133 (by decide) ?_
        refine zj_istore dX8_item_134 (by decide) ?_
        refine zj_aload_n dX8_item_136 (by rfl) ?_
        refine zj_aload_n dX8_item_137 (by rfl) ?_
        refine zg_8_96 rfl dX8_item_138 (by first | exact rh47 b | exact rh59 b) (by rfl) ?_
        refine zj_if_ne (tgt := 163) dX8_item_141 (by decide) (fun zq => absurd (rfl) zq) (fun _ => ?_)
        refine zj_iload dX8_item_144 (by rfl) ?_
        refine zj_if_neN (tgt := 167) dX8_item_146 (by decide) (by omega) (fun zq => absurd (by omega) zq) (fun _ => ?_)
        refine zj_aload_n dX8_item_149 (by rfl) ?_
        refine zc_8_88 rfl dX8_item_150 (by first | exact rh47 b | exact rh59 b) (m_here b (by omega)) (by exact Nat.le_of_ble_eq_true rfl) ?_
        refine zj_bipush (v := nI 97) dX8_item_153 (by decide) ?_
        refine zj_bipush (v := nI 104) dX8_item_155 (by decide) ?_
        refine zc_8_63 rfl dX8_item_157 (m_let hi hl) (by exact Nat.le_of_ble_eq_true rfl) ?_
        refine zj_if_neN (tgt := 167) dX8_item_160 (by decide) (by omega) (fun _ => ?_) (fun zq => absurd zq (by omega))
        refine zj_iconst (v := nI 0) dX8_item_167 (by decide) ?_
        refine zp_8_96 rfl dX8_item_168 (rh47 b) (by exact Nat.le_of_ble_eq_true rfl) (Or.inl rfl) ?_
        rw [show nI 0 = (0 : Int32) from rfl, rh_w]
        refine zj_aload_n dX8_item_171 (by rfl) ?_
        refine zg_8_96 rfl dX8_item_172 (by first | exact rh47 b | exact rh59 b) (by rfl) ?_
        refine zj_if_ne (tgt := 207) dX8_item_175 (by decide) (fun zq => absurd (rfl) zq) (fun _ => ?_)
        refine zj_iload_n dX8_item_178 (by rfl) ?_
        refine zj_bipush (v := nI 60) dX8_item_179 (by decide) ?_
        refine zj_icmp_geN (tgt := 207) dX8_item_181 (by decide) (by omega) (fun zq => absurd zq (by omega)) (fun _ => ?_)
        refine zj_aload_n dX8_item_184 (by rfl) ?_
        refine zg_8_47 rfl dX8_item_185 (by first | exact rh47 b | exact rh59 b) (by rfl) ?_
        refine zj_iload_n dX8_item_188 (by rfl) ?_
        refine zj_iload dX8_item_189 (by rfl) ?_
        refine zj_if_eq (tgt := 199) dX8_item_191 (by decide) (fun _ => ?_) (fun zq => absurd (rfl) zq)
        refine zj_aload_n dX8_item_199 (by rfl) ?_
        refine zc_8_88 rfl dX8_item_200 (by first | exact rh47 b | exact rh59 b) (m_here b (by omega)) (by exact Nat.le_of_ble_eq_true rfl) ?_
        rw [s_hr1 hi]
        refine zj_bipush (v := nI 97) dX8_item_203 (by decide) ?_
        show zJ _ _ _ _ _ _ _ _ _ (.int (nI 97) :: .int (nI (T.getD i 0)) :: _) _ _ _
        refine zj_isubN dX8_item_205 (by omega) ?_
        refine zj_iastN dX8_item_206 (by first | exact rh47 b | exact rh59 b) (by omega) ?_
        rw [rh_F]
        exact hJ _
      · rw [if_neg h6] at hJ
        refine zj_aload_n dX8_item_120 (by rfl) ?_
        refine zc_8_88 rfl dX8_item_121 (by first | exact rh47 b | exact rh59 b) (m_here b (by omega)) (by exact Nat.le_of_ble_eq_true rfl) ?_
        refine zj_bipush (v := nI 45) dX8_item_124 (by decide) ?_
        refine zj_icmp_ne (tgt := 133) dX8_item_126 (by decide) (fun _ => ?_) (fun zq => absurd zq (s_hrN b (by omega) (fun x => h45 x.2)))
        refine zj_iconst (v := nI 0) dX8_item_133 (by decide) ?_
        refine zj_istore dX8_item_134 (by decide) ?_
        refine zj_aload_n dX8_item_136 (by rfl) ?_
        refine zj_aload_n dX8_item_137 (by rfl) ?_
        refine zg_8_96 rfl dX8_item_138 (by first | exact rh47 b | exact rh59 b) (by rfl) ?_
        refine zj_if_ne (tgt := 163) dX8_item_141 (by decide) (fun zq => absurd (rfl) zq) (fun _ => ?_)
        refine zj_iload dX8_item_144 (by rfl) ?_
        refine zj_if_neN (tgt := 167) dX8_item_146 (by decide) (by omega) (fun zq => absurd (by omega) zq) (fun _ => ?_)
        refine zj_aload_n dX8_item_149 (by rfl) ?_
        refine zc_8_88 rfl dX8_item_150 (by first | exact rh47 b | exact rh59 b) (m_here b (by omega)) (by exact Nat.le_of_ble_eq_true rfl) ?_
        refine zj_bipush (v := nI 97) dX8_item_153 (by decide) ?_
        refine zj_bipush (v := nI 104) dX8_item_155 (by decide) ?_
        refine zc_8_63 rfl dX8_item_157 (m_let hi hl) (by exact Nat.le_of_ble_eq_true rfl) ?_
        refine zj_if_neN (tgt := 167) dX8_item_160 (by decide) (by omega) (fun _ => ?_) (fun zq => absurd zq (by omega))
        refine zj_iconst (v := nI 0) dX8_item_167 (by decide) ?_
        refine zp_8_96 rfl dX8_item_168 (rh47 b) (by exact Nat.le_of_ble_eq_true rfl) (Or.inl rfl) ?_
        rw [show nI 0 = (0 : Int32) from rfl, rh_w]
        refine zj_aload_n dX8_item_171 (by rfl) ?_
        refine zg_8_96 rfl dX8_item_172 (by first | exact rh47 b | exact rh59 b) (by rfl) ?_
        refine zj_if_ne (tgt := 207) dX8_item_175 (by decide) (fun zq => absurd (rfl) zq) (fun _ => ?_)
        refine zj_iload_n dX8_item_178 (by rfl) ?_
        refine zj_bipush (v := nI 60) dX8_item_179 (by decide) ?_
        refine zj_icmp_geN (tgt := 207) dX8_item_181 (by decide) (by omega) (fun _ => ?_) (fun zq => absurd (by omega) zq)
        exact hJ _
    · rw [if_neg hl] at hs; cases hs
theorem m_item (b : s_RB h T) (hd6 : deep ≤ 6) (hfr : fr ≤ 1000 * deep + 1000) (hi : i ≤ T.length) (hR : deep < 6 → ∀ i F, i ≤ T.length → ∃ j wr v F', s_RR T (deep + 1) i fr F j wr v F' ∧ zD mX8_row d [.ref 47, .int (nI fr), .int (nI (deep + 1))] (s_rh h g pn T.length i 0 F) (some (.int (nI v))) (s_rh h g pn T.length j wr F')) : ∃ j wr v F', s_IR T deep i fr F j wr v F' ∧ zD mX8_item (d + 1) [.ref 47, .int (nI fr), .int (nI deep)] (s_rh h g pn T.length i 0 F) (some (.int (nI v))) (s_rh h g pn T.length j wr F') := by
  have hn := b.2.2.2.1
  obtain ⟨i', p, hpre, hnd, hD⟩ := m_it_d (d := d) (g := g) (pn := pn) (fr := fr) (F := F) (deep := deep) b (T.length - i) i 1 (Nat.le_refl _) (pre_0 hi)
  have e1 : min 1 1000 = 1 := rfl
  rw [e1] at hD
  have hi2 := hpre.2.1
  have hp1 := hpre.2.2.1
  suffices hs : ∃ j wr v F', s_IR T deep i fr F j wr v F' ∧ ∀ o4 o5, zB mX8_item (d + 1) (some (.int (nI v))) (s_rh h g pn T.length j wr F') 54 [some (.ref 47), some (.int (nI fr)), some (.int (nI deep)), some (.int (nI (min p 1000))), o4, o5] [] (s_rh h g pn T.length i' 0 F) by
    obtain ⟨j, wr, v, F', h1, h2⟩ := hs
    refine ⟨j, wr, v, F', h1, ?_⟩
    have hJ := hD _ _ none none (h2 none none)
    refine zD_of (by decide +kernel) (by exact Nat.le_of_ble_eq_true rfl) ?_
    show zB mX8_item _ _ _ 0 [some (.ref 47), some (.int (nI fr)), some (.int (nI deep)), none, none, none] [] _
    refine zj_iconst (v := nI 1) dX8_item_0 (by decide) ?_
    refine zj_istore_n dX8_item_1 (by decide) ?_
    exact hJ
  by_cases ho : i' < T.length ∧ T.getD i' 0 = 40 ∧ deep < 6
  · obtain ⟨o1, o2, o3⟩ := ho
    obtain ⟨j, wr, v, F1, hRR, hZ⟩ := hR o3 (i' + 1) F (by omega)
    have hfpo : s_fp (fun j => T.getD j 0) (T.length - i) i deep true = s_fp (fun j => T.getD j 0) (T.length - (i' + 1)) (i' + 1) (deep + 1) true := by
      rw [hpre.2.2.2.1, show T.length - i' = (T.length - (i' + 1)) + 1 by omega, fp_open (tb := fun j => T.getD j 0) o2 o3]
    rcases hRR with ⟨rfl, hv, hj, hfp⟩ | ⟨rfl, y, hgd, rfl, hw, hnb⟩
    · refine ⟨j, 1, 0, F1, Or.inl ⟨rfl, by omega, hj, by rw [hfpo]; exact hfp⟩, fun o4 o5 => ?_⟩
      refine zj_iconst (v := nI 1) dX8_item_54 (by decide) ?_
      refine zj_istore dX8_item_55 (by decide) ?_
      refine zj_aload_n dX8_item_57 (by rfl) ?_
      refine zc_8_88 rfl dX8_item_58 (by first | exact rh47 b | exact rh59 b) (m_here b (by omega)) (by exact Nat.le_of_ble_eq_true rfl) ?_
      refine zj_bipush (v := nI 40) dX8_item_61 (by decide) ?_
      refine zj_icmp_ne (tgt := 120) dX8_item_63 (by decide) (fun zq => absurd (s_hrY o1 o2) zq) (fun _ => ?_)
      refine zj_iload_n dX8_item_66 (by rfl) ?_
      refine zj_bipush (v := nI 6) dX8_item_67 (by decide) ?_
      refine zj_icmp_geN (tgt := 120) dX8_item_69 (by decide) (by omega) (fun zq => absurd zq (by omega)) (fun _ => ?_)
      refine zj_aload_n dX8_item_72 (by rfl) ?_
      refine zj_dup dX8_item_73 rfl ?_
      refine zg_8_85 rfl dX8_item_74 (by first | exact rh47 b | exact rh59 b) (by rfl) ?_
      refine zj_iconst (v := nI 1) dX8_item_77 (by decide) ?_
      refine zj_iaddN dX8_item_78 ?_
      refine zp_8_85 rfl dX8_item_79 (by first | exact rh47 b | exact rh59 b) (by exact Nat.le_of_ble_eq_true rfl) ?_
      rw [rh_r]
      refine zj_aload_n dX8_item_82 (by rfl) ?_
      refine zj_iload_n dX8_item_83 (by rfl) ?_
      refine zj_iload_n dX8_item_84 (by rfl) ?_
      refine zj_iconst (v := nI 1) dX8_item_85 (by decide) ?_
      refine zj_iaddN dX8_item_86 ?_
      refine zc_8_92 rfl dX8_item_87 (by first | exact rh47 b | exact rh59 b) hZ (by exact Nat.le_of_ble_eq_true rfl) ?_
      refine zj_istore dX8_item_90 (by decide) ?_
      refine zj_aload_n dX8_item_92 (by rfl) ?_
      refine zj_aload_n dX8_item_93 (by rfl) ?_
      refine zg_8_96 rfl dX8_item_94 (by first | exact rh47 b | exact rh59 b) (by rfl) ?_
      refine zj_if_ne (tgt := 109) dX8_item_97 (by decide) (fun _ => ?_) (fun zq => absurd zq (by decide))
      refine zj_iconst (v := nI 1) dX8_item_109 (by decide) ?_
      refine zj_goto (tgt := 114) dX8_item_110 (by decide) ?_
      refine zp_8_96 rfl dX8_item_114 (rh47 b) (by exact Nat.le_of_ble_eq_true rfl) (Or.inr rfl) ?_
      rw [show nI 1 = (1 : Int32) from rfl, rh_w]
      refine zj_goto (tgt := 207) dX8_item_117 (by decide) ?_
      refine zj_aload_n dX8_item_207 (by rfl) ?_
      refine zg_8_96 rfl dX8_item_208 (by first | exact rh47 b | exact rh59 b) (by rfl) ?_
      refine zj_if_eq (tgt := 216) dX8_item_211 (by decide) (fun zq => absurd zq (by decide)) (fun _ => ?_)
      refine zj_iconst (v := nI 0) dX8_item_214 (by decide) ?_
      refine zj_iret dX8_item_215 rfl (Nat.le_refl _) (Nat.le_refl _) ?_
      exact ⟨rfl, rfl⟩
    · have hj := hgd.2.1
      by_cases hc : j < T.length ∧ T.getD j 0 = 41
      · obtain ⟨F', hF', hJ⟩ := m_it_207 (d := d + 1) (g := g) (pn := pn) (tn := T.length) (deep := deep) (fr := fr) b hgd.2.2.2.1 hp1 (by omega) (show j ≤ 60 by omega) hw
        refine ⟨j + 1, 0, _, F', Or.inr ⟨rfl, s_rep p y, gd_open hpre o1 o2 o3 hgd hc.1 hc.2, rfl, hF'⟩, fun o4 o5 => ?_⟩
        refine zj_iconst (v := nI 1) dX8_item_54 (by decide) ?_
        refine zj_istore dX8_item_55 (by decide) ?_
        refine zj_aload_n dX8_item_57 (by rfl) ?_
        refine zc_8_88 rfl dX8_item_58 (by first | exact rh47 b | exact rh59 b) (m_here b (by omega)) (by exact Nat.le_of_ble_eq_true rfl) ?_
        refine zj_bipush (v := nI 40) dX8_item_61 (by decide) ?_
        refine zj_icmp_ne (tgt := 120) dX8_item_63 (by decide) (fun zq => absurd (s_hrY o1 o2) zq) (fun _ => ?_)
        refine zj_iload_n dX8_item_66 (by rfl) ?_
        refine zj_bipush (v := nI 6) dX8_item_67 (by decide) ?_
        refine zj_icmp_geN (tgt := 120) dX8_item_69 (by decide) (by omega) (fun zq => absurd zq (by omega)) (fun _ => ?_)
        refine zj_aload_n dX8_item_72 (by rfl) ?_
        refine zj_dup dX8_item_73 rfl ?_
        refine zg_8_85 rfl dX8_item_74 (by first | exact rh47 b | exact rh59 b) (by rfl) ?_
        refine zj_iconst (v := nI 1) dX8_item_77 (by decide) ?_
        refine zj_iaddN dX8_item_78 ?_
        refine zp_8_85 rfl dX8_item_79 (by first | exact rh47 b | exact rh59 b) (by exact Nat.le_of_ble_eq_true rfl) ?_
        rw [rh_r]
        refine zj_aload_n dX8_item_82 (by rfl) ?_
        refine zj_iload_n dX8_item_83 (by rfl) ?_
        refine zj_iload_n dX8_item_84 (by rfl) ?_
        refine zj_iconst (v := nI 1) dX8_item_85 (by decide) ?_
        refine zj_iaddN dX8_item_86 ?_
        refine zc_8_92 rfl dX8_item_87 (by first | exact rh47 b | exact rh59 b) hZ (by exact Nat.le_of_ble_eq_true rfl) ?_
        refine zj_istore dX8_item_90 (by decide) ?_
        refine zj_aload_n dX8_item_92 (by rfl) ?_
        refine zj_aload_n dX8_item_93 (by rfl) ?_
        refine zg_8_96 rfl dX8_item_94 (by first | exact rh47 b | exact rh59 b) (by rfl) ?_
        refine zj_if_ne (tgt := 109) dX8_item_97 (by decide) (fun zq => absurd (rfl) zq) (fun _ => ?_)
        refine zj_aload_n dX8_item_100 (by rfl) ?_
        refine zc_8_88 rfl dX8_item_101 (by first | exact rh47 b | exact rh59 b) (m_here b (by omega)) (by exact Nat.le_of_ble_eq_true rfl) ?_
        refine zj_bipush (v := nI 41) dX8_item_104 (by decide) ?_
        refine zj_icmp_eq (tgt := 113) dX8_item_106 (by decide) (fun _ => ?_) (fun zq => absurd (s_hrY hc.1 hc.2) zq)
        refine zj_iconst (v := nI 0) dX8_item_113 (by decide) ?_
        refine zp_8_96 rfl dX8_item_114 (rh47 b) (by exact Nat.le_of_ble_eq_true rfl) (Or.inl rfl) ?_
        rw [show nI 0 = (0 : Int32) from rfl, rh_w]
        refine zj_goto (tgt := 207) dX8_item_117 (by decide) ?_
        exact hJ _
      · refine ⟨j, 1, 0, F1, Or.inl ⟨rfl, by omega, hj, ?_⟩, fun o4 o5 => ?_⟩
        · rw [hfpo, hgd.2.2.1]
          exact fp_stop2 (fun x => ⟨hnb x, fun e => absurd ⟨x, e⟩ hc⟩) (fun _ => by omega)
        · refine zj_iconst (v := nI 1) dX8_item_54 (by decide) ?_
          refine zj_istore dX8_item_55 (by decide) ?_
          refine zj_aload_n dX8_item_57 (by rfl) ?_
          refine zc_8_88 rfl dX8_item_58 (by first | exact rh47 b | exact rh59 b) (m_here b (by omega)) (by exact Nat.le_of_ble_eq_true rfl) ?_
          refine zj_bipush (v := nI 40) dX8_item_61 (by decide) ?_
          refine zj_icmp_ne (tgt := 120) dX8_item_63 (by decide) (fun zq => absurd (s_hrY o1 o2) zq) (fun _ => ?_)
          refine zj_iload_n dX8_item_66 (by rfl) ?_
          refine zj_bipush (v := nI 6) dX8_item_67 (by decide) ?_
          refine zj_icmp_geN (tgt := 120) dX8_item_69 (by decide) (by omega) (fun zq => absurd zq (by omega)) (fun _ => ?_)
          refine zj_aload_n dX8_item_72 (by rfl) ?_
          refine zj_dup dX8_item_73 rfl ?_
          refine zg_8_85 rfl dX8_item_74 (by first | exact rh47 b | exact rh59 b) (by rfl) ?_
          refine zj_iconst (v := nI 1) dX8_item_77 (by decide) ?_
          refine zj_iaddN dX8_item_78 ?_
          refine zp_8_85 rfl dX8_item_79 (by first | exact rh47 b | exact rh59 b) (by exact Nat.le_of_ble_eq_true rfl) ?_
          rw [rh_r]
          refine zj_aload_n dX8_item_82 (by rfl) ?_
          refine zj_iload_n dX8_item_83 (by rfl) ?_
          refine zj_iload_n dX8_item_84 (by rfl) ?_
          refine zj_iconst (v := nI 1) dX8_item_85 (by decide) ?_
          refine zj_iaddN dX8_item_86 ?_
          refine zc_8_92 rfl dX8_item_87 (by first | exact rh47 b | exact rh59 b) hZ (by exact Nat.le_of_ble_eq_true rfl) ?_
          refine zj_istore dX8_item_90 (by decide) ?_
          refine zj_aload_n dX8_item_92 (by rfl) ?_
          refine zj_aload_n dX8_item_93 (by rfl) ?_
          refine zg_8_96 rfl dX8_item_94 (by first | exact rh47 b | exact rh59 b) (by rfl) ?_
          refine zj_if_ne (tgt := 109) dX8_item_97 (by decide) (fun zq => absurd (rfl) zq) (fun _ => ?_)
          refine zj_aload_n dX8_item_100 (by rfl) ?_
          refine zc_8_88 rfl dX8_item_101 (by first | exact rh47 b | exact rh59 b) (m_here b (by omega)) (by exact Nat.le_of_ble_eq_true rfl) ?_
          refine zj_bipush (v := nI 41) dX8_item_104 (by decide) ?_
          refine zj_icmp_eq (tgt := 113) dX8_item_106 (by decide) (fun zq => absurd zq (s_hrN b (by omega) hc)) (fun _ => ?_)
          refine zj_iconst (v := nI 1) dX8_item_109 (by decide) ?_
          refine zj_goto (tgt := 114) dX8_item_110 (by decide) ?_
          refine zp_8_96 rfl dX8_item_114 (rh47 b) (by exact Nat.le_of_ble_eq_true rfl) (Or.inr rfl) ?_
          rw [show nI 1 = (1 : Int32) from rfl, rh_w]
          refine zj_goto (tgt := 207) dX8_item_117 (by decide) ?_
          refine zj_aload_n dX8_item_207 (by rfl) ?_
          refine zg_8_96 rfl dX8_item_208 (by first | exact rh47 b | exact rh59 b) (by rfl) ?_
          refine zj_if_eq (tgt := 216) dX8_item_211 (by decide) (fun zq => absurd zq (by decide)) (fun _ => ?_)
          refine zj_iconst (v := nI 0) dX8_item_214 (by decide) ?_
          refine zj_iret dX8_item_215 rfl (Nat.le_refl _) (Nat.le_refl _) ?_
          exact ⟨rfl, rfl⟩
  · have hgo : ∀ {R h1 o4 o5}, (∀ o5, zB mX8_item (d + 1) R h1 120 [some (.ref 47), some (.int (nI fr)), some (.int (nI deep)), some (.int (nI (min p 1000))), some (.int (nI 1)), o5] [] (s_rh h g pn T.length i' 0 F)) → zB mX8_item (d + 1) R h1 54 [some (.ref 47), some (.int (nI fr)), some (.int (nI deep)), some (.int (nI (min p 1000))), o4, o5] [] (s_rh h g pn T.length i' 0 F) := by
      intro R h1 o4 o5 hJ
      by_cases h40 : i' < T.length ∧ T.getD i' 0 = 40
      · refine zj_iconst (v := nI 1) dX8_item_54 (by decide) ?_
        refine zj_istore dX8_item_55 (by decide) ?_
        refine zj_aload_n dX8_item_57 (by rfl) ?_
        refine zc_8_88 rfl dX8_item_58 (by first | exact rh47 b | exact rh59 b) (m_here b (by omega)) (by exact Nat.le_of_ble_eq_true rfl) ?_
        refine zj_bipush (v := nI 40) dX8_item_61 (by decide) ?_
        refine zj_icmp_ne (tgt := 120) dX8_item_63 (by decide) (fun zq => absurd (s_hrY h40.1 h40.2) zq) (fun _ => ?_)
        refine zj_iload_n dX8_item_66 (by rfl) ?_
        refine zj_bipush (v := nI 6) dX8_item_67 (by decide) ?_
        refine zj_icmp_geN (tgt := 120) dX8_item_69 (by decide) (by omega) (fun _ => ?_) (fun zq => absurd (Nat.le_of_not_lt (fun x => ho ⟨h40.1, h40.2, x⟩)) zq)
        exact hJ _
      · refine zj_iconst (v := nI 1) dX8_item_54 (by decide) ?_
        refine zj_istore dX8_item_55 (by decide) ?_
        refine zj_aload_n dX8_item_57 (by rfl) ?_
        refine zc_8_88 rfl dX8_item_58 (by first | exact rh47 b | exact rh59 b) (m_here b (by omega)) (by exact Nat.le_of_ble_eq_true rfl) ?_
        refine zj_bipush (v := nI 40) dX8_item_61 (by decide) ?_
        refine zj_icmp_ne (tgt := 120) dX8_item_63 (by decide) (fun _ => ?_) (fun zq => absurd zq (s_hrN b (by omega) h40))
        exact hJ _
    by_cases hsy : i' < T.length ∧ s_syl (T.getD i' 0) ≠ none
    · obtain ⟨s, hs⟩ : ∃ s, s_syl (T.getD i' 0) = some s := by
        cases hs : s_syl (T.getD i' 0) with
        | none => exact absurd hs hsy.2
        | some s => exact ⟨s, rfl⟩
      obtain ⟨F', hF', hJ⟩ := m_it_120S (d := d) (g := g) (pn := pn) (deep := deep) (fr := fr) (F := F) b hp1 (by omega) hsy.1 hs
      exact ⟨i' + 1, 0, _, F', Or.inr ⟨rfl, s_rep p [s], gd_syl hpre hsy.1 hs, rfl, hF'⟩, fun o4 o5 => hgo hJ⟩
    · have hns : i' < T.length → s_syl (T.getD i' 0) = none := fun x => Classical.byContradiction (fun y => hsy ⟨x, y⟩)
      refine ⟨i', 1, 0, F, Or.inl ⟨rfl, by omega, hi2, ?_⟩, fun o4 o5 => hgo (m_it_120W b hi2 hns)⟩
      rw [hpre.2.2.2.1]
      exact fp_stop (fun x => ⟨hnd x, fun e => ho ⟨x, e.1, e.2⟩, hns x⟩)
theorem m_rw_more (b : s_RB h T) {nn : Int32} {v0 : Option Value} (hi : i ≤ T.length) {bb : Int32} (hbb : (bb = 1 ∧ i < T.length ∧ s_beg (T.getD i 0)) ∨ (bb = 0 ∧ (i < T.length → ¬ s_beg (T.getD i 0)))) (hJ : zB mX8_row (d + 1) R h1 5 [some (.ref 47), some (.int (nI fr)), some (.int (nI deep)), some (.int nn), some (.int bb), some (.int (s_hr T i))] [] (s_rh h g pn T.length i 0 F)) : zB mX8_row (d + 1) R h1 42 [some (.ref 47), some (.int (nI fr)), some (.int (nI deep)), some (.int nn), v0, some (.int (s_hr T i))] [] (s_rh h g pn T.length i 0 F) := by
  have hn := b.2.2.2.1
  by_cases c1 : i < T.length ∧ s_isT (T.getD i 0) = true
  · obtain rfl : bb = 1 := hbb.elim (fun x => x.1) (fun x => absurd (Or.inl c1.2) (x.2 c1.1))
    refine zj_aload_n dX8_row_42 (by rfl) ?_
    refine zg_8_96 rfl dX8_row_43 (by first | exact rh47 b | exact rh59 b) (by rfl) ?_
    refine zj_if_ne (tgt := 91) dX8_row_46 (by decide) (fun zq => absurd (rfl) zq) (fun _ => ?_)
    refine zj_iload dX8_row_49 (by rfl) ?_
    refine zj_bipush (v := nI 50) dX8_row_51 (by decide) ?_
    refine zj_bipush (v := nI 57) dX8_row_53 (by decide) ?_
    refine zc_8_63 rfl dX8_row_55 (m_dig b c1.1 c1.2) (by exact Nat.le_of_ble_eq_true rfl) ?_
    refine zj_if_neN (tgt := 87) dX8_row_58 (by decide) (by omega) (fun _ => ?_) (fun zq => absurd zq (by omega))
    refine zj_iconst (v := nI 1) dX8_row_87 (by decide) ?_
    refine zj_goto (tgt := 92) dX8_row_88 (by decide) ?_
    refine zj_istore dX8_row_92 (by decide) ?_
    refine zj_goto (tgt := 5) dX8_row_94 (by decide) ?_
    exact hJ
  · have n1 : i < T.length → ¬ s_isT (T.getD i 0) = true := fun x y => c1 ⟨x, y⟩
    by_cases c2 : i < T.length ∧ (97 ≤ T.getD i 0 ∧ T.getD i 0 ≤ 104)
    · obtain rfl : bb = 1 := hbb.elim (fun x => x.1) (fun x => absurd (Or.inr (Or.inr (by unfold s_syl; rw [if_neg (by omega), if_pos c2.2]; exact fun e => by cases e))) (x.2 c2.1))
      refine zj_aload_n dX8_row_42 (by rfl) ?_
      refine zg_8_96 rfl dX8_row_43 (by first | exact rh47 b | exact rh59 b) (by rfl) ?_
      refine zj_if_ne (tgt := 91) dX8_row_46 (by decide) (fun zq => absurd (rfl) zq) (fun _ => ?_)
      refine zj_iload dX8_row_49 (by rfl) ?_
      refine zj_bipush (v := nI 50) dX8_row_51 (by decide) ?_
      refine zj_bipush (v := nI 57) dX8_row_53 (by decide) ?_
      refine zc_8_63 rfl dX8_row_55 (m_digN b n1) (by exact Nat.le_of_ble_eq_true rfl) ?_
      refine zj_if_neN (tgt := 87) dX8_row_58 (by decide) (by omega) (fun zq => absurd (by omega) zq) (fun _ => ?_)
      refine zj_iload dX8_row_61 (by rfl) ?_
      refine zj_bipush (v := nI 97) dX8_row_63 (by decide) ?_
      refine zj_bipush (v := nI 104) dX8_row_65 (by decide) ?_
      refine zc_8_63 rfl dX8_row_67 (m_let c2.1 c2.2) (by exact Nat.le_of_ble_eq_true rfl) ?_
      refine zj_if_neN (tgt := 87) dX8_row_70 (by decide) (by omega) (fun _ => ?_) (fun zq => absurd zq (by omega))
      refine zj_iconst (v := nI 1) dX8_row_87 (by decide) ?_
      refine zj_goto (tgt := 92) dX8_row_88 (by decide) ?_
      refine zj_istore dX8_row_92 (by decide) ?_
      refine zj_goto (tgt := 5) dX8_row_94 (by decide) ?_
      exact hJ
    · have n2 : i < T.length → ¬ (97 ≤ T.getD i 0 ∧ T.getD i 0 ≤ 104) := fun x y => c2 ⟨x, y⟩
      by_cases c3 : i < T.length ∧ T.getD i 0 = 45
      · obtain rfl : bb = 1 := hbb.elim (fun x => x.1) (fun x => absurd (Or.inr (Or.inr (by unfold s_syl; rw [if_pos c3.2]; exact fun e => by cases e))) (x.2 c3.1))
        refine zj_aload_n dX8_row_42 (by rfl) ?_
        refine zg_8_96 rfl dX8_row_43 (by first | exact rh47 b | exact rh59 b) (by rfl) ?_
        refine zj_if_ne (tgt := 91) dX8_row_46 (by decide) (fun zq => absurd (rfl) zq) (fun _ => ?_)
        refine zj_iload dX8_row_49 (by rfl) ?_
        refine zj_bipush (v := nI 50) dX8_row_51 (by decide) ?_
        refine zj_bipush (v := nI 57) dX8_row_53 (by decide) ?_
        refine zc_8_63 rfl dX8_row_55 (m_digN b n1) (by exact Nat.le_of_ble_eq_true rfl) ?_
        refine zj_if_neN (tgt := 87) dX8_row_58 (by decide) (by omega) (fun zq => absurd (by omega) zq) (fun _ => ?_)
        refine zj_iload dX8_row_61 (by rfl) ?_
        refine zj_bipush (v := nI 97) dX8_row_63 (by decide) ?_
        refine zj_bipush (v := nI 104) dX8_row_65 (by decide) ?_
        refine zc_8_63 rfl dX8_row_67 (m_letN b n2) (by exact Nat.le_of_ble_eq_true rfl) ?_
        refine zj_if_neN (tgt := 87) dX8_row_70 (by decide) (by omega) (fun zq => absurd (by omega) zq) (fun _ => ?_)
        refine zj_iload dX8_row_73 (by rfl) ?_
        refine zj_bipush (v := nI 45) dX8_row_75 (by decide) ?_
        refine zj_icmp_eq (tgt := 87) dX8_row_77 (by decide) (fun _ => ?_) (fun zq => absurd (s_hrY c3.1 c3.2) zq)
        refine zj_iconst (v := nI 1) dX8_row_87 (by decide) ?_
        refine zj_goto (tgt := 92) dX8_row_88 (by decide) ?_
        refine zj_istore dX8_row_92 (by decide) ?_
        refine zj_goto (tgt := 5) dX8_row_94 (by decide) ?_
        exact hJ
      · by_cases c4 : i < T.length ∧ T.getD i 0 = 40
        · obtain rfl : bb = 1 := hbb.elim (fun x => x.1) (fun x => absurd (Or.inr (Or.inl c4.2)) (x.2 c4.1))
          refine zj_aload_n dX8_row_42 (by rfl) ?_
          refine zg_8_96 rfl dX8_row_43 (by first | exact rh47 b | exact rh59 b) (by rfl) ?_
          refine zj_if_ne (tgt := 91) dX8_row_46 (by decide) (fun zq => absurd (rfl) zq) (fun _ => ?_)
          refine zj_iload dX8_row_49 (by rfl) ?_
          refine zj_bipush (v := nI 50) dX8_row_51 (by decide) ?_
          refine zj_bipush (v := nI 57) dX8_row_53 (by decide) ?_
          refine zc_8_63 rfl dX8_row_55 (m_digN b n1) (by exact Nat.le_of_ble_eq_true rfl) ?_
          refine zj_if_neN (tgt := 87) dX8_row_58 (by decide) (by omega) (fun zq => absurd (by omega) zq) (fun _ => ?_)
          refine zj_iload dX8_row_61 (by rfl) ?_
          refine zj_bipush (v := nI 97) dX8_row_63 (by decide) ?_
          refine zj_bipush (v := nI 104) dX8_row_65 (by decide) ?_
          refine zc_8_63 rfl dX8_row_67 (m_letN b n2) (by exact Nat.le_of_ble_eq_true rfl) ?_
          refine zj_if_neN (tgt := 87) dX8_row_70 (by decide) (by omega) (fun zq => absurd (by omega) zq) (fun _ => ?_)
          refine zj_iload dX8_row_73 (by rfl) ?_
          refine zj_bipush (v := nI 45) dX8_row_75 (by decide) ?_
          refine zj_icmp_eq (tgt := 87) dX8_row_77 (by decide) (fun zq => absurd zq (s_hrN b (by omega) c3)) (fun _ => ?_)
          refine zj_iload dX8_row_80 (by rfl) ?_
          refine zj_bipush (v := nI 40) dX8_row_82 (by decide) ?_
          refine zj_icmp_ne (tgt := 91) dX8_row_84 (by decide) (fun zq => absurd (s_hrY c4.1 c4.2) zq) (fun _ => ?_)
          refine zj_iconst (v := nI 1) dX8_row_87 (by decide) ?_
          refine zj_goto (tgt := 92) dX8_row_88 (by decide) ?_
          refine zj_istore dX8_row_92 (by decide) ?_
          refine zj_goto (tgt := 5) dX8_row_94 (by decide) ?_
          exact hJ
        · obtain rfl : bb = 0 := by
            rcases hbb with ⟨-, x1, x2⟩ | x
            · rcases x2 with x2 | x2 | x2
              · exact absurd ⟨x1, x2⟩ c1
              · exact absurd ⟨x1, x2⟩ c4
              · exact absurd (by unfold s_syl; rw [if_neg (fun e => c3 ⟨x1, e⟩), if_neg (n2 x1)]) x2
            · exact x.1
          refine zj_aload_n dX8_row_42 (by rfl) ?_
          refine zg_8_96 rfl dX8_row_43 (by first | exact rh47 b | exact rh59 b) (by rfl) ?_
          refine zj_if_ne (tgt := 91) dX8_row_46 (by decide) (fun zq => absurd (rfl) zq) (fun _ => ?_)
          refine zj_iload dX8_row_49 (by rfl) ?_
          refine zj_bipush (v := nI 50) dX8_row_51 (by decide) ?_
          refine zj_bipush (v := nI 57) dX8_row_53 (by decide) ?_
          refine zc_8_63 rfl dX8_row_55 (m_digN b n1) (by exact Nat.le_of_ble_eq_true rfl) ?_
          refine zj_if_neN (tgt := 87) dX8_row_58 (by decide) (by omega) (fun zq => absurd (by omega) zq) (fun _ => ?_)
          refine zj_iload dX8_row_61 (by rfl) ?_
          refine zj_bipush (v := nI 97) dX8_row_63 (by decide) ?_
          refine zj_bipush (v := nI 104) dX8_row_65 (by decide) ?_
          refine zc_8_63 rfl dX8_row_67 (m_letN b n2) (by exact Nat.le_of_ble_eq_true rfl) ?_
          refine zj_if_neN (tgt := 87) dX8_row_70 (by decide) (by omega) (fun zq => absurd (by omega) zq) (fun _ => ?_)
          refine zj_iload dX8_row_73 (by rfl) ?_
          refine zj_bipush (v := nI 45) dX8_row_75 (by decide) ?_
          refine zj_icmp_eq (tgt := 87) dX8_row_77 (by decide) (fun zq => absurd zq (s_hrN b (by omega) c3)) (fun _ => ?_)
          refine zj_iload dX8_row_80 (by rfl) ?_
          refine zj_bipush (v := nI 40) dX8_row_82 (by decide) ?_
          refine zj_icmp_ne (tgt := 91) dX8_row_84 (by decide) (fun _ => ?_) (fun zq => absurd zq (s_hrN b (by omega) c4))
          refine zj_iconst (v := nI 0) dX8_row_91 (by decide) ?_
          refine zj_istore dX8_row_92 (by decide) ?_
          refine zj_goto (tgt := 5) dX8_row_94 (by decide) ?_
          exact hJ
theorem m_rw_l (b : s_RB h T) {i0 : Nat} (hd6 : deep ≤ 6) (hfr : fr ≤ 1000 * deep) (hI : ∀ fr i F, fr ≤ 1000 * deep + 1000 → i ≤ T.length → ∃ j wr v F', s_IR T deep i fr F j wr v F' ∧ zD mX8_item d [.ref 47, .int (nI fr), .int (nI deep)] (s_rh h g pn T.length i 0 F) (some (.int (nI v))) (s_rh h g pn T.length j wr F')) : ∀ m i x F, T.length - i ≤ m → i ≤ T.length → ((i = i0 ∧ x = []) ∨ (s_gd (fun j => T.getD j 0) T.length deep i0 i x ∧ i < T.length ∧ s_beg (T.getD i 0))) → s_wr F0 F fr x → ∃ j wr v F', s_RR T deep i0 fr F0 j wr v F' ∧ ∀ o5, zB mX8_row (d + 1) (some (.int (nI v))) (s_rh h g pn T.length j wr F') 5 [some (.ref 47), some (.int (nI fr)), some (.int (nI deep)), some (.int (nI (min x.length 1000))), some (.int (nI 1)), o5] [] (s_rh h g pn T.length i 0 F) := by
  have hn := b.2.2.2.1
  intro m
  induction m with
  | zero =>
    intro i x F hm hi hx hw
    rcases hx with ⟨rfl, rfl⟩ | ⟨-, hlt, -⟩
    · obtain ⟨j, wr, v, F', hIR, hZ⟩ := hI fr i F (by omega) hi
      rcases hIR with ⟨rfl, hv, hj, hfp⟩ | ⟨rfl, y, hgd, -⟩
      · refine ⟨j, 1, v, F', Or.inl ⟨rfl, hv, hj, hfp⟩, fun o5 => ?_⟩
        have e0 : min ([] : List Nat).length 1000 = 0 := rfl
        rw [e0]
        refine zj_iload dX8_row_5 (by rfl) ?_
        refine zj_if_eqN (tgt := 97) dX8_row_7 (by decide) (by omega) (fun zq => absurd zq (by omega)) (fun _ => ?_)
        refine zj_iload_n dX8_row_10 (by rfl) ?_
        refine zj_aload_n dX8_row_11 (by rfl) ?_
        refine zj_iload_n dX8_row_12 (by rfl) ?_
        refine zj_iload_n dX8_row_13 (by rfl) ?_
        refine zj_iaddN dX8_row_14 ?_
        refine zj_iload_n dX8_row_15 (by rfl) ?_
        refine zc_8_100 rfl dX8_row_16 (by first | exact rh47 b | exact rh59 b) hZ (by exact Nat.le_of_ble_eq_true rfl) ?_
        refine zj_iaddN dX8_row_19 ?_
        refine zj_istore_n dX8_row_20 (by decide) ?_
        refine zj_iload_n dX8_row_21 (by rfl) ?_
        refine zj_sipush (v := nI 1000) dX8_row_22 (by decide) ?_
        refine zj_icmp_leN (tgt := 34) dX8_row_25 (by decide) (by omega) (fun _ => ?_) (fun zq => absurd (by omega) zq)
        refine zj_iload_n dX8_row_34 (by rfl) ?_
        refine zj_istore_n dX8_row_35 (by decide) ?_
        refine zj_aload_n dX8_row_36 (by rfl) ?_
        refine zc_8_88 rfl dX8_row_37 (by first | exact rh47 b | exact rh59 b) (m_here b (by omega)) (by exact Nat.le_of_ble_eq_true rfl) ?_
        refine zj_istore dX8_row_40 (by decide) ?_
        refine zj_aload_n dX8_row_42 (by rfl) ?_
        refine zg_8_96 rfl dX8_row_43 (by first | exact rh47 b | exact rh59 b) (by rfl) ?_
        refine zj_if_ne (tgt := 91) dX8_row_46 (by decide) (fun _ => ?_) (fun zq => absurd zq (by decide))
        refine zj_iconst (v := nI 0) dX8_row_91 (by decide) ?_
        refine zj_istore dX8_row_92 (by decide) ?_
        refine zj_goto (tgt := 5) dX8_row_94 (by decide) ?_
        skip
        refine zj_iload dX8_row_5 (by rfl) ?_
        refine zj_if_eqN (tgt := 97) dX8_row_7 (by decide) (by omega) (fun _ => ?_) (fun zq => absurd (by omega) zq)
        refine zj_iload_n dX8_row_97 (by rfl) ?_
        refine zj_iret dX8_row_98 rfl (Nat.le_refl _) (Nat.le_refl _) ?_
        exact ⟨by rw [Nat.zero_add], rfl⟩
      · have := hgd.1; have := hgd.2.1; omega
    · omega
  | succ m ih =>
    intro i x F hm hi hx hw
    have hfrn : fr + min x.length 1000 ≤ 1000 * deep + 1000 := by omega
    obtain ⟨j, wr, v, F', hIR, hZ⟩ := hI (fr + min x.length 1000) i F hfrn hi
    rcases hIR with ⟨rfl, hv, hj, hfp⟩ | ⟨rfl, y, hgd, rfl, hwy⟩
    · have hfp0 : s_fp (fun j => T.getD j 0) (T.length - i0) i0 deep true = some j := by
        rcases hx with ⟨rfl, rfl⟩ | ⟨hg, hlt, hbg⟩
        · exact hfp
        · rw [hg.2.2.1, show T.length - i = (T.length - i - 1) + 1 by omega, fp_beg (tb := fun j => T.getD j 0) hbg]
          rw [show T.length - i = (T.length - i - 1) + 1 by omega] at hfp
          exact hfp
      refine ⟨j, 1, min (min x.length 1000 + v) 1000, F', Or.inl ⟨rfl, by omega, hj, hfp0⟩, fun o5 => ?_⟩
      have hend : ∀ o4 o5, zB mX8_row (d + 1) (some (.int (nI (min (min x.length 1000 + v) 1000)))) (s_rh h g pn T.length j 1 F') 42 [some (.ref 47), some (.int (nI fr)), some (.int (nI deep)), some (.int (nI (min (min x.length 1000 + v) 1000))), o4, o5] [] (s_rh h g pn T.length j 1 F') := by
        intro o4 o5
        refine zj_aload_n dX8_row_42 (by rfl) ?_
        refine zg_8_96 rfl dX8_row_43 (by first | exact rh47 b | exact rh59 b) (by rfl) ?_
        refine zj_if_ne (tgt := 91) dX8_row_46 (by decide) (fun _ => ?_) (fun zq => absurd zq (by decide))
        refine zj_iconst (v := nI 0) dX8_row_91 (by decide) ?_
        refine zj_istore dX8_row_92 (by decide) ?_
        refine zj_goto (tgt := 5) dX8_row_94 (by decide) ?_
        skip
        refine zj_iload dX8_row_5 (by rfl) ?_
        refine zj_if_eqN (tgt := 97) dX8_row_7 (by decide) (by omega) (fun _ => ?_) (fun zq => absurd (by omega) zq)
        refine zj_iload_n dX8_row_97 (by rfl) ?_
        refine zj_iret dX8_row_98 rfl (Nat.le_refl _) (Nat.le_refl _) ?_
        exact ⟨rfl, rfl⟩
      by_cases hq : min x.length 1000 + v ≤ 1000
      · rw [show min (min x.length 1000 + v) 1000 = min x.length 1000 + v by omega] at hend ⊢
        refine zj_iload dX8_row_5 (by rfl) ?_
        refine zj_if_eqN (tgt := 97) dX8_row_7 (by decide) (by omega) (fun zq => absurd zq (by omega)) (fun _ => ?_)
        refine zj_iload_n dX8_row_10 (by rfl) ?_
        refine zj_aload_n dX8_row_11 (by rfl) ?_
        refine zj_iload_n dX8_row_12 (by rfl) ?_
        refine zj_iload_n dX8_row_13 (by rfl) ?_
        refine zj_iaddN dX8_row_14 ?_
        refine zj_iload_n dX8_row_15 (by rfl) ?_
        refine zc_8_100 rfl dX8_row_16 (by first | exact rh47 b | exact rh59 b) hZ (by exact Nat.le_of_ble_eq_true rfl) ?_
        refine zj_iaddN dX8_row_19 ?_
        refine zj_istore_n dX8_row_20 (by decide) ?_
        refine zj_iload_n dX8_row_21 (by rfl) ?_
        refine zj_sipush (v := nI 1000) dX8_row_22 (by decide) ?_
        refine zj_icmp_leN (tgt := 34) dX8_row_25 (by decide) (by omega) (fun _ => ?_) (fun zq => absurd (by omega) zq)
        refine zj_iload_n dX8_row_34 (by rfl) ?_
        refine zj_istore_n dX8_row_35 (by decide) ?_
        refine zj_aload_n dX8_row_36 (by rfl) ?_
        refine zc_8_88 rfl dX8_row_37 (by first | exact rh47 b | exact rh59 b) (m_here b (by omega)) (by exact Nat.le_of_ble_eq_true rfl) ?_
        refine zj_istore dX8_row_40 (by decide) ?_
        exact hend _ _
      · rw [show min (min x.length 1000 + v) 1000 = 1000 by omega] at hend ⊢
        refine zj_iload dX8_row_5 (by rfl) ?_
        refine zj_if_eqN (tgt := 97) dX8_row_7 (by decide) (by omega) (fun zq => absurd zq (by omega)) (fun _ => ?_)
        refine zj_iload_n dX8_row_10 (by rfl) ?_
        refine zj_aload_n dX8_row_11 (by rfl) ?_
        refine zj_iload_n dX8_row_12 (by rfl) ?_
        refine zj_iload_n dX8_row_13 (by rfl) ?_
        refine zj_iaddN dX8_row_14 ?_
        refine zj_iload_n dX8_row_15 (by rfl) ?_
        refine zc_8_100 rfl dX8_row_16 (by first | exact rh47 b | exact rh59 b) hZ (by exact Nat.le_of_ble_eq_true rfl) ?_
        refine zj_iaddN dX8_row_19 ?_
        refine zj_istore_n dX8_row_20 (by decide) ?_
        refine zj_iload_n dX8_row_21 (by rfl) ?_
        refine zj_sipush (v := nI 1000) dX8_row_22 (by decide) ?_
        refine zj_icmp_leN (tgt := 34) dX8_row_25 (by decide) (by omega) (fun zq => absurd zq (by omega)) (fun _ => ?_)
        refine zj_sipush (v := nI 1000) dX8_row_28 (by decide) ?_
        refine zj_goto (tgt := 35) dX8_row_31 (by decide) ?_
        refine zj_istore_n dX8_row_35 (by decide) ?_
        refine zj_aload_n dX8_row_36 (by rfl) ?_
        refine zc_8_88 rfl dX8_row_37 (by first | exact rh47 b | exact rh59 b) (m_here b (by omega)) (by exact Nat.le_of_ble_eq_true rfl) ?_
        refine zj_istore dX8_row_40 (by decide) ?_
        exact hend _ _
    · have hj := hgd.2.1
      have hij := hgd.1
      have hg2 : s_gd (fun j => T.getD j 0) T.length deep i0 j (x ++ y) := by
        rcases hx with ⟨rfl, rfl⟩ | ⟨hg, hlt, hbg⟩
        · exact hgd
        · exact gd_app hg hbg hgd
      have hw2 : s_wr F0 F' fr (x ++ y) := wr_app hw hwy (by omega)
      have hln : min (x ++ y).length 1000 = min (min x.length 1000 + min y.length 1000) 1000 := by
        rw [List.length_append]; omega
      have hgo : ∀ {R h1}, (∀ o4, zB mX8_row (d + 1) R h1 42 [some (.ref 47), some (.int (nI fr)), some (.int (nI deep)), some (.int (nI (min (x ++ y).length 1000))), o4, some (.int (s_hr T j))] [] (s_rh h g pn T.length j 0 F')) → ∀ o5, zB mX8_row (d + 1) R h1 5 [some (.ref 47), some (.int (nI fr)), some (.int (nI deep)), some (.int (nI (min x.length 1000))), some (.int (nI 1)), o5] [] (s_rh h g pn T.length i 0 F) := by
        intro R h1 hJ o5
        by_cases hq : min x.length 1000 + min y.length 1000 ≤ 1000
        · rw [hln, show min (min x.length 1000 + min y.length 1000) 1000 = min x.length 1000 + min y.length 1000 by omega] at hJ
          refine zj_iload dX8_row_5 (by rfl) ?_
          refine zj_if_eqN (tgt := 97) dX8_row_7 (by decide) (by omega) (fun zq => absurd zq (by omega)) (fun _ => ?_)
          refine zj_iload_n dX8_row_10 (by rfl) ?_
          refine zj_aload_n dX8_row_11 (by rfl) ?_
          refine zj_iload_n dX8_row_12 (by rfl) ?_
          refine zj_iload_n dX8_row_13 (by rfl) ?_
          refine zj_iaddN dX8_row_14 ?_
          refine zj_iload_n dX8_row_15 (by rfl) ?_
          refine zc_8_100 rfl dX8_row_16 (by first | exact rh47 b | exact rh59 b) hZ (by exact Nat.le_of_ble_eq_true rfl) ?_
          refine zj_iaddN dX8_row_19 ?_
          refine zj_istore_n dX8_row_20 (by decide) ?_
          refine zj_iload_n dX8_row_21 (by rfl) ?_
          refine zj_sipush (v := nI 1000) dX8_row_22 (by decide) ?_
          refine zj_icmp_leN (tgt := 34) dX8_row_25 (by decide) (by omega) (fun _ => ?_) (fun zq => absurd (by omega) zq)
          refine zj_iload_n dX8_row_34 (by rfl) ?_
          refine zj_istore_n dX8_row_35 (by decide) ?_
          refine zj_aload_n dX8_row_36 (by rfl) ?_
          refine zc_8_88 rfl dX8_row_37 (by first | exact rh47 b | exact rh59 b) (m_here b (by omega)) (by exact Nat.le_of_ble_eq_true rfl) ?_
          refine zj_istore dX8_row_40 (by decide) ?_
          exact hJ _
        · rw [hln, show min (min x.length 1000 + min y.length 1000) 1000 = 1000 by omega] at hJ
          refine zj_iload dX8_row_5 (by rfl) ?_
          refine zj_if_eqN (tgt := 97) dX8_row_7 (by decide) (by omega) (fun zq => absurd zq (by omega)) (fun _ => ?_)
          refine zj_iload_n dX8_row_10 (by rfl) ?_
          refine zj_aload_n dX8_row_11 (by rfl) ?_
          refine zj_iload_n dX8_row_12 (by rfl) ?_
          refine zj_iload_n dX8_row_13 (by rfl) ?_
          refine zj_iaddN dX8_row_14 ?_
          refine zj_iload_n dX8_row_15 (by rfl) ?_
          refine zc_8_100 rfl dX8_row_16 (by first | exact rh47 b | exact rh59 b) hZ (by exact Nat.le_of_ble_eq_true rfl) ?_
          refine zj_iaddN dX8_row_19 ?_
          refine zj_istore_n dX8_row_20 (by decide) ?_
          refine zj_iload_n dX8_row_21 (by rfl) ?_
          refine zj_sipush (v := nI 1000) dX8_row_22 (by decide) ?_
          refine zj_icmp_leN (tgt := 34) dX8_row_25 (by decide) (by omega) (fun zq => absurd zq (by omega)) (fun _ => ?_)
          refine zj_sipush (v := nI 1000) dX8_row_28 (by decide) ?_
          refine zj_goto (tgt := 35) dX8_row_31 (by decide) ?_
          refine zj_istore_n dX8_row_35 (by decide) ?_
          refine zj_aload_n dX8_row_36 (by rfl) ?_
          refine zc_8_88 rfl dX8_row_37 (by first | exact rh47 b | exact rh59 b) (m_here b (by omega)) (by exact Nat.le_of_ble_eq_true rfl) ?_
          refine zj_istore dX8_row_40 (by decide) ?_
          exact hJ _
      by_cases hbg : j < T.length ∧ s_beg (T.getD j 0)
      · obtain ⟨j2, wr, v, F2, hRR, hJ⟩ := ih j (x ++ y) F' (by omega) hj (Or.inr ⟨hg2, hbg.1, hbg.2⟩) hw2
        exact ⟨j2, wr, v, F2, hRR, hgo (fun o4 => m_rw_more b hj (Or.inl ⟨rfl, hbg.1, hbg.2⟩) (hJ _))⟩
      · refine ⟨j, 0, _, F', Or.inr ⟨rfl, x ++ y, hg2, rfl, hw2, fun a c => hbg ⟨a, c⟩⟩, hgo (fun o4 => m_rw_more b hj (Or.inr ⟨rfl, fun a c => hbg ⟨a, c⟩⟩) ?_)⟩
        refine zj_iload dX8_row_5 (by rfl) ?_
        refine zj_if_eq (tgt := 97) dX8_row_7 (by decide) (fun _ => ?_) (fun zq => absurd (rfl) zq)
        refine zj_iload_n dX8_row_97 (by rfl) ?_
        refine zj_iret dX8_row_98 rfl (Nat.le_refl _) (Nat.le_refl _) ?_
        exact ⟨rfl, rfl⟩
theorem m_row (b : s_RB h T) : ∀ k deep fr i F, deep + k = 6 → fr ≤ 1000 * deep → i ≤ T.length → ∃ j wr v F', s_RR T deep i fr F j wr v F' ∧ zD mX8_row (d + 2 * k + 2) [.ref 47, .int (nI fr), .int (nI deep)] (s_rh h g pn T.length i 0 F) (some (.int (nI v))) (s_rh h g pn T.length j wr F') := by
  have step : ∀ D deep fr i F, deep ≤ 6 → fr ≤ 1000 * deep → i ≤ T.length → (∀ fr i F, fr ≤ 1000 * deep + 1000 → i ≤ T.length → ∃ j wr v F', s_IR T deep i fr F j wr v F' ∧ zD mX8_item D [.ref 47, .int (nI fr), .int (nI deep)] (s_rh h g pn T.length i 0 F) (some (.int (nI v))) (s_rh h g pn T.length j wr F')) → ∃ j wr v F', s_RR T deep i fr F j wr v F' ∧ zD mX8_row (D + 1) [.ref 47, .int (nI fr), .int (nI deep)] (s_rh h g pn T.length i 0 F) (some (.int (nI v))) (s_rh h g pn T.length j wr F') := by
    intro D deep fr i F hd hfr hi hI
    obtain ⟨j, wr, v, F', hRR, hJ⟩ := m_rw_l (F0 := F) b hd hfr hI (T.length - i) i [] F (Nat.le_refl _) hi (Or.inl ⟨rfl, rfl⟩) ⟨fun _ _ => rfl, fun q hq => absurd hq (Nat.not_lt_zero _)⟩
    refine ⟨j, wr, v, F', hRR, ?_⟩
    refine zD_of (by decide +kernel) (by exact Nat.le_of_ble_eq_true rfl) ?_
    show zB mX8_row _ _ _ 0 [some (.ref 47), some (.int (nI fr)), some (.int (nI deep)), none, none, none] [] _
    refine zj_iconst (v := nI 0) dX8_row_0 (by decide) ?_
    refine zj_istore_n dX8_row_1 (by decide) ?_
    refine zj_iconst (v := nI 1) dX8_row_2 (by decide) ?_
    refine zj_istore dX8_row_3 (by decide) ?_
    exact hJ _
  intro k
  induction k with
  | zero =>
    intro deep fr i F hk hfr hi
    exact step (d + 1) deep fr i F (by omega) hfr hi (fun fr i F h1 h2 => m_item b (by omega) h1 h2 (fun x => by omega))
  | succ k ih =>
    intro deep fr i F hk hfr hi
    have := step (d + 2 * k + 3) deep fr i F (by omega) hfr hi (fun fr i F h1 h2 => m_item (d := d + 2 * k + 2) b (by omega) h1 h2 (fun x i F hi => ih (deep + 1) fr i F (by omega) (by omega) hi))
    exact this
end MR
