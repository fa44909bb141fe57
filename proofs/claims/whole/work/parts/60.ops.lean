/-! EVERY CALL ON BOTH SIDES -/
section TT
variable {h : zH} {C : Nat → List (Nat × Nat)} {P : Nat → List Nat} {S : Nat → Option (List Int32)} {T : List Nat} {H : Nat → Nat} {O : List (Nat × Nat)} {g : Nat}
def s_I (h : zH) : Prop := ∃ C P S T H O g, WF C P S T H O g ∧ RX h C P S T H O g ∧ RM h C P S T H O g
theorem RX_fr {h' : zH} (e : zEq 0 46 h h') (r : RX h C P S T H O g) : RX h' C P S T H O g := by
  obtain ⟨r0, r1, r2, r3, r4, r5, r6, r7⟩ := r
  exact ⟨R0_f (fun j a b => e j (by omega) (by omega)) r0, RC_f (fun j a b => e j (by omega) (by omega)) r1, RP_f (fun j a b => e j (by omega) (by omega)) r2, RS_f (fun j a b => e j (by omega) (by omega)) r3, RT_f (fun j a b => e j (by omega) (by omega)) r4, RU_f (fun j a b => e j (by omega) (by omega)) r5, RH_f (fun j a b => e j (by omega) (by omega)) r6, RO_f (fun j a b => e j (by omega) (by omega)) r7⟩
/-- the class's call and the reference's answer alike, and both go on -/
def s_T (x m : zM) (a b : Nat) (As : List Value) (h : zH) : Prop := ∃ (v : Int32) (h1 h2 : zH), zD x a (.ref 0 :: As) h (some (.int v)) h1 ∧ zD m b (.ref 47 :: As) h1 (some (.int v)) h2 ∧ s_I h2 ∧ ∃ fs, h1[47]? = some (.inr (8, fs))
theorem s_8 (r : RM h C P S T H O g) : ∃ fs, h[47]? = some (.inr (8, fs)) := by
  obtain ⟨⟨rd, wr, hw, o0⟩, -⟩ := r
  exact ⟨_, o0⟩
theorem s_7 (r : RX h C P S T H O g) : ∃ fs, h[0]? = some (.inr (7, fs)) := ⟨_, r.1.1⟩
theorem T_q {x m : zM} {a b : Nat} {As : List Value} {v : Int32} (w : WF C P S T H O g) (r : RX h C P S T H O g) (rm : RM h C P S T H O g) (hx : zD x a (.ref 0 :: As) h (some (.int v)) h) (hm : zD m b (.ref 47 :: As) h (some (.int v)) h) : s_T x m a b As h := ⟨v, h, h, hx, hm, ⟨C, P, S, T, H, O, g, w, r, rm⟩, s_8 rm⟩
theorem T_c {x m : zM} {a b : Nat} {As : List Value} {v : Int32} {C' : Nat → List (Nat × Nat)} {P' : Nat → List Nat} {S' : Nat → Option (List Int32)} {T' : List Nat} {H' : Nat → Nat} {O' : List (Nat × Nat)} {g' : Nat} (w : WF C' P' S' T' H' O' g') (rm : RM h C P S T H O g) (hx : ∃ h', zD x a (.ref 0 :: As) h (some (.int v)) h' ∧ RX h' C' P' S' T' H' O' g' ∧ zEq 47 63 h h') (hm : ∀ h1, RM h1 C P S T H O g → ∃ h', zD m b (.ref 47 :: As) h1 (some (.int v)) h' ∧ RM h' C' P' S' T' H' O' g' ∧ zEq 0 46 h1 h') : s_T x m a b As h := by
  obtain ⟨h1, z1, r1, e1⟩ := hx
  have rm1 := RM_f e1 rm
  obtain ⟨h2, z2, r2, e2⟩ := hm h1 rm1
  exact ⟨v, h1, h2, z1, z2, ⟨_, _, _, _, _, _, _, w, RX_fr e2 r1, r2⟩, s_8 rm1⟩
theorem c_ix (x : Int32) (n : Nat) (hn : n < 2 ^ 31) : (x < 0 ∨ nI n ≤ x) ∨ ∃ j, j < n ∧ x = nI j := by
  rcases pk_ix x (n := n) hn with h | h | h
  · exact Or.inl (Or.inl h)
  · exact Or.inl (Or.inr h)
  · exact Or.inr h
theorem c_rg {lo hi : Nat} {x : Int32} (h0 : ¬ x < 0) (h1 : ¬ x < nI lo) (h2 : ¬ nI hi < x) (hl : lo < 2 ^ 31) (hh : hi < 2 ^ 31) : ∃ m, (lo ≤ m ∧ m ≤ hi) ∧ x = nI m := by
  obtain ⟨m, hm, rfl⟩ := nI_of h0
  refine ⟨m, ⟨?_, ?_⟩, rfl⟩
  · rw [nI_ltI hm hl] at h1; omega
  · rw [nI_ltI hh hm] at h2; omega
theorem c_lt1 {x : Int32} (h : ¬ x < 1) : ¬ x < 0 := fun e => h (Int32.lt_trans e (by decide))
theorem W_C (w : WF C P S T H O g) {i : Nat} {l : List (Nat × Nat)} (h1 : l.length ≤ 12) (h2 : ∀ q ∈ l, q.1 ≤ 3 ∧ 1 ≤ q.2 ∧ q.2 ≤ 18) : WF (s_up C i l) P S T H O g := ⟨fun j hj => by
  by_cases e : j = i
  · subst e; rw [s_up_eq]; exact ⟨h1, h2⟩
  · rw [s_up_ne e]; exact w.1 j hj, w.2⟩
theorem W_P (w : WF C P S T H O g) {i : Nat} {l T' : List Nat} (h1 : l.length ≤ 60) (h2 : ∀ v ∈ l, v ≤ 8) (hT : WT T') : WF C (s_up P i l) S T' H O g := ⟨w.1, fun j hj => by
  by_cases e : j = i
  · subst e; rw [s_up_eq]; exact ⟨h1, h2⟩
  · rw [s_up_ne e]; exact w.2.1 j hj, w.2.2.1, hT, w.2.2.2.2⟩
theorem W_S (w : WF C P S T H O g) {i : Nat} {l : List Int32} (h1 : l.length ≤ 60) (h2 : ∀ v ∈ l, v.toInt8.toInt32 = v) : WF C P (s_up S i (some l)) T H O g := ⟨w.1, w.2.1, fun j hj l' hl' => by
  by_cases e : j = i
  · subst e; rw [s_up_eq] at hl'; cases hl'; exact ⟨h1, h2⟩
  · rw [s_up_ne e] at hl'; exact w.2.2.1 j hj l' hl', w.2.2.2⟩
theorem W_T (w : WF C P S T H O g) {T' : List Nat} (hT : WT T') : WF C P S T' H O g := ⟨w.1, w.2.1, w.2.2.1, hT, w.2.2.2.2⟩
theorem W_T0 (w : WF C P S T H O g) : WF C P S [] H O g := W_T w ⟨by decide, fun v hv => absurd hv List.not_mem_nil⟩
theorem W_H (w : WF C P S T H O g) {i v : Nat} (hv : v ≤ 3) : WF C P S T (s_up H i v) O g := ⟨w.1, w.2.1, w.2.2.1, w.2.2.2.1, fun j hj => by
  by_cases e : j = i
  · subst e; rw [s_up_eq]; exact hv
  · rw [s_up_ne e]; exact w.2.2.2.2.1 j hj, w.2.2.2.2.2⟩
theorem W_O (w : WF C P S T H O g) {O' : List (Nat × Nat)} (hO : WO O') : WF C P S T H O' g := ⟨w.1, w.2.1, w.2.2.1, w.2.2.2.1, w.2.2.2.2.1, hO, w.2.2.2.2.2.2⟩
theorem W_G (w : WF C P S T H O g) {g' : Nat} (hg : WG g') : WF C P S T H O g' := ⟨w.1, w.2.1, w.2.2.1, w.2.2.2.1, w.2.2.2.2.1, w.2.2.2.2.2.1, hg⟩
theorem o_limb (i : s_I h) (c k n : Int32) : s_T mX7_limb mX8_limb 1 2 [.int c, .int k, .int n] h := by
  obtain ⟨C, P, S, T, H, O, g, w, r, rm⟩ := i
  rcases c_ix c 4 (by decide) with hc | ⟨i, hi, rfl⟩
  · exact T_q w r rm (x_limbA (d := 0) r hc) (m_limbA (d := 0) rm hc)
  · by_cases hk : k < 0 ∨ 3 < k ∨ n < 1 ∨ ¬ n ≤ 18
    · exact T_q w r rm (x_limbB (d := 0) r hi hk) (m_limbB (d := 0) rm hi hk)
    · obtain ⟨kk, ⟨-, hkk⟩, rfl⟩ := c_rg (lo := 0) (hi := 3) (x := k) (fun e => hk (Or.inl e)) (fun e => hk (Or.inl e)) (fun e => hk (Or.inr (Or.inl e))) (by decide) (by decide)
      have hn1 : ¬ n < 1 := fun e => hk (Or.inr (Or.inr (Or.inl e)))
      obtain ⟨m, hm, rfl⟩ := c_rg (lo := 1) (hi := 18) (x := n) (c_lt1 hn1) hn1 (fun e => hk (Or.inr (Or.inr (Or.inr (Int32.not_le.mpr e))))) (by decide) (by decide)
      by_cases hl : (C i).length = 12
      · exact T_q w r rm (x_limbF (d := 0) w r hi hkk hm hl) (m_limbF (d := 0) rm hi hkk hm hl)
      · have wi := w.1 i hi
        refine T_c (W_C w (i := i) (l := C i ++ [(kk, m)]) ?_ ?_) rm (x_limb (d := 0) w r hi hkk hm hl) (fun h1 rm => m_limb (d := 0) w rm hi hkk hm hl)
        · rw [List.length_append]; have := wi.1; simp; omega
        · intro q hq
          rcases List.mem_append.mp hq with hq | hq
          · exact wi.2 q hq
          · rw [List.mem_singleton.mp hq]; exact ⟨hkk, hm⟩
theorem o_isOf (i : s_I h) (c j k : Int32) : s_T mX7_isOf mX8_isOf 2 2 [.int c, .int j, .int k] h := by
  obtain ⟨C, P, S, T, H, O, g, w, r, rm⟩ := i
  rcases c_ix c 4 (by decide) with hc | ⟨i, hi, rfl⟩
  · exact T_q w r rm (x_isOfA (d := 0) r hc) (m_isOfA (d := 0) rm hc)
  · by_cases hk : j < 0 ∨ nI (C i).length ≤ j ∨ k < 0 ∨ 3 < k
    · exact T_q w r rm (x_isOfB (d := 0) r hi hk) (m_isOfB (d := 0) w rm hi hk)
    · obtain ⟨kk, ⟨-, hkk⟩, rfl⟩ := c_rg (lo := 0) (hi := 3) (x := k) (fun e => hk (Or.inr (Or.inr (Or.inl e)))) (fun e => hk (Or.inr (Or.inr (Or.inl e)))) (fun e => hk (Or.inr (Or.inr (Or.inr e)))) (by decide) (by decide)
      rcases c_ix j (C i).length (by have := (w.1 i hi).1; omega) with hj | ⟨a, ha, rfl⟩
      · exact absurd (hj.elim Or.inl (fun e => Or.inr (Or.inl e))) hk
      · exact T_q w r rm (x_isOf (d := 0) w r hi ha hkk) (m_isOf (d := 0) w rm hi ha hkk)
theorem o_clear (i : s_I h) (c : Int32) : s_T mX7_clear mX8_clear 1 2 [.int c] h := by
  obtain ⟨C, P, S, T, H, O, g, w, r, rm⟩ := i
  rcases c_ix c 4 (by decide) with hc | ⟨i, hi, rfl⟩
  · exact T_q w r rm (x_clearA (d := 0) r hc) (m_clearA (d := 0) rm hc)
  · exact T_c (W_C w (i := i) (l := []) (by decide) (fun q hq => absurd hq List.not_mem_nil)) rm (x_clear (d := 0) r hi) (fun h1 rm => m_clear (d := 0) rm hi)
theorem o_length (i : s_I h) (c : Int32) : s_T mX7_length mX8_length 1 2 [.int c] h := by
  obtain ⟨C, P, S, T, H, O, g, w, r, rm⟩ := i
  rcases c_ix c 4 (by decide) with hc | ⟨i, hi, rfl⟩
  · exact T_q w r rm (x_lengthA (d := 0) r hc) (m_lengthA (d := 0) rm hc)
  · exact T_q w r rm (x_length (d := 0) w r hi) (m_length (d := 0) w rm hi)
theorem o_handling (i : s_I h) (c t : Int32) : s_T mX7_handling mX8_handling 3 2 [.int c, .int t] h := by
  obtain ⟨C, P, S, T, H, O, g, w, r, rm⟩ := i
  rcases c_ix c 4 (by decide) with hc | ⟨i, hi, rfl⟩
  · exact T_q w r rm (x_handlingA (d := 0) r hc) (m_handlingA (d := 0) rm hc)
  · by_cases ht : t < 0
    · exact T_q w r rm (x_handlingB (d := 0) r hi ht) (m_handlingB (d := 0) rm hi ht)
    · obtain ⟨t, ht2, rfl⟩ := nI_of ht
      exact T_q w r rm (x_handling (d := 0) w r hi ht2) (m_handling (d := 0) w rm hi ht2)
theorem o_feed (i : s_I h) (a b c : Int32) : s_T mX7_feed mX8_feed 1 1 [.int a, .int b, .int c] h := by
  obtain ⟨C, P, S, T, H, O, g, w, r, rm⟩ := i
  by_cases hn : T.length + 12 ≤ 60
  · refine T_c (W_T w (T' := T ++ s_bs a ++ s_bs b ++ s_bs c) ⟨?_, ?_⟩) rm (x_feed (d := 0) w r hn) (fun h1 rm => m_feed (d := 0) w rm hn)
    · simp only [List.length_append, s_bs_len]; omega
    · intro v hv
      simp only [List.mem_append] at hv
      rcases hv with ((hv | hv) | hv) | hv
      · exact w.2.2.2.1.2 v hv
      · exact s_bs_lt hv
      · exact s_bs_lt hv
      · exact s_bs_lt hv
  · exact T_q w r rm (x_feedF (d := 0) w r hn) (m_feedF (d := 0) w rm hn)
theorem o_trim (i : s_I h) (n : Int32) : s_T mX7_trim mX8_trim 0 1 [.int n] h := by
  obtain ⟨C, P, S, T, H, O, g, w, r, rm⟩ := i
  have w4 := w.2.2.2.1
  by_cases hn : n < 0 ∨ ¬ n ≤ nI T.length
  · exact T_q w r rm (x_trimA (d := 0) r hn) (m_trimA (d := 0) rm hn)
  · obtain ⟨m, ⟨-, hm⟩, rfl⟩ := c_rg (lo := 0) (hi := T.length) (x := n) (fun e => hn (Or.inl e)) (fun e => hn (Or.inl e)) (fun e => hn (Or.inr (Int32.not_le.mpr e))) (by decide) (by have := w4.1; omega)
    exact T_c (W_T w (T' := T.take m) ⟨by rw [List.length_take]; have := w4.1; omega, fun v hv => w4.2 v (List.mem_of_mem_take hv)⟩) rm (x_trim (d := 0) w r hm) (fun h1 rm => m_trim (d := 0) w rm hm)
theorem o_phrase (i : s_I h) (p : Int32) : s_T mX7_phrase mX8_phrase 4 15 [.int p] h := by
  obtain ⟨C, P, S, T, H, O, g, w, r, rm⟩ := i
  rcases c_ix p 6 (by decide) with hp | ⟨p, hp, rfl⟩
  · exact T_c (W_T0 w) rm (x_phraseA (d := 0) r hp) (fun h1 rm => m_phraseA (d := 0) w rm hp)
  · cases hf : s_fp (fun j => T.getD j 0) T.length 0 0 true with
    | some i => exact T_c (W_T0 w) rm (x_phraseF (d := 0) w r hp hf) (fun h1 rm => m_phraseF (d := 0) w rm hp hf)
    | none =>
      cases hs : s_sp (fun j => T.getD j 0) T.length 0 [] 1 [] with
      | none => exact T_c (W_T0 w) rm (x_phraseN (d := 0) w r hp hf hs) (fun h1 rm => m_phraseN (d := 0) w rm hp hf hs)
      | some l =>
        obtain ⟨h1, z1, r1, e1, hl, h8⟩ := x_phrase (d := 0) w r hp hf hs
        exact T_c (W_P w (i := p) (l := l) (T' := []) hl h8 ⟨by decide, fun v hv => absurd hv List.not_mem_nil⟩) rm ⟨h1, z1, r1, e1⟩ (fun h1 rm => m_phrase (d := 0) w rm hp hf hs)
theorem o_syllable (i : s_I h) (p j : Int32) : s_T mX7_syllable mX8_syllable 1 2 [.int p, .int j] h := by
  obtain ⟨C, P, S, T, H, O, g, w, r, rm⟩ := i
  rcases c_ix p 6 (by decide) with hp | ⟨p, hp, rfl⟩
  · exact T_q w r rm (x_syllableA (d := 0) r hp) (m_syllableA (d := 0) rm hp)
  · by_cases ht : j < 0
    · exact T_q w r rm (x_syllableB (d := 0) r hp ht) (m_syllableB (d := 0) rm hp ht)
    · obtain ⟨t, ht2, rfl⟩ := nI_of ht
      exact T_q w r rm (x_syllable (d := 0) w r hp ht2) (m_syllable (d := 0) w rm hp ht2)
theorem o_ticks (i : s_I h) (p v : Int32) : s_T mX7_ticks mX8_ticks 1 2 [.int p, .int v] h := by
  obtain ⟨C, P, S, T, H, O, g, w, r, rm⟩ := i
  rcases c_ix p 6 (by decide) with hp | ⟨p, hp, rfl⟩
  · exact T_q w r rm (x_ticksA (d := 0) r hp) (m_ticksA (d := 0) rm hp)
  · by_cases ht : s_tpo v = 0
    · exact T_q w r rm (x_ticksB (d := 0) r hp ht) (m_ticksB (d := 0) rm hp ht)
    · exact T_q w r rm (x_ticks (d := 0) r hp ht) (m_ticks (d := 0) rm hp ht)
theorem c_bad {c p how t gp : Int32} (hb : ¬ s_bad c p how t gp) : ∃ c' p' v' t' g', c' < 4 ∧ p' < 6 ∧ v' < 2 ^ 31 ∧ s_how v' = true ∧ t' < 2 ^ 31 ∧ g' ≤ 96 ∧ c = nI c' ∧ p = nI p' ∧ how = nI v' ∧ t = nI t' ∧ gp = nI g' := by
  rcases c_ix c 4 (by decide) with hc | ⟨c', hc', rfl⟩
  · exact absurd (Or.inl hc) hb
  · rcases c_ix p 6 (by decide) with hc | ⟨p', hp', rfl⟩
    · exact absurd (Or.inr (Or.inl hc)) hb
    · by_cases hh : how < 0
      · exact absurd (Or.inr (Or.inr (Or.inl (Or.inl hh)))) hb
      · obtain ⟨v', hv', rfl⟩ := nI_of hh
        by_cases ht : t < 0
        · exact absurd (Or.inr (Or.inr (Or.inr (Or.inl ht)))) hb
        · obtain ⟨t', ht', rfl⟩ := nI_of ht
          obtain ⟨g', ⟨-, hg'⟩, rfl⟩ := c_rg (lo := 0) (hi := 96) (x := gp) (fun e => hb (Or.inr (Or.inr (Or.inr (Or.inr (Or.inl e)))))) (fun e => hb (Or.inr (Or.inr (Or.inr (Or.inr (Or.inl e)))))) (fun e => hb (Or.inr (Or.inr (Or.inr (Or.inr (Or.inr e)))))) (by decide) (by decide)
          have hs : s_how v' = true := by
            cases hs : s_how v' with
            | true => rfl
            | false => exact absurd (Or.inr (Or.inr (Or.inl (Or.inr ⟨v', hv', rfl, hs⟩)))) hb
          exact ⟨c', p', v', t', g', hc', hp', hv', hs, ht', hg', rfl, rfl, rfl, rfl, rfl⟩
theorem o_lands (i : s_I h) (c p v t q : Int32) : s_T mX7_lands mX8_lands 3 3 [.int c, .int p, .int v, .int t, .int q] h := by
  obtain ⟨C, P, S, T, H, O, g, w, r, rm⟩ := i
  by_cases hb : s_bad c p v t q
  · exact T_q w r rm (x_landsA (d := 0) r hb) (m_landsA (d := 0) w rm hb)
  · obtain ⟨c, p, v, t, q, h1, h2, h3, h4, h5, h6, rfl, rfl, rfl, rfl, rfl⟩ := c_bad hb
    by_cases he : (C c).length = 0 ∨ (P p).length = 0
    · exact T_q w r rm (x_landsN (d := 0) w r h1 h2 h3 h4 h5 h6 he) (m_landsN (d := 0) w rm h1 h2 h3 h4 h5 h6 he)
    · exact T_q w r rm (x_lands (d := 0) w r h1 h2 h3 h4 h5 h6 he) (m_lands (d := 0) w rm h1 h2 h3 h4 h5 h6 he)
theorem o_gaps (i : s_I h) (c p v t : Int32) : s_T mX7_gaps mX8_gaps 3 3 [.int c, .int p, .int v, .int t] h := by
  obtain ⟨C, P, S, T, H, O, g, w, r, rm⟩ := i
  by_cases hb : s_bad c p v t 0
  · exact T_q w r rm (x_gapsA (d := 0) r hb) (m_gapsA (d := 0) w rm hb)
  · obtain ⟨c, p, v, t, q, h1, h2, h3, h4, h5, h6, rfl, rfl, rfl, rfl, -⟩ := c_bad hb
    by_cases he : (C c).length = 0 ∨ (P p).length = 0
    · exact T_q w r rm (x_gapsN (d := 0) w r h1 h2 h3 h4 h5 he) (m_gapsN (d := 0) w rm h1 h2 h3 h4 h5 he)
    · exact T_q w r rm (x_gaps (d := 0) w r h1 h2 h3 h4 h5 he) (m_gaps (d := 0) w rm h1 h2 h3 h4 h5 he)
theorem o_gap (i : s_I h) (c p v t j : Int32) : s_T mX7_gap mX8_gap 3 3 [.int c, .int p, .int v, .int t, .int j] h := by
  obtain ⟨C, P, S, T, H, O, g, w, r, rm⟩ := i
  by_cases hb : j < 0 ∨ s_bad c p v t 0
  · exact T_q w r rm (x_gapA (d := 0) r hb) (m_gapA (d := 0) w rm hb)
  · obtain ⟨c, p, v, t, q, h1, h2, h3, h4, h5, h6, rfl, rfl, rfl, rfl, -⟩ := c_bad (fun e => hb (Or.inr e))
    obtain ⟨j, hj, rfl⟩ := nI_of (fun e => hb (Or.inl e) : ¬ j < 0)
    by_cases he : (C c).length = 0 ∨ (P p).length = 0
    · exact T_q w r rm (x_gapN (d := 0) w r h1 h2 h3 h4 h5 hj he) (m_gapN (d := 0) w rm h1 h2 h3 h4 h5 hj he)
    · exact T_q w r rm (x_gap (d := 0) w r h1 h2 h3 h4 h5 hj he) (m_gap (d := 0) w rm h1 h2 h3 h4 h5 hj he)
theorem o_start (i : s_I h) (c p v q : Int32) : s_T mX7_start mX8_start 3 3 [.int c, .int p, .int v, .int q] h := by
  obtain ⟨C, P, S, T, H, O, g, w, r, rm⟩ := i
  by_cases hb : s_bad c p v 0 q
  · exact T_q w r rm (x_startA (d := 0) r hb) (m_startA (d := 0) w rm hb)
  · obtain ⟨c, p, v, t, q, h1, h2, h3, h4, h5, h6, rfl, rfl, rfl, -, rfl⟩ := c_bad hb
    by_cases he : (C c).length = 0 ∨ (P p).length = 0
    · exact T_q w r rm (x_startN (d := 0) w r h1 h2 h3 h4 h6 he) (m_startN (d := 0) w rm h1 h2 h3 h4 h6 he)
    · exact T_q w r rm (x_start (d := 0) w r h1 h2 h3 h4 h6 he) (m_start (d := 0) w rm h1 h2 h3 h4 h6 he)
theorem o_doubles (i : s_I h) (c p v t : Int32) : s_T mX7_doubles mX8_doubles 3 3 [.int c, .int p, .int v, .int t] h := by
  obtain ⟨C, P, S, T, H, O, g, w, r, rm⟩ := i
  by_cases hb : s_bad c p v t 0
  · exact T_q w r rm (x_doublesA (d := 0) r hb) (m_doublesA (d := 0) w rm hb)
  · obtain ⟨c, p, v, t, q, h1, h2, h3, h4, h5, h6, rfl, rfl, rfl, rfl, -⟩ := c_bad hb
    by_cases he : (C c).length = 0 ∨ (P p).length = 0
    · exact T_q w r rm (x_doublesN (d := 0) w r h1 h2 h3 h4 h5 he) (m_doublesN (d := 0) w rm h1 h2 h3 h4 h5 he)
    · exact T_q w r rm (x_doubles (d := 0) w r h1 h2 h3 h4 h5 he) (m_doubles (d := 0) w rm h1 h2 h3 h4 h5 he)
theorem o_least (i : s_I h) (c p v t : Int32) : s_T mX7_least mX8_least 3 3 [.int c, .int p, .int v, .int t] h := by
  obtain ⟨C, P, S, T, H, O, g, w, r, rm⟩ := i
  by_cases hb : s_bad c p v t 0
  · exact T_q w r rm (x_leastA (d := 0) r hb) (m_leastA (d := 0) w rm hb)
  · obtain ⟨c, p, v, t, q, h1, h2, h3, h4, h5, h6, rfl, rfl, rfl, rfl, -⟩ := c_bad hb
    by_cases he : (C c).length = 0 ∨ (P p).length = 0
    · exact T_q w r rm (x_leastN (d := 0) w r h1 h2 h3 h4 h5 he) (m_leastN (d := 0) w rm h1 h2 h3 h4 h5 he)
    · exact T_q w r rm (x_least (d := 0) w r h1 h2 h3 h4 h5 he) (m_least (d := 0) w rm h1 h2 h3 h4 h5 he)
theorem o_grid (i : s_I h) (v : Int32) : s_T mX7_grid mX8_grid 0 1 [.int v] h := by
  obtain ⟨C, P, S, T, H, O, g, w, r, rm⟩ := i
  by_cases hv : v < 1 ∨ ¬ v ≤ 24
  · exact T_q w r rm (x_gridA (d := 0) r hv) (m_gridA (d := 0) rm hv)
  · have h1 : ¬ v < 1 := fun e => hv (Or.inl e)
    obtain ⟨v, hv2, rfl⟩ := c_rg (lo := 1) (hi := 24) (x := v) (c_lt1 h1) h1 (fun e => hv (Or.inr (Int32.not_le.mpr e))) (by decide) (by decide)
    exact T_c (W_G w (g' := v) hv2) rm (x_grid (d := 0) r hv2) (fun h1 rm => m_grid (d := 0) rm hv2)
theorem c_bads {p c wh : Int32} (hb : ¬ s_bads p c wh) : ∃ p' c' w', p' < 6 ∧ (1 ≤ c' ∧ c' ≤ 9) ∧ w' ≤ 2 ∧ p = nI p' ∧ c = nI c' ∧ wh = nI w' := by
  rcases c_ix p 6 (by decide) with hc | ⟨p', hp', rfl⟩
  · exact absurd (Or.inl hc) hb
  · have h1 : ¬ c < 1 := fun e => hb (Or.inr (Or.inl e))
    obtain ⟨c', hc', rfl⟩ := c_rg (lo := 1) (hi := 9) (x := c) (c_lt1 h1) h1 (fun e => hb (Or.inr (Or.inr (Or.inl e)))) (by decide) (by decide)
    obtain ⟨w', ⟨-, hw'⟩, rfl⟩ := c_rg (lo := 0) (hi := 2) (x := wh) (fun e => hb (Or.inr (Or.inr (Or.inr (Or.inl e))))) (fun e => hb (Or.inr (Or.inr (Or.inr (Or.inl e))))) (fun e => hb (Or.inr (Or.inr (Or.inr (Or.inr (Int32.not_le.mpr e)))))) (by decide) (by decide)
    exact ⟨p', c', w', hp', hc', hw', rfl, rfl, rfl⟩
theorem o_shape (i : s_I h) (p c k : Int32) : s_T mX7_shape mX8_shape 2 3 [.int p, .int c, .int k] h := by
  obtain ⟨C, P, S, T, H, O, g, w, r, rm⟩ := i
  by_cases hb : s_bads p c k
  · exact T_q w r rm (x_shapeA (d := 0) r hb) (m_shapeA (d := 0) rm hb)
  · obtain ⟨p, c, k, h1, h2, h3, rfl, rfl, rfl⟩ := c_bads hb
    by_cases he : (P p).length = 0
    · exact T_q w r rm (x_shapeN (d := 0) w r h1 h2 h3 he) (m_shapeN (d := 0) rm h1 h2 h3 he)
    · exact T_q w r rm (x_shape (d := 0) w r h1 h2 h3 he) (m_shape (d := 0) w rm h1 h2 h3 he)
theorem o_shaped (i : s_I h) (p c k j : Int32) : s_T mX7_shaped mX8_shaped 2 3 [.int p, .int c, .int k, .int j] h := by
  obtain ⟨C, P, S, T, H, O, g, w, r, rm⟩ := i
  by_cases hb : j < 0 ∨ s_bads p c k
  · exact T_q w r rm (x_shapedA (d := 0) r hb) (m_shapedA (d := 0) rm hb)
  · obtain ⟨p, c, k, h1, h2, h3, rfl, rfl, rfl⟩ := c_bads (fun e => hb (Or.inr e))
    obtain ⟨j, hj, rfl⟩ := nI_of (fun e => hb (Or.inl e) : ¬ j < 0)
    by_cases he : (P p).length = 0
    · exact T_q w r rm (x_shapedN (d := 0) w r h1 h2 h3 hj he) (m_shapedN (d := 0) rm h1 h2 h3 hj he)
    · exact T_q w r rm (x_shaped (d := 0) w r h1 h2 h3 hj he) (m_shaped (d := 0) w rm h1 h2 h3 hj he)
theorem c_badt {p s : Int32} (hb : ¬ s_badt p s) : ∃ p' s', p' < 6 ∧ s' < 2 ∧ p = nI p' ∧ s = nI s' := by
  rcases c_ix p 6 (by decide) with hc | ⟨p', hp', rfl⟩
  · exact absurd (Or.inl hc) hb
  · rcases c_ix s 2 (by decide) with hc | ⟨s', hs', rfl⟩
    · exact absurd (Or.inr hc) hb
    · exact ⟨p', s', hp', hs', rfl, rfl⟩
theorem o_ways (i : s_I h) (p s : Int32) : s_T mX7_ways mX8_ways 3 2 [.int p, .int s] h := by
  obtain ⟨C, P, S, T, H, O, g, w, r, rm⟩ := i
  by_cases hb : s_badt p s
  · exact T_q w r rm (x_waysA (d := 0) r hb) (m_waysA (d := 0) rm hb)
  · obtain ⟨p, s, h1, h2, rfl, rfl⟩ := c_badt hb
    cases hs : S s with
    | none => exact T_q w r rm (x_waysN (d := 0) w r h1 h2 hs) (m_waysN (d := 0) rm h1 h2 hs)
    | some l => exact T_c w rm (x_ways (d := 0) w r h1 h2 hs) (fun _ rm => m_ways (d := 0) w rm h1 h2 hs)
theorem o_cuts (i : s_I h) (p s : Int32) : s_T mX7_cuts mX8_cuts 3 2 [.int p, .int s] h := by
  obtain ⟨C, P, S, T, H, O, g, w, r, rm⟩ := i
  by_cases hb : s_badt p s
  · exact T_q w r rm (x_cutsA (d := 0) r hb) (m_cutsA (d := 0) rm hb)
  · obtain ⟨p, s, h1, h2, rfl, rfl⟩ := c_badt hb
    cases hs : S s with
    | none => exact T_q w r rm (x_cutsN (d := 0) w r h1 h2 hs) (m_cutsN (d := 0) rm h1 h2 hs)
    | some l => exact T_c w rm ⟨h, x_cuts (d := 0) w r h1 h2 hs, r, zEq_rf⟩ (fun _ rm => m_cuts (d := 0) w rm h1 h2 hs)
theorem o_hand (i : s_I h) (s v : Int32) : s_T mX7_hand mX8_hand 1 1 [.int s, .int v] h := by
  obtain ⟨C, P, S, T, H, O, g, w, r, rm⟩ := i
  by_cases hb : s < 0 ∨ 8 ≤ s ∨ v < 0 ∨ ¬ v ≤ 3
  · exact T_q w r rm (x_handA (d := 0) r hb) (m_handA (d := 0) rm hb)
  · rcases c_ix s 8 (by decide) with hc | ⟨s, hs, rfl⟩
    · exact absurd (hc.elim Or.inl (fun e => Or.inr (Or.inl e))) hb
    · obtain ⟨v, ⟨-, hv⟩, rfl⟩ := c_rg (lo := 0) (hi := 3) (x := v) (fun e => hb (Or.inr (Or.inr (Or.inl e)))) (fun e => hb (Or.inr (Or.inr (Or.inl e)))) (fun e => hb (Or.inr (Or.inr (Or.inr (Int32.not_le.mpr e))))) (by decide) (by decide)
      exact T_c (W_H w (i := s) hv) rm (x_hand (d := 0) r hs hv) (fun _ rm => m_hand (d := 0) rm hs hv)
theorem o_strains (i : s_I h) (p : Int32) : s_T mX7_strains mX8_strains 5 3 [.int p] h := by
  obtain ⟨C, P, S, T, H, O, g, w, r, rm⟩ := i
  rcases c_ix p 6 (by decide) with hp | ⟨p, hp, rfl⟩
  · exact T_q w r rm (x_strainsA (d := 0) r hp) (m_strainsA (d := 0) rm hp)
  · by_cases he : (P p).length = 0
    · exact T_q w r rm (x_strainsN (d := 0) r hp he) (m_strainsN (d := 0) rm hp he)
    · exact T_c w rm (x_strains (d := 0) w r hp he) (fun _ rm => m_strains (d := 0) w rm hp he)
theorem o_plays (i : s_I h) (p j : Int32) : s_T mX7_plays mX8_plays 5 3 [.int p, .int j] h := by
  obtain ⟨C, P, S, T, H, O, g, w, r, rm⟩ := i
  rcases c_ix p 6 (by decide) with hp | ⟨p, hp, rfl⟩
  · exact T_q w r rm (x_playsA (d := 0) r hp) (m_playsA (d := 0) rm hp)
  · by_cases hj : j < 0
    · exact T_q w r rm (x_playsB (d := 0) r hp hj) (m_playsB (d := 0) rm hp hj)
    · obtain ⟨j, hj2, rfl⟩ := nI_of hj
      by_cases he : (P p).length = 0
      · exact T_q w r rm (x_playsN (d := 0) r hp hj2 he) (m_playsN (d := 0) rm hp hj2 he)
      · by_cases hl : j < (P p).length
        · exact T_c w rm (x_plays (d := 0) w r hp hl) (fun _ rm => m_plays (d := 0) w rm hp hl)
        · exact T_q w r rm (x_playsC (d := 0) w r hp hj2 he hl) (m_playsC (d := 0) w rm hp hj2 he hl)
theorem o_join (i : s_I h) (p v t q : Int32) : s_T mX7_join mX8_join 1 2 [.int p, .int v, .int t, .int q] h := by
  obtain ⟨C, P, S, T, H, O, g, w, r, rm⟩ := i
  by_cases hb : s_badj p v t q
  · exact T_q w r rm (x_joinA (d := 0) r hb) (m_joinA (d := 0) rm hb)
  · rcases c_ix p 6 (by decide) with hp | ⟨p, hp, rfl⟩
    · exact absurd (Or.inl hp) hb
    · have hv : ¬ s_tpo v = 0 := fun e => hb (Or.inr (Or.inl e))
      have h1 : ¬ t < 1 := fun e => hb (Or.inr (Or.inr (Or.inl e)))
      obtain ⟨t, ht, rfl⟩ := c_rg (lo := 1) (hi := 9) (x := t) (c_lt1 h1) h1 (fun e => hb (Or.inr (Or.inr (Or.inr (Or.inl e))))) (by decide) (by decide)
      obtain ⟨q, ⟨-, hq⟩, rfl⟩ := c_rg (lo := 0) (hi := 96) (x := q) (fun e => hb (Or.inr (Or.inr (Or.inr (Or.inr (Or.inl e)))))) (fun e => hb (Or.inr (Or.inr (Or.inr (Or.inr (Or.inl e)))))) (fun e => hb (Or.inr (Or.inr (Or.inr (Or.inr (Or.inr e)))))) (by decide) (by decide)
      by_cases he : (P p).length = 0
      · exact T_q w r rm (x_joinN (d := 0) w r hp hv ht hq he) (m_joinN (d := 0) w rm hp hv ht hq he)
      · by_cases hf : O.length = 20
        · exact T_q w r rm (x_joinF (d := 0) w r hp hv ht hq he hf) (m_joinF (d := 0) w rm hp hv ht hq he hf)
        · have wo := w.2.2.2.2.2.1
          have hl := (w.2.1 p hp).1
          have h24 := s_tpo_le v
          refine T_c (W_O w (O' := O ++ [((P p).length * s_tpo v * t, q)]) ⟨?_, ?_⟩) rm (x_join (d := 0) w r hp hv ht hq he hf) (fun _ rm => m_join (d := 0) w rm hp hv ht hq he hf)
          · rw [List.length_append]; have := wo.1; simp; omega
          · intro z hz
            rcases List.mem_append.mp hz with hz | hz
            · exact wo.2 z hz
            · rw [List.mem_singleton.mp hz]
              exact ⟨Nat.mul_le_mul (Nat.mul_le_mul hl h24) ht.2, hq⟩
theorem o_drop (i : s_I h) : s_T mX7_drop mX8_drop 0 0 [] h := by
  obtain ⟨C, P, S, T, H, O, g, w, r, rm⟩ := i
  exact T_c (W_O w (O' := []) ⟨by decide, fun v hv => absurd hv List.not_mem_nil⟩) rm (x_drop (d := 0) r) (fun _ rm => m_drop (d := 0) rm)
theorem o_account (i : s_I h) (c j : Int32) : s_T mX7_account mX8_account 1 2 [.int c, .int j] h := by
  obtain ⟨C, P, S, T, H, O, g, w, r, rm⟩ := i
  rcases c_ix c 4 (by decide) with hc | ⟨c, hc, rfl⟩
  · exact T_q w r rm (x_accountA (d := 0) r hc) (m_accountA (d := 0) rm hc)
  · rcases c_ix j O.length (by have := w.2.2.2.2.2.1.1; omega) with hj | ⟨j, hj, rfl⟩
    · have hj : j < 0 ∨ ¬ j < nI O.length := hj.imp_right (fun e => Int32.not_lt.mpr e)
      exact T_q w r rm (x_accountB (d := 0) r hc hj) (m_accountB (d := 0) w rm hc hj)
    · exact T_q w r rm (x_account (d := 0) w r hc hj) (m_account (d := 0) w rm hc hj)
theorem o_landings (i : s_I h) (c : Int32) : s_T mX7_landings mX8_landings 1 2 [.int c] h := by
  obtain ⟨C, P, S, T, H, O, g, w, r, rm⟩ := i
  rcases c_ix c 4 (by decide) with hc | ⟨c, hc, rfl⟩
  · exact T_q w r rm (x_landingsA (d := 0) r hc) (m_landingsA (d := 0) rm hc)
  · exact T_q w r rm (x_landings (d := 0) w r hc) (m_landings (d := 0) w rm hc)
theorem o_home (i : s_I h) (c : Int32) : s_T mX7_home mX8_home 2 2 [.int c] h := by
  obtain ⟨C, P, S, T, H, O, g, w, r, rm⟩ := i
  rcases c_ix c 4 (by decide) with hc | ⟨c, hc, rfl⟩
  · exact T_q w r rm (x_homeA (d := 0) r hc) (m_homeA (d := 0) rm hc)
  · exact T_q w r rm (x_home (d := 0) w r hc) (m_home (d := 0) w rm hc)
theorem o_sheet (i : s_I h) (s n : Int32) : s_T mX7_sheet mX8_sheet 1 2 [.int s, .int n] h := by
  obtain ⟨C, P, S, T, H, O, g, w, r, rm⟩ := i
  by_cases hb : (s < 0 ∨ 2 ≤ s) ∨ ¬ n ≤ 60
  · exact T_q w r rm (x_sheetA (d := 0) r hb) (m_sheetA (d := 0) rm hb)
  · rcases c_ix s 2 (by decide) with hc | ⟨s, hs, rfl⟩
    · exact absurd (Or.inl hc) hb
    · by_cases hn : n < 0
      · exact T_q w r rm (x_sheetS (d := 0) r hs hn) (m_sheetS (d := 0) rm hs hn)
      · obtain ⟨n, ⟨-, hn2⟩, rfl⟩ := c_rg (lo := 0) (hi := 60) (x := n) hn hn (fun e => hb (Or.inr (Int32.not_le.mpr e))) (by decide) (by decide)
        refine T_c (W_S w (i := s) (l := List.replicate n 0) ?_ ?_) rm (x_sheet (d := 0) r hs hn2) (fun _ rm => m_sheet (d := 0) w rm hs hn2)
        · rw [List.length_replicate]; exact hn2
        · intro v hv
          rw [(List.mem_replicate.mp hv).2]; decide
theorem o_mark (i : s_I h) (s j v : Int32) : s_T mX7_mark mX8_mark 1 2 [.int s, .int j, .int v] h := by
  obtain ⟨C, P, S, T, H, O, g, w, r, rm⟩ := i
  rcases c_ix s 2 (by decide) with hc | ⟨s, hs, rfl⟩
  · exact T_q w r rm (x_markA (d := 0) r hc) (m_markA (d := 0) rm hc)
  · cases hl : S s with
    | none => exact T_q w r rm (x_markN (d := 0) w r hs hl) (m_markN (d := 0) rm hs hl)
    | some l =>
      have wl := w.2.2.1 s hs l hl
      rcases c_ix j l.length (by have := wl.1; omega) with hj | ⟨j, hj, rfl⟩
      · exact T_q w r rm (x_markI (d := 0) w r hs hl hj) (m_markI (d := 0) w rm hs hl hj)
      · refine T_c (W_S w (i := s) (l := l.set j v.toInt8.toInt32) ?_ ?_) rm (x_mark (d := 0) w r hs hl hj) (fun _ rm => m_mark (d := 0) w rm hs hl hj)
        · rw [List.length_set]; exact wl.1
        · intro z hz
          rcases List.mem_or_eq_of_mem_set hz with hz | hz
          · exact wl.2 z hz
          · rw [hz]; simp
theorem s_8b : ∀ v, v < 9 → (nI v).toInt8.toInt32 = nI v := by decide
theorem s_nI8 {v : Nat} (h : v ≤ 8) : (nI v).toInt8.toInt32 = nI v := s_8b v (by omega)
theorem o_copy (i : s_I h) (p f s a m : Int32) : s_T mX7_copy mX8_copy 2 2 [.int p, .int f, .int s, .int a, .int m] h := by
  obtain ⟨C, P, S, T, H, O, g, w, r, rm⟩ := i
  by_cases hb : s_badt p s
  · exact T_q w r rm (x_copyA (d := 0) r hb) (m_copyA (d := 0) rm hb)
  · obtain ⟨p, s, hp, hs, rfl, rfl⟩ := c_badt hb
    cases hl : S s with
    | none => exact T_q w r rm (x_copyN (d := 0) w r hp hs hl) (m_copyN (d := 0) rm hp hs hl)
    | some l =>
      have wl := w.2.2.1 s hs l hl
      by_cases hi : s_in f m (P p).length ∧ s_in a m l.length
      · obtain ⟨⟨x, y, hx, hy, rfl, rfl, h1⟩, x2, y2, hx2, hy2, rfl, e, h2⟩ := hi
        have e1 := (nI_leI hy hy2).mp (by rw [e]; exact Int32.le_refl _)
        have e2 := (nI_leI hy2 hy).mp (by rw [e]; exact Int32.le_refl _)
        obtain rfl : y = y2 := by omega
        refine T_c (W_S w (i := s) (l := s_cp l (P p) x x2 y) ?_ ?_) rm (x_copy (d := 0) w r hp hs hl h1 h2) (fun _ rm => m_copy (d := 0) w rm hp hs hl h1 h2)
        · rw [s_cp_len]; exact wl.1
        · intro z hz
          unfold s_cp at hz
          obtain ⟨k, hk, rfl⟩ := List.mem_map.mp hz
          have hk := List.mem_range.mp hk
          split
          · exact s_nI8 (s_getD_le (w.2.1 p hp).2)
          · have e3 : l.getD k 0 = l[k] := by simp [List.getD, hk]
            rw [e3]; exact wl.2 _ (List.getElem_mem hk)
      · exact T_q w r rm (x_copyI (d := 0) w r hp hs hl hi) (m_copyI (d := 0) w rm hp hs hl hi)
theorem o_count (i : s_I h) (x : Int32) : s_T mX7_count mX8_count 2 0 [.int x] h := by
  obtain ⟨C, P, S, T, H, O, g, w, r, rm⟩ := i
  exact T_q w r rm (x_count (d := 0) w r x) (m_count (d := 0) w rm x)
end TT
