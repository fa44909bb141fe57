def hm_0 : zH := [.inr (7, [.ref 1, .ref 2, .ref 3, .ref 4, .ref 9, .ref 12, .ref 16, .int (nI 6)]), .inl (3, 4, .inr (.inr (.inr (.inr (va_up (va_up (va_up (va_up (fun _ => none) 0 (some 19)) 1 (some 22)) 2 (some 25)) 3 (some 28)))))), .inl (4, 6, .inr (.inr (.inr (.inr (va_up (va_up (va_up (va_up (va_up (va_up (fun _ => none) 0 (some 31)) 1 (some 33)) 2 (some 35)) 3 (some 37)) 4 (some 39)) 5 (some 41)))))), .inl (5, 2, .inr (.inr (.inr (.inr (va_up (va_up (fun _ => none) 0 (some 43)) 1 (some 45)))))), .inr (5, [.ref 5, .int (nI 0), .ref 6, .ref 7, .ref 8]), .inl (0, 60, .inl (fun _ => 0)), .inl (0, 60, .inl (fun _ => 0)), .inl (1, 6, .inl (fun _ => 0)), .inl (1, 6, .inl (fun _ => 0)), .inr (6, [.ref 10, .ref 11]), .inl (1, 61, .inl (fun _ => 0)), .inl (2, 62, .inr (.inl (fun _ => 0))), .inr (1, [.ref 13, .ref 14, .ref 15]), .inl (1, 8, .inl (upd (upd (upd (upd (upd (upd (upd (upd (fun _ => 0) 0 (nI 3)) 1 (nI 3)) 2 (nI 3)) 3 (nI 3)) 4 (nI 3)) 5 (nI 3)) 6 (nI 3)) 7 (nI 3))), .inl (1, 60, .inl (fun _ => 0)), .inl (1, 60, .inl (fun _ => 0)), .inr (4, [.ref 17, .ref 18, .int (nI 0)]), .inl (1, 20, .inl (fun _ => 0)), .inl (1, 20, .inl (fun _ => 0)), .inr (0, [.ref 20, .ref 21, .int (nI 0)]), .inl (1, 12, .inl (fun _ => 0)), .inl (1, 12, .inl (fun _ => 0)), .inr (0, [.ref 23, .ref 24, .int (nI 0)]), .inl (1, 12, .inl (fun _ => 0)), .inl (1, 12, .inl (fun _ => 0)), .inr (0, [.ref 26, .ref 27, .int (nI 0)]), .inl (1, 12, .inl (fun _ => 0)), .inl (1, 12, .inl (fun _ => 0)), .inr (0, [.ref 29, .ref 30, .int (nI 0)]), .inl (1, 12, .inl (fun _ => 0)), .inl (1, 12, .inl (fun _ => 0)), .inr (2, [.ref 32, .int (nI 0)]), .inl (0, 60, .inl (fun _ => 0)), .inr (2, [.ref 34, .int (nI 0)]), .inl (0, 60, .inl (fun _ => 0)), .inr (2, [.ref 36, .int (nI 0)]), .inl (0, 60, .inl (fun _ => 0)), .inr (2, [.ref 38, .int (nI 0)]), .inl (0, 60, .inl (fun _ => 0)), .inr (2, [.ref 40, .int (nI 0)]), .inl (0, 60, .inl (fun _ => 0)), .inr (2, [.ref 42, .int (nI 0)]), .inl (0, 60, .inl (fun _ => 0)), .inr (3, [.ref 44, .int (-1)]), .inl (0, 60, .inl (fun _ => 0)), .inr (3, [.ref 46, .int (-1)]), .inl (0, 60, .inl (fun _ => 0)), .inr (8, [.null, .null, .null, .null, .null, .null, .int 0, .int 0, .null, .null, .null, .int 0, .null, .null, .int 0, .int 0, .null, .null, .null, .null, .null])]
theorem hmk_0 : zOkH hm_0.length hm_0 := zOkH_push hk_55 (List.forall_mem_cons.mpr ⟨trivial, List.forall_mem_cons.mpr ⟨trivial, List.forall_mem_cons.mpr ⟨trivial, List.forall_mem_cons.mpr ⟨trivial, List.forall_mem_cons.mpr ⟨trivial, List.forall_mem_cons.mpr ⟨trivial, List.forall_mem_cons.mpr ⟨trivial, List.forall_mem_cons.mpr ⟨trivial, List.forall_mem_cons.mpr ⟨trivial, List.forall_mem_cons.mpr ⟨trivial, List.forall_mem_cons.mpr ⟨trivial, List.forall_mem_cons.mpr ⟨trivial, List.forall_mem_cons.mpr ⟨trivial, List.forall_mem_cons.mpr ⟨trivial, List.forall_mem_cons.mpr ⟨trivial, List.forall_mem_cons.mpr ⟨trivial, List.forall_mem_cons.mpr ⟨trivial, List.forall_mem_cons.mpr ⟨trivial, List.forall_mem_cons.mpr ⟨trivial, List.forall_mem_cons.mpr ⟨trivial, List.forall_mem_cons.mpr ⟨trivial, fun _ hh => absurd hh List.not_mem_nil⟩⟩⟩⟩⟩⟩⟩⟩⟩⟩⟩⟩⟩⟩⟩⟩⟩⟩⟩⟩⟩)
def hm_1 : zH := [.inr (7, [.ref 1, .ref 2, .ref 3, .ref 4, .ref 9, .ref 12, .ref 16, .int (nI 6)]), .inl (3, 4, .inr (.inr (.inr (.inr (va_up (va_up (va_up (va_up (fun _ => none) 0 (some 19)) 1 (some 22)) 2 (some 25)) 3 (some 28)))))), .inl (4, 6, .inr (.inr (.inr (.inr (va_up (va_up (va_up (va_up (va_up (va_up (fun _ => none) 0 (some 31)) 1 (some 33)) 2 (some 35)) 3 (some 37)) 4 (some 39)) 5 (some 41)))))), .inl (5, 2, .inr (.inr (.inr (.inr (va_up (va_up (fun _ => none) 0 (some 43)) 1 (some 45)))))), .inr (5, [.ref 5, .int (nI 0), .ref 6, .ref 7, .ref 8]), .inl (0, 60, .inl (fun _ => 0)), .inl (0, 60, .inl (fun _ => 0)), .inl (1, 6, .inl (fun _ => 0)), .inl (1, 6, .inl (fun _ => 0)), .inr (6, [.ref 10, .ref 11]), .inl (1, 61, .inl (fun _ => 0)), .inl (2, 62, .inr (.inl (fun _ => 0))), .inr (1, [.ref 13, .ref 14, .ref 15]), .inl (1, 8, .inl (upd (upd (upd (upd (upd (upd (upd (upd (fun _ => 0) 0 (nI 3)) 1 (nI 3)) 2 (nI 3)) 3 (nI 3)) 4 (nI 3)) 5 (nI 3)) 6 (nI 3)) 7 (nI 3))), .inl (1, 60, .inl (fun _ => 0)), .inl (1, 60, .inl (fun _ => 0)), .inr (4, [.ref 17, .ref 18, .int (nI 0)]), .inl (1, 20, .inl (fun _ => 0)), .inl (1, 20, .inl (fun _ => 0)), .inr (0, [.ref 20, .ref 21, .int (nI 0)]), .inl (1, 12, .inl (fun _ => 0)), .inl (1, 12, .inl (fun _ => 0)), .inr (0, [.ref 23, .ref 24, .int (nI 0)]), .inl (1, 12, .inl (fun _ => 0)), .inl (1, 12, .inl (fun _ => 0)), .inr (0, [.ref 26, .ref 27, .int (nI 0)]), .inl (1, 12, .inl (fun _ => 0)), .inl (1, 12, .inl (fun _ => 0)), .inr (0, [.ref 29, .ref 30, .int (nI 0)]), .inl (1, 12, .inl (fun _ => 0)), .inl (1, 12, .inl (fun _ => 0)), .inr (2, [.ref 32, .int (nI 0)]), .inl (0, 60, .inl (fun _ => 0)), .inr (2, [.ref 34, .int (nI 0)]), .inl (0, 60, .inl (fun _ => 0)), .inr (2, [.ref 36, .int (nI 0)]), .inl (0, 60, .inl (fun _ => 0)), .inr (2, [.ref 38, .int (nI 0)]), .inl (0, 60, .inl (fun _ => 0)), .inr (2, [.ref 40, .int (nI 0)]), .inl (0, 60, .inl (fun _ => 0)), .inr (2, [.ref 42, .int (nI 0)]), .inl (0, 60, .inl (fun _ => 0)), .inr (3, [.ref 44, .int (-1)]), .inl (0, 60, .inl (fun _ => 0)), .inr (3, [.ref 46, .int (-1)]), .inl (0, 60, .inl (fun _ => 0)), .inr (8, [.ref 48, .ref 49, .ref 50, .ref 51, .ref 52, .ref 53, .int (nI 6), .int 0, .ref 54, .ref 55, .ref 56, .int 0, .ref 57, .ref 58, .int 0, .int 0, .ref 59, .ref 60, .ref 61, .ref 62, .ref 63]), .inl (1, 4, .inl (fun _ => 0)), .inl (1, 48, .inl (fun _ => 0)), .inl (1, 48, .inl (fun _ => 0)), .inl (1, 6, .inl (fun _ => 0)), .inl (1, 360, .inl (fun _ => 0)), .inl (1, 8, .inl (upd (upd (upd (upd (upd (upd (upd (upd (fun _ => 0) 0 (nI 3)) 1 (nI 3)) 2 (nI 3)) 3 (nI 3)) 4 (nI 3)) 5 (nI 3)) 6 (nI 3)) 7 (nI 3))), .inl (1, 20, .inl (fun _ => 0)), .inl (1, 20, .inl (fun _ => 0)), .inl (1, 60, .inl (fun _ => 0)), .inl (1, 2, .inl (upd (upd (fun _ => 0) 0 (-1)) 1 (-1))), .inl (1, 120, .inl (fun _ => 0)), .inl (1, 60, .inl (fun _ => 0)), .inl (2, 61, .inr (.inl (fun _ => 0))), .inl (1, 61, .inl (fun _ => 0)), .inl (1, 300, .inl (fun _ => 0)), .inl (1, 60, .inl (fun _ => 0))]
theorem hm_I : s_I hm_1 := by
  refine ⟨fun _ => [], fun _ => [], fun _ => none, [], fun _ => 3, [], 6, ?_, ?_, ?_⟩
  · exact ⟨fun i _ => ⟨Nat.zero_le _, fun q hq => absurd hq List.not_mem_nil⟩, fun i _ => ⟨Nat.zero_le _, fun q hq => absurd hq List.not_mem_nil⟩, fun i _ l hl => (by cases hl), ⟨by decide, fun q hq => absurd hq List.not_mem_nil⟩, fun _ _ => Nat.le_refl _, ⟨by decide, fun q hq => absurd hq List.not_mem_nil⟩, by decide, by decide⟩
  · refine ⟨⟨rfl, ⟨_, rfl, ?_⟩, ⟨_, rfl, ?_⟩, ⟨_, rfl, ?_⟩⟩, ?_, ?_, ?_, ⟨rfl, ⟨_, rfl, fun j hj => absurd hj (Nat.not_lt_zero _)⟩, _, _, _, rfl, rfl, rfl⟩, ⟨rfl, _, _, rfl, rfl⟩, ⟨rfl, ⟨_, rfl, ?_⟩, _, _, rfl, rfl⟩, ⟨rfl, _, _, rfl, rfl, fun j hj => absurd hj (Nat.not_lt_zero _)⟩⟩
    · intro i hi
      match i, hi with
      | 0, _ => exact rfl
      | 1, _ => exact rfl
      | 2, _ => exact rfl
      | 3, _ => exact rfl
      | i + 4, hi => exact absurd hi (by omega)
    · intro i hi
      match i, hi with
      | 0, _ => exact rfl
      | 1, _ => exact rfl
      | 2, _ => exact rfl
      | 3, _ => exact rfl
      | 4, _ => exact rfl
      | 5, _ => exact rfl
      | i + 6, hi => exact absurd hi (by omega)
    · intro i hi
      match i, hi with
      | 0, _ => exact rfl
      | 1, _ => exact rfl
      | i + 2, hi => exact absurd hi (by omega)
    · intro i hi
      match i, hi with
      | 0, _ => exact ⟨rfl, _, _, rfl, rfl, fun j hj => absurd hj (Nat.not_lt_zero _)⟩
      | 1, _ => exact ⟨rfl, _, _, rfl, rfl, fun j hj => absurd hj (Nat.not_lt_zero _)⟩
      | 2, _ => exact ⟨rfl, _, _, rfl, rfl, fun j hj => absurd hj (Nat.not_lt_zero _)⟩
      | 3, _ => exact ⟨rfl, _, _, rfl, rfl, fun j hj => absurd hj (Nat.not_lt_zero _)⟩
      | i + 4, hi => exact absurd hi (by omega)
    · intro i hi
      match i, hi with
      | 0, _ => exact ⟨rfl, _, rfl, fun j hj => absurd hj (Nat.not_lt_zero _)⟩
      | 1, _ => exact ⟨rfl, _, rfl, fun j hj => absurd hj (Nat.not_lt_zero _)⟩
      | 2, _ => exact ⟨rfl, _, rfl, fun j hj => absurd hj (Nat.not_lt_zero _)⟩
      | 3, _ => exact ⟨rfl, _, rfl, fun j hj => absurd hj (Nat.not_lt_zero _)⟩
      | 4, _ => exact ⟨rfl, _, rfl, fun j hj => absurd hj (Nat.not_lt_zero _)⟩
      | 5, _ => exact ⟨rfl, _, rfl, fun j hj => absurd hj (Nat.not_lt_zero _)⟩
      | i + 6, hi => exact absurd hi (by omega)
    · intro i hi
      match i, hi with
      | 0, _ => exact ⟨rfl, _, rfl, fun l hl => by cases hl⟩
      | 1, _ => exact ⟨rfl, _, rfl, fun l hl => by cases hl⟩
      | i + 2, hi => exact absurd hi (by omega)
    · intro i hi
      match i, hi with
      | 0, _ => exact rfl
      | 1, _ => exact rfl
      | 2, _ => exact rfl
      | 3, _ => exact rfl
      | 4, _ => exact rfl
      | 5, _ => exact rfl
      | 6, _ => exact rfl
      | 7, _ => exact rfl
      | i + 8, hi => exact absurd hi (by omega)
  · refine ⟨⟨0, 0, Or.inl rfl, rfl⟩, ⟨_, rfl, fun _ _ => rfl⟩, ⟨_, rfl, fun i hi j hj => absurd hj (Nat.not_lt_zero _)⟩, ⟨_, rfl, fun i hi j hj => absurd hj (Nat.not_lt_zero _)⟩, ⟨_, rfl, fun _ _ => rfl⟩, ⟨_, rfl, fun i hi j hj => absurd hj (Nat.not_lt_zero _)⟩, ⟨_, rfl, ?_⟩, ⟨_, rfl, fun j hj => absurd hj (Nat.not_lt_zero _)⟩, ⟨_, rfl, fun j hj => absurd hj (Nat.not_lt_zero _)⟩, ⟨_, rfl, fun j hj => absurd hj (Nat.not_lt_zero _)⟩, ⟨_, rfl, ?_⟩, ⟨_, rfl, fun i hi l hl => by cases hl⟩, ⟨_, rfl, trivial⟩, ⟨_, rfl⟩, ⟨_, rfl, trivial⟩, ⟨_, rfl, trivial⟩, ⟨_, rfl, trivial⟩⟩
    · intro i hi
      match i, hi with
      | 0, _ => exact rfl
      | 1, _ => exact rfl
      | 2, _ => exact rfl
      | 3, _ => exact rfl
      | 4, _ => exact rfl
      | 5, _ => exact rfl
      | 6, _ => exact rfl
      | 7, _ => exact rfl
      | i + 8, hi => exact absurd hi (by omega)
    · intro i hi
      match i, hi with
      | 0, _ => exact rfl
      | 1, _ => exact rfl
      | i + 2, hi => exact absurd hi (by omega)
def mL : zM := (x, code, 4, ret)
theorem zOkL4 {n : Nat} {a b c d : Option Value} (ha : ∀ v, a = some v → zOkV n v) (hb : ∀ v, b = some v → zOkV n v) (hc : ∀ v, c = some v → zOkV n v) (hd : ∀ v, d = some v → zOkV n v) : zOkL n [a, b, c, d] := by
  intro i v hi
  match i, hi with
  | 0, hi => exact ha v (Option.some.inj hi)
  | 1, hi => exact hb v (Option.some.inj hi)
  | 2, hi => exact hc v (Option.some.inj hi)
  | 3, hi => exact hd v (Option.some.inj hi)
theorem zOkn {n : Nat} : ∀ v, (none : Option Value) = some v → zOkV n v := fun _ hv => by cases hv
theorem zOkr {n k : Nat} (hk : k < n ∨ k = zS) : ∀ v, some (Value.ref k) = some v → zOkV n v := fun _ hv => by cases hv; exact hk
/-- the law's judgement -/
abbrev zLw (L : Nat) (xs : Nat → Int32) (pc : Nat) (lv : List (Option Value)) (st : List Value) (h : zH) (ce sl : Nat) : Prop := zJ mL room_1 true 600000 7302250 (some (L, xs)) (fun v _ => v = some (.int 1)) pc lv st h ce sl
theorem l_made {L : Nat} {xs : Nat → Int32} (K : zLw L xs 18 [some (.ref zS), some (.ref 0), some (.ref 47), some (.int (nI 0))] [] hm_1 64 2319) : zLw L xs 0 [some (.ref zS), none, none, none] [] [] 0 0 := by
  refine zj_new (ci := 7) (C := RX7) (T := TX7) (n := 8) (fs := [.null, .null, .null, .null, .null, .null, .null, .int 0]) tyX7 dL_law_0 zi_X7 tyX7_ok rfl zq_53 zq_54 zq_42 nf_7 (fun _ => rfl) ⟨by decide, by decide⟩ ⟨by decide, zOkL4 (zOkr (Or.inr rfl)) zOkn zOkn zOkn, fun _ hh => absurd hh List.not_mem_nil, fun _ hh => absurd hh List.not_mem_nil⟩ ?_
  show zLw L xs 3 [some (.ref zS), none, none, none] [.ref 0] hp_0 1 8
  refine zj_dup dL_law_3 rfl ?_
  refine zj_callI (N := mX7_init) (rm' := rmA 2 46 1052) dL_law_4 zq_55 ⟨rfl, rfl, zq_56, zq_42, mw_X7_init, rfl, rfl, by decide +kernel, by decide, by decide⟩ i_X7 (by decide) ⟨by decide, by decide⟩ (zOkL4 (zOkr (Or.inr rfl)) zOkn zOkn zOkn) (List.forall_mem_cons.mpr ⟨Or.inl (by decide), fun _ hh => absurd hh List.not_mem_nil⟩) (fun v h' hq => ?_)
  obtain ⟨rfl, rfl⟩ := hq
  show zLw L xs 7 [some (.ref zS), none, none, none] [.ref 0] hp_55 47 1060
  refine zj_astore_n dL_law_7 (by decide) ?_
  show zLw L xs 8 [some (.ref zS), some (.ref 0), none, none] [] hp_55 47 1060
  refine zj_new (ci := 8) (C := RX8) (T := TX8) (n := 21) (fs := [.null, .null, .null, .null, .null, .null, .int 0, .int 0, .null, .null, .null, .int 0, .null, .null, .int 0, .int 0, .null, .null, .null, .null, .null]) tyX8 dL_law_8 zi_X8 tyX8_ok rfl zq_606 zq_607 zq_50 nf_8 (fun _ => rfl) ⟨by decide, by decide⟩ ⟨by decide, zOkL4 (zOkr (Or.inr rfl)) (zOkr (Or.inl (by decide))) zOkn zOkn, fun _ hh => absurd hh List.not_mem_nil, hk_55⟩ ?_
  show zLw L xs 11 [some (.ref zS), some (.ref 0), none, none] [.ref 47] hm_0 48 1081
  refine zj_dup dL_law_11 rfl ?_
  refine zj_callI (N := mX8_init) (rm' := rmA 1 16 1238) dL_law_12 zq_608 ⟨rfl, rfl, zq_609, zq_50, mw_X8_init, rfl, rfl, by decide +kernel, by decide, by decide⟩ (i_X8 (h := hm_0) rfl (by decide) hmk_0) (by decide) ⟨by decide, by decide⟩ (zOkL4 (zOkr (Or.inr rfl)) (zOkr (Or.inl (by decide))) zOkn zOkn) (List.forall_mem_cons.mpr ⟨Or.inl (by decide), fun _ hh => absurd hh List.not_mem_nil⟩) (fun v h' hq => ?_)
  obtain ⟨rfl, rfl⟩ := hq
  show zLw L xs 15 [some (.ref zS), some (.ref 0), none, none] [.ref 47] hm_1 64 2319
  refine zj_astore_n dL_law_15 (by decide) ?_
  refine zj_iconst (v := nI 0) dL_law_16 (by decide) ?_
  refine zj_istore_n dL_law_17 (by decide) ?_
  exact K
