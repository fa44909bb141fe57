/-! THE ABSTRACT MACHINE: heaps are lists of cells, a reference is a place in that list; ρ gives each place its address, aC each array tag its class -/
abbrev zH : Type := List va_E
/-- a method: name, bytes, locals, return type -/
abbrev zM : Type := MethodName × ByteArray × Nat × Option FieldType
/-- the place that stands for the law's script -/
def zS : Nat := 1000000
def zV (ρ : Nat → Nat) (v : Value) : Value := match v with
  | .ref k => .ref (ρ k)
  | w => w
def zE (ρ : Nat → Nat) (aC : Nat → ClassId) (c : va_E) : va_E := match c with
  | .inl (t, n, .inr (.inr (.inr (.inr f)))) => .inl (aC t, n, .inr (.inr (.inr (.inr (fun i => (f i).map ρ)))))
  | .inl (t, n, .inl f) => .inl (aC t, n, .inl f)
  | .inl (t, n, .inr (.inl f)) => .inl (aC t, n, .inr (.inl f))
  | .inl (t, n, .inr (.inr (.inl f))) => .inl (aC t, n, .inr (.inr (.inl f)))
  | .inl (t, n, .inr (.inr (.inr (.inl f)))) => .inl (aC t, n, .inr (.inr (.inr (.inl f))))
  | .inr (ci, fs) => .inr (ci, fs.map (zV ρ))
def zC (ρ : Nat → Nat) (aC : Nat → ClassId) (h : zH) : va_W := h.mapIdx (fun k c => (ρ k, zE ρ aC c))
def zTy (aC : Nat → ClassId) : List (ClassId × FieldType) := [(aC 0, .byte), (aC 1, .int), (aC 2, .long), (aC 3, .object RX0), (aC 4, .object RX2), (aC 5, .object RX3)]
/-- the locals: by their places -/
def zL (ρ : Nat → Nat) (ls : Array Slot) (nL : Nat) (lv : List (Option Value)) : Prop := ls.size = nL ∧ lv_wf ls ∧ ∀ (i : Nat) (v : Value), lv[i]? = some (some v) → ls[i]? = some (.val (zV ρ v))
def zA (ρ : Nat → Nat) (lv : List (Option Value)) : List (Nat × Value) := (lv.zipIdx).filterMap (fun q => q.1.map (fun v => (q.2, zV ρ v)))
def zst (i : Nat) (v : Value) (lv : List (Option Value)) : List (Option Value) := match i with
  | 0 => lv.set 0 (some v)
  | j + 1 => match lv[j]? with
    | some (some (.long _)) => (lv.set j none).set (j + 1) (some v)
    | some (some (.double _)) => (lv.set j none).set (j + 1) (some v)
    | _ => lv.set (j + 1) (some v)
def zst2 (i : Nat) (v : Value) (lv : List (Option Value)) : List (Option Value) := (zst i v lv).set (i + 1) none
/-- the tables' facts that are no words of zT: links between nest mates, arrays of own classes -/
def zN (U : State) : Prop := va_Nw (.methodLinkNest RX7 29 yX5_init RX7) U ∧ va_Nw (.methodLinkNest RX7 36 yX6_init RX7) U ∧ va_Nw (.methodLinkNest RX7 43 yX1_init RX7) U ∧ va_Nw (.methodLinkNest RX7 50 yX4_init RX7) U ∧ va_Nw (.methodLinkNest RX7 59 yX0_init RX7) U ∧ va_Nw (.methodLinkNest RX7 60 yX2_init RX7) U ∧ va_Nw (.methodLinkNest RX7 61 yX3_init RX7) U ∧ va_AO RX0 U ∧ va_AO RX2 U ∧ va_AO RX3 U
def zX (M : zM) (scr : Option (Nat × (Nat → Int32))) (p : Program) (s : State) (m : MethodId) (args : Array Value) (meth : Method) (c : Code) (D : va_G) (aC : Nat → ClassId) (A : Nat → Prop) (b : Nat) : Prop :=
  p.tables.exec = Jvm.exec ∧ c.code = M.2.1 ∧ c.maxLocals = M.2.2.1 ∧ s.vm.findClass M.1.cls = some m.cls ∧ (∀ w ∈ zT, w.before args s = true) ∧ va_K D vwCl (zTy aC) s ∧ (∀ q, s.heap.size ≤ q → A q) ∧ (M.1.name = "<init>" → meth.name = "<init>") ∧ zN s ∧ ∀ L xs, scr = some (L, xs) → va_X b L xs s s.heap ∧ b < s.heap.size ∧ ¬ A b
/-- how the addresses may have changed: not at all where nothing is made -/
def zAg (al : Bool) (n n' : Nat) (ρ ρ' : Nat → Nat) : Prop := (al = false → ρ' = ρ ∧ n' = n) ∧ n ≤ n' ∧ ∀ k, (k < n ∨ k = zS) → ρ' k = ρ k
def zRet (ret : Option FieldType) (ri : Instr) (v : Option Value) : Prop := (ri = .ireturn ∧ ∃ (ty : FieldType) (x : Int32), ret = some ty ∧ v = some (.int x) ∧ narrow ty (.int x) = .int x) ∨ (ri = .lreturn ∧ ret = some .long ∧ ∃ x, v = some (.long x)) ∨ (ri = .areturn ∧ (∃ n, ret = some (.object n)) ∧ ((∃ a, v = some (.ref a)) ∨ v = some .null)) ∨ (ri = .return_ ∧ ret = none ∧ v = none)
/-- THE JUDGEMENT: from pc with locals lv, stack st, heap h, ce cells and sl slots made so far, the method comes to a return with Q -/
def zJ (M : zM) (rm : Room) (al : Bool) (mc ms : Nat) (scr : Option (Nat × (Nat → Int32))) (Q : Option Value → zH → Prop) (pc : Nat) (lv : List (Option Value)) (st : List Value) (h : zH) (ce sl : Nat) : Prop :=
  ∀ (p : Program) (l : Launch) (e : Env) (s : State) (m : MethodId) (args : Array Value) (below : List Frame) (meth : Method) (c : Code) (D : va_G) (aC : Nat → ClassId) (ρ : Nat → Nat) (H : Heap) (locs : List Loc) (A : Nat → Prop) (Z : State → Prop) (ls : Array Slot),
    zX M scr p s m args meth c D aC A (ρ zS) → zL ρ ls M.2.2.1 lv → va_P D vwCl (zC ρ aC h) H → va_D A (zC ρ aC h) → va_S A s.heap H locs →
    (∀ (ρ' : Nat → Nat) (H' : Heap) (locs' : List Loc) (ls' : Array Slot) (pc' : Nat) (ri : Instr) (v : Option Value) (h' : zH), Q v h' → zAg al h.length h'.length ρ ρ' → va_P D vwCl (zC ρ' aC h') H' → va_D A (zC ρ' aC h') → va_S A s.heap H' locs' → decode M.2.1 pc' = .ok (ri, 1) → zRet M.2.2.2 ri v → W p l e rm s m args below meth c H' locs' mc ms Z (F0 m pc' ls' (v.toList.map (zV ρ')))) →
    W p l e rm s m args below meth c H locs ce sl Z (F0 m pc ls (st.map (zV ρ)))
theorem zC_get {ρ : Nat → Nat} {aC : Nat → ClassId} {h : zH} {k : Nat} {c : va_E} (hk : h[k]? = some c) : (zC ρ aC h)[k]? = some (ρ k, zE ρ aC c) := by
  simp [zC, List.getElem?_mapIdx, hk]
theorem zC_set {ρ : Nat → Nat} {aC : Nat → ClassId} {h : zH} {k : Nat} {c : va_E} : (zC ρ aC h).set k (ρ k, zE ρ aC c) = zC ρ aC (h.set k c) := by
  apply List.ext_getElem?
  intro i
  simp only [zC, List.getElem?_set, List.getElem?_mapIdx, List.length_mapIdx]
  by_cases hi : k = i
  · subst hi
    by_cases hl : k < h.length <;> simp [hl]
  · simp [hi]
theorem zL_get {ρ : Nat → Nat} {ls : Array Slot} {nL : Nat} {lv : List (Option Value)} (h : zL ρ ls nL lv) {i : Nat} {v : Value} (hi : lv[i]? = some (some v)) : ls[i]? = some (.val (zV ρ v)) := h.2.2 i v hi
theorem zL_A {ρ : Nat → Nat} {ls : Array Slot} {nL : Nat} {lv : List (Option Value)} (h : zL ρ ls nL lv) : lv_has ls nL (zA ρ lv) := by
  refine ⟨h.1, h.2.1, fun q hq => ?_⟩
  obtain ⟨⟨o, i⟩, hm, ho⟩ := List.mem_filterMap.mp hq
  cases o with
  | none => simp at ho
  | some v =>
    simp at ho
    subst ho
    have := List.mem_zipIdx_iff_getElem?.mp hm
    exact h.2.2 i v this
theorem zV_cat (ρ : Nat → Nat) (v : Value) : (zV ρ v).category = v.category := by cases v <;> rfl
theorem zA_mem {ρ : Nat → Nat} {lv : List (Option Value)} {i : Nat} {v : Value} (h : lv[i]? = some (some v)) : (i, zV ρ v) ∈ zA ρ lv := by
  refine List.mem_filterMap.mpr ⟨(some v, i), List.mem_zipIdx_iff_getElem?.mpr h, rfl⟩
/-- what stands in zst besides the new value was there before, and isn't the first half of a long just cut -/
theorem zst_get {i j : Nat} {v w : Value} {lv : List (Option Value)} (h : (zst i v lv)[j]? = some (some w)) : (j = i ∧ w = v) ∨ (j ≠ i ∧ lv[j]? = some (some w) ∧ ¬ (j + 1 = i ∧ w.category = 2)) := by
  cases i with
  | zero =>
    simp only [zst, List.getElem?_set] at h
    by_cases hj : 0 = j
    · subst hj
      simp only [if_true] at h
      split at h
      · simp at h; exact Or.inl ⟨rfl, h.symm⟩
      · simp at h
    · simp only [hj, if_false] at h
      exact Or.inr ⟨fun e => hj e.symm, h, fun e => by omega⟩
  | succ n =>
    by_cases hj : j = n + 1
    · subst hj
      refine Or.inl ⟨rfl, ?_⟩
      unfold zst at h
      simp only at h
      split at h <;> (simp only [List.getElem?_set, if_true, List.length_set] at h; split at h <;> simp at h; exact h.symm)
    · refine Or.inr ⟨hj, ?_⟩
      by_cases hn : j = n
      · subst hn
        unfold zst at h
        simp only at h
        split at h
        · simp [List.getElem?_set] at h
        · simp [List.getElem?_set] at h
        · rename_i h1 h2
          have h3 : lv[j]? = some (some w) := by simpa [List.getElem?_set] using h
          refine ⟨h3, fun e => ?_⟩
          cases w with
          | long x => exact h1 x h3
          | double x => exact h2 x h3
          | _ => simp [Value.category] at e
      · unfold zst at h
        simp only at h
        have hne : ¬ n + 1 = j := fun e => hj e.symm
        have hne2 : ¬ n = j := fun e => hn e.symm
        split at h <;> (simp only [List.getElem?_set, hne, hne2, if_false] at h; exact ⟨h, fun e => by omega⟩)
theorem zL_st {ρ : Nat → Nat} {ls' : Array Slot} {nL i : Nat} {lv : List (Option Value)} {v : Value} (h : lv_has ls' nL ((i, zV ρ v) :: (zA ρ lv).filter (fun q => !(q.1 == i) && !(q.1 + 1 == i && q.2.category == 2)))) : zL ρ ls' nL (zst i v lv) := by
  refine ⟨h.1, h.2.1, fun j w hj => ?_⟩
  rcases zst_get hj with ⟨rfl, rfl⟩ | ⟨h1, h2, h3⟩
  · exact h.2.2 (j, zV ρ w) List.mem_cons_self
  · refine h.2.2 (j, zV ρ w) (List.mem_cons_of_mem _ (List.mem_filter.mpr ⟨zA_mem h2, ?_⟩))
    simp only [zV_cat]
    simp [h1]
    by_cases e : j + 1 = i
    · exact Or.inr (fun c => h3 ⟨e, c⟩)
    · exact Or.inl e
theorem zst2_get {i j : Nat} {v w : Value} {lv : List (Option Value)} (h : (zst2 i v lv)[j]? = some (some w)) : j ≠ i + 1 ∧ (zst i v lv)[j]? = some (some w) := by
  unfold zst2 at h
  simp only [List.getElem?_set] at h
  by_cases hj : i + 1 = j
  · subst hj
    simp only [if_true] at h
    split at h <;> simp at h
  · simp only [hj, if_false] at h
    exact ⟨fun e => hj e.symm, h⟩
theorem zL_st2 {ρ : Nat → Nat} {ls' : Array Slot} {nL i : Nat} {lv : List (Option Value)} {v : Value} (h : lv_has ls' nL ((i, zV ρ v) :: (zA ρ lv).filter (fun q => !(q.1 == i) && (!(q.1 == i + 1) && !(q.1 + 1 == i && q.2.category == 2))))) : zL ρ ls' nL (zst2 i v lv) := by
  refine ⟨h.1, h.2.1, fun j w hj => ?_⟩
  obtain ⟨hj1, hj⟩ := zst2_get hj
  rcases zst_get hj with ⟨rfl, rfl⟩ | ⟨h1, h2, h3⟩
  · exact h.2.2 (j, zV ρ w) List.mem_cons_self
  · refine h.2.2 (j, zV ρ w) (List.mem_cons_of_mem _ (List.mem_filter.mpr ⟨zA_mem h2, ?_⟩))
    simp only [zV_cat]
    simp [h1, hj1]
    by_cases e : j + 1 = i
    · exact Or.inr (fun c => h3 ⟨e, c⟩)
    · exact Or.inl e
