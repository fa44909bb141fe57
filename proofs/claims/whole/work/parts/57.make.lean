/-! MAKING: what is made stands at the heap's end -/
def zOkE (n : Nat) (c : va_E) : Prop := match c with
  | .inl (_, _, .inr (.inr (.inr (.inr f)))) => ∀ i k, f i = some k → k < n
  | .inl _ => True
  | .inr (_, fs) => ∀ v ∈ fs, zOkV n v
def zOkH (n : Nat) (h : zH) : Prop := ∀ c ∈ h, zOkE n c
theorem zOkV_mono {n n' : Nat} (hn : n ≤ n') {v : Value} (h : zOkV n v) : zOkV n' v := by
  cases v with
  | ref k => exact h.imp_left (fun x => Nat.lt_of_lt_of_le x hn)
  | _ => trivial
theorem zOkE_mono {n n' : Nat} (hn : n ≤ n') {c : va_E} (h : zOkE n c) : zOkE n' c := by
  match c, h with
  | .inl (_, _, .inr (.inr (.inr (.inr f)))), h => exact fun i k e => Nat.lt_of_lt_of_le (h i k e) hn
  | .inl (_, _, .inl f), _ => trivial
  | .inl (_, _, .inr (.inl f)), _ => trivial
  | .inl (_, _, .inr (.inr (.inl f))), _ => trivial
  | .inl (_, _, .inr (.inr (.inr (.inl f)))), _ => trivial
  | .inr (_, fs), h => exact fun v hv => zOkV_mono hn (h v hv)
theorem zOkH_push {h : zH} {c : va_E} (hh : zOkH h.length h) (hc : zOkE (h.length + 1) c) : zOkH (h ++ [c]).length (h ++ [c]) := by
  rw [List.length_append]
  intro x hx
  rcases List.mem_append.mp hx with hx | hx
  · exact zOkE_mono (by simp) (hh x hx)
  · rw [List.mem_singleton.mp hx]; exact hc
theorem zOkH_set {h : zH} {c : va_E} {o : Nat} (hh : zOkH h.length h) (hc : zOkE h.length c) : zOkH (h.set o c).length (h.set o c) := by
  rw [List.length_set]
  intro x hx
  rcases List.mem_or_eq_of_mem_set hx with hx | hx
  · exact hh x hx
  · rw [hx]; exact hc
theorem zE_ag {ρ ρ' : Nat → Nat} {n : Nat} (hg : ∀ k, (k < n ∨ k = zS) → ρ' k = ρ k) {aC : Nat → ClassId} {c : va_E} (h : zOkE n c) : zE ρ' aC c = zE ρ aC c := by
  match c, h with
  | .inl (t, m, .inr (.inr (.inr (.inr f)))), h =>
    have : (fun i => (f i).map ρ') = (fun i => (f i).map ρ) := by
      funext i
      cases hf : f i with
      | none => rfl
      | some k => exact congrArg some (hg k (Or.inl (h i k hf)))
    exact congrArg (fun g => (Sum.inl (aC t, m, .inr (.inr (.inr (.inr g)))) : va_E)) this
  | .inl (_, _, .inl f), _ => rfl
  | .inl (_, _, .inr (.inl f)), _ => rfl
  | .inl (_, _, .inr (.inr (.inl f))), _ => rfl
  | .inl (_, _, .inr (.inr (.inr (.inl f)))), _ => rfl
  | .inr (ci, fs), h =>
    have : fs.map (zV ρ') = fs.map (zV ρ) := List.map_congr_left (fun v hv => by
      cases v with
      | ref k => exact congrArg Value.ref (hg k (h _ hv))
      | _ => rfl)
    exact congrArg (fun g => (Sum.inr (ci, g) : va_E)) this
theorem zC_ag {ρ ρ' : Nat → Nat} {aC : Nat → ClassId} {h : zH} (hg : ∀ k, (k < h.length ∨ k = zS) → ρ' k = ρ k) (hh : zOkH h.length h) : zC ρ' aC h = zC ρ aC h := by
  apply List.ext_getElem?
  intro i
  simp only [zC, List.getElem?_mapIdx]
  cases hi : h[i]? with
  | none => rfl
  | some c =>
    have hl : i < h.length := (List.getElem?_eq_some_iff.mp hi).1
    show some (ρ' i, zE ρ' aC c) = some (ρ i, zE ρ aC c)
    rw [hg i (Or.inl hl), zE_ag hg (hh c (List.mem_of_getElem? hi))]
theorem zC_push {ρ : Nat → Nat} {aC : Nat → ClassId} {h : zH} {c : va_E} : zC ρ aC (h ++ [c]) = zC ρ aC h ++ [(ρ h.length, zE ρ aC c)] := by
  simp [zC, List.mapIdx_append]
def zup (ρ : Nat → Nat) (n q : Nat) : Nat → Nat := fun k => if k = n then q else ρ k
theorem zup_ag {ρ : Nat → Nat} {n q : Nat} (hn : n < zS) : ∀ k, (k < n ∨ k = zS) → zup ρ n q k = ρ k := fun k hk => if_neg (by omega)
section ZM
variable {M N : zM} {rm rm' : Room} {mc ms mc' ms' : Nat} {scr : Option (Nat × (Nat → Int32))} {Q Q' : Option Value → zH → Prop} {pc : Nat} {lv : List (Option Value)} {st : List Value} {h : zH} {ce sl : Nat}
/-- what must be known of places before something is made -/
def zOk (h : zH) (lv : List (Option Value)) (st : List Value) : Prop := h.length < zS ∧ zOkL h.length lv ∧ zOkS h.length st ∧ zOkH h.length h
theorem zpush {pc' ce' sl' : Nat} {c0 : va_E} (ho : zOk h lv st) (k : zJ M rm true mc ms scr Q pc' lv (.ref h.length :: st) (h ++ [c0]) ce' sl') {p : Program} {l : Launch} {e : Env} {s : State} {m : MethodId} {args : Array Value} {below : List Frame} {meth : Method} {c : Code} {D : va_G} {aC : Nat → ClassId} {ρ : Nat → Nat} {locs : List Loc} {A : Nat → Prop} {Z : State → Prop} {ls : Array Slot}
    (X : zX M scr p s m args meth c D aC A (ρ zS)) (hl : zL ρ ls M.2.2.1 lv)
    (hZ : ∀ (ρ' : Nat → Nat) (H' : Heap) (locs' : List Loc) (ls' : Array Slot) (pc' : Nat) (ri : Instr) (v : Option Value) (h' : zH), Q v h' → zAg true h.length h'.length ρ ρ' → va_P D vwCl (zC ρ' aC h') H' → va_D A (zC ρ' aC h') → va_S A s.heap H' locs' → decode M.2.1 pc' = .ok (ri, 1) → zRet M.2.2.2 ri v → W p l e rm s m args below meth c H' locs' mc ms Z (F0 m pc' ls' (v.toList.map (zV ρ'))))
    {q : Nat} {H1 : Heap} {e0 : va_E} (he : zE (zup ρ h.length q) aC c0 = e0) (hP : va_P D vwCl (zC ρ aC h ++ [(q, e0)]) H1) (hD : va_D A (zC ρ aC h ++ [(q, e0)])) (hS : va_S A s.heap H1 locs) : W p l e rm s m args below meth c H1 locs ce' sl' Z (F0 m pc' ls (.ref q :: st.map (zV ρ))) := by
  obtain ⟨hn, hoL, hoS, hoH⟩ := ho
  have hg := zup_ag (ρ := ρ) (q := q) hn
  have hag : zAg true h.length h.length ρ (zup ρ h.length q) := ⟨fun x => by (cases x), Nat.le_refl _, hg⟩
  have hzs : zup ρ h.length q zS = ρ zS := hg zS (Or.inr rfl)
  have hzn : zup ρ h.length q h.length = q := if_pos rfl
  have hC : zC (zup ρ h.length q) aC (h ++ [c0]) = zC ρ aC h ++ [(q, e0)] := by rw [zC_push, zC_ag hg hoH, hzn, he]
  have hk := k p l e s m args below meth c D aC (zup ρ h.length q) H1 locs A Z ls (by rw [hzs]; exact X) (zL_ag hag hoL hl) (by rw [hC]; exact hP) (by rw [hC]; exact hD) hS (fun ρ' H' locs' ls' pc' ri v h' a b => hZ ρ' H' locs' ls' pc' ri v h' a ⟨fun x => by (cases x), by have := b.2.1; rw [List.length_append] at this; exact Nat.le_trans (Nat.le_add_right _ _) this, fun k hk => by
    rw [b.2.2 k (by rw [List.length_append]; exact hk.imp_left (fun x => Nat.lt_of_lt_of_le x (Nat.le_add_right _ _))), hg k hk]⟩)
  rw [List.map_cons, zS_ag hag hoS] at hk
  have hv : zV (zup ρ h.length q) (.ref h.length) = .ref q := congrArg Value.ref hzn
  rw [hv] at hk
  exact hk
theorem zj_new {ci n idx : Nat} {C : String} {T : u_T} {fs : List Value} (ty : Nat → FieldType) (hd : decode M.2.1 pc = .ok (.new idx, 3)) (hin : ∀ w ∈ u_ws C T n, w ∈ zT) (hty : ∀ k, k < n → parseFieldDescriptor (T k).2.2.1 = some (ty k)) (hc : vwCl[ci]? = some (C, T, n)) (hcl : Cond.classLink M.1.cls idx C ∈ zT) (hinst : Cond.instantiable C n ∈ zT) (hini : Cond.initialized C ∈ zT) (hfs : ∀ j, j < n → defaultValue (ty j) = vp_V fs j) (hfz : ∀ ρ, fs.map (zV ρ) = fs) (hcs : ce + 1 ≤ rm.cells ∧ sl + n ≤ rm.slots) (ho : zOk h lv st) (k : zJ M rm true mc ms scr Q (pc + 3) lv (.ref h.length :: st) (h ++ [.inr (ci, fs)]) (ce + 1) (sl + n)) : zJ M rm true mc ms scr Q pc lv st h ce sl := by
  intro p l e s m args below meth c D aC ρ H locs A Z ls X hl hP hD hS hZ
  refine va_new X.1 X.2.1 X.2.2.2.2.1 hin ty hty X.2.2.2.1 (X.2.2.2.2.1 _ hcl) (X.2.2.2.2.1 _ hinst) (X.2.2.2.2.1 _ hini) X.2.2.2.2.2.1 hP hD hS X.2.2.2.2.2.2.1 hc hfs hcs.1 hcs.2 hd (fun q H1 hP1 hD1 hS1 => ?_)
  exact zpush ho k X hl hZ (congrArg (fun g => (Sum.inr (ci, g) : va_E)) (hfz _)) hP1 hD1 hS1
theorem zj_newa {t n : Nat} {ty : FieldType} {a0 : vp_A} {atype : ArrayType} (hd : decode M.2.1 pc = .ok (.newarray atype, 2)) (harr : Cond.arrayClass (newarray.typeOf atype) ∈ zT) (hty : newarray.typeOf atype = ty) (hT : ∀ aC, (zTy aC)[t]? = some (aC t, ty)) (hra : ∀ (U : State) (x : ClassId), va_RA U x ty → U.vm.findClass ("[" ++ ty.toString) = some x) (hz : ∀ ρ aC, zE ρ aC (.inl (t, a0)) = .inl (aC t, a0)) (ha : ∀ cA : ClassId, vp_cell cA a0 = arrV cA n (fun _ => defaultValue ty)) (hn : n < 2 ^ 31) (hb : n * componentBytes ty ≤ 536870912) (hcs : ce + 1 ≤ rm.cells ∧ sl + n ≤ rm.slots) (ho : zOk h lv st) (k : zJ M rm true mc ms scr Q (pc + 2) lv (.ref h.length :: st) (h ++ [.inl (t, a0)]) (ce + 1) (sl + n)) : zJ M rm true mc ms scr Q pc lv (.int (nI n) :: st) h ce sl := by
  intro p l e s m args below meth c D aC ρ H locs A Z ls X hl hP hD hS hZ
  refine va_newa (n := nI n) (N' := n) X.1 X.2.1 (X.2.2.2.2.1 _ harr) hty X.2.2.2.2.2.1 hP hD hS X.2.2.2.2.2.2.1 ha (nI_pos hn) (nI_clamp hn) hb hcs.1 hcs.2 hd (fun q cA H1 hK1 hP1 hD1 hS1 => ?_)
  have h1 := hra s _ (X.2.2.2.2.2.1.2 t _ (hT aC)).2
  have h2 := hra s _ (hK1.2 6 (cA, ty) rfl).2
  rw [h1] at h2
  obtain rfl : aC t = cA := Option.some.inj h2
  exact zpush ho k X hl hZ (hz _ _) hP1 hD1 hS1
theorem zj_newI {n : Nat} (hd : decode M.2.1 pc = .ok (.newarray .int, 2)) (hn : n ≤ 1000) (hcs : ce + 1 ≤ rm.cells ∧ sl + n ≤ rm.slots) (ho : zOk h lv st) (k : zJ M rm true mc ms scr Q (pc + 2) lv (.ref h.length :: st) (h ++ [.inl (1, n, .inl (fun _ => 0))]) (ce + 1) (sl + n)) : zJ M rm true mc ms scr Q pc lv (.int (nI n) :: st) h ce sl :=
  zj_newa (t := 1) (ty := .int) (a0 := (n, .inl (fun _ => 0))) hd zq_91 rfl (fun _ => rfl) (fun _ _ x => x) (fun _ _ => rfl) (fun _ => rfl) (by omega) (by show n * 4 ≤ _; omega) hcs ho k
theorem zj_newB {n : Nat} (hd : decode M.2.1 pc = .ok (.newarray .byte, 2)) (hn : n ≤ 1000) (hcs : ce + 1 ≤ rm.cells ∧ sl + n ≤ rm.slots) (ho : zOk h lv st) (k : zJ M rm true mc ms scr Q (pc + 2) lv (.ref h.length :: st) (h ++ [.inl (0, n, .inl (fun _ => 0))]) (ce + 1) (sl + n)) : zJ M rm true mc ms scr Q pc lv (.int (nI n) :: st) h ce sl :=
  zj_newa (t := 0) (ty := .byte) (a0 := (n, .inl (fun _ => 0))) hd zq_90 rfl (fun _ => rfl) (fun _ _ x => x) (fun _ _ => rfl) (fun _ => rfl) (by omega) (by show n * 1 ≤ _; omega) hcs ho k
theorem zj_newJ {n : Nat} (hd : decode M.2.1 pc = .ok (.newarray .long, 2)) (hn : n ≤ 1000) (hcs : ce + 1 ≤ rm.cells ∧ sl + n ≤ rm.slots) (ho : zOk h lv st) (k : zJ M rm true mc ms scr Q (pc + 2) lv (.ref h.length :: st) (h ++ [.inl (2, n, .inr (.inl (fun _ => 0)))]) (ce + 1) (sl + n)) : zJ M rm true mc ms scr Q pc lv (.int (nI n) :: st) h ce sl :=
  zj_newa (t := 2) (ty := .long) (a0 := (n, .inr (.inl (fun _ => 0)))) hd zq_105 rfl (fun _ => rfl) (fun _ _ x => x) (fun _ _ => rfl) (fun _ => rfl) (by omega) (by show n * 8 ≤ _; omega) hcs ho k
theorem zj_newq {t n idx : Nat} {C : String} (hd : decode M.2.1 pc = .ok (.anewarray idx, 3)) (hcl : Cond.classLink M.1.cls idx C ∈ zT) (hov : ∀ s, zN s → va_AO C s) (hT : ∀ aC, (zTy aC)[t]? = some (aC t, .object C)) (hn : n ≤ 1000) (hcs : ce + 1 ≤ rm.cells ∧ sl + n ≤ rm.slots) (ho : zOk h lv st) (k : zJ M rm true mc ms scr Q (pc + 3) lv (.ref h.length :: st) (h ++ [.inl (t, n, .inr (.inr (.inr (.inr (fun _ => none)))))]) (ce + 1) (sl + n)) : zJ M rm true mc ms scr Q pc lv (.int (nI n) :: st) h ce sl := by
  intro p l e s m args below meth c D aC ρ H locs A Z ls X hl hP hD hS hZ
  refine va_newq (n := nI n) (N' := n) X.1 X.2.1 X.2.2.2.1 (X.2.2.2.2.1 _ hcl) (hov s X.2.2.2.2.2.2.2.2.1) X.2.2.2.2.2.1 hP hD hS X.2.2.2.2.2.2.1 (nI_pos (by omega)) (nI_clamp (by omega)) (by omega) hcs.1 hcs.2 hd (fun q cA H1 hK1 hP1 hD1 hS1 => ?_)
  obtain ⟨-, -, -, -, -, h1⟩ := (X.2.2.2.2.2.1.2 t _ (hT aC)).2
  obtain ⟨-, -, -, -, -, h2⟩ := (hK1.2 6 (cA, .object C) rfl).2
  rw [h1] at h2
  obtain rfl : aC t = cA := Option.some.inj h2
  exact zpush ho k X hl hZ rfl hP1 hD1 hS1
theorem zj_objInit {idx o : Nat} {al : Bool} (hd : decode M.2.1 pc = .ok (.invokespecial idx, 3)) (hw : Cond.methodLink M.1.cls idx Lib.objectInit ∈ zT) (hst : (st.map Value.category).sum ≤ 8) (hr : 1 ≤ rm.frames ∧ 20 ≤ rm.locals) (k : zJ M rm al mc ms scr Q (pc + 3) lv st h ce sl) : zJ M rm al mc ms scr Q pc lv (.ref o :: st) h ce sl := by
  intro p l e s m args below meth c D aC ρ H locs A Z ls X hl hP hD hS hZ
  refine W.objInit (g := F0 m pc ls ((.ref o :: st).map (zV ρ))) (a := ρ o) (rest := st.map (zV ρ)) X.1 X.2.1 X.2.2.2.1 (X.2.2.2.2.1 _ hw) (X.2.2.2.2.1 _ zq_59) (X.2.2.2.2.1 _ zq_60) rfl (hl.1.trans X.2.2.1.symm) rfl hd hr.1 ?_ (k p l e s m args below meth c D aC ρ H locs A Z ls X hl hP hD hS hZ)
  have h0 := hr.2
  show 2 * 0 + ((st.map (zV ρ)).map fun v => v.category).sum + 12 ≤ rm.locals
  rw [zcats]
  omega
set_option maxHeartbeats 1000000 in
/-- behind a call that makes something -/
theorem zj_behindA {p : Program} {l : Launch} {e : Env} {s : State} {m : MethodId} {args : Array Value} {below : List Frame} {meth : Method} {c : Code} {D : va_G} {aC : Nat → ClassId} {ρ : Nat → Nat} {H : Heap} {locs : List Loc} {A : Nat → Prop} {Z : State → Prop} {ls : Array Slot} {st0 : List Value}
    (X : zX M scr p s m args meth c D aC A (ρ zS)) (hl : zL ρ ls M.2.2.1 lv) (hD : va_D A (zC ρ aC h)) (hS : va_S A s.heap H locs)
    (hZ : ∀ (ρ' : Nat → Nat) (H' : Heap) (locs' : List Loc) (ls' : Array Slot) (pc' : Nat) (ri : Instr) (v : Option Value) (h' : zH), Q v h' → zAg true h.length h'.length ρ ρ' → va_P D vwCl (zC ρ' aC h') H' → va_D A (zC ρ' aC h') → va_S A s.heap H' locs' → decode M.2.1 pc' = .ok (ri, 1) → zRet M.2.2.2 ri v → W p l e rm s m args below meth c H' locs' mc ms Z (F0 m pc' ls' (v.toList.map (zV ρ'))))
    (hoL : zOkL h.length lv) (hoS : zOkS h.length st)
    (hr : va_Run p l e rm s m args below meth c H locs ce sl mc' ms' (F0 m pc ls st0) (st.map (zV ρ)) (fun st oc t => (∃ (v : Option Value) (h' : zH) (ρ' : Nat → Nat), oc = .returned (v.map (zV ρ')) ∧ Q' v h' ∧ zAg true h.length h'.length ρ ρ' ∧ va_P D vwCl (zC ρ' aC h') t.heap ∧ va_D (va_A (zC ρ aC h) H.size) (zC ρ' aC h')) ∧ va_F (va_A (zC ρ aC h) H.size) st t) (va_A (zC ρ aC h) H.size))
    (kk : ∀ v h', Q' v h' → zJ M rm true mc ms scr Q (pc + 3) lv (v.toList ++ st) h' (ce + mc') (sl + ms')) : W p l e rm s m args below meth c H locs ce sl Z (F0 m pc ls st0) := by
  have hF := zA_free (D := D) hD hS X.2.2.2.2.2.2.1
  refine zcall (mc := mc') (ms := ms') (rest := st.map (zV ρ)) (Qb := fun v t => ∃ (v' : Option Value) (h' : zH) (ρ' : Nat → Nat), v = v'.map (zV ρ') ∧ Q' v' h' ∧ zAg true h.length h'.length ρ ρ' ∧ va_P D vwCl (zC ρ' aC h') t.heap ∧ va_D (va_A (zC ρ aC h) H.size) (zC ρ' aC h')) ?_ hS hF ?_
  · intro T hT XX
    obtain ⟨v, st₀, t, T', L, h0, X', hL, e1, e2, ⟨⟨v', h', ρ', hv, hq, hg, hP', hD'⟩, hF'⟩, stt⟩ := hr T hT XX
    exact ⟨v, st₀, t, T', L, h0, X', hL, e1, e2, ⟨⟨v, rfl, v', h', ρ', by cases hv; rfl, hq, hg, hP', hD'⟩, hF'⟩, stt⟩
  · rintro v t H1 locs1 ht hvm ⟨v', h', ρ', rfl, hq, hg, hP', hD'⟩ hS1
    rw [ht] at hP'
    have hzs : ρ' zS = ρ zS := hg.2.2 zS (Or.inr rfl)
    have hk := kk v' h' hq p l e s m args below meth c D aC ρ' H1 locs1 A Z ls (by rw [hzs]; exact X) (zL_ag hg hoL hl) hP' (hD'.weaken (fun _ _ _ q => hF _ q)) hS1 (fun ρ2 H' locs' ls' pc' ri v h'' a b => hZ ρ2 H' locs' ls' pc' ri v h'' a ⟨fun x => by (cases x), Nat.le_trans hg.2.1 b.2.1, fun k hk => by
      rw [b.2.2 k (hk.imp_left (fun x => Nat.lt_of_lt_of_le x hg.2.1)), hg.2.2 k hk]⟩)
    rw [List.map_append, zS_ag hg hoS] at hk
    cases v' <;> exact hk
/-- what a call of a maker needs -/
def zCi (M N : zM) (rm rm' : Room) (mc' ms' : Nat) : Prop := N.1.name = "<init>" ∧ N.2.2.2 = none ∧ Cond.instanceMethod N.1 ∈ zT ∧ Cond.initialized N.1.cls ∈ zT ∧ Cond.code N.1 N.2.1 N.2.2.1 N.2.2.2 ∈ zT ∧ rm'.cells = mc' ∧ rm'.slots = ms' ∧ (N.1.cls ≠ "java/lang/invoke/MethodHandle" ∧ N.1.cls ≠ "java/lang/invoke/VarHandle" ∧ (parseMethodDescriptor N.1.desc).map (fun d => d.parameters.length) = some 0) ∧ (rm'.frames + 1 ≤ rm.frames ∧ 8 + (N.2.2.1 + 11) + rm'.locals ≤ rm.locals)
set_option maxHeartbeats 1000000 in
theorem zj_callI {o idx : Nat} (hd : decode M.2.1 pc = .ok (.invokespecial idx, 3)) (hlk : Cond.methodLink M.1.cls idx N.1 ∈ zT) (hw : zCi M N rm rm' mc' ms') (hC : zMet N rm' true mc' ms' [.ref o] h Q') (hst : (st.map Value.category).sum ≤ 8) (hcs : ce + mc' ≤ rm.cells ∧ sl + ms' ≤ rm.slots) (hoL : zOkL h.length lv) (hoS : zOkS h.length st)
    (kk : ∀ v h', Q' v h' → zJ M rm true mc ms scr Q (pc + 3) lv (v.toList ++ st) h' (ce + mc') (sl + ms')) : zJ M rm true mc ms scr Q pc lv (.ref o :: st) h ce sl := by
  intro p l e s m args below meth c D aC ρ H locs A Z ls X hl hP hD hS hZ
  refine zj_behindA X hl hD hS hZ hoL hoS ?_ kk
  obtain ⟨hnm, hret, hinst, hini, hcode, hrc, hrs, hdsc, hfr⟩ := hw
  have hn := hC l D aC ρ H.size
  rw [hret] at hn hcode
  exact va_runI (As := []) (n := 0) (b := ρ o) ⟨X.1, X.2.1, X.2.2.1, X.2.2.2.1, X.2.2.2.2.1⟩ hn ⟨callB_of 0 X.2.2.2.2.1 (zws_good (fun _ h => h) hcode) rfl hrc hrs (X.2.2.2.2.1 _ hini) (X.2.2.2.2.1 _ hlk) hdsc hfr, hnm, X.2.2.2.2.1 _ hinst⟩ ⟨zblind, fun U hU hW => zpre (As := [.ref o]) hP X.2.2.2.2.2.1 hD X.2.2.2.2.2.2.2.2.1 U hU hW⟩ rfl rfl hl.1 rfl (lv_room (by rw [zcats]; exact hst)) hd ⟨hcs.1, hcs.2⟩
set_option maxHeartbeats 1000000 in
theorem zj_callN {o idx : Nat} (hd : decode M.2.1 pc = .ok (.invokespecial idx, 3)) (hlk : ∀ s, zN s → va_Nw (.methodLinkNest M.1.cls idx N.1 RX7) s) (hw : zCi M N rm rm' mc' ms') (hC : zMet N rm' true mc' ms' [.ref o] h Q') (hst : (st.map Value.category).sum ≤ 8) (hcs : ce + mc' ≤ rm.cells ∧ sl + ms' ≤ rm.slots) (hoL : zOkL h.length lv) (hoS : zOkS h.length st)
    (kk : ∀ v h', Q' v h' → zJ M rm true mc ms scr Q (pc + 3) lv (v.toList ++ st) h' (ce + mc') (sl + ms')) : zJ M rm true mc ms scr Q pc lv (.ref o :: st) h ce sl := by
  intro p l e s m args below meth c D aC ρ H locs A Z ls X hl hP hD hS hZ
  refine zj_behindA X hl hD hS hZ hoL hoS ?_ kk
  obtain ⟨hnm, hret, hinst, hini, hcode, hrc, hrs, hdsc, hfr⟩ := hw
  have hn := hC l D aC ρ H.size
  rw [hret] at hn hcode
  exact va_runIN (As := []) (n := 0) (b := ρ o) ⟨X.1, X.2.1, X.2.2.1, X.2.2.2.1, X.2.2.2.2.1⟩ hn ⟨va_cnB 0 X.2.2.2.2.1 (zws_good (fun _ h => h) hcode) rfl hrc hrs (hlk s X.2.2.2.2.2.2.2.2.1) (X.2.2.2.2.1 _ hini) hdsc hfr, hnm, X.2.2.2.2.1 _ hinst⟩ ⟨zblind, fun U hU hW => zpre (As := [.ref o]) hP X.2.2.2.2.2.1 hD X.2.2.2.2.2.2.2.2.1 U hU hW⟩ rfl rfl hl.1 rfl (lv_room (by rw [zcats]; exact hst)) hd ⟨hcs.1, hcs.2⟩
end ZM
