/-! CONTRACTS AND CALLS -/
def zMet (M : zM) (rm : Room) (al : Bool) (mc ms : Nat) (As : List Value) (h : zH) (Q : Option Value → zH → Prop) : Prop :=
  ∀ (l : Launch) (D : va_G) (aC : Nat → ClassId) (ρ : Nat → Nat) (sz : Nat), Met l M.1 (zws M.1 M.2.1 M.2.2.1 M.2.2.2) rm
    (va_Pc (As.map (zV ρ)) (fun U => U.heap.size = sz ∧ va_P D vwCl (zC ρ aC h) U.heap ∧ va_K D vwCl (zTy aC) U ∧ va_D (fun _ => True) (zC ρ aC h) ∧ zN U))
    (fun _ st oc t => (∃ (v : Option Value) (h' : zH) (ρ' : Nat → Nat), oc = .returned (v.map (zV ρ')) ∧ Q v h' ∧ zAg al h.length h'.length ρ ρ' ∧ va_P D vwCl (zC ρ' aC h') t.heap ∧ va_D (va_A (zC ρ aC h) sz) (zC ρ' aC h')) ∧ va_F (va_A (zC ρ aC h) sz) st t)
    mc ms (va_A (zC ρ aC h) sz)
/-- the locals at a method's entry -/
def zfl (As : List Value) : List (Option Value) := As.flatMap (fun v => if v.category = 2 then [some v, none] else [some v])
def zent (nL : Nat) (As : List Value) : List (Option Value) := zfl As ++ List.replicate (nL - (zfl As).length) none
theorem zfl_cons (v : Value) (vs : List Value) : zfl (v :: vs) = (if v.category = 2 then [some v, none] else [some v]) ++ zfl vs := rfl
theorem zfl_args (ρ : Nat → Nat) : ∀ (As : List Value) (o i : Nat) (v : Value), (zfl As)[i]? = some (some v) → (o + i, zV ρ v) ∈ lv_args o (As.map (zV ρ))
  | [], _, _, _, h => by simp [zfl] at h
  | w :: ws, o, i, v, h => by
    rw [zfl_cons] at h
    rw [List.map_cons]
    unfold lv_args
    rw [zV_cat]
    by_cases hc : w.category = 2
    · simp only [hc, if_true] at h ⊢
      match i, h with
      | 0, h => simp at h; subst h; exact List.mem_cons_self
      | 1, h => simp at h
      | j + 2, h =>
        have h2 : (zfl ws)[j]? = some (some v) := by simpa using h
        have := zfl_args ρ ws (o + 2) j v h2
        have e : o + (j + 2) = o + 2 + j := by omega
        rw [e]
        exact List.mem_cons_of_mem _ this
    · simp only [hc, if_false] at h ⊢
      match i, h with
      | 0, h => simp at h; subst h; exact List.mem_cons_self
      | j + 1, h =>
        have h2 : (zfl ws)[j]? = some (some v) := by simpa using h
        have := zfl_args ρ ws (o + 1) j v h2
        have e : o + (j + 1) = o + 1 + j := by omega
        rw [e]
        exact List.mem_cons_of_mem _ this
theorem zfl_len (ρ : Nat → Nat) : ∀ (As : List Value), (lg_sl (As.map (zV ρ))).length = (zfl As).length
  | [] => rfl
  | w :: ws => by
    have ih := zfl_len ρ ws
    unfold lg_sl zfl at ih ⊢
    simp only [List.map_cons, List.flatMap_cons, List.length_append, zV_cat]
    rw [ih]
    by_cases hc : w.category = 2 <;> simp [hc]
theorem zL_ent {ρ : Nat → Nat} {ls : Array Slot} {nL : Nat} {As : List Value} (h : lv_has ls nL (lv_args 0 (As.map (zV ρ)))) : zL ρ ls nL (zent nL As) := by
  refine ⟨h.1, h.2.1, fun i v hi => ?_⟩
  unfold zent at hi
  by_cases hl : i < (zfl As).length
  · rw [List.getElem?_append_left hl] at hi
    have := zfl_args ρ As 0 i v hi
    rw [Nat.zero_add] at this
    exact h.2.2 _ this
  · rw [List.getElem?_append_right (Nat.le_of_not_lt hl), List.getElem?_replicate] at hi
    split at hi <;> simp at hi
theorem zN_vm {u U : State} (h : u.vm = U.vm) (hz : zN u) : zN U := by
  obtain ⟨h1, h2, h3, h4, h5, h6, h7, h8, h9, h10⟩ := hz
  refine ⟨va_Nw.same rfl h h1, va_Nw.same rfl h h2, va_Nw.same rfl h h3, va_Nw.same rfl h h4, va_Nw.same rfl h h5, va_Nw.same rfl h h6, va_Nw.same rfl h h7, ?_, ?_, ?_⟩
  · exact va_AO.moved (by rw [h]; exact Vm.Alike.refl _) h8
  · exact va_AO.moved (by rw [h]; exact Vm.Alike.refl _) h9
  · exact va_AO.moved (by rw [h]; exact Vm.Alike.refl _) h10
theorem zN_warm {s U : State} (hW : s.WarmedH U.vm) (hz : zN s) : zN U := by
  obtain ⟨h1, h2, h3, h4, h5, h6, h7, h8, h9, h10⟩ := hz
  exact ⟨va_Nw.warmM hW h1, va_Nw.warmM hW h2, va_Nw.warmM hW h3, va_Nw.warmM hW h4, va_Nw.warmM hW h5, va_Nw.warmM hW h6, va_Nw.warmM hW h7, va_AO.moved hW.alike h8, va_AO.moved hW.alike h9, va_AO.moved hW.alike h10⟩
/-- as Met.ofW, of a method that is plain in a class that isn't -/
theorem zofW {l : Launch} {y : MethodName} {ws ws' : List Cond} {rm : Room} {Pc : Array Value → State → Prop} {Qc : Array Value → State → Outcome → State → Prop} {mc ms : Nat} {free : Addr → Prop} {cc : ByteArray} {maxL : Nat} {ret : Option FieldType}
    (hy : plainFor y = true) (hw : ws = Cond.code y cc maxL ret :: ws')
    (body : ∀ p e s m args below meth c s₁, BodyLoose p l y (headSpec ws rm) cc maxL ret e s m args below meth c s₁ → c.maxLocals = maxL → Pc args s →
      W p l e (headSpec ws rm).room s m args below meth c s.heap [] 0 0 (MQ below Qc args s mc ms free) (entryFrame m args maxL)) : Met l y ws rm Pc Qc mc ms free := by
  refine MetFree.of_bodySF (code := cc) (maxLocals := maxL) (ret := ret) hy ?_ ?_
  · intro args s m h hn
    obtain ⟨meth, c, h1, h2, h3, h4, h5, h6, -, -⟩ := Cond.code_spec hn (atoms_spec (ws := ws) h _ (by rw [hw]; exact List.mem_cons_self))
    exact ⟨meth, c, h1, h2, h3, h4, h5, h6⟩
  · intro p e s m args below meth c s₁ B hml hP _
    have hh0 : s₁.heap = s.heap := by rw [B.state]; rfl
    obtain ⟨t, a1, o, b1, b2, b3⟩ := body p e s m args below meth c s₁ B hml hP s₁ hh0 (Stand.of_body B)
    exact ⟨t, o, a1, b1, b2, ⟨b3.1, b3.2⟩⟩
set_option maxHeartbeats 1000000 in
/-- a contract out of a walk -/
theorem zMet_of {M : zM} {rm : Room} {al : Bool} {mc ms : Nat} {As : List Value} {h : zH} {Q : Option Value → zH → Prop} (hy : plainFor M.1 = true) (hn : (zfl As).length ≤ M.2.2.1) (hJ : zJ M rm al mc ms none Q 0 (zent M.2.2.1 As) [] h 0 0) : zMet M rm al mc ms As h Q := by
  intro l D aC ρ sz
  refine zofW (cc := M.2.1) (maxL := M.2.2.1) (ret := M.2.2.2) hy rfl ?_
  intro p e s m args below meth c s₁ B hml hv
  obtain ⟨rfl, hsz, hP, hK, hD0, hN⟩ := hv
  have hts := atoms_spec (ws := zws M.1 M.2.1 M.2.2.1 M.2.2.2) B.pre
  have hown : s.vm.findClass M.1.cls = some m.cls := findClass_of_methodNamed B.named
  have hlocks := B.notSynchronized
  have hin : M.1.name = "<init>" → meth.name = "<init>" := fun hh => by rw [← hh]; exact (name_of_methodNamed B.named B.method).1
  subst hsz
  have hD := hD0.self (sz := s.heap.size)
  have hS : va_S (va_A (zC ρ aC h) s.heap.size) s.heap s.heap [] := va_S.rf
  have hl := lv_entry (As.map (zV ρ)) (n := M.2.2.1) (by rw [zfl_len]; exact hn)
  rw [lg_entry_eq]
  refine hJ p l e s m _ below meth c D aC ρ s.heap [] (va_A (zC ρ aC h) s.heap.size) _ _ ⟨B.exec, B.bytes, hml, hown, fun w hw => hts w (List.mem_cons_of_mem _ hw), hK, fun q hq => Or.inr hq, hin, hN, fun L xs hh => by cases hh⟩ (zL_ent hl) hP hD hS ?_
  intro ρ' H' locs' ls' pc' ri v h' hQ hAg hP' hD' hS' hd hr
  rcases hr with ⟨rfl, ty, x, hr, rfl, hnar⟩ | ⟨rfl, hr, x, rfl⟩ | ⟨rfl, ⟨n, hr⟩, hv⟩ | ⟨rfl, hr, rfl⟩
  · exact W.zret B.exec B.bytes (by rw [B.returns]; exact hr) hnar (fun t ht hW => ⟨⟨_, h', ρ', rfl, hQ, hAg, by rw [ht]; exact hP', hD'⟩, hS'.F ht⟩) hS'.2.2 hd
  · exact W.lret B.exec B.bytes (by rw [B.returns]; exact hr) (fun t ht hW => ⟨⟨_, h', ρ', rfl, hQ, hAg, by rw [ht]; exact hP', hD'⟩, hS'.F ht⟩) hS'.2.2 hd
  · rcases hv with ⟨a, rfl⟩ | rfl
    · exact W.aret B.exec B.bytes (by rw [B.returns]; exact hr) (Or.inl ⟨n, rfl⟩) (Or.inr ⟨ρ' a, rfl⟩) (fun t ht hW => ⟨⟨some (.ref a), h', ρ', rfl, hQ, hAg, by rw [ht]; exact hP', hD'⟩, hS'.F ht⟩) hS'.2.2 hd
    · exact W.aret B.exec B.bytes (by rw [B.returns]; exact hr) (Or.inl ⟨n, rfl⟩) (Or.inl rfl) (fun t ht hW => ⟨⟨some .null, h', ρ', rfl, hQ, hAg, by rw [ht]; exact hP', hD'⟩, hS'.F ht⟩) hS'.2.2 hd
  · exact W.vret B.exec B.bytes (by rw [B.returns]; exact hr) (fun t ht hW => ⟨⟨none, h', ρ', rfl, hQ, hAg, by rw [ht]; exact hP', hD'⟩, hS'.F ht⟩) hS'.2.2 hd
theorem zMet_mono {M : zM} {rm : Room} {al : Bool} {mc ms : Nat} {As : List Value} {h : zH} {Q Q' : Option Value → zH → Prop} (hJ : zJ M rm al mc ms none Q 0 (zent M.2.2.1 As) [] h 0 0) (hq : ∀ v h', Q v h' → Q' v h') : zJ M rm al mc ms none Q' 0 (zent M.2.2.1 As) [] h 0 0 := by
  intro p l e s m args below meth c D aC ρ H locs A Z ls X hl hP hD hS hZ
  exact hJ p l e s m args below meth c D aC ρ H locs A Z ls X hl hP hD hS (fun ρ' H' locs' ls' pc' ri v h' a => hZ ρ' H' locs' ls' pc' ri v h' (hq v h' a))
/-- behind a call: the callee's whole outcome -/
theorem zcall {p : Program} {l : Launch} {e : Env} {R : Room} {s : State} {m : MethodId} {args : Array Value} {below : List Frame} {meth : Method} {c : Code} {H : Heap} {locs : List Loc} {cells slots : Nat} {Z : State → Prop} {pc : Nat} {ls : Array Slot} {rest st0 : List Value} {A0 A1 : Nat → Prop} {H0 : Heap} {mc ms : Nat} {Qb : Option Value → State → Prop}
    (hr : va_Run p l e R s m args below meth c H locs cells slots mc ms (F0 m pc ls st0) rest (fun st oc t => (∃ v, oc = .returned v ∧ Qb v t) ∧ va_F A1 st t) A1) (hS : va_S A0 H0 H locs) (hA : ∀ q, A1 q → A0 q)
    (kk : ∀ (v : Option Value) (t : State) (H1 : Heap) (locs1 : List Loc), t.heap = H1 → s.vm.Alike t.vm → Qb v t → va_S A0 H0 H1 locs1 → W p l e R s m args below meth c H1 locs1 (cells + mc) (slots + ms) Z (F0 m (pc + 3) ls (v.toList ++ rest))) : W p l e R s m args below meth c H locs cells slots Z (F0 m pc ls st0) := by
  intro T hT X
  obtain ⟨v, st₀, t, T', L, h0, X', hL, e1, e2, ⟨⟨r, hv, hb⟩, hz, hk⟩, st⟩ := hr T hT X
  cases hv
  rw [h0] at hz hk
  obtain ⟨t2, a1, b1⟩ := kk v t T'.heap (locs ++ L) e1.symm (by rw [← e2]; exact X'.warmed.alike) hb
    ⟨Nat.le_trans hS.1 (by rw [e1]; exact hz), fun q h1 h2 => by rw [e1, hk q (Nat.lt_of_lt_of_le h1 hS.1) (fun z => h2 (hA q z))]; exact hS.2.1 q h1 h2, fun q hq => by
      rcases List.mem_append.mp hq with h | h
      · exact hS.2.2 q h
      · exact hA _ (hL q h)⟩ T' rfl X'
  exact ⟨t2, st t2 a1, b1⟩
theorem zblind {As : List Value} {D : va_G} {aC : Nat → ClassId} {ρ : Nat → Nat} {h : zH} {sz : Nat} : FrameBlind (va_Pc (As.map (zV ρ)) (fun U => U.heap.size = sz ∧ va_P D vwCl (zC ρ aC h) U.heap ∧ va_K D vwCl (zTy aC) U ∧ va_D (fun _ => True) (zC ρ aC h) ∧ zN U)) :=
  fun a U g mk q => by
    obtain ⟨q0, q1, qP, qK, qD, qN⟩ := q
    exact ⟨q0, q1, qP, va_K.moved (u := U) (U := U.calling g mk a) (Vm.Alike.refl U.vm) qK, qD, zN_vm (u := U) (U := U.calling g mk a) rfl qN⟩
theorem zA_free {A0 : Nat → Prop} {D : va_G} {ws : va_W} {H0 H : Heap} {locs : List Loc} (hD : va_D A0 ws) (hS : va_S A0 H0 H locs) (hA : ∀ q, H0.size ≤ q → A0 q) : ∀ q, va_A ws H.size q → A0 q := by
  intro q hq
  rcases hq with ⟨k, ee, hk⟩ | hq
  · exact hD.2 k _ hk
  · exact hA q (Nat.le_trans hS.1 hq)
theorem zcats (ρ : Nat → Nat) (st : List Value) : ((st.map (zV ρ)).map fun v => v.category) = st.map Value.category := by
  rw [List.map_map]
  congr 1
  funext v
  exact zV_cat ρ v
/-- of a value or a heap that knows only places below n (and the script) -/
def zOkV (n : Nat) (v : Value) : Prop := match v with
  | .ref k => k < n ∨ k = zS
  | _ => True
def zOkL (n : Nat) (lv : List (Option Value)) : Prop := ∀ (i : Nat) (v : Value), lv[i]? = some (some v) → zOkV n v
def zOkS (n : Nat) (st : List Value) : Prop := ∀ v ∈ st, zOkV n v
theorem zV_ag {al : Bool} {n n' : Nat} {ρ ρ' : Nat → Nat} (hg : zAg al n n' ρ ρ') {v : Value} (hv : zOkV n v) : zV ρ' v = zV ρ v := by
  cases v with
  | ref k => exact congrArg Value.ref (hg.2.2 k hv)
  | _ => rfl
theorem zL_ag {al : Bool} {n n' : Nat} {ρ ρ' : Nat → Nat} (hg : zAg al n n' ρ ρ') {ls : Array Slot} {nL : Nat} {lv : List (Option Value)} (ho : zOkL n lv) (hl : zL ρ ls nL lv) : zL ρ' ls nL lv :=
  ⟨hl.1, hl.2.1, fun i v hi => by rw [zV_ag hg (ho i v hi)]; exact hl.2.2 i v hi⟩
theorem zS_ag {al : Bool} {n n' : Nat} {ρ ρ' : Nat → Nat} (hg : zAg al n n' ρ ρ') {st : List Value} (ho : zOkS n st) : st.map (zV ρ') = st.map (zV ρ) := List.map_congr_left (fun v hv => zV_ag hg (ho v hv))
section ZC
variable {M N : zM} {rm rm' : Room} {al : Bool} {mc ms mc' ms' : Nat} {scr : Option (Nat × (Nat → Int32))} {Q Q' : Option Value → zH → Prop} {pc : Nat} {lv : List (Option Value)} {st As : List Value} {h : zH} {ce sl : Nat}
/-- what every call needs: words and room -/
def zCw (M N : zM) (rm rm' : Room) (mc' ms' n idx : Nat) : Prop := Cond.methodLink M.1.cls idx N.1 ∈ zT ∧ Cond.initialized N.1.cls ∈ zT ∧ Cond.code N.1 N.2.1 N.2.2.1 N.2.2.2 ∈ zT ∧ rm'.cells = mc' ∧ rm'.slots = ms' ∧ (N.1.cls ≠ "java/lang/invoke/MethodHandle" ∧ N.1.cls ≠ "java/lang/invoke/VarHandle" ∧ (parseMethodDescriptor N.1.desc).map (fun d => d.parameters.length) = some n) ∧ (rm'.frames + 1 ≤ rm.frames ∧ 8 + (N.2.2.1 + 11) + rm'.locals ≤ rm.locals)
theorem zCw.of {n idx : Nat} (hw : zCw M N rm rm' mc' ms' n idx) {s : State} {args : Array Value} (hts : ∀ w ∈ zT, w.before args s = true) : CallB rm s args M.1.cls idx N.1 N.2.1 N.2.2.1 N.2.2.2 (zws N.1 N.2.1 N.2.2.1 N.2.2.2) rm' mc' ms' n := by
  obtain ⟨h1, h2, h3, h4, h5, h6, h7⟩ := hw
  exact callB_of n hts (zws_good (fun _ h => h) h3) rfl h4 h5 (hts _ h2) (hts _ h1) h6 h7
/-- what a callee finds -/
theorem zpre {D : va_G} {aC : Nat → ClassId} {ρ : Nat → Nat} {A : Nat → Prop} {s : State} {H : Heap} (hP : va_P D vwCl (zC ρ aC h) H) (hK : va_K D vwCl (zTy aC) s) (hD : va_D A (zC ρ aC h)) (hN : zN s) (U : State) (hU : U.heap = H) (hW : s.WarmedH U.vm) : va_Pc (As.map (zV ρ)) (fun U => U.heap.size = H.size ∧ va_P D vwCl (zC ρ aC h) U.heap ∧ va_K D vwCl (zTy aC) U ∧ va_D (fun _ => True) (zC ρ aC h) ∧ zN U) (As.map (zV ρ)).toArray U :=
  ⟨rfl, by rw [hU], by rw [hU]; exact hP, va_K.moved hW.alike hK, hD.weaken (fun _ _ _ _ => trivial), zN_warm hW hN⟩
set_option maxHeartbeats 1000000 in
/-- behind a call of a method that makes nothing -/
theorem zj_behind {p : Program} {l : Launch} {e : Env} {s : State} {m : MethodId} {args : Array Value} {below : List Frame} {meth : Method} {c : Code} {D : va_G} {aC : Nat → ClassId} {ρ : Nat → Nat} {H : Heap} {locs : List Loc} {A : Nat → Prop} {Z : State → Prop} {ls : Array Slot} {st0 : List Value}
    (X : zX M scr p s m args meth c D aC A (ρ zS)) (hl : zL ρ ls M.2.2.1 lv) (hD : va_D A (zC ρ aC h)) (hS : va_S A s.heap H locs)
    (hZ : ∀ (ρ' : Nat → Nat) (H' : Heap) (locs' : List Loc) (ls' : Array Slot) (pc' : Nat) (ri : Instr) (v : Option Value) (h' : zH), Q v h' → zAg al h.length h'.length ρ ρ' → va_P D vwCl (zC ρ' aC h') H' → va_D A (zC ρ' aC h') → va_S A s.heap H' locs' → decode M.2.1 pc' = .ok (ri, 1) → zRet M.2.2.2 ri v → W p l e rm s m args below meth c H' locs' mc ms Z (F0 m pc' ls' (v.toList.map (zV ρ'))))
    (hr : va_Run p l e rm s m args below meth c H locs ce sl 0 0 (F0 m pc ls st0) (st.map (zV ρ)) (fun st oc t => (∃ (v : Option Value) (h' : zH) (ρ' : Nat → Nat), oc = .returned (v.map (zV ρ')) ∧ Q' v h' ∧ zAg false h.length h'.length ρ ρ' ∧ va_P D vwCl (zC ρ' aC h') t.heap ∧ va_D (va_A (zC ρ aC h) H.size) (zC ρ' aC h')) ∧ va_F (va_A (zC ρ aC h) H.size) st t) (va_A (zC ρ aC h) H.size))
    (kk : ∀ v h', Q' v h' → h'.length = h.length → zJ M rm al mc ms scr Q (pc + 3) lv (v.toList ++ st) h' ce sl) : W p l e rm s m args below meth c H locs ce sl Z (F0 m pc ls st0) := by
  have hF := zA_free (D := D) hD hS X.2.2.2.2.2.2.1
  refine zcall (mc := 0) (ms := 0) (rest := st.map (zV ρ)) (Qb := fun v t => ∃ (v' : Option Value) (h' : zH), v = v'.map (zV ρ) ∧ Q' v' h' ∧ h'.length = h.length ∧ va_P D vwCl (zC ρ aC h') t.heap ∧ va_D (va_A (zC ρ aC h) H.size) (zC ρ aC h')) ?_ hS hF ?_
  · intro T hT XX
    obtain ⟨v, st₀, t, T', L, h0, X', hL, e1, e2, ⟨⟨v', h', ρ', hv, hq, hg, hP', hD'⟩, hF'⟩, stt⟩ := hr T hT XX
    obtain ⟨rfl, hlen⟩ := hg.1 rfl
    exact ⟨v, st₀, t, T', L, h0, X', hL, e1, e2, ⟨⟨v, rfl, v', h', by cases hv; rfl, hq, hlen, hP', hD'⟩, hF'⟩, stt⟩
  · rintro v t H1 locs1 ht hvm ⟨v', h', rfl, hq, hlen, hP', hD'⟩ hS1
    rw [ht] at hP'
    have hk := kk v' h' hq hlen p l e s m args below meth c D aC ρ H1 locs1 A Z ls X hl hP' (hD'.weaken (fun _ _ _ q => hF _ q)) hS1 (fun ρ' H' locs' ls' pc' ri v h'' a b => hZ ρ' H' locs' ls' pc' ri v h'' a (by rw [hlen] at b; exact b))
    rw [List.map_append] at hk
    cases v' <;> exact hk
set_option maxHeartbeats 1000000 in
/-- invokevirtual of a method that makes nothing -/
theorem zj_callV {o ci idx : Nat} {fs : List Value} {r : vw_C} (hd : decode M.2.1 pc = .ok (.invokevirtual idx, 3)) (hw : zCw M N rm rm' 0 0 As.length idx) (hi : Cond.instanceMethod N.1 ∈ zT) (hs : Cond.selects N.1.cls N.1 N.1 ∈ zT) (hc : vwCl[ci]? = some r) (hr : r.1 = N.1.cls) (he : h[o]? = some (.inr (ci, fs))) (hC : zMet N rm' false 0 0 (.ref o :: As) h Q') (hst : (st.map Value.category).sum ≤ 8) (hcs : ce ≤ rm.cells ∧ sl ≤ rm.slots)
    (kk : ∀ v h', Q' v h' → h'.length = h.length → zJ M rm al mc ms scr Q (pc + 3) lv (v.toList ++ st) h' ce sl) : zJ M rm al mc ms scr Q pc lv (As.reverse ++ .ref o :: st) h ce sl := by
  intro p l e s m args below meth c D aC ρ H locs A Z ls X hl hP hD hS hZ
  refine zj_behind X hl hD hS hZ ?_ kk
  have hn := hC l D aC ρ H.size
  have hrc := va_recv X.2.2.2.2.2.1 hP hc (zC_get he)
  rw [hr] at hrc
  exact va_runV (As := As.map (zV ρ)) (n := As.length) ⟨X.1, X.2.1, X.2.2.1, X.2.2.2.1, X.2.2.2.2.1⟩ hn ⟨hw.of X.2.2.2.2.1, X.2.2.2.2.1 _ hi, X.2.2.2.2.1 _ hs⟩ ⟨zblind, hrc, fun U hU hW => zpre (As := .ref o :: As) hP X.2.2.2.2.2.1 hD X.2.2.2.2.2.2.2.2.1 U hU hW⟩ rfl (List.length_map _) hl.1 (by simp [List.map_append, List.map_reverse, zV]) (lv_room (by rw [zcats]; exact hst)) hd ⟨hcs.1, hcs.2⟩
set_option maxHeartbeats 1000000 in
/-- invokestatic of a method that makes nothing -/
theorem zj_callS {idx : Nat} (hd : decode M.2.1 pc = .ok (.invokestatic idx, 3)) (hw : zCw M N rm rm' 0 0 As.length idx) (hi : Cond.static N.1 ∈ zT) (hC : zMet N rm' false 0 0 As h Q') (hst : (st.map Value.category).sum ≤ 8) (hcs : ce ≤ rm.cells ∧ sl ≤ rm.slots)
    (kk : ∀ v h', Q' v h' → h'.length = h.length → zJ M rm al mc ms scr Q (pc + 3) lv (v.toList ++ st) h' ce sl) : zJ M rm al mc ms scr Q pc lv (As.reverse ++ st) h ce sl := by
  intro p l e s m args below meth c D aC ρ H locs A Z ls X hl hP hD hS hZ
  refine zj_behind X hl hD hS hZ ?_ kk
  have hn := hC l D aC ρ H.size
  exact va_runS (As := As.map (zV ρ)) (n := As.length) ⟨X.1, X.2.1, X.2.2.1, X.2.2.2.1, X.2.2.2.2.1⟩ hn ⟨hw.of X.2.2.2.2.1, X.2.2.2.2.1 _ hi⟩ ⟨zblind, fun U hU hW => zpre hP X.2.2.2.2.2.1 hD X.2.2.2.2.2.2.2.2.1 U hU hW⟩ rfl (List.length_map _) hl.1 (by simp [List.map_append, List.map_reverse]) (lv_room (by rw [zcats]; exact hst)) hd ⟨hcs.1, hcs.2⟩
end ZC
