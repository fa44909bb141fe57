section LW
variable {h : zH} {L i : Nat} {xs : Nat → Int32}
theorem zl_ld {M : zM} {rm : Room} {al : Bool} {mc ms : Nat} {Q : Option Value → zH → Prop} {pc k ce sl : Nat} {lv : List (Option Value)} {st : List Value} (hd : decode M.2.1 pc = .ok (.iaload, 1)) (hk : k < L ∧ L < 2 ^ 31) (kk : zJ M rm al mc ms (some (L, xs)) Q (pc + 1) lv (.int (xs k) :: st) h ce sl) : zJ M rm al mc ms (some (L, xs)) Q pc lv (.int (nI k) :: .ref zS :: st) h ce sl :=
  zj_sld hd rfl (vp_in_nI hk.1 hk.2) (by rw [nI_clamp (by omega)]; exact kk)
set_option maxRecDepth 20000 in
theorem l_limb (inv : s_I h) (hi : i + 6 ≤ L) (hL : L ≤ 3072) (K : ∀ h', s_I h' → zLw L xs 1419 [some (.ref zS), some (.ref 0), some (.ref 47), some (.int (nI i))] [] h' 64 2319) : zLw L xs 180 [some (.ref zS), some (.ref 0), some (.ref 47), some (.int (nI i))] [] h 64 2319 := by
  obtain ⟨v, h1, h2, z1, z2, i2, fs8, e8⟩ := o_limb inv (xs (i + 1)) (xs (i + 2)) (xs (i + 3))
  obtain ⟨fs7, e7⟩ : ∃ fs, h[0]? = some (.inr (7, fs)) := by
    obtain ⟨C, P, S, T, H, O, g, w, r, rm⟩ := inv
    exact s_7 r
  refine zj_aload_n dL_law_180 (by rfl) ?_
  refine zj_aload_n dL_law_181 (by rfl) ?_
  refine zj_iload_n dL_law_182 (by rfl) ?_
  refine zj_iconst (v := nI 1) dL_law_183 (by decide) ?_
  refine zj_iaddN dL_law_184 ?_
  refine zl_ld dL_law_185 (by omega) ?_
  refine zj_aload_n dL_law_186 (by rfl) ?_
  refine zj_iload_n dL_law_187 (by rfl) ?_
  refine zj_iconst (v := nI 2) dL_law_188 (by decide) ?_
  refine zj_iaddN dL_law_189 ?_
  refine zl_ld dL_law_190 (by omega) ?_
  refine zj_aload_n dL_law_191 (by rfl) ?_
  refine zj_iload_n dL_law_192 (by rfl) ?_
  refine zj_iconst (v := nI 3) dL_law_193 (by decide) ?_
  refine zj_iaddN dL_law_194 ?_
  refine zl_ld dL_law_195 (by omega) ?_
  refine zj_callV (As := [.int (xs (i + 1)), .int (xs (i + 2)), .int (xs (i + 3))]) (N := mX7_limb) (rm' := rmD 1) dL_law_196 ⟨zq_215, zq_42, mw_X7_limb, rfl, rfl, by show mX7_limb.1.cls ≠ "java/lang/invoke/MethodHandle" ∧ mX7_limb.1.cls ≠ "java/lang/invoke/VarHandle" ∧ (parseMethodDescriptor mX7_limb.1.desc).map (fun d => d.parameters.length) = some 3; decide +kernel, by decide, by decide⟩ zq_216 zq_217 rfl rfl e7 z1 (by exact Nat.le_of_ble_eq_true rfl) ⟨by decide, by decide⟩ (fun v h' hq _ => ?_)
  obtain ⟨rfl, rfl⟩ := hq
  show zLw L xs 199 [some (.ref zS), some (.ref 0), some (.ref 47), some (.int (nI i))] [.int v] _ 64 2319
  refine zj_aload_n dL_law_199 (by rfl) ?_
  refine zj_aload_n dL_law_200 (by rfl) ?_
  refine zj_iload_n dL_law_201 (by rfl) ?_
  refine zj_iconst (v := nI 1) dL_law_202 (by decide) ?_
  refine zj_iaddN dL_law_203 ?_
  refine zl_ld dL_law_204 (by omega) ?_
  refine zj_aload_n dL_law_205 (by rfl) ?_
  refine zj_iload_n dL_law_206 (by rfl) ?_
  refine zj_iconst (v := nI 2) dL_law_207 (by decide) ?_
  refine zj_iaddN dL_law_208 ?_
  refine zl_ld dL_law_209 (by omega) ?_
  refine zj_aload_n dL_law_210 (by rfl) ?_
  refine zj_iload_n dL_law_211 (by rfl) ?_
  refine zj_iconst (v := nI 3) dL_law_212 (by decide) ?_
  refine zj_iaddN dL_law_213 ?_
  refine zl_ld dL_law_214 (by omega) ?_
  refine zj_callV (As := [.int (xs (i + 1)), .int (xs (i + 2)), .int (xs (i + 3))]) (N := mX8_limb) (rm' := rmD 2) dL_law_215 ⟨zq_676, zq_50, mw_X8_limb, rfl, rfl, by show mX8_limb.1.cls ≠ "java/lang/invoke/MethodHandle" ∧ mX8_limb.1.cls ≠ "java/lang/invoke/VarHandle" ∧ (parseMethodDescriptor mX8_limb.1.desc).map (fun d => d.parameters.length) = some 3; decide +kernel, by decide, by decide⟩ zq_677 zq_678 rfl rfl e8 z2 (by exact Nat.le_of_ble_eq_true rfl) ⟨by decide, by decide⟩ (fun v h' hq _ => ?_)
  obtain ⟨rfl, rfl⟩ := hq
  show zLw L xs 218 [some (.ref zS), some (.ref 0), some (.ref 47), some (.int (nI i))] [.int v, .int v] _ 64 2319
  refine zj_icmp_eq (tgt := 1419) dL_law_218 (by decide) (fun _ => ?_) (fun zq => absurd rfl zq)
  exact K _ i2
set_option maxRecDepth 20000 in
theorem l_isOf (inv : s_I h) (hi : i + 6 ≤ L) (hL : L ≤ 3072) (K : ∀ h', s_I h' → zLw L xs 1419 [some (.ref zS), some (.ref 0), some (.ref 47), some (.int (nI i))] [] h' 64 2319) : zLw L xs 223 [some (.ref zS), some (.ref 0), some (.ref 47), some (.int (nI i))] [] h 64 2319 := by
  obtain ⟨v, h1, h2, z1, z2, i2, fs8, e8⟩ := o_isOf inv (xs (i + 1)) (xs (i + 2)) (xs (i + 3))
  obtain ⟨fs7, e7⟩ : ∃ fs, h[0]? = some (.inr (7, fs)) := by
    obtain ⟨C, P, S, T, H, O, g, w, r, rm⟩ := inv
    exact s_7 r
  refine zj_aload_n dL_law_223 (by rfl) ?_
  refine zj_aload_n dL_law_224 (by rfl) ?_
  refine zj_iload_n dL_law_225 (by rfl) ?_
  refine zj_iconst (v := nI 1) dL_law_226 (by decide) ?_
  refine zj_iaddN dL_law_227 ?_
  refine zl_ld dL_law_228 (by omega) ?_
  refine zj_aload_n dL_law_229 (by rfl) ?_
  refine zj_iload_n dL_law_230 (by rfl) ?_
  refine zj_iconst (v := nI 2) dL_law_231 (by decide) ?_
  refine zj_iaddN dL_law_232 ?_
  refine zl_ld dL_law_233 (by omega) ?_
  refine zj_aload_n dL_law_234 (by rfl) ?_
  refine zj_iload_n dL_law_235 (by rfl) ?_
  refine zj_iconst (v := nI 3) dL_law_236 (by decide) ?_
  refine zj_iaddN dL_law_237 ?_
  refine zl_ld dL_law_238 (by omega) ?_
  refine zj_callV (As := [.int (xs (i + 1)), .int (xs (i + 2)), .int (xs (i + 3))]) (N := mX7_isOf) (rm' := rmD 2) dL_law_239 ⟨zq_232, zq_42, mw_X7_isOf, rfl, rfl, by show mX7_isOf.1.cls ≠ "java/lang/invoke/MethodHandle" ∧ mX7_isOf.1.cls ≠ "java/lang/invoke/VarHandle" ∧ (parseMethodDescriptor mX7_isOf.1.desc).map (fun d => d.parameters.length) = some 3; decide +kernel, by decide, by decide⟩ zq_233 zq_234 rfl rfl e7 z1 (by exact Nat.le_of_ble_eq_true rfl) ⟨by decide, by decide⟩ (fun v h' hq _ => ?_)
  obtain ⟨rfl, rfl⟩ := hq
  show zLw L xs 242 [some (.ref zS), some (.ref 0), some (.ref 47), some (.int (nI i))] [.int v] _ 64 2319
  refine zj_aload_n dL_law_242 (by rfl) ?_
  refine zj_aload_n dL_law_243 (by rfl) ?_
  refine zj_iload_n dL_law_244 (by rfl) ?_
  refine zj_iconst (v := nI 1) dL_law_245 (by decide) ?_
  refine zj_iaddN dL_law_246 ?_
  refine zl_ld dL_law_247 (by omega) ?_
  refine zj_aload_n dL_law_248 (by rfl) ?_
  refine zj_iload_n dL_law_249 (by rfl) ?_
  refine zj_iconst (v := nI 2) dL_law_250 (by decide) ?_
  refine zj_iaddN dL_law_251 ?_
  refine zl_ld dL_law_252 (by omega) ?_
  refine zj_aload_n dL_law_253 (by rfl) ?_
  refine zj_iload_n dL_law_254 (by rfl) ?_
  refine zj_iconst (v := nI 3) dL_law_255 (by decide) ?_
  refine zj_iaddN dL_law_256 ?_
  refine zl_ld dL_law_257 (by omega) ?_
  refine zj_callV (As := [.int (xs (i + 1)), .int (xs (i + 2)), .int (xs (i + 3))]) (N := mX8_isOf) (rm' := rmD 2) dL_law_258 ⟨zq_688, zq_50, mw_X8_isOf, rfl, rfl, by show mX8_isOf.1.cls ≠ "java/lang/invoke/MethodHandle" ∧ mX8_isOf.1.cls ≠ "java/lang/invoke/VarHandle" ∧ (parseMethodDescriptor mX8_isOf.1.desc).map (fun d => d.parameters.length) = some 3; decide +kernel, by decide, by decide⟩ zq_689 zq_690 rfl rfl e8 z2 (by exact Nat.le_of_ble_eq_true rfl) ⟨by decide, by decide⟩ (fun v h' hq _ => ?_)
  obtain ⟨rfl, rfl⟩ := hq
  show zLw L xs 261 [some (.ref zS), some (.ref 0), some (.ref 47), some (.int (nI i))] [.int v, .int v] _ 64 2319
  refine zj_icmp_eq (tgt := 1419) dL_law_261 (by decide) (fun _ => ?_) (fun zq => absurd rfl zq)
  exact K _ i2
set_option maxRecDepth 20000 in
theorem l_clear (inv : s_I h) (hi : i + 6 ≤ L) (hL : L ≤ 3072) (K : ∀ h', s_I h' → zLw L xs 1419 [some (.ref zS), some (.ref 0), some (.ref 47), some (.int (nI i))] [] h' 64 2319) : zLw L xs 266 [some (.ref zS), some (.ref 0), some (.ref 47), some (.int (nI i))] [] h 64 2319 := by
  obtain ⟨v, h1, h2, z1, z2, i2, fs8, e8⟩ := o_clear inv (xs (i + 1))
  obtain ⟨fs7, e7⟩ : ∃ fs, h[0]? = some (.inr (7, fs)) := by
    obtain ⟨C, P, S, T, H, O, g, w, r, rm⟩ := inv
    exact s_7 r
  refine zj_aload_n dL_law_266 (by rfl) ?_
  refine zj_aload_n dL_law_267 (by rfl) ?_
  refine zj_iload_n dL_law_268 (by rfl) ?_
  refine zj_iconst (v := nI 1) dL_law_269 (by decide) ?_
  refine zj_iaddN dL_law_270 ?_
  refine zl_ld dL_law_271 (by omega) ?_
  refine zj_callV (As := [.int (xs (i + 1))]) (N := mX7_clear) (rm' := rmD 1) dL_law_272 ⟨zq_243, zq_42, mw_X7_clear, rfl, rfl, by show mX7_clear.1.cls ≠ "java/lang/invoke/MethodHandle" ∧ mX7_clear.1.cls ≠ "java/lang/invoke/VarHandle" ∧ (parseMethodDescriptor mX7_clear.1.desc).map (fun d => d.parameters.length) = some 1; decide +kernel, by decide, by decide⟩ zq_244 zq_245 rfl rfl e7 z1 (by exact Nat.le_of_ble_eq_true rfl) ⟨by decide, by decide⟩ (fun v h' hq _ => ?_)
  obtain ⟨rfl, rfl⟩ := hq
  show zLw L xs 275 [some (.ref zS), some (.ref 0), some (.ref 47), some (.int (nI i))] [.int v] _ 64 2319
  refine zj_aload_n dL_law_275 (by rfl) ?_
  refine zj_aload_n dL_law_276 (by rfl) ?_
  refine zj_iload_n dL_law_277 (by rfl) ?_
  refine zj_iconst (v := nI 1) dL_law_278 (by decide) ?_
  refine zj_iaddN dL_law_279 ?_
  refine zl_ld dL_law_280 (by omega) ?_
  refine zj_callV (As := [.int (xs (i + 1))]) (N := mX8_clear) (rm' := rmD 2) dL_law_281 ⟨zq_692, zq_50, mw_X8_clear, rfl, rfl, by show mX8_clear.1.cls ≠ "java/lang/invoke/MethodHandle" ∧ mX8_clear.1.cls ≠ "java/lang/invoke/VarHandle" ∧ (parseMethodDescriptor mX8_clear.1.desc).map (fun d => d.parameters.length) = some 1; decide +kernel, by decide, by decide⟩ zq_693 zq_694 rfl rfl e8 z2 (by exact Nat.le_of_ble_eq_true rfl) ⟨by decide, by decide⟩ (fun v h' hq _ => ?_)
  obtain ⟨rfl, rfl⟩ := hq
  show zLw L xs 284 [some (.ref zS), some (.ref 0), some (.ref 47), some (.int (nI i))] [.int v, .int v] _ 64 2319
  refine zj_icmp_eq (tgt := 1419) dL_law_284 (by decide) (fun _ => ?_) (fun zq => absurd rfl zq)
  exact K _ i2
set_option maxRecDepth 20000 in
theorem l_length (inv : s_I h) (hi : i + 6 ≤ L) (hL : L ≤ 3072) (K : ∀ h', s_I h' → zLw L xs 1419 [some (.ref zS), some (.ref 0), some (.ref 47), some (.int (nI i))] [] h' 64 2319) : zLw L xs 289 [some (.ref zS), some (.ref 0), some (.ref 47), some (.int (nI i))] [] h 64 2319 := by
  obtain ⟨v, h1, h2, z1, z2, i2, fs8, e8⟩ := o_length inv (xs (i + 1))
  obtain ⟨fs7, e7⟩ : ∃ fs, h[0]? = some (.inr (7, fs)) := by
    obtain ⟨C, P, S, T, H, O, g, w, r, rm⟩ := inv
    exact s_7 r
  refine zj_aload_n dL_law_289 (by rfl) ?_
  refine zj_aload_n dL_law_290 (by rfl) ?_
  refine zj_iload_n dL_law_291 (by rfl) ?_
  refine zj_iconst (v := nI 1) dL_law_292 (by decide) ?_
  refine zj_iaddN dL_law_293 ?_
  refine zl_ld dL_law_294 (by omega) ?_
  refine zj_callV (As := [.int (xs (i + 1))]) (N := mX7_length) (rm' := rmD 1) dL_law_295 ⟨zq_247, zq_42, mw_X7_length, rfl, rfl, by show mX7_length.1.cls ≠ "java/lang/invoke/MethodHandle" ∧ mX7_length.1.cls ≠ "java/lang/invoke/VarHandle" ∧ (parseMethodDescriptor mX7_length.1.desc).map (fun d => d.parameters.length) = some 1; decide +kernel, by decide, by decide⟩ zq_248 zq_249 rfl rfl e7 z1 (by exact Nat.le_of_ble_eq_true rfl) ⟨by decide, by decide⟩ (fun v h' hq _ => ?_)
  obtain ⟨rfl, rfl⟩ := hq
  show zLw L xs 298 [some (.ref zS), some (.ref 0), some (.ref 47), some (.int (nI i))] [.int v] _ 64 2319
  refine zj_aload_n dL_law_298 (by rfl) ?_
  refine zj_aload_n dL_law_299 (by rfl) ?_
  refine zj_iload_n dL_law_300 (by rfl) ?_
  refine zj_iconst (v := nI 1) dL_law_301 (by decide) ?_
  refine zj_iaddN dL_law_302 ?_
  refine zl_ld dL_law_303 (by omega) ?_
  refine zj_callV (As := [.int (xs (i + 1))]) (N := mX8_length) (rm' := rmD 2) dL_law_304 ⟨zq_696, zq_50, mw_X8_length, rfl, rfl, by show mX8_length.1.cls ≠ "java/lang/invoke/MethodHandle" ∧ mX8_length.1.cls ≠ "java/lang/invoke/VarHandle" ∧ (parseMethodDescriptor mX8_length.1.desc).map (fun d => d.parameters.length) = some 1; decide +kernel, by decide, by decide⟩ zq_697 zq_698 rfl rfl e8 z2 (by exact Nat.le_of_ble_eq_true rfl) ⟨by decide, by decide⟩ (fun v h' hq _ => ?_)
  obtain ⟨rfl, rfl⟩ := hq
  show zLw L xs 307 [some (.ref zS), some (.ref 0), some (.ref 47), some (.int (nI i))] [.int v, .int v] _ 64 2319
  refine zj_icmp_eq (tgt := 1419) dL_law_307 (by decide) (fun _ => ?_) (fun zq => absurd rfl zq)
  exact K _ i2
set_option maxRecDepth 20000 in
theorem l_handling (inv : s_I h) (hi : i + 6 ≤ L) (hL : L ≤ 3072) (K : ∀ h', s_I h' → zLw L xs 1419 [some (.ref zS), some (.ref 0), some (.ref 47), some (.int (nI i))] [] h' 64 2319) : zLw L xs 312 [some (.ref zS), some (.ref 0), some (.ref 47), some (.int (nI i))] [] h 64 2319 := by
  obtain ⟨v, h1, h2, z1, z2, i2, fs8, e8⟩ := o_handling inv (xs (i + 1)) (xs (i + 2))
  obtain ⟨fs7, e7⟩ : ∃ fs, h[0]? = some (.inr (7, fs)) := by
    obtain ⟨C, P, S, T, H, O, g, w, r, rm⟩ := inv
    exact s_7 r
  refine zj_aload_n dL_law_312 (by rfl) ?_
  refine zj_aload_n dL_law_313 (by rfl) ?_
  refine zj_iload_n dL_law_314 (by rfl) ?_
  refine zj_iconst (v := nI 1) dL_law_315 (by decide) ?_
  refine zj_iaddN dL_law_316 ?_
  refine zl_ld dL_law_317 (by omega) ?_
  refine zj_aload_n dL_law_318 (by rfl) ?_
  refine zj_iload_n dL_law_319 (by rfl) ?_
  refine zj_iconst (v := nI 2) dL_law_320 (by decide) ?_
  refine zj_iaddN dL_law_321 ?_
  refine zl_ld dL_law_322 (by omega) ?_
  refine zj_callV (As := [.int (xs (i + 1)), .int (xs (i + 2))]) (N := mX7_handling) (rm' := rmD 3) dL_law_323 ⟨zq_255, zq_42, mw_X7_handling, rfl, rfl, by show mX7_handling.1.cls ≠ "java/lang/invoke/MethodHandle" ∧ mX7_handling.1.cls ≠ "java/lang/invoke/VarHandle" ∧ (parseMethodDescriptor mX7_handling.1.desc).map (fun d => d.parameters.length) = some 2; decide +kernel, by decide, by decide⟩ zq_256 zq_257 rfl rfl e7 z1 (by exact Nat.le_of_ble_eq_true rfl) ⟨by decide, by decide⟩ (fun v h' hq _ => ?_)
  obtain ⟨rfl, rfl⟩ := hq
  show zLw L xs 326 [some (.ref zS), some (.ref 0), some (.ref 47), some (.int (nI i))] [.int v] _ 64 2319
  refine zj_aload_n dL_law_326 (by rfl) ?_
  refine zj_aload_n dL_law_327 (by rfl) ?_
  refine zj_iload_n dL_law_328 (by rfl) ?_
  refine zj_iconst (v := nI 1) dL_law_329 (by decide) ?_
  refine zj_iaddN dL_law_330 ?_
  refine zl_ld dL_law_331 (by omega) ?_
  refine zj_aload_n dL_law_332 (by rfl) ?_
  refine zj_iload_n dL_law_333 (by rfl) ?_
  refine zj_iconst (v := nI 2) dL_law_334 (by decide) ?_
  refine zj_iaddN dL_law_335 ?_
  refine zl_ld dL_law_336 (by omega) ?_
  refine zj_callV (As := [.int (xs (i + 1)), .int (xs (i + 2))]) (N := mX8_handling) (rm' := rmD 2) dL_law_337 ⟨zq_704, zq_50, mw_X8_handling, rfl, rfl, by show mX8_handling.1.cls ≠ "java/lang/invoke/MethodHandle" ∧ mX8_handling.1.cls ≠ "java/lang/invoke/VarHandle" ∧ (parseMethodDescriptor mX8_handling.1.desc).map (fun d => d.parameters.length) = some 2; decide +kernel, by decide, by decide⟩ zq_705 zq_706 rfl rfl e8 z2 (by exact Nat.le_of_ble_eq_true rfl) ⟨by decide, by decide⟩ (fun v h' hq _ => ?_)
  obtain ⟨rfl, rfl⟩ := hq
  show zLw L xs 340 [some (.ref zS), some (.ref 0), some (.ref 47), some (.int (nI i))] [.int v, .int v] _ 64 2319
  refine zj_icmp_eq (tgt := 1419) dL_law_340 (by decide) (fun _ => ?_) (fun zq => absurd rfl zq)
  exact K _ i2
set_option maxRecDepth 20000 in
theorem l_feed (inv : s_I h) (hi : i + 6 ≤ L) (hL : L ≤ 3072) (K : ∀ h', s_I h' → zLw L xs 1419 [some (.ref zS), some (.ref 0), some (.ref 47), some (.int (nI i))] [] h' 64 2319) : zLw L xs 345 [some (.ref zS), some (.ref 0), some (.ref 47), some (.int (nI i))] [] h 64 2319 := by
  obtain ⟨v, h1, h2, z1, z2, i2, fs8, e8⟩ := o_feed inv (xs (i + 1)) (xs (i + 2)) (xs (i + 3))
  obtain ⟨fs7, e7⟩ : ∃ fs, h[0]? = some (.inr (7, fs)) := by
    obtain ⟨C, P, S, T, H, O, g, w, r, rm⟩ := inv
    exact s_7 r
  refine zj_aload_n dL_law_345 (by rfl) ?_
  refine zj_aload_n dL_law_346 (by rfl) ?_
  refine zj_iload_n dL_law_347 (by rfl) ?_
  refine zj_iconst (v := nI 1) dL_law_348 (by decide) ?_
  refine zj_iaddN dL_law_349 ?_
  refine zl_ld dL_law_350 (by omega) ?_
  refine zj_aload_n dL_law_351 (by rfl) ?_
  refine zj_iload_n dL_law_352 (by rfl) ?_
  refine zj_iconst (v := nI 2) dL_law_353 (by decide) ?_
  refine zj_iaddN dL_law_354 ?_
  refine zl_ld dL_law_355 (by omega) ?_
  refine zj_aload_n dL_law_356 (by rfl) ?_
  refine zj_iload_n dL_law_357 (by rfl) ?_
  refine zj_iconst (v := nI 3) dL_law_358 (by decide) ?_
  refine zj_iaddN dL_law_359 ?_
  refine zl_ld dL_law_360 (by omega) ?_
  refine zj_callV (As := [.int (xs (i + 1)), .int (xs (i + 2)), .int (xs (i + 3))]) (N := mX7_feed) (rm' := rmD 1) dL_law_361 ⟨zq_268, zq_42, mw_X7_feed, rfl, rfl, by show mX7_feed.1.cls ≠ "java/lang/invoke/MethodHandle" ∧ mX7_feed.1.cls ≠ "java/lang/invoke/VarHandle" ∧ (parseMethodDescriptor mX7_feed.1.desc).map (fun d => d.parameters.length) = some 3; decide +kernel, by decide, by decide⟩ zq_269 zq_270 rfl rfl e7 z1 (by exact Nat.le_of_ble_eq_true rfl) ⟨by decide, by decide⟩ (fun v h' hq _ => ?_)
  obtain ⟨rfl, rfl⟩ := hq
  show zLw L xs 364 [some (.ref zS), some (.ref 0), some (.ref 47), some (.int (nI i))] [.int v] _ 64 2319
  refine zj_aload_n dL_law_364 (by rfl) ?_
  refine zj_aload_n dL_law_365 (by rfl) ?_
  refine zj_iload_n dL_law_366 (by rfl) ?_
  refine zj_iconst (v := nI 1) dL_law_367 (by decide) ?_
  refine zj_iaddN dL_law_368 ?_
  refine zl_ld dL_law_369 (by omega) ?_
  refine zj_aload_n dL_law_370 (by rfl) ?_
  refine zj_iload_n dL_law_371 (by rfl) ?_
  refine zj_iconst (v := nI 2) dL_law_372 (by decide) ?_
  refine zj_iaddN dL_law_373 ?_
  refine zl_ld dL_law_374 (by omega) ?_
  refine zj_aload_n dL_law_375 (by rfl) ?_
  refine zj_iload_n dL_law_376 (by rfl) ?_
  refine zj_iconst (v := nI 3) dL_law_377 (by decide) ?_
  refine zj_iaddN dL_law_378 ?_
  refine zl_ld dL_law_379 (by omega) ?_
  refine zj_callV (As := [.int (xs (i + 1)), .int (xs (i + 2)), .int (xs (i + 3))]) (N := mX8_feed) (rm' := rmD 1) dL_law_380 ⟨zq_709, zq_50, mw_X8_feed, rfl, rfl, by show mX8_feed.1.cls ≠ "java/lang/invoke/MethodHandle" ∧ mX8_feed.1.cls ≠ "java/lang/invoke/VarHandle" ∧ (parseMethodDescriptor mX8_feed.1.desc).map (fun d => d.parameters.length) = some 3; decide +kernel, by decide, by decide⟩ zq_710 zq_711 rfl rfl e8 z2 (by exact Nat.le_of_ble_eq_true rfl) ⟨by decide, by decide⟩ (fun v h' hq _ => ?_)
  obtain ⟨rfl, rfl⟩ := hq
  show zLw L xs 383 [some (.ref zS), some (.ref 0), some (.ref 47), some (.int (nI i))] [.int v, .int v] _ 64 2319
  refine zj_icmp_eq (tgt := 1419) dL_law_383 (by decide) (fun _ => ?_) (fun zq => absurd rfl zq)
  exact K _ i2
set_option maxRecDepth 20000 in
theorem l_trim (inv : s_I h) (hi : i + 6 ≤ L) (hL : L ≤ 3072) (K : ∀ h', s_I h' → zLw L xs 1419 [some (.ref zS), some (.ref 0), some (.ref 47), some (.int (nI i))] [] h' 64 2319) : zLw L xs 388 [some (.ref zS), some (.ref 0), some (.ref 47), some (.int (nI i))] [] h 64 2319 := by
  obtain ⟨v, h1, h2, z1, z2, i2, fs8, e8⟩ := o_trim inv (xs (i + 1))
  obtain ⟨fs7, e7⟩ : ∃ fs, h[0]? = some (.inr (7, fs)) := by
    obtain ⟨C, P, S, T, H, O, g, w, r, rm⟩ := inv
    exact s_7 r
  refine zj_aload_n dL_law_388 (by rfl) ?_
  refine zj_aload_n dL_law_389 (by rfl) ?_
  refine zj_iload_n dL_law_390 (by rfl) ?_
  refine zj_iconst (v := nI 1) dL_law_391 (by decide) ?_
  refine zj_iaddN dL_law_392 ?_
  refine zl_ld dL_law_393 (by omega) ?_
  refine zj_callV (As := [.int (xs (i + 1))]) (N := mX7_trim) (rm' := rmD 0) dL_law_394 ⟨zq_281, zq_42, mw_X7_trim, rfl, rfl, by show mX7_trim.1.cls ≠ "java/lang/invoke/MethodHandle" ∧ mX7_trim.1.cls ≠ "java/lang/invoke/VarHandle" ∧ (parseMethodDescriptor mX7_trim.1.desc).map (fun d => d.parameters.length) = some 1; decide +kernel, by decide, by decide⟩ zq_282 zq_283 rfl rfl e7 z1 (by exact Nat.le_of_ble_eq_true rfl) ⟨by decide, by decide⟩ (fun v h' hq _ => ?_)
  obtain ⟨rfl, rfl⟩ := hq
  show zLw L xs 397 [some (.ref zS), some (.ref 0), some (.ref 47), some (.int (nI i))] [.int v] _ 64 2319
  refine zj_aload_n dL_law_397 (by rfl) ?_
  refine zj_aload_n dL_law_398 (by rfl) ?_
  refine zj_iload_n dL_law_399 (by rfl) ?_
  refine zj_iconst (v := nI 1) dL_law_400 (by decide) ?_
  refine zj_iaddN dL_law_401 ?_
  refine zl_ld dL_law_402 (by omega) ?_
  refine zj_callV (As := [.int (xs (i + 1))]) (N := mX8_trim) (rm' := rmD 1) dL_law_403 ⟨zq_717, zq_50, mw_X8_trim, rfl, rfl, by show mX8_trim.1.cls ≠ "java/lang/invoke/MethodHandle" ∧ mX8_trim.1.cls ≠ "java/lang/invoke/VarHandle" ∧ (parseMethodDescriptor mX8_trim.1.desc).map (fun d => d.parameters.length) = some 1; decide +kernel, by decide, by decide⟩ zq_718 zq_719 rfl rfl e8 z2 (by exact Nat.le_of_ble_eq_true rfl) ⟨by decide, by decide⟩ (fun v h' hq _ => ?_)
  obtain ⟨rfl, rfl⟩ := hq
  show zLw L xs 406 [some (.ref zS), some (.ref 0), some (.ref 47), some (.int (nI i))] [.int v, .int v] _ 64 2319
  refine zj_icmp_eq (tgt := 1419) dL_law_406 (by decide) (fun _ => ?_) (fun zq => absurd rfl zq)
  exact K _ i2
set_option maxRecDepth 20000 in
theorem l_phrase (inv : s_I h) (hi : i + 6 ≤ L) (hL : L ≤ 3072) (K : ∀ h', s_I h' → zLw L xs 1419 [some (.ref zS), some (.ref 0), some (.ref 47), some (.int (nI i))] [] h' 64 2319) : zLw L xs 411 [some (.ref zS), some (.ref 0), some (.ref 47), some (.int (nI i))] [] h 64 2319 := by
  obtain ⟨v, h1, h2, z1, z2, i2, fs8, e8⟩ := o_phrase inv (xs (i + 1))
  obtain ⟨fs7, e7⟩ : ∃ fs, h[0]? = some (.inr (7, fs)) := by
    obtain ⟨C, P, S, T, H, O, g, w, r, rm⟩ := inv
    exact s_7 r
  refine zj_aload_n dL_law_411 (by rfl) ?_
  refine zj_aload_n dL_law_412 (by rfl) ?_
  refine zj_iload_n dL_law_413 (by rfl) ?_
  refine zj_iconst (v := nI 1) dL_law_414 (by decide) ?_
  refine zj_iaddN dL_law_415 ?_
  refine zl_ld dL_law_416 (by omega) ?_
  refine zj_callV (As := [.int (xs (i + 1))]) (N := mX7_phrase) (rm' := rmD 4) dL_law_417 ⟨zq_285, zq_42, mw_X7_phrase, rfl, rfl, by show mX7_phrase.1.cls ≠ "java/lang/invoke/MethodHandle" ∧ mX7_phrase.1.cls ≠ "java/lang/invoke/VarHandle" ∧ (parseMethodDescriptor mX7_phrase.1.desc).map (fun d => d.parameters.length) = some 1; decide +kernel, by decide, by decide⟩ zq_286 zq_287 rfl rfl e7 z1 (by exact Nat.le_of_ble_eq_true rfl) ⟨by decide, by decide⟩ (fun v h' hq _ => ?_)
  obtain ⟨rfl, rfl⟩ := hq
  show zLw L xs 420 [some (.ref zS), some (.ref 0), some (.ref 47), some (.int (nI i))] [.int v] _ 64 2319
  refine zj_aload_n dL_law_420 (by rfl) ?_
  refine zj_aload_n dL_law_421 (by rfl) ?_
  refine zj_iload_n dL_law_422 (by rfl) ?_
  refine zj_iconst (v := nI 1) dL_law_423 (by decide) ?_
  refine zj_iaddN dL_law_424 ?_
  refine zl_ld dL_law_425 (by omega) ?_
  refine zj_callV (As := [.int (xs (i + 1))]) (N := mX8_phrase) (rm' := rmD 15) dL_law_426 ⟨zq_721, zq_50, mw_X8_phrase, rfl, rfl, by show mX8_phrase.1.cls ≠ "java/lang/invoke/MethodHandle" ∧ mX8_phrase.1.cls ≠ "java/lang/invoke/VarHandle" ∧ (parseMethodDescriptor mX8_phrase.1.desc).map (fun d => d.parameters.length) = some 1; decide +kernel, by decide, by decide⟩ zq_722 zq_723 rfl rfl e8 z2 (by exact Nat.le_of_ble_eq_true rfl) ⟨by decide, by decide⟩ (fun v h' hq _ => ?_)
  obtain ⟨rfl, rfl⟩ := hq
  show zLw L xs 429 [some (.ref zS), some (.ref 0), some (.ref 47), some (.int (nI i))] [.int v, .int v] _ 64 2319
  refine zj_icmp_eq (tgt := 1419) dL_law_429 (by decide) (fun _ => ?_) (fun zq => absurd rfl zq)
  exact K _ i2
set_option maxRecDepth 20000 in
theorem l_syllable (inv : s_I h) (hi : i + 6 ≤ L) (hL : L ≤ 3072) (K : ∀ h', s_I h' → zLw L xs 1419 [some (.ref zS), some (.ref 0), some (.ref 47), some (.int (nI i))] [] h' 64 2319) : zLw L xs 434 [some (.ref zS), some (.ref 0), some (.ref 47), some (.int (nI i))] [] h 64 2319 := by
  obtain ⟨v, h1, h2, z1, z2, i2, fs8, e8⟩ := o_syllable inv (xs (i + 1)) (xs (i + 2))
  obtain ⟨fs7, e7⟩ : ∃ fs, h[0]? = some (.inr (7, fs)) := by
    obtain ⟨C, P, S, T, H, O, g, w, r, rm⟩ := inv
    exact s_7 r
  refine zj_aload_n dL_law_434 (by rfl) ?_
  refine zj_aload_n dL_law_435 (by rfl) ?_
  refine zj_iload_n dL_law_436 (by rfl) ?_
  refine zj_iconst (v := nI 1) dL_law_437 (by decide) ?_
  refine zj_iaddN dL_law_438 ?_
  refine zl_ld dL_law_439 (by omega) ?_
  refine zj_aload_n dL_law_440 (by rfl) ?_
  refine zj_iload_n dL_law_441 (by rfl) ?_
  refine zj_iconst (v := nI 2) dL_law_442 (by decide) ?_
  refine zj_iaddN dL_law_443 ?_
  refine zl_ld dL_law_444 (by omega) ?_
  refine zj_callV (As := [.int (xs (i + 1)), .int (xs (i + 2))]) (N := mX7_syllable) (rm' := rmD 1) dL_law_445 ⟨zq_322, zq_42, mw_X7_syllable, rfl, rfl, by show mX7_syllable.1.cls ≠ "java/lang/invoke/MethodHandle" ∧ mX7_syllable.1.cls ≠ "java/lang/invoke/VarHandle" ∧ (parseMethodDescriptor mX7_syllable.1.desc).map (fun d => d.parameters.length) = some 2; decide +kernel, by decide, by decide⟩ zq_323 zq_324 rfl rfl e7 z1 (by exact Nat.le_of_ble_eq_true rfl) ⟨by decide, by decide⟩ (fun v h' hq _ => ?_)
  obtain ⟨rfl, rfl⟩ := hq
  show zLw L xs 448 [some (.ref zS), some (.ref 0), some (.ref 47), some (.int (nI i))] [.int v] _ 64 2319
  refine zj_aload_n dL_law_448 (by rfl) ?_
  refine zj_aload_n dL_law_449 (by rfl) ?_
  refine zj_iload_n dL_law_450 (by rfl) ?_
  refine zj_iconst (v := nI 1) dL_law_451 (by decide) ?_
  refine zj_iaddN dL_law_452 ?_
  refine zl_ld dL_law_453 (by omega) ?_
  refine zj_aload_n dL_law_454 (by rfl) ?_
  refine zj_iload_n dL_law_455 (by rfl) ?_
  refine zj_iconst (v := nI 2) dL_law_456 (by decide) ?_
  refine zj_iaddN dL_law_457 ?_
  refine zl_ld dL_law_458 (by omega) ?_
  refine zj_callV (As := [.int (xs (i + 1)), .int (xs (i + 2))]) (N := mX8_syllable) (rm' := rmD 2) dL_law_459 ⟨zq_740, zq_50, mw_X8_syllable, rfl, rfl, by show mX8_syllable.1.cls ≠ "java/lang/invoke/MethodHandle" ∧ mX8_syllable.1.cls ≠ "java/lang/invoke/VarHandle" ∧ (parseMethodDescriptor mX8_syllable.1.desc).map (fun d => d.parameters.length) = some 2; decide +kernel, by decide, by decide⟩ zq_741 zq_742 rfl rfl e8 z2 (by exact Nat.le_of_ble_eq_true rfl) ⟨by decide, by decide⟩ (fun v h' hq _ => ?_)
  obtain ⟨rfl, rfl⟩ := hq
  show zLw L xs 462 [some (.ref zS), some (.ref 0), some (.ref 47), some (.int (nI i))] [.int v, .int v] _ 64 2319
  refine zj_icmp_eq (tgt := 1419) dL_law_462 (by decide) (fun _ => ?_) (fun zq => absurd rfl zq)
  exact K _ i2
set_option maxRecDepth 20000 in
theorem l_ticks (inv : s_I h) (hi : i + 6 ≤ L) (hL : L ≤ 3072) (K : ∀ h', s_I h' → zLw L xs 1419 [some (.ref zS), some (.ref 0), some (.ref 47), some (.int (nI i))] [] h' 64 2319) : zLw L xs 467 [some (.ref zS), some (.ref 0), some (.ref 47), some (.int (nI i))] [] h 64 2319 := by
  obtain ⟨v, h1, h2, z1, z2, i2, fs8, e8⟩ := o_ticks inv (xs (i + 1)) (xs (i + 2))
  obtain ⟨fs7, e7⟩ : ∃ fs, h[0]? = some (.inr (7, fs)) := by
    obtain ⟨C, P, S, T, H, O, g, w, r, rm⟩ := inv
    exact s_7 r
  refine zj_aload_n dL_law_467 (by rfl) ?_
  refine zj_aload_n dL_law_468 (by rfl) ?_
  refine zj_iload_n dL_law_469 (by rfl) ?_
  refine zj_iconst (v := nI 1) dL_law_470 (by decide) ?_
  refine zj_iaddN dL_law_471 ?_
  refine zl_ld dL_law_472 (by omega) ?_
  refine zj_aload_n dL_law_473 (by rfl) ?_
  refine zj_iload_n dL_law_474 (by rfl) ?_
  refine zj_iconst (v := nI 2) dL_law_475 (by decide) ?_
  refine zj_iaddN dL_law_476 ?_
  refine zl_ld dL_law_477 (by omega) ?_
  refine zj_callV (As := [.int (xs (i + 1)), .int (xs (i + 2))]) (N := mX7_ticks) (rm' := rmD 1) dL_law_478 ⟨zq_331, zq_42, mw_X7_ticks, rfl, rfl, by show mX7_ticks.1.cls ≠ "java/lang/invoke/MethodHandle" ∧ mX7_ticks.1.cls ≠ "java/lang/invoke/VarHandle" ∧ (parseMethodDescriptor mX7_ticks.1.desc).map (fun d => d.parameters.length) = some 2; decide +kernel, by decide, by decide⟩ zq_332 zq_333 rfl rfl e7 z1 (by exact Nat.le_of_ble_eq_true rfl) ⟨by decide, by decide⟩ (fun v h' hq _ => ?_)
  obtain ⟨rfl, rfl⟩ := hq
  show zLw L xs 481 [some (.ref zS), some (.ref 0), some (.ref 47), some (.int (nI i))] [.int v] _ 64 2319
  refine zj_aload_n dL_law_481 (by rfl) ?_
  refine zj_aload_n dL_law_482 (by rfl) ?_
  refine zj_iload_n dL_law_483 (by rfl) ?_
  refine zj_iconst (v := nI 1) dL_law_484 (by decide) ?_
  refine zj_iaddN dL_law_485 ?_
  refine zl_ld dL_law_486 (by omega) ?_
  refine zj_aload_n dL_law_487 (by rfl) ?_
  refine zj_iload_n dL_law_488 (by rfl) ?_
  refine zj_iconst (v := nI 2) dL_law_489 (by decide) ?_
  refine zj_iaddN dL_law_490 ?_
  refine zl_ld dL_law_491 (by omega) ?_
  refine zj_callV (As := [.int (xs (i + 1)), .int (xs (i + 2))]) (N := mX8_ticks) (rm' := rmD 2) dL_law_492 ⟨zq_745, zq_50, mw_X8_ticks, rfl, rfl, by show mX8_ticks.1.cls ≠ "java/lang/invoke/MethodHandle" ∧ mX8_ticks.1.cls ≠ "java/lang/invoke/VarHandle" ∧ (parseMethodDescriptor mX8_ticks.1.desc).map (fun d => d.parameters.length) = some 2; decide +kernel, by decide, by decide⟩ zq_746 zq_747 rfl rfl e8 z2 (by exact Nat.le_of_ble_eq_true rfl) ⟨by decide, by decide⟩ (fun v h' hq _ => ?_)
  obtain ⟨rfl, rfl⟩ := hq
  show zLw L xs 495 [some (.ref zS), some (.ref 0), some (.ref 47), some (.int (nI i))] [.int v, .int v] _ 64 2319
  refine zj_icmp_eq (tgt := 1419) dL_law_495 (by decide) (fun _ => ?_) (fun zq => absurd rfl zq)
  exact K _ i2
set_option maxRecDepth 20000 in
theorem l_lands (inv : s_I h) (hi : i + 6 ≤ L) (hL : L ≤ 3072) (K : ∀ h', s_I h' → zLw L xs 1419 [some (.ref zS), some (.ref 0), some (.ref 47), some (.int (nI i))] [] h' 64 2319) : zLw L xs 500 [some (.ref zS), some (.ref 0), some (.ref 47), some (.int (nI i))] [] h 64 2319 := by
  obtain ⟨v, h1, h2, z1, z2, i2, fs8, e8⟩ := o_lands inv (xs (i + 1)) (xs (i + 2)) (xs (i + 3)) (xs (i + 4)) (xs (i + 5))
  obtain ⟨fs7, e7⟩ : ∃ fs, h[0]? = some (.inr (7, fs)) := by
    obtain ⟨C, P, S, T, H, O, g, w, r, rm⟩ := inv
    exact s_7 r
  refine zj_aload_n dL_law_500 (by rfl) ?_
  refine zj_aload_n dL_law_501 (by rfl) ?_
  refine zj_iload_n dL_law_502 (by rfl) ?_
  refine zj_iconst (v := nI 1) dL_law_503 (by decide) ?_
  refine zj_iaddN dL_law_504 ?_
  refine zl_ld dL_law_505 (by omega) ?_
  refine zj_aload_n dL_law_506 (by rfl) ?_
  refine zj_iload_n dL_law_507 (by rfl) ?_
  refine zj_iconst (v := nI 2) dL_law_508 (by decide) ?_
  refine zj_iaddN dL_law_509 ?_
  refine zl_ld dL_law_510 (by omega) ?_
  refine zj_aload_n dL_law_511 (by rfl) ?_
  refine zj_iload_n dL_law_512 (by rfl) ?_
  refine zj_iconst (v := nI 3) dL_law_513 (by decide) ?_
  refine zj_iaddN dL_law_514 ?_
  refine zl_ld dL_law_515 (by omega) ?_
  refine zj_aload_n dL_law_516 (by rfl) ?_
  refine zj_iload_n dL_law_517 (by rfl) ?_
  refine zj_iconst (v := nI 4) dL_law_518 (by decide) ?_
  refine zj_iaddN dL_law_519 ?_
  refine zl_ld dL_law_520 (by omega) ?_
  refine zj_aload_n dL_law_521 (by rfl) ?_
  refine zj_iload_n dL_law_522 (by rfl) ?_
  refine zj_iconst (v := nI 5) dL_law_523 (by decide) ?_
  refine zj_iaddN dL_law_524 ?_
  refine zl_ld dL_law_525 (by omega) ?_
  refine zj_callV (As := [.int (xs (i + 1)), .int (xs (i + 2)), .int (xs (i + 3)), .int (xs (i + 4)), .int (xs (i + 5))]) (N := mX7_lands) (rm' := rmD 3) dL_law_526 ⟨zq_338, zq_42, mw_X7_lands, rfl, rfl, by show mX7_lands.1.cls ≠ "java/lang/invoke/MethodHandle" ∧ mX7_lands.1.cls ≠ "java/lang/invoke/VarHandle" ∧ (parseMethodDescriptor mX7_lands.1.desc).map (fun d => d.parameters.length) = some 5; decide +kernel, by decide, by decide⟩ zq_339 zq_340 rfl rfl e7 z1 (by exact Nat.le_of_ble_eq_true rfl) ⟨by decide, by decide⟩ (fun v h' hq _ => ?_)
  obtain ⟨rfl, rfl⟩ := hq
  show zLw L xs 529 [some (.ref zS), some (.ref 0), some (.ref 47), some (.int (nI i))] [.int v] _ 64 2319
  refine zj_aload_n dL_law_529 (by rfl) ?_
  refine zj_aload_n dL_law_530 (by rfl) ?_
  refine zj_iload_n dL_law_531 (by rfl) ?_
  refine zj_iconst (v := nI 1) dL_law_532 (by decide) ?_
  refine zj_iaddN dL_law_533 ?_
  refine zl_ld dL_law_534 (by omega) ?_
  refine zj_aload_n dL_law_535 (by rfl) ?_
  refine zj_iload_n dL_law_536 (by rfl) ?_
  refine zj_iconst (v := nI 2) dL_law_537 (by decide) ?_
  refine zj_iaddN dL_law_538 ?_
  refine zl_ld dL_law_539 (by omega) ?_
  refine zj_aload_n dL_law_540 (by rfl) ?_
  refine zj_iload_n dL_law_541 (by rfl) ?_
  refine zj_iconst (v := nI 3) dL_law_542 (by decide) ?_
  refine zj_iaddN dL_law_543 ?_
  refine zl_ld dL_law_544 (by omega) ?_
  refine zj_aload_n dL_law_545 (by rfl) ?_
  refine zj_iload_n dL_law_546 (by rfl) ?_
  refine zj_iconst (v := nI 4) dL_law_547 (by decide) ?_
  refine zj_iaddN dL_law_548 ?_
  refine zl_ld dL_law_549 (by omega) ?_
  refine zj_aload_n dL_law_550 (by rfl) ?_
  refine zj_iload_n dL_law_551 (by rfl) ?_
  refine zj_iconst (v := nI 5) dL_law_552 (by decide) ?_
  refine zj_iaddN dL_law_553 ?_
  refine zl_ld dL_law_554 (by omega) ?_
  refine zj_callV (As := [.int (xs (i + 1)), .int (xs (i + 2)), .int (xs (i + 3)), .int (xs (i + 4)), .int (xs (i + 5))]) (N := mX8_lands) (rm' := rmD 3) dL_law_555 ⟨zq_756, zq_50, mw_X8_lands, rfl, rfl, by show mX8_lands.1.cls ≠ "java/lang/invoke/MethodHandle" ∧ mX8_lands.1.cls ≠ "java/lang/invoke/VarHandle" ∧ (parseMethodDescriptor mX8_lands.1.desc).map (fun d => d.parameters.length) = some 5; decide +kernel, by decide, by decide⟩ zq_757 zq_758 rfl rfl e8 z2 (by exact Nat.le_of_ble_eq_true rfl) ⟨by decide, by decide⟩ (fun v h' hq _ => ?_)
  obtain ⟨rfl, rfl⟩ := hq
  show zLw L xs 558 [some (.ref zS), some (.ref 0), some (.ref 47), some (.int (nI i))] [.int v, .int v] _ 64 2319
  refine zj_icmp_eq (tgt := 1419) dL_law_558 (by decide) (fun _ => ?_) (fun zq => absurd rfl zq)
  exact K _ i2
set_option maxRecDepth 20000 in
theorem l_gaps (inv : s_I h) (hi : i + 6 ≤ L) (hL : L ≤ 3072) (K : ∀ h', s_I h' → zLw L xs 1419 [some (.ref zS), some (.ref 0), some (.ref 47), some (.int (nI i))] [] h' 64 2319) : zLw L xs 563 [some (.ref zS), some (.ref 0), some (.ref 47), some (.int (nI i))] [] h 64 2319 := by
  obtain ⟨v, h1, h2, z1, z2, i2, fs8, e8⟩ := o_gaps inv (xs (i + 1)) (xs (i + 2)) (xs (i + 3)) (xs (i + 4))
  obtain ⟨fs7, e7⟩ : ∃ fs, h[0]? = some (.inr (7, fs)) := by
    obtain ⟨C, P, S, T, H, O, g, w, r, rm⟩ := inv
    exact s_7 r
  refine zj_aload_n dL_law_563 (by rfl) ?_
  refine zj_aload_n dL_law_564 (by rfl) ?_
  refine zj_iload_n dL_law_565 (by rfl) ?_
  refine zj_iconst (v := nI 1) dL_law_566 (by decide) ?_
  refine zj_iaddN dL_law_567 ?_
  refine zl_ld dL_law_568 (by omega) ?_
  refine zj_aload_n dL_law_569 (by rfl) ?_
  refine zj_iload_n dL_law_570 (by rfl) ?_
  refine zj_iconst (v := nI 2) dL_law_571 (by decide) ?_
  refine zj_iaddN dL_law_572 ?_
  refine zl_ld dL_law_573 (by omega) ?_
  refine zj_aload_n dL_law_574 (by rfl) ?_
  refine zj_iload_n dL_law_575 (by rfl) ?_
  refine zj_iconst (v := nI 3) dL_law_576 (by decide) ?_
  refine zj_iaddN dL_law_577 ?_
  refine zl_ld dL_law_578 (by omega) ?_
  refine zj_aload_n dL_law_579 (by rfl) ?_
  refine zj_iload_n dL_law_580 (by rfl) ?_
  refine zj_iconst (v := nI 4) dL_law_581 (by decide) ?_
  refine zj_iaddN dL_law_582 ?_
  refine zl_ld dL_law_583 (by omega) ?_
  refine zj_callV (As := [.int (xs (i + 1)), .int (xs (i + 2)), .int (xs (i + 3)), .int (xs (i + 4))]) (N := mX7_gaps) (rm' := rmD 3) dL_law_584 ⟨zq_367, zq_42, mw_X7_gaps, rfl, rfl, by show mX7_gaps.1.cls ≠ "java/lang/invoke/MethodHandle" ∧ mX7_gaps.1.cls ≠ "java/lang/invoke/VarHandle" ∧ (parseMethodDescriptor mX7_gaps.1.desc).map (fun d => d.parameters.length) = some 4; decide +kernel, by decide, by decide⟩ zq_368 zq_369 rfl rfl e7 z1 (by exact Nat.le_of_ble_eq_true rfl) ⟨by decide, by decide⟩ (fun v h' hq _ => ?_)
  obtain ⟨rfl, rfl⟩ := hq
  show zLw L xs 587 [some (.ref zS), some (.ref 0), some (.ref 47), some (.int (nI i))] [.int v] _ 64 2319
  refine zj_aload_n dL_law_587 (by rfl) ?_
  refine zj_aload_n dL_law_588 (by rfl) ?_
  refine zj_iload_n dL_law_589 (by rfl) ?_
  refine zj_iconst (v := nI 1) dL_law_590 (by decide) ?_
  refine zj_iaddN dL_law_591 ?_
  refine zl_ld dL_law_592 (by omega) ?_
  refine zj_aload_n dL_law_593 (by rfl) ?_
  refine zj_iload_n dL_law_594 (by rfl) ?_
  refine zj_iconst (v := nI 2) dL_law_595 (by decide) ?_
  refine zj_iaddN dL_law_596 ?_
  refine zl_ld dL_law_597 (by omega) ?_
  refine zj_aload_n dL_law_598 (by rfl) ?_
  refine zj_iload_n dL_law_599 (by rfl) ?_
  refine zj_iconst (v := nI 3) dL_law_600 (by decide) ?_
  refine zj_iaddN dL_law_601 ?_
  refine zl_ld dL_law_602 (by omega) ?_
  refine zj_aload_n dL_law_603 (by rfl) ?_
  refine zj_iload_n dL_law_604 (by rfl) ?_
  refine zj_iconst (v := nI 4) dL_law_605 (by decide) ?_
  refine zj_iaddN dL_law_606 ?_
  refine zl_ld dL_law_607 (by omega) ?_
  refine zj_callV (As := [.int (xs (i + 1)), .int (xs (i + 2)), .int (xs (i + 3)), .int (xs (i + 4))]) (N := mX8_gaps) (rm' := rmD 3) dL_law_608 ⟨zq_774, zq_50, mw_X8_gaps, rfl, rfl, by show mX8_gaps.1.cls ≠ "java/lang/invoke/MethodHandle" ∧ mX8_gaps.1.cls ≠ "java/lang/invoke/VarHandle" ∧ (parseMethodDescriptor mX8_gaps.1.desc).map (fun d => d.parameters.length) = some 4; decide +kernel, by decide, by decide⟩ zq_775 zq_776 rfl rfl e8 z2 (by exact Nat.le_of_ble_eq_true rfl) ⟨by decide, by decide⟩ (fun v h' hq _ => ?_)
  obtain ⟨rfl, rfl⟩ := hq
  show zLw L xs 611 [some (.ref zS), some (.ref 0), some (.ref 47), some (.int (nI i))] [.int v, .int v] _ 64 2319
  refine zj_icmp_eq (tgt := 1419) dL_law_611 (by decide) (fun _ => ?_) (fun zq => absurd rfl zq)
  exact K _ i2
set_option maxRecDepth 20000 in
theorem l_gap (inv : s_I h) (hi : i + 6 ≤ L) (hL : L ≤ 3072) (K : ∀ h', s_I h' → zLw L xs 1419 [some (.ref zS), some (.ref 0), some (.ref 47), some (.int (nI i))] [] h' 64 2319) : zLw L xs 616 [some (.ref zS), some (.ref 0), some (.ref 47), some (.int (nI i))] [] h 64 2319 := by
  obtain ⟨v, h1, h2, z1, z2, i2, fs8, e8⟩ := o_gap inv (xs (i + 1)) (xs (i + 2)) (xs (i + 3)) (xs (i + 4)) (xs (i + 5))
  obtain ⟨fs7, e7⟩ : ∃ fs, h[0]? = some (.inr (7, fs)) := by
    obtain ⟨C, P, S, T, H, O, g, w, r, rm⟩ := inv
    exact s_7 r
  refine zj_aload_n dL_law_616 (by rfl) ?_
  refine zj_aload_n dL_law_617 (by rfl) ?_
  refine zj_iload_n dL_law_618 (by rfl) ?_
  refine zj_iconst (v := nI 1) dL_law_619 (by decide) ?_
  refine zj_iaddN dL_law_620 ?_
  refine zl_ld dL_law_621 (by omega) ?_
  refine zj_aload_n dL_law_622 (by rfl) ?_
  refine zj_iload_n dL_law_623 (by rfl) ?_
  refine zj_iconst (v := nI 2) dL_law_624 (by decide) ?_
  refine zj_iaddN dL_law_625 ?_
  refine zl_ld dL_law_626 (by omega) ?_
  refine zj_aload_n dL_law_627 (by rfl) ?_
  refine zj_iload_n dL_law_628 (by rfl) ?_
  refine zj_iconst (v := nI 3) dL_law_629 (by decide) ?_
  refine zj_iaddN dL_law_630 ?_
  refine zl_ld dL_law_631 (by omega) ?_
  refine zj_aload_n dL_law_632 (by rfl) ?_
  refine zj_iload_n dL_law_633 (by rfl) ?_
  refine zj_iconst (v := nI 4) dL_law_634 (by decide) ?_
  refine zj_iaddN dL_law_635 ?_
  refine zl_ld dL_law_636 (by omega) ?_
  refine zj_aload_n dL_law_637 (by rfl) ?_
  refine zj_iload_n dL_law_638 (by rfl) ?_
  refine zj_iconst (v := nI 5) dL_law_639 (by decide) ?_
  refine zj_iaddN dL_law_640 ?_
  refine zl_ld dL_law_641 (by omega) ?_
  refine zj_callV (As := [.int (xs (i + 1)), .int (xs (i + 2)), .int (xs (i + 3)), .int (xs (i + 4)), .int (xs (i + 5))]) (N := mX7_gap) (rm' := rmD 3) dL_law_642 ⟨zq_379, zq_42, mw_X7_gap, rfl, rfl, by show mX7_gap.1.cls ≠ "java/lang/invoke/MethodHandle" ∧ mX7_gap.1.cls ≠ "java/lang/invoke/VarHandle" ∧ (parseMethodDescriptor mX7_gap.1.desc).map (fun d => d.parameters.length) = some 5; decide +kernel, by decide, by decide⟩ zq_380 zq_381 rfl rfl e7 z1 (by exact Nat.le_of_ble_eq_true rfl) ⟨by decide, by decide⟩ (fun v h' hq _ => ?_)
  obtain ⟨rfl, rfl⟩ := hq
  show zLw L xs 645 [some (.ref zS), some (.ref 0), some (.ref 47), some (.int (nI i))] [.int v] _ 64 2319
  refine zj_aload_n dL_law_645 (by rfl) ?_
  refine zj_aload_n dL_law_646 (by rfl) ?_
  refine zj_iload_n dL_law_647 (by rfl) ?_
  refine zj_iconst (v := nI 1) dL_law_648 (by decide) ?_
  refine zj_iaddN dL_law_649 ?_
  refine zl_ld dL_law_650 (by omega) ?_
  refine zj_aload_n dL_law_651 (by rfl) ?_
  refine zj_iload_n dL_law_652 (by rfl) ?_
  refine zj_iconst (v := nI 2) dL_law_653 (by decide) ?_
  refine zj_iaddN dL_law_654 ?_
  refine zl_ld dL_law_655 (by omega) ?_
  refine zj_aload_n dL_law_656 (by rfl) ?_
  refine zj_iload_n dL_law_657 (by rfl) ?_
  refine zj_iconst (v := nI 3) dL_law_658 (by decide) ?_
  refine zj_iaddN dL_law_659 ?_
  refine zl_ld dL_law_660 (by omega) ?_
  refine zj_aload_n dL_law_661 (by rfl) ?_
  refine zj_iload_n dL_law_662 (by rfl) ?_
  refine zj_iconst (v := nI 4) dL_law_663 (by decide) ?_
  refine zj_iaddN dL_law_664 ?_
  refine zl_ld dL_law_665 (by omega) ?_
  refine zj_aload_n dL_law_666 (by rfl) ?_
  refine zj_iload_n dL_law_667 (by rfl) ?_
  refine zj_iconst (v := nI 5) dL_law_668 (by decide) ?_
  refine zj_iaddN dL_law_669 ?_
  refine zl_ld dL_law_670 (by omega) ?_
  refine zj_callV (As := [.int (xs (i + 1)), .int (xs (i + 2)), .int (xs (i + 3)), .int (xs (i + 4)), .int (xs (i + 5))]) (N := mX8_gap) (rm' := rmD 3) dL_law_671 ⟨zq_778, zq_50, mw_X8_gap, rfl, rfl, by show mX8_gap.1.cls ≠ "java/lang/invoke/MethodHandle" ∧ mX8_gap.1.cls ≠ "java/lang/invoke/VarHandle" ∧ (parseMethodDescriptor mX8_gap.1.desc).map (fun d => d.parameters.length) = some 5; decide +kernel, by decide, by decide⟩ zq_779 zq_780 rfl rfl e8 z2 (by exact Nat.le_of_ble_eq_true rfl) ⟨by decide, by decide⟩ (fun v h' hq _ => ?_)
  obtain ⟨rfl, rfl⟩ := hq
  show zLw L xs 674 [some (.ref zS), some (.ref 0), some (.ref 47), some (.int (nI i))] [.int v, .int v] _ 64 2319
  refine zj_icmp_eq (tgt := 1419) dL_law_674 (by decide) (fun _ => ?_) (fun zq => absurd rfl zq)
  exact K _ i2
set_option maxRecDepth 20000 in
theorem l_start (inv : s_I h) (hi : i + 6 ≤ L) (hL : L ≤ 3072) (K : ∀ h', s_I h' → zLw L xs 1419 [some (.ref zS), some (.ref 0), some (.ref 47), some (.int (nI i))] [] h' 64 2319) : zLw L xs 679 [some (.ref zS), some (.ref 0), some (.ref 47), some (.int (nI i))] [] h 64 2319 := by
  obtain ⟨v, h1, h2, z1, z2, i2, fs8, e8⟩ := o_start inv (xs (i + 1)) (xs (i + 2)) (xs (i + 3)) (xs (i + 4))
  obtain ⟨fs7, e7⟩ : ∃ fs, h[0]? = some (.inr (7, fs)) := by
    obtain ⟨C, P, S, T, H, O, g, w, r, rm⟩ := inv
    exact s_7 r
  refine zj_aload_n dL_law_679 (by rfl) ?_
  refine zj_aload_n dL_law_680 (by rfl) ?_
  refine zj_iload_n dL_law_681 (by rfl) ?_
  refine zj_iconst (v := nI 1) dL_law_682 (by decide) ?_
  refine zj_iaddN dL_law_683 ?_
  refine zl_ld dL_law_684 (by omega) ?_
  refine zj_aload_n dL_law_685 (by rfl) ?_
  refine zj_iload_n dL_law_686 (by rfl) ?_
  refine zj_iconst (v := nI 2) dL_law_687 (by decide) ?_
  refine zj_iaddN dL_law_688 ?_
  refine zl_ld dL_law_689 (by omega) ?_
  refine zj_aload_n dL_law_690 (by rfl) ?_
  refine zj_iload_n dL_law_691 (by rfl) ?_
  refine zj_iconst (v := nI 3) dL_law_692 (by decide) ?_
  refine zj_iaddN dL_law_693 ?_
  refine zl_ld dL_law_694 (by omega) ?_
  refine zj_aload_n dL_law_695 (by rfl) ?_
  refine zj_iload_n dL_law_696 (by rfl) ?_
  refine zj_iconst (v := nI 4) dL_law_697 (by decide) ?_
  refine zj_iaddN dL_law_698 ?_
  refine zl_ld dL_law_699 (by omega) ?_
  refine zj_callV (As := [.int (xs (i + 1)), .int (xs (i + 2)), .int (xs (i + 3)), .int (xs (i + 4))]) (N := mX7_start) (rm' := rmD 3) dL_law_700 ⟨zq_388, zq_42, mw_X7_start, rfl, rfl, by show mX7_start.1.cls ≠ "java/lang/invoke/MethodHandle" ∧ mX7_start.1.cls ≠ "java/lang/invoke/VarHandle" ∧ (parseMethodDescriptor mX7_start.1.desc).map (fun d => d.parameters.length) = some 4; decide +kernel, by decide, by decide⟩ zq_389 zq_390 rfl rfl e7 z1 (by exact Nat.le_of_ble_eq_true rfl) ⟨by decide, by decide⟩ (fun v h' hq _ => ?_)
  obtain ⟨rfl, rfl⟩ := hq
  show zLw L xs 703 [some (.ref zS), some (.ref 0), some (.ref 47), some (.int (nI i))] [.int v] _ 64 2319
  refine zj_aload_n dL_law_703 (by rfl) ?_
  refine zj_aload_n dL_law_704 (by rfl) ?_
  refine zj_iload_n dL_law_705 (by rfl) ?_
  refine zj_iconst (v := nI 1) dL_law_706 (by decide) ?_
  refine zj_iaddN dL_law_707 ?_
  refine zl_ld dL_law_708 (by omega) ?_
  refine zj_aload_n dL_law_709 (by rfl) ?_
  refine zj_iload_n dL_law_710 (by rfl) ?_
  refine zj_iconst (v := nI 2) dL_law_711 (by decide) ?_
  refine zj_iaddN dL_law_712 ?_
  refine zl_ld dL_law_713 (by omega) ?_
  refine zj_aload_n dL_law_714 (by rfl) ?_
  refine zj_iload_n dL_law_715 (by rfl) ?_
  refine zj_iconst (v := nI 3) dL_law_716 (by decide) ?_
  refine zj_iaddN dL_law_717 ?_
  refine zl_ld dL_law_718 (by omega) ?_
  refine zj_aload_n dL_law_719 (by rfl) ?_
  refine zj_iload_n dL_law_720 (by rfl) ?_
  refine zj_iconst (v := nI 4) dL_law_721 (by decide) ?_
  refine zj_iaddN dL_law_722 ?_
  refine zl_ld dL_law_723 (by omega) ?_
  refine zj_callV (As := [.int (xs (i + 1)), .int (xs (i + 2)), .int (xs (i + 3)), .int (xs (i + 4))]) (N := mX8_start) (rm' := rmD 3) dL_law_724 ⟨zq_782, zq_50, mw_X8_start, rfl, rfl, by show mX8_start.1.cls ≠ "java/lang/invoke/MethodHandle" ∧ mX8_start.1.cls ≠ "java/lang/invoke/VarHandle" ∧ (parseMethodDescriptor mX8_start.1.desc).map (fun d => d.parameters.length) = some 4; decide +kernel, by decide, by decide⟩ zq_783 zq_784 rfl rfl e8 z2 (by exact Nat.le_of_ble_eq_true rfl) ⟨by decide, by decide⟩ (fun v h' hq _ => ?_)
  obtain ⟨rfl, rfl⟩ := hq
  show zLw L xs 727 [some (.ref zS), some (.ref 0), some (.ref 47), some (.int (nI i))] [.int v, .int v] _ 64 2319
  refine zj_icmp_eq (tgt := 1419) dL_law_727 (by decide) (fun _ => ?_) (fun zq => absurd rfl zq)
  exact K _ i2
set_option maxRecDepth 20000 in
theorem l_doubles (inv : s_I h) (hi : i + 6 ≤ L) (hL : L ≤ 3072) (K : ∀ h', s_I h' → zLw L xs 1419 [some (.ref zS), some (.ref 0), some (.ref 47), some (.int (nI i))] [] h' 64 2319) : zLw L xs 732 [some (.ref zS), some (.ref 0), some (.ref 47), some (.int (nI i))] [] h 64 2319 := by
  obtain ⟨v, h1, h2, z1, z2, i2, fs8, e8⟩ := o_doubles inv (xs (i + 1)) (xs (i + 2)) (xs (i + 3)) (xs (i + 4))
  obtain ⟨fs7, e7⟩ : ∃ fs, h[0]? = some (.inr (7, fs)) := by
    obtain ⟨C, P, S, T, H, O, g, w, r, rm⟩ := inv
    exact s_7 r
  refine zj_aload_n dL_law_732 (by rfl) ?_
  refine zj_aload_n dL_law_733 (by rfl) ?_
  refine zj_iload_n dL_law_734 (by rfl) ?_
  refine zj_iconst (v := nI 1) dL_law_735 (by decide) ?_
  refine zj_iaddN dL_law_736 ?_
  refine zl_ld dL_law_737 (by omega) ?_
  refine zj_aload_n dL_law_738 (by rfl) ?_
  refine zj_iload_n dL_law_739 (by rfl) ?_
  refine zj_iconst (v := nI 2) dL_law_740 (by decide) ?_
  refine zj_iaddN dL_law_741 ?_
  refine zl_ld dL_law_742 (by omega) ?_
  refine zj_aload_n dL_law_743 (by rfl) ?_
  refine zj_iload_n dL_law_744 (by rfl) ?_
  refine zj_iconst (v := nI 3) dL_law_745 (by decide) ?_
  refine zj_iaddN dL_law_746 ?_
  refine zl_ld dL_law_747 (by omega) ?_
  refine zj_aload_n dL_law_748 (by rfl) ?_
  refine zj_iload_n dL_law_749 (by rfl) ?_
  refine zj_iconst (v := nI 4) dL_law_750 (by decide) ?_
  refine zj_iaddN dL_law_751 ?_
  refine zl_ld dL_law_752 (by omega) ?_
  refine zj_callV (As := [.int (xs (i + 1)), .int (xs (i + 2)), .int (xs (i + 3)), .int (xs (i + 4))]) (N := mX7_doubles) (rm' := rmD 3) dL_law_753 ⟨zq_392, zq_42, mw_X7_doubles, rfl, rfl, by show mX7_doubles.1.cls ≠ "java/lang/invoke/MethodHandle" ∧ mX7_doubles.1.cls ≠ "java/lang/invoke/VarHandle" ∧ (parseMethodDescriptor mX7_doubles.1.desc).map (fun d => d.parameters.length) = some 4; decide +kernel, by decide, by decide⟩ zq_393 zq_394 rfl rfl e7 z1 (by exact Nat.le_of_ble_eq_true rfl) ⟨by decide, by decide⟩ (fun v h' hq _ => ?_)
  obtain ⟨rfl, rfl⟩ := hq
  show zLw L xs 756 [some (.ref zS), some (.ref 0), some (.ref 47), some (.int (nI i))] [.int v] _ 64 2319
  refine zj_aload_n dL_law_756 (by rfl) ?_
  refine zj_aload_n dL_law_757 (by rfl) ?_
  refine zj_iload_n dL_law_758 (by rfl) ?_
  refine zj_iconst (v := nI 1) dL_law_759 (by decide) ?_
  refine zj_iaddN dL_law_760 ?_
  refine zl_ld dL_law_761 (by omega) ?_
  refine zj_aload_n dL_law_762 (by rfl) ?_
  refine zj_iload_n dL_law_763 (by rfl) ?_
  refine zj_iconst (v := nI 2) dL_law_764 (by decide) ?_
  refine zj_iaddN dL_law_765 ?_
  refine zl_ld dL_law_766 (by omega) ?_
  refine zj_aload_n dL_law_767 (by rfl) ?_
  refine zj_iload_n dL_law_768 (by rfl) ?_
  refine zj_iconst (v := nI 3) dL_law_769 (by decide) ?_
  refine zj_iaddN dL_law_770 ?_
  refine zl_ld dL_law_771 (by omega) ?_
  refine zj_aload_n dL_law_772 (by rfl) ?_
  refine zj_iload_n dL_law_773 (by rfl) ?_
  refine zj_iconst (v := nI 4) dL_law_774 (by decide) ?_
  refine zj_iaddN dL_law_775 ?_
  refine zl_ld dL_law_776 (by omega) ?_
  refine zj_callV (As := [.int (xs (i + 1)), .int (xs (i + 2)), .int (xs (i + 3)), .int (xs (i + 4))]) (N := mX8_doubles) (rm' := rmD 3) dL_law_777 ⟨zq_786, zq_50, mw_X8_doubles, rfl, rfl, by show mX8_doubles.1.cls ≠ "java/lang/invoke/MethodHandle" ∧ mX8_doubles.1.cls ≠ "java/lang/invoke/VarHandle" ∧ (parseMethodDescriptor mX8_doubles.1.desc).map (fun d => d.parameters.length) = some 4; decide +kernel, by decide, by decide⟩ zq_787 zq_788 rfl rfl e8 z2 (by exact Nat.le_of_ble_eq_true rfl) ⟨by decide, by decide⟩ (fun v h' hq _ => ?_)
  obtain ⟨rfl, rfl⟩ := hq
  show zLw L xs 780 [some (.ref zS), some (.ref 0), some (.ref 47), some (.int (nI i))] [.int v, .int v] _ 64 2319
  refine zj_icmp_eq (tgt := 1419) dL_law_780 (by decide) (fun _ => ?_) (fun zq => absurd rfl zq)
  exact K _ i2
set_option maxRecDepth 20000 in
theorem l_least (inv : s_I h) (hi : i + 6 ≤ L) (hL : L ≤ 3072) (K : ∀ h', s_I h' → zLw L xs 1419 [some (.ref zS), some (.ref 0), some (.ref 47), some (.int (nI i))] [] h' 64 2319) : zLw L xs 785 [some (.ref zS), some (.ref 0), some (.ref 47), some (.int (nI i))] [] h 64 2319 := by
  obtain ⟨v, h1, h2, z1, z2, i2, fs8, e8⟩ := o_least inv (xs (i + 1)) (xs (i + 2)) (xs (i + 3)) (xs (i + 4))
  obtain ⟨fs7, e7⟩ : ∃ fs, h[0]? = some (.inr (7, fs)) := by
    obtain ⟨C, P, S, T, H, O, g, w, r, rm⟩ := inv
    exact s_7 r
  refine zj_aload_n dL_law_785 (by rfl) ?_
  refine zj_aload_n dL_law_786 (by rfl) ?_
  refine zj_iload_n dL_law_787 (by rfl) ?_
  refine zj_iconst (v := nI 1) dL_law_788 (by decide) ?_
  refine zj_iaddN dL_law_789 ?_
  refine zl_ld dL_law_790 (by omega) ?_
  refine zj_aload_n dL_law_791 (by rfl) ?_
  refine zj_iload_n dL_law_792 (by rfl) ?_
  refine zj_iconst (v := nI 2) dL_law_793 (by decide) ?_
  refine zj_iaddN dL_law_794 ?_
  refine zl_ld dL_law_795 (by omega) ?_
  refine zj_aload_n dL_law_796 (by rfl) ?_
  refine zj_iload_n dL_law_797 (by rfl) ?_
  refine zj_iconst (v := nI 3) dL_law_798 (by decide) ?_
  refine zj_iaddN dL_law_799 ?_
  refine zl_ld dL_law_800 (by omega) ?_
  refine zj_aload_n dL_law_801 (by rfl) ?_
  refine zj_iload_n dL_law_802 (by rfl) ?_
  refine zj_iconst (v := nI 4) dL_law_803 (by decide) ?_
  refine zj_iaddN dL_law_804 ?_
  refine zl_ld dL_law_805 (by omega) ?_
  refine zj_callV (As := [.int (xs (i + 1)), .int (xs (i + 2)), .int (xs (i + 3)), .int (xs (i + 4))]) (N := mX7_least) (rm' := rmD 3) dL_law_806 ⟨zq_399, zq_42, mw_X7_least, rfl, rfl, by show mX7_least.1.cls ≠ "java/lang/invoke/MethodHandle" ∧ mX7_least.1.cls ≠ "java/lang/invoke/VarHandle" ∧ (parseMethodDescriptor mX7_least.1.desc).map (fun d => d.parameters.length) = some 4; decide +kernel, by decide, by decide⟩ zq_400 zq_401 rfl rfl e7 z1 (by exact Nat.le_of_ble_eq_true rfl) ⟨by decide, by decide⟩ (fun v h' hq _ => ?_)
  obtain ⟨rfl, rfl⟩ := hq
  show zLw L xs 809 [some (.ref zS), some (.ref 0), some (.ref 47), some (.int (nI i))] [.int v] _ 64 2319
  refine zj_aload_n dL_law_809 (by rfl) ?_
  refine zj_aload_n dL_law_810 (by rfl) ?_
  refine zj_iload_n dL_law_811 (by rfl) ?_
  refine zj_iconst (v := nI 1) dL_law_812 (by decide) ?_
  refine zj_iaddN dL_law_813 ?_
  refine zl_ld dL_law_814 (by omega) ?_
  refine zj_aload_n dL_law_815 (by rfl) ?_
  refine zj_iload_n dL_law_816 (by rfl) ?_
  refine zj_iconst (v := nI 2) dL_law_817 (by decide) ?_
  refine zj_iaddN dL_law_818 ?_
  refine zl_ld dL_law_819 (by omega) ?_
  refine zj_aload_n dL_law_820 (by rfl) ?_
  refine zj_iload_n dL_law_821 (by rfl) ?_
  refine zj_iconst (v := nI 3) dL_law_822 (by decide) ?_
  refine zj_iaddN dL_law_823 ?_
  refine zl_ld dL_law_824 (by omega) ?_
  refine zj_aload_n dL_law_825 (by rfl) ?_
  refine zj_iload_n dL_law_826 (by rfl) ?_
  refine zj_iconst (v := nI 4) dL_law_827 (by decide) ?_
  refine zj_iaddN dL_law_828 ?_
  refine zl_ld dL_law_829 (by omega) ?_
  refine zj_callV (As := [.int (xs (i + 1)), .int (xs (i + 2)), .int (xs (i + 3)), .int (xs (i + 4))]) (N := mX8_least) (rm' := rmD 3) dL_law_830 ⟨zq_796, zq_50, mw_X8_least, rfl, rfl, by show mX8_least.1.cls ≠ "java/lang/invoke/MethodHandle" ∧ mX8_least.1.cls ≠ "java/lang/invoke/VarHandle" ∧ (parseMethodDescriptor mX8_least.1.desc).map (fun d => d.parameters.length) = some 4; decide +kernel, by decide, by decide⟩ zq_797 zq_798 rfl rfl e8 z2 (by exact Nat.le_of_ble_eq_true rfl) ⟨by decide, by decide⟩ (fun v h' hq _ => ?_)
  obtain ⟨rfl, rfl⟩ := hq
  show zLw L xs 833 [some (.ref zS), some (.ref 0), some (.ref 47), some (.int (nI i))] [.int v, .int v] _ 64 2319
  refine zj_icmp_eq (tgt := 1419) dL_law_833 (by decide) (fun _ => ?_) (fun zq => absurd rfl zq)
  exact K _ i2
set_option maxRecDepth 20000 in
theorem l_grid (inv : s_I h) (hi : i + 6 ≤ L) (hL : L ≤ 3072) (K : ∀ h', s_I h' → zLw L xs 1419 [some (.ref zS), some (.ref 0), some (.ref 47), some (.int (nI i))] [] h' 64 2319) : zLw L xs 838 [some (.ref zS), some (.ref 0), some (.ref 47), some (.int (nI i))] [] h 64 2319 := by
  obtain ⟨v, h1, h2, z1, z2, i2, fs8, e8⟩ := o_grid inv (xs (i + 1))
  obtain ⟨fs7, e7⟩ : ∃ fs, h[0]? = some (.inr (7, fs)) := by
    obtain ⟨C, P, S, T, H, O, g, w, r, rm⟩ := inv
    exact s_7 r
  refine zj_aload_n dL_law_838 (by rfl) ?_
  refine zj_aload_n dL_law_839 (by rfl) ?_
  refine zj_iload_n dL_law_840 (by rfl) ?_
  refine zj_iconst (v := nI 1) dL_law_841 (by decide) ?_
  refine zj_iaddN dL_law_842 ?_
  refine zl_ld dL_law_843 (by omega) ?_
  refine zj_callV (As := [.int (xs (i + 1))]) (N := mX7_grid) (rm' := rmD 0) dL_law_844 ⟨zq_403, zq_42, mw_X7_grid, rfl, rfl, by show mX7_grid.1.cls ≠ "java/lang/invoke/MethodHandle" ∧ mX7_grid.1.cls ≠ "java/lang/invoke/VarHandle" ∧ (parseMethodDescriptor mX7_grid.1.desc).map (fun d => d.parameters.length) = some 1; decide +kernel, by decide, by decide⟩ zq_404 zq_405 rfl rfl e7 z1 (by exact Nat.le_of_ble_eq_true rfl) ⟨by decide, by decide⟩ (fun v h' hq _ => ?_)
  obtain ⟨rfl, rfl⟩ := hq
  show zLw L xs 847 [some (.ref zS), some (.ref 0), some (.ref 47), some (.int (nI i))] [.int v] _ 64 2319
  refine zj_aload_n dL_law_847 (by rfl) ?_
  refine zj_aload_n dL_law_848 (by rfl) ?_
  refine zj_iload_n dL_law_849 (by rfl) ?_
  refine zj_iconst (v := nI 1) dL_law_850 (by decide) ?_
  refine zj_iaddN dL_law_851 ?_
  refine zl_ld dL_law_852 (by omega) ?_
  refine zj_callV (As := [.int (xs (i + 1))]) (N := mX8_grid) (rm' := rmD 1) dL_law_853 ⟨zq_800, zq_50, mw_X8_grid, rfl, rfl, by show mX8_grid.1.cls ≠ "java/lang/invoke/MethodHandle" ∧ mX8_grid.1.cls ≠ "java/lang/invoke/VarHandle" ∧ (parseMethodDescriptor mX8_grid.1.desc).map (fun d => d.parameters.length) = some 1; decide +kernel, by decide, by decide⟩ zq_801 zq_802 rfl rfl e8 z2 (by exact Nat.le_of_ble_eq_true rfl) ⟨by decide, by decide⟩ (fun v h' hq _ => ?_)
  obtain ⟨rfl, rfl⟩ := hq
  show zLw L xs 856 [some (.ref zS), some (.ref 0), some (.ref 47), some (.int (nI i))] [.int v, .int v] _ 64 2319
  refine zj_icmp_eq (tgt := 1419) dL_law_856 (by decide) (fun _ => ?_) (fun zq => absurd rfl zq)
  exact K _ i2
set_option maxRecDepth 20000 in
theorem l_shape (inv : s_I h) (hi : i + 6 ≤ L) (hL : L ≤ 3072) (K : ∀ h', s_I h' → zLw L xs 1419 [some (.ref zS), some (.ref 0), some (.ref 47), some (.int (nI i))] [] h' 64 2319) : zLw L xs 861 [some (.ref zS), some (.ref 0), some (.ref 47), some (.int (nI i))] [] h 64 2319 := by
  obtain ⟨v, h1, h2, z1, z2, i2, fs8, e8⟩ := o_shape inv (xs (i + 1)) (xs (i + 2)) (xs (i + 3))
  obtain ⟨fs7, e7⟩ : ∃ fs, h[0]? = some (.inr (7, fs)) := by
    obtain ⟨C, P, S, T, H, O, g, w, r, rm⟩ := inv
    exact s_7 r
  refine zj_aload_n dL_law_861 (by rfl) ?_
  refine zj_aload_n dL_law_862 (by rfl) ?_
  refine zj_iload_n dL_law_863 (by rfl) ?_
  refine zj_iconst (v := nI 1) dL_law_864 (by decide) ?_
  refine zj_iaddN dL_law_865 ?_
  refine zl_ld dL_law_866 (by omega) ?_
  refine zj_aload_n dL_law_867 (by rfl) ?_
  refine zj_iload_n dL_law_868 (by rfl) ?_
  refine zj_iconst (v := nI 2) dL_law_869 (by decide) ?_
  refine zj_iaddN dL_law_870 ?_
  refine zl_ld dL_law_871 (by omega) ?_
  refine zj_aload_n dL_law_872 (by rfl) ?_
  refine zj_iload_n dL_law_873 (by rfl) ?_
  refine zj_iconst (v := nI 3) dL_law_874 (by decide) ?_
  refine zj_iaddN dL_law_875 ?_
  refine zl_ld dL_law_876 (by omega) ?_
  refine zj_callV (As := [.int (xs (i + 1)), .int (xs (i + 2)), .int (xs (i + 3))]) (N := mX7_shape) (rm' := rmD 2) dL_law_877 ⟨zq_407, zq_42, mw_X7_shape, rfl, rfl, by show mX7_shape.1.cls ≠ "java/lang/invoke/MethodHandle" ∧ mX7_shape.1.cls ≠ "java/lang/invoke/VarHandle" ∧ (parseMethodDescriptor mX7_shape.1.desc).map (fun d => d.parameters.length) = some 3; decide +kernel, by decide, by decide⟩ zq_408 zq_409 rfl rfl e7 z1 (by exact Nat.le_of_ble_eq_true rfl) ⟨by decide, by decide⟩ (fun v h' hq _ => ?_)
  obtain ⟨rfl, rfl⟩ := hq
  show zLw L xs 880 [some (.ref zS), some (.ref 0), some (.ref 47), some (.int (nI i))] [.int v] _ 64 2319
  refine zj_aload_n dL_law_880 (by rfl) ?_
  refine zj_aload_n dL_law_881 (by rfl) ?_
  refine zj_iload_n dL_law_882 (by rfl) ?_
  refine zj_iconst (v := nI 1) dL_law_883 (by decide) ?_
  refine zj_iaddN dL_law_884 ?_
  refine zl_ld dL_law_885 (by omega) ?_
  refine zj_aload_n dL_law_886 (by rfl) ?_
  refine zj_iload_n dL_law_887 (by rfl) ?_
  refine zj_iconst (v := nI 2) dL_law_888 (by decide) ?_
  refine zj_iaddN dL_law_889 ?_
  refine zl_ld dL_law_890 (by omega) ?_
  refine zj_aload_n dL_law_891 (by rfl) ?_
  refine zj_iload_n dL_law_892 (by rfl) ?_
  refine zj_iconst (v := nI 3) dL_law_893 (by decide) ?_
  refine zj_iaddN dL_law_894 ?_
  refine zl_ld dL_law_895 (by omega) ?_
  refine zj_callV (As := [.int (xs (i + 1)), .int (xs (i + 2)), .int (xs (i + 3))]) (N := mX8_shape) (rm' := rmD 3) dL_law_896 ⟨zq_804, zq_50, mw_X8_shape, rfl, rfl, by show mX8_shape.1.cls ≠ "java/lang/invoke/MethodHandle" ∧ mX8_shape.1.cls ≠ "java/lang/invoke/VarHandle" ∧ (parseMethodDescriptor mX8_shape.1.desc).map (fun d => d.parameters.length) = some 3; decide +kernel, by decide, by decide⟩ zq_805 zq_806 rfl rfl e8 z2 (by exact Nat.le_of_ble_eq_true rfl) ⟨by decide, by decide⟩ (fun v h' hq _ => ?_)
  obtain ⟨rfl, rfl⟩ := hq
  show zLw L xs 899 [some (.ref zS), some (.ref 0), some (.ref 47), some (.int (nI i))] [.int v, .int v] _ 64 2319
  refine zj_icmp_eq (tgt := 1419) dL_law_899 (by decide) (fun _ => ?_) (fun zq => absurd rfl zq)
  exact K _ i2
set_option maxRecDepth 20000 in
theorem l_shaped (inv : s_I h) (hi : i + 6 ≤ L) (hL : L ≤ 3072) (K : ∀ h', s_I h' → zLw L xs 1419 [some (.ref zS), some (.ref 0), some (.ref 47), some (.int (nI i))] [] h' 64 2319) : zLw L xs 904 [some (.ref zS), some (.ref 0), some (.ref 47), some (.int (nI i))] [] h 64 2319 := by
  obtain ⟨v, h1, h2, z1, z2, i2, fs8, e8⟩ := o_shaped inv (xs (i + 1)) (xs (i + 2)) (xs (i + 3)) (xs (i + 4))
  obtain ⟨fs7, e7⟩ : ∃ fs, h[0]? = some (.inr (7, fs)) := by
    obtain ⟨C, P, S, T, H, O, g, w, r, rm⟩ := inv
    exact s_7 r
  refine zj_aload_n dL_law_904 (by rfl) ?_
  refine zj_aload_n dL_law_905 (by rfl) ?_
  refine zj_iload_n dL_law_906 (by rfl) ?_
  refine zj_iconst (v := nI 1) dL_law_907 (by decide) ?_
  refine zj_iaddN dL_law_908 ?_
  refine zl_ld dL_law_909 (by omega) ?_
  refine zj_aload_n dL_law_910 (by rfl) ?_
  refine zj_iload_n dL_law_911 (by rfl) ?_
  refine zj_iconst (v := nI 2) dL_law_912 (by decide) ?_
  refine zj_iaddN dL_law_913 ?_
  refine zl_ld dL_law_914 (by omega) ?_
  refine zj_aload_n dL_law_915 (by rfl) ?_
  refine zj_iload_n dL_law_916 (by rfl) ?_
  refine zj_iconst (v := nI 3) dL_law_917 (by decide) ?_
  refine zj_iaddN dL_law_918 ?_
  refine zl_ld dL_law_919 (by omega) ?_
  refine zj_aload_n dL_law_920 (by rfl) ?_
  refine zj_iload_n dL_law_921 (by rfl) ?_
  refine zj_iconst (v := nI 4) dL_law_922 (by decide) ?_
  refine zj_iaddN dL_law_923 ?_
  refine zl_ld dL_law_924 (by omega) ?_
  refine zj_callV (As := [.int (xs (i + 1)), .int (xs (i + 2)), .int (xs (i + 3)), .int (xs (i + 4))]) (N := mX7_shaped) (rm' := rmD 2) dL_law_925 ⟨zq_427, zq_42, mw_X7_shaped, rfl, rfl, by show mX7_shaped.1.cls ≠ "java/lang/invoke/MethodHandle" ∧ mX7_shaped.1.cls ≠ "java/lang/invoke/VarHandle" ∧ (parseMethodDescriptor mX7_shaped.1.desc).map (fun d => d.parameters.length) = some 4; decide +kernel, by decide, by decide⟩ zq_428 zq_429 rfl rfl e7 z1 (by exact Nat.le_of_ble_eq_true rfl) ⟨by decide, by decide⟩ (fun v h' hq _ => ?_)
  obtain ⟨rfl, rfl⟩ := hq
  show zLw L xs 928 [some (.ref zS), some (.ref 0), some (.ref 47), some (.int (nI i))] [.int v] _ 64 2319
  refine zj_aload_n dL_law_928 (by rfl) ?_
  refine zj_aload_n dL_law_929 (by rfl) ?_
  refine zj_iload_n dL_law_930 (by rfl) ?_
  refine zj_iconst (v := nI 1) dL_law_931 (by decide) ?_
  refine zj_iaddN dL_law_932 ?_
  refine zl_ld dL_law_933 (by omega) ?_
  refine zj_aload_n dL_law_934 (by rfl) ?_
  refine zj_iload_n dL_law_935 (by rfl) ?_
  refine zj_iconst (v := nI 2) dL_law_936 (by decide) ?_
  refine zj_iaddN dL_law_937 ?_
  refine zl_ld dL_law_938 (by omega) ?_
  refine zj_aload_n dL_law_939 (by rfl) ?_
  refine zj_iload_n dL_law_940 (by rfl) ?_
  refine zj_iconst (v := nI 3) dL_law_941 (by decide) ?_
  refine zj_iaddN dL_law_942 ?_
  refine zl_ld dL_law_943 (by omega) ?_
  refine zj_aload_n dL_law_944 (by rfl) ?_
  refine zj_iload_n dL_law_945 (by rfl) ?_
  refine zj_iconst (v := nI 4) dL_law_946 (by decide) ?_
  refine zj_iaddN dL_law_947 ?_
  refine zl_ld dL_law_948 (by omega) ?_
  refine zj_callV (As := [.int (xs (i + 1)), .int (xs (i + 2)), .int (xs (i + 3)), .int (xs (i + 4))]) (N := mX8_shaped) (rm' := rmD 3) dL_law_949 ⟨zq_823, zq_50, mw_X8_shaped, rfl, rfl, by show mX8_shaped.1.cls ≠ "java/lang/invoke/MethodHandle" ∧ mX8_shaped.1.cls ≠ "java/lang/invoke/VarHandle" ∧ (parseMethodDescriptor mX8_shaped.1.desc).map (fun d => d.parameters.length) = some 4; decide +kernel, by decide, by decide⟩ zq_824 zq_825 rfl rfl e8 z2 (by exact Nat.le_of_ble_eq_true rfl) ⟨by decide, by decide⟩ (fun v h' hq _ => ?_)
  obtain ⟨rfl, rfl⟩ := hq
  show zLw L xs 952 [some (.ref zS), some (.ref 0), some (.ref 47), some (.int (nI i))] [.int v, .int v] _ 64 2319
  refine zj_icmp_eq (tgt := 1419) dL_law_952 (by decide) (fun _ => ?_) (fun zq => absurd rfl zq)
  exact K _ i2
set_option maxRecDepth 20000 in
theorem l_ways (inv : s_I h) (hi : i + 6 ≤ L) (hL : L ≤ 3072) (K : ∀ h', s_I h' → zLw L xs 1419 [some (.ref zS), some (.ref 0), some (.ref 47), some (.int (nI i))] [] h' 64 2319) : zLw L xs 957 [some (.ref zS), some (.ref 0), some (.ref 47), some (.int (nI i))] [] h 64 2319 := by
  obtain ⟨v, h1, h2, z1, z2, i2, fs8, e8⟩ := o_ways inv (xs (i + 1)) (xs (i + 2))
  obtain ⟨fs7, e7⟩ : ∃ fs, h[0]? = some (.inr (7, fs)) := by
    obtain ⟨C, P, S, T, H, O, g, w, r, rm⟩ := inv
    exact s_7 r
  refine zj_aload_n dL_law_957 (by rfl) ?_
  refine zj_aload_n dL_law_958 (by rfl) ?_
  refine zj_iload_n dL_law_959 (by rfl) ?_
  refine zj_iconst (v := nI 1) dL_law_960 (by decide) ?_
  refine zj_iaddN dL_law_961 ?_
  refine zl_ld dL_law_962 (by omega) ?_
  refine zj_aload_n dL_law_963 (by rfl) ?_
  refine zj_iload_n dL_law_964 (by rfl) ?_
  refine zj_iconst (v := nI 2) dL_law_965 (by decide) ?_
  refine zj_iaddN dL_law_966 ?_
  refine zl_ld dL_law_967 (by omega) ?_
  refine zj_callV (As := [.int (xs (i + 1)), .int (xs (i + 2))]) (N := mX7_ways) (rm' := rmD 3) dL_law_968 ⟨zq_431, zq_42, mw_X7_ways, rfl, rfl, by show mX7_ways.1.cls ≠ "java/lang/invoke/MethodHandle" ∧ mX7_ways.1.cls ≠ "java/lang/invoke/VarHandle" ∧ (parseMethodDescriptor mX7_ways.1.desc).map (fun d => d.parameters.length) = some 2; decide +kernel, by decide, by decide⟩ zq_432 zq_433 rfl rfl e7 z1 (by exact Nat.le_of_ble_eq_true rfl) ⟨by decide, by decide⟩ (fun v h' hq _ => ?_)
  obtain ⟨rfl, rfl⟩ := hq
  show zLw L xs 971 [some (.ref zS), some (.ref 0), some (.ref 47), some (.int (nI i))] [.int v] _ 64 2319
  refine zj_aload_n dL_law_971 (by rfl) ?_
  refine zj_aload_n dL_law_972 (by rfl) ?_
  refine zj_iload_n dL_law_973 (by rfl) ?_
  refine zj_iconst (v := nI 1) dL_law_974 (by decide) ?_
  refine zj_iaddN dL_law_975 ?_
  refine zl_ld dL_law_976 (by omega) ?_
  refine zj_aload_n dL_law_977 (by rfl) ?_
  refine zj_iload_n dL_law_978 (by rfl) ?_
  refine zj_iconst (v := nI 2) dL_law_979 (by decide) ?_
  refine zj_iaddN dL_law_980 ?_
  refine zl_ld dL_law_981 (by omega) ?_
  refine zj_callV (As := [.int (xs (i + 1)), .int (xs (i + 2))]) (N := mX8_ways) (rm' := rmD 2) dL_law_982 ⟨zq_827, zq_50, mw_X8_ways, rfl, rfl, by show mX8_ways.1.cls ≠ "java/lang/invoke/MethodHandle" ∧ mX8_ways.1.cls ≠ "java/lang/invoke/VarHandle" ∧ (parseMethodDescriptor mX8_ways.1.desc).map (fun d => d.parameters.length) = some 2; decide +kernel, by decide, by decide⟩ zq_828 zq_829 rfl rfl e8 z2 (by exact Nat.le_of_ble_eq_true rfl) ⟨by decide, by decide⟩ (fun v h' hq _ => ?_)
  obtain ⟨rfl, rfl⟩ := hq
  show zLw L xs 985 [some (.ref zS), some (.ref 0), some (.ref 47), some (.int (nI i))] [.int v, .int v] _ 64 2319
  refine zj_icmp_eq (tgt := 1419) dL_law_985 (by decide) (fun _ => ?_) (fun zq => absurd rfl zq)
  exact K _ i2
set_option maxRecDepth 20000 in
theorem l_cuts (inv : s_I h) (hi : i + 6 ≤ L) (hL : L ≤ 3072) (K : ∀ h', s_I h' → zLw L xs 1419 [some (.ref zS), some (.ref 0), some (.ref 47), some (.int (nI i))] [] h' 64 2319) : zLw L xs 990 [some (.ref zS), some (.ref 0), some (.ref 47), some (.int (nI i))] [] h 64 2319 := by
  obtain ⟨v, h1, h2, z1, z2, i2, fs8, e8⟩ := o_cuts inv (xs (i + 1)) (xs (i + 2))
  obtain ⟨fs7, e7⟩ : ∃ fs, h[0]? = some (.inr (7, fs)) := by
    obtain ⟨C, P, S, T, H, O, g, w, r, rm⟩ := inv
    exact s_7 r
  refine zj_aload_n dL_law_990 (by rfl) ?_
  refine zj_aload_n dL_law_991 (by rfl) ?_
  refine zj_iload_n dL_law_992 (by rfl) ?_
  refine zj_iconst (v := nI 1) dL_law_993 (by decide) ?_
  refine zj_iaddN dL_law_994 ?_
  refine zl_ld dL_law_995 (by omega) ?_
  refine zj_aload_n dL_law_996 (by rfl) ?_
  refine zj_iload_n dL_law_997 (by rfl) ?_
  refine zj_iconst (v := nI 2) dL_law_998 (by decide) ?_
  refine zj_iaddN dL_law_999 ?_
  refine zl_ld dL_law_1000 (by omega) ?_
  refine zj_callV (As := [.int (xs (i + 1)), .int (xs (i + 2))]) (N := mX7_cuts) (rm' := rmD 3) dL_law_1001 ⟨zq_465, zq_42, mw_X7_cuts, rfl, rfl, by show mX7_cuts.1.cls ≠ "java/lang/invoke/MethodHandle" ∧ mX7_cuts.1.cls ≠ "java/lang/invoke/VarHandle" ∧ (parseMethodDescriptor mX7_cuts.1.desc).map (fun d => d.parameters.length) = some 2; decide +kernel, by decide, by decide⟩ zq_466 zq_467 rfl rfl e7 z1 (by exact Nat.le_of_ble_eq_true rfl) ⟨by decide, by decide⟩ (fun v h' hq _ => ?_)
  obtain ⟨rfl, rfl⟩ := hq
  show zLw L xs 1004 [some (.ref zS), some (.ref 0), some (.ref 47), some (.int (nI i))] [.int v] _ 64 2319
  refine zj_aload_n dL_law_1004 (by rfl) ?_
  refine zj_aload_n dL_law_1005 (by rfl) ?_
  refine zj_iload_n dL_law_1006 (by rfl) ?_
  refine zj_iconst (v := nI 1) dL_law_1007 (by decide) ?_
  refine zj_iaddN dL_law_1008 ?_
  refine zl_ld dL_law_1009 (by omega) ?_
  refine zj_aload_n dL_law_1010 (by rfl) ?_
  refine zj_iload_n dL_law_1011 (by rfl) ?_
  refine zj_iconst (v := nI 2) dL_law_1012 (by decide) ?_
  refine zj_iaddN dL_law_1013 ?_
  refine zl_ld dL_law_1014 (by omega) ?_
  refine zj_callV (As := [.int (xs (i + 1)), .int (xs (i + 2))]) (N := mX8_cuts) (rm' := rmD 2) dL_law_1015 ⟨zq_844, zq_50, mw_X8_cuts, rfl, rfl, by show mX8_cuts.1.cls ≠ "java/lang/invoke/MethodHandle" ∧ mX8_cuts.1.cls ≠ "java/lang/invoke/VarHandle" ∧ (parseMethodDescriptor mX8_cuts.1.desc).map (fun d => d.parameters.length) = some 2; decide +kernel, by decide, by decide⟩ zq_845 zq_846 rfl rfl e8 z2 (by exact Nat.le_of_ble_eq_true rfl) ⟨by decide, by decide⟩ (fun v h' hq _ => ?_)
  obtain ⟨rfl, rfl⟩ := hq
  show zLw L xs 1018 [some (.ref zS), some (.ref 0), some (.ref 47), some (.int (nI i))] [.int v, .int v] _ 64 2319
  refine zj_icmp_eq (tgt := 1419) dL_law_1018 (by decide) (fun _ => ?_) (fun zq => absurd rfl zq)
  exact K _ i2
set_option maxRecDepth 20000 in
theorem l_hand (inv : s_I h) (hi : i + 6 ≤ L) (hL : L ≤ 3072) (K : ∀ h', s_I h' → zLw L xs 1419 [some (.ref zS), some (.ref 0), some (.ref 47), some (.int (nI i))] [] h' 64 2319) : zLw L xs 1023 [some (.ref zS), some (.ref 0), some (.ref 47), some (.int (nI i))] [] h 64 2319 := by
  obtain ⟨v, h1, h2, z1, z2, i2, fs8, e8⟩ := o_hand inv (xs (i + 1)) (xs (i + 2))
  obtain ⟨fs7, e7⟩ : ∃ fs, h[0]? = some (.inr (7, fs)) := by
    obtain ⟨C, P, S, T, H, O, g, w, r, rm⟩ := inv
    exact s_7 r
  refine zj_aload_n dL_law_1023 (by rfl) ?_
  refine zj_aload_n dL_law_1024 (by rfl) ?_
  refine zj_iload_n dL_law_1025 (by rfl) ?_
  refine zj_iconst (v := nI 1) dL_law_1026 (by decide) ?_
  refine zj_iaddN dL_law_1027 ?_
  refine zl_ld dL_law_1028 (by omega) ?_
  refine zj_aload_n dL_law_1029 (by rfl) ?_
  refine zj_iload_n dL_law_1030 (by rfl) ?_
  refine zj_iconst (v := nI 2) dL_law_1031 (by decide) ?_
  refine zj_iaddN dL_law_1032 ?_
  refine zl_ld dL_law_1033 (by omega) ?_
  refine zj_callV (As := [.int (xs (i + 1)), .int (xs (i + 2))]) (N := mX7_hand) (rm' := rmD 1) dL_law_1034 ⟨zq_478, zq_42, mw_X7_hand, rfl, rfl, by show mX7_hand.1.cls ≠ "java/lang/invoke/MethodHandle" ∧ mX7_hand.1.cls ≠ "java/lang/invoke/VarHandle" ∧ (parseMethodDescriptor mX7_hand.1.desc).map (fun d => d.parameters.length) = some 2; decide +kernel, by decide, by decide⟩ zq_479 zq_480 rfl rfl e7 z1 (by exact Nat.le_of_ble_eq_true rfl) ⟨by decide, by decide⟩ (fun v h' hq _ => ?_)
  obtain ⟨rfl, rfl⟩ := hq
  show zLw L xs 1037 [some (.ref zS), some (.ref 0), some (.ref 47), some (.int (nI i))] [.int v] _ 64 2319
  refine zj_aload_n dL_law_1037 (by rfl) ?_
  refine zj_aload_n dL_law_1038 (by rfl) ?_
  refine zj_iload_n dL_law_1039 (by rfl) ?_
  refine zj_iconst (v := nI 1) dL_law_1040 (by decide) ?_
  refine zj_iaddN dL_law_1041 ?_
  refine zl_ld dL_law_1042 (by omega) ?_
  refine zj_aload_n dL_law_1043 (by rfl) ?_
  refine zj_iload_n dL_law_1044 (by rfl) ?_
  refine zj_iconst (v := nI 2) dL_law_1045 (by decide) ?_
  refine zj_iaddN dL_law_1046 ?_
  refine zl_ld dL_law_1047 (by omega) ?_
  refine zj_callV (As := [.int (xs (i + 1)), .int (xs (i + 2))]) (N := mX8_hand) (rm' := rmD 1) dL_law_1048 ⟨zq_848, zq_50, mw_X8_hand, rfl, rfl, by show mX8_hand.1.cls ≠ "java/lang/invoke/MethodHandle" ∧ mX8_hand.1.cls ≠ "java/lang/invoke/VarHandle" ∧ (parseMethodDescriptor mX8_hand.1.desc).map (fun d => d.parameters.length) = some 2; decide +kernel, by decide, by decide⟩ zq_849 zq_850 rfl rfl e8 z2 (by exact Nat.le_of_ble_eq_true rfl) ⟨by decide, by decide⟩ (fun v h' hq _ => ?_)
  obtain ⟨rfl, rfl⟩ := hq
  show zLw L xs 1051 [some (.ref zS), some (.ref 0), some (.ref 47), some (.int (nI i))] [.int v, .int v] _ 64 2319
  refine zj_icmp_eq (tgt := 1419) dL_law_1051 (by decide) (fun _ => ?_) (fun zq => absurd rfl zq)
  exact K _ i2
set_option maxRecDepth 20000 in
theorem l_strains (inv : s_I h) (hi : i + 6 ≤ L) (hL : L ≤ 3072) (K : ∀ h', s_I h' → zLw L xs 1419 [some (.ref zS), some (.ref 0), some (.ref 47), some (.int (nI i))] [] h' 64 2319) : zLw L xs 1056 [some (.ref zS), some (.ref 0), some (.ref 47), some (.int (nI i))] [] h 64 2319 := by
  obtain ⟨v, h1, h2, z1, z2, i2, fs8, e8⟩ := o_strains inv (xs (i + 1))
  obtain ⟨fs7, e7⟩ : ∃ fs, h[0]? = some (.inr (7, fs)) := by
    obtain ⟨C, P, S, T, H, O, g, w, r, rm⟩ := inv
    exact s_7 r
  refine zj_aload_n dL_law_1056 (by rfl) ?_
  refine zj_aload_n dL_law_1057 (by rfl) ?_
  refine zj_iload_n dL_law_1058 (by rfl) ?_
  refine zj_iconst (v := nI 1) dL_law_1059 (by decide) ?_
  refine zj_iaddN dL_law_1060 ?_
  refine zl_ld dL_law_1061 (by omega) ?_
  refine zj_callV (As := [.int (xs (i + 1))]) (N := mX7_strains) (rm' := rmD 5) dL_law_1062 ⟨zq_487, zq_42, mw_X7_strains, rfl, rfl, by show mX7_strains.1.cls ≠ "java/lang/invoke/MethodHandle" ∧ mX7_strains.1.cls ≠ "java/lang/invoke/VarHandle" ∧ (parseMethodDescriptor mX7_strains.1.desc).map (fun d => d.parameters.length) = some 1; decide +kernel, by decide, by decide⟩ zq_488 zq_489 rfl rfl e7 z1 (by exact Nat.le_of_ble_eq_true rfl) ⟨by decide, by decide⟩ (fun v h' hq _ => ?_)
  obtain ⟨rfl, rfl⟩ := hq
  show zLw L xs 1065 [some (.ref zS), some (.ref 0), some (.ref 47), some (.int (nI i))] [.int v] _ 64 2319
  refine zj_aload_n dL_law_1065 (by rfl) ?_
  refine zj_aload_n dL_law_1066 (by rfl) ?_
  refine zj_iload_n dL_law_1067 (by rfl) ?_
  refine zj_iconst (v := nI 1) dL_law_1068 (by decide) ?_
  refine zj_iaddN dL_law_1069 ?_
  refine zl_ld dL_law_1070 (by omega) ?_
  refine zj_callV (As := [.int (xs (i + 1))]) (N := mX8_strains) (rm' := rmD 3) dL_law_1071 ⟨zq_852, zq_50, mw_X8_strains, rfl, rfl, by show mX8_strains.1.cls ≠ "java/lang/invoke/MethodHandle" ∧ mX8_strains.1.cls ≠ "java/lang/invoke/VarHandle" ∧ (parseMethodDescriptor mX8_strains.1.desc).map (fun d => d.parameters.length) = some 1; decide +kernel, by decide, by decide⟩ zq_853 zq_854 rfl rfl e8 z2 (by exact Nat.le_of_ble_eq_true rfl) ⟨by decide, by decide⟩ (fun v h' hq _ => ?_)
  obtain ⟨rfl, rfl⟩ := hq
  show zLw L xs 1074 [some (.ref zS), some (.ref 0), some (.ref 47), some (.int (nI i))] [.int v, .int v] _ 64 2319
  refine zj_icmp_eq (tgt := 1419) dL_law_1074 (by decide) (fun _ => ?_) (fun zq => absurd rfl zq)
  exact K _ i2
set_option maxRecDepth 20000 in
theorem l_plays (inv : s_I h) (hi : i + 6 ≤ L) (hL : L ≤ 3072) (K : ∀ h', s_I h' → zLw L xs 1419 [some (.ref zS), some (.ref 0), some (.ref 47), some (.int (nI i))] [] h' 64 2319) : zLw L xs 1079 [some (.ref zS), some (.ref 0), some (.ref 47), some (.int (nI i))] [] h 64 2319 := by
  obtain ⟨v, h1, h2, z1, z2, i2, fs8, e8⟩ := o_plays inv (xs (i + 1)) (xs (i + 2))
  obtain ⟨fs7, e7⟩ : ∃ fs, h[0]? = some (.inr (7, fs)) := by
    obtain ⟨C, P, S, T, H, O, g, w, r, rm⟩ := inv
    exact s_7 r
  refine zj_aload_n dL_law_1079 (by rfl) ?_
  refine zj_aload_n dL_law_1080 (by rfl) ?_
  refine zj_iload_n dL_law_1081 (by rfl) ?_
  refine zj_iconst (v := nI 1) dL_law_1082 (by decide) ?_
  refine zj_iaddN dL_law_1083 ?_
  refine zl_ld dL_law_1084 (by omega) ?_
  refine zj_aload_n dL_law_1085 (by rfl) ?_
  refine zj_iload_n dL_law_1086 (by rfl) ?_
  refine zj_iconst (v := nI 2) dL_law_1087 (by decide) ?_
  refine zj_iaddN dL_law_1088 ?_
  refine zl_ld dL_law_1089 (by omega) ?_
  refine zj_callV (As := [.int (xs (i + 1)), .int (xs (i + 2))]) (N := mX7_plays) (rm' := rmD 5) dL_law_1090 ⟨zq_512, zq_42, mw_X7_plays, rfl, rfl, by show mX7_plays.1.cls ≠ "java/lang/invoke/MethodHandle" ∧ mX7_plays.1.cls ≠ "java/lang/invoke/VarHandle" ∧ (parseMethodDescriptor mX7_plays.1.desc).map (fun d => d.parameters.length) = some 2; decide +kernel, by decide, by decide⟩ zq_513 zq_514 rfl rfl e7 z1 (by exact Nat.le_of_ble_eq_true rfl) ⟨by decide, by decide⟩ (fun v h' hq _ => ?_)
  obtain ⟨rfl, rfl⟩ := hq
  show zLw L xs 1093 [some (.ref zS), some (.ref 0), some (.ref 47), some (.int (nI i))] [.int v] _ 64 2319
  refine zj_aload_n dL_law_1093 (by rfl) ?_
  refine zj_aload_n dL_law_1094 (by rfl) ?_
  refine zj_iload_n dL_law_1095 (by rfl) ?_
  refine zj_iconst (v := nI 1) dL_law_1096 (by decide) ?_
  refine zj_iaddN dL_law_1097 ?_
  refine zl_ld dL_law_1098 (by omega) ?_
  refine zj_aload_n dL_law_1099 (by rfl) ?_
  refine zj_iload_n dL_law_1100 (by rfl) ?_
  refine zj_iconst (v := nI 2) dL_law_1101 (by decide) ?_
  refine zj_iaddN dL_law_1102 ?_
  refine zl_ld dL_law_1103 (by omega) ?_
  refine zj_callV (As := [.int (xs (i + 1)), .int (xs (i + 2))]) (N := mX8_plays) (rm' := rmD 3) dL_law_1104 ⟨zq_871, zq_50, mw_X8_plays, rfl, rfl, by show mX8_plays.1.cls ≠ "java/lang/invoke/MethodHandle" ∧ mX8_plays.1.cls ≠ "java/lang/invoke/VarHandle" ∧ (parseMethodDescriptor mX8_plays.1.desc).map (fun d => d.parameters.length) = some 2; decide +kernel, by decide, by decide⟩ zq_872 zq_873 rfl rfl e8 z2 (by exact Nat.le_of_ble_eq_true rfl) ⟨by decide, by decide⟩ (fun v h' hq _ => ?_)
  obtain ⟨rfl, rfl⟩ := hq
  show zLw L xs 1107 [some (.ref zS), some (.ref 0), some (.ref 47), some (.int (nI i))] [.int v, .int v] _ 64 2319
  refine zj_icmp_eq (tgt := 1419) dL_law_1107 (by decide) (fun _ => ?_) (fun zq => absurd rfl zq)
  exact K _ i2
set_option maxRecDepth 20000 in
theorem l_join (inv : s_I h) (hi : i + 6 ≤ L) (hL : L ≤ 3072) (K : ∀ h', s_I h' → zLw L xs 1419 [some (.ref zS), some (.ref 0), some (.ref 47), some (.int (nI i))] [] h' 64 2319) : zLw L xs 1112 [some (.ref zS), some (.ref 0), some (.ref 47), some (.int (nI i))] [] h 64 2319 := by
  obtain ⟨v, h1, h2, z1, z2, i2, fs8, e8⟩ := o_join inv (xs (i + 1)) (xs (i + 2)) (xs (i + 3)) (xs (i + 4))
  obtain ⟨fs7, e7⟩ : ∃ fs, h[0]? = some (.inr (7, fs)) := by
    obtain ⟨C, P, S, T, H, O, g, w, r, rm⟩ := inv
    exact s_7 r
  refine zj_aload_n dL_law_1112 (by rfl) ?_
  refine zj_aload_n dL_law_1113 (by rfl) ?_
  refine zj_iload_n dL_law_1114 (by rfl) ?_
  refine zj_iconst (v := nI 1) dL_law_1115 (by decide) ?_
  refine zj_iaddN dL_law_1116 ?_
  refine zl_ld dL_law_1117 (by omega) ?_
  refine zj_aload_n dL_law_1118 (by rfl) ?_
  refine zj_iload_n dL_law_1119 (by rfl) ?_
  refine zj_iconst (v := nI 2) dL_law_1120 (by decide) ?_
  refine zj_iaddN dL_law_1121 ?_
  refine zl_ld dL_law_1122 (by omega) ?_
  refine zj_aload_n dL_law_1123 (by rfl) ?_
  refine zj_iload_n dL_law_1124 (by rfl) ?_
  refine zj_iconst (v := nI 3) dL_law_1125 (by decide) ?_
  refine zj_iaddN dL_law_1126 ?_
  refine zl_ld dL_law_1127 (by omega) ?_
  refine zj_aload_n dL_law_1128 (by rfl) ?_
  refine zj_iload_n dL_law_1129 (by rfl) ?_
  refine zj_iconst (v := nI 4) dL_law_1130 (by decide) ?_
  refine zj_iaddN dL_law_1131 ?_
  refine zl_ld dL_law_1132 (by omega) ?_
  refine zj_callV (As := [.int (xs (i + 1)), .int (xs (i + 2)), .int (xs (i + 3)), .int (xs (i + 4))]) (N := mX7_join) (rm' := rmD 1) dL_law_1133 ⟨zq_521, zq_42, mw_X7_join, rfl, rfl, by show mX7_join.1.cls ≠ "java/lang/invoke/MethodHandle" ∧ mX7_join.1.cls ≠ "java/lang/invoke/VarHandle" ∧ (parseMethodDescriptor mX7_join.1.desc).map (fun d => d.parameters.length) = some 4; decide +kernel, by decide, by decide⟩ zq_522 zq_523 rfl rfl e7 z1 (by exact Nat.le_of_ble_eq_true rfl) ⟨by decide, by decide⟩ (fun v h' hq _ => ?_)
  obtain ⟨rfl, rfl⟩ := hq
  show zLw L xs 1136 [some (.ref zS), some (.ref 0), some (.ref 47), some (.int (nI i))] [.int v] _ 64 2319
  refine zj_aload_n dL_law_1136 (by rfl) ?_
  refine zj_aload_n dL_law_1137 (by rfl) ?_
  refine zj_iload_n dL_law_1138 (by rfl) ?_
  refine zj_iconst (v := nI 1) dL_law_1139 (by decide) ?_
  refine zj_iaddN dL_law_1140 ?_
  refine zl_ld dL_law_1141 (by omega) ?_
  refine zj_aload_n dL_law_1142 (by rfl) ?_
  refine zj_iload_n dL_law_1143 (by rfl) ?_
  refine zj_iconst (v := nI 2) dL_law_1144 (by decide) ?_
  refine zj_iaddN dL_law_1145 ?_
  refine zl_ld dL_law_1146 (by omega) ?_
  refine zj_aload_n dL_law_1147 (by rfl) ?_
  refine zj_iload_n dL_law_1148 (by rfl) ?_
  refine zj_iconst (v := nI 3) dL_law_1149 (by decide) ?_
  refine zj_iaddN dL_law_1150 ?_
  refine zl_ld dL_law_1151 (by omega) ?_
  refine zj_aload_n dL_law_1152 (by rfl) ?_
  refine zj_iload_n dL_law_1153 (by rfl) ?_
  refine zj_iconst (v := nI 4) dL_law_1154 (by decide) ?_
  refine zj_iaddN dL_law_1155 ?_
  refine zl_ld dL_law_1156 (by omega) ?_
  refine zj_callV (As := [.int (xs (i + 1)), .int (xs (i + 2)), .int (xs (i + 3)), .int (xs (i + 4))]) (N := mX8_join) (rm' := rmD 2) dL_law_1157 ⟨zq_875, zq_50, mw_X8_join, rfl, rfl, by show mX8_join.1.cls ≠ "java/lang/invoke/MethodHandle" ∧ mX8_join.1.cls ≠ "java/lang/invoke/VarHandle" ∧ (parseMethodDescriptor mX8_join.1.desc).map (fun d => d.parameters.length) = some 4; decide +kernel, by decide, by decide⟩ zq_876 zq_877 rfl rfl e8 z2 (by exact Nat.le_of_ble_eq_true rfl) ⟨by decide, by decide⟩ (fun v h' hq _ => ?_)
  obtain ⟨rfl, rfl⟩ := hq
  show zLw L xs 1160 [some (.ref zS), some (.ref 0), some (.ref 47), some (.int (nI i))] [.int v, .int v] _ 64 2319
  refine zj_icmp_eq (tgt := 1419) dL_law_1160 (by decide) (fun _ => ?_) (fun zq => absurd rfl zq)
  exact K _ i2
set_option maxRecDepth 20000 in
theorem l_drop (inv : s_I h) (hi : i + 6 ≤ L) (hL : L ≤ 3072) (K : ∀ h', s_I h' → zLw L xs 1419 [some (.ref zS), some (.ref 0), some (.ref 47), some (.int (nI i))] [] h' 64 2319) : zLw L xs 1165 [some (.ref zS), some (.ref 0), some (.ref 47), some (.int (nI i))] [] h 64 2319 := by
  obtain ⟨v, h1, h2, z1, z2, i2, fs8, e8⟩ := o_drop inv
  obtain ⟨fs7, e7⟩ : ∃ fs, h[0]? = some (.inr (7, fs)) := by
    obtain ⟨C, P, S, T, H, O, g, w, r, rm⟩ := inv
    exact s_7 r
  refine zj_aload_n dL_law_1165 (by rfl) ?_
  refine zj_callV (As := []) (N := mX7_drop) (rm' := rmD 0) dL_law_1166 ⟨zq_530, zq_42, mw_X7_drop, rfl, rfl, by show mX7_drop.1.cls ≠ "java/lang/invoke/MethodHandle" ∧ mX7_drop.1.cls ≠ "java/lang/invoke/VarHandle" ∧ (parseMethodDescriptor mX7_drop.1.desc).map (fun d => d.parameters.length) = some 0; decide +kernel, by decide, by decide⟩ zq_531 zq_532 rfl rfl e7 z1 (by exact Nat.le_of_ble_eq_true rfl) ⟨by decide, by decide⟩ (fun v h' hq _ => ?_)
  obtain ⟨rfl, rfl⟩ := hq
  show zLw L xs 1169 [some (.ref zS), some (.ref 0), some (.ref 47), some (.int (nI i))] [.int v] _ 64 2319
  refine zj_aload_n dL_law_1169 (by rfl) ?_
  refine zj_callV (As := []) (N := mX8_drop) (rm' := rmD 0) dL_law_1170 ⟨zq_879, zq_50, mw_X8_drop, rfl, rfl, by show mX8_drop.1.cls ≠ "java/lang/invoke/MethodHandle" ∧ mX8_drop.1.cls ≠ "java/lang/invoke/VarHandle" ∧ (parseMethodDescriptor mX8_drop.1.desc).map (fun d => d.parameters.length) = some 0; decide +kernel, by decide, by decide⟩ zq_880 zq_881 rfl rfl e8 z2 (by exact Nat.le_of_ble_eq_true rfl) ⟨by decide, by decide⟩ (fun v h' hq _ => ?_)
  obtain ⟨rfl, rfl⟩ := hq
  show zLw L xs 1173 [some (.ref zS), some (.ref 0), some (.ref 47), some (.int (nI i))] [.int v, .int v] _ 64 2319
  refine zj_icmp_eq (tgt := 1419) dL_law_1173 (by decide) (fun _ => ?_) (fun zq => absurd rfl zq)
  exact K _ i2
set_option maxRecDepth 20000 in
theorem l_account (inv : s_I h) (hi : i + 6 ≤ L) (hL : L ≤ 3072) (K : ∀ h', s_I h' → zLw L xs 1419 [some (.ref zS), some (.ref 0), some (.ref 47), some (.int (nI i))] [] h' 64 2319) : zLw L xs 1178 [some (.ref zS), some (.ref 0), some (.ref 47), some (.int (nI i))] [] h 64 2319 := by
  obtain ⟨v, h1, h2, z1, z2, i2, fs8, e8⟩ := o_account inv (xs (i + 1)) (xs (i + 2))
  obtain ⟨fs7, e7⟩ : ∃ fs, h[0]? = some (.inr (7, fs)) := by
    obtain ⟨C, P, S, T, H, O, g, w, r, rm⟩ := inv
    exact s_7 r
  refine zj_aload_n dL_law_1178 (by rfl) ?_
  refine zj_aload_n dL_law_1179 (by rfl) ?_
  refine zj_iload_n dL_law_1180 (by rfl) ?_
  refine zj_iconst (v := nI 1) dL_law_1181 (by decide) ?_
  refine zj_iaddN dL_law_1182 ?_
  refine zl_ld dL_law_1183 (by omega) ?_
  refine zj_aload_n dL_law_1184 (by rfl) ?_
  refine zj_iload_n dL_law_1185 (by rfl) ?_
  refine zj_iconst (v := nI 2) dL_law_1186 (by decide) ?_
  refine zj_iaddN dL_law_1187 ?_
  refine zl_ld dL_law_1188 (by omega) ?_
  refine zj_callV (As := [.int (xs (i + 1)), .int (xs (i + 2))]) (N := mX7_account) (rm' := rmD 1) dL_law_1189 ⟨zq_534, zq_42, mw_X7_account, rfl, rfl, by show mX7_account.1.cls ≠ "java/lang/invoke/MethodHandle" ∧ mX7_account.1.cls ≠ "java/lang/invoke/VarHandle" ∧ (parseMethodDescriptor mX7_account.1.desc).map (fun d => d.parameters.length) = some 2; decide +kernel, by decide, by decide⟩ zq_535 zq_536 rfl rfl e7 z1 (by exact Nat.le_of_ble_eq_true rfl) ⟨by decide, by decide⟩ (fun v h' hq _ => ?_)
  obtain ⟨rfl, rfl⟩ := hq
  show zLw L xs 1192 [some (.ref zS), some (.ref 0), some (.ref 47), some (.int (nI i))] [.int v] _ 64 2319
  refine zj_aload_n dL_law_1192 (by rfl) ?_
  refine zj_aload_n dL_law_1193 (by rfl) ?_
  refine zj_iload_n dL_law_1194 (by rfl) ?_
  refine zj_iconst (v := nI 1) dL_law_1195 (by decide) ?_
  refine zj_iaddN dL_law_1196 ?_
  refine zl_ld dL_law_1197 (by omega) ?_
  refine zj_aload_n dL_law_1198 (by rfl) ?_
  refine zj_iload_n dL_law_1199 (by rfl) ?_
  refine zj_iconst (v := nI 2) dL_law_1200 (by decide) ?_
  refine zj_iaddN dL_law_1201 ?_
  refine zl_ld dL_law_1202 (by omega) ?_
  refine zj_callV (As := [.int (xs (i + 1)), .int (xs (i + 2))]) (N := mX8_account) (rm' := rmD 2) dL_law_1203 ⟨zq_883, zq_50, mw_X8_account, rfl, rfl, by show mX8_account.1.cls ≠ "java/lang/invoke/MethodHandle" ∧ mX8_account.1.cls ≠ "java/lang/invoke/VarHandle" ∧ (parseMethodDescriptor mX8_account.1.desc).map (fun d => d.parameters.length) = some 2; decide +kernel, by decide, by decide⟩ zq_884 zq_885 rfl rfl e8 z2 (by exact Nat.le_of_ble_eq_true rfl) ⟨by decide, by decide⟩ (fun v h' hq _ => ?_)
  obtain ⟨rfl, rfl⟩ := hq
  show zLw L xs 1206 [some (.ref zS), some (.ref 0), some (.ref 47), some (.int (nI i))] [.int v, .int v] _ 64 2319
  refine zj_icmp_eq (tgt := 1419) dL_law_1206 (by decide) (fun _ => ?_) (fun zq => absurd rfl zq)
  exact K _ i2
set_option maxRecDepth 20000 in
theorem l_landings (inv : s_I h) (hi : i + 6 ≤ L) (hL : L ≤ 3072) (K : ∀ h', s_I h' → zLw L xs 1419 [some (.ref zS), some (.ref 0), some (.ref 47), some (.int (nI i))] [] h' 64 2319) : zLw L xs 1211 [some (.ref zS), some (.ref 0), some (.ref 47), some (.int (nI i))] [] h 64 2319 := by
  obtain ⟨v, h1, h2, z1, z2, i2, fs8, e8⟩ := o_landings inv (xs (i + 1))
  obtain ⟨fs7, e7⟩ : ∃ fs, h[0]? = some (.inr (7, fs)) := by
    obtain ⟨C, P, S, T, H, O, g, w, r, rm⟩ := inv
    exact s_7 r
  refine zj_aload_n dL_law_1211 (by rfl) ?_
  refine zj_aload_n dL_law_1212 (by rfl) ?_
  refine zj_iload_n dL_law_1213 (by rfl) ?_
  refine zj_iconst (v := nI 1) dL_law_1214 (by decide) ?_
  refine zj_iaddN dL_law_1215 ?_
  refine zl_ld dL_law_1216 (by omega) ?_
  refine zj_callV (As := [.int (xs (i + 1))]) (N := mX7_landings) (rm' := rmD 1) dL_law_1217 ⟨zq_542, zq_42, mw_X7_landings, rfl, rfl, by show mX7_landings.1.cls ≠ "java/lang/invoke/MethodHandle" ∧ mX7_landings.1.cls ≠ "java/lang/invoke/VarHandle" ∧ (parseMethodDescriptor mX7_landings.1.desc).map (fun d => d.parameters.length) = some 1; decide +kernel, by decide, by decide⟩ zq_543 zq_544 rfl rfl e7 z1 (by exact Nat.le_of_ble_eq_true rfl) ⟨by decide, by decide⟩ (fun v h' hq _ => ?_)
  obtain ⟨rfl, rfl⟩ := hq
  show zLw L xs 1220 [some (.ref zS), some (.ref 0), some (.ref 47), some (.int (nI i))] [.int v] _ 64 2319
  refine zj_aload_n dL_law_1220 (by rfl) ?_
  refine zj_aload_n dL_law_1221 (by rfl) ?_
  refine zj_iload_n dL_law_1222 (by rfl) ?_
  refine zj_iconst (v := nI 1) dL_law_1223 (by decide) ?_
  refine zj_iaddN dL_law_1224 ?_
  refine zl_ld dL_law_1225 (by omega) ?_
  refine zj_callV (As := [.int (xs (i + 1))]) (N := mX8_landings) (rm' := rmD 2) dL_law_1226 ⟨zq_891, zq_50, mw_X8_landings, rfl, rfl, by show mX8_landings.1.cls ≠ "java/lang/invoke/MethodHandle" ∧ mX8_landings.1.cls ≠ "java/lang/invoke/VarHandle" ∧ (parseMethodDescriptor mX8_landings.1.desc).map (fun d => d.parameters.length) = some 1; decide +kernel, by decide, by decide⟩ zq_892 zq_893 rfl rfl e8 z2 (by exact Nat.le_of_ble_eq_true rfl) ⟨by decide, by decide⟩ (fun v h' hq _ => ?_)
  obtain ⟨rfl, rfl⟩ := hq
  show zLw L xs 1229 [some (.ref zS), some (.ref 0), some (.ref 47), some (.int (nI i))] [.int v, .int v] _ 64 2319
  refine zj_icmp_eq (tgt := 1419) dL_law_1229 (by decide) (fun _ => ?_) (fun zq => absurd rfl zq)
  exact K _ i2
set_option maxRecDepth 20000 in
theorem l_home (inv : s_I h) (hi : i + 6 ≤ L) (hL : L ≤ 3072) (K : ∀ h', s_I h' → zLw L xs 1419 [some (.ref zS), some (.ref 0), some (.ref 47), some (.int (nI i))] [] h' 64 2319) : zLw L xs 1234 [some (.ref zS), some (.ref 0), some (.ref 47), some (.int (nI i))] [] h 64 2319 := by
  obtain ⟨v, h1, h2, z1, z2, i2, fs8, e8⟩ := o_home inv (xs (i + 1))
  obtain ⟨fs7, e7⟩ : ∃ fs, h[0]? = some (.inr (7, fs)) := by
    obtain ⟨C, P, S, T, H, O, g, w, r, rm⟩ := inv
    exact s_7 r
  refine zj_aload_n dL_law_1234 (by rfl) ?_
  refine zj_aload_n dL_law_1235 (by rfl) ?_
  refine zj_iload_n dL_law_1236 (by rfl) ?_
  refine zj_iconst (v := nI 1) dL_law_1237 (by decide) ?_
  refine zj_iaddN dL_law_1238 ?_
  refine zl_ld dL_law_1239 (by omega) ?_
  refine zj_callV (As := [.int (xs (i + 1))]) (N := mX7_home) (rm' := rmD 2) dL_law_1240 ⟨zq_550, zq_42, mw_X7_home, rfl, rfl, by show mX7_home.1.cls ≠ "java/lang/invoke/MethodHandle" ∧ mX7_home.1.cls ≠ "java/lang/invoke/VarHandle" ∧ (parseMethodDescriptor mX7_home.1.desc).map (fun d => d.parameters.length) = some 1; decide +kernel, by decide, by decide⟩ zq_551 zq_552 rfl rfl e7 z1 (by exact Nat.le_of_ble_eq_true rfl) ⟨by decide, by decide⟩ (fun v h' hq _ => ?_)
  obtain ⟨rfl, rfl⟩ := hq
  show zLw L xs 1243 [some (.ref zS), some (.ref 0), some (.ref 47), some (.int (nI i))] [.int v] _ 64 2319
  refine zj_aload_n dL_law_1243 (by rfl) ?_
  refine zj_aload_n dL_law_1244 (by rfl) ?_
  refine zj_iload_n dL_law_1245 (by rfl) ?_
  refine zj_iconst (v := nI 1) dL_law_1246 (by decide) ?_
  refine zj_iaddN dL_law_1247 ?_
  refine zl_ld dL_law_1248 (by omega) ?_
  refine zj_callV (As := [.int (xs (i + 1))]) (N := mX8_home) (rm' := rmD 2) dL_law_1249 ⟨zq_895, zq_50, mw_X8_home, rfl, rfl, by show mX8_home.1.cls ≠ "java/lang/invoke/MethodHandle" ∧ mX8_home.1.cls ≠ "java/lang/invoke/VarHandle" ∧ (parseMethodDescriptor mX8_home.1.desc).map (fun d => d.parameters.length) = some 1; decide +kernel, by decide, by decide⟩ zq_896 zq_897 rfl rfl e8 z2 (by exact Nat.le_of_ble_eq_true rfl) ⟨by decide, by decide⟩ (fun v h' hq _ => ?_)
  obtain ⟨rfl, rfl⟩ := hq
  show zLw L xs 1252 [some (.ref zS), some (.ref 0), some (.ref 47), some (.int (nI i))] [.int v, .int v] _ 64 2319
  refine zj_icmp_eq (tgt := 1419) dL_law_1252 (by decide) (fun _ => ?_) (fun zq => absurd rfl zq)
  exact K _ i2
set_option maxRecDepth 20000 in
theorem l_sheet (inv : s_I h) (hi : i + 6 ≤ L) (hL : L ≤ 3072) (K : ∀ h', s_I h' → zLw L xs 1419 [some (.ref zS), some (.ref 0), some (.ref 47), some (.int (nI i))] [] h' 64 2319) : zLw L xs 1257 [some (.ref zS), some (.ref 0), some (.ref 47), some (.int (nI i))] [] h 64 2319 := by
  obtain ⟨v, h1, h2, z1, z2, i2, fs8, e8⟩ := o_sheet inv (xs (i + 1)) (xs (i + 2))
  obtain ⟨fs7, e7⟩ : ∃ fs, h[0]? = some (.inr (7, fs)) := by
    obtain ⟨C, P, S, T, H, O, g, w, r, rm⟩ := inv
    exact s_7 r
  refine zj_aload_n dL_law_1257 (by rfl) ?_
  refine zj_aload_n dL_law_1258 (by rfl) ?_
  refine zj_iload_n dL_law_1259 (by rfl) ?_
  refine zj_iconst (v := nI 1) dL_law_1260 (by decide) ?_
  refine zj_iaddN dL_law_1261 ?_
  refine zl_ld dL_law_1262 (by omega) ?_
  refine zj_aload_n dL_law_1263 (by rfl) ?_
  refine zj_iload_n dL_law_1264 (by rfl) ?_
  refine zj_iconst (v := nI 2) dL_law_1265 (by decide) ?_
  refine zj_iaddN dL_law_1266 ?_
  refine zl_ld dL_law_1267 (by omega) ?_
  refine zj_callV (As := [.int (xs (i + 1)), .int (xs (i + 2))]) (N := mX7_sheet) (rm' := rmD 1) dL_law_1268 ⟨zq_559, zq_42, mw_X7_sheet, rfl, rfl, by show mX7_sheet.1.cls ≠ "java/lang/invoke/MethodHandle" ∧ mX7_sheet.1.cls ≠ "java/lang/invoke/VarHandle" ∧ (parseMethodDescriptor mX7_sheet.1.desc).map (fun d => d.parameters.length) = some 2; decide +kernel, by decide, by decide⟩ zq_560 zq_561 rfl rfl e7 z1 (by exact Nat.le_of_ble_eq_true rfl) ⟨by decide, by decide⟩ (fun v h' hq _ => ?_)
  obtain ⟨rfl, rfl⟩ := hq
  show zLw L xs 1271 [some (.ref zS), some (.ref 0), some (.ref 47), some (.int (nI i))] [.int v] _ 64 2319
  refine zj_aload_n dL_law_1271 (by rfl) ?_
  refine zj_aload_n dL_law_1272 (by rfl) ?_
  refine zj_iload_n dL_law_1273 (by rfl) ?_
  refine zj_iconst (v := nI 1) dL_law_1274 (by decide) ?_
  refine zj_iaddN dL_law_1275 ?_
  refine zl_ld dL_law_1276 (by omega) ?_
  refine zj_aload_n dL_law_1277 (by rfl) ?_
  refine zj_iload_n dL_law_1278 (by rfl) ?_
  refine zj_iconst (v := nI 2) dL_law_1279 (by decide) ?_
  refine zj_iaddN dL_law_1280 ?_
  refine zl_ld dL_law_1281 (by omega) ?_
  refine zj_callV (As := [.int (xs (i + 1)), .int (xs (i + 2))]) (N := mX8_sheet) (rm' := rmD 2) dL_law_1282 ⟨zq_899, zq_50, mw_X8_sheet, rfl, rfl, by show mX8_sheet.1.cls ≠ "java/lang/invoke/MethodHandle" ∧ mX8_sheet.1.cls ≠ "java/lang/invoke/VarHandle" ∧ (parseMethodDescriptor mX8_sheet.1.desc).map (fun d => d.parameters.length) = some 2; decide +kernel, by decide, by decide⟩ zq_900 zq_901 rfl rfl e8 z2 (by exact Nat.le_of_ble_eq_true rfl) ⟨by decide, by decide⟩ (fun v h' hq _ => ?_)
  obtain ⟨rfl, rfl⟩ := hq
  show zLw L xs 1285 [some (.ref zS), some (.ref 0), some (.ref 47), some (.int (nI i))] [.int v, .int v] _ 64 2319
  refine zj_icmp_eq (tgt := 1419) dL_law_1285 (by decide) (fun _ => ?_) (fun zq => absurd rfl zq)
  exact K _ i2
set_option maxRecDepth 20000 in
theorem l_mark (inv : s_I h) (hi : i + 6 ≤ L) (hL : L ≤ 3072) (K : ∀ h', s_I h' → zLw L xs 1419 [some (.ref zS), some (.ref 0), some (.ref 47), some (.int (nI i))] [] h' 64 2319) : zLw L xs 1290 [some (.ref zS), some (.ref 0), some (.ref 47), some (.int (nI i))] [] h 64 2319 := by
  obtain ⟨v, h1, h2, z1, z2, i2, fs8, e8⟩ := o_mark inv (xs (i + 1)) (xs (i + 2)) (xs (i + 3))
  obtain ⟨fs7, e7⟩ : ∃ fs, h[0]? = some (.inr (7, fs)) := by
    obtain ⟨C, P, S, T, H, O, g, w, r, rm⟩ := inv
    exact s_7 r
  refine zj_aload_n dL_law_1290 (by rfl) ?_
  refine zj_aload_n dL_law_1291 (by rfl) ?_
  refine zj_iload_n dL_law_1292 (by rfl) ?_
  refine zj_iconst (v := nI 1) dL_law_1293 (by decide) ?_
  refine zj_iaddN dL_law_1294 ?_
  refine zl_ld dL_law_1295 (by omega) ?_
  refine zj_aload_n dL_law_1296 (by rfl) ?_
  refine zj_iload_n dL_law_1297 (by rfl) ?_
  refine zj_iconst (v := nI 2) dL_law_1298 (by decide) ?_
  refine zj_iaddN dL_law_1299 ?_
  refine zl_ld dL_law_1300 (by omega) ?_
  refine zj_aload_n dL_law_1301 (by rfl) ?_
  refine zj_iload_n dL_law_1302 (by rfl) ?_
  refine zj_iconst (v := nI 3) dL_law_1303 (by decide) ?_
  refine zj_iaddN dL_law_1304 ?_
  refine zl_ld dL_law_1305 (by omega) ?_
  refine zj_callV (As := [.int (xs (i + 1)), .int (xs (i + 2)), .int (xs (i + 3))]) (N := mX7_mark) (rm' := rmD 1) dL_law_1306 ⟨zq_568, zq_42, mw_X7_mark, rfl, rfl, by show mX7_mark.1.cls ≠ "java/lang/invoke/MethodHandle" ∧ mX7_mark.1.cls ≠ "java/lang/invoke/VarHandle" ∧ (parseMethodDescriptor mX7_mark.1.desc).map (fun d => d.parameters.length) = some 3; decide +kernel, by decide, by decide⟩ zq_569 zq_570 rfl rfl e7 z1 (by exact Nat.le_of_ble_eq_true rfl) ⟨by decide, by decide⟩ (fun v h' hq _ => ?_)
  obtain ⟨rfl, rfl⟩ := hq
  show zLw L xs 1309 [some (.ref zS), some (.ref 0), some (.ref 47), some (.int (nI i))] [.int v] _ 64 2319
  refine zj_aload_n dL_law_1309 (by rfl) ?_
  refine zj_aload_n dL_law_1310 (by rfl) ?_
  refine zj_iload_n dL_law_1311 (by rfl) ?_
  refine zj_iconst (v := nI 1) dL_law_1312 (by decide) ?_
  refine zj_iaddN dL_law_1313 ?_
  refine zl_ld dL_law_1314 (by omega) ?_
  refine zj_aload_n dL_law_1315 (by rfl) ?_
  refine zj_iload_n dL_law_1316 (by rfl) ?_
  refine zj_iconst (v := nI 2) dL_law_1317 (by decide) ?_
  refine zj_iaddN dL_law_1318 ?_
  refine zl_ld dL_law_1319 (by omega) ?_
  refine zj_aload_n dL_law_1320 (by rfl) ?_
  refine zj_iload_n dL_law_1321 (by rfl) ?_
  refine zj_iconst (v := nI 3) dL_law_1322 (by decide) ?_
  refine zj_iaddN dL_law_1323 ?_
  refine zl_ld dL_law_1324 (by omega) ?_
  refine zj_callV (As := [.int (xs (i + 1)), .int (xs (i + 2)), .int (xs (i + 3))]) (N := mX8_mark) (rm' := rmD 2) dL_law_1325 ⟨zq_904, zq_50, mw_X8_mark, rfl, rfl, by show mX8_mark.1.cls ≠ "java/lang/invoke/MethodHandle" ∧ mX8_mark.1.cls ≠ "java/lang/invoke/VarHandle" ∧ (parseMethodDescriptor mX8_mark.1.desc).map (fun d => d.parameters.length) = some 3; decide +kernel, by decide, by decide⟩ zq_905 zq_906 rfl rfl e8 z2 (by exact Nat.le_of_ble_eq_true rfl) ⟨by decide, by decide⟩ (fun v h' hq _ => ?_)
  obtain ⟨rfl, rfl⟩ := hq
  show zLw L xs 1328 [some (.ref zS), some (.ref 0), some (.ref 47), some (.int (nI i))] [.int v, .int v] _ 64 2319
  refine zj_icmp_eq (tgt := 1419) dL_law_1328 (by decide) (fun _ => ?_) (fun zq => absurd rfl zq)
  exact K _ i2
set_option maxRecDepth 20000 in
theorem l_copy (inv : s_I h) (hi : i + 6 ≤ L) (hL : L ≤ 3072) (K : ∀ h', s_I h' → zLw L xs 1419 [some (.ref zS), some (.ref 0), some (.ref 47), some (.int (nI i))] [] h' 64 2319) : zLw L xs 1333 [some (.ref zS), some (.ref 0), some (.ref 47), some (.int (nI i))] [] h 64 2319 := by
  obtain ⟨v, h1, h2, z1, z2, i2, fs8, e8⟩ := o_copy inv (xs (i + 1)) (xs (i + 2)) (xs (i + 3)) (xs (i + 4)) (xs (i + 5))
  obtain ⟨fs7, e7⟩ : ∃ fs, h[0]? = some (.inr (7, fs)) := by
    obtain ⟨C, P, S, T, H, O, g, w, r, rm⟩ := inv
    exact s_7 r
  refine zj_aload_n dL_law_1333 (by rfl) ?_
  refine zj_aload_n dL_law_1334 (by rfl) ?_
  refine zj_iload_n dL_law_1335 (by rfl) ?_
  refine zj_iconst (v := nI 1) dL_law_1336 (by decide) ?_
  refine zj_iaddN dL_law_1337 ?_
  refine zl_ld dL_law_1338 (by omega) ?_
  refine zj_aload_n dL_law_1339 (by rfl) ?_
  refine zj_iload_n dL_law_1340 (by rfl) ?_
  refine zj_iconst (v := nI 2) dL_law_1341 (by decide) ?_
  refine zj_iaddN dL_law_1342 ?_
  refine zl_ld dL_law_1343 (by omega) ?_
  refine zj_aload_n dL_law_1344 (by rfl) ?_
  refine zj_iload_n dL_law_1345 (by rfl) ?_
  refine zj_iconst (v := nI 3) dL_law_1346 (by decide) ?_
  refine zj_iaddN dL_law_1347 ?_
  refine zl_ld dL_law_1348 (by omega) ?_
  refine zj_aload_n dL_law_1349 (by rfl) ?_
  refine zj_iload_n dL_law_1350 (by rfl) ?_
  refine zj_iconst (v := nI 4) dL_law_1351 (by decide) ?_
  refine zj_iaddN dL_law_1352 ?_
  refine zl_ld dL_law_1353 (by omega) ?_
  refine zj_aload_n dL_law_1354 (by rfl) ?_
  refine zj_iload_n dL_law_1355 (by rfl) ?_
  refine zj_iconst (v := nI 5) dL_law_1356 (by decide) ?_
  refine zj_iaddN dL_law_1357 ?_
  refine zl_ld dL_law_1358 (by omega) ?_
  refine zj_callV (As := [.int (xs (i + 1)), .int (xs (i + 2)), .int (xs (i + 3)), .int (xs (i + 4)), .int (xs (i + 5))]) (N := mX7_copy) (rm' := rmD 2) dL_law_1359 ⟨zq_577, zq_42, mw_X7_copy, rfl, rfl, by show mX7_copy.1.cls ≠ "java/lang/invoke/MethodHandle" ∧ mX7_copy.1.cls ≠ "java/lang/invoke/VarHandle" ∧ (parseMethodDescriptor mX7_copy.1.desc).map (fun d => d.parameters.length) = some 5; decide +kernel, by decide, by decide⟩ zq_578 zq_579 rfl rfl e7 z1 (by exact Nat.le_of_ble_eq_true rfl) ⟨by decide, by decide⟩ (fun v h' hq _ => ?_)
  obtain ⟨rfl, rfl⟩ := hq
  show zLw L xs 1362 [some (.ref zS), some (.ref 0), some (.ref 47), some (.int (nI i))] [.int v] _ 64 2319
  refine zj_aload_n dL_law_1362 (by rfl) ?_
  refine zj_aload_n dL_law_1363 (by rfl) ?_
  refine zj_iload_n dL_law_1364 (by rfl) ?_
  refine zj_iconst (v := nI 1) dL_law_1365 (by decide) ?_
  refine zj_iaddN dL_law_1366 ?_
  refine zl_ld dL_law_1367 (by omega) ?_
  refine zj_aload_n dL_law_1368 (by rfl) ?_
  refine zj_iload_n dL_law_1369 (by rfl) ?_
  refine zj_iconst (v := nI 2) dL_law_1370 (by decide) ?_
  refine zj_iaddN dL_law_1371 ?_
  refine zl_ld dL_law_1372 (by omega) ?_
  refine zj_aload_n dL_law_1373 (by rfl) ?_
  refine zj_iload_n dL_law_1374 (by rfl) ?_
  refine zj_iconst (v := nI 3) dL_law_1375 (by decide) ?_
  refine zj_iaddN dL_law_1376 ?_
  refine zl_ld dL_law_1377 (by omega) ?_
  refine zj_aload_n dL_law_1378 (by rfl) ?_
  refine zj_iload_n dL_law_1379 (by rfl) ?_
  refine zj_iconst (v := nI 4) dL_law_1380 (by decide) ?_
  refine zj_iaddN dL_law_1381 ?_
  refine zl_ld dL_law_1382 (by omega) ?_
  refine zj_aload_n dL_law_1383 (by rfl) ?_
  refine zj_iload_n dL_law_1384 (by rfl) ?_
  refine zj_iconst (v := nI 5) dL_law_1385 (by decide) ?_
  refine zj_iaddN dL_law_1386 ?_
  refine zl_ld dL_law_1387 (by omega) ?_
  refine zj_callV (As := [.int (xs (i + 1)), .int (xs (i + 2)), .int (xs (i + 3)), .int (xs (i + 4)), .int (xs (i + 5))]) (N := mX8_copy) (rm' := rmD 2) dL_law_1388 ⟨zq_909, zq_50, mw_X8_copy, rfl, rfl, by show mX8_copy.1.cls ≠ "java/lang/invoke/MethodHandle" ∧ mX8_copy.1.cls ≠ "java/lang/invoke/VarHandle" ∧ (parseMethodDescriptor mX8_copy.1.desc).map (fun d => d.parameters.length) = some 5; decide +kernel, by decide, by decide⟩ zq_910 zq_911 rfl rfl e8 z2 (by exact Nat.le_of_ble_eq_true rfl) ⟨by decide, by decide⟩ (fun v h' hq _ => ?_)
  obtain ⟨rfl, rfl⟩ := hq
  show zLw L xs 1391 [some (.ref zS), some (.ref 0), some (.ref 47), some (.int (nI i))] [.int v, .int v] _ 64 2319
  refine zj_icmp_eq (tgt := 1419) dL_law_1391 (by decide) (fun _ => ?_) (fun zq => absurd rfl zq)
  exact K _ i2
set_option maxRecDepth 20000 in
theorem l_count (inv : s_I h) (hi : i + 6 ≤ L) (hL : L ≤ 3072) (K : ∀ h', s_I h' → zLw L xs 1419 [some (.ref zS), some (.ref 0), some (.ref 47), some (.int (nI i))] [] h' 64 2319) : zLw L xs 1396 [some (.ref zS), some (.ref 0), some (.ref 47), some (.int (nI i))] [] h 64 2319 := by
  obtain ⟨v, h1, h2, z1, z2, i2, fs8, e8⟩ := o_count inv (xs (i + 1))
  obtain ⟨fs7, e7⟩ : ∃ fs, h[0]? = some (.inr (7, fs)) := by
    obtain ⟨C, P, S, T, H, O, g, w, r, rm⟩ := inv
    exact s_7 r
  refine zj_aload_n dL_law_1396 (by rfl) ?_
  refine zj_aload_n dL_law_1397 (by rfl) ?_
  refine zj_iload_n dL_law_1398 (by rfl) ?_
  refine zj_iconst (v := nI 1) dL_law_1399 (by decide) ?_
  refine zj_iaddN dL_law_1400 ?_
  refine zl_ld dL_law_1401 (by omega) ?_
  refine zj_callV (As := [.int (xs (i + 1))]) (N := mX7_count) (rm' := rmD 2) dL_law_1402 ⟨zq_586, zq_42, mw_X7_count, rfl, rfl, by show mX7_count.1.cls ≠ "java/lang/invoke/MethodHandle" ∧ mX7_count.1.cls ≠ "java/lang/invoke/VarHandle" ∧ (parseMethodDescriptor mX7_count.1.desc).map (fun d => d.parameters.length) = some 1; decide +kernel, by decide, by decide⟩ zq_587 zq_588 rfl rfl e7 z1 (by exact Nat.le_of_ble_eq_true rfl) ⟨by decide, by decide⟩ (fun v h' hq _ => ?_)
  obtain ⟨rfl, rfl⟩ := hq
  show zLw L xs 1405 [some (.ref zS), some (.ref 0), some (.ref 47), some (.int (nI i))] [.int v] _ 64 2319
  refine zj_aload_n dL_law_1405 (by rfl) ?_
  refine zj_aload_n dL_law_1406 (by rfl) ?_
  refine zj_iload_n dL_law_1407 (by rfl) ?_
  refine zj_iconst (v := nI 1) dL_law_1408 (by decide) ?_
  refine zj_iaddN dL_law_1409 ?_
  refine zl_ld dL_law_1410 (by omega) ?_
  refine zj_callV (As := [.int (xs (i + 1))]) (N := mX8_count) (rm' := rmD 0) dL_law_1411 ⟨zq_913, zq_50, mw_X8_count, rfl, rfl, by show mX8_count.1.cls ≠ "java/lang/invoke/MethodHandle" ∧ mX8_count.1.cls ≠ "java/lang/invoke/VarHandle" ∧ (parseMethodDescriptor mX8_count.1.desc).map (fun d => d.parameters.length) = some 1; decide +kernel, by decide, by decide⟩ zq_914 zq_915 rfl rfl e8 z2 (by exact Nat.le_of_ble_eq_true rfl) ⟨by decide, by decide⟩ (fun v h' hq _ => ?_)
  obtain ⟨rfl, rfl⟩ := hq
  show zLw L xs 1414 [some (.ref zS), some (.ref 0), some (.ref 47), some (.int (nI i))] [.int v, .int v] _ 64 2319
  refine zj_icmp_eq (tgt := 1419) dL_law_1414 (by decide) (fun _ => ?_) (fun zq => absurd rfl zq)
  exact K _ i2
end LW
