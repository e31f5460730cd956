/-! THE LAW: cases 0 to 9 -/
theorem f_type_le (σ : St) (p0 p1 : Int32) : (f_type σ p0 p1).1 < 4 := by
  unfold f_type
  (repeat' split) <;> (try dsimp only) <;> (repeat' split) <;> exact Nat.le_of_ble_eq_true rfl
set_option maxRecDepth 100000 in
set_option maxHeartbeats 4000000 in
theorem law_0 {G : GG} {X : CX} (h : Ok G X RL cL_law 9 room_1) {b L : Nat} {scr : Nat → Int32} (hS : Scr G X b L scr) {c : CC} {σ : St} (hI : LI G c σ) {i k n : Nat} (hi : i + 5 ≤ L) (hk : k + 8 ≤ 603072) (hn : n + 48 ≤ 7223402) (next : ∀ (c' : CC) (σ' : St), LI G c' σ' → V G X c' [(0, .ref b), (1, .ref (G.1 0)), (2, .ref (G.1 33)), (3, .ref (G.1 47)), (4, .ref (G.1 48)), (5, .int (nI i))] (k + 8) (n + 48) 1923 []) : V G X c [(0, .ref b), (1, .ref (G.1 0)), (2, .ref (G.1 33)), (3, .ref (G.1 47)), (4, .ref (G.1 48)), (5, .int (nI i))] k n 180 [] := by
  refine r_aload_n h 1 rfl rfl dL_law_180 ?_
  refine r_aload_n h 0 rfl rfl dL_law_181 ?_
  refine r_iload h 5 rfl dL_law_182 ?_
  refine r_iconst h (v := nI 1) (by decide) dL_law_184 ?_
  refine r_iadd h (nI_add i 1) dL_law_185 ?_
  refine r_sld h hS (x := i + 1) (by omega) dL_law_186 ?_
  refine r_aload_n h 0 rfl rfl dL_law_187 ?_
  refine r_iload h 5 rfl dL_law_188 ?_
  refine r_iconst h (v := nI 2) (by decide) dL_law_190 ?_
  refine r_iadd h (nI_add i 2) dL_law_191 ?_
  refine r_sld h hS (x := i + 2) (by omega) dL_law_192 ?_
  refine r_aload_n h 3 rfl rfl dL_law_193 ?_
  have hle : (f_type σ (scr (i + 1)) (scr (i + 2))).1 < 4 := f_type_le σ (scr (i + 1)) (scr (i + 2))
  obtain ⟨fo, ho⟩ := hI.2.2.2.1
  refine r_cW h k_L_114 (As := [.ref (G.1 0), .int (scr (i + 1)), .int (scr (i + 2)), .ref (G.1 47)]) (rest := []) (c_L_type h.i h.t hI.1 ho (scr (i + 1)) (scr (i + 2))) rfl rfl (Nat.le_of_ble_eq_true rfl) ⟨by decide, by decide, hk, hn⟩ dL_law_194 (fun _ z => z.elim) (fun v1 c1 p1 => ?_)
  obtain ⟨r1, rfl, hw⟩ := p1
  have hr1 := hw.1
  subst hr1
  obtain ⟨th, hm⟩ := hI.mdl (Or.inl rfl) hw
  refine r_istore h ([(6, .int (nI (f_type σ (scr (i + 1)) (scr (i + 2))).1)), (0, .ref b), (1, .ref (G.1 0)), (2, .ref (G.1 33)), (3, .ref (G.1 47)), (4, .ref (G.1 48)), (5, .int (nI i))]) dL_law_197 (by decide) rfl ?_
  refine r_aload_n h 3 rfl rfl dL_law_199 ?_
  refine r_aload_n h 1 rfl rfl dL_law_200 ?_
  refine r_iload h 6 rfl dL_law_201 ?_
  refine r_iconst h (v := nI 1) (by decide) dL_law_203 ?_
  refine r_iadd h (nI_add i 1) dL_law_204 ?_
  refine r_sld h hS (x := i + 1) (by omega) dL_law_205 ?_
  refine r_aload_n h 1 rfl rfl dL_law_206 ?_
  refine r_iload h 6 rfl dL_law_207 ?_
  refine r_iconst h (v := nI 2) (by decide) dL_law_209 ?_
  refine r_iadd h (nI_add i 2) dL_law_210 ?_
  refine r_sld h hS (x := i + 2) (by omega) dL_law_211 ?_
  refine r_cV h k_L_119 (i := 33) (As := [.int (scr (i + 1)), .int (scr (i + 2))]) (rest := []) (c_X4_type h.i h.t hm hI.1.bnd hI.2.2.1 (scr (i + 1)) (scr (i + 2))) (by omega) hm.o rfl rfl rfl (Nat.le_of_ble_eq_true rfl) ⟨by decide, by decide, hk, hn⟩ dL_law_212 (fun _ z => z.elim) (fun v2 c2 p2 => ?_)
  obtain ⟨r2, rfl, hq⟩ := p2
  have hN := hI.next hw hq
  refine r_istore h ([(7, .int r2), (6, .int (nI (f_type σ (scr (i + 1)) (scr (i + 2))).1)), (0, .ref b), (1, .ref (G.1 0)), (2, .ref (G.1 33)), (3, .ref (G.1 47)), (4, .ref (G.1 48)), (5, .int (nI i))]) dL_law_215 (by decide) rfl ?_
  refine r_aload_n h 4 rfl rfl dL_law_217 ?_
  refine r_cV h k_L_120 (i := 33) (As := []) (rest := []) (c_X4_thrown h.i h.t hq.2.1) (by omega) hq.2.1.o rfl rfl rfl (Nat.le_of_ble_eq_true rfl) ⟨by decide, by decide, hk, hn⟩ dL_law_218 (fun _ z => z.elim) (fun v3 c3 p3 => ?_)
  obtain ⟨r3, rfl, rfl, rfl⟩ := p3
  refine r_iload h 1 rfl dL_law_221 ?_
  refine r_icmp_eq h 228 dL_law_223 (by decide) (fun _ => ?_) (fun z => absurd rfl z)
  refine r_iload h 1 rfl dL_law_228 ?_
  refine rn_if_ne h (a := (f_type σ (scr (i + 1)) (scr (i + 2))).1) (by omega) 245 dL_law_230 (by decide) (fun z => ?_) (fun z => ?_)
  · refine r_goto h 1923 dL_law_245 (by decide) ?_
    refine V_lv [2, 3, 4, 5, 6, 7] rfl ?_
    exact next _ _ hN
  · refine r_aload_n h 5 rfl rfl dL_law_233 ?_
    refine r_iconst h (v := nI 0) (by decide) dL_law_234 ?_
    obtain ⟨fo2, hfo, hv⟩ := (hw.2.2.1 z).keep (hq.2.2.2 47 (Or.inr (by omega)))
    refine r_lald h (i := 47) (by omega) hfo (x := 0) (by omega) (by decide) dL_law_235 ?_
    rw [hv, hq.1 z]
    refine r_iload h 0 rfl dL_law_236 ?_
    refine r_i2l h rfl dL_law_238 ?_
    refine r_lcmp h (lg0.mpr rfl) dL_law_239 ?_
    refine r_if_eq h 245 dL_law_240 (by decide) (fun _ => ?_) (fun z => absurd rfl z)
    refine r_goto h 1923 dL_law_245 (by decide) ?_
    refine V_lv [2, 3, 4, 5, 6, 7] rfl ?_
    exact next _ _ hN
theorem f_typeMany_le (σ : St) (p0 p1 p2 : Int32) : (f_typeMany σ p0 p1 p2).1 < 4 := by
  unfold f_typeMany
  (repeat' split) <;> (try dsimp only) <;> (repeat' split) <;> exact Nat.le_of_ble_eq_true rfl
set_option maxRecDepth 100000 in
set_option maxHeartbeats 4000000 in
theorem law_1 {G : GG} {X : CX} (h : Ok G X RL cL_law 9 room_1) {b L : Nat} {scr : Nat → Int32} (hS : Scr G X b L scr) {c : CC} {σ : St} (hI : LI G c σ) {i k n : Nat} (hi : i + 5 ≤ L) (hk : k + 8 ≤ 603072) (hn : n + 48 ≤ 7223402) (next : ∀ (c' : CC) (σ' : St), LI G c' σ' → V G X c' [(0, .ref b), (1, .ref (G.1 0)), (2, .ref (G.1 33)), (3, .ref (G.1 47)), (4, .ref (G.1 48)), (5, .int (nI i))] (k + 8) (n + 48) 1923 []) : V G X c [(0, .ref b), (1, .ref (G.1 0)), (2, .ref (G.1 33)), (3, .ref (G.1 47)), (4, .ref (G.1 48)), (5, .int (nI i))] k n 248 [] := by
  refine r_aload_n h 1 rfl rfl dL_law_248 ?_
  refine r_aload_n h 0 rfl rfl dL_law_249 ?_
  refine r_iload h 5 rfl dL_law_250 ?_
  refine r_iconst h (v := nI 1) (by decide) dL_law_252 ?_
  refine r_iadd h (nI_add i 1) dL_law_253 ?_
  refine r_sld h hS (x := i + 1) (by omega) dL_law_254 ?_
  refine r_aload_n h 0 rfl rfl dL_law_255 ?_
  refine r_iload h 5 rfl dL_law_256 ?_
  refine r_iconst h (v := nI 2) (by decide) dL_law_258 ?_
  refine r_iadd h (nI_add i 2) dL_law_259 ?_
  refine r_sld h hS (x := i + 2) (by omega) dL_law_260 ?_
  refine r_aload_n h 0 rfl rfl dL_law_261 ?_
  refine r_iload h 5 rfl dL_law_262 ?_
  refine r_iconst h (v := nI 3) (by decide) dL_law_264 ?_
  refine r_iadd h (nI_add i 3) dL_law_265 ?_
  refine r_sld h hS (x := i + 3) (by omega) dL_law_266 ?_
  refine r_aload_n h 3 rfl rfl dL_law_267 ?_
  have hle : (f_typeMany σ (scr (i + 1)) (scr (i + 2)) (scr (i + 3))).1 < 4 := f_typeMany_le σ (scr (i + 1)) (scr (i + 2)) (scr (i + 3))
  obtain ⟨fo, ho⟩ := hI.2.2.2.1
  refine r_cW h k_L_124 (As := [.ref (G.1 0), .int (scr (i + 1)), .int (scr (i + 2)), .int (scr (i + 3)), .ref (G.1 47)]) (rest := []) (c_L_typeMany h.i h.t hI.1 ho (scr (i + 1)) (scr (i + 2)) (scr (i + 3))) rfl rfl (Nat.le_of_ble_eq_true rfl) ⟨by decide, by decide, hk, hn⟩ dL_law_268 (fun _ z => z.elim) (fun v1 c1 p1 => ?_)
  obtain ⟨r1, rfl, hw⟩ := p1
  have hr1 := hw.1
  subst hr1
  obtain ⟨th, hm⟩ := hI.mdl (Or.inl rfl) hw
  refine r_istore h ([(6, .int (nI (f_typeMany σ (scr (i + 1)) (scr (i + 2)) (scr (i + 3))).1)), (0, .ref b), (1, .ref (G.1 0)), (2, .ref (G.1 33)), (3, .ref (G.1 47)), (4, .ref (G.1 48)), (5, .int (nI i))]) dL_law_271 (by decide) rfl ?_
  refine r_aload_n h 3 rfl rfl dL_law_273 ?_
  refine r_aload_n h 1 rfl rfl dL_law_274 ?_
  refine r_iload h 6 rfl dL_law_275 ?_
  refine r_iconst h (v := nI 1) (by decide) dL_law_277 ?_
  refine r_iadd h (nI_add i 1) dL_law_278 ?_
  refine r_sld h hS (x := i + 1) (by omega) dL_law_279 ?_
  refine r_aload_n h 1 rfl rfl dL_law_280 ?_
  refine r_iload h 6 rfl dL_law_281 ?_
  refine r_iconst h (v := nI 2) (by decide) dL_law_283 ?_
  refine r_iadd h (nI_add i 2) dL_law_284 ?_
  refine r_sld h hS (x := i + 2) (by omega) dL_law_285 ?_
  refine r_aload_n h 1 rfl rfl dL_law_286 ?_
  refine r_iload h 6 rfl dL_law_287 ?_
  refine r_iconst h (v := nI 3) (by decide) dL_law_289 ?_
  refine r_iadd h (nI_add i 3) dL_law_290 ?_
  refine r_sld h hS (x := i + 3) (by omega) dL_law_291 ?_
  refine r_cV h k_L_127 (i := 33) (As := [.int (scr (i + 1)), .int (scr (i + 2)), .int (scr (i + 3))]) (rest := []) (c_X4_typeMany h.i h.t hm hI.1.bnd hI.2.2.1 (scr (i + 1)) (scr (i + 2)) (scr (i + 3))) (by omega) hm.o rfl rfl rfl (Nat.le_of_ble_eq_true rfl) ⟨by decide, by decide, hk, hn⟩ dL_law_292 (fun _ z => z.elim) (fun v2 c2 p2 => ?_)
  obtain ⟨r2, rfl, hq⟩ := p2
  have hN := hI.next hw hq
  refine r_istore h ([(7, .int r2), (6, .int (nI (f_typeMany σ (scr (i + 1)) (scr (i + 2)) (scr (i + 3))).1)), (0, .ref b), (1, .ref (G.1 0)), (2, .ref (G.1 33)), (3, .ref (G.1 47)), (4, .ref (G.1 48)), (5, .int (nI i))]) dL_law_295 (by decide) rfl ?_
  refine r_aload_n h 4 rfl rfl dL_law_297 ?_
  refine r_cV h k_L_120 (i := 33) (As := []) (rest := []) (c_X4_thrown h.i h.t hq.2.1) (by omega) hq.2.1.o rfl rfl rfl (Nat.le_of_ble_eq_true rfl) ⟨by decide, by decide, hk, hn⟩ dL_law_298 (fun _ z => z.elim) (fun v3 c3 p3 => ?_)
  obtain ⟨r3, rfl, rfl, rfl⟩ := p3
  refine r_iload h 1 rfl dL_law_301 ?_
  refine r_icmp_eq h 308 dL_law_303 (by decide) (fun _ => ?_) (fun z => absurd rfl z)
  refine r_iload h 1 rfl dL_law_308 ?_
  refine rn_if_ne h (a := (f_typeMany σ (scr (i + 1)) (scr (i + 2)) (scr (i + 3))).1) (by omega) 325 dL_law_310 (by decide) (fun z => ?_) (fun z => ?_)
  · refine r_goto h 1923 dL_law_325 (by decide) ?_
    refine V_lv [2, 3, 4, 5, 6, 7] rfl ?_
    exact next _ _ hN
  · refine r_aload_n h 5 rfl rfl dL_law_313 ?_
    refine r_iconst h (v := nI 0) (by decide) dL_law_314 ?_
    obtain ⟨fo2, hfo, hv⟩ := (hw.2.2.1 z).keep (hq.2.2.2 47 (Or.inr (by omega)))
    refine r_lald h (i := 47) (by omega) hfo (x := 0) (by omega) (by decide) dL_law_315 ?_
    rw [hv, hq.1 z]
    refine r_iload h 0 rfl dL_law_316 ?_
    refine r_i2l h rfl dL_law_318 ?_
    refine r_lcmp h (lg0.mpr rfl) dL_law_319 ?_
    refine r_if_eq h 325 dL_law_320 (by decide) (fun _ => ?_) (fun z => absurd rfl z)
    refine r_goto h 1923 dL_law_325 (by decide) ?_
    refine V_lv [2, 3, 4, 5, 6, 7] rfl ?_
    exact next _ _ hN
theorem f_cut_le (σ : St) (p0 : Int32) : (f_cut σ p0).1 < 4 := by
  unfold f_cut
  (repeat' split) <;> (try dsimp only) <;> (repeat' split) <;> exact Nat.le_of_ble_eq_true rfl
set_option maxRecDepth 100000 in
set_option maxHeartbeats 4000000 in
theorem law_2 {G : GG} {X : CX} (h : Ok G X RL cL_law 9 room_1) {b L : Nat} {scr : Nat → Int32} (hS : Scr G X b L scr) {c : CC} {σ : St} (hI : LI G c σ) {i k n : Nat} (hi : i + 5 ≤ L) (hk : k + 8 ≤ 603072) (hn : n + 48 ≤ 7223402) (next : ∀ (c' : CC) (σ' : St), LI G c' σ' → V G X c' [(0, .ref b), (1, .ref (G.1 0)), (2, .ref (G.1 33)), (3, .ref (G.1 47)), (4, .ref (G.1 48)), (5, .int (nI i))] (k + 8) (n + 48) 1923 []) : V G X c [(0, .ref b), (1, .ref (G.1 0)), (2, .ref (G.1 33)), (3, .ref (G.1 47)), (4, .ref (G.1 48)), (5, .int (nI i))] k n 328 [] := by
  refine r_aload_n h 1 rfl rfl dL_law_328 ?_
  refine r_aload_n h 0 rfl rfl dL_law_329 ?_
  refine r_iload h 5 rfl dL_law_330 ?_
  refine r_iconst h (v := nI 1) (by decide) dL_law_332 ?_
  refine r_iadd h (nI_add i 1) dL_law_333 ?_
  refine r_sld h hS (x := i + 1) (by omega) dL_law_334 ?_
  refine r_aload_n h 3 rfl rfl dL_law_335 ?_
  have hle : (f_cut σ (scr (i + 1))).1 < 4 := f_cut_le σ (scr (i + 1))
  obtain ⟨fo, ho⟩ := hI.2.2.2.1
  refine r_cW h k_L_128 (As := [.ref (G.1 0), .int (scr (i + 1)), .ref (G.1 47)]) (rest := []) (c_L_cut h.i h.t hI.1 ho (scr (i + 1))) rfl rfl (Nat.le_of_ble_eq_true rfl) ⟨by decide, by decide, hk, hn⟩ dL_law_336 (fun _ z => z.elim) (fun v1 c1 p1 => ?_)
  obtain ⟨r1, rfl, hw⟩ := p1
  have hr1 := hw.1
  subst hr1
  obtain ⟨th, hm⟩ := hI.mdl (Or.inl rfl) hw
  refine r_istore h ([(6, .int (nI (f_cut σ (scr (i + 1))).1)), (0, .ref b), (1, .ref (G.1 0)), (2, .ref (G.1 33)), (3, .ref (G.1 47)), (4, .ref (G.1 48)), (5, .int (nI i))]) dL_law_339 (by decide) rfl ?_
  refine r_aload_n h 3 rfl rfl dL_law_341 ?_
  refine r_aload_n h 1 rfl rfl dL_law_342 ?_
  refine r_iload h 6 rfl dL_law_343 ?_
  refine r_iconst h (v := nI 1) (by decide) dL_law_345 ?_
  refine r_iadd h (nI_add i 1) dL_law_346 ?_
  refine r_sld h hS (x := i + 1) (by omega) dL_law_347 ?_
  refine r_cV h k_L_131 (i := 33) (As := [.int (scr (i + 1))]) (rest := []) (c_X4_cut h.i h.t hm hI.1.bnd hI.2.2.1 (scr (i + 1))) (by omega) hm.o rfl rfl rfl (Nat.le_of_ble_eq_true rfl) ⟨by decide, by decide, hk, hn⟩ dL_law_348 (fun _ z => z.elim) (fun v2 c2 p2 => ?_)
  obtain ⟨r2, rfl, hq⟩ := p2
  have hN := hI.next hw hq
  refine r_istore h ([(7, .int r2), (6, .int (nI (f_cut σ (scr (i + 1))).1)), (0, .ref b), (1, .ref (G.1 0)), (2, .ref (G.1 33)), (3, .ref (G.1 47)), (4, .ref (G.1 48)), (5, .int (nI i))]) dL_law_351 (by decide) rfl ?_
  refine r_aload_n h 4 rfl rfl dL_law_353 ?_
  refine r_cV h k_L_120 (i := 33) (As := []) (rest := []) (c_X4_thrown h.i h.t hq.2.1) (by omega) hq.2.1.o rfl rfl rfl (Nat.le_of_ble_eq_true rfl) ⟨by decide, by decide, hk, hn⟩ dL_law_354 (fun _ z => z.elim) (fun v3 c3 p3 => ?_)
  obtain ⟨r3, rfl, rfl, rfl⟩ := p3
  refine r_iload h 1 rfl dL_law_357 ?_
  refine r_icmp_eq h 364 dL_law_359 (by decide) (fun _ => ?_) (fun z => absurd rfl z)
  refine r_iload h 1 rfl dL_law_364 ?_
  refine rn_if_ne h (a := (f_cut σ (scr (i + 1))).1) (by omega) 381 dL_law_366 (by decide) (fun z => ?_) (fun z => ?_)
  · refine r_goto h 1923 dL_law_381 (by decide) ?_
    refine V_lv [2, 3, 4, 5, 6, 7] rfl ?_
    exact next _ _ hN
  · refine r_aload_n h 5 rfl rfl dL_law_369 ?_
    refine r_iconst h (v := nI 0) (by decide) dL_law_370 ?_
    obtain ⟨fo2, hfo, hv⟩ := (hw.2.2.1 z).keep (hq.2.2.2 47 (Or.inr (by omega)))
    refine r_lald h (i := 47) (by omega) hfo (x := 0) (by omega) (by decide) dL_law_371 ?_
    rw [hv, hq.1 z]
    refine r_iload h 0 rfl dL_law_372 ?_
    refine r_i2l h rfl dL_law_374 ?_
    refine r_lcmp h (lg0.mpr rfl) dL_law_375 ?_
    refine r_if_eq h 381 dL_law_376 (by decide) (fun _ => ?_) (fun z => absurd rfl z)
    refine r_goto h 1923 dL_law_381 (by decide) ?_
    refine V_lv [2, 3, 4, 5, 6, 7] rfl ?_
    exact next _ _ hN
theorem f_clear_le (σ : St) (p0 : Int32) : (f_clear σ p0).1 < 4 := by
  unfold f_clear
  (repeat' split) <;> (try dsimp only) <;> (repeat' split) <;> exact Nat.le_of_ble_eq_true rfl
set_option maxRecDepth 100000 in
set_option maxHeartbeats 4000000 in
theorem law_3 {G : GG} {X : CX} (h : Ok G X RL cL_law 9 room_1) {b L : Nat} {scr : Nat → Int32} (hS : Scr G X b L scr) {c : CC} {σ : St} (hI : LI G c σ) {i k n : Nat} (hi : i + 5 ≤ L) (hk : k + 8 ≤ 603072) (hn : n + 48 ≤ 7223402) (next : ∀ (c' : CC) (σ' : St), LI G c' σ' → V G X c' [(0, .ref b), (1, .ref (G.1 0)), (2, .ref (G.1 33)), (3, .ref (G.1 47)), (4, .ref (G.1 48)), (5, .int (nI i))] (k + 8) (n + 48) 1923 []) : V G X c [(0, .ref b), (1, .ref (G.1 0)), (2, .ref (G.1 33)), (3, .ref (G.1 47)), (4, .ref (G.1 48)), (5, .int (nI i))] k n 384 [] := by
  refine r_aload_n h 1 rfl rfl dL_law_384 ?_
  refine r_aload_n h 0 rfl rfl dL_law_385 ?_
  refine r_iload h 5 rfl dL_law_386 ?_
  refine r_iconst h (v := nI 1) (by decide) dL_law_388 ?_
  refine r_iadd h (nI_add i 1) dL_law_389 ?_
  refine r_sld h hS (x := i + 1) (by omega) dL_law_390 ?_
  refine r_aload_n h 3 rfl rfl dL_law_391 ?_
  have hle : (f_clear σ (scr (i + 1))).1 < 4 := f_clear_le σ (scr (i + 1))
  obtain ⟨fo, ho⟩ := hI.2.2.2.1
  refine r_cW h k_L_132 (As := [.ref (G.1 0), .int (scr (i + 1)), .ref (G.1 47)]) (rest := []) (c_L_clear h.i h.t hI.1 ho (scr (i + 1))) rfl rfl (Nat.le_of_ble_eq_true rfl) ⟨by decide, by decide, hk, hn⟩ dL_law_392 (fun _ z => z.elim) (fun v1 c1 p1 => ?_)
  obtain ⟨r1, rfl, hw⟩ := p1
  have hr1 := hw.1
  subst hr1
  obtain ⟨th, hm⟩ := hI.mdl (Or.inl rfl) hw
  refine r_istore h ([(6, .int (nI (f_clear σ (scr (i + 1))).1)), (0, .ref b), (1, .ref (G.1 0)), (2, .ref (G.1 33)), (3, .ref (G.1 47)), (4, .ref (G.1 48)), (5, .int (nI i))]) dL_law_395 (by decide) rfl ?_
  refine r_aload_n h 3 rfl rfl dL_law_397 ?_
  refine r_aload_n h 1 rfl rfl dL_law_398 ?_
  refine r_iload h 6 rfl dL_law_399 ?_
  refine r_iconst h (v := nI 1) (by decide) dL_law_401 ?_
  refine r_iadd h (nI_add i 1) dL_law_402 ?_
  refine r_sld h hS (x := i + 1) (by omega) dL_law_403 ?_
  refine r_cV h k_L_134 (i := 33) (As := [.int (scr (i + 1))]) (rest := []) (c_X4_clear h.i h.t hm hI.1.bnd hI.2.2.1 (scr (i + 1))) (by omega) hm.o rfl rfl rfl (Nat.le_of_ble_eq_true rfl) ⟨by decide, by decide, hk, hn⟩ dL_law_404 (fun _ z => z.elim) (fun v2 c2 p2 => ?_)
  obtain ⟨r2, rfl, hq⟩ := p2
  have hN := hI.next hw hq
  refine r_istore h ([(7, .int r2), (6, .int (nI (f_clear σ (scr (i + 1))).1)), (0, .ref b), (1, .ref (G.1 0)), (2, .ref (G.1 33)), (3, .ref (G.1 47)), (4, .ref (G.1 48)), (5, .int (nI i))]) dL_law_407 (by decide) rfl ?_
  refine r_aload_n h 4 rfl rfl dL_law_409 ?_
  refine r_cV h k_L_120 (i := 33) (As := []) (rest := []) (c_X4_thrown h.i h.t hq.2.1) (by omega) hq.2.1.o rfl rfl rfl (Nat.le_of_ble_eq_true rfl) ⟨by decide, by decide, hk, hn⟩ dL_law_410 (fun _ z => z.elim) (fun v3 c3 p3 => ?_)
  obtain ⟨r3, rfl, rfl, rfl⟩ := p3
  refine r_iload h 1 rfl dL_law_413 ?_
  refine r_icmp_eq h 420 dL_law_415 (by decide) (fun _ => ?_) (fun z => absurd rfl z)
  refine r_iload h 1 rfl dL_law_420 ?_
  refine rn_if_ne h (a := (f_clear σ (scr (i + 1))).1) (by omega) 437 dL_law_422 (by decide) (fun z => ?_) (fun z => ?_)
  · refine r_goto h 1923 dL_law_437 (by decide) ?_
    refine V_lv [2, 3, 4, 5, 6, 7] rfl ?_
    exact next _ _ hN
  · refine r_aload_n h 5 rfl rfl dL_law_425 ?_
    refine r_iconst h (v := nI 0) (by decide) dL_law_426 ?_
    obtain ⟨fo2, hfo, hv⟩ := (hw.2.2.1 z).keep (hq.2.2.2 47 (Or.inr (by omega)))
    refine r_lald h (i := 47) (by omega) hfo (x := 0) (by omega) (by decide) dL_law_427 ?_
    rw [hv, hq.1 z]
    refine r_iload h 0 rfl dL_law_428 ?_
    refine r_i2l h rfl dL_law_430 ?_
    refine r_lcmp h (lg0.mpr rfl) dL_law_431 ?_
    refine r_if_eq h 437 dL_law_432 (by decide) (fun _ => ?_) (fun z => absurd rfl z)
    refine r_goto h 1923 dL_law_437 (by decide) ?_
    refine V_lv [2, 3, 4, 5, 6, 7] rfl ?_
    exact next _ _ hN
theorem f_length_le (σ : St) (p0 : Int32) : (f_length σ p0).1 < 4 := by
  unfold f_length
  (repeat' split) <;> (try dsimp only) <;> (repeat' split) <;> exact Nat.le_of_ble_eq_true rfl
set_option maxRecDepth 100000 in
set_option maxHeartbeats 4000000 in
theorem law_4 {G : GG} {X : CX} (h : Ok G X RL cL_law 9 room_1) {b L : Nat} {scr : Nat → Int32} (hS : Scr G X b L scr) {c : CC} {σ : St} (hI : LI G c σ) {i k n : Nat} (hi : i + 5 ≤ L) (hk : k + 8 ≤ 603072) (hn : n + 48 ≤ 7223402) (next : ∀ (c' : CC) (σ' : St), LI G c' σ' → V G X c' [(0, .ref b), (1, .ref (G.1 0)), (2, .ref (G.1 33)), (3, .ref (G.1 47)), (4, .ref (G.1 48)), (5, .int (nI i))] (k + 8) (n + 48) 1923 []) : V G X c [(0, .ref b), (1, .ref (G.1 0)), (2, .ref (G.1 33)), (3, .ref (G.1 47)), (4, .ref (G.1 48)), (5, .int (nI i))] k n 440 [] := by
  refine r_aload_n h 1 rfl rfl dL_law_440 ?_
  refine r_aload_n h 0 rfl rfl dL_law_441 ?_
  refine r_iload h 5 rfl dL_law_442 ?_
  refine r_iconst h (v := nI 1) (by decide) dL_law_444 ?_
  refine r_iadd h (nI_add i 1) dL_law_445 ?_
  refine r_sld h hS (x := i + 1) (by omega) dL_law_446 ?_
  refine r_aload_n h 3 rfl rfl dL_law_447 ?_
  have hle : (f_length σ (scr (i + 1))).1 < 4 := f_length_le σ (scr (i + 1))
  obtain ⟨fo, ho⟩ := hI.2.2.2.1
  refine r_cW h k_L_135 (As := [.ref (G.1 0), .int (scr (i + 1)), .ref (G.1 47)]) (rest := []) (c_L_length h.i h.t hI.1 ho (scr (i + 1))) rfl rfl (Nat.le_of_ble_eq_true rfl) ⟨by decide, by decide, hk, hn⟩ dL_law_448 (fun _ z => z.elim) (fun v1 c1 p1 => ?_)
  obtain ⟨r1, rfl, hw⟩ := p1
  have hr1 := hw.1
  subst hr1
  obtain ⟨th, hm⟩ := hI.mdl (Or.inl rfl) hw
  refine r_istore h ([(6, .int (nI (f_length σ (scr (i + 1))).1)), (0, .ref b), (1, .ref (G.1 0)), (2, .ref (G.1 33)), (3, .ref (G.1 47)), (4, .ref (G.1 48)), (5, .int (nI i))]) dL_law_451 (by decide) rfl ?_
  refine r_aload_n h 3 rfl rfl dL_law_453 ?_
  refine r_aload_n h 1 rfl rfl dL_law_454 ?_
  refine r_iload h 6 rfl dL_law_455 ?_
  refine r_iconst h (v := nI 1) (by decide) dL_law_457 ?_
  refine r_iadd h (nI_add i 1) dL_law_458 ?_
  refine r_sld h hS (x := i + 1) (by omega) dL_law_459 ?_
  refine r_cV h k_L_137 (i := 33) (As := [.int (scr (i + 1))]) (rest := []) (c_X4_length h.i h.t hm hI.1.bnd hI.2.2.1 (scr (i + 1))) (by omega) hm.o rfl rfl rfl (Nat.le_of_ble_eq_true rfl) ⟨by decide, by decide, hk, hn⟩ dL_law_460 (fun _ z => z.elim) (fun v2 c2 p2 => ?_)
  obtain ⟨r2, rfl, hq⟩ := p2
  have hN := hI.next hw hq
  refine r_istore h ([(7, .int r2), (6, .int (nI (f_length σ (scr (i + 1))).1)), (0, .ref b), (1, .ref (G.1 0)), (2, .ref (G.1 33)), (3, .ref (G.1 47)), (4, .ref (G.1 48)), (5, .int (nI i))]) dL_law_463 (by decide) rfl ?_
  refine r_aload_n h 4 rfl rfl dL_law_465 ?_
  refine r_cV h k_L_120 (i := 33) (As := []) (rest := []) (c_X4_thrown h.i h.t hq.2.1) (by omega) hq.2.1.o rfl rfl rfl (Nat.le_of_ble_eq_true rfl) ⟨by decide, by decide, hk, hn⟩ dL_law_466 (fun _ z => z.elim) (fun v3 c3 p3 => ?_)
  obtain ⟨r3, rfl, rfl, rfl⟩ := p3
  refine r_iload h 1 rfl dL_law_469 ?_
  refine r_icmp_eq h 476 dL_law_471 (by decide) (fun _ => ?_) (fun z => absurd rfl z)
  refine r_iload h 1 rfl dL_law_476 ?_
  refine rn_if_ne h (a := (f_length σ (scr (i + 1))).1) (by omega) 493 dL_law_478 (by decide) (fun z => ?_) (fun z => ?_)
  · refine r_goto h 1923 dL_law_493 (by decide) ?_
    refine V_lv [2, 3, 4, 5, 6, 7] rfl ?_
    exact next _ _ hN
  · refine r_aload_n h 5 rfl rfl dL_law_481 ?_
    refine r_iconst h (v := nI 0) (by decide) dL_law_482 ?_
    obtain ⟨fo2, hfo, hv⟩ := (hw.2.2.1 z).keep (hq.2.2.2 47 (Or.inr (by omega)))
    refine r_lald h (i := 47) (by omega) hfo (x := 0) (by omega) (by decide) dL_law_483 ?_
    rw [hv, hq.1 z]
    refine r_iload h 0 rfl dL_law_484 ?_
    refine r_i2l h rfl dL_law_486 ?_
    refine r_lcmp h (lg0.mpr rfl) dL_law_487 ?_
    refine r_if_eq h 493 dL_law_488 (by decide) (fun _ => ?_) (fun z => absurd rfl z)
    refine r_goto h 1923 dL_law_493 (by decide) ?_
    refine V_lv [2, 3, 4, 5, 6, 7] rfl ?_
    exact next _ _ hN
theorem f_byteAt_le (σ : St) (p0 p1 : Int32) : (f_byteAt σ p0 p1).1 < 4 := by
  unfold f_byteAt
  (repeat' split) <;> (try dsimp only) <;> (repeat' split) <;> exact Nat.le_of_ble_eq_true rfl
set_option maxRecDepth 100000 in
set_option maxHeartbeats 4000000 in
theorem law_5 {G : GG} {X : CX} (h : Ok G X RL cL_law 9 room_1) {b L : Nat} {scr : Nat → Int32} (hS : Scr G X b L scr) {c : CC} {σ : St} (hI : LI G c σ) {i k n : Nat} (hi : i + 5 ≤ L) (hk : k + 8 ≤ 603072) (hn : n + 48 ≤ 7223402) (next : ∀ (c' : CC) (σ' : St), LI G c' σ' → V G X c' [(0, .ref b), (1, .ref (G.1 0)), (2, .ref (G.1 33)), (3, .ref (G.1 47)), (4, .ref (G.1 48)), (5, .int (nI i))] (k + 8) (n + 48) 1923 []) : V G X c [(0, .ref b), (1, .ref (G.1 0)), (2, .ref (G.1 33)), (3, .ref (G.1 47)), (4, .ref (G.1 48)), (5, .int (nI i))] k n 496 [] := by
  refine r_aload_n h 1 rfl rfl dL_law_496 ?_
  refine r_aload_n h 0 rfl rfl dL_law_497 ?_
  refine r_iload h 5 rfl dL_law_498 ?_
  refine r_iconst h (v := nI 1) (by decide) dL_law_500 ?_
  refine r_iadd h (nI_add i 1) dL_law_501 ?_
  refine r_sld h hS (x := i + 1) (by omega) dL_law_502 ?_
  refine r_aload_n h 0 rfl rfl dL_law_503 ?_
  refine r_iload h 5 rfl dL_law_504 ?_
  refine r_iconst h (v := nI 2) (by decide) dL_law_506 ?_
  refine r_iadd h (nI_add i 2) dL_law_507 ?_
  refine r_sld h hS (x := i + 2) (by omega) dL_law_508 ?_
  refine r_aload_n h 3 rfl rfl dL_law_509 ?_
  have hle : (f_byteAt σ (scr (i + 1)) (scr (i + 2))).1 < 4 := f_byteAt_le σ (scr (i + 1)) (scr (i + 2))
  obtain ⟨fo, ho⟩ := hI.2.2.2.1
  refine r_cW h k_L_138 (As := [.ref (G.1 0), .int (scr (i + 1)), .int (scr (i + 2)), .ref (G.1 47)]) (rest := []) (c_L_byteAt h.i h.t hI.1 ho (scr (i + 1)) (scr (i + 2))) rfl rfl (Nat.le_of_ble_eq_true rfl) ⟨by decide, by decide, hk, hn⟩ dL_law_510 (fun _ z => z.elim) (fun v1 c1 p1 => ?_)
  obtain ⟨r1, rfl, hw⟩ := p1
  have hr1 := hw.1
  subst hr1
  obtain ⟨th, hm⟩ := hI.mdl (Or.inl rfl) hw
  refine r_istore h ([(6, .int (nI (f_byteAt σ (scr (i + 1)) (scr (i + 2))).1)), (0, .ref b), (1, .ref (G.1 0)), (2, .ref (G.1 33)), (3, .ref (G.1 47)), (4, .ref (G.1 48)), (5, .int (nI i))]) dL_law_513 (by decide) rfl ?_
  refine r_aload_n h 3 rfl rfl dL_law_515 ?_
  refine r_aload_n h 1 rfl rfl dL_law_516 ?_
  refine r_iload h 6 rfl dL_law_517 ?_
  refine r_iconst h (v := nI 1) (by decide) dL_law_519 ?_
  refine r_iadd h (nI_add i 1) dL_law_520 ?_
  refine r_sld h hS (x := i + 1) (by omega) dL_law_521 ?_
  refine r_aload_n h 1 rfl rfl dL_law_522 ?_
  refine r_iload h 6 rfl dL_law_523 ?_
  refine r_iconst h (v := nI 2) (by decide) dL_law_525 ?_
  refine r_iadd h (nI_add i 2) dL_law_526 ?_
  refine r_sld h hS (x := i + 2) (by omega) dL_law_527 ?_
  refine r_cV h k_L_140 (i := 33) (As := [.int (scr (i + 1)), .int (scr (i + 2))]) (rest := []) (c_X4_byteAt h.i h.t hm hI.1.bnd hI.2.2.1 (scr (i + 1)) (scr (i + 2))) (by omega) hm.o rfl rfl rfl (Nat.le_of_ble_eq_true rfl) ⟨by decide, by decide, hk, hn⟩ dL_law_528 (fun _ z => z.elim) (fun v2 c2 p2 => ?_)
  obtain ⟨r2, rfl, hq⟩ := p2
  have hN := hI.next hw hq
  refine r_istore h ([(7, .int r2), (6, .int (nI (f_byteAt σ (scr (i + 1)) (scr (i + 2))).1)), (0, .ref b), (1, .ref (G.1 0)), (2, .ref (G.1 33)), (3, .ref (G.1 47)), (4, .ref (G.1 48)), (5, .int (nI i))]) dL_law_531 (by decide) rfl ?_
  refine r_aload_n h 4 rfl rfl dL_law_533 ?_
  refine r_cV h k_L_120 (i := 33) (As := []) (rest := []) (c_X4_thrown h.i h.t hq.2.1) (by omega) hq.2.1.o rfl rfl rfl (Nat.le_of_ble_eq_true rfl) ⟨by decide, by decide, hk, hn⟩ dL_law_534 (fun _ z => z.elim) (fun v3 c3 p3 => ?_)
  obtain ⟨r3, rfl, rfl, rfl⟩ := p3
  refine r_iload h 1 rfl dL_law_537 ?_
  refine r_icmp_eq h 544 dL_law_539 (by decide) (fun _ => ?_) (fun z => absurd rfl z)
  refine r_iload h 1 rfl dL_law_544 ?_
  refine rn_if_ne h (a := (f_byteAt σ (scr (i + 1)) (scr (i + 2))).1) (by omega) 561 dL_law_546 (by decide) (fun z => ?_) (fun z => ?_)
  · refine r_goto h 1923 dL_law_561 (by decide) ?_
    refine V_lv [2, 3, 4, 5, 6, 7] rfl ?_
    exact next _ _ hN
  · refine r_aload_n h 5 rfl rfl dL_law_549 ?_
    refine r_iconst h (v := nI 0) (by decide) dL_law_550 ?_
    obtain ⟨fo2, hfo, hv⟩ := (hw.2.2.1 z).keep (hq.2.2.2 47 (Or.inr (by omega)))
    refine r_lald h (i := 47) (by omega) hfo (x := 0) (by omega) (by decide) dL_law_551 ?_
    rw [hv, hq.1 z]
    refine r_iload h 0 rfl dL_law_552 ?_
    refine r_i2l h rfl dL_law_554 ?_
    refine r_lcmp h (lg0.mpr rfl) dL_law_555 ?_
    refine r_if_eq h 561 dL_law_556 (by decide) (fun _ => ?_) (fun z => absurd rfl z)
    refine r_goto h 1923 dL_law_561 (by decide) ?_
    refine V_lv [2, 3, 4, 5, 6, 7] rfl ?_
    exact next _ _ hN
theorem f_ends_le (σ : St) (p0 : Int32) : (f_ends σ p0).1 < 4 := by
  unfold f_ends
  (repeat' split) <;> (try dsimp only) <;> (repeat' split) <;> exact Nat.le_of_ble_eq_true rfl
set_option maxRecDepth 100000 in
set_option maxHeartbeats 4000000 in
theorem law_6 {G : GG} {X : CX} (h : Ok G X RL cL_law 9 room_1) {b L : Nat} {scr : Nat → Int32} (hS : Scr G X b L scr) {c : CC} {σ : St} (hI : LI G c σ) {i k n : Nat} (hi : i + 5 ≤ L) (hk : k + 8 ≤ 603072) (hn : n + 48 ≤ 7223402) (next : ∀ (c' : CC) (σ' : St), LI G c' σ' → V G X c' [(0, .ref b), (1, .ref (G.1 0)), (2, .ref (G.1 33)), (3, .ref (G.1 47)), (4, .ref (G.1 48)), (5, .int (nI i))] (k + 8) (n + 48) 1923 []) : V G X c [(0, .ref b), (1, .ref (G.1 0)), (2, .ref (G.1 33)), (3, .ref (G.1 47)), (4, .ref (G.1 48)), (5, .int (nI i))] k n 564 [] := by
  refine r_aload_n h 1 rfl rfl dL_law_564 ?_
  refine r_aload_n h 0 rfl rfl dL_law_565 ?_
  refine r_iload h 5 rfl dL_law_566 ?_
  refine r_iconst h (v := nI 1) (by decide) dL_law_568 ?_
  refine r_iadd h (nI_add i 1) dL_law_569 ?_
  refine r_sld h hS (x := i + 1) (by omega) dL_law_570 ?_
  refine r_aload_n h 3 rfl rfl dL_law_571 ?_
  have hle : (f_ends σ (scr (i + 1))).1 < 4 := f_ends_le σ (scr (i + 1))
  obtain ⟨fo, ho⟩ := hI.2.2.2.1
  refine r_cW h k_L_141 (As := [.ref (G.1 0), .int (scr (i + 1)), .ref (G.1 47)]) (rest := []) (c_L_ends h.i h.t hI.1 ho (scr (i + 1))) rfl rfl (Nat.le_of_ble_eq_true rfl) ⟨by decide, by decide, hk, hn⟩ dL_law_572 (fun _ z => z.elim) (fun v1 c1 p1 => ?_)
  obtain ⟨r1, rfl, hw⟩ := p1
  have hr1 := hw.1
  subst hr1
  obtain ⟨th, hm⟩ := hI.mdl (Or.inl rfl) hw
  refine r_istore h ([(6, .int (nI (f_ends σ (scr (i + 1))).1)), (0, .ref b), (1, .ref (G.1 0)), (2, .ref (G.1 33)), (3, .ref (G.1 47)), (4, .ref (G.1 48)), (5, .int (nI i))]) dL_law_575 (by decide) rfl ?_
  refine r_aload_n h 3 rfl rfl dL_law_577 ?_
  refine r_aload_n h 1 rfl rfl dL_law_578 ?_
  refine r_iload h 6 rfl dL_law_579 ?_
  refine r_iconst h (v := nI 1) (by decide) dL_law_581 ?_
  refine r_iadd h (nI_add i 1) dL_law_582 ?_
  refine r_sld h hS (x := i + 1) (by omega) dL_law_583 ?_
  refine r_cV h k_L_143 (i := 33) (As := [.int (scr (i + 1))]) (rest := []) (c_X4_ends h.i h.t hm hI.1.bnd hI.2.2.1 (scr (i + 1))) (by omega) hm.o rfl rfl rfl (Nat.le_of_ble_eq_true rfl) ⟨by decide, by decide, hk, hn⟩ dL_law_584 (fun _ z => z.elim) (fun v2 c2 p2 => ?_)
  obtain ⟨r2, rfl, hq⟩ := p2
  have hN := hI.next hw hq
  refine r_istore h ([(7, .int r2), (6, .int (nI (f_ends σ (scr (i + 1))).1)), (0, .ref b), (1, .ref (G.1 0)), (2, .ref (G.1 33)), (3, .ref (G.1 47)), (4, .ref (G.1 48)), (5, .int (nI i))]) dL_law_587 (by decide) rfl ?_
  refine r_aload_n h 4 rfl rfl dL_law_589 ?_
  refine r_cV h k_L_120 (i := 33) (As := []) (rest := []) (c_X4_thrown h.i h.t hq.2.1) (by omega) hq.2.1.o rfl rfl rfl (Nat.le_of_ble_eq_true rfl) ⟨by decide, by decide, hk, hn⟩ dL_law_590 (fun _ z => z.elim) (fun v3 c3 p3 => ?_)
  obtain ⟨r3, rfl, rfl, rfl⟩ := p3
  refine r_iload h 1 rfl dL_law_593 ?_
  refine r_icmp_eq h 600 dL_law_595 (by decide) (fun _ => ?_) (fun z => absurd rfl z)
  refine r_iload h 1 rfl dL_law_600 ?_
  refine rn_if_ne h (a := (f_ends σ (scr (i + 1))).1) (by omega) 617 dL_law_602 (by decide) (fun z => ?_) (fun z => ?_)
  · refine r_goto h 1923 dL_law_617 (by decide) ?_
    refine V_lv [2, 3, 4, 5, 6, 7] rfl ?_
    exact next _ _ hN
  · refine r_aload_n h 5 rfl rfl dL_law_605 ?_
    refine r_iconst h (v := nI 0) (by decide) dL_law_606 ?_
    obtain ⟨fo2, hfo, hv⟩ := (hw.2.2.1 z).keep (hq.2.2.2 47 (Or.inr (by omega)))
    refine r_lald h (i := 47) (by omega) hfo (x := 0) (by omega) (by decide) dL_law_607 ?_
    rw [hv, hq.1 z]
    refine r_iload h 0 rfl dL_law_608 ?_
    refine r_i2l h rfl dL_law_610 ?_
    refine r_lcmp h (lg0.mpr rfl) dL_law_611 ?_
    refine r_if_eq h 617 dL_law_612 (by decide) (fun _ => ?_) (fun z => absurd rfl z)
    refine r_goto h 1923 dL_law_617 (by decide) ?_
    refine V_lv [2, 3, 4, 5, 6, 7] rfl ?_
    exact next _ _ hN
theorem f_open_le (σ : St) (p0 p1 p2 p3 : Int32) : (f_open σ p0 p1 p2 p3).1 < 4 := by
  unfold f_open
  (repeat' split) <;> (try dsimp only) <;> (repeat' split) <;> exact Nat.le_of_ble_eq_true rfl
set_option maxRecDepth 100000 in
set_option maxHeartbeats 4000000 in
theorem law_7 {G : GG} {X : CX} (h : Ok G X RL cL_law 9 room_1) {b L : Nat} {scr : Nat → Int32} (hS : Scr G X b L scr) {c : CC} {σ : St} (hI : LI G c σ) {i k n : Nat} (hi : i + 5 ≤ L) (hk : k + 8 ≤ 603072) (hn : n + 48 ≤ 7223402) (next : ∀ (c' : CC) (σ' : St), LI G c' σ' → V G X c' [(0, .ref b), (1, .ref (G.1 0)), (2, .ref (G.1 33)), (3, .ref (G.1 47)), (4, .ref (G.1 48)), (5, .int (nI i))] (k + 8) (n + 48) 1923 []) : V G X c [(0, .ref b), (1, .ref (G.1 0)), (2, .ref (G.1 33)), (3, .ref (G.1 47)), (4, .ref (G.1 48)), (5, .int (nI i))] k n 620 [] := by
  refine r_aload_n h 1 rfl rfl dL_law_620 ?_
  refine r_aload_n h 0 rfl rfl dL_law_621 ?_
  refine r_iload h 5 rfl dL_law_622 ?_
  refine r_iconst h (v := nI 1) (by decide) dL_law_624 ?_
  refine r_iadd h (nI_add i 1) dL_law_625 ?_
  refine r_sld h hS (x := i + 1) (by omega) dL_law_626 ?_
  refine r_aload_n h 0 rfl rfl dL_law_627 ?_
  refine r_iload h 5 rfl dL_law_628 ?_
  refine r_iconst h (v := nI 2) (by decide) dL_law_630 ?_
  refine r_iadd h (nI_add i 2) dL_law_631 ?_
  refine r_sld h hS (x := i + 2) (by omega) dL_law_632 ?_
  refine r_aload_n h 0 rfl rfl dL_law_633 ?_
  refine r_iload h 5 rfl dL_law_634 ?_
  refine r_iconst h (v := nI 3) (by decide) dL_law_636 ?_
  refine r_iadd h (nI_add i 3) dL_law_637 ?_
  refine r_sld h hS (x := i + 3) (by omega) dL_law_638 ?_
  refine r_aload_n h 0 rfl rfl dL_law_639 ?_
  refine r_iload h 5 rfl dL_law_640 ?_
  refine r_iconst h (v := nI 4) (by decide) dL_law_642 ?_
  refine r_iadd h (nI_add i 4) dL_law_643 ?_
  refine r_sld h hS (x := i + 4) (by omega) dL_law_644 ?_
  refine r_aload_n h 3 rfl rfl dL_law_645 ?_
  have hle : (f_open σ (scr (i + 1)) (scr (i + 2)) (scr (i + 3)) (scr (i + 4))).1 < 4 := f_open_le σ (scr (i + 1)) (scr (i + 2)) (scr (i + 3)) (scr (i + 4))
  obtain ⟨fo, ho⟩ := hI.2.2.2.1
  refine r_cW h k_L_144 (As := [.ref (G.1 0), .int (scr (i + 1)), .int (scr (i + 2)), .int (scr (i + 3)), .int (scr (i + 4)), .ref (G.1 47)]) (rest := []) (c_L_open h.i h.t hI.1 ho (scr (i + 1)) (scr (i + 2)) (scr (i + 3)) (scr (i + 4))) rfl rfl (Nat.le_of_ble_eq_true rfl) ⟨by decide, by decide, hk, hn⟩ dL_law_646 (fun _ z => z.elim) (fun v1 c1 p1 => ?_)
  obtain ⟨r1, rfl, hw⟩ := p1
  have hr1 := hw.1
  subst hr1
  obtain ⟨th, hm⟩ := hI.mdl (Or.inl rfl) hw
  refine r_istore h ([(6, .int (nI (f_open σ (scr (i + 1)) (scr (i + 2)) (scr (i + 3)) (scr (i + 4))).1)), (0, .ref b), (1, .ref (G.1 0)), (2, .ref (G.1 33)), (3, .ref (G.1 47)), (4, .ref (G.1 48)), (5, .int (nI i))]) dL_law_649 (by decide) rfl ?_
  refine r_aload_n h 3 rfl rfl dL_law_651 ?_
  refine r_aload_n h 1 rfl rfl dL_law_652 ?_
  refine r_iload h 6 rfl dL_law_653 ?_
  refine r_iconst h (v := nI 1) (by decide) dL_law_655 ?_
  refine r_iadd h (nI_add i 1) dL_law_656 ?_
  refine r_sld h hS (x := i + 1) (by omega) dL_law_657 ?_
  refine r_aload_n h 1 rfl rfl dL_law_658 ?_
  refine r_iload h 6 rfl dL_law_659 ?_
  refine r_iconst h (v := nI 2) (by decide) dL_law_661 ?_
  refine r_iadd h (nI_add i 2) dL_law_662 ?_
  refine r_sld h hS (x := i + 2) (by omega) dL_law_663 ?_
  refine r_aload_n h 1 rfl rfl dL_law_664 ?_
  refine r_iload h 6 rfl dL_law_665 ?_
  refine r_iconst h (v := nI 3) (by decide) dL_law_667 ?_
  refine r_iadd h (nI_add i 3) dL_law_668 ?_
  refine r_sld h hS (x := i + 3) (by omega) dL_law_669 ?_
  refine r_aload_n h 1 rfl rfl dL_law_670 ?_
  refine r_iload h 6 rfl dL_law_671 ?_
  refine r_iconst h (v := nI 4) (by decide) dL_law_673 ?_
  refine r_iadd h (nI_add i 4) dL_law_674 ?_
  refine r_sld h hS (x := i + 4) (by omega) dL_law_675 ?_
  refine r_cV h k_L_147 (i := 33) (As := [.int (scr (i + 1)), .int (scr (i + 2)), .int (scr (i + 3)), .int (scr (i + 4))]) (rest := []) (c_X4_open h.i h.t hm hI.1.bnd hI.2.2.1 (scr (i + 1)) (scr (i + 2)) (scr (i + 3)) (scr (i + 4))) (by omega) hm.o rfl rfl rfl (Nat.le_of_ble_eq_true rfl) ⟨by decide, by decide, hk, hn⟩ dL_law_676 (fun _ z => z.elim) (fun v2 c2 p2 => ?_)
  obtain ⟨r2, rfl, hq⟩ := p2
  have hN := hI.next hw hq
  refine r_istore h ([(7, .int r2), (6, .int (nI (f_open σ (scr (i + 1)) (scr (i + 2)) (scr (i + 3)) (scr (i + 4))).1)), (0, .ref b), (1, .ref (G.1 0)), (2, .ref (G.1 33)), (3, .ref (G.1 47)), (4, .ref (G.1 48)), (5, .int (nI i))]) dL_law_679 (by decide) rfl ?_
  refine r_aload_n h 4 rfl rfl dL_law_681 ?_
  refine r_cV h k_L_120 (i := 33) (As := []) (rest := []) (c_X4_thrown h.i h.t hq.2.1) (by omega) hq.2.1.o rfl rfl rfl (Nat.le_of_ble_eq_true rfl) ⟨by decide, by decide, hk, hn⟩ dL_law_682 (fun _ z => z.elim) (fun v3 c3 p3 => ?_)
  obtain ⟨r3, rfl, rfl, rfl⟩ := p3
  refine r_iload h 1 rfl dL_law_685 ?_
  refine r_icmp_eq h 692 dL_law_687 (by decide) (fun _ => ?_) (fun z => absurd rfl z)
  refine r_iload h 1 rfl dL_law_692 ?_
  refine rn_if_ne h (a := (f_open σ (scr (i + 1)) (scr (i + 2)) (scr (i + 3)) (scr (i + 4))).1) (by omega) 709 dL_law_694 (by decide) (fun z => ?_) (fun z => ?_)
  · refine r_goto h 1923 dL_law_709 (by decide) ?_
    refine V_lv [2, 3, 4, 5, 6, 7] rfl ?_
    exact next _ _ hN
  · refine r_aload_n h 5 rfl rfl dL_law_697 ?_
    refine r_iconst h (v := nI 0) (by decide) dL_law_698 ?_
    obtain ⟨fo2, hfo, hv⟩ := (hw.2.2.1 z).keep (hq.2.2.2 47 (Or.inr (by omega)))
    refine r_lald h (i := 47) (by omega) hfo (x := 0) (by omega) (by decide) dL_law_699 ?_
    rw [hv, hq.1 z]
    refine r_iload h 0 rfl dL_law_700 ?_
    refine r_i2l h rfl dL_law_702 ?_
    refine r_lcmp h (lg0.mpr rfl) dL_law_703 ?_
    refine r_if_eq h 709 dL_law_704 (by decide) (fun _ => ?_) (fun z => absurd rfl z)
    refine r_goto h 1923 dL_law_709 (by decide) ?_
    refine V_lv [2, 3, 4, 5, 6, 7] rfl ?_
    exact next _ _ hN
theorem f_kind_le (σ : St) (p0 : Int32) : (f_kind σ p0).1 < 4 := by
  unfold f_kind
  (repeat' split) <;> (try dsimp only) <;> (repeat' split) <;> exact Nat.le_of_ble_eq_true rfl
set_option maxRecDepth 100000 in
set_option maxHeartbeats 4000000 in
theorem law_8 {G : GG} {X : CX} (h : Ok G X RL cL_law 9 room_1) {b L : Nat} {scr : Nat → Int32} (hS : Scr G X b L scr) {c : CC} {σ : St} (hI : LI G c σ) {i k n : Nat} (hi : i + 5 ≤ L) (hk : k + 8 ≤ 603072) (hn : n + 48 ≤ 7223402) (next : ∀ (c' : CC) (σ' : St), LI G c' σ' → V G X c' [(0, .ref b), (1, .ref (G.1 0)), (2, .ref (G.1 33)), (3, .ref (G.1 47)), (4, .ref (G.1 48)), (5, .int (nI i))] (k + 8) (n + 48) 1923 []) : V G X c [(0, .ref b), (1, .ref (G.1 0)), (2, .ref (G.1 33)), (3, .ref (G.1 47)), (4, .ref (G.1 48)), (5, .int (nI i))] k n 712 [] := by
  refine r_aload_n h 1 rfl rfl dL_law_712 ?_
  refine r_aload_n h 0 rfl rfl dL_law_713 ?_
  refine r_iload h 5 rfl dL_law_714 ?_
  refine r_iconst h (v := nI 1) (by decide) dL_law_716 ?_
  refine r_iadd h (nI_add i 1) dL_law_717 ?_
  refine r_sld h hS (x := i + 1) (by omega) dL_law_718 ?_
  refine r_aload_n h 3 rfl rfl dL_law_719 ?_
  have hle : (f_kind σ (scr (i + 1))).1 < 4 := f_kind_le σ (scr (i + 1))
  obtain ⟨fo, ho⟩ := hI.2.2.2.1
  refine r_cW h k_L_148 (As := [.ref (G.1 0), .int (scr (i + 1)), .ref (G.1 47)]) (rest := []) (c_L_kind h.i h.t hI.1 ho (scr (i + 1))) rfl rfl (Nat.le_of_ble_eq_true rfl) ⟨by decide, by decide, hk, hn⟩ dL_law_720 (fun _ z => z.elim) (fun v1 c1 p1 => ?_)
  obtain ⟨r1, rfl, hw⟩ := p1
  have hr1 := hw.1
  subst hr1
  obtain ⟨th, hm⟩ := hI.mdl (Or.inl rfl) hw
  refine r_istore h ([(6, .int (nI (f_kind σ (scr (i + 1))).1)), (0, .ref b), (1, .ref (G.1 0)), (2, .ref (G.1 33)), (3, .ref (G.1 47)), (4, .ref (G.1 48)), (5, .int (nI i))]) dL_law_723 (by decide) rfl ?_
  refine r_aload_n h 3 rfl rfl dL_law_725 ?_
  refine r_aload_n h 1 rfl rfl dL_law_726 ?_
  refine r_iload h 6 rfl dL_law_727 ?_
  refine r_iconst h (v := nI 1) (by decide) dL_law_729 ?_
  refine r_iadd h (nI_add i 1) dL_law_730 ?_
  refine r_sld h hS (x := i + 1) (by omega) dL_law_731 ?_
  refine r_cV h k_L_150 (i := 33) (As := [.int (scr (i + 1))]) (rest := []) (c_X4_kind h.i h.t hm hI.1.bnd hI.2.2.1 (scr (i + 1))) (by omega) hm.o rfl rfl rfl (Nat.le_of_ble_eq_true rfl) ⟨by decide, by decide, hk, hn⟩ dL_law_732 (fun _ z => z.elim) (fun v2 c2 p2 => ?_)
  obtain ⟨r2, rfl, hq⟩ := p2
  have hN := hI.next hw hq
  refine r_istore h ([(7, .int r2), (6, .int (nI (f_kind σ (scr (i + 1))).1)), (0, .ref b), (1, .ref (G.1 0)), (2, .ref (G.1 33)), (3, .ref (G.1 47)), (4, .ref (G.1 48)), (5, .int (nI i))]) dL_law_735 (by decide) rfl ?_
  refine r_aload_n h 4 rfl rfl dL_law_737 ?_
  refine r_cV h k_L_120 (i := 33) (As := []) (rest := []) (c_X4_thrown h.i h.t hq.2.1) (by omega) hq.2.1.o rfl rfl rfl (Nat.le_of_ble_eq_true rfl) ⟨by decide, by decide, hk, hn⟩ dL_law_738 (fun _ z => z.elim) (fun v3 c3 p3 => ?_)
  obtain ⟨r3, rfl, rfl, rfl⟩ := p3
  refine r_iload h 1 rfl dL_law_741 ?_
  refine r_icmp_eq h 748 dL_law_743 (by decide) (fun _ => ?_) (fun z => absurd rfl z)
  refine r_iload h 1 rfl dL_law_748 ?_
  refine rn_if_ne h (a := (f_kind σ (scr (i + 1))).1) (by omega) 765 dL_law_750 (by decide) (fun z => ?_) (fun z => ?_)
  · refine r_goto h 1923 dL_law_765 (by decide) ?_
    refine V_lv [2, 3, 4, 5, 6, 7] rfl ?_
    exact next _ _ hN
  · refine r_aload_n h 5 rfl rfl dL_law_753 ?_
    refine r_iconst h (v := nI 0) (by decide) dL_law_754 ?_
    obtain ⟨fo2, hfo, hv⟩ := (hw.2.2.1 z).keep (hq.2.2.2 47 (Or.inr (by omega)))
    refine r_lald h (i := 47) (by omega) hfo (x := 0) (by omega) (by decide) dL_law_755 ?_
    rw [hv, hq.1 z]
    refine r_iload h 0 rfl dL_law_756 ?_
    refine r_i2l h rfl dL_law_758 ?_
    refine r_lcmp h (lg0.mpr rfl) dL_law_759 ?_
    refine r_if_eq h 765 dL_law_760 (by decide) (fun _ => ?_) (fun z => absurd rfl z)
    refine r_goto h 1923 dL_law_765 (by decide) ?_
    refine V_lv [2, 3, 4, 5, 6, 7] rfl ?_
    exact next _ _ hN
theorem f_read_le (σ : St) (p0 : Int32) : (f_read σ p0).1 < 4 := by
  unfold f_read opn
  (repeat' split) <;> (try dsimp only) <;> (repeat' split) <;> exact Nat.le_of_ble_eq_true rfl
set_option maxRecDepth 100000 in
set_option maxHeartbeats 4000000 in
theorem law_9 {G : GG} {X : CX} (h : Ok G X RL cL_law 9 room_1) {b L : Nat} {scr : Nat → Int32} (hS : Scr G X b L scr) {c : CC} {σ : St} (hI : LI G c σ) {i k n : Nat} (hi : i + 5 ≤ L) (hk : k + 8 ≤ 603072) (hn : n + 48 ≤ 7223402) (next : ∀ (c' : CC) (σ' : St), LI G c' σ' → V G X c' [(0, .ref b), (1, .ref (G.1 0)), (2, .ref (G.1 33)), (3, .ref (G.1 47)), (4, .ref (G.1 48)), (5, .int (nI i))] (k + 8) (n + 48) 1923 []) : V G X c [(0, .ref b), (1, .ref (G.1 0)), (2, .ref (G.1 33)), (3, .ref (G.1 47)), (4, .ref (G.1 48)), (5, .int (nI i))] k n 768 [] := by
  refine r_aload_n h 1 rfl rfl dL_law_768 ?_
  refine r_aload_n h 0 rfl rfl dL_law_769 ?_
  refine r_iload h 5 rfl dL_law_770 ?_
  refine r_iconst h (v := nI 1) (by decide) dL_law_772 ?_
  refine r_iadd h (nI_add i 1) dL_law_773 ?_
  refine r_sld h hS (x := i + 1) (by omega) dL_law_774 ?_
  refine r_aload_n h 3 rfl rfl dL_law_775 ?_
  have hle : (f_read σ (scr (i + 1))).1 < 4 := f_read_le σ (scr (i + 1))
  obtain ⟨fo, ho⟩ := hI.2.2.2.1
  refine r_cW h k_L_151 (As := [.ref (G.1 0), .int (scr (i + 1)), .ref (G.1 47)]) (rest := []) (c_L_read h.i h.t hI.1 ho (scr (i + 1))) rfl rfl (Nat.le_of_ble_eq_true rfl) ⟨by decide, by decide, hk, hn⟩ dL_law_776 (fun _ z => z.elim) (fun v1 c1 p1 => ?_)
  obtain ⟨r1, rfl, hw⟩ := p1
  have hr1 := hw.1
  subst hr1
  obtain ⟨th, hm⟩ := hI.mdl (Or.inl rfl) hw
  refine r_istore h ([(6, .int (nI (f_read σ (scr (i + 1))).1)), (0, .ref b), (1, .ref (G.1 0)), (2, .ref (G.1 33)), (3, .ref (G.1 47)), (4, .ref (G.1 48)), (5, .int (nI i))]) dL_law_779 (by decide) rfl ?_
  refine r_aload_n h 3 rfl rfl dL_law_781 ?_
  refine r_aload_n h 1 rfl rfl dL_law_782 ?_
  refine r_iload h 6 rfl dL_law_783 ?_
  refine r_iconst h (v := nI 1) (by decide) dL_law_785 ?_
  refine r_iadd h (nI_add i 1) dL_law_786 ?_
  refine r_sld h hS (x := i + 1) (by omega) dL_law_787 ?_
  refine r_cV h k_L_153 (i := 33) (As := [.int (scr (i + 1))]) (rest := []) (c_X4_read h.i h.t hm hI.1.bnd hI.2.2.1 (scr (i + 1))) (by omega) hm.o rfl rfl rfl (Nat.le_of_ble_eq_true rfl) ⟨by decide, by decide, hk, hn⟩ dL_law_788 (fun _ z => z.elim) (fun v2 c2 p2 => ?_)
  obtain ⟨r2, rfl, hq⟩ := p2
  have hN := hI.next hw hq
  refine r_istore h ([(7, .int r2), (6, .int (nI (f_read σ (scr (i + 1))).1)), (0, .ref b), (1, .ref (G.1 0)), (2, .ref (G.1 33)), (3, .ref (G.1 47)), (4, .ref (G.1 48)), (5, .int (nI i))]) dL_law_791 (by decide) rfl ?_
  refine r_aload_n h 4 rfl rfl dL_law_793 ?_
  refine r_cV h k_L_120 (i := 33) (As := []) (rest := []) (c_X4_thrown h.i h.t hq.2.1) (by omega) hq.2.1.o rfl rfl rfl (Nat.le_of_ble_eq_true rfl) ⟨by decide, by decide, hk, hn⟩ dL_law_794 (fun _ z => z.elim) (fun v3 c3 p3 => ?_)
  obtain ⟨r3, rfl, rfl, rfl⟩ := p3
  refine r_iload h 1 rfl dL_law_797 ?_
  refine r_icmp_eq h 804 dL_law_799 (by decide) (fun _ => ?_) (fun z => absurd rfl z)
  refine r_iload h 1 rfl dL_law_804 ?_
  refine rn_if_ne h (a := (f_read σ (scr (i + 1))).1) (by omega) 821 dL_law_806 (by decide) (fun z => ?_) (fun z => ?_)
  · refine r_goto h 1923 dL_law_821 (by decide) ?_
    refine V_lv [2, 3, 4, 5, 6, 7] rfl ?_
    exact next _ _ hN
  · refine r_aload_n h 5 rfl rfl dL_law_809 ?_
    refine r_iconst h (v := nI 0) (by decide) dL_law_810 ?_
    obtain ⟨fo2, hfo, hv⟩ := (hw.2.2.1 z).keep (hq.2.2.2 47 (Or.inr (by omega)))
    refine r_lald h (i := 47) (by omega) hfo (x := 0) (by omega) (by decide) dL_law_811 ?_
    rw [hv, hq.1 z]
    refine r_iload h 0 rfl dL_law_812 ?_
    refine r_i2l h rfl dL_law_814 ?_
    refine r_lcmp h (lg0.mpr rfl) dL_law_815 ?_
    refine r_if_eq h 821 dL_law_816 (by decide) (fun _ => ?_) (fun z => absurd rfl z)
    refine r_goto h 1923 dL_law_821 (by decide) ?_
    refine V_lv [2, 3, 4, 5, 6, 7] rfl ?_
    exact next _ _ hN
