section LAW
variable {N9 : Nat} {xs : Nat → Int32} {nm : String}
set_option maxRecDepth 100000 in
set_option maxHeartbeats 4000000 in
theorem law_0 (i : Nat) (hi : i + 5 ≤ N9) (hN : N9 ≤ 2560) (IH : LAt N9 xs nm 1500 i) : LAt N9 xs nm 204 i := by
  intro rs v q x n u c l tn s la p pa m q' b x' h hI
  have HA : ∀ {a1 : rsT} {a2 : vT} {a3 : rT} {a4 : Nat → Nat} {a5 : Nat → Int64} {a6 : uT} {a7 : Nat → Nat → Int32} {a8 : Nat → Int32} {a9 : Int32} {R : jW}, R.length = 21 → (wC a1 a2 a3 a4 a5 a6 a7 a8 a9 ++ R).length ≤ 4000 := fun h => by rw [List.length_append, h]; exact Nat.le_of_ble_eq_true rfl
  obtain ⟨o, rs', v', c', l', tn', ho, h6, h7⟩ := b_feed (q := q) (x := x) (n := n) (u := u) (c := c) (tn := tn) (p := p) (pa := pa) (m := m) (q' := q') (b := b) (x' := x') (h := h) hI (xs (i + 1))
  obtain ⟨z, rfl⟩ := jnum_i ho
  refine JX.aload_n dL_law_204 rfl rfl ?_
  refine JX.arg 1 i (by decide) dL_law_205 dL_law_206 dL_law_207 dL_law_208 dL_law_209 rfl rfl (HA rfl) (by omega) hN ?_
  refine JX.call6 (as := [.int (xs (i + 1))]) ho okX6_feed jcL_13 h6 dL_law_210 rfl rfl rfl (fun r9 q9 x9 n9 u9 => ?_)
  refine JX.aload_n dL_law_213 rfl rfl ?_
  refine JX.arg 1 i (by decide) dL_law_214 dL_law_215 dL_law_216 dL_law_217 dL_law_218 rfl rfl (HA rfl) (by omega) hN ?_
  refine JX.call7 (as := [.int (xs (i + 1))]) (B := wC (rsN rs' 1 r9) v' q9 x9 n9 u9 c' l' tn') rfl ho okX7_feed jcL_17 h7 dL_law_219 rfl rfl rfl (fun s9 la9 p9 pa9 m9 q8 b9 x8 h9 hI8 => ?_)
  have hI9 : jIv (rsN rs' 1 r9) v' l' s9 la9 := hI8
  exact JX.icmp_eq (tgt := 1500) dL_law_222 (by decide) (fun _ => IH _ _ _ _ _ _ _ _ _ _ _ _ _ _ _ _ _ _ hI9) (fun h => absurd rfl h)
set_option maxRecDepth 100000 in
set_option maxHeartbeats 4000000 in
theorem law_1 (i : Nat) (hi : i + 5 ≤ N9) (hN : N9 ≤ 2560) (IH : LAt N9 xs nm 1500 i) : LAt N9 xs nm 227 i := by
  intro rs v q x n u c l tn s la p pa m q' b x' h hI
  have HA : ∀ {a1 : rsT} {a2 : vT} {a3 : rT} {a4 : Nat → Nat} {a5 : Nat → Int64} {a6 : uT} {a7 : Nat → Nat → Int32} {a8 : Nat → Int32} {a9 : Int32} {R : jW}, R.length = 21 → (wC a1 a2 a3 a4 a5 a6 a7 a8 a9 ++ R).length ≤ 4000 := fun h => by rw [List.length_append, h]; exact Nat.le_of_ble_eq_true rfl
  obtain ⟨o, rs', v', c', l', tn', ho, h6, h7⟩ := b_end (q := q) (x := x) (n := n) (u := u) (c := c) (tn := tn) (p := p) (pa := pa) (m := m) (q' := q') (b := b) (x' := x') (h := h) hI (xs (i + 1))
  obtain ⟨z, rfl⟩ := jnum_i ho
  refine JX.aload_n dL_law_227 rfl rfl ?_
  refine JX.arg 1 i (by decide) dL_law_228 dL_law_229 dL_law_230 dL_law_231 dL_law_232 rfl rfl (HA rfl) (by omega) hN ?_
  refine JX.call6 (as := [.int (xs (i + 1))]) ho okX6_end jcL_18 h6 dL_law_233 rfl rfl rfl (fun r9 q9 x9 n9 u9 => ?_)
  refine JX.aload_n dL_law_236 rfl rfl ?_
  refine JX.arg 1 i (by decide) dL_law_237 dL_law_238 dL_law_239 dL_law_240 dL_law_241 rfl rfl (HA rfl) (by omega) hN ?_
  refine JX.call7 (as := [.int (xs (i + 1))]) (B := wC (rsN rs' 1 r9) v' q9 x9 n9 u9 c' l' tn') rfl ho okX7_end jcL_21 h7 dL_law_242 rfl rfl rfl (fun s9 la9 p9 pa9 m9 q8 b9 x8 h9 hI8 => ?_)
  have hI9 : jIv (rsN rs' 1 r9) v' l' s9 la9 := hI8
  exact JX.icmp_eq (tgt := 1500) dL_law_245 (by decide) (fun _ => IH _ _ _ _ _ _ _ _ _ _ _ _ _ _ _ _ _ _ hI9) (fun h => absurd rfl h)
set_option maxRecDepth 100000 in
set_option maxHeartbeats 4000000 in
theorem law_2 (i : Nat) (hi : i + 5 ≤ N9) (hN : N9 ≤ 2560) (IH : LAt N9 xs nm 1500 i) : LAt N9 xs nm 250 i := by
  intro rs v q x n u c l tn s la p pa m q' b x' h hI
  have HA : ∀ {a1 : rsT} {a2 : vT} {a3 : rT} {a4 : Nat → Nat} {a5 : Nat → Int64} {a6 : uT} {a7 : Nat → Nat → Int32} {a8 : Nat → Int32} {a9 : Int32} {R : jW}, R.length = 21 → (wC a1 a2 a3 a4 a5 a6 a7 a8 a9 ++ R).length ≤ 4000 := fun h => by rw [List.length_append, h]; exact Nat.le_of_ble_eq_true rfl
  obtain ⟨o, rs', v', c', l', tn', ho, h6, h7⟩ := b_text (q := q) (x := x) (n := n) (u := u) (c := c) (tn := tn) (p := p) (pa := pa) (m := m) (q' := q') (b := b) (x' := x') (h := h) hI 
  obtain ⟨z, rfl⟩ := jnum_i ho
  refine JX.aload_n dL_law_250 rfl rfl ?_
  refine JX.call6 (as := []) ho okX6_text jcL_22 h6 dL_law_251 rfl rfl rfl (fun r9 q9 x9 n9 u9 => ?_)
  refine JX.aload_n dL_law_254 rfl rfl ?_
  refine JX.call7 (as := []) (B := wC (rsN rs' 1 r9) v' q9 x9 n9 u9 c' l' tn') rfl ho okX7_text jcL_26 h7 dL_law_255 rfl rfl rfl (fun s9 la9 p9 pa9 m9 q8 b9 x8 h9 hI8 => ?_)
  have hI9 : jIv (rsN rs' 1 r9) v' l' s9 la9 := hI8
  exact JX.icmp_eq (tgt := 1500) dL_law_258 (by decide) (fun _ => IH _ _ _ _ _ _ _ _ _ _ _ _ _ _ _ _ _ _ hI9) (fun h => absurd rfl h)
set_option maxRecDepth 100000 in
set_option maxHeartbeats 4000000 in
theorem law_3 (i : Nat) (hi : i + 5 ≤ N9) (hN : N9 ≤ 2560) (IH : LAt N9 xs nm 1500 i) : LAt N9 xs nm 263 i := by
  intro rs v q x n u c l tn s la p pa m q' b x' h hI
  have HA : ∀ {a1 : rsT} {a2 : vT} {a3 : rT} {a4 : Nat → Nat} {a5 : Nat → Int64} {a6 : uT} {a7 : Nat → Nat → Int32} {a8 : Nat → Int32} {a9 : Int32} {R : jW}, R.length = 21 → (wC a1 a2 a3 a4 a5 a6 a7 a8 a9 ++ R).length ≤ 4000 := fun h => by rw [List.length_append, h]; exact Nat.le_of_ble_eq_true rfl
  obtain ⟨o, rs', v', c', l', tn', ho, h6, h7⟩ := b_fault (q := q) (x := x) (n := n) (u := u) (c := c) (tn := tn) (p := p) (pa := pa) (m := m) (q' := q') (b := b) (x' := x') (h := h) hI 
  obtain ⟨z, rfl⟩ := jnum_i ho
  refine JX.aload_n dL_law_263 rfl rfl ?_
  refine JX.call6 (as := []) ho okX6_fault jcL_27 h6 dL_law_264 rfl rfl rfl (fun r9 q9 x9 n9 u9 => ?_)
  refine JX.aload_n dL_law_267 rfl rfl ?_
  refine JX.call7 (as := []) (B := wC (rsN rs' 1 r9) v' q9 x9 n9 u9 c' l' tn') rfl ho okX7_fault jcL_30 h7 dL_law_268 rfl rfl rfl (fun s9 la9 p9 pa9 m9 q8 b9 x8 h9 hI8 => ?_)
  have hI9 : jIv (rsN rs' 1 r9) v' l' s9 la9 := hI8
  exact JX.icmp_eq (tgt := 1500) dL_law_271 (by decide) (fun _ => IH _ _ _ _ _ _ _ _ _ _ _ _ _ _ _ _ _ _ hI9) (fun h => absurd rfl h)
set_option maxRecDepth 100000 in
set_option maxHeartbeats 4000000 in
theorem law_4 (i : Nat) (hi : i + 5 ≤ N9) (hN : N9 ≤ 2560) (IH : LAt N9 xs nm 1500 i) : LAt N9 xs nm 276 i := by
  intro rs v q x n u c l tn s la p pa m q' b x' h hI
  have HA : ∀ {a1 : rsT} {a2 : vT} {a3 : rT} {a4 : Nat → Nat} {a5 : Nat → Int64} {a6 : uT} {a7 : Nat → Nat → Int32} {a8 : Nat → Int32} {a9 : Int32} {R : jW}, R.length = 21 → (wC a1 a2 a3 a4 a5 a6 a7 a8 a9 ++ R).length ≤ 4000 := fun h => by rw [List.length_append, h]; exact Nat.le_of_ble_eq_true rfl
  obtain ⟨o, rs', v', c', l', tn', ho, h6, h7⟩ := b_rule (q := q) (x := x) (n := n) (u := u) (c := c) (tn := tn) (p := p) (pa := pa) (m := m) (q' := q') (b := b) (x' := x') (h := h) hI (xs (i + 1))
  obtain ⟨z, rfl⟩ := jnum_i ho
  refine JX.aload_n dL_law_276 rfl rfl ?_
  refine JX.arg 1 i (by decide) dL_law_277 dL_law_278 dL_law_279 dL_law_280 dL_law_281 rfl rfl (HA rfl) (by omega) hN ?_
  refine JX.call6 (as := [.int (xs (i + 1))]) ho okX6_rule jcL_31 h6 dL_law_282 rfl rfl rfl (fun r9 q9 x9 n9 u9 => ?_)
  refine JX.aload_n dL_law_285 rfl rfl ?_
  refine JX.arg 1 i (by decide) dL_law_286 dL_law_287 dL_law_288 dL_law_289 dL_law_290 rfl rfl (HA rfl) (by omega) hN ?_
  refine JX.call7 (as := [.int (xs (i + 1))]) (B := wC (rsN rs' 1 r9) v' q9 x9 n9 u9 c' l' tn') rfl ho okX7_rule jcL_34 h7 dL_law_291 rfl rfl rfl (fun s9 la9 p9 pa9 m9 q8 b9 x8 h9 hI8 => ?_)
  have hI9 : jIv (rsN rs' 1 r9) v' l' s9 la9 := hI8
  exact JX.icmp_eq (tgt := 1500) dL_law_294 (by decide) (fun _ => IH _ _ _ _ _ _ _ _ _ _ _ _ _ _ _ _ _ _ hI9) (fun h => absurd rfl h)
set_option maxRecDepth 100000 in
set_option maxHeartbeats 4000000 in
theorem law_5 (i : Nat) (hi : i + 5 ≤ N9) (hN : N9 ≤ 2560) (IH : LAt N9 xs nm 1500 i) : LAt N9 xs nm 299 i := by
  intro rs v q x n u c l tn s la p pa m q' b x' h hI
  have HA : ∀ {a1 : rsT} {a2 : vT} {a3 : rT} {a4 : Nat → Nat} {a5 : Nat → Int64} {a6 : uT} {a7 : Nat → Nat → Int32} {a8 : Nat → Int32} {a9 : Int32} {R : jW}, R.length = 21 → (wC a1 a2 a3 a4 a5 a6 a7 a8 a9 ++ R).length ≤ 4000 := fun h => by rw [List.length_append, h]; exact Nat.le_of_ble_eq_true rfl
  obtain ⟨o, rs', v', c', l', tn', ho, h6, h7⟩ := b_hair (q := q) (x := x) (n := n) (u := u) (c := c) (tn := tn) (p := p) (pa := pa) (m := m) (q' := q') (b := b) (x' := x') (h := h) hI (xs (i + 1)) (xs (i + 2))
  obtain ⟨z, rfl⟩ := jnum_i ho
  refine JX.aload_n dL_law_299 rfl rfl ?_
  refine JX.arg 1 i (by decide) dL_law_300 dL_law_301 dL_law_302 dL_law_303 dL_law_304 rfl rfl (HA rfl) (by omega) hN ?_
  refine JX.arg 2 i (by decide) dL_law_305 dL_law_306 dL_law_307 dL_law_308 dL_law_309 rfl rfl (HA rfl) (by omega) hN ?_
  refine JX.call6 (as := [.int (xs (i + 1)), .int (xs (i + 2))]) ho okX6_hair jcL_35 h6 dL_law_310 rfl rfl rfl (fun r9 q9 x9 n9 u9 => ?_)
  refine JX.aload_n dL_law_313 rfl rfl ?_
  refine JX.arg 1 i (by decide) dL_law_314 dL_law_315 dL_law_316 dL_law_317 dL_law_318 rfl rfl (HA rfl) (by omega) hN ?_
  refine JX.arg 2 i (by decide) dL_law_319 dL_law_320 dL_law_321 dL_law_322 dL_law_323 rfl rfl (HA rfl) (by omega) hN ?_
  refine JX.call7 (as := [.int (xs (i + 1)), .int (xs (i + 2))]) (B := wC (rsN rs' 1 r9) v' q9 x9 n9 u9 c' l' tn') rfl ho okX7_hair jcL_39 h7 dL_law_324 rfl rfl rfl (fun s9 la9 p9 pa9 m9 q8 b9 x8 h9 hI8 => ?_)
  have hI9 : jIv (rsN rs' 1 r9) v' l' s9 la9 := hI8
  exact JX.icmp_eq (tgt := 1500) dL_law_327 (by decide) (fun _ => IH _ _ _ _ _ _ _ _ _ _ _ _ _ _ _ _ _ _ hI9) (fun h => absurd rfl h)
set_option maxRecDepth 100000 in
set_option maxHeartbeats 4000000 in
theorem law_6 (i : Nat) (hi : i + 5 ≤ N9) (hN : N9 ≤ 2560) (IH : LAt N9 xs nm 1500 i) : LAt N9 xs nm 332 i := by
  intro rs v q x n u c l tn s la p pa m q' b x' h hI
  have HA : ∀ {a1 : rsT} {a2 : vT} {a3 : rT} {a4 : Nat → Nat} {a5 : Nat → Int64} {a6 : uT} {a7 : Nat → Nat → Int32} {a8 : Nat → Int32} {a9 : Int32} {R : jW}, R.length = 21 → (wC a1 a2 a3 a4 a5 a6 a7 a8 a9 ++ R).length ≤ 4000 := fun h => by rw [List.length_append, h]; exact Nat.le_of_ble_eq_true rfl
  obtain ⟨o, rs', v', c', l', tn', ho, h6, h7⟩ := b_king (q := q) (x := x) (n := n) (u := u) (c := c) (tn := tn) (p := p) (pa := pa) (m := m) (q' := q') (b := b) (x' := x') (h := h) hI (xs (i + 1)) (xs (i + 2))
  obtain ⟨z, rfl⟩ := jnum_i ho
  refine JX.aload_n dL_law_332 rfl rfl ?_
  refine JX.arg 1 i (by decide) dL_law_333 dL_law_334 dL_law_335 dL_law_336 dL_law_337 rfl rfl (HA rfl) (by omega) hN ?_
  refine JX.arg 2 i (by decide) dL_law_338 dL_law_339 dL_law_340 dL_law_341 dL_law_342 rfl rfl (HA rfl) (by omega) hN ?_
  refine JX.call6 (as := [.int (xs (i + 1)), .int (xs (i + 2))]) ho okX6_king jcL_40 h6 dL_law_343 rfl rfl rfl (fun r9 q9 x9 n9 u9 => ?_)
  refine JX.aload_n dL_law_346 rfl rfl ?_
  refine JX.arg 1 i (by decide) dL_law_347 dL_law_348 dL_law_349 dL_law_350 dL_law_351 rfl rfl (HA rfl) (by omega) hN ?_
  refine JX.arg 2 i (by decide) dL_law_352 dL_law_353 dL_law_354 dL_law_355 dL_law_356 rfl rfl (HA rfl) (by omega) hN ?_
  refine JX.call7 (as := [.int (xs (i + 1)), .int (xs (i + 2))]) (B := wC (rsN rs' 1 r9) v' q9 x9 n9 u9 c' l' tn') rfl ho okX7_king jcL_43 h7 dL_law_357 rfl rfl rfl (fun s9 la9 p9 pa9 m9 q8 b9 x8 h9 hI8 => ?_)
  have hI9 : jIv (rsN rs' 1 r9) v' l' s9 la9 := hI8
  exact JX.icmp_eq (tgt := 1500) dL_law_360 (by decide) (fun _ => IH _ _ _ _ _ _ _ _ _ _ _ _ _ _ _ _ _ _ hI9) (fun h => absurd rfl h)
set_option maxRecDepth 100000 in
set_option maxHeartbeats 4000000 in
theorem law_7 (i : Nat) (hi : i + 5 ≤ N9) (hN : N9 ≤ 2560) (IH : LAt N9 xs nm 1500 i) : LAt N9 xs nm 365 i := by
  intro rs v q x n u c l tn s la p pa m q' b x' h hI
  have HA : ∀ {a1 : rsT} {a2 : vT} {a3 : rT} {a4 : Nat → Nat} {a5 : Nat → Int64} {a6 : uT} {a7 : Nat → Nat → Int32} {a8 : Nat → Int32} {a9 : Int32} {R : jW}, R.length = 21 → (wC a1 a2 a3 a4 a5 a6 a7 a8 a9 ++ R).length ≤ 4000 := fun h => by rw [List.length_append, h]; exact Nat.le_of_ble_eq_true rfl
  obtain ⟨o, rs', v', c', l', tn', ho, h6, h7⟩ := b_law (q := q) (x := x) (n := n) (u := u) (c := c) (tn := tn) (p := p) (pa := pa) (m := m) (q' := q') (b := b) (x' := x') (h := h) hI (xs (i + 1)) (xs (i + 2))
  obtain ⟨z, rfl⟩ := jnum_i ho
  refine JX.aload_n dL_law_365 rfl rfl ?_
  refine JX.arg 1 i (by decide) dL_law_366 dL_law_367 dL_law_368 dL_law_369 dL_law_370 rfl rfl (HA rfl) (by omega) hN ?_
  refine JX.arg 2 i (by decide) dL_law_371 dL_law_372 dL_law_373 dL_law_374 dL_law_375 rfl rfl (HA rfl) (by omega) hN ?_
  refine JX.call6 (as := [.int (xs (i + 1)), .int (xs (i + 2))]) ho okX6_law jcL_44 h6 dL_law_376 rfl rfl rfl (fun r9 q9 x9 n9 u9 => ?_)
  refine JX.aload_n dL_law_379 rfl rfl ?_
  refine JX.arg 1 i (by decide) dL_law_380 dL_law_381 dL_law_382 dL_law_383 dL_law_384 rfl rfl (HA rfl) (by omega) hN ?_
  refine JX.arg 2 i (by decide) dL_law_385 dL_law_386 dL_law_387 dL_law_388 dL_law_389 rfl rfl (HA rfl) (by omega) hN ?_
  refine JX.call7 (as := [.int (xs (i + 1)), .int (xs (i + 2))]) (B := wC (rsN rs' 1 r9) v' q9 x9 n9 u9 c' l' tn') rfl ho okX7_law jcL_47 h7 dL_law_390 rfl rfl rfl (fun s9 la9 p9 pa9 m9 q8 b9 x8 h9 hI8 => ?_)
  have hI9 : jIv (rsN rs' 1 r9) v' l' s9 la9 := hI8
  exact JX.icmp_eq (tgt := 1500) dL_law_393 (by decide) (fun _ => IH _ _ _ _ _ _ _ _ _ _ _ _ _ _ _ _ _ _ hI9) (fun h => absurd rfl h)
set_option maxRecDepth 100000 in
set_option maxHeartbeats 4000000 in
theorem law_8 (i : Nat) (hi : i + 5 ≤ N9) (hN : N9 ≤ 2560) (IH : LAt N9 xs nm 1500 i) : LAt N9 xs nm 398 i := by
  intro rs v q x n u c l tn s la p pa m q' b x' h hI
  have HA : ∀ {a1 : rsT} {a2 : vT} {a3 : rT} {a4 : Nat → Nat} {a5 : Nat → Int64} {a6 : uT} {a7 : Nat → Nat → Int32} {a8 : Nat → Int32} {a9 : Int32} {R : jW}, R.length = 21 → (wC a1 a2 a3 a4 a5 a6 a7 a8 a9 ++ R).length ≤ 4000 := fun h => by rw [List.length_append, h]; exact Nat.le_of_ble_eq_true rfl
  obtain ⟨o, rs', v', c', l', tn', ho, h6, h7⟩ := b_set (q := q) (x := x) (n := n) (u := u) (c := c) (tn := tn) (p := p) (pa := pa) (m := m) (q' := q') (b := b) (x' := x') (h := h) hI (xs (i + 1)) (xs (i + 2))
  obtain ⟨z, rfl⟩ := jnum_i ho
  refine JX.aload_n dL_law_398 rfl rfl ?_
  refine JX.arg 1 i (by decide) dL_law_399 dL_law_400 dL_law_401 dL_law_402 dL_law_403 rfl rfl (HA rfl) (by omega) hN ?_
  refine JX.arg 2 i (by decide) dL_law_404 dL_law_405 dL_law_406 dL_law_407 dL_law_408 rfl rfl (HA rfl) (by omega) hN ?_
  refine JX.call6 (as := [.int (xs (i + 1)), .int (xs (i + 2))]) ho okX6_set jcL_48 h6 dL_law_409 rfl rfl rfl (fun r9 q9 x9 n9 u9 => ?_)
  refine JX.aload_n dL_law_412 rfl rfl ?_
  refine JX.arg 1 i (by decide) dL_law_413 dL_law_414 dL_law_415 dL_law_416 dL_law_417 rfl rfl (HA rfl) (by omega) hN ?_
  refine JX.arg 2 i (by decide) dL_law_418 dL_law_419 dL_law_420 dL_law_421 dL_law_422 rfl rfl (HA rfl) (by omega) hN ?_
  refine JX.call7 (as := [.int (xs (i + 1)), .int (xs (i + 2))]) (B := wC (rsN rs' 1 r9) v' q9 x9 n9 u9 c' l' tn') rfl ho okX7_set jcL_51 h7 dL_law_423 rfl rfl rfl (fun s9 la9 p9 pa9 m9 q8 b9 x8 h9 hI8 => ?_)
  have hI9 : jIv (rsN rs' 1 r9) v' l' s9 la9 := hI8
  exact JX.icmp_eq (tgt := 1500) dL_law_426 (by decide) (fun _ => IH _ _ _ _ _ _ _ _ _ _ _ _ _ _ _ _ _ _ hI9) (fun h => absurd rfl h)
set_option maxRecDepth 100000 in
set_option maxHeartbeats 4000000 in
theorem law_9 (i : Nat) (hi : i + 5 ≤ N9) (hN : N9 ≤ 2560) (IH : LAt N9 xs nm 1500 i) : LAt N9 xs nm 431 i := by
  intro rs v q x n u c l tn s la p pa m q' b x' h hI
  have HA : ∀ {a1 : rsT} {a2 : vT} {a3 : rT} {a4 : Nat → Nat} {a5 : Nat → Int64} {a6 : uT} {a7 : Nat → Nat → Int32} {a8 : Nat → Int32} {a9 : Int32} {R : jW}, R.length = 21 → (wC a1 a2 a3 a4 a5 a6 a7 a8 a9 ++ R).length ≤ 4000 := fun h => by rw [List.length_append, h]; exact Nat.le_of_ble_eq_true rfl
  obtain ⟨o, rs', v', c', l', tn', ho, h6, h7⟩ := b_age (q := q) (x := x) (n := n) (u := u) (c := c) (tn := tn) (p := p) (pa := pa) (m := m) (q' := q') (b := b) (x' := x') (h := h) hI (xs (i + 1)) (xs (i + 2))
  obtain ⟨z, rfl⟩ := jnum_i ho
  refine JX.aload_n dL_law_431 rfl rfl ?_
  refine JX.arg 1 i (by decide) dL_law_432 dL_law_433 dL_law_434 dL_law_435 dL_law_436 rfl rfl (HA rfl) (by omega) hN ?_
  refine JX.arg 2 i (by decide) dL_law_437 dL_law_438 dL_law_439 dL_law_440 dL_law_441 rfl rfl (HA rfl) (by omega) hN ?_
  refine JX.call6 (as := [.int (xs (i + 1)), .int (xs (i + 2))]) ho okX6_age jcL_52 h6 dL_law_442 rfl rfl rfl (fun r9 q9 x9 n9 u9 => ?_)
  refine JX.aload_n dL_law_445 rfl rfl ?_
  refine JX.arg 1 i (by decide) dL_law_446 dL_law_447 dL_law_448 dL_law_449 dL_law_450 rfl rfl (HA rfl) (by omega) hN ?_
  refine JX.arg 2 i (by decide) dL_law_451 dL_law_452 dL_law_453 dL_law_454 dL_law_455 rfl rfl (HA rfl) (by omega) hN ?_
  refine JX.call7 (as := [.int (xs (i + 1)), .int (xs (i + 2))]) (B := wC (rsN rs' 1 r9) v' q9 x9 n9 u9 c' l' tn') rfl ho okX7_age jcL_55 h7 dL_law_456 rfl rfl rfl (fun s9 la9 p9 pa9 m9 q8 b9 x8 h9 hI8 => ?_)
  have hI9 : jIv (rsN rs' 1 r9) v' l' s9 la9 := hI8
  exact JX.icmp_eq (tgt := 1500) dL_law_459 (by decide) (fun _ => IH _ _ _ _ _ _ _ _ _ _ _ _ _ _ _ _ _ _ hI9) (fun h => absurd rfl h)
set_option maxRecDepth 100000 in
set_option maxHeartbeats 4000000 in
theorem law_10 (i : Nat) (hi : i + 5 ≤ N9) (hN : N9 ≤ 2560) (IH : LAt N9 xs nm 1500 i) : LAt N9 xs nm 464 i := by
  intro rs v q x n u c l tn s la p pa m q' b x' h hI
  have HA : ∀ {a1 : rsT} {a2 : vT} {a3 : rT} {a4 : Nat → Nat} {a5 : Nat → Int64} {a6 : uT} {a7 : Nat → Nat → Int32} {a8 : Nat → Int32} {a9 : Int32} {R : jW}, R.length = 21 → (wC a1 a2 a3 a4 a5 a6 a7 a8 a9 ++ R).length ≤ 4000 := fun h => by rw [List.length_append, h]; exact Nat.le_of_ble_eq_true rfl
  obtain ⟨o, rs', v', c', l', tn', ho, h6, h7⟩ := b_dye (q := q) (x := x) (n := n) (u := u) (c := c) (tn := tn) (p := p) (pa := pa) (m := m) (q' := q') (b := b) (x' := x') (h := h) hI (xs (i + 1)) (xs (i + 2))
  obtain ⟨z, rfl⟩ := jnum_i ho
  refine JX.aload_n dL_law_464 rfl rfl ?_
  refine JX.arg 1 i (by decide) dL_law_465 dL_law_466 dL_law_467 dL_law_468 dL_law_469 rfl rfl (HA rfl) (by omega) hN ?_
  refine JX.arg 2 i (by decide) dL_law_470 dL_law_471 dL_law_472 dL_law_473 dL_law_474 rfl rfl (HA rfl) (by omega) hN ?_
  refine JX.call6 (as := [.int (xs (i + 1)), .int (xs (i + 2))]) ho okX6_dye jcL_56 h6 dL_law_475 rfl rfl rfl (fun r9 q9 x9 n9 u9 => ?_)
  refine JX.aload_n dL_law_478 rfl rfl ?_
  refine JX.arg 1 i (by decide) dL_law_479 dL_law_480 dL_law_481 dL_law_482 dL_law_483 rfl rfl (HA rfl) (by omega) hN ?_
  refine JX.arg 2 i (by decide) dL_law_484 dL_law_485 dL_law_486 dL_law_487 dL_law_488 rfl rfl (HA rfl) (by omega) hN ?_
  refine JX.call7 (as := [.int (xs (i + 1)), .int (xs (i + 2))]) (B := wC (rsN rs' 1 r9) v' q9 x9 n9 u9 c' l' tn') rfl ho okX7_dye jcL_59 h7 dL_law_489 rfl rfl rfl (fun s9 la9 p9 pa9 m9 q8 b9 x8 h9 hI8 => ?_)
  have hI9 : jIv (rsN rs' 1 r9) v' l' s9 la9 := hI8
  exact JX.icmp_eq (tgt := 1500) dL_law_492 (by decide) (fun _ => IH _ _ _ _ _ _ _ _ _ _ _ _ _ _ _ _ _ _ hI9) (fun h => absurd rfl h)
set_option maxRecDepth 100000 in
set_option maxHeartbeats 4000000 in
theorem law_11 (i : Nat) (hi : i + 5 ≤ N9) (hN : N9 ≤ 2560) (IH : LAt N9 xs nm 1500 i) : LAt N9 xs nm 497 i := by
  intro rs v q x n u c l tn s la p pa m q' b x' h hI
  have HA : ∀ {a1 : rsT} {a2 : vT} {a3 : rT} {a4 : Nat → Nat} {a5 : Nat → Int64} {a6 : uT} {a7 : Nat → Nat → Int32} {a8 : Nat → Int32} {a9 : Int32} {R : jW}, R.length = 21 → (wC a1 a2 a3 a4 a5 a6 a7 a8 a9 ++ R).length ≤ 4000 := fun h => by rw [List.length_append, h]; exact Nat.le_of_ble_eq_true rfl
  by_cases hz : xs (i + 2) = 0
  · obtain ⟨o, rs', v', c', l', tn', ho, h6, h7⟩ := b_knot (q := q) (x := x) (n := n) (u := u) (c := c) (tn := tn) (p := p) (pa := pa) (m := m) (q' := q') (b := b) (x' := x') (h := h) hI (xs (i + 1)) 0 (Or.inl rfl)
    obtain ⟨z, rfl⟩ := jnum_i ho
    refine JX.aload_n dL_law_497 rfl rfl ?_
    refine JX.arg 1 i (by decide) dL_law_498 dL_law_499 dL_law_500 dL_law_501 dL_law_502 rfl rfl (HA rfl) (by omega) hN ?_
    refine JX.arg 2 i (by decide) dL_law_503 dL_law_504 dL_law_505 dL_law_506 dL_law_507 rfl rfl (HA rfl) (by omega) hN ?_
    refine JX.if_eq (tgt := 515) dL_law_508 (by decide) (fun _ => ?_) (fun h => absurd hz h)
    refine JX.iconst (0) dL_law_515 (by decide) ?_
    refine JX.call6 (as := [.int (xs (i + 1)), .int 0]) ho okX6_knot jcL_60 h6 dL_law_516 rfl rfl rfl (fun r9 q9 x9 n9 u9 => ?_)
    refine JX.aload_n dL_law_519 rfl rfl ?_
    refine JX.arg 1 i (by decide) dL_law_520 dL_law_521 dL_law_522 dL_law_523 dL_law_524 rfl rfl (HA rfl) (by omega) hN ?_
    refine JX.arg 2 i (by decide) dL_law_525 dL_law_526 dL_law_527 dL_law_528 dL_law_529 rfl rfl (HA rfl) (by omega) hN ?_
    refine JX.if_eq (tgt := 537) dL_law_530 (by decide) (fun _ => ?_) (fun h => absurd hz h)
    refine JX.iconst (0) dL_law_537 (by decide) ?_
    refine JX.call7 (as := [.int (xs (i + 1)), .int 0]) (B := wC (rsN rs' 1 r9) v' q9 x9 n9 u9 c' l' tn') rfl ho okX7_knot jcL_64 h7 dL_law_538 rfl rfl rfl (fun s9 la9 p9 pa9 m9 q8 b9 x8 h9 hI8 => ?_)
    have hI9 : jIv (rsN rs' 1 r9) v' l' s9 la9 := hI8
    exact JX.icmp_eq (tgt := 1500) dL_law_541 (by decide) (fun _ => IH _ _ _ _ _ _ _ _ _ _ _ _ _ _ _ _ _ _ hI9) (fun h => absurd rfl h)
  · obtain ⟨o, rs', v', c', l', tn', ho, h6, h7⟩ := b_knot (q := q) (x := x) (n := n) (u := u) (c := c) (tn := tn) (p := p) (pa := pa) (m := m) (q' := q') (b := b) (x' := x') (h := h) hI (xs (i + 1)) 1 (Or.inr rfl)
    obtain ⟨z, rfl⟩ := jnum_i ho
    refine JX.aload_n dL_law_497 rfl rfl ?_
    refine JX.arg 1 i (by decide) dL_law_498 dL_law_499 dL_law_500 dL_law_501 dL_law_502 rfl rfl (HA rfl) (by omega) hN ?_
    refine JX.arg 2 i (by decide) dL_law_503 dL_law_504 dL_law_505 dL_law_506 dL_law_507 rfl rfl (HA rfl) (by omega) hN ?_
    refine JX.if_eq (tgt := 515) dL_law_508 (by decide) (fun h => absurd h hz) (fun _ => ?_)
    refine JX.iconst (1) dL_law_511 (by decide) ?_
    refine JX.goto (tgt := 516) dL_law_512 (by decide) ?_
    refine JX.call6 (as := [.int (xs (i + 1)), .int 1]) ho okX6_knot jcL_60 h6 dL_law_516 rfl rfl rfl (fun r9 q9 x9 n9 u9 => ?_)
    refine JX.aload_n dL_law_519 rfl rfl ?_
    refine JX.arg 1 i (by decide) dL_law_520 dL_law_521 dL_law_522 dL_law_523 dL_law_524 rfl rfl (HA rfl) (by omega) hN ?_
    refine JX.arg 2 i (by decide) dL_law_525 dL_law_526 dL_law_527 dL_law_528 dL_law_529 rfl rfl (HA rfl) (by omega) hN ?_
    refine JX.if_eq (tgt := 537) dL_law_530 (by decide) (fun h => absurd h hz) (fun _ => ?_)
    refine JX.iconst (1) dL_law_533 (by decide) ?_
    refine JX.goto (tgt := 538) dL_law_534 (by decide) ?_
    refine JX.call7 (as := [.int (xs (i + 1)), .int 1]) (B := wC (rsN rs' 1 r9) v' q9 x9 n9 u9 c' l' tn') rfl ho okX7_knot jcL_64 h7 dL_law_538 rfl rfl rfl (fun s9 la9 p9 pa9 m9 q8 b9 x8 h9 hI8 => ?_)
    have hI9 : jIv (rsN rs' 1 r9) v' l' s9 la9 := hI8
    exact JX.icmp_eq (tgt := 1500) dL_law_541 (by decide) (fun _ => IH _ _ _ _ _ _ _ _ _ _ _ _ _ _ _ _ _ _ hI9) (fun h => absurd rfl h)
set_option maxRecDepth 100000 in
set_option maxHeartbeats 4000000 in
theorem law_12 (i : Nat) (hi : i + 5 ≤ N9) (hN : N9 ≤ 2560) (IH : LAt N9 xs nm 1500 i) : LAt N9 xs nm 546 i := by
  intro rs v q x n u c l tn s la p pa m q' b x' h hI
  have HA : ∀ {a1 : rsT} {a2 : vT} {a3 : rT} {a4 : Nat → Nat} {a5 : Nat → Int64} {a6 : uT} {a7 : Nat → Nat → Int32} {a8 : Nat → Int32} {a9 : Int32} {R : jW}, R.length = 21 → (wC a1 a2 a3 a4 a5 a6 a7 a8 a9 ++ R).length ≤ 4000 := fun h => by rw [List.length_append, h]; exact Nat.le_of_ble_eq_true rfl
  obtain ⟨o, rs', v', c', l', tn', ho, h6, h7⟩ := b_pay (q := q) (x := x) (n := n) (u := u) (c := c) (tn := tn) (p := p) (pa := pa) (m := m) (q' := q') (b := b) (x' := x') (h := h) hI (xs (i + 1)) (xs (i + 2)) (xs (i + 3))
  obtain ⟨z, rfl⟩ := jnum_i ho
  refine JX.aload_n dL_law_546 rfl rfl ?_
  refine JX.arg 1 i (by decide) dL_law_547 dL_law_548 dL_law_549 dL_law_550 dL_law_551 rfl rfl (HA rfl) (by omega) hN ?_
  refine JX.arg 2 i (by decide) dL_law_552 dL_law_553 dL_law_554 dL_law_555 dL_law_556 rfl rfl (HA rfl) (by omega) hN ?_
  refine JX.arg 3 i (by decide) dL_law_557 dL_law_558 dL_law_559 dL_law_560 dL_law_561 rfl rfl (HA rfl) (by omega) hN ?_
  refine JX.call6 (as := [.int (xs (i + 1)), .int (xs (i + 2)), .int (xs (i + 3))]) ho okX6_pay jcL_65 h6 dL_law_562 rfl rfl rfl (fun r9 q9 x9 n9 u9 => ?_)
  refine JX.aload_n dL_law_565 rfl rfl ?_
  refine JX.arg 1 i (by decide) dL_law_566 dL_law_567 dL_law_568 dL_law_569 dL_law_570 rfl rfl (HA rfl) (by omega) hN ?_
  refine JX.arg 2 i (by decide) dL_law_571 dL_law_572 dL_law_573 dL_law_574 dL_law_575 rfl rfl (HA rfl) (by omega) hN ?_
  refine JX.arg 3 i (by decide) dL_law_576 dL_law_577 dL_law_578 dL_law_579 dL_law_580 rfl rfl (HA rfl) (by omega) hN ?_
  refine JX.call7 (as := [.int (xs (i + 1)), .int (xs (i + 2)), .int (xs (i + 3))]) (B := wC (rsN rs' 1 r9) v' q9 x9 n9 u9 c' l' tn') rfl ho okX7_pay jcL_69 h7 dL_law_581 rfl rfl rfl (fun s9 la9 p9 pa9 m9 q8 b9 x8 h9 hI8 => ?_)
  have hI9 : jIv (rsN rs' 1 r9) v' l' s9 la9 := hI8
  exact JX.icmp_eq (tgt := 1500) dL_law_584 (by decide) (fun _ => IH _ _ _ _ _ _ _ _ _ _ _ _ _ _ _ _ _ _ hI9) (fun h => absurd rfl h)
set_option maxRecDepth 100000 in
set_option maxHeartbeats 4000000 in
theorem law_13 (i : Nat) (hi : i + 5 ≤ N9) (hN : N9 ≤ 2560) (IH : LAt N9 xs nm 1500 i) : LAt N9 xs nm 589 i := by
  intro rs v q x n u c l tn s la p pa m q' b x' h hI
  have HA : ∀ {a1 : rsT} {a2 : vT} {a3 : rT} {a4 : Nat → Nat} {a5 : Nat → Int64} {a6 : uT} {a7 : Nat → Nat → Int32} {a8 : Nat → Int32} {a9 : Int32} {R : jW}, R.length = 21 → (wC a1 a2 a3 a4 a5 a6 a7 a8 a9 ++ R).length ≤ 4000 := fun h => by rw [List.length_append, h]; exact Nat.le_of_ble_eq_true rfl
  obtain ⟨o, rs', v', c', l', tn', ho, h6, h7⟩ := b_hour (q := q) (x := x) (n := n) (u := u) (c := c) (tn := tn) (p := p) (pa := pa) (m := m) (q' := q') (b := b) (x' := x') (h := h) hI (xs (i + 1))
  obtain ⟨z, rfl⟩ := jnum_i ho
  refine JX.aload_n dL_law_589 rfl rfl ?_
  refine JX.arg 1 i (by decide) dL_law_590 dL_law_591 dL_law_592 dL_law_593 dL_law_594 rfl rfl (HA rfl) (by omega) hN ?_
  refine JX.call6 (as := [.int (xs (i + 1))]) ho okX6_hour jcL_70 h6 dL_law_595 rfl rfl rfl (fun r9 q9 x9 n9 u9 => ?_)
  refine JX.aload_n dL_law_598 rfl rfl ?_
  refine JX.arg 1 i (by decide) dL_law_599 dL_law_600 dL_law_601 dL_law_602 dL_law_603 rfl rfl (HA rfl) (by omega) hN ?_
  refine JX.call7 (as := [.int (xs (i + 1))]) (B := wC (rsN rs' 1 r9) v' q9 x9 n9 u9 c' l' tn') rfl ho okX7_hour jcL_73 h7 dL_law_604 rfl rfl rfl (fun s9 la9 p9 pa9 m9 q8 b9 x8 h9 hI8 => ?_)
  have hI9 : jIv (rsN rs' 1 r9) v' l' s9 la9 := hI8
  exact JX.icmp_eq (tgt := 1500) dL_law_607 (by decide) (fun _ => IH _ _ _ _ _ _ _ _ _ _ _ _ _ _ _ _ _ _ hI9) (fun h => absurd rfl h)
set_option maxRecDepth 100000 in
set_option maxHeartbeats 4000000 in
theorem law_14 (i : Nat) (hi : i + 5 ≤ N9) (hN : N9 ≤ 2560) (IH : LAt N9 xs nm 1500 i) : LAt N9 xs nm 612 i := by
  intro rs v q x n u c l tn s la p pa m q' b x' h hI
  have HA : ∀ {a1 : rsT} {a2 : vT} {a3 : rT} {a4 : Nat → Nat} {a5 : Nat → Int64} {a6 : uT} {a7 : Nat → Nat → Int32} {a8 : Nat → Int32} {a9 : Int32} {R : jW}, R.length = 21 → (wC a1 a2 a3 a4 a5 a6 a7 a8 a9 ++ R).length ≤ 4000 := fun h => by rw [List.length_append, h]; exact Nat.le_of_ble_eq_true rfl
  obtain ⟨o, rs', v', c', l', tn', ho, h6, h7⟩ := b_falls (q := q) (x := x) (n := n) (u := u) (c := c) (tn := tn) (p := p) (pa := pa) (m := m) (q' := q') (b := b) (x' := x') (h := h) hI (xs (i + 1)) (xs (i + 2))
  obtain ⟨z, rfl⟩ := jnum_l ho
  refine JX.aload_n dL_law_612 rfl rfl ?_
  refine JX.arg 1 i (by decide) dL_law_613 dL_law_614 dL_law_615 dL_law_616 dL_law_617 rfl rfl (HA rfl) (by omega) hN ?_
  refine JX.arg 2 i (by decide) dL_law_618 dL_law_619 dL_law_620 dL_law_621 dL_law_622 rfl rfl (HA rfl) (by omega) hN ?_
  refine JX.call6 (as := [.int (xs (i + 1)), .int (xs (i + 2))]) ho okX6_falls jcL_74 h6 dL_law_623 rfl rfl rfl (fun r9 q9 x9 n9 u9 => ?_)
  refine JX.aload_n dL_law_626 rfl rfl ?_
  refine JX.arg 1 i (by decide) dL_law_627 dL_law_628 dL_law_629 dL_law_630 dL_law_631 rfl rfl (HA rfl) (by omega) hN ?_
  refine JX.arg 2 i (by decide) dL_law_632 dL_law_633 dL_law_634 dL_law_635 dL_law_636 rfl rfl (HA rfl) (by omega) hN ?_
  refine JX.call7 (as := [.int (xs (i + 1)), .int (xs (i + 2))]) (B := wC (rsN rs' 1 r9) v' q9 x9 n9 u9 c' l' tn') rfl ho okX7_falls jcL_78 h7 dL_law_637 rfl rfl rfl (fun s9 la9 p9 pa9 m9 q8 b9 x8 h9 hI8 => ?_)
  have hI9 : jIv (rsN rs' 1 r9) v' l' s9 la9 := hI8
  refine JX.lcmp dL_law_640 ?_
  rw [lg_self]
  exact JX.if_eq (tgt := 1500) dL_law_641 (by decide) (fun _ => IH _ _ _ _ _ _ _ _ _ _ _ _ _ _ _ _ _ _ hI9) (fun h => absurd rfl h)
set_option maxRecDepth 100000 in
set_option maxHeartbeats 4000000 in
theorem law_15 (i : Nat) (hi : i + 5 ≤ N9) (hN : N9 ≤ 2560) (IH : LAt N9 xs nm 1500 i) : LAt N9 xs nm 646 i := by
  intro rs v q x n u c l tn s la p pa m q' b x' h hI
  have HA : ∀ {a1 : rsT} {a2 : vT} {a3 : rT} {a4 : Nat → Nat} {a5 : Nat → Int64} {a6 : uT} {a7 : Nat → Nat → Int32} {a8 : Nat → Int32} {a9 : Int32} {R : jW}, R.length = 21 → (wC a1 a2 a3 a4 a5 a6 a7 a8 a9 ++ R).length ≤ 4000 := fun h => by rw [List.length_append, h]; exact Nat.le_of_ble_eq_true rfl
  obtain ⟨o, rs', v', c', l', tn', ho, h6, h7⟩ := b_left (q := q) (x := x) (n := n) (u := u) (c := c) (tn := tn) (p := p) (pa := pa) (m := m) (q' := q') (b := b) (x' := x') (h := h) hI (xs (i + 1)) (xs (i + 2)) (xs (i + 3))
  obtain ⟨z, rfl⟩ := jnum_l ho
  refine JX.aload_n dL_law_646 rfl rfl ?_
  refine JX.arg 1 i (by decide) dL_law_647 dL_law_648 dL_law_649 dL_law_650 dL_law_651 rfl rfl (HA rfl) (by omega) hN ?_
  refine JX.arg 2 i (by decide) dL_law_652 dL_law_653 dL_law_654 dL_law_655 dL_law_656 rfl rfl (HA rfl) (by omega) hN ?_
  refine JX.arg 3 i (by decide) dL_law_657 dL_law_658 dL_law_659 dL_law_660 dL_law_661 rfl rfl (HA rfl) (by omega) hN ?_
  refine JX.call6 (as := [.int (xs (i + 1)), .int (xs (i + 2)), .int (xs (i + 3))]) ho okX6_left jcL_79 h6 dL_law_662 rfl rfl rfl (fun r9 q9 x9 n9 u9 => ?_)
  refine JX.aload_n dL_law_665 rfl rfl ?_
  refine JX.arg 1 i (by decide) dL_law_666 dL_law_667 dL_law_668 dL_law_669 dL_law_670 rfl rfl (HA rfl) (by omega) hN ?_
  refine JX.arg 2 i (by decide) dL_law_671 dL_law_672 dL_law_673 dL_law_674 dL_law_675 rfl rfl (HA rfl) (by omega) hN ?_
  refine JX.arg 3 i (by decide) dL_law_676 dL_law_677 dL_law_678 dL_law_679 dL_law_680 rfl rfl (HA rfl) (by omega) hN ?_
  refine JX.call7 (as := [.int (xs (i + 1)), .int (xs (i + 2)), .int (xs (i + 3))]) (B := wC (rsN rs' 1 r9) v' q9 x9 n9 u9 c' l' tn') rfl ho okX7_left jcL_83 h7 dL_law_681 rfl rfl rfl (fun s9 la9 p9 pa9 m9 q8 b9 x8 h9 hI8 => ?_)
  have hI9 : jIv (rsN rs' 1 r9) v' l' s9 la9 := hI8
  refine JX.lcmp dL_law_684 ?_
  rw [lg_self]
  exact JX.if_eq (tgt := 1500) dL_law_685 (by decide) (fun _ => IH _ _ _ _ _ _ _ _ _ _ _ _ _ _ _ _ _ _ hI9) (fun h => absurd rfl h)
set_option maxRecDepth 100000 in
set_option maxHeartbeats 4000000 in
theorem law_16 (i : Nat) (hi : i + 5 ≤ N9) (hN : N9 ≤ 2560) (IH : LAt N9 xs nm 1500 i) : LAt N9 xs nm 690 i := by
  intro rs v q x n u c l tn s la p pa m q' b x' h hI
  have HA : ∀ {a1 : rsT} {a2 : vT} {a3 : rT} {a4 : Nat → Nat} {a5 : Nat → Int64} {a6 : uT} {a7 : Nat → Nat → Int32} {a8 : Nat → Int32} {a9 : Int32} {R : jW}, R.length = 21 → (wC a1 a2 a3 a4 a5 a6 a7 a8 a9 ++ R).length ≤ 4000 := fun h => by rw [List.length_append, h]; exact Nat.le_of_ble_eq_true rfl
  obtain ⟨o, rs', v', c', l', tn', ho, h6, h7⟩ := b_mean (q := q) (x := x) (n := n) (u := u) (c := c) (tn := tn) (p := p) (pa := pa) (m := m) (q' := q') (b := b) (x' := x') (h := h) hI (xs (i + 1)) (xs (i + 2))
  obtain ⟨z, rfl⟩ := jnum_l ho
  refine JX.aload_n dL_law_690 rfl rfl ?_
  refine JX.arg 1 i (by decide) dL_law_691 dL_law_692 dL_law_693 dL_law_694 dL_law_695 rfl rfl (HA rfl) (by omega) hN ?_
  refine JX.arg 2 i (by decide) dL_law_696 dL_law_697 dL_law_698 dL_law_699 dL_law_700 rfl rfl (HA rfl) (by omega) hN ?_
  refine JX.call6 (as := [.int (xs (i + 1)), .int (xs (i + 2))]) ho okX6_mean jcL_84 h6 dL_law_701 rfl rfl rfl (fun r9 q9 x9 n9 u9 => ?_)
  refine JX.aload_n dL_law_704 rfl rfl ?_
  refine JX.arg 1 i (by decide) dL_law_705 dL_law_706 dL_law_707 dL_law_708 dL_law_709 rfl rfl (HA rfl) (by omega) hN ?_
  refine JX.arg 2 i (by decide) dL_law_710 dL_law_711 dL_law_712 dL_law_713 dL_law_714 rfl rfl (HA rfl) (by omega) hN ?_
  refine JX.call7 (as := [.int (xs (i + 1)), .int (xs (i + 2))]) (B := wC (rsN rs' 1 r9) v' q9 x9 n9 u9 c' l' tn') rfl ho okX7_mean jcL_87 h7 dL_law_715 rfl rfl rfl (fun s9 la9 p9 pa9 m9 q8 b9 x8 h9 hI8 => ?_)
  have hI9 : jIv (rsN rs' 1 r9) v' l' s9 la9 := hI8
  refine JX.lcmp dL_law_718 ?_
  rw [lg_self]
  exact JX.if_eq (tgt := 1500) dL_law_719 (by decide) (fun _ => IH _ _ _ _ _ _ _ _ _ _ _ _ _ _ _ _ _ _ hI9) (fun h => absurd rfl h)
set_option maxRecDepth 100000 in
set_option maxHeartbeats 4000000 in
theorem law_17 (i : Nat) (hi : i + 5 ≤ N9) (hN : N9 ≤ 2560) (IH : LAt N9 xs nm 1500 i) : LAt N9 xs nm 724 i := by
  intro rs v q x n u c l tn s la p pa m q' b x' h hI
  have HA : ∀ {a1 : rsT} {a2 : vT} {a3 : rT} {a4 : Nat → Nat} {a5 : Nat → Int64} {a6 : uT} {a7 : Nat → Nat → Int32} {a8 : Nat → Int32} {a9 : Int32} {R : jW}, R.length = 21 → (wC a1 a2 a3 a4 a5 a6 a7 a8 a9 ++ R).length ≤ 4000 := fun h => by rw [List.length_append, h]; exact Nat.le_of_ble_eq_true rfl
  obtain ⟨o, rs', v', c', l', tn', ho, h6, h7⟩ := b_sits (q := q) (x := x) (n := n) (u := u) (c := c) (tn := tn) (p := p) (pa := pa) (m := m) (q' := q') (b := b) (x' := x') (h := h) hI (xs (i + 1)) (xs (i + 2)) (xs (i + 3))
  obtain ⟨z, rfl⟩ := jnum_l ho
  refine JX.aload_n dL_law_724 rfl rfl ?_
  refine JX.arg 1 i (by decide) dL_law_725 dL_law_726 dL_law_727 dL_law_728 dL_law_729 rfl rfl (HA rfl) (by omega) hN ?_
  refine JX.arg 2 i (by decide) dL_law_730 dL_law_731 dL_law_732 dL_law_733 dL_law_734 rfl rfl (HA rfl) (by omega) hN ?_
  refine JX.arg 3 i (by decide) dL_law_735 dL_law_736 dL_law_737 dL_law_738 dL_law_739 rfl rfl (HA rfl) (by omega) hN ?_
  refine JX.call6 (as := [.int (xs (i + 1)), .int (xs (i + 2)), .int (xs (i + 3))]) ho okX6_sits jcL_88 h6 dL_law_740 rfl rfl rfl (fun r9 q9 x9 n9 u9 => ?_)
  refine JX.aload_n dL_law_743 rfl rfl ?_
  refine JX.arg 1 i (by decide) dL_law_744 dL_law_745 dL_law_746 dL_law_747 dL_law_748 rfl rfl (HA rfl) (by omega) hN ?_
  refine JX.arg 2 i (by decide) dL_law_749 dL_law_750 dL_law_751 dL_law_752 dL_law_753 rfl rfl (HA rfl) (by omega) hN ?_
  refine JX.arg 3 i (by decide) dL_law_754 dL_law_755 dL_law_756 dL_law_757 dL_law_758 rfl rfl (HA rfl) (by omega) hN ?_
  refine JX.call7 (as := [.int (xs (i + 1)), .int (xs (i + 2)), .int (xs (i + 3))]) (B := wC (rsN rs' 1 r9) v' q9 x9 n9 u9 c' l' tn') rfl ho okX7_sits jcL_91 h7 dL_law_759 rfl rfl rfl (fun s9 la9 p9 pa9 m9 q8 b9 x8 h9 hI8 => ?_)
  have hI9 : jIv (rsN rs' 1 r9) v' l' s9 la9 := hI8
  refine JX.lcmp dL_law_762 ?_
  rw [lg_self]
  exact JX.if_eq (tgt := 1500) dL_law_763 (by decide) (fun _ => IH _ _ _ _ _ _ _ _ _ _ _ _ _ _ _ _ _ _ hI9) (fun h => absurd rfl h)
set_option maxRecDepth 100000 in
set_option maxHeartbeats 4000000 in
theorem law_18 (i : Nat) (hi : i + 5 ≤ N9) (hN : N9 ≤ 2560) (IH : LAt N9 xs nm 1500 i) : LAt N9 xs nm 768 i := by
  intro rs v q x n u c l tn s la p pa m q' b x' h hI
  have HA : ∀ {a1 : rsT} {a2 : vT} {a3 : rT} {a4 : Nat → Nat} {a5 : Nat → Int64} {a6 : uT} {a7 : Nat → Nat → Int32} {a8 : Nat → Int32} {a9 : Int32} {R : jW}, R.length = 21 → (wC a1 a2 a3 a4 a5 a6 a7 a8 a9 ++ R).length ≤ 4000 := fun h => by rw [List.length_append, h]; exact Nat.le_of_ble_eq_true rfl
  obtain ⟨o, rs', v', c', l', tn', ho, h6, h7⟩ := b_best (q := q) (x := x) (n := n) (u := u) (c := c) (tn := tn) (p := p) (pa := pa) (m := m) (q' := q') (b := b) (x' := x') (h := h) hI (xs (i + 1)) (xs (i + 2)) (xs (i + 3))
  obtain ⟨z, rfl⟩ := jnum_l ho
  refine JX.aload_n dL_law_768 rfl rfl ?_
  refine JX.arg 1 i (by decide) dL_law_769 dL_law_770 dL_law_771 dL_law_772 dL_law_773 rfl rfl (HA rfl) (by omega) hN ?_
  refine JX.arg 2 i (by decide) dL_law_774 dL_law_775 dL_law_776 dL_law_777 dL_law_778 rfl rfl (HA rfl) (by omega) hN ?_
  refine JX.arg 3 i (by decide) dL_law_779 dL_law_780 dL_law_781 dL_law_782 dL_law_783 rfl rfl (HA rfl) (by omega) hN ?_
  refine JX.call6 (as := [.int (xs (i + 1)), .int (xs (i + 2)), .int (xs (i + 3))]) ho okX6_best jcL_92 h6 dL_law_784 rfl rfl rfl (fun r9 q9 x9 n9 u9 => ?_)
  refine JX.aload_n dL_law_787 rfl rfl ?_
  refine JX.arg 1 i (by decide) dL_law_788 dL_law_789 dL_law_790 dL_law_791 dL_law_792 rfl rfl (HA rfl) (by omega) hN ?_
  refine JX.arg 2 i (by decide) dL_law_793 dL_law_794 dL_law_795 dL_law_796 dL_law_797 rfl rfl (HA rfl) (by omega) hN ?_
  refine JX.arg 3 i (by decide) dL_law_798 dL_law_799 dL_law_800 dL_law_801 dL_law_802 rfl rfl (HA rfl) (by omega) hN ?_
  refine JX.call7 (as := [.int (xs (i + 1)), .int (xs (i + 2)), .int (xs (i + 3))]) (B := wC (rsN rs' 1 r9) v' q9 x9 n9 u9 c' l' tn') rfl ho okX7_best jcL_95 h7 dL_law_803 rfl rfl rfl (fun s9 la9 p9 pa9 m9 q8 b9 x8 h9 hI8 => ?_)
  have hI9 : jIv (rsN rs' 1 r9) v' l' s9 la9 := hI8
  refine JX.lcmp dL_law_806 ?_
  rw [lg_self]
  exact JX.if_eq (tgt := 1500) dL_law_807 (by decide) (fun _ => IH _ _ _ _ _ _ _ _ _ _ _ _ _ _ _ _ _ _ hI9) (fun h => absurd rfl h)
set_option maxRecDepth 100000 in
set_option maxHeartbeats 4000000 in
theorem law_19 (i : Nat) (hi : i + 5 ≤ N9) (hN : N9 ≤ 2560) (IH : LAt N9 xs nm 1500 i) : LAt N9 xs nm 812 i := by
  intro rs v q x n u c l tn s la p pa m q' b x' h hI
  have HA : ∀ {a1 : rsT} {a2 : vT} {a3 : rT} {a4 : Nat → Nat} {a5 : Nat → Int64} {a6 : uT} {a7 : Nat → Nat → Int32} {a8 : Nat → Int32} {a9 : Int32} {R : jW}, R.length = 21 → (wC a1 a2 a3 a4 a5 a6 a7 a8 a9 ++ R).length ≤ 4000 := fun h => by rw [List.length_append, h]; exact Nat.le_of_ble_eq_true rfl
  obtain ⟨o, rs', v', c', l', tn', ho, h6, h7⟩ := b_test (q := q) (x := x) (n := n) (u := u) (c := c) (tn := tn) (p := p) (pa := pa) (m := m) (q' := q') (b := b) (x' := x') (h := h) hI (xs (i + 1)) (xs (i + 2)) (xs (i + 3))
  obtain ⟨z, rfl⟩ := jnum_l ho
  refine JX.aload_n dL_law_812 rfl rfl ?_
  refine JX.arg 1 i (by decide) dL_law_813 dL_law_814 dL_law_815 dL_law_816 dL_law_817 rfl rfl (HA rfl) (by omega) hN ?_
  refine JX.arg 2 i (by decide) dL_law_818 dL_law_819 dL_law_820 dL_law_821 dL_law_822 rfl rfl (HA rfl) (by omega) hN ?_
  refine JX.arg 3 i (by decide) dL_law_823 dL_law_824 dL_law_825 dL_law_826 dL_law_827 rfl rfl (HA rfl) (by omega) hN ?_
  refine JX.call6 (as := [.int (xs (i + 1)), .int (xs (i + 2)), .int (xs (i + 3))]) ho okX6_test jcL_96 h6 dL_law_828 rfl rfl rfl (fun r9 q9 x9 n9 u9 => ?_)
  refine JX.aload_n dL_law_831 rfl rfl ?_
  refine JX.arg 1 i (by decide) dL_law_832 dL_law_833 dL_law_834 dL_law_835 dL_law_836 rfl rfl (HA rfl) (by omega) hN ?_
  refine JX.arg 2 i (by decide) dL_law_837 dL_law_838 dL_law_839 dL_law_840 dL_law_841 rfl rfl (HA rfl) (by omega) hN ?_
  refine JX.arg 3 i (by decide) dL_law_842 dL_law_843 dL_law_844 dL_law_845 dL_law_846 rfl rfl (HA rfl) (by omega) hN ?_
  refine JX.call7 (as := [.int (xs (i + 1)), .int (xs (i + 2)), .int (xs (i + 3))]) (B := wC (rsN rs' 1 r9) v' q9 x9 n9 u9 c' l' tn') rfl ho okX7_test jcL_99 h7 dL_law_847 rfl rfl rfl (fun s9 la9 p9 pa9 m9 q8 b9 x8 h9 hI8 => ?_)
  have hI9 : jIv (rsN rs' 1 r9) v' l' s9 la9 := hI8
  refine JX.lcmp dL_law_850 ?_
  rw [lg_self]
  exact JX.if_eq (tgt := 1500) dL_law_851 (by decide) (fun _ => IH _ _ _ _ _ _ _ _ _ _ _ _ _ _ _ _ _ _ hI9) (fun h => absurd rfl h)
set_option maxRecDepth 100000 in
set_option maxHeartbeats 4000000 in
theorem law_20 (i : Nat) (hi : i + 5 ≤ N9) (hN : N9 ≤ 2560) (IH : LAt N9 xs nm 1500 i) : LAt N9 xs nm 856 i := by
  intro rs v q x n u c l tn s la p pa m q' b x' h hI
  have HA : ∀ {a1 : rsT} {a2 : vT} {a3 : rT} {a4 : Nat → Nat} {a5 : Nat → Int64} {a6 : uT} {a7 : Nat → Nat → Int32} {a8 : Nat → Int32} {a9 : Int32} {R : jW}, R.length = 21 → (wC a1 a2 a3 a4 a5 a6 a7 a8 a9 ++ R).length ≤ 4000 := fun h => by rw [List.length_append, h]; exact Nat.le_of_ble_eq_true rfl
  obtain ⟨o, rs', v', c', l', tn', ho, h6, h7⟩ := b_plait (q := q) (x := x) (n := n) (u := u) (c := c) (tn := tn) (p := p) (pa := pa) (m := m) (q' := q') (b := b) (x' := x') (h := h) hI (xs (i + 1)) (xs (i + 2)) (xs (i + 3))
  obtain ⟨z, rfl⟩ := jnum_i ho
  refine JX.aload_n dL_law_856 rfl rfl ?_
  refine JX.arg 1 i (by decide) dL_law_857 dL_law_858 dL_law_859 dL_law_860 dL_law_861 rfl rfl (HA rfl) (by omega) hN ?_
  refine JX.arg 2 i (by decide) dL_law_862 dL_law_863 dL_law_864 dL_law_865 dL_law_866 rfl rfl (HA rfl) (by omega) hN ?_
  refine JX.arg 3 i (by decide) dL_law_867 dL_law_868 dL_law_869 dL_law_870 dL_law_871 rfl rfl (HA rfl) (by omega) hN ?_
  refine JX.call6 (as := [.int (xs (i + 1)), .int (xs (i + 2)), .int (xs (i + 3))]) ho okX6_plait jcL_100 h6 dL_law_872 rfl rfl rfl (fun r9 q9 x9 n9 u9 => ?_)
  refine JX.aload_n dL_law_875 rfl rfl ?_
  refine JX.arg 1 i (by decide) dL_law_876 dL_law_877 dL_law_878 dL_law_879 dL_law_880 rfl rfl (HA rfl) (by omega) hN ?_
  refine JX.arg 2 i (by decide) dL_law_881 dL_law_882 dL_law_883 dL_law_884 dL_law_885 rfl rfl (HA rfl) (by omega) hN ?_
  refine JX.arg 3 i (by decide) dL_law_886 dL_law_887 dL_law_888 dL_law_889 dL_law_890 rfl rfl (HA rfl) (by omega) hN ?_
  refine JX.call7 (as := [.int (xs (i + 1)), .int (xs (i + 2)), .int (xs (i + 3))]) (B := wC (rsN rs' 1 r9) v' q9 x9 n9 u9 c' l' tn') rfl ho okX7_plait jcL_103 h7 dL_law_891 rfl rfl rfl (fun s9 la9 p9 pa9 m9 q8 b9 x8 h9 hI8 => ?_)
  have hI9 : jIv (rsN rs' 1 r9) v' l' s9 la9 := hI8
  exact JX.icmp_eq (tgt := 1500) dL_law_894 (by decide) (fun _ => IH _ _ _ _ _ _ _ _ _ _ _ _ _ _ _ _ _ _ hI9) (fun h => absurd rfl h)
set_option maxRecDepth 100000 in
set_option maxHeartbeats 4000000 in
theorem law_21 (i : Nat) (hi : i + 5 ≤ N9) (hN : N9 ≤ 2560) (IH : LAt N9 xs nm 1500 i) : LAt N9 xs nm 899 i := by
  intro rs v q x n u c l tn s la p pa m q' b x' h hI
  have HA : ∀ {a1 : rsT} {a2 : vT} {a3 : rT} {a4 : Nat → Nat} {a5 : Nat → Int64} {a6 : uT} {a7 : Nat → Nat → Int32} {a8 : Nat → Int32} {a9 : Int32} {R : jW}, R.length = 21 → (wC a1 a2 a3 a4 a5 a6 a7 a8 a9 ++ R).length ≤ 4000 := fun h => by rw [List.length_append, h]; exact Nat.le_of_ble_eq_true rfl
  obtain ⟨o, rs', v', c', l', tn', ho, h6, h7⟩ := b_bears (q := q) (x := x) (n := n) (u := u) (c := c) (tn := tn) (p := p) (pa := pa) (m := m) (q' := q') (b := b) (x' := x') (h := h) hI (xs (i + 1)) (xs (i + 2))
  obtain ⟨z, rfl⟩ := jnum_i ho
  refine JX.aload_n dL_law_899 rfl rfl ?_
  refine JX.arg 1 i (by decide) dL_law_900 dL_law_901 dL_law_902 dL_law_903 dL_law_904 rfl rfl (HA rfl) (by omega) hN ?_
  refine JX.arg 2 i (by decide) dL_law_905 dL_law_906 dL_law_907 dL_law_908 dL_law_909 rfl rfl (HA rfl) (by omega) hN ?_
  refine JX.call6 (as := [.int (xs (i + 1)), .int (xs (i + 2))]) ho okX6_bears jcL_104 h6 dL_law_910 rfl rfl rfl (fun r9 q9 x9 n9 u9 => ?_)
  refine JX.aload_n dL_law_913 rfl rfl ?_
  refine JX.arg 1 i (by decide) dL_law_914 dL_law_915 dL_law_916 dL_law_917 dL_law_918 rfl rfl (HA rfl) (by omega) hN ?_
  refine JX.arg 2 i (by decide) dL_law_919 dL_law_920 dL_law_921 dL_law_922 dL_law_923 rfl rfl (HA rfl) (by omega) hN ?_
  refine JX.call7 (as := [.int (xs (i + 1)), .int (xs (i + 2))]) (B := wC (rsN rs' 1 r9) v' q9 x9 n9 u9 c' l' tn') rfl ho okX7_bears jcL_107 h7 dL_law_924 rfl rfl rfl (fun s9 la9 p9 pa9 m9 q8 b9 x8 h9 hI8 => ?_)
  have hI9 : jIv (rsN rs' 1 r9) v' l' s9 la9 := hI8
  exact JX.icmp_eq (tgt := 1500) dL_law_927 (by decide) (fun _ => IH _ _ _ _ _ _ _ _ _ _ _ _ _ _ _ _ _ _ hI9) (fun h => absurd rfl h)
set_option maxRecDepth 100000 in
set_option maxHeartbeats 4000000 in
theorem law_22 (i : Nat) (hi : i + 5 ≤ N9) (hN : N9 ≤ 2560) (IH : LAt N9 xs nm 1500 i) : LAt N9 xs nm 932 i := by
  intro rs v q x n u c l tn s la p pa m q' b x' h hI
  have HA : ∀ {a1 : rsT} {a2 : vT} {a3 : rT} {a4 : Nat → Nat} {a5 : Nat → Int64} {a6 : uT} {a7 : Nat → Nat → Int32} {a8 : Nat → Int32} {a9 : Int32} {R : jW}, R.length = 21 → (wC a1 a2 a3 a4 a5 a6 a7 a8 a9 ++ R).length ≤ 4000 := fun h => by rw [List.length_append, h]; exact Nat.le_of_ble_eq_true rfl
  obtain ⟨o, rs', v', c', l', tn', ho, h6, h7⟩ := b_mend (q := q) (x := x) (n := n) (u := u) (c := c) (tn := tn) (p := p) (pa := pa) (m := m) (q' := q') (b := b) (x' := x') (h := h) hI (xs (i + 1)) (xs (i + 2))
  obtain ⟨z, rfl⟩ := jnum_l ho
  refine JX.aload_n dL_law_932 rfl rfl ?_
  refine JX.arg 1 i (by decide) dL_law_933 dL_law_934 dL_law_935 dL_law_936 dL_law_937 rfl rfl (HA rfl) (by omega) hN ?_
  refine JX.arg 2 i (by decide) dL_law_938 dL_law_939 dL_law_940 dL_law_941 dL_law_942 rfl rfl (HA rfl) (by omega) hN ?_
  refine JX.call6 (as := [.int (xs (i + 1)), .int (xs (i + 2))]) ho okX6_mend jcL_108 h6 dL_law_943 rfl rfl rfl (fun r9 q9 x9 n9 u9 => ?_)
  refine JX.aload_n dL_law_946 rfl rfl ?_
  refine JX.arg 1 i (by decide) dL_law_947 dL_law_948 dL_law_949 dL_law_950 dL_law_951 rfl rfl (HA rfl) (by omega) hN ?_
  refine JX.arg 2 i (by decide) dL_law_952 dL_law_953 dL_law_954 dL_law_955 dL_law_956 rfl rfl (HA rfl) (by omega) hN ?_
  refine JX.call7 (as := [.int (xs (i + 1)), .int (xs (i + 2))]) (B := wC (rsN rs' 1 r9) v' q9 x9 n9 u9 c' l' tn') rfl ho okX7_mend jcL_111 h7 dL_law_957 rfl rfl rfl (fun s9 la9 p9 pa9 m9 q8 b9 x8 h9 hI8 => ?_)
  have hI9 : jIv (rsN rs' 1 r9) v' l' s9 la9 := hI8
  refine JX.lcmp dL_law_960 ?_
  rw [lg_self]
  exact JX.if_eq (tgt := 1500) dL_law_961 (by decide) (fun _ => IH _ _ _ _ _ _ _ _ _ _ _ _ _ _ _ _ _ _ hI9) (fun h => absurd rfl h)
set_option maxRecDepth 100000 in
set_option maxHeartbeats 4000000 in
theorem law_23 (i : Nat) (hi : i + 5 ≤ N9) (hN : N9 ≤ 2560) (IH : LAt N9 xs nm 1500 i) : LAt N9 xs nm 966 i := by
  intro rs v q x n u c l tn s la p pa m q' b x' h hI
  have HA : ∀ {a1 : rsT} {a2 : vT} {a3 : rT} {a4 : Nat → Nat} {a5 : Nat → Int64} {a6 : uT} {a7 : Nat → Nat → Int32} {a8 : Nat → Int32} {a9 : Int32} {R : jW}, R.length = 21 → (wC a1 a2 a3 a4 a5 a6 a7 a8 a9 ++ R).length ≤ 4000 := fun h => by rw [List.length_append, h]; exact Nat.le_of_ble_eq_true rfl
  obtain ⟨o, rs', v', c', l', tn', ho, h6, h7⟩ := b_duel (q := q) (x := x) (n := n) (u := u) (c := c) (tn := tn) (p := p) (pa := pa) (m := m) (q' := q') (b := b) (x' := x') (h := h) hI (xs (i + 1)) (xs (i + 2)) (xs (i + 3)) (xs (i + 4))
  obtain ⟨z, rfl⟩ := jnum_l ho
  refine JX.aload_n dL_law_966 rfl rfl ?_
  refine JX.arg 1 i (by decide) dL_law_967 dL_law_968 dL_law_969 dL_law_970 dL_law_971 rfl rfl (HA rfl) (by omega) hN ?_
  refine JX.arg 2 i (by decide) dL_law_972 dL_law_973 dL_law_974 dL_law_975 dL_law_976 rfl rfl (HA rfl) (by omega) hN ?_
  refine JX.arg 3 i (by decide) dL_law_977 dL_law_978 dL_law_979 dL_law_980 dL_law_981 rfl rfl (HA rfl) (by omega) hN ?_
  refine JX.arg 4 i (by decide) dL_law_982 dL_law_983 dL_law_984 dL_law_985 dL_law_986 rfl rfl (HA rfl) (by omega) hN ?_
  refine JX.call6 (as := [.int (xs (i + 1)), .int (xs (i + 2)), .int (xs (i + 3)), .int (xs (i + 4))]) ho okX6_duel jcL_112 h6 dL_law_987 rfl rfl rfl (fun r9 q9 x9 n9 u9 => ?_)
  refine JX.aload_n dL_law_990 rfl rfl ?_
  refine JX.arg 1 i (by decide) dL_law_991 dL_law_992 dL_law_993 dL_law_994 dL_law_995 rfl rfl (HA rfl) (by omega) hN ?_
  refine JX.arg 2 i (by decide) dL_law_996 dL_law_997 dL_law_998 dL_law_999 dL_law_1000 rfl rfl (HA rfl) (by omega) hN ?_
  refine JX.arg 3 i (by decide) dL_law_1001 dL_law_1002 dL_law_1003 dL_law_1004 dL_law_1005 rfl rfl (HA rfl) (by omega) hN ?_
  refine JX.arg 4 i (by decide) dL_law_1006 dL_law_1007 dL_law_1008 dL_law_1009 dL_law_1010 rfl rfl (HA rfl) (by omega) hN ?_
  refine JX.call7 (as := [.int (xs (i + 1)), .int (xs (i + 2)), .int (xs (i + 3)), .int (xs (i + 4))]) (B := wC (rsN rs' 1 r9) v' q9 x9 n9 u9 c' l' tn') rfl ho okX7_duel jcL_116 h7 dL_law_1011 rfl rfl rfl (fun s9 la9 p9 pa9 m9 q8 b9 x8 h9 hI8 => ?_)
  have hI9 : jIv (rsN rs' 1 r9) v' l' s9 la9 := hI8
  refine JX.lcmp dL_law_1014 ?_
  rw [lg_self]
  exact JX.if_eq (tgt := 1500) dL_law_1015 (by decide) (fun _ => IH _ _ _ _ _ _ _ _ _ _ _ _ _ _ _ _ _ _ hI9) (fun h => absurd rfl h)
set_option maxRecDepth 100000 in
set_option maxHeartbeats 4000000 in
theorem law_24 (i : Nat) (hi : i + 5 ≤ N9) (hN : N9 ≤ 2560) (IH : LAt N9 xs nm 1500 i) : LAt N9 xs nm 1020 i := by
  intro rs v q x n u c l tn s la p pa m q' b x' h hI
  have HA : ∀ {a1 : rsT} {a2 : vT} {a3 : rT} {a4 : Nat → Nat} {a5 : Nat → Int64} {a6 : uT} {a7 : Nat → Nat → Int32} {a8 : Nat → Int32} {a9 : Int32} {R : jW}, R.length = 21 → (wC a1 a2 a3 a4 a5 a6 a7 a8 a9 ++ R).length ≤ 4000 := fun h => by rw [List.length_append, h]; exact Nat.le_of_ble_eq_true rfl
  obtain ⟨o, rs', v', c', l', tn', ho, h6, h7⟩ := b_crown (q := q) (x := x) (n := n) (u := u) (c := c) (tn := tn) (p := p) (pa := pa) (m := m) (q' := q') (b := b) (x' := x') (h := h) hI (xs (i + 1)) (xs (i + 2))
  obtain ⟨z, rfl⟩ := jnum_l ho
  refine JX.aload_n dL_law_1020 rfl rfl ?_
  refine JX.arg 1 i (by decide) dL_law_1021 dL_law_1022 dL_law_1023 dL_law_1024 dL_law_1025 rfl rfl (HA rfl) (by omega) hN ?_
  refine JX.arg 2 i (by decide) dL_law_1026 dL_law_1027 dL_law_1028 dL_law_1029 dL_law_1030 rfl rfl (HA rfl) (by omega) hN ?_
  refine JX.call6 (as := [.int (xs (i + 1)), .int (xs (i + 2))]) ho okX6_crown jcL_117 h6 dL_law_1031 rfl rfl rfl (fun r9 q9 x9 n9 u9 => ?_)
  refine JX.aload_n dL_law_1034 rfl rfl ?_
  refine JX.arg 1 i (by decide) dL_law_1035 dL_law_1036 dL_law_1037 dL_law_1038 dL_law_1039 rfl rfl (HA rfl) (by omega) hN ?_
  refine JX.arg 2 i (by decide) dL_law_1040 dL_law_1041 dL_law_1042 dL_law_1043 dL_law_1044 rfl rfl (HA rfl) (by omega) hN ?_
  refine JX.call7 (as := [.int (xs (i + 1)), .int (xs (i + 2))]) (B := wC (rsN rs' 1 r9) v' q9 x9 n9 u9 c' l' tn') rfl ho okX7_crown jcL_120 h7 dL_law_1045 rfl rfl rfl (fun s9 la9 p9 pa9 m9 q8 b9 x8 h9 hI8 => ?_)
  have hI9 : jIv (rsN rs' 1 r9) v' l' s9 la9 := hI8
  refine JX.lcmp dL_law_1048 ?_
  rw [lg_self]
  exact JX.if_eq (tgt := 1500) dL_law_1049 (by decide) (fun _ => IH _ _ _ _ _ _ _ _ _ _ _ _ _ _ _ _ _ _ hI9) (fun h => absurd rfl h)
set_option maxRecDepth 100000 in
set_option maxHeartbeats 4000000 in
theorem law_25 (i : Nat) (hi : i + 5 ≤ N9) (hN : N9 ≤ 2560) (IH : LAt N9 xs nm 1500 i) : LAt N9 xs nm 1054 i := by
  intro rs v q x n u c l tn s la p pa m q' b x' h hI
  have HA : ∀ {a1 : rsT} {a2 : vT} {a3 : rT} {a4 : Nat → Nat} {a5 : Nat → Int64} {a6 : uT} {a7 : Nat → Nat → Int32} {a8 : Nat → Int32} {a9 : Int32} {R : jW}, R.length = 21 → (wC a1 a2 a3 a4 a5 a6 a7 a8 a9 ++ R).length ≤ 4000 := fun h => by rw [List.length_append, h]; exact Nat.le_of_ble_eq_true rfl
  obtain ⟨o, rs', v', c', l', tn', ho, h6, h7⟩ := b_reads (q := q) (x := x) (n := n) (u := u) (c := c) (tn := tn) (p := p) (pa := pa) (m := m) (q' := q') (b := b) (x' := x') (h := h) hI (xs (i + 1)) (xs (i + 2))
  obtain ⟨z, rfl⟩ := jnum_l ho
  refine JX.aload_n dL_law_1054 rfl rfl ?_
  refine JX.arg 1 i (by decide) dL_law_1055 dL_law_1056 dL_law_1057 dL_law_1058 dL_law_1059 rfl rfl (HA rfl) (by omega) hN ?_
  refine JX.arg 2 i (by decide) dL_law_1060 dL_law_1061 dL_law_1062 dL_law_1063 dL_law_1064 rfl rfl (HA rfl) (by omega) hN ?_
  refine JX.call6 (as := [.int (xs (i + 1)), .int (xs (i + 2))]) ho okX6_reads jcL_121 h6 dL_law_1065 rfl rfl rfl (fun r9 q9 x9 n9 u9 => ?_)
  refine JX.aload_n dL_law_1068 rfl rfl ?_
  refine JX.arg 1 i (by decide) dL_law_1069 dL_law_1070 dL_law_1071 dL_law_1072 dL_law_1073 rfl rfl (HA rfl) (by omega) hN ?_
  refine JX.arg 2 i (by decide) dL_law_1074 dL_law_1075 dL_law_1076 dL_law_1077 dL_law_1078 rfl rfl (HA rfl) (by omega) hN ?_
  refine JX.call7 (as := [.int (xs (i + 1)), .int (xs (i + 2))]) (B := wC (rsN rs' 1 r9) v' q9 x9 n9 u9 c' l' tn') rfl ho okX7_reads jcL_124 h7 dL_law_1079 rfl rfl rfl (fun s9 la9 p9 pa9 m9 q8 b9 x8 h9 hI8 => ?_)
  have hI9 : jIv (rsN rs' 1 r9) v' l' s9 la9 := hI8
  refine JX.lcmp dL_law_1082 ?_
  rw [lg_self]
  exact JX.if_eq (tgt := 1500) dL_law_1083 (by decide) (fun _ => IH _ _ _ _ _ _ _ _ _ _ _ _ _ _ _ _ _ _ hI9) (fun h => absurd rfl h)
set_option maxRecDepth 100000 in
set_option maxHeartbeats 4000000 in
theorem law_26 (i : Nat) (hi : i + 5 ≤ N9) (hN : N9 ≤ 2560) (IH : LAt N9 xs nm 1500 i) : LAt N9 xs nm 1088 i := by
  intro rs v q x n u c l tn s la p pa m q' b x' h hI
  have HA : ∀ {a1 : rsT} {a2 : vT} {a3 : rT} {a4 : Nat → Nat} {a5 : Nat → Int64} {a6 : uT} {a7 : Nat → Nat → Int32} {a8 : Nat → Int32} {a9 : Int32} {R : jW}, R.length = 21 → (wC a1 a2 a3 a4 a5 a6 a7 a8 a9 ++ R).length ≤ 4000 := fun h => by rw [List.length_append, h]; exact Nat.le_of_ble_eq_true rfl
  obtain ⟨o, rs', v', c', l', tn', ho, h6, h7⟩ := b_laws (q := q) (x := x) (n := n) (u := u) (c := c) (tn := tn) (p := p) (pa := pa) (m := m) (q' := q') (b := b) (x' := x') (h := h) hI (xs (i + 1))
  obtain ⟨z, rfl⟩ := jnum_l ho
  refine JX.aload_n dL_law_1088 rfl rfl ?_
  refine JX.arg 1 i (by decide) dL_law_1089 dL_law_1090 dL_law_1091 dL_law_1092 dL_law_1093 rfl rfl (HA rfl) (by omega) hN ?_
  refine JX.call6 (as := [.int (xs (i + 1))]) ho okX6_laws jcL_125 h6 dL_law_1094 rfl rfl rfl (fun r9 q9 x9 n9 u9 => ?_)
  refine JX.aload_n dL_law_1097 rfl rfl ?_
  refine JX.arg 1 i (by decide) dL_law_1098 dL_law_1099 dL_law_1100 dL_law_1101 dL_law_1102 rfl rfl (HA rfl) (by omega) hN ?_
  refine JX.call7 (as := [.int (xs (i + 1))]) (B := wC (rsN rs' 1 r9) v' q9 x9 n9 u9 c' l' tn') rfl ho okX7_laws jcL_129 h7 dL_law_1103 rfl rfl rfl (fun s9 la9 p9 pa9 m9 q8 b9 x8 h9 hI8 => ?_)
  have hI9 : jIv (rsN rs' 1 r9) v' l' s9 la9 := hI8
  refine JX.lcmp dL_law_1106 ?_
  rw [lg_self]
  exact JX.if_eq (tgt := 1500) dL_law_1107 (by decide) (fun _ => IH _ _ _ _ _ _ _ _ _ _ _ _ _ _ _ _ _ _ hI9) (fun h => absurd rfl h)
set_option maxRecDepth 100000 in
set_option maxHeartbeats 4000000 in
theorem law_27 (i : Nat) (hi : i + 5 ≤ N9) (hN : N9 ≤ 2560) (IH : LAt N9 xs nm 1500 i) : LAt N9 xs nm 1112 i := by
  intro rs v q x n u c l tn s la p pa m q' b x' h hI
  have HA : ∀ {a1 : rsT} {a2 : vT} {a3 : rT} {a4 : Nat → Nat} {a5 : Nat → Int64} {a6 : uT} {a7 : Nat → Nat → Int32} {a8 : Nat → Int32} {a9 : Int32} {R : jW}, R.length = 21 → (wC a1 a2 a3 a4 a5 a6 a7 a8 a9 ++ R).length ≤ 4000 := fun h => by rw [List.length_append, h]; exact Nat.le_of_ble_eq_true rfl
  obtain ⟨o, rs', v', c', l', tn', ho, h6, h7⟩ := b_see (q := q) (x := x) (n := n) (u := u) (c := c) (tn := tn) (p := p) (pa := pa) (m := m) (q' := q') (b := b) (x' := x') (h := h) hI (xs (i + 1)) (xs (i + 2))
  obtain ⟨z, rfl⟩ := jnum_i ho
  refine JX.aload_n dL_law_1112 rfl rfl ?_
  refine JX.arg 1 i (by decide) dL_law_1113 dL_law_1114 dL_law_1115 dL_law_1116 dL_law_1117 rfl rfl (HA rfl) (by omega) hN ?_
  refine JX.arg 2 i (by decide) dL_law_1118 dL_law_1119 dL_law_1120 dL_law_1121 dL_law_1122 rfl rfl (HA rfl) (by omega) hN ?_
  refine JX.call6 (as := [.int (xs (i + 1)), .int (xs (i + 2))]) ho okX6_see jcL_130 h6 dL_law_1123 rfl rfl rfl (fun r9 q9 x9 n9 u9 => ?_)
  refine JX.aload_n dL_law_1126 rfl rfl ?_
  refine JX.arg 1 i (by decide) dL_law_1127 dL_law_1128 dL_law_1129 dL_law_1130 dL_law_1131 rfl rfl (HA rfl) (by omega) hN ?_
  refine JX.arg 2 i (by decide) dL_law_1132 dL_law_1133 dL_law_1134 dL_law_1135 dL_law_1136 rfl rfl (HA rfl) (by omega) hN ?_
  refine JX.call7 (as := [.int (xs (i + 1)), .int (xs (i + 2))]) (B := wC (rsN rs' 1 r9) v' q9 x9 n9 u9 c' l' tn') rfl ho okX7_see jcL_133 h7 dL_law_1137 rfl rfl rfl (fun s9 la9 p9 pa9 m9 q8 b9 x8 h9 hI8 => ?_)
  have hI9 : jIv (rsN rs' 1 r9) v' l' s9 la9 := hI8
  exact JX.icmp_eq (tgt := 1500) dL_law_1140 (by decide) (fun _ => IH _ _ _ _ _ _ _ _ _ _ _ _ _ _ _ _ _ _ hI9) (fun h => absurd rfl h)
set_option maxRecDepth 100000 in
set_option maxHeartbeats 4000000 in
theorem law_28 (i : Nat) (hi : i + 5 ≤ N9) (hN : N9 ≤ 2560) (IH : LAt N9 xs nm 1500 i) : LAt N9 xs nm 1145 i := by
  intro rs v q x n u c l tn s la p pa m q' b x' h hI
  have HA : ∀ {a1 : rsT} {a2 : vT} {a3 : rT} {a4 : Nat → Nat} {a5 : Nat → Int64} {a6 : uT} {a7 : Nat → Nat → Int32} {a8 : Nat → Int32} {a9 : Int32} {R : jW}, R.length = 21 → (wC a1 a2 a3 a4 a5 a6 a7 a8 a9 ++ R).length ≤ 4000 := fun h => by rw [List.length_append, h]; exact Nat.le_of_ble_eq_true rfl
  obtain ⟨o, rs', v', c', l', tn', ho, h6, h7⟩ := b_forget (q := q) (x := x) (n := n) (u := u) (c := c) (tn := tn) (p := p) (pa := pa) (m := m) (q' := q') (b := b) (x' := x') (h := h) hI (xs (i + 1))
  obtain ⟨z, rfl⟩ := jnum_i ho
  refine JX.aload_n dL_law_1145 rfl rfl ?_
  refine JX.arg 1 i (by decide) dL_law_1146 dL_law_1147 dL_law_1148 dL_law_1149 dL_law_1150 rfl rfl (HA rfl) (by omega) hN ?_
  refine JX.call6 (as := [.int (xs (i + 1))]) ho okX6_forget jcL_134 h6 dL_law_1151 rfl rfl rfl (fun r9 q9 x9 n9 u9 => ?_)
  refine JX.aload_n dL_law_1154 rfl rfl ?_
  refine JX.arg 1 i (by decide) dL_law_1155 dL_law_1156 dL_law_1157 dL_law_1158 dL_law_1159 rfl rfl (HA rfl) (by omega) hN ?_
  refine JX.call7 (as := [.int (xs (i + 1))]) (B := wC (rsN rs' 1 r9) v' q9 x9 n9 u9 c' l' tn') rfl ho okX7_forget jcL_137 h7 dL_law_1160 rfl rfl rfl (fun s9 la9 p9 pa9 m9 q8 b9 x8 h9 hI8 => ?_)
  have hI9 : jIv (rsN rs' 1 r9) v' l' s9 la9 := hI8
  exact JX.icmp_eq (tgt := 1500) dL_law_1163 (by decide) (fun _ => IH _ _ _ _ _ _ _ _ _ _ _ _ _ _ _ _ _ _ hI9) (fun h => absurd rfl h)
set_option maxRecDepth 100000 in
set_option maxHeartbeats 4000000 in
theorem law_29 (i : Nat) (hi : i + 5 ≤ N9) (hN : N9 ≤ 2560) (IH : LAt N9 xs nm 1500 i) : LAt N9 xs nm 1168 i := by
  intro rs v q x n u c l tn s la p pa m q' b x' h hI
  have HA : ∀ {a1 : rsT} {a2 : vT} {a3 : rT} {a4 : Nat → Nat} {a5 : Nat → Int64} {a6 : uT} {a7 : Nat → Nat → Int32} {a8 : Nat → Int32} {a9 : Int32} {R : jW}, R.length = 21 → (wC a1 a2 a3 a4 a5 a6 a7 a8 a9 ++ R).length ≤ 4000 := fun h => by rw [List.length_append, h]; exact Nat.le_of_ble_eq_true rfl
  obtain ⟨o, rs', v', c', l', tn', ho, h6, h7⟩ := b_likely (q := q) (x := x) (n := n) (u := u) (c := c) (tn := tn) (p := p) (pa := pa) (m := m) (q' := q') (b := b) (x' := x') (h := h) hI (xs (i + 1)) (xs (i + 2)) (xs (i + 3))
  obtain ⟨z, rfl⟩ := jnum_l ho
  refine JX.aload_n dL_law_1168 rfl rfl ?_
  refine JX.arg 1 i (by decide) dL_law_1169 dL_law_1170 dL_law_1171 dL_law_1172 dL_law_1173 rfl rfl (HA rfl) (by omega) hN ?_
  refine JX.arg 2 i (by decide) dL_law_1174 dL_law_1175 dL_law_1176 dL_law_1177 dL_law_1178 rfl rfl (HA rfl) (by omega) hN ?_
  refine JX.arg 3 i (by decide) dL_law_1179 dL_law_1180 dL_law_1181 dL_law_1182 dL_law_1183 rfl rfl (HA rfl) (by omega) hN ?_
  refine JX.call6 (as := [.int (xs (i + 1)), .int (xs (i + 2)), .int (xs (i + 3))]) ho okX6_likely jcL_138 h6 dL_law_1184 rfl rfl rfl (fun r9 q9 x9 n9 u9 => ?_)
  refine JX.aload_n dL_law_1187 rfl rfl ?_
  refine JX.arg 1 i (by decide) dL_law_1188 dL_law_1189 dL_law_1190 dL_law_1191 dL_law_1192 rfl rfl (HA rfl) (by omega) hN ?_
  refine JX.arg 2 i (by decide) dL_law_1193 dL_law_1194 dL_law_1195 dL_law_1196 dL_law_1197 rfl rfl (HA rfl) (by omega) hN ?_
  refine JX.arg 3 i (by decide) dL_law_1198 dL_law_1199 dL_law_1200 dL_law_1201 dL_law_1202 rfl rfl (HA rfl) (by omega) hN ?_
  refine JX.call7 (as := [.int (xs (i + 1)), .int (xs (i + 2)), .int (xs (i + 3))]) (B := wC (rsN rs' 1 r9) v' q9 x9 n9 u9 c' l' tn') rfl ho okX7_likely jcL_141 h7 dL_law_1203 rfl rfl rfl (fun s9 la9 p9 pa9 m9 q8 b9 x8 h9 hI8 => ?_)
  have hI9 : jIv (rsN rs' 1 r9) v' l' s9 la9 := hI8
  refine JX.lcmp dL_law_1206 ?_
  rw [lg_self]
  exact JX.if_eq (tgt := 1500) dL_law_1207 (by decide) (fun _ => IH _ _ _ _ _ _ _ _ _ _ _ _ _ _ _ _ _ _ hI9) (fun h => absurd rfl h)
set_option maxRecDepth 100000 in
set_option maxHeartbeats 4000000 in
theorem law_30 (i : Nat) (hi : i + 5 ≤ N9) (hN : N9 ≤ 2560) (IH : LAt N9 xs nm 1500 i) : LAt N9 xs nm 1212 i := by
  intro rs v q x n u c l tn s la p pa m q' b x' h hI
  have HA : ∀ {a1 : rsT} {a2 : vT} {a3 : rT} {a4 : Nat → Nat} {a5 : Nat → Int64} {a6 : uT} {a7 : Nat → Nat → Int32} {a8 : Nat → Int32} {a9 : Int32} {R : jW}, R.length = 21 → (wC a1 a2 a3 a4 a5 a6 a7 a8 a9 ++ R).length ≤ 4000 := fun h => by rw [List.length_append, h]; exact Nat.le_of_ble_eq_true rfl
  obtain ⟨o, rs', v', c', l', tn', ho, h6, h7⟩ := b_guess (q := q) (x := x) (n := n) (u := u) (c := c) (tn := tn) (p := p) (pa := pa) (m := m) (q' := q') (b := b) (x' := x') (h := h) hI (xs (i + 1))
  obtain ⟨z, rfl⟩ := jnum_l ho
  refine JX.aload_n dL_law_1212 rfl rfl ?_
  refine JX.arg 1 i (by decide) dL_law_1213 dL_law_1214 dL_law_1215 dL_law_1216 dL_law_1217 rfl rfl (HA rfl) (by omega) hN ?_
  refine JX.call6 (as := [.int (xs (i + 1))]) ho okX6_guess jcL_142 h6 dL_law_1218 rfl rfl rfl (fun r9 q9 x9 n9 u9 => ?_)
  refine JX.aload_n dL_law_1221 rfl rfl ?_
  refine JX.arg 1 i (by decide) dL_law_1222 dL_law_1223 dL_law_1224 dL_law_1225 dL_law_1226 rfl rfl (HA rfl) (by omega) hN ?_
  refine JX.call7 (as := [.int (xs (i + 1))]) (B := wC (rsN rs' 1 r9) v' q9 x9 n9 u9 c' l' tn') rfl ho okX7_guess jcL_145 h7 dL_law_1227 rfl rfl rfl (fun s9 la9 p9 pa9 m9 q8 b9 x8 h9 hI8 => ?_)
  have hI9 : jIv (rsN rs' 1 r9) v' l' s9 la9 := hI8
  refine JX.lcmp dL_law_1230 ?_
  rw [lg_self]
  exact JX.if_eq (tgt := 1500) dL_law_1231 (by decide) (fun _ => IH _ _ _ _ _ _ _ _ _ _ _ _ _ _ _ _ _ _ hI9) (fun h => absurd rfl h)
set_option maxRecDepth 100000 in
set_option maxHeartbeats 4000000 in
theorem law_31 (i : Nat) (hi : i + 5 ≤ N9) (hN : N9 ≤ 2560) (IH : LAt N9 xs nm 1500 i) : LAt N9 xs nm 1236 i := by
  intro rs v q x n u c l tn s la p pa m q' b x' h hI
  have HA : ∀ {a1 : rsT} {a2 : vT} {a3 : rT} {a4 : Nat → Nat} {a5 : Nat → Int64} {a6 : uT} {a7 : Nat → Nat → Int32} {a8 : Nat → Int32} {a9 : Int32} {R : jW}, R.length = 21 → (wC a1 a2 a3 a4 a5 a6 a7 a8 a9 ++ R).length ≤ 4000 := fun h => by rw [List.length_append, h]; exact Nat.le_of_ble_eq_true rfl
  obtain ⟨o, rs', v', c', l', tn', ho, h6, h7⟩ := b_drift (q := q) (x := x) (n := n) (u := u) (c := c) (tn := tn) (p := p) (pa := pa) (m := m) (q' := q') (b := b) (x' := x') (h := h) hI (xs (i + 1)) (xs (i + 2)) (xs (i + 3))
  obtain ⟨z, rfl⟩ := jnum_i ho
  refine JX.aload_n dL_law_1236 rfl rfl ?_
  refine JX.arg 1 i (by decide) dL_law_1237 dL_law_1238 dL_law_1239 dL_law_1240 dL_law_1241 rfl rfl (HA rfl) (by omega) hN ?_
  refine JX.arg 2 i (by decide) dL_law_1242 dL_law_1243 dL_law_1244 dL_law_1245 dL_law_1246 rfl rfl (HA rfl) (by omega) hN ?_
  refine JX.arg 3 i (by decide) dL_law_1247 dL_law_1248 dL_law_1249 dL_law_1250 dL_law_1251 rfl rfl (HA rfl) (by omega) hN ?_
  refine JX.call6 (as := [.int (xs (i + 1)), .int (xs (i + 2)), .int (xs (i + 3))]) ho okX6_drift jcL_146 h6 dL_law_1252 rfl rfl rfl (fun r9 q9 x9 n9 u9 => ?_)
  refine JX.aload_n dL_law_1255 rfl rfl ?_
  refine JX.arg 1 i (by decide) dL_law_1256 dL_law_1257 dL_law_1258 dL_law_1259 dL_law_1260 rfl rfl (HA rfl) (by omega) hN ?_
  refine JX.arg 2 i (by decide) dL_law_1261 dL_law_1262 dL_law_1263 dL_law_1264 dL_law_1265 rfl rfl (HA rfl) (by omega) hN ?_
  refine JX.arg 3 i (by decide) dL_law_1266 dL_law_1267 dL_law_1268 dL_law_1269 dL_law_1270 rfl rfl (HA rfl) (by omega) hN ?_
  refine JX.call7 (as := [.int (xs (i + 1)), .int (xs (i + 2)), .int (xs (i + 3))]) (B := wC (rsN rs' 1 r9) v' q9 x9 n9 u9 c' l' tn') rfl ho okX7_drift jcL_149 h7 dL_law_1271 rfl rfl rfl (fun s9 la9 p9 pa9 m9 q8 b9 x8 h9 hI8 => ?_)
  have hI9 : jIv (rsN rs' 1 r9) v' l' s9 la9 := hI8
  exact JX.icmp_eq (tgt := 1500) dL_law_1274 (by decide) (fun _ => IH _ _ _ _ _ _ _ _ _ _ _ _ _ _ _ _ _ _ hI9) (fun h => absurd rfl h)
set_option maxRecDepth 100000 in
set_option maxHeartbeats 4000000 in
theorem law_32 (i : Nat) (hi : i + 5 ≤ N9) (hN : N9 ≤ 2560) (IH : LAt N9 xs nm 1500 i) : LAt N9 xs nm 1279 i := by
  intro rs v q x n u c l tn s la p pa m q' b x' h hI
  have HA : ∀ {a1 : rsT} {a2 : vT} {a3 : rT} {a4 : Nat → Nat} {a5 : Nat → Int64} {a6 : uT} {a7 : Nat → Nat → Int32} {a8 : Nat → Int32} {a9 : Int32} {R : jW}, R.length = 21 → (wC a1 a2 a3 a4 a5 a6 a7 a8 a9 ++ R).length ≤ 4000 := fun h => by rw [List.length_append, h]; exact Nat.le_of_ble_eq_true rfl
  obtain ⟨o, rs', v', c', l', tn', ho, h6, h7⟩ := b_keep (q := q) (x := x) (n := n) (u := u) (c := c) (tn := tn) (p := p) (pa := pa) (m := m) (q' := q') (b := b) (x' := x') (h := h) hI (xs (i + 1))
  obtain ⟨z, rfl⟩ := jnum_i ho
  refine JX.aload_n dL_law_1279 rfl rfl ?_
  refine JX.arg 1 i (by decide) dL_law_1280 dL_law_1281 dL_law_1282 dL_law_1283 dL_law_1284 rfl rfl (HA rfl) (by omega) hN ?_
  refine JX.call6 (as := [.int (xs (i + 1))]) ho okX6_keep jcL_150 h6 dL_law_1285 rfl rfl rfl (fun r9 q9 x9 n9 u9 => ?_)
  refine JX.aload_n dL_law_1288 rfl rfl ?_
  refine JX.arg 1 i (by decide) dL_law_1289 dL_law_1290 dL_law_1291 dL_law_1292 dL_law_1293 rfl rfl (HA rfl) (by omega) hN ?_
  refine JX.call7 (as := [.int (xs (i + 1))]) (B := wC (rsN rs' 1 r9) v' q9 x9 n9 u9 c' l' tn') rfl ho okX7_keep jcL_153 h7 dL_law_1294 rfl rfl rfl (fun s9 la9 p9 pa9 m9 q8 b9 x8 h9 hI8 => ?_)
  have hI9 : jIv (rsN rs' 1 r9) v' l' s9 la9 := hI8
  exact JX.icmp_eq (tgt := 1500) dL_law_1297 (by decide) (fun _ => IH _ _ _ _ _ _ _ _ _ _ _ _ _ _ _ _ _ _ hI9) (fun h => absurd rfl h)
set_option maxRecDepth 100000 in
set_option maxHeartbeats 4000000 in
theorem law_33 (i : Nat) (hi : i + 5 ≤ N9) (hN : N9 ≤ 2560) (IH : LAt N9 xs nm 1500 i) : LAt N9 xs nm 1302 i := by
  intro rs v q x n u c l tn s la p pa m q' b x' h hI
  have HA : ∀ {a1 : rsT} {a2 : vT} {a3 : rT} {a4 : Nat → Nat} {a5 : Nat → Int64} {a6 : uT} {a7 : Nat → Nat → Int32} {a8 : Nat → Int32} {a9 : Int32} {R : jW}, R.length = 21 → (wC a1 a2 a3 a4 a5 a6 a7 a8 a9 ++ R).length ≤ 4000 := fun h => by rw [List.length_append, h]; exact Nat.le_of_ble_eq_true rfl
  obtain ⟨o, rs', v', c', l', tn', ho, h6, h7⟩ := b_back (q := q) (x := x) (n := n) (u := u) (c := c) (tn := tn) (p := p) (pa := pa) (m := m) (q' := q') (b := b) (x' := x') (h := h) hI (xs (i + 1))
  obtain ⟨z, rfl⟩ := jnum_i ho
  refine JX.aload_n dL_law_1302 rfl rfl ?_
  refine JX.arg 1 i (by decide) dL_law_1303 dL_law_1304 dL_law_1305 dL_law_1306 dL_law_1307 rfl rfl (HA rfl) (by omega) hN ?_
  refine JX.call6 (as := [.int (xs (i + 1))]) ho okX6_back jcL_154 h6 dL_law_1308 rfl rfl rfl (fun r9 q9 x9 n9 u9 => ?_)
  refine JX.aload_n dL_law_1311 rfl rfl ?_
  refine JX.arg 1 i (by decide) dL_law_1312 dL_law_1313 dL_law_1314 dL_law_1315 dL_law_1316 rfl rfl (HA rfl) (by omega) hN ?_
  refine JX.call7 (as := [.int (xs (i + 1))]) (B := wC (rsN rs' 1 r9) v' q9 x9 n9 u9 c' l' tn') rfl ho okX7_back jcL_157 h7 dL_law_1317 rfl rfl rfl (fun s9 la9 p9 pa9 m9 q8 b9 x8 h9 hI8 => ?_)
  have hI9 : jIv (rsN rs' 1 r9) v' l' s9 la9 := hI8
  exact JX.icmp_eq (tgt := 1500) dL_law_1320 (by decide) (fun _ => IH _ _ _ _ _ _ _ _ _ _ _ _ _ _ _ _ _ _ hI9) (fun h => absurd rfl h)
set_option maxRecDepth 100000 in
set_option maxHeartbeats 4000000 in
theorem law_34 (i : Nat) (hi : i + 5 ≤ N9) (hN : N9 ≤ 2560) (IH : LAt N9 xs nm 1500 i) : LAt N9 xs nm 1325 i := by
  intro rs v q x n u c l tn s la p pa m q' b x' h hI
  have HA : ∀ {a1 : rsT} {a2 : vT} {a3 : rT} {a4 : Nat → Nat} {a5 : Nat → Int64} {a6 : uT} {a7 : Nat → Nat → Int32} {a8 : Nat → Int32} {a9 : Int32} {R : jW}, R.length = 21 → (wC a1 a2 a3 a4 a5 a6 a7 a8 a9 ++ R).length ≤ 4000 := fun h => by rw [List.length_append, h]; exact Nat.le_of_ble_eq_true rfl
  obtain ⟨o, rs', v', c', l', tn', ho, h6, h7⟩ := b_sheet (q := q) (x := x) (n := n) (u := u) (c := c) (tn := tn) (p := p) (pa := pa) (m := m) (q' := q') (b := b) (x' := x') (h := h) hI (xs (i + 1)) (xs (i + 2)) (xs (i + 3))
  obtain ⟨z, rfl⟩ := jnum_i ho
  refine JX.aload_n dL_law_1325 rfl rfl ?_
  refine JX.arg 1 i (by decide) dL_law_1326 dL_law_1327 dL_law_1328 dL_law_1329 dL_law_1330 rfl rfl (HA rfl) (by omega) hN ?_
  refine JX.arg 2 i (by decide) dL_law_1331 dL_law_1332 dL_law_1333 dL_law_1334 dL_law_1335 rfl rfl (HA rfl) (by omega) hN ?_
  refine JX.arg 3 i (by decide) dL_law_1336 dL_law_1337 dL_law_1338 dL_law_1339 dL_law_1340 rfl rfl (HA rfl) (by omega) hN ?_
  refine JX.call6 (as := [.int (xs (i + 1)), .int (xs (i + 2)), .int (xs (i + 3))]) ho okX6_sheet jcL_158 h6 dL_law_1341 rfl rfl rfl (fun r9 q9 x9 n9 u9 => ?_)
  refine JX.aload_n dL_law_1344 rfl rfl ?_
  refine JX.arg 1 i (by decide) dL_law_1345 dL_law_1346 dL_law_1347 dL_law_1348 dL_law_1349 rfl rfl (HA rfl) (by omega) hN ?_
  refine JX.arg 2 i (by decide) dL_law_1350 dL_law_1351 dL_law_1352 dL_law_1353 dL_law_1354 rfl rfl (HA rfl) (by omega) hN ?_
  refine JX.arg 3 i (by decide) dL_law_1355 dL_law_1356 dL_law_1357 dL_law_1358 dL_law_1359 rfl rfl (HA rfl) (by omega) hN ?_
  refine JX.call7 (as := [.int (xs (i + 1)), .int (xs (i + 2)), .int (xs (i + 3))]) (B := wC (rsN rs' 1 r9) v' q9 x9 n9 u9 c' l' tn') rfl ho okX7_sheet jcL_161 h7 dL_law_1360 rfl rfl rfl (fun s9 la9 p9 pa9 m9 q8 b9 x8 h9 hI8 => ?_)
  have hI9 : jIv (rsN rs' 1 r9) v' l' s9 la9 := hI8
  exact JX.icmp_eq (tgt := 1500) dL_law_1363 (by decide) (fun _ => IH _ _ _ _ _ _ _ _ _ _ _ _ _ _ _ _ _ _ hI9) (fun h => absurd rfl h)
set_option maxRecDepth 100000 in
set_option maxHeartbeats 4000000 in
theorem law_35 (i : Nat) (hi : i + 5 ≤ N9) (hN : N9 ≤ 2560) (IH : LAt N9 xs nm 1500 i) : LAt N9 xs nm 1368 i := by
  intro rs v q x n u c l tn s la p pa m q' b x' h hI
  have HA : ∀ {a1 : rsT} {a2 : vT} {a3 : rT} {a4 : Nat → Nat} {a5 : Nat → Int64} {a6 : uT} {a7 : Nat → Nat → Int32} {a8 : Nat → Int32} {a9 : Int32} {R : jW}, R.length = 21 → (wC a1 a2 a3 a4 a5 a6 a7 a8 a9 ++ R).length ≤ 4000 := fun h => by rw [List.length_append, h]; exact Nat.le_of_ble_eq_true rfl
  obtain ⟨o, rs', v', c', l', tn', ho, h6, h7⟩ := b_lay (q := q) (x := x) (n := n) (u := u) (c := c) (tn := tn) (p := p) (pa := pa) (m := m) (q' := q') (b := b) (x' := x') (h := h) hI (xs (i + 1)) (xs (i + 2)) (xs (i + 3))
  obtain ⟨z, rfl⟩ := jnum_i ho
  refine JX.aload_n dL_law_1368 rfl rfl ?_
  refine JX.arg 1 i (by decide) dL_law_1369 dL_law_1370 dL_law_1371 dL_law_1372 dL_law_1373 rfl rfl (HA rfl) (by omega) hN ?_
  refine JX.arg 2 i (by decide) dL_law_1374 dL_law_1375 dL_law_1376 dL_law_1377 dL_law_1378 rfl rfl (HA rfl) (by omega) hN ?_
  refine JX.arg 3 i (by decide) dL_law_1379 dL_law_1380 dL_law_1381 dL_law_1382 dL_law_1383 rfl rfl (HA rfl) (by omega) hN ?_
  refine JX.call6 (as := [.int (xs (i + 1)), .int (xs (i + 2)), .int (xs (i + 3))]) ho okX6_lay jcL_162 h6 dL_law_1384 rfl rfl rfl (fun r9 q9 x9 n9 u9 => ?_)
  refine JX.aload_n dL_law_1387 rfl rfl ?_
  refine JX.arg 1 i (by decide) dL_law_1388 dL_law_1389 dL_law_1390 dL_law_1391 dL_law_1392 rfl rfl (HA rfl) (by omega) hN ?_
  refine JX.arg 2 i (by decide) dL_law_1393 dL_law_1394 dL_law_1395 dL_law_1396 dL_law_1397 rfl rfl (HA rfl) (by omega) hN ?_
  refine JX.arg 3 i (by decide) dL_law_1398 dL_law_1399 dL_law_1400 dL_law_1401 dL_law_1402 rfl rfl (HA rfl) (by omega) hN ?_
  refine JX.call7 (as := [.int (xs (i + 1)), .int (xs (i + 2)), .int (xs (i + 3))]) (B := wC (rsN rs' 1 r9) v' q9 x9 n9 u9 c' l' tn') rfl ho okX7_lay jcL_165 h7 dL_law_1403 rfl rfl rfl (fun s9 la9 p9 pa9 m9 q8 b9 x8 h9 hI8 => ?_)
  have hI9 : jIv (rsN rs' 1 r9) v' l' s9 la9 := hI8
  exact JX.icmp_eq (tgt := 1500) dL_law_1406 (by decide) (fun _ => IH _ _ _ _ _ _ _ _ _ _ _ _ _ _ _ _ _ _ hI9) (fun h => absurd rfl h)
set_option maxRecDepth 100000 in
set_option maxHeartbeats 4000000 in
theorem law_36 (i : Nat) (hi : i + 5 ≤ N9) (hN : N9 ≤ 2560) (IH : LAt N9 xs nm 1500 i) : LAt N9 xs nm 1411 i := by
  intro rs v q x n u c l tn s la p pa m q' b x' h hI
  have HA : ∀ {a1 : rsT} {a2 : vT} {a3 : rT} {a4 : Nat → Nat} {a5 : Nat → Int64} {a6 : uT} {a7 : Nat → Nat → Int32} {a8 : Nat → Int32} {a9 : Int32} {R : jW}, R.length = 21 → (wC a1 a2 a3 a4 a5 a6 a7 a8 a9 ++ R).length ≤ 4000 := fun h => by rw [List.length_append, h]; exact Nat.le_of_ble_eq_true rfl
  obtain ⟨o, rs', v', c', l', tn', ho, h6, h7⟩ := b_read (q := q) (x := x) (n := n) (u := u) (c := c) (tn := tn) (p := p) (pa := pa) (m := m) (q' := q') (b := b) (x' := x') (h := h) hI (xs (i + 1)) (xs (i + 2)) (xs (i + 3)) (xs (i + 4))
  obtain ⟨z, rfl⟩ := jnum_i ho
  refine JX.aload_n dL_law_1411 rfl rfl ?_
  refine JX.arg 1 i (by decide) dL_law_1412 dL_law_1413 dL_law_1414 dL_law_1415 dL_law_1416 rfl rfl (HA rfl) (by omega) hN ?_
  refine JX.arg 2 i (by decide) dL_law_1417 dL_law_1418 dL_law_1419 dL_law_1420 dL_law_1421 rfl rfl (HA rfl) (by omega) hN ?_
  refine JX.arg 3 i (by decide) dL_law_1422 dL_law_1423 dL_law_1424 dL_law_1425 dL_law_1426 rfl rfl (HA rfl) (by omega) hN ?_
  refine JX.arg 4 i (by decide) dL_law_1427 dL_law_1428 dL_law_1429 dL_law_1430 dL_law_1431 rfl rfl (HA rfl) (by omega) hN ?_
  refine JX.call6 (as := [.int (xs (i + 1)), .int (xs (i + 2)), .int (xs (i + 3)), .int (xs (i + 4))]) ho okX6_read jcL_166 h6 dL_law_1432 rfl rfl rfl (fun r9 q9 x9 n9 u9 => ?_)
  refine JX.aload_n dL_law_1435 rfl rfl ?_
  refine JX.arg 1 i (by decide) dL_law_1436 dL_law_1437 dL_law_1438 dL_law_1439 dL_law_1440 rfl rfl (HA rfl) (by omega) hN ?_
  refine JX.arg 2 i (by decide) dL_law_1441 dL_law_1442 dL_law_1443 dL_law_1444 dL_law_1445 rfl rfl (HA rfl) (by omega) hN ?_
  refine JX.arg 3 i (by decide) dL_law_1446 dL_law_1447 dL_law_1448 dL_law_1449 dL_law_1450 rfl rfl (HA rfl) (by omega) hN ?_
  refine JX.arg 4 i (by decide) dL_law_1451 dL_law_1452 dL_law_1453 dL_law_1454 dL_law_1455 rfl rfl (HA rfl) (by omega) hN ?_
  refine JX.call7 (as := [.int (xs (i + 1)), .int (xs (i + 2)), .int (xs (i + 3)), .int (xs (i + 4))]) (B := wC (rsN rs' 1 r9) v' q9 x9 n9 u9 c' l' tn') rfl ho okX7_read jcL_170 h7 dL_law_1456 rfl rfl rfl (fun s9 la9 p9 pa9 m9 q8 b9 x8 h9 hI8 => ?_)
  have hI9 : jIv (rsN rs' 1 r9) v' l' s9 la9 := hI8
  exact JX.icmp_eq (tgt := 1500) dL_law_1459 (by decide) (fun _ => IH _ _ _ _ _ _ _ _ _ _ _ _ _ _ _ _ _ _ hI9) (fun h => absurd rfl h)
set_option maxRecDepth 100000 in
set_option maxHeartbeats 4000000 in
theorem law_37 (i : Nat) (hi : i + 5 ≤ N9) (hN : N9 ≤ 2560) (IH : LAt N9 xs nm 1500 i) : LAt N9 xs nm 1464 i := by
  intro rs v q x n u c l tn s la p pa m q' b x' h hI
  have HA : ∀ {a1 : rsT} {a2 : vT} {a3 : rT} {a4 : Nat → Nat} {a5 : Nat → Int64} {a6 : uT} {a7 : Nat → Nat → Int32} {a8 : Nat → Int32} {a9 : Int32} {R : jW}, R.length = 21 → (wC a1 a2 a3 a4 a5 a6 a7 a8 a9 ++ R).length ≤ 4000 := fun h => by rw [List.length_append, h]; exact Nat.le_of_ble_eq_true rfl
  obtain ⟨o, rs', v', c', l', tn', ho, h6, h7⟩ := b_torn (q := q) (x := x) (n := n) (u := u) (c := c) (tn := tn) (p := p) (pa := pa) (m := m) (q' := q') (b := b) (x' := x') (h := h) hI 
  obtain ⟨z, rfl⟩ := jnum_i ho
  refine JX.aload_n dL_law_1464 rfl rfl ?_
  refine JX.call6 (as := []) ho okX6_torn jcL_171 h6 dL_law_1465 rfl rfl rfl (fun r9 q9 x9 n9 u9 => ?_)
  refine JX.aload_n dL_law_1468 rfl rfl ?_
  refine JX.call7 (as := []) (B := wC (rsN rs' 1 r9) v' q9 x9 n9 u9 c' l' tn') rfl ho okX7_torn jcL_174 h7 dL_law_1469 rfl rfl rfl (fun s9 la9 p9 pa9 m9 q8 b9 x8 h9 hI8 => ?_)
  have hI9 : jIv (rsN rs' 1 r9) v' l' s9 la9 := hI8
  exact JX.icmp_eq (tgt := 1500) dL_law_1472 (by decide) (fun _ => IH _ _ _ _ _ _ _ _ _ _ _ _ _ _ _ _ _ _ hI9) (fun h => absurd rfl h)
set_option maxRecDepth 100000 in
set_option maxHeartbeats 4000000 in
theorem law_38 (i : Nat) (hi : i + 5 ≤ N9) (hN : N9 ≤ 2560) (IH : LAt N9 xs nm 1500 i) : LAt N9 xs nm 1477 i := by
  intro rs v q x n u c l tn s la p pa m q' b x' h hI
  have HA : ∀ {a1 : rsT} {a2 : vT} {a3 : rT} {a4 : Nat → Nat} {a5 : Nat → Int64} {a6 : uT} {a7 : Nat → Nat → Int32} {a8 : Nat → Int32} {a9 : Int32} {R : jW}, R.length = 21 → (wC a1 a2 a3 a4 a5 a6 a7 a8 a9 ++ R).length ≤ 4000 := fun h => by rw [List.length_append, h]; exact Nat.le_of_ble_eq_true rfl
  obtain ⟨o, rs', v', c', l', tn', ho, h6, h7⟩ := b_count (q := q) (x := x) (n := n) (u := u) (c := c) (tn := tn) (p := p) (pa := pa) (m := m) (q' := q') (b := b) (x' := x') (h := h) hI (xs (i + 1))
  obtain ⟨z, rfl⟩ := jnum_i ho
  refine JX.aload_n dL_law_1477 rfl rfl ?_
  refine JX.arg 1 i (by decide) dL_law_1478 dL_law_1479 dL_law_1480 dL_law_1481 dL_law_1482 rfl rfl (HA rfl) (by omega) hN ?_
  refine JX.call6 (as := [.int (xs (i + 1))]) ho okX6_count jcL_175 h6 dL_law_1483 rfl rfl rfl (fun r9 q9 x9 n9 u9 => ?_)
  refine JX.aload_n dL_law_1486 rfl rfl ?_
  refine JX.arg 1 i (by decide) dL_law_1487 dL_law_1488 dL_law_1489 dL_law_1490 dL_law_1491 rfl rfl (HA rfl) (by omega) hN ?_
  refine JX.call7 (as := [.int (xs (i + 1))]) (B := wC (rsN rs' 1 r9) v' q9 x9 n9 u9 c' l' tn') rfl ho okX7_count jcL_178 h7 dL_law_1492 rfl rfl rfl (fun s9 la9 p9 pa9 m9 q8 b9 x8 h9 hI8 => ?_)
  have hI9 : jIv (rsN rs' 1 r9) v' l' s9 la9 := hI8
  exact JX.icmp_eq (tgt := 1500) dL_law_1495 (by decide) (fun _ => IH _ _ _ _ _ _ _ _ _ _ _ _ _ _ _ _ _ _ hI9) (fun h => absurd rfl h)
end LAW
