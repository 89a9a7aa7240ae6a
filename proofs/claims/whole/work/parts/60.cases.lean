/-! THE LAW'S CASES -/
set_option maxRecDepth 20000 in
set_option maxHeartbeats 4000000 in
theorem L_begin {N : Nat} {xs : Nat → Int32} (hN : N ≤ 2048) {n : Nat} (hn : n < 2 ^ 31) {A : qA} (hG : GA n A) {o : List qE} {w : Fin 16 → qw} (hA : RA A o w) {F : List qE} (hB : RB A F) {out : Nat → Int64} {i : Nat} (hi : i + 4 ≤ N) {l5 l6 l7 l8 : Option qV} {kc ks : Nat} {P : qP} (K : ∀ (A2 : qA) (o2 : List qE) (w2 : Fin 16 → qw) (F2 : List qE) (out2 : Nat → Int64) (a5 a6 a7 a8 : Option qV), GA (n + 2400) A2 → RA A2 o2 w2 → RB A2 F2 → Ev (mL_law N xs) 13 2499 [some qS, some (qR 0 0), some (qR 11 0), some (qR 12 0), some (qI (nI i)), a5, a6, a7, a8] [] 132 (hL o2 w2 F2 out2) kc ks P qNo) : Ev (mL_law N xs) 13 248 [some qS, some (qR 0 0), some (qR 11 0), some (qR 12 0), some (qI (nI i)), l5, l6, l7, l8] [] 132 (hL o w F out) (kc + 1) (ks + 6) P qNo := by
  obtain ⟨code, v, A2, hcode, hS, hG2⟩ := x_begin hG (xs (i + 1)) (xs (i + 2)) (xs (i + 3))
  refine e_aload1 dL_law_248 ?_
  refine e_aloadS dL_law_249 ?_
  refine e_iload4 dL_law_250 ?_
  refine e_iconst (z := 1) dL_law_252 ?_
  first | refine e_iaddN dL_law_253 ?_ | refine e_iadd dL_law_253 ?_
  refine e_sldN dL_law_254 (by omega) hN ?_
  refine e_aloadS dL_law_255 ?_
  refine e_iload4 dL_law_256 ?_
  refine e_iconst (z := 2) dL_law_258 ?_
  first | refine e_iaddN dL_law_259 ?_ | refine e_iadd dL_law_259 ?_
  refine e_sldN dL_law_260 (by omega) hN ?_
  refine e_aloadS dL_law_261 ?_
  refine e_iload4 dL_law_262 ?_
  refine e_iconst (z := 3) dL_law_264 ?_
  first | refine e_iaddN dL_law_265 ?_ | refine e_iadd dL_law_265 ?_
  refine e_sldN dL_law_266 (by omega) hN ?_
  refine e_aload3 dL_law_267 ?_
  refine e_callW (as := [qR 0 0, qI (xs (i + 1)), qI (xs (i + 2)), qI (xs (i + 3)), qR 12 0]) g_begin lkL_126 (c_begin F out hG hA hS) rfl rfl dL_law_268 (Nat.le_of_ble_eq_true rfl) (fun o2 w2 out2 hA2 ho => ?_)
  refine e_istore5 dL_law_271 rfl (Nat.le_of_ble_eq_true rfl) ?_
  refine e_aload2 dL_law_273 ?_
  refine e_aloadS dL_law_274 ?_
  refine e_iload4 dL_law_275 ?_
  refine e_iconst (z := 1) dL_law_277 ?_
  first | refine e_iaddN dL_law_278 ?_ | refine e_iadd dL_law_278 ?_
  refine e_sldN dL_law_279 (by omega) hN ?_
  refine e_aloadS dL_law_280 ?_
  refine e_iload4 dL_law_281 ?_
  refine e_iconst (z := 2) dL_law_283 ?_
  first | refine e_iaddN dL_law_284 ?_ | refine e_iadd dL_law_284 ?_
  refine e_sldN dL_law_285 (by omega) hN ?_
  refine e_aloadS dL_law_286 ?_
  refine e_iload4 dL_law_287 ?_
  refine e_iconst (z := 3) dL_law_289 ?_
  first | refine e_iaddN dL_law_290 ?_ | refine e_iadd dL_law_290 ?_
  refine e_sldN dL_law_291 (by omega) hN ?_
  refine e_callM (as := [qI (xs (i + 1)), qI (xs (i + 2)), qI (xs (i + 3))]) fX3_begin lkL_131 hB (fun h => p_begin h hG hB hS) rfl rfl dL_law_292 (Nat.le_of_ble_eq_true rfl) rfl (fun r F2 hB2 hr => ?_)
  refine e_istore6 dL_law_295 rfl (Nat.le_of_ble_eq_true rfl) ?_
  refine e_aload2 dL_law_297 ?_
  refine e_callT hB2 dL_law_298 (Nat.le_of_ble_eq_true rfl) ?_
  refine e_iload5 dL_law_301 ?_
  refine e_icmp_eq 308 dL_law_303 (by decide) (fun _ => ?_) (fun q => absurd rfl q)
  refine e_iload5 dL_law_308 ?_
  refine e_if_ne 325 dL_law_310 (by decide) (fun _ => ?_) (fun hz => ?_)
  · refine e_goto 2499 dL_law_325 (by decide) ?_
    exact K A2 o2 w2 F2 out2 _ _ _ _ hG2 hA2 ⟨_, hB2⟩
  · obtain rfl := nI_code hcode hz
    obtain rfl := hr rfl
    have ho0 := ho rfl
    refine e_aload3 dL_law_313 ?_
    refine e_iconst (z := 0) dL_law_314 ?_
    refine e_ldOut dL_law_315 ?_
    refine e_iload6 dL_law_316 ?_
    refine e_i2l dL_law_318 ?_
    refine e_lcmp dL_law_319 ?_
    rw [ho0, lg_cmp_self]
    refine e_if_eq 325 dL_law_320 (by decide) (fun _ => ?_) (fun q => absurd rfl q)
    refine e_goto 2499 dL_law_325 (by decide) ?_
    exact K A2 o2 w2 F2 out2 _ _ _ _ hG2 hA2 ⟨_, hB2⟩
set_option maxRecDepth 20000 in
set_option maxHeartbeats 4000000 in
theorem L_giveUp {N : Nat} {xs : Nat → Int32} (hN : N ≤ 2048) {n : Nat} (hn : n < 2 ^ 31) {A : qA} (hG : GA n A) {o : List qE} {w : Fin 16 → qw} (hA : RA A o w) {F : List qE} (hB : RB A F) {out : Nat → Int64} {i : Nat} (hi : i + 4 ≤ N) {l5 l6 l7 l8 : Option qV} {kc ks : Nat} {P : qP} (K : ∀ (A2 : qA) (o2 : List qE) (w2 : Fin 16 → qw) (F2 : List qE) (out2 : Nat → Int64) (a5 a6 a7 a8 : Option qV), GA (n + 2400) A2 → RA A2 o2 w2 → RB A2 F2 → Ev (mL_law N xs) 13 2499 [some qS, some (qR 0 0), some (qR 11 0), some (qR 12 0), some (qI (nI i)), a5, a6, a7, a8] [] 132 (hL o2 w2 F2 out2) kc ks P qNo) : Ev (mL_law N xs) 13 328 [some qS, some (qR 0 0), some (qR 11 0), some (qR 12 0), some (qI (nI i)), l5, l6, l7, l8] [] 132 (hL o w F out) (kc + 1) (ks + 6) P qNo := by
  obtain ⟨code, v, A2, hcode, hS, hG2⟩ := x_giveUp hG (xs (i + 1))
  refine e_aload1 dL_law_328 ?_
  refine e_aloadS dL_law_329 ?_
  refine e_iload4 dL_law_330 ?_
  refine e_iconst (z := 1) dL_law_332 ?_
  first | refine e_iaddN dL_law_333 ?_ | refine e_iadd dL_law_333 ?_
  refine e_sldN dL_law_334 (by omega) hN ?_
  refine e_aload3 dL_law_335 ?_
  refine e_callW (as := [qR 0 0, qI (xs (i + 1)), qR 12 0]) g_giveUp lkL_135 (c_giveUp F out hG hA hS) rfl rfl dL_law_336 (Nat.le_of_ble_eq_true rfl) (fun o2 w2 out2 hA2 ho => ?_)
  refine e_istore5 dL_law_339 rfl (Nat.le_of_ble_eq_true rfl) ?_
  refine e_aload2 dL_law_341 ?_
  refine e_aloadS dL_law_342 ?_
  refine e_iload4 dL_law_343 ?_
  refine e_iconst (z := 1) dL_law_345 ?_
  first | refine e_iaddN dL_law_346 ?_ | refine e_iadd dL_law_346 ?_
  refine e_sldN dL_law_347 (by omega) hN ?_
  refine e_callM (as := [qI (xs (i + 1))]) fX3_giveUp lkL_138 hB (fun h => p_giveUp h hG hB hS) rfl rfl dL_law_348 (Nat.le_of_ble_eq_true rfl) rfl (fun r F2 hB2 hr => ?_)
  refine e_istore6 dL_law_351 rfl (Nat.le_of_ble_eq_true rfl) ?_
  refine e_aload2 dL_law_353 ?_
  refine e_callT hB2 dL_law_354 (Nat.le_of_ble_eq_true rfl) ?_
  refine e_iload5 dL_law_357 ?_
  refine e_icmp_eq 364 dL_law_359 (by decide) (fun _ => ?_) (fun q => absurd rfl q)
  refine e_iload5 dL_law_364 ?_
  refine e_if_ne 381 dL_law_366 (by decide) (fun _ => ?_) (fun hz => ?_)
  · refine e_goto 2499 dL_law_381 (by decide) ?_
    exact K A2 o2 w2 F2 out2 _ _ _ _ hG2 hA2 ⟨_, hB2⟩
  · obtain rfl := nI_code hcode hz
    obtain rfl := hr rfl
    have ho0 := ho rfl
    refine e_aload3 dL_law_369 ?_
    refine e_iconst (z := 0) dL_law_370 ?_
    refine e_ldOut dL_law_371 ?_
    refine e_iload6 dL_law_372 ?_
    refine e_i2l dL_law_374 ?_
    refine e_lcmp dL_law_375 ?_
    rw [ho0, lg_cmp_self]
    refine e_if_eq 381 dL_law_376 (by decide) (fun _ => ?_) (fun q => absurd rfl q)
    refine e_goto 2499 dL_law_381 (by decide) ?_
    exact K A2 o2 w2 F2 out2 _ _ _ _ hG2 hA2 ⟨_, hB2⟩
set_option maxRecDepth 20000 in
set_option maxHeartbeats 4000000 in
theorem L_ask {N : Nat} {xs : Nat → Int32} (hN : N ≤ 2048) {n : Nat} (hn : n < 2 ^ 31) {A : qA} (hG : GA n A) {o : List qE} {w : Fin 16 → qw} (hA : RA A o w) {F : List qE} (hB : RB A F) {out : Nat → Int64} {i : Nat} (hi : i + 4 ≤ N) {l5 l6 l7 l8 : Option qV} {kc ks : Nat} {P : qP} (K : ∀ (A2 : qA) (o2 : List qE) (w2 : Fin 16 → qw) (F2 : List qE) (out2 : Nat → Int64) (a5 a6 a7 a8 : Option qV), GA (n + 2400) A2 → RA A2 o2 w2 → RB A2 F2 → Ev (mL_law N xs) 13 2499 [some qS, some (qR 0 0), some (qR 11 0), some (qR 12 0), some (qI (nI i)), a5, a6, a7, a8] [] 132 (hL o2 w2 F2 out2) kc ks P qNo) : Ev (mL_law N xs) 13 384 [some qS, some (qR 0 0), some (qR 11 0), some (qR 12 0), some (qI (nI i)), l5, l6, l7, l8] [] 132 (hL o w F out) (kc + 1) (ks + 6) P qNo := by
  obtain ⟨code, v, A2, hcode, hS, hG2⟩ := x_ask hG (xs (i + 1)) (xs (i + 2))
  refine e_aload1 dL_law_384 ?_
  refine e_aloadS dL_law_385 ?_
  refine e_iload4 dL_law_386 ?_
  refine e_iconst (z := 1) dL_law_388 ?_
  first | refine e_iaddN dL_law_389 ?_ | refine e_iadd dL_law_389 ?_
  refine e_sldN dL_law_390 (by omega) hN ?_
  refine e_aloadS dL_law_391 ?_
  refine e_iload4 dL_law_392 ?_
  refine e_iconst (z := 2) dL_law_394 ?_
  first | refine e_iaddN dL_law_395 ?_ | refine e_iadd dL_law_395 ?_
  refine e_sldN dL_law_396 (by omega) hN ?_
  refine e_aload3 dL_law_397 ?_
  refine e_callW (as := [qR 0 0, qI (xs (i + 1)), qI (xs (i + 2)), qR 12 0]) g_ask lkL_139 (c_ask F out hG hA hS) rfl rfl dL_law_398 (Nat.le_of_ble_eq_true rfl) (fun o2 w2 out2 hA2 ho => ?_)
  refine e_istore5 dL_law_401 rfl (Nat.le_of_ble_eq_true rfl) ?_
  refine e_aload2 dL_law_403 ?_
  refine e_aloadS dL_law_404 ?_
  refine e_iload4 dL_law_405 ?_
  refine e_iconst (z := 1) dL_law_407 ?_
  first | refine e_iaddN dL_law_408 ?_ | refine e_iadd dL_law_408 ?_
  refine e_sldN dL_law_409 (by omega) hN ?_
  refine e_aloadS dL_law_410 ?_
  refine e_iload4 dL_law_411 ?_
  refine e_iconst (z := 2) dL_law_413 ?_
  first | refine e_iaddN dL_law_414 ?_ | refine e_iadd dL_law_414 ?_
  refine e_sldN dL_law_415 (by omega) hN ?_
  refine e_callM (as := [qI (xs (i + 1)), qI (xs (i + 2))]) fX3_ask lkL_142 hB (fun h => p_ask h hG hB hS) rfl rfl dL_law_416 (Nat.le_of_ble_eq_true rfl) rfl (fun r F2 hB2 hr => ?_)
  refine e_istore6 dL_law_419 rfl (Nat.le_of_ble_eq_true rfl) ?_
  refine e_aload2 dL_law_421 ?_
  refine e_callT hB2 dL_law_422 (Nat.le_of_ble_eq_true rfl) ?_
  refine e_iload5 dL_law_425 ?_
  refine e_icmp_eq 432 dL_law_427 (by decide) (fun _ => ?_) (fun q => absurd rfl q)
  refine e_iload5 dL_law_432 ?_
  refine e_if_ne 449 dL_law_434 (by decide) (fun _ => ?_) (fun hz => ?_)
  · refine e_goto 2499 dL_law_449 (by decide) ?_
    exact K A2 o2 w2 F2 out2 _ _ _ _ hG2 hA2 ⟨_, hB2⟩
  · obtain rfl := nI_code hcode hz
    obtain rfl := hr rfl
    have ho0 := ho rfl
    refine e_aload3 dL_law_437 ?_
    refine e_iconst (z := 0) dL_law_438 ?_
    refine e_ldOut dL_law_439 ?_
    refine e_iload6 dL_law_440 ?_
    refine e_i2l dL_law_442 ?_
    refine e_lcmp dL_law_443 ?_
    rw [ho0, lg_cmp_self]
    refine e_if_eq 449 dL_law_444 (by decide) (fun _ => ?_) (fun q => absurd rfl q)
    refine e_goto 2499 dL_law_449 (by decide) ?_
    exact K A2 o2 w2 F2 out2 _ _ _ _ hG2 hA2 ⟨_, hB2⟩
set_option maxRecDepth 20000 in
set_option maxHeartbeats 4000000 in
theorem L_deliver {N : Nat} {xs : Nat → Int32} (hN : N ≤ 2048) {n : Nat} (hn : n < 2 ^ 31) {A : qA} (hG : GA n A) {o : List qE} {w : Fin 16 → qw} (hA : RA A o w) {F : List qE} (hB : RB A F) {out : Nat → Int64} {i : Nat} (hi : i + 4 ≤ N) {l5 l6 l7 l8 : Option qV} {kc ks : Nat} {P : qP} (K : ∀ (A2 : qA) (o2 : List qE) (w2 : Fin 16 → qw) (F2 : List qE) (out2 : Nat → Int64) (a5 a6 a7 a8 : Option qV), GA (n + 2400) A2 → RA A2 o2 w2 → RB A2 F2 → Ev (mL_law N xs) 13 2499 [some qS, some (qR 0 0), some (qR 11 0), some (qR 12 0), some (qI (nI i)), a5, a6, a7, a8] [] 132 (hL o2 w2 F2 out2) kc ks P qNo) : Ev (mL_law N xs) 13 452 [some qS, some (qR 0 0), some (qR 11 0), some (qR 12 0), some (qI (nI i)), l5, l6, l7, l8] [] 132 (hL o w F out) (kc + 1) (ks + 6) P qNo := by
  obtain ⟨code, v, A2, hcode, hS, hG2⟩ := x_deliver hG (xs (i + 1))
  refine e_aload1 dL_law_452 ?_
  refine e_aloadS dL_law_453 ?_
  refine e_iload4 dL_law_454 ?_
  refine e_iconst (z := 1) dL_law_456 ?_
  first | refine e_iaddN dL_law_457 ?_ | refine e_iadd dL_law_457 ?_
  refine e_sldN dL_law_458 (by omega) hN ?_
  refine e_aload3 dL_law_459 ?_
  refine e_callW (as := [qR 0 0, qI (xs (i + 1)), qR 12 0]) g_deliver lkL_143 (c_deliver F out hG hA hS) rfl rfl dL_law_460 (Nat.le_of_ble_eq_true rfl) (fun o2 w2 out2 hA2 ho => ?_)
  refine e_istore5 dL_law_463 rfl (Nat.le_of_ble_eq_true rfl) ?_
  refine e_aload2 dL_law_465 ?_
  refine e_aloadS dL_law_466 ?_
  refine e_iload4 dL_law_467 ?_
  refine e_iconst (z := 1) dL_law_469 ?_
  first | refine e_iaddN dL_law_470 ?_ | refine e_iadd dL_law_470 ?_
  refine e_sldN dL_law_471 (by omega) hN ?_
  refine e_callM (as := [qI (xs (i + 1))]) fX3_deliver lkL_145 hB (fun h => p_deliver h hG hB hS) rfl rfl dL_law_472 (Nat.le_of_ble_eq_true rfl) rfl (fun r F2 hB2 hr => ?_)
  refine e_istore6 dL_law_475 rfl (Nat.le_of_ble_eq_true rfl) ?_
  refine e_aload2 dL_law_477 ?_
  refine e_callT hB2 dL_law_478 (Nat.le_of_ble_eq_true rfl) ?_
  refine e_iload5 dL_law_481 ?_
  refine e_icmp_eq 488 dL_law_483 (by decide) (fun _ => ?_) (fun q => absurd rfl q)
  refine e_iload5 dL_law_488 ?_
  refine e_if_ne 512 dL_law_490 (by decide) (fun _ => ?_) (fun hz => ?_)
  · refine e_goto 2499 dL_law_512 (by decide) ?_
    exact K A2 o2 w2 F2 out2 _ _ _ _ hG2 hA2 ⟨_, hB2⟩
  · obtain rfl := nI_code hcode hz
    obtain rfl := hr rfl
    have ho0 := ho rfl
    refine e_aload3 dL_law_493 ?_
    refine e_iconst (z := 0) dL_law_494 ?_
    refine e_ldOut dL_law_495 ?_
    refine e_iload6 dL_law_496 ?_
    refine e_if_eq 505 dL_law_498 (by decide) (fun hv => ?_) (fun hv => ?_)
    · refine e_lconst (v := 0) dL_law_505 (by decide) ?_
      refine e_lcmp dL_law_506 ?_
      rw [ho0, if_pos hv, lg_cmp_self]
      refine e_if_eq 512 dL_law_507 (by decide) (fun _ => ?_) (fun q => absurd rfl q)
      refine e_goto 2499 dL_law_512 (by decide) ?_
      exact K A2 o2 w2 F2 out2 _ _ _ _ hG2 hA2 ⟨_, hB2⟩
    · refine e_lconst (v := 1) dL_law_501 (by decide) ?_
      refine e_goto 506 dL_law_502 (by decide) ?_
      refine e_lcmp dL_law_506 ?_
      rw [ho0, if_neg hv, lg_cmp_self]
      refine e_if_eq 512 dL_law_507 (by decide) (fun _ => ?_) (fun q => absurd rfl q)
      refine e_goto 2499 dL_law_512 (by decide) ?_
      exact K A2 o2 w2 F2 out2 _ _ _ _ hG2 hA2 ⟨_, hB2⟩
set_option maxRecDepth 20000 in
set_option maxHeartbeats 4000000 in
theorem L_deliverAll {N : Nat} {xs : Nat → Int32} (hN : N ≤ 2048) {n : Nat} (hn : n < 2 ^ 31) {A : qA} (hG : GA n A) {o : List qE} {w : Fin 16 → qw} (hA : RA A o w) {F : List qE} (hB : RB A F) {out : Nat → Int64} {i : Nat} (hi : i + 4 ≤ N) {l5 l6 l7 l8 : Option qV} {kc ks : Nat} {P : qP} (K : ∀ (A2 : qA) (o2 : List qE) (w2 : Fin 16 → qw) (F2 : List qE) (out2 : Nat → Int64) (a5 a6 a7 a8 : Option qV), GA (n + 2400) A2 → RA A2 o2 w2 → RB A2 F2 → Ev (mL_law N xs) 13 2499 [some qS, some (qR 0 0), some (qR 11 0), some (qR 12 0), some (qI (nI i)), a5, a6, a7, a8] [] 132 (hL o2 w2 F2 out2) kc ks P qNo) : Ev (mL_law N xs) 13 515 [some qS, some (qR 0 0), some (qR 11 0), some (qR 12 0), some (qI (nI i)), l5, l6, l7, l8] [] 132 (hL o w F out) (kc + 1) (ks + 6) P qNo := by
  obtain ⟨code, v, A2, hcode, hS, hG2⟩ := x_deliverAll hG
  refine e_aload1 dL_law_515 ?_
  refine e_callCl (as := []) (k_deliverAll (h1 F out) hG hA hS) hA fX2_deliverAll lkL_146 rfl dL_law_516 rfl (by decide) (Nat.le_of_ble_eq_true rfl) (by omega) (by omega) (fun hc0 o2 w2 hA2 => ?_) (fun j E _ hE => absurd hE (by simp))
  refine e_aload2 dL_law_519 ?_
  refine e_callM (as := []) fX3_deliverAll lkL_149 hB (fun h => p_deliverAll h hG hB hS) rfl rfl dL_law_520 (Nat.le_of_ble_eq_true rfl) rfl (fun r F2 hB2 hr => ?_)
  refine e_icmp_eq 2499 dL_law_523 (by decide) (fun _ => ?_) (fun q => absurd (hr hc0).symm q)
  exact ev_room (K A2 o2 w2 F2 out _ _ _ _ hG2 hA2 ⟨_, hB2⟩) (by omega) (by omega)
set_option maxRecDepth 20000 in
set_option maxHeartbeats 4000000 in
theorem L_lose {N : Nat} {xs : Nat → Int32} (hN : N ≤ 2048) {n : Nat} (hn : n < 2 ^ 31) {A : qA} (hG : GA n A) {o : List qE} {w : Fin 16 → qw} (hA : RA A o w) {F : List qE} (hB : RB A F) {out : Nat → Int64} {i : Nat} (hi : i + 4 ≤ N) {l5 l6 l7 l8 : Option qV} {kc ks : Nat} {P : qP} (K : ∀ (A2 : qA) (o2 : List qE) (w2 : Fin 16 → qw) (F2 : List qE) (out2 : Nat → Int64) (a5 a6 a7 a8 : Option qV), GA (n + 2400) A2 → RA A2 o2 w2 → RB A2 F2 → Ev (mL_law N xs) 13 2499 [some qS, some (qR 0 0), some (qR 11 0), some (qR 12 0), some (qI (nI i)), a5, a6, a7, a8] [] 132 (hL o2 w2 F2 out2) kc ks P qNo) : Ev (mL_law N xs) 13 528 [some qS, some (qR 0 0), some (qR 11 0), some (qR 12 0), some (qI (nI i)), l5, l6, l7, l8] [] 132 (hL o w F out) (kc + 1) (ks + 6) P qNo := by
  obtain ⟨code, v, A2, hcode, hS, hG2⟩ := x_lose hG (xs (i + 1))
  refine e_aload1 dL_law_528 ?_
  refine e_aloadS dL_law_529 ?_
  refine e_iload4 dL_law_530 ?_
  refine e_iconst (z := 1) dL_law_532 ?_
  first | refine e_iaddN dL_law_533 ?_ | refine e_iadd dL_law_533 ?_
  refine e_sldN dL_law_534 (by omega) hN ?_
  refine e_aload3 dL_law_535 ?_
  refine e_callW (as := [qR 0 0, qI (xs (i + 1)), qR 12 0]) g_lose lkL_150 (c_lose F out hG hA hS) rfl rfl dL_law_536 (Nat.le_of_ble_eq_true rfl) (fun o2 w2 out2 hA2 ho => ?_)
  refine e_istore5 dL_law_539 rfl (Nat.le_of_ble_eq_true rfl) ?_
  refine e_aload2 dL_law_541 ?_
  refine e_aloadS dL_law_542 ?_
  refine e_iload4 dL_law_543 ?_
  refine e_iconst (z := 1) dL_law_545 ?_
  first | refine e_iaddN dL_law_546 ?_ | refine e_iadd dL_law_546 ?_
  refine e_sldN dL_law_547 (by omega) hN ?_
  refine e_callM (as := [qI (xs (i + 1))]) fX3_lose lkL_152 hB (fun h => p_lose h hG hB hS) rfl rfl dL_law_548 (Nat.le_of_ble_eq_true rfl) rfl (fun r F2 hB2 hr => ?_)
  refine e_istore6 dL_law_551 rfl (Nat.le_of_ble_eq_true rfl) ?_
  refine e_aload2 dL_law_553 ?_
  refine e_callT hB2 dL_law_554 (Nat.le_of_ble_eq_true rfl) ?_
  refine e_iload5 dL_law_557 ?_
  refine e_icmp_eq 564 dL_law_559 (by decide) (fun _ => ?_) (fun q => absurd rfl q)
  refine e_iload5 dL_law_564 ?_
  refine e_if_ne 581 dL_law_566 (by decide) (fun _ => ?_) (fun hz => ?_)
  · refine e_goto 2499 dL_law_581 (by decide) ?_
    exact K A2 o2 w2 F2 out2 _ _ _ _ hG2 hA2 ⟨_, hB2⟩
  · obtain rfl := nI_code hcode hz
    obtain rfl := hr rfl
    have ho0 := ho rfl
    refine e_aload3 dL_law_569 ?_
    refine e_iconst (z := 0) dL_law_570 ?_
    refine e_ldOut dL_law_571 ?_
    refine e_iload6 dL_law_572 ?_
    refine e_i2l dL_law_574 ?_
    refine e_lcmp dL_law_575 ?_
    rw [ho0, lg_cmp_self]
    refine e_if_eq 581 dL_law_576 (by decide) (fun _ => ?_) (fun q => absurd rfl q)
    refine e_goto 2499 dL_law_581 (by decide) ?_
    exact K A2 o2 w2 F2 out2 _ _ _ _ hG2 hA2 ⟨_, hB2⟩
set_option maxRecDepth 20000 in
set_option maxHeartbeats 4000000 in
theorem L_crash {N : Nat} {xs : Nat → Int32} (hN : N ≤ 2048) {n : Nat} (hn : n < 2 ^ 31) {A : qA} (hG : GA n A) {o : List qE} {w : Fin 16 → qw} (hA : RA A o w) {F : List qE} (hB : RB A F) {out : Nat → Int64} {i : Nat} (hi : i + 4 ≤ N) {l5 l6 l7 l8 : Option qV} {kc ks : Nat} {P : qP} (K : ∀ (A2 : qA) (o2 : List qE) (w2 : Fin 16 → qw) (F2 : List qE) (out2 : Nat → Int64) (a5 a6 a7 a8 : Option qV), GA (n + 2400) A2 → RA A2 o2 w2 → RB A2 F2 → Ev (mL_law N xs) 13 2499 [some qS, some (qR 0 0), some (qR 11 0), some (qR 12 0), some (qI (nI i)), a5, a6, a7, a8] [] 132 (hL o2 w2 F2 out2) kc ks P qNo) : Ev (mL_law N xs) 13 584 [some qS, some (qR 0 0), some (qR 11 0), some (qR 12 0), some (qI (nI i)), l5, l6, l7, l8] [] 132 (hL o w F out) (kc + 1) (ks + 6) P qNo := by
  obtain ⟨code, v, A2, hcode, hS, hG2⟩ := x_crash hG (xs (i + 1))
  refine e_aload1 dL_law_584 ?_
  refine e_aloadS dL_law_585 ?_
  refine e_iload4 dL_law_586 ?_
  refine e_iconst (z := 1) dL_law_588 ?_
  first | refine e_iaddN dL_law_589 ?_ | refine e_iadd dL_law_589 ?_
  refine e_sldN dL_law_590 (by omega) hN ?_
  refine e_aload3 dL_law_591 ?_
  refine e_callW (as := [qR 0 0, qI (xs (i + 1)), qR 12 0]) g_crash lkL_153 (c_crash F out hG hA hS) rfl rfl dL_law_592 (Nat.le_of_ble_eq_true rfl) (fun o2 w2 out2 hA2 ho => ?_)
  refine e_istore5 dL_law_595 rfl (Nat.le_of_ble_eq_true rfl) ?_
  refine e_aload2 dL_law_597 ?_
  refine e_aloadS dL_law_598 ?_
  refine e_iload4 dL_law_599 ?_
  refine e_iconst (z := 1) dL_law_601 ?_
  first | refine e_iaddN dL_law_602 ?_ | refine e_iadd dL_law_602 ?_
  refine e_sldN dL_law_603 (by omega) hN ?_
  refine e_callM (as := [qI (xs (i + 1))]) fX3_crash lkL_155 hB (fun h => p_crash h hG hB hS) rfl rfl dL_law_604 (Nat.le_of_ble_eq_true rfl) rfl (fun r F2 hB2 hr => ?_)
  refine e_istore6 dL_law_607 rfl (Nat.le_of_ble_eq_true rfl) ?_
  refine e_aload2 dL_law_609 ?_
  refine e_callT hB2 dL_law_610 (Nat.le_of_ble_eq_true rfl) ?_
  refine e_iload5 dL_law_613 ?_
  refine e_icmp_eq 620 dL_law_615 (by decide) (fun _ => ?_) (fun q => absurd rfl q)
  refine e_iload5 dL_law_620 ?_
  refine e_if_ne 637 dL_law_622 (by decide) (fun _ => ?_) (fun hz => ?_)
  · refine e_goto 2499 dL_law_637 (by decide) ?_
    exact K A2 o2 w2 F2 out2 _ _ _ _ hG2 hA2 ⟨_, hB2⟩
  · obtain rfl := nI_code hcode hz
    obtain rfl := hr rfl
    have ho0 := ho rfl
    refine e_aload3 dL_law_625 ?_
    refine e_iconst (z := 0) dL_law_626 ?_
    refine e_ldOut dL_law_627 ?_
    refine e_iload6 dL_law_628 ?_
    refine e_i2l dL_law_630 ?_
    refine e_lcmp dL_law_631 ?_
    rw [ho0, lg_cmp_self]
    refine e_if_eq 637 dL_law_632 (by decide) (fun _ => ?_) (fun q => absurd rfl q)
    refine e_goto 2499 dL_law_637 (by decide) ?_
    exact K A2 o2 w2 F2 out2 _ _ _ _ hG2 hA2 ⟨_, hB2⟩
set_option maxRecDepth 20000 in
set_option maxHeartbeats 4000000 in
theorem L_recover {N : Nat} {xs : Nat → Int32} (hN : N ≤ 2048) {n : Nat} (hn : n < 2 ^ 31) {A : qA} (hG : GA n A) {o : List qE} {w : Fin 16 → qw} (hA : RA A o w) {F : List qE} (hB : RB A F) {out : Nat → Int64} {i : Nat} (hi : i + 4 ≤ N) {l5 l6 l7 l8 : Option qV} {kc ks : Nat} {P : qP} (K : ∀ (A2 : qA) (o2 : List qE) (w2 : Fin 16 → qw) (F2 : List qE) (out2 : Nat → Int64) (a5 a6 a7 a8 : Option qV), GA (n + 2400) A2 → RA A2 o2 w2 → RB A2 F2 → Ev (mL_law N xs) 13 2499 [some qS, some (qR 0 0), some (qR 11 0), some (qR 12 0), some (qI (nI i)), a5, a6, a7, a8] [] 132 (hL o2 w2 F2 out2) kc ks P qNo) : Ev (mL_law N xs) 13 640 [some qS, some (qR 0 0), some (qR 11 0), some (qR 12 0), some (qI (nI i)), l5, l6, l7, l8] [] 132 (hL o w F out) (kc + 1) (ks + 6) P qNo := by
  obtain ⟨code, v, A2, hcode, hS, hG2⟩ := x_recover hG (xs (i + 1))
  refine e_aload1 dL_law_640 ?_
  refine e_aloadS dL_law_641 ?_
  refine e_iload4 dL_law_642 ?_
  refine e_iconst (z := 1) dL_law_644 ?_
  first | refine e_iaddN dL_law_645 ?_ | refine e_iadd dL_law_645 ?_
  refine e_sldN dL_law_646 (by omega) hN ?_
  refine e_aload3 dL_law_647 ?_
  refine e_callW (as := [qR 0 0, qI (xs (i + 1)), qR 12 0]) g_recover lkL_156 (c_recover F out hG hA hS) rfl rfl dL_law_648 (Nat.le_of_ble_eq_true rfl) (fun o2 w2 out2 hA2 ho => ?_)
  refine e_istore5 dL_law_651 rfl (Nat.le_of_ble_eq_true rfl) ?_
  refine e_aload2 dL_law_653 ?_
  refine e_aloadS dL_law_654 ?_
  refine e_iload4 dL_law_655 ?_
  refine e_iconst (z := 1) dL_law_657 ?_
  first | refine e_iaddN dL_law_658 ?_ | refine e_iadd dL_law_658 ?_
  refine e_sldN dL_law_659 (by omega) hN ?_
  refine e_callM (as := [qI (xs (i + 1))]) fX3_recover lkL_158 hB (fun h => p_recover h hG hB hS) rfl rfl dL_law_660 (Nat.le_of_ble_eq_true rfl) rfl (fun r F2 hB2 hr => ?_)
  refine e_istore6 dL_law_663 rfl (Nat.le_of_ble_eq_true rfl) ?_
  refine e_aload2 dL_law_665 ?_
  refine e_callT hB2 dL_law_666 (Nat.le_of_ble_eq_true rfl) ?_
  refine e_iload5 dL_law_669 ?_
  refine e_icmp_eq 676 dL_law_671 (by decide) (fun _ => ?_) (fun q => absurd rfl q)
  refine e_iload5 dL_law_676 ?_
  refine e_if_ne 693 dL_law_678 (by decide) (fun _ => ?_) (fun hz => ?_)
  · refine e_goto 2499 dL_law_693 (by decide) ?_
    exact K A2 o2 w2 F2 out2 _ _ _ _ hG2 hA2 ⟨_, hB2⟩
  · obtain rfl := nI_code hcode hz
    obtain rfl := hr rfl
    have ho0 := ho rfl
    refine e_aload3 dL_law_681 ?_
    refine e_iconst (z := 0) dL_law_682 ?_
    refine e_ldOut dL_law_683 ?_
    refine e_iload6 dL_law_684 ?_
    refine e_i2l dL_law_686 ?_
    refine e_lcmp dL_law_687 ?_
    rw [ho0, lg_cmp_self]
    refine e_if_eq 693 dL_law_688 (by decide) (fun _ => ?_) (fun q => absurd rfl q)
    refine e_goto 2499 dL_law_693 (by decide) ?_
    exact K A2 o2 w2 F2 out2 _ _ _ _ hG2 hA2 ⟨_, hB2⟩
set_option maxRecDepth 20000 in
set_option maxHeartbeats 4000000 in
theorem L_append {N : Nat} {xs : Nat → Int32} (hN : N ≤ 2048) {n : Nat} (hn : n < 2 ^ 31) {A : qA} (hG : GA n A) {o : List qE} {w : Fin 16 → qw} (hA : RA A o w) {F : List qE} (hB : RB A F) {out : Nat → Int64} {i : Nat} (hi : i + 4 ≤ N) {l5 l6 l7 l8 : Option qV} {kc ks : Nat} {P : qP} (K : ∀ (A2 : qA) (o2 : List qE) (w2 : Fin 16 → qw) (F2 : List qE) (out2 : Nat → Int64) (a5 a6 a7 a8 : Option qV), GA (n + 2400) A2 → RA A2 o2 w2 → RB A2 F2 → Ev (mL_law N xs) 13 2499 [some qS, some (qR 0 0), some (qR 11 0), some (qR 12 0), some (qI (nI i)), a5, a6, a7, a8] [] 132 (hL o2 w2 F2 out2) kc ks P qNo) : Ev (mL_law N xs) 13 696 [some qS, some (qR 0 0), some (qR 11 0), some (qR 12 0), some (qI (nI i)), l5, l6, l7, l8] [] 132 (hL o w F out) (kc + 1) (ks + 6) P qNo := by
  obtain ⟨code, v, A2, hcode, hS, hG2⟩ := x_append hG (xs (i + 1))
  refine e_aload1 dL_law_696 ?_
  refine e_aloadS dL_law_697 ?_
  refine e_iload4 dL_law_698 ?_
  refine e_iconst (z := 1) dL_law_700 ?_
  first | refine e_iaddN dL_law_701 ?_ | refine e_iadd dL_law_701 ?_
  refine e_sldN dL_law_702 (by omega) hN ?_
  refine e_aload3 dL_law_703 ?_
  refine e_callW (as := [qR 0 0, qI (xs (i + 1)), qR 12 0]) g_append lkL_159 (c_append F out hG hA hS) rfl rfl dL_law_704 (Nat.le_of_ble_eq_true rfl) (fun o2 w2 out2 hA2 ho => ?_)
  refine e_istore5 dL_law_707 rfl (Nat.le_of_ble_eq_true rfl) ?_
  refine e_aload2 dL_law_709 ?_
  refine e_aloadS dL_law_710 ?_
  refine e_iload4 dL_law_711 ?_
  refine e_iconst (z := 1) dL_law_713 ?_
  first | refine e_iaddN dL_law_714 ?_ | refine e_iadd dL_law_714 ?_
  refine e_sldN dL_law_715 (by omega) hN ?_
  refine e_callM (as := [qI (xs (i + 1))]) fX3_append lkL_161 hB (fun h => p_append h hG hB hS) rfl rfl dL_law_716 (Nat.le_of_ble_eq_true rfl) rfl (fun r F2 hB2 hr => ?_)
  refine e_istore6 dL_law_719 rfl (Nat.le_of_ble_eq_true rfl) ?_
  refine e_aload2 dL_law_721 ?_
  refine e_callT hB2 dL_law_722 (Nat.le_of_ble_eq_true rfl) ?_
  refine e_iload5 dL_law_725 ?_
  refine e_icmp_eq 732 dL_law_727 (by decide) (fun _ => ?_) (fun q => absurd rfl q)
  refine e_iload5 dL_law_732 ?_
  refine e_if_ne 749 dL_law_734 (by decide) (fun _ => ?_) (fun hz => ?_)
  · refine e_goto 2499 dL_law_749 (by decide) ?_
    exact K A2 o2 w2 F2 out2 _ _ _ _ hG2 hA2 ⟨_, hB2⟩
  · obtain rfl := nI_code hcode hz
    obtain rfl := hr rfl
    have ho0 := ho rfl
    refine e_aload3 dL_law_737 ?_
    refine e_iconst (z := 0) dL_law_738 ?_
    refine e_ldOut dL_law_739 ?_
    refine e_iload6 dL_law_740 ?_
    refine e_i2l dL_law_742 ?_
    refine e_lcmp dL_law_743 ?_
    rw [ho0, lg_cmp_self]
    refine e_if_eq 749 dL_law_744 (by decide) (fun _ => ?_) (fun q => absurd rfl q)
    refine e_goto 2499 dL_law_749 (by decide) ?_
    exact K A2 o2 w2 F2 out2 _ _ _ _ hG2 hA2 ⟨_, hB2⟩
set_option maxRecDepth 20000 in
set_option maxHeartbeats 4000000 in
theorem L_clearBuffer {N : Nat} {xs : Nat → Int32} (hN : N ≤ 2048) {n : Nat} (hn : n < 2 ^ 31) {A : qA} (hG : GA n A) {o : List qE} {w : Fin 16 → qw} (hA : RA A o w) {F : List qE} (hB : RB A F) {out : Nat → Int64} {i : Nat} (hi : i + 4 ≤ N) {l5 l6 l7 l8 : Option qV} {kc ks : Nat} {P : qP} (K : ∀ (A2 : qA) (o2 : List qE) (w2 : Fin 16 → qw) (F2 : List qE) (out2 : Nat → Int64) (a5 a6 a7 a8 : Option qV), GA (n + 2400) A2 → RA A2 o2 w2 → RB A2 F2 → Ev (mL_law N xs) 13 2499 [some qS, some (qR 0 0), some (qR 11 0), some (qR 12 0), some (qI (nI i)), a5, a6, a7, a8] [] 132 (hL o2 w2 F2 out2) kc ks P qNo) : Ev (mL_law N xs) 13 752 [some qS, some (qR 0 0), some (qR 11 0), some (qR 12 0), some (qI (nI i)), l5, l6, l7, l8] [] 132 (hL o w F out) (kc + 1) (ks + 6) P qNo := by
  obtain ⟨code, v, A2, hcode, hS, hG2⟩ := x_clearBuffer hG
  refine e_aload1 dL_law_752 ?_
  refine e_callCl (as := []) (k_clearBuffer (h1 F out) hG hA hS) hA fX2_clearBuffer lkL_162 rfl dL_law_753 rfl (by decide) (Nat.le_of_ble_eq_true rfl) (by omega) (by omega) (fun hc0 o2 w2 hA2 => ?_) (fun j E _ hE => absurd hE (by simp))
  refine e_aload2 dL_law_756 ?_
  refine e_callM (as := []) fX3_clearBuffer lkL_165 hB (fun h => p_clearBuffer h hG hB hS) rfl rfl dL_law_757 (Nat.le_of_ble_eq_true rfl) rfl (fun r F2 hB2 hr => ?_)
  refine e_icmp_eq 2499 dL_law_760 (by decide) (fun _ => ?_) (fun q => absurd (hr hc0).symm q)
  exact ev_room (K A2 o2 w2 F2 out _ _ _ _ hG2 hA2 ⟨_, hB2⟩) (by omega) (by omega)
set_option maxRecDepth 20000 in
set_option maxHeartbeats 4000000 in
theorem L_firstError {N : Nat} {xs : Nat → Int32} (hN : N ≤ 2048) {n : Nat} (hn : n < 2 ^ 31) {A : qA} (hG : GA n A) {o : List qE} {w : Fin 16 → qw} (hA : RA A o w) {F : List qE} (hB : RB A F) {out : Nat → Int64} {i : Nat} (hi : i + 4 ≤ N) {l5 l6 l7 l8 : Option qV} {kc ks : Nat} {P : qP} (K : ∀ (A2 : qA) (o2 : List qE) (w2 : Fin 16 → qw) (F2 : List qE) (out2 : Nat → Int64) (a5 a6 a7 a8 : Option qV), GA (n + 2400) A2 → RA A2 o2 w2 → RB A2 F2 → Ev (mL_law N xs) 13 2499 [some qS, some (qR 0 0), some (qR 11 0), some (qR 12 0), some (qI (nI i)), a5, a6, a7, a8] [] 132 (hL o2 w2 F2 out2) kc ks P qNo) : Ev (mL_law N xs) 13 765 [some qS, some (qR 0 0), some (qR 11 0), some (qR 12 0), some (qI (nI i)), l5, l6, l7, l8] [] 132 (hL o w F out) (kc + 1) (ks + 6) P qNo := by
  obtain ⟨code, v, A2, hcode, hS, hG2⟩ := x_firstError hG
  refine e_aload1 dL_law_765 ?_
  refine e_callCl (as := []) (k_firstError (h1 F out) hG hA hS) hA fX2_firstError lkL_166 rfl dL_law_766 rfl (by decide) (Nat.le_of_ble_eq_true rfl) (by omega) (by omega) (fun hc0 o2 w2 hA2 => ?_) (fun j E _ hE => absurd hE (by simp))
  refine e_aload2 dL_law_769 ?_
  refine e_callM (as := []) fX3_firstError lkL_169 hB (fun h => p_firstError h hG hB hS) rfl rfl dL_law_770 (Nat.le_of_ble_eq_true rfl) rfl (fun r F2 hB2 hr => ?_)
  refine e_icmp_eq 2499 dL_law_773 (by decide) (fun _ => ?_) (fun q => absurd (hr hc0).symm q)
  exact ev_room (K A2 o2 w2 F2 out _ _ _ _ hG2 hA2 ⟨_, hB2⟩) (by omega) (by omega)
set_option maxRecDepth 20000 in
set_option maxHeartbeats 4000000 in
theorem L_runCourse {N : Nat} {xs : Nat → Int32} (hN : N ≤ 2048) {n : Nat} (hn : n < 2 ^ 31) {A : qA} (hG : GA n A) {o : List qE} {w : Fin 16 → qw} (hA : RA A o w) {F : List qE} (hB : RB A F) {out : Nat → Int64} {i : Nat} (hi : i + 4 ≤ N) {l5 l6 l7 l8 : Option qV} {kc ks : Nat} {P : qP} (K : ∀ (A2 : qA) (o2 : List qE) (w2 : Fin 16 → qw) (F2 : List qE) (out2 : Nat → Int64) (a5 a6 a7 a8 : Option qV), GA (n + 2400) A2 → RA A2 o2 w2 → RB A2 F2 → Ev (mL_law N xs) 13 2499 [some qS, some (qR 0 0), some (qR 11 0), some (qR 12 0), some (qI (nI i)), a5, a6, a7, a8] [] 132 (hL o2 w2 F2 out2) kc ks P qNo) : Ev (mL_law N xs) 13 778 [some qS, some (qR 0 0), some (qR 11 0), some (qR 12 0), some (qI (nI i)), l5, l6, l7, l8] [] 132 (hL o w F out) (kc + 1) (ks + 6) P qNo := by
  obtain ⟨code, v, A2, hcode, hS, hG2⟩ := x_runCourse hG
  refine e_aload1 dL_law_778 ?_
  refine e_aload3 dL_law_779 ?_
  refine e_callW (as := [qR 0 0, qR 12 0]) g_runCourse lkL_170 (c_runCourse F out hG hA hS) rfl rfl dL_law_780 (Nat.le_of_ble_eq_true rfl) (fun o2 w2 out2 hA2 ho => ?_)
  refine e_istore5 dL_law_783 rfl (Nat.le_of_ble_eq_true rfl) ?_
  refine e_aload2 dL_law_785 ?_
  refine e_callM (as := []) fX3_runCourse lkL_173 hB (fun h => p_runCourse h hG hB hS) rfl rfl dL_law_786 (Nat.le_of_ble_eq_true rfl) rfl (fun r F2 hB2 hr => ?_)
  refine e_istore6 dL_law_789 rfl (Nat.le_of_ble_eq_true rfl) ?_
  refine e_aload2 dL_law_791 ?_
  refine e_callT hB2 dL_law_792 (Nat.le_of_ble_eq_true rfl) ?_
  refine e_iload5 dL_law_795 ?_
  refine e_icmp_eq 802 dL_law_797 (by decide) (fun _ => ?_) (fun q => absurd rfl q)
  refine e_iload5 dL_law_802 ?_
  refine e_if_ne 819 dL_law_804 (by decide) (fun _ => ?_) (fun hz => ?_)
  · refine e_goto 2499 dL_law_819 (by decide) ?_
    exact K A2 o2 w2 F2 out2 _ _ _ _ hG2 hA2 ⟨_, hB2⟩
  · obtain rfl := nI_code hcode hz
    obtain rfl := hr rfl
    have ho0 := ho rfl
    refine e_aload3 dL_law_807 ?_
    refine e_iconst (z := 0) dL_law_808 ?_
    refine e_ldOut dL_law_809 ?_
    refine e_iload6 dL_law_810 ?_
    refine e_i2l dL_law_812 ?_
    refine e_lcmp dL_law_813 ?_
    rw [ho0, lg_cmp_self]
    refine e_if_eq 819 dL_law_814 (by decide) (fun _ => ?_) (fun q => absurd rfl q)
    refine e_goto 2499 dL_law_819 (by decide) ?_
    exact K A2 o2 w2 F2 out2 _ _ _ _ hG2 hA2 ⟨_, hB2⟩
set_option maxRecDepth 20000 in
set_option maxHeartbeats 4000000 in
theorem L_keep {N : Nat} {xs : Nat → Int32} (hN : N ≤ 2048) {n : Nat} (hn : n < 2 ^ 31) {A : qA} (hG : GA n A) {o : List qE} {w : Fin 16 → qw} (hA : RA A o w) {F : List qE} (hB : RB A F) {out : Nat → Int64} {i : Nat} (hi : i + 4 ≤ N) {l5 l6 l7 l8 : Option qV} {kc ks : Nat} {P : qP} (K : ∀ (A2 : qA) (o2 : List qE) (w2 : Fin 16 → qw) (F2 : List qE) (out2 : Nat → Int64) (a5 a6 a7 a8 : Option qV), GA (n + 2400) A2 → RA A2 o2 w2 → RB A2 F2 → Ev (mL_law N xs) 13 2499 [some qS, some (qR 0 0), some (qR 11 0), some (qR 12 0), some (qI (nI i)), a5, a6, a7, a8] [] 132 (hL o2 w2 F2 out2) kc ks P qNo) : Ev (mL_law N xs) 13 822 [some qS, some (qR 0 0), some (qR 11 0), some (qR 12 0), some (qI (nI i)), l5, l6, l7, l8] [] 132 (hL o w F out) (kc + 1) (ks + 6) P qNo := by
  obtain ⟨code, v, A2, hcode, hS, hG2⟩ := x_keep hG
  refine e_aload1 dL_law_822 ?_
  refine e_callCl (as := []) (k_keep (h1 F out) hG hA hS) hA fX2_keep lkL_174 rfl dL_law_823 rfl (by decide) (Nat.le_of_ble_eq_true rfl) (by omega) (by omega) (fun hc0 o2 w2 hA2 => ?_) (fun j E _ hE => absurd hE (by simp))
  refine e_aload2 dL_law_826 ?_
  refine e_callM (as := []) fX3_keep lkL_177 hB (fun h => p_keep h hG hB hS) rfl rfl dL_law_827 (Nat.le_of_ble_eq_true rfl) rfl (fun r F2 hB2 hr => ?_)
  refine e_icmp_eq 2499 dL_law_830 (by decide) (fun _ => ?_) (fun q => absurd (hr hc0).symm q)
  exact ev_room (K A2 o2 w2 F2 out _ _ _ _ hG2 hA2 ⟨_, hB2⟩) (by omega) (by omega)
set_option maxRecDepth 20000 in
set_option maxHeartbeats 4000000 in
theorem L_goBack {N : Nat} {xs : Nat → Int32} (hN : N ≤ 2048) {n : Nat} (hn : n < 2 ^ 31) {A : qA} (hG : GA n A) {o : List qE} {w : Fin 16 → qw} (hA : RA A o w) {F : List qE} (hB : RB A F) {out : Nat → Int64} {i : Nat} (hi : i + 4 ≤ N) {l5 l6 l7 l8 : Option qV} {kc ks : Nat} {P : qP} (K : ∀ (A2 : qA) (o2 : List qE) (w2 : Fin 16 → qw) (F2 : List qE) (out2 : Nat → Int64) (a5 a6 a7 a8 : Option qV), GA (n + 2400) A2 → RA A2 o2 w2 → RB A2 F2 → Ev (mL_law N xs) 13 2499 [some qS, some (qR 0 0), some (qR 11 0), some (qR 12 0), some (qI (nI i)), a5, a6, a7, a8] [] 132 (hL o2 w2 F2 out2) kc ks P qNo) : Ev (mL_law N xs) 13 835 [some qS, some (qR 0 0), some (qR 11 0), some (qR 12 0), some (qI (nI i)), l5, l6, l7, l8] [] 132 (hL o w F out) (kc + 1) (ks + 6) P qNo := by
  obtain ⟨code, v, A2, hcode, hS, hG2⟩ := x_goBack hG
  refine e_aload1 dL_law_835 ?_
  refine e_aload3 dL_law_836 ?_
  refine e_callW (as := [qR 0 0, qR 12 0]) g_goBack lkL_178 (c_goBack F out hG hA hS) rfl rfl dL_law_837 (Nat.le_of_ble_eq_true rfl) (fun o2 w2 out2 hA2 ho => ?_)
  refine e_istore5 dL_law_840 rfl (Nat.le_of_ble_eq_true rfl) ?_
  refine e_aload2 dL_law_842 ?_
  refine e_callM (as := []) fX3_goBack lkL_180 hB (fun h => p_goBack h hG hB hS) rfl rfl dL_law_843 (Nat.le_of_ble_eq_true rfl) rfl (fun r F2 hB2 hr => ?_)
  refine e_istore6 dL_law_846 rfl (Nat.le_of_ble_eq_true rfl) ?_
  refine e_aload2 dL_law_848 ?_
  refine e_callT hB2 dL_law_849 (Nat.le_of_ble_eq_true rfl) ?_
  refine e_iload5 dL_law_852 ?_
  refine e_icmp_eq 859 dL_law_854 (by decide) (fun _ => ?_) (fun q => absurd rfl q)
  refine e_iload5 dL_law_859 ?_
  refine e_if_ne 876 dL_law_861 (by decide) (fun _ => ?_) (fun hz => ?_)
  · refine e_goto 2499 dL_law_876 (by decide) ?_
    exact K A2 o2 w2 F2 out2 _ _ _ _ hG2 hA2 ⟨_, hB2⟩
  · obtain rfl := nI_code hcode hz
    obtain rfl := hr rfl
    have ho0 := ho rfl
    refine e_aload3 dL_law_864 ?_
    refine e_iconst (z := 0) dL_law_865 ?_
    refine e_ldOut dL_law_866 ?_
    refine e_iload6 dL_law_867 ?_
    refine e_i2l dL_law_869 ?_
    refine e_lcmp dL_law_870 ?_
    rw [ho0, lg_cmp_self]
    refine e_if_eq 876 dL_law_871 (by decide) (fun _ => ?_) (fun q => absurd rfl q)
    refine e_goto 2499 dL_law_876 (by decide) ?_
    exact K A2 o2 w2 F2 out2 _ _ _ _ hG2 hA2 ⟨_, hB2⟩
set_option maxRecDepth 20000 in
set_option maxHeartbeats 4000000 in
theorem L_undo {N : Nat} {xs : Nat → Int32} (hN : N ≤ 2048) {n : Nat} (hn : n < 2 ^ 31) {A : qA} (hG : GA n A) {o : List qE} {w : Fin 16 → qw} (hA : RA A o w) {F : List qE} (hB : RB A F) {out : Nat → Int64} {i : Nat} (hi : i + 4 ≤ N) {l5 l6 l7 l8 : Option qV} {kc ks : Nat} {P : qP} (K : ∀ (A2 : qA) (o2 : List qE) (w2 : Fin 16 → qw) (F2 : List qE) (out2 : Nat → Int64) (a5 a6 a7 a8 : Option qV), GA (n + 2400) A2 → RA A2 o2 w2 → RB A2 F2 → Ev (mL_law N xs) 13 2499 [some qS, some (qR 0 0), some (qR 11 0), some (qR 12 0), some (qI (nI i)), a5, a6, a7, a8] [] 132 (hL o2 w2 F2 out2) kc ks P qNo) : Ev (mL_law N xs) 13 879 [some qS, some (qR 0 0), some (qR 11 0), some (qR 12 0), some (qI (nI i)), l5, l6, l7, l8] [] 132 (hL o w F out) (kc + 1) (ks + 6) P qNo := by
  obtain ⟨code, v, A2, hcode, hS, hG2⟩ := x_undo hG
  refine e_aload1 dL_law_879 ?_
  refine e_aload3 dL_law_880 ?_
  refine e_callW (as := [qR 0 0, qR 12 0]) g_undo lkL_181 (c_undo F out hG hA hS) rfl rfl dL_law_881 (Nat.le_of_ble_eq_true rfl) (fun o2 w2 out2 hA2 ho => ?_)
  refine e_istore5 dL_law_884 rfl (Nat.le_of_ble_eq_true rfl) ?_
  refine e_aload2 dL_law_886 ?_
  refine e_callM (as := []) fX3_undo lkL_183 hB (fun h => p_undo h hG hB hS) rfl rfl dL_law_887 (Nat.le_of_ble_eq_true rfl) rfl (fun r F2 hB2 hr => ?_)
  refine e_istore6 dL_law_890 rfl (Nat.le_of_ble_eq_true rfl) ?_
  refine e_aload2 dL_law_892 ?_
  refine e_callT hB2 dL_law_893 (Nat.le_of_ble_eq_true rfl) ?_
  refine e_iload5 dL_law_896 ?_
  refine e_icmp_eq 903 dL_law_898 (by decide) (fun _ => ?_) (fun q => absurd rfl q)
  refine e_iload5 dL_law_903 ?_
  refine e_if_ne 920 dL_law_905 (by decide) (fun _ => ?_) (fun hz => ?_)
  · refine e_goto 2499 dL_law_920 (by decide) ?_
    exact K A2 o2 w2 F2 out2 _ _ _ _ hG2 hA2 ⟨_, hB2⟩
  · obtain rfl := nI_code hcode hz
    obtain rfl := hr rfl
    have ho0 := ho rfl
    refine e_aload3 dL_law_908 ?_
    refine e_iconst (z := 0) dL_law_909 ?_
    refine e_ldOut dL_law_910 ?_
    refine e_iload6 dL_law_911 ?_
    refine e_i2l dL_law_913 ?_
    refine e_lcmp dL_law_914 ?_
    rw [ho0, lg_cmp_self]
    refine e_if_eq 920 dL_law_915 (by decide) (fun _ => ?_) (fun q => absurd rfl q)
    refine e_goto 2499 dL_law_920 (by decide) ?_
    exact K A2 o2 w2 F2 out2 _ _ _ _ hG2 hA2 ⟨_, hB2⟩
set_option maxRecDepth 20000 in
set_option maxHeartbeats 4000000 in
theorem L_transfers {N : Nat} {xs : Nat → Int32} (hN : N ≤ 2048) {n : Nat} (hn : n < 2 ^ 31) {A : qA} (hG : GA n A) {o : List qE} {w : Fin 16 → qw} (hA : RA A o w) {F : List qE} (hB : RB A F) {out : Nat → Int64} {i : Nat} (hi : i + 4 ≤ N) {l5 l6 l7 l8 : Option qV} {kc ks : Nat} {P : qP} (K : ∀ (A2 : qA) (o2 : List qE) (w2 : Fin 16 → qw) (F2 : List qE) (out2 : Nat → Int64) (a5 a6 a7 a8 : Option qV), GA (n + 2400) A2 → RA A2 o2 w2 → RB A2 F2 → Ev (mL_law N xs) 13 2499 [some qS, some (qR 0 0), some (qR 11 0), some (qR 12 0), some (qI (nI i)), a5, a6, a7, a8] [] 132 (hL o2 w2 F2 out2) kc ks P qNo) : Ev (mL_law N xs) 13 923 [some qS, some (qR 0 0), some (qR 11 0), some (qR 12 0), some (qI (nI i)), l5, l6, l7, l8] [] 132 (hL o w F out) (kc + 1) (ks + 6) P qNo := by
  obtain ⟨code, v, A2, hcode, hS, hG2⟩ := x_transfers hG
  refine e_aload1 dL_law_923 ?_
  refine e_callCl (as := []) (k_transfers (h1 F out) hG hA hS) hA fX2_transfers lkL_184 rfl dL_law_924 rfl (by decide) (Nat.le_of_ble_eq_true rfl) (by omega) (by omega) (fun hc0 o2 w2 hA2 => ?_) (fun j E _ hE => absurd hE (by simp))
  refine e_aload2 dL_law_927 ?_
  refine e_callM (as := []) fX3_transfers lkL_187 hB (fun h => p_transfers h hG hB hS) rfl rfl dL_law_928 (Nat.le_of_ble_eq_true rfl) rfl (fun r F2 hB2 hr => ?_)
  refine e_icmp_eq 2499 dL_law_931 (by decide) (fun _ => ?_) (fun q => absurd (hr hc0).symm q)
  exact ev_room (K A2 o2 w2 F2 out _ _ _ _ hG2 hA2 ⟨_, hB2⟩) (by omega) (by omega)
set_option maxRecDepth 20000 in
set_option maxHeartbeats 4000000 in
theorem L_partners {N : Nat} {xs : Nat → Int32} (hN : N ≤ 2048) {n : Nat} (hn : n < 2 ^ 31) {A : qA} (hG : GA n A) {o : List qE} {w : Fin 16 → qw} (hA : RA A o w) {F : List qE} (hB : RB A F) {out : Nat → Int64} {i : Nat} (hi : i + 4 ≤ N) {l5 l6 l7 l8 : Option qV} {kc ks : Nat} {P : qP} (K : ∀ (A2 : qA) (o2 : List qE) (w2 : Fin 16 → qw) (F2 : List qE) (out2 : Nat → Int64) (a5 a6 a7 a8 : Option qV), GA (n + 2400) A2 → RA A2 o2 w2 → RB A2 F2 → Ev (mL_law N xs) 13 2499 [some qS, some (qR 0 0), some (qR 11 0), some (qR 12 0), some (qI (nI i)), a5, a6, a7, a8] [] 132 (hL o2 w2 F2 out2) kc ks P qNo) : Ev (mL_law N xs) 13 936 [some qS, some (qR 0 0), some (qR 11 0), some (qR 12 0), some (qI (nI i)), l5, l6, l7, l8] [] 132 (hL o w F out) (kc + 1) (ks + 6) P qNo := by
  obtain ⟨code, v, A2, hcode, hS, hG2⟩ := x_partners hG (xs (i + 1))
  refine e_aload1 dL_law_936 ?_
  refine e_aloadS dL_law_937 ?_
  refine e_iload4 dL_law_938 ?_
  refine e_iconst (z := 1) dL_law_940 ?_
  first | refine e_iaddN dL_law_941 ?_ | refine e_iadd dL_law_941 ?_
  refine e_sldN dL_law_942 (by omega) hN ?_
  refine e_aload3 dL_law_943 ?_
  refine e_callW (as := [qR 0 0, qI (xs (i + 1)), qR 12 0]) g_partners lkL_188 (c_partners F out hG hA hS) rfl rfl dL_law_944 (Nat.le_of_ble_eq_true rfl) (fun o2 w2 out2 hA2 ho => ?_)
  refine e_istore5 dL_law_947 rfl (Nat.le_of_ble_eq_true rfl) ?_
  refine e_aload2 dL_law_949 ?_
  refine e_aloadS dL_law_950 ?_
  refine e_iload4 dL_law_951 ?_
  refine e_iconst (z := 1) dL_law_953 ?_
  first | refine e_iaddN dL_law_954 ?_ | refine e_iadd dL_law_954 ?_
  refine e_sldN dL_law_955 (by omega) hN ?_
  refine e_callM (as := [qI (xs (i + 1))]) fX3_partners lkL_190 hB (fun h => p_partners h hG hB hS) rfl rfl dL_law_956 (Nat.le_of_ble_eq_true rfl) rfl (fun r F2 hB2 hr => ?_)
  refine e_istore6 dL_law_959 rfl (Nat.le_of_ble_eq_true rfl) ?_
  refine e_aload2 dL_law_961 ?_
  refine e_callT hB2 dL_law_962 (Nat.le_of_ble_eq_true rfl) ?_
  refine e_iload5 dL_law_965 ?_
  refine e_icmp_eq 972 dL_law_967 (by decide) (fun _ => ?_) (fun q => absurd rfl q)
  refine e_iload5 dL_law_972 ?_
  refine e_if_ne 989 dL_law_974 (by decide) (fun _ => ?_) (fun hz => ?_)
  · refine e_goto 2499 dL_law_989 (by decide) ?_
    exact K A2 o2 w2 F2 out2 _ _ _ _ hG2 hA2 ⟨_, hB2⟩
  · obtain rfl := nI_code hcode hz
    obtain rfl := hr rfl
    have ho0 := ho rfl
    refine e_aload3 dL_law_977 ?_
    refine e_iconst (z := 0) dL_law_978 ?_
    refine e_ldOut dL_law_979 ?_
    refine e_iload6 dL_law_980 ?_
    refine e_i2l dL_law_982 ?_
    refine e_lcmp dL_law_983 ?_
    rw [ho0, lg_cmp_self]
    refine e_if_eq 989 dL_law_984 (by decide) (fun _ => ?_) (fun q => absurd rfl q)
    refine e_goto 2499 dL_law_989 (by decide) ?_
    exact K A2 o2 w2 F2 out2 _ _ _ _ hG2 hA2 ⟨_, hB2⟩
set_option maxRecDepth 20000 in
set_option maxHeartbeats 4000000 in
theorem L_share {N : Nat} {xs : Nat → Int32} (hN : N ≤ 2048) {n : Nat} (hn : n < 2 ^ 31) {A : qA} (hG : GA n A) {o : List qE} {w : Fin 16 → qw} (hA : RA A o w) {F : List qE} (hB : RB A F) {out : Nat → Int64} {i : Nat} (hi : i + 4 ≤ N) {l5 l6 l7 l8 : Option qV} {kc ks : Nat} {P : qP} (K : ∀ (A2 : qA) (o2 : List qE) (w2 : Fin 16 → qw) (F2 : List qE) (out2 : Nat → Int64) (a5 a6 a7 a8 : Option qV), GA (n + 2400) A2 → RA A2 o2 w2 → RB A2 F2 → Ev (mL_law N xs) 13 2499 [some qS, some (qR 0 0), some (qR 11 0), some (qR 12 0), some (qI (nI i)), a5, a6, a7, a8] [] 132 (hL o2 w2 F2 out2) kc ks P qNo) : Ev (mL_law N xs) 13 992 [some qS, some (qR 0 0), some (qR 11 0), some (qR 12 0), some (qI (nI i)), l5, l6, l7, l8] [] 132 (hL o w F out) (kc + 1) (ks + 6) P qNo := by
  obtain ⟨code, v, A2, hcode, hS, hG2⟩ := x_share hG (xs (i + 1)) (xs (i + 2))
  refine e_aload1 dL_law_992 ?_
  refine e_aloadS dL_law_993 ?_
  refine e_iload4 dL_law_994 ?_
  refine e_iconst (z := 1) dL_law_996 ?_
  first | refine e_iaddN dL_law_997 ?_ | refine e_iadd dL_law_997 ?_
  refine e_sldN dL_law_998 (by omega) hN ?_
  refine e_aloadS dL_law_999 ?_
  refine e_iload4 dL_law_1000 ?_
  refine e_iconst (z := 2) dL_law_1002 ?_
  first | refine e_iaddN dL_law_1003 ?_ | refine e_iadd dL_law_1003 ?_
  refine e_sldN dL_law_1004 (by omega) hN ?_
  refine e_aload3 dL_law_1005 ?_
  refine e_callW (as := [qR 0 0, qI (xs (i + 1)), qI (xs (i + 2)), qR 12 0]) g_share lkL_191 (c_share F out hG hA hS) rfl rfl dL_law_1006 (Nat.le_of_ble_eq_true rfl) (fun o2 w2 out2 hA2 ho => ?_)
  refine e_istore5 dL_law_1009 rfl (Nat.le_of_ble_eq_true rfl) ?_
  refine e_aload2 dL_law_1011 ?_
  refine e_aloadS dL_law_1012 ?_
  refine e_iload4 dL_law_1013 ?_
  refine e_iconst (z := 1) dL_law_1015 ?_
  first | refine e_iaddN dL_law_1016 ?_ | refine e_iadd dL_law_1016 ?_
  refine e_sldN dL_law_1017 (by omega) hN ?_
  refine e_aloadS dL_law_1018 ?_
  refine e_iload4 dL_law_1019 ?_
  refine e_iconst (z := 2) dL_law_1021 ?_
  first | refine e_iaddN dL_law_1022 ?_ | refine e_iadd dL_law_1022 ?_
  refine e_sldN dL_law_1023 (by omega) hN ?_
  refine e_callM (as := [qI (xs (i + 1)), qI (xs (i + 2))]) fX3_share lkL_193 hB (fun h => p_share h hG hB hS) rfl rfl dL_law_1024 (Nat.le_of_ble_eq_true rfl) rfl (fun r F2 hB2 hr => ?_)
  refine e_istore6 dL_law_1027 rfl (Nat.le_of_ble_eq_true rfl) ?_
  refine e_aload2 dL_law_1029 ?_
  refine e_callT hB2 dL_law_1030 (Nat.le_of_ble_eq_true rfl) ?_
  refine e_iload5 dL_law_1033 ?_
  refine e_icmp_eq 1040 dL_law_1035 (by decide) (fun _ => ?_) (fun q => absurd rfl q)
  refine e_iload5 dL_law_1040 ?_
  refine e_if_ne 1057 dL_law_1042 (by decide) (fun _ => ?_) (fun hz => ?_)
  · refine e_goto 2499 dL_law_1057 (by decide) ?_
    exact K A2 o2 w2 F2 out2 _ _ _ _ hG2 hA2 ⟨_, hB2⟩
  · obtain rfl := nI_code hcode hz
    obtain rfl := hr rfl
    have ho0 := ho rfl
    refine e_aload3 dL_law_1045 ?_
    refine e_iconst (z := 0) dL_law_1046 ?_
    refine e_ldOut dL_law_1047 ?_
    refine e_iload6 dL_law_1048 ?_
    refine e_i2l dL_law_1050 ?_
    refine e_lcmp dL_law_1051 ?_
    rw [ho0, lg_cmp_self]
    refine e_if_eq 1057 dL_law_1052 (by decide) (fun _ => ?_) (fun q => absurd rfl q)
    refine e_goto 2499 dL_law_1057 (by decide) ?_
    exact K A2 o2 w2 F2 out2 _ _ _ _ hG2 hA2 ⟨_, hB2⟩
set_option maxRecDepth 20000 in
set_option maxHeartbeats 4000000 in
theorem L_isUp {N : Nat} {xs : Nat → Int32} (hN : N ≤ 2048) {n : Nat} (hn : n < 2 ^ 31) {A : qA} (hG : GA n A) {o : List qE} {w : Fin 16 → qw} (hA : RA A o w) {F : List qE} (hB : RB A F) {out : Nat → Int64} {i : Nat} (hi : i + 4 ≤ N) {l5 l6 l7 l8 : Option qV} {kc ks : Nat} {P : qP} (K : ∀ (A2 : qA) (o2 : List qE) (w2 : Fin 16 → qw) (F2 : List qE) (out2 : Nat → Int64) (a5 a6 a7 a8 : Option qV), GA (n + 2400) A2 → RA A2 o2 w2 → RB A2 F2 → Ev (mL_law N xs) 13 2499 [some qS, some (qR 0 0), some (qR 11 0), some (qR 12 0), some (qI (nI i)), a5, a6, a7, a8] [] 132 (hL o2 w2 F2 out2) kc ks P qNo) : Ev (mL_law N xs) 13 1060 [some qS, some (qR 0 0), some (qR 11 0), some (qR 12 0), some (qI (nI i)), l5, l6, l7, l8] [] 132 (hL o w F out) (kc + 1) (ks + 6) P qNo := by
  obtain ⟨code, v, A2, hcode, hS, hG2⟩ := x_isUp hG (xs (i + 1))
  refine e_aload1 dL_law_1060 ?_
  refine e_aloadS dL_law_1061 ?_
  refine e_iload4 dL_law_1062 ?_
  refine e_iconst (z := 1) dL_law_1064 ?_
  first | refine e_iaddN dL_law_1065 ?_ | refine e_iadd dL_law_1065 ?_
  refine e_sldN dL_law_1066 (by omega) hN ?_
  refine e_aload3 dL_law_1067 ?_
  refine e_callW (as := [qR 0 0, qI (xs (i + 1)), qR 12 0]) g_isUp lkL_194 (c_isUp F out hG hA hS) rfl rfl dL_law_1068 (Nat.le_of_ble_eq_true rfl) (fun o2 w2 out2 hA2 ho => ?_)
  refine e_istore5 dL_law_1071 rfl (Nat.le_of_ble_eq_true rfl) ?_
  refine e_aload2 dL_law_1073 ?_
  refine e_aloadS dL_law_1074 ?_
  refine e_iload4 dL_law_1075 ?_
  refine e_iconst (z := 1) dL_law_1077 ?_
  first | refine e_iaddN dL_law_1078 ?_ | refine e_iadd dL_law_1078 ?_
  refine e_sldN dL_law_1079 (by omega) hN ?_
  refine e_callM (as := [qI (xs (i + 1))]) fX3_isUp lkL_196 hB (fun h => p_isUp h hG hB hS) rfl rfl dL_law_1080 (Nat.le_of_ble_eq_true rfl) rfl (fun r F2 hB2 hr => ?_)
  refine e_istore6 dL_law_1083 rfl (Nat.le_of_ble_eq_true rfl) ?_
  refine e_aload2 dL_law_1085 ?_
  refine e_callT hB2 dL_law_1086 (Nat.le_of_ble_eq_true rfl) ?_
  refine e_iload5 dL_law_1089 ?_
  refine e_icmp_eq 1096 dL_law_1091 (by decide) (fun _ => ?_) (fun q => absurd rfl q)
  refine e_iload5 dL_law_1096 ?_
  refine e_if_ne 1120 dL_law_1098 (by decide) (fun _ => ?_) (fun hz => ?_)
  · refine e_goto 2499 dL_law_1120 (by decide) ?_
    exact K A2 o2 w2 F2 out2 _ _ _ _ hG2 hA2 ⟨_, hB2⟩
  · obtain rfl := nI_code hcode hz
    obtain rfl := hr rfl
    have ho0 := ho rfl
    refine e_aload3 dL_law_1101 ?_
    refine e_iconst (z := 0) dL_law_1102 ?_
    refine e_ldOut dL_law_1103 ?_
    refine e_iload6 dL_law_1104 ?_
    refine e_if_eq 1113 dL_law_1106 (by decide) (fun hv => ?_) (fun hv => ?_)
    · refine e_lconst (v := 0) dL_law_1113 (by decide) ?_
      refine e_lcmp dL_law_1114 ?_
      rw [ho0, if_pos hv, lg_cmp_self]
      refine e_if_eq 1120 dL_law_1115 (by decide) (fun _ => ?_) (fun q => absurd rfl q)
      refine e_goto 2499 dL_law_1120 (by decide) ?_
      exact K A2 o2 w2 F2 out2 _ _ _ _ hG2 hA2 ⟨_, hB2⟩
    · refine e_lconst (v := 1) dL_law_1109 (by decide) ?_
      refine e_goto 1114 dL_law_1110 (by decide) ?_
      refine e_lcmp dL_law_1114 ?_
      rw [ho0, if_neg hv, lg_cmp_self]
      refine e_if_eq 1120 dL_law_1115 (by decide) (fun _ => ?_) (fun q => absurd rfl q)
      refine e_goto 2499 dL_law_1120 (by decide) ?_
      exact K A2 o2 w2 F2 out2 _ _ _ _ hG2 hA2 ⟨_, hB2⟩
set_option maxRecDepth 20000 in
set_option maxHeartbeats 4000000 in
theorem L_amount {N : Nat} {xs : Nat → Int32} (hN : N ≤ 2048) {n : Nat} (hn : n < 2 ^ 31) {A : qA} (hG : GA n A) {o : List qE} {w : Fin 16 → qw} (hA : RA A o w) {F : List qE} (hB : RB A F) {out : Nat → Int64} {i : Nat} (hi : i + 4 ≤ N) {l5 l6 l7 l8 : Option qV} {kc ks : Nat} {P : qP} (K : ∀ (A2 : qA) (o2 : List qE) (w2 : Fin 16 → qw) (F2 : List qE) (out2 : Nat → Int64) (a5 a6 a7 a8 : Option qV), GA (n + 2400) A2 → RA A2 o2 w2 → RB A2 F2 → Ev (mL_law N xs) 13 2499 [some qS, some (qR 0 0), some (qR 11 0), some (qR 12 0), some (qI (nI i)), a5, a6, a7, a8] [] 132 (hL o2 w2 F2 out2) kc ks P qNo) : Ev (mL_law N xs) 13 1123 [some qS, some (qR 0 0), some (qR 11 0), some (qR 12 0), some (qI (nI i)), l5, l6, l7, l8] [] 132 (hL o w F out) (kc + 1) (ks + 6) P qNo := by
  obtain ⟨code, v, A2, hcode, hS, hG2⟩ := x_amount hG (xs (i + 1))
  refine e_aload1 dL_law_1123 ?_
  refine e_aloadS dL_law_1124 ?_
  refine e_iload4 dL_law_1125 ?_
  refine e_iconst (z := 1) dL_law_1127 ?_
  first | refine e_iaddN dL_law_1128 ?_ | refine e_iadd dL_law_1128 ?_
  refine e_sldN dL_law_1129 (by omega) hN ?_
  refine e_aload3 dL_law_1130 ?_
  refine e_callW (as := [qR 0 0, qI (xs (i + 1)), qR 12 0]) g_amount lkL_197 (c_amount F out hG hA hS) rfl rfl dL_law_1131 (Nat.le_of_ble_eq_true rfl) (fun o2 w2 out2 hA2 ho => ?_)
  refine e_istore5 dL_law_1134 rfl (Nat.le_of_ble_eq_true rfl) ?_
  refine e_aload2 dL_law_1136 ?_
  refine e_aloadS dL_law_1137 ?_
  refine e_iload4 dL_law_1138 ?_
  refine e_iconst (z := 1) dL_law_1140 ?_
  first | refine e_iaddN dL_law_1141 ?_ | refine e_iadd dL_law_1141 ?_
  refine e_sldN dL_law_1142 (by omega) hN ?_
  refine e_callM (as := [qI (xs (i + 1))]) fX3_amount lkL_199 hB (fun h => p_amount h hG hB hS) rfl rfl dL_law_1143 (Nat.le_of_ble_eq_true rfl) rfl (fun r F2 hB2 hr => ?_)
  refine e_istore6 dL_law_1146 rfl (Nat.le_of_ble_eq_true rfl) ?_
  refine e_aload2 dL_law_1148 ?_
  refine e_callT hB2 dL_law_1149 (Nat.le_of_ble_eq_true rfl) ?_
  refine e_iload5 dL_law_1152 ?_
  refine e_icmp_eq 1159 dL_law_1154 (by decide) (fun _ => ?_) (fun q => absurd rfl q)
  refine e_iload5 dL_law_1159 ?_
  refine e_if_ne 1176 dL_law_1161 (by decide) (fun _ => ?_) (fun hz => ?_)
  · refine e_goto 2499 dL_law_1176 (by decide) ?_
    exact K A2 o2 w2 F2 out2 _ _ _ _ hG2 hA2 ⟨_, hB2⟩
  · obtain rfl := nI_code hcode hz
    obtain rfl := hr rfl
    have ho0 := ho rfl
    refine e_aload3 dL_law_1164 ?_
    refine e_iconst (z := 0) dL_law_1165 ?_
    refine e_ldOut dL_law_1166 ?_
    refine e_iload6 dL_law_1167 ?_
    refine e_i2l dL_law_1169 ?_
    refine e_lcmp dL_law_1170 ?_
    rw [ho0, lg_cmp_self]
    refine e_if_eq 1176 dL_law_1171 (by decide) (fun _ => ?_) (fun q => absurd rfl q)
    refine e_goto 2499 dL_law_1176 (by decide) ?_
    exact K A2 o2 w2 F2 out2 _ _ _ _ hG2 hA2 ⟨_, hB2⟩
set_option maxRecDepth 20000 in
set_option maxHeartbeats 4000000 in
theorem L_amountByLog {N : Nat} {xs : Nat → Int32} (hN : N ≤ 2048) {n : Nat} (hn : n < 2 ^ 31) {A : qA} (hG : GA n A) {o : List qE} {w : Fin 16 → qw} (hA : RA A o w) {F : List qE} (hB : RB A F) {out : Nat → Int64} {i : Nat} (hi : i + 4 ≤ N) {l5 l6 l7 l8 : Option qV} {kc ks : Nat} {P : qP} (K : ∀ (A2 : qA) (o2 : List qE) (w2 : Fin 16 → qw) (F2 : List qE) (out2 : Nat → Int64) (a5 a6 a7 a8 : Option qV), GA (n + 2400) A2 → RA A2 o2 w2 → RB A2 F2 → Ev (mL_law N xs) 13 2499 [some qS, some (qR 0 0), some (qR 11 0), some (qR 12 0), some (qI (nI i)), a5, a6, a7, a8] [] 132 (hL o2 w2 F2 out2) kc ks P qNo) : Ev (mL_law N xs) 13 1179 [some qS, some (qR 0 0), some (qR 11 0), some (qR 12 0), some (qI (nI i)), l5, l6, l7, l8] [] 132 (hL o w F out) (kc + 1) (ks + 6) P qNo := by
  obtain ⟨code, v, A2, hcode, hS, hG2⟩ := x_amountByLog hG (xs (i + 1))
  refine e_aload1 dL_law_1179 ?_
  refine e_aloadS dL_law_1180 ?_
  refine e_iload4 dL_law_1181 ?_
  refine e_iconst (z := 1) dL_law_1183 ?_
  first | refine e_iaddN dL_law_1184 ?_ | refine e_iadd dL_law_1184 ?_
  refine e_sldN dL_law_1185 (by omega) hN ?_
  refine e_aload3 dL_law_1186 ?_
  refine e_callW (as := [qR 0 0, qI (xs (i + 1)), qR 12 0]) g_amountByLog lkL_200 (c_amountByLog F out hG hA hS) rfl rfl dL_law_1187 (Nat.le_of_ble_eq_true rfl) (fun o2 w2 out2 hA2 ho => ?_)
  refine e_istore5 dL_law_1190 rfl (Nat.le_of_ble_eq_true rfl) ?_
  refine e_aload2 dL_law_1192 ?_
  refine e_aloadS dL_law_1193 ?_
  refine e_iload4 dL_law_1194 ?_
  refine e_iconst (z := 1) dL_law_1196 ?_
  first | refine e_iaddN dL_law_1197 ?_ | refine e_iadd dL_law_1197 ?_
  refine e_sldN dL_law_1198 (by omega) hN ?_
  refine e_callM (as := [qI (xs (i + 1))]) fX3_amountByLog lkL_202 hB (fun h => p_amountByLog h hG hB hS) rfl rfl dL_law_1199 (Nat.le_of_ble_eq_true rfl) rfl (fun r F2 hB2 hr => ?_)
  refine e_istore6 dL_law_1202 rfl (Nat.le_of_ble_eq_true rfl) ?_
  refine e_aload2 dL_law_1204 ?_
  refine e_callT hB2 dL_law_1205 (Nat.le_of_ble_eq_true rfl) ?_
  refine e_iload5 dL_law_1208 ?_
  refine e_icmp_eq 1215 dL_law_1210 (by decide) (fun _ => ?_) (fun q => absurd rfl q)
  refine e_iload5 dL_law_1215 ?_
  refine e_if_ne 1232 dL_law_1217 (by decide) (fun _ => ?_) (fun hz => ?_)
  · refine e_goto 2499 dL_law_1232 (by decide) ?_
    exact K A2 o2 w2 F2 out2 _ _ _ _ hG2 hA2 ⟨_, hB2⟩
  · obtain rfl := nI_code hcode hz
    obtain rfl := hr rfl
    have ho0 := ho rfl
    refine e_aload3 dL_law_1220 ?_
    refine e_iconst (z := 0) dL_law_1221 ?_
    refine e_ldOut dL_law_1222 ?_
    refine e_iload6 dL_law_1223 ?_
    refine e_i2l dL_law_1225 ?_
    refine e_lcmp dL_law_1226 ?_
    rw [ho0, lg_cmp_self]
    refine e_if_eq 1232 dL_law_1227 (by decide) (fun _ => ?_) (fun q => absurd rfl q)
    refine e_goto 2499 dL_law_1232 (by decide) ?_
    exact K A2 o2 w2 F2 out2 _ _ _ _ hG2 hA2 ⟨_, hB2⟩
set_option maxRecDepth 20000 in
set_option maxHeartbeats 4000000 in
theorem L_state {N : Nat} {xs : Nat → Int32} (hN : N ≤ 2048) {n : Nat} (hn : n < 2 ^ 31) {A : qA} (hG : GA n A) {o : List qE} {w : Fin 16 → qw} (hA : RA A o w) {F : List qE} (hB : RB A F) {out : Nat → Int64} {i : Nat} (hi : i + 4 ≤ N) {l5 l6 l7 l8 : Option qV} {kc ks : Nat} {P : qP} (K : ∀ (A2 : qA) (o2 : List qE) (w2 : Fin 16 → qw) (F2 : List qE) (out2 : Nat → Int64) (a5 a6 a7 a8 : Option qV), GA (n + 2400) A2 → RA A2 o2 w2 → RB A2 F2 → Ev (mL_law N xs) 13 2499 [some qS, some (qR 0 0), some (qR 11 0), some (qR 12 0), some (qI (nI i)), a5, a6, a7, a8] [] 132 (hL o2 w2 F2 out2) kc ks P qNo) : Ev (mL_law N xs) 13 1235 [some qS, some (qR 0 0), some (qR 11 0), some (qR 12 0), some (qI (nI i)), l5, l6, l7, l8] [] 132 (hL o w F out) (kc + 1) (ks + 6) P qNo := by
  obtain ⟨code, v, A2, hcode, hS, hG2⟩ := x_state hG (xs (i + 1)) (xs (i + 2))
  refine e_aload1 dL_law_1235 ?_
  refine e_aloadS dL_law_1236 ?_
  refine e_iload4 dL_law_1237 ?_
  refine e_iconst (z := 1) dL_law_1239 ?_
  first | refine e_iaddN dL_law_1240 ?_ | refine e_iadd dL_law_1240 ?_
  refine e_sldN dL_law_1241 (by omega) hN ?_
  refine e_aloadS dL_law_1242 ?_
  refine e_iload4 dL_law_1243 ?_
  refine e_iconst (z := 2) dL_law_1245 ?_
  first | refine e_iaddN dL_law_1246 ?_ | refine e_iadd dL_law_1246 ?_
  refine e_sldN dL_law_1247 (by omega) hN ?_
  refine e_aload3 dL_law_1248 ?_
  refine e_callW (as := [qR 0 0, qI (xs (i + 1)), qI (xs (i + 2)), qR 12 0]) g_state lkL_203 (c_state F out hG hA hS) rfl rfl dL_law_1249 (Nat.le_of_ble_eq_true rfl) (fun o2 w2 out2 hA2 ho => ?_)
  refine e_istore5 dL_law_1252 rfl (Nat.le_of_ble_eq_true rfl) ?_
  refine e_aload2 dL_law_1254 ?_
  refine e_aloadS dL_law_1255 ?_
  refine e_iload4 dL_law_1256 ?_
  refine e_iconst (z := 1) dL_law_1258 ?_
  first | refine e_iaddN dL_law_1259 ?_ | refine e_iadd dL_law_1259 ?_
  refine e_sldN dL_law_1260 (by omega) hN ?_
  refine e_aloadS dL_law_1261 ?_
  refine e_iload4 dL_law_1262 ?_
  refine e_iconst (z := 2) dL_law_1264 ?_
  first | refine e_iaddN dL_law_1265 ?_ | refine e_iadd dL_law_1265 ?_
  refine e_sldN dL_law_1266 (by omega) hN ?_
  refine e_callM (as := [qI (xs (i + 1)), qI (xs (i + 2))]) fX3_state lkL_205 hB (fun h => p_state h hG hB hS) rfl rfl dL_law_1267 (Nat.le_of_ble_eq_true rfl) rfl (fun r F2 hB2 hr => ?_)
  refine e_istore6 dL_law_1270 rfl (Nat.le_of_ble_eq_true rfl) ?_
  refine e_aload2 dL_law_1272 ?_
  refine e_callT hB2 dL_law_1273 (Nat.le_of_ble_eq_true rfl) ?_
  refine e_iload5 dL_law_1276 ?_
  refine e_icmp_eq 1283 dL_law_1278 (by decide) (fun _ => ?_) (fun q => absurd rfl q)
  refine e_iload5 dL_law_1283 ?_
  refine e_if_ne 1300 dL_law_1285 (by decide) (fun _ => ?_) (fun hz => ?_)
  · refine e_goto 2499 dL_law_1300 (by decide) ?_
    exact K A2 o2 w2 F2 out2 _ _ _ _ hG2 hA2 ⟨_, hB2⟩
  · obtain rfl := nI_code hcode hz
    obtain rfl := hr rfl
    have ho0 := ho rfl
    refine e_aload3 dL_law_1288 ?_
    refine e_iconst (z := 0) dL_law_1289 ?_
    refine e_ldOut dL_law_1290 ?_
    refine e_iload6 dL_law_1291 ?_
    refine e_i2l dL_law_1293 ?_
    refine e_lcmp dL_law_1294 ?_
    rw [ho0, lg_cmp_self]
    refine e_if_eq 1300 dL_law_1295 (by decide) (fun _ => ?_) (fun q => absurd rfl q)
    refine e_goto 2499 dL_law_1300 (by decide) ?_
    exact K A2 o2 w2 F2 out2 _ _ _ _ hG2 hA2 ⟨_, hB2⟩
set_option maxRecDepth 20000 in
set_option maxHeartbeats 4000000 in
theorem L_stateByLog {N : Nat} {xs : Nat → Int32} (hN : N ≤ 2048) {n : Nat} (hn : n < 2 ^ 31) {A : qA} (hG : GA n A) {o : List qE} {w : Fin 16 → qw} (hA : RA A o w) {F : List qE} (hB : RB A F) {out : Nat → Int64} {i : Nat} (hi : i + 4 ≤ N) {l5 l6 l7 l8 : Option qV} {kc ks : Nat} {P : qP} (K : ∀ (A2 : qA) (o2 : List qE) (w2 : Fin 16 → qw) (F2 : List qE) (out2 : Nat → Int64) (a5 a6 a7 a8 : Option qV), GA (n + 2400) A2 → RA A2 o2 w2 → RB A2 F2 → Ev (mL_law N xs) 13 2499 [some qS, some (qR 0 0), some (qR 11 0), some (qR 12 0), some (qI (nI i)), a5, a6, a7, a8] [] 132 (hL o2 w2 F2 out2) kc ks P qNo) : Ev (mL_law N xs) 13 1303 [some qS, some (qR 0 0), some (qR 11 0), some (qR 12 0), some (qI (nI i)), l5, l6, l7, l8] [] 132 (hL o w F out) (kc + 1) (ks + 6) P qNo := by
  obtain ⟨code, v, A2, hcode, hS, hG2⟩ := x_stateByLog hG (xs (i + 1)) (xs (i + 2))
  refine e_aload1 dL_law_1303 ?_
  refine e_aloadS dL_law_1304 ?_
  refine e_iload4 dL_law_1305 ?_
  refine e_iconst (z := 1) dL_law_1307 ?_
  first | refine e_iaddN dL_law_1308 ?_ | refine e_iadd dL_law_1308 ?_
  refine e_sldN dL_law_1309 (by omega) hN ?_
  refine e_aloadS dL_law_1310 ?_
  refine e_iload4 dL_law_1311 ?_
  refine e_iconst (z := 2) dL_law_1313 ?_
  first | refine e_iaddN dL_law_1314 ?_ | refine e_iadd dL_law_1314 ?_
  refine e_sldN dL_law_1315 (by omega) hN ?_
  refine e_aload3 dL_law_1316 ?_
  refine e_callW (as := [qR 0 0, qI (xs (i + 1)), qI (xs (i + 2)), qR 12 0]) g_stateByLog lkL_206 (c_stateByLog F out hG hA hS) rfl rfl dL_law_1317 (Nat.le_of_ble_eq_true rfl) (fun o2 w2 out2 hA2 ho => ?_)
  refine e_istore5 dL_law_1320 rfl (Nat.le_of_ble_eq_true rfl) ?_
  refine e_aload2 dL_law_1322 ?_
  refine e_aloadS dL_law_1323 ?_
  refine e_iload4 dL_law_1324 ?_
  refine e_iconst (z := 1) dL_law_1326 ?_
  first | refine e_iaddN dL_law_1327 ?_ | refine e_iadd dL_law_1327 ?_
  refine e_sldN dL_law_1328 (by omega) hN ?_
  refine e_aloadS dL_law_1329 ?_
  refine e_iload4 dL_law_1330 ?_
  refine e_iconst (z := 2) dL_law_1332 ?_
  first | refine e_iaddN dL_law_1333 ?_ | refine e_iadd dL_law_1333 ?_
  refine e_sldN dL_law_1334 (by omega) hN ?_
  refine e_callM (as := [qI (xs (i + 1)), qI (xs (i + 2))]) fX3_stateByLog lkL_208 hB (fun h => p_stateByLog h hG hB hS) rfl rfl dL_law_1335 (Nat.le_of_ble_eq_true rfl) rfl (fun r F2 hB2 hr => ?_)
  refine e_istore6 dL_law_1338 rfl (Nat.le_of_ble_eq_true rfl) ?_
  refine e_aload2 dL_law_1340 ?_
  refine e_callT hB2 dL_law_1341 (Nat.le_of_ble_eq_true rfl) ?_
  refine e_iload5 dL_law_1344 ?_
  refine e_icmp_eq 1351 dL_law_1346 (by decide) (fun _ => ?_) (fun q => absurd rfl q)
  refine e_iload5 dL_law_1351 ?_
  refine e_if_ne 1368 dL_law_1353 (by decide) (fun _ => ?_) (fun hz => ?_)
  · refine e_goto 2499 dL_law_1368 (by decide) ?_
    exact K A2 o2 w2 F2 out2 _ _ _ _ hG2 hA2 ⟨_, hB2⟩
  · obtain rfl := nI_code hcode hz
    obtain rfl := hr rfl
    have ho0 := ho rfl
    refine e_aload3 dL_law_1356 ?_
    refine e_iconst (z := 0) dL_law_1357 ?_
    refine e_ldOut dL_law_1358 ?_
    refine e_iload6 dL_law_1359 ?_
    refine e_i2l dL_law_1361 ?_
    refine e_lcmp dL_law_1362 ?_
    rw [ho0, lg_cmp_self]
    refine e_if_eq 1368 dL_law_1363 (by decide) (fun _ => ?_) (fun q => absurd rfl q)
    refine e_goto 2499 dL_law_1368 (by decide) ?_
    exact K A2 o2 w2 F2 out2 _ _ _ _ hG2 hA2 ⟨_, hB2⟩
set_option maxRecDepth 20000 in
set_option maxHeartbeats 4000000 in
theorem L_inDoubt {N : Nat} {xs : Nat → Int32} (hN : N ≤ 2048) {n : Nat} (hn : n < 2 ^ 31) {A : qA} (hG : GA n A) {o : List qE} {w : Fin 16 → qw} (hA : RA A o w) {F : List qE} (hB : RB A F) {out : Nat → Int64} {i : Nat} (hi : i + 4 ≤ N) {l5 l6 l7 l8 : Option qV} {kc ks : Nat} {P : qP} (K : ∀ (A2 : qA) (o2 : List qE) (w2 : Fin 16 → qw) (F2 : List qE) (out2 : Nat → Int64) (a5 a6 a7 a8 : Option qV), GA (n + 2400) A2 → RA A2 o2 w2 → RB A2 F2 → Ev (mL_law N xs) 13 2499 [some qS, some (qR 0 0), some (qR 11 0), some (qR 12 0), some (qI (nI i)), a5, a6, a7, a8] [] 132 (hL o2 w2 F2 out2) kc ks P qNo) : Ev (mL_law N xs) 13 1371 [some qS, some (qR 0 0), some (qR 11 0), some (qR 12 0), some (qI (nI i)), l5, l6, l7, l8] [] 132 (hL o w F out) (kc + 1) (ks + 6) P qNo := by
  obtain ⟨code, v, A2, hcode, hS, hG2⟩ := x_inDoubt hG (xs (i + 1))
  refine e_aload1 dL_law_1371 ?_
  refine e_aloadS dL_law_1372 ?_
  refine e_iload4 dL_law_1373 ?_
  refine e_iconst (z := 1) dL_law_1375 ?_
  first | refine e_iaddN dL_law_1376 ?_ | refine e_iadd dL_law_1376 ?_
  refine e_sldN dL_law_1377 (by omega) hN ?_
  refine e_aload3 dL_law_1378 ?_
  refine e_callW (as := [qR 0 0, qI (xs (i + 1)), qR 12 0]) g_inDoubt lkL_209 (c_inDoubt F out hG hA hS) rfl rfl dL_law_1379 (Nat.le_of_ble_eq_true rfl) (fun o2 w2 out2 hA2 ho => ?_)
  refine e_istore5 dL_law_1382 rfl (Nat.le_of_ble_eq_true rfl) ?_
  refine e_aload2 dL_law_1384 ?_
  refine e_aloadS dL_law_1385 ?_
  refine e_iload4 dL_law_1386 ?_
  refine e_iconst (z := 1) dL_law_1388 ?_
  first | refine e_iaddN dL_law_1389 ?_ | refine e_iadd dL_law_1389 ?_
  refine e_sldN dL_law_1390 (by omega) hN ?_
  refine e_callM (as := [qI (xs (i + 1))]) fX3_inDoubt lkL_211 hB (fun h => p_inDoubt h hG hB hS) rfl rfl dL_law_1391 (Nat.le_of_ble_eq_true rfl) rfl (fun r F2 hB2 hr => ?_)
  refine e_istore6 dL_law_1394 rfl (Nat.le_of_ble_eq_true rfl) ?_
  refine e_aload2 dL_law_1396 ?_
  refine e_callT hB2 dL_law_1397 (Nat.le_of_ble_eq_true rfl) ?_
  refine e_iload5 dL_law_1400 ?_
  refine e_icmp_eq 1407 dL_law_1402 (by decide) (fun _ => ?_) (fun q => absurd rfl q)
  refine e_iload5 dL_law_1407 ?_
  refine e_if_ne 1424 dL_law_1409 (by decide) (fun _ => ?_) (fun hz => ?_)
  · refine e_goto 2499 dL_law_1424 (by decide) ?_
    exact K A2 o2 w2 F2 out2 _ _ _ _ hG2 hA2 ⟨_, hB2⟩
  · obtain rfl := nI_code hcode hz
    obtain rfl := hr rfl
    have ho0 := ho rfl
    refine e_aload3 dL_law_1412 ?_
    refine e_iconst (z := 0) dL_law_1413 ?_
    refine e_ldOut dL_law_1414 ?_
    refine e_iload6 dL_law_1415 ?_
    refine e_i2l dL_law_1417 ?_
    refine e_lcmp dL_law_1418 ?_
    rw [ho0, lg_cmp_self]
    refine e_if_eq 1424 dL_law_1419 (by decide) (fun _ => ?_) (fun q => absurd rfl q)
    refine e_goto 2499 dL_law_1424 (by decide) ?_
    exact K A2 o2 w2 F2 out2 _ _ _ _ hG2 hA2 ⟨_, hB2⟩
set_option maxRecDepth 20000 in
set_option maxHeartbeats 4000000 in
theorem L_outcome {N : Nat} {xs : Nat → Int32} (hN : N ≤ 2048) {n : Nat} (hn : n < 2 ^ 31) {A : qA} (hG : GA n A) {o : List qE} {w : Fin 16 → qw} (hA : RA A o w) {F : List qE} (hB : RB A F) {out : Nat → Int64} {i : Nat} (hi : i + 4 ≤ N) {l5 l6 l7 l8 : Option qV} {kc ks : Nat} {P : qP} (K : ∀ (A2 : qA) (o2 : List qE) (w2 : Fin 16 → qw) (F2 : List qE) (out2 : Nat → Int64) (a5 a6 a7 a8 : Option qV), GA (n + 2400) A2 → RA A2 o2 w2 → RB A2 F2 → Ev (mL_law N xs) 13 2499 [some qS, some (qR 0 0), some (qR 11 0), some (qR 12 0), some (qI (nI i)), a5, a6, a7, a8] [] 132 (hL o2 w2 F2 out2) kc ks P qNo) : Ev (mL_law N xs) 13 1427 [some qS, some (qR 0 0), some (qR 11 0), some (qR 12 0), some (qI (nI i)), l5, l6, l7, l8] [] 132 (hL o w F out) (kc + 1) (ks + 6) P qNo := by
  obtain ⟨code, v, A2, hcode, hS, hG2⟩ := x_outcome hG (xs (i + 1))
  refine e_aload1 dL_law_1427 ?_
  refine e_aloadS dL_law_1428 ?_
  refine e_iload4 dL_law_1429 ?_
  refine e_iconst (z := 1) dL_law_1431 ?_
  first | refine e_iaddN dL_law_1432 ?_ | refine e_iadd dL_law_1432 ?_
  refine e_sldN dL_law_1433 (by omega) hN ?_
  refine e_aload3 dL_law_1434 ?_
  refine e_callW (as := [qR 0 0, qI (xs (i + 1)), qR 12 0]) g_outcome lkL_212 (c_outcome F out hG hA hS) rfl rfl dL_law_1435 (Nat.le_of_ble_eq_true rfl) (fun o2 w2 out2 hA2 ho => ?_)
  refine e_istore5 dL_law_1438 rfl (Nat.le_of_ble_eq_true rfl) ?_
  refine e_aload2 dL_law_1440 ?_
  refine e_aloadS dL_law_1441 ?_
  refine e_iload4 dL_law_1442 ?_
  refine e_iconst (z := 1) dL_law_1444 ?_
  first | refine e_iaddN dL_law_1445 ?_ | refine e_iadd dL_law_1445 ?_
  refine e_sldN dL_law_1446 (by omega) hN ?_
  refine e_callM (as := [qI (xs (i + 1))]) fX3_outcome lkL_214 hB (fun h => p_outcome h hG hB hS) rfl rfl dL_law_1447 (Nat.le_of_ble_eq_true rfl) rfl (fun r F2 hB2 hr => ?_)
  refine e_istore6 dL_law_1450 rfl (Nat.le_of_ble_eq_true rfl) ?_
  refine e_aload2 dL_law_1452 ?_
  refine e_callT hB2 dL_law_1453 (Nat.le_of_ble_eq_true rfl) ?_
  refine e_iload5 dL_law_1456 ?_
  refine e_icmp_eq 1463 dL_law_1458 (by decide) (fun _ => ?_) (fun q => absurd rfl q)
  refine e_iload5 dL_law_1463 ?_
  refine e_if_ne 1480 dL_law_1465 (by decide) (fun _ => ?_) (fun hz => ?_)
  · refine e_goto 2499 dL_law_1480 (by decide) ?_
    exact K A2 o2 w2 F2 out2 _ _ _ _ hG2 hA2 ⟨_, hB2⟩
  · obtain rfl := nI_code hcode hz
    obtain rfl := hr rfl
    have ho0 := ho rfl
    refine e_aload3 dL_law_1468 ?_
    refine e_iconst (z := 0) dL_law_1469 ?_
    refine e_ldOut dL_law_1470 ?_
    refine e_iload6 dL_law_1471 ?_
    refine e_i2l dL_law_1473 ?_
    refine e_lcmp dL_law_1474 ?_
    rw [ho0, lg_cmp_self]
    refine e_if_eq 1480 dL_law_1475 (by decide) (fun _ => ?_) (fun q => absurd rfl q)
    refine e_goto 2499 dL_law_1480 (by decide) ?_
    exact K A2 o2 w2 F2 out2 _ _ _ _ hG2 hA2 ⟨_, hB2⟩
set_option maxRecDepth 20000 in
set_option maxHeartbeats 4000000 in
theorem L_outcomeByStores {N : Nat} {xs : Nat → Int32} (hN : N ≤ 2048) {n : Nat} (hn : n < 2 ^ 31) {A : qA} (hG : GA n A) {o : List qE} {w : Fin 16 → qw} (hA : RA A o w) {F : List qE} (hB : RB A F) {out : Nat → Int64} {i : Nat} (hi : i + 4 ≤ N) {l5 l6 l7 l8 : Option qV} {kc ks : Nat} {P : qP} (K : ∀ (A2 : qA) (o2 : List qE) (w2 : Fin 16 → qw) (F2 : List qE) (out2 : Nat → Int64) (a5 a6 a7 a8 : Option qV), GA (n + 2400) A2 → RA A2 o2 w2 → RB A2 F2 → Ev (mL_law N xs) 13 2499 [some qS, some (qR 0 0), some (qR 11 0), some (qR 12 0), some (qI (nI i)), a5, a6, a7, a8] [] 132 (hL o2 w2 F2 out2) kc ks P qNo) : Ev (mL_law N xs) 13 1483 [some qS, some (qR 0 0), some (qR 11 0), some (qR 12 0), some (qI (nI i)), l5, l6, l7, l8] [] 132 (hL o w F out) (kc + 1) (ks + 6) P qNo := by
  obtain ⟨code, v, A2, hcode, hS, hG2⟩ := x_outcomeByStores hG (xs (i + 1))
  refine e_aload1 dL_law_1483 ?_
  refine e_aloadS dL_law_1484 ?_
  refine e_iload4 dL_law_1485 ?_
  refine e_iconst (z := 1) dL_law_1487 ?_
  first | refine e_iaddN dL_law_1488 ?_ | refine e_iadd dL_law_1488 ?_
  refine e_sldN dL_law_1489 (by omega) hN ?_
  refine e_aload3 dL_law_1490 ?_
  refine e_callW (as := [qR 0 0, qI (xs (i + 1)), qR 12 0]) g_outcomeByStores lkL_215 (c_outcomeByStores F out hG hA hS) rfl rfl dL_law_1491 (Nat.le_of_ble_eq_true rfl) (fun o2 w2 out2 hA2 ho => ?_)
  refine e_istore5 dL_law_1494 rfl (Nat.le_of_ble_eq_true rfl) ?_
  refine e_aload2 dL_law_1496 ?_
  refine e_aloadS dL_law_1497 ?_
  refine e_iload4 dL_law_1498 ?_
  refine e_iconst (z := 1) dL_law_1500 ?_
  first | refine e_iaddN dL_law_1501 ?_ | refine e_iadd dL_law_1501 ?_
  refine e_sldN dL_law_1502 (by omega) hN ?_
  refine e_callM (as := [qI (xs (i + 1))]) fX3_outcomeByStores lkL_217 hB (fun h => p_outcomeByStores h hG hB hS) rfl rfl dL_law_1503 (Nat.le_of_ble_eq_true rfl) rfl (fun r F2 hB2 hr => ?_)
  refine e_istore6 dL_law_1506 rfl (Nat.le_of_ble_eq_true rfl) ?_
  refine e_aload2 dL_law_1508 ?_
  refine e_callT hB2 dL_law_1509 (Nat.le_of_ble_eq_true rfl) ?_
  refine e_iload5 dL_law_1512 ?_
  refine e_icmp_eq 1519 dL_law_1514 (by decide) (fun _ => ?_) (fun q => absurd rfl q)
  refine e_iload5 dL_law_1519 ?_
  refine e_if_ne 1536 dL_law_1521 (by decide) (fun _ => ?_) (fun hz => ?_)
  · refine e_goto 2499 dL_law_1536 (by decide) ?_
    exact K A2 o2 w2 F2 out2 _ _ _ _ hG2 hA2 ⟨_, hB2⟩
  · obtain rfl := nI_code hcode hz
    obtain rfl := hr rfl
    have ho0 := ho rfl
    refine e_aload3 dL_law_1524 ?_
    refine e_iconst (z := 0) dL_law_1525 ?_
    refine e_ldOut dL_law_1526 ?_
    refine e_iload6 dL_law_1527 ?_
    refine e_i2l dL_law_1529 ?_
    refine e_lcmp dL_law_1530 ?_
    rw [ho0, lg_cmp_self]
    refine e_if_eq 1536 dL_law_1531 (by decide) (fun _ => ?_) (fun q => absurd rfl q)
    refine e_goto 2499 dL_law_1536 (by decide) ?_
    exact K A2 o2 w2 F2 out2 _ _ _ _ hG2 hA2 ⟨_, hB2⟩
set_option maxRecDepth 20000 in
set_option maxHeartbeats 4000000 in
theorem L_hasEnded {N : Nat} {xs : Nat → Int32} (hN : N ≤ 2048) {n : Nat} (hn : n < 2 ^ 31) {A : qA} (hG : GA n A) {o : List qE} {w : Fin 16 → qw} (hA : RA A o w) {F : List qE} (hB : RB A F) {out : Nat → Int64} {i : Nat} (hi : i + 4 ≤ N) {l5 l6 l7 l8 : Option qV} {kc ks : Nat} {P : qP} (K : ∀ (A2 : qA) (o2 : List qE) (w2 : Fin 16 → qw) (F2 : List qE) (out2 : Nat → Int64) (a5 a6 a7 a8 : Option qV), GA (n + 2400) A2 → RA A2 o2 w2 → RB A2 F2 → Ev (mL_law N xs) 13 2499 [some qS, some (qR 0 0), some (qR 11 0), some (qR 12 0), some (qI (nI i)), a5, a6, a7, a8] [] 132 (hL o2 w2 F2 out2) kc ks P qNo) : Ev (mL_law N xs) 13 1539 [some qS, some (qR 0 0), some (qR 11 0), some (qR 12 0), some (qI (nI i)), l5, l6, l7, l8] [] 132 (hL o w F out) (kc + 1) (ks + 6) P qNo := by
  obtain ⟨code, v, A2, hcode, hS, hG2⟩ := x_hasEnded hG (xs (i + 1))
  refine e_aload1 dL_law_1539 ?_
  refine e_aloadS dL_law_1540 ?_
  refine e_iload4 dL_law_1541 ?_
  refine e_iconst (z := 1) dL_law_1543 ?_
  first | refine e_iaddN dL_law_1544 ?_ | refine e_iadd dL_law_1544 ?_
  refine e_sldN dL_law_1545 (by omega) hN ?_
  refine e_aload3 dL_law_1546 ?_
  refine e_callW (as := [qR 0 0, qI (xs (i + 1)), qR 12 0]) g_hasEnded lkL_218 (c_hasEnded F out hG hA hS) rfl rfl dL_law_1547 (Nat.le_of_ble_eq_true rfl) (fun o2 w2 out2 hA2 ho => ?_)
  refine e_istore5 dL_law_1550 rfl (Nat.le_of_ble_eq_true rfl) ?_
  refine e_aload2 dL_law_1552 ?_
  refine e_aloadS dL_law_1553 ?_
  refine e_iload4 dL_law_1554 ?_
  refine e_iconst (z := 1) dL_law_1556 ?_
  first | refine e_iaddN dL_law_1557 ?_ | refine e_iadd dL_law_1557 ?_
  refine e_sldN dL_law_1558 (by omega) hN ?_
  refine e_callM (as := [qI (xs (i + 1))]) fX3_hasEnded lkL_220 hB (fun h => p_hasEnded h hG hB hS) rfl rfl dL_law_1559 (Nat.le_of_ble_eq_true rfl) rfl (fun r F2 hB2 hr => ?_)
  refine e_istore6 dL_law_1562 rfl (Nat.le_of_ble_eq_true rfl) ?_
  refine e_aload2 dL_law_1564 ?_
  refine e_callT hB2 dL_law_1565 (Nat.le_of_ble_eq_true rfl) ?_
  refine e_iload5 dL_law_1568 ?_
  refine e_icmp_eq 1575 dL_law_1570 (by decide) (fun _ => ?_) (fun q => absurd rfl q)
  refine e_iload5 dL_law_1575 ?_
  refine e_if_ne 1599 dL_law_1577 (by decide) (fun _ => ?_) (fun hz => ?_)
  · refine e_goto 2499 dL_law_1599 (by decide) ?_
    exact K A2 o2 w2 F2 out2 _ _ _ _ hG2 hA2 ⟨_, hB2⟩
  · obtain rfl := nI_code hcode hz
    obtain rfl := hr rfl
    have ho0 := ho rfl
    refine e_aload3 dL_law_1580 ?_
    refine e_iconst (z := 0) dL_law_1581 ?_
    refine e_ldOut dL_law_1582 ?_
    refine e_iload6 dL_law_1583 ?_
    refine e_if_eq 1592 dL_law_1585 (by decide) (fun hv => ?_) (fun hv => ?_)
    · refine e_lconst (v := 0) dL_law_1592 (by decide) ?_
      refine e_lcmp dL_law_1593 ?_
      rw [ho0, if_pos hv, lg_cmp_self]
      refine e_if_eq 1599 dL_law_1594 (by decide) (fun _ => ?_) (fun q => absurd rfl q)
      refine e_goto 2499 dL_law_1599 (by decide) ?_
      exact K A2 o2 w2 F2 out2 _ _ _ _ hG2 hA2 ⟨_, hB2⟩
    · refine e_lconst (v := 1) dL_law_1588 (by decide) ?_
      refine e_goto 1593 dL_law_1589 (by decide) ?_
      refine e_lcmp dL_law_1593 ?_
      rw [ho0, if_neg hv, lg_cmp_self]
      refine e_if_eq 1599 dL_law_1594 (by decide) (fun _ => ?_) (fun q => absurd rfl q)
      refine e_goto 2499 dL_law_1599 (by decide) ?_
      exact K A2 o2 w2 F2 out2 _ _ _ _ hG2 hA2 ⟨_, hB2⟩
set_option maxRecDepth 20000 in
set_option maxHeartbeats 4000000 in
theorem L_saidYes {N : Nat} {xs : Nat → Int32} (hN : N ≤ 2048) {n : Nat} (hn : n < 2 ^ 31) {A : qA} (hG : GA n A) {o : List qE} {w : Fin 16 → qw} (hA : RA A o w) {F : List qE} (hB : RB A F) {out : Nat → Int64} {i : Nat} (hi : i + 4 ≤ N) {l5 l6 l7 l8 : Option qV} {kc ks : Nat} {P : qP} (K : ∀ (A2 : qA) (o2 : List qE) (w2 : Fin 16 → qw) (F2 : List qE) (out2 : Nat → Int64) (a5 a6 a7 a8 : Option qV), GA (n + 2400) A2 → RA A2 o2 w2 → RB A2 F2 → Ev (mL_law N xs) 13 2499 [some qS, some (qR 0 0), some (qR 11 0), some (qR 12 0), some (qI (nI i)), a5, a6, a7, a8] [] 132 (hL o2 w2 F2 out2) kc ks P qNo) : Ev (mL_law N xs) 13 1602 [some qS, some (qR 0 0), some (qR 11 0), some (qR 12 0), some (qI (nI i)), l5, l6, l7, l8] [] 132 (hL o w F out) (kc + 1) (ks + 6) P qNo := by
  obtain ⟨code, v, A2, hcode, hS, hG2⟩ := x_saidYes hG (xs (i + 1))
  refine e_aload1 dL_law_1602 ?_
  refine e_aloadS dL_law_1603 ?_
  refine e_iload4 dL_law_1604 ?_
  refine e_iconst (z := 1) dL_law_1606 ?_
  first | refine e_iaddN dL_law_1607 ?_ | refine e_iadd dL_law_1607 ?_
  refine e_sldN dL_law_1608 (by omega) hN ?_
  refine e_aload3 dL_law_1609 ?_
  refine e_callW (as := [qR 0 0, qI (xs (i + 1)), qR 12 0]) g_saidYes lkL_221 (c_saidYes F out hG hA hS) rfl rfl dL_law_1610 (Nat.le_of_ble_eq_true rfl) (fun o2 w2 out2 hA2 ho => ?_)
  refine e_istore5 dL_law_1613 rfl (Nat.le_of_ble_eq_true rfl) ?_
  refine e_aload2 dL_law_1615 ?_
  refine e_aloadS dL_law_1616 ?_
  refine e_iload4 dL_law_1617 ?_
  refine e_iconst (z := 1) dL_law_1619 ?_
  first | refine e_iaddN dL_law_1620 ?_ | refine e_iadd dL_law_1620 ?_
  refine e_sldN dL_law_1621 (by omega) hN ?_
  refine e_callM (as := [qI (xs (i + 1))]) fX3_saidYes lkL_223 hB (fun h => p_saidYes h hG hB hS) rfl rfl dL_law_1622 (Nat.le_of_ble_eq_true rfl) rfl (fun r F2 hB2 hr => ?_)
  refine e_istore6 dL_law_1625 rfl (Nat.le_of_ble_eq_true rfl) ?_
  refine e_aload2 dL_law_1627 ?_
  refine e_callT hB2 dL_law_1628 (Nat.le_of_ble_eq_true rfl) ?_
  refine e_iload5 dL_law_1631 ?_
  refine e_icmp_eq 1638 dL_law_1633 (by decide) (fun _ => ?_) (fun q => absurd rfl q)
  refine e_iload5 dL_law_1638 ?_
  refine e_if_ne 1655 dL_law_1640 (by decide) (fun _ => ?_) (fun hz => ?_)
  · refine e_goto 2499 dL_law_1655 (by decide) ?_
    exact K A2 o2 w2 F2 out2 _ _ _ _ hG2 hA2 ⟨_, hB2⟩
  · obtain rfl := nI_code hcode hz
    obtain rfl := hr rfl
    have ho0 := ho rfl
    refine e_aload3 dL_law_1643 ?_
    refine e_iconst (z := 0) dL_law_1644 ?_
    refine e_ldOut dL_law_1645 ?_
    refine e_iload6 dL_law_1646 ?_
    refine e_i2l dL_law_1648 ?_
    refine e_lcmp dL_law_1649 ?_
    rw [ho0, lg_cmp_self]
    refine e_if_eq 1655 dL_law_1650 (by decide) (fun _ => ?_) (fun q => absurd rfl q)
    refine e_goto 2499 dL_law_1655 (by decide) ?_
    exact K A2 o2 w2 F2 out2 _ _ _ _ hG2 hA2 ⟨_, hB2⟩
set_option maxRecDepth 20000 in
set_option maxHeartbeats 4000000 in
theorem L_saidDone {N : Nat} {xs : Nat → Int32} (hN : N ≤ 2048) {n : Nat} (hn : n < 2 ^ 31) {A : qA} (hG : GA n A) {o : List qE} {w : Fin 16 → qw} (hA : RA A o w) {F : List qE} (hB : RB A F) {out : Nat → Int64} {i : Nat} (hi : i + 4 ≤ N) {l5 l6 l7 l8 : Option qV} {kc ks : Nat} {P : qP} (K : ∀ (A2 : qA) (o2 : List qE) (w2 : Fin 16 → qw) (F2 : List qE) (out2 : Nat → Int64) (a5 a6 a7 a8 : Option qV), GA (n + 2400) A2 → RA A2 o2 w2 → RB A2 F2 → Ev (mL_law N xs) 13 2499 [some qS, some (qR 0 0), some (qR 11 0), some (qR 12 0), some (qI (nI i)), a5, a6, a7, a8] [] 132 (hL o2 w2 F2 out2) kc ks P qNo) : Ev (mL_law N xs) 13 1658 [some qS, some (qR 0 0), some (qR 11 0), some (qR 12 0), some (qI (nI i)), l5, l6, l7, l8] [] 132 (hL o w F out) (kc + 1) (ks + 6) P qNo := by
  obtain ⟨code, v, A2, hcode, hS, hG2⟩ := x_saidDone hG (xs (i + 1))
  refine e_aload1 dL_law_1658 ?_
  refine e_aloadS dL_law_1659 ?_
  refine e_iload4 dL_law_1660 ?_
  refine e_iconst (z := 1) dL_law_1662 ?_
  first | refine e_iaddN dL_law_1663 ?_ | refine e_iadd dL_law_1663 ?_
  refine e_sldN dL_law_1664 (by omega) hN ?_
  refine e_aload3 dL_law_1665 ?_
  refine e_callW (as := [qR 0 0, qI (xs (i + 1)), qR 12 0]) g_saidDone lkL_224 (c_saidDone F out hG hA hS) rfl rfl dL_law_1666 (Nat.le_of_ble_eq_true rfl) (fun o2 w2 out2 hA2 ho => ?_)
  refine e_istore5 dL_law_1669 rfl (Nat.le_of_ble_eq_true rfl) ?_
  refine e_aload2 dL_law_1671 ?_
  refine e_aloadS dL_law_1672 ?_
  refine e_iload4 dL_law_1673 ?_
  refine e_iconst (z := 1) dL_law_1675 ?_
  first | refine e_iaddN dL_law_1676 ?_ | refine e_iadd dL_law_1676 ?_
  refine e_sldN dL_law_1677 (by omega) hN ?_
  refine e_callM (as := [qI (xs (i + 1))]) fX3_saidDone lkL_226 hB (fun h => p_saidDone h hG hB hS) rfl rfl dL_law_1678 (Nat.le_of_ble_eq_true rfl) rfl (fun r F2 hB2 hr => ?_)
  refine e_istore6 dL_law_1681 rfl (Nat.le_of_ble_eq_true rfl) ?_
  refine e_aload2 dL_law_1683 ?_
  refine e_callT hB2 dL_law_1684 (Nat.le_of_ble_eq_true rfl) ?_
  refine e_iload5 dL_law_1687 ?_
  refine e_icmp_eq 1694 dL_law_1689 (by decide) (fun _ => ?_) (fun q => absurd rfl q)
  refine e_iload5 dL_law_1694 ?_
  refine e_if_ne 1711 dL_law_1696 (by decide) (fun _ => ?_) (fun hz => ?_)
  · refine e_goto 2499 dL_law_1711 (by decide) ?_
    exact K A2 o2 w2 F2 out2 _ _ _ _ hG2 hA2 ⟨_, hB2⟩
  · obtain rfl := nI_code hcode hz
    obtain rfl := hr rfl
    have ho0 := ho rfl
    refine e_aload3 dL_law_1699 ?_
    refine e_iconst (z := 0) dL_law_1700 ?_
    refine e_ldOut dL_law_1701 ?_
    refine e_iload6 dL_law_1702 ?_
    refine e_i2l dL_law_1704 ?_
    refine e_lcmp dL_law_1705 ?_
    rw [ho0, lg_cmp_self]
    refine e_if_eq 1711 dL_law_1706 (by decide) (fun _ => ?_) (fun q => absurd rfl q)
    refine e_goto 2499 dL_law_1711 (by decide) ?_
    exact K A2 o2 w2 F2 out2 _ _ _ _ hG2 hA2 ⟨_, hB2⟩
set_option maxRecDepth 20000 in
set_option maxHeartbeats 4000000 in
theorem L_total {N : Nat} {xs : Nat → Int32} (hN : N ≤ 2048) {n : Nat} (hn : n < 2 ^ 31) {A : qA} (hG : GA n A) {o : List qE} {w : Fin 16 → qw} (hA : RA A o w) {F : List qE} (hB : RB A F) {out : Nat → Int64} {i : Nat} (hi : i + 4 ≤ N) {l5 l6 l7 l8 : Option qV} {kc ks : Nat} {P : qP} (K : ∀ (A2 : qA) (o2 : List qE) (w2 : Fin 16 → qw) (F2 : List qE) (out2 : Nat → Int64) (a5 a6 a7 a8 : Option qV), GA (n + 2400) A2 → RA A2 o2 w2 → RB A2 F2 → Ev (mL_law N xs) 13 2499 [some qS, some (qR 0 0), some (qR 11 0), some (qR 12 0), some (qI (nI i)), a5, a6, a7, a8] [] 132 (hL o2 w2 F2 out2) kc ks P qNo) : Ev (mL_law N xs) 13 1714 [some qS, some (qR 0 0), some (qR 11 0), some (qR 12 0), some (qI (nI i)), l5, l6, l7, l8] [] 132 (hL o w F out) (kc + 1) (ks + 6) P qNo := by
  obtain ⟨code, v, A2, hcode, hS, hG2⟩ := x_total hG
  refine e_aload1 dL_law_1714 ?_
  refine e_callCl (as := []) (k_total (h1 F out) hG hA hS) hA fX2_total lkL_227 rfl dL_law_1715 rfl (by decide) (Nat.le_of_ble_eq_true rfl) (by omega) (by omega) (fun hc0 o2 w2 hA2 => ?_) (fun j E _ hE => absurd hE (by simp))
  refine e_aload2 dL_law_1718 ?_
  refine e_callM (as := []) fX3_total lkL_230 hB (fun h => p_total h hG hB hS) rfl rfl dL_law_1719 (Nat.le_of_ble_eq_true rfl) rfl (fun r F2 hB2 hr => ?_)
  refine e_icmp_eq 2499 dL_law_1722 (by decide) (fun _ => ?_) (fun q => absurd (hr hc0).symm q)
  exact ev_room (K A2 o2 w2 F2 out _ _ _ _ hG2 hA2 ⟨_, hB2⟩) (by omega) (by omega)
set_option maxRecDepth 20000 in
set_option maxHeartbeats 4000000 in
theorem L_onTheWay {N : Nat} {xs : Nat → Int32} (hN : N ≤ 2048) {n : Nat} (hn : n < 2 ^ 31) {A : qA} (hG : GA n A) {o : List qE} {w : Fin 16 → qw} (hA : RA A o w) {F : List qE} (hB : RB A F) {out : Nat → Int64} {i : Nat} (hi : i + 4 ≤ N) {l5 l6 l7 l8 : Option qV} {kc ks : Nat} {P : qP} (K : ∀ (A2 : qA) (o2 : List qE) (w2 : Fin 16 → qw) (F2 : List qE) (out2 : Nat → Int64) (a5 a6 a7 a8 : Option qV), GA (n + 2400) A2 → RA A2 o2 w2 → RB A2 F2 → Ev (mL_law N xs) 13 2499 [some qS, some (qR 0 0), some (qR 11 0), some (qR 12 0), some (qI (nI i)), a5, a6, a7, a8] [] 132 (hL o2 w2 F2 out2) kc ks P qNo) : Ev (mL_law N xs) 13 1727 [some qS, some (qR 0 0), some (qR 11 0), some (qR 12 0), some (qI (nI i)), l5, l6, l7, l8] [] 132 (hL o w F out) (kc + 1) (ks + 6) P qNo := by
  obtain ⟨code, v, A2, hcode, hS, hG2⟩ := x_onTheWay hG
  refine e_aload1 dL_law_1727 ?_
  refine e_callCl (as := []) (k_onTheWay (h1 F out) hG hA hS) hA fX2_onTheWay lkL_231 rfl dL_law_1728 rfl (by decide) (Nat.le_of_ble_eq_true rfl) (by omega) (by omega) (fun hc0 o2 w2 hA2 => ?_) (fun j E _ hE => absurd hE (by simp))
  refine e_aload2 dL_law_1731 ?_
  refine e_callM (as := []) fX3_onTheWay lkL_234 hB (fun h => p_onTheWay h hG hB hS) rfl rfl dL_law_1732 (Nat.le_of_ble_eq_true rfl) rfl (fun r F2 hB2 hr => ?_)
  refine e_icmp_eq 2499 dL_law_1735 (by decide) (fun _ => ?_) (fun q => absurd (hr hc0).symm q)
  exact ev_room (K A2 o2 w2 F2 out _ _ _ _ hG2 hA2 ⟨_, hB2⟩) (by omega) (by omega)
set_option maxRecDepth 20000 in
set_option maxHeartbeats 4000000 in
theorem L_records {N : Nat} {xs : Nat → Int32} (hN : N ≤ 2048) {n : Nat} (hn : n < 2 ^ 31) {A : qA} (hG : GA n A) {o : List qE} {w : Fin 16 → qw} (hA : RA A o w) {F : List qE} (hB : RB A F) {out : Nat → Int64} {i : Nat} (hi : i + 4 ≤ N) {l5 l6 l7 l8 : Option qV} {kc ks : Nat} {P : qP} (K : ∀ (A2 : qA) (o2 : List qE) (w2 : Fin 16 → qw) (F2 : List qE) (out2 : Nat → Int64) (a5 a6 a7 a8 : Option qV), GA (n + 2400) A2 → RA A2 o2 w2 → RB A2 F2 → Ev (mL_law N xs) 13 2499 [some qS, some (qR 0 0), some (qR 11 0), some (qR 12 0), some (qI (nI i)), a5, a6, a7, a8] [] 132 (hL o2 w2 F2 out2) kc ks P qNo) : Ev (mL_law N xs) 13 1740 [some qS, some (qR 0 0), some (qR 11 0), some (qR 12 0), some (qI (nI i)), l5, l6, l7, l8] [] 132 (hL o w F out) (kc + 1) (ks + 6) P qNo := by
  obtain ⟨code, v, A2, hcode, hS, hG2⟩ := x_records hG (xs (i + 1))
  refine e_aload1 dL_law_1740 ?_
  refine e_aloadS dL_law_1741 ?_
  refine e_iload4 dL_law_1742 ?_
  refine e_iconst (z := 1) dL_law_1744 ?_
  first | refine e_iaddN dL_law_1745 ?_ | refine e_iadd dL_law_1745 ?_
  refine e_sldN dL_law_1746 (by omega) hN ?_
  refine e_aload3 dL_law_1747 ?_
  refine e_callW (as := [qR 0 0, qI (xs (i + 1)), qR 12 0]) g_records lkL_235 (c_records F out hG hA hS) rfl rfl dL_law_1748 (Nat.le_of_ble_eq_true rfl) (fun o2 w2 out2 hA2 ho => ?_)
  refine e_istore5 dL_law_1751 rfl (Nat.le_of_ble_eq_true rfl) ?_
  refine e_aload2 dL_law_1753 ?_
  refine e_aloadS dL_law_1754 ?_
  refine e_iload4 dL_law_1755 ?_
  refine e_iconst (z := 1) dL_law_1757 ?_
  first | refine e_iaddN dL_law_1758 ?_ | refine e_iadd dL_law_1758 ?_
  refine e_sldN dL_law_1759 (by omega) hN ?_
  refine e_callM (as := [qI (xs (i + 1))]) fX3_records lkL_237 hB (fun h => p_records h hG hB hS) rfl rfl dL_law_1760 (Nat.le_of_ble_eq_true rfl) rfl (fun r F2 hB2 hr => ?_)
  refine e_istore6 dL_law_1763 rfl (Nat.le_of_ble_eq_true rfl) ?_
  refine e_aload2 dL_law_1765 ?_
  refine e_callT hB2 dL_law_1766 (Nat.le_of_ble_eq_true rfl) ?_
  refine e_iload5 dL_law_1769 ?_
  refine e_icmp_eq 1776 dL_law_1771 (by decide) (fun _ => ?_) (fun q => absurd rfl q)
  refine e_iload5 dL_law_1776 ?_
  refine e_if_ne 1793 dL_law_1778 (by decide) (fun _ => ?_) (fun hz => ?_)
  · refine e_goto 2499 dL_law_1793 (by decide) ?_
    exact K A2 o2 w2 F2 out2 _ _ _ _ hG2 hA2 ⟨_, hB2⟩
  · obtain rfl := nI_code hcode hz
    obtain rfl := hr rfl
    have ho0 := ho rfl
    refine e_aload3 dL_law_1781 ?_
    refine e_iconst (z := 0) dL_law_1782 ?_
    refine e_ldOut dL_law_1783 ?_
    refine e_iload6 dL_law_1784 ?_
    refine e_i2l dL_law_1786 ?_
    refine e_lcmp dL_law_1787 ?_
    rw [ho0, lg_cmp_self]
    refine e_if_eq 1793 dL_law_1788 (by decide) (fun _ => ?_) (fun q => absurd rfl q)
    refine e_goto 2499 dL_law_1793 (by decide) ?_
    exact K A2 o2 w2 F2 out2 _ _ _ _ hG2 hA2 ⟨_, hB2⟩
set_option maxRecDepth 20000 in
set_option maxHeartbeats 4000000 in
theorem L_recordKind {N : Nat} {xs : Nat → Int32} (hN : N ≤ 2048) {n : Nat} (hn : n < 2 ^ 31) {A : qA} (hG : GA n A) {o : List qE} {w : Fin 16 → qw} (hA : RA A o w) {F : List qE} (hB : RB A F) {out : Nat → Int64} {i : Nat} (hi : i + 4 ≤ N) {l5 l6 l7 l8 : Option qV} {kc ks : Nat} {P : qP} (K : ∀ (A2 : qA) (o2 : List qE) (w2 : Fin 16 → qw) (F2 : List qE) (out2 : Nat → Int64) (a5 a6 a7 a8 : Option qV), GA (n + 2400) A2 → RA A2 o2 w2 → RB A2 F2 → Ev (mL_law N xs) 13 2499 [some qS, some (qR 0 0), some (qR 11 0), some (qR 12 0), some (qI (nI i)), a5, a6, a7, a8] [] 132 (hL o2 w2 F2 out2) kc ks P qNo) : Ev (mL_law N xs) 13 1796 [some qS, some (qR 0 0), some (qR 11 0), some (qR 12 0), some (qI (nI i)), l5, l6, l7, l8] [] 132 (hL o w F out) (kc + 1) (ks + 6) P qNo := by
  obtain ⟨code, v, A2, hcode, hS, hG2⟩ := x_recordKind hG (xs (i + 1)) (xs (i + 2))
  refine e_aload1 dL_law_1796 ?_
  refine e_aloadS dL_law_1797 ?_
  refine e_iload4 dL_law_1798 ?_
  refine e_iconst (z := 1) dL_law_1800 ?_
  first | refine e_iaddN dL_law_1801 ?_ | refine e_iadd dL_law_1801 ?_
  refine e_sldN dL_law_1802 (by omega) hN ?_
  refine e_aloadS dL_law_1803 ?_
  refine e_iload4 dL_law_1804 ?_
  refine e_iconst (z := 2) dL_law_1806 ?_
  first | refine e_iaddN dL_law_1807 ?_ | refine e_iadd dL_law_1807 ?_
  refine e_sldN dL_law_1808 (by omega) hN ?_
  refine e_aload3 dL_law_1809 ?_
  refine e_callW (as := [qR 0 0, qI (xs (i + 1)), qI (xs (i + 2)), qR 12 0]) g_recordKind lkL_238 (c_recordKind F out hG hA hS) rfl rfl dL_law_1810 (Nat.le_of_ble_eq_true rfl) (fun o2 w2 out2 hA2 ho => ?_)
  refine e_istore5 dL_law_1813 rfl (Nat.le_of_ble_eq_true rfl) ?_
  refine e_aload2 dL_law_1815 ?_
  refine e_aloadS dL_law_1816 ?_
  refine e_iload4 dL_law_1817 ?_
  refine e_iconst (z := 1) dL_law_1819 ?_
  first | refine e_iaddN dL_law_1820 ?_ | refine e_iadd dL_law_1820 ?_
  refine e_sldN dL_law_1821 (by omega) hN ?_
  refine e_aloadS dL_law_1822 ?_
  refine e_iload4 dL_law_1823 ?_
  refine e_iconst (z := 2) dL_law_1825 ?_
  first | refine e_iaddN dL_law_1826 ?_ | refine e_iadd dL_law_1826 ?_
  refine e_sldN dL_law_1827 (by omega) hN ?_
  refine e_callM (as := [qI (xs (i + 1)), qI (xs (i + 2))]) fX3_recordKind lkL_240 hB (fun h => p_recordKind h hG hB hS) rfl rfl dL_law_1828 (Nat.le_of_ble_eq_true rfl) rfl (fun r F2 hB2 hr => ?_)
  refine e_istore6 dL_law_1831 rfl (Nat.le_of_ble_eq_true rfl) ?_
  refine e_aload2 dL_law_1833 ?_
  refine e_callT hB2 dL_law_1834 (Nat.le_of_ble_eq_true rfl) ?_
  refine e_iload5 dL_law_1837 ?_
  refine e_icmp_eq 1844 dL_law_1839 (by decide) (fun _ => ?_) (fun q => absurd rfl q)
  refine e_iload5 dL_law_1844 ?_
  refine e_if_ne 1861 dL_law_1846 (by decide) (fun _ => ?_) (fun hz => ?_)
  · refine e_goto 2499 dL_law_1861 (by decide) ?_
    exact K A2 o2 w2 F2 out2 _ _ _ _ hG2 hA2 ⟨_, hB2⟩
  · obtain rfl := nI_code hcode hz
    obtain rfl := hr rfl
    have ho0 := ho rfl
    refine e_aload3 dL_law_1849 ?_
    refine e_iconst (z := 0) dL_law_1850 ?_
    refine e_ldOut dL_law_1851 ?_
    refine e_iload6 dL_law_1852 ?_
    refine e_i2l dL_law_1854 ?_
    refine e_lcmp dL_law_1855 ?_
    rw [ho0, lg_cmp_self]
    refine e_if_eq 1861 dL_law_1856 (by decide) (fun _ => ?_) (fun q => absurd rfl q)
    refine e_goto 2499 dL_law_1861 (by decide) ?_
    exact K A2 o2 w2 F2 out2 _ _ _ _ hG2 hA2 ⟨_, hB2⟩
set_option maxRecDepth 20000 in
set_option maxHeartbeats 4000000 in
theorem L_recordTransfer {N : Nat} {xs : Nat → Int32} (hN : N ≤ 2048) {n : Nat} (hn : n < 2 ^ 31) {A : qA} (hG : GA n A) {o : List qE} {w : Fin 16 → qw} (hA : RA A o w) {F : List qE} (hB : RB A F) {out : Nat → Int64} {i : Nat} (hi : i + 4 ≤ N) {l5 l6 l7 l8 : Option qV} {kc ks : Nat} {P : qP} (K : ∀ (A2 : qA) (o2 : List qE) (w2 : Fin 16 → qw) (F2 : List qE) (out2 : Nat → Int64) (a5 a6 a7 a8 : Option qV), GA (n + 2400) A2 → RA A2 o2 w2 → RB A2 F2 → Ev (mL_law N xs) 13 2499 [some qS, some (qR 0 0), some (qR 11 0), some (qR 12 0), some (qI (nI i)), a5, a6, a7, a8] [] 132 (hL o2 w2 F2 out2) kc ks P qNo) : Ev (mL_law N xs) 13 1864 [some qS, some (qR 0 0), some (qR 11 0), some (qR 12 0), some (qI (nI i)), l5, l6, l7, l8] [] 132 (hL o w F out) (kc + 1) (ks + 6) P qNo := by
  obtain ⟨code, v, A2, hcode, hS, hG2⟩ := x_recordTransfer hG (xs (i + 1)) (xs (i + 2))
  refine e_aload1 dL_law_1864 ?_
  refine e_aloadS dL_law_1865 ?_
  refine e_iload4 dL_law_1866 ?_
  refine e_iconst (z := 1) dL_law_1868 ?_
  first | refine e_iaddN dL_law_1869 ?_ | refine e_iadd dL_law_1869 ?_
  refine e_sldN dL_law_1870 (by omega) hN ?_
  refine e_aloadS dL_law_1871 ?_
  refine e_iload4 dL_law_1872 ?_
  refine e_iconst (z := 2) dL_law_1874 ?_
  first | refine e_iaddN dL_law_1875 ?_ | refine e_iadd dL_law_1875 ?_
  refine e_sldN dL_law_1876 (by omega) hN ?_
  refine e_aload3 dL_law_1877 ?_
  refine e_callW (as := [qR 0 0, qI (xs (i + 1)), qI (xs (i + 2)), qR 12 0]) g_recordTransfer lkL_241 (c_recordTransfer F out hG hA hS) rfl rfl dL_law_1878 (Nat.le_of_ble_eq_true rfl) (fun o2 w2 out2 hA2 ho => ?_)
  refine e_istore5 dL_law_1881 rfl (Nat.le_of_ble_eq_true rfl) ?_
  refine e_aload2 dL_law_1883 ?_
  refine e_aloadS dL_law_1884 ?_
  refine e_iload4 dL_law_1885 ?_
  refine e_iconst (z := 1) dL_law_1887 ?_
  first | refine e_iaddN dL_law_1888 ?_ | refine e_iadd dL_law_1888 ?_
  refine e_sldN dL_law_1889 (by omega) hN ?_
  refine e_aloadS dL_law_1890 ?_
  refine e_iload4 dL_law_1891 ?_
  refine e_iconst (z := 2) dL_law_1893 ?_
  first | refine e_iaddN dL_law_1894 ?_ | refine e_iadd dL_law_1894 ?_
  refine e_sldN dL_law_1895 (by omega) hN ?_
  refine e_callM (as := [qI (xs (i + 1)), qI (xs (i + 2))]) fX3_recordTransfer lkL_243 hB (fun h => p_recordTransfer h hG hB hS) rfl rfl dL_law_1896 (Nat.le_of_ble_eq_true rfl) rfl (fun r F2 hB2 hr => ?_)
  refine e_istore6 dL_law_1899 rfl (Nat.le_of_ble_eq_true rfl) ?_
  refine e_aload2 dL_law_1901 ?_
  refine e_callT hB2 dL_law_1902 (Nat.le_of_ble_eq_true rfl) ?_
  refine e_iload5 dL_law_1905 ?_
  refine e_icmp_eq 1912 dL_law_1907 (by decide) (fun _ => ?_) (fun q => absurd rfl q)
  refine e_iload5 dL_law_1912 ?_
  refine e_if_ne 1929 dL_law_1914 (by decide) (fun _ => ?_) (fun hz => ?_)
  · refine e_goto 2499 dL_law_1929 (by decide) ?_
    exact K A2 o2 w2 F2 out2 _ _ _ _ hG2 hA2 ⟨_, hB2⟩
  · obtain rfl := nI_code hcode hz
    obtain rfl := hr rfl
    have ho0 := ho rfl
    refine e_aload3 dL_law_1917 ?_
    refine e_iconst (z := 0) dL_law_1918 ?_
    refine e_ldOut dL_law_1919 ?_
    refine e_iload6 dL_law_1920 ?_
    refine e_i2l dL_law_1922 ?_
    refine e_lcmp dL_law_1923 ?_
    rw [ho0, lg_cmp_self]
    refine e_if_eq 1929 dL_law_1924 (by decide) (fun _ => ?_) (fun q => absurd rfl q)
    refine e_goto 2499 dL_law_1929 (by decide) ?_
    exact K A2 o2 w2 F2 out2 _ _ _ _ hG2 hA2 ⟨_, hB2⟩
set_option maxRecDepth 20000 in
set_option maxHeartbeats 4000000 in
theorem L_waiting {N : Nat} {xs : Nat → Int32} (hN : N ≤ 2048) {n : Nat} (hn : n < 2 ^ 31) {A : qA} (hG : GA n A) {o : List qE} {w : Fin 16 → qw} (hA : RA A o w) {F : List qE} (hB : RB A F) {out : Nat → Int64} {i : Nat} (hi : i + 4 ≤ N) {l5 l6 l7 l8 : Option qV} {kc ks : Nat} {P : qP} (K : ∀ (A2 : qA) (o2 : List qE) (w2 : Fin 16 → qw) (F2 : List qE) (out2 : Nat → Int64) (a5 a6 a7 a8 : Option qV), GA (n + 2400) A2 → RA A2 o2 w2 → RB A2 F2 → Ev (mL_law N xs) 13 2499 [some qS, some (qR 0 0), some (qR 11 0), some (qR 12 0), some (qI (nI i)), a5, a6, a7, a8] [] 132 (hL o2 w2 F2 out2) kc ks P qNo) : Ev (mL_law N xs) 13 1932 [some qS, some (qR 0 0), some (qR 11 0), some (qR 12 0), some (qI (nI i)), l5, l6, l7, l8] [] 132 (hL o w F out) (kc + 1) (ks + 6) P qNo := by
  obtain ⟨code, v, A2, hcode, hS, hG2⟩ := x_waiting hG
  refine e_aload1 dL_law_1932 ?_
  refine e_callCl (as := []) (k_waiting (h1 F out) hG hA hS) hA fX2_waiting lkL_244 rfl dL_law_1933 rfl (by decide) (Nat.le_of_ble_eq_true rfl) (by omega) (by omega) (fun hc0 o2 w2 hA2 => ?_) (fun j E _ hE => absurd hE (by simp))
  refine e_aload2 dL_law_1936 ?_
  refine e_callM (as := []) fX3_waiting lkL_247 hB (fun h => p_waiting h hG hB hS) rfl rfl dL_law_1937 (Nat.le_of_ble_eq_true rfl) rfl (fun r F2 hB2 hr => ?_)
  refine e_icmp_eq 2499 dL_law_1940 (by decide) (fun _ => ?_) (fun q => absurd (hr hc0).symm q)
  exact ev_room (K A2 o2 w2 F2 out _ _ _ _ hG2 hA2 ⟨_, hB2⟩) (by omega) (by omega)
set_option maxRecDepth 20000 in
set_option maxHeartbeats 4000000 in
theorem L_kindOf {N : Nat} {xs : Nat → Int32} (hN : N ≤ 2048) {n : Nat} (hn : n < 2 ^ 31) {A : qA} (hG : GA n A) {o : List qE} {w : Fin 16 → qw} (hA : RA A o w) {F : List qE} (hB : RB A F) {out : Nat → Int64} {i : Nat} (hi : i + 4 ≤ N) {l5 l6 l7 l8 : Option qV} {kc ks : Nat} {P : qP} (K : ∀ (A2 : qA) (o2 : List qE) (w2 : Fin 16 → qw) (F2 : List qE) (out2 : Nat → Int64) (a5 a6 a7 a8 : Option qV), GA (n + 2400) A2 → RA A2 o2 w2 → RB A2 F2 → Ev (mL_law N xs) 13 2499 [some qS, some (qR 0 0), some (qR 11 0), some (qR 12 0), some (qI (nI i)), a5, a6, a7, a8] [] 132 (hL o2 w2 F2 out2) kc ks P qNo) : Ev (mL_law N xs) 13 1945 [some qS, some (qR 0 0), some (qR 11 0), some (qR 12 0), some (qI (nI i)), l5, l6, l7, l8] [] 132 (hL o w F out) (kc + 1) (ks + 6) P qNo := by
  obtain ⟨code, v, A2, hcode, hS, hG2⟩ := x_kindOf hG (xs (i + 1))
  refine e_aload1 dL_law_1945 ?_
  refine e_aloadS dL_law_1946 ?_
  refine e_iload4 dL_law_1947 ?_
  refine e_iconst (z := 1) dL_law_1949 ?_
  first | refine e_iaddN dL_law_1950 ?_ | refine e_iadd dL_law_1950 ?_
  refine e_sldN dL_law_1951 (by omega) hN ?_
  refine e_aload3 dL_law_1952 ?_
  refine e_callW (as := [qR 0 0, qI (xs (i + 1)), qR 12 0]) g_kindOf lkL_248 (c_kindOf F out hG hA hS) rfl rfl dL_law_1953 (Nat.le_of_ble_eq_true rfl) (fun o2 w2 out2 hA2 ho => ?_)
  refine e_istore5 dL_law_1956 rfl (Nat.le_of_ble_eq_true rfl) ?_
  refine e_aload2 dL_law_1958 ?_
  refine e_aloadS dL_law_1959 ?_
  refine e_iload4 dL_law_1960 ?_
  refine e_iconst (z := 1) dL_law_1962 ?_
  first | refine e_iaddN dL_law_1963 ?_ | refine e_iadd dL_law_1963 ?_
  refine e_sldN dL_law_1964 (by omega) hN ?_
  refine e_callM (as := [qI (xs (i + 1))]) fX3_kindOf lkL_250 hB (fun h => p_kindOf h hG hB hS) rfl rfl dL_law_1965 (Nat.le_of_ble_eq_true rfl) rfl (fun r F2 hB2 hr => ?_)
  refine e_istore6 dL_law_1968 rfl (Nat.le_of_ble_eq_true rfl) ?_
  refine e_aload2 dL_law_1970 ?_
  refine e_callT hB2 dL_law_1971 (Nat.le_of_ble_eq_true rfl) ?_
  refine e_iload5 dL_law_1974 ?_
  refine e_icmp_eq 1981 dL_law_1976 (by decide) (fun _ => ?_) (fun q => absurd rfl q)
  refine e_iload5 dL_law_1981 ?_
  refine e_if_ne 1998 dL_law_1983 (by decide) (fun _ => ?_) (fun hz => ?_)
  · refine e_goto 2499 dL_law_1998 (by decide) ?_
    exact K A2 o2 w2 F2 out2 _ _ _ _ hG2 hA2 ⟨_, hB2⟩
  · obtain rfl := nI_code hcode hz
    obtain rfl := hr rfl
    have ho0 := ho rfl
    refine e_aload3 dL_law_1986 ?_
    refine e_iconst (z := 0) dL_law_1987 ?_
    refine e_ldOut dL_law_1988 ?_
    refine e_iload6 dL_law_1989 ?_
    refine e_i2l dL_law_1991 ?_
    refine e_lcmp dL_law_1992 ?_
    rw [ho0, lg_cmp_self]
    refine e_if_eq 1998 dL_law_1993 (by decide) (fun _ => ?_) (fun q => absurd rfl q)
    refine e_goto 2499 dL_law_1998 (by decide) ?_
    exact K A2 o2 w2 F2 out2 _ _ _ _ hG2 hA2 ⟨_, hB2⟩
set_option maxRecDepth 20000 in
set_option maxHeartbeats 4000000 in
theorem L_transferOf {N : Nat} {xs : Nat → Int32} (hN : N ≤ 2048) {n : Nat} (hn : n < 2 ^ 31) {A : qA} (hG : GA n A) {o : List qE} {w : Fin 16 → qw} (hA : RA A o w) {F : List qE} (hB : RB A F) {out : Nat → Int64} {i : Nat} (hi : i + 4 ≤ N) {l5 l6 l7 l8 : Option qV} {kc ks : Nat} {P : qP} (K : ∀ (A2 : qA) (o2 : List qE) (w2 : Fin 16 → qw) (F2 : List qE) (out2 : Nat → Int64) (a5 a6 a7 a8 : Option qV), GA (n + 2400) A2 → RA A2 o2 w2 → RB A2 F2 → Ev (mL_law N xs) 13 2499 [some qS, some (qR 0 0), some (qR 11 0), some (qR 12 0), some (qI (nI i)), a5, a6, a7, a8] [] 132 (hL o2 w2 F2 out2) kc ks P qNo) : Ev (mL_law N xs) 13 2001 [some qS, some (qR 0 0), some (qR 11 0), some (qR 12 0), some (qI (nI i)), l5, l6, l7, l8] [] 132 (hL o w F out) (kc + 1) (ks + 6) P qNo := by
  obtain ⟨code, v, A2, hcode, hS, hG2⟩ := x_transferOf hG (xs (i + 1))
  refine e_aload1 dL_law_2001 ?_
  refine e_aloadS dL_law_2002 ?_
  refine e_iload4 dL_law_2003 ?_
  refine e_iconst (z := 1) dL_law_2005 ?_
  first | refine e_iaddN dL_law_2006 ?_ | refine e_iadd dL_law_2006 ?_
  refine e_sldN dL_law_2007 (by omega) hN ?_
  refine e_aload3 dL_law_2008 ?_
  refine e_callW (as := [qR 0 0, qI (xs (i + 1)), qR 12 0]) g_transferOf lkL_251 (c_transferOf F out hG hA hS) rfl rfl dL_law_2009 (Nat.le_of_ble_eq_true rfl) (fun o2 w2 out2 hA2 ho => ?_)
  refine e_istore5 dL_law_2012 rfl (Nat.le_of_ble_eq_true rfl) ?_
  refine e_aload2 dL_law_2014 ?_
  refine e_aloadS dL_law_2015 ?_
  refine e_iload4 dL_law_2016 ?_
  refine e_iconst (z := 1) dL_law_2018 ?_
  first | refine e_iaddN dL_law_2019 ?_ | refine e_iadd dL_law_2019 ?_
  refine e_sldN dL_law_2020 (by omega) hN ?_
  refine e_callM (as := [qI (xs (i + 1))]) fX3_transferOf lkL_253 hB (fun h => p_transferOf h hG hB hS) rfl rfl dL_law_2021 (Nat.le_of_ble_eq_true rfl) rfl (fun r F2 hB2 hr => ?_)
  refine e_istore6 dL_law_2024 rfl (Nat.le_of_ble_eq_true rfl) ?_
  refine e_aload2 dL_law_2026 ?_
  refine e_callT hB2 dL_law_2027 (Nat.le_of_ble_eq_true rfl) ?_
  refine e_iload5 dL_law_2030 ?_
  refine e_icmp_eq 2037 dL_law_2032 (by decide) (fun _ => ?_) (fun q => absurd rfl q)
  refine e_iload5 dL_law_2037 ?_
  refine e_if_ne 2054 dL_law_2039 (by decide) (fun _ => ?_) (fun hz => ?_)
  · refine e_goto 2499 dL_law_2054 (by decide) ?_
    exact K A2 o2 w2 F2 out2 _ _ _ _ hG2 hA2 ⟨_, hB2⟩
  · obtain rfl := nI_code hcode hz
    obtain rfl := hr rfl
    have ho0 := ho rfl
    refine e_aload3 dL_law_2042 ?_
    refine e_iconst (z := 0) dL_law_2043 ?_
    refine e_ldOut dL_law_2044 ?_
    refine e_iload6 dL_law_2045 ?_
    refine e_i2l dL_law_2047 ?_
    refine e_lcmp dL_law_2048 ?_
    rw [ho0, lg_cmp_self]
    refine e_if_eq 2054 dL_law_2049 (by decide) (fun _ => ?_) (fun q => absurd rfl q)
    refine e_goto 2499 dL_law_2054 (by decide) ?_
    exact K A2 o2 w2 F2 out2 _ _ _ _ hG2 hA2 ⟨_, hB2⟩
set_option maxRecDepth 20000 in
set_option maxHeartbeats 4000000 in
theorem L_storeOf {N : Nat} {xs : Nat → Int32} (hN : N ≤ 2048) {n : Nat} (hn : n < 2 ^ 31) {A : qA} (hG : GA n A) {o : List qE} {w : Fin 16 → qw} (hA : RA A o w) {F : List qE} (hB : RB A F) {out : Nat → Int64} {i : Nat} (hi : i + 4 ≤ N) {l5 l6 l7 l8 : Option qV} {kc ks : Nat} {P : qP} (K : ∀ (A2 : qA) (o2 : List qE) (w2 : Fin 16 → qw) (F2 : List qE) (out2 : Nat → Int64) (a5 a6 a7 a8 : Option qV), GA (n + 2400) A2 → RA A2 o2 w2 → RB A2 F2 → Ev (mL_law N xs) 13 2499 [some qS, some (qR 0 0), some (qR 11 0), some (qR 12 0), some (qI (nI i)), a5, a6, a7, a8] [] 132 (hL o2 w2 F2 out2) kc ks P qNo) : Ev (mL_law N xs) 13 2057 [some qS, some (qR 0 0), some (qR 11 0), some (qR 12 0), some (qI (nI i)), l5, l6, l7, l8] [] 132 (hL o w F out) (kc + 1) (ks + 6) P qNo := by
  obtain ⟨code, v, A2, hcode, hS, hG2⟩ := x_storeOf hG (xs (i + 1))
  refine e_aload1 dL_law_2057 ?_
  refine e_aloadS dL_law_2058 ?_
  refine e_iload4 dL_law_2059 ?_
  refine e_iconst (z := 1) dL_law_2061 ?_
  first | refine e_iaddN dL_law_2062 ?_ | refine e_iadd dL_law_2062 ?_
  refine e_sldN dL_law_2063 (by omega) hN ?_
  refine e_aload3 dL_law_2064 ?_
  refine e_callW (as := [qR 0 0, qI (xs (i + 1)), qR 12 0]) g_storeOf lkL_254 (c_storeOf F out hG hA hS) rfl rfl dL_law_2065 (Nat.le_of_ble_eq_true rfl) (fun o2 w2 out2 hA2 ho => ?_)
  refine e_istore5 dL_law_2068 rfl (Nat.le_of_ble_eq_true rfl) ?_
  refine e_aload2 dL_law_2070 ?_
  refine e_aloadS dL_law_2071 ?_
  refine e_iload4 dL_law_2072 ?_
  refine e_iconst (z := 1) dL_law_2074 ?_
  first | refine e_iaddN dL_law_2075 ?_ | refine e_iadd dL_law_2075 ?_
  refine e_sldN dL_law_2076 (by omega) hN ?_
  refine e_callM (as := [qI (xs (i + 1))]) fX3_storeOf lkL_256 hB (fun h => p_storeOf h hG hB hS) rfl rfl dL_law_2077 (Nat.le_of_ble_eq_true rfl) rfl (fun r F2 hB2 hr => ?_)
  refine e_istore6 dL_law_2080 rfl (Nat.le_of_ble_eq_true rfl) ?_
  refine e_aload2 dL_law_2082 ?_
  refine e_callT hB2 dL_law_2083 (Nat.le_of_ble_eq_true rfl) ?_
  refine e_iload5 dL_law_2086 ?_
  refine e_icmp_eq 2093 dL_law_2088 (by decide) (fun _ => ?_) (fun q => absurd rfl q)
  refine e_iload5 dL_law_2093 ?_
  refine e_if_ne 2110 dL_law_2095 (by decide) (fun _ => ?_) (fun hz => ?_)
  · refine e_goto 2499 dL_law_2110 (by decide) ?_
    exact K A2 o2 w2 F2 out2 _ _ _ _ hG2 hA2 ⟨_, hB2⟩
  · obtain rfl := nI_code hcode hz
    obtain rfl := hr rfl
    have ho0 := ho rfl
    refine e_aload3 dL_law_2098 ?_
    refine e_iconst (z := 0) dL_law_2099 ?_
    refine e_ldOut dL_law_2100 ?_
    refine e_iload6 dL_law_2101 ?_
    refine e_i2l dL_law_2103 ?_
    refine e_lcmp dL_law_2104 ?_
    rw [ho0, lg_cmp_self]
    refine e_if_eq 2110 dL_law_2105 (by decide) (fun _ => ?_) (fun q => absurd rfl q)
    refine e_goto 2499 dL_law_2110 (by decide) ?_
    exact K A2 o2 w2 F2 out2 _ _ _ _ hG2 hA2 ⟨_, hB2⟩
set_option maxRecDepth 20000 in
set_option maxHeartbeats 4000000 in
theorem L_sent {N : Nat} {xs : Nat → Int32} (hN : N ≤ 2048) {n : Nat} (hn : n < 2 ^ 31) {A : qA} (hG : GA n A) {o : List qE} {w : Fin 16 → qw} (hA : RA A o w) {F : List qE} (hB : RB A F) {out : Nat → Int64} {i : Nat} (hi : i + 4 ≤ N) {l5 l6 l7 l8 : Option qV} {kc ks : Nat} {P : qP} (K : ∀ (A2 : qA) (o2 : List qE) (w2 : Fin 16 → qw) (F2 : List qE) (out2 : Nat → Int64) (a5 a6 a7 a8 : Option qV), GA (n + 2400) A2 → RA A2 o2 w2 → RB A2 F2 → Ev (mL_law N xs) 13 2499 [some qS, some (qR 0 0), some (qR 11 0), some (qR 12 0), some (qI (nI i)), a5, a6, a7, a8] [] 132 (hL o2 w2 F2 out2) kc ks P qNo) : Ev (mL_law N xs) 13 2113 [some qS, some (qR 0 0), some (qR 11 0), some (qR 12 0), some (qI (nI i)), l5, l6, l7, l8] [] 132 (hL o w F out) (kc + 1) (ks + 6) P qNo := by
  obtain ⟨code, v, A2, hcode, hS, hG2⟩ := x_sent hG
  refine e_aload1 dL_law_2113 ?_
  refine e_callCl (as := []) (k_sent (h1 F out) hG hA hS) hA fX2_sent lkL_257 rfl dL_law_2114 rfl (by decide) (Nat.le_of_ble_eq_true rfl) (by omega) (by omega) (fun hc0 o2 w2 hA2 => ?_) (fun j E _ hE => absurd hE (by simp))
  refine e_aload2 dL_law_2117 ?_
  refine e_callM (as := []) fX3_sent lkL_260 hB (fun h => p_sent h hG hB hS) rfl rfl dL_law_2118 (Nat.le_of_ble_eq_true rfl) rfl (fun r F2 hB2 hr => ?_)
  refine e_icmp_eq 2499 dL_law_2121 (by decide) (fun _ => ?_) (fun q => absurd (hr hc0).symm q)
  exact ev_room (K A2 o2 w2 F2 out _ _ _ _ hG2 hA2 ⟨_, hB2⟩) (by omega) (by omega)
set_option maxRecDepth 20000 in
set_option maxHeartbeats 4000000 in
theorem L_sentByAccount {N : Nat} {xs : Nat → Int32} (hN : N ≤ 2048) {n : Nat} (hn : n < 2 ^ 31) {A : qA} (hG : GA n A) {o : List qE} {w : Fin 16 → qw} (hA : RA A o w) {F : List qE} (hB : RB A F) {out : Nat → Int64} {i : Nat} (hi : i + 4 ≤ N) {l5 l6 l7 l8 : Option qV} {kc ks : Nat} {P : qP} (K : ∀ (A2 : qA) (o2 : List qE) (w2 : Fin 16 → qw) (F2 : List qE) (out2 : Nat → Int64) (a5 a6 a7 a8 : Option qV), GA (n + 2400) A2 → RA A2 o2 w2 → RB A2 F2 → Ev (mL_law N xs) 13 2499 [some qS, some (qR 0 0), some (qR 11 0), some (qR 12 0), some (qI (nI i)), a5, a6, a7, a8] [] 132 (hL o2 w2 F2 out2) kc ks P qNo) : Ev (mL_law N xs) 13 2126 [some qS, some (qR 0 0), some (qR 11 0), some (qR 12 0), some (qI (nI i)), l5, l6, l7, l8] [] 132 (hL o w F out) (kc + 1) (ks + 6) P qNo := by
  obtain ⟨code, v, A2, hcode, hS, hG2⟩ := x_sentByAccount hG
  refine e_aload1 dL_law_2126 ?_
  refine e_callCl (as := []) (k_sentByAccount (h1 F out) hG hA hS) hA fX2_sentByAccount lkL_261 rfl dL_law_2127 rfl (by decide) (Nat.le_of_ble_eq_true rfl) (by omega) (by omega) (fun hc0 o2 w2 hA2 => ?_) (fun j E _ hE => absurd hE (by simp))
  refine e_aload2 dL_law_2130 ?_
  refine e_callM (as := []) fX3_sentByAccount lkL_264 hB (fun h => p_sentByAccount h hG hB hS) rfl rfl dL_law_2131 (Nat.le_of_ble_eq_true rfl) rfl (fun r F2 hB2 hr => ?_)
  refine e_icmp_eq 2499 dL_law_2134 (by decide) (fun _ => ?_) (fun q => absurd (hr hc0).symm q)
  exact ev_room (K A2 o2 w2 F2 out _ _ _ _ hG2 hA2 ⟨_, hB2⟩) (by omega) (by omega)
set_option maxRecDepth 20000 in
set_option maxHeartbeats 4000000 in
theorem L_lost {N : Nat} {xs : Nat → Int32} (hN : N ≤ 2048) {n : Nat} (hn : n < 2 ^ 31) {A : qA} (hG : GA n A) {o : List qE} {w : Fin 16 → qw} (hA : RA A o w) {F : List qE} (hB : RB A F) {out : Nat → Int64} {i : Nat} (hi : i + 4 ≤ N) {l5 l6 l7 l8 : Option qV} {kc ks : Nat} {P : qP} (K : ∀ (A2 : qA) (o2 : List qE) (w2 : Fin 16 → qw) (F2 : List qE) (out2 : Nat → Int64) (a5 a6 a7 a8 : Option qV), GA (n + 2400) A2 → RA A2 o2 w2 → RB A2 F2 → Ev (mL_law N xs) 13 2499 [some qS, some (qR 0 0), some (qR 11 0), some (qR 12 0), some (qI (nI i)), a5, a6, a7, a8] [] 132 (hL o2 w2 F2 out2) kc ks P qNo) : Ev (mL_law N xs) 13 2139 [some qS, some (qR 0 0), some (qR 11 0), some (qR 12 0), some (qI (nI i)), l5, l6, l7, l8] [] 132 (hL o w F out) (kc + 1) (ks + 6) P qNo := by
  obtain ⟨code, v, A2, hcode, hS, hG2⟩ := x_lost hG
  refine e_aload1 dL_law_2139 ?_
  refine e_callCl (as := []) (k_lost (h1 F out) hG hA hS) hA fX2_lost lkL_265 rfl dL_law_2140 rfl (by decide) (Nat.le_of_ble_eq_true rfl) (by omega) (by omega) (fun hc0 o2 w2 hA2 => ?_) (fun j E _ hE => absurd hE (by simp))
  refine e_aload2 dL_law_2143 ?_
  refine e_callM (as := []) fX3_lost lkL_268 hB (fun h => p_lost h hG hB hS) rfl rfl dL_law_2144 (Nat.le_of_ble_eq_true rfl) rfl (fun r F2 hB2 hr => ?_)
  refine e_icmp_eq 2499 dL_law_2147 (by decide) (fun _ => ?_) (fun q => absurd (hr hc0).symm q)
  exact ev_room (K A2 o2 w2 F2 out _ _ _ _ hG2 hA2 ⟨_, hB2⟩) (by omega) (by omega)
set_option maxRecDepth 20000 in
set_option maxHeartbeats 4000000 in
theorem L_wouldSend {N : Nat} {xs : Nat → Int32} (hN : N ≤ 2048) {n : Nat} (hn : n < 2 ^ 31) {A : qA} (hG : GA n A) {o : List qE} {w : Fin 16 → qw} (hA : RA A o w) {F : List qE} (hB : RB A F) {out : Nat → Int64} {i : Nat} (hi : i + 4 ≤ N) {l5 l6 l7 l8 : Option qV} {kc ks : Nat} {P : qP} (K : ∀ (A2 : qA) (o2 : List qE) (w2 : Fin 16 → qw) (F2 : List qE) (out2 : Nat → Int64) (a5 a6 a7 a8 : Option qV), GA (n + 2400) A2 → RA A2 o2 w2 → RB A2 F2 → Ev (mL_law N xs) 13 2499 [some qS, some (qR 0 0), some (qR 11 0), some (qR 12 0), some (qI (nI i)), a5, a6, a7, a8] [] 132 (hL o2 w2 F2 out2) kc ks P qNo) : Ev (mL_law N xs) 13 2152 [some qS, some (qR 0 0), some (qR 11 0), some (qR 12 0), some (qI (nI i)), l5, l6, l7, l8] [] 132 (hL o w F out) (kc + 1) (ks + 6) P qNo := by
  obtain ⟨code, v, A2, hcode, hS, hG2⟩ := x_wouldSend hG (xs (i + 1))
  refine e_aload1 dL_law_2152 ?_
  refine e_aloadS dL_law_2153 ?_
  refine e_iload4 dL_law_2154 ?_
  refine e_iconst (z := 1) dL_law_2156 ?_
  first | refine e_iaddN dL_law_2157 ?_ | refine e_iadd dL_law_2157 ?_
  refine e_sldN dL_law_2158 (by omega) hN ?_
  refine e_aload3 dL_law_2159 ?_
  refine e_callW (as := [qR 0 0, qI (xs (i + 1)), qR 12 0]) g_wouldSend lkL_269 (c_wouldSend F out hG hA hS) rfl rfl dL_law_2160 (Nat.le_of_ble_eq_true rfl) (fun o2 w2 out2 hA2 ho => ?_)
  refine e_istore5 dL_law_2163 rfl (Nat.le_of_ble_eq_true rfl) ?_
  refine e_aload2 dL_law_2165 ?_
  refine e_aloadS dL_law_2166 ?_
  refine e_iload4 dL_law_2167 ?_
  refine e_iconst (z := 1) dL_law_2169 ?_
  first | refine e_iaddN dL_law_2170 ?_ | refine e_iadd dL_law_2170 ?_
  refine e_sldN dL_law_2171 (by omega) hN ?_
  refine e_callM (as := [qI (xs (i + 1))]) fX3_wouldSend lkL_271 hB (fun h => p_wouldSend h hG hB hS) rfl rfl dL_law_2172 (Nat.le_of_ble_eq_true rfl) rfl (fun r F2 hB2 hr => ?_)
  refine e_istore6 dL_law_2175 rfl (Nat.le_of_ble_eq_true rfl) ?_
  refine e_aload2 dL_law_2177 ?_
  refine e_callT hB2 dL_law_2178 (Nat.le_of_ble_eq_true rfl) ?_
  refine e_iload5 dL_law_2181 ?_
  refine e_icmp_eq 2188 dL_law_2183 (by decide) (fun _ => ?_) (fun q => absurd rfl q)
  refine e_iload5 dL_law_2188 ?_
  refine e_if_ne 2205 dL_law_2190 (by decide) (fun _ => ?_) (fun hz => ?_)
  · refine e_goto 2499 dL_law_2205 (by decide) ?_
    exact K A2 o2 w2 F2 out2 _ _ _ _ hG2 hA2 ⟨_, hB2⟩
  · obtain rfl := nI_code hcode hz
    obtain rfl := hr rfl
    have ho0 := ho rfl
    refine e_aload3 dL_law_2193 ?_
    refine e_iconst (z := 0) dL_law_2194 ?_
    refine e_ldOut dL_law_2195 ?_
    refine e_iload6 dL_law_2196 ?_
    refine e_i2l dL_law_2198 ?_
    refine e_lcmp dL_law_2199 ?_
    rw [ho0, lg_cmp_self]
    refine e_if_eq 2205 dL_law_2200 (by decide) (fun _ => ?_) (fun q => absurd rfl q)
    refine e_goto 2499 dL_law_2205 (by decide) ?_
    exact K A2 o2 w2 F2 out2 _ _ _ _ hG2 hA2 ⟨_, hB2⟩
set_option maxRecDepth 20000 in
set_option maxHeartbeats 4000000 in
theorem L_messagesToSettle {N : Nat} {xs : Nat → Int32} (hN : N ≤ 2048) {n : Nat} (hn : n < 2 ^ 31) {A : qA} (hG : GA n A) {o : List qE} {w : Fin 16 → qw} (hA : RA A o w) {F : List qE} (hB : RB A F) {out : Nat → Int64} {i : Nat} (hi : i + 4 ≤ N) {l5 l6 l7 l8 : Option qV} {kc ks : Nat} {P : qP} (K : ∀ (A2 : qA) (o2 : List qE) (w2 : Fin 16 → qw) (F2 : List qE) (out2 : Nat → Int64) (a5 a6 a7 a8 : Option qV), GA (n + 2400) A2 → RA A2 o2 w2 → RB A2 F2 → Ev (mL_law N xs) 13 2499 [some qS, some (qR 0 0), some (qR 11 0), some (qR 12 0), some (qI (nI i)), a5, a6, a7, a8] [] 132 (hL o2 w2 F2 out2) kc ks P qNo) : Ev (mL_law N xs) 13 2208 [some qS, some (qR 0 0), some (qR 11 0), some (qR 12 0), some (qI (nI i)), l5, l6, l7, l8] [] 132 (hL o w F out) (kc + 1) (ks + 6) P qNo := by
  obtain ⟨code, v, A2, hcode, hS, hG2⟩ := x_messagesToSettle hG
  refine e_aload1 dL_law_2208 ?_
  refine e_callCl (as := []) (k_messagesToSettle (h1 F out) hG hA hS) hA fX2_messagesToSettle lkL_272 rfl dL_law_2209 rfl (by decide) (Nat.le_of_ble_eq_true rfl) (by omega) (by omega) (fun hc0 o2 w2 hA2 => ?_) (fun j E _ hE => absurd hE (by simp))
  refine e_aload2 dL_law_2212 ?_
  refine e_callM (as := []) fX3_messagesToSettle lkL_275 hB (fun h => p_messagesToSettle h hG hB hS) rfl rfl dL_law_2213 (Nat.le_of_ble_eq_true rfl) rfl (fun r F2 hB2 hr => ?_)
  refine e_icmp_eq 2499 dL_law_2216 (by decide) (fun _ => ?_) (fun q => absurd (hr hc0).symm q)
  exact ev_room (K A2 o2 w2 F2 out _ _ _ _ hG2 hA2 ⟨_, hB2⟩) (by omega) (by omega)
set_option maxRecDepth 20000 in
set_option maxHeartbeats 4000000 in
theorem L_outcomeIfSettled {N : Nat} {xs : Nat → Int32} (hN : N ≤ 2048) {n : Nat} (hn : n < 2 ^ 31) {A : qA} (hG : GA n A) {o : List qE} {w : Fin 16 → qw} (hA : RA A o w) {F : List qE} (hB : RB A F) {out : Nat → Int64} {i : Nat} (hi : i + 4 ≤ N) {l5 l6 l7 l8 : Option qV} {kc ks : Nat} {P : qP} (K : ∀ (A2 : qA) (o2 : List qE) (w2 : Fin 16 → qw) (F2 : List qE) (out2 : Nat → Int64) (a5 a6 a7 a8 : Option qV), GA (n + 2400) A2 → RA A2 o2 w2 → RB A2 F2 → Ev (mL_law N xs) 13 2499 [some qS, some (qR 0 0), some (qR 11 0), some (qR 12 0), some (qI (nI i)), a5, a6, a7, a8] [] 132 (hL o2 w2 F2 out2) kc ks P qNo) : Ev (mL_law N xs) 13 2221 [some qS, some (qR 0 0), some (qR 11 0), some (qR 12 0), some (qI (nI i)), l5, l6, l7, l8] [] 132 (hL o w F out) (kc + 1) (ks + 6) P qNo := by
  obtain ⟨code, v, A2, hcode, hS, hG2⟩ := x_outcomeIfSettled hG (xs (i + 1))
  refine e_aload1 dL_law_2221 ?_
  refine e_aloadS dL_law_2222 ?_
  refine e_iload4 dL_law_2223 ?_
  refine e_iconst (z := 1) dL_law_2225 ?_
  first | refine e_iaddN dL_law_2226 ?_ | refine e_iadd dL_law_2226 ?_
  refine e_sldN dL_law_2227 (by omega) hN ?_
  refine e_aload3 dL_law_2228 ?_
  refine e_callW (as := [qR 0 0, qI (xs (i + 1)), qR 12 0]) g_outcomeIfSettled lkL_276 (c_outcomeIfSettled F out hG hA hS) rfl rfl dL_law_2229 (Nat.le_of_ble_eq_true rfl) (fun o2 w2 out2 hA2 ho => ?_)
  refine e_istore5 dL_law_2232 rfl (Nat.le_of_ble_eq_true rfl) ?_
  refine e_aload2 dL_law_2234 ?_
  refine e_aloadS dL_law_2235 ?_
  refine e_iload4 dL_law_2236 ?_
  refine e_iconst (z := 1) dL_law_2238 ?_
  first | refine e_iaddN dL_law_2239 ?_ | refine e_iadd dL_law_2239 ?_
  refine e_sldN dL_law_2240 (by omega) hN ?_
  refine e_callM (as := [qI (xs (i + 1))]) fX3_outcomeIfSettled lkL_278 hB (fun h => p_outcomeIfSettled h hG hB hS) rfl rfl dL_law_2241 (Nat.le_of_ble_eq_true rfl) rfl (fun r F2 hB2 hr => ?_)
  refine e_istore6 dL_law_2244 rfl (Nat.le_of_ble_eq_true rfl) ?_
  refine e_aload2 dL_law_2246 ?_
  refine e_callT hB2 dL_law_2247 (Nat.le_of_ble_eq_true rfl) ?_
  refine e_iload5 dL_law_2250 ?_
  refine e_icmp_eq 2257 dL_law_2252 (by decide) (fun _ => ?_) (fun q => absurd rfl q)
  refine e_iload5 dL_law_2257 ?_
  refine e_if_ne 2274 dL_law_2259 (by decide) (fun _ => ?_) (fun hz => ?_)
  · refine e_goto 2499 dL_law_2274 (by decide) ?_
    exact K A2 o2 w2 F2 out2 _ _ _ _ hG2 hA2 ⟨_, hB2⟩
  · obtain rfl := nI_code hcode hz
    obtain rfl := hr rfl
    have ho0 := ho rfl
    refine e_aload3 dL_law_2262 ?_
    refine e_iconst (z := 0) dL_law_2263 ?_
    refine e_ldOut dL_law_2264 ?_
    refine e_iload6 dL_law_2265 ?_
    refine e_i2l dL_law_2267 ?_
    refine e_lcmp dL_law_2268 ?_
    rw [ho0, lg_cmp_self]
    refine e_if_eq 2274 dL_law_2269 (by decide) (fun _ => ?_) (fun q => absurd rfl q)
    refine e_goto 2499 dL_law_2274 (by decide) ?_
    exact K A2 o2 w2 F2 out2 _ _ _ _ hG2 hA2 ⟨_, hB2⟩
set_option maxRecDepth 20000 in
set_option maxHeartbeats 4000000 in
theorem L_amountIfSettled {N : Nat} {xs : Nat → Int32} (hN : N ≤ 2048) {n : Nat} (hn : n < 2 ^ 31) {A : qA} (hG : GA n A) {o : List qE} {w : Fin 16 → qw} (hA : RA A o w) {F : List qE} (hB : RB A F) {out : Nat → Int64} {i : Nat} (hi : i + 4 ≤ N) {l5 l6 l7 l8 : Option qV} {kc ks : Nat} {P : qP} (K : ∀ (A2 : qA) (o2 : List qE) (w2 : Fin 16 → qw) (F2 : List qE) (out2 : Nat → Int64) (a5 a6 a7 a8 : Option qV), GA (n + 2400) A2 → RA A2 o2 w2 → RB A2 F2 → Ev (mL_law N xs) 13 2499 [some qS, some (qR 0 0), some (qR 11 0), some (qR 12 0), some (qI (nI i)), a5, a6, a7, a8] [] 132 (hL o2 w2 F2 out2) kc ks P qNo) : Ev (mL_law N xs) 13 2277 [some qS, some (qR 0 0), some (qR 11 0), some (qR 12 0), some (qI (nI i)), l5, l6, l7, l8] [] 132 (hL o w F out) (kc + 1) (ks + 6) P qNo := by
  obtain ⟨code, v, A2, hcode, hS, hG2⟩ := x_amountIfSettled hG (xs (i + 1))
  refine e_aload1 dL_law_2277 ?_
  refine e_aloadS dL_law_2278 ?_
  refine e_iload4 dL_law_2279 ?_
  refine e_iconst (z := 1) dL_law_2281 ?_
  first | refine e_iaddN dL_law_2282 ?_ | refine e_iadd dL_law_2282 ?_
  refine e_sldN dL_law_2283 (by omega) hN ?_
  refine e_aload3 dL_law_2284 ?_
  refine e_callW (as := [qR 0 0, qI (xs (i + 1)), qR 12 0]) g_amountIfSettled lkL_279 (c_amountIfSettled F out hG hA hS) rfl rfl dL_law_2285 (Nat.le_of_ble_eq_true rfl) (fun o2 w2 out2 hA2 ho => ?_)
  refine e_istore5 dL_law_2288 rfl (Nat.le_of_ble_eq_true rfl) ?_
  refine e_aload2 dL_law_2290 ?_
  refine e_aloadS dL_law_2291 ?_
  refine e_iload4 dL_law_2292 ?_
  refine e_iconst (z := 1) dL_law_2294 ?_
  first | refine e_iaddN dL_law_2295 ?_ | refine e_iadd dL_law_2295 ?_
  refine e_sldN dL_law_2296 (by omega) hN ?_
  refine e_callM (as := [qI (xs (i + 1))]) fX3_amountIfSettled lkL_281 hB (fun h => p_amountIfSettled h hG hB hS) rfl rfl dL_law_2297 (Nat.le_of_ble_eq_true rfl) rfl (fun r F2 hB2 hr => ?_)
  refine e_istore6 dL_law_2300 rfl (Nat.le_of_ble_eq_true rfl) ?_
  refine e_aload2 dL_law_2302 ?_
  refine e_callT hB2 dL_law_2303 (Nat.le_of_ble_eq_true rfl) ?_
  refine e_iload5 dL_law_2306 ?_
  refine e_icmp_eq 2313 dL_law_2308 (by decide) (fun _ => ?_) (fun q => absurd rfl q)
  refine e_iload5 dL_law_2313 ?_
  refine e_if_ne 2330 dL_law_2315 (by decide) (fun _ => ?_) (fun hz => ?_)
  · refine e_goto 2499 dL_law_2330 (by decide) ?_
    exact K A2 o2 w2 F2 out2 _ _ _ _ hG2 hA2 ⟨_, hB2⟩
  · obtain rfl := nI_code hcode hz
    obtain rfl := hr rfl
    have ho0 := ho rfl
    refine e_aload3 dL_law_2318 ?_
    refine e_iconst (z := 0) dL_law_2319 ?_
    refine e_ldOut dL_law_2320 ?_
    refine e_iload6 dL_law_2321 ?_
    refine e_i2l dL_law_2323 ?_
    refine e_lcmp dL_law_2324 ?_
    rw [ho0, lg_cmp_self]
    refine e_if_eq 2330 dL_law_2325 (by decide) (fun _ => ?_) (fun q => absurd rfl q)
    refine e_goto 2499 dL_law_2330 (by decide) ?_
    exact K A2 o2 w2 F2 out2 _ _ _ _ hG2 hA2 ⟨_, hB2⟩
set_option maxRecDepth 20000 in
set_option maxHeartbeats 4000000 in
theorem L_greatestSize {N : Nat} {xs : Nat → Int32} (hN : N ≤ 2048) {n : Nat} (hn : n < 2 ^ 31) {A : qA} (hG : GA n A) {o : List qE} {w : Fin 16 → qw} (hA : RA A o w) {F : List qE} (hB : RB A F) {out : Nat → Int64} {i : Nat} (hi : i + 4 ≤ N) {l5 l6 l7 l8 : Option qV} {kc ks : Nat} {P : qP} (K : ∀ (A2 : qA) (o2 : List qE) (w2 : Fin 16 → qw) (F2 : List qE) (out2 : Nat → Int64) (a5 a6 a7 a8 : Option qV), GA (n + 2400) A2 → RA A2 o2 w2 → RB A2 F2 → Ev (mL_law N xs) 13 2499 [some qS, some (qR 0 0), some (qR 11 0), some (qR 12 0), some (qI (nI i)), a5, a6, a7, a8] [] 132 (hL o2 w2 F2 out2) kc ks P qNo) : Ev (mL_law N xs) 13 2333 [some qS, some (qR 0 0), some (qR 11 0), some (qR 12 0), some (qI (nI i)), l5, l6, l7, l8] [] 132 (hL o w F out) (kc + 1) (ks + 6) P qNo := by
  obtain ⟨code, v, A2, hcode, hS, hG2⟩ := x_greatestSize hG (xs (i + 1)) (xs (i + 2))
  refine e_aload1 dL_law_2333 ?_
  refine e_aloadS dL_law_2334 ?_
  refine e_iload4 dL_law_2335 ?_
  refine e_iconst (z := 1) dL_law_2337 ?_
  first | refine e_iaddN dL_law_2338 ?_ | refine e_iadd dL_law_2338 ?_
  refine e_sldN dL_law_2339 (by omega) hN ?_
  refine e_aloadS dL_law_2340 ?_
  refine e_iload4 dL_law_2341 ?_
  refine e_iconst (z := 2) dL_law_2343 ?_
  first | refine e_iaddN dL_law_2344 ?_ | refine e_iadd dL_law_2344 ?_
  refine e_sldN dL_law_2345 (by omega) hN ?_
  refine e_aload3 dL_law_2346 ?_
  refine e_callW (as := [qR 0 0, qI (xs (i + 1)), qI (xs (i + 2)), qR 12 0]) g_greatestSize lkL_282 (c_greatestSize F out hG hA hS) rfl rfl dL_law_2347 (Nat.le_of_ble_eq_true rfl) (fun o2 w2 out2 hA2 ho => ?_)
  refine e_istore5 dL_law_2350 rfl (Nat.le_of_ble_eq_true rfl) ?_
  refine e_aload2 dL_law_2352 ?_
  refine e_aloadS dL_law_2353 ?_
  refine e_iload4 dL_law_2354 ?_
  refine e_iconst (z := 1) dL_law_2356 ?_
  first | refine e_iaddN dL_law_2357 ?_ | refine e_iadd dL_law_2357 ?_
  refine e_sldN dL_law_2358 (by omega) hN ?_
  refine e_aloadS dL_law_2359 ?_
  refine e_iload4 dL_law_2360 ?_
  refine e_iconst (z := 2) dL_law_2362 ?_
  first | refine e_iaddN dL_law_2363 ?_ | refine e_iadd dL_law_2363 ?_
  refine e_sldN dL_law_2364 (by omega) hN ?_
  refine e_callM (as := [qI (xs (i + 1)), qI (xs (i + 2))]) fX3_greatestSize lkL_284 hB (fun h => p_greatestSize h hG hB hS) rfl rfl dL_law_2365 (Nat.le_of_ble_eq_true rfl) rfl (fun r F2 hB2 hr => ?_)
  refine e_istore6 dL_law_2368 rfl (Nat.le_of_ble_eq_true rfl) ?_
  refine e_aload2 dL_law_2370 ?_
  refine e_callT hB2 dL_law_2371 (Nat.le_of_ble_eq_true rfl) ?_
  refine e_iload5 dL_law_2374 ?_
  refine e_icmp_eq 2381 dL_law_2376 (by decide) (fun _ => ?_) (fun q => absurd rfl q)
  refine e_iload5 dL_law_2381 ?_
  refine e_if_ne 2398 dL_law_2383 (by decide) (fun _ => ?_) (fun hz => ?_)
  · refine e_goto 2499 dL_law_2398 (by decide) ?_
    exact K A2 o2 w2 F2 out2 _ _ _ _ hG2 hA2 ⟨_, hB2⟩
  · obtain rfl := nI_code hcode hz
    obtain rfl := hr rfl
    have ho0 := ho rfl
    refine e_aload3 dL_law_2386 ?_
    refine e_iconst (z := 0) dL_law_2387 ?_
    refine e_ldOut dL_law_2388 ?_
    refine e_iload6 dL_law_2389 ?_
    refine e_i2l dL_law_2391 ?_
    refine e_lcmp dL_law_2392 ?_
    rw [ho0, lg_cmp_self]
    refine e_if_eq 2398 dL_law_2393 (by decide) (fun _ => ?_) (fun q => absurd rfl q)
    refine e_goto 2499 dL_law_2398 (by decide) ?_
    exact K A2 o2 w2 F2 out2 _ _ _ _ hG2 hA2 ⟨_, hB2⟩
set_option maxRecDepth 20000 in
set_option maxHeartbeats 4000000 in
theorem L_lostShare {N : Nat} {xs : Nat → Int32} (hN : N ≤ 2048) {n : Nat} (hn : n < 2 ^ 31) {A : qA} (hG : GA n A) {o : List qE} {w : Fin 16 → qw} (hA : RA A o w) {F : List qE} (hB : RB A F) {out : Nat → Int64} {i : Nat} (hi : i + 4 ≤ N) {l5 l6 l7 l8 : Option qV} {kc ks : Nat} {P : qP} (K : ∀ (A2 : qA) (o2 : List qE) (w2 : Fin 16 → qw) (F2 : List qE) (out2 : Nat → Int64) (a5 a6 a7 a8 : Option qV), GA (n + 2400) A2 → RA A2 o2 w2 → RB A2 F2 → Ev (mL_law N xs) 13 2499 [some qS, some (qR 0 0), some (qR 11 0), some (qR 12 0), some (qI (nI i)), a5, a6, a7, a8] [] 132 (hL o2 w2 F2 out2) kc ks P qNo) : Ev (mL_law N xs) 13 2401 [some qS, some (qR 0 0), some (qR 11 0), some (qR 12 0), some (qI (nI i)), l5, l6, l7, l8] [] 132 (hL o w F out) (kc + 1) (ks + 6) P qNo := by
  obtain ⟨fs, hF⟩ := ra_at hA
  obtain ⟨fs3, hF3⟩ := rb_at hB
  refine e_aload1 dL_law_2401 ?_
  refine e_vD (b := 0) (o := 0) (M' := mX2_lostShare) (as := []) fX2_lostShare lkL_285 (k_lostShare (h1 F out) hG hn hA) rfl rfl dL_law_2402 hF rfl (by decide) (Nat.le_of_ble_eq_true rfl) rfl ?_
  rintro _ _ ⟨rfl, rfl⟩
  change Ev _ _ _ _ _ _ (hL o w F out) _ _ _ _
  refine e_dstore5 dL_law_2405 rfl (Nat.le_of_ble_eq_true rfl) ?_
  refine e_aload2 dL_law_2407 ?_
  rw [← hL_put o w F F out]
  refine e_vDF (b := 11) (o := 0) (M' := mX3_lostShare) (as := []) fX3_lostShare lkL_289 (p_lostShare _ hG hn hB) rfl rfl dL_law_2408 hF3 rfl (by decide) (Nat.le_of_ble_eq_true rfl) rfl ?_
  rintro _ _ ⟨rfl, F2, hB2, rfl⟩
  rw [hL_put]
  refine e_dstore7 dL_law_2411 rfl (Nat.le_of_ble_eq_true rfl) ?_
  refine e_dload5 dL_law_2413 ?_
  refine e_dload7 dL_law_2415 ?_
  refine e_dcmp dL_law_2417 ?_
  rw [q_dd_self (m_ls_dd (bd_lost hG.1.2 hn).1 (bd_lost hG.1.2 hn).2)]
  refine e_if_eq 2439 dL_law_2418 (by decide) (fun _ => ?_) (fun q => absurd (by decide) q)
  refine e_goto 2499 dL_law_2439 (by decide) ?_
  exact ev_room (K A o w F2 out _ _ _ _ (ga_mono (Nat.le_add_right n 2400) hG) hA hB2) (by omega) (by omega)
set_option maxRecDepth 20000 in
set_option maxHeartbeats 4000000 in
theorem L_meanSize {N : Nat} {xs : Nat → Int32} (hN : N ≤ 2048) {n : Nat} (hn : n < 2 ^ 31) {A : qA} (hG : GA n A) {o : List qE} {w : Fin 16 → qw} (hA : RA A o w) {F : List qE} (hB : RB A F) {out : Nat → Int64} {i : Nat} (hi : i + 4 ≤ N) {l5 l6 l7 l8 : Option qV} {kc ks : Nat} {P : qP} (K : ∀ (A2 : qA) (o2 : List qE) (w2 : Fin 16 → qw) (F2 : List qE) (out2 : Nat → Int64) (a5 a6 a7 a8 : Option qV), GA (n + 2400) A2 → RA A2 o2 w2 → RB A2 F2 → Ev (mL_law N xs) 13 2499 [some qS, some (qR 0 0), some (qR 11 0), some (qR 12 0), some (qI (nI i)), a5, a6, a7, a8] [] 132 (hL o2 w2 F2 out2) kc ks P qNo) : Ev (mL_law N xs) 13 2442 [some qS, some (qR 0 0), some (qR 11 0), some (qR 12 0), some (qI (nI i)), l5, l6, l7, l8] [] 132 (hL o w F out) (kc + 1) (ks + 6) P qNo := by
  obtain ⟨fs, hF⟩ := ra_at hA
  obtain ⟨fs3, hF3⟩ := rb_at hB
  refine e_aload1 dL_law_2442 ?_
  refine e_vF (b := 0) (o := 0) (M' := mX2_meanSize) (as := []) fX2_meanSize lkL_290 (k_meanSize (h1 F out) hG hA) rfl rfl dL_law_2443 hF rfl (by decide) (Nat.le_of_ble_eq_true rfl) rfl ?_
  rintro _ _ ⟨rfl, rfl⟩
  change Ev _ _ _ _ _ _ (hL o w F out) _ _ _ _
  refine e_f2d dL_law_2446 (q_ff_self (m_mean_ff hG.1.1)).2.1 ?_
  refine e_dstore5 dL_law_2447 rfl (Nat.le_of_ble_eq_true rfl) ?_
  refine e_aload2 dL_law_2449 ?_
  rw [← hL_put o w F F out]
  refine e_vFF (b := 11) (o := 0) (M' := mX3_meanSize) (as := []) fX3_meanSize lkL_294 (p_meanSize _ hG hB) rfl rfl dL_law_2450 hF3 rfl (by decide) (Nat.le_of_ble_eq_true rfl) rfl ?_
  rintro _ _ ⟨rfl, F2, hB2, rfl⟩
  rw [hL_put]
  refine e_f2d dL_law_2453 (q_ff_self (m_mean_ff hG.1.1)).2.1 ?_
  refine e_dstore7 dL_law_2454 rfl (Nat.le_of_ble_eq_true rfl) ?_
  refine e_dload5 dL_law_2456 ?_
  refine e_dload7 dL_law_2458 ?_
  refine e_dcmp dL_law_2460 ?_
  rw [(q_ff_self (m_mean_ff hG.1.1)).2.2]
  refine e_if_eq 2482 dL_law_2461 (by decide) (fun _ => ?_) (fun q => absurd (by decide) q)
  refine e_goto 2499 dL_law_2482 (by decide) ?_
  exact ev_room (K A o w F2 out _ _ _ _ (ga_mono (Nat.le_add_right n 2400) hG) hA hB2) (by omega) (by omega)
set_option maxRecDepth 20000 in
set_option maxHeartbeats 4000000 in
theorem L_digest {N : Nat} {xs : Nat → Int32} (hN : N ≤ 2048) {n : Nat} (hn : n < 2 ^ 31) {A : qA} (hG : GA n A) {o : List qE} {w : Fin 16 → qw} (hA : RA A o w) {F : List qE} (hB : RB A F) {out : Nat → Int64} {i : Nat} (hi : i + 4 ≤ N) {l5 l6 l7 l8 : Option qV} {kc ks : Nat} {P : qP} (K : ∀ (A2 : qA) (o2 : List qE) (w2 : Fin 16 → qw) (F2 : List qE) (out2 : Nat → Int64) (a5 a6 a7 a8 : Option qV), GA (n + 2400) A2 → RA A2 o2 w2 → RB A2 F2 → Ev (mL_law N xs) 13 2499 [some qS, some (qR 0 0), some (qR 11 0), some (qR 12 0), some (qI (nI i)), a5, a6, a7, a8] [] 132 (hL o2 w2 F2 out2) kc ks P qNo) : Ev (mL_law N xs) 13 2485 [some qS, some (qR 0 0), some (qR 11 0), some (qR 12 0), some (qI (nI i)), l5, l6, l7, l8] [] 132 (hL o w F out) (kc + 1) (ks + 6) P qNo := by
  obtain ⟨fs, hF⟩ := ra_at hA
  obtain ⟨fs3, hF3⟩ := rb_at hB
  refine e_aload1 dL_law_2485 ?_
  refine e_vL (b := 0) (o := 0) (M' := mX2_digest) (as := []) fX2_digest lkL_295 (k_digest (h1 F out) hG hn hA) rfl rfl dL_law_2486 hF rfl (by decide) (Nat.le_of_ble_eq_true rfl) rfl ?_
  rintro _ _ ⟨rfl, w2, rfl, hA2⟩
  change Ev _ _ _ _ _ _ (hL o w2 F out) _ _ _ _
  refine e_aload2 dL_law_2489 ?_
  rw [← hL_put o w2 F F out]
  refine e_vLF (b := 11) (o := 0) (M' := mX3_digest) (as := []) fX3_digest lkL_299 (p_digest _ hG hn hB) rfl rfl dL_law_2490 hF3 rfl (by decide) (Nat.le_of_ble_eq_true rfl) rfl ?_
  rintro _ _ ⟨rfl, F2, hB2, rfl⟩
  rw [hL_put]
  refine e_lcmp dL_law_2493 ?_
  rw [lg_cmp_self]
  refine e_if_eq 2499 dL_law_2494 (by decide) (fun _ => ?_) (fun q => absurd rfl q)
  exact ev_room (K A o w2 F2 out _ _ _ _ (ga_mono (Nat.le_add_right n 2400) hG) hA2 hB2) (by omega) (by omega)
