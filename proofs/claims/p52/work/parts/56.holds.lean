/-! THE LAW'S ANSWER ABOUT A STATE -/
theorem z_amt {X : qm} (hA : Am X) {s : Nat} (hs : s < 4) : ∃ a : Nat, a ≤ 999 ∧ X.2 s = nI a := by
  have r := am_rng hA hs
  refine ⟨(X.2 s).toInt.toNat, by omega, ?_⟩
  apply Int32.toInt_inj.mp
  rw [nI_toInt (by omega)]
  omega
set_option maxRecDepth 20000 in
set_option maxHeartbeats 4000000 in
theorem w_holds (h : qB) (pi : Nat → Option qK) (buf : Nat → Int32) (cnt sn len : Int32) (rd : Nat → Int32) (w : Fin 16 → qw) (X : qm) (hR : RelC (w 1) X) {n : Nat} (hZ : GZ n X) (hn : n < 2 ^ 31) : CtI mL_holds 3 [qR 0 0] (hK h (oC pi buf cnt sn len rd) w 10) (fun r h2 => r = nI 1 ∧ h2 = hK h (oC pi buf cnt sn len rd) w 10) := by
  obtain ⟨hJ, hBd, hA, hM⟩ := id hZ
  have hBd1 := hBd.1
  have hBd2 := hBd.2
  have i1 := iV1 hJ.1
  have i2 := iV2 hJ.1
  refine ct_of (by decide +kernel) rfl rfl (Nat.le_of_ble_eq_true rfl) ?_
  show Ev mL_holds 3 0 [some (qR 0 0), none, none, none, none, none, none, none, none, none] [] 124 (hK h (oC pi buf cnt sn len rd) w 10) 0 0 _ _
  refine e_iconst (z := 0) dL_holds_0 ?_
  refine e_istore1 dL_holds_1 rfl (by decide) ?_
  have H1 : ∀ (m i : Nat) (l2 l3 l4 l5 l6 l7 l8 l9 : Option qV), i ≤ X.1 0 0 → m = X.1 0 0 - i →  Ev mL_holds 3 2 [some (qR 0 0), some (qI (nI i)), l2, l3, l4, l5, l6, l7, l8, l9] [] 124 (hK h (oC pi buf cnt sn len rd) w 10) 0 0 (fun r n h' => ∃ x, r = some (qI x) ∧ n = 124 ∧ ((fun r h2 => r = nI 1 ∧ h2 = hK h (oC pi buf cnt sn len rd) w 10)) x h') qNo := by
    intro m
    induction m using Nat.strongRecOn with
    | _ m ih =>
    intro i l2 l3 l4 l5 l6 l7 l8 l9 hi hm
    refine e_iload1 dL_holds_2 ?_
    refine e_aload0 dL_holds_3 ?_
    refine e_vI (M' := mX2_transfers) fX2_transfers lkL_12 (v_transfers h pi buf cnt sn len rd w X hR hJ) rfl rfl dL_holds_4 (by rw [hK_0]; rfl) rfl (by decide) (Nat.le_of_ble_eq_true rfl) rfl ?_
    rintro _ _ ⟨rfl, rfl⟩
    first | refine e_icmp_geN 273 dL_holds_7 (by decide) (by omega) (by omega) (fun hc7 => ?_) (fun hc7 => ?_) | refine e_icmp_ge 273 dL_holds_7 (by decide) (fun hc7 => ?_) (fun hc7 => ?_)
    · refine e_iconst (z := 0) dL_holds_273 ?_
      refine e_istore1 dL_holds_274 rfl (by decide) ?_
      have H4 : ∀ (m i : Nat) (l2 l3 l4 l5 l6 l7 l8 l9 : Option qV), i ≤ 4 → m = 4 - i →  Ev mL_holds 3 275 [some (qR 0 0), some (qI (nI i)), l2, l3, l4, l5, l6, l7, l8, l9] [] 124 (hK h (oC pi buf cnt sn len rd) w 10) 0 0 (fun r n h' => ∃ x, r = some (qI x) ∧ n = 124 ∧ ((fun r h2 => r = nI 1 ∧ h2 = hK h (oC pi buf cnt sn len rd) w 10)) x h') qNo := by
        intro m
        induction m using Nat.strongRecOn with
        | _ m ih =>
        intro i l2 l3 l4 l5 l6 l7 l8 l9 hi hm
        refine e_iload1 dL_holds_275 ?_
        refine e_iconst (z := 4) dL_holds_276 ?_
        first | refine e_icmp_geN 330 dL_holds_277 (by decide) (by omega) (by omega) (fun hc277 => ?_) (fun hc277 => ?_) | refine e_icmp_ge 330 dL_holds_277 (by decide) (fun hc277 => ?_) (fun hc277 => ?_)
        · have zl := z_ls hBd hn
          have zl0 := z_ls0 hBd hn
          have hl4 := iV8 hJ.1
          refine e_aload0 dL_holds_330 ?_
          refine e_vI (M' := mX2_total) fX2_total lkL_27 (v_total h pi buf cnt sn len rd w X hR hJ) rfl rfl dL_holds_331 (by rw [hK_0]; rfl) rfl (by decide) (Nat.le_of_ble_eq_true rfl) rfl ?_
          rintro _ _ ⟨rfl, rfl⟩
          refine e_aload0 dL_holds_334 ?_
          refine e_vI (M' := mX2_onTheWay) fX2_onTheWay lkL_111 (v_onTheWay h pi buf cnt sn len rd w X hR hJ) rfl rfl dL_holds_335 (by rw [hK_0]; rfl) rfl (by decide) (Nat.le_of_ble_eq_true rfl) rfl ?_
          rintro _ _ ⟨rfl, rfl⟩
          refine e_iadd dL_holds_338 ?_
          refine e_sipush (v := nI 400) dL_holds_339 (by decide) ?_
          rw [z_400 hZ]
          first | refine e_icmp_neN 395 dL_holds_342 (by decide) (by omega) (by omega) (fun hc342 => ?_) (fun hc342 => ?_) | refine e_icmp_ne 395 dL_holds_342 (by decide) (fun hc342 => ?_) (fun hc342 => ?_)
          · exfalso
            omega
          · refine e_aload0 dL_holds_345 ?_
            refine e_vI (M' := mX2_sent) fX2_sent lkL_21 (v_sent h pi buf cnt sn len rd w X hR hJ) rfl rfl dL_holds_346 (by rw [hK_0]; rfl) rfl (by decide) (Nat.le_of_ble_eq_true rfl) rfl ?_
            rintro _ _ ⟨rfl, rfl⟩
            refine e_aload0 dL_holds_349 ?_
            refine e_vI (M' := mX2_sentByAccount) fX2_sentByAccount lkL_114 (v_sentByAccount h pi buf cnt sn len rd w X hR hJ) rfl rfl dL_holds_350 (by rw [hK_0]; rfl) rfl (by decide) (Nat.le_of_ble_eq_true rfl) rfl ?_
            rintro _ _ ⟨rfl, rfl⟩
            rw [nI_add, nI_add, hBd.2]
            first | refine e_icmp_neN 395 dL_holds_353 (by decide) (by omega) (by omega) (fun hc353 => ?_) (fun hc353 => ?_) | refine e_icmp_ne 395 dL_holds_353 (by decide) (fun hc353 => ?_) (fun hc353 => ?_)
            · exfalso
              omega
            · refine e_aload0 dL_holds_356 ?_
              refine e_vI (M' := mX2_lost) fX2_lost lkL_24 (v_lost h pi buf cnt sn len rd w X hR hJ) rfl rfl dL_holds_357 (by rw [hK_0]; rfl) rfl (by decide) (Nat.le_of_ble_eq_true rfl) rfl ?_
              rintro _ _ ⟨rfl, rfl⟩
              refine e_aload0 dL_holds_360 ?_
              refine e_vI (M' := mX2_waiting) fX2_waiting lkL_18 (v_waiting h pi buf cnt sn len rd w X hR hJ) rfl rfl dL_holds_361 (by rw [hK_0]; rfl) rfl (by decide) (Nat.le_of_ble_eq_true rfl) rfl ?_
              rintro _ _ ⟨rfl, rfl⟩
              first | refine e_iaddN dL_holds_364 ?_ | refine e_iadd dL_holds_364 ?_
              refine e_aload0 dL_holds_365 ?_
              refine e_vI (M' := mX2_sent) fX2_sent lkL_21 (v_sent h pi buf cnt sn len rd w X hR hJ) rfl rfl dL_holds_366 (by rw [hK_0]; rfl) rfl (by decide) (Nat.le_of_ble_eq_true rfl) rfl ?_
              rintro _ _ ⟨rfl, rfl⟩
              first | refine e_icmp_gtN 395 dL_holds_369 (by decide) (by omega) (by omega) (fun hc369 => ?_) (fun hc369 => ?_) | refine e_icmp_gt 395 dL_holds_369 (by decide) (fun hc369 => ?_) (fun hc369 => ?_)
              · exfalso
                omega
              · refine e_aload0 dL_holds_372 ?_
                refine e_vI (M' := mX2_waiting) fX2_waiting lkL_18 (v_waiting h pi buf cnt sn len rd w X hR hJ) rfl rfl dL_holds_373 (by rw [hK_0]; rfl) rfl (by decide) (Nat.le_of_ble_eq_true rfl) rfl ?_
                rintro _ _ ⟨rfl, rfl⟩
                refine e_bipush (v := nI 60) dL_holds_376 (by decide) ?_
                first | refine e_icmp_gtN 395 dL_holds_378 (by decide) (by omega) (by omega) (fun hc378 => ?_) (fun hc378 => ?_) | refine e_icmp_gt 395 dL_holds_378 (by decide) (fun hc378 => ?_) (fun hc378 => ?_)
                · exfalso
                  omega
                · refine e_aload0 dL_holds_381 ?_
                  refine e_iconst (z := 4) dL_holds_382 ?_
                  refine e_vI (M' := mX2_records) fX2_records lkL_34 (v_records h pi buf cnt sn len rd w X hR hJ (k := 4) (by decide)) rfl rfl dL_holds_383 (by rw [hK_0]; rfl) rfl (by decide) (Nat.le_of_ble_eq_true rfl) rfl ?_
                  rintro _ _ ⟨rfl, rfl⟩
                  refine e_bipush (v := nI 24) dL_holds_386 (by decide) ?_
                  first | refine e_icmp_gtN 395 dL_holds_388 (by decide) (by omega) (by omega) (fun hc388 => ?_) (fun hc388 => ?_) | refine e_icmp_gt 395 dL_holds_388 (by decide) (fun hc388 => ?_) (fun hc388 => ?_)
                  · exfalso
                    omega
                  · refine e_iconst (z := 1) dL_holds_391 ?_
                    refine e_goto 396 dL_holds_392 (by decide) ?_
                    refine e_istore1 dL_holds_396 rfl (by decide) ?_
                    refine e_iload1 dL_holds_397 ?_
                    first | refine e_if_eqN 461 dL_holds_398 (by decide) (by omega) (fun hc398 => ?_) (fun hc398 => ?_) | refine e_if_eq 461 dL_holds_398 (by decide) (fun hc398 => ?_) (fun hc398 => ?_)
                    · exfalso
                      omega
                    · refine e_aload0 dL_holds_401 ?_
                      refine e_vD (M' := mX2_lostShare) fX2_lostShare lkL_117 (v_lostShare h pi buf cnt sn len rd w X hR hJ zl.1 zl.2.1) rfl rfl dL_holds_402 (by rw [hK_0]; rfl) rfl (by decide) (Nat.le_of_ble_eq_true rfl) rfl ?_
                      rintro _ _ ⟨rfl, rfl⟩
                      refine e_dconst0 dL_holds_405 ?_
                      refine e_dcmp dL_holds_406 ?_
                      refine e_if_lt 461 dL_holds_407 (by decide) (fun hc => absurd hc zl0.1) (fun hc407 => ?_)
                      refine e_aload0 dL_holds_410 ?_
                      refine e_vD (M' := mX2_lostShare) fX2_lostShare lkL_117 (v_lostShare h pi buf cnt sn len rd w X hR hJ zl.1 zl.2.1) rfl rfl dL_holds_411 (by rw [hK_0]; rfl) rfl (by decide) (Nat.le_of_ble_eq_true rfl) rfl ?_
                      rintro _ _ ⟨rfl, rfl⟩
                      refine e_dconst1 dL_holds_414 ?_
                      refine e_dcmp dL_holds_415 ?_
                      refine e_if_gt 461 dL_holds_416 (by decide) (fun hc => absurd hc (Int32.not_lt.mpr zl0.2)) (fun hc416 => ?_)
                      refine e_aload0 dL_holds_419 ?_
                      refine e_vI (M' := mX2_transfers) fX2_transfers lkL_12 (v_transfers h pi buf cnt sn len rd w X hR hJ) rfl rfl dL_holds_420 (by rw [hK_0]; rfl) rfl (by decide) (Nat.le_of_ble_eq_true rfl) rfl ?_
                      rintro _ _ ⟨rfl, rfl⟩
                      first | refine e_if_neN 438 dL_holds_423 (by decide) (by omega) (fun hc423 => ?_) (fun hc423 => ?_) | refine e_if_ne 438 dL_holds_423 (by decide) (fun hc423 => ?_) (fun hc423 => ?_)
                      · refine e_aload0 dL_holds_438 ?_
                        refine e_vF (M' := mX2_meanSize) fX2_meanSize lkL_121 (v_meanSize h pi buf cnt sn len rd w X hR hJ) rfl rfl dL_holds_439 (by rw [hK_0]; rfl) rfl (by decide) (Nat.le_of_ble_eq_true rfl) rfl ?_
                        rintro _ _ ⟨rfl, rfl⟩
                        refine e_fconst1 dL_holds_442 ?_
                        refine e_fcmp dL_holds_443 ?_
                        refine e_if_lt 461 dL_holds_444 (by decide) (fun hc => absurd hc (z_mean hJ (by omega)).1) (fun hc444 => ?_)
                        refine e_aload0 dL_holds_447 ?_
                        refine e_vF (M' := mX2_meanSize) fX2_meanSize lkL_121 (v_meanSize h pi buf cnt sn len rd w X hR hJ) rfl rfl dL_holds_448 (by rw [hK_0]; rfl) rfl (by decide) (Nat.le_of_ble_eq_true rfl) rfl ?_
                        rintro _ _ ⟨rfl, rfl⟩
                        refine e_ldcF ckL_125 dL_holds_451 ?_
                        refine e_fcmp dL_holds_453 ?_
                        refine e_if_gt 461 dL_holds_454 (by decide) (fun hc => absurd hc (Int32.not_lt.mpr (z_mean hJ (by omega)).2)) (fun hc454 => ?_)
                        refine e_iconst (z := 1) dL_holds_457 ?_
                        refine e_goto 462 dL_holds_458 (by decide) ?_
                        refine e_zret dL_holds_462 rfl (by first | rfl | exact q_nar _) ?_
                        exact ⟨_, rfl, rfl, rfl, rfl⟩
                      · refine e_aload0 dL_holds_426 ?_
                        refine e_vF (M' := mX2_meanSize) fX2_meanSize lkL_121 (v_meanSize h pi buf cnt sn len rd w X hR hJ) rfl rfl dL_holds_427 (by rw [hK_0]; rfl) rfl (by decide) (Nat.le_of_ble_eq_true rfl) rfl ?_
                        rintro _ _ ⟨rfl, rfl⟩
                        refine e_fconst0 dL_holds_430 ?_
                        refine e_fcmp dL_holds_431 ?_
                        rw [z_mean0 (X := X) (by omega)]
                        refine e_if_ne 461 dL_holds_432 (by decide) (fun hc => absurd rfl hc) (fun hc432 => ?_)
                        refine e_goto 457 dL_holds_435 (by decide) ?_
                        refine e_iconst (z := 1) dL_holds_457 ?_
                        refine e_goto 462 dL_holds_458 (by decide) ?_
                        refine e_zret dL_holds_462 rfl (by first | rfl | exact q_nar _) ?_
                        exact ⟨_, rfl, rfl, rfl, rfl⟩
        · obtain ⟨a, ha, ea⟩ : ∃ a : Nat, a ≤ 999 ∧ X.2 i = nI a := z_amt hM (by omega)
          have hlog := (hM i (by omega)).2.1
          have hl := iV7 hJ.1 i (by omega)
          refine e_aload0 dL_holds_280 ?_
          refine e_iload1 dL_holds_281 ?_
          refine e_vI (M' := mX2_amount) fX2_amount lkL_105 (v_amount h pi buf cnt sn len rd w X hR hJ (s := i) (by omega)) rfl rfl dL_holds_282 (by rw [hK_0]; rfl) rfl (by decide) (Nat.le_of_ble_eq_true rfl) rfl ?_
          rintro _ _ ⟨rfl, rfl⟩
          rw [ea]
          refine e_aload0 dL_holds_285 ?_
          refine e_iload1 dL_holds_286 ?_
          refine e_vI (M' := mX2_amountByLog) fX2_amountByLog lkL_108 (v_amountByLog h pi buf cnt sn len rd w X hR hJ (s := i) (by omega)) rfl rfl dL_holds_287 (by rw [hK_0]; rfl) rfl (by decide) (Nat.le_of_ble_eq_true rfl) rfl ?_
          rintro _ _ ⟨rfl, rfl⟩
          rw [hlog, ea]
          first | refine e_icmp_neN 322 dL_holds_290 (by decide) (by omega) (by omega) (fun hc290 => ?_) (fun hc290 => ?_) | refine e_icmp_ne 322 dL_holds_290 (by decide) (fun hc290 => ?_) (fun hc290 => ?_)
          · exfalso
            omega
          · refine e_aload0 dL_holds_293 ?_
            refine e_iload1 dL_holds_294 ?_
            refine e_vI (M' := mX2_amount) fX2_amount lkL_105 (v_amount h pi buf cnt sn len rd w X hR hJ (s := i) (by omega)) rfl rfl dL_holds_295 (by rw [hK_0]; rfl) rfl (by decide) (Nat.le_of_ble_eq_true rfl) rfl ?_
            rintro _ _ ⟨rfl, rfl⟩
            rw [ea]
            refine e_if_lt 322 dL_holds_298 (by decide) (fun hc => absurd hc (nI_pos (by omega))) (fun hc298 => ?_)
            refine e_aload0 dL_holds_301 ?_
            refine e_iload1 dL_holds_302 ?_
            refine e_vI (M' := mX2_amount) fX2_amount lkL_105 (v_amount h pi buf cnt sn len rd w X hR hJ (s := i) (by omega)) rfl rfl dL_holds_303 (by rw [hK_0]; rfl) rfl (by decide) (Nat.le_of_ble_eq_true rfl) rfl ?_
            rintro _ _ ⟨rfl, rfl⟩
            rw [ea]
            refine e_sipush (v := nI 999) dL_holds_306 (by decide) ?_
            first | refine e_icmp_gtN 322 dL_holds_309 (by decide) (by omega) (by omega) (fun hc309 => ?_) (fun hc309 => ?_) | refine e_icmp_gt 322 dL_holds_309 (by decide) (fun hc309 => ?_) (fun hc309 => ?_)
            · exfalso
              omega
            · refine e_aload0 dL_holds_312 ?_
              refine e_iload1 dL_holds_313 ?_
              refine e_vI (M' := mX2_records) fX2_records lkL_34 (v_records h pi buf cnt sn len rd w X hR hJ (k := i) (by omega)) rfl rfl dL_holds_314 (by rw [hK_0]; rfl) rfl (by decide) (Nat.le_of_ble_eq_true rfl) rfl ?_
              rintro _ _ ⟨rfl, rfl⟩
              refine e_bipush (v := nI 16) dL_holds_317 (by decide) ?_
              first | refine e_icmp_leN 324 dL_holds_319 (by decide) (by omega) (by omega) (fun hc319 => ?_) (fun hc319 => ?_) | refine e_icmp_le 324 dL_holds_319 (by decide) (fun hc319 => ?_) (fun hc319 => ?_)
              · first | refine e_iinc1N (z := 1) dL_holds_324 rfl (by decide) ?_ | refine e_iinc1 dL_holds_324 rfl rfl (by decide) ?_
                refine e_goto 275 dL_holds_327 (by decide) ?_
                exact ih _ (by omega) (i + 1) _ _ _ _ _ _ _ _ (by omega) rfl
              · exfalso
                omega
      exact H4 _ 0 _ _ _ _ _ _ _ _ (Nat.zero_le _) rfl
    · have ht : i < X.1 0 0 := by omega
      have h7 := (iV4 hJ.1 i (by omega)).2.2.2.2.2.1
      refine e_aload0 dL_holds_10 ?_
      refine e_iload1 dL_holds_11 ?_
      refine e_vI (M' := mX2_outcome) fX2_outcome lkL_38 (v_outcome h pi buf cnt sn len rd w X hR hJ (t := i) (by omega)) rfl rfl dL_holds_12 (by rw [hK_0]; rfl) rfl (by decide) (Nat.le_of_ble_eq_true rfl) rfl ?_
      rintro _ _ ⟨rfl, rfl⟩
      refine e_istore2 dL_holds_15 rfl (by decide) ?_
      refine e_aload0 dL_holds_16 ?_
      refine e_iload1 dL_holds_17 ?_
      refine e_vI (M' := mX2_outcomeByStores) fX2_outcomeByStores lkL_90 (v_outcomeByStores h pi buf cnt sn len rd w X hR hJ (t := i) (by omega)) rfl rfl dL_holds_18 (by rw [hK_0]; rfl) rfl (by decide) (Nat.le_of_ble_eq_true rfl) rfl ?_
      rintro _ _ ⟨rfl, rfl⟩
      refine e_istore3 dL_holds_21 rfl (by decide) ?_
      refine e_iconst (z := 0) dL_holds_22 ?_
      refine e_istore4 dL_holds_23 rfl (by decide) ?_
      refine e_iconst (z := 0) dL_holds_25 ?_
      refine e_istore5 dL_holds_26 rfl (by decide) ?_
      refine e_iconst (z := 0) dL_holds_28 ?_
      refine e_istore6 dL_holds_29 rfl (by decide) ?_
      have H2 : ∀ (m2 j : Nat) (sh : Int32) (O : Nat) (l7 l8 l9 : Option qV), j ≤ 4 → m2 = 4 - j → sh = l_sh X i j → O ≤ 1 → (X.1 8 i = 1 → O = 0) → Ev mL_holds 3 31 [some (qR 0 0), some (qI (nI i)), some (qI (nI (X.1 7 i))), some (qI (nI (m_seen X i 4))), some (qI sh), some (qI (nI O)), some (qI (nI j)), l7, l8, l9] [] 124 (hK h (oC pi buf cnt sn len rd) w 10) 0 0 (fun r n h' => ∃ x, r = some (qI x) ∧ n = 124 ∧ ((fun r h2 => r = nI 1 ∧ h2 = hK h (oC pi buf cnt sn len rd) w 10)) x h') qNo := by
        intro m2
        induction m2 using Nat.strongRecOn with
        | _ m2 ih2 =>
        intro j sh O l7 l8 l9 hj hm2 hsh ho1 ho2
        refine e_iload6 dL_holds_31 ?_
        refine e_iconst (z := 4) dL_holds_33 ?_
        first | refine e_icmp_geN 196 dL_holds_34 (by decide) (by omega) (by omega) (fun hc34 => ?_) (fun hc34 => ?_) | refine e_icmp_ge 196 dL_holds_34 (by decide) (fun hc34 => ?_) (fun hc34 => ?_)
        · obtain rfl : j = 4 := by omega
          have zs := z_seen hA ht
          have zl4 := m_seen_lt X i 4
          have zq := hA.1 i 0 ht (by decide)
          unfold z_X z_q at zq
          have q6 := zq.2.2.2.2.2
          refine e_iload3 dL_holds_196 ?_
          refine e_iconst (z := 3) dL_holds_197 ?_
          first | refine e_icmp_eqN 265 dL_holds_198 (by decide) (by omega) (by omega) (fun hc198 => ?_) (fun hc198 => ?_) | refine e_icmp_eq 265 dL_holds_198 (by decide) (fun hc198 => ?_) (fun hc198 => ?_)
          · exfalso
            omega
          · refine e_iload3 dL_holds_201 ?_
            refine e_iconst (z := 1) dL_holds_202 ?_
            first | refine e_icmp_neN 211 dL_holds_203 (by decide) (by omega) (by omega) (fun hc203 => ?_) (fun hc203 => ?_) | refine e_icmp_ne 211 dL_holds_203 (by decide) (fun hc203 => ?_) (fun hc203 => ?_)
            · refine e_iload4 dL_holds_211 ?_
              rw [hsh, z_shI hJ ht]
              first | refine e_if_neN 265 dL_holds_213 (by decide) (by omega) (fun hc213 => ?_) (fun hc213 => ?_) | refine e_if_ne 265 dL_holds_213 (by decide) (fun hc213 => ?_) (fun hc213 => ?_)
              · exfalso
                omega
              · refine e_aload0 dL_holds_216 ?_
                refine e_iload1 dL_holds_217 ?_
                refine e_vI (M' := mX2_hasEnded) fX2_hasEnded lkL_102 (v_hasEnded h pi buf cnt sn len rd w X hR hJ (t := i) (by omega)) rfl rfl dL_holds_218 (by rw [hK_0]; rfl) rfl (by decide) (Nat.le_of_ble_eq_true rfl) rfl ?_
                rintro _ _ ⟨rfl, rfl⟩
                generalize hB : decide (X.1 8 i = 1) = B1
                have hb1 : B1.toNat < 2 := by cases B1 <;> decide
                have hb2 : B1.toNat = 1 ↔ X.1 8 i = 1 := by rw [← hB]; by_cases q : X.1 8 i = 1 <;> simp [q]
                first | refine e_if_eqN 233 dL_holds_221 (by decide) (by omega) (fun hc221 => ?_) (fun hc221 => ?_) | refine e_if_eq 233 dL_holds_221 (by decide) (fun hc221 => ?_) (fun hc221 => ?_)
                · refine e_aload0 dL_holds_233 ?_
                  refine e_iload1 dL_holds_234 ?_
                  refine e_vI (M' := mX2_saidYes) fX2_saidYes lkL_41 (v_saidYes h pi buf cnt sn len rd w X hR hJ (t := i) (by omega)) rfl rfl dL_holds_235 (by rw [hK_0]; rfl) rfl (by decide) (Nat.le_of_ble_eq_true rfl) rfl ?_
                  rintro _ _ ⟨rfl, rfl⟩
                  refine e_aload0 dL_holds_238 ?_
                  refine e_iload1 dL_holds_239 ?_
                  refine e_vI (M' := mX2_partners) fX2_partners lkL_93 (v_partners h pi buf cnt sn len rd w X hR hJ (t := i) (by omega)) rfl rfl dL_holds_240 (by rw [hK_0]; rfl) rfl (by decide) (Nat.le_of_ble_eq_true rfl) rfl ?_
                  rintro _ _ ⟨rfl, rfl⟩
                  refine e_iconstM dL_holds_243 ?_
                  refine e_ixor dL_holds_244 ?_
                  refine e_iand dL_holds_245 ?_
                  rw [(z_yes hJ hA ht).1]
                  first | refine e_if_neN 265 dL_holds_246 (by decide) (by omega) (fun hc246 => ?_) (fun hc246 => ?_) | refine e_if_ne 265 dL_holds_246 (by decide) (fun hc246 => ?_) (fun hc246 => ?_)
                  · exfalso
                    omega
                  · refine e_aload0 dL_holds_249 ?_
                    refine e_iload1 dL_holds_250 ?_
                    refine e_vI (M' := mX2_saidDone) fX2_saidDone lkL_44 (v_saidDone h pi buf cnt sn len rd w X hR hJ (t := i) (by omega)) rfl rfl dL_holds_251 (by rw [hK_0]; rfl) rfl (by decide) (Nat.le_of_ble_eq_true rfl) rfl ?_
                    rintro _ _ ⟨rfl, rfl⟩
                    refine e_aload0 dL_holds_254 ?_
                    refine e_iload1 dL_holds_255 ?_
                    refine e_vI (M' := mX2_partners) fX2_partners lkL_93 (v_partners h pi buf cnt sn len rd w X hR hJ (t := i) (by omega)) rfl rfl dL_holds_256 (by rw [hK_0]; rfl) rfl (by decide) (Nat.le_of_ble_eq_true rfl) rfl ?_
                    rintro _ _ ⟨rfl, rfl⟩
                    refine e_iconstM dL_holds_259 ?_
                    refine e_ixor dL_holds_260 ?_
                    refine e_iand dL_holds_261 ?_
                    rw [(z_yes hJ hA ht).2]
                    first | refine e_if_eqN 267 dL_holds_262 (by decide) (by omega) (fun hc262 => ?_) (fun hc262 => ?_) | refine e_if_eq 267 dL_holds_262 (by decide) (fun hc262 => ?_) (fun hc262 => ?_)
                    · first | refine e_iinc1N (z := 1) dL_holds_267 rfl (by decide) ?_ | refine e_iinc1 dL_holds_267 rfl rfl (by decide) ?_
                      refine e_goto 2 dL_holds_270 (by decide) ?_
                      exact ih _ (by omega) (i + 1) _ _ _ _ _ _ _ _ (by omega) rfl
                    · exfalso
                      omega
                · refine e_iload2 dL_holds_224 ?_
                  first | refine e_if_eqN 265 dL_holds_225 (by decide) (by omega) (fun hc225 => ?_) (fun hc225 => ?_) | refine e_if_eq 265 dL_holds_225 (by decide) (fun hc225 => ?_) (fun hc225 => ?_)
                  · exfalso
                    omega
                  · refine e_iload5 dL_holds_228 ?_
                    first | refine e_if_neN 265 dL_holds_230 (by decide) (by omega) (fun hc230 => ?_) (fun hc230 => ?_) | refine e_if_ne 265 dL_holds_230 (by decide) (fun hc230 => ?_) (fun hc230 => ?_)
                    · exfalso
                      omega
                    · refine e_aload0 dL_holds_233 ?_
                      refine e_iload1 dL_holds_234 ?_
                      refine e_vI (M' := mX2_saidYes) fX2_saidYes lkL_41 (v_saidYes h pi buf cnt sn len rd w X hR hJ (t := i) (by omega)) rfl rfl dL_holds_235 (by rw [hK_0]; rfl) rfl (by decide) (Nat.le_of_ble_eq_true rfl) rfl ?_
                      rintro _ _ ⟨rfl, rfl⟩
                      refine e_aload0 dL_holds_238 ?_
                      refine e_iload1 dL_holds_239 ?_
                      refine e_vI (M' := mX2_partners) fX2_partners lkL_93 (v_partners h pi buf cnt sn len rd w X hR hJ (t := i) (by omega)) rfl rfl dL_holds_240 (by rw [hK_0]; rfl) rfl (by decide) (Nat.le_of_ble_eq_true rfl) rfl ?_
                      rintro _ _ ⟨rfl, rfl⟩
                      refine e_iconstM dL_holds_243 ?_
                      refine e_ixor dL_holds_244 ?_
                      refine e_iand dL_holds_245 ?_
                      rw [(z_yes hJ hA ht).1]
                      first | refine e_if_neN 265 dL_holds_246 (by decide) (by omega) (fun hc246 => ?_) (fun hc246 => ?_) | refine e_if_ne 265 dL_holds_246 (by decide) (fun hc246 => ?_) (fun hc246 => ?_)
                      · exfalso
                        omega
                      · refine e_aload0 dL_holds_249 ?_
                        refine e_iload1 dL_holds_250 ?_
                        refine e_vI (M' := mX2_saidDone) fX2_saidDone lkL_44 (v_saidDone h pi buf cnt sn len rd w X hR hJ (t := i) (by omega)) rfl rfl dL_holds_251 (by rw [hK_0]; rfl) rfl (by decide) (Nat.le_of_ble_eq_true rfl) rfl ?_
                        rintro _ _ ⟨rfl, rfl⟩
                        refine e_aload0 dL_holds_254 ?_
                        refine e_iload1 dL_holds_255 ?_
                        refine e_vI (M' := mX2_partners) fX2_partners lkL_93 (v_partners h pi buf cnt sn len rd w X hR hJ (t := i) (by omega)) rfl rfl dL_holds_256 (by rw [hK_0]; rfl) rfl (by decide) (Nat.le_of_ble_eq_true rfl) rfl ?_
                        rintro _ _ ⟨rfl, rfl⟩
                        refine e_iconstM dL_holds_259 ?_
                        refine e_ixor dL_holds_260 ?_
                        refine e_iand dL_holds_261 ?_
                        rw [(z_yes hJ hA ht).2]
                        first | refine e_if_eqN 267 dL_holds_262 (by decide) (by omega) (fun hc262 => ?_) (fun hc262 => ?_) | refine e_if_eq 267 dL_holds_262 (by decide) (fun hc262 => ?_) (fun hc262 => ?_)
                        · first | refine e_iinc1N (z := 1) dL_holds_267 rfl (by decide) ?_ | refine e_iinc1 dL_holds_267 rfl rfl (by decide) ?_
                          refine e_goto 2 dL_holds_270 (by decide) ?_
                          exact ih _ (by omega) (i + 1) _ _ _ _ _ _ _ _ (by omega) rfl
                        · exfalso
                          omega
            · refine e_iload2 dL_holds_206 ?_
              refine e_iconst (z := 1) dL_holds_207 ?_
              first | refine e_icmp_neN 265 dL_holds_208 (by decide) (by omega) (by omega) (fun hc208 => ?_) (fun hc208 => ?_) | refine e_icmp_ne 265 dL_holds_208 (by decide) (fun hc208 => ?_) (fun hc208 => ?_)
              · exfalso
                omega
              · refine e_iload4 dL_holds_211 ?_
                rw [hsh, z_shI hJ ht]
                first | refine e_if_neN 265 dL_holds_213 (by decide) (by omega) (fun hc213 => ?_) (fun hc213 => ?_) | refine e_if_ne 265 dL_holds_213 (by decide) (fun hc213 => ?_) (fun hc213 => ?_)
                · exfalso
                  omega
                · refine e_aload0 dL_holds_216 ?_
                  refine e_iload1 dL_holds_217 ?_
                  refine e_vI (M' := mX2_hasEnded) fX2_hasEnded lkL_102 (v_hasEnded h pi buf cnt sn len rd w X hR hJ (t := i) (by omega)) rfl rfl dL_holds_218 (by rw [hK_0]; rfl) rfl (by decide) (Nat.le_of_ble_eq_true rfl) rfl ?_
                  rintro _ _ ⟨rfl, rfl⟩
                  generalize hB : decide (X.1 8 i = 1) = B1
                  have hb1 : B1.toNat < 2 := by cases B1 <;> decide
                  have hb2 : B1.toNat = 1 ↔ X.1 8 i = 1 := by rw [← hB]; by_cases q : X.1 8 i = 1 <;> simp [q]
                  first | refine e_if_eqN 233 dL_holds_221 (by decide) (by omega) (fun hc221 => ?_) (fun hc221 => ?_) | refine e_if_eq 233 dL_holds_221 (by decide) (fun hc221 => ?_) (fun hc221 => ?_)
                  · refine e_aload0 dL_holds_233 ?_
                    refine e_iload1 dL_holds_234 ?_
                    refine e_vI (M' := mX2_saidYes) fX2_saidYes lkL_41 (v_saidYes h pi buf cnt sn len rd w X hR hJ (t := i) (by omega)) rfl rfl dL_holds_235 (by rw [hK_0]; rfl) rfl (by decide) (Nat.le_of_ble_eq_true rfl) rfl ?_
                    rintro _ _ ⟨rfl, rfl⟩
                    refine e_aload0 dL_holds_238 ?_
                    refine e_iload1 dL_holds_239 ?_
                    refine e_vI (M' := mX2_partners) fX2_partners lkL_93 (v_partners h pi buf cnt sn len rd w X hR hJ (t := i) (by omega)) rfl rfl dL_holds_240 (by rw [hK_0]; rfl) rfl (by decide) (Nat.le_of_ble_eq_true rfl) rfl ?_
                    rintro _ _ ⟨rfl, rfl⟩
                    refine e_iconstM dL_holds_243 ?_
                    refine e_ixor dL_holds_244 ?_
                    refine e_iand dL_holds_245 ?_
                    rw [(z_yes hJ hA ht).1]
                    first | refine e_if_neN 265 dL_holds_246 (by decide) (by omega) (fun hc246 => ?_) (fun hc246 => ?_) | refine e_if_ne 265 dL_holds_246 (by decide) (fun hc246 => ?_) (fun hc246 => ?_)
                    · exfalso
                      omega
                    · refine e_aload0 dL_holds_249 ?_
                      refine e_iload1 dL_holds_250 ?_
                      refine e_vI (M' := mX2_saidDone) fX2_saidDone lkL_44 (v_saidDone h pi buf cnt sn len rd w X hR hJ (t := i) (by omega)) rfl rfl dL_holds_251 (by rw [hK_0]; rfl) rfl (by decide) (Nat.le_of_ble_eq_true rfl) rfl ?_
                      rintro _ _ ⟨rfl, rfl⟩
                      refine e_aload0 dL_holds_254 ?_
                      refine e_iload1 dL_holds_255 ?_
                      refine e_vI (M' := mX2_partners) fX2_partners lkL_93 (v_partners h pi buf cnt sn len rd w X hR hJ (t := i) (by omega)) rfl rfl dL_holds_256 (by rw [hK_0]; rfl) rfl (by decide) (Nat.le_of_ble_eq_true rfl) rfl ?_
                      rintro _ _ ⟨rfl, rfl⟩
                      refine e_iconstM dL_holds_259 ?_
                      refine e_ixor dL_holds_260 ?_
                      refine e_iand dL_holds_261 ?_
                      rw [(z_yes hJ hA ht).2]
                      first | refine e_if_eqN 267 dL_holds_262 (by decide) (by omega) (fun hc262 => ?_) (fun hc262 => ?_) | refine e_if_eq 267 dL_holds_262 (by decide) (fun hc262 => ?_) (fun hc262 => ?_)
                      · first | refine e_iinc1N (z := 1) dL_holds_267 rfl (by decide) ?_ | refine e_iinc1 dL_holds_267 rfl rfl (by decide) ?_
                        refine e_goto 2 dL_holds_270 (by decide) ?_
                        exact ih _ (by omega) (i + 1) _ _ _ _ _ _ _ _ (by omega) rfl
                      · exfalso
                        omega
                  · refine e_iload2 dL_holds_224 ?_
                    first | refine e_if_eqN 265 dL_holds_225 (by decide) (by omega) (fun hc225 => ?_) (fun hc225 => ?_) | refine e_if_eq 265 dL_holds_225 (by decide) (fun hc225 => ?_) (fun hc225 => ?_)
                    · exfalso
                      omega
                    · refine e_iload5 dL_holds_228 ?_
                      first | refine e_if_neN 265 dL_holds_230 (by decide) (by omega) (fun hc230 => ?_) (fun hc230 => ?_) | refine e_if_ne 265 dL_holds_230 (by decide) (fun hc230 => ?_) (fun hc230 => ?_)
                      · exfalso
                        omega
                      · refine e_aload0 dL_holds_233 ?_
                        refine e_iload1 dL_holds_234 ?_
                        refine e_vI (M' := mX2_saidYes) fX2_saidYes lkL_41 (v_saidYes h pi buf cnt sn len rd w X hR hJ (t := i) (by omega)) rfl rfl dL_holds_235 (by rw [hK_0]; rfl) rfl (by decide) (Nat.le_of_ble_eq_true rfl) rfl ?_
                        rintro _ _ ⟨rfl, rfl⟩
                        refine e_aload0 dL_holds_238 ?_
                        refine e_iload1 dL_holds_239 ?_
                        refine e_vI (M' := mX2_partners) fX2_partners lkL_93 (v_partners h pi buf cnt sn len rd w X hR hJ (t := i) (by omega)) rfl rfl dL_holds_240 (by rw [hK_0]; rfl) rfl (by decide) (Nat.le_of_ble_eq_true rfl) rfl ?_
                        rintro _ _ ⟨rfl, rfl⟩
                        refine e_iconstM dL_holds_243 ?_
                        refine e_ixor dL_holds_244 ?_
                        refine e_iand dL_holds_245 ?_
                        rw [(z_yes hJ hA ht).1]
                        first | refine e_if_neN 265 dL_holds_246 (by decide) (by omega) (fun hc246 => ?_) (fun hc246 => ?_) | refine e_if_ne 265 dL_holds_246 (by decide) (fun hc246 => ?_) (fun hc246 => ?_)
                        · exfalso
                          omega
                        · refine e_aload0 dL_holds_249 ?_
                          refine e_iload1 dL_holds_250 ?_
                          refine e_vI (M' := mX2_saidDone) fX2_saidDone lkL_44 (v_saidDone h pi buf cnt sn len rd w X hR hJ (t := i) (by omega)) rfl rfl dL_holds_251 (by rw [hK_0]; rfl) rfl (by decide) (Nat.le_of_ble_eq_true rfl) rfl ?_
                          rintro _ _ ⟨rfl, rfl⟩
                          refine e_aload0 dL_holds_254 ?_
                          refine e_iload1 dL_holds_255 ?_
                          refine e_vI (M' := mX2_partners) fX2_partners lkL_93 (v_partners h pi buf cnt sn len rd w X hR hJ (t := i) (by omega)) rfl rfl dL_holds_256 (by rw [hK_0]; rfl) rfl (by decide) (Nat.le_of_ble_eq_true rfl) rfl ?_
                          rintro _ _ ⟨rfl, rfl⟩
                          refine e_iconstM dL_holds_259 ?_
                          refine e_ixor dL_holds_260 ?_
                          refine e_iand dL_holds_261 ?_
                          rw [(z_yes hJ hA ht).2]
                          first | refine e_if_eqN 267 dL_holds_262 (by decide) (by omega) (fun hc262 => ?_) (fun hc262 => ?_) | refine e_if_eq 267 dL_holds_262 (by decide) (fun hc262 => ?_) (fun hc262 => ?_)
                          · first | refine e_iinc1N (z := 1) dL_holds_267 rfl (by decide) ?_ | refine e_iinc1 dL_holds_267 rfl rfl (by decide) ?_
                            refine e_goto 2 dL_holds_270 (by decide) ?_
                            exact ih _ (by omega) (i + 1) _ _ _ _ _ _ _ _ (by omega) rfl
                          · exfalso
                            omega
        · have hst := (iV6 hJ.1 j i (by omega) (by omega)).1
          have hpt : z_pt X i j < 2 := z_b2 _
          have zq := hA.1 i j ht (by omega)
          unfold z_X z_q at zq
          obtain ⟨q1, q2, -, -, q5, q6⟩ := zq
          have zt := z_takes hJ ht (s := j) (by omega)
          have hlog := (hM j (by omega)).2.2 i ht
          refine e_aload0 dL_holds_37 ?_
          refine e_iload6 dL_holds_38 ?_
          refine e_iload1 dL_holds_40 ?_
          refine e_vI (M' := mX2_state) fX2_state lkL_47 (v_state h pi buf cnt sn len rd w X hR hJ (s := j) (by omega) (t := i) (by omega)) rfl rfl dL_holds_41 (by rw [hK_0]; rfl) rfl (by decide) (Nat.le_of_ble_eq_true rfl) rfl ?_
          rintro _ _ ⟨rfl, rfl⟩
          refine e_istore7 dL_holds_44 rfl (by decide) ?_
          have K65 : Ev mL_holds 3 65 [some (qR 0 0), some (qI (nI i)), some (qI (nI (X.1 7 i))), some (qI (nI (m_seen X i 4))), some (qI sh), some (qI (nI O)), some (qI (nI j)), some (qI (nI (X.1 9 (8 * j + i)))), l8, l9] [qI (nI (z_pt X i j))] 124 (hK h (oC pi buf cnt sn len rd) w 10) 0 0 (fun r n h' => ∃ x, r = some (qI x) ∧ n = 124 ∧ ((fun r h2 => r = nI 1 ∧ h2 = hK h (oC pi buf cnt sn len rd) w 10)) x h') qNo := by
            refine e_istore8 dL_holds_65 rfl (by decide) ?_
            refine e_iload4 dL_holds_67 ?_
            refine e_aload0 dL_holds_69 ?_
            refine e_iload1 dL_holds_70 ?_
            refine e_iload6 dL_holds_71 ?_
            refine e_vI (M' := mX2_share) fX2_share lkL_96 (v_share h pi buf cnt sn len rd w X hR hJ (t := i) (by omega) (s := j) (by omega)) rfl rfl dL_holds_73 (by rw [hK_0]; rfl) rfl (by decide) (Nat.le_of_ble_eq_true rfl) rfl ?_
            rintro _ _ ⟨rfl, rfl⟩
            refine e_iadd dL_holds_76 ?_
            refine e_istore4 dL_holds_77 rfl (by decide) ?_
            have K100 : ∀ O2 : Nat, O2 ≤ 1 → (X.1 8 i = 1 → O2 = 0) → Ev mL_holds 3 100 [some (qR 0 0), some (qI (nI i)), some (qI (nI (X.1 7 i))), some (qI (nI (m_seen X i 4))), some (qI (sh + m_share X i j)), some (qI (nI O)), some (qI (nI j)), some (qI (nI (X.1 9 (8 * j + i)))), some (qI (nI (z_pt X i j))), l9] [qI (nI O2)] 124 (hK h (oC pi buf cnt sn len rd) w 10) 0 0 (fun r n h' => ∃ x, r = some (qI x) ∧ n = 124 ∧ ((fun r h2 => r = nI 1 ∧ h2 = hK h (oC pi buf cnt sn len rd) w 10)) x h') qNo := by
              intro O2 ho1 ho2
              refine e_istore5 dL_holds_100 rfl (by decide) ?_
              have K181 : Ev mL_holds 3 181 [some (qR 0 0), some (qI (nI i)), some (qI (nI (X.1 7 i))), some (qI (nI (m_seen X i 4))), some (qI (sh + m_share X i j)), some (qI (nI O2)), some (qI (nI j)), some (qI (nI (X.1 9 (8 * j + i)))), some (qI (nI (z_pt X i j))), l9] [qI (nI 1)] 124 (hK h (oC pi buf cnt sn len rd) w 10) 0 0 (fun r n h' => ∃ x, r = some (qI x) ∧ n = 124 ∧ ((fun r h2 => r = nI 1 ∧ h2 = hK h (oC pi buf cnt sn len rd) w 10)) x h') qNo := by
                refine e_istore9 dL_holds_181 rfl (by decide) ?_
                refine e_iload9 dL_holds_183 ?_
                first | refine e_if_neN 190 dL_holds_185 (by decide) (by omega) (fun hc185 => ?_) (fun hc185 => ?_) | refine e_if_ne 190 dL_holds_185 (by decide) (fun hc185 => ?_) (fun hc185 => ?_)
                · first | refine e_iinc6N (z := 1) dL_holds_190 rfl (by decide) ?_ | refine e_iinc6 dL_holds_190 rfl rfl (by decide) ?_
                  refine e_goto 31 dL_holds_193 (by decide) ?_
                  exact ih2 _ (by omega) (j + 1) _ _ _ _ _ (by omega) rfl (by rw [l_sh, ← hsh]) ho1 ho2
                · refine e_iconst (z := 0) dL_holds_188 ?_
                  refine e_zret dL_holds_189 rfl (by first | rfl | exact q_nar _) ?_
                  exfalso
                  omega
              refine e_iload7 dL_holds_102 ?_
              refine e_aload0 dL_holds_104 ?_
              refine e_iload6 dL_holds_105 ?_
              refine e_iload1 dL_holds_107 ?_
              refine e_vI (M' := mX2_stateByLog) fX2_stateByLog lkL_99 (v_stateByLog h pi buf cnt sn len rd w X hR hJ (s := j) (by omega) (t := i) (by omega)) rfl rfl dL_holds_108 (by rw [hK_0]; rfl) rfl (by decide) (Nat.le_of_ble_eq_true rfl) rfl ?_
              rintro _ _ ⟨rfl, rfl⟩
              rw [hlog]
              first | refine e_icmp_neN 180 dL_holds_111 (by decide) (by omega) (by omega) (fun hc111 => ?_) (fun hc111 => ?_) | refine e_icmp_ne 180 dL_holds_111 (by decide) (fun hc111 => ?_) (fun hc111 => ?_)
              · exfalso
                omega
              · refine e_iload8 dL_holds_114 ?_
                first | refine e_if_neN 124 dL_holds_116 (by decide) (by omega) (fun hc116 => ?_) (fun hc116 => ?_) | refine e_if_ne 124 dL_holds_116 (by decide) (fun hc116 => ?_) (fun hc116 => ?_)
                · refine e_iload8 dL_holds_124 ?_
                  refine e_aload0 dL_holds_126 ?_
                  refine e_iload1 dL_holds_127 ?_
                  refine e_iload6 dL_holds_128 ?_
                  refine e_vI (M' := mX2_share) fX2_share lkL_96 (v_share h pi buf cnt sn len rd w X hR hJ (t := i) (by omega) (s := j) (by omega)) rfl rfl dL_holds_130 (by rw [hK_0]; rfl) rfl (by decide) (Nat.le_of_ble_eq_true rfl) rfl ?_
                  rintro _ _ ⟨rfl, rfl⟩
                  refine e_if_eq 140 dL_holds_133 (by decide) (fun hc133 => ?_) (fun hc133 => ?_)
                  · have hp0 : z_pt X i j = 0 := zt.mp hc133
                    refine e_iconst (z := 0) dL_holds_140 ?_
                    first | refine e_icmp_neN 180 dL_holds_141 (by decide) (by omega) (by omega) (fun hc141 => ?_) (fun hc141 => ?_) | refine e_icmp_ne 180 dL_holds_141 (by decide) (fun hc141 => ?_) (fun hc141 => ?_)
                    · exfalso
                      omega
                    · refine e_iload2 dL_holds_144 ?_
                      refine e_iconst (z := 1) dL_holds_145 ?_
                      first | refine e_icmp_neN 165 dL_holds_146 (by decide) (by omega) (by omega) (fun hc146 => ?_) (fun hc146 => ?_) | refine e_icmp_ne 165 dL_holds_146 (by decide) (fun hc146 => ?_) (fun hc146 => ?_)
                      · refine e_iload2 dL_holds_165 ?_
                        refine e_iconst (z := 2) dL_holds_166 ?_
                        first | refine e_icmp_neN 176 dL_holds_167 (by decide) (by omega) (by omega) (fun hc167 => ?_) (fun hc167 => ?_) | refine e_icmp_ne 176 dL_holds_167 (by decide) (fun hc167 => ?_) (fun hc167 => ?_)
                        · refine e_iconst (z := 1) dL_holds_176 ?_
                          refine e_goto 181 dL_holds_177 (by decide) ?_
                          exact K181
                        · refine e_iload7 dL_holds_170 ?_
                          refine e_iconst (z := 2) dL_holds_172 ?_
                          first | refine e_icmp_eqN 180 dL_holds_173 (by decide) (by omega) (by omega) (fun hc173 => ?_) (fun hc173 => ?_) | refine e_icmp_eq 180 dL_holds_173 (by decide) (fun hc173 => ?_) (fun hc173 => ?_)
                          · exfalso
                            omega
                          · refine e_iconst (z := 1) dL_holds_176 ?_
                            refine e_goto 181 dL_holds_177 (by decide) ?_
                            exact K181
                      · refine e_iload7 dL_holds_149 ?_
                        refine e_iconst (z := 3) dL_holds_151 ?_
                        first | refine e_icmp_eqN 180 dL_holds_152 (by decide) (by omega) (by omega) (fun hc152 => ?_) (fun hc152 => ?_) | refine e_icmp_eq 180 dL_holds_152 (by decide) (fun hc152 => ?_) (fun hc152 => ?_)
                        · exfalso
                          omega
                        · refine e_iload8 dL_holds_155 ?_
                          first | refine e_if_eqN 165 dL_holds_157 (by decide) (by omega) (fun hc157 => ?_) (fun hc157 => ?_) | refine e_if_eq 165 dL_holds_157 (by decide) (fun hc157 => ?_) (fun hc157 => ?_)
                          · refine e_iload2 dL_holds_165 ?_
                            refine e_iconst (z := 2) dL_holds_166 ?_
                            first | refine e_icmp_neN 176 dL_holds_167 (by decide) (by omega) (by omega) (fun hc167 => ?_) (fun hc167 => ?_) | refine e_icmp_ne 176 dL_holds_167 (by decide) (fun hc167 => ?_) (fun hc167 => ?_)
                            · refine e_iconst (z := 1) dL_holds_176 ?_
                              refine e_goto 181 dL_holds_177 (by decide) ?_
                              exact K181
                            · refine e_iload7 dL_holds_170 ?_
                              refine e_iconst (z := 2) dL_holds_172 ?_
                              first | refine e_icmp_eqN 180 dL_holds_173 (by decide) (by omega) (by omega) (fun hc173 => ?_) (fun hc173 => ?_) | refine e_icmp_eq 180 dL_holds_173 (by decide) (fun hc173 => ?_) (fun hc173 => ?_)
                              · exfalso
                                omega
                              · refine e_iconst (z := 1) dL_holds_176 ?_
                                refine e_goto 181 dL_holds_177 (by decide) ?_
                                exact K181
                          · refine e_iload7 dL_holds_160 ?_
                            refine e_if_leN 180 dL_holds_162 (by decide) (by omega) (fun hc162 => ?_) (fun hc162 => ?_)
                            · exfalso
                              omega
                            · refine e_iload2 dL_holds_165 ?_
                              refine e_iconst (z := 2) dL_holds_166 ?_
                              first | refine e_icmp_neN 176 dL_holds_167 (by decide) (by omega) (by omega) (fun hc167 => ?_) (fun hc167 => ?_) | refine e_icmp_ne 176 dL_holds_167 (by decide) (fun hc167 => ?_) (fun hc167 => ?_)
                              · refine e_iconst (z := 1) dL_holds_176 ?_
                                refine e_goto 181 dL_holds_177 (by decide) ?_
                                exact K181
                              · refine e_iload7 dL_holds_170 ?_
                                refine e_iconst (z := 2) dL_holds_172 ?_
                                first | refine e_icmp_eqN 180 dL_holds_173 (by decide) (by omega) (by omega) (fun hc173 => ?_) (fun hc173 => ?_) | refine e_icmp_eq 180 dL_holds_173 (by decide) (fun hc173 => ?_) (fun hc173 => ?_)
                                · exfalso
                                  omega
                                · refine e_iconst (z := 1) dL_holds_176 ?_
                                  refine e_goto 181 dL_holds_177 (by decide) ?_
                                  exact K181
                  · have hp1 : ¬ z_pt X i j = 0 := fun q => hc133 (zt.mpr q)
                    refine e_iconst (z := 1) dL_holds_136 ?_
                    refine e_goto 141 dL_holds_137 (by decide) ?_
                    first | refine e_icmp_neN 180 dL_holds_141 (by decide) (by omega) (by omega) (fun hc141 => ?_) (fun hc141 => ?_) | refine e_icmp_ne 180 dL_holds_141 (by decide) (fun hc141 => ?_) (fun hc141 => ?_)
                    · exfalso
                      omega
                    · refine e_iload2 dL_holds_144 ?_
                      refine e_iconst (z := 1) dL_holds_145 ?_
                      first | refine e_icmp_neN 165 dL_holds_146 (by decide) (by omega) (by omega) (fun hc146 => ?_) (fun hc146 => ?_) | refine e_icmp_ne 165 dL_holds_146 (by decide) (fun hc146 => ?_) (fun hc146 => ?_)
                      · refine e_iload2 dL_holds_165 ?_
                        refine e_iconst (z := 2) dL_holds_166 ?_
                        first | refine e_icmp_neN 176 dL_holds_167 (by decide) (by omega) (by omega) (fun hc167 => ?_) (fun hc167 => ?_) | refine e_icmp_ne 176 dL_holds_167 (by decide) (fun hc167 => ?_) (fun hc167 => ?_)
                        · refine e_iconst (z := 1) dL_holds_176 ?_
                          refine e_goto 181 dL_holds_177 (by decide) ?_
                          exact K181
                        · refine e_iload7 dL_holds_170 ?_
                          refine e_iconst (z := 2) dL_holds_172 ?_
                          first | refine e_icmp_eqN 180 dL_holds_173 (by decide) (by omega) (by omega) (fun hc173 => ?_) (fun hc173 => ?_) | refine e_icmp_eq 180 dL_holds_173 (by decide) (fun hc173 => ?_) (fun hc173 => ?_)
                          · exfalso
                            omega
                          · refine e_iconst (z := 1) dL_holds_176 ?_
                            refine e_goto 181 dL_holds_177 (by decide) ?_
                            exact K181
                      · refine e_iload7 dL_holds_149 ?_
                        refine e_iconst (z := 3) dL_holds_151 ?_
                        first | refine e_icmp_eqN 180 dL_holds_152 (by decide) (by omega) (by omega) (fun hc152 => ?_) (fun hc152 => ?_) | refine e_icmp_eq 180 dL_holds_152 (by decide) (fun hc152 => ?_) (fun hc152 => ?_)
                        · exfalso
                          omega
                        · refine e_iload8 dL_holds_155 ?_
                          first | refine e_if_eqN 165 dL_holds_157 (by decide) (by omega) (fun hc157 => ?_) (fun hc157 => ?_) | refine e_if_eq 165 dL_holds_157 (by decide) (fun hc157 => ?_) (fun hc157 => ?_)
                          · refine e_iload2 dL_holds_165 ?_
                            refine e_iconst (z := 2) dL_holds_166 ?_
                            first | refine e_icmp_neN 176 dL_holds_167 (by decide) (by omega) (by omega) (fun hc167 => ?_) (fun hc167 => ?_) | refine e_icmp_ne 176 dL_holds_167 (by decide) (fun hc167 => ?_) (fun hc167 => ?_)
                            · refine e_iconst (z := 1) dL_holds_176 ?_
                              refine e_goto 181 dL_holds_177 (by decide) ?_
                              exact K181
                            · refine e_iload7 dL_holds_170 ?_
                              refine e_iconst (z := 2) dL_holds_172 ?_
                              first | refine e_icmp_eqN 180 dL_holds_173 (by decide) (by omega) (by omega) (fun hc173 => ?_) (fun hc173 => ?_) | refine e_icmp_eq 180 dL_holds_173 (by decide) (fun hc173 => ?_) (fun hc173 => ?_)
                              · exfalso
                                omega
                              · refine e_iconst (z := 1) dL_holds_176 ?_
                                refine e_goto 181 dL_holds_177 (by decide) ?_
                                exact K181
                          · refine e_iload7 dL_holds_160 ?_
                            refine e_if_leN 180 dL_holds_162 (by decide) (by omega) (fun hc162 => ?_) (fun hc162 => ?_)
                            · exfalso
                              omega
                            · refine e_iload2 dL_holds_165 ?_
                              refine e_iconst (z := 2) dL_holds_166 ?_
                              first | refine e_icmp_neN 176 dL_holds_167 (by decide) (by omega) (by omega) (fun hc167 => ?_) (fun hc167 => ?_) | refine e_icmp_ne 176 dL_holds_167 (by decide) (fun hc167 => ?_) (fun hc167 => ?_)
                              · refine e_iconst (z := 1) dL_holds_176 ?_
                                refine e_goto 181 dL_holds_177 (by decide) ?_
                                exact K181
                              · refine e_iload7 dL_holds_170 ?_
                                refine e_iconst (z := 2) dL_holds_172 ?_
                                first | refine e_icmp_eqN 180 dL_holds_173 (by decide) (by omega) (by omega) (fun hc173 => ?_) (fun hc173 => ?_) | refine e_icmp_eq 180 dL_holds_173 (by decide) (fun hc173 => ?_) (fun hc173 => ?_)
                                · exfalso
                                  omega
                                · refine e_iconst (z := 1) dL_holds_176 ?_
                                  refine e_goto 181 dL_holds_177 (by decide) ?_
                                  exact K181
                · refine e_iload7 dL_holds_119 ?_
                  first | refine e_if_neN 180 dL_holds_121 (by decide) (by omega) (fun hc121 => ?_) (fun hc121 => ?_) | refine e_if_ne 180 dL_holds_121 (by decide) (fun hc121 => ?_) (fun hc121 => ?_)
                  · exfalso
                    omega
                  · refine e_iload8 dL_holds_124 ?_
                    refine e_aload0 dL_holds_126 ?_
                    refine e_iload1 dL_holds_127 ?_
                    refine e_iload6 dL_holds_128 ?_
                    refine e_vI (M' := mX2_share) fX2_share lkL_96 (v_share h pi buf cnt sn len rd w X hR hJ (t := i) (by omega) (s := j) (by omega)) rfl rfl dL_holds_130 (by rw [hK_0]; rfl) rfl (by decide) (Nat.le_of_ble_eq_true rfl) rfl ?_
                    rintro _ _ ⟨rfl, rfl⟩
                    refine e_if_eq 140 dL_holds_133 (by decide) (fun hc133 => ?_) (fun hc133 => ?_)
                    · have hp0 : z_pt X i j = 0 := zt.mp hc133
                      refine e_iconst (z := 0) dL_holds_140 ?_
                      first | refine e_icmp_neN 180 dL_holds_141 (by decide) (by omega) (by omega) (fun hc141 => ?_) (fun hc141 => ?_) | refine e_icmp_ne 180 dL_holds_141 (by decide) (fun hc141 => ?_) (fun hc141 => ?_)
                      · exfalso
                        omega
                      · refine e_iload2 dL_holds_144 ?_
                        refine e_iconst (z := 1) dL_holds_145 ?_
                        first | refine e_icmp_neN 165 dL_holds_146 (by decide) (by omega) (by omega) (fun hc146 => ?_) (fun hc146 => ?_) | refine e_icmp_ne 165 dL_holds_146 (by decide) (fun hc146 => ?_) (fun hc146 => ?_)
                        · refine e_iload2 dL_holds_165 ?_
                          refine e_iconst (z := 2) dL_holds_166 ?_
                          first | refine e_icmp_neN 176 dL_holds_167 (by decide) (by omega) (by omega) (fun hc167 => ?_) (fun hc167 => ?_) | refine e_icmp_ne 176 dL_holds_167 (by decide) (fun hc167 => ?_) (fun hc167 => ?_)
                          · refine e_iconst (z := 1) dL_holds_176 ?_
                            refine e_goto 181 dL_holds_177 (by decide) ?_
                            exact K181
                          · refine e_iload7 dL_holds_170 ?_
                            refine e_iconst (z := 2) dL_holds_172 ?_
                            first | refine e_icmp_eqN 180 dL_holds_173 (by decide) (by omega) (by omega) (fun hc173 => ?_) (fun hc173 => ?_) | refine e_icmp_eq 180 dL_holds_173 (by decide) (fun hc173 => ?_) (fun hc173 => ?_)
                            · exfalso
                              omega
                            · refine e_iconst (z := 1) dL_holds_176 ?_
                              refine e_goto 181 dL_holds_177 (by decide) ?_
                              exact K181
                        · refine e_iload7 dL_holds_149 ?_
                          refine e_iconst (z := 3) dL_holds_151 ?_
                          first | refine e_icmp_eqN 180 dL_holds_152 (by decide) (by omega) (by omega) (fun hc152 => ?_) (fun hc152 => ?_) | refine e_icmp_eq 180 dL_holds_152 (by decide) (fun hc152 => ?_) (fun hc152 => ?_)
                          · exfalso
                            omega
                          · refine e_iload8 dL_holds_155 ?_
                            first | refine e_if_eqN 165 dL_holds_157 (by decide) (by omega) (fun hc157 => ?_) (fun hc157 => ?_) | refine e_if_eq 165 dL_holds_157 (by decide) (fun hc157 => ?_) (fun hc157 => ?_)
                            · refine e_iload2 dL_holds_165 ?_
                              refine e_iconst (z := 2) dL_holds_166 ?_
                              first | refine e_icmp_neN 176 dL_holds_167 (by decide) (by omega) (by omega) (fun hc167 => ?_) (fun hc167 => ?_) | refine e_icmp_ne 176 dL_holds_167 (by decide) (fun hc167 => ?_) (fun hc167 => ?_)
                              · refine e_iconst (z := 1) dL_holds_176 ?_
                                refine e_goto 181 dL_holds_177 (by decide) ?_
                                exact K181
                              · refine e_iload7 dL_holds_170 ?_
                                refine e_iconst (z := 2) dL_holds_172 ?_
                                first | refine e_icmp_eqN 180 dL_holds_173 (by decide) (by omega) (by omega) (fun hc173 => ?_) (fun hc173 => ?_) | refine e_icmp_eq 180 dL_holds_173 (by decide) (fun hc173 => ?_) (fun hc173 => ?_)
                                · exfalso
                                  omega
                                · refine e_iconst (z := 1) dL_holds_176 ?_
                                  refine e_goto 181 dL_holds_177 (by decide) ?_
                                  exact K181
                            · refine e_iload7 dL_holds_160 ?_
                              refine e_if_leN 180 dL_holds_162 (by decide) (by omega) (fun hc162 => ?_) (fun hc162 => ?_)
                              · exfalso
                                omega
                              · refine e_iload2 dL_holds_165 ?_
                                refine e_iconst (z := 2) dL_holds_166 ?_
                                first | refine e_icmp_neN 176 dL_holds_167 (by decide) (by omega) (by omega) (fun hc167 => ?_) (fun hc167 => ?_) | refine e_icmp_ne 176 dL_holds_167 (by decide) (fun hc167 => ?_) (fun hc167 => ?_)
                                · refine e_iconst (z := 1) dL_holds_176 ?_
                                  refine e_goto 181 dL_holds_177 (by decide) ?_
                                  exact K181
                                · refine e_iload7 dL_holds_170 ?_
                                  refine e_iconst (z := 2) dL_holds_172 ?_
                                  first | refine e_icmp_eqN 180 dL_holds_173 (by decide) (by omega) (by omega) (fun hc173 => ?_) (fun hc173 => ?_) | refine e_icmp_eq 180 dL_holds_173 (by decide) (fun hc173 => ?_) (fun hc173 => ?_)
                                  · exfalso
                                    omega
                                  · refine e_iconst (z := 1) dL_holds_176 ?_
                                    refine e_goto 181 dL_holds_177 (by decide) ?_
                                    exact K181
                    · have hp1 : ¬ z_pt X i j = 0 := fun q => hc133 (zt.mpr q)
                      refine e_iconst (z := 1) dL_holds_136 ?_
                      refine e_goto 141 dL_holds_137 (by decide) ?_
                      first | refine e_icmp_neN 180 dL_holds_141 (by decide) (by omega) (by omega) (fun hc141 => ?_) (fun hc141 => ?_) | refine e_icmp_ne 180 dL_holds_141 (by decide) (fun hc141 => ?_) (fun hc141 => ?_)
                      · exfalso
                        omega
                      · refine e_iload2 dL_holds_144 ?_
                        refine e_iconst (z := 1) dL_holds_145 ?_
                        first | refine e_icmp_neN 165 dL_holds_146 (by decide) (by omega) (by omega) (fun hc146 => ?_) (fun hc146 => ?_) | refine e_icmp_ne 165 dL_holds_146 (by decide) (fun hc146 => ?_) (fun hc146 => ?_)
                        · refine e_iload2 dL_holds_165 ?_
                          refine e_iconst (z := 2) dL_holds_166 ?_
                          first | refine e_icmp_neN 176 dL_holds_167 (by decide) (by omega) (by omega) (fun hc167 => ?_) (fun hc167 => ?_) | refine e_icmp_ne 176 dL_holds_167 (by decide) (fun hc167 => ?_) (fun hc167 => ?_)
                          · refine e_iconst (z := 1) dL_holds_176 ?_
                            refine e_goto 181 dL_holds_177 (by decide) ?_
                            exact K181
                          · refine e_iload7 dL_holds_170 ?_
                            refine e_iconst (z := 2) dL_holds_172 ?_
                            first | refine e_icmp_eqN 180 dL_holds_173 (by decide) (by omega) (by omega) (fun hc173 => ?_) (fun hc173 => ?_) | refine e_icmp_eq 180 dL_holds_173 (by decide) (fun hc173 => ?_) (fun hc173 => ?_)
                            · exfalso
                              omega
                            · refine e_iconst (z := 1) dL_holds_176 ?_
                              refine e_goto 181 dL_holds_177 (by decide) ?_
                              exact K181
                        · refine e_iload7 dL_holds_149 ?_
                          refine e_iconst (z := 3) dL_holds_151 ?_
                          first | refine e_icmp_eqN 180 dL_holds_152 (by decide) (by omega) (by omega) (fun hc152 => ?_) (fun hc152 => ?_) | refine e_icmp_eq 180 dL_holds_152 (by decide) (fun hc152 => ?_) (fun hc152 => ?_)
                          · exfalso
                            omega
                          · refine e_iload8 dL_holds_155 ?_
                            first | refine e_if_eqN 165 dL_holds_157 (by decide) (by omega) (fun hc157 => ?_) (fun hc157 => ?_) | refine e_if_eq 165 dL_holds_157 (by decide) (fun hc157 => ?_) (fun hc157 => ?_)
                            · refine e_iload2 dL_holds_165 ?_
                              refine e_iconst (z := 2) dL_holds_166 ?_
                              first | refine e_icmp_neN 176 dL_holds_167 (by decide) (by omega) (by omega) (fun hc167 => ?_) (fun hc167 => ?_) | refine e_icmp_ne 176 dL_holds_167 (by decide) (fun hc167 => ?_) (fun hc167 => ?_)
                              · refine e_iconst (z := 1) dL_holds_176 ?_
                                refine e_goto 181 dL_holds_177 (by decide) ?_
                                exact K181
                              · refine e_iload7 dL_holds_170 ?_
                                refine e_iconst (z := 2) dL_holds_172 ?_
                                first | refine e_icmp_eqN 180 dL_holds_173 (by decide) (by omega) (by omega) (fun hc173 => ?_) (fun hc173 => ?_) | refine e_icmp_eq 180 dL_holds_173 (by decide) (fun hc173 => ?_) (fun hc173 => ?_)
                                · exfalso
                                  omega
                                · refine e_iconst (z := 1) dL_holds_176 ?_
                                  refine e_goto 181 dL_holds_177 (by decide) ?_
                                  exact K181
                            · refine e_iload7 dL_holds_160 ?_
                              refine e_if_leN 180 dL_holds_162 (by decide) (by omega) (fun hc162 => ?_) (fun hc162 => ?_)
                              · exfalso
                                omega
                              · refine e_iload2 dL_holds_165 ?_
                                refine e_iconst (z := 2) dL_holds_166 ?_
                                first | refine e_icmp_neN 176 dL_holds_167 (by decide) (by omega) (by omega) (fun hc167 => ?_) (fun hc167 => ?_) | refine e_icmp_ne 176 dL_holds_167 (by decide) (fun hc167 => ?_) (fun hc167 => ?_)
                                · refine e_iconst (z := 1) dL_holds_176 ?_
                                  refine e_goto 181 dL_holds_177 (by decide) ?_
                                  exact K181
                                · refine e_iload7 dL_holds_170 ?_
                                  refine e_iconst (z := 2) dL_holds_172 ?_
                                  first | refine e_icmp_eqN 180 dL_holds_173 (by decide) (by omega) (by omega) (fun hc173 => ?_) (fun hc173 => ?_) | refine e_icmp_eq 180 dL_holds_173 (by decide) (fun hc173 => ?_) (fun hc173 => ?_)
                                  · exfalso
                                    omega
                                  · refine e_iconst (z := 1) dL_holds_176 ?_
                                    refine e_goto 181 dL_holds_177 (by decide) ?_
                                    exact K181
            refine e_iload5 dL_holds_79 ?_
            first | refine e_if_neN 95 dL_holds_81 (by decide) (by omega) (fun hc81 => ?_) (fun hc81 => ?_) | refine e_if_ne 95 dL_holds_81 (by decide) (fun hc81 => ?_) (fun hc81 => ?_)
            · refine e_iconst (z := 1) dL_holds_95 ?_
              refine e_goto 100 dL_holds_96 (by decide) ?_
              first
                | exact K100 0 (by omega) (by omega)
                | exact K100 1 (by omega) (by omega)
            · refine e_iload8 dL_holds_84 ?_
              first | refine e_if_eqN 99 dL_holds_86 (by decide) (by omega) (fun hc86 => ?_) (fun hc86 => ?_) | refine e_if_eq 99 dL_holds_86 (by decide) (fun hc86 => ?_) (fun hc86 => ?_)
              · refine e_iconst (z := 0) dL_holds_99 ?_
                first
                  | exact K100 0 (by omega) (by omega)
                  | exact K100 1 (by omega) (by omega)
              · refine e_iload7 dL_holds_89 ?_
                refine e_iconst (z := 2) dL_holds_91 ?_
                first | refine e_icmp_geN 99 dL_holds_92 (by decide) (by omega) (by omega) (fun hc92 => ?_) (fun hc92 => ?_) | refine e_icmp_ge 99 dL_holds_92 (by decide) (fun hc92 => ?_) (fun hc92 => ?_)
                · refine e_iconst (z := 0) dL_holds_99 ?_
                  first
                    | exact K100 0 (by omega) (by omega)
                    | exact K100 1 (by omega) (by omega)
                · refine e_iconst (z := 1) dL_holds_95 ?_
                  refine e_goto 100 dL_holds_96 (by decide) ?_
                  first
                    | exact K100 0 (by omega) (by omega)
                    | exact K100 1 (by omega) (by omega)
          refine e_aload0 dL_holds_46 ?_
          refine e_iload1 dL_holds_47 ?_
          refine e_vI (M' := mX2_partners) fX2_partners lkL_93 (v_partners h pi buf cnt sn len rd w X hR hJ (t := i) (by omega)) rfl rfl dL_holds_48 (by rw [hK_0]; rfl) rfl (by decide) (Nat.le_of_ble_eq_true rfl) rfl ?_
          rintro _ _ ⟨rfl, rfl⟩
          refine e_iload6 dL_holds_51 ?_
          refine e_ishr dL_holds_53 ?_
          refine e_iconst (z := 1) dL_holds_54 ?_
          refine e_iand dL_holds_55 ?_
          rw [z_ptb _ (m_part_lt hJ.1 (t := i) (by omega)) j (by omega)]
          show Ev mL_holds 3 56 _ [qI (nI (z_pt X i j))] 124 _ 0 0 _ qNo
          refine e_iconst (z := 1) dL_holds_56 ?_
          first | refine e_icmp_neN 64 dL_holds_57 (by decide) (by omega) (by omega) (fun hc57 => ?_) (fun hc57 => ?_) | refine e_icmp_ne 64 dL_holds_57 (by decide) (fun hc57 => ?_) (fun hc57 => ?_)
          · refine e_iconst (z := 0) dL_holds_64 ?_
            first
              | (rw [show z_pt X i j = 1 by omega] at K65; exact K65)
              | (rw [show z_pt X i j = 0 by omega] at K65; exact K65)
          · refine e_iconst (z := 1) dL_holds_60 ?_
            refine e_goto 65 dL_holds_61 (by decide) ?_
            first
              | (rw [show z_pt X i j = 1 by omega] at K65; exact K65)
              | (rw [show z_pt X i j = 0 by omega] at K65; exact K65)
      exact H2 _ 0 _ _ _ _ _ (Nat.zero_le _) rfl rfl (by decide) (fun _ => rfl)
  exact H1 _ 0 _ _ _ _ _ _ _ _ (Nat.zero_le _) rfl
