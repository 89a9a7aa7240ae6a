set_option maxRecDepth 20000 in
set_option maxHeartbeats 4000000 in
theorem r_digest (h : qB) (th : Int32) (sf asd sts snp txt rdd : Nat → Int32) (pt iw rm : Int32) (X : qm) (hR : RelR sf X) (hJ : J X) (h31 : X.1 0 3 ≤ X.1 0 1) (h32 : X.1 0 1 < 2 ^ 31) {c sn len : Nat} (hc : c ≤ 6) (hsn : sn ≤ 1) (hlen : len ≤ 60) {tx : Nat → Nat} (htx : ∀ i, i < len → txt i = nI (tx i)) : CtL mX3_digest 11 [qR 11 0] (q_put h 11 (oR th sf asd sts snp txt rdd (nI c) (nI sn) (nI len) pt iw rm)) (fun r h2 => r = m_dg X c sn len tx len ∧ ∃ sf' a', RelR sf' X ∧ h2 = q_put h 11 (oR (nI 0) sf' a' sts snp txt rdd (nI c) (nI sn) (nI len) pt iw rm)) := by
  have i1 := iV1 hJ.1
  have i2 := iV2 hJ.1
  refine ct_of (by decide +kernel) rfl rfl (Nat.le_of_ble_eq_true rfl) ?_
  show Ev mX3_digest 11 0 [some (qR 11 0), none, none, none, none] [] 132 (q_put h 11 (oR th sf asd sts snp txt rdd (nI c) (nI sn) (nI len) pt iw rm)) 0 0 _ _
  refine e_aload0 dX3_digest_0 ?_
  refine e_iconst (z := 0) dX3_digest_1 ?_
  refine e_putfieldF flX3_28 dX3_digest_2 rfl (Nat.le_of_ble_eq_true rfl) (fun _ => rfl) (fun _ => rfl) ?_
  refine e_ldcL ckX3_251 dX3_digest_5 ?_
  refine e_lstore1 dX3_digest_8 rfl (by decide) ?_
  refine e_ldcL ckX3_249 dX3_digest_9 ?_
  refine e_lload1 dX3_digest_12 ?_
  refine e_lmul dX3_digest_13 ?_
  refine e_aload0 dX3_digest_14 ?_
  refine e_getfieldF flX3_7 dX3_digest_15 rfl rfl ?_
  refine e_bipush (v := nI 9) dX3_digest_18 (by decide) ?_
  refine e_ialoadN dX3_digest_20 rfl (by omega) (by decide) ?_
  rw [rR2 hR]
  refine e_i2l dX3_digest_21 ?_
  refine e_ladd dX3_digest_22 ?_
  refine e_lstore1 dX3_digest_23 rfl (by decide) ?_
  refine e_iconst (z := 0) dX3_digest_24 ?_
  refine e_istore3 dX3_digest_25 rfl (by decide) ?_
  have H : ∀ (m i : Nat) (v : Int64) (sf2 a2 : Nat → Int32), i ≤ X.1 0 0 → m = X.1 0 0 - i → v = m_dTT X i → RelR sf2 X → Ev mX3_digest 11 26 [some (qR 11 0), some (qL v), none, some (qI (nI i)), none] [] 132 (q_put h 11 (oR (nI 0) sf2 a2 sts snp txt rdd (nI c) (nI sn) (nI len) pt iw rm)) 0 0 (fun r n h' => ∃ x, r = some (qL x) ∧ n = 132 ∧ ((fun r h2 => r = m_dg X c sn len tx len ∧ ∃ sf' a', RelR sf' X ∧ h2 = q_put h 11 (oR (nI 0) sf' a' sts snp txt rdd (nI c) (nI sn) (nI len) pt iw rm))) x h') qNo := by
    intro m
    induction m using Nat.strongRecOn with
    | _ m ih =>
    intro i v sf2 a2 hi hm hv hR2
    refine e_iload3 dX3_digest_26 ?_
    refine e_aload0 dX3_digest_27 ?_
    refine e_getfieldF flX3_7 dX3_digest_28 rfl rfl ?_
    refine e_bipush (v := nI 9) dX3_digest_31 (by decide) ?_
    refine e_ialoadN dX3_digest_33 rfl (by omega) (by decide) ?_
    rw [rR2 hR2]
    first | refine e_icmp_geN 50 dX3_digest_34 (by decide) (by omega) (by omega) (fun hc34 => ?_) (fun hc34 => ?_) | refine e_icmp_ge 50 dX3_digest_34 (by decide) (fun hc34 => ?_) (fun hc34 => ?_)
    · obtain rfl : i = X.1 0 0 := by omega
      refine e_iconst (z := 0) dX3_digest_50 ?_
      refine e_istore3 dX3_digest_51 rfl (by decide) ?_
      have H : ∀ (m i : Nat) (v : Int64) (sf2 a2 : Nat → Int32), i ≤ 4 → m = 4 - i → v = m_dST X i → RelR sf2 X → Ev mX3_digest 11 52 [some (qR 11 0), some (qL v), none, some (qI (nI i)), none] [] 132 (q_put h 11 (oR (nI 0) sf2 a2 sts snp txt rdd (nI c) (nI sn) (nI len) pt iw rm)) 0 0 (fun r n h' => ∃ x, r = some (qL x) ∧ n = 132 ∧ ((fun r h2 => r = m_dg X c sn len tx len ∧ ∃ sf' a', RelR sf' X ∧ h2 = q_put h 11 (oR (nI 0) sf' a' sts snp txt rdd (nI c) (nI sn) (nI len) pt iw rm))) x h') qNo := by
        intro m
        induction m using Nat.strongRecOn with
        | _ m ih =>
        intro i v sf2 a2 hi hm hv hR2
        refine e_iload3 dX3_digest_52 ?_
        refine e_iconst (z := 4) dX3_digest_53 ?_
        first | refine e_icmp_geN 114 dX3_digest_54 (by decide) (by omega) (by omega) (fun hc54 => ?_) (fun hc54 => ?_) | refine e_icmp_ge 114 dX3_digest_54 (by decide) (fun hc54 => ?_) (fun hc54 => ?_)
        · obtain rfl : i = 4 := by omega
          refine e_iconst (z := 0) dX3_digest_114 ?_
          refine e_istore3 dX3_digest_115 rfl (by decide) ?_
          have H : ∀ (m i : Nat) (v : Int64) (sf2 a2 : Nat → Int32), i ≤ 5 → m = 5 - i → v = m_dSI X i → RelR sf2 X → Ev mX3_digest 11 116 [some (qR 11 0), some (qL v), none, some (qI (nI i)), none] [] 132 (q_put h 11 (oR (nI 0) sf2 a2 sts snp txt rdd (nI c) (nI sn) (nI len) pt iw rm)) 0 0 (fun r n h' => ∃ x, r = some (qL x) ∧ n = 132 ∧ ((fun r h2 => r = m_dg X c sn len tx len ∧ ∃ sf' a', RelR sf' X ∧ h2 = q_put h 11 (oR (nI 0) sf' a' sts snp txt rdd (nI c) (nI sn) (nI len) pt iw rm))) x h') qNo := by
            intro m
            induction m using Nat.strongRecOn with
            | _ m ih =>
            intro i v sf2 a2 hi hm hv hR2
            refine e_iload3 dX3_digest_116 ?_
            refine e_iconst (z := 5) dX3_digest_117 ?_
            first | refine e_icmp_geN 134 dX3_digest_118 (by decide) (by omega) (by omega) (fun hc118 => ?_) (fun hc118 => ?_) | refine e_icmp_ge 134 dX3_digest_118 (by decide) (fun hc118 => ?_) (fun hc118 => ?_)
            · obtain rfl : i = 5 := by omega
              refine e_ldcL ckX3_249 dX3_digest_134 ?_
              refine e_ldcL ckX3_249 dX3_digest_137 ?_
              refine e_ldcL ckX3_249 dX3_digest_140 ?_
              refine e_lload1 dX3_digest_143 ?_
              refine e_lmul dX3_digest_144 ?_
              refine e_aload0 dX3_digest_145 ?_
              refine e_vIF (M' := mX3_totalOf) fX3_totalOf lkX3_205 (r_totalOf h (nI 0) sf2 a2 sts snp txt rdd (nI c) (nI sn) (nI len) pt iw rm X hR2) rfl rfl dX3_digest_146 rfl rfl (by decide) (Nat.le_of_ble_eq_true rfl) rfl ?_
              rintro _ _ ⟨rfl, rfl⟩
              refine e_i2l dX3_digest_149 ?_
              refine e_ladd dX3_digest_150 ?_
              refine e_lmul dX3_digest_151 ?_
              refine e_aload0 dX3_digest_152 ?_
              refine e_vIF (M' := mX3_away) fX3_away lkX3_208 (r_away h (nI 0) sf2 a2 sts snp txt rdd (nI c) (nI sn) (nI len) pt iw rm X hR2 hJ) rfl rfl dX3_digest_153 rfl rfl (by decide) (Nat.le_of_ble_eq_true rfl) rfl ?_
              rintro _ _ ⟨rfl, rfl⟩
              refine e_i2l dX3_digest_156 ?_
              refine e_ladd dX3_digest_157 ?_
              refine e_lmul dX3_digest_158 ?_
              refine e_aload0 dX3_digest_159 ?_
              refine e_getfieldF flX3_7 dX3_digest_160 rfl rfl ?_
              refine e_bipush (v := nI 13) dX3_digest_163 (by decide) ?_
              refine e_ialoadN dX3_digest_165 rfl (by omega) (by decide) ?_
              rw [show sf2 13 = nI (X.1 0 4) from rR6 hR2]
              refine e_i2l dX3_digest_166 ?_
              refine e_ladd dX3_digest_167 ?_
              refine e_lstore1 dX3_digest_168 rfl (by decide) ?_
              refine e_iconst (z := 0) dX3_digest_169 ?_
              refine e_istore3 dX3_digest_170 rfl (by decide) ?_
              have H : ∀ (m i : Nat) (v : Int64) (sf2 a2 : Nat → Int32), i ≤ X.1 0 4 → m = X.1 0 4 - i → v = m_dMs X (m_mx (m_d2 X) (nI (X.1 0 4)).toInt64) i → RelR sf2 X → Ev mX3_digest 11 171 [some (qR 11 0), some (qL v), none, some (qI (nI i)), none] [] 132 (q_put h 11 (oR (nI 0) sf2 a2 sts snp txt rdd (nI c) (nI sn) (nI len) pt iw rm)) 0 0 (fun r n h' => ∃ x, r = some (qL x) ∧ n = 132 ∧ ((fun r h2 => r = m_dg X c sn len tx len ∧ ∃ sf' a', RelR sf' X ∧ h2 = q_put h 11 (oR (nI 0) sf' a' sts snp txt rdd (nI c) (nI sn) (nI len) pt iw rm))) x h') qNo := by
                intro m
                induction m using Nat.strongRecOn with
                | _ m ih =>
                intro i v sf2 a2 hi hm hv hR2
                refine e_iload3 dX3_digest_171 ?_
                refine e_aload0 dX3_digest_172 ?_
                refine e_getfieldF flX3_7 dX3_digest_173 rfl rfl ?_
                refine e_bipush (v := nI 13) dX3_digest_176 (by decide) ?_
                refine e_ialoadN dX3_digest_178 rfl (by omega) (by decide) ?_
                rw [show sf2 13 = nI (X.1 0 4) from rR6 hR2]
                first | refine e_icmp_geN 247 dX3_digest_179 (by decide) (by omega) (by omega) (fun hc179 => ?_) (fun hc179 => ?_) | refine e_icmp_ge 247 dX3_digest_179 (by decide) (fun hc179 => ?_) (fun hc179 => ?_)
                · obtain rfl : i = X.1 0 4 := by omega
                  refine e_ldcL ckX3_249 dX3_digest_247 ?_
                  refine e_ldcL ckX3_249 dX3_digest_250 ?_
                  refine e_ldcL ckX3_249 dX3_digest_253 ?_
                  refine e_lload1 dX3_digest_256 ?_
                  refine e_lmul dX3_digest_257 ?_
                  refine e_aload0 dX3_digest_258 ?_
                  refine e_getfieldF flX3_7 dX3_digest_259 rfl rfl ?_
                  refine e_bipush (v := nI 10) dX3_digest_262 (by decide) ?_
                  refine e_ialoadN dX3_digest_264 rfl (by omega) (by decide) ?_
                  rw [show sf2 10 = nI (X.1 0 1) from rR3 hR2]
                  refine e_i2l dX3_digest_265 ?_
                  refine e_ladd dX3_digest_266 ?_
                  refine e_lmul dX3_digest_267 ?_
                  refine e_aload0 dX3_digest_268 ?_
                  refine e_vIF (M' := mX3_sentOf) fX3_sentOf lkX3_214 (r_sentOf h (nI 0) sf2 a2 sts snp txt rdd (nI c) (nI sn) (nI len) pt iw rm X hR2) rfl rfl dX3_digest_269 rfl rfl (by decide) (Nat.le_of_ble_eq_true rfl) rfl ?_
                  rintro _ _ ⟨rfl, rfl⟩
                  refine e_i2l dX3_digest_272 ?_
                  refine e_ladd dX3_digest_273 ?_
                  refine e_lmul dX3_digest_274 ?_
                  refine e_aload0 dX3_digest_275 ?_
                  refine e_getfieldF flX3_7 dX3_digest_276 rfl rfl ?_
                  refine e_bipush (v := nI 12) dX3_digest_279 (by decide) ?_
                  refine e_ialoadN dX3_digest_281 rfl (by omega) (by decide) ?_
                  rw [show sf2 12 = nI (X.1 0 3) from rR5 hR2]
                  refine e_i2l dX3_digest_282 ?_
                  refine e_ladd dX3_digest_283 ?_
                  refine e_lstore1 dX3_digest_284 rfl (by decide) ?_
                  refine e_ldcL ckX3_249 dX3_digest_285 ?_
                  refine e_ldcL ckX3_249 dX3_digest_288 ?_
                  refine e_ldcL ckX3_249 dX3_digest_291 ?_
                  refine e_lload1 dX3_digest_294 ?_
                  refine e_lmul dX3_digest_295 ?_
                  refine e_aload0 dX3_digest_296 ?_
                  refine e_vIF (M' := mX3_settledMany) fX3_settledMany lkX3_229 (r_settledMany h (nI 0) sf2 a2 sts snp txt rdd (nI c) (nI sn) (nI len) pt iw rm X hR2 hJ) rfl rfl dX3_digest_297 rfl rfl (by decide) (Nat.le_of_ble_eq_true rfl) rfl ?_
                  rintro _ _ ⟨rfl, sf3, a3, hR3, rfl⟩
                  refine e_i2l dX3_digest_300 ?_
                  refine e_ladd dX3_digest_301 ?_
                  refine e_lmul dX3_digest_302 ?_
                  refine e_aload0 dX3_digest_303 ?_
                  refine e_iconst (z := 0) dX3_digest_304 ?_
                  refine e_bipush (v := nI 14) dX3_digest_305 (by decide) ?_
                  refine e_vIF (M' := mX3_greatest) fX3_greatest lkX3_238 (r_greatest h (nI 0) sf3 a3 sts snp txt rdd (nI c) (nI sn) (nI len) pt iw rm X hR3 hJ (f := 0) (to := 14) (by decide) (by decide)) rfl rfl dX3_digest_307 rfl rfl (by decide) (Nat.le_of_ble_eq_true rfl) rfl ?_
                  rintro _ _ ⟨rfl, rfl⟩
                  refine e_i2l dX3_digest_310 ?_
                  refine e_ladd dX3_digest_311 ?_
                  refine e_lmul dX3_digest_312 ?_
                  refine e_aload0 dX3_digest_313 ?_
                  refine e_getfieldF flX3_36 dX3_digest_314 rfl rfl ?_
                  refine e_i2l dX3_digest_317 ?_
                  refine e_ladd dX3_digest_318 ?_
                  refine e_lstore1 dX3_digest_319 rfl (by decide) ?_
                  refine e_ldcL ckX3_249 dX3_digest_320 ?_
                  refine e_lload1 dX3_digest_323 ?_
                  refine e_lmul dX3_digest_324 ?_
                  refine e_aload0 dX3_digest_325 ?_
                  refine e_vDF (M' := mX3_shareLost) fX3_shareLost lkX3_241 (r_shareLost h (nI 0) sf3 a3 sts snp txt rdd (nI c) (nI sn) (nI len) pt iw rm X hR3 h31 h32) rfl rfl dX3_digest_326 rfl rfl (by decide) (Nat.le_of_ble_eq_true rfl) rfl ?_
                  rintro _ _ ⟨rfl, rfl⟩
                  refine e_sL (M' := mJxe99ae_doubleToLongBits_ccdee) fJxe99ae_doubleToLongBits_ccdee lkX3_260 (j_bitsD _ (m_ls_dd h31 h32)) rfl rfl dX3_digest_329 (by decide) (Nat.le_of_ble_eq_true rfl) rfl ?_
                  rintro _ _ ⟨rfl, rfl⟩
                  refine e_ladd dX3_digest_332 ?_
                  refine e_lstore1 dX3_digest_333 rfl (by decide) ?_
                  refine e_ldcL ckX3_249 dX3_digest_334 ?_
                  refine e_lload1 dX3_digest_337 ?_
                  refine e_lmul dX3_digest_338 ?_
                  refine e_aload0 dX3_digest_339 ?_
                  refine e_vFF (M' := mX3_mean) fX3_mean lkX3_245 (r_mean h (nI 0) sf3 a3 sts snp txt rdd (nI c) (nI sn) (nI len) pt iw rm X hR3 hJ) rfl rfl dX3_digest_340 rfl rfl (by decide) (Nat.le_of_ble_eq_true rfl) rfl ?_
                  rintro _ _ ⟨rfl, rfl⟩
                  refine e_sI (M' := mJxf58ca_floatToIntBits_5c35a) fJxf58ca_floatToIntBits_5c35a lkX3_266 (j_bitsF _ (m_mean_ff hJ)) rfl rfl dX3_digest_343 (by decide) (Nat.le_of_ble_eq_true rfl) rfl ?_
                  rintro _ _ ⟨rfl, rfl⟩
                  refine e_i2l dX3_digest_346 ?_
                  refine e_ladd dX3_digest_347 ?_
                  refine e_lstore1 dX3_digest_348 rfl (by decide) ?_
                  refine e_ldcL ckX3_249 dX3_digest_349 ?_
                  refine e_ldcL ckX3_249 dX3_digest_352 ?_
                  refine e_lload1 dX3_digest_355 ?_
                  refine e_lmul dX3_digest_356 ?_
                  refine e_aload0 dX3_digest_357 ?_
                  refine e_getfieldF flX3_190 dX3_digest_358 rfl rfl ?_
                  rcases (show sn = 0 ∨ sn = 1 by omega) with hs0 | hs0
                  · have hbl : m_bl (decide (sn = 1)) = (nI 0).toInt64 := by rw [hs0]; decide
                    refine e_if_eqN 368 dX3_digest_361 (by decide) (by first | omega | decide) (fun hc361 => ?_) (fun q => absurd hs0 q)
                    refine e_iconst (z := 0) dX3_digest_368 ?_
                    refine e_i2l dX3_digest_369 ?_
                    refine e_ladd dX3_digest_370 ?_
                    refine e_lmul dX3_digest_371 ?_
                    refine e_aload0 dX3_digest_372 ?_
                    refine e_getfieldF flX3_156 dX3_digest_373 rfl rfl ?_
                    refine e_i2l dX3_digest_376 ?_
                    refine e_ladd dX3_digest_377 ?_
                    refine e_lstore1 dX3_digest_378 rfl (by decide) ?_
                    refine e_iconst (z := 0) dX3_digest_379 ?_
                    refine e_istore3 dX3_digest_380 rfl (by decide) ?_
                    have H : ∀ (m i : Nat) (v : Int64) (sf2 a2 : Nat → Int32), i ≤ len → m = len - i → v = m_dg X c sn len tx i → RelR sf2 X → Ev mX3_digest 11 381 [some (qR 11 0), some (qL v), none, some (qI (nI i)), none] [] 132 (q_put h 11 (oR (nI 0) sf2 a2 sts snp txt rdd (nI c) (nI sn) (nI len) pt iw rm)) 0 0 (fun r n h' => ∃ x, r = some (qL x) ∧ n = 132 ∧ ((fun r h2 => r = m_dg X c sn len tx len ∧ ∃ sf' a', RelR sf' X ∧ h2 = q_put h 11 (oR (nI 0) sf' a' sts snp txt rdd (nI c) (nI sn) (nI len) pt iw rm))) x h') qNo := by
                      intro m
                      induction m using Nat.strongRecOn with
                      | _ m ih =>
                      intro i v sf2 a2 hi hm hv hR2
                      refine e_iload3 dX3_digest_381 ?_
                      refine e_aload0 dX3_digest_382 ?_
                      refine e_getfieldF flX3_156 dX3_digest_383 rfl rfl ?_
                      first | refine e_icmp_geN 409 dX3_digest_386 (by decide) (by omega) (by omega) (fun hc386 => ?_) (fun hc386 => ?_) | refine e_icmp_ge 409 dX3_digest_386 (by decide) (fun hc386 => ?_) (fun hc386 => ?_)
                      · obtain rfl : i = len := by omega
                        subst hv
                        refine e_lload1 dX3_digest_409 ?_
                        refine e_lret dX3_digest_410 rfl ?_
                        exact ⟨_, rfl, rfl, rfl, sf2, a2, hR2, rfl⟩
                      · refine e_ldcL ckX3_249 dX3_digest_389 ?_
                        refine e_lload1 dX3_digest_392 ?_
                        refine e_lmul dX3_digest_393 ?_
                        refine e_aload0 dX3_digest_394 ?_
                        refine e_getfieldF flX3_22 dX3_digest_395 rfl rfl ?_
                        refine e_iload3 dX3_digest_398 ?_
                        refine e_ialoadN dX3_digest_399 rfl (by omega) (by decide) ?_
                        rw [htx i (by omega)]
                        refine e_i2l dX3_digest_400 ?_
                        refine e_ladd dX3_digest_401 ?_
                        refine e_lstore1 dX3_digest_402 rfl (by decide) ?_
                        first | refine e_iinc3N (z := 1) dX3_digest_403 rfl (by decide) ?_ | refine e_iinc3 dX3_digest_403 rfl rfl (by decide) ?_
                        refine e_goto 381 dX3_digest_406 (by decide) ?_
                        exact ih _ (by omega) (i + 1) _ sf2 a2 (by omega) rfl (by rw [m_dg, hv]; rfl) hR2
                    exact H _ 0 _ sf3 a3 (Nat.zero_le _) rfl (by rw [hv]; show _ = m_d4 X c sn len; unfold m_d4; rw [hbl]; rfl) hR3
                  · have hbl : m_bl (decide (sn = 1)) = (nI 1).toInt64 := by rw [hs0]; decide
                    refine e_if_eqN 368 dX3_digest_361 (by decide) (by first | omega | decide) (fun q => absurd q (by omega)) (fun hc361 => ?_)
                    refine e_iconst (z := 1) dX3_digest_364 ?_
                    refine e_goto 369 dX3_digest_365 (by decide) ?_
                    refine e_i2l dX3_digest_369 ?_
                    refine e_ladd dX3_digest_370 ?_
                    refine e_lmul dX3_digest_371 ?_
                    refine e_aload0 dX3_digest_372 ?_
                    refine e_getfieldF flX3_156 dX3_digest_373 rfl rfl ?_
                    refine e_i2l dX3_digest_376 ?_
                    refine e_ladd dX3_digest_377 ?_
                    refine e_lstore1 dX3_digest_378 rfl (by decide) ?_
                    refine e_iconst (z := 0) dX3_digest_379 ?_
                    refine e_istore3 dX3_digest_380 rfl (by decide) ?_
                    have H : ∀ (m i : Nat) (v : Int64) (sf2 a2 : Nat → Int32), i ≤ len → m = len - i → v = m_dg X c sn len tx i → RelR sf2 X → Ev mX3_digest 11 381 [some (qR 11 0), some (qL v), none, some (qI (nI i)), none] [] 132 (q_put h 11 (oR (nI 0) sf2 a2 sts snp txt rdd (nI c) (nI sn) (nI len) pt iw rm)) 0 0 (fun r n h' => ∃ x, r = some (qL x) ∧ n = 132 ∧ ((fun r h2 => r = m_dg X c sn len tx len ∧ ∃ sf' a', RelR sf' X ∧ h2 = q_put h 11 (oR (nI 0) sf' a' sts snp txt rdd (nI c) (nI sn) (nI len) pt iw rm))) x h') qNo := by
                      intro m
                      induction m using Nat.strongRecOn with
                      | _ m ih =>
                      intro i v sf2 a2 hi hm hv hR2
                      refine e_iload3 dX3_digest_381 ?_
                      refine e_aload0 dX3_digest_382 ?_
                      refine e_getfieldF flX3_156 dX3_digest_383 rfl rfl ?_
                      first | refine e_icmp_geN 409 dX3_digest_386 (by decide) (by omega) (by omega) (fun hc386 => ?_) (fun hc386 => ?_) | refine e_icmp_ge 409 dX3_digest_386 (by decide) (fun hc386 => ?_) (fun hc386 => ?_)
                      · obtain rfl : i = len := by omega
                        subst hv
                        refine e_lload1 dX3_digest_409 ?_
                        refine e_lret dX3_digest_410 rfl ?_
                        exact ⟨_, rfl, rfl, rfl, sf2, a2, hR2, rfl⟩
                      · refine e_ldcL ckX3_249 dX3_digest_389 ?_
                        refine e_lload1 dX3_digest_392 ?_
                        refine e_lmul dX3_digest_393 ?_
                        refine e_aload0 dX3_digest_394 ?_
                        refine e_getfieldF flX3_22 dX3_digest_395 rfl rfl ?_
                        refine e_iload3 dX3_digest_398 ?_
                        refine e_ialoadN dX3_digest_399 rfl (by omega) (by decide) ?_
                        rw [htx i (by omega)]
                        refine e_i2l dX3_digest_400 ?_
                        refine e_ladd dX3_digest_401 ?_
                        refine e_lstore1 dX3_digest_402 rfl (by decide) ?_
                        first | refine e_iinc3N (z := 1) dX3_digest_403 rfl (by decide) ?_ | refine e_iinc3 dX3_digest_403 rfl rfl (by decide) ?_
                        refine e_goto 381 dX3_digest_406 (by decide) ?_
                        exact ih _ (by omega) (i + 1) _ sf2 a2 (by omega) rfl (by rw [m_dg, hv]; rfl) hR2
                    exact H _ 0 _ sf3 a3 (Nat.zero_le _) rfl (by rw [hv]; show _ = m_d4 X c sn len; unfold m_d4; rw [hbl]; rfl) hR3
                · refine e_aload0 dX3_digest_182 ?_
                  refine e_getfieldF flX3_7 dX3_digest_183 rfl rfl ?_
                  refine e_sipush (v := nI 195) dX3_digest_186 (by decide) ?_
                  refine e_iload3 dX3_digest_189 ?_
                  first | refine e_iaddN dX3_digest_190 ?_ | refine e_iadd dX3_digest_190 ?_
                  refine e_ialoadN dX3_digest_191 rfl (by omega) (by decide) ?_
                  rw [rR11 hR2 i (by omega)]
                  have h224 := (iV10 hJ.1 i (by omega)).1
                  refine e_istore4 dX3_digest_192 rfl (by decide) ?_
                  refine e_ldcL ckX3_249 dX3_digest_194 ?_
                  refine e_ldcL ckX3_249 dX3_digest_197 ?_
                  refine e_ldcL ckX3_249 dX3_digest_200 ?_
                  refine e_ldcL ckX3_249 dX3_digest_203 ?_
                  refine e_lload1 dX3_digest_206 ?_
                  refine e_lmul dX3_digest_207 ?_
                  refine e_iload4 dX3_digest_208 ?_
                  refine e_bipush (v := nI 32) dX3_digest_210 (by decide) ?_
                  refine e_idiv dX3_digest_212 (by decide) ?_
                  rw [b_dv32 _ h224]
                  refine e_i2l dX3_digest_213 ?_
                  refine e_ladd dX3_digest_214 ?_
                  refine e_lmul dX3_digest_215 ?_
                  refine e_iload4 dX3_digest_216 ?_
                  refine e_iconst (z := 4) dX3_digest_218 ?_
                  refine e_idiv dX3_digest_219 (by decide) ?_
                  rw [b_dv4 _ h224]
                  refine e_bipush (v := nI 8) dX3_digest_220 (by decide) ?_
                  refine e_irem dX3_digest_222 (by decide) ?_
                  rw [b_rm8 _ h224]
                  refine e_i2l dX3_digest_223 ?_
                  refine e_ladd dX3_digest_224 ?_
                  refine e_lmul dX3_digest_225 ?_
                  refine e_iload4 dX3_digest_226 ?_
                  refine e_iconst (z := 4) dX3_digest_228 ?_
                  refine e_irem dX3_digest_229 (by decide) ?_
                  rw [b_rm4 _ h224]
                  refine e_i2l dX3_digest_230 ?_
                  refine e_ladd dX3_digest_231 ?_
                  refine e_lmul dX3_digest_232 ?_
                  refine e_aload0 dX3_digest_233 ?_
                  refine e_iload3 dX3_digest_234 ?_
                  refine e_vIF (M' := mX3_sendsBy) fX3_sendsBy lkX3_223 (r_sendsBy h (nI 0) sf2 a2 sts snp txt rdd (nI c) (nI sn) (nI len) pt iw rm X hR2 hJ (p := i) (by omega)) rfl rfl dX3_digest_235 rfl rfl (by decide) (Nat.le_of_ble_eq_true rfl) rfl ?_
                  rintro _ _ ⟨rfl, sf3, a3, hR3, rfl⟩
                  refine e_i2l dX3_digest_238 ?_
                  refine e_ladd dX3_digest_239 ?_
                  refine e_lstore1 dX3_digest_240 rfl (by decide) ?_
                  first | refine e_iinc3N (z := 1) dX3_digest_241 rfl (by decide) ?_ | refine e_iinc3 dX3_digest_241 rfl rfl (by decide) ?_
                  refine e_goto 171 dX3_digest_244 (by decide) ?_
                  refine e_drop4 ?_
                  exact ih _ (by omega) (i + 1) _ sf3 a3 (by omega) rfl (by rw [m_dMs, hv]; try rfl) hR3
              exact H _ 0 _ sf2 a2 (Nat.zero_le _) rfl (by rw [hv]; rfl) hR2
            · refine e_aload0 dX3_digest_121 ?_
              refine e_lload1 dX3_digest_122 ?_
              refine e_iload3 dX3_digest_123 ?_
              refine e_vLF (M' := mX3_digestSite) fX3_digestSite lkX3_257 (r_digestSite h (nI 0) sf2 a2 sts snp txt rdd (nI c) (nI sn) (nI len) pt iw rm X hR2 hJ (s := i) (by omega) v) rfl rfl dX3_digest_124 rfl rfl (by decide) (Nat.le_of_ble_eq_true rfl) rfl ?_
              rintro _ _ ⟨rfl, rfl⟩
              refine e_lstore1 dX3_digest_127 rfl (by decide) ?_
              first | refine e_iinc3N (z := 1) dX3_digest_128 rfl (by decide) ?_ | refine e_iinc3 dX3_digest_128 rfl rfl (by decide) ?_
              refine e_goto 116 dX3_digest_131 (by decide) ?_
              exact ih _ (by omega) (i + 1) _ sf2 a2 (by omega) rfl (by rw [m_dSI, hv]) hR2
          exact H _ 0 _ sf2 a2 (Nat.zero_le _) rfl (by rw [hv]; rfl) hR2
        · refine e_ldcL ckX3_249 dX3_digest_57 ?_
          refine e_ldcL ckX3_249 dX3_digest_60 ?_
          refine e_lload1 dX3_digest_63 ?_
          refine e_lmul dX3_digest_64 ?_
          refine e_aload0 dX3_digest_65 ?_
          refine e_getfieldF flX3_7 dX3_digest_66 rfl rfl ?_
          refine e_iconst (z := 5) dX3_digest_69 ?_
          refine e_iload3 dX3_digest_70 ?_
          first | refine e_iaddN dX3_digest_71 ?_ | refine e_iadd dX3_digest_71 ?_
          refine e_ialoadN dX3_digest_72 rfl (by omega) (by decide) ?_
          rw [rR1 hR2 i (by omega)]
          refine e_i2l dX3_digest_73 ?_
          refine e_ladd dX3_digest_74 ?_
          refine e_lmul dX3_digest_75 ?_
          refine e_aload0 dX3_digest_76 ?_
          refine e_iload3 dX3_digest_77 ?_
          refine e_vIF (M' := mX3_amountLogged) fX3_amountLogged lkX3_193 (r_amountLogged h (nI 0) sf2 a2 sts snp txt rdd (nI c) (nI sn) (nI len) pt iw rm X hR2 hJ (s := i) (by omega)) rfl rfl dX3_digest_78 rfl rfl (by decide) (Nat.le_of_ble_eq_true rfl) rfl ?_
          rintro _ _ ⟨rfl, rfl⟩
          refine e_i2l dX3_digest_81 ?_
          refine e_ladd dX3_digest_82 ?_
          refine e_lstore1 dX3_digest_83 rfl (by decide) ?_
          refine e_ldcL ckX3_249 dX3_digest_84 ?_
          refine e_ldcL ckX3_249 dX3_digest_87 ?_
          refine e_lload1 dX3_digest_90 ?_
          refine e_lmul dX3_digest_91 ?_
          refine e_aload0 dX3_digest_92 ?_
          refine e_iload3 dX3_digest_93 ?_
          refine e_vIF (M' := mX3_doubts) fX3_doubts lkX3_199 (r_doubts h (nI 0) sf2 a2 sts snp txt rdd (nI c) (nI sn) (nI len) pt iw rm X hR2 hJ (s := i) (by omega)) rfl rfl dX3_digest_94 rfl rfl (by decide) (Nat.le_of_ble_eq_true rfl) rfl ?_
          rintro _ _ ⟨rfl, rfl⟩
          refine e_i2l dX3_digest_97 ?_
          refine e_ladd dX3_digest_98 ?_
          refine e_lmul dX3_digest_99 ?_
          refine e_aload0 dX3_digest_100 ?_
          refine e_iload3 dX3_digest_101 ?_
          refine e_vIF (M' := mX3_settledAmount) fX3_settledAmount lkX3_235 (r_settledAmount h (nI 0) sf2 a2 sts snp txt rdd (nI c) (nI sn) (nI len) pt iw rm X hR2 hJ (s := i) (by omega)) rfl rfl dX3_digest_102 rfl rfl (by decide) (Nat.le_of_ble_eq_true rfl) rfl ?_
          rintro _ _ ⟨rfl, sf3, a3, hR3, rfl⟩
          refine e_i2l dX3_digest_105 ?_
          refine e_ladd dX3_digest_106 ?_
          refine e_lstore1 dX3_digest_107 rfl (by decide) ?_
          first | refine e_iinc3N (z := 1) dX3_digest_108 rfl (by decide) ?_ | refine e_iinc3 dX3_digest_108 rfl rfl (by decide) ?_
          refine e_goto 52 dX3_digest_111 (by decide) ?_
          exact ih _ (by omega) (i + 1) _ sf3 a3 (by omega) rfl (by rw [m_dST, hv]; try rfl) hR3
      exact H _ 0 _ sf2 a2 (Nat.zero_le _) rfl (by rw [hv]; rfl) hR2
    · refine e_aload0 dX3_digest_37 ?_
      refine e_lload1 dX3_digest_38 ?_
      refine e_iload3 dX3_digest_39 ?_
      refine e_vLF (M' := mX3_digestTransfer) fX3_digestTransfer lkX3_253 (r_digestTransfer h (nI 0) sf2 a2 sts snp txt rdd (nI c) (nI sn) (nI len) pt iw rm X hR2 hJ (t := i) (by omega) v) rfl rfl dX3_digest_40 rfl rfl (by decide) (Nat.le_of_ble_eq_true rfl) rfl ?_
      rintro _ _ ⟨rfl, sf3, a3, hR3, rfl⟩
      refine e_lstore1 dX3_digest_43 rfl (by decide) ?_
      first | refine e_iinc3N (z := 1) dX3_digest_44 rfl (by decide) ?_ | refine e_iinc3 dX3_digest_44 rfl rfl (by decide) ?_
      refine e_goto 26 dX3_digest_47 (by decide) ?_
      exact ih _ (by omega) (i + 1) _ sf3 a3 (by omega) rfl (by rw [m_dTT, hv]; try rfl) hR3
  exact H _ 0 _ sf asd (Nat.zero_le _) rfl rfl hR
