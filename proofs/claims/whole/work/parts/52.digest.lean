/-! THE CLASS: the hash -/
set_option maxRecDepth 20000 in
set_option maxHeartbeats 4000000 in
theorem v_digest (h : qB) (pi : Nat → Option qK) (buf : Nat → Int32) {c sn len : Nat} (rd : Nat → Int32) (w : Fin 16 → qw) (X : qm) (hR : RelC (w 1) X) (hJ : J X) (h31 : X.1 0 3 ≤ X.1 0 1) (h32 : X.1 0 1 < 2 ^ 31) (hc : c ≤ 6) (hsn : sn ≤ 1) (hlen : len ≤ 60) {tx : Nat → Nat} (htx : ∀ i, i < len → buf i = nI (tx i)) : CtL mX2_digest 9 [qR 0 0] (hK h (oC pi buf (nI c) (nI sn) (nI len) rd) w 10) (fun r h2 => r = m_dg X c sn len tx len ∧ ∃ x3 x4, h2 = hK h (oC pi buf (nI c) (nI sn) (nI len) rd) (uw (uw w 4 x4) 3 x3) 10) := by
  have i1 := iV1 hJ.1
  refine ct_of (by decide +kernel) rfl rfl (Nat.le_of_ble_eq_true rfl) ?_
  show Ev mX2_digest 9 0 [some (qR 0 0), none, none, none, none] [] 132 (hK h (oC pi buf (nI c) (nI sn) (nI len) rd) w 10) 0 0 _ _
  refine e_aload0 dX2_digest_0 ?_
  refine e_vI (M' := mX2_settle) fX2_settle lkX2_245 (v_settle h pi buf (nI c) (nI sn) (nI len) rd w X hR hJ) rfl rfl dX2_digest_1 (by rw [hK_0]; rfl) rfl (by decide) (Nat.le_of_ble_eq_true rfl) rfl ?_
  rintro _ _ ⟨rfl, x4, hZ, rfl⟩
  have hJZ := j_settle hJ
  refine e_istore1 dX2_digest_4 rfl (by decide) ?_
  refine e_ldcL ckX2_255 dX2_digest_5 ?_
  refine e_aload0 dX2_digest_8 ?_
  refine e_get0 flX2_10 dX2_digest_9 rfl rfl ?_
  refine e_getW flX2_175 dX2_digest_12 (by decide) (by decide) rfl rfl ?_
  rw [show uw w 4 x4 1 0 0 = nI (X.1 0 0) by rw [uw_ne _ _ (by decide)]; exact rC0 hR]
  refine e_i2l dX2_digest_15 ?_
  refine e_sL (M' := mX2_mix) fX2_mix lkX2_257 (v_mix _ _ _) rfl rfl dX2_digest_16 (by decide) (Nat.le_of_ble_eq_true rfl) rfl ?_
  rintro _ _ ⟨rfl, rfl⟩
  refine e_lstore2 dX2_digest_19 rfl (by decide) ?_
  refine e_iconst (z := 0) dX2_digest_20 ?_
  refine e_istore4 dX2_digest_21 rfl (by decide) ?_
  have H : ∀ (m i : Nat) (v : Int64), i ≤ X.1 0 0 → m = X.1 0 0 - i → v = m_dTT X i → Ev mX2_digest 9 23 [some (qR 0 0), some (qI (nI (m_settleN X))), some (qL v), none, some (qI (nI i))] [] 132 (hK h (oC pi buf (nI c) (nI sn) (nI len) rd) (uw w 4 x4) 10) 0 0 (fun r n h' => ∃ x, r = some (qL x) ∧ n = 132 ∧ ((fun r h2 => r = m_dg X c sn len tx len ∧ ∃ x3 x4, h2 = hK h (oC pi buf (nI c) (nI sn) (nI len) rd) (uw (uw w 4 x4) 3 x3) 10)) x h') qNo := by
    intro m
    induction m using Nat.strongRecOn with
    | _ m ih =>
    intro i v hi hm hv
    refine e_iload4 dX2_digest_23 ?_
    refine e_aload0 dX2_digest_25 ?_
    refine e_get0 flX2_10 dX2_digest_26 rfl rfl ?_
    refine e_getW flX2_175 dX2_digest_29 (by decide) (by decide) rfl rfl ?_
    rw [show uw w 4 x4 1 0 0 = nI (X.1 0 0) by rw [uw_ne _ _ (by decide)]; exact rC0 hR]
    first | refine e_icmp_geN 49 dX2_digest_32 (by decide) (by omega) (by omega) (fun hc32 => ?_) (fun hc32 => ?_) | refine e_icmp_ge 49 dX2_digest_32 (by decide) (fun hc32 => ?_) (fun hc32 => ?_)
    · obtain rfl : i = X.1 0 0 := by omega
      refine e_iconst (z := 0) dX2_digest_49 ?_
      refine e_istore4 dX2_digest_50 rfl (by decide) ?_
      have H : ∀ (m i : Nat) (v : Int64), i ≤ 4 → m = 4 - i → v = m_dST X i → Ev mX2_digest 9 52 [some (qR 0 0), some (qI (nI (m_settleN X))), some (qL v), none, some (qI (nI i))] [] 132 (hK h (oC pi buf (nI c) (nI sn) (nI len) rd) (uw w 4 x4) 10) 0 0 (fun r n h' => ∃ x, r = some (qL x) ∧ n = 132 ∧ ((fun r h2 => r = m_dg X c sn len tx len ∧ ∃ x3 x4, h2 = hK h (oC pi buf (nI c) (nI sn) (nI len) rd) (uw (uw w 4 x4) 3 x3) 10)) x h') qNo := by
        intro m
        induction m using Nat.strongRecOn with
        | _ m ih =>
        intro i v hi hm hv
        refine e_iload4 dX2_digest_52 ?_
        refine e_iconst (z := 4) dX2_digest_54 ?_
        first | refine e_icmp_geN 116 dX2_digest_55 (by decide) (by omega) (by omega) (fun hc55 => ?_) (fun hc55 => ?_) | refine e_icmp_ge 116 dX2_digest_55 (by decide) (fun hc55 => ?_) (fun hc55 => ?_)
        · obtain rfl : i = 4 := by omega
          refine e_iconst (z := 0) dX2_digest_116 ?_
          refine e_istore4 dX2_digest_117 rfl (by decide) ?_
          have H : ∀ (m i : Nat) (v : Int64), i ≤ 5 → m = 5 - i → v = m_dSI X i → Ev mX2_digest 9 119 [some (qR 0 0), some (qI (nI (m_settleN X))), some (qL v), none, some (qI (nI i))] [] 132 (hK h (oC pi buf (nI c) (nI sn) (nI len) rd) (uw w 4 x4) 10) 0 0 (fun r n h' => ∃ x, r = some (qL x) ∧ n = 132 ∧ ((fun r h2 => r = m_dg X c sn len tx len ∧ ∃ x3 x4, h2 = hK h (oC pi buf (nI c) (nI sn) (nI len) rd) (uw (uw w 4 x4) 3 x3) 10)) x h') qNo := by
            intro m
            induction m using Nat.strongRecOn with
            | _ m ih =>
            intro i v hi hm hv
            refine e_iload4 dX2_digest_119 ?_
            refine e_iconst (z := 5) dX2_digest_121 ?_
            first | refine e_icmp_geN 139 dX2_digest_122 (by decide) (by omega) (by omega) (fun hc122 => ?_) (fun hc122 => ?_) | refine e_icmp_ge 139 dX2_digest_122 (by decide) (fun hc122 => ?_) (fun hc122 => ?_)
            · obtain rfl : i = 5 := by omega
              refine e_lload2 dX2_digest_139 ?_
              refine e_aload0 dX2_digest_140 ?_
              refine e_vI (M' := mX2_total) fX2_total lkX2_277 (v_total h pi buf (nI c) (nI sn) (nI len) rd (uw w 4 x4) X (by rw [uw_ne _ _ (by decide)]; exact hR) hJ) rfl rfl dX2_digest_141 (by rw [hK_0]; rfl) rfl (by decide) (Nat.le_of_ble_eq_true rfl) rfl ?_
              rintro _ _ ⟨rfl, rfl⟩
              refine e_i2l dX2_digest_144 ?_
              refine e_sL (M' := mX2_mix) fX2_mix lkX2_257 (v_mix _ _ _) rfl rfl dX2_digest_145 (by decide) (Nat.le_of_ble_eq_true rfl) rfl ?_
              rintro _ _ ⟨rfl, rfl⟩
              refine e_lstore2 dX2_digest_148 rfl (by decide) ?_
              refine e_lload2 dX2_digest_149 ?_
              refine e_aload0 dX2_digest_150 ?_
              refine e_vI (M' := mX2_onTheWay) fX2_onTheWay lkX2_280 (v_onTheWay h pi buf (nI c) (nI sn) (nI len) rd (uw w 4 x4) X (by rw [uw_ne _ _ (by decide)]; exact hR) hJ) rfl rfl dX2_digest_151 (by rw [hK_0]; rfl) rfl (by decide) (Nat.le_of_ble_eq_true rfl) rfl ?_
              rintro _ _ ⟨rfl, rfl⟩
              refine e_i2l dX2_digest_154 ?_
              refine e_sL (M' := mX2_mix) fX2_mix lkX2_257 (v_mix _ _ _) rfl rfl dX2_digest_155 (by decide) (Nat.le_of_ble_eq_true rfl) rfl ?_
              rintro _ _ ⟨rfl, rfl⟩
              refine e_lstore2 dX2_digest_158 rfl (by decide) ?_
              refine e_aload0 dX2_digest_159 ?_
              refine e_lload2 dX2_digest_160 ?_
              refine e_vL (M' := mX2_mixMessages) fX2_mixMessages lkX2_283 (v_mixMessages h pi buf (nI c) (nI sn) (nI len) rd (uw w 4 x4) X (by rw [uw_ne _ _ (by decide)]; exact hR) hJ _) rfl rfl dX2_digest_161 (by rw [hK_0]; rfl) rfl (by decide) (Nat.le_of_ble_eq_true rfl) rfl ?_
              rintro _ _ ⟨rfl, x3, rfl⟩
              refine e_lstore2 dX2_digest_164 rfl (by decide) ?_
              refine e_lload2 dX2_digest_165 ?_
              refine e_iload1 dX2_digest_166 ?_
              refine e_i2l dX2_digest_167 ?_
              refine e_sL (M' := mX2_mix) fX2_mix lkX2_257 (v_mix _ _ _) rfl rfl dX2_digest_168 (by decide) (Nat.le_of_ble_eq_true rfl) rfl ?_
              rintro _ _ ⟨rfl, rfl⟩
              refine e_lstore2 dX2_digest_171 rfl (by decide) ?_
              refine e_lload2 dX2_digest_172 ?_
              refine e_aload0 dX2_digest_173 ?_
              refine e_iconst (z := 0) dX2_digest_174 ?_
              refine e_bipush (v := nI 14) dX2_digest_175 (by decide) ?_
              refine e_vI (M' := mX2_greatestSize) fX2_greatestSize lkX2_287 (v_greatestSize h pi buf (nI c) (nI sn) (nI len) rd (uw (uw w 4 x4) 3 x3) X (by rw [uw_ne _ _ (by decide), uw_ne _ _ (by decide)]; exact hR) hJ (f := 0) (to := 14) (by decide) (by decide) (by decide) (by decide)) rfl rfl dX2_digest_177 (by rw [hK_0]; rfl) rfl (by decide) (Nat.le_of_ble_eq_true rfl) rfl ?_
              rintro _ _ ⟨rfl, rfl⟩
              refine e_i2l dX2_digest_180 ?_
              refine e_sL (M' := mX2_mix) fX2_mix lkX2_257 (v_mix _ _ _) rfl rfl dX2_digest_181 (by decide) (Nat.le_of_ble_eq_true rfl) rfl ?_
              rintro _ _ ⟨rfl, rfl⟩
              refine e_lstore2 dX2_digest_184 rfl (by decide) ?_
              refine e_lload2 dX2_digest_185 ?_
              refine e_aload0 dX2_digest_186 ?_
              refine e_get0 flX2_40 dX2_digest_187 rfl rfl ?_
              refine e_i2l dX2_digest_190 ?_
              refine e_sL (M' := mX2_mix) fX2_mix lkX2_257 (v_mix _ _ _) rfl rfl dX2_digest_191 (by decide) (Nat.le_of_ble_eq_true rfl) rfl ?_
              rintro _ _ ⟨rfl, rfl⟩
              refine e_lstore2 dX2_digest_194 rfl (by decide) ?_
              refine e_lload2 dX2_digest_195 ?_
              refine e_aload0 dX2_digest_196 ?_
              refine e_vD (M' := mX2_lostShare) fX2_lostShare lkX2_290 (v_lostShare h pi buf (nI c) (nI sn) (nI len) rd (uw (uw w 4 x4) 3 x3) X (by rw [uw_ne _ _ (by decide), uw_ne _ _ (by decide)]; exact hR) hJ h31 h32) rfl rfl dX2_digest_197 (by rw [hK_0]; rfl) rfl (by decide) (Nat.le_of_ble_eq_true rfl) rfl ?_
              rintro _ _ ⟨rfl, rfl⟩
              refine e_sL (M' := mX2_bitsOfShare) fX2_bitsOfShare lkX2_294 (v_bitsOfShare _ (m_ls_dd h31 h32)) rfl rfl dX2_digest_200 (by decide) (Nat.le_of_ble_eq_true rfl) rfl ?_
              rintro _ _ ⟨rfl, rfl⟩
              refine e_sL (M' := mX2_mix) fX2_mix lkX2_257 (v_mix _ _ _) rfl rfl dX2_digest_203 (by decide) (Nat.le_of_ble_eq_true rfl) rfl ?_
              rintro _ _ ⟨rfl, rfl⟩
              refine e_lstore2 dX2_digest_206 rfl (by decide) ?_
              refine e_lload2 dX2_digest_207 ?_
              refine e_aload0 dX2_digest_208 ?_
              refine e_vF (M' := mX2_meanSize) fX2_meanSize lkX2_298 (v_meanSize h pi buf (nI c) (nI sn) (nI len) rd (uw (uw w 4 x4) 3 x3) X (by rw [uw_ne _ _ (by decide), uw_ne _ _ (by decide)]; exact hR) hJ) rfl rfl dX2_digest_209 (by rw [hK_0]; rfl) rfl (by decide) (Nat.le_of_ble_eq_true rfl) rfl ?_
              rintro _ _ ⟨rfl, rfl⟩
              refine e_sI (M' := mX2_bitsOfMean) fX2_bitsOfMean lkX2_302 (v_bitsOfMean _ (m_mean_ff hJ)) rfl rfl dX2_digest_212 (by decide) (Nat.le_of_ble_eq_true rfl) rfl ?_
              rintro _ _ ⟨rfl, rfl⟩
              refine e_i2l dX2_digest_215 ?_
              refine e_sL (M' := mX2_mix) fX2_mix lkX2_257 (v_mix _ _ _) rfl rfl dX2_digest_216 (by decide) (Nat.le_of_ble_eq_true rfl) rfl ?_
              rintro _ _ ⟨rfl, rfl⟩
              refine e_lstore2 dX2_digest_219 rfl (by decide) ?_
              refine e_lload2 dX2_digest_220 ?_
              refine e_aload0 dX2_digest_221 ?_
              refine e_get0 flX2_44 dX2_digest_222 rfl rfl ?_
              rcases (show sn = 0 ∨ sn = 1 by omega) with hs0 | hs0
              · have hbl : m_bl (decide (sn = 1)) = 0 := by rw [hs0]; rfl
                refine e_if_eqN 232 dX2_digest_225 (by decide) (by first | omega | decide) (fun hc225 => ?_) (fun q => absurd hs0 q)
                refine e_lconst (v := 0) dX2_digest_232 (by decide) ?_
                refine e_sL (M' := mX2_mix) fX2_mix lkX2_257 (v_mix _ _ _) rfl rfl dX2_digest_233 (by decide) (Nat.le_of_ble_eq_true rfl) rfl ?_
                rintro _ _ ⟨rfl, rfl⟩
                refine e_lstore2 dX2_digest_236 rfl (by decide) ?_
                refine e_lload2 dX2_digest_237 ?_
                refine e_aload0 dX2_digest_238 ?_
                refine e_get0 flX2_48 dX2_digest_239 rfl rfl ?_
                refine e_i2l dX2_digest_242 ?_
                refine e_sL (M' := mX2_mix) fX2_mix lkX2_257 (v_mix _ _ _) rfl rfl dX2_digest_243 (by decide) (Nat.le_of_ble_eq_true rfl) rfl ?_
                rintro _ _ ⟨rfl, rfl⟩
                refine e_lstore2 dX2_digest_246 rfl (by decide) ?_
                refine e_iconst (z := 0) dX2_digest_247 ?_
                refine e_istore4 dX2_digest_248 rfl (by decide) ?_
                have H : ∀ (m i : Nat) (v : Int64), i ≤ len → m = len - i → v = m_dg X c sn len tx i → Ev mX2_digest 9 250 [some (qR 0 0), some (qI (nI (m_settleN X))), some (qL v), none, some (qI (nI i))] [] 132 (hK h (oC pi buf (nI c) (nI sn) (nI len) rd) (uw (uw w 4 x4) 3 x3) 10) 0 0 (fun r n h' => ∃ x, r = some (qL x) ∧ n = 132 ∧ ((fun r h2 => r = m_dg X c sn len tx len ∧ ∃ x3 x4, h2 = hK h (oC pi buf (nI c) (nI sn) (nI len) rd) (uw (uw w 4 x4) 3 x3) 10)) x h') qNo := by
                  intro m
                  induction m using Nat.strongRecOn with
                  | _ m ih =>
                  intro i v hi hm hv
                  refine e_iload4 dX2_digest_250 ?_
                  refine e_aload0 dX2_digest_252 ?_
                  refine e_get0 flX2_48 dX2_digest_253 rfl rfl ?_
                  first | refine e_icmp_geN 278 dX2_digest_256 (by decide) (by omega) (by omega) (fun hc256 => ?_) (fun hc256 => ?_) | refine e_icmp_ge 278 dX2_digest_256 (by decide) (fun hc256 => ?_) (fun hc256 => ?_)
                  · obtain rfl : i = len := by omega
                    subst hv
                    refine e_lload2 dX2_digest_278 ?_
                    refine e_lret dX2_digest_279 rfl ?_
                    exact ⟨_, rfl, rfl, rfl, x3, x4, rfl⟩
                  · refine e_lload2 dX2_digest_259 ?_
                    refine e_aload0 dX2_digest_260 ?_
                    refine e_get0 flX2_29 dX2_digest_261 rfl rfl ?_
                    refine e_iload4 dX2_digest_264 ?_
                    first | refine e_ialoadW dX2_digest_266 (by decide) (by decide) rfl (by omega) (by decide) ?_ | refine e_ialoadB dX2_digest_266 rfl (by omega) (by decide) ?_
                    rw [(htx i (by omega))]
                    refine e_i2l dX2_digest_267 ?_
                    refine e_sL (M' := mX2_mix) fX2_mix lkX2_257 (v_mix _ _ _) rfl rfl dX2_digest_268 (by decide) (Nat.le_of_ble_eq_true rfl) rfl ?_
                    rintro _ _ ⟨rfl, rfl⟩
                    refine e_lstore2 dX2_digest_271 rfl (by decide) ?_
                    first | refine e_iinc4N (z := 1) dX2_digest_272 rfl (by decide) ?_ | refine e_iinc4 dX2_digest_272 rfl rfl (by decide) ?_
                    refine e_goto 250 dX2_digest_275 (by decide) ?_
                    exact ih _ (by omega) (i + 1) _ (by omega) rfl (by rw [m_dg, hv]; try rfl)
                exact H _ 0 _ (Nat.zero_le _) rfl (by rw [hv]; show _ = m_d4 X c sn len; unfold m_d4; rw [hbl]; rfl)
              · have hbl : m_bl (decide (sn = 1)) = 1 := by rw [hs0]; rfl
                refine e_if_eqN 232 dX2_digest_225 (by decide) (by first | omega | decide) (fun q => absurd q (by omega)) (fun hc225 => ?_)
                refine e_lconst (v := 1) dX2_digest_228 (by decide) ?_
                refine e_goto 233 dX2_digest_229 (by decide) ?_
                refine e_sL (M' := mX2_mix) fX2_mix lkX2_257 (v_mix _ _ _) rfl rfl dX2_digest_233 (by decide) (Nat.le_of_ble_eq_true rfl) rfl ?_
                rintro _ _ ⟨rfl, rfl⟩
                refine e_lstore2 dX2_digest_236 rfl (by decide) ?_
                refine e_lload2 dX2_digest_237 ?_
                refine e_aload0 dX2_digest_238 ?_
                refine e_get0 flX2_48 dX2_digest_239 rfl rfl ?_
                refine e_i2l dX2_digest_242 ?_
                refine e_sL (M' := mX2_mix) fX2_mix lkX2_257 (v_mix _ _ _) rfl rfl dX2_digest_243 (by decide) (Nat.le_of_ble_eq_true rfl) rfl ?_
                rintro _ _ ⟨rfl, rfl⟩
                refine e_lstore2 dX2_digest_246 rfl (by decide) ?_
                refine e_iconst (z := 0) dX2_digest_247 ?_
                refine e_istore4 dX2_digest_248 rfl (by decide) ?_
                have H : ∀ (m i : Nat) (v : Int64), i ≤ len → m = len - i → v = m_dg X c sn len tx i → Ev mX2_digest 9 250 [some (qR 0 0), some (qI (nI (m_settleN X))), some (qL v), none, some (qI (nI i))] [] 132 (hK h (oC pi buf (nI c) (nI sn) (nI len) rd) (uw (uw w 4 x4) 3 x3) 10) 0 0 (fun r n h' => ∃ x, r = some (qL x) ∧ n = 132 ∧ ((fun r h2 => r = m_dg X c sn len tx len ∧ ∃ x3 x4, h2 = hK h (oC pi buf (nI c) (nI sn) (nI len) rd) (uw (uw w 4 x4) 3 x3) 10)) x h') qNo := by
                  intro m
                  induction m using Nat.strongRecOn with
                  | _ m ih =>
                  intro i v hi hm hv
                  refine e_iload4 dX2_digest_250 ?_
                  refine e_aload0 dX2_digest_252 ?_
                  refine e_get0 flX2_48 dX2_digest_253 rfl rfl ?_
                  first | refine e_icmp_geN 278 dX2_digest_256 (by decide) (by omega) (by omega) (fun hc256 => ?_) (fun hc256 => ?_) | refine e_icmp_ge 278 dX2_digest_256 (by decide) (fun hc256 => ?_) (fun hc256 => ?_)
                  · obtain rfl : i = len := by omega
                    subst hv
                    refine e_lload2 dX2_digest_278 ?_
                    refine e_lret dX2_digest_279 rfl ?_
                    exact ⟨_, rfl, rfl, rfl, x3, x4, rfl⟩
                  · refine e_lload2 dX2_digest_259 ?_
                    refine e_aload0 dX2_digest_260 ?_
                    refine e_get0 flX2_29 dX2_digest_261 rfl rfl ?_
                    refine e_iload4 dX2_digest_264 ?_
                    first | refine e_ialoadW dX2_digest_266 (by decide) (by decide) rfl (by omega) (by decide) ?_ | refine e_ialoadB dX2_digest_266 rfl (by omega) (by decide) ?_
                    rw [(htx i (by omega))]
                    refine e_i2l dX2_digest_267 ?_
                    refine e_sL (M' := mX2_mix) fX2_mix lkX2_257 (v_mix _ _ _) rfl rfl dX2_digest_268 (by decide) (Nat.le_of_ble_eq_true rfl) rfl ?_
                    rintro _ _ ⟨rfl, rfl⟩
                    refine e_lstore2 dX2_digest_271 rfl (by decide) ?_
                    first | refine e_iinc4N (z := 1) dX2_digest_272 rfl (by decide) ?_ | refine e_iinc4 dX2_digest_272 rfl rfl (by decide) ?_
                    refine e_goto 250 dX2_digest_275 (by decide) ?_
                    exact ih _ (by omega) (i + 1) _ (by omega) rfl (by rw [m_dg, hv]; try rfl)
                exact H _ 0 _ (Nat.zero_le _) rfl (by rw [hv]; show _ = m_d4 X c sn len; unfold m_d4; rw [hbl]; rfl)
            · refine e_aload0 dX2_digest_125 ?_
              refine e_lload2 dX2_digest_126 ?_
              refine e_iload4 dX2_digest_127 ?_
              refine e_vL (M' := mX2_mixSite) fX2_mixSite lkX2_274 (v_mixSite h pi buf (nI c) (nI sn) (nI len) rd (uw w 4 x4) X (by rw [uw_ne _ _ (by decide)]; exact hR) hJ (s := i) (by omega) v) rfl rfl dX2_digest_129 (by rw [hK_0]; rfl) rfl (by decide) (Nat.le_of_ble_eq_true rfl) rfl ?_
              rintro _ _ ⟨rfl, rfl⟩
              refine e_lstore2 dX2_digest_132 rfl (by decide) ?_
              first | refine e_iinc4N (z := 1) dX2_digest_133 rfl (by decide) ?_ | refine e_iinc4 dX2_digest_133 rfl rfl (by decide) ?_
              refine e_goto 119 dX2_digest_136 (by decide) ?_
              exact ih _ (by omega) (i + 1) _ (by omega) rfl (by rw [m_dSI, hv]; try rfl)
          exact H _ 0 _ (Nat.zero_le _) rfl (by rw [hv]; try rfl)
        · refine e_lload2 dX2_digest_58 ?_
          refine e_aload0 dX2_digest_59 ?_
          refine e_iload4 dX2_digest_60 ?_
          refine e_vI (M' := mX2_amount) fX2_amount lkX2_265 (v_amount h pi buf (nI c) (nI sn) (nI len) rd (uw w 4 x4) X (by rw [uw_ne _ _ (by decide)]; exact hR) hJ (s := i) (by omega)) rfl rfl dX2_digest_62 (by rw [hK_0]; rfl) rfl (by decide) (Nat.le_of_ble_eq_true rfl) rfl ?_
          rintro _ _ ⟨rfl, rfl⟩
          refine e_i2l dX2_digest_65 ?_
          refine e_sL (M' := mX2_mix) fX2_mix lkX2_257 (v_mix _ _ _) rfl rfl dX2_digest_66 (by decide) (Nat.le_of_ble_eq_true rfl) rfl ?_
          rintro _ _ ⟨rfl, rfl⟩
          refine e_lstore2 dX2_digest_69 rfl (by decide) ?_
          refine e_lload2 dX2_digest_70 ?_
          refine e_aload0 dX2_digest_71 ?_
          refine e_iload4 dX2_digest_72 ?_
          refine e_vI (M' := mX2_amountByLog) fX2_amountByLog lkX2_268 (v_amountByLog h pi buf (nI c) (nI sn) (nI len) rd (uw w 4 x4) X (by rw [uw_ne _ _ (by decide)]; exact hR) hJ (s := i) (by omega)) rfl rfl dX2_digest_74 (by rw [hK_0]; rfl) rfl (by decide) (Nat.le_of_ble_eq_true rfl) rfl ?_
          rintro _ _ ⟨rfl, rfl⟩
          refine e_i2l dX2_digest_77 ?_
          refine e_sL (M' := mX2_mix) fX2_mix lkX2_257 (v_mix _ _ _) rfl rfl dX2_digest_78 (by decide) (Nat.le_of_ble_eq_true rfl) rfl ?_
          rintro _ _ ⟨rfl, rfl⟩
          refine e_lstore2 dX2_digest_81 rfl (by decide) ?_
          refine e_lload2 dX2_digest_82 ?_
          refine e_aload0 dX2_digest_83 ?_
          refine e_iload4 dX2_digest_84 ?_
          refine e_vI (M' := mX2_inDoubt) fX2_inDoubt lkX2_271 (v_inDoubt h pi buf (nI c) (nI sn) (nI len) rd (uw w 4 x4) X (by rw [uw_ne _ _ (by decide)]; exact hR) hJ (s := i) (by omega)) rfl rfl dX2_digest_86 (by rw [hK_0]; rfl) rfl (by decide) (Nat.le_of_ble_eq_true rfl) rfl ?_
          rintro _ _ ⟨rfl, rfl⟩
          refine e_i2l dX2_digest_89 ?_
          refine e_sL (M' := mX2_mix) fX2_mix lkX2_257 (v_mix _ _ _) rfl rfl dX2_digest_90 (by decide) (Nat.le_of_ble_eq_true rfl) rfl ?_
          rintro _ _ ⟨rfl, rfl⟩
          refine e_lstore2 dX2_digest_93 rfl (by decide) ?_
          refine e_lload2 dX2_digest_94 ?_
          refine e_aload0 dX2_digest_95 ?_
          refine e_get0 flX2_22 dX2_digest_96 rfl rfl ?_
          refine e_getW flX2_185 dX2_digest_99 (by decide) (by decide) rfl rfl ?_
          refine e_iload4 dX2_digest_102 ?_
          first | refine e_ialoadW dX2_digest_104 (by decide) (by decide) rfl (by omega) (by decide) ?_ | refine e_ialoadB dX2_digest_104 rfl (by omega) (by decide) ?_
          rw [show uw w 4 x4 4 9 i = (m_settle X).2 i by rw [uw_at]; exact rC9 hZ i (by omega)]
          refine e_i2l dX2_digest_105 ?_
          refine e_sL (M' := mX2_mix) fX2_mix lkX2_257 (v_mix _ _ _) rfl rfl dX2_digest_106 (by decide) (Nat.le_of_ble_eq_true rfl) rfl ?_
          rintro _ _ ⟨rfl, rfl⟩
          refine e_lstore2 dX2_digest_109 rfl (by decide) ?_
          first | refine e_iinc4N (z := 1) dX2_digest_110 rfl (by decide) ?_ | refine e_iinc4 dX2_digest_110 rfl rfl (by decide) ?_
          refine e_goto 52 dX2_digest_113 (by decide) ?_
          exact ih _ (by omega) (i + 1) _ (by omega) rfl (by rw [m_dST, hv]; try rfl)
      exact H _ 0 _ (Nat.zero_le _) rfl (by rw [hv]; try rfl)
    · refine e_aload0 dX2_digest_35 ?_
      refine e_lload2 dX2_digest_36 ?_
      refine e_iload4 dX2_digest_37 ?_
      refine e_vL (M' := mX2_mixTransfer) fX2_mixTransfer lkX2_261 (v_mixTransfer h pi buf (nI c) (nI sn) (nI len) rd (uw w 4 x4) X (by rw [uw_ne _ _ (by decide)]; exact hR) hJ (m_settle X) (by rw [uw_at]; exact hZ) hJZ (t := i) (by omega) v) rfl rfl dX2_digest_39 (by rw [hK_0]; rfl) rfl (by decide) (Nat.le_of_ble_eq_true rfl) rfl ?_
      rintro _ _ ⟨rfl, rfl⟩
      refine e_lstore2 dX2_digest_42 rfl (by decide) ?_
      first | refine e_iinc4N (z := 1) dX2_digest_43 rfl (by decide) ?_ | refine e_iinc4 dX2_digest_43 rfl rfl (by decide) ?_
      refine e_goto 23 dX2_digest_46 (by decide) ?_
      exact ih _ (by omega) (i + 1) _ (by omega) rfl (by rw [m_dTT, hv]; try rfl)
  exact H _ 0 _ (Nat.zero_le _) rfl rfl
