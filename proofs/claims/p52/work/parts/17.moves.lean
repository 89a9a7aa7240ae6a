/-! MOVES OF THE CLASS'S WORLD -/
theorem m_mask5_dn {X Y : qm} (hJ : ∀ k, k < 5 → X.1 1 k ≤ 1) {k : Nat} (hk : k < 5) (hY : ∀ i, Y.1 1 i = if i = k then 0 else X.1 1 i) : m_mask5 Y = m_mask5 X - m_mask5 X / 2 ^ k % 2 * 2 ^ k := by
  rw [(m_mask5_lt hJ).2 k hk]
  have h0 := hJ k hk
  unfold m_mask5
  rw [hY, hY, hY, hY, hY]
  rcases (show k = 0 ∨ k = 1 ∨ k = 2 ∨ k = 3 ∨ k = 4 by omega) with rfl | rfl | rfl | rfl | rfl <;> simp <;> omega
theorem m_mask5_up {X Y : qm} (hJ : ∀ k, k < 5 → X.1 1 k ≤ 1) {k : Nat} (hk : k < 5) (hY : ∀ i, Y.1 1 i = if i = k then 1 else X.1 1 i) : m_mask5 Y = m_mask5 X + (1 - m_mask5 X / 2 ^ k % 2) * 2 ^ k := by
  rw [(m_mask5_lt hJ).2 k hk]
  have h0 := hJ k hk
  unfold m_mask5
  rw [hY, hY, hY, hY, hY]
  rcases (show k = 0 ∨ k = 1 ∨ k = 2 ∨ k = 3 ∨ k = 4 by omega) with rfl | rfl | rfl | rfl | rfl <;> simp <;> omega
theorem relC_crash {w : qw} {X : qm} (hR : RelC w X) (i3 : ∀ k, k < 5 → X.1 1 k ≤ 1) {k : Nat} (hk : k < 5) {f g : Nat → Int32} (hf : ∀ t, t < 8 → f t = if k = 4 ∧ t < X.1 0 0 then nI 0 else w 5 t) (hg : ∀ t, t < 8 → g t = if k = 4 ∧ t < X.1 0 0 then nI 0 else w 6 t) :
    RelC (wt (wt (wt w 8 (fun _ => nI (m_mask5 X - m_mask5 X / 2 ^ k % 2 * 2 ^ k))) 5 f) 6 g) (m_crash X k) := by
  exact ⟨by simpa [wt, m_crash, m_part, m_share, m_mask8] using rC0 hR, by simpa [wt, m_crash, m_part, m_share, m_mask8] using rC1 hR, by simpa [wt, m_crash, m_part, m_share, m_mask8] using rC2 hR, by simpa [wt, m_crash, m_part, m_share, m_mask8] using rC3 hR, by simpa [wt, m_crash, m_part, m_share, m_mask8] using rC4 hR, fun t ht => by
      have h3 := rC5 hR t ht
      show f t = _
      rw [hf t ht, h3]
      simp only [m_crash]
      by_cases q : k = 4 ∧ t < X.1 0 0 <;> simp [q], fun t ht => by
      have h3 := rC6 hR t ht
      show g t = _
      rw [hg t ht, h3]
      simp only [m_crash]
      by_cases q : k = 4 ∧ t < X.1 0 0 <;> simp [q], by simpa [wt, m_crash, m_part, m_share, m_mask8] using rC7 hR, by rw [m_mask5_dn (Y := m_crash X k) i3 hk (fun i => by simp [m_crash])]; rfl, by simpa [wt, m_crash, m_part, m_share, m_mask8] using rC9 hR, by simpa [wt, m_crash, m_part, m_share, m_mask8] using rC10 hR, by simpa [wt, m_crash, m_part, m_share, m_mask8] using rC11 hR, by simpa [wt, m_crash, m_part, m_share, m_mask8] using rC12 hR, by simpa [wt, m_crash, m_part, m_share, m_mask8] using rC13 hR, by simpa [wt, m_crash, m_part, m_share, m_mask8] using rC14 hR, by simpa [wt, m_crash, m_part, m_share, m_mask8] using rC15 hR, by simpa [wt, m_crash, m_part, m_share, m_mask8] using rC16 hR, by simpa [wt, m_crash, m_part, m_share, m_mask8] using rC17 hR⟩
set_option maxRecDepth 20000 in
set_option maxHeartbeats 4000000 in
theorem w_takeDown (h : qB) (b : Fin 16) (w : qw) (X : qm) (hR : RelC w X) (hJ : J X) {k : Nat} (hk : k < 5) : CtV mX1_takeDown 0 [qR b 0, qI (nI k)] (q_put h b (wblk b w)) (fun h2 => ∃ w', RelC w' (m_crash X k) ∧ h2 = q_put h b (wblk b w')) := by
  refine ct_of (by decide +kernel) rfl rfl (Nat.le_of_ble_eq_true rfl) ?_
  show Ev mX1_takeDown 0 0 [some (qR b 0), some (qI (nI k)), none] [] 124 (q_put h b (wblk b w)) 0 0 _ _
  refine e_aload0 dX1_takeDown_0 ?_
  refine e_dup dX1_takeDown_1 rfl ?_
  refine e_getfieldF flX1_45 dX1_takeDown_2 rfl rfl ?_
  refine e_iconst (z := 1) dX1_takeDown_5 ?_
  refine e_iload1 dX1_takeDown_6 ?_
  refine e_ishl dX1_takeDown_7 ?_
  refine e_iconstM dX1_takeDown_8 ?_
  refine e_ixor dX1_takeDown_9 ?_
  refine e_iand dX1_takeDown_10 ?_
  rw [rC8 hR, b_dn _ (m_mask5_lt (iV3 hJ.1)).1 _ hk]
  refine e_putfieldF flX1_45 dX1_takeDown_11 rfl (Nat.le_of_ble_eq_true rfl) (fun _ => rfl) (fun _ => rfl) ?_
  refine e_iload1 dX1_takeDown_14 ?_
  refine e_iconst (z := 4) dX1_takeDown_15 ?_
  refine e_icmp_neN 49 dX1_takeDown_16 (by decide) (by omega) (by omega) (fun hc16 => ?_) (fun hc16 => ?_)
  · refine e_vret dX1_takeDown_49 rfl ?_
    exact ⟨rfl, rfl, _, relC_crash hR (iV3 hJ.1) hk (f := w 5) (g := w 6) (fun t _ => by rw [if_neg (fun c => hc16 c.1)]) (fun t _ => by rw [if_neg (fun c => hc16 c.1)]), rfl⟩
  · have hc16 : k = 4 := by omega
    subst hc16
    refine e_iconst (z := 0) dX1_takeDown_19 ?_
    refine e_istore2 dX1_takeDown_20 rfl (by decide) ?_
    have H : ∀ (m i : Nat) (f g : Nat → Int32), i ≤ X.1 0 0 → m = X.1 0 0 - i → (∀ t, t < 8 → f t = if t < i then nI 0 else w 5 t) → (∀ t, t < 8 → g t = if t < i then nI 0 else w 6 t) → Ev mX1_takeDown 0 21 [some (qR b 0), some (qI (nI 4)), some (qI (nI i))] [] 124 (q_put h b (wblk b (wt (wt (wt w 8 (fun _ => nI (m_mask5 X - m_mask5 X / 2 ^ 4 % 2 * 2 ^ 4))) 5 f) 6 g))) 0 0 (fun r n h' => r = none ∧ n = 124 ∧ ((fun h2 => ∃ w', RelC w' (m_crash X 4) ∧ h2 = q_put h b (wblk b w'))) h') qNo := by
      intro m
      induction m using Nat.strongRecOn with
      | _ m ih =>
      intro i f g hi hm hf hg
      have i1 := iV1 hJ.1
      refine e_iload2 dX1_takeDown_21 ?_
      refine e_aload0 dX1_takeDown_22 ?_
      refine e_getfieldF flX1_49 dX1_takeDown_23 rfl rfl ?_
      rw [show (wt (wt (wt w 8 (fun _ => nI (m_mask5 X - m_mask5 X / 2 ^ 4 % 2 * 2 ^ 4))) 5 f) 6 g) 0 0 = nI (X.1 0 0) from (show w 0 0 = _ from rC0 hR)]
      first | refine e_icmp_geN 49 dX1_takeDown_26 (by decide) (by omega) (by omega) (fun hc26 => ?_) (fun hc26 => ?_) | refine e_icmp_ge 49 dX1_takeDown_26 (by decide) (fun hc26 => ?_) (fun hc26 => ?_)
      · refine e_vret dX1_takeDown_49 rfl ?_
        obtain rfl : i = X.1 0 0 := by omega
        exact ⟨rfl, rfl, _, relC_crash hR (iV3 hJ.1) (k := 4) (by decide) (f := f) (g := g) (fun t ht => by rw [hf t ht]; congr 1; simp) (fun t ht => by rw [hg t ht]; congr 1; simp), rfl⟩
      · refine e_aload0 dX1_takeDown_29 ?_
        refine e_getfieldF flX1_24 dX1_takeDown_30 rfl rfl ?_
        refine e_iload2 dX1_takeDown_33 ?_
        refine e_iconst (z := 0) dX1_takeDown_34 ?_
        refine e_iastoreN dX1_takeDown_35 rfl (by omega) (by decide) ?_
        refine e_aload0 dX1_takeDown_36 ?_
        refine e_getfieldF flX1_27 dX1_takeDown_37 rfl rfl ?_
        refine e_iload2 dX1_takeDown_40 ?_
        refine e_iconst (z := 0) dX1_takeDown_41 ?_
        refine e_iastoreN dX1_takeDown_42 rfl (by omega) (by decide) ?_
        first | refine e_iinc2N (z := 1) dX1_takeDown_43 rfl (by decide) ?_ | refine e_iinc2 dX1_takeDown_43 rfl rfl (by decide) ?_
        refine e_goto 21 dX1_takeDown_46 (by decide) ?_
        refine ih _ (by omega) (i + 1) (upd f i (nI 0)) (upd g i (nI 0)) (by omega) rfl (fun t ht => ?_) (fun t ht => ?_)
        · by_cases q : t = i
          · rw [q, upd_same, if_pos (by omega)]
          · rw [upd_ne q, hf t ht]; by_cases q2 : t < i
            · rw [if_pos q2, if_pos (by omega)]
            · rw [if_neg q2, if_neg (by omega)]
        · by_cases q : t = i
          · rw [q, upd_same, if_pos (by omega)]
          · rw [upd_ne q, hg t ht]; by_cases q2 : t < i
            · rw [if_pos q2, if_pos (by omega)]
            · rw [if_neg q2, if_neg (by omega)]
    exact H _ 0 (w 5) (w 6) (Nat.zero_le _) rfl (fun _ _ => rfl) (fun _ _ => rfl)
theorem relC_up {w : qw} {X : qm} (hR : RelC w X) (i3 : ∀ k, k < 5 → X.1 1 k ≤ 1) {k : Nat} (hk : k < 5) : RelC (wt w 8 (fun _ => nI (m_mask5 X + (1 - m_mask5 X / 2 ^ k % 2) * 2 ^ k))) (xs X 1 k 1) := by
  exact ⟨by simpa [wt, xs, m_part, m_share, m_mask8] using rC0 hR, by simpa [wt, xs, m_part, m_share, m_mask8] using rC1 hR, by simpa [wt, xs, m_part, m_share, m_mask8] using rC2 hR, by simpa [wt, xs, m_part, m_share, m_mask8] using rC3 hR, by simpa [wt, xs, m_part, m_share, m_mask8] using rC4 hR, by simpa [wt, xs, m_part, m_share, m_mask8] using rC5 hR, by simpa [wt, xs, m_part, m_share, m_mask8] using rC6 hR, by simpa [wt, xs, m_part, m_share, m_mask8] using rC7 hR, by rw [m_mask5_up (Y := xs X 1 k 1) i3 hk (fun i => by simp [xs])]; rfl, by simpa [wt, xs, m_part, m_share, m_mask8] using rC9 hR, by simpa [wt, xs, m_part, m_share, m_mask8] using rC10 hR, by simpa [wt, xs, m_part, m_share, m_mask8] using rC11 hR, by simpa [wt, xs, m_part, m_share, m_mask8] using rC12 hR, by simpa [wt, xs, m_part, m_share, m_mask8] using rC13 hR, by simpa [wt, xs, m_part, m_share, m_mask8] using rC14 hR, by simpa [wt, xs, m_part, m_share, m_mask8] using rC15 hR, by simpa [wt, xs, m_part, m_share, m_mask8] using rC16 hR, by simpa [wt, xs, m_part, m_share, m_mask8] using rC17 hR⟩
set_option maxRecDepth 20000 in
set_option maxHeartbeats 4000000 in
theorem w_bringUp (h : qB) (b : Fin 16) (w : qw) (X : qm) (hR : RelC w X) (hJ : J X) {k : Nat} (hk : k < 5) : CtV mX1_bringUp 3 [qR b 0, qI (nI k)] (q_put h b (wblk b w)) (fun h2 => ∃ w', RelC w' (m_recover X k) ∧ h2 = q_put h b (wblk b w')) := by
  refine ct_of (by decide +kernel) rfl rfl (Nat.le_of_ble_eq_true rfl) ?_
  show Ev mX1_bringUp 3 0 [some (qR b 0), some (qI (nI k)), none] [] 124 (q_put h b (wblk b w)) 0 0 _ _
  refine e_aload0 dX1_bringUp_0 ?_
  refine e_dup dX1_bringUp_1 rfl ?_
  refine e_getfieldF flX1_45 dX1_bringUp_2 rfl rfl ?_
  refine e_iconst (z := 1) dX1_bringUp_5 ?_
  refine e_iload1 dX1_bringUp_6 ?_
  refine e_ishl dX1_bringUp_7 ?_
  refine e_ior dX1_bringUp_8 ?_
  rw [rC8 hR, b_uu _ (m_mask5_lt (iV3 hJ.1)).1 _ hk]
  refine e_putfieldF flX1_45 dX1_bringUp_9 rfl (Nat.le_of_ble_eq_true rfl) (fun _ => rfl) (fun _ => rfl) ?_
  refine e_iconst (z := 0) dX1_bringUp_12 ?_
  refine e_istore2 dX1_bringUp_13 rfl (by decide) ?_
  have H : ∀ (m i : Nat) (w2 : qw), i ≤ X.1 0 0 → m = X.1 0 0 - i → RelC w2 (m_ups (xs X 1 k 1) k i) → Ev mX1_bringUp 3 14 [some (qR b 0), some (qI (nI k)), some (qI (nI i))] [] 124 (q_put h b (wblk b w2)) 0 0 (fun r n h' => r = none ∧ n = 124 ∧ ((fun h2 => ∃ w', RelC w' (m_recover X k) ∧ h2 = q_put h b (wblk b w'))) h') qNo := by
    intro m
    induction m using Nat.strongRecOn with
    | _ m ih =>
    intro i w2 hi hm hR2
    have i1 := iV1 hJ.1
    have hJ2 := j_ups (j_up hJ k) hk i hi
    have hT2 : i < X.1 0 0 → i < (m_ups (xs X 1 k 1) k i).1 0 0 := fun q => by rw [m_ups_0]; exact q
    refine e_iload2 dX1_bringUp_14 ?_
    refine e_aload0 dX1_bringUp_15 ?_
    refine e_getfieldF flX1_49 dX1_bringUp_16 rfl rfl ?_
    rw [show w2 0 0 = nI (X.1 0 0) from (by rw [rC0 hR2, m_ups_0]; rfl)]
    first | refine e_icmp_geN 61 dX1_bringUp_19 (by decide) (by omega) (by omega) (fun hc19 => ?_) (fun hc19 => ?_) | refine e_icmp_ge 61 dX1_bringUp_19 (by decide) (fun hc19 => ?_) (fun hc19 => ?_)
    · refine e_vret dX1_bringUp_61 rfl ?_
      obtain rfl : i = X.1 0 0 := by omega
      exact ⟨rfl, rfl, w2, hR2, rfl⟩
    · refine e_iload1 dX1_bringUp_22 ?_
      refine e_iconst (z := 4) dX1_bringUp_23 ?_
      first | refine e_icmp_neN 35 dX1_bringUp_24 (by decide) (by omega) (by omega) (fun hc24 => ?_) (fun hc24 => ?_) | refine e_icmp_ne 35 dX1_bringUp_24 (by decide) (fun hc24 => ?_) (fun hc24 => ?_)
      · refine e_aload0 dX1_bringUp_35 ?_
        refine e_iload1 dX1_bringUp_36 ?_
        refine e_iload2 dX1_bringUp_37 ?_
        refine e_vIF (M' := mX1_stateOf) fX1_stateOf lkX1_80 (w_stateOf h b w2 _ hR2 (t := i) (s := k) (by omega) (by omega)) rfl rfl dX1_bringUp_38 rfl rfl (by decide) (Nat.le_of_ble_eq_true rfl) rfl ?_
        rintro _ _ ⟨rfl, rfl⟩
        have h9 := (iV6 hJ2.1 k i (by omega) (by omega)).1
        refine e_iconst (z := 1) dX1_bringUp_41 ?_
        first | refine e_icmp_neN 55 dX1_bringUp_42 (by decide) (by omega) (by omega) (fun hc42 => ?_) (fun hc42 => ?_) | refine e_icmp_ne 55 dX1_bringUp_42 (by decide) (fun hc42 => ?_) (fun hc42 => ?_)
        · first | refine e_iinc2N (z := 1) dX1_bringUp_55 rfl (by decide) ?_ | refine e_iinc2 dX1_bringUp_55 rfl rfl (by decide) ?_
          refine e_goto 14 dX1_bringUp_58 (by decide) ?_
          first
            | exact ih _ (by omega) (i + 1) w3 (by omega) rfl (by rw [m_ups, m_upStep, if_pos (by omega)]; exact hR3)
            | exact ih _ (by omega) (i + 1) w3 (by omega) rfl (by rw [m_ups, m_upStep, if_neg (by omega), if_pos hc42]; exact hR3)
            | exact ih _ (by omega) (i + 1) w2 (by omega) rfl (by rw [m_ups, m_upStep, if_neg (by omega), if_neg hc42]; exact hR2)
        · refine e_aload0 dX1_bringUp_45 ?_
          refine e_bipush (v := nI 6) dX1_bringUp_46 (by decide) ?_
          refine e_iload2 dX1_bringUp_48 ?_
          refine e_iconst (z := 1) dX1_bringUp_49 ?_
          refine e_iload1 dX1_bringUp_50 ?_
          refine e_ishl dX1_bringUp_51 ?_
          rw [b_one _ (show k < 4 by omega)]
          refine e_vVF (M' := mX1_send) fX1_send lkX1_150 (w_send h b w2 _ hR2 (iV2 hJ2.1) (kd := 6) (t := i) (mk := 2 ^ k) (by decide) (by omega) (b_two k (by omega))) rfl rfl dX1_bringUp_52 rfl rfl (by decide) (Nat.le_of_ble_eq_true rfl) rfl ?_
          rintro _ ⟨w3, hR3, rfl⟩
          rw [m_sendN_one _ _ _ (show k < 4 by omega)] at hR3
          first | refine e_iinc2N (z := 1) dX1_bringUp_55 rfl (by decide) ?_ | refine e_iinc2 dX1_bringUp_55 rfl rfl (by decide) ?_
          refine e_goto 14 dX1_bringUp_58 (by decide) ?_
          first
            | exact ih _ (by omega) (i + 1) w3 (by omega) rfl (by rw [m_ups, m_upStep, if_pos (by omega)]; exact hR3)
            | exact ih _ (by omega) (i + 1) w3 (by omega) rfl (by rw [m_ups, m_upStep, if_neg (by omega), if_pos hc42]; exact hR3)
            | exact ih _ (by omega) (i + 1) w2 (by omega) rfl (by rw [m_ups, m_upStep, if_neg (by omega), if_neg hc42]; exact hR2)
      · refine e_aload0 dX1_bringUp_27 ?_
        refine e_iload2 dX1_bringUp_28 ?_
        refine e_vVF (M' := mX1_clerkTakesUp) fX1_clerkTakesUp lkX1_162 (w_takesUp h b w2 _ hR2 hJ2.1 (t := i) (by omega) (hT2 (by omega)) (j_len7 hJ2 (hT2 (by omega))) (j_len8 hJ2 (hT2 (by omega))) (j_L hJ2)) rfl rfl dX1_bringUp_29 rfl rfl (by decide) (Nat.le_of_ble_eq_true rfl) rfl ?_
        rintro _ ⟨w3, hR3, rfl⟩
        refine e_goto 55 dX1_bringUp_32 (by decide) ?_
        first | refine e_iinc2N (z := 1) dX1_bringUp_55 rfl (by decide) ?_ | refine e_iinc2 dX1_bringUp_55 rfl rfl (by decide) ?_
        refine e_goto 14 dX1_bringUp_58 (by decide) ?_
        first
          | exact ih _ (by omega) (i + 1) w3 (by omega) rfl (by rw [m_ups, m_upStep, if_pos (by omega)]; exact hR3)
          | exact ih _ (by omega) (i + 1) w3 (by omega) rfl (by rw [m_ups, m_upStep, if_neg (by omega), if_pos hc42]; exact hR3)
          | exact ih _ (by omega) (i + 1) w2 (by omega) rfl (by rw [m_ups, m_upStep, if_neg (by omega), if_neg hc42]; exact hR2)
  exact H _ 0 _ (Nat.zero_le _) rfl (relC_up hR (iV3 hJ.1) hk)
set_option maxRecDepth 20000 in
set_option maxHeartbeats 4000000 in
theorem w_deliverFrom (h : qB) (b : Fin 16) (w : qw) (X : qm) (hR : RelC w X) (hJ : J X) {p : Nat} (hp : p < X.1 0 4) : CtI mX1_deliverFrom 3 [qR b 0, qI (nI p)] (q_put h b (wblk b w)) (fun r h2 => r = q_b (m_isUp X p) ∧ ∃ w', RelC w' (m_deliver X p) ∧ h2 = q_put h b (wblk b w')) := by
  refine ct_of (by decide +kernel) rfl rfl (Nat.le_of_ble_eq_true rfl) ?_
  show Ev mX1_deliverFrom 3 0 [some (qR b 0), some (qI (nI p)), none, none, none, none] [] 124 (q_put h b (wblk b w)) 0 0 _ _
  refine e_aload0 dX1_deliverFrom_0 ?_
  refine e_iload1 dX1_deliverFrom_1 ?_
  refine e_vIF (M' := mX1_takeOut) fX1_takeOut lkX1_98 (w_takeOut h b w X hR (iV2 hJ.1) (p := p) hp) rfl rfl dX1_deliverFrom_2 rfl rfl (by decide) (Nat.le_of_ble_eq_true rfl) rfl ?_
  rintro _ _ ⟨rfl, w1, hR1, rfl⟩
  have i10 := iV10 hJ.1 p hp
  have i1 := iV1 hJ.1
  have hJ1 := j_takeOut hJ hp
  refine e_istore2 dX1_deliverFrom_5 rfl (by decide) ?_
  refine e_iload2 dX1_deliverFrom_6 ?_
  refine e_nI (M' := mX2_kindIn) fX2_kindIn lkX1_102 (w_kindIn _ i10.1) rfl rfl dX1_deliverFrom_7 (by decide) (Nat.le_of_ble_eq_true rfl) rfl ?_
  rintro _ _ ⟨rfl, rfl⟩
  refine e_istore3 dX1_deliverFrom_10 rfl (by decide) ?_
  refine e_iload2 dX1_deliverFrom_11 ?_
  refine e_nI (M' := mX2_transferIn) fX2_transferIn lkX1_108 (w_transferIn _ i10.1) rfl rfl dX1_deliverFrom_12 (by decide) (Nat.le_of_ble_eq_true rfl) rfl ?_
  rintro _ _ ⟨rfl, rfl⟩
  refine e_istore4 dX1_deliverFrom_15 rfl (by decide) ?_
  refine e_iload2 dX1_deliverFrom_17 ?_
  refine e_nI (M' := mX2_storeIn) fX2_storeIn lkX1_111 (w_storeIn _ i10.1) rfl rfl dX1_deliverFrom_18 (by decide) (Nat.le_of_ble_eq_true rfl) rfl ?_
  rintro _ _ ⟨rfl, rfl⟩
  have hX : m_deliver X p = m_deliver X p := rfl
  unfold m_deliver m_isUp at hX
  have hu : ∀ v, RelC v (m_takeOut X p) → True := fun _ _ => trivial
  refine e_istore5 dX1_deliverFrom_21 rfl (by decide) ?_
  refine e_aload0 dX1_deliverFrom_23 ?_
  refine e_iload3 dX1_deliverFrom_24 ?_
  refine e_nI (M' := mX2_goesToStore) fX2_goesToStore lkX1_114 (w_goesToStore _ (k := X.1 12 p / 32) (by omega)) rfl rfl dX1_deliverFrom_25 (by decide) (Nat.le_of_ble_eq_true rfl) rfl ?_
  rintro _ _ ⟨rfl, rfl⟩
  generalize hkd : X.1 12 p / 32 = kd
  have hk7 : kd < 7 := by omega
  have hb0 : (decide (kd = 0 ∨ kd = 3 ∨ kd = 4)).toNat < 2 := by cases (decide (kd = 0 ∨ kd = 3 ∨ kd = 4)) <;> decide
  refine e_if_eqN 36 dX1_deliverFrom_28 (by decide) (by omega) (fun hc28 => ?_) (fun hc28 => ?_)
  · have hgo : ¬ (kd = 0 ∨ kd = 3 ∨ kd = 4) := by
      by_cases q : (kd = 0 ∨ kd = 3 ∨ kd = 4)
      · first | exact q | exact absurd hc28 (by rw [decide_eq_true q]; decide)
      · first | exact q | exact absurd hc28 (by rw [decide_eq_false q]; decide)
    refine e_iconst (z := 4) dX1_deliverFrom_36 ?_
    refine e_vIF (M' := mX1_stands) fX1_stands lkX1_94 (w_stands h b w1 _ hR1 (iV3 hJ1.1) (k := 4) (by omega)) rfl rfl dX1_deliverFrom_37 rfl rfl (by decide) (Nat.le_of_ble_eq_true rfl) rfl ?_
    rintro _ _ ⟨rfl, rfl⟩
    rw [show (m_takeOut X p).1 1 (4) = X.1 1 (4) from rfl]
    have hI : m_isUp X p = decide (X.1 1 (4) = 1) := by rw [m_isUp, hkd, if_neg hgo]
    rw [← hI]
    generalize hB : m_isUp X p = B1
    have hb1 : B1.toNat < 2 := by cases B1 <;> decide
    first | refine e_if_neN 55 dX1_deliverFrom_40 (by decide) (by omega) (fun hc40 => ?_) (fun hc40 => ?_) | refine e_if_ne 55 dX1_deliverFrom_40 (by decide) (fun hc40 => ?_) (fun hc40 => ?_)
    · refine e_aload0 dX1_deliverFrom_55 ?_
      refine e_dup dX1_deliverFrom_56 rfl ?_
      refine e_getfieldF flX1_67 dX1_deliverFrom_57 rfl rfl ?_
      rw [rC16 hR1]
      refine e_iconst (z := 1) dX1_deliverFrom_60 ?_
      first | refine e_iaddN dX1_deliverFrom_61 ?_ | refine e_iadd dX1_deliverFrom_61 ?_
      refine e_putfieldF flX1_67 dX1_deliverFrom_62 rfl (Nat.le_of_ble_eq_true rfl) (fun _ => rfl) (fun _ => rfl) ?_
      refine e_iload3 dX1_deliverFrom_65 ?_
      have hB1 : B1 = true := by cases B1 <;> first | rfl | exact absurd hc40 (by decide)
      subst hB1
      have hR2 := relC_handled hR1 (v := X.1 0 2 + 1) _ rfl
      have hJ2 : J (xs (m_takeOut X p) 0 2 (X.1 0 2 + 1)) := j_counter hJ1 (Or.inr (Or.inl rfl))
      have hT : X.1 12 p / 4 % 8 < (xs (m_takeOut X p) 0 2 (X.1 0 2 + 1)).1 0 0 := i10.2
      have hD : m_deliver X p = m_hears (xs (m_takeOut X p) 0 2 (X.1 0 2 + 1)) kd (X.1 12 p / 4 % 8) (X.1 12 p % 4) := by rw [m_deliver, if_pos hB, hkd]
      have h9 := (iV6 hJ2.1 (X.1 12 p % 4) (X.1 12 p / 4 % 8) (by omega) (by omega)).1
      have h10 : (xs (m_takeOut X p) 0 2 (X.1 0 2 + 1)).1 9 (8 * (X.1 12 p % 4) + X.1 12 p / 4 % 8) < 2 → (xs (m_takeOut X p) 0 2 (X.1 0 2 + 1)).1 10 (X.1 12 p % 4) < 24 := fun q => Nat.lt_of_lt_of_le (j_cS_lt hJ2 (s := X.1 12 p % 4) (t := X.1 12 p / 4 % 8) (by omega) (by omega) (by omega)) (by decide)
      rcases (show kd = 0 ∨ kd = 1 ∨ kd = 2 ∨ kd = 3 ∨ kd = 4 ∨ kd = 5 ∨ kd = 6 by omega) with hk0 | hk0 | hk0 | hk0 | hk0 | hk0 | hk0
      · subst hk0
        refine e_tableIn 104 (off := 38) dX1_deliverFrom_66 (by decide) (by decide) (by decide +kernel) (by decide) ?_
        refine e_aload0 dX1_deliverFrom_104 ?_
        refine e_iload5 dX1_deliverFrom_105 ?_
        refine e_iload4 dX1_deliverFrom_107 ?_
        refine e_vVF (M' := mX1_storeHearsAsking) fX1_storeHearsAsking lkX1_117 (w_hearsAsking h b _ _ hR2 hJ2.1 (iV2 hJ2.1) (t := X.1 12 p / 4 % 8) (s := X.1 12 p % 4) (by omega) (by omega) h9 h10 (j_L hJ2)) rfl rfl dX1_deliverFrom_109 rfl rfl (by decide) (Nat.le_of_ble_eq_true rfl) rfl ?_
        rintro _ ⟨w3, hR3, rfl⟩
        refine e_goto 176 dX1_deliverFrom_112 (by decide) ?_
        refine e_iconst (z := 1) dX1_deliverFrom_176 ?_
        refine e_zret dX1_deliverFrom_177 rfl (by first | rfl | exact q_nar _) ?_
        exact ⟨_, rfl, rfl, rfl, w3, by rw [hD]; exact hR3, rfl⟩
      · subst hk0
        refine e_tableIn 115 (off := 49) dX1_deliverFrom_66 (by decide) (by decide) (by decide +kernel) (by decide) ?_
        refine e_aload0 dX1_deliverFrom_115 ?_
        refine e_iload5 dX1_deliverFrom_116 ?_
        refine e_iload4 dX1_deliverFrom_118 ?_
        refine e_vVF (M' := mX1_clerkHearsYes) fX1_clerkHearsYes lkX1_121 (w_hearsYes h b _ _ hR2 hJ2.1 (t := X.1 12 p / 4 % 8) (s := X.1 12 p % 4) (by omega) (by omega) hT (j_len7 hJ2 hT) (j_len8 hJ2 hT) (j_L hJ2)) rfl rfl dX1_deliverFrom_120 rfl rfl (by decide) (Nat.le_of_ble_eq_true rfl) rfl ?_
        rintro _ ⟨w3, hR3, rfl⟩
        refine e_goto 176 dX1_deliverFrom_123 (by decide) ?_
        refine e_iconst (z := 1) dX1_deliverFrom_176 ?_
        refine e_zret dX1_deliverFrom_177 rfl (by first | rfl | exact q_nar _) ?_
        exact ⟨_, rfl, rfl, rfl, w3, by rw [hD]; exact hR3, rfl⟩
      · subst hk0
        refine e_tableIn 126 (off := 60) dX1_deliverFrom_66 (by decide) (by decide) (by decide +kernel) (by decide) ?_
        refine e_aload0 dX1_deliverFrom_126 ?_
        refine e_iload4 dX1_deliverFrom_127 ?_
        refine e_vVF (M' := mX1_clerkHearsNo) fX1_clerkHearsNo lkX1_124 (w_hearsNo h b _ _ hR2 hJ2.1 (t := X.1 12 p / 4 % 8) (by omega) hT (j_len7 hJ2 hT) (j_len8 hJ2 hT) (j_L hJ2)) rfl rfl dX1_deliverFrom_129 rfl rfl (by decide) (Nat.le_of_ble_eq_true rfl) rfl ?_
        rintro _ ⟨w3, hR3, rfl⟩
        refine e_goto 176 dX1_deliverFrom_132 (by decide) ?_
        refine e_iconst (z := 1) dX1_deliverFrom_176 ?_
        refine e_zret dX1_deliverFrom_177 rfl (by first | rfl | exact q_nar _) ?_
        exact ⟨_, rfl, rfl, rfl, w3, by rw [hD]; exact hR3, rfl⟩
      · subst hk0
        refine e_tableIn 135 (off := 69) dX1_deliverFrom_66 (by decide) (by decide) (by decide +kernel) (by decide) ?_
        refine e_aload0 dX1_deliverFrom_135 ?_
        refine e_iload5 dX1_deliverFrom_136 ?_
        refine e_iload4 dX1_deliverFrom_138 ?_
        refine e_vVF (M' := mX1_storeHearsMake) fX1_storeHearsMake lkX1_128 (w_hearsMake h b _ _ hR2 (iV2 hJ2.1) (t := X.1 12 p / 4 % 8) (s := X.1 12 p % 4) (by omega) (by omega) h9 h10 (j_L hJ2)) rfl rfl dX1_deliverFrom_140 rfl rfl (by decide) (Nat.le_of_ble_eq_true rfl) rfl ?_
        rintro _ ⟨w3, hR3, rfl⟩
        refine e_goto 176 dX1_deliverFrom_143 (by decide) ?_
        refine e_iconst (z := 1) dX1_deliverFrom_176 ?_
        refine e_zret dX1_deliverFrom_177 rfl (by first | rfl | exact q_nar _) ?_
        exact ⟨_, rfl, rfl, rfl, w3, by rw [hD]; exact hR3, rfl⟩
      · subst hk0
        refine e_tableIn 146 (off := 80) dX1_deliverFrom_66 (by decide) (by decide) (by decide +kernel) (by decide) ?_
        refine e_aload0 dX1_deliverFrom_146 ?_
        refine e_iload5 dX1_deliverFrom_147 ?_
        refine e_iload4 dX1_deliverFrom_149 ?_
        refine e_vVF (M' := mX1_storeHearsDrop) fX1_storeHearsDrop lkX1_131 (w_hearsDrop h b _ _ hR2 (iV2 hJ2.1) (t := X.1 12 p / 4 % 8) (s := X.1 12 p % 4) (by omega) (by omega) h9 h10 (j_L hJ2)) rfl rfl dX1_deliverFrom_151 rfl rfl (by decide) (Nat.le_of_ble_eq_true rfl) rfl ?_
        rintro _ ⟨w3, hR3, rfl⟩
        refine e_goto 176 dX1_deliverFrom_154 (by decide) ?_
        refine e_iconst (z := 1) dX1_deliverFrom_176 ?_
        refine e_zret dX1_deliverFrom_177 rfl (by first | rfl | exact q_nar _) ?_
        exact ⟨_, rfl, rfl, rfl, w3, by rw [hD]; exact hR3, rfl⟩
      · subst hk0
        refine e_tableIn 157 (off := 91) dX1_deliverFrom_66 (by decide) (by decide) (by decide +kernel) (by decide) ?_
        refine e_aload0 dX1_deliverFrom_157 ?_
        refine e_iload5 dX1_deliverFrom_158 ?_
        refine e_iload4 dX1_deliverFrom_160 ?_
        refine e_vVF (M' := mX1_clerkHearsDone) fX1_clerkHearsDone lkX1_134 (w_hearsDone h b _ _ hR2 hJ2.1 (t := X.1 12 p / 4 % 8) (s := X.1 12 p % 4) (by omega) (by omega) hT (j_len7 hJ2 hT) (j_len8 hJ2 hT) (j_L hJ2)) rfl rfl dX1_deliverFrom_162 rfl rfl (by decide) (Nat.le_of_ble_eq_true rfl) rfl ?_
        rintro _ ⟨w3, hR3, rfl⟩
        refine e_goto 176 dX1_deliverFrom_165 (by decide) ?_
        refine e_iconst (z := 1) dX1_deliverFrom_176 ?_
        refine e_zret dX1_deliverFrom_177 rfl (by first | rfl | exact q_nar _) ?_
        exact ⟨_, rfl, rfl, rfl, w3, by rw [hD]; exact hR3, rfl⟩
      · subst hk0
        refine e_tableOut 168 dX1_deliverFrom_66 (by decide) (by decide) ?_
        refine e_aload0 dX1_deliverFrom_168 ?_
        refine e_iload5 dX1_deliverFrom_169 ?_
        refine e_iload4 dX1_deliverFrom_171 ?_
        refine e_vVF (M' := mX1_clerkHearsWhatNow) fX1_clerkHearsWhatNow lkX1_137 (w_hearsWhat h b _ _ hR2 hJ2.1 (t := X.1 12 p / 4 % 8) (s := X.1 12 p % 4) (by omega) (by omega) hT (j_len7 hJ2 hT) (j_len8 hJ2 hT) (j_L hJ2)) rfl rfl dX1_deliverFrom_173 rfl rfl (by decide) (Nat.le_of_ble_eq_true rfl) rfl ?_
        rintro _ ⟨w3, hR3, rfl⟩
        refine e_iconst (z := 1) dX1_deliverFrom_176 ?_
        refine e_zret dX1_deliverFrom_177 rfl (by first | rfl | exact q_nar _) ?_
        exact ⟨_, rfl, rfl, rfl, w3, by rw [hD]; exact hR3, rfl⟩
    · refine e_aload0 dX1_deliverFrom_43 ?_
      refine e_dup dX1_deliverFrom_44 rfl ?_
      refine e_getfieldF flX1_70 dX1_deliverFrom_45 rfl rfl ?_
      rw [rC17 hR1]
      refine e_iconst (z := 1) dX1_deliverFrom_48 ?_
      first | refine e_iaddN dX1_deliverFrom_49 ?_ | refine e_iadd dX1_deliverFrom_49 ?_
      refine e_putfieldF flX1_70 dX1_deliverFrom_50 rfl (Nat.le_of_ble_eq_true rfl) (fun _ => rfl) (fun _ => rfl) ?_
      refine e_iconst (z := 0) dX1_deliverFrom_53 ?_
      refine e_zret dX1_deliverFrom_54 rfl (by first | rfl | exact q_nar _) ?_
      have hB1 : B1 = false := by cases B1 <;> first | rfl | exact absurd hc40 (by decide)
      subst hB1
      exact ⟨_, rfl, rfl, rfl, _, by rw [m_deliver, if_neg (by rw [hB]; decide)]; exact relC_lost hR1 (v := X.1 0 3 + 1) _ rfl, rfl⟩
  · have hgo : (kd = 0 ∨ kd = 3 ∨ kd = 4) := by
      by_cases q : (kd = 0 ∨ kd = 3 ∨ kd = 4)
      · first | exact q | exact absurd hc28 (by rw [decide_eq_true q]; decide)
      · first | exact q | exact absurd hc28 (by rw [decide_eq_false q]; decide)
    refine e_iload5 dX1_deliverFrom_31 ?_
    refine e_goto 37 dX1_deliverFrom_33 (by decide) ?_
    refine e_vIF (M' := mX1_stands) fX1_stands lkX1_94 (w_stands h b w1 _ hR1 (iV3 hJ1.1) (k := X.1 12 p % 4) (by omega)) rfl rfl dX1_deliverFrom_37 rfl rfl (by decide) (Nat.le_of_ble_eq_true rfl) rfl ?_
    rintro _ _ ⟨rfl, rfl⟩
    rw [show (m_takeOut X p).1 1 (X.1 12 p % 4) = X.1 1 (X.1 12 p % 4) from rfl]
    have hI : m_isUp X p = decide (X.1 1 (X.1 12 p % 4) = 1) := by rw [m_isUp, hkd, if_pos hgo]
    rw [← hI]
    generalize hB : m_isUp X p = B1
    have hb1 : B1.toNat < 2 := by cases B1 <;> decide
    first | refine e_if_neN 55 dX1_deliverFrom_40 (by decide) (by omega) (fun hc40 => ?_) (fun hc40 => ?_) | refine e_if_ne 55 dX1_deliverFrom_40 (by decide) (fun hc40 => ?_) (fun hc40 => ?_)
    · refine e_aload0 dX1_deliverFrom_55 ?_
      refine e_dup dX1_deliverFrom_56 rfl ?_
      refine e_getfieldF flX1_67 dX1_deliverFrom_57 rfl rfl ?_
      rw [rC16 hR1]
      refine e_iconst (z := 1) dX1_deliverFrom_60 ?_
      first | refine e_iaddN dX1_deliverFrom_61 ?_ | refine e_iadd dX1_deliverFrom_61 ?_
      refine e_putfieldF flX1_67 dX1_deliverFrom_62 rfl (Nat.le_of_ble_eq_true rfl) (fun _ => rfl) (fun _ => rfl) ?_
      refine e_iload3 dX1_deliverFrom_65 ?_
      have hB1 : B1 = true := by cases B1 <;> first | rfl | exact absurd hc40 (by decide)
      subst hB1
      have hR2 := relC_handled hR1 (v := X.1 0 2 + 1) _ rfl
      have hJ2 : J (xs (m_takeOut X p) 0 2 (X.1 0 2 + 1)) := j_counter hJ1 (Or.inr (Or.inl rfl))
      have hT : X.1 12 p / 4 % 8 < (xs (m_takeOut X p) 0 2 (X.1 0 2 + 1)).1 0 0 := i10.2
      have hD : m_deliver X p = m_hears (xs (m_takeOut X p) 0 2 (X.1 0 2 + 1)) kd (X.1 12 p / 4 % 8) (X.1 12 p % 4) := by rw [m_deliver, if_pos hB, hkd]
      have h9 := (iV6 hJ2.1 (X.1 12 p % 4) (X.1 12 p / 4 % 8) (by omega) (by omega)).1
      have h10 : (xs (m_takeOut X p) 0 2 (X.1 0 2 + 1)).1 9 (8 * (X.1 12 p % 4) + X.1 12 p / 4 % 8) < 2 → (xs (m_takeOut X p) 0 2 (X.1 0 2 + 1)).1 10 (X.1 12 p % 4) < 24 := fun q => Nat.lt_of_lt_of_le (j_cS_lt hJ2 (s := X.1 12 p % 4) (t := X.1 12 p / 4 % 8) (by omega) (by omega) (by omega)) (by decide)
      rcases (show kd = 0 ∨ kd = 1 ∨ kd = 2 ∨ kd = 3 ∨ kd = 4 ∨ kd = 5 ∨ kd = 6 by omega) with hk0 | hk0 | hk0 | hk0 | hk0 | hk0 | hk0
      · subst hk0
        refine e_tableIn 104 (off := 38) dX1_deliverFrom_66 (by decide) (by decide) (by decide +kernel) (by decide) ?_
        refine e_aload0 dX1_deliverFrom_104 ?_
        refine e_iload5 dX1_deliverFrom_105 ?_
        refine e_iload4 dX1_deliverFrom_107 ?_
        refine e_vVF (M' := mX1_storeHearsAsking) fX1_storeHearsAsking lkX1_117 (w_hearsAsking h b _ _ hR2 hJ2.1 (iV2 hJ2.1) (t := X.1 12 p / 4 % 8) (s := X.1 12 p % 4) (by omega) (by omega) h9 h10 (j_L hJ2)) rfl rfl dX1_deliverFrom_109 rfl rfl (by decide) (Nat.le_of_ble_eq_true rfl) rfl ?_
        rintro _ ⟨w3, hR3, rfl⟩
        refine e_goto 176 dX1_deliverFrom_112 (by decide) ?_
        refine e_iconst (z := 1) dX1_deliverFrom_176 ?_
        refine e_zret dX1_deliverFrom_177 rfl (by first | rfl | exact q_nar _) ?_
        exact ⟨_, rfl, rfl, rfl, w3, by rw [hD]; exact hR3, rfl⟩
      · subst hk0
        refine e_tableIn 115 (off := 49) dX1_deliverFrom_66 (by decide) (by decide) (by decide +kernel) (by decide) ?_
        refine e_aload0 dX1_deliverFrom_115 ?_
        refine e_iload5 dX1_deliverFrom_116 ?_
        refine e_iload4 dX1_deliverFrom_118 ?_
        refine e_vVF (M' := mX1_clerkHearsYes) fX1_clerkHearsYes lkX1_121 (w_hearsYes h b _ _ hR2 hJ2.1 (t := X.1 12 p / 4 % 8) (s := X.1 12 p % 4) (by omega) (by omega) hT (j_len7 hJ2 hT) (j_len8 hJ2 hT) (j_L hJ2)) rfl rfl dX1_deliverFrom_120 rfl rfl (by decide) (Nat.le_of_ble_eq_true rfl) rfl ?_
        rintro _ ⟨w3, hR3, rfl⟩
        refine e_goto 176 dX1_deliverFrom_123 (by decide) ?_
        refine e_iconst (z := 1) dX1_deliverFrom_176 ?_
        refine e_zret dX1_deliverFrom_177 rfl (by first | rfl | exact q_nar _) ?_
        exact ⟨_, rfl, rfl, rfl, w3, by rw [hD]; exact hR3, rfl⟩
      · subst hk0
        refine e_tableIn 126 (off := 60) dX1_deliverFrom_66 (by decide) (by decide) (by decide +kernel) (by decide) ?_
        refine e_aload0 dX1_deliverFrom_126 ?_
        refine e_iload4 dX1_deliverFrom_127 ?_
        refine e_vVF (M' := mX1_clerkHearsNo) fX1_clerkHearsNo lkX1_124 (w_hearsNo h b _ _ hR2 hJ2.1 (t := X.1 12 p / 4 % 8) (by omega) hT (j_len7 hJ2 hT) (j_len8 hJ2 hT) (j_L hJ2)) rfl rfl dX1_deliverFrom_129 rfl rfl (by decide) (Nat.le_of_ble_eq_true rfl) rfl ?_
        rintro _ ⟨w3, hR3, rfl⟩
        refine e_goto 176 dX1_deliverFrom_132 (by decide) ?_
        refine e_iconst (z := 1) dX1_deliverFrom_176 ?_
        refine e_zret dX1_deliverFrom_177 rfl (by first | rfl | exact q_nar _) ?_
        exact ⟨_, rfl, rfl, rfl, w3, by rw [hD]; exact hR3, rfl⟩
      · subst hk0
        refine e_tableIn 135 (off := 69) dX1_deliverFrom_66 (by decide) (by decide) (by decide +kernel) (by decide) ?_
        refine e_aload0 dX1_deliverFrom_135 ?_
        refine e_iload5 dX1_deliverFrom_136 ?_
        refine e_iload4 dX1_deliverFrom_138 ?_
        refine e_vVF (M' := mX1_storeHearsMake) fX1_storeHearsMake lkX1_128 (w_hearsMake h b _ _ hR2 (iV2 hJ2.1) (t := X.1 12 p / 4 % 8) (s := X.1 12 p % 4) (by omega) (by omega) h9 h10 (j_L hJ2)) rfl rfl dX1_deliverFrom_140 rfl rfl (by decide) (Nat.le_of_ble_eq_true rfl) rfl ?_
        rintro _ ⟨w3, hR3, rfl⟩
        refine e_goto 176 dX1_deliverFrom_143 (by decide) ?_
        refine e_iconst (z := 1) dX1_deliverFrom_176 ?_
        refine e_zret dX1_deliverFrom_177 rfl (by first | rfl | exact q_nar _) ?_
        exact ⟨_, rfl, rfl, rfl, w3, by rw [hD]; exact hR3, rfl⟩
      · subst hk0
        refine e_tableIn 146 (off := 80) dX1_deliverFrom_66 (by decide) (by decide) (by decide +kernel) (by decide) ?_
        refine e_aload0 dX1_deliverFrom_146 ?_
        refine e_iload5 dX1_deliverFrom_147 ?_
        refine e_iload4 dX1_deliverFrom_149 ?_
        refine e_vVF (M' := mX1_storeHearsDrop) fX1_storeHearsDrop lkX1_131 (w_hearsDrop h b _ _ hR2 (iV2 hJ2.1) (t := X.1 12 p / 4 % 8) (s := X.1 12 p % 4) (by omega) (by omega) h9 h10 (j_L hJ2)) rfl rfl dX1_deliverFrom_151 rfl rfl (by decide) (Nat.le_of_ble_eq_true rfl) rfl ?_
        rintro _ ⟨w3, hR3, rfl⟩
        refine e_goto 176 dX1_deliverFrom_154 (by decide) ?_
        refine e_iconst (z := 1) dX1_deliverFrom_176 ?_
        refine e_zret dX1_deliverFrom_177 rfl (by first | rfl | exact q_nar _) ?_
        exact ⟨_, rfl, rfl, rfl, w3, by rw [hD]; exact hR3, rfl⟩
      · subst hk0
        refine e_tableIn 157 (off := 91) dX1_deliverFrom_66 (by decide) (by decide) (by decide +kernel) (by decide) ?_
        refine e_aload0 dX1_deliverFrom_157 ?_
        refine e_iload5 dX1_deliverFrom_158 ?_
        refine e_iload4 dX1_deliverFrom_160 ?_
        refine e_vVF (M' := mX1_clerkHearsDone) fX1_clerkHearsDone lkX1_134 (w_hearsDone h b _ _ hR2 hJ2.1 (t := X.1 12 p / 4 % 8) (s := X.1 12 p % 4) (by omega) (by omega) hT (j_len7 hJ2 hT) (j_len8 hJ2 hT) (j_L hJ2)) rfl rfl dX1_deliverFrom_162 rfl rfl (by decide) (Nat.le_of_ble_eq_true rfl) rfl ?_
        rintro _ ⟨w3, hR3, rfl⟩
        refine e_goto 176 dX1_deliverFrom_165 (by decide) ?_
        refine e_iconst (z := 1) dX1_deliverFrom_176 ?_
        refine e_zret dX1_deliverFrom_177 rfl (by first | rfl | exact q_nar _) ?_
        exact ⟨_, rfl, rfl, rfl, w3, by rw [hD]; exact hR3, rfl⟩
      · subst hk0
        refine e_tableOut 168 dX1_deliverFrom_66 (by decide) (by decide) ?_
        refine e_aload0 dX1_deliverFrom_168 ?_
        refine e_iload5 dX1_deliverFrom_169 ?_
        refine e_iload4 dX1_deliverFrom_171 ?_
        refine e_vVF (M' := mX1_clerkHearsWhatNow) fX1_clerkHearsWhatNow lkX1_137 (w_hearsWhat h b _ _ hR2 hJ2.1 (t := X.1 12 p / 4 % 8) (s := X.1 12 p % 4) (by omega) (by omega) hT (j_len7 hJ2 hT) (j_len8 hJ2 hT) (j_L hJ2)) rfl rfl dX1_deliverFrom_173 rfl rfl (by decide) (Nat.le_of_ble_eq_true rfl) rfl ?_
        rintro _ ⟨w3, hR3, rfl⟩
        refine e_iconst (z := 1) dX1_deliverFrom_176 ?_
        refine e_zret dX1_deliverFrom_177 rfl (by first | rfl | exact q_nar _) ?_
        exact ⟨_, rfl, rfl, rfl, w3, by rw [hD]; exact hR3, rfl⟩
    · refine e_aload0 dX1_deliverFrom_43 ?_
      refine e_dup dX1_deliverFrom_44 rfl ?_
      refine e_getfieldF flX1_70 dX1_deliverFrom_45 rfl rfl ?_
      rw [rC17 hR1]
      refine e_iconst (z := 1) dX1_deliverFrom_48 ?_
      first | refine e_iaddN dX1_deliverFrom_49 ?_ | refine e_iadd dX1_deliverFrom_49 ?_
      refine e_putfieldF flX1_70 dX1_deliverFrom_50 rfl (Nat.le_of_ble_eq_true rfl) (fun _ => rfl) (fun _ => rfl) ?_
      refine e_iconst (z := 0) dX1_deliverFrom_53 ?_
      refine e_zret dX1_deliverFrom_54 rfl (by first | rfl | exact q_nar _) ?_
      have hB1 : B1 = false := by cases B1 <;> first | rfl | exact absurd hc40 (by decide)
      subst hB1
      exact ⟨_, rfl, rfl, rfl, _, by rw [m_deliver, if_neg (by rw [hB]; decide)]; exact relC_lost hR1 (v := X.1 0 3 + 1) _ rfl, rfl⟩
theorem nI_le0 : ∀ k, k < 61 → (nI k ≤ 0 ↔ k = 0) := by decide +kernel
set_option maxRecDepth 20000 in
set_option maxHeartbeats 4000000 in
theorem w_deliverFirst (h : qB) (b : Fin 16) (w : qw) (X : qm) (hR : RelC w X) (hJ : J X) {n0 : Nat} (hn0 : n0 < 2 ^ 31) : CtI mX1_deliverFirst 4 [qR b 0, qI (nI n0)] (q_put h b (wblk b w)) (fun r h2 => r = nI (m_firstN n0 X) ∧ ∃ w', RelC w' (m_first n0 X) ∧ h2 = q_put h b (wblk b w')) := by
  refine ct_of (by decide +kernel) rfl rfl (Nat.le_of_ble_eq_true rfl) ?_
  show Ev mX1_deliverFirst 4 0 [some (qR b 0), some (qI (nI n0)), none] [] 124 (q_put h b (wblk b w)) 0 0 _ _
  refine e_iconst (z := 0) dX1_deliverFirst_0 ?_
  refine e_istore2 dX1_deliverFirst_1 rfl (by decide) ?_
  have H : ∀ (m i : Nat) (w2 : qw) (Y : qm), i ≤ n0 → m = n0 - i → RelC w2 Y → J Y → m_first n0 X = m_first (n0 - i) Y → m_firstN n0 X = i + m_firstN (n0 - i) Y → Ev mX1_deliverFirst 4 2 [some (qR b 0), some (qI (nI n0)), some (qI (nI i))] [] 124 (q_put h b (wblk b w2)) 0 0 (fun r n h' => ∃ x, r = some (qI x) ∧ n = 124 ∧ ((fun r h2 => r = nI (m_firstN n0 X) ∧ ∃ w', RelC w' (m_first n0 X) ∧ h2 = q_put h b (wblk b w'))) x h') qNo := by
    intro m
    induction m using Nat.strongRecOn with
    | _ m ih =>
    intro i w2 Y hi hm hR2 hJ2 hX hN
    refine e_iload2 dX1_deliverFirst_2 ?_
    refine e_iload1 dX1_deliverFirst_3 ?_
    first | refine e_icmp_geN 26 dX1_deliverFirst_4 (by decide) (by omega) (by omega) (fun hc4 => ?_) (fun hc4 => ?_) | refine e_icmp_ge 26 dX1_deliverFirst_4 (by decide) (fun hc4 => ?_) (fun hc4 => ?_)
    · refine e_iload2 dX1_deliverFirst_26 ?_
      refine e_iret dX1_deliverFirst_27 rfl ?_
      obtain rfl : i = n0 := by omega
      rw [Nat.sub_self] at hN hX
      exact ⟨_, rfl, rfl, by rw [hN]; rfl, w2, by rw [hX]; exact hR2, rfl⟩
    · refine e_aload0 dX1_deliverFirst_7 ?_
      refine e_getfieldF flX1_61 dX1_deliverFirst_8 rfl rfl ?_
      rw [rC14 hR2]
      have i2 := iV2 hJ2.1
      by_cases hc11 : 0 < Y.1 0 4
      · refine e_if_le 26 dX1_deliverFirst_11 (by decide) (fun q => absurd q (by rw [nI_le0 _ (by omega)]; omega)) (fun _ => ?_)
        refine e_aload0 dX1_deliverFirst_14 ?_
        refine e_iconst (z := 0) dX1_deliverFirst_15 ?_
        refine e_vIF (M' := mX1_deliverFrom) fX1_deliverFrom lkX1_105 ((show CtI mX1_deliverFrom 3 [qR b 0, qI (nI 0)] _ _ from w_deliverFrom h b w2 Y hR2 hJ2 (p := 0) hc11)) rfl rfl dX1_deliverFirst_16 rfl rfl (by decide) (Nat.le_of_ble_eq_true rfl) rfl ?_
        rintro _ _ ⟨rfl, w3, hR3, rfl⟩
        refine e_pop dX1_deliverFirst_19 rfl ?_
        first | refine e_iinc2N (z := 1) dX1_deliverFirst_20 rfl (by decide) ?_ | refine e_iinc2 dX1_deliverFirst_20 rfl rfl (by decide) ?_
        refine e_goto 2 dX1_deliverFirst_23 (by decide) ?_
        refine ih _ (by omega) (i + 1) w3 (m_deliver Y 0) (by omega) rfl hR3 (j_deliver hJ2 hc11) ?_ ?_
        · rw [hX, show n0 - i = (n0 - (i + 1)) + 1 by omega, m_first, if_pos hc11]
        · rw [hN, show n0 - i = (n0 - (i + 1)) + 1 by omega, m_firstN, if_pos hc11]; omega
      · refine e_if_le 26 dX1_deliverFirst_11 (by decide) (fun _ => ?_) (fun q => absurd ((nI_le0 _ (by omega)).mpr (by omega)) q)
        refine e_iload2 dX1_deliverFirst_26 ?_
        refine e_iret dX1_deliverFirst_27 rfl ?_
        obtain ⟨z1, z2⟩ := m_first_none (X := Y) (by omega) (n0 - i)
        exact ⟨_, rfl, rfl, by rw [hN, z2]; rfl, w2, by rw [hX, z1]; exact hR2, rfl⟩
  exact H _ 0 w X (Nat.zero_le _) rfl hR hJ (by rw [Nat.sub_zero]) (by rw [Nat.sub_zero, Nat.zero_add])
