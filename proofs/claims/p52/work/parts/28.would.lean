/-! WHAT WOULD BE -/
theorem uw_uw (w : Fin 16 → qw) (b : Fin 16) (x y : qw) : uw (uw w b x) b y = uw w b y := by
  funext c
  by_cases hc : c = b <;> simp [uw, hc]
theorem uw_at (w : Fin 16 → qw) (b : Fin 16) (x : qw) : uw w b x b = x := if_pos rfl
theorem uw_ne (w : Fin 16 → qw) {b c : Fin 16} (x : qw) (h : c ≠ b) : uw w b x c = w c := if_neg h
def m_wouldSend (X : qm) (p : Nat) : Int32 := if m_isUp X p = true then nI ((m_deliver X p).1 0 1) - nI (X.1 0 1) else -1
set_option maxRecDepth 20000 in
set_option maxHeartbeats 4000000 in
theorem v_settle (h : qB) (pi : Nat → Option qK) (buf : Nat → Int32) (cnt sn len : Int32) (rd : Nat → Int32) (w : Fin 16 → qw) (X : qm) (hR : RelC (w 1) X) (hJ : J X) : CtI mX2_settle 5 [qR 0 0] (hK h (oC pi buf cnt sn len rd) w 10) (fun r h2 => r = nI (m_settleN X) ∧ ∃ x, RelC x (m_settle X) ∧ h2 = hK h (oC pi buf cnt sn len rd) (uw w 4 x) 10) := by
  refine ct_of (by decide +kernel) rfl rfl (Nat.le_of_ble_eq_true rfl) ?_
  show Ev mX2_settle 5 0 [some (qR 0 0), none] [] 124 (hK h (oC pi buf cnt sn len rd) w 10) 0 0 _ _
  refine e_aload0 dX2_settle_0 ?_
  refine e_get0 flX2_22 dX2_settle_1 rfl rfl ?_
  refine e_aload0 dX2_settle_4 ?_
  refine e_get0 flX2_10 dX2_settle_5 rfl rfl ?_
  refine e_vV (M' := mX1_copyFrom) fX1_copyFrom lkX2_167 (w_copyK h _ w 4 1 (by decide) (by decide) (by decide) (by decide) (by decide) X hR hJ) rfl rfl dX2_settle_8 (by rw [hK_at (by decide) (by decide)]; rfl) rfl (by decide) (Nat.le_of_ble_eq_true rfl) rfl ?_
  rintro _ ⟨x, hx, rfl⟩
  have hx4 : RelC (uw w 4 x 4) X := by rw [uw_at]; exact hx
  refine e_aload0 dX2_settle_11 ?_
  refine e_get0 flX2_22 dX2_settle_12 rfl rfl ?_
  refine e_iconst (z := 4) dX2_settle_15 ?_
  refine e_vI (M' := mX1_stands) fX1_stands lkX2_124 (ctI_K (b := 4) (by decide) (by decide) (w_stands (hK h (oC pi buf cnt sn len rd) (uw w 4 x) 10) 4 (uw w 4 x 4) X hx4 (iV3 hJ.1) (k := 4) (by decide))) rfl rfl dX2_settle_16 (by rw [hK_at (by decide) (by decide)]; rfl) rfl (by decide) (Nat.le_of_ble_eq_true rfl) rfl ?_
  rintro _ _ ⟨rfl, rfl⟩
  rw [hK_self (by decide) (by decide)]
  generalize hB : decide (X.1 1 4 = 1) = B1
  have hb1 : B1.toNat < 2 := by cases B1 <;> decide
  have HL : ∀ (y : qw), RelC y (m_ifUp X 4) → Ev mX2_settle 5 30 [some (qR 0 0), none] [] 124 (hK h (oC pi buf cnt sn len rd) (uw w 4 y) 10) 0 0 (fun r n h' => ∃ x, r = some (qI x) ∧ n = 124 ∧ ((fun r h2 => r = nI (m_settleN X) ∧ ∃ x, RelC x (m_settle X) ∧ h2 = hK h (oC pi buf cnt sn len rd) (uw w 4 x) 10)) x h') qNo := by
    intro y hy0
    refine e_iconst (z := 0) dX2_settle_30 ?_
    refine e_istore1 dX2_settle_31 rfl (by decide) ?_
    have H : ∀ (m i : Nat) (z : qw), i ≤ 4 → m = 4 - i → RelC z (m_settleUp X i) → Ev mX2_settle 5 32 [some (qR 0 0), some (qI (nI i))] [] 124 (hK h (oC pi buf cnt sn len rd) (uw w 4 z) 10) 0 0 (fun r n h' => ∃ x, r = some (qI x) ∧ n = 124 ∧ ((fun r h2 => r = nI (m_settleN X) ∧ ∃ x, RelC x (m_settle X) ∧ h2 = hK h (oC pi buf cnt sn len rd) (uw w 4 x) 10)) x h') qNo := by
      intro m
      induction m using Nat.strongRecOn with
      | _ m ih =>
      intro i z hi hm hz
      have hJi := j_settleUp hJ i hi
      have hz4 : RelC (uw w 4 z 4) (m_settleUp X i) := by rw [uw_at]; exact hz
      refine e_iload1 dX2_settle_32 ?_
      refine e_iconst (z := 4) dX2_settle_33 ?_
      first | refine e_icmp_geN 62 dX2_settle_34 (by decide) (by omega) (by omega) (fun hc34 => ?_) (fun hc34 => ?_) | refine e_icmp_ge 62 dX2_settle_34 (by decide) (fun hc34 => ?_) (fun hc34 => ?_)
      · obtain rfl : i = 4 := by omega
        refine e_aload0 dX2_settle_62 ?_
        refine e_get0 flX2_22 dX2_settle_63 rfl rfl ?_
        refine e_ldcI ckX2_113 dX2_settle_66 ?_
        refine e_vI (M' := mX1_deliverFirst) fX1_deliverFirst lkX2_114 (ctI_K (b := 4) (by decide) (by decide) (w_deliverFirst (hK h (oC pi buf cnt sn len rd) (uw w 4 z) 10) 4 (uw w 4 z 4) (m_settleUp X 4) hz4 hJi (n0 := 1000000) (by decide))) rfl rfl dX2_settle_68 (by rw [hK_at (by decide) (by decide)]; rfl) rfl (by decide) (Nat.le_of_ble_eq_true rfl) rfl ?_
        rintro _ _ ⟨rfl, z2, hz2, rfl⟩
        rw [(m_run_of hJi (n := 1000000) (by decide)).2]
        rw [(m_run_of hJi (n := 1000000) (by decide)).1] at hz2
        rw [hK_put (by decide) (by decide), uw_uw]
        refine e_iret dX2_settle_71 rfl ?_
        exact ⟨_, rfl, rfl, rfl, z2, hz2, rfl⟩
      · refine e_aload0 dX2_settle_37 ?_
        refine e_get0 flX2_22 dX2_settle_38 rfl rfl ?_
        refine e_iload1 dX2_settle_41 ?_
        refine e_vI (M' := mX1_stands) fX1_stands lkX2_124 (ctI_K (b := 4) (by decide) (by decide) (w_stands (hK h (oC pi buf cnt sn len rd) (uw w 4 z) 10) 4 (uw w 4 z 4) (m_settleUp X i) hz4 (iV3 hJi.1) (k := i) (by omega))) rfl rfl dX2_settle_42 (by rw [hK_at (by decide) (by decide)]; rfl) rfl (by decide) (Nat.le_of_ble_eq_true rfl) rfl ?_
        rintro _ _ ⟨rfl, rfl⟩
        rw [hK_self (by decide) (by decide)]
        generalize hB : decide ((m_settleUp X i).1 1 i = 1) = B1
        have hb1 : B1.toNat < 2 := by cases B1 <;> decide
        first | refine e_if_neN 56 dX2_settle_45 (by decide) (by omega) (fun hc45 => ?_) (fun hc45 => ?_) | refine e_if_ne 56 dX2_settle_45 (by decide) (fun hc45 => ?_) (fun hc45 => ?_)
        · first | refine e_iinc1N (z := 1) dX2_settle_56 rfl (by decide) ?_ | refine e_iinc1 dX2_settle_56 rfl rfl (by decide) ?_
          refine e_goto 32 dX2_settle_59 (by decide) ?_
          first
            | exact ih _ (by omega) (i + 1) z2 (by omega) rfl (by rw [m_settleUp, m_ifUp, if_neg (by intro e; rw [decide_eq_true e] at hB; subst hB; exact absurd hc45 (by decide))]; exact hz2)
            | exact ih _ (by omega) (i + 1) z (by omega) rfl (by rw [m_settleUp, m_ifUp, if_pos (by cases B1 <;> first | exact of_decide_eq_true hB | exact absurd hc45 (by decide))]; exact hz)
        · refine e_aload0 dX2_settle_48 ?_
          refine e_get0 flX2_22 dX2_settle_49 rfl rfl ?_
          refine e_iload1 dX2_settle_52 ?_
          refine e_vV (M' := mX1_bringUp) fX1_bringUp lkX2_142 (ctV_K (b := 4) (by decide) (by decide) (w_bringUp (hK h (oC pi buf cnt sn len rd) (uw w 4 z) 10) 4 (uw w 4 z 4) (m_settleUp X i) hz4 hJi (k := i) (by omega))) rfl rfl dX2_settle_53 (by rw [hK_at (by decide) (by decide)]; rfl) rfl (by decide) (Nat.le_of_ble_eq_true rfl) rfl ?_
          rintro _ ⟨z2, hz2, rfl⟩
          rw [hK_put (by decide) (by decide), uw_uw]
          first | refine e_iinc1N (z := 1) dX2_settle_56 rfl (by decide) ?_ | refine e_iinc1 dX2_settle_56 rfl rfl (by decide) ?_
          refine e_goto 32 dX2_settle_59 (by decide) ?_
          first
            | exact ih _ (by omega) (i + 1) z2 (by omega) rfl (by rw [m_settleUp, m_ifUp, if_neg (by intro e; rw [decide_eq_true e] at hB; subst hB; exact absurd hc45 (by decide))]; exact hz2)
            | exact ih _ (by omega) (i + 1) z (by omega) rfl (by rw [m_settleUp, m_ifUp, if_pos (by cases B1 <;> first | exact of_decide_eq_true hB | exact absurd hc45 (by decide))]; exact hz)
    exact H _ 0 y (Nat.zero_le _) rfl hy0
  refine e_if_neN 30 dX2_settle_19 (by decide) (by omega) (fun hc19 => ?_) (fun hc19 => ?_)
  · exact HL x (by rw [m_ifUp, if_pos (by cases B1 <;> first | exact of_decide_eq_true hB | exact absurd hc19 (by decide))]; exact hx)
  · refine e_aload0 dX2_settle_22 ?_
    refine e_get0 flX2_22 dX2_settle_23 rfl rfl ?_
    refine e_iconst (z := 4) dX2_settle_26 ?_
    refine e_vV (M' := mX1_bringUp) fX1_bringUp lkX2_142 (ctV_K (b := 4) (by decide) (by decide) (w_bringUp (hK h (oC pi buf cnt sn len rd) (uw w 4 x) 10) 4 (uw w 4 x 4) X hx4 hJ (k := 4) (by decide))) rfl rfl dX2_settle_27 (by rw [hK_at (by decide) (by decide)]; rfl) rfl (by decide) (Nat.le_of_ble_eq_true rfl) rfl ?_
    rintro _ ⟨y, hy, rfl⟩
    rw [hK_put (by decide) (by decide), uw_uw]
    exact HL y (by rw [m_ifUp, if_neg (by intro e; rw [decide_eq_true e] at hB; subst hB; exact absurd hc19 (by decide))]; exact hy)
set_option maxRecDepth 20000 in
set_option maxHeartbeats 4000000 in
theorem v_messagesToSettle (h : qB) (pi : Nat → Option qK) (buf : Nat → Int32) (cnt sn len : Int32) (rd : Nat → Int32) (w : Fin 16 → qw) (X : qm) (hR : RelC (w 1) X) (hJ : J X) : CtI mX2_messagesToSettle 6 [qR 0 0] (hK h (oC pi buf cnt sn len rd) w 10) (fun r h2 => r = nI (m_settleN X) ∧ ∃ x, h2 = hK h (oC pi buf cnt sn len rd) (uw w 4 x) 10) := by
  refine ct_of (by decide +kernel) rfl rfl (Nat.le_of_ble_eq_true rfl) ?_
  show Ev mX2_messagesToSettle 6 0 [some (qR 0 0)] [] 124 (hK h (oC pi buf cnt sn len rd) w 10) 0 0 _ _
  refine e_aload0 dX2_messagesToSettle_0 ?_
  refine e_vI (M' := mX2_settle) fX2_settle lkX2_245 (v_settle h pi buf cnt sn len rd w X hR hJ) rfl rfl dX2_messagesToSettle_1 (by rw [hK_0]; rfl) rfl (by decide) (Nat.le_of_ble_eq_true rfl) rfl ?_
  rintro _ _ ⟨rfl, x, hx, rfl⟩
  refine e_iret dX2_messagesToSettle_4 rfl ?_
  exact ⟨_, rfl, rfl, rfl, x, rfl⟩
