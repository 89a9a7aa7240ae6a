set_option maxRecDepth 20000 in
set_option maxHeartbeats 4000000 in
theorem w_canStart (h : qB) (b : Fin 16) (w : qw) (X : qm) (hR : RelC w X) (I : Inv X)  : CtI mX1_canStart 1 [qR b 0] (q_put h b (wblk b w)) (fun r h2 => r = q_b (decide (X.1 1 4 = 1 ∧ X.1 0 0 < 8)) ∧ h2 = q_put h b (wblk b w)) := by
  refine ct_of (by decide +kernel) rfl rfl (Nat.le_of_ble_eq_true rfl) ?_
  show Ev mX1_canStart 1 0 [some (qR b 0)] [] 124 (q_put h b (wblk b w)) 0 0 _ _
  refine e_aload0 dX1_canStart_0 ?_
  refine e_iconst (z := 4) dX1_canStart_1 ?_
  refine e_vIF (M' := mX1_stands) fX1_stands lkX1_94 (w_stands h b w X hR (iV3 I) (k := 4) (by decide)) rfl rfl dX1_canStart_2 rfl rfl (by decide) (Nat.le_of_ble_eq_true rfl) rfl ?_
  rintro _ _ ⟨rfl, rfl⟩
  have hu := iV3 I 4 (by decide)
  generalize hB : decide (X.1 1 4 = 1) = B0
  have hb0 : B0.toNat < 2 := by cases B0 <;> decide
  first | refine e_if_eqN 21 dX1_canStart_5 (by decide) (by omega) (fun hc5 => ?_) (fun hc5 => ?_) | refine e_if_eq 21 dX1_canStart_5 (by decide) (fun hc5 => ?_) (fun hc5 => ?_)
  · refine e_iconst (z := 0) dX1_canStart_21 ?_
    refine e_zret dX1_canStart_22 rfl (by first | rfl | exact q_nar _) ?_
    exact ⟨_, rfl, rfl, by first | (refine q_b1 ?_; cases B0 <;> simp_all; done) | (refine q_b0 ?_; cases B0 <;> simp_all; done), rfl⟩
  · refine e_aload0 dX1_canStart_8 ?_
    refine e_getfieldF flX1_49 dX1_canStart_9 rfl rfl ?_
    refine e_bipush (v := nI 8) dX1_canStart_12 (by decide) ?_
    rw [rC0 hR]
    have i1 := iV1 I
    first | refine e_icmp_geN 21 dX1_canStart_14 (by decide) (by omega) (by omega) (fun hc14 => ?_) (fun hc14 => ?_) | refine e_icmp_ge 21 dX1_canStart_14 (by decide) (fun hc14 => ?_) (fun hc14 => ?_)
    · refine e_iconst (z := 0) dX1_canStart_21 ?_
      refine e_zret dX1_canStart_22 rfl (by first | rfl | exact q_nar _) ?_
      exact ⟨_, rfl, rfl, by first | (refine q_b1 ?_; cases B0 <;> simp_all; done) | (refine q_b0 ?_; cases B0 <;> simp_all; done), rfl⟩
    · refine e_iconst (z := 1) dX1_canStart_17 ?_
      refine e_goto 22 dX1_canStart_18 (by decide) ?_
      refine e_zret dX1_canStart_22 rfl (by first | rfl | exact q_nar _) ?_
      exact ⟨_, rfl, rfl, by first | (refine q_b1 ?_; cases B0 <;> simp_all; done) | (refine q_b0 ?_; cases B0 <;> simp_all; done), rfl⟩
set_option maxRecDepth 20000 in
set_option maxHeartbeats 4000000 in
theorem w_canDecide (h : qB) (b : Fin 16) (w : qw) (X : qm) (hR : RelC w X) (I : Inv X) {t : Nat} (ht : t < 8) : CtI mX1_canDecide 1 [qR b 0, qI (nI t)] (q_put h b (wblk b w)) (fun r h2 => r = q_b (decide (X.1 1 4 = 1 ∧ X.1 7 t = 0)) ∧ h2 = q_put h b (wblk b w)) := by
  refine ct_of (by decide +kernel) rfl rfl (Nat.le_of_ble_eq_true rfl) ?_
  show Ev mX1_canDecide 1 0 [some (qR b 0), some (qI (nI t))] [] 124 (q_put h b (wblk b w)) 0 0 _ _
  refine e_aload0 dX1_canDecide_0 ?_
  refine e_iconst (z := 4) dX1_canDecide_1 ?_
  refine e_vIF (M' := mX1_stands) fX1_stands lkX1_94 (w_stands h b w X hR (iV3 I) (k := 4) (by decide)) rfl rfl dX1_canDecide_2 rfl rfl (by decide) (Nat.le_of_ble_eq_true rfl) rfl ?_
  rintro _ _ ⟨rfl, rfl⟩
  have hu := iV3 I 4 (by decide)
  generalize hB : decide (X.1 1 4 = 1) = B0
  have hb0 : B0.toNat < 2 := by cases B0 <;> decide
  first | refine e_if_eqN 21 dX1_canDecide_5 (by decide) (by omega) (fun hc5 => ?_) (fun hc5 => ?_) | refine e_if_eq 21 dX1_canDecide_5 (by decide) (fun hc5 => ?_) (fun hc5 => ?_)
  · refine e_iconst (z := 0) dX1_canDecide_21 ?_
    refine e_zret dX1_canDecide_22 rfl (by first | rfl | exact q_nar _) ?_
    exact ⟨_, rfl, rfl, by first | (refine q_b1 ?_; cases B0 <;> simp_all; done) | (refine q_b0 ?_; cases B0 <;> simp_all; done), rfl⟩
  · refine e_aload0 dX1_canDecide_8 ?_
    refine e_getfieldF flX1_21 dX1_canDecide_9 rfl rfl ?_
    refine e_iload1 dX1_canDecide_12 ?_
    refine e_ialoadN dX1_canDecide_13 rfl (by omega) (by decide) ?_
    rw [rC4 hR _ ht]
    have ho := (iV4 I _ ht).2.2.2.2.2.1
    first | refine e_if_neN 21 dX1_canDecide_14 (by decide) (by omega) (fun hc14 => ?_) (fun hc14 => ?_) | refine e_if_ne 21 dX1_canDecide_14 (by decide) (fun hc14 => ?_) (fun hc14 => ?_)
    · refine e_iconst (z := 0) dX1_canDecide_21 ?_
      refine e_zret dX1_canDecide_22 rfl (by first | rfl | exact q_nar _) ?_
      exact ⟨_, rfl, rfl, by first | (refine q_b1 ?_; cases B0 <;> simp_all; done) | (refine q_b0 ?_; cases B0 <;> simp_all; done), rfl⟩
    · refine e_iconst (z := 1) dX1_canDecide_17 ?_
      refine e_goto 22 dX1_canDecide_18 (by decide) ?_
      refine e_zret dX1_canDecide_22 rfl (by first | rfl | exact q_nar _) ?_
      exact ⟨_, rfl, rfl, by first | (refine q_b1 ?_; cases B0 <;> simp_all; done) | (refine q_b0 ?_; cases B0 <;> simp_all; done), rfl⟩
set_option maxRecDepth 20000 in
set_option maxHeartbeats 4000000 in
theorem w_canAskWhatNow (h : qB) (b : Fin 16) (w : qw) (X : qm) (hR : RelC w X) (I : Inv X) {s t : Nat} (hs : s < 4) (ht : t < 8) : CtI mX1_canAskWhatNow 1 [qR b 0, qI (nI s), qI (nI t)] (q_put h b (wblk b w)) (fun r h2 => r = q_b (decide (X.1 1 s = 1 ∧ X.1 9 (8 * s + t) = 1)) ∧ h2 = q_put h b (wblk b w)) := by
  refine ct_of (by decide +kernel) rfl rfl (Nat.le_of_ble_eq_true rfl) ?_
  show Ev mX1_canAskWhatNow 1 0 [some (qR b 0), some (qI (nI s)), some (qI (nI t))] [] 124 (q_put h b (wblk b w)) 0 0 _ _
  refine e_aload0 dX1_canAskWhatNow_0 ?_
  refine e_iload1 dX1_canAskWhatNow_1 ?_
  refine e_vIF (M' := mX1_stands) fX1_stands lkX1_94 (w_stands h b w X hR (iV3 I) (k := s) (by omega)) rfl rfl dX1_canAskWhatNow_2 rfl rfl (by decide) (Nat.le_of_ble_eq_true rfl) rfl ?_
  rintro _ _ ⟨rfl, rfl⟩
  have hu := iV3 I s (by omega)
  generalize hB : decide (X.1 1 s = 1) = B0
  have hb0 : B0.toNat < 2 := by cases B0 <;> decide
  first | refine e_if_eqN 22 dX1_canAskWhatNow_5 (by decide) (by omega) (fun hc5 => ?_) (fun hc5 => ?_) | refine e_if_eq 22 dX1_canAskWhatNow_5 (by decide) (fun hc5 => ?_) (fun hc5 => ?_)
  · refine e_iconst (z := 0) dX1_canAskWhatNow_22 ?_
    refine e_zret dX1_canAskWhatNow_23 rfl (by first | rfl | exact q_nar _) ?_
    exact ⟨_, rfl, rfl, by first | (refine q_b1 ?_; cases B0 <;> simp_all; done) | (refine q_b0 ?_; cases B0 <;> simp_all; done), rfl⟩
  · refine e_aload0 dX1_canAskWhatNow_8 ?_
    refine e_iload1 dX1_canAskWhatNow_9 ?_
    refine e_iload2 dX1_canAskWhatNow_10 ?_
    refine e_vIF (M' := mX1_stateOf) fX1_stateOf lkX1_80 (w_stateOf h b w X hR ht hs) rfl rfl dX1_canAskWhatNow_11 rfl rfl (by decide) (Nat.le_of_ble_eq_true rfl) rfl ?_
    rintro _ _ ⟨rfl, rfl⟩
    have ho := (iV6 I s t hs ht).1
    refine e_iconst (z := 1) dX1_canAskWhatNow_14 ?_
    first | refine e_icmp_neN 22 dX1_canAskWhatNow_15 (by decide) (by omega) (by omega) (fun hc15 => ?_) (fun hc15 => ?_) | refine e_icmp_ne 22 dX1_canAskWhatNow_15 (by decide) (fun hc15 => ?_) (fun hc15 => ?_)
    · refine e_iconst (z := 0) dX1_canAskWhatNow_22 ?_
      refine e_zret dX1_canAskWhatNow_23 rfl (by first | rfl | exact q_nar _) ?_
      exact ⟨_, rfl, rfl, by first | (refine q_b1 ?_; cases B0 <;> simp_all; done) | (refine q_b0 ?_; cases B0 <;> simp_all; done), rfl⟩
    · refine e_iconst (z := 1) dX1_canAskWhatNow_18 ?_
      refine e_goto 23 dX1_canAskWhatNow_19 (by decide) ?_
      refine e_zret dX1_canAskWhatNow_23 rfl (by first | rfl | exact q_nar _) ?_
      exact ⟨_, rfl, rfl, by first | (refine q_b1 ?_; cases B0 <;> simp_all; done) | (refine q_b0 ?_; cases B0 <;> simp_all; done), rfl⟩
/-- the outcome, by the first n records of the clerk -/
def m_outLog (X : qm) (t : Nat) : Nat → Nat
  | 0 => 0
  | n + 1 => if X.1 11 (32 * 4 + n) % 8 = t then (if X.1 11 (32 * 4 + n) / 8 = 1 then 1 else if X.1 11 (32 * 4 + n) / 8 = 2 then 2 else m_outLog X t n) else m_outLog X t n
set_option maxRecDepth 20000 in
set_option maxHeartbeats 4000000 in
theorem w_outcomeByLog (h : qB) (b : Fin 16) (w : qw) (X : qm) (hR : RelC w X) (I : Inv X) {t : Nat} (ht : t < 8) : CtI mX1_outcomeByLog 1 [qR b 0, qI (nI t)] (q_put h b (wblk b w)) (fun r h2 => r = nI (m_outLog X t (X.1 10 4)) ∧ h2 = q_put h b (wblk b w)) := by
  refine ct_of (by decide +kernel) rfl rfl (Nat.le_of_ble_eq_true rfl) ?_
  show Ev mX1_outcomeByLog 1 0 [some (qR b 0), some (qI (nI t)), none, none, none] [] 124 (q_put h b (wblk b w)) 0 0 _ _
  refine e_iconst (z := 0) dX1_outcomeByLog_0 ?_
  refine e_istore2 dX1_outcomeByLog_1 rfl (by decide) ?_
  refine e_iconst (z := 0) dX1_outcomeByLog_2 ?_
  refine e_istore3 dX1_outcomeByLog_3 rfl (by decide) ?_
  have H : ∀ (m i : Nat) (v : Int32), i ≤ X.1 10 4 → m = X.1 10 4 - i → v = nI (m_outLog X t i) → Ev mX1_outcomeByLog 1 4 [some (qR b 0), some (qI (nI t)), some (qI v), some (qI (nI i)), none] [] 124 (q_put h b (wblk b w)) 0 0 (fun r n h' => ∃ x, r = some (qI x) ∧ n = 124 ∧ ((fun r h2 => r = nI (m_outLog X t (X.1 10 4)) ∧ h2 = q_put h b (wblk b w))) x h') qNo := by
    intro m
    induction m using Nat.strongRecOn with
    | _ m ih =>
    intro i v hi hm hv
    refine e_iload3 dX1_outcomeByLog_4 ?_
    refine e_aload0 dX1_outcomeByLog_5 ?_
    refine e_getfieldF flX1_39 dX1_outcomeByLog_6 rfl rfl ?_
    refine e_iconst (z := 4) dX1_outcomeByLog_9 ?_
    refine e_ialoadN dX1_outcomeByLog_10 rfl (by omega) (by decide) ?_
    rw [rC12 hR 4 (by decide)]
    have i8 := iV8 I
    first | refine e_icmp_geN 62 dX1_outcomeByLog_11 (by decide) (by omega) (by omega) (fun hc11 => ?_) (fun hc11 => ?_) | refine e_icmp_ge 62 dX1_outcomeByLog_11 (by decide) (fun hc11 => ?_) (fun hc11 => ?_)
    · obtain rfl : i = X.1 10 4 := by omega
      refine e_iload2 dX1_outcomeByLog_62 ?_
      refine e_iret dX1_outcomeByLog_63 rfl ?_
      exact ⟨_, rfl, rfl, hv, rfl⟩
    · have hr := (iV9 I 4 i (by decide) (by omega)).1
      refine e_aload0 dX1_outcomeByLog_14 ?_
      refine e_iconst (z := 4) dX1_outcomeByLog_15 ?_
      refine e_iload3 dX1_outcomeByLog_16 ?_
      refine e_vIF (M' := mX1_kindOfRecord) fX1_kindOfRecord lkX1_73 (w_kindOfRecord h b w X hR I (s := 4) (k := i) (by decide) (by omega)) rfl rfl dX1_outcomeByLog_17 rfl rfl (by decide) (Nat.le_of_ble_eq_true rfl) rfl ?_
      rintro _ _ ⟨rfl, rfl⟩
      refine e_istore4 dX1_outcomeByLog_20 rfl (by decide) ?_
      refine e_aload0 dX1_outcomeByLog_22 ?_
      refine e_iconst (z := 4) dX1_outcomeByLog_23 ?_
      refine e_iload3 dX1_outcomeByLog_24 ?_
      refine e_vIF (M' := mX1_transferOfRecord) fX1_transferOfRecord lkX1_77 (w_transferOfRecord h b w X hR I (s := 4) (k := i) (by decide) (by omega)) rfl rfl dX1_outcomeByLog_25 rfl rfl (by decide) (Nat.le_of_ble_eq_true rfl) rfl ?_
      rintro _ _ ⟨rfl, rfl⟩
      refine e_iload1 dX1_outcomeByLog_28 ?_
      first | refine e_icmp_neN 56 dX1_outcomeByLog_29 (by decide) (by omega) (by omega) (fun hc29 => ?_) (fun hc29 => ?_) | refine e_icmp_ne 56 dX1_outcomeByLog_29 (by decide) (fun hc29 => ?_) (fun hc29 => ?_)
      · first | refine e_iinc3N (z := 1) dX1_outcomeByLog_56 rfl (by decide) ?_ | refine e_iinc3 dX1_outcomeByLog_56 rfl rfl (by decide) ?_
        refine e_goto 4 dX1_outcomeByLog_59 (by decide) ?_
        refine e_drop4 ?_
        exact ih _ (by omega) (i + 1) _ (by omega) rfl (by first | (exfalso; omega) | (simp only [m_outLog]; simp [*]; done))
      · refine e_iload4 dX1_outcomeByLog_32 ?_
        refine e_iconst (z := 1) dX1_outcomeByLog_34 ?_
        first | refine e_icmp_eqN 44 dX1_outcomeByLog_35 (by decide) (by omega) (by omega) (fun hc35 => ?_) (fun hc35 => ?_) | refine e_icmp_eq 44 dX1_outcomeByLog_35 (by decide) (fun hc35 => ?_) (fun hc35 => ?_)
        · refine e_iload4 dX1_outcomeByLog_44 ?_
          refine e_iconst (z := 1) dX1_outcomeByLog_46 ?_
          first | refine e_icmp_neN 54 dX1_outcomeByLog_47 (by decide) (by omega) (by omega) (fun hc47 => ?_) (fun hc47 => ?_) | refine e_icmp_ne 54 dX1_outcomeByLog_47 (by decide) (fun hc47 => ?_) (fun hc47 => ?_)
          · refine e_iconst (z := 2) dX1_outcomeByLog_54 ?_
            refine e_istore2 dX1_outcomeByLog_55 rfl (by decide) ?_
            first | refine e_iinc3N (z := 1) dX1_outcomeByLog_56 rfl (by decide) ?_ | refine e_iinc3 dX1_outcomeByLog_56 rfl rfl (by decide) ?_
            refine e_goto 4 dX1_outcomeByLog_59 (by decide) ?_
            refine e_drop4 ?_
            exact ih _ (by omega) (i + 1) _ (by omega) rfl (by first | (exfalso; omega) | (simp only [m_outLog]; simp [*]; done))
          · refine e_iconst (z := 1) dX1_outcomeByLog_50 ?_
            refine e_goto 55 dX1_outcomeByLog_51 (by decide) ?_
            refine e_istore2 dX1_outcomeByLog_55 rfl (by decide) ?_
            first | refine e_iinc3N (z := 1) dX1_outcomeByLog_56 rfl (by decide) ?_ | refine e_iinc3 dX1_outcomeByLog_56 rfl rfl (by decide) ?_
            refine e_goto 4 dX1_outcomeByLog_59 (by decide) ?_
            refine e_drop4 ?_
            exact ih _ (by omega) (i + 1) _ (by omega) rfl (by first | (exfalso; omega) | (simp only [m_outLog]; simp [*]; done))
        · refine e_iload4 dX1_outcomeByLog_38 ?_
          refine e_iconst (z := 2) dX1_outcomeByLog_40 ?_
          first | refine e_icmp_neN 56 dX1_outcomeByLog_41 (by decide) (by omega) (by omega) (fun hc41 => ?_) (fun hc41 => ?_) | refine e_icmp_ne 56 dX1_outcomeByLog_41 (by decide) (fun hc41 => ?_) (fun hc41 => ?_)
          · first | refine e_iinc3N (z := 1) dX1_outcomeByLog_56 rfl (by decide) ?_ | refine e_iinc3 dX1_outcomeByLog_56 rfl rfl (by decide) ?_
            refine e_goto 4 dX1_outcomeByLog_59 (by decide) ?_
            refine e_drop4 ?_
            exact ih _ (by omega) (i + 1) _ (by omega) rfl (by first | (exfalso; omega) | (simp only [m_outLog]; simp [*]; done))
          · refine e_iload4 dX1_outcomeByLog_44 ?_
            refine e_iconst (z := 1) dX1_outcomeByLog_46 ?_
            first | refine e_icmp_neN 54 dX1_outcomeByLog_47 (by decide) (by omega) (by omega) (fun hc47 => ?_) (fun hc47 => ?_) | refine e_icmp_ne 54 dX1_outcomeByLog_47 (by decide) (fun hc47 => ?_) (fun hc47 => ?_)
            · refine e_iconst (z := 2) dX1_outcomeByLog_54 ?_
              refine e_istore2 dX1_outcomeByLog_55 rfl (by decide) ?_
              first | refine e_iinc3N (z := 1) dX1_outcomeByLog_56 rfl (by decide) ?_ | refine e_iinc3 dX1_outcomeByLog_56 rfl rfl (by decide) ?_
              refine e_goto 4 dX1_outcomeByLog_59 (by decide) ?_
              refine e_drop4 ?_
              exact ih _ (by omega) (i + 1) _ (by omega) rfl (by first | (exfalso; omega) | (simp only [m_outLog]; simp [*]; done))
            · refine e_iconst (z := 1) dX1_outcomeByLog_50 ?_
              refine e_goto 55 dX1_outcomeByLog_51 (by decide) ?_
              refine e_istore2 dX1_outcomeByLog_55 rfl (by decide) ?_
              first | refine e_iinc3N (z := 1) dX1_outcomeByLog_56 rfl (by decide) ?_ | refine e_iinc3 dX1_outcomeByLog_56 rfl rfl (by decide) ?_
              refine e_goto 4 dX1_outcomeByLog_59 (by decide) ?_
              refine e_drop4 ?_
              exact ih _ (by omega) (i + 1) _ (by omega) rfl (by first | (exfalso; omega) | (simp only [m_outLog]; simp [*]; done))
  exact H _ 0 _ (Nat.zero_le _) rfl rfl
def m_notMade (X : qm) (t : Nat) : Nat → Int32
  | 0 => nI 0
  | n + 1 => if X.1 9 (8 * n + t) = 2 then m_notMade X t n else m_notMade X t n + m_share X t n
set_option maxRecDepth 20000 in
set_option maxHeartbeats 4000000 in
theorem w_sharesNotMade (h : qB) (b : Fin 16) (w : qw) (X : qm) (hR : RelC w X) (I : Inv X) {t : Nat} (ht : t < 8) : CtI mX1_sharesNotMade 1 [qR b 0, qI (nI t)] (q_put h b (wblk b w)) (fun r h2 => r = m_notMade X t 4 ∧ h2 = q_put h b (wblk b w)) := by
  refine ct_of (by decide +kernel) rfl rfl (Nat.le_of_ble_eq_true rfl) ?_
  show Ev mX1_sharesNotMade 1 0 [some (qR b 0), some (qI (nI t)), none, none] [] 124 (q_put h b (wblk b w)) 0 0 _ _
  refine e_iconst (z := 0) dX1_sharesNotMade_0 ?_
  refine e_istore2 dX1_sharesNotMade_1 rfl (by decide) ?_
  refine e_iconst (z := 0) dX1_sharesNotMade_2 ?_
  refine e_istore3 dX1_sharesNotMade_3 rfl (by decide) ?_
  have H : ∀ (m i : Nat) (v : Int32), i ≤ 4 → m = 4 - i → v = m_notMade X t i → Ev mX1_sharesNotMade 1 4 [some (qR b 0), some (qI (nI t)), some (qI v), some (qI (nI i))] [] 124 (q_put h b (wblk b w)) 0 0 (fun r n h' => ∃ x, r = some (qI x) ∧ n = 124 ∧ ((fun r h2 => r = m_notMade X t 4 ∧ h2 = q_put h b (wblk b w))) x h') qNo := by
    intro m
    induction m using Nat.strongRecOn with
    | _ m ih =>
    intro i v hi hm hv
    refine e_iload3 dX1_sharesNotMade_4 ?_
    refine e_iconst (z := 4) dX1_sharesNotMade_5 ?_
    first | refine e_icmp_geN 34 dX1_sharesNotMade_6 (by decide) (by omega) (by omega) (fun hc6 => ?_) (fun hc6 => ?_) | refine e_icmp_ge 34 dX1_sharesNotMade_6 (by decide) (fun hc6 => ?_) (fun hc6 => ?_)
    · obtain rfl : i = 4 := by omega
      refine e_iload2 dX1_sharesNotMade_34 ?_
      refine e_iret dX1_sharesNotMade_35 rfl ?_
      exact ⟨_, rfl, rfl, hv, rfl⟩
    · refine e_aload0 dX1_sharesNotMade_9 ?_
      refine e_iload3 dX1_sharesNotMade_10 ?_
      refine e_iload1 dX1_sharesNotMade_11 ?_
      refine e_vIF (M' := mX1_stateOf) fX1_stateOf lkX1_80 (w_stateOf h b w X hR (t := t) (s := i) ht (by omega)) rfl rfl dX1_sharesNotMade_12 rfl rfl (by decide) (Nat.le_of_ble_eq_true rfl) rfl ?_
      rintro _ _ ⟨rfl, rfl⟩
      have ho := (iV6 I i t (by omega) ht).1
      refine e_iconst (z := 2) dX1_sharesNotMade_15 ?_
      first | refine e_icmp_eqN 28 dX1_sharesNotMade_16 (by decide) (by omega) (by omega) (fun hc16 => ?_) (fun hc16 => ?_) | refine e_icmp_eq 28 dX1_sharesNotMade_16 (by decide) (fun hc16 => ?_) (fun hc16 => ?_)
      · first | refine e_iinc3N (z := 1) dX1_sharesNotMade_28 rfl (by decide) ?_ | refine e_iinc3 dX1_sharesNotMade_28 rfl rfl (by decide) ?_
        refine e_goto 4 dX1_sharesNotMade_31 (by decide) ?_
        exact ih _ (by omega) (i + 1) _ (by omega) rfl (by simp [m_notMade, hv, *])
      · refine e_iload2 dX1_sharesNotMade_19 ?_
        refine e_aload0 dX1_sharesNotMade_20 ?_
        refine e_iload1 dX1_sharesNotMade_21 ?_
        refine e_iload3 dX1_sharesNotMade_22 ?_
        refine e_vIF (M' := mX1_shareOf) fX1_shareOf lkX1_83 (w_shareOf h b w X hR (t := t) (s := i) ht (by omega)) rfl rfl dX1_sharesNotMade_23 rfl rfl (by decide) (Nat.le_of_ble_eq_true rfl) rfl ?_
        rintro _ _ ⟨rfl, rfl⟩
        first | refine e_iaddN dX1_sharesNotMade_26 ?_ | refine e_iadd dX1_sharesNotMade_26 ?_
        refine e_istore2 dX1_sharesNotMade_27 rfl (by decide) ?_
        first | refine e_iinc3N (z := 1) dX1_sharesNotMade_28 rfl (by decide) ?_ | refine e_iinc3 dX1_sharesNotMade_28 rfl rfl (by decide) ?_
        refine e_goto 4 dX1_sharesNotMade_31 (by decide) ?_
        exact ih _ (by omega) (i + 1) _ (by omega) rfl (by simp [m_notMade, hv, *])
  exact H _ 0 _ (Nat.zero_le _) rfl rfl
