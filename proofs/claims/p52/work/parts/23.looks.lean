/-! LOOKS -/
set_option maxRecDepth 20000 in
set_option maxHeartbeats 4000000 in
theorem v_transfers (h : qB) (pi : Nat → Option qK) (buf : Nat → Int32) (cnt sn len : Int32) (rd : Nat → Int32) (w : Fin 16 → qw) (X : qm) (hR : RelC (w 1) X) (hJ : J X) : CtI mX2_transfers 2 [qR 0 0] (hK h (oC pi buf cnt sn len rd) w 10) (fun r h2 => r = nI (X.1 0 0) ∧ h2 = hK h (oC pi buf cnt sn len rd) w 10) := by
  refine ct_of (by decide +kernel) rfl rfl (Nat.le_of_ble_eq_true rfl) ?_
  show Ev mX2_transfers 2 0 [some (qR 0 0)] [] 124 (hK h (oC pi buf cnt sn len rd) w 10) 0 0 _ _
  refine e_aload0 dX2_transfers_0 ?_
  refine e_get0 flX2_10 dX2_transfers_1 rfl rfl ?_
  refine e_getW flX2_175 dX2_transfers_4 (by decide) (by decide) rfl rfl ?_
  refine e_iret dX2_transfers_7 rfl ?_
  exact ⟨_, rfl, rfl, rC0 hR, rfl⟩
set_option maxRecDepth 20000 in
set_option maxHeartbeats 4000000 in
theorem v_partners (h : qB) (pi : Nat → Option qK) (buf : Nat → Int32) (cnt sn len : Int32) (rd : Nat → Int32) (w : Fin 16 → qw) (X : qm) (hR : RelC (w 1) X) (hJ : J X) {t : Nat} (ht : t < X.1 0 0) : CtI mX2_partners 2 [qR 0 0, qI (nI t)] (hK h (oC pi buf cnt sn len rd) w 10) (fun r h2 => r = nI (m_part X t) ∧ h2 = hK h (oC pi buf cnt sn len rd) w 10) := by
  have ht8 : t < 8 := Nat.lt_of_lt_of_le ht (iV1 hJ.1)
  refine ct_of (by decide +kernel) rfl rfl (Nat.le_of_ble_eq_true rfl) ?_
  show Ev mX2_partners 2 0 [some (qR 0 0), some (qI (nI t))] [] 124 (hK h (oC pi buf cnt sn len rd) w 10) 0 0 _ _
  refine e_aload0 dX2_partners_0 ?_
  refine e_iload1 dX2_partners_1 ?_
  refine e_vV (M' := mX2_requireTransfer) fX2_requireTransfer lkX2_82 (v_requireTransfer h pi buf cnt sn len rd w X hR hJ (k := t) ht) rfl rfl dX2_partners_2 (by rw [hK_0]; rfl) rfl (by decide) (Nat.le_of_ble_eq_true rfl) rfl ?_
  rintro _ rfl
  refine e_aload0 dX2_partners_5 ?_
  refine e_get0 flX2_10 dX2_partners_6 rfl rfl ?_
  refine e_getW flX2_178 dX2_partners_9 (by decide) (by decide) rfl rfl ?_
  refine e_iload1 dX2_partners_12 ?_
  first | refine e_ialoadW dX2_partners_13 (by decide) (by decide) rfl (by omega) (by decide) ?_ | refine e_ialoadB dX2_partners_13 rfl (by omega) (by decide) ?_
  refine e_iret dX2_partners_14 rfl ?_
  exact ⟨_, rfl, rfl, by rw [rC2 hR t ht8, if_pos ht], rfl⟩
set_option maxRecDepth 20000 in
set_option maxHeartbeats 4000000 in
theorem v_share (h : qB) (pi : Nat → Option qK) (buf : Nat → Int32) (cnt sn len : Int32) (rd : Nat → Int32) (w : Fin 16 → qw) (X : qm) (hR : RelC (w 1) X) (hJ : J X) {t : Nat} (ht : t < X.1 0 0) {s : Nat} (hs : s < 4) : CtI mX2_share 2 [qR 0 0, qI (nI t), qI (nI s)] (hK h (oC pi buf cnt sn len rd) w 10) (fun r h2 => r = m_share X t s ∧ h2 = hK h (oC pi buf cnt sn len rd) w 10) := by
  have ht8 : t < 8 := Nat.lt_of_lt_of_le ht (iV1 hJ.1)
  refine ct_of (by decide +kernel) rfl rfl (Nat.le_of_ble_eq_true rfl) ?_
  show Ev mX2_share 2 0 [some (qR 0 0), some (qI (nI t)), some (qI (nI s))] [] 124 (hK h (oC pi buf cnt sn len rd) w 10) 0 0 _ _
  refine e_aload0 dX2_share_0 ?_
  refine e_iload1 dX2_share_1 ?_
  refine e_vV (M' := mX2_requireTransfer) fX2_requireTransfer lkX2_82 (v_requireTransfer h pi buf cnt sn len rd w X hR hJ (k := t) ht) rfl rfl dX2_share_2 (by rw [hK_0]; rfl) rfl (by decide) (Nat.le_of_ble_eq_true rfl) rfl ?_
  rintro _ rfl
  refine e_aload0 dX2_share_5 ?_
  refine e_iload2 dX2_share_6 ?_
  refine e_vV (M' := mX2_requireStore) fX2_requireStore lkX2_51 (v_requireStore h pi buf cnt sn len rd w (k := s) hs) rfl rfl dX2_share_7 (by rw [hK_0]; rfl) rfl (by decide) (Nat.le_of_ble_eq_true rfl) rfl ?_
  rintro _ rfl
  refine e_aload0 dX2_share_10 ?_
  refine e_get0 flX2_10 dX2_share_11 rfl rfl ?_
  refine e_iload1 dX2_share_14 ?_
  refine e_iload2 dX2_share_15 ?_
  refine e_vI (M' := mX1_shareOf) fX1_shareOf lkX2_181 (ctI_K (b := 1) (by decide) (by decide) (w_shareOf (hK h (oC pi buf cnt sn len rd) w 10) 1 (w 1) X hR (t := t) (s := s) ht8 hs)) rfl rfl dX2_share_16 (by rw [hK_at (by decide) (by decide)]; rfl) rfl (by decide) (Nat.le_of_ble_eq_true rfl) rfl ?_
  rintro _ _ ⟨rfl, rfl⟩
  rw [hK_self (by decide) (by decide)]
  refine e_iret dX2_share_19 rfl ?_
  exact ⟨_, rfl, rfl, rfl, rfl⟩
set_option maxRecDepth 20000 in
set_option maxHeartbeats 4000000 in
theorem v_isUp (h : qB) (pi : Nat → Option qK) (buf : Nat → Int32) (cnt sn len : Int32) (rd : Nat → Int32) (w : Fin 16 → qw) (X : qm) (hR : RelC (w 1) X) (hJ : J X) {k : Nat} (hk : k < 5) : CtI mX2_isUp 2 [qR 0 0, qI (nI k)] (hK h (oC pi buf cnt sn len rd) w 10) (fun r h2 => r = q_b (decide (X.1 1 k = 1)) ∧ h2 = hK h (oC pi buf cnt sn len rd) w 10) := by
  refine ct_of (by decide +kernel) rfl rfl (Nat.le_of_ble_eq_true rfl) ?_
  show Ev mX2_isUp 2 0 [some (qR 0 0), some (qI (nI k))] [] 124 (hK h (oC pi buf cnt sn len rd) w 10) 0 0 _ _
  refine e_aload0 dX2_isUp_0 ?_
  refine e_iload1 dX2_isUp_1 ?_
  refine e_vV (M' := mX2_requireSite) fX2_requireSite lkX2_121 (v_requireSite h pi buf cnt sn len rd w (k := k) hk) rfl rfl dX2_isUp_2 (by rw [hK_0]; rfl) rfl (by decide) (Nat.le_of_ble_eq_true rfl) rfl ?_
  rintro _ rfl
  refine e_aload0 dX2_isUp_5 ?_
  refine e_get0 flX2_10 dX2_isUp_6 rfl rfl ?_
  refine e_iload1 dX2_isUp_9 ?_
  refine e_vI (M' := mX1_stands) fX1_stands lkX2_124 (ctI_K (b := 1) (by decide) (by decide) (w_stands (hK h (oC pi buf cnt sn len rd) w 10) 1 (w 1) X hR (iV3 hJ.1) (k := k) hk)) rfl rfl dX2_isUp_10 (by rw [hK_at (by decide) (by decide)]; rfl) rfl (by decide) (Nat.le_of_ble_eq_true rfl) rfl ?_
  rintro _ _ ⟨rfl, rfl⟩
  rw [hK_self (by decide) (by decide)]
  refine e_zret dX2_isUp_13 rfl (by first | rfl | exact q_nar _) ?_
  exact ⟨_, rfl, rfl, rfl, rfl⟩
set_option maxRecDepth 20000 in
set_option maxHeartbeats 4000000 in
theorem v_amount (h : qB) (pi : Nat → Option qK) (buf : Nat → Int32) (cnt sn len : Int32) (rd : Nat → Int32) (w : Fin 16 → qw) (X : qm) (hR : RelC (w 1) X) (hJ : J X) {s : Nat} (hs : s < 4) : CtI mX2_amount 2 [qR 0 0, qI (nI s)] (hK h (oC pi buf cnt sn len rd) w 10) (fun r h2 => r = X.2 s ∧ h2 = hK h (oC pi buf cnt sn len rd) w 10) := by
  refine ct_of (by decide +kernel) rfl rfl (Nat.le_of_ble_eq_true rfl) ?_
  show Ev mX2_amount 2 0 [some (qR 0 0), some (qI (nI s))] [] 124 (hK h (oC pi buf cnt sn len rd) w 10) 0 0 _ _
  refine e_aload0 dX2_amount_0 ?_
  refine e_iload1 dX2_amount_1 ?_
  refine e_vV (M' := mX2_requireStore) fX2_requireStore lkX2_51 (v_requireStore h pi buf cnt sn len rd w (k := s) hs) rfl rfl dX2_amount_2 (by rw [hK_0]; rfl) rfl (by decide) (Nat.le_of_ble_eq_true rfl) rfl ?_
  rintro _ rfl
  refine e_aload0 dX2_amount_5 ?_
  refine e_get0 flX2_10 dX2_amount_6 rfl rfl ?_
  refine e_getW flX2_185 dX2_amount_9 (by decide) (by decide) rfl rfl ?_
  refine e_iload1 dX2_amount_12 ?_
  first | refine e_ialoadW dX2_amount_13 (by decide) (by decide) rfl (by omega) (by decide) ?_ | refine e_ialoadB dX2_amount_13 rfl (by omega) (by decide) ?_
  refine e_iret dX2_amount_14 rfl ?_
  exact ⟨_, rfl, rfl, rC9 hR s hs, rfl⟩
set_option maxRecDepth 20000 in
set_option maxHeartbeats 4000000 in
theorem v_state (h : qB) (pi : Nat → Option qK) (buf : Nat → Int32) (cnt sn len : Int32) (rd : Nat → Int32) (w : Fin 16 → qw) (X : qm) (hR : RelC (w 1) X) (hJ : J X) {s : Nat} (hs : s < 4) {t : Nat} (ht : t < X.1 0 0) : CtI mX2_state 2 [qR 0 0, qI (nI s), qI (nI t)] (hK h (oC pi buf cnt sn len rd) w 10) (fun r h2 => r = nI (X.1 9 (8 * s + t)) ∧ h2 = hK h (oC pi buf cnt sn len rd) w 10) := by
  have ht8 : t < 8 := Nat.lt_of_lt_of_le ht (iV1 hJ.1)
  refine ct_of (by decide +kernel) rfl rfl (Nat.le_of_ble_eq_true rfl) ?_
  show Ev mX2_state 2 0 [some (qR 0 0), some (qI (nI s)), some (qI (nI t))] [] 124 (hK h (oC pi buf cnt sn len rd) w 10) 0 0 _ _
  refine e_aload0 dX2_state_0 ?_
  refine e_iload1 dX2_state_1 ?_
  refine e_vV (M' := mX2_requireStore) fX2_requireStore lkX2_51 (v_requireStore h pi buf cnt sn len rd w (k := s) hs) rfl rfl dX2_state_2 (by rw [hK_0]; rfl) rfl (by decide) (Nat.le_of_ble_eq_true rfl) rfl ?_
  rintro _ rfl
  refine e_aload0 dX2_state_5 ?_
  refine e_iload2 dX2_state_6 ?_
  refine e_vV (M' := mX2_requireTransfer) fX2_requireTransfer lkX2_82 (v_requireTransfer h pi buf cnt sn len rd w X hR hJ (k := t) ht) rfl rfl dX2_state_7 (by rw [hK_0]; rfl) rfl (by decide) (Nat.le_of_ble_eq_true rfl) rfl ?_
  rintro _ rfl
  refine e_aload0 dX2_state_10 ?_
  refine e_get0 flX2_10 dX2_state_11 rfl rfl ?_
  refine e_iload1 dX2_state_14 ?_
  refine e_iload2 dX2_state_15 ?_
  refine e_vI (M' := mX1_stateOf) fX1_stateOf lkX2_197 (ctI_K (b := 1) (by decide) (by decide) (w_stateOf (hK h (oC pi buf cnt sn len rd) w 10) 1 (w 1) X hR (t := t) (s := s) ht8 hs)) rfl rfl dX2_state_16 (by rw [hK_at (by decide) (by decide)]; rfl) rfl (by decide) (Nat.le_of_ble_eq_true rfl) rfl ?_
  rintro _ _ ⟨rfl, rfl⟩
  rw [hK_self (by decide) (by decide)]
  refine e_iret dX2_state_19 rfl ?_
  exact ⟨_, rfl, rfl, rfl, rfl⟩
set_option maxRecDepth 20000 in
set_option maxHeartbeats 4000000 in
theorem v_outcome (h : qB) (pi : Nat → Option qK) (buf : Nat → Int32) (cnt sn len : Int32) (rd : Nat → Int32) (w : Fin 16 → qw) (X : qm) (hR : RelC (w 1) X) (hJ : J X) {t : Nat} (ht : t < X.1 0 0) : CtI mX2_outcome 2 [qR 0 0, qI (nI t)] (hK h (oC pi buf cnt sn len rd) w 10) (fun r h2 => r = nI (X.1 7 t) ∧ h2 = hK h (oC pi buf cnt sn len rd) w 10) := by
  have ht8 : t < 8 := Nat.lt_of_lt_of_le ht (iV1 hJ.1)
  refine ct_of (by decide +kernel) rfl rfl (Nat.le_of_ble_eq_true rfl) ?_
  show Ev mX2_outcome 2 0 [some (qR 0 0), some (qI (nI t))] [] 124 (hK h (oC pi buf cnt sn len rd) w 10) 0 0 _ _
  refine e_aload0 dX2_outcome_0 ?_
  refine e_iload1 dX2_outcome_1 ?_
  refine e_vV (M' := mX2_requireTransfer) fX2_requireTransfer lkX2_82 (v_requireTransfer h pi buf cnt sn len rd w X hR hJ (k := t) ht) rfl rfl dX2_outcome_2 (by rw [hK_0]; rfl) rfl (by decide) (Nat.le_of_ble_eq_true rfl) rfl ?_
  rintro _ rfl
  refine e_aload0 dX2_outcome_5 ?_
  refine e_get0 flX2_10 dX2_outcome_6 rfl rfl ?_
  refine e_iload1 dX2_outcome_9 ?_
  refine e_vI (M' := mX1_outcomeByLog) fX1_outcomeByLog lkX2_203 (ctI_K (b := 1) (by decide) (by decide) (w_outcomeByLog (hK h (oC pi buf cnt sn len rd) w 10) 1 (w 1) X hR hJ.1 (t := t) ht8)) rfl rfl dX2_outcome_10 (by rw [hK_at (by decide) (by decide)]; rfl) rfl (by decide) (Nat.le_of_ble_eq_true rfl) rfl ?_
  rintro _ _ ⟨rfl, rfl⟩
  rw [hK_self (by decide) (by decide)]
  rw [hJ.2.2.2.1 t ht8]
  refine e_iret dX2_outcome_13 rfl ?_
  exact ⟨_, rfl, rfl, rfl, rfl⟩
set_option maxRecDepth 20000 in
set_option maxHeartbeats 4000000 in
theorem v_hasEnded (h : qB) (pi : Nat → Option qK) (buf : Nat → Int32) (cnt sn len : Int32) (rd : Nat → Int32) (w : Fin 16 → qw) (X : qm) (hR : RelC (w 1) X) (hJ : J X) {t : Nat} (ht : t < X.1 0 0) : CtI mX2_hasEnded 2 [qR 0 0, qI (nI t)] (hK h (oC pi buf cnt sn len rd) w 10) (fun r h2 => r = q_b (decide (X.1 8 t = 1)) ∧ h2 = hK h (oC pi buf cnt sn len rd) w 10) := by
  have ht8 : t < 8 := Nat.lt_of_lt_of_le ht (iV1 hJ.1)
  refine ct_of (by decide +kernel) rfl rfl (Nat.le_of_ble_eq_true rfl) ?_
  show Ev mX2_hasEnded 2 0 [some (qR 0 0), some (qI (nI t))] [] 124 (hK h (oC pi buf cnt sn len rd) w 10) 0 0 _ _
  refine e_aload0 dX2_hasEnded_0 ?_
  refine e_iload1 dX2_hasEnded_1 ?_
  refine e_vV (M' := mX2_requireTransfer) fX2_requireTransfer lkX2_82 (v_requireTransfer h pi buf cnt sn len rd w X hR hJ (k := t) ht) rfl rfl dX2_hasEnded_2 (by rw [hK_0]; rfl) rfl (by decide) (Nat.le_of_ble_eq_true rfl) rfl ?_
  rintro _ rfl
  refine e_aload0 dX2_hasEnded_5 ?_
  refine e_get0 flX2_10 dX2_hasEnded_6 rfl rfl ?_
  refine e_iload1 dX2_hasEnded_9 ?_
  refine e_vI (M' := mX1_isOver) fX1_isOver lkX2_206 (ctI_K (b := 1) (by decide) (by decide) (w_isOver (hK h (oC pi buf cnt sn len rd) w 10) 1 (w 1) X hR (fun k hk => (iV4 hJ.1 k hk).2.2.2.2.2.2) (k := t) ht8)) rfl rfl dX2_hasEnded_10 (by rw [hK_at (by decide) (by decide)]; rfl) rfl (by decide) (Nat.le_of_ble_eq_true rfl) rfl ?_
  rintro _ _ ⟨rfl, rfl⟩
  rw [hK_self (by decide) (by decide)]
  refine e_zret dX2_hasEnded_13 rfl (by first | rfl | exact q_nar _) ?_
  exact ⟨_, rfl, rfl, rfl, rfl⟩
set_option maxRecDepth 20000 in
set_option maxHeartbeats 4000000 in
theorem v_saidYes (h : qB) (pi : Nat → Option qK) (buf : Nat → Int32) (cnt sn len : Int32) (rd : Nat → Int32) (w : Fin 16 → qw) (X : qm) (hR : RelC (w 1) X) (hJ : J X) {t : Nat} (ht : t < X.1 0 0) : CtI mX2_saidYes 2 [qR 0 0, qI (nI t)] (hK h (oC pi buf cnt sn len rd) w 10) (fun r h2 => r = nI (X.1 5 t) ∧ h2 = hK h (oC pi buf cnt sn len rd) w 10) := by
  have ht8 : t < 8 := Nat.lt_of_lt_of_le ht (iV1 hJ.1)
  refine ct_of (by decide +kernel) rfl rfl (Nat.le_of_ble_eq_true rfl) ?_
  show Ev mX2_saidYes 2 0 [some (qR 0 0), some (qI (nI t))] [] 124 (hK h (oC pi buf cnt sn len rd) w 10) 0 0 _ _
  refine e_aload0 dX2_saidYes_0 ?_
  refine e_iload1 dX2_saidYes_1 ?_
  refine e_vV (M' := mX2_requireTransfer) fX2_requireTransfer lkX2_82 (v_requireTransfer h pi buf cnt sn len rd w X hR hJ (k := t) ht) rfl rfl dX2_saidYes_2 (by rw [hK_0]; rfl) rfl (by decide) (Nat.le_of_ble_eq_true rfl) rfl ?_
  rintro _ rfl
  refine e_aload0 dX2_saidYes_5 ?_
  refine e_get0 flX2_10 dX2_saidYes_6 rfl rfl ?_
  refine e_getW flX2_209 dX2_saidYes_9 (by decide) (by decide) rfl rfl ?_
  refine e_iload1 dX2_saidYes_12 ?_
  first | refine e_ialoadW dX2_saidYes_13 (by decide) (by decide) rfl (by omega) (by decide) ?_ | refine e_ialoadB dX2_saidYes_13 rfl (by omega) (by decide) ?_
  refine e_iret dX2_saidYes_14 rfl ?_
  exact ⟨_, rfl, rfl, rC5 hR t ht8, rfl⟩
set_option maxRecDepth 20000 in
set_option maxHeartbeats 4000000 in
theorem v_saidDone (h : qB) (pi : Nat → Option qK) (buf : Nat → Int32) (cnt sn len : Int32) (rd : Nat → Int32) (w : Fin 16 → qw) (X : qm) (hR : RelC (w 1) X) (hJ : J X) {t : Nat} (ht : t < X.1 0 0) : CtI mX2_saidDone 2 [qR 0 0, qI (nI t)] (hK h (oC pi buf cnt sn len rd) w 10) (fun r h2 => r = nI (X.1 6 t) ∧ h2 = hK h (oC pi buf cnt sn len rd) w 10) := by
  have ht8 : t < 8 := Nat.lt_of_lt_of_le ht (iV1 hJ.1)
  refine ct_of (by decide +kernel) rfl rfl (Nat.le_of_ble_eq_true rfl) ?_
  show Ev mX2_saidDone 2 0 [some (qR 0 0), some (qI (nI t))] [] 124 (hK h (oC pi buf cnt sn len rd) w 10) 0 0 _ _
  refine e_aload0 dX2_saidDone_0 ?_
  refine e_iload1 dX2_saidDone_1 ?_
  refine e_vV (M' := mX2_requireTransfer) fX2_requireTransfer lkX2_82 (v_requireTransfer h pi buf cnt sn len rd w X hR hJ (k := t) ht) rfl rfl dX2_saidDone_2 (by rw [hK_0]; rfl) rfl (by decide) (Nat.le_of_ble_eq_true rfl) rfl ?_
  rintro _ rfl
  refine e_aload0 dX2_saidDone_5 ?_
  refine e_get0 flX2_10 dX2_saidDone_6 rfl rfl ?_
  refine e_getW flX2_212 dX2_saidDone_9 (by decide) (by decide) rfl rfl ?_
  refine e_iload1 dX2_saidDone_12 ?_
  first | refine e_ialoadW dX2_saidDone_13 (by decide) (by decide) rfl (by omega) (by decide) ?_ | refine e_ialoadB dX2_saidDone_13 rfl (by omega) (by decide) ?_
  refine e_iret dX2_saidDone_14 rfl ?_
  exact ⟨_, rfl, rfl, rC6 hR t ht8, rfl⟩
set_option maxRecDepth 20000 in
set_option maxHeartbeats 4000000 in
theorem v_records (h : qB) (pi : Nat → Option qK) (buf : Nat → Int32) (cnt sn len : Int32) (rd : Nat → Int32) (w : Fin 16 → qw) (X : qm) (hR : RelC (w 1) X) (hJ : J X) {k : Nat} (hk : k < 5) : CtI mX2_records 2 [qR 0 0, qI (nI k)] (hK h (oC pi buf cnt sn len rd) w 10) (fun r h2 => r = nI (X.1 10 k) ∧ h2 = hK h (oC pi buf cnt sn len rd) w 10) := by
  refine ct_of (by decide +kernel) rfl rfl (Nat.le_of_ble_eq_true rfl) ?_
  show Ev mX2_records 2 0 [some (qR 0 0), some (qI (nI k))] [] 124 (hK h (oC pi buf cnt sn len rd) w 10) 0 0 _ _
  refine e_aload0 dX2_records_0 ?_
  refine e_iload1 dX2_records_1 ?_
  refine e_vV (M' := mX2_requireSite) fX2_requireSite lkX2_121 (v_requireSite h pi buf cnt sn len rd w (k := k) hk) rfl rfl dX2_records_2 (by rw [hK_0]; rfl) rfl (by decide) (Nat.le_of_ble_eq_true rfl) rfl ?_
  rintro _ rfl
  refine e_aload0 dX2_records_5 ?_
  refine e_get0 flX2_10 dX2_records_6 rfl rfl ?_
  refine e_getW flX2_188 dX2_records_9 (by decide) (by decide) rfl rfl ?_
  refine e_iload1 dX2_records_12 ?_
  first | refine e_ialoadW dX2_records_13 (by decide) (by decide) rfl (by omega) (by decide) ?_ | refine e_ialoadB dX2_records_13 rfl (by omega) (by decide) ?_
  refine e_iret dX2_records_14 rfl ?_
  exact ⟨_, rfl, rfl, rC12 hR k hk, rfl⟩
set_option maxRecDepth 20000 in
set_option maxHeartbeats 4000000 in
theorem v_waiting (h : qB) (pi : Nat → Option qK) (buf : Nat → Int32) (cnt sn len : Int32) (rd : Nat → Int32) (w : Fin 16 → qw) (X : qm) (hR : RelC (w 1) X) (hJ : J X) : CtI mX2_waiting 2 [qR 0 0] (hK h (oC pi buf cnt sn len rd) w 10) (fun r h2 => r = nI (X.1 0 4) ∧ h2 = hK h (oC pi buf cnt sn len rd) w 10) := by
  refine ct_of (by decide +kernel) rfl rfl (Nat.le_of_ble_eq_true rfl) ?_
  show Ev mX2_waiting 2 0 [some (qR 0 0)] [] 124 (hK h (oC pi buf cnt sn len rd) w 10) 0 0 _ _
  refine e_aload0 dX2_waiting_0 ?_
  refine e_get0 flX2_10 dX2_waiting_1 rfl rfl ?_
  refine e_getW flX2_94 dX2_waiting_4 (by decide) (by decide) rfl rfl ?_
  refine e_iret dX2_waiting_7 rfl ?_
  exact ⟨_, rfl, rfl, rC14 hR, rfl⟩
set_option maxRecDepth 20000 in
set_option maxHeartbeats 4000000 in
theorem v_sent (h : qB) (pi : Nat → Option qK) (buf : Nat → Int32) (cnt sn len : Int32) (rd : Nat → Int32) (w : Fin 16 → qw) (X : qm) (hR : RelC (w 1) X) (hJ : J X) : CtI mX2_sent 2 [qR 0 0] (hK h (oC pi buf cnt sn len rd) w 10) (fun r h2 => r = nI (X.1 0 1) ∧ h2 = hK h (oC pi buf cnt sn len rd) w 10) := by
  refine ct_of (by decide +kernel) rfl rfl (Nat.le_of_ble_eq_true rfl) ?_
  show Ev mX2_sent 2 0 [some (qR 0 0)] [] 124 (hK h (oC pi buf cnt sn len rd) w 10) 0 0 _ _
  refine e_aload0 dX2_sent_0 ?_
  refine e_get0 flX2_10 dX2_sent_1 rfl rfl ?_
  refine e_getW flX2_236 dX2_sent_4 (by decide) (by decide) rfl rfl ?_
  refine e_iret dX2_sent_7 rfl ?_
  exact ⟨_, rfl, rfl, rC15 hR, rfl⟩
set_option maxRecDepth 20000 in
set_option maxHeartbeats 4000000 in
theorem v_lost (h : qB) (pi : Nat → Option qK) (buf : Nat → Int32) (cnt sn len : Int32) (rd : Nat → Int32) (w : Fin 16 → qw) (X : qm) (hR : RelC (w 1) X) (hJ : J X) : CtI mX2_lost 2 [qR 0 0] (hK h (oC pi buf cnt sn len rd) w 10) (fun r h2 => r = nI (X.1 0 3) ∧ h2 = hK h (oC pi buf cnt sn len rd) w 10) := by
  refine ct_of (by decide +kernel) rfl rfl (Nat.le_of_ble_eq_true rfl) ?_
  show Ev mX2_lost 2 0 [some (qR 0 0)] [] 124 (hK h (oC pi buf cnt sn len rd) w 10) 0 0 _ _
  refine e_aload0 dX2_lost_0 ?_
  refine e_get0 flX2_10 dX2_lost_1 rfl rfl ?_
  refine e_getW flX2_242 dX2_lost_4 (by decide) (by decide) rfl rfl ?_
  refine e_iret dX2_lost_7 rfl ?_
  exact ⟨_, rfl, rfl, rC17 hR, rfl⟩
set_option maxRecDepth 20000 in
set_option maxHeartbeats 4000000 in
theorem v_sentByAccount (h : qB) (pi : Nat → Option qK) (buf : Nat → Int32) (cnt sn len : Int32) (rd : Nat → Int32) (w : Fin 16 → qw) (X : qm) (hR : RelC (w 1) X) (hJ : J X) : CtI mX2_sentByAccount 2 [qR 0 0] (hK h (oC pi buf cnt sn len rd) w 10) (fun r h2 => r = nI (X.1 0 2) + nI (X.1 0 3) + nI (X.1 0 4) ∧ h2 = hK h (oC pi buf cnt sn len rd) w 10) := by
  refine ct_of (by decide +kernel) rfl rfl (Nat.le_of_ble_eq_true rfl) ?_
  show Ev mX2_sentByAccount 2 0 [some (qR 0 0)] [] 124 (hK h (oC pi buf cnt sn len rd) w 10) 0 0 _ _
  refine e_aload0 dX2_sentByAccount_0 ?_
  refine e_get0 flX2_10 dX2_sentByAccount_1 rfl rfl ?_
  refine e_getW flX2_239 dX2_sentByAccount_4 (by decide) (by decide) rfl rfl ?_
  refine e_aload0 dX2_sentByAccount_7 ?_
  refine e_get0 flX2_10 dX2_sentByAccount_8 rfl rfl ?_
  refine e_getW flX2_242 dX2_sentByAccount_11 (by decide) (by decide) rfl rfl ?_
  refine e_iadd dX2_sentByAccount_14 ?_
  refine e_aload0 dX2_sentByAccount_15 ?_
  refine e_get0 flX2_10 dX2_sentByAccount_16 rfl rfl ?_
  refine e_getW flX2_94 dX2_sentByAccount_19 (by decide) (by decide) rfl rfl ?_
  refine e_iadd dX2_sentByAccount_22 ?_
  refine e_iret dX2_sentByAccount_23 rfl ?_
  exact ⟨_, rfl, rfl, by rw [rC16 hR, rC17 hR, rC14 hR], rfl⟩
set_option maxRecDepth 20000 in
set_option maxHeartbeats 4000000 in
theorem t0_partners (h : qB) (pi : Nat → Option qK) (buf : Nat → Int32) (cnt sn len : Int32) (rd : Nat → Int32) (w : Fin 16 → qw) (X : qm) (hR : RelC (w 1) X) (hJ : J X) {x : Int32} (hx : i_in x (X.1 0 0) = false) : CtT mX2_partners 7 [qR 0 0, qI x] (hK h (oC pi buf cnt sn len rd) w 10) "java/lang/IndexOutOfBoundsException" := by
  refine ct_of (by decide +kernel) rfl rfl (Nat.le_of_ble_eq_true rfl) ?_
  show Ev mX2_partners 7 0 [some (qR 0 0), some (qI x)] [] 124 (hK h (oC pi buf cnt sn len rd) w 10) 1 6 _ _
  refine e_aload0 dX2_partners_0 ?_
  refine e_iload1 dX2_partners_1 ?_
  exact e_vT (M' := mX2_requireTransfer) fX2_requireTransfer lkX2_82 (t_requireTransfer h pi buf cnt sn len rd w X hR hJ hx) rfl rfl dX2_partners_2 (by rw [hK_0]; rfl) rfl (by decide) (Nat.le_of_ble_eq_true rfl) (by decide) (by decide) rfl ⟨rfl, rfl, rfl⟩
set_option maxRecDepth 20000 in
set_option maxHeartbeats 4000000 in
theorem t0_share (h : qB) (pi : Nat → Option qK) (buf : Nat → Int32) (cnt sn len : Int32) (rd : Nat → Int32) (w : Fin 16 → qw) (X : qm) (hR : RelC (w 1) X) (hJ : J X) {x : Int32} (hx : i_in x (X.1 0 0) = false) {y1 : Int32} : CtT mX2_share 7 [qR 0 0, qI x, qI y1] (hK h (oC pi buf cnt sn len rd) w 10) "java/lang/IndexOutOfBoundsException" := by
  refine ct_of (by decide +kernel) rfl rfl (Nat.le_of_ble_eq_true rfl) ?_
  show Ev mX2_share 7 0 [some (qR 0 0), some (qI x), some (qI y1)] [] 124 (hK h (oC pi buf cnt sn len rd) w 10) 1 6 _ _
  refine e_aload0 dX2_share_0 ?_
  refine e_iload1 dX2_share_1 ?_
  exact e_vT (M' := mX2_requireTransfer) fX2_requireTransfer lkX2_82 (t_requireTransfer h pi buf cnt sn len rd w X hR hJ hx) rfl rfl dX2_share_2 (by rw [hK_0]; rfl) rfl (by decide) (Nat.le_of_ble_eq_true rfl) (by decide) (by decide) rfl ⟨rfl, rfl, rfl⟩
set_option maxRecDepth 20000 in
set_option maxHeartbeats 4000000 in
theorem t1_share (h : qB) (pi : Nat → Option qK) (buf : Nat → Int32) (cnt sn len : Int32) (rd : Nat → Int32) (w : Fin 16 → qw) (X : qm) (hR : RelC (w 1) X) (hJ : J X) {t : Nat} (ht : t < X.1 0 0) {x : Int32} (hx : i_in x 4 = false) : CtT mX2_share 7 [qR 0 0, qI (nI t), qI x] (hK h (oC pi buf cnt sn len rd) w 10) "java/lang/IndexOutOfBoundsException" := by
  refine ct_of (by decide +kernel) rfl rfl (Nat.le_of_ble_eq_true rfl) ?_
  show Ev mX2_share 7 0 [some (qR 0 0), some (qI (nI t)), some (qI x)] [] 124 (hK h (oC pi buf cnt sn len rd) w 10) 1 6 _ _
  refine e_aload0 dX2_share_0 ?_
  refine e_iload1 dX2_share_1 ?_
  refine e_vV (M' := mX2_requireTransfer) fX2_requireTransfer lkX2_82 (v_requireTransfer h pi buf cnt sn len rd w X hR hJ (k := t) ht) rfl rfl dX2_share_2 (by rw [hK_0]; rfl) rfl (by decide) (Nat.le_of_ble_eq_true rfl) rfl ?_
  rintro _ rfl
  refine e_aload0 dX2_share_5 ?_
  refine e_iload2 dX2_share_6 ?_
  exact e_vT (M' := mX2_requireStore) fX2_requireStore lkX2_51 (t_requireStore h pi buf cnt sn len rd w hx) rfl rfl dX2_share_7 (by rw [hK_0]; rfl) rfl (by decide) (Nat.le_of_ble_eq_true rfl) (by decide) (by decide) rfl ⟨rfl, rfl, rfl⟩
set_option maxRecDepth 20000 in
set_option maxHeartbeats 4000000 in
theorem t0_isUp (h : qB) (pi : Nat → Option qK) (buf : Nat → Int32) (cnt sn len : Int32) (rd : Nat → Int32) (w : Fin 16 → qw) (X : qm) (hR : RelC (w 1) X) (hJ : J X) {x : Int32} (hx : i_in x 5 = false) : CtT mX2_isUp 7 [qR 0 0, qI x] (hK h (oC pi buf cnt sn len rd) w 10) "java/lang/IndexOutOfBoundsException" := by
  refine ct_of (by decide +kernel) rfl rfl (Nat.le_of_ble_eq_true rfl) ?_
  show Ev mX2_isUp 7 0 [some (qR 0 0), some (qI x)] [] 124 (hK h (oC pi buf cnt sn len rd) w 10) 1 6 _ _
  refine e_aload0 dX2_isUp_0 ?_
  refine e_iload1 dX2_isUp_1 ?_
  exact e_vT (M' := mX2_requireSite) fX2_requireSite lkX2_121 (t_requireSite h pi buf cnt sn len rd w hx) rfl rfl dX2_isUp_2 (by rw [hK_0]; rfl) rfl (by decide) (Nat.le_of_ble_eq_true rfl) (by decide) (by decide) rfl ⟨rfl, rfl, rfl⟩
set_option maxRecDepth 20000 in
set_option maxHeartbeats 4000000 in
theorem t0_amount (h : qB) (pi : Nat → Option qK) (buf : Nat → Int32) (cnt sn len : Int32) (rd : Nat → Int32) (w : Fin 16 → qw) (X : qm) (hR : RelC (w 1) X) (hJ : J X) {x : Int32} (hx : i_in x 4 = false) : CtT mX2_amount 7 [qR 0 0, qI x] (hK h (oC pi buf cnt sn len rd) w 10) "java/lang/IndexOutOfBoundsException" := by
  refine ct_of (by decide +kernel) rfl rfl (Nat.le_of_ble_eq_true rfl) ?_
  show Ev mX2_amount 7 0 [some (qR 0 0), some (qI x)] [] 124 (hK h (oC pi buf cnt sn len rd) w 10) 1 6 _ _
  refine e_aload0 dX2_amount_0 ?_
  refine e_iload1 dX2_amount_1 ?_
  exact e_vT (M' := mX2_requireStore) fX2_requireStore lkX2_51 (t_requireStore h pi buf cnt sn len rd w hx) rfl rfl dX2_amount_2 (by rw [hK_0]; rfl) rfl (by decide) (Nat.le_of_ble_eq_true rfl) (by decide) (by decide) rfl ⟨rfl, rfl, rfl⟩
set_option maxRecDepth 20000 in
set_option maxHeartbeats 4000000 in
theorem t0_amountByLog (h : qB) (pi : Nat → Option qK) (buf : Nat → Int32) (cnt sn len : Int32) (rd : Nat → Int32) (w : Fin 16 → qw) (X : qm) (hR : RelC (w 1) X) (hJ : J X) {x : Int32} (hx : i_in x 4 = false) : CtT mX2_amountByLog 7 [qR 0 0, qI x] (hK h (oC pi buf cnt sn len rd) w 10) "java/lang/IndexOutOfBoundsException" := by
  refine ct_of (by decide +kernel) rfl rfl (Nat.le_of_ble_eq_true rfl) ?_
  show Ev mX2_amountByLog 7 0 [some (qR 0 0), some (qI x), none, none] [] 124 (hK h (oC pi buf cnt sn len rd) w 10) 1 6 _ _
  refine e_aload0 dX2_amountByLog_0 ?_
  refine e_iload1 dX2_amountByLog_1 ?_
  exact e_vT (M' := mX2_requireStore) fX2_requireStore lkX2_51 (t_requireStore h pi buf cnt sn len rd w hx) rfl rfl dX2_amountByLog_2 (by rw [hK_0]; rfl) rfl (by decide) (Nat.le_of_ble_eq_true rfl) (by decide) (by decide) rfl ⟨rfl, rfl, rfl⟩
set_option maxRecDepth 20000 in
set_option maxHeartbeats 4000000 in
theorem t0_state (h : qB) (pi : Nat → Option qK) (buf : Nat → Int32) (cnt sn len : Int32) (rd : Nat → Int32) (w : Fin 16 → qw) (X : qm) (hR : RelC (w 1) X) (hJ : J X) {x : Int32} (hx : i_in x 4 = false) {y1 : Int32} : CtT mX2_state 7 [qR 0 0, qI x, qI y1] (hK h (oC pi buf cnt sn len rd) w 10) "java/lang/IndexOutOfBoundsException" := by
  refine ct_of (by decide +kernel) rfl rfl (Nat.le_of_ble_eq_true rfl) ?_
  show Ev mX2_state 7 0 [some (qR 0 0), some (qI x), some (qI y1)] [] 124 (hK h (oC pi buf cnt sn len rd) w 10) 1 6 _ _
  refine e_aload0 dX2_state_0 ?_
  refine e_iload1 dX2_state_1 ?_
  exact e_vT (M' := mX2_requireStore) fX2_requireStore lkX2_51 (t_requireStore h pi buf cnt sn len rd w hx) rfl rfl dX2_state_2 (by rw [hK_0]; rfl) rfl (by decide) (Nat.le_of_ble_eq_true rfl) (by decide) (by decide) rfl ⟨rfl, rfl, rfl⟩
set_option maxRecDepth 20000 in
set_option maxHeartbeats 4000000 in
theorem t1_state (h : qB) (pi : Nat → Option qK) (buf : Nat → Int32) (cnt sn len : Int32) (rd : Nat → Int32) (w : Fin 16 → qw) (X : qm) (hR : RelC (w 1) X) (hJ : J X) {s : Nat} (hs : s < 4) {x : Int32} (hx : i_in x (X.1 0 0) = false) : CtT mX2_state 7 [qR 0 0, qI (nI s), qI x] (hK h (oC pi buf cnt sn len rd) w 10) "java/lang/IndexOutOfBoundsException" := by
  refine ct_of (by decide +kernel) rfl rfl (Nat.le_of_ble_eq_true rfl) ?_
  show Ev mX2_state 7 0 [some (qR 0 0), some (qI (nI s)), some (qI x)] [] 124 (hK h (oC pi buf cnt sn len rd) w 10) 1 6 _ _
  refine e_aload0 dX2_state_0 ?_
  refine e_iload1 dX2_state_1 ?_
  refine e_vV (M' := mX2_requireStore) fX2_requireStore lkX2_51 (v_requireStore h pi buf cnt sn len rd w (k := s) hs) rfl rfl dX2_state_2 (by rw [hK_0]; rfl) rfl (by decide) (Nat.le_of_ble_eq_true rfl) rfl ?_
  rintro _ rfl
  refine e_aload0 dX2_state_5 ?_
  refine e_iload2 dX2_state_6 ?_
  exact e_vT (M' := mX2_requireTransfer) fX2_requireTransfer lkX2_82 (t_requireTransfer h pi buf cnt sn len rd w X hR hJ hx) rfl rfl dX2_state_7 (by rw [hK_0]; rfl) rfl (by decide) (Nat.le_of_ble_eq_true rfl) (by decide) (by decide) rfl ⟨rfl, rfl, rfl⟩
set_option maxRecDepth 20000 in
set_option maxHeartbeats 4000000 in
theorem t0_stateByLog (h : qB) (pi : Nat → Option qK) (buf : Nat → Int32) (cnt sn len : Int32) (rd : Nat → Int32) (w : Fin 16 → qw) (X : qm) (hR : RelC (w 1) X) (hJ : J X) {x : Int32} (hx : i_in x 4 = false) {y1 : Int32} : CtT mX2_stateByLog 7 [qR 0 0, qI x, qI y1] (hK h (oC pi buf cnt sn len rd) w 10) "java/lang/IndexOutOfBoundsException" := by
  refine ct_of (by decide +kernel) rfl rfl (Nat.le_of_ble_eq_true rfl) ?_
  show Ev mX2_stateByLog 7 0 [some (qR 0 0), some (qI x), some (qI y1), none, none] [] 124 (hK h (oC pi buf cnt sn len rd) w 10) 1 6 _ _
  refine e_aload0 dX2_stateByLog_0 ?_
  refine e_iload1 dX2_stateByLog_1 ?_
  exact e_vT (M' := mX2_requireStore) fX2_requireStore lkX2_51 (t_requireStore h pi buf cnt sn len rd w hx) rfl rfl dX2_stateByLog_2 (by rw [hK_0]; rfl) rfl (by decide) (Nat.le_of_ble_eq_true rfl) (by decide) (by decide) rfl ⟨rfl, rfl, rfl⟩
set_option maxRecDepth 20000 in
set_option maxHeartbeats 4000000 in
theorem t1_stateByLog (h : qB) (pi : Nat → Option qK) (buf : Nat → Int32) (cnt sn len : Int32) (rd : Nat → Int32) (w : Fin 16 → qw) (X : qm) (hR : RelC (w 1) X) (hJ : J X) {s : Nat} (hs : s < 4) {x : Int32} (hx : i_in x (X.1 0 0) = false) : CtT mX2_stateByLog 7 [qR 0 0, qI (nI s), qI x] (hK h (oC pi buf cnt sn len rd) w 10) "java/lang/IndexOutOfBoundsException" := by
  refine ct_of (by decide +kernel) rfl rfl (Nat.le_of_ble_eq_true rfl) ?_
  show Ev mX2_stateByLog 7 0 [some (qR 0 0), some (qI (nI s)), some (qI x), none, none] [] 124 (hK h (oC pi buf cnt sn len rd) w 10) 1 6 _ _
  refine e_aload0 dX2_stateByLog_0 ?_
  refine e_iload1 dX2_stateByLog_1 ?_
  refine e_vV (M' := mX2_requireStore) fX2_requireStore lkX2_51 (v_requireStore h pi buf cnt sn len rd w (k := s) hs) rfl rfl dX2_stateByLog_2 (by rw [hK_0]; rfl) rfl (by decide) (Nat.le_of_ble_eq_true rfl) rfl ?_
  rintro _ rfl
  refine e_aload0 dX2_stateByLog_5 ?_
  refine e_iload2 dX2_stateByLog_6 ?_
  exact e_vT (M' := mX2_requireTransfer) fX2_requireTransfer lkX2_82 (t_requireTransfer h pi buf cnt sn len rd w X hR hJ hx) rfl rfl dX2_stateByLog_7 (by rw [hK_0]; rfl) rfl (by decide) (Nat.le_of_ble_eq_true rfl) (by decide) (by decide) rfl ⟨rfl, rfl, rfl⟩
set_option maxRecDepth 20000 in
set_option maxHeartbeats 4000000 in
theorem t0_outcome (h : qB) (pi : Nat → Option qK) (buf : Nat → Int32) (cnt sn len : Int32) (rd : Nat → Int32) (w : Fin 16 → qw) (X : qm) (hR : RelC (w 1) X) (hJ : J X) {x : Int32} (hx : i_in x (X.1 0 0) = false) : CtT mX2_outcome 7 [qR 0 0, qI x] (hK h (oC pi buf cnt sn len rd) w 10) "java/lang/IndexOutOfBoundsException" := by
  refine ct_of (by decide +kernel) rfl rfl (Nat.le_of_ble_eq_true rfl) ?_
  show Ev mX2_outcome 7 0 [some (qR 0 0), some (qI x)] [] 124 (hK h (oC pi buf cnt sn len rd) w 10) 1 6 _ _
  refine e_aload0 dX2_outcome_0 ?_
  refine e_iload1 dX2_outcome_1 ?_
  exact e_vT (M' := mX2_requireTransfer) fX2_requireTransfer lkX2_82 (t_requireTransfer h pi buf cnt sn len rd w X hR hJ hx) rfl rfl dX2_outcome_2 (by rw [hK_0]; rfl) rfl (by decide) (Nat.le_of_ble_eq_true rfl) (by decide) (by decide) rfl ⟨rfl, rfl, rfl⟩
set_option maxRecDepth 20000 in
set_option maxHeartbeats 4000000 in
theorem t0_outcomeByStores (h : qB) (pi : Nat → Option qK) (buf : Nat → Int32) (cnt sn len : Int32) (rd : Nat → Int32) (w : Fin 16 → qw) (X : qm) (hR : RelC (w 1) X) (hJ : J X) {x : Int32} (hx : i_in x (X.1 0 0) = false) : CtT mX2_outcomeByStores 7 [qR 0 0, qI x] (hK h (oC pi buf cnt sn len rd) w 10) "java/lang/IndexOutOfBoundsException" := by
  refine ct_of (by decide +kernel) rfl rfl (Nat.le_of_ble_eq_true rfl) ?_
  show Ev mX2_outcomeByStores 7 0 [some (qR 0 0), some (qI x), none, none, none] [] 124 (hK h (oC pi buf cnt sn len rd) w 10) 1 6 _ _
  refine e_aload0 dX2_outcomeByStores_0 ?_
  refine e_iload1 dX2_outcomeByStores_1 ?_
  exact e_vT (M' := mX2_requireTransfer) fX2_requireTransfer lkX2_82 (t_requireTransfer h pi buf cnt sn len rd w X hR hJ hx) rfl rfl dX2_outcomeByStores_2 (by rw [hK_0]; rfl) rfl (by decide) (Nat.le_of_ble_eq_true rfl) (by decide) (by decide) rfl ⟨rfl, rfl, rfl⟩
set_option maxRecDepth 20000 in
set_option maxHeartbeats 4000000 in
theorem t0_hasEnded (h : qB) (pi : Nat → Option qK) (buf : Nat → Int32) (cnt sn len : Int32) (rd : Nat → Int32) (w : Fin 16 → qw) (X : qm) (hR : RelC (w 1) X) (hJ : J X) {x : Int32} (hx : i_in x (X.1 0 0) = false) : CtT mX2_hasEnded 7 [qR 0 0, qI x] (hK h (oC pi buf cnt sn len rd) w 10) "java/lang/IndexOutOfBoundsException" := by
  refine ct_of (by decide +kernel) rfl rfl (Nat.le_of_ble_eq_true rfl) ?_
  show Ev mX2_hasEnded 7 0 [some (qR 0 0), some (qI x)] [] 124 (hK h (oC pi buf cnt sn len rd) w 10) 1 6 _ _
  refine e_aload0 dX2_hasEnded_0 ?_
  refine e_iload1 dX2_hasEnded_1 ?_
  exact e_vT (M' := mX2_requireTransfer) fX2_requireTransfer lkX2_82 (t_requireTransfer h pi buf cnt sn len rd w X hR hJ hx) rfl rfl dX2_hasEnded_2 (by rw [hK_0]; rfl) rfl (by decide) (Nat.le_of_ble_eq_true rfl) (by decide) (by decide) rfl ⟨rfl, rfl, rfl⟩
set_option maxRecDepth 20000 in
set_option maxHeartbeats 4000000 in
theorem t0_saidYes (h : qB) (pi : Nat → Option qK) (buf : Nat → Int32) (cnt sn len : Int32) (rd : Nat → Int32) (w : Fin 16 → qw) (X : qm) (hR : RelC (w 1) X) (hJ : J X) {x : Int32} (hx : i_in x (X.1 0 0) = false) : CtT mX2_saidYes 7 [qR 0 0, qI x] (hK h (oC pi buf cnt sn len rd) w 10) "java/lang/IndexOutOfBoundsException" := by
  refine ct_of (by decide +kernel) rfl rfl (Nat.le_of_ble_eq_true rfl) ?_
  show Ev mX2_saidYes 7 0 [some (qR 0 0), some (qI x)] [] 124 (hK h (oC pi buf cnt sn len rd) w 10) 1 6 _ _
  refine e_aload0 dX2_saidYes_0 ?_
  refine e_iload1 dX2_saidYes_1 ?_
  exact e_vT (M' := mX2_requireTransfer) fX2_requireTransfer lkX2_82 (t_requireTransfer h pi buf cnt sn len rd w X hR hJ hx) rfl rfl dX2_saidYes_2 (by rw [hK_0]; rfl) rfl (by decide) (Nat.le_of_ble_eq_true rfl) (by decide) (by decide) rfl ⟨rfl, rfl, rfl⟩
set_option maxRecDepth 20000 in
set_option maxHeartbeats 4000000 in
theorem t0_saidDone (h : qB) (pi : Nat → Option qK) (buf : Nat → Int32) (cnt sn len : Int32) (rd : Nat → Int32) (w : Fin 16 → qw) (X : qm) (hR : RelC (w 1) X) (hJ : J X) {x : Int32} (hx : i_in x (X.1 0 0) = false) : CtT mX2_saidDone 7 [qR 0 0, qI x] (hK h (oC pi buf cnt sn len rd) w 10) "java/lang/IndexOutOfBoundsException" := by
  refine ct_of (by decide +kernel) rfl rfl (Nat.le_of_ble_eq_true rfl) ?_
  show Ev mX2_saidDone 7 0 [some (qR 0 0), some (qI x)] [] 124 (hK h (oC pi buf cnt sn len rd) w 10) 1 6 _ _
  refine e_aload0 dX2_saidDone_0 ?_
  refine e_iload1 dX2_saidDone_1 ?_
  exact e_vT (M' := mX2_requireTransfer) fX2_requireTransfer lkX2_82 (t_requireTransfer h pi buf cnt sn len rd w X hR hJ hx) rfl rfl dX2_saidDone_2 (by rw [hK_0]; rfl) rfl (by decide) (Nat.le_of_ble_eq_true rfl) (by decide) (by decide) rfl ⟨rfl, rfl, rfl⟩
set_option maxRecDepth 20000 in
set_option maxHeartbeats 4000000 in
theorem t0_records (h : qB) (pi : Nat → Option qK) (buf : Nat → Int32) (cnt sn len : Int32) (rd : Nat → Int32) (w : Fin 16 → qw) (X : qm) (hR : RelC (w 1) X) (hJ : J X) {x : Int32} (hx : i_in x 5 = false) : CtT mX2_records 7 [qR 0 0, qI x] (hK h (oC pi buf cnt sn len rd) w 10) "java/lang/IndexOutOfBoundsException" := by
  refine ct_of (by decide +kernel) rfl rfl (Nat.le_of_ble_eq_true rfl) ?_
  show Ev mX2_records 7 0 [some (qR 0 0), some (qI x)] [] 124 (hK h (oC pi buf cnt sn len rd) w 10) 1 6 _ _
  refine e_aload0 dX2_records_0 ?_
  refine e_iload1 dX2_records_1 ?_
  exact e_vT (M' := mX2_requireSite) fX2_requireSite lkX2_121 (t_requireSite h pi buf cnt sn len rd w hx) rfl rfl dX2_records_2 (by rw [hK_0]; rfl) rfl (by decide) (Nat.le_of_ble_eq_true rfl) (by decide) (by decide) rfl ⟨rfl, rfl, rfl⟩
set_option maxRecDepth 20000 in
set_option maxHeartbeats 4000000 in
theorem t0_kindOf (h : qB) (pi : Nat → Option qK) (buf : Nat → Int32) (cnt sn len : Int32) (rd : Nat → Int32) (w : Fin 16 → qw) (X : qm) (hR : RelC (w 1) X) (hJ : J X) {x : Int32} (hx : ¬ 0 ≤ x) : CtT mX2_kindOf 7 [qR 0 0, qI x] (hK h (oC pi buf cnt sn len rd) w 10) "java/lang/IndexOutOfBoundsException" := by
  refine ct_of (by decide +kernel) rfl rfl (Nat.le_of_ble_eq_true rfl) ?_
  show Ev mX2_kindOf 7 0 [some (qR 0 0), some (qI x)] [] 124 (hK h (oC pi buf cnt sn len rd) w 10) 1 6 _ _
  refine e_aload0 dX2_kindOf_0 ?_
  refine e_iload1 dX2_kindOf_1 ?_
  exact e_vT (M' := mX2_requireNotBelowZero) fX2_requireNotBelowZero lkX2_221 (t_requireNotBelowZero h pi buf cnt sn len rd w hx) rfl rfl dX2_kindOf_2 (by rw [hK_0]; rfl) rfl (by decide) (Nat.le_of_ble_eq_true rfl) (by decide) (by decide) rfl ⟨rfl, rfl, rfl⟩
set_option maxRecDepth 20000 in
set_option maxHeartbeats 4000000 in
theorem t0_transferOf (h : qB) (pi : Nat → Option qK) (buf : Nat → Int32) (cnt sn len : Int32) (rd : Nat → Int32) (w : Fin 16 → qw) (X : qm) (hR : RelC (w 1) X) (hJ : J X) {x : Int32} (hx : ¬ 0 ≤ x) : CtT mX2_transferOf 7 [qR 0 0, qI x] (hK h (oC pi buf cnt sn len rd) w 10) "java/lang/IndexOutOfBoundsException" := by
  refine ct_of (by decide +kernel) rfl rfl (Nat.le_of_ble_eq_true rfl) ?_
  show Ev mX2_transferOf 7 0 [some (qR 0 0), some (qI x)] [] 124 (hK h (oC pi buf cnt sn len rd) w 10) 1 6 _ _
  refine e_aload0 dX2_transferOf_0 ?_
  refine e_iload1 dX2_transferOf_1 ?_
  exact e_vT (M' := mX2_requireNotBelowZero) fX2_requireNotBelowZero lkX2_221 (t_requireNotBelowZero h pi buf cnt sn len rd w hx) rfl rfl dX2_transferOf_2 (by rw [hK_0]; rfl) rfl (by decide) (Nat.le_of_ble_eq_true rfl) (by decide) (by decide) rfl ⟨rfl, rfl, rfl⟩
set_option maxRecDepth 20000 in
set_option maxHeartbeats 4000000 in
theorem t0_storeOf (h : qB) (pi : Nat → Option qK) (buf : Nat → Int32) (cnt sn len : Int32) (rd : Nat → Int32) (w : Fin 16 → qw) (X : qm) (hR : RelC (w 1) X) (hJ : J X) {x : Int32} (hx : ¬ 0 ≤ x) : CtT mX2_storeOf 7 [qR 0 0, qI x] (hK h (oC pi buf cnt sn len rd) w 10) "java/lang/IndexOutOfBoundsException" := by
  refine ct_of (by decide +kernel) rfl rfl (Nat.le_of_ble_eq_true rfl) ?_
  show Ev mX2_storeOf 7 0 [some (qR 0 0), some (qI x)] [] 124 (hK h (oC pi buf cnt sn len rd) w 10) 1 6 _ _
  refine e_aload0 dX2_storeOf_0 ?_
  refine e_iload1 dX2_storeOf_1 ?_
  exact e_vT (M' := mX2_requireNotBelowZero) fX2_requireNotBelowZero lkX2_221 (t_requireNotBelowZero h pi buf cnt sn len rd w hx) rfl rfl dX2_storeOf_2 (by rw [hK_0]; rfl) rfl (by decide) (Nat.le_of_ble_eq_true rfl) (by decide) (by decide) rfl ⟨rfl, rfl, rfl⟩
set_option maxRecDepth 20000 in
set_option maxHeartbeats 4000000 in
theorem t0_giveUp (h : qB) (pi : Nat → Option qK) (buf : Nat → Int32) (cnt sn len : Int32) (rd : Nat → Int32) (w : Fin 16 → qw) (X : qm) (hR : RelC (w 1) X) (hJ : J X) {x : Int32} (hx : i_in x (X.1 0 0) = false) : CtT mX2_giveUp 7 [qR 0 0, qI x] (hK h (oC pi buf cnt sn len rd) w 10) "java/lang/IndexOutOfBoundsException" := by
  refine ct_of (by decide +kernel) rfl rfl (Nat.le_of_ble_eq_true rfl) ?_
  show Ev mX2_giveUp 7 0 [some (qR 0 0), some (qI x)] [] 124 (hK h (oC pi buf cnt sn len rd) w 10) 1 6 _ _
  refine e_aload0 dX2_giveUp_0 ?_
  refine e_iload1 dX2_giveUp_1 ?_
  exact e_vT (M' := mX2_requireTransfer) fX2_requireTransfer lkX2_82 (t_requireTransfer h pi buf cnt sn len rd w X hR hJ hx) rfl rfl dX2_giveUp_2 (by rw [hK_0]; rfl) rfl (by decide) (Nat.le_of_ble_eq_true rfl) (by decide) (by decide) rfl ⟨rfl, rfl, rfl⟩
set_option maxRecDepth 20000 in
set_option maxHeartbeats 4000000 in
theorem t0_ask (h : qB) (pi : Nat → Option qK) (buf : Nat → Int32) (cnt sn len : Int32) (rd : Nat → Int32) (w : Fin 16 → qw) (X : qm) (hR : RelC (w 1) X) (hJ : J X) {x : Int32} (hx : i_in x 4 = false) {y1 : Int32} : CtT mX2_ask 7 [qR 0 0, qI x, qI y1] (hK h (oC pi buf cnt sn len rd) w 10) "java/lang/IndexOutOfBoundsException" := by
  refine ct_of (by decide +kernel) rfl rfl (Nat.le_of_ble_eq_true rfl) ?_
  show Ev mX2_ask 7 0 [some (qR 0 0), some (qI x), some (qI y1)] [] 124 (hK h (oC pi buf cnt sn len rd) w 10) 1 6 _ _
  refine e_aload0 dX2_ask_0 ?_
  refine e_iload1 dX2_ask_1 ?_
  exact e_vT (M' := mX2_requireStore) fX2_requireStore lkX2_51 (t_requireStore h pi buf cnt sn len rd w hx) rfl rfl dX2_ask_2 (by rw [hK_0]; rfl) rfl (by decide) (Nat.le_of_ble_eq_true rfl) (by decide) (by decide) rfl ⟨rfl, rfl, rfl⟩
set_option maxRecDepth 20000 in
set_option maxHeartbeats 4000000 in
theorem t1_ask (h : qB) (pi : Nat → Option qK) (buf : Nat → Int32) (cnt sn len : Int32) (rd : Nat → Int32) (w : Fin 16 → qw) (X : qm) (hR : RelC (w 1) X) (hJ : J X) {s : Nat} (hs : s < 4) {x : Int32} (hx : i_in x (X.1 0 0) = false) : CtT mX2_ask 7 [qR 0 0, qI (nI s), qI x] (hK h (oC pi buf cnt sn len rd) w 10) "java/lang/IndexOutOfBoundsException" := by
  refine ct_of (by decide +kernel) rfl rfl (Nat.le_of_ble_eq_true rfl) ?_
  show Ev mX2_ask 7 0 [some (qR 0 0), some (qI (nI s)), some (qI x)] [] 124 (hK h (oC pi buf cnt sn len rd) w 10) 1 6 _ _
  refine e_aload0 dX2_ask_0 ?_
  refine e_iload1 dX2_ask_1 ?_
  refine e_vV (M' := mX2_requireStore) fX2_requireStore lkX2_51 (v_requireStore h pi buf cnt sn len rd w (k := s) hs) rfl rfl dX2_ask_2 (by rw [hK_0]; rfl) rfl (by decide) (Nat.le_of_ble_eq_true rfl) rfl ?_
  rintro _ rfl
  refine e_aload0 dX2_ask_5 ?_
  refine e_iload2 dX2_ask_6 ?_
  exact e_vT (M' := mX2_requireTransfer) fX2_requireTransfer lkX2_82 (t_requireTransfer h pi buf cnt sn len rd w X hR hJ hx) rfl rfl dX2_ask_7 (by rw [hK_0]; rfl) rfl (by decide) (Nat.le_of_ble_eq_true rfl) (by decide) (by decide) rfl ⟨rfl, rfl, rfl⟩
set_option maxRecDepth 20000 in
set_option maxHeartbeats 4000000 in
theorem t0_deliver (h : qB) (pi : Nat → Option qK) (buf : Nat → Int32) (cnt sn len : Int32) (rd : Nat → Int32) (w : Fin 16 → qw) (X : qm) (hR : RelC (w 1) X) (hJ : J X) {x : Int32} (hx : i_in x (X.1 0 4) = false) : CtT mX2_deliver 7 [qR 0 0, qI x] (hK h (oC pi buf cnt sn len rd) w 10) "java/lang/IndexOutOfBoundsException" := by
  refine ct_of (by decide +kernel) rfl rfl (Nat.le_of_ble_eq_true rfl) ?_
  show Ev mX2_deliver 7 0 [some (qR 0 0), some (qI x)] [] 124 (hK h (oC pi buf cnt sn len rd) w 10) 1 6 _ _
  refine e_aload0 dX2_deliver_0 ?_
  refine e_iload1 dX2_deliver_1 ?_
  exact e_vT (M' := mX2_requireMessage) fX2_requireMessage lkX2_107 (t_requireMessage h pi buf cnt sn len rd w X hR hJ hx) rfl rfl dX2_deliver_2 (by rw [hK_0]; rfl) rfl (by decide) (Nat.le_of_ble_eq_true rfl) (by decide) (by decide) rfl ⟨rfl, rfl, rfl⟩
set_option maxRecDepth 20000 in
set_option maxHeartbeats 4000000 in
theorem t0_lose (h : qB) (pi : Nat → Option qK) (buf : Nat → Int32) (cnt sn len : Int32) (rd : Nat → Int32) (w : Fin 16 → qw) (X : qm) (hR : RelC (w 1) X) (hJ : J X) {x : Int32} (hx : i_in x (X.1 0 4) = false) : CtT mX2_lose 7 [qR 0 0, qI x] (hK h (oC pi buf cnt sn len rd) w 10) "java/lang/IndexOutOfBoundsException" := by
  refine ct_of (by decide +kernel) rfl rfl (Nat.le_of_ble_eq_true rfl) ?_
  show Ev mX2_lose 7 0 [some (qR 0 0), some (qI x)] [] 124 (hK h (oC pi buf cnt sn len rd) w 10) 1 6 _ _
  refine e_aload0 dX2_lose_0 ?_
  refine e_iload1 dX2_lose_1 ?_
  exact e_vT (M' := mX2_requireMessage) fX2_requireMessage lkX2_107 (t_requireMessage h pi buf cnt sn len rd w X hR hJ hx) rfl rfl dX2_lose_2 (by rw [hK_0]; rfl) rfl (by decide) (Nat.le_of_ble_eq_true rfl) (by decide) (by decide) rfl ⟨rfl, rfl, rfl⟩
set_option maxRecDepth 20000 in
set_option maxHeartbeats 4000000 in
theorem t0_crash (h : qB) (pi : Nat → Option qK) (buf : Nat → Int32) (cnt sn len : Int32) (rd : Nat → Int32) (w : Fin 16 → qw) (X : qm) (hR : RelC (w 1) X) (hJ : J X) {x : Int32} (hx : i_in x 5 = false) : CtT mX2_crash 7 [qR 0 0, qI x] (hK h (oC pi buf cnt sn len rd) w 10) "java/lang/IndexOutOfBoundsException" := by
  refine ct_of (by decide +kernel) rfl rfl (Nat.le_of_ble_eq_true rfl) ?_
  show Ev mX2_crash 7 0 [some (qR 0 0), some (qI x)] [] 124 (hK h (oC pi buf cnt sn len rd) w 10) 1 6 _ _
  refine e_aload0 dX2_crash_0 ?_
  refine e_iload1 dX2_crash_1 ?_
  exact e_vT (M' := mX2_requireSite) fX2_requireSite lkX2_121 (t_requireSite h pi buf cnt sn len rd w hx) rfl rfl dX2_crash_2 (by rw [hK_0]; rfl) rfl (by decide) (Nat.le_of_ble_eq_true rfl) (by decide) (by decide) rfl ⟨rfl, rfl, rfl⟩
set_option maxRecDepth 20000 in
set_option maxHeartbeats 4000000 in
theorem t0_recover (h : qB) (pi : Nat → Option qK) (buf : Nat → Int32) (cnt sn len : Int32) (rd : Nat → Int32) (w : Fin 16 → qw) (X : qm) (hR : RelC (w 1) X) (hJ : J X) {x : Int32} (hx : i_in x 5 = false) : CtT mX2_recover 7 [qR 0 0, qI x] (hK h (oC pi buf cnt sn len rd) w 10) "java/lang/IndexOutOfBoundsException" := by
  refine ct_of (by decide +kernel) rfl rfl (Nat.le_of_ble_eq_true rfl) ?_
  show Ev mX2_recover 7 0 [some (qR 0 0), some (qI x)] [] 124 (hK h (oC pi buf cnt sn len rd) w 10) 1 6 _ _
  refine e_aload0 dX2_recover_0 ?_
  refine e_iload1 dX2_recover_1 ?_
  exact e_vT (M' := mX2_requireSite) fX2_requireSite lkX2_121 (t_requireSite h pi buf cnt sn len rd w hx) rfl rfl dX2_recover_2 (by rw [hK_0]; rfl) rfl (by decide) (Nat.le_of_ble_eq_true rfl) (by decide) (by decide) rfl ⟨rfl, rfl, rfl⟩
