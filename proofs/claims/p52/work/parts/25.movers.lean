/-! MOVES -/
theorem relL_uw {pi : Nat → Option qK} {w : Fin 16 → qw} {c : Nat} {Sv : Nat → qm} {b : Fin 16} {x : qw} (hb : b.val ≤ 4) (h : RelL pi w c Sv) (hc : c ≤ 6 := by (first | assumption | (unfold m_svC; split <;> omega))) : RelL pi (uw w b x) c Sv := by
  obtain ⟨v, v1, v2, v3⟩ := h
  refine ⟨v, v1, v2, fun i hi => ?_⟩
  have q := v1 i (by omega)
  have : v i ≠ b := by intro e; rw [e] at q; omega
  simp only [uw]
  rw [if_neg this]; exact v3 i hi
set_option maxRecDepth 20000 in
set_option maxHeartbeats 4000000 in
theorem v_begin (h : qB) (pi : Nat → Option qK) (buf : Nat → Int32) (c : Nat) (sn len : Int32) (rd : Nat → Int32) (w : Fin 16 → qw) (X : qm) (hR : RelC (w 1) X) (hJ : J X) (Sv : Nat → qm) (hc : c ≤ 6) (hL : RelL pi w c Sv) {f to sz : Nat} (hf : f < 4) (h1 : 1 ≤ to) (h2 : to < 16) (h3 : to / 2 ^ f % 2 = 0) (h4 : 1 ≤ sz) (h5 : sz ≤ 50) (hS : X.1 1 4 = 1 ∧ X.1 0 0 < 8) : CtI mX2_begin 3 [qR 0 0, qI (nI f), qI (nI to), qI (nI sz)] (hK h (oC pi buf (nI c) sn len rd) w 10) (fun r h2 => r = nI (X.1 0 0) ∧ ∃ pi' w', h2 = hK h (oC pi' buf (nI (m_svC c)) sn len rd) w' 10 ∧ RelC (w' 1) (m_begin X f to sz) ∧ (∀ b : Fin 16, b.val ≤ 4 → b ≠ 1 → w' b = w b) ∧ RelL pi' w' (m_svC c) (m_sv c Sv X)) := by
  refine ct_of (by decide +kernel) rfl rfl (Nat.le_of_ble_eq_true rfl) ?_
  show Ev mX2_begin 3 0 [some (qR 0 0), some (qI (nI f)), some (qI (nI to)), some (qI (nI sz))] [] 124 (hK h (oC pi buf (nI c) sn len rd) w 10) 0 0 _ _
  refine e_aload0 dX2_begin_0 ?_
  refine e_iload1 dX2_begin_1 ?_
  refine e_vV (M' := mX2_requireStore) fX2_requireStore lkX2_51 (v_requireStore h pi buf (nI c) sn len rd w (k := f) hf) rfl rfl dX2_begin_2 (by rw [hK_0]; rfl) rfl (by decide) (Nat.le_of_ble_eq_true rfl) rfl ?_
  rintro _ rfl
  refine e_aload0 dX2_begin_5 ?_
  refine e_iload1 dX2_begin_6 ?_
  refine e_iload2 dX2_begin_7 ?_
  refine e_vV (M' := mX2_requireTakers) fX2_requireTakers lkX2_55 (v_requireTakers h pi buf (nI c) sn len rd w (f := f) (to := to) hf h1 h2 h3) rfl rfl dX2_begin_8 (by rw [hK_0]; rfl) rfl (by decide) (Nat.le_of_ble_eq_true rfl) rfl ?_
  rintro _ rfl
  refine e_iload3 dX2_begin_11 ?_
  refine e_iconst (z := 1) dX2_begin_12 ?_
  first | refine e_icmp_ltN 22 dX2_begin_13 (by decide) (by omega) (by omega) (fun hc13 => ?_) (fun hc13 => ?_) | refine e_icmp_lt 22 dX2_begin_13 (by decide) (fun hc13 => ?_) (fun hc13 => ?_)
  · exfalso; omega
  · refine e_iload3 dX2_begin_16 ?_
    refine e_bipush (v := nI 50) dX2_begin_17 (by decide) ?_
    first | refine e_icmp_leN 32 dX2_begin_19 (by decide) (by omega) (by omega) (fun hc19 => ?_) (fun hc19 => ?_) | refine e_icmp_le 32 dX2_begin_19 (by decide) (fun hc19 => ?_) (fun hc19 => ?_)
    · refine e_aload0 dX2_begin_32 ?_
      refine e_get0 flX2_10 dX2_begin_33 rfl rfl ?_
      refine e_vI (M' := mX1_canStart) fX1_canStart lkX2_66 (ctI_K (b := 1) (by decide) (by decide) (w_canStart (hK h (oC pi buf (nI c) sn len rd) w 10) 1 (w 1) X hR hJ.1)) rfl rfl dX2_begin_36 (by rw [hK_at (by decide) (by decide)]; rfl) rfl (by decide) (Nat.le_of_ble_eq_true rfl) rfl ?_
      rintro _ _ ⟨rfl, rfl⟩
      rw [hK_self (by decide) (by decide)]
      have hB := decide_eq_true hS
      rw [hB]
      refine e_if_neN 52 dX2_begin_39 (by decide) (by decide) (fun _ => ?_) (fun q => absurd q (by decide))
      refine e_aload0 dX2_begin_52 ?_
      refine e_vV (M' := mX2_save) fX2_save lkX2_75 (v_save h pi buf c sn len rd w X hR hJ Sv hc hL) rfl rfl dX2_begin_53 (by rw [hK_0]; rfl) rfl (by decide) (Nat.le_of_ble_eq_true rfl) rfl ?_
      rintro _ ⟨pi2, w2, rfl, hw2, hL2⟩
      have hR1 : RelC (w2 1) X := by rw [hw2 1 (by decide)]; exact hR
      refine e_aload0 dX2_begin_56 ?_
      refine e_get0 flX2_10 dX2_begin_57 rfl rfl ?_
      refine e_iload1 dX2_begin_60 ?_
      refine e_iload2 dX2_begin_61 ?_
      refine e_iload3 dX2_begin_62 ?_
      refine e_vI (M' := mX1_start) fX1_start lkX2_78 (ctI_K (b := 1) (by decide) (by decide) (w_start (hK h (oC pi2 buf (nI (m_svC c)) sn len rd) w2 10) 1 (w2 1) X hR1 hJ (f := f) (to := to) (sz := sz) hS.2 hf h2)) rfl rfl dX2_begin_63 (by rw [hK_at (by decide) (by decide)]; rfl) rfl (by decide) (Nat.le_of_ble_eq_true rfl) rfl ?_
      rintro _ _ ⟨rfl, w3, hR3, rfl⟩
      rw [hK_put (by decide) (by decide)]
      refine e_iret dX2_begin_66 rfl ?_
      exact ⟨_, rfl, rfl, rfl, pi2, uw w2 1 w3, rfl, hR3, fun b hb hb1 => by simp only [uw]; rw [if_neg hb1]; exact hw2 b hb, relL_uw (by decide) hL2⟩
    · exfalso; omega
set_option maxRecDepth 20000 in
set_option maxHeartbeats 4000000 in
theorem v_giveUp (h : qB) (pi : Nat → Option qK) (buf : Nat → Int32) (c : Nat) (sn len : Int32) (rd : Nat → Int32) (w : Fin 16 → qw) (X : qm) (hR : RelC (w 1) X) (hJ : J X) (Sv : Nat → qm) (hc : c ≤ 6) (hL : RelL pi w c Sv) {t : Nat} (ht : t < X.1 0 0) (hS : X.1 1 4 = 1 ∧ X.1 7 t = 0) : CtI mX2_giveUp 3 [qR 0 0, qI (nI t)] (hK h (oC pi buf (nI c) sn len rd) w 10) (fun r h2 => r = nI ((m_decide X t 2).1 0 4) ∧ ∃ pi' w', h2 = hK h (oC pi' buf (nI (m_svC c)) sn len rd) w' 10 ∧ RelC (w' 1) (m_decide X t 2) ∧ (∀ b : Fin 16, b.val ≤ 4 → b ≠ 1 → w' b = w b) ∧ RelL pi' w' (m_svC c) (m_sv c Sv X)) := by
  have ht8 : t < 8 := Nat.lt_of_lt_of_le ht (iV1 hJ.1)
  refine ct_of (by decide +kernel) rfl rfl (Nat.le_of_ble_eq_true rfl) ?_
  show Ev mX2_giveUp 3 0 [some (qR 0 0), some (qI (nI t))] [] 124 (hK h (oC pi buf (nI c) sn len rd) w 10) 0 0 _ _
  refine e_aload0 dX2_giveUp_0 ?_
  refine e_iload1 dX2_giveUp_1 ?_
  refine e_vV (M' := mX2_requireTransfer) fX2_requireTransfer lkX2_82 (v_requireTransfer h pi buf (nI c) sn len rd w X hR hJ (k := t) ht) rfl rfl dX2_giveUp_2 (by rw [hK_0]; rfl) rfl (by decide) (Nat.le_of_ble_eq_true rfl) rfl ?_
  rintro _ rfl
  refine e_aload0 dX2_giveUp_5 ?_
  refine e_get0 flX2_10 dX2_giveUp_6 rfl rfl ?_
  refine e_iload1 dX2_giveUp_9 ?_
  refine e_vI (M' := mX1_canDecide) fX1_canDecide lkX2_85 (ctI_K (b := 1) (by decide) (by decide) (w_canDecide (hK h (oC pi buf (nI c) sn len rd) w 10) 1 (w 1) X hR hJ.1 (t := t) ht8)) rfl rfl dX2_giveUp_10 (by rw [hK_at (by decide) (by decide)]; rfl) rfl (by decide) (Nat.le_of_ble_eq_true rfl) rfl ?_
  rintro _ _ ⟨rfl, rfl⟩
  rw [hK_self (by decide) (by decide)]
  have hB := decide_eq_true hS
  rw [hB]
  refine e_if_neN 26 dX2_giveUp_13 (by decide) (by decide) (fun _ => ?_) (fun q => absurd q (by decide))
  refine e_aload0 dX2_giveUp_26 ?_
  refine e_vV (M' := mX2_save) fX2_save lkX2_75 (v_save h pi buf c sn len rd w X hR hJ Sv hc hL) rfl rfl dX2_giveUp_27 (by rw [hK_0]; rfl) rfl (by decide) (Nat.le_of_ble_eq_true rfl) rfl ?_
  rintro _ ⟨pi2, w2, rfl, hw2, hL2⟩
  have hR1 : RelC (w2 1) X := by rw [hw2 1 (by decide)]; exact hR
  refine e_aload0 dX2_giveUp_30 ?_
  refine e_get0 flX2_10 dX2_giveUp_31 rfl rfl ?_
  refine e_iload1 dX2_giveUp_34 ?_
  refine e_iconst (z := 2) dX2_giveUp_35 ?_
  refine e_vV (M' := mX1_decide) fX1_decide lkX2_91 (ctV_K (b := 1) (by decide) (by decide) (w_decide (hK h (oC pi2 buf (nI (m_svC c)) sn len rd) w2 10) 1 (w2 1) X hR1 (iV2 hJ.1) (t := t) (oc := 2) ht8 ht (Or.inr rfl) (m_part_lt hJ.1 ht8) (j_len7 hJ ht hS.2) (j_L hJ))) rfl rfl dX2_giveUp_36 (by rw [hK_at (by decide) (by decide)]; rfl) rfl (by decide) (Nat.le_of_ble_eq_true rfl) rfl ?_
  rintro _ ⟨w3, hR3, rfl⟩
  rw [hK_put (by decide) (by decide)]
  refine e_aload0 dX2_giveUp_39 ?_
  refine e_get0 flX2_10 dX2_giveUp_40 rfl rfl ?_
  refine e_getW flX2_94 dX2_giveUp_43 (by decide) (by decide) rfl rfl ?_
  refine e_iret dX2_giveUp_46 rfl ?_
  exact ⟨_, rfl, rfl, rC14 hR3, pi2, uw w2 1 w3, rfl, hR3, fun b hb hb1 => by simp only [uw]; rw [if_neg hb1]; exact hw2 b hb, relL_uw (by decide) hL2⟩
set_option maxRecDepth 20000 in
set_option maxHeartbeats 4000000 in
theorem v_ask (h : qB) (pi : Nat → Option qK) (buf : Nat → Int32) (c : Nat) (sn len : Int32) (rd : Nat → Int32) (w : Fin 16 → qw) (X : qm) (hR : RelC (w 1) X) (hJ : J X) (Sv : Nat → qm) (hc : c ≤ 6) (hL : RelL pi w c Sv) {s : Nat} (hs : s < 4) {t : Nat} (ht : t < X.1 0 0) (hS : X.1 1 s = 1 ∧ X.1 9 (8 * s + t) = 1) : CtI mX2_ask 3 [qR 0 0, qI (nI s), qI (nI t)] (hK h (oC pi buf (nI c) sn len rd) w 10) (fun r h2 => r = nI ((m_send X 6 t s).1 0 4) ∧ ∃ pi' w', h2 = hK h (oC pi' buf (nI (m_svC c)) sn len rd) w' 10 ∧ RelC (w' 1) (m_send X 6 t s) ∧ (∀ b : Fin 16, b.val ≤ 4 → b ≠ 1 → w' b = w b) ∧ RelL pi' w' (m_svC c) (m_sv c Sv X)) := by
  have ht8 : t < 8 := Nat.lt_of_lt_of_le ht (iV1 hJ.1)
  refine ct_of (by decide +kernel) rfl rfl (Nat.le_of_ble_eq_true rfl) ?_
  show Ev mX2_ask 3 0 [some (qR 0 0), some (qI (nI s)), some (qI (nI t))] [] 124 (hK h (oC pi buf (nI c) sn len rd) w 10) 0 0 _ _
  refine e_aload0 dX2_ask_0 ?_
  refine e_iload1 dX2_ask_1 ?_
  refine e_vV (M' := mX2_requireStore) fX2_requireStore lkX2_51 (v_requireStore h pi buf (nI c) sn len rd w (k := s) hs) rfl rfl dX2_ask_2 (by rw [hK_0]; rfl) rfl (by decide) (Nat.le_of_ble_eq_true rfl) rfl ?_
  rintro _ rfl
  refine e_aload0 dX2_ask_5 ?_
  refine e_iload2 dX2_ask_6 ?_
  refine e_vV (M' := mX2_requireTransfer) fX2_requireTransfer lkX2_82 (v_requireTransfer h pi buf (nI c) sn len rd w X hR hJ (k := t) ht) rfl rfl dX2_ask_7 (by rw [hK_0]; rfl) rfl (by decide) (Nat.le_of_ble_eq_true rfl) rfl ?_
  rintro _ rfl
  refine e_aload0 dX2_ask_10 ?_
  refine e_get0 flX2_10 dX2_ask_11 rfl rfl ?_
  refine e_iload1 dX2_ask_14 ?_
  refine e_iload2 dX2_ask_15 ?_
  refine e_vI (M' := mX1_canAskWhatNow) fX1_canAskWhatNow lkX2_97 (ctI_K (b := 1) (by decide) (by decide) (w_canAskWhatNow (hK h (oC pi buf (nI c) sn len rd) w 10) 1 (w 1) X hR hJ.1 (s := s) (t := t) hs ht8)) rfl rfl dX2_ask_16 (by rw [hK_at (by decide) (by decide)]; rfl) rfl (by decide) (Nat.le_of_ble_eq_true rfl) rfl ?_
  rintro _ _ ⟨rfl, rfl⟩
  rw [hK_self (by decide) (by decide)]
  have hB := decide_eq_true hS
  rw [hB]
  refine e_if_neN 32 dX2_ask_19 (by decide) (by decide) (fun _ => ?_) (fun q => absurd q (by decide))
  refine e_aload0 dX2_ask_32 ?_
  refine e_vV (M' := mX2_save) fX2_save lkX2_75 (v_save h pi buf c sn len rd w X hR hJ Sv hc hL) rfl rfl dX2_ask_33 (by rw [hK_0]; rfl) rfl (by decide) (Nat.le_of_ble_eq_true rfl) rfl ?_
  rintro _ ⟨pi2, w2, rfl, hw2, hL2⟩
  have hR1 : RelC (w2 1) X := by rw [hw2 1 (by decide)]; exact hR
  refine e_aload0 dX2_ask_36 ?_
  refine e_get0 flX2_10 dX2_ask_37 rfl rfl ?_
  refine e_bipush (v := nI 6) dX2_ask_40 (by decide) ?_
  refine e_iload2 dX2_ask_42 ?_
  refine e_iconst (z := 1) dX2_ask_43 ?_
  refine e_iload1 dX2_ask_44 ?_
  refine e_ishl dX2_ask_45 ?_
  rw [b_one _ hs]
  refine e_vV (M' := mX1_send) fX1_send lkX2_103 (ctV_K (b := 1) (by decide) (by decide) (w_send (hK h (oC pi2 buf (nI (m_svC c)) sn len rd) w2 10) 1 (w2 1) X hR1 (iV2 hJ.1) (kd := 6) (t := t) (mk := 2 ^ s) (by decide) ht8 (b_two s hs))) rfl rfl dX2_ask_46 (by rw [hK_at (by decide) (by decide)]; rfl) rfl (by decide) (Nat.le_of_ble_eq_true rfl) rfl ?_
  rintro _ ⟨w3, hR3, rfl⟩
  rw [m_sendN_one _ _ _ hs] at hR3
  rw [hK_put (by decide) (by decide)]
  refine e_aload0 dX2_ask_49 ?_
  refine e_get0 flX2_10 dX2_ask_50 rfl rfl ?_
  refine e_getW flX2_94 dX2_ask_53 (by decide) (by decide) rfl rfl ?_
  refine e_iret dX2_ask_56 rfl ?_
  exact ⟨_, rfl, rfl, rC14 hR3, pi2, uw w2 1 w3, rfl, hR3, fun b hb hb1 => by simp only [uw]; rw [if_neg hb1]; exact hw2 b hb, relL_uw (by decide) hL2⟩
set_option maxRecDepth 20000 in
set_option maxHeartbeats 4000000 in
theorem v_deliver (h : qB) (pi : Nat → Option qK) (buf : Nat → Int32) (c : Nat) (sn len : Int32) (rd : Nat → Int32) (w : Fin 16 → qw) (X : qm) (hR : RelC (w 1) X) (hJ : J X) (Sv : Nat → qm) (hc : c ≤ 6) (hL : RelL pi w c Sv) {p : Nat} (hp : p < X.1 0 4) : CtI mX2_deliver 4 [qR 0 0, qI (nI p)] (hK h (oC pi buf (nI c) sn len rd) w 10) (fun r h2 => r = q_b (m_isUp X p) ∧ ∃ pi' w', h2 = hK h (oC pi' buf (nI (m_svC c)) sn len rd) w' 10 ∧ RelC (w' 1) (m_deliver X p) ∧ (∀ b : Fin 16, b.val ≤ 4 → b ≠ 1 → w' b = w b) ∧ RelL pi' w' (m_svC c) (m_sv c Sv X)) := by
  refine ct_of (by decide +kernel) rfl rfl (Nat.le_of_ble_eq_true rfl) ?_
  show Ev mX2_deliver 4 0 [some (qR 0 0), some (qI (nI p))] [] 124 (hK h (oC pi buf (nI c) sn len rd) w 10) 0 0 _ _
  refine e_aload0 dX2_deliver_0 ?_
  refine e_iload1 dX2_deliver_1 ?_
  refine e_vV (M' := mX2_requireMessage) fX2_requireMessage lkX2_107 (v_requireMessage h pi buf (nI c) sn len rd w X hR hJ (k := p) hp) rfl rfl dX2_deliver_2 (by rw [hK_0]; rfl) rfl (by decide) (Nat.le_of_ble_eq_true rfl) rfl ?_
  rintro _ rfl
  refine e_aload0 dX2_deliver_5 ?_
  refine e_vV (M' := mX2_save) fX2_save lkX2_75 (v_save h pi buf c sn len rd w X hR hJ Sv hc hL) rfl rfl dX2_deliver_6 (by rw [hK_0]; rfl) rfl (by decide) (Nat.le_of_ble_eq_true rfl) rfl ?_
  rintro _ ⟨pi2, w2, rfl, hw2, hL2⟩
  have hR1 : RelC (w2 1) X := by rw [hw2 1 (by decide)]; exact hR
  refine e_aload0 dX2_deliver_9 ?_
  refine e_get0 flX2_10 dX2_deliver_10 rfl rfl ?_
  refine e_iload1 dX2_deliver_13 ?_
  refine e_vI (M' := mX1_deliverFrom) fX1_deliverFrom lkX2_110 (ctI_K (b := 1) (by decide) (by decide) (w_deliverFrom (hK h (oC pi2 buf (nI (m_svC c)) sn len rd) w2 10) 1 (w2 1) X hR1 hJ (p := p) hp)) rfl rfl dX2_deliver_14 (by rw [hK_at (by decide) (by decide)]; rfl) rfl (by decide) (Nat.le_of_ble_eq_true rfl) rfl ?_
  rintro _ _ ⟨rfl, w3, hR3, rfl⟩
  rw [hK_put (by decide) (by decide)]
  refine e_zret dX2_deliver_17 rfl (by first | rfl | exact q_nar _) ?_
  exact ⟨_, rfl, rfl, rfl, pi2, uw w2 1 w3, rfl, hR3, fun b hb hb1 => by simp only [uw]; rw [if_neg hb1]; exact hw2 b hb, relL_uw (by decide) hL2⟩
set_option maxRecDepth 20000 in
set_option maxHeartbeats 4000000 in
theorem v_deliverAll (h : qB) (pi : Nat → Option qK) (buf : Nat → Int32) (c : Nat) (sn len : Int32) (rd : Nat → Int32) (w : Fin 16 → qw) (X : qm) (hR : RelC (w 1) X) (hJ : J X) (Sv : Nat → qm) (hc : c ≤ 6) (hL : RelL pi w c Sv) : CtI mX2_deliverAll 5 [qR 0 0] (hK h (oC pi buf (nI c) sn len rd) w 10) (fun r h2 => r = nI (m_runN X) ∧ ∃ pi' w', h2 = hK h (oC pi' buf (nI (m_svC c)) sn len rd) w' 10 ∧ RelC (w' 1) (m_run X) ∧ (∀ b : Fin 16, b.val ≤ 4 → b ≠ 1 → w' b = w b) ∧ RelL pi' w' (m_svC c) (m_sv c Sv X)) := by
  refine ct_of (by decide +kernel) rfl rfl (Nat.le_of_ble_eq_true rfl) ?_
  show Ev mX2_deliverAll 5 0 [some (qR 0 0)] [] 124 (hK h (oC pi buf (nI c) sn len rd) w 10) 0 0 _ _
  refine e_aload0 dX2_deliverAll_0 ?_
  refine e_vV (M' := mX2_save) fX2_save lkX2_75 (v_save h pi buf c sn len rd w X hR hJ Sv hc hL) rfl rfl dX2_deliverAll_1 (by rw [hK_0]; rfl) rfl (by decide) (Nat.le_of_ble_eq_true rfl) rfl ?_
  rintro _ ⟨pi2, w2, rfl, hw2, hL2⟩
  have hR1 : RelC (w2 1) X := by rw [hw2 1 (by decide)]; exact hR
  refine e_aload0 dX2_deliverAll_4 ?_
  refine e_get0 flX2_10 dX2_deliverAll_5 rfl rfl ?_
  refine e_ldcI ckX2_113 dX2_deliverAll_8 ?_
  refine e_vI (M' := mX1_deliverFirst) fX1_deliverFirst lkX2_114 (ctI_K (b := 1) (by decide) (by decide) (w_deliverFirst (hK h (oC pi2 buf (nI (m_svC c)) sn len rd) w2 10) 1 (w2 1) X hR1 hJ (n0 := 1000000) (by decide))) rfl rfl dX2_deliverAll_10 (by rw [hK_at (by decide) (by decide)]; rfl) rfl (by decide) (Nat.le_of_ble_eq_true rfl) rfl ?_
  rintro _ _ ⟨rfl, w3, hR3, rfl⟩
  rw [(m_run_of hJ (n := 1000000) (by decide)).2]
  rw [(m_run_of hJ (n := 1000000) (by decide)).1] at hR3
  rw [hK_put (by decide) (by decide)]
  refine e_iret dX2_deliverAll_13 rfl ?_
  exact ⟨_, rfl, rfl, rfl, pi2, uw w2 1 w3, rfl, hR3, fun b hb hb1 => by simp only [uw]; rw [if_neg hb1]; exact hw2 b hb, relL_uw (by decide) hL2⟩
set_option maxRecDepth 20000 in
set_option maxHeartbeats 4000000 in
theorem v_lose (h : qB) (pi : Nat → Option qK) (buf : Nat → Int32) (c : Nat) (sn len : Int32) (rd : Nat → Int32) (w : Fin 16 → qw) (X : qm) (hR : RelC (w 1) X) (hJ : J X) (Sv : Nat → qm) (hc : c ≤ 6) (hL : RelL pi w c Sv) {p : Nat} (hp : p < X.1 0 4) : CtI mX2_lose 3 [qR 0 0, qI (nI p)] (hK h (oC pi buf (nI c) sn len rd) w 10) (fun r h2 => r = nI (X.1 12 p / 32) ∧ ∃ pi' w', h2 = hK h (oC pi' buf (nI (m_svC c)) sn len rd) w' 10 ∧ RelC (w' 1) (m_lose X p) ∧ (∀ b : Fin 16, b.val ≤ 4 → b ≠ 1 → w' b = w b) ∧ RelL pi' w' (m_svC c) (m_sv c Sv X)) := by
  refine ct_of (by decide +kernel) rfl rfl (Nat.le_of_ble_eq_true rfl) ?_
  show Ev mX2_lose 3 0 [some (qR 0 0), some (qI (nI p))] [] 124 (hK h (oC pi buf (nI c) sn len rd) w 10) 0 0 _ _
  refine e_aload0 dX2_lose_0 ?_
  refine e_iload1 dX2_lose_1 ?_
  refine e_vV (M' := mX2_requireMessage) fX2_requireMessage lkX2_107 (v_requireMessage h pi buf (nI c) sn len rd w X hR hJ (k := p) hp) rfl rfl dX2_lose_2 (by rw [hK_0]; rfl) rfl (by decide) (Nat.le_of_ble_eq_true rfl) rfl ?_
  rintro _ rfl
  refine e_aload0 dX2_lose_5 ?_
  refine e_vV (M' := mX2_save) fX2_save lkX2_75 (v_save h pi buf c sn len rd w X hR hJ Sv hc hL) rfl rfl dX2_lose_6 (by rw [hK_0]; rfl) rfl (by decide) (Nat.le_of_ble_eq_true rfl) rfl ?_
  rintro _ ⟨pi2, w2, rfl, hw2, hL2⟩
  have hR1 : RelC (w2 1) X := by rw [hw2 1 (by decide)]; exact hR
  refine e_aload0 dX2_lose_9 ?_
  refine e_get0 flX2_10 dX2_lose_10 rfl rfl ?_
  refine e_iload1 dX2_lose_13 ?_
  refine e_vI (M' := mX1_loseFrom) fX1_loseFrom lkX2_118 (ctI_K (b := 1) (by decide) (by decide) (w_loseFrom (hK h (oC pi2 buf (nI (m_svC c)) sn len rd) w2 10) 1 (w2 1) X hR1 (iV2 hJ.1) (p := p) hp (iV10 hJ.1 p hp).1)) rfl rfl dX2_lose_14 (by rw [hK_at (by decide) (by decide)]; rfl) rfl (by decide) (Nat.le_of_ble_eq_true rfl) rfl ?_
  rintro _ _ ⟨rfl, w3, hR3, rfl⟩
  rw [hK_put (by decide) (by decide)]
  refine e_iret dX2_lose_17 rfl ?_
  exact ⟨_, rfl, rfl, rfl, pi2, uw w2 1 w3, rfl, hR3, fun b hb hb1 => by simp only [uw]; rw [if_neg hb1]; exact hw2 b hb, relL_uw (by decide) hL2⟩
set_option maxRecDepth 20000 in
set_option maxHeartbeats 4000000 in
theorem v_crash (h : qB) (pi : Nat → Option qK) (buf : Nat → Int32) (c : Nat) (sn len : Int32) (rd : Nat → Int32) (w : Fin 16 → qw) (X : qm) (hR : RelC (w 1) X) (hJ : J X) (Sv : Nat → qm) (hc : c ≤ 6) (hL : RelL pi w c Sv) {k : Nat} (hk : k < 5) (hS : X.1 1 k = 1) : CtI mX2_crash 3 [qR 0 0, qI (nI k)] (hK h (oC pi buf (nI c) sn len rd) w 10) (fun r h2 => r = nI (m_bits5 (m_mask5 (m_crash X k))) ∧ ∃ pi' w', h2 = hK h (oC pi' buf (nI (m_svC c)) sn len rd) w' 10 ∧ RelC (w' 1) (m_crash X k) ∧ (∀ b : Fin 16, b.val ≤ 4 → b ≠ 1 → w' b = w b) ∧ RelL pi' w' (m_svC c) (m_sv c Sv X)) := by
  refine ct_of (by decide +kernel) rfl rfl (Nat.le_of_ble_eq_true rfl) ?_
  show Ev mX2_crash 3 0 [some (qR 0 0), some (qI (nI k))] [] 124 (hK h (oC pi buf (nI c) sn len rd) w 10) 0 0 _ _
  refine e_aload0 dX2_crash_0 ?_
  refine e_iload1 dX2_crash_1 ?_
  refine e_vV (M' := mX2_requireSite) fX2_requireSite lkX2_121 (v_requireSite h pi buf (nI c) sn len rd w (k := k) hk) rfl rfl dX2_crash_2 (by rw [hK_0]; rfl) rfl (by decide) (Nat.le_of_ble_eq_true rfl) rfl ?_
  rintro _ rfl
  refine e_aload0 dX2_crash_5 ?_
  refine e_get0 flX2_10 dX2_crash_6 rfl rfl ?_
  refine e_iload1 dX2_crash_9 ?_
  refine e_vI (M' := mX1_stands) fX1_stands lkX2_124 (ctI_K (b := 1) (by decide) (by decide) (w_stands (hK h (oC pi buf (nI c) sn len rd) w 10) 1 (w 1) X hR (iV3 hJ.1) (k := k) hk)) rfl rfl dX2_crash_10 (by rw [hK_at (by decide) (by decide)]; rfl) rfl (by decide) (Nat.le_of_ble_eq_true rfl) rfl ?_
  rintro _ _ ⟨rfl, rfl⟩
  rw [hK_self (by decide) (by decide)]
  have hB : decide (X.1 1 k = 1) = true := decide_eq_true hS
  rw [hB]
  refine e_if_neN 26 dX2_crash_13 (by decide) (by decide) (fun _ => ?_) (fun q => absurd q (by decide))
  refine e_aload0 dX2_crash_26 ?_
  refine e_vV (M' := mX2_save) fX2_save lkX2_75 (v_save h pi buf c sn len rd w X hR hJ Sv hc hL) rfl rfl dX2_crash_27 (by rw [hK_0]; rfl) rfl (by decide) (Nat.le_of_ble_eq_true rfl) rfl ?_
  rintro _ ⟨pi2, w2, rfl, hw2, hL2⟩
  have hR1 : RelC (w2 1) X := by rw [hw2 1 (by decide)]; exact hR
  refine e_aload0 dX2_crash_30 ?_
  refine e_get0 flX2_10 dX2_crash_31 rfl rfl ?_
  refine e_iload1 dX2_crash_34 ?_
  refine e_vV (M' := mX1_takeDown) fX1_takeDown lkX2_129 (ctV_K (b := 1) (by decide) (by decide) (w_takeDown (hK h (oC pi2 buf (nI (m_svC c)) sn len rd) w2 10) 1 (w2 1) X hR1 hJ (k := k) hk)) rfl rfl dX2_crash_35 (by rw [hK_at (by decide) (by decide)]; rfl) rfl (by decide) (Nat.le_of_ble_eq_true rfl) rfl ?_
  rintro _ ⟨w3, hR3, rfl⟩
  rw [hK_put (by decide) (by decide)]
  refine e_aload0 dX2_crash_38 ?_
  refine e_get0 flX2_10 dX2_crash_39 rfl rfl ?_
  refine e_getW flX2_132 dX2_crash_42 (by decide) (by decide) rfl rfl ?_
  rw [show uw w2 1 w3 1 8 0 = nI (m_mask5 (m_crash X k)) from rC8 hR3]
  refine e_sI (M' := mJ6_bitCount_0f7a4) fJ6_bitCount_0f7a4 lkX2_135 (w_bitCount _ (m := m_mask5 (m_crash X k)) (m_mask5_lt (iV3 (j_crash hJ k).1)).1) rfl rfl dX2_crash_45 (by decide) (Nat.le_of_ble_eq_true rfl) rfl ?_
  rintro _ _ ⟨rfl, rfl⟩
  refine e_iret dX2_crash_48 rfl ?_
  exact ⟨_, rfl, rfl, rfl, pi2, uw w2 1 w3, rfl, hR3, fun b hb hb1 => by simp only [uw]; rw [if_neg hb1]; exact hw2 b hb, relL_uw (by decide) hL2⟩
set_option maxRecDepth 20000 in
set_option maxHeartbeats 4000000 in
theorem v_recover (h : qB) (pi : Nat → Option qK) (buf : Nat → Int32) (c : Nat) (sn len : Int32) (rd : Nat → Int32) (w : Fin 16 → qw) (X : qm) (hR : RelC (w 1) X) (hJ : J X) (Sv : Nat → qm) (hc : c ≤ 6) (hL : RelL pi w c Sv) {k : Nat} (hk : k < 5) (hS : ¬ X.1 1 k = 1) : CtI mX2_recover 4 [qR 0 0, qI (nI k)] (hK h (oC pi buf (nI c) sn len rd) w 10) (fun r h2 => r = nI ((m_recover X k).1 0 4) ∧ ∃ pi' w', h2 = hK h (oC pi' buf (nI (m_svC c)) sn len rd) w' 10 ∧ RelC (w' 1) (m_recover X k) ∧ (∀ b : Fin 16, b.val ≤ 4 → b ≠ 1 → w' b = w b) ∧ RelL pi' w' (m_svC c) (m_sv c Sv X)) := by
  refine ct_of (by decide +kernel) rfl rfl (Nat.le_of_ble_eq_true rfl) ?_
  show Ev mX2_recover 4 0 [some (qR 0 0), some (qI (nI k))] [] 124 (hK h (oC pi buf (nI c) sn len rd) w 10) 0 0 _ _
  refine e_aload0 dX2_recover_0 ?_
  refine e_iload1 dX2_recover_1 ?_
  refine e_vV (M' := mX2_requireSite) fX2_requireSite lkX2_121 (v_requireSite h pi buf (nI c) sn len rd w (k := k) hk) rfl rfl dX2_recover_2 (by rw [hK_0]; rfl) rfl (by decide) (Nat.le_of_ble_eq_true rfl) rfl ?_
  rintro _ rfl
  refine e_aload0 dX2_recover_5 ?_
  refine e_get0 flX2_10 dX2_recover_6 rfl rfl ?_
  refine e_iload1 dX2_recover_9 ?_
  refine e_vI (M' := mX1_stands) fX1_stands lkX2_124 (ctI_K (b := 1) (by decide) (by decide) (w_stands (hK h (oC pi buf (nI c) sn len rd) w 10) 1 (w 1) X hR (iV3 hJ.1) (k := k) hk)) rfl rfl dX2_recover_10 (by rw [hK_at (by decide) (by decide)]; rfl) rfl (by decide) (Nat.le_of_ble_eq_true rfl) rfl ?_
  rintro _ _ ⟨rfl, rfl⟩
  rw [hK_self (by decide) (by decide)]
  have hB : decide (X.1 1 k = 1) = false := decide_eq_false hS
  rw [hB]
  refine e_if_eqN 26 dX2_recover_13 (by decide) (by decide) (fun _ => ?_) (fun q => absurd q (by decide))
  refine e_aload0 dX2_recover_26 ?_
  refine e_vV (M' := mX2_save) fX2_save lkX2_75 (v_save h pi buf c sn len rd w X hR hJ Sv hc hL) rfl rfl dX2_recover_27 (by rw [hK_0]; rfl) rfl (by decide) (Nat.le_of_ble_eq_true rfl) rfl ?_
  rintro _ ⟨pi2, w2, rfl, hw2, hL2⟩
  have hR1 : RelC (w2 1) X := by rw [hw2 1 (by decide)]; exact hR
  refine e_aload0 dX2_recover_30 ?_
  refine e_get0 flX2_10 dX2_recover_31 rfl rfl ?_
  refine e_iload1 dX2_recover_34 ?_
  refine e_vV (M' := mX1_bringUp) fX1_bringUp lkX2_142 (ctV_K (b := 1) (by decide) (by decide) (w_bringUp (hK h (oC pi2 buf (nI (m_svC c)) sn len rd) w2 10) 1 (w2 1) X hR1 hJ (k := k) hk)) rfl rfl dX2_recover_35 (by rw [hK_at (by decide) (by decide)]; rfl) rfl (by decide) (Nat.le_of_ble_eq_true rfl) rfl ?_
  rintro _ ⟨w3, hR3, rfl⟩
  rw [hK_put (by decide) (by decide)]
  refine e_aload0 dX2_recover_38 ?_
  refine e_get0 flX2_10 dX2_recover_39 rfl rfl ?_
  refine e_getW flX2_94 dX2_recover_42 (by decide) (by decide) rfl rfl ?_
  refine e_iret dX2_recover_45 rfl ?_
  exact ⟨_, rfl, rfl, rC14 hR3, pi2, uw w2 1 w3, rfl, hR3, fun b hb hb1 => by simp only [uw]; rw [if_neg hb1]; exact hw2 b hb, relL_uw (by decide) hL2⟩
