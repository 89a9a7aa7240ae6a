set_option maxRecDepth 20000 in
set_option maxHeartbeats 4000000 in
theorem p_giveUp (h : qB) {n : Nat} {A : qA} (hG : GA n A) {F : List qE} (hB : RB A F) {x : Int32} {code : Nat} {v : Int32} {A2 : qA} (hS : S_giveUp A x code v A2) : CtI mX3_giveUp 12 [qR 11 0, qI x] (q_put h 11 F) (fun r h2 => ∃ F', RBt A2 F' (nI code) ∧ (code = 0 → r = v) ∧ h2 = q_put h 11 F') := by
  obtain ⟨th, sf, asd, sts, snp, txt, rdd, pt, iw, rm, rfl, hR, hS2, hY, hT⟩ := hB
  have hJ := hG.1.1
  have hW := wk_J hJ
  have hT61 : (aX A).1 0 0 < 61 := Nat.lt_of_le_of_lt hW.1 (by decide)
  have hW61 : (aX A).1 0 4 < 61 := Nat.lt_of_le_of_lt hW.2.1 (by decide)
  have hT31 : (aX A).1 0 0 < 2 ^ 31 := Nat.lt_of_lt_of_le hT61 (by decide)
  have hW31 : (aX A).1 0 4 < 2 ^ 31 := Nat.lt_of_lt_of_le hW61 (by decide)
  rcases hS with ⟨c0, rfl, rfl⟩ | ⟨t, c0, rfl, c2, rfl, rfl⟩ | ⟨t, c0, rfl, c2, rfl, rfl, rfl⟩
  · refine ct_of (by decide +kernel) rfl rfl (Nat.le_of_ble_eq_true rfl) ?_
    show Ev mX3_giveUp 12 0 [some (qR 11 0), some (qI (x))] [] 132 (q_put h 11 (oR th sf asd sts snp txt rdd (nI (aC A)) (nI (aN A)) (nI (aL A)) pt iw rm)) 0 0 _ _
    refine e_aload0 dX3_giveUp_0 ?_
    refine e_iconst (z := 0) dX3_giveUp_1 ?_
    refine e_putfieldF flX3_28 dX3_giveUp_2 rfl (Nat.le_of_ble_eq_true rfl) (fun _ => rfl) (fun _ => rfl) ?_
    refine e_aload0 dX3_giveUp_5 ?_
    refine e_iload1 dX3_giveUp_6 ?_
    refine e_vIF (M' := mX3_isTransfer) fX3_isTransfer lkX3_123 (r_isTransfer h (nI 0) sf asd sts snp txt rdd (nI (aC A)) (nI (aN A)) (nI (aL A)) pt iw rm (aX A) hR hT61 (x)) rfl rfl dX3_giveUp_7 rfl rfl (by decide) (Nat.le_of_ble_eq_true rfl) rfl ?_
    rintro _ _ ⟨rfl, rfl⟩
    rw [c0]
    refine e_if_neN 19 dX3_giveUp_10 (by decide) (by first | omega | decide) (fun q => absurd rfl q) (fun hc10 => ?_)
    refine e_aload0 dX3_giveUp_13 ?_
    refine e_iconst (z := 1) dX3_giveUp_14 ?_
    refine e_vIF (M' := mX3_fails) fX3_fails lkX3_106 (r_fails h (nI 0) sf asd sts snp txt rdd (nI (aC A)) (nI (aN A)) (nI (aL A)) pt iw rm (x := nI 1)) rfl rfl dX3_giveUp_15 rfl rfl (by decide) (Nat.le_of_ble_eq_true rfl) rfl ?_
    rintro _ _ ⟨rfl, rfl⟩
    refine e_iret dX3_giveUp_18 rfl ?_
    exact ⟨_, rfl, rfl, _, ⟨sf, asd, sts, snp, txt, rdd, pt, iw, rm, rfl, hR, hS2, hY, hT⟩, fun q => absurd q (by decide), rfl⟩
  · refine ct_of (by decide +kernel) rfl rfl (Nat.le_of_ble_eq_true rfl) ?_
    show Ev mX3_giveUp 12 0 [some (qR 11 0), some (qI (nI t))] [] 132 (q_put h 11 (oR th sf asd sts snp txt rdd (nI (aC A)) (nI (aN A)) (nI (aL A)) pt iw rm)) 0 0 _ _
    refine e_aload0 dX3_giveUp_0 ?_
    refine e_iconst (z := 0) dX3_giveUp_1 ?_
    refine e_putfieldF flX3_28 dX3_giveUp_2 rfl (Nat.le_of_ble_eq_true rfl) (fun _ => rfl) (fun _ => rfl) ?_
    refine e_aload0 dX3_giveUp_5 ?_
    refine e_iload1 dX3_giveUp_6 ?_
    refine e_vIF (M' := mX3_isTransfer) fX3_isTransfer lkX3_123 (r_isTransfer h (nI 0) sf asd sts snp txt rdd (nI (aC A)) (nI (aN A)) (nI (aL A)) pt iw rm (aX A) hR hT61 (nI t)) rfl rfl dX3_giveUp_7 rfl rfl (by decide) (Nat.le_of_ble_eq_true rfl) rfl ?_
    rintro _ _ ⟨rfl, rfl⟩
    rw [i_in_nI c0 hT31]
    refine e_if_neN 19 dX3_giveUp_10 (by decide) (by first | omega | decide) (fun hc10 => ?_) (fun q => absurd q (by decide))
    refine e_aload0 dX3_giveUp_19 ?_
    refine e_iload1 dX3_giveUp_20 ?_
    refine e_vIF (M' := mX3_canGiveUp) fX3_canGiveUp lkX3_126 (r_canGiveUp h (nI 0) sf asd sts snp txt rdd (nI (aC A)) (nI (aN A)) (nI (aL A)) pt iw rm (aX A) hR hJ (t := t) (Nat.lt_of_lt_of_le c0 hW.1)) rfl rfl dX3_giveUp_21 rfl rfl (by decide) (Nat.le_of_ble_eq_true rfl) rfl ?_
    rintro _ _ ⟨rfl, rfl⟩
    rw [decide_eq_false c2]
    refine e_if_neN 33 dX3_giveUp_24 (by decide) (by first | omega | decide) (fun q => absurd rfl q) (fun hc24 => ?_)
    refine e_aload0 dX3_giveUp_27 ?_
    refine e_iconst (z := 2) dX3_giveUp_28 ?_
    refine e_vIF (M' := mX3_fails) fX3_fails lkX3_106 (r_fails h (nI 0) sf asd sts snp txt rdd (nI (aC A)) (nI (aN A)) (nI (aL A)) pt iw rm (x := nI 2)) rfl rfl dX3_giveUp_29 rfl rfl (by decide) (Nat.le_of_ble_eq_true rfl) rfl ?_
    rintro _ _ ⟨rfl, rfl⟩
    refine e_iret dX3_giveUp_32 rfl ?_
    exact ⟨_, rfl, rfl, _, ⟨sf, asd, sts, snp, txt, rdd, pt, iw, rm, rfl, hR, hS2, hY, hT⟩, fun q => absurd q (by decide), rfl⟩
  · refine ct_of (by decide +kernel) rfl rfl (Nat.le_of_ble_eq_true rfl) ?_
    show Ev mX3_giveUp 12 0 [some (qR 11 0), some (qI (nI t))] [] 132 (q_put h 11 (oR th sf asd sts snp txt rdd (nI (aC A)) (nI (aN A)) (nI (aL A)) pt iw rm)) 0 0 _ _
    refine e_aload0 dX3_giveUp_0 ?_
    refine e_iconst (z := 0) dX3_giveUp_1 ?_
    refine e_putfieldF flX3_28 dX3_giveUp_2 rfl (Nat.le_of_ble_eq_true rfl) (fun _ => rfl) (fun _ => rfl) ?_
    refine e_aload0 dX3_giveUp_5 ?_
    refine e_iload1 dX3_giveUp_6 ?_
    refine e_vIF (M' := mX3_isTransfer) fX3_isTransfer lkX3_123 (r_isTransfer h (nI 0) sf asd sts snp txt rdd (nI (aC A)) (nI (aN A)) (nI (aL A)) pt iw rm (aX A) hR hT61 (nI t)) rfl rfl dX3_giveUp_7 rfl rfl (by decide) (Nat.le_of_ble_eq_true rfl) rfl ?_
    rintro _ _ ⟨rfl, rfl⟩
    rw [i_in_nI c0 hT31]
    refine e_if_neN 19 dX3_giveUp_10 (by decide) (by first | omega | decide) (fun hc10 => ?_) (fun q => absurd q (by decide))
    refine e_aload0 dX3_giveUp_19 ?_
    refine e_iload1 dX3_giveUp_20 ?_
    refine e_vIF (M' := mX3_canGiveUp) fX3_canGiveUp lkX3_126 (r_canGiveUp h (nI 0) sf asd sts snp txt rdd (nI (aC A)) (nI (aN A)) (nI (aL A)) pt iw rm (aX A) hR hJ (t := t) (Nat.lt_of_lt_of_le c0 hW.1)) rfl rfl dX3_giveUp_21 rfl rfl (by decide) (Nat.le_of_ble_eq_true rfl) rfl ?_
    rintro _ _ ⟨rfl, rfl⟩
    rw [decide_eq_true c2]
    refine e_if_neN 33 dX3_giveUp_24 (by decide) (by first | omega | decide) (fun hc24 => ?_) (fun q => absurd q (by decide))
    refine e_aload0 dX3_giveUp_33 ?_
    refine e_vVF (M' := mX3_recordsState) fX3_recordsState lkX3_116 (r_recordsState h (nI 0) sf asd sts snp txt rdd (nI (aN A)) (nI (aL A)) pt iw rm (aX A) hR hJ (aC A) hG.2.1 (aS A) hS2) rfl rfl dX3_giveUp_34 rfl rfl (by decide) (Nat.le_of_ble_eq_true rfl) rfl ?_
    rintro _ ⟨s2, hS3, rfl⟩
    refine e_aload0 dX3_giveUp_37 ?_
    refine e_iload1 dX3_giveUp_38 ?_
    refine e_iconst (z := 2) dX3_giveUp_39 ?_
    refine e_vVF (M' := mX3_decides) fX3_decides lkX3_81 (r_decides h (nI 0) sf asd s2 snp txt rdd (nI (m_svC (aC A))) (nI (aN A)) (nI (aL A)) pt iw rm (aX A) hR hW (t := t) (oc := 2) (Nat.lt_of_lt_of_le c0 hW.1) (j_len7 hJ c0 c2.2)) rfl rfl dX3_giveUp_40 rfl rfl (by decide) (Nat.le_of_ble_eq_true rfl) rfl ?_
    rintro _ ⟨sf3, hR3, rfl⟩
    refine e_aload0 dX3_giveUp_43 ?_
    refine e_getfieldF flX3_7 dX3_giveUp_44 rfl rfl ?_
    refine e_bipush (v := nI 13) dX3_giveUp_47 (by decide) ?_
    refine e_ialoadN dX3_giveUp_49 rfl (by omega) (by decide) ?_
    rw [show sf3 13 = _ from rR6 hR3]
    refine e_iret dX3_giveUp_50 rfl ?_
    exact ⟨_, rfl, rfl, _, ⟨sf3, asd, s2, snp, txt, rdd, pt, iw, rm, rfl, hR3, hS3, hY, hT⟩, fun _ => rfl, rfl⟩
set_option maxRecDepth 20000 in
set_option maxHeartbeats 4000000 in
theorem p_ask (h : qB) {n : Nat} {A : qA} (hG : GA n A) {F : List qE} (hB : RB A F) {x y : Int32} {code : Nat} {v : Int32} {A2 : qA} (hS : S_ask A x y code v A2) : CtI mX3_ask 12 [qR 11 0, qI x, qI y] (q_put h 11 F) (fun r h2 => ∃ F', RBt A2 F' (nI code) ∧ (code = 0 → r = v) ∧ h2 = q_put h 11 F') := by
  obtain ⟨th, sf, asd, sts, snp, txt, rdd, pt, iw, rm, rfl, hR, hS2, hY, hT⟩ := hB
  have hJ := hG.1.1
  have hW := wk_J hJ
  have hT61 : (aX A).1 0 0 < 61 := Nat.lt_of_le_of_lt hW.1 (by decide)
  have hW61 : (aX A).1 0 4 < 61 := Nat.lt_of_le_of_lt hW.2.1 (by decide)
  have hT31 : (aX A).1 0 0 < 2 ^ 31 := Nat.lt_of_lt_of_le hT61 (by decide)
  have hW31 : (aX A).1 0 4 < 2 ^ 31 := Nat.lt_of_lt_of_le hW61 (by decide)
  rcases hS with ⟨c0, rfl, rfl⟩ | ⟨s, c0, rfl, c2, rfl, rfl⟩ | ⟨s, t, c0, rfl, c2, rfl, c4, rfl, rfl⟩ | ⟨s, t, c0, rfl, c2, rfl, c4, rfl, rfl, rfl⟩
  · refine ct_of (by decide +kernel) rfl rfl (Nat.le_of_ble_eq_true rfl) ?_
    show Ev mX3_ask 12 0 [some (qR 11 0), some (qI (x)), some (qI (y))] [] 132 (q_put h 11 (oR th sf asd sts snp txt rdd (nI (aC A)) (nI (aN A)) (nI (aL A)) pt iw rm)) 0 0 _ _
    refine e_aload0 dX3_ask_0 ?_
    refine e_iconst (z := 0) dX3_ask_1 ?_
    refine e_putfieldF flX3_28 dX3_ask_2 rfl (Nat.le_of_ble_eq_true rfl) (fun _ => rfl) (fun _ => rfl) ?_
    refine e_iload1 dX3_ask_5 ?_
    refine e_sI (M' := mX3_isStore) fX3_isStore lkX3_103 (r_isStore _ (x)) rfl rfl dX3_ask_6 (by decide) (Nat.le_of_ble_eq_true rfl) rfl ?_
    rintro _ _ ⟨rfl, rfl⟩
    rw [c0]
    refine e_if_eqN 20 dX3_ask_9 (by decide) (by first | omega | decide) (fun hc9 => ?_) (fun q => absurd rfl q)
    refine e_aload0 dX3_ask_20 ?_
    refine e_iconst (z := 1) dX3_ask_21 ?_
    refine e_vIF (M' := mX3_fails) fX3_fails lkX3_106 (r_fails h (nI 0) sf asd sts snp txt rdd (nI (aC A)) (nI (aN A)) (nI (aL A)) pt iw rm (x := nI 1)) rfl rfl dX3_ask_22 rfl rfl (by decide) (Nat.le_of_ble_eq_true rfl) rfl ?_
    rintro _ _ ⟨rfl, rfl⟩
    refine e_iret dX3_ask_25 rfl ?_
    exact ⟨_, rfl, rfl, _, ⟨sf, asd, sts, snp, txt, rdd, pt, iw, rm, rfl, hR, hS2, hY, hT⟩, fun q => absurd q (by decide), rfl⟩
  · refine ct_of (by decide +kernel) rfl rfl (Nat.le_of_ble_eq_true rfl) ?_
    show Ev mX3_ask 12 0 [some (qR 11 0), some (qI (nI s)), some (qI (y))] [] 132 (q_put h 11 (oR th sf asd sts snp txt rdd (nI (aC A)) (nI (aN A)) (nI (aL A)) pt iw rm)) 0 0 _ _
    refine e_aload0 dX3_ask_0 ?_
    refine e_iconst (z := 0) dX3_ask_1 ?_
    refine e_putfieldF flX3_28 dX3_ask_2 rfl (Nat.le_of_ble_eq_true rfl) (fun _ => rfl) (fun _ => rfl) ?_
    refine e_iload1 dX3_ask_5 ?_
    refine e_sI (M' := mX3_isStore) fX3_isStore lkX3_103 (r_isStore _ (nI s)) rfl rfl dX3_ask_6 (by decide) (Nat.le_of_ble_eq_true rfl) rfl ?_
    rintro _ _ ⟨rfl, rfl⟩
    rw [i_in_nI c0 (by decide)]
    refine e_if_eqN 20 dX3_ask_9 (by decide) (by first | omega | decide) (fun q => absurd q (by decide)) (fun hc9 => ?_)
    refine e_aload0 dX3_ask_12 ?_
    refine e_iload2 dX3_ask_13 ?_
    refine e_vIF (M' := mX3_isTransfer) fX3_isTransfer lkX3_123 (r_isTransfer h (nI 0) sf asd sts snp txt rdd (nI (aC A)) (nI (aN A)) (nI (aL A)) pt iw rm (aX A) hR hT61 (y)) rfl rfl dX3_ask_14 rfl rfl (by decide) (Nat.le_of_ble_eq_true rfl) rfl ?_
    rintro _ _ ⟨rfl, rfl⟩
    rw [c2]
    refine e_if_neN 26 dX3_ask_17 (by decide) (by first | omega | decide) (fun q => absurd rfl q) (fun hc17 => ?_)
    refine e_aload0 dX3_ask_20 ?_
    refine e_iconst (z := 1) dX3_ask_21 ?_
    refine e_vIF (M' := mX3_fails) fX3_fails lkX3_106 (r_fails h (nI 0) sf asd sts snp txt rdd (nI (aC A)) (nI (aN A)) (nI (aL A)) pt iw rm (x := nI 1)) rfl rfl dX3_ask_22 rfl rfl (by decide) (Nat.le_of_ble_eq_true rfl) rfl ?_
    rintro _ _ ⟨rfl, rfl⟩
    refine e_iret dX3_ask_25 rfl ?_
    exact ⟨_, rfl, rfl, _, ⟨sf, asd, sts, snp, txt, rdd, pt, iw, rm, rfl, hR, hS2, hY, hT⟩, fun q => absurd q (by decide), rfl⟩
  · refine ct_of (by decide +kernel) rfl rfl (Nat.le_of_ble_eq_true rfl) ?_
    show Ev mX3_ask 12 0 [some (qR 11 0), some (qI (nI s)), some (qI (nI t))] [] 132 (q_put h 11 (oR th sf asd sts snp txt rdd (nI (aC A)) (nI (aN A)) (nI (aL A)) pt iw rm)) 0 0 _ _
    refine e_aload0 dX3_ask_0 ?_
    refine e_iconst (z := 0) dX3_ask_1 ?_
    refine e_putfieldF flX3_28 dX3_ask_2 rfl (Nat.le_of_ble_eq_true rfl) (fun _ => rfl) (fun _ => rfl) ?_
    refine e_iload1 dX3_ask_5 ?_
    refine e_sI (M' := mX3_isStore) fX3_isStore lkX3_103 (r_isStore _ (nI s)) rfl rfl dX3_ask_6 (by decide) (Nat.le_of_ble_eq_true rfl) rfl ?_
    rintro _ _ ⟨rfl, rfl⟩
    rw [i_in_nI c0 (by decide)]
    refine e_if_eqN 20 dX3_ask_9 (by decide) (by first | omega | decide) (fun q => absurd q (by decide)) (fun hc9 => ?_)
    refine e_aload0 dX3_ask_12 ?_
    refine e_iload2 dX3_ask_13 ?_
    refine e_vIF (M' := mX3_isTransfer) fX3_isTransfer lkX3_123 (r_isTransfer h (nI 0) sf asd sts snp txt rdd (nI (aC A)) (nI (aN A)) (nI (aL A)) pt iw rm (aX A) hR hT61 (nI t)) rfl rfl dX3_ask_14 rfl rfl (by decide) (Nat.le_of_ble_eq_true rfl) rfl ?_
    rintro _ _ ⟨rfl, rfl⟩
    rw [i_in_nI c2 hT31]
    refine e_if_neN 26 dX3_ask_17 (by decide) (by first | omega | decide) (fun hc17 => ?_) (fun q => absurd q (by decide))
    refine e_aload0 dX3_ask_26 ?_
    refine e_iload1 dX3_ask_27 ?_
    refine e_iload2 dX3_ask_28 ?_
    refine e_vIF (M' := mX3_canAsk) fX3_canAsk lkX3_129 (r_canAsk h (nI 0) sf asd sts snp txt rdd (nI (aC A)) (nI (aN A)) (nI (aL A)) pt iw rm (aX A) hR hJ (s := s) (t := t) c0 (Nat.lt_of_lt_of_le c2 hW.1)) rfl rfl dX3_ask_29 rfl rfl (by decide) (Nat.le_of_ble_eq_true rfl) rfl ?_
    rintro _ _ ⟨rfl, rfl⟩
    rw [decide_eq_false c4]
    refine e_if_neN 41 dX3_ask_32 (by decide) (by first | omega | decide) (fun q => absurd rfl q) (fun hc32 => ?_)
    refine e_aload0 dX3_ask_35 ?_
    refine e_iconst (z := 2) dX3_ask_36 ?_
    refine e_vIF (M' := mX3_fails) fX3_fails lkX3_106 (r_fails h (nI 0) sf asd sts snp txt rdd (nI (aC A)) (nI (aN A)) (nI (aL A)) pt iw rm (x := nI 2)) rfl rfl dX3_ask_37 rfl rfl (by decide) (Nat.le_of_ble_eq_true rfl) rfl ?_
    rintro _ _ ⟨rfl, rfl⟩
    refine e_iret dX3_ask_40 rfl ?_
    exact ⟨_, rfl, rfl, _, ⟨sf, asd, sts, snp, txt, rdd, pt, iw, rm, rfl, hR, hS2, hY, hT⟩, fun q => absurd q (by decide), rfl⟩
  · refine ct_of (by decide +kernel) rfl rfl (Nat.le_of_ble_eq_true rfl) ?_
    show Ev mX3_ask 12 0 [some (qR 11 0), some (qI (nI s)), some (qI (nI t))] [] 132 (q_put h 11 (oR th sf asd sts snp txt rdd (nI (aC A)) (nI (aN A)) (nI (aL A)) pt iw rm)) 0 0 _ _
    refine e_aload0 dX3_ask_0 ?_
    refine e_iconst (z := 0) dX3_ask_1 ?_
    refine e_putfieldF flX3_28 dX3_ask_2 rfl (Nat.le_of_ble_eq_true rfl) (fun _ => rfl) (fun _ => rfl) ?_
    refine e_iload1 dX3_ask_5 ?_
    refine e_sI (M' := mX3_isStore) fX3_isStore lkX3_103 (r_isStore _ (nI s)) rfl rfl dX3_ask_6 (by decide) (Nat.le_of_ble_eq_true rfl) rfl ?_
    rintro _ _ ⟨rfl, rfl⟩
    rw [i_in_nI c0 (by decide)]
    refine e_if_eqN 20 dX3_ask_9 (by decide) (by first | omega | decide) (fun q => absurd q (by decide)) (fun hc9 => ?_)
    refine e_aload0 dX3_ask_12 ?_
    refine e_iload2 dX3_ask_13 ?_
    refine e_vIF (M' := mX3_isTransfer) fX3_isTransfer lkX3_123 (r_isTransfer h (nI 0) sf asd sts snp txt rdd (nI (aC A)) (nI (aN A)) (nI (aL A)) pt iw rm (aX A) hR hT61 (nI t)) rfl rfl dX3_ask_14 rfl rfl (by decide) (Nat.le_of_ble_eq_true rfl) rfl ?_
    rintro _ _ ⟨rfl, rfl⟩
    rw [i_in_nI c2 hT31]
    refine e_if_neN 26 dX3_ask_17 (by decide) (by first | omega | decide) (fun hc17 => ?_) (fun q => absurd q (by decide))
    refine e_aload0 dX3_ask_26 ?_
    refine e_iload1 dX3_ask_27 ?_
    refine e_iload2 dX3_ask_28 ?_
    refine e_vIF (M' := mX3_canAsk) fX3_canAsk lkX3_129 (r_canAsk h (nI 0) sf asd sts snp txt rdd (nI (aC A)) (nI (aN A)) (nI (aL A)) pt iw rm (aX A) hR hJ (s := s) (t := t) c0 (Nat.lt_of_lt_of_le c2 hW.1)) rfl rfl dX3_ask_29 rfl rfl (by decide) (Nat.le_of_ble_eq_true rfl) rfl ?_
    rintro _ _ ⟨rfl, rfl⟩
    rw [decide_eq_true c4]
    refine e_if_neN 41 dX3_ask_32 (by decide) (by first | omega | decide) (fun hc32 => ?_) (fun q => absurd q (by decide))
    refine e_aload0 dX3_ask_41 ?_
    refine e_vVF (M' := mX3_recordsState) fX3_recordsState lkX3_116 (r_recordsState h (nI 0) sf asd sts snp txt rdd (nI (aN A)) (nI (aL A)) pt iw rm (aX A) hR hJ (aC A) hG.2.1 (aS A) hS2) rfl rfl dX3_ask_42 rfl rfl (by decide) (Nat.le_of_ble_eq_true rfl) rfl ?_
    rintro _ ⟨s2, hS3, rfl⟩
    refine e_aload0 dX3_ask_45 ?_
    refine e_bipush (v := nI 6) dX3_ask_46 (by decide) ?_
    refine e_iload2 dX3_ask_48 ?_
    refine e_iload1 dX3_ask_49 ?_
    refine e_vVF (M' := mX3_sends) fX3_sends lkX3_60 (r_sends h (nI 0) sf asd s2 snp txt rdd (nI (m_svC (aC A))) (nI (aN A)) (nI (aL A)) pt iw rm (aX A) hR hW (kd := 6) (t := t) (s := s)) rfl rfl dX3_ask_50 rfl rfl (by decide) (Nat.le_of_ble_eq_true rfl) rfl ?_
    rintro _ ⟨sf3, hR3, rfl⟩
    refine e_aload0 dX3_ask_53 ?_
    refine e_getfieldF flX3_7 dX3_ask_54 rfl rfl ?_
    refine e_bipush (v := nI 13) dX3_ask_57 (by decide) ?_
    refine e_ialoadN dX3_ask_59 rfl (by omega) (by decide) ?_
    rw [show sf3 13 = _ from rR6 hR3]
    refine e_iret dX3_ask_60 rfl ?_
    exact ⟨_, rfl, rfl, _, ⟨sf3, asd, s2, snp, txt, rdd, pt, iw, rm, rfl, hR3, hS3, hY, hT⟩, fun _ => rfl, rfl⟩
set_option maxRecDepth 20000 in
set_option maxHeartbeats 4000000 in
theorem p_crash (h : qB) {n : Nat} {A : qA} (hG : GA n A) {F : List qE} (hB : RB A F) {x : Int32} {code : Nat} {v : Int32} {A2 : qA} (hS : S_crash A x code v A2) : CtI mX3_crash 12 [qR 11 0, qI x] (q_put h 11 F) (fun r h2 => ∃ F', RBt A2 F' (nI code) ∧ (code = 0 → r = v) ∧ h2 = q_put h 11 F') := by
  obtain ⟨th, sf, asd, sts, snp, txt, rdd, pt, iw, rm, rfl, hR, hS2, hY, hT⟩ := hB
  have hJ := hG.1.1
  have hW := wk_J hJ
  have hT61 : (aX A).1 0 0 < 61 := Nat.lt_of_le_of_lt hW.1 (by decide)
  have hW61 : (aX A).1 0 4 < 61 := Nat.lt_of_le_of_lt hW.2.1 (by decide)
  have hT31 : (aX A).1 0 0 < 2 ^ 31 := Nat.lt_of_lt_of_le hT61 (by decide)
  have hW31 : (aX A).1 0 4 < 2 ^ 31 := Nat.lt_of_lt_of_le hW61 (by decide)
  rcases hS with ⟨c0, rfl, rfl⟩ | ⟨k, c0, rfl, c2, rfl, rfl⟩ | ⟨k, c0, rfl, c2, rfl, rfl, rfl⟩
  · refine ct_of (by decide +kernel) rfl rfl (Nat.le_of_ble_eq_true rfl) ?_
    show Ev mX3_crash 12 0 [some (qR 11 0), some (qI (x))] [] 132 (q_put h 11 (oR th sf asd sts snp txt rdd (nI (aC A)) (nI (aN A)) (nI (aL A)) pt iw rm)) 0 0 _ _
    refine e_aload0 dX3_crash_0 ?_
    refine e_iconst (z := 0) dX3_crash_1 ?_
    refine e_putfieldF flX3_28 dX3_crash_2 rfl (Nat.le_of_ble_eq_true rfl) (fun _ => rfl) (fun _ => rfl) ?_
    refine e_iload1 dX3_crash_5 ?_
    refine e_sI (M' := mX3_isSite) fX3_isSite lkX3_146 (r_isSite _ (x)) rfl rfl dX3_crash_6 (by decide) (Nat.le_of_ble_eq_true rfl) rfl ?_
    rintro _ _ ⟨rfl, rfl⟩
    rw [c0]
    refine e_if_neN 18 dX3_crash_9 (by decide) (by first | omega | decide) (fun q => absurd rfl q) (fun hc9 => ?_)
    refine e_aload0 dX3_crash_12 ?_
    refine e_iconst (z := 1) dX3_crash_13 ?_
    refine e_vIF (M' := mX3_fails) fX3_fails lkX3_106 (r_fails h (nI 0) sf asd sts snp txt rdd (nI (aC A)) (nI (aN A)) (nI (aL A)) pt iw rm (x := nI 1)) rfl rfl dX3_crash_14 rfl rfl (by decide) (Nat.le_of_ble_eq_true rfl) rfl ?_
    rintro _ _ ⟨rfl, rfl⟩
    refine e_iret dX3_crash_17 rfl ?_
    exact ⟨_, rfl, rfl, _, ⟨sf, asd, sts, snp, txt, rdd, pt, iw, rm, rfl, hR, hS2, hY, hT⟩, fun q => absurd q (by decide), rfl⟩
  · refine ct_of (by decide +kernel) rfl rfl (Nat.le_of_ble_eq_true rfl) ?_
    show Ev mX3_crash 12 0 [some (qR 11 0), some (qI (nI k))] [] 132 (q_put h 11 (oR th sf asd sts snp txt rdd (nI (aC A)) (nI (aN A)) (nI (aL A)) pt iw rm)) 0 0 _ _
    refine e_aload0 dX3_crash_0 ?_
    refine e_iconst (z := 0) dX3_crash_1 ?_
    refine e_putfieldF flX3_28 dX3_crash_2 rfl (Nat.le_of_ble_eq_true rfl) (fun _ => rfl) (fun _ => rfl) ?_
    refine e_iload1 dX3_crash_5 ?_
    refine e_sI (M' := mX3_isSite) fX3_isSite lkX3_146 (r_isSite _ (nI k)) rfl rfl dX3_crash_6 (by decide) (Nat.le_of_ble_eq_true rfl) rfl ?_
    rintro _ _ ⟨rfl, rfl⟩
    rw [i_in_nI c0 (by decide)]
    refine e_if_neN 18 dX3_crash_9 (by decide) (by first | omega | decide) (fun hc9 => ?_) (fun q => absurd q (by decide))
    refine e_aload0 dX3_crash_18 ?_
    refine e_getfieldF flX3_7 dX3_crash_19 rfl rfl ?_
    refine e_iconst (z := 0) dX3_crash_22 ?_
    refine e_iload1 dX3_crash_23 ?_
    first | refine e_iaddN dX3_crash_24 ?_ | refine e_iadd dX3_crash_24 ?_
    refine e_ialoadN dX3_crash_25 rfl (by omega) (by decide) ?_
    rw [Nat.zero_add k, rR0 hR k c0]
    have hu := iV3 hJ.1 k c0
    refine e_if_neN 35 dX3_crash_26 (by decide) (by first | omega | decide) (fun q => absurd q (by omega)) (fun hc26 => ?_)
    refine e_aload0 dX3_crash_29 ?_
    refine e_iconst (z := 2) dX3_crash_30 ?_
    refine e_vIF (M' := mX3_fails) fX3_fails lkX3_106 (r_fails h (nI 0) sf asd sts snp txt rdd (nI (aC A)) (nI (aN A)) (nI (aL A)) pt iw rm (x := nI 2)) rfl rfl dX3_crash_31 rfl rfl (by decide) (Nat.le_of_ble_eq_true rfl) rfl ?_
    rintro _ _ ⟨rfl, rfl⟩
    refine e_iret dX3_crash_34 rfl ?_
    exact ⟨_, rfl, rfl, _, ⟨sf, asd, sts, snp, txt, rdd, pt, iw, rm, rfl, hR, hS2, hY, hT⟩, fun q => absurd q (by decide), rfl⟩
  · refine ct_of (by decide +kernel) rfl rfl (Nat.le_of_ble_eq_true rfl) ?_
    show Ev mX3_crash 12 0 [some (qR 11 0), some (qI (nI k))] [] 132 (q_put h 11 (oR th sf asd sts snp txt rdd (nI (aC A)) (nI (aN A)) (nI (aL A)) pt iw rm)) 0 0 _ _
    refine e_aload0 dX3_crash_0 ?_
    refine e_iconst (z := 0) dX3_crash_1 ?_
    refine e_putfieldF flX3_28 dX3_crash_2 rfl (Nat.le_of_ble_eq_true rfl) (fun _ => rfl) (fun _ => rfl) ?_
    refine e_iload1 dX3_crash_5 ?_
    refine e_sI (M' := mX3_isSite) fX3_isSite lkX3_146 (r_isSite _ (nI k)) rfl rfl dX3_crash_6 (by decide) (Nat.le_of_ble_eq_true rfl) rfl ?_
    rintro _ _ ⟨rfl, rfl⟩
    rw [i_in_nI c0 (by decide)]
    refine e_if_neN 18 dX3_crash_9 (by decide) (by first | omega | decide) (fun hc9 => ?_) (fun q => absurd q (by decide))
    refine e_aload0 dX3_crash_18 ?_
    refine e_getfieldF flX3_7 dX3_crash_19 rfl rfl ?_
    refine e_iconst (z := 0) dX3_crash_22 ?_
    refine e_iload1 dX3_crash_23 ?_
    first | refine e_iaddN dX3_crash_24 ?_ | refine e_iadd dX3_crash_24 ?_
    refine e_ialoadN dX3_crash_25 rfl (by omega) (by decide) ?_
    rw [Nat.zero_add k, rR0 hR k c0]
    have hu := iV3 hJ.1 k c0
    refine e_if_neN 35 dX3_crash_26 (by decide) (by first | omega | decide) (fun hc26 => ?_) (fun q => absurd q (by omega))
    refine e_aload0 dX3_crash_35 ?_
    refine e_vVF (M' := mX3_recordsState) fX3_recordsState lkX3_116 (r_recordsState h (nI 0) sf asd sts snp txt rdd (nI (aN A)) (nI (aL A)) pt iw rm (aX A) hR hJ (aC A) hG.2.1 (aS A) hS2) rfl rfl dX3_crash_36 rfl rfl (by decide) (Nat.le_of_ble_eq_true rfl) rfl ?_
    rintro _ ⟨s2, hS3, rfl⟩
    refine e_aload0 dX3_crash_39 ?_
    refine e_iload1 dX3_crash_40 ?_
    refine e_vIF (M' := mX3_crashes) fX3_crashes lkX3_149 (r_crashes h (nI 0) sf asd s2 snp txt rdd (nI (m_svC (aC A))) (nI (aN A)) (nI (aL A)) pt iw rm (aX A) hR hJ (k := k) c0) rfl rfl dX3_crash_41 rfl rfl (by decide) (Nat.le_of_ble_eq_true rfl) rfl ?_
    rintro _ _ ⟨rfl, sf3, hR3, rfl⟩
    refine e_iret dX3_crash_44 rfl ?_
    exact ⟨_, rfl, rfl, _, ⟨sf3, asd, s2, snp, txt, rdd, pt, iw, rm, rfl, hR3, hS3, hY, hT⟩, fun _ => rfl, rfl⟩
set_option maxRecDepth 20000 in
set_option maxHeartbeats 4000000 in
theorem p_recover (h : qB) {n : Nat} {A : qA} (hG : GA n A) {F : List qE} (hB : RB A F) {x : Int32} {code : Nat} {v : Int32} {A2 : qA} (hS : S_recover A x code v A2) : CtI mX3_recover 12 [qR 11 0, qI x] (q_put h 11 F) (fun r h2 => ∃ F', RBt A2 F' (nI code) ∧ (code = 0 → r = v) ∧ h2 = q_put h 11 F') := by
  obtain ⟨th, sf, asd, sts, snp, txt, rdd, pt, iw, rm, rfl, hR, hS2, hY, hT⟩ := hB
  have hJ := hG.1.1
  have hW := wk_J hJ
  have hT61 : (aX A).1 0 0 < 61 := Nat.lt_of_le_of_lt hW.1 (by decide)
  have hW61 : (aX A).1 0 4 < 61 := Nat.lt_of_le_of_lt hW.2.1 (by decide)
  have hT31 : (aX A).1 0 0 < 2 ^ 31 := Nat.lt_of_lt_of_le hT61 (by decide)
  have hW31 : (aX A).1 0 4 < 2 ^ 31 := Nat.lt_of_lt_of_le hW61 (by decide)
  rcases hS with ⟨c0, rfl, rfl⟩ | ⟨k, c0, rfl, c2, rfl, rfl⟩ | ⟨k, c0, rfl, c2, rfl, rfl, rfl⟩
  · refine ct_of (by decide +kernel) rfl rfl (Nat.le_of_ble_eq_true rfl) ?_
    show Ev mX3_recover 12 0 [some (qR 11 0), some (qI (x))] [] 132 (q_put h 11 (oR th sf asd sts snp txt rdd (nI (aC A)) (nI (aN A)) (nI (aL A)) pt iw rm)) 0 0 _ _
    refine e_aload0 dX3_recover_0 ?_
    refine e_iconst (z := 0) dX3_recover_1 ?_
    refine e_putfieldF flX3_28 dX3_recover_2 rfl (Nat.le_of_ble_eq_true rfl) (fun _ => rfl) (fun _ => rfl) ?_
    refine e_iload1 dX3_recover_5 ?_
    refine e_sI (M' := mX3_isSite) fX3_isSite lkX3_146 (r_isSite _ (x)) rfl rfl dX3_recover_6 (by decide) (Nat.le_of_ble_eq_true rfl) rfl ?_
    rintro _ _ ⟨rfl, rfl⟩
    rw [c0]
    refine e_if_neN 18 dX3_recover_9 (by decide) (by first | omega | decide) (fun q => absurd rfl q) (fun hc9 => ?_)
    refine e_aload0 dX3_recover_12 ?_
    refine e_iconst (z := 1) dX3_recover_13 ?_
    refine e_vIF (M' := mX3_fails) fX3_fails lkX3_106 (r_fails h (nI 0) sf asd sts snp txt rdd (nI (aC A)) (nI (aN A)) (nI (aL A)) pt iw rm (x := nI 1)) rfl rfl dX3_recover_14 rfl rfl (by decide) (Nat.le_of_ble_eq_true rfl) rfl ?_
    rintro _ _ ⟨rfl, rfl⟩
    refine e_iret dX3_recover_17 rfl ?_
    exact ⟨_, rfl, rfl, _, ⟨sf, asd, sts, snp, txt, rdd, pt, iw, rm, rfl, hR, hS2, hY, hT⟩, fun q => absurd q (by decide), rfl⟩
  · refine ct_of (by decide +kernel) rfl rfl (Nat.le_of_ble_eq_true rfl) ?_
    show Ev mX3_recover 12 0 [some (qR 11 0), some (qI (nI k))] [] 132 (q_put h 11 (oR th sf asd sts snp txt rdd (nI (aC A)) (nI (aN A)) (nI (aL A)) pt iw rm)) 0 0 _ _
    refine e_aload0 dX3_recover_0 ?_
    refine e_iconst (z := 0) dX3_recover_1 ?_
    refine e_putfieldF flX3_28 dX3_recover_2 rfl (Nat.le_of_ble_eq_true rfl) (fun _ => rfl) (fun _ => rfl) ?_
    refine e_iload1 dX3_recover_5 ?_
    refine e_sI (M' := mX3_isSite) fX3_isSite lkX3_146 (r_isSite _ (nI k)) rfl rfl dX3_recover_6 (by decide) (Nat.le_of_ble_eq_true rfl) rfl ?_
    rintro _ _ ⟨rfl, rfl⟩
    rw [i_in_nI c0 (by decide)]
    refine e_if_neN 18 dX3_recover_9 (by decide) (by first | omega | decide) (fun hc9 => ?_) (fun q => absurd q (by decide))
    refine e_aload0 dX3_recover_18 ?_
    refine e_getfieldF flX3_7 dX3_recover_19 rfl rfl ?_
    refine e_iconst (z := 0) dX3_recover_22 ?_
    refine e_iload1 dX3_recover_23 ?_
    first | refine e_iaddN dX3_recover_24 ?_ | refine e_iadd dX3_recover_24 ?_
    refine e_ialoadN dX3_recover_25 rfl (by omega) (by decide) ?_
    refine e_iconst (z := 1) dX3_recover_26 ?_
    rw [Nat.zero_add k, rR0 hR k c0]
    have hu := iV3 hJ.1 k c0
    refine e_icmp_neN 36 dX3_recover_27 (by decide) (by first | omega | decide) (by first | omega | decide) (fun q => absurd c2 q) (fun hc27 => ?_)
    refine e_aload0 dX3_recover_30 ?_
    refine e_iconst (z := 2) dX3_recover_31 ?_
    refine e_vIF (M' := mX3_fails) fX3_fails lkX3_106 (r_fails h (nI 0) sf asd sts snp txt rdd (nI (aC A)) (nI (aN A)) (nI (aL A)) pt iw rm (x := nI 2)) rfl rfl dX3_recover_32 rfl rfl (by decide) (Nat.le_of_ble_eq_true rfl) rfl ?_
    rintro _ _ ⟨rfl, rfl⟩
    refine e_iret dX3_recover_35 rfl ?_
    exact ⟨_, rfl, rfl, _, ⟨sf, asd, sts, snp, txt, rdd, pt, iw, rm, rfl, hR, hS2, hY, hT⟩, fun q => absurd q (by decide), rfl⟩
  · refine ct_of (by decide +kernel) rfl rfl (Nat.le_of_ble_eq_true rfl) ?_
    show Ev mX3_recover 12 0 [some (qR 11 0), some (qI (nI k))] [] 132 (q_put h 11 (oR th sf asd sts snp txt rdd (nI (aC A)) (nI (aN A)) (nI (aL A)) pt iw rm)) 0 0 _ _
    refine e_aload0 dX3_recover_0 ?_
    refine e_iconst (z := 0) dX3_recover_1 ?_
    refine e_putfieldF flX3_28 dX3_recover_2 rfl (Nat.le_of_ble_eq_true rfl) (fun _ => rfl) (fun _ => rfl) ?_
    refine e_iload1 dX3_recover_5 ?_
    refine e_sI (M' := mX3_isSite) fX3_isSite lkX3_146 (r_isSite _ (nI k)) rfl rfl dX3_recover_6 (by decide) (Nat.le_of_ble_eq_true rfl) rfl ?_
    rintro _ _ ⟨rfl, rfl⟩
    rw [i_in_nI c0 (by decide)]
    refine e_if_neN 18 dX3_recover_9 (by decide) (by first | omega | decide) (fun hc9 => ?_) (fun q => absurd q (by decide))
    refine e_aload0 dX3_recover_18 ?_
    refine e_getfieldF flX3_7 dX3_recover_19 rfl rfl ?_
    refine e_iconst (z := 0) dX3_recover_22 ?_
    refine e_iload1 dX3_recover_23 ?_
    first | refine e_iaddN dX3_recover_24 ?_ | refine e_iadd dX3_recover_24 ?_
    refine e_ialoadN dX3_recover_25 rfl (by omega) (by decide) ?_
    refine e_iconst (z := 1) dX3_recover_26 ?_
    rw [Nat.zero_add k, rR0 hR k c0]
    have hu := iV3 hJ.1 k c0
    refine e_icmp_neN 36 dX3_recover_27 (by decide) (by first | omega | decide) (by first | omega | decide) (fun hc27 => ?_) (fun q => absurd q c2)
    refine e_aload0 dX3_recover_36 ?_
    refine e_vVF (M' := mX3_recordsState) fX3_recordsState lkX3_116 (r_recordsState h (nI 0) sf asd sts snp txt rdd (nI (aN A)) (nI (aL A)) pt iw rm (aX A) hR hJ (aC A) hG.2.1 (aS A) hS2) rfl rfl dX3_recover_37 rfl rfl (by decide) (Nat.le_of_ble_eq_true rfl) rfl ?_
    rintro _ ⟨s2, hS3, rfl⟩
    refine e_aload0 dX3_recover_40 ?_
    refine e_iload1 dX3_recover_41 ?_
    refine e_vVF (M' := mX3_recovers) fX3_recovers lkX3_152 (r_recovers h (nI 0) sf asd s2 snp txt rdd (nI (m_svC (aC A))) (nI (aN A)) (nI (aL A)) pt iw rm (aX A) hR hJ (k := k) c0) rfl rfl dX3_recover_42 rfl rfl (by decide) (Nat.le_of_ble_eq_true rfl) rfl ?_
    rintro _ ⟨sf3, hR3, rfl⟩
    refine e_aload0 dX3_recover_45 ?_
    refine e_getfieldF flX3_7 dX3_recover_46 rfl rfl ?_
    refine e_bipush (v := nI 13) dX3_recover_49 (by decide) ?_
    refine e_ialoadN dX3_recover_51 rfl (by omega) (by decide) ?_
    rw [show sf3 13 = _ from rR6 hR3]
    refine e_iret dX3_recover_52 rfl ?_
    exact ⟨_, rfl, rfl, _, ⟨sf3, asd, s2, snp, txt, rdd, pt, iw, rm, rfl, hR3, hS3, hY, hT⟩, fun _ => rfl, rfl⟩
