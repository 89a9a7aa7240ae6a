set_option maxRecDepth 20000 in
set_option maxHeartbeats 4000000 in
theorem p_recordKind (h : qB) {n : Nat} {A : qA} (hG : GA n A) {F : List qE} (hB : RB A F) {x y : Int32} {code : Nat} {v : Int32} {A2 : qA} (hS : S_recordKind A x y code v A2) : CtI mX3_recordKind 12 [qR 11 0, qI x, qI y] (q_put h 11 F) (fun r h2 => ∃ F', RBt A2 F' (nI code) ∧ (code = 0 → r = v) ∧ h2 = q_put h 11 F') := by
  obtain ⟨th, sf, asd, sts, snp, txt, rdd, pt, iw, rm, rfl, hR, hS2, hY, hT⟩ := hB
  have hJ := hG.1.1
  have hW := wk_J hJ
  have hT61 : (aX A).1 0 0 < 61 := Nat.lt_of_le_of_lt hW.1 (by decide)
  have hW61 : (aX A).1 0 4 < 61 := Nat.lt_of_le_of_lt hW.2.1 (by decide)
  have hT31 : (aX A).1 0 0 < 2 ^ 31 := Nat.lt_of_lt_of_le hT61 (by decide)
  have hW31 : (aX A).1 0 4 < 2 ^ 31 := Nat.lt_of_lt_of_le hW61 (by decide)
  rcases hS with ⟨c0, rfl, rfl⟩ | ⟨k, c0, rfl, c2, rfl, rfl⟩ | ⟨k, p, c0, rfl, c2, rfl, rfl, rfl, rfl⟩
  · refine ct_of (by decide +kernel) rfl rfl (Nat.le_of_ble_eq_true rfl) ?_
    show Ev mX3_recordKind 12 0 [some (qR 11 0), some (qI (x)), some (qI (y))] [] 132 (q_put h 11 (oR th sf asd sts snp txt rdd (nI (aC A)) (nI (aN A)) (nI (aL A)) pt iw rm)) 0 0 _ _
    refine e_aload0 dX3_recordKind_0 ?_
    refine e_iconst (z := 0) dX3_recordKind_1 ?_
    refine e_putfieldF flX3_28 dX3_recordKind_2 rfl (Nat.le_of_ble_eq_true rfl) (fun _ => rfl) (fun _ => rfl) ?_
    refine e_iload1 dX3_recordKind_5 ?_
    refine e_sI (M' := mX3_isSite) fX3_isSite lkX3_146 (r_isSite _ (x)) rfl rfl dX3_recordKind_6 (by decide) (Nat.le_of_ble_eq_true rfl) rfl ?_
    rintro _ _ ⟨rfl, rfl⟩
    rw [c0]
    refine e_if_eqN 16 dX3_recordKind_9 (by decide) (by first | omega | decide) (fun hc9 => ?_) (fun q => absurd rfl q)
    refine e_aload0 dX3_recordKind_16 ?_
    refine e_iconst (z := 1) dX3_recordKind_17 ?_
    refine e_vIF (M' := mX3_fails) fX3_fails lkX3_106 (r_fails h (nI 0) sf asd sts snp txt rdd (nI (aC A)) (nI (aN A)) (nI (aL A)) pt iw rm (x := nI 1)) rfl rfl dX3_recordKind_18 rfl rfl (by decide) (Nat.le_of_ble_eq_true rfl) rfl ?_
    rintro _ _ ⟨rfl, rfl⟩
    refine e_iret dX3_recordKind_21 rfl ?_
    exact ⟨_, rfl, rfl, _, ⟨sf, asd, sts, snp, txt, rdd, pt, iw, rm, rfl, hR, hS2, hY, hT⟩, fun q => absurd q (by decide), rfl⟩
  · refine ct_of (by decide +kernel) rfl rfl (Nat.le_of_ble_eq_true rfl) ?_
    show Ev mX3_recordKind 12 0 [some (qR 11 0), some (qI (nI k)), some (qI (y))] [] 132 (q_put h 11 (oR th sf asd sts snp txt rdd (nI (aC A)) (nI (aN A)) (nI (aL A)) pt iw rm)) 0 0 _ _
    refine e_aload0 dX3_recordKind_0 ?_
    refine e_iconst (z := 0) dX3_recordKind_1 ?_
    refine e_putfieldF flX3_28 dX3_recordKind_2 rfl (Nat.le_of_ble_eq_true rfl) (fun _ => rfl) (fun _ => rfl) ?_
    refine e_iload1 dX3_recordKind_5 ?_
    refine e_sI (M' := mX3_isSite) fX3_isSite lkX3_146 (r_isSite _ (nI k)) rfl rfl dX3_recordKind_6 (by decide) (Nat.le_of_ble_eq_true rfl) rfl ?_
    rintro _ _ ⟨rfl, rfl⟩
    rw [i_in_nI c0 (by decide)]
    refine e_if_eqN 16 dX3_recordKind_9 (by decide) (by first | omega | decide) (fun q => absurd q (by decide)) (fun hc9 => ?_)
    refine e_iload2 dX3_recordKind_12 ?_
    refine e_if_ge 22 dX3_recordKind_13 (by decide) (fun q => absurd q c2) (fun hc13 => ?_)
    refine e_aload0 dX3_recordKind_16 ?_
    refine e_iconst (z := 1) dX3_recordKind_17 ?_
    refine e_vIF (M' := mX3_fails) fX3_fails lkX3_106 (r_fails h (nI 0) sf asd sts snp txt rdd (nI (aC A)) (nI (aN A)) (nI (aL A)) pt iw rm (x := nI 1)) rfl rfl dX3_recordKind_18 rfl rfl (by decide) (Nat.le_of_ble_eq_true rfl) rfl ?_
    rintro _ _ ⟨rfl, rfl⟩
    refine e_iret dX3_recordKind_21 rfl ?_
    exact ⟨_, rfl, rfl, _, ⟨sf, asd, sts, snp, txt, rdd, pt, iw, rm, rfl, hR, hS2, hY, hT⟩, fun q => absurd q (by decide), rfl⟩
  · refine ct_of (by decide +kernel) rfl rfl (Nat.le_of_ble_eq_true rfl) ?_
    show Ev mX3_recordKind 12 0 [some (qR 11 0), some (qI (nI k)), some (qI (nI p))] [] 132 (q_put h 11 (oR th sf asd sts snp txt rdd (nI (aC A)) (nI (aN A)) (nI (aL A)) pt iw rm)) 0 0 _ _
    refine e_aload0 dX3_recordKind_0 ?_
    refine e_iconst (z := 0) dX3_recordKind_1 ?_
    refine e_putfieldF flX3_28 dX3_recordKind_2 rfl (Nat.le_of_ble_eq_true rfl) (fun _ => rfl) (fun _ => rfl) ?_
    refine e_iload1 dX3_recordKind_5 ?_
    refine e_sI (M' := mX3_isSite) fX3_isSite lkX3_146 (r_isSite _ (nI k)) rfl rfl dX3_recordKind_6 (by decide) (Nat.le_of_ble_eq_true rfl) rfl ?_
    rintro _ _ ⟨rfl, rfl⟩
    rw [i_in_nI c0 (by decide)]
    refine e_if_eqN 16 dX3_recordKind_9 (by decide) (by first | omega | decide) (fun q => absurd q (by decide)) (fun hc9 => ?_)
    refine e_iload2 dX3_recordKind_12 ?_
    refine e_if_ge 22 dX3_recordKind_13 (by decide) (fun hc13 => ?_) (fun q => absurd (nI_ge0 c2) q)
    refine e_aload0 dX3_recordKind_22 ?_
    refine e_iload1 dX3_recordKind_23 ?_
    refine e_iload2 dX3_recordKind_24 ?_
    refine e_vIF (M' := mX3_record) fX3_record lkX3_211 (r_record h (nI 0) sf asd sts snp txt rdd (nI (aC A)) (nI (aN A)) (nI (aL A)) pt iw rm (aX A) hR hJ (k := k) (p := p) c0 c2) rfl rfl dX3_recordKind_25 rfl rfl (by decide) (Nat.le_of_ble_eq_true rfl) rfl ?_
    rintro _ _ ⟨rfl, rfl⟩
    refine e_iconstM dX3_recordKind_28 ?_
    by_cases hp9 : p < (aX A).1 10 k
    · rw [if_pos hp9]
      have h40 := (iV9 hJ.1 k p c0 hp9).1
      refine e_icmp_ne 36 dX3_recordKind_29 (by decide) (fun _ => ?_) (fun q => absurd q (nI_m1 _ h40))
      refine e_aload0 dX3_recordKind_36 ?_
      refine e_iload1 dX3_recordKind_37 ?_
      refine e_iload2 dX3_recordKind_38 ?_
      refine e_vIF (M' := mX3_record) fX3_record lkX3_211 (r_record h (nI 0) sf asd sts snp txt rdd (nI (aC A)) (nI (aN A)) (nI (aL A)) pt iw rm (aX A) hR hJ (k := k) (p := p) c0 c2) rfl rfl dX3_recordKind_39 rfl rfl (by decide) (Nat.le_of_ble_eq_true rfl) rfl ?_
      rintro _ _ ⟨rfl, rfl⟩
      rw [if_pos hp9]
      refine e_bipush (v := nI 8) dX3_recordKind_42 (by decide) ?_
      refine e_idiv dX3_recordKind_44 (by decide) ?_
      rw [b_dv8 _ h40]
      refine e_iret dX3_recordKind_45 rfl ?_
      exact ⟨_, rfl, rfl, _, ⟨sf, asd, sts, snp, txt, rdd, pt, iw, rm, rfl, hR, hS2, hY, hT⟩, fun _ => by rw [if_pos hp9], rfl⟩
    · rw [if_neg hp9]
      refine e_icmp_ne 36 dX3_recordKind_29 (by decide) (fun q => absurd rfl q) (fun _ => ?_)
      refine e_iconstM dX3_recordKind_32 ?_
      refine e_goto 45 dX3_recordKind_33 (by decide) ?_
      refine e_iret dX3_recordKind_45 rfl ?_
      exact ⟨_, rfl, rfl, _, ⟨sf, asd, sts, snp, txt, rdd, pt, iw, rm, rfl, hR, hS2, hY, hT⟩, fun _ => by rw [if_neg hp9], rfl⟩
set_option maxRecDepth 20000 in
set_option maxHeartbeats 4000000 in
theorem p_recordTransfer (h : qB) {n : Nat} {A : qA} (hG : GA n A) {F : List qE} (hB : RB A F) {x y : Int32} {code : Nat} {v : Int32} {A2 : qA} (hS : S_recordTransfer A x y code v A2) : CtI mX3_recordTransfer 12 [qR 11 0, qI x, qI y] (q_put h 11 F) (fun r h2 => ∃ F', RBt A2 F' (nI code) ∧ (code = 0 → r = v) ∧ h2 = q_put h 11 F') := by
  obtain ⟨th, sf, asd, sts, snp, txt, rdd, pt, iw, rm, rfl, hR, hS2, hY, hT⟩ := hB
  have hJ := hG.1.1
  have hW := wk_J hJ
  have hT61 : (aX A).1 0 0 < 61 := Nat.lt_of_le_of_lt hW.1 (by decide)
  have hW61 : (aX A).1 0 4 < 61 := Nat.lt_of_le_of_lt hW.2.1 (by decide)
  have hT31 : (aX A).1 0 0 < 2 ^ 31 := Nat.lt_of_lt_of_le hT61 (by decide)
  have hW31 : (aX A).1 0 4 < 2 ^ 31 := Nat.lt_of_lt_of_le hW61 (by decide)
  rcases hS with ⟨c0, rfl, rfl⟩ | ⟨k, c0, rfl, c2, rfl, rfl⟩ | ⟨k, p, c0, rfl, c2, rfl, rfl, rfl, rfl⟩
  · refine ct_of (by decide +kernel) rfl rfl (Nat.le_of_ble_eq_true rfl) ?_
    show Ev mX3_recordTransfer 12 0 [some (qR 11 0), some (qI (x)), some (qI (y))] [] 132 (q_put h 11 (oR th sf asd sts snp txt rdd (nI (aC A)) (nI (aN A)) (nI (aL A)) pt iw rm)) 0 0 _ _
    refine e_aload0 dX3_recordTransfer_0 ?_
    refine e_iconst (z := 0) dX3_recordTransfer_1 ?_
    refine e_putfieldF flX3_28 dX3_recordTransfer_2 rfl (Nat.le_of_ble_eq_true rfl) (fun _ => rfl) (fun _ => rfl) ?_
    refine e_iload1 dX3_recordTransfer_5 ?_
    refine e_sI (M' := mX3_isSite) fX3_isSite lkX3_146 (r_isSite _ (x)) rfl rfl dX3_recordTransfer_6 (by decide) (Nat.le_of_ble_eq_true rfl) rfl ?_
    rintro _ _ ⟨rfl, rfl⟩
    rw [c0]
    refine e_if_eqN 16 dX3_recordTransfer_9 (by decide) (by first | omega | decide) (fun hc9 => ?_) (fun q => absurd rfl q)
    refine e_aload0 dX3_recordTransfer_16 ?_
    refine e_iconst (z := 1) dX3_recordTransfer_17 ?_
    refine e_vIF (M' := mX3_fails) fX3_fails lkX3_106 (r_fails h (nI 0) sf asd sts snp txt rdd (nI (aC A)) (nI (aN A)) (nI (aL A)) pt iw rm (x := nI 1)) rfl rfl dX3_recordTransfer_18 rfl rfl (by decide) (Nat.le_of_ble_eq_true rfl) rfl ?_
    rintro _ _ ⟨rfl, rfl⟩
    refine e_iret dX3_recordTransfer_21 rfl ?_
    exact ⟨_, rfl, rfl, _, ⟨sf, asd, sts, snp, txt, rdd, pt, iw, rm, rfl, hR, hS2, hY, hT⟩, fun q => absurd q (by decide), rfl⟩
  · refine ct_of (by decide +kernel) rfl rfl (Nat.le_of_ble_eq_true rfl) ?_
    show Ev mX3_recordTransfer 12 0 [some (qR 11 0), some (qI (nI k)), some (qI (y))] [] 132 (q_put h 11 (oR th sf asd sts snp txt rdd (nI (aC A)) (nI (aN A)) (nI (aL A)) pt iw rm)) 0 0 _ _
    refine e_aload0 dX3_recordTransfer_0 ?_
    refine e_iconst (z := 0) dX3_recordTransfer_1 ?_
    refine e_putfieldF flX3_28 dX3_recordTransfer_2 rfl (Nat.le_of_ble_eq_true rfl) (fun _ => rfl) (fun _ => rfl) ?_
    refine e_iload1 dX3_recordTransfer_5 ?_
    refine e_sI (M' := mX3_isSite) fX3_isSite lkX3_146 (r_isSite _ (nI k)) rfl rfl dX3_recordTransfer_6 (by decide) (Nat.le_of_ble_eq_true rfl) rfl ?_
    rintro _ _ ⟨rfl, rfl⟩
    rw [i_in_nI c0 (by decide)]
    refine e_if_eqN 16 dX3_recordTransfer_9 (by decide) (by first | omega | decide) (fun q => absurd q (by decide)) (fun hc9 => ?_)
    refine e_iload2 dX3_recordTransfer_12 ?_
    refine e_if_ge 22 dX3_recordTransfer_13 (by decide) (fun q => absurd q c2) (fun hc13 => ?_)
    refine e_aload0 dX3_recordTransfer_16 ?_
    refine e_iconst (z := 1) dX3_recordTransfer_17 ?_
    refine e_vIF (M' := mX3_fails) fX3_fails lkX3_106 (r_fails h (nI 0) sf asd sts snp txt rdd (nI (aC A)) (nI (aN A)) (nI (aL A)) pt iw rm (x := nI 1)) rfl rfl dX3_recordTransfer_18 rfl rfl (by decide) (Nat.le_of_ble_eq_true rfl) rfl ?_
    rintro _ _ ⟨rfl, rfl⟩
    refine e_iret dX3_recordTransfer_21 rfl ?_
    exact ⟨_, rfl, rfl, _, ⟨sf, asd, sts, snp, txt, rdd, pt, iw, rm, rfl, hR, hS2, hY, hT⟩, fun q => absurd q (by decide), rfl⟩
  · refine ct_of (by decide +kernel) rfl rfl (Nat.le_of_ble_eq_true rfl) ?_
    show Ev mX3_recordTransfer 12 0 [some (qR 11 0), some (qI (nI k)), some (qI (nI p))] [] 132 (q_put h 11 (oR th sf asd sts snp txt rdd (nI (aC A)) (nI (aN A)) (nI (aL A)) pt iw rm)) 0 0 _ _
    refine e_aload0 dX3_recordTransfer_0 ?_
    refine e_iconst (z := 0) dX3_recordTransfer_1 ?_
    refine e_putfieldF flX3_28 dX3_recordTransfer_2 rfl (Nat.le_of_ble_eq_true rfl) (fun _ => rfl) (fun _ => rfl) ?_
    refine e_iload1 dX3_recordTransfer_5 ?_
    refine e_sI (M' := mX3_isSite) fX3_isSite lkX3_146 (r_isSite _ (nI k)) rfl rfl dX3_recordTransfer_6 (by decide) (Nat.le_of_ble_eq_true rfl) rfl ?_
    rintro _ _ ⟨rfl, rfl⟩
    rw [i_in_nI c0 (by decide)]
    refine e_if_eqN 16 dX3_recordTransfer_9 (by decide) (by first | omega | decide) (fun q => absurd q (by decide)) (fun hc9 => ?_)
    refine e_iload2 dX3_recordTransfer_12 ?_
    refine e_if_ge 22 dX3_recordTransfer_13 (by decide) (fun hc13 => ?_) (fun q => absurd (nI_ge0 c2) q)
    refine e_aload0 dX3_recordTransfer_22 ?_
    refine e_iload1 dX3_recordTransfer_23 ?_
    refine e_iload2 dX3_recordTransfer_24 ?_
    refine e_vIF (M' := mX3_record) fX3_record lkX3_211 (r_record h (nI 0) sf asd sts snp txt rdd (nI (aC A)) (nI (aN A)) (nI (aL A)) pt iw rm (aX A) hR hJ (k := k) (p := p) c0 c2) rfl rfl dX3_recordTransfer_25 rfl rfl (by decide) (Nat.le_of_ble_eq_true rfl) rfl ?_
    rintro _ _ ⟨rfl, rfl⟩
    refine e_iconstM dX3_recordTransfer_28 ?_
    by_cases hp9 : p < (aX A).1 10 k
    · rw [if_pos hp9]
      have h40 := (iV9 hJ.1 k p c0 hp9).1
      refine e_icmp_ne 36 dX3_recordTransfer_29 (by decide) (fun _ => ?_) (fun q => absurd q (nI_m1 _ h40))
      refine e_aload0 dX3_recordTransfer_36 ?_
      refine e_iload1 dX3_recordTransfer_37 ?_
      refine e_iload2 dX3_recordTransfer_38 ?_
      refine e_vIF (M' := mX3_record) fX3_record lkX3_211 (r_record h (nI 0) sf asd sts snp txt rdd (nI (aC A)) (nI (aN A)) (nI (aL A)) pt iw rm (aX A) hR hJ (k := k) (p := p) c0 c2) rfl rfl dX3_recordTransfer_39 rfl rfl (by decide) (Nat.le_of_ble_eq_true rfl) rfl ?_
      rintro _ _ ⟨rfl, rfl⟩
      rw [if_pos hp9]
      refine e_bipush (v := nI 8) dX3_recordTransfer_42 (by decide) ?_
      refine e_irem dX3_recordTransfer_44 (by decide) ?_
      rw [b_rm8r _ h40]
      refine e_iret dX3_recordTransfer_45 rfl ?_
      exact ⟨_, rfl, rfl, _, ⟨sf, asd, sts, snp, txt, rdd, pt, iw, rm, rfl, hR, hS2, hY, hT⟩, fun _ => by rw [if_pos hp9], rfl⟩
    · rw [if_neg hp9]
      refine e_icmp_ne 36 dX3_recordTransfer_29 (by decide) (fun q => absurd rfl q) (fun _ => ?_)
      refine e_iconstM dX3_recordTransfer_32 ?_
      refine e_goto 45 dX3_recordTransfer_33 (by decide) ?_
      refine e_iret dX3_recordTransfer_45 rfl ?_
      exact ⟨_, rfl, rfl, _, ⟨sf, asd, sts, snp, txt, rdd, pt, iw, rm, rfl, hR, hS2, hY, hT⟩, fun _ => by rw [if_neg hp9], rfl⟩
set_option maxRecDepth 20000 in
set_option maxHeartbeats 4000000 in
theorem p_kindOf (h : qB) {n : Nat} {A : qA} (hG : GA n A) {F : List qE} (hB : RB A F) {x : Int32} {code : Nat} {v : Int32} {A2 : qA} (hS : S_kindOf A x code v A2) : CtI mX3_kindOf 12 [qR 11 0, qI x] (q_put h 11 F) (fun r h2 => ∃ F', RBt A2 F' (nI code) ∧ (code = 0 → r = v) ∧ h2 = q_put h 11 F') := by
  obtain ⟨th, sf, asd, sts, snp, txt, rdd, pt, iw, rm, rfl, hR, hS2, hY, hT⟩ := hB
  have hJ := hG.1.1
  have hW := wk_J hJ
  have hT61 : (aX A).1 0 0 < 61 := Nat.lt_of_le_of_lt hW.1 (by decide)
  have hW61 : (aX A).1 0 4 < 61 := Nat.lt_of_le_of_lt hW.2.1 (by decide)
  have hT31 : (aX A).1 0 0 < 2 ^ 31 := Nat.lt_of_lt_of_le hT61 (by decide)
  have hW31 : (aX A).1 0 4 < 2 ^ 31 := Nat.lt_of_lt_of_le hW61 (by decide)
  rcases hS with ⟨c0, rfl, rfl⟩ | ⟨p, c0, rfl, rfl, rfl, rfl⟩
  · refine ct_of (by decide +kernel) rfl rfl (Nat.le_of_ble_eq_true rfl) ?_
    show Ev mX3_kindOf 12 0 [some (qR 11 0), some (qI (x))] [] 132 (q_put h 11 (oR th sf asd sts snp txt rdd (nI (aC A)) (nI (aN A)) (nI (aL A)) pt iw rm)) 0 0 _ _
    refine e_aload0 dX3_kindOf_0 ?_
    refine e_iconst (z := 0) dX3_kindOf_1 ?_
    refine e_putfieldF flX3_28 dX3_kindOf_2 rfl (Nat.le_of_ble_eq_true rfl) (fun _ => rfl) (fun _ => rfl) ?_
    refine e_iload1 dX3_kindOf_5 ?_
    refine e_if_ge 15 dX3_kindOf_6 (by decide) (fun q => absurd q c0) (fun hc6 => ?_)
    refine e_aload0 dX3_kindOf_9 ?_
    refine e_iconst (z := 1) dX3_kindOf_10 ?_
    refine e_vIF (M' := mX3_fails) fX3_fails lkX3_106 (r_fails h (nI 0) sf asd sts snp txt rdd (nI (aC A)) (nI (aN A)) (nI (aL A)) pt iw rm (x := nI 1)) rfl rfl dX3_kindOf_11 rfl rfl (by decide) (Nat.le_of_ble_eq_true rfl) rfl ?_
    rintro _ _ ⟨rfl, rfl⟩
    refine e_iret dX3_kindOf_14 rfl ?_
    exact ⟨_, rfl, rfl, _, ⟨sf, asd, sts, snp, txt, rdd, pt, iw, rm, rfl, hR, hS2, hY, hT⟩, fun q => absurd q (by decide), rfl⟩
  · refine ct_of (by decide +kernel) rfl rfl (Nat.le_of_ble_eq_true rfl) ?_
    show Ev mX3_kindOf 12 0 [some (qR 11 0), some (qI (nI p))] [] 132 (q_put h 11 (oR th sf asd sts snp txt rdd (nI (aC A)) (nI (aN A)) (nI (aL A)) pt iw rm)) 0 0 _ _
    refine e_aload0 dX3_kindOf_0 ?_
    refine e_iconst (z := 0) dX3_kindOf_1 ?_
    refine e_putfieldF flX3_28 dX3_kindOf_2 rfl (Nat.le_of_ble_eq_true rfl) (fun _ => rfl) (fun _ => rfl) ?_
    refine e_iload1 dX3_kindOf_5 ?_
    refine e_if_ge 15 dX3_kindOf_6 (by decide) (fun hc6 => ?_) (fun q => absurd (nI_ge0 c0) q)
    refine e_aload0 dX3_kindOf_15 ?_
    refine e_iload1 dX3_kindOf_16 ?_
    refine e_vIF (M' := mX3_isMessage) fX3_isMessage lkX3_132 (r_isMessage h (nI 0) sf asd sts snp txt rdd (nI (aC A)) (nI (aN A)) (nI (aL A)) pt iw rm (aX A) hR hW61 (nI p)) rfl rfl dX3_kindOf_17 rfl rfl (by decide) (Nat.le_of_ble_eq_true rfl) rfl ?_
    rintro _ _ ⟨rfl, rfl⟩
    rw [i_in_le c0 hW31]
    by_cases hp9 : p < (aX A).1 0 4
    · rw [decide_eq_true hp9]
      have h224 := (iV10 hJ.1 p hp9).1
      have h60 := hW.2.1
      refine e_if_eqN 39 dX3_kindOf_20 (by decide) (by decide) (fun q => absurd q (by decide)) (fun _ => ?_)
      refine e_aload0 dX3_kindOf_23 ?_
      refine e_getfieldF flX3_7 dX3_kindOf_24 rfl rfl ?_
      refine e_sipush (v := nI 195) dX3_kindOf_27 (by decide) ?_
      refine e_iload1 dX3_kindOf_30 ?_
      first | refine e_iaddN dX3_kindOf_31 ?_ | refine e_iadd dX3_kindOf_31 ?_
      refine e_ialoadN dX3_kindOf_32 rfl (by omega) (by decide) ?_
      rw [rR11 hR p hp9]
      refine e_bipush (v := nI 32) dX3_kindOf_33 (by decide) ?_
      refine e_idiv dX3_kindOf_35 (by decide) ?_
      rw [b_dv32 _ h224]
      refine e_goto 40 dX3_kindOf_36 (by decide) ?_
      refine e_iret dX3_kindOf_40 rfl ?_
      exact ⟨_, rfl, rfl, _, ⟨sf, asd, sts, snp, txt, rdd, pt, iw, rm, rfl, hR, hS2, hY, hT⟩, fun _ => by rw [if_pos hp9], rfl⟩
    · rw [decide_eq_false hp9]
      refine e_if_eqN 39 dX3_kindOf_20 (by decide) (by decide) (fun _ => ?_) (fun q => absurd rfl q)
      refine e_iconstM dX3_kindOf_39 ?_
      refine e_iret dX3_kindOf_40 rfl ?_
      exact ⟨_, rfl, rfl, _, ⟨sf, asd, sts, snp, txt, rdd, pt, iw, rm, rfl, hR, hS2, hY, hT⟩, fun _ => by rw [if_neg hp9], rfl⟩
set_option maxRecDepth 20000 in
set_option maxHeartbeats 4000000 in
theorem p_transferOf (h : qB) {n : Nat} {A : qA} (hG : GA n A) {F : List qE} (hB : RB A F) {x : Int32} {code : Nat} {v : Int32} {A2 : qA} (hS : S_transferOf A x code v A2) : CtI mX3_transferOf 12 [qR 11 0, qI x] (q_put h 11 F) (fun r h2 => ∃ F', RBt A2 F' (nI code) ∧ (code = 0 → r = v) ∧ h2 = q_put h 11 F') := by
  obtain ⟨th, sf, asd, sts, snp, txt, rdd, pt, iw, rm, rfl, hR, hS2, hY, hT⟩ := hB
  have hJ := hG.1.1
  have hW := wk_J hJ
  have hT61 : (aX A).1 0 0 < 61 := Nat.lt_of_le_of_lt hW.1 (by decide)
  have hW61 : (aX A).1 0 4 < 61 := Nat.lt_of_le_of_lt hW.2.1 (by decide)
  have hT31 : (aX A).1 0 0 < 2 ^ 31 := Nat.lt_of_lt_of_le hT61 (by decide)
  have hW31 : (aX A).1 0 4 < 2 ^ 31 := Nat.lt_of_lt_of_le hW61 (by decide)
  rcases hS with ⟨c0, rfl, rfl⟩ | ⟨p, c0, rfl, rfl, rfl, rfl⟩
  · refine ct_of (by decide +kernel) rfl rfl (Nat.le_of_ble_eq_true rfl) ?_
    show Ev mX3_transferOf 12 0 [some (qR 11 0), some (qI (x))] [] 132 (q_put h 11 (oR th sf asd sts snp txt rdd (nI (aC A)) (nI (aN A)) (nI (aL A)) pt iw rm)) 0 0 _ _
    refine e_aload0 dX3_transferOf_0 ?_
    refine e_iconst (z := 0) dX3_transferOf_1 ?_
    refine e_putfieldF flX3_28 dX3_transferOf_2 rfl (Nat.le_of_ble_eq_true rfl) (fun _ => rfl) (fun _ => rfl) ?_
    refine e_iload1 dX3_transferOf_5 ?_
    refine e_if_ge 15 dX3_transferOf_6 (by decide) (fun q => absurd q c0) (fun hc6 => ?_)
    refine e_aload0 dX3_transferOf_9 ?_
    refine e_iconst (z := 1) dX3_transferOf_10 ?_
    refine e_vIF (M' := mX3_fails) fX3_fails lkX3_106 (r_fails h (nI 0) sf asd sts snp txt rdd (nI (aC A)) (nI (aN A)) (nI (aL A)) pt iw rm (x := nI 1)) rfl rfl dX3_transferOf_11 rfl rfl (by decide) (Nat.le_of_ble_eq_true rfl) rfl ?_
    rintro _ _ ⟨rfl, rfl⟩
    refine e_iret dX3_transferOf_14 rfl ?_
    exact ⟨_, rfl, rfl, _, ⟨sf, asd, sts, snp, txt, rdd, pt, iw, rm, rfl, hR, hS2, hY, hT⟩, fun q => absurd q (by decide), rfl⟩
  · refine ct_of (by decide +kernel) rfl rfl (Nat.le_of_ble_eq_true rfl) ?_
    show Ev mX3_transferOf 12 0 [some (qR 11 0), some (qI (nI p))] [] 132 (q_put h 11 (oR th sf asd sts snp txt rdd (nI (aC A)) (nI (aN A)) (nI (aL A)) pt iw rm)) 0 0 _ _
    refine e_aload0 dX3_transferOf_0 ?_
    refine e_iconst (z := 0) dX3_transferOf_1 ?_
    refine e_putfieldF flX3_28 dX3_transferOf_2 rfl (Nat.le_of_ble_eq_true rfl) (fun _ => rfl) (fun _ => rfl) ?_
    refine e_iload1 dX3_transferOf_5 ?_
    refine e_if_ge 15 dX3_transferOf_6 (by decide) (fun hc6 => ?_) (fun q => absurd (nI_ge0 c0) q)
    refine e_aload0 dX3_transferOf_15 ?_
    refine e_iload1 dX3_transferOf_16 ?_
    refine e_vIF (M' := mX3_isMessage) fX3_isMessage lkX3_132 (r_isMessage h (nI 0) sf asd sts snp txt rdd (nI (aC A)) (nI (aN A)) (nI (aL A)) pt iw rm (aX A) hR hW61 (nI p)) rfl rfl dX3_transferOf_17 rfl rfl (by decide) (Nat.le_of_ble_eq_true rfl) rfl ?_
    rintro _ _ ⟨rfl, rfl⟩
    rw [i_in_le c0 hW31]
    by_cases hp9 : p < (aX A).1 0 4
    · rw [decide_eq_true hp9]
      have h224 := (iV10 hJ.1 p hp9).1
      have h60 := hW.2.1
      refine e_if_eqN 41 dX3_transferOf_20 (by decide) (by decide) (fun q => absurd q (by decide)) (fun _ => ?_)
      refine e_aload0 dX3_transferOf_23 ?_
      refine e_getfieldF flX3_7 dX3_transferOf_24 rfl rfl ?_
      refine e_sipush (v := nI 195) dX3_transferOf_27 (by decide) ?_
      refine e_iload1 dX3_transferOf_30 ?_
      first | refine e_iaddN dX3_transferOf_31 ?_ | refine e_iadd dX3_transferOf_31 ?_
      refine e_ialoadN dX3_transferOf_32 rfl (by omega) (by decide) ?_
      rw [rR11 hR p hp9]
      refine e_iconst (z := 4) dX3_transferOf_33 ?_
      refine e_idiv dX3_transferOf_34 (by decide) ?_
      rw [b_dv4 _ h224]
      refine e_bipush (v := nI 8) dX3_transferOf_35 (by decide) ?_
      refine e_irem dX3_transferOf_37 (by decide) ?_
      rw [b_rm8 _ h224]
      refine e_goto 42 dX3_transferOf_38 (by decide) ?_
      refine e_iret dX3_transferOf_42 rfl ?_
      exact ⟨_, rfl, rfl, _, ⟨sf, asd, sts, snp, txt, rdd, pt, iw, rm, rfl, hR, hS2, hY, hT⟩, fun _ => by rw [if_pos hp9], rfl⟩
    · rw [decide_eq_false hp9]
      refine e_if_eqN 41 dX3_transferOf_20 (by decide) (by decide) (fun _ => ?_) (fun q => absurd rfl q)
      refine e_iconstM dX3_transferOf_41 ?_
      refine e_iret dX3_transferOf_42 rfl ?_
      exact ⟨_, rfl, rfl, _, ⟨sf, asd, sts, snp, txt, rdd, pt, iw, rm, rfl, hR, hS2, hY, hT⟩, fun _ => by rw [if_neg hp9], rfl⟩
set_option maxRecDepth 20000 in
set_option maxHeartbeats 4000000 in
theorem p_storeOf (h : qB) {n : Nat} {A : qA} (hG : GA n A) {F : List qE} (hB : RB A F) {x : Int32} {code : Nat} {v : Int32} {A2 : qA} (hS : S_storeOf A x code v A2) : CtI mX3_storeOf 12 [qR 11 0, qI x] (q_put h 11 F) (fun r h2 => ∃ F', RBt A2 F' (nI code) ∧ (code = 0 → r = v) ∧ h2 = q_put h 11 F') := by
  obtain ⟨th, sf, asd, sts, snp, txt, rdd, pt, iw, rm, rfl, hR, hS2, hY, hT⟩ := hB
  have hJ := hG.1.1
  have hW := wk_J hJ
  have hT61 : (aX A).1 0 0 < 61 := Nat.lt_of_le_of_lt hW.1 (by decide)
  have hW61 : (aX A).1 0 4 < 61 := Nat.lt_of_le_of_lt hW.2.1 (by decide)
  have hT31 : (aX A).1 0 0 < 2 ^ 31 := Nat.lt_of_lt_of_le hT61 (by decide)
  have hW31 : (aX A).1 0 4 < 2 ^ 31 := Nat.lt_of_lt_of_le hW61 (by decide)
  rcases hS with ⟨c0, rfl, rfl⟩ | ⟨p, c0, rfl, rfl, rfl, rfl⟩
  · refine ct_of (by decide +kernel) rfl rfl (Nat.le_of_ble_eq_true rfl) ?_
    show Ev mX3_storeOf 12 0 [some (qR 11 0), some (qI (x))] [] 132 (q_put h 11 (oR th sf asd sts snp txt rdd (nI (aC A)) (nI (aN A)) (nI (aL A)) pt iw rm)) 0 0 _ _
    refine e_aload0 dX3_storeOf_0 ?_
    refine e_iconst (z := 0) dX3_storeOf_1 ?_
    refine e_putfieldF flX3_28 dX3_storeOf_2 rfl (Nat.le_of_ble_eq_true rfl) (fun _ => rfl) (fun _ => rfl) ?_
    refine e_iload1 dX3_storeOf_5 ?_
    refine e_if_ge 15 dX3_storeOf_6 (by decide) (fun q => absurd q c0) (fun hc6 => ?_)
    refine e_aload0 dX3_storeOf_9 ?_
    refine e_iconst (z := 1) dX3_storeOf_10 ?_
    refine e_vIF (M' := mX3_fails) fX3_fails lkX3_106 (r_fails h (nI 0) sf asd sts snp txt rdd (nI (aC A)) (nI (aN A)) (nI (aL A)) pt iw rm (x := nI 1)) rfl rfl dX3_storeOf_11 rfl rfl (by decide) (Nat.le_of_ble_eq_true rfl) rfl ?_
    rintro _ _ ⟨rfl, rfl⟩
    refine e_iret dX3_storeOf_14 rfl ?_
    exact ⟨_, rfl, rfl, _, ⟨sf, asd, sts, snp, txt, rdd, pt, iw, rm, rfl, hR, hS2, hY, hT⟩, fun q => absurd q (by decide), rfl⟩
  · refine ct_of (by decide +kernel) rfl rfl (Nat.le_of_ble_eq_true rfl) ?_
    show Ev mX3_storeOf 12 0 [some (qR 11 0), some (qI (nI p))] [] 132 (q_put h 11 (oR th sf asd sts snp txt rdd (nI (aC A)) (nI (aN A)) (nI (aL A)) pt iw rm)) 0 0 _ _
    refine e_aload0 dX3_storeOf_0 ?_
    refine e_iconst (z := 0) dX3_storeOf_1 ?_
    refine e_putfieldF flX3_28 dX3_storeOf_2 rfl (Nat.le_of_ble_eq_true rfl) (fun _ => rfl) (fun _ => rfl) ?_
    refine e_iload1 dX3_storeOf_5 ?_
    refine e_if_ge 15 dX3_storeOf_6 (by decide) (fun hc6 => ?_) (fun q => absurd (nI_ge0 c0) q)
    refine e_aload0 dX3_storeOf_15 ?_
    refine e_iload1 dX3_storeOf_16 ?_
    refine e_vIF (M' := mX3_isMessage) fX3_isMessage lkX3_132 (r_isMessage h (nI 0) sf asd sts snp txt rdd (nI (aC A)) (nI (aN A)) (nI (aL A)) pt iw rm (aX A) hR hW61 (nI p)) rfl rfl dX3_storeOf_17 rfl rfl (by decide) (Nat.le_of_ble_eq_true rfl) rfl ?_
    rintro _ _ ⟨rfl, rfl⟩
    rw [i_in_le c0 hW31]
    by_cases hp9 : p < (aX A).1 0 4
    · rw [decide_eq_true hp9]
      have h224 := (iV10 hJ.1 p hp9).1
      have h60 := hW.2.1
      refine e_if_eqN 38 dX3_storeOf_20 (by decide) (by decide) (fun q => absurd q (by decide)) (fun _ => ?_)
      refine e_aload0 dX3_storeOf_23 ?_
      refine e_getfieldF flX3_7 dX3_storeOf_24 rfl rfl ?_
      refine e_sipush (v := nI 195) dX3_storeOf_27 (by decide) ?_
      refine e_iload1 dX3_storeOf_30 ?_
      first | refine e_iaddN dX3_storeOf_31 ?_ | refine e_iadd dX3_storeOf_31 ?_
      refine e_ialoadN dX3_storeOf_32 rfl (by omega) (by decide) ?_
      rw [rR11 hR p hp9]
      refine e_iconst (z := 4) dX3_storeOf_33 ?_
      refine e_irem dX3_storeOf_34 (by decide) ?_
      rw [b_rm4 _ h224]
      refine e_goto 39 dX3_storeOf_35 (by decide) ?_
      refine e_iret dX3_storeOf_39 rfl ?_
      exact ⟨_, rfl, rfl, _, ⟨sf, asd, sts, snp, txt, rdd, pt, iw, rm, rfl, hR, hS2, hY, hT⟩, fun _ => by rw [if_pos hp9], rfl⟩
    · rw [decide_eq_false hp9]
      refine e_if_eqN 38 dX3_storeOf_20 (by decide) (by decide) (fun _ => ?_) (fun q => absurd rfl q)
      refine e_iconstM dX3_storeOf_38 ?_
      refine e_iret dX3_storeOf_39 rfl ?_
      exact ⟨_, rfl, rfl, _, ⟨sf, asd, sts, snp, txt, rdd, pt, iw, rm, rfl, hR, hS2, hY, hT⟩, fun _ => by rw [if_neg hp9], rfl⟩
set_option maxRecDepth 20000 in
set_option maxHeartbeats 4000000 in
theorem p_wouldSend (h : qB) {n : Nat} {A : qA} (hG : GA n A) {F : List qE} (hB : RB A F) {x : Int32} {code : Nat} {v : Int32} {A2 : qA} (hS : S_wouldSend A x code v A2) : CtI mX3_wouldSend 12 [qR 11 0, qI x] (q_put h 11 F) (fun r h2 => ∃ F', RBt A2 F' (nI code) ∧ (code = 0 → r = v) ∧ h2 = q_put h 11 F') := by
  obtain ⟨th, sf, asd, sts, snp, txt, rdd, pt, iw, rm, rfl, hR, hS2, hY, hT⟩ := hB
  have hJ := hG.1.1
  have hW := wk_J hJ
  have hT61 : (aX A).1 0 0 < 61 := Nat.lt_of_le_of_lt hW.1 (by decide)
  have hW61 : (aX A).1 0 4 < 61 := Nat.lt_of_le_of_lt hW.2.1 (by decide)
  have hT31 : (aX A).1 0 0 < 2 ^ 31 := Nat.lt_of_lt_of_le hT61 (by decide)
  have hW31 : (aX A).1 0 4 < 2 ^ 31 := Nat.lt_of_lt_of_le hW61 (by decide)
  rcases hS with ⟨c0, rfl, rfl⟩ | ⟨p, c0, rfl, rfl, rfl, rfl⟩
  · refine ct_of (by decide +kernel) rfl rfl (Nat.le_of_ble_eq_true rfl) ?_
    show Ev mX3_wouldSend 12 0 [some (qR 11 0), some (qI (x))] [] 132 (q_put h 11 (oR th sf asd sts snp txt rdd (nI (aC A)) (nI (aN A)) (nI (aL A)) pt iw rm)) 0 0 _ _
    refine e_aload0 dX3_wouldSend_0 ?_
    refine e_iconst (z := 0) dX3_wouldSend_1 ?_
    refine e_putfieldF flX3_28 dX3_wouldSend_2 rfl (Nat.le_of_ble_eq_true rfl) (fun _ => rfl) (fun _ => rfl) ?_
    refine e_aload0 dX3_wouldSend_5 ?_
    refine e_iload1 dX3_wouldSend_6 ?_
    refine e_vIF (M' := mX3_isMessage) fX3_isMessage lkX3_132 (r_isMessage h (nI 0) sf asd sts snp txt rdd (nI (aC A)) (nI (aN A)) (nI (aL A)) pt iw rm (aX A) hR hW61 (x)) rfl rfl dX3_wouldSend_7 rfl rfl (by decide) (Nat.le_of_ble_eq_true rfl) rfl ?_
    rintro _ _ ⟨rfl, rfl⟩
    rw [c0]
    refine e_if_eqN 21 dX3_wouldSend_10 (by decide) (by first | omega | decide) (fun hc10 => ?_) (fun q => absurd rfl q)
    refine e_aload0 dX3_wouldSend_21 ?_
    refine e_iconst (z := 1) dX3_wouldSend_22 ?_
    refine e_vIF (M' := mX3_fails) fX3_fails lkX3_106 (r_fails h (nI 0) sf asd sts snp txt rdd (nI (aC A)) (nI (aN A)) (nI (aL A)) pt iw rm (x := nI 1)) rfl rfl dX3_wouldSend_23 rfl rfl (by decide) (Nat.le_of_ble_eq_true rfl) rfl ?_
    rintro _ _ ⟨rfl, rfl⟩
    refine e_iret dX3_wouldSend_26 rfl ?_
    exact ⟨_, rfl, rfl, _, ⟨sf, asd, sts, snp, txt, rdd, pt, iw, rm, rfl, hR, hS2, hY, hT⟩, fun q => absurd q (by decide), rfl⟩
  · refine ct_of (by decide +kernel) rfl rfl (Nat.le_of_ble_eq_true rfl) ?_
    show Ev mX3_wouldSend 12 0 [some (qR 11 0), some (qI (nI p))] [] 132 (q_put h 11 (oR th sf asd sts snp txt rdd (nI (aC A)) (nI (aN A)) (nI (aL A)) pt iw rm)) 0 0 _ _
    refine e_aload0 dX3_wouldSend_0 ?_
    refine e_iconst (z := 0) dX3_wouldSend_1 ?_
    refine e_putfieldF flX3_28 dX3_wouldSend_2 rfl (Nat.le_of_ble_eq_true rfl) (fun _ => rfl) (fun _ => rfl) ?_
    refine e_aload0 dX3_wouldSend_5 ?_
    refine e_iload1 dX3_wouldSend_6 ?_
    refine e_vIF (M' := mX3_isMessage) fX3_isMessage lkX3_132 (r_isMessage h (nI 0) sf asd sts snp txt rdd (nI (aC A)) (nI (aN A)) (nI (aL A)) pt iw rm (aX A) hR hW61 (nI p)) rfl rfl dX3_wouldSend_7 rfl rfl (by decide) (Nat.le_of_ble_eq_true rfl) rfl ?_
    rintro _ _ ⟨rfl, rfl⟩
    rw [i_in_nI c0 hW31]
    refine e_if_eqN 21 dX3_wouldSend_10 (by decide) (by first | omega | decide) (fun q => absurd q (by decide)) (fun hc10 => ?_)
    refine e_aload0 dX3_wouldSend_13 ?_
    refine e_iload1 dX3_wouldSend_14 ?_
    refine e_vIF (M' := mX3_sendsBy) fX3_sendsBy lkX3_223 (r_sendsBy h (nI 0) sf asd sts snp txt rdd (nI (aC A)) (nI (aN A)) (nI (aL A)) pt iw rm (aX A) hR hJ (p := p) c0) rfl rfl dX3_wouldSend_15 rfl rfl (by decide) (Nat.le_of_ble_eq_true rfl) rfl ?_
    rintro _ _ ⟨rfl, sf3, a3, hR3, rfl⟩
    refine e_goto 26 dX3_wouldSend_18 (by decide) ?_
    refine e_iret dX3_wouldSend_26 rfl ?_
    exact ⟨_, rfl, rfl, _, ⟨sf3, a3, sts, snp, txt, rdd, pt, iw, rm, rfl, hR3, hS2, hY, hT⟩, fun _ => rfl, rfl⟩
set_option maxRecDepth 20000 in
set_option maxHeartbeats 4000000 in
theorem p_messagesToSettle (h : qB) {n : Nat} {A : qA} (hG : GA n A) {F : List qE} (hB : RB A F) {code : Nat} {v : Int32} {A2 : qA} (hS : S_messagesToSettle A code v A2) : CtI mX3_messagesToSettle 12 [qR 11 0] (q_put h 11 F) (fun r h2 => ∃ F', RBt A2 F' (nI code) ∧ (code = 0 → r = v) ∧ h2 = q_put h 11 F') := by
  obtain ⟨th, sf, asd, sts, snp, txt, rdd, pt, iw, rm, rfl, hR, hS2, hY, hT⟩ := hB
  have hJ := hG.1.1
  have hW := wk_J hJ
  have hT61 : (aX A).1 0 0 < 61 := Nat.lt_of_le_of_lt hW.1 (by decide)
  have hW61 : (aX A).1 0 4 < 61 := Nat.lt_of_le_of_lt hW.2.1 (by decide)
  have hT31 : (aX A).1 0 0 < 2 ^ 31 := Nat.lt_of_lt_of_le hT61 (by decide)
  have hW31 : (aX A).1 0 4 < 2 ^ 31 := Nat.lt_of_lt_of_le hW61 (by decide)
  obtain ⟨rfl, rfl, rfl⟩ := hS
  refine ct_of (by decide +kernel) rfl rfl (Nat.le_of_ble_eq_true rfl) ?_
  show Ev mX3_messagesToSettle 12 0 [some (qR 11 0)] [] 132 (q_put h 11 (oR th sf asd sts snp txt rdd (nI (aC A)) (nI (aN A)) (nI (aL A)) pt iw rm)) 0 0 _ _
  refine e_aload0 dX3_messagesToSettle_0 ?_
  refine e_iconst (z := 0) dX3_messagesToSettle_1 ?_
  refine e_putfieldF flX3_28 dX3_messagesToSettle_2 rfl (Nat.le_of_ble_eq_true rfl) (fun _ => rfl) (fun _ => rfl) ?_
  refine e_aload0 dX3_messagesToSettle_5 ?_
  refine e_vIF (M' := mX3_settledMany) fX3_settledMany lkX3_229 (r_settledMany h (nI 0) sf asd sts snp txt rdd (nI (aC A)) (nI (aN A)) (nI (aL A)) pt iw rm (aX A) hR hJ) rfl rfl dX3_messagesToSettle_6 rfl rfl (by decide) (Nat.le_of_ble_eq_true rfl) rfl ?_
  rintro _ _ ⟨rfl, sf3, a3, hR3, rfl⟩
  refine e_iret dX3_messagesToSettle_9 rfl ?_
  exact ⟨_, rfl, rfl, _, ⟨sf3, a3, sts, snp, txt, rdd, pt, iw, rm, rfl, hR3, hS2, hY, hT⟩, fun _ => rfl, rfl⟩
set_option maxRecDepth 20000 in
set_option maxHeartbeats 4000000 in
theorem p_outcomeIfSettled (h : qB) {n : Nat} {A : qA} (hG : GA n A) {F : List qE} (hB : RB A F) {x : Int32} {code : Nat} {v : Int32} {A2 : qA} (hS : S_outcomeIfSettled A x code v A2) : CtI mX3_outcomeIfSettled 12 [qR 11 0, qI x] (q_put h 11 F) (fun r h2 => ∃ F', RBt A2 F' (nI code) ∧ (code = 0 → r = v) ∧ h2 = q_put h 11 F') := by
  obtain ⟨th, sf, asd, sts, snp, txt, rdd, pt, iw, rm, rfl, hR, hS2, hY, hT⟩ := hB
  have hJ := hG.1.1
  have hW := wk_J hJ
  have hT61 : (aX A).1 0 0 < 61 := Nat.lt_of_le_of_lt hW.1 (by decide)
  have hW61 : (aX A).1 0 4 < 61 := Nat.lt_of_le_of_lt hW.2.1 (by decide)
  have hT31 : (aX A).1 0 0 < 2 ^ 31 := Nat.lt_of_lt_of_le hT61 (by decide)
  have hW31 : (aX A).1 0 4 < 2 ^ 31 := Nat.lt_of_lt_of_le hW61 (by decide)
  rcases hS with ⟨c0, rfl, rfl⟩ | ⟨t, c0, rfl, rfl, rfl, rfl⟩
  · refine ct_of (by decide +kernel) rfl rfl (Nat.le_of_ble_eq_true rfl) ?_
    show Ev mX3_outcomeIfSettled 12 0 [some (qR 11 0), some (qI (x))] [] 132 (q_put h 11 (oR th sf asd sts snp txt rdd (nI (aC A)) (nI (aN A)) (nI (aL A)) pt iw rm)) 0 0 _ _
    refine e_aload0 dX3_outcomeIfSettled_0 ?_
    refine e_iconst (z := 0) dX3_outcomeIfSettled_1 ?_
    refine e_putfieldF flX3_28 dX3_outcomeIfSettled_2 rfl (Nat.le_of_ble_eq_true rfl) (fun _ => rfl) (fun _ => rfl) ?_
    refine e_aload0 dX3_outcomeIfSettled_5 ?_
    refine e_iload1 dX3_outcomeIfSettled_6 ?_
    refine e_vIF (M' := mX3_isTransfer) fX3_isTransfer lkX3_123 (r_isTransfer h (nI 0) sf asd sts snp txt rdd (nI (aC A)) (nI (aN A)) (nI (aL A)) pt iw rm (aX A) hR hT61 (x)) rfl rfl dX3_outcomeIfSettled_7 rfl rfl (by decide) (Nat.le_of_ble_eq_true rfl) rfl ?_
    rintro _ _ ⟨rfl, rfl⟩
    rw [c0]
    refine e_if_eqN 21 dX3_outcomeIfSettled_10 (by decide) (by first | omega | decide) (fun hc10 => ?_) (fun q => absurd rfl q)
    refine e_aload0 dX3_outcomeIfSettled_21 ?_
    refine e_iconst (z := 1) dX3_outcomeIfSettled_22 ?_
    refine e_vIF (M' := mX3_fails) fX3_fails lkX3_106 (r_fails h (nI 0) sf asd sts snp txt rdd (nI (aC A)) (nI (aN A)) (nI (aL A)) pt iw rm (x := nI 1)) rfl rfl dX3_outcomeIfSettled_23 rfl rfl (by decide) (Nat.le_of_ble_eq_true rfl) rfl ?_
    rintro _ _ ⟨rfl, rfl⟩
    refine e_iret dX3_outcomeIfSettled_26 rfl ?_
    exact ⟨_, rfl, rfl, _, ⟨sf, asd, sts, snp, txt, rdd, pt, iw, rm, rfl, hR, hS2, hY, hT⟩, fun q => absurd q (by decide), rfl⟩
  · refine ct_of (by decide +kernel) rfl rfl (Nat.le_of_ble_eq_true rfl) ?_
    show Ev mX3_outcomeIfSettled 12 0 [some (qR 11 0), some (qI (nI t))] [] 132 (q_put h 11 (oR th sf asd sts snp txt rdd (nI (aC A)) (nI (aN A)) (nI (aL A)) pt iw rm)) 0 0 _ _
    refine e_aload0 dX3_outcomeIfSettled_0 ?_
    refine e_iconst (z := 0) dX3_outcomeIfSettled_1 ?_
    refine e_putfieldF flX3_28 dX3_outcomeIfSettled_2 rfl (Nat.le_of_ble_eq_true rfl) (fun _ => rfl) (fun _ => rfl) ?_
    refine e_aload0 dX3_outcomeIfSettled_5 ?_
    refine e_iload1 dX3_outcomeIfSettled_6 ?_
    refine e_vIF (M' := mX3_isTransfer) fX3_isTransfer lkX3_123 (r_isTransfer h (nI 0) sf asd sts snp txt rdd (nI (aC A)) (nI (aN A)) (nI (aL A)) pt iw rm (aX A) hR hT61 (nI t)) rfl rfl dX3_outcomeIfSettled_7 rfl rfl (by decide) (Nat.le_of_ble_eq_true rfl) rfl ?_
    rintro _ _ ⟨rfl, rfl⟩
    rw [i_in_nI c0 hT31]
    refine e_if_eqN 21 dX3_outcomeIfSettled_10 (by decide) (by first | omega | decide) (fun q => absurd q (by decide)) (fun hc10 => ?_)
    refine e_aload0 dX3_outcomeIfSettled_13 ?_
    refine e_iload1 dX3_outcomeIfSettled_14 ?_
    refine e_vIF (M' := mX3_settledOutcome) fX3_settledOutcome lkX3_232 (r_settledOutcome h (nI 0) sf asd sts snp txt rdd (nI (aC A)) (nI (aN A)) (nI (aL A)) pt iw rm (aX A) hR hJ (t := t) (Nat.lt_of_lt_of_le c0 hW.1)) rfl rfl dX3_outcomeIfSettled_15 rfl rfl (by decide) (Nat.le_of_ble_eq_true rfl) rfl ?_
    rintro _ _ ⟨rfl, sf3, a3, hR3, rfl⟩
    refine e_goto 26 dX3_outcomeIfSettled_18 (by decide) ?_
    refine e_iret dX3_outcomeIfSettled_26 rfl ?_
    exact ⟨_, rfl, rfl, _, ⟨sf3, a3, sts, snp, txt, rdd, pt, iw, rm, rfl, hR3, hS2, hY, hT⟩, fun _ => rfl, rfl⟩
set_option maxRecDepth 20000 in
set_option maxHeartbeats 4000000 in
theorem p_amountIfSettled (h : qB) {n : Nat} {A : qA} (hG : GA n A) {F : List qE} (hB : RB A F) {x : Int32} {code : Nat} {v : Int32} {A2 : qA} (hS : S_amountIfSettled A x code v A2) : CtI mX3_amountIfSettled 12 [qR 11 0, qI x] (q_put h 11 F) (fun r h2 => ∃ F', RBt A2 F' (nI code) ∧ (code = 0 → r = v) ∧ h2 = q_put h 11 F') := by
  obtain ⟨th, sf, asd, sts, snp, txt, rdd, pt, iw, rm, rfl, hR, hS2, hY, hT⟩ := hB
  have hJ := hG.1.1
  have hW := wk_J hJ
  have hT61 : (aX A).1 0 0 < 61 := Nat.lt_of_le_of_lt hW.1 (by decide)
  have hW61 : (aX A).1 0 4 < 61 := Nat.lt_of_le_of_lt hW.2.1 (by decide)
  have hT31 : (aX A).1 0 0 < 2 ^ 31 := Nat.lt_of_lt_of_le hT61 (by decide)
  have hW31 : (aX A).1 0 4 < 2 ^ 31 := Nat.lt_of_lt_of_le hW61 (by decide)
  rcases hS with ⟨c0, rfl, rfl⟩ | ⟨s, c0, rfl, rfl, rfl, rfl⟩
  · refine ct_of (by decide +kernel) rfl rfl (Nat.le_of_ble_eq_true rfl) ?_
    show Ev mX3_amountIfSettled 12 0 [some (qR 11 0), some (qI (x))] [] 132 (q_put h 11 (oR th sf asd sts snp txt rdd (nI (aC A)) (nI (aN A)) (nI (aL A)) pt iw rm)) 0 0 _ _
    refine e_aload0 dX3_amountIfSettled_0 ?_
    refine e_iconst (z := 0) dX3_amountIfSettled_1 ?_
    refine e_putfieldF flX3_28 dX3_amountIfSettled_2 rfl (Nat.le_of_ble_eq_true rfl) (fun _ => rfl) (fun _ => rfl) ?_
    refine e_iload1 dX3_amountIfSettled_5 ?_
    refine e_sI (M' := mX3_isStore) fX3_isStore lkX3_103 (r_isStore _ (x)) rfl rfl dX3_amountIfSettled_6 (by decide) (Nat.le_of_ble_eq_true rfl) rfl ?_
    rintro _ _ ⟨rfl, rfl⟩
    rw [c0]
    refine e_if_eqN 20 dX3_amountIfSettled_9 (by decide) (by first | omega | decide) (fun hc9 => ?_) (fun q => absurd rfl q)
    refine e_aload0 dX3_amountIfSettled_20 ?_
    refine e_iconst (z := 1) dX3_amountIfSettled_21 ?_
    refine e_vIF (M' := mX3_fails) fX3_fails lkX3_106 (r_fails h (nI 0) sf asd sts snp txt rdd (nI (aC A)) (nI (aN A)) (nI (aL A)) pt iw rm (x := nI 1)) rfl rfl dX3_amountIfSettled_22 rfl rfl (by decide) (Nat.le_of_ble_eq_true rfl) rfl ?_
    rintro _ _ ⟨rfl, rfl⟩
    refine e_iret dX3_amountIfSettled_25 rfl ?_
    exact ⟨_, rfl, rfl, _, ⟨sf, asd, sts, snp, txt, rdd, pt, iw, rm, rfl, hR, hS2, hY, hT⟩, fun q => absurd q (by decide), rfl⟩
  · refine ct_of (by decide +kernel) rfl rfl (Nat.le_of_ble_eq_true rfl) ?_
    show Ev mX3_amountIfSettled 12 0 [some (qR 11 0), some (qI (nI s))] [] 132 (q_put h 11 (oR th sf asd sts snp txt rdd (nI (aC A)) (nI (aN A)) (nI (aL A)) pt iw rm)) 0 0 _ _
    refine e_aload0 dX3_amountIfSettled_0 ?_
    refine e_iconst (z := 0) dX3_amountIfSettled_1 ?_
    refine e_putfieldF flX3_28 dX3_amountIfSettled_2 rfl (Nat.le_of_ble_eq_true rfl) (fun _ => rfl) (fun _ => rfl) ?_
    refine e_iload1 dX3_amountIfSettled_5 ?_
    refine e_sI (M' := mX3_isStore) fX3_isStore lkX3_103 (r_isStore _ (nI s)) rfl rfl dX3_amountIfSettled_6 (by decide) (Nat.le_of_ble_eq_true rfl) rfl ?_
    rintro _ _ ⟨rfl, rfl⟩
    rw [i_in_nI c0 (by decide)]
    refine e_if_eqN 20 dX3_amountIfSettled_9 (by decide) (by first | omega | decide) (fun q => absurd q (by decide)) (fun hc9 => ?_)
    refine e_aload0 dX3_amountIfSettled_12 ?_
    refine e_iload1 dX3_amountIfSettled_13 ?_
    refine e_vIF (M' := mX3_settledAmount) fX3_settledAmount lkX3_235 (r_settledAmount h (nI 0) sf asd sts snp txt rdd (nI (aC A)) (nI (aN A)) (nI (aL A)) pt iw rm (aX A) hR hJ (s := s) c0) rfl rfl dX3_amountIfSettled_14 rfl rfl (by decide) (Nat.le_of_ble_eq_true rfl) rfl ?_
    rintro _ _ ⟨rfl, sf3, a3, hR3, rfl⟩
    refine e_goto 25 dX3_amountIfSettled_17 (by decide) ?_
    refine e_iret dX3_amountIfSettled_25 rfl ?_
    exact ⟨_, rfl, rfl, _, ⟨sf3, a3, sts, snp, txt, rdd, pt, iw, rm, rfl, hR3, hS2, hY, hT⟩, fun _ => rfl, rfl⟩
set_option maxRecDepth 20000 in
set_option maxHeartbeats 4000000 in
theorem p_greatestSize (h : qB) {n : Nat} {A : qA} (hG : GA n A) {F : List qE} (hB : RB A F) {x y : Int32} {code : Nat} {v : Int32} {A2 : qA} (hS : S_greatestSize A x y code v A2) : CtI mX3_greatestSize 12 [qR 11 0, qI x, qI y] (q_put h 11 F) (fun r h2 => ∃ F', RBt A2 F' (nI code) ∧ (code = 0 → r = v) ∧ h2 = q_put h 11 F') := by
  obtain ⟨th, sf, asd, sts, snp, txt, rdd, pt, iw, rm, rfl, hR, hS2, hY, hT⟩ := hB
  have hJ := hG.1.1
  have hW := wk_J hJ
  have hT61 : (aX A).1 0 0 < 61 := Nat.lt_of_le_of_lt hW.1 (by decide)
  have hW61 : (aX A).1 0 4 < 61 := Nat.lt_of_le_of_lt hW.2.1 (by decide)
  have hT31 : (aX A).1 0 0 < 2 ^ 31 := Nat.lt_of_lt_of_le hT61 (by decide)
  have hW31 : (aX A).1 0 4 < 2 ^ 31 := Nat.lt_of_lt_of_le hW61 (by decide)
  rcases hS with ⟨c0, rfl, rfl⟩ | ⟨f, c0, rfl, c2, rfl, rfl⟩ | ⟨f, to, c0, rfl, c2, c3, c4, rfl, rfl, rfl, rfl⟩
  · refine ct_of (by decide +kernel) rfl rfl (Nat.le_of_ble_eq_true rfl) ?_
    show Ev mX3_greatestSize 12 0 [some (qR 11 0), some (qI (x)), some (qI (y))] [] 132 (q_put h 11 (oR th sf asd sts snp txt rdd (nI (aC A)) (nI (aN A)) (nI (aL A)) pt iw rm)) 0 0 _ _
    refine e_aload0 dX3_greatestSize_0 ?_
    refine e_iconst (z := 0) dX3_greatestSize_1 ?_
    refine e_putfieldF flX3_28 dX3_greatestSize_2 rfl (Nat.le_of_ble_eq_true rfl) (fun _ => rfl) (fun _ => rfl) ?_
    refine e_iload1 dX3_greatestSize_5 ?_
    refine e_sI (M' := mX3_isStore) fX3_isStore lkX3_103 (r_isStore _ (x)) rfl rfl dX3_greatestSize_6 (by decide) (Nat.le_of_ble_eq_true rfl) rfl ?_
    rintro _ _ ⟨rfl, rfl⟩
    rw [c0]
    refine e_if_neN 18 dX3_greatestSize_9 (by decide) (by first | omega | decide) (fun q => absurd rfl q) (fun hc9 => ?_)
    refine e_aload0 dX3_greatestSize_12 ?_
    refine e_iconst (z := 1) dX3_greatestSize_13 ?_
    refine e_vIF (M' := mX3_fails) fX3_fails lkX3_106 (r_fails h (nI 0) sf asd sts snp txt rdd (nI (aC A)) (nI (aN A)) (nI (aL A)) pt iw rm (x := nI 1)) rfl rfl dX3_greatestSize_14 rfl rfl (by decide) (Nat.le_of_ble_eq_true rfl) rfl ?_
    rintro _ _ ⟨rfl, rfl⟩
    refine e_iret dX3_greatestSize_17 rfl ?_
    exact ⟨_, rfl, rfl, _, ⟨sf, asd, sts, snp, txt, rdd, pt, iw, rm, rfl, hR, hS2, hY, hT⟩, fun q => absurd q (by decide), rfl⟩
  · refine ct_of (by decide +kernel) rfl rfl (Nat.le_of_ble_eq_true rfl) ?_
    show Ev mX3_greatestSize 12 0 [some (qR 11 0), some (qI (nI f)), some (qI (y))] [] 132 (q_put h 11 (oR th sf asd sts snp txt rdd (nI (aC A)) (nI (aN A)) (nI (aL A)) pt iw rm)) 0 0 _ _
    refine e_aload0 dX3_greatestSize_0 ?_
    refine e_iconst (z := 0) dX3_greatestSize_1 ?_
    refine e_putfieldF flX3_28 dX3_greatestSize_2 rfl (Nat.le_of_ble_eq_true rfl) (fun _ => rfl) (fun _ => rfl) ?_
    refine e_iload1 dX3_greatestSize_5 ?_
    refine e_sI (M' := mX3_isStore) fX3_isStore lkX3_103 (r_isStore _ (nI f)) rfl rfl dX3_greatestSize_6 (by decide) (Nat.le_of_ble_eq_true rfl) rfl ?_
    rintro _ _ ⟨rfl, rfl⟩
    rw [i_in_nI c0 (by decide)]
    refine e_if_neN 18 dX3_greatestSize_9 (by decide) (by first | omega | decide) (fun hc9 => ?_) (fun q => absurd q (by decide))
    refine e_iload1 dX3_greatestSize_18 ?_
    refine e_iload2 dX3_greatestSize_19 ?_
    refine e_sI (M' := mX3_areStores) fX3_areStores lkX3_109 (r_areStores _ c0 y) rfl rfl dX3_greatestSize_20 (by decide) (Nat.le_of_ble_eq_true rfl) rfl ?_
    rintro _ _ ⟨rfl, rfl⟩
    rw [c2]
    refine e_if_eqN 35 dX3_greatestSize_23 (by decide) (by first | omega | decide) (fun hc23 => ?_) (fun q => absurd rfl q)
    refine e_aload0 dX3_greatestSize_35 ?_
    refine e_iconst (z := 2) dX3_greatestSize_36 ?_
    refine e_vIF (M' := mX3_fails) fX3_fails lkX3_106 (r_fails h (nI 0) sf asd sts snp txt rdd (nI (aC A)) (nI (aN A)) (nI (aL A)) pt iw rm (x := nI 2)) rfl rfl dX3_greatestSize_37 rfl rfl (by decide) (Nat.le_of_ble_eq_true rfl) rfl ?_
    rintro _ _ ⟨rfl, rfl⟩
    refine e_iret dX3_greatestSize_40 rfl ?_
    exact ⟨_, rfl, rfl, _, ⟨sf, asd, sts, snp, txt, rdd, pt, iw, rm, rfl, hR, hS2, hY, hT⟩, fun q => absurd q (by decide), rfl⟩
  · refine ct_of (by decide +kernel) rfl rfl (Nat.le_of_ble_eq_true rfl) ?_
    show Ev mX3_greatestSize 12 0 [some (qR 11 0), some (qI (nI f)), some (qI (nI to))] [] 132 (q_put h 11 (oR th sf asd sts snp txt rdd (nI (aC A)) (nI (aN A)) (nI (aL A)) pt iw rm)) 0 0 _ _
    refine e_aload0 dX3_greatestSize_0 ?_
    refine e_iconst (z := 0) dX3_greatestSize_1 ?_
    refine e_putfieldF flX3_28 dX3_greatestSize_2 rfl (Nat.le_of_ble_eq_true rfl) (fun _ => rfl) (fun _ => rfl) ?_
    refine e_iload1 dX3_greatestSize_5 ?_
    refine e_sI (M' := mX3_isStore) fX3_isStore lkX3_103 (r_isStore _ (nI f)) rfl rfl dX3_greatestSize_6 (by decide) (Nat.le_of_ble_eq_true rfl) rfl ?_
    rintro _ _ ⟨rfl, rfl⟩
    rw [i_in_nI c0 (by decide)]
    refine e_if_neN 18 dX3_greatestSize_9 (by decide) (by first | omega | decide) (fun hc9 => ?_) (fun q => absurd q (by decide))
    refine e_iload1 dX3_greatestSize_18 ?_
    refine e_iload2 dX3_greatestSize_19 ?_
    refine e_sI (M' := mX3_areStores) fX3_areStores lkX3_109 (r_areStores _ c0 (nI to)) rfl rfl dX3_greatestSize_20 (by decide) (Nat.le_of_ble_eq_true rfl) rfl ?_
    rintro _ _ ⟨rfl, rfl⟩
    rw [i_to_nI c0 c2 c3 c4]
    refine e_if_eqN 35 dX3_greatestSize_23 (by decide) (by first | omega | decide) (fun q => absurd q (by decide)) (fun hc23 => ?_)
    refine e_aload0 dX3_greatestSize_26 ?_
    refine e_iload1 dX3_greatestSize_27 ?_
    refine e_iload2 dX3_greatestSize_28 ?_
    refine e_vIF (M' := mX3_greatest) fX3_greatest lkX3_238 (r_greatest h (nI 0) sf asd sts snp txt rdd (nI (aC A)) (nI (aN A)) (nI (aL A)) pt iw rm (aX A) hR hJ (f := f) (to := to) c0 c3) rfl rfl dX3_greatestSize_29 rfl rfl (by decide) (Nat.le_of_ble_eq_true rfl) rfl ?_
    rintro _ _ ⟨rfl, rfl⟩
    refine e_goto 40 dX3_greatestSize_32 (by decide) ?_
    refine e_iret dX3_greatestSize_40 rfl ?_
    exact ⟨_, rfl, rfl, _, ⟨sf, asd, sts, snp, txt, rdd, pt, iw, rm, rfl, hR, hS2, hY, hT⟩, fun _ => rfl, rfl⟩
