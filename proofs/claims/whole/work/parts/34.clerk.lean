/-! THE MODEL'S PROGRAM: what the clerk does -/
set_option maxRecDepth 20000 in
set_option maxHeartbeats 4000000 in
theorem r_c1 (h : qB) (th : Int32) (sf asd sts snp txt rdd : Nat → Int32) (cnt hq len pt iw rm : Int32) (X : qm) (hR : RelR sf X) (hW : WK X) {t s : Nat} (ht : t < 8) (hs : s < 4) (h5 : X.1 5 t < 16) (h6 : X.1 6 t < 16) (h7 : X.1 7 t ≤ 2) (h8 : X.1 8 t ≤ 1) (hl7 : X.1 7 t = 0 → X.1 10 4 < 24) (hl8 : X.1 8 t = 0 → X.1 10 4 < 24) : CtV mX3_atClerk 4 [qR 11 0, qI (nI 1), qI (nI t), qI (nI s)] (q_put h 11 (oR th sf asd sts snp txt rdd cnt hq len pt iw rm)) (fun h2 => ∃ sf', RelR sf' (m_hYes X t s) ∧ h2 = q_put h 11 (oR th sf' asd sts snp txt rdd cnt hq len pt iw rm)) := by
  refine ct_of (by decide +kernel) rfl rfl (Nat.le_of_ble_eq_true rfl) ?_
  show Ev mX3_atClerk 4 0 [some (qR 11 0), some (qI (nI 1)), some (qI (nI t)), some (qI (nI s)), none] [] 132 (q_put h 11 (oR th sf asd sts snp txt rdd cnt hq len pt iw rm)) 0 0 _ _
  refine e_aload0 dX3_atClerk_0 ?_
  refine e_iload2 dX3_atClerk_1 ?_
  refine e_iconst (z := 5) dX3_atClerk_2 ?_
  refine e_vIF (M' := mX3_of) fX3_of lkX3_39 (r_of5 h th sf asd sts snp txt rdd cnt hq len pt iw rm X hR (t := t) ht) rfl rfl dX3_atClerk_3 rfl rfl (by decide) (Nat.le_of_ble_eq_true rfl) rfl ?_
  rintro _ _ ⟨rfl, rfl⟩
  refine e_if_neN 13 dX3_atClerk_6 (by decide) (by omega) (fun hc6 => ?_) (fun hc6 => ?_)
  · refine e_iconst (z := 0) dX3_atClerk_13 ?_
    refine e_istore4 dX3_atClerk_14 rfl (by decide) ?_
    refine e_iload1 dX3_atClerk_16 ?_
    refine e_iconst (z := 1) dX3_atClerk_17 ?_
    refine e_icmp_neN 65 dX3_atClerk_18 (by decide) (by first | omega | decide) (by first | omega | decide) (fun q => absurd rfl q) (fun hc18 => ?_)
    refine e_iload4 dX3_atClerk_21 ?_
    refine e_if_eqN 65 dX3_atClerk_23 (by decide) (by first | omega | decide) (fun hc23 => ?_) (fun q => absurd rfl q)
    refine e_iload1 dX3_atClerk_65 ?_
    refine e_iconst (z := 2) dX3_atClerk_66 ?_
    refine e_icmp_neN 84 dX3_atClerk_67 (by decide) (by first | omega | decide) (by first | omega | decide) (fun hc67 => ?_) (fun q => absurd q (by decide))
    refine e_iload1 dX3_atClerk_84 ?_
    refine e_iconst (z := 5) dX3_atClerk_85 ?_
    refine e_icmp_neN 147 dX3_atClerk_86 (by decide) (by first | omega | decide) (by first | omega | decide) (fun hc86 => ?_) (fun q => absurd q (by decide))
    refine e_iload1 dX3_atClerk_147 ?_
    refine e_bipush (v := nI 6) dX3_atClerk_148 (by decide) ?_
    refine e_icmp_neN 172 dX3_atClerk_150 (by decide) (by first | omega | decide) (by first | omega | decide) (fun hc150 => ?_) (fun q => absurd q (by decide))
    refine e_vret dX3_atClerk_172 rfl ?_
    exact ⟨rfl, rfl, sf, by rw [m_hYes, if_neg hc6]; exact hR, rfl⟩
  · refine e_iconst (z := 1) dX3_atClerk_9 ?_
    refine e_goto 14 dX3_atClerk_10 (by decide) ?_
    refine e_istore4 dX3_atClerk_14 rfl (by decide) ?_
    refine e_iload1 dX3_atClerk_16 ?_
    refine e_iconst (z := 1) dX3_atClerk_17 ?_
    refine e_icmp_neN 65 dX3_atClerk_18 (by decide) (by first | omega | decide) (by first | omega | decide) (fun q => absurd rfl q) (fun hc18 => ?_)
    refine e_iload4 dX3_atClerk_21 ?_
    refine e_if_eqN 65 dX3_atClerk_23 (by decide) (by first | omega | decide) (fun q => absurd q (by decide)) (fun hc23 => ?_)
    refine e_aload0 dX3_atClerk_26 ?_
    refine e_iload2 dX3_atClerk_27 ?_
    refine e_iconst (z := 3) dX3_atClerk_28 ?_
    refine e_aload0 dX3_atClerk_29 ?_
    refine e_iload2 dX3_atClerk_30 ?_
    refine e_iconst (z := 3) dX3_atClerk_31 ?_
    refine e_vIF (M' := mX3_of) fX3_of lkX3_39 (r_of3 h th sf asd sts snp txt rdd cnt hq len pt iw rm X hR (t := t) ht) rfl rfl dX3_atClerk_32 rfl rfl (by decide) (Nat.le_of_ble_eq_true rfl) rfl ?_
    rintro _ _ ⟨rfl, rfl⟩
    refine e_iconst (z := 1) dX3_atClerk_35 ?_
    refine e_iload3 dX3_atClerk_36 ?_
    refine e_ishl dX3_atClerk_37 ?_
    refine e_ior dX3_atClerk_38 ?_
    rw [b_or _ h5 _ hs]
    refine e_vVF (M' := mX3_lay) fX3_lay lkX3_64 (r_lay h th sf asd sts snp txt rdd cnt hq len pt iw rm (t := t) (j := 3) (v := nI (X.1 5 t ||| 2 ^ s)) ht (by decide)) rfl rfl dX3_atClerk_39 rfl rfl (by decide) (Nat.le_of_ble_eq_true rfl) rfl ?_
    rintro _ rfl
    have hR1 : RelR (upd sf (14 + 7 * t + 3) (nI (X.1 5 t ||| 2 ^ s))) (xs X 5 t (X.1 5 t ||| 2 ^ s)) := relR_t hR (t := t) (j := 3) (v := (X.1 5 t ||| 2 ^ s)) ht (by decide)
    have hW1 : WK (xs X 5 t (X.1 5 t ||| 2 ^ s)) := wk_xs hW (by decide) (by decide) (by decide) (by decide)
    have hv : (X.1 5 t ||| 2 ^ s) < 16 := b_or4 _ h5 _ hs
    refine e_aload0 dX3_atClerk_42 ?_
    refine e_iload2 dX3_atClerk_43 ?_
    refine e_iconst (z := 3) dX3_atClerk_44 ?_
    refine e_vIF (M' := mX3_of) fX3_of lkX3_39 (r_of3 h th (upd sf (14 + 7 * t + 3) (nI (X.1 5 t ||| 2 ^ s))) asd sts snp txt rdd cnt hq len pt iw rm (xs X 5 t (X.1 5 t ||| 2 ^ s)) hR1 (t := t) ht) rfl rfl dX3_atClerk_45 rfl rfl (by decide) (Nat.le_of_ble_eq_true rfl) rfl ?_
    rintro _ _ ⟨rfl, rfl⟩
    refine e_aload0 dX3_atClerk_48 ?_
    refine e_iload2 dX3_atClerk_49 ?_
    refine e_vIF (M' := mX3_all) fX3_all lkX3_57 (r_all h th (upd sf (14 + 7 * t + 3) (nI (X.1 5 t ||| 2 ^ s))) asd sts snp txt rdd cnt hq len pt iw rm (xs X 5 t (X.1 5 t ||| 2 ^ s)) hR1 (t := t) (hW.2.2.2.2 t ht).1 (hW.2.2.2.2 t ht).2 ht) rfl rfl dX3_atClerk_50 rfl rfl (by decide) (Nat.le_of_ble_eq_true rfl) rfl ?_
    rintro _ _ ⟨rfl, rfl⟩
    rw [show m_part (xs X 5 t (X.1 5 t ||| 2 ^ s)) t = m_part X t from rfl, show (xs X 5 t (X.1 5 t ||| 2 ^ s)).1 5 t = (X.1 5 t ||| 2 ^ s) from if_pos ⟨rfl, rfl⟩]
    have hp := m_part_wk hW ht
    first | refine e_icmp_neN 172 dX3_atClerk_53 (by decide) (by omega) (by omega) (fun hc53 => ?_) (fun hc53 => ?_) | refine e_icmp_ne 172 dX3_atClerk_53 (by decide) (fun hc53 => ?_) (fun hc53 => ?_)
    · refine e_vret dX3_atClerk_172 rfl ?_
      first
        | exact ⟨rfl, rfl, sf2, by rw [m_hYes, if_pos hc6, if_pos hc53]; exact hR2, rfl⟩
        | exact ⟨rfl, rfl, _, by rw [m_hYes, if_pos hc6, if_neg hc53]; exact hR1, rfl⟩
    · refine e_aload0 dX3_atClerk_56 ?_
      refine e_iload2 dX3_atClerk_57 ?_
      refine e_iconst (z := 1) dX3_atClerk_58 ?_
      refine e_vVF (M' := mX3_decides) fX3_decides lkX3_81 (r_decides h th (upd sf (14 + 7 * t + 3) (nI (X.1 5 t ||| 2 ^ s))) asd sts snp txt rdd cnt hq len pt iw rm (xs X 5 t (X.1 5 t ||| 2 ^ s)) hR1 hW1 (t := t) (oc := 1) ht (hl7 hc6)) rfl rfl dX3_atClerk_59 rfl rfl (by decide) (Nat.le_of_ble_eq_true rfl) rfl ?_
      rintro _ ⟨sf2, hR2, rfl⟩
      refine e_goto 172 dX3_atClerk_62 (by decide) ?_
      refine e_vret dX3_atClerk_172 rfl ?_
      first
        | exact ⟨rfl, rfl, sf2, by rw [m_hYes, if_pos hc6, if_pos hc53]; exact hR2, rfl⟩
        | exact ⟨rfl, rfl, _, by rw [m_hYes, if_pos hc6, if_neg hc53]; exact hR1, rfl⟩
set_option maxRecDepth 20000 in
set_option maxHeartbeats 4000000 in
theorem r_c2 (h : qB) (th : Int32) (sf asd sts snp txt rdd : Nat → Int32) (cnt hq len pt iw rm : Int32) (X : qm) (hR : RelR sf X) (hW : WK X) {t s : Nat} (ht : t < 8) (hs : s < 4) (h5 : X.1 5 t < 16) (h6 : X.1 6 t < 16) (h7 : X.1 7 t ≤ 2) (h8 : X.1 8 t ≤ 1) (hl7 : X.1 7 t = 0 → X.1 10 4 < 24) (hl8 : X.1 8 t = 0 → X.1 10 4 < 24) : CtV mX3_atClerk 4 [qR 11 0, qI (nI 2), qI (nI t), qI (nI s)] (q_put h 11 (oR th sf asd sts snp txt rdd cnt hq len pt iw rm)) (fun h2 => ∃ sf', RelR sf' (m_hNo X t) ∧ h2 = q_put h 11 (oR th sf' asd sts snp txt rdd cnt hq len pt iw rm)) := by
  refine ct_of (by decide +kernel) rfl rfl (Nat.le_of_ble_eq_true rfl) ?_
  show Ev mX3_atClerk 4 0 [some (qR 11 0), some (qI (nI 2)), some (qI (nI t)), some (qI (nI s)), none] [] 132 (q_put h 11 (oR th sf asd sts snp txt rdd cnt hq len pt iw rm)) 0 0 _ _
  refine e_aload0 dX3_atClerk_0 ?_
  refine e_iload2 dX3_atClerk_1 ?_
  refine e_iconst (z := 5) dX3_atClerk_2 ?_
  refine e_vIF (M' := mX3_of) fX3_of lkX3_39 (r_of5 h th sf asd sts snp txt rdd cnt hq len pt iw rm X hR (t := t) ht) rfl rfl dX3_atClerk_3 rfl rfl (by decide) (Nat.le_of_ble_eq_true rfl) rfl ?_
  rintro _ _ ⟨rfl, rfl⟩
  refine e_if_neN 13 dX3_atClerk_6 (by decide) (by omega) (fun hc6 => ?_) (fun hc6 => ?_)
  · refine e_iconst (z := 0) dX3_atClerk_13 ?_
    refine e_istore4 dX3_atClerk_14 rfl (by decide) ?_
    refine e_iload1 dX3_atClerk_16 ?_
    refine e_iconst (z := 1) dX3_atClerk_17 ?_
    refine e_icmp_neN 65 dX3_atClerk_18 (by decide) (by first | omega | decide) (by first | omega | decide) (fun hc18 => ?_) (fun q => absurd q (by decide))
    refine e_iload1 dX3_atClerk_65 ?_
    refine e_iconst (z := 2) dX3_atClerk_66 ?_
    refine e_icmp_neN 84 dX3_atClerk_67 (by decide) (by first | omega | decide) (by first | omega | decide) (fun q => absurd rfl q) (fun hc67 => ?_)
    refine e_iload4 dX3_atClerk_70 ?_
    refine e_if_eqN 84 dX3_atClerk_72 (by decide) (by first | omega | decide) (fun hc72 => ?_) (fun q => absurd rfl q)
    refine e_iload1 dX3_atClerk_84 ?_
    refine e_iconst (z := 5) dX3_atClerk_85 ?_
    refine e_icmp_neN 147 dX3_atClerk_86 (by decide) (by first | omega | decide) (by first | omega | decide) (fun hc86 => ?_) (fun q => absurd q (by decide))
    refine e_iload1 dX3_atClerk_147 ?_
    refine e_bipush (v := nI 6) dX3_atClerk_148 (by decide) ?_
    refine e_icmp_neN 172 dX3_atClerk_150 (by decide) (by first | omega | decide) (by first | omega | decide) (fun hc150 => ?_) (fun q => absurd q (by decide))
    refine e_vret dX3_atClerk_172 rfl ?_
    exact ⟨rfl, rfl, sf, by rw [m_hNo, if_neg hc6]; exact hR, rfl⟩
  · refine e_iconst (z := 1) dX3_atClerk_9 ?_
    refine e_goto 14 dX3_atClerk_10 (by decide) ?_
    refine e_istore4 dX3_atClerk_14 rfl (by decide) ?_
    refine e_iload1 dX3_atClerk_16 ?_
    refine e_iconst (z := 1) dX3_atClerk_17 ?_
    refine e_icmp_neN 65 dX3_atClerk_18 (by decide) (by first | omega | decide) (by first | omega | decide) (fun hc18 => ?_) (fun q => absurd q (by decide))
    refine e_iload1 dX3_atClerk_65 ?_
    refine e_iconst (z := 2) dX3_atClerk_66 ?_
    refine e_icmp_neN 84 dX3_atClerk_67 (by decide) (by first | omega | decide) (by first | omega | decide) (fun q => absurd rfl q) (fun hc67 => ?_)
    refine e_iload4 dX3_atClerk_70 ?_
    refine e_if_eqN 84 dX3_atClerk_72 (by decide) (by first | omega | decide) (fun q => absurd q (by decide)) (fun hc72 => ?_)
    refine e_aload0 dX3_atClerk_75 ?_
    refine e_iload2 dX3_atClerk_76 ?_
    refine e_iconst (z := 2) dX3_atClerk_77 ?_
    refine e_vVF (M' := mX3_decides) fX3_decides lkX3_81 (r_decides h th sf asd sts snp txt rdd cnt hq len pt iw rm X hR hW (t := t) (oc := 2) ht (hl7 hc6)) rfl rfl dX3_atClerk_78 rfl rfl (by decide) (Nat.le_of_ble_eq_true rfl) rfl ?_
    rintro _ ⟨sf2, hR2, rfl⟩
    refine e_goto 172 dX3_atClerk_81 (by decide) ?_
    refine e_vret dX3_atClerk_172 rfl ?_
    exact ⟨rfl, rfl, sf2, by rw [m_hNo, if_pos hc6]; exact hR2, rfl⟩
