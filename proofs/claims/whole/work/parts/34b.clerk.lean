set_option maxRecDepth 20000 in
set_option maxHeartbeats 4000000 in
theorem r_c5 (h : qB) (th : Int32) (sf asd sts snp txt rdd : Nat → Int32) (cnt hq len pt iw rm : Int32) (X : qm) (hR : RelR sf X) (hW : WK X) {t s : Nat} (ht : t < 8) (hs : s < 4) (h5 : X.1 5 t < 16) (h6 : X.1 6 t < 16) (h7 : X.1 7 t ≤ 2) (h8 : X.1 8 t ≤ 1) (hl7 : X.1 7 t = 0 → X.1 10 4 < 24) (hl8 : X.1 8 t = 0 → X.1 10 4 < 24) : CtV mX3_atClerk 4 [qR 11 0, qI (nI 5), qI (nI t), qI (nI s)] (q_put h 11 (oR th sf asd sts snp txt rdd cnt hq len pt iw rm)) (fun h2 => ∃ sf', RelR sf' (m_hDone X t s) ∧ h2 = q_put h 11 (oR th sf' asd sts snp txt rdd cnt hq len pt iw rm)) := by
  refine ct_of (by decide +kernel) rfl rfl (Nat.le_of_ble_eq_true rfl) ?_
  show Ev mX3_atClerk 4 0 [some (qR 11 0), some (qI (nI 5)), some (qI (nI t)), some (qI (nI s)), none] [] 132 (q_put h 11 (oR th sf asd sts snp txt rdd cnt hq len pt iw rm)) 0 0 _ _
  refine e_aload0 dX3_atClerk_0 ?_
  refine e_iload2 dX3_atClerk_1 ?_
  refine e_iconst (z := 5) dX3_atClerk_2 ?_
  refine e_vIF (M' := mX3_of) fX3_of lkX3_39 (r_of5 h th sf asd sts snp txt rdd cnt hq len pt iw rm X hR (t := t) ht) rfl rfl dX3_atClerk_3 rfl rfl (by decide) (Nat.le_of_ble_eq_true rfl) rfl ?_
  rintro _ _ ⟨rfl, rfl⟩
  refine e_if_neN 13 dX3_atClerk_6 (by decide) (by omega) (fun hc6 => ?_) (fun hc6 => ?_)
  · refine e_iconst (z := 0) dX3_atClerk_13 ?_
    refine e_istore4 dX3_atClerk_14 rfl (by decide) ?_
    refine e_iload1 dX3_atClerk_16 ?_
    refine e_iconst (z := 1) dX3_atClerk_17 ?_
    refine e_icmp_neN 65 dX3_atClerk_18 (by decide) (by first | omega | decide) (by first | omega | decide) (fun hc18 => ?_) (fun q => absurd q (by decide))
    refine e_iload1 dX3_atClerk_65 ?_
    refine e_iconst (z := 2) dX3_atClerk_66 ?_
    refine e_icmp_neN 84 dX3_atClerk_67 (by decide) (by first | omega | decide) (by first | omega | decide) (fun hc67 => ?_) (fun q => absurd q (by decide))
    refine e_iload1 dX3_atClerk_84 ?_
    refine e_iconst (z := 5) dX3_atClerk_85 ?_
    refine e_icmp_neN 147 dX3_atClerk_86 (by decide) (by first | omega | decide) (by first | omega | decide) (fun q => absurd rfl q) (fun hc86 => ?_)
    refine e_aload0 dX3_atClerk_89 ?_
    refine e_iload2 dX3_atClerk_90 ?_
    refine e_iconst (z := 4) dX3_atClerk_91 ?_
    refine e_aload0 dX3_atClerk_92 ?_
    refine e_iload2 dX3_atClerk_93 ?_
    refine e_iconst (z := 4) dX3_atClerk_94 ?_
    refine e_vIF (M' := mX3_of) fX3_of lkX3_39 (r_of4 h th sf asd sts snp txt rdd cnt hq len pt iw rm X hR (t := t) ht) rfl rfl dX3_atClerk_95 rfl rfl (by decide) (Nat.le_of_ble_eq_true rfl) rfl ?_
    rintro _ _ ⟨rfl, rfl⟩
    refine e_iconst (z := 1) dX3_atClerk_98 ?_
    refine e_iload3 dX3_atClerk_99 ?_
    refine e_ishl dX3_atClerk_100 ?_
    refine e_ior dX3_atClerk_101 ?_
    rw [b_or _ h6 _ hs]
    refine e_vVF (M' := mX3_lay) fX3_lay lkX3_64 (r_lay h th sf asd sts snp txt rdd cnt hq len pt iw rm (t := t) (j := 4) (v := nI (X.1 6 t ||| 2 ^ s)) ht (by decide)) rfl rfl dX3_atClerk_102 rfl rfl (by decide) (Nat.le_of_ble_eq_true rfl) rfl ?_
    rintro _ rfl
    have hR1 : RelR (upd sf (14 + 7 * t + 4) (nI (X.1 6 t ||| 2 ^ s))) (xs X 6 t (X.1 6 t ||| 2 ^ s)) := relR_t hR (t := t) (j := 4) (v := (X.1 6 t ||| 2 ^ s)) ht (by decide)
    have hW1 : WK (xs X 6 t (X.1 6 t ||| 2 ^ s)) := wk_xs hW (by decide) (by decide) (by decide) (by decide)
    have hv : (X.1 6 t ||| 2 ^ s) < 16 := b_or4 _ h6 _ hs
    refine e_aload0 dX3_atClerk_105 ?_
    refine e_iload2 dX3_atClerk_106 ?_
    refine e_iconst (z := 4) dX3_atClerk_107 ?_
    refine e_vIF (M' := mX3_of) fX3_of lkX3_39 (r_of4 h th (upd sf (14 + 7 * t + 4) (nI (X.1 6 t ||| 2 ^ s))) asd sts snp txt rdd cnt hq len pt iw rm (xs X 6 t (X.1 6 t ||| 2 ^ s)) hR1 (t := t) ht) rfl rfl dX3_atClerk_108 rfl rfl (by decide) (Nat.le_of_ble_eq_true rfl) rfl ?_
    rintro _ _ ⟨rfl, rfl⟩
    refine e_aload0 dX3_atClerk_111 ?_
    refine e_iload2 dX3_atClerk_112 ?_
    refine e_vIF (M' := mX3_all) fX3_all lkX3_57 (r_all h th (upd sf (14 + 7 * t + 4) (nI (X.1 6 t ||| 2 ^ s))) asd sts snp txt rdd cnt hq len pt iw rm (xs X 6 t (X.1 6 t ||| 2 ^ s)) hR1 (t := t) (hW.2.2.2.2 t ht).1 (hW.2.2.2.2 t ht).2 ht) rfl rfl dX3_atClerk_113 rfl rfl (by decide) (Nat.le_of_ble_eq_true rfl) rfl ?_
    rintro _ _ ⟨rfl, rfl⟩
    rw [show m_part (xs X 6 t (X.1 6 t ||| 2 ^ s)) t = m_part X t from rfl, show (xs X 6 t (X.1 6 t ||| 2 ^ s)).1 6 t = (X.1 6 t ||| 2 ^ s) from if_pos ⟨rfl, rfl⟩]
    have hp := m_part_wk hW ht
    first | refine e_icmp_neN 172 dX3_atClerk_116 (by decide) (by omega) (by omega) (fun hc116 => ?_) (fun hc116 => ?_) | refine e_icmp_ne 172 dX3_atClerk_116 (by decide) (fun hc116 => ?_) (fun hc116 => ?_)
    · refine e_vret dX3_atClerk_172 rfl ?_
      first
        | exact ⟨rfl, rfl, sf3, by rw [m_hDone, if_pos ⟨hc116, hc126⟩]; exact hR3, rfl⟩
        | exact ⟨rfl, rfl, _, by rw [m_hDone, if_neg (fun c => hc116 c.1)]; exact hR1, rfl⟩
        | exact ⟨rfl, rfl, _, by rw [m_hDone, if_neg (fun c => hc126 c.2)]; exact hR1, rfl⟩
    · refine e_aload0 dX3_atClerk_119 ?_
      refine e_iload2 dX3_atClerk_120 ?_
      refine e_bipush (v := nI 6) dX3_atClerk_121 (by decide) ?_
      refine e_vIF (M' := mX3_of) fX3_of lkX3_39 (r_of6 h th (upd sf (14 + 7 * t + 4) (nI (X.1 6 t ||| 2 ^ s))) asd sts snp txt rdd cnt hq len pt iw rm (xs X 6 t (X.1 6 t ||| 2 ^ s)) hR1 (t := t) ht) rfl rfl dX3_atClerk_123 rfl rfl (by decide) (Nat.le_of_ble_eq_true rfl) rfl ?_
      rintro _ _ ⟨rfl, rfl⟩
      rw [show (xs X 6 t (X.1 6 t ||| 2 ^ s)).1 8 t = X.1 8 t from rfl]
      first | refine e_if_neN 172 dX3_atClerk_126 (by decide) (by omega) (fun hc126 => ?_) (fun hc126 => ?_) | refine e_if_ne 172 dX3_atClerk_126 (by decide) (fun hc126 => ?_) (fun hc126 => ?_)
      · refine e_vret dX3_atClerk_172 rfl ?_
        first
          | exact ⟨rfl, rfl, sf3, by rw [m_hDone, if_pos ⟨hc116, hc126⟩]; exact hR3, rfl⟩
          | exact ⟨rfl, rfl, _, by rw [m_hDone, if_neg (fun c => hc116 c.1)]; exact hR1, rfl⟩
          | exact ⟨rfl, rfl, _, by rw [m_hDone, if_neg (fun c => hc126 c.2)]; exact hR1, rfl⟩
      · refine e_aload0 dX3_atClerk_129 ?_
        refine e_iload2 dX3_atClerk_130 ?_
        refine e_bipush (v := nI 6) dX3_atClerk_131 (by decide) ?_
        refine e_iconst (z := 1) dX3_atClerk_133 ?_
        refine e_vVF (M' := mX3_lay) fX3_lay lkX3_64 (r_lay h th (upd sf (14 + 7 * t + 4) (nI (X.1 6 t ||| 2 ^ s))) asd sts snp txt rdd cnt hq len pt iw rm (t := t) (j := 6) (v := nI 1) ht (by decide)) rfl rfl dX3_atClerk_134 rfl rfl (by decide) (Nat.le_of_ble_eq_true rfl) rfl ?_
        rintro _ rfl
        have hR2 : RelR (upd (upd sf (14 + 7 * t + 4) (nI (X.1 6 t ||| 2 ^ s))) (14 + 7 * t + 6) (nI 1)) (xs (xs X 6 t (X.1 6 t ||| 2 ^ s)) 8 t 1) := relR_t hR1 (t := t) (j := 6) (v := 1) ht (by decide)
        have hW2 : WK (xs (xs X 6 t (X.1 6 t ||| 2 ^ s)) 8 t 1) := wk_xs hW1 (by decide) (by decide) (by decide) (by decide)
        refine e_aload0 dX3_atClerk_137 ?_
        refine e_iconst (z := 4) dX3_atClerk_138 ?_
        refine e_iconst (z := 3) dX3_atClerk_139 ?_
        refine e_iload2 dX3_atClerk_140 ?_
        refine e_vVF (M' := mX3_writes) fX3_writes lkX3_67 (r_writes h th (upd (upd sf (14 + 7 * t + 4) (nI (X.1 6 t ||| 2 ^ s))) (14 + 7 * t + 6) (nI 1)) asd sts snp txt rdd cnt hq len pt iw rm (xs (xs X 6 t (X.1 6 t ||| 2 ^ s)) 8 t 1) hR2 hW2 (s := 4) (kd := 3) (t := t) (by decide) (hl8 hc126) (fun q => absurd q (by decide))) rfl rfl dX3_atClerk_141 rfl rfl (by decide) (Nat.le_of_ble_eq_true rfl) rfl ?_
        rintro _ ⟨sf3, hR3, rfl⟩
        rw [m_write_xs (by decide) (by decide)] at hR3
        refine e_goto 172 dX3_atClerk_144 (by decide) ?_
        refine e_vret dX3_atClerk_172 rfl ?_
        first
          | exact ⟨rfl, rfl, sf3, by rw [m_hDone, if_pos ⟨hc116, hc126⟩]; exact hR3, rfl⟩
          | exact ⟨rfl, rfl, _, by rw [m_hDone, if_neg (fun c => hc116 c.1)]; exact hR1, rfl⟩
          | exact ⟨rfl, rfl, _, by rw [m_hDone, if_neg (fun c => hc126 c.2)]; exact hR1, rfl⟩
  · refine e_iconst (z := 1) dX3_atClerk_9 ?_
    refine e_goto 14 dX3_atClerk_10 (by decide) ?_
    refine e_istore4 dX3_atClerk_14 rfl (by decide) ?_
    refine e_iload1 dX3_atClerk_16 ?_
    refine e_iconst (z := 1) dX3_atClerk_17 ?_
    refine e_icmp_neN 65 dX3_atClerk_18 (by decide) (by first | omega | decide) (by first | omega | decide) (fun hc18 => ?_) (fun q => absurd q (by decide))
    refine e_iload1 dX3_atClerk_65 ?_
    refine e_iconst (z := 2) dX3_atClerk_66 ?_
    refine e_icmp_neN 84 dX3_atClerk_67 (by decide) (by first | omega | decide) (by first | omega | decide) (fun hc67 => ?_) (fun q => absurd q (by decide))
    refine e_iload1 dX3_atClerk_84 ?_
    refine e_iconst (z := 5) dX3_atClerk_85 ?_
    refine e_icmp_neN 147 dX3_atClerk_86 (by decide) (by first | omega | decide) (by first | omega | decide) (fun q => absurd rfl q) (fun hc86 => ?_)
    refine e_aload0 dX3_atClerk_89 ?_
    refine e_iload2 dX3_atClerk_90 ?_
    refine e_iconst (z := 4) dX3_atClerk_91 ?_
    refine e_aload0 dX3_atClerk_92 ?_
    refine e_iload2 dX3_atClerk_93 ?_
    refine e_iconst (z := 4) dX3_atClerk_94 ?_
    refine e_vIF (M' := mX3_of) fX3_of lkX3_39 (r_of4 h th sf asd sts snp txt rdd cnt hq len pt iw rm X hR (t := t) ht) rfl rfl dX3_atClerk_95 rfl rfl (by decide) (Nat.le_of_ble_eq_true rfl) rfl ?_
    rintro _ _ ⟨rfl, rfl⟩
    refine e_iconst (z := 1) dX3_atClerk_98 ?_
    refine e_iload3 dX3_atClerk_99 ?_
    refine e_ishl dX3_atClerk_100 ?_
    refine e_ior dX3_atClerk_101 ?_
    rw [b_or _ h6 _ hs]
    refine e_vVF (M' := mX3_lay) fX3_lay lkX3_64 (r_lay h th sf asd sts snp txt rdd cnt hq len pt iw rm (t := t) (j := 4) (v := nI (X.1 6 t ||| 2 ^ s)) ht (by decide)) rfl rfl dX3_atClerk_102 rfl rfl (by decide) (Nat.le_of_ble_eq_true rfl) rfl ?_
    rintro _ rfl
    have hR1 : RelR (upd sf (14 + 7 * t + 4) (nI (X.1 6 t ||| 2 ^ s))) (xs X 6 t (X.1 6 t ||| 2 ^ s)) := relR_t hR (t := t) (j := 4) (v := (X.1 6 t ||| 2 ^ s)) ht (by decide)
    have hW1 : WK (xs X 6 t (X.1 6 t ||| 2 ^ s)) := wk_xs hW (by decide) (by decide) (by decide) (by decide)
    have hv : (X.1 6 t ||| 2 ^ s) < 16 := b_or4 _ h6 _ hs
    refine e_aload0 dX3_atClerk_105 ?_
    refine e_iload2 dX3_atClerk_106 ?_
    refine e_iconst (z := 4) dX3_atClerk_107 ?_
    refine e_vIF (M' := mX3_of) fX3_of lkX3_39 (r_of4 h th (upd sf (14 + 7 * t + 4) (nI (X.1 6 t ||| 2 ^ s))) asd sts snp txt rdd cnt hq len pt iw rm (xs X 6 t (X.1 6 t ||| 2 ^ s)) hR1 (t := t) ht) rfl rfl dX3_atClerk_108 rfl rfl (by decide) (Nat.le_of_ble_eq_true rfl) rfl ?_
    rintro _ _ ⟨rfl, rfl⟩
    refine e_aload0 dX3_atClerk_111 ?_
    refine e_iload2 dX3_atClerk_112 ?_
    refine e_vIF (M' := mX3_all) fX3_all lkX3_57 (r_all h th (upd sf (14 + 7 * t + 4) (nI (X.1 6 t ||| 2 ^ s))) asd sts snp txt rdd cnt hq len pt iw rm (xs X 6 t (X.1 6 t ||| 2 ^ s)) hR1 (t := t) (hW.2.2.2.2 t ht).1 (hW.2.2.2.2 t ht).2 ht) rfl rfl dX3_atClerk_113 rfl rfl (by decide) (Nat.le_of_ble_eq_true rfl) rfl ?_
    rintro _ _ ⟨rfl, rfl⟩
    rw [show m_part (xs X 6 t (X.1 6 t ||| 2 ^ s)) t = m_part X t from rfl, show (xs X 6 t (X.1 6 t ||| 2 ^ s)).1 6 t = (X.1 6 t ||| 2 ^ s) from if_pos ⟨rfl, rfl⟩]
    have hp := m_part_wk hW ht
    first | refine e_icmp_neN 172 dX3_atClerk_116 (by decide) (by omega) (by omega) (fun hc116 => ?_) (fun hc116 => ?_) | refine e_icmp_ne 172 dX3_atClerk_116 (by decide) (fun hc116 => ?_) (fun hc116 => ?_)
    · refine e_vret dX3_atClerk_172 rfl ?_
      first
        | exact ⟨rfl, rfl, sf3, by rw [m_hDone, if_pos ⟨hc116, hc126⟩]; exact hR3, rfl⟩
        | exact ⟨rfl, rfl, _, by rw [m_hDone, if_neg (fun c => hc116 c.1)]; exact hR1, rfl⟩
        | exact ⟨rfl, rfl, _, by rw [m_hDone, if_neg (fun c => hc126 c.2)]; exact hR1, rfl⟩
    · refine e_aload0 dX3_atClerk_119 ?_
      refine e_iload2 dX3_atClerk_120 ?_
      refine e_bipush (v := nI 6) dX3_atClerk_121 (by decide) ?_
      refine e_vIF (M' := mX3_of) fX3_of lkX3_39 (r_of6 h th (upd sf (14 + 7 * t + 4) (nI (X.1 6 t ||| 2 ^ s))) asd sts snp txt rdd cnt hq len pt iw rm (xs X 6 t (X.1 6 t ||| 2 ^ s)) hR1 (t := t) ht) rfl rfl dX3_atClerk_123 rfl rfl (by decide) (Nat.le_of_ble_eq_true rfl) rfl ?_
      rintro _ _ ⟨rfl, rfl⟩
      rw [show (xs X 6 t (X.1 6 t ||| 2 ^ s)).1 8 t = X.1 8 t from rfl]
      first | refine e_if_neN 172 dX3_atClerk_126 (by decide) (by omega) (fun hc126 => ?_) (fun hc126 => ?_) | refine e_if_ne 172 dX3_atClerk_126 (by decide) (fun hc126 => ?_) (fun hc126 => ?_)
      · refine e_vret dX3_atClerk_172 rfl ?_
        first
          | exact ⟨rfl, rfl, sf3, by rw [m_hDone, if_pos ⟨hc116, hc126⟩]; exact hR3, rfl⟩
          | exact ⟨rfl, rfl, _, by rw [m_hDone, if_neg (fun c => hc116 c.1)]; exact hR1, rfl⟩
          | exact ⟨rfl, rfl, _, by rw [m_hDone, if_neg (fun c => hc126 c.2)]; exact hR1, rfl⟩
      · refine e_aload0 dX3_atClerk_129 ?_
        refine e_iload2 dX3_atClerk_130 ?_
        refine e_bipush (v := nI 6) dX3_atClerk_131 (by decide) ?_
        refine e_iconst (z := 1) dX3_atClerk_133 ?_
        refine e_vVF (M' := mX3_lay) fX3_lay lkX3_64 (r_lay h th (upd sf (14 + 7 * t + 4) (nI (X.1 6 t ||| 2 ^ s))) asd sts snp txt rdd cnt hq len pt iw rm (t := t) (j := 6) (v := nI 1) ht (by decide)) rfl rfl dX3_atClerk_134 rfl rfl (by decide) (Nat.le_of_ble_eq_true rfl) rfl ?_
        rintro _ rfl
        have hR2 : RelR (upd (upd sf (14 + 7 * t + 4) (nI (X.1 6 t ||| 2 ^ s))) (14 + 7 * t + 6) (nI 1)) (xs (xs X 6 t (X.1 6 t ||| 2 ^ s)) 8 t 1) := relR_t hR1 (t := t) (j := 6) (v := 1) ht (by decide)
        have hW2 : WK (xs (xs X 6 t (X.1 6 t ||| 2 ^ s)) 8 t 1) := wk_xs hW1 (by decide) (by decide) (by decide) (by decide)
        refine e_aload0 dX3_atClerk_137 ?_
        refine e_iconst (z := 4) dX3_atClerk_138 ?_
        refine e_iconst (z := 3) dX3_atClerk_139 ?_
        refine e_iload2 dX3_atClerk_140 ?_
        refine e_vVF (M' := mX3_writes) fX3_writes lkX3_67 (r_writes h th (upd (upd sf (14 + 7 * t + 4) (nI (X.1 6 t ||| 2 ^ s))) (14 + 7 * t + 6) (nI 1)) asd sts snp txt rdd cnt hq len pt iw rm (xs (xs X 6 t (X.1 6 t ||| 2 ^ s)) 8 t 1) hR2 hW2 (s := 4) (kd := 3) (t := t) (by decide) (hl8 hc126) (fun q => absurd q (by decide))) rfl rfl dX3_atClerk_141 rfl rfl (by decide) (Nat.le_of_ble_eq_true rfl) rfl ?_
        rintro _ ⟨sf3, hR3, rfl⟩
        rw [m_write_xs (by decide) (by decide)] at hR3
        refine e_goto 172 dX3_atClerk_144 (by decide) ?_
        refine e_vret dX3_atClerk_172 rfl ?_
        first
          | exact ⟨rfl, rfl, sf3, by rw [m_hDone, if_pos ⟨hc116, hc126⟩]; exact hR3, rfl⟩
          | exact ⟨rfl, rfl, _, by rw [m_hDone, if_neg (fun c => hc116 c.1)]; exact hR1, rfl⟩
          | exact ⟨rfl, rfl, _, by rw [m_hDone, if_neg (fun c => hc126 c.2)]; exact hR1, rfl⟩
set_option maxRecDepth 20000 in
set_option maxHeartbeats 4000000 in
theorem r_c6 (h : qB) (th : Int32) (sf asd sts snp txt rdd : Nat → Int32) (cnt hq len pt iw rm : Int32) (X : qm) (hR : RelR sf X) (hW : WK X) {t s : Nat} (ht : t < 8) (hs : s < 4) (h5 : X.1 5 t < 16) (h6 : X.1 6 t < 16) (h7 : X.1 7 t ≤ 2) (h8 : X.1 8 t ≤ 1) (hl7 : X.1 7 t = 0 → X.1 10 4 < 24) (hl8 : X.1 8 t = 0 → X.1 10 4 < 24) : CtV mX3_atClerk 4 [qR 11 0, qI (nI 6), qI (nI t), qI (nI s)] (q_put h 11 (oR th sf asd sts snp txt rdd cnt hq len pt iw rm)) (fun h2 => ∃ sf', RelR sf' (m_hWhat X t s) ∧ h2 = q_put h 11 (oR th sf' asd sts snp txt rdd cnt hq len pt iw rm)) := by
  refine ct_of (by decide +kernel) rfl rfl (Nat.le_of_ble_eq_true rfl) ?_
  show Ev mX3_atClerk 4 0 [some (qR 11 0), some (qI (nI 6)), some (qI (nI t)), some (qI (nI s)), none] [] 132 (q_put h 11 (oR th sf asd sts snp txt rdd cnt hq len pt iw rm)) 0 0 _ _
  refine e_aload0 dX3_atClerk_0 ?_
  refine e_iload2 dX3_atClerk_1 ?_
  refine e_iconst (z := 5) dX3_atClerk_2 ?_
  refine e_vIF (M' := mX3_of) fX3_of lkX3_39 (r_of5 h th sf asd sts snp txt rdd cnt hq len pt iw rm X hR (t := t) ht) rfl rfl dX3_atClerk_3 rfl rfl (by decide) (Nat.le_of_ble_eq_true rfl) rfl ?_
  rintro _ _ ⟨rfl, rfl⟩
  refine e_if_neN 13 dX3_atClerk_6 (by decide) (by omega) (fun hc6 => ?_) (fun hc6 => ?_)
  · refine e_iconst (z := 0) dX3_atClerk_13 ?_
    refine e_istore4 dX3_atClerk_14 rfl (by decide) ?_
    refine e_iload1 dX3_atClerk_16 ?_
    refine e_iconst (z := 1) dX3_atClerk_17 ?_
    refine e_icmp_neN 65 dX3_atClerk_18 (by decide) (by first | omega | decide) (by first | omega | decide) (fun hc18 => ?_) (fun q => absurd q (by decide))
    refine e_iload1 dX3_atClerk_65 ?_
    refine e_iconst (z := 2) dX3_atClerk_66 ?_
    refine e_icmp_neN 84 dX3_atClerk_67 (by decide) (by first | omega | decide) (by first | omega | decide) (fun hc67 => ?_) (fun q => absurd q (by decide))
    refine e_iload1 dX3_atClerk_84 ?_
    refine e_iconst (z := 5) dX3_atClerk_85 ?_
    refine e_icmp_neN 147 dX3_atClerk_86 (by decide) (by first | omega | decide) (by first | omega | decide) (fun hc86 => ?_) (fun q => absurd q (by decide))
    refine e_iload1 dX3_atClerk_147 ?_
    refine e_bipush (v := nI 6) dX3_atClerk_148 (by decide) ?_
    refine e_icmp_neN 172 dX3_atClerk_150 (by decide) (by first | omega | decide) (by first | omega | decide) (fun q => absurd rfl q) (fun hc150 => ?_)
    refine e_iload4 dX3_atClerk_153 ?_
    refine e_if_neN 172 dX3_atClerk_155 (by decide) (by first | omega | decide) (fun q => absurd rfl q) (fun hc155 => ?_)
    refine e_aload0 dX3_atClerk_158 ?_
    refine e_iconst (z := 2) dX3_atClerk_159 ?_
    refine e_aload0 dX3_atClerk_160 ?_
    refine e_iload2 dX3_atClerk_161 ?_
    refine e_iconst (z := 5) dX3_atClerk_162 ?_
    refine e_vIF (M' := mX3_of) fX3_of lkX3_39 (r_of5 h th sf asd sts snp txt rdd cnt hq len pt iw rm X hR (t := t) ht) rfl rfl dX3_atClerk_163 rfl rfl (by decide) (Nat.le_of_ble_eq_true rfl) rfl ?_
    rintro _ _ ⟨rfl, rfl⟩
    first | refine e_iaddN dX3_atClerk_166 ?_ | refine e_iadd dX3_atClerk_166 ?_
    refine e_iload2 dX3_atClerk_167 ?_
    refine e_iload3 dX3_atClerk_168 ?_
    refine e_vVF (M' := mX3_sends) fX3_sends lkX3_60 (r_sends h th sf asd sts snp txt rdd cnt hq len pt iw rm X hR hW (kd := 2 + X.1 7 t) (t := t) (s := s)) rfl rfl dX3_atClerk_169 rfl rfl (by decide) (Nat.le_of_ble_eq_true rfl) rfl ?_
    rintro _ ⟨sf3, hR3, rfl⟩
    refine e_vret dX3_atClerk_172 rfl ?_
    exact ⟨rfl, rfl, sf3, by rw [m_hWhat, if_neg hc6]; exact hR3, rfl⟩
  · refine e_iconst (z := 1) dX3_atClerk_9 ?_
    refine e_goto 14 dX3_atClerk_10 (by decide) ?_
    refine e_istore4 dX3_atClerk_14 rfl (by decide) ?_
    refine e_iload1 dX3_atClerk_16 ?_
    refine e_iconst (z := 1) dX3_atClerk_17 ?_
    refine e_icmp_neN 65 dX3_atClerk_18 (by decide) (by first | omega | decide) (by first | omega | decide) (fun hc18 => ?_) (fun q => absurd q (by decide))
    refine e_iload1 dX3_atClerk_65 ?_
    refine e_iconst (z := 2) dX3_atClerk_66 ?_
    refine e_icmp_neN 84 dX3_atClerk_67 (by decide) (by first | omega | decide) (by first | omega | decide) (fun hc67 => ?_) (fun q => absurd q (by decide))
    refine e_iload1 dX3_atClerk_84 ?_
    refine e_iconst (z := 5) dX3_atClerk_85 ?_
    refine e_icmp_neN 147 dX3_atClerk_86 (by decide) (by first | omega | decide) (by first | omega | decide) (fun hc86 => ?_) (fun q => absurd q (by decide))
    refine e_iload1 dX3_atClerk_147 ?_
    refine e_bipush (v := nI 6) dX3_atClerk_148 (by decide) ?_
    refine e_icmp_neN 172 dX3_atClerk_150 (by decide) (by first | omega | decide) (by first | omega | decide) (fun q => absurd rfl q) (fun hc150 => ?_)
    refine e_iload4 dX3_atClerk_153 ?_
    refine e_if_neN 172 dX3_atClerk_155 (by decide) (by first | omega | decide) (fun hc155 => ?_) (fun q => absurd q (by decide))
    refine e_vret dX3_atClerk_172 rfl ?_
    exact ⟨rfl, rfl, sf, by rw [m_hWhat, if_pos hc6]; exact hR, rfl⟩
