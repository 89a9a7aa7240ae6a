set_option maxRecDepth 20000 in
set_option maxHeartbeats 4000000 in
theorem r_at3 (h : qB) (th : Int32) (sf asd sts snp txt rdd : Nat → Int32) (cnt hq len pt iw rm : Int32) (X : qm) (hR : RelR sf X) (hW : WK X) {t s : Nat} (ht : t < 8) (hs : s < 4) (hst0 : ∀ t, t < 8 → X.1 9 (8 * s + t) ≤ 3) (hl : X.1 9 (8 * s + t) < 2 → X.1 10 s < 16) : CtV mX3_atStore 4 [qR 11 0, qI (nI 3), qI (nI t), qI (nI s)] (q_put h 11 (oR th sf asd sts snp txt rdd cnt hq len pt iw rm)) (fun h2 => ∃ sf', RelR sf' (m_mk X t s) ∧ h2 = q_put h 11 (oR th sf' asd sts snp txt rdd cnt hq len pt iw rm)) := by
  refine ct_of (by decide +kernel) rfl rfl (Nat.le_of_ble_eq_true rfl) ?_
  show Ev mX3_atStore 4 0 [some (qR 11 0), some (qI (nI 3)), some (qI (nI t)), some (qI (nI s)), none] [] 132 (q_put h 11 (oR th sf asd sts snp txt rdd cnt hq len pt iw rm)) 0 0 _ _
  refine e_aload0 dX3_atStore_0 ?_
  refine e_iload3 dX3_atStore_1 ?_
  refine e_iload2 dX3_atStore_2 ?_
  refine e_vIF (M' := mX3_stateIn) fX3_stateIn lkX3_51 (r_stateIn h th sf asd sts snp txt rdd cnt hq len pt iw rm X hR (s := s) (t := t) hs ht) rfl rfl dX3_atStore_3 rfl rfl (by decide) (Nat.le_of_ble_eq_true rfl) rfl ?_
  rintro _ _ ⟨rfl, rfl⟩
  have hst := hst0 t ht
  refine e_istore4 dX3_atStore_6 rfl (by decide) ?_
  refine e_iload1 dX3_atStore_8 ?_
  refine e_if_neN 66 dX3_atStore_9 (by decide) (by first | omega | decide) (fun hc9 => ?_) (fun q => absurd q (by decide))
  refine e_iload1 dX3_atStore_66 ?_
  refine e_iconst (z := 3) dX3_atStore_67 ?_
  refine e_icmp_neN 106 dX3_atStore_68 (by decide) (by first | omega | decide) (by first | omega | decide) (fun q => absurd rfl q) (fun hc68 => ?_)
  refine e_iload4 dX3_atStore_71 ?_
  refine e_iconst (z := 1) dX3_atStore_73 ?_
  refine e_icmp_neN 84 dX3_atStore_74 (by decide) (by omega) (by decide) (fun hc74 => ?_) (fun hc74 => ?_)
  · refine e_iload4 dX3_atStore_84 ?_
    refine e_iconst (z := 1) dX3_atStore_86 ?_
    refine e_icmp_eqN 96 dX3_atStore_87 (by decide) (by first | omega | decide) (by first | omega | decide) (fun q => absurd q hc74) (fun hc87 => ?_)
    refine e_iload4 dX3_atStore_90 ?_
    refine e_iconst (z := 2) dX3_atStore_92 ?_
    first | refine e_icmp_neN 132 dX3_atStore_93 (by decide) (by omega) (by omega) (fun hc93 => ?_) (fun hc93 => ?_) | refine e_icmp_ne 132 dX3_atStore_93 (by decide) (fun hc93 => ?_) (fun hc93 => ?_)
    · refine e_vret dX3_atStore_132 rfl ?_
      first
        | exact ⟨rfl, rfl, sf3, by rw [m_mk, if_neg hc74, if_pos hc93]; exact hR3, rfl⟩
        | exact ⟨rfl, rfl, sf, by rw [m_mk, if_neg hc74, if_neg hc93]; exact hR, rfl⟩
    · refine e_aload0 dX3_atStore_96 ?_
      refine e_iconst (z := 5) dX3_atStore_97 ?_
      refine e_iload2 dX3_atStore_98 ?_
      refine e_iload3 dX3_atStore_99 ?_
      refine e_vVF (M' := mX3_sends) fX3_sends lkX3_60 (r_sends h th sf asd sts snp txt rdd cnt hq len pt iw rm X hR hW (kd := 5) (t := t) (s := s)) rfl rfl dX3_atStore_100 rfl rfl (by decide) (Nat.le_of_ble_eq_true rfl) rfl ?_
      rintro _ ⟨sf3, hR3, rfl⟩
      refine e_goto 132 dX3_atStore_103 (by decide) ?_
      refine e_vret dX3_atStore_132 rfl ?_
      first
        | exact ⟨rfl, rfl, sf3, by rw [m_mk, if_neg hc74, if_pos hc93]; exact hR3, rfl⟩
        | exact ⟨rfl, rfl, sf, by rw [m_mk, if_neg hc74, if_neg hc93]; exact hR, rfl⟩
  · refine e_aload0 dX3_atStore_77 ?_
    refine e_iload3 dX3_atStore_78 ?_
    refine e_iload2 dX3_atStore_79 ?_
    refine e_iconst (z := 2) dX3_atStore_80 ?_
    refine e_vVF (M' := mX3_becomes) fX3_becomes lkX3_78 (r_becomes h th sf asd sts snp txt rdd cnt hq len pt iw rm X hR hW (s := s) (t := t) (st := 2) hs ht (by decide) (hl (by omega))) rfl rfl dX3_atStore_81 rfl rfl (by decide) (Nat.le_of_ble_eq_true rfl) rfl ?_
    rintro _ ⟨sf2, hR2, rfl⟩
    have hW2 : WK (m_become X s t 2) := wk_become hW (Nat.lt_of_lt_of_le (hl (by omega)) (by decide)) (fun _ => hl (by omega))
    refine e_iload4 dX3_atStore_84 ?_
    refine e_iconst (z := 1) dX3_atStore_86 ?_
    refine e_icmp_eqN 96 dX3_atStore_87 (by decide) (by first | omega | decide) (by first | omega | decide) (fun hc87 => ?_) (fun q => absurd hc74 q)
    refine e_aload0 dX3_atStore_96 ?_
    refine e_iconst (z := 5) dX3_atStore_97 ?_
    refine e_iload2 dX3_atStore_98 ?_
    refine e_iload3 dX3_atStore_99 ?_
    refine e_vVF (M' := mX3_sends) fX3_sends lkX3_60 (r_sends h th sf2 asd sts snp txt rdd cnt hq len pt iw rm (m_become X s t 2) hR2 hW2 (kd := 5) (t := t) (s := s)) rfl rfl dX3_atStore_100 rfl rfl (by decide) (Nat.le_of_ble_eq_true rfl) rfl ?_
    rintro _ ⟨sf3, hR3, rfl⟩
    refine e_goto 132 dX3_atStore_103 (by decide) ?_
    refine e_vret dX3_atStore_132 rfl ?_
    exact ⟨rfl, rfl, sf3, by rw [m_mk, if_pos hc74]; exact hR3, rfl⟩
set_option maxRecDepth 20000 in
set_option maxHeartbeats 4000000 in
theorem r_at4 (h : qB) (th : Int32) (sf asd sts snp txt rdd : Nat → Int32) (cnt hq len pt iw rm : Int32) (X : qm) (hR : RelR sf X) (hW : WK X) {t s : Nat} (ht : t < 8) (hs : s < 4) (hst0 : ∀ t, t < 8 → X.1 9 (8 * s + t) ≤ 3) (hl : X.1 9 (8 * s + t) < 2 → X.1 10 s < 16) : CtV mX3_atStore 4 [qR 11 0, qI (nI 4), qI (nI t), qI (nI s)] (q_put h 11 (oR th sf asd sts snp txt rdd cnt hq len pt iw rm)) (fun h2 => ∃ sf', RelR sf' (m_dr X t s) ∧ h2 = q_put h 11 (oR th sf' asd sts snp txt rdd cnt hq len pt iw rm)) := by
  refine ct_of (by decide +kernel) rfl rfl (Nat.le_of_ble_eq_true rfl) ?_
  show Ev mX3_atStore 4 0 [some (qR 11 0), some (qI (nI 4)), some (qI (nI t)), some (qI (nI s)), none] [] 132 (q_put h 11 (oR th sf asd sts snp txt rdd cnt hq len pt iw rm)) 0 0 _ _
  refine e_aload0 dX3_atStore_0 ?_
  refine e_iload3 dX3_atStore_1 ?_
  refine e_iload2 dX3_atStore_2 ?_
  refine e_vIF (M' := mX3_stateIn) fX3_stateIn lkX3_51 (r_stateIn h th sf asd sts snp txt rdd cnt hq len pt iw rm X hR (s := s) (t := t) hs ht) rfl rfl dX3_atStore_3 rfl rfl (by decide) (Nat.le_of_ble_eq_true rfl) rfl ?_
  rintro _ _ ⟨rfl, rfl⟩
  have hst := hst0 t ht
  refine e_istore4 dX3_atStore_6 rfl (by decide) ?_
  refine e_iload1 dX3_atStore_8 ?_
  refine e_if_neN 66 dX3_atStore_9 (by decide) (by first | omega | decide) (fun hc9 => ?_) (fun q => absurd q (by decide))
  refine e_iload1 dX3_atStore_66 ?_
  refine e_iconst (z := 3) dX3_atStore_67 ?_
  refine e_icmp_neN 106 dX3_atStore_68 (by decide) (by first | omega | decide) (by first | omega | decide) (fun hc68 => ?_) (fun q => absurd q (by decide))
  refine e_iload4 dX3_atStore_106 ?_
  refine e_iconst (z := 2) dX3_atStore_108 ?_
  refine e_icmp_geN 119 dX3_atStore_109 (by decide) (by omega) (by decide) (fun hc109 => ?_) (fun hc109 => ?_)
  · refine e_iload4 dX3_atStore_119 ?_
    refine e_iconst (z := 2) dX3_atStore_121 ?_
    first | refine e_icmp_eqN 132 dX3_atStore_122 (by decide) (by omega) (by omega) (fun hc122 => ?_) (fun hc122 => ?_) | refine e_icmp_eq 132 dX3_atStore_122 (by decide) (fun hc122 => ?_) (fun hc122 => ?_)
    · refine e_vret dX3_atStore_132 rfl ?_
      first
        | exact ⟨rfl, rfl, sf3, by rw [m_dr, if_neg (by omega), if_pos (by omega)]; exact hR3, rfl⟩
        | exact ⟨rfl, rfl, sf, by rw [m_dr, if_neg (by omega), if_neg (by omega)]; exact hR, rfl⟩
    · refine e_aload0 dX3_atStore_125 ?_
      refine e_iconst (z := 5) dX3_atStore_126 ?_
      refine e_iload2 dX3_atStore_127 ?_
      refine e_iload3 dX3_atStore_128 ?_
      refine e_vVF (M' := mX3_sends) fX3_sends lkX3_60 (r_sends h th sf asd sts snp txt rdd cnt hq len pt iw rm X hR hW (kd := 5) (t := t) (s := s)) rfl rfl dX3_atStore_129 rfl rfl (by decide) (Nat.le_of_ble_eq_true rfl) rfl ?_
      rintro _ ⟨sf3, hR3, rfl⟩
      refine e_vret dX3_atStore_132 rfl ?_
      first
        | exact ⟨rfl, rfl, sf3, by rw [m_dr, if_neg (by omega), if_pos (by omega)]; exact hR3, rfl⟩
        | exact ⟨rfl, rfl, sf, by rw [m_dr, if_neg (by omega), if_neg (by omega)]; exact hR, rfl⟩
  · refine e_aload0 dX3_atStore_112 ?_
    refine e_iload3 dX3_atStore_113 ?_
    refine e_iload2 dX3_atStore_114 ?_
    refine e_iconst (z := 3) dX3_atStore_115 ?_
    refine e_vVF (M' := mX3_becomes) fX3_becomes lkX3_78 (r_becomes h th sf asd sts snp txt rdd cnt hq len pt iw rm X hR hW (s := s) (t := t) (st := 3) hs ht (by decide) (hl (by omega))) rfl rfl dX3_atStore_116 rfl rfl (by decide) (Nat.le_of_ble_eq_true rfl) rfl ?_
    rintro _ ⟨sf2, hR2, rfl⟩
    have hW2 : WK (m_become X s t 3) := wk_become hW (Nat.lt_of_lt_of_le (hl (by omega)) (by decide)) (fun _ => hl (by omega))
    refine e_iload4 dX3_atStore_119 ?_
    refine e_iconst (z := 2) dX3_atStore_121 ?_
    refine e_icmp_eqN 132 dX3_atStore_122 (by decide) (by first | omega | decide) (by first | omega | decide) (fun q => absurd q (by omega)) (fun hc122 => ?_)
    refine e_aload0 dX3_atStore_125 ?_
    refine e_iconst (z := 5) dX3_atStore_126 ?_
    refine e_iload2 dX3_atStore_127 ?_
    refine e_iload3 dX3_atStore_128 ?_
    refine e_vVF (M' := mX3_sends) fX3_sends lkX3_60 (r_sends h th sf2 asd sts snp txt rdd cnt hq len pt iw rm (m_become X s t 3) hR2 hW2 (kd := 5) (t := t) (s := s)) rfl rfl dX3_atStore_129 rfl rfl (by decide) (Nat.le_of_ble_eq_true rfl) rfl ?_
    rintro _ ⟨sf3, hR3, rfl⟩
    refine e_vret dX3_atStore_132 rfl ?_
    exact ⟨rfl, rfl, sf3, by rw [m_dr, if_pos hc109]; exact hR3, rfl⟩
set_option maxRecDepth 20000 in
set_option maxHeartbeats 4000000 in
theorem r_at0 (h : qB) (th : Int32) (sf asd sts snp txt rdd : Nat → Int32) (cnt hq len pt iw rm : Int32) (X : qm) (hR : RelR sf X) (hW : WK X) {t s : Nat} (ht : t < 8) (hs : s < 4) (hst0 : ∀ t, t < 8 → X.1 9 (8 * s + t) ≤ 3) (hl : X.1 9 (8 * s + t) < 2 → X.1 10 s < 16) (hsh : X.1 9 (8 * s + t) = 0 → ¬ m_share X t s = 0) : CtV mX3_atStore 4 [qR 11 0, qI (nI 0), qI (nI t), qI (nI s)] (q_put h 11 (oR th sf asd sts snp txt rdd cnt hq len pt iw rm)) (fun h2 => ∃ sf', RelR sf' (m_ask X t s) ∧ h2 = q_put h 11 (oR th sf' asd sts snp txt rdd cnt hq len pt iw rm)) := by
  refine ct_of (by decide +kernel) rfl rfl (Nat.le_of_ble_eq_true rfl) ?_
  show Ev mX3_atStore 4 0 [some (qR 11 0), some (qI (nI 0)), some (qI (nI t)), some (qI (nI s)), none] [] 132 (q_put h 11 (oR th sf asd sts snp txt rdd cnt hq len pt iw rm)) 0 0 _ _
  refine e_aload0 dX3_atStore_0 ?_
  refine e_iload3 dX3_atStore_1 ?_
  refine e_iload2 dX3_atStore_2 ?_
  refine e_vIF (M' := mX3_stateIn) fX3_stateIn lkX3_51 (r_stateIn h th sf asd sts snp txt rdd cnt hq len pt iw rm X hR (s := s) (t := t) hs ht) rfl rfl dX3_atStore_3 rfl rfl (by decide) (Nat.le_of_ble_eq_true rfl) rfl ?_
  rintro _ _ ⟨rfl, rfl⟩
  have hst := hst0 t ht
  refine e_istore4 dX3_atStore_6 rfl (by decide) ?_
  refine e_iload1 dX3_atStore_8 ?_
  refine e_if_neN 66 dX3_atStore_9 (by decide) (by first | omega | decide) (fun q => absurd rfl q) (fun hc9 => ?_)
  refine e_iload4 dX3_atStore_12 ?_
  refine e_if_neN 46 dX3_atStore_14 (by decide) (by omega) (fun hc14 => ?_) (fun hc14 => ?_)
  · refine e_aload0 dX3_atStore_46 ?_
    refine e_iload4 dX3_atStore_47 ?_
    refine e_iconst (z := 3) dX3_atStore_49 ?_
    refine e_icmp_neN 57 dX3_atStore_50 (by decide) (by omega) (by decide) (fun hc50 => ?_) (fun hc50 => ?_)
    · refine e_iconst (z := 1) dX3_atStore_57 ?_
      refine e_iload2 dX3_atStore_58 ?_
      refine e_iload3 dX3_atStore_59 ?_
      refine e_vVF (M' := mX3_sends) fX3_sends lkX3_60 (r_sends h th sf asd sts snp txt rdd cnt hq len pt iw rm X hR hW (kd := 1) (t := t) (s := s)) rfl rfl dX3_atStore_60 rfl rfl (by decide) (Nat.le_of_ble_eq_true rfl) rfl ?_
      rintro _ ⟨sf3, hR3, rfl⟩
      refine e_goto 132 dX3_atStore_63 (by decide) ?_
      refine e_vret dX3_atStore_132 rfl ?_
      exact ⟨rfl, rfl, sf3, by rw [m_ask, if_neg hc14, if_neg hc50]; exact hR3, rfl⟩
    · refine e_iconst (z := 2) dX3_atStore_53 ?_
      refine e_goto 58 dX3_atStore_54 (by decide) ?_
      refine e_iload2 dX3_atStore_58 ?_
      refine e_iload3 dX3_atStore_59 ?_
      refine e_vVF (M' := mX3_sends) fX3_sends lkX3_60 (r_sends h th sf asd sts snp txt rdd cnt hq len pt iw rm X hR hW (kd := 2) (t := t) (s := s)) rfl rfl dX3_atStore_60 rfl rfl (by decide) (Nat.le_of_ble_eq_true rfl) rfl ?_
      rintro _ ⟨sf3, hR3, rfl⟩
      refine e_goto 132 dX3_atStore_63 (by decide) ?_
      refine e_vret dX3_atStore_132 rfl ?_
      exact ⟨rfl, rfl, sf3, by rw [m_ask, if_neg hc14, if_pos hc50]; exact hR3, rfl⟩
  · refine e_aload0 dX3_atStore_17 ?_
    refine e_iload3 dX3_atStore_18 ?_
    refine e_aload0 dX3_atStore_19 ?_
    refine e_iload2 dX3_atStore_20 ?_
    refine e_iload3 dX3_atStore_21 ?_
    refine e_vIF (M' := mX3_shareIn) fX3_shareIn lkX3_54 (r_shareIn h th sf asd sts snp txt rdd cnt hq len pt iw rm X hR (t := t) (s := s) (hW.2.2.2.2 t ht).1 (hW.2.2.2.2 t ht).2 ht hs) rfl rfl dX3_atStore_22 rfl rfl (by decide) (Nat.le_of_ble_eq_true rfl) rfl ?_
    rintro _ _ ⟨rfl, rfl⟩
    refine e_vIF (M' := mX3_canTake) fX3_canTake lkX3_74 (r_canTake h th sf asd sts snp txt rdd cnt hq len pt iw rm X hR hW (s := s) hst0 hs (hsh hc14)) rfl rfl dX3_atStore_25 rfl rfl (by decide) (Nat.le_of_ble_eq_true rfl) rfl ?_
    rintro _ _ ⟨rfl, rfl⟩
    cases hB : m_would X s (m_share X t s)
    · refine e_if_eqN 35 dX3_atStore_28 (by decide) (by decide) (fun _ => ?_) (fun q => absurd rfl q)
      refine e_iconst (z := 3) dX3_atStore_35 ?_
      refine e_istore4 dX3_atStore_36 rfl (by decide) ?_
      refine e_aload0 dX3_atStore_38 ?_
      refine e_iload3 dX3_atStore_39 ?_
      refine e_iload2 dX3_atStore_40 ?_
      refine e_iload4 dX3_atStore_41 ?_
      refine e_vVF (M' := mX3_becomes) fX3_becomes lkX3_78 (r_becomes h th sf asd sts snp txt rdd cnt hq len pt iw rm X hR hW (s := s) (t := t) (st := 3) hs ht (by decide) (hl (by omega))) rfl rfl dX3_atStore_43 rfl rfl (by decide) (Nat.le_of_ble_eq_true rfl) rfl ?_
      rintro _ ⟨sf2, hR2, rfl⟩
      have hW2 : WK (m_become X s t 3) := wk_become hW (Nat.lt_of_lt_of_le (hl (by omega)) (by decide)) (fun _ => hl (by omega))
      refine e_aload0 dX3_atStore_46 ?_
      refine e_iload4 dX3_atStore_47 ?_
      refine e_iconst (z := 3) dX3_atStore_49 ?_
      refine e_icmp_neN 57 dX3_atStore_50 (by decide) (by first | omega | decide) (by first | omega | decide) (fun q => absurd rfl q) (fun hc50 => ?_)
      refine e_iconst (z := 2) dX3_atStore_53 ?_
      refine e_goto 58 dX3_atStore_54 (by decide) ?_
      refine e_iload2 dX3_atStore_58 ?_
      refine e_iload3 dX3_atStore_59 ?_
      refine e_vVF (M' := mX3_sends) fX3_sends lkX3_60 (r_sends h th sf2 asd sts snp txt rdd cnt hq len pt iw rm (m_become X s t 3) hR2 hW2 (kd := 2) (t := t) (s := s)) rfl rfl dX3_atStore_60 rfl rfl (by decide) (Nat.le_of_ble_eq_true rfl) rfl ?_
      rintro _ ⟨sf3, hR3, rfl⟩
      refine e_goto 132 dX3_atStore_63 (by decide) ?_
      refine e_vret dX3_atStore_132 rfl ?_
      exact ⟨rfl, rfl, sf3, by rw [m_ask, if_pos hc14, if_neg (by rw [hB]; decide)]; exact hR3, rfl⟩
    · refine e_if_eqN 35 dX3_atStore_28 (by decide) (by decide) (fun q => absurd q (by decide)) (fun _ => ?_)
      refine e_iconst (z := 1) dX3_atStore_31 ?_
      refine e_goto 36 dX3_atStore_32 (by decide) ?_
      refine e_istore4 dX3_atStore_36 rfl (by decide) ?_
      refine e_aload0 dX3_atStore_38 ?_
      refine e_iload3 dX3_atStore_39 ?_
      refine e_iload2 dX3_atStore_40 ?_
      refine e_iload4 dX3_atStore_41 ?_
      refine e_vVF (M' := mX3_becomes) fX3_becomes lkX3_78 (r_becomes h th sf asd sts snp txt rdd cnt hq len pt iw rm X hR hW (s := s) (t := t) (st := 1) hs ht (by decide) (hl (by omega))) rfl rfl dX3_atStore_43 rfl rfl (by decide) (Nat.le_of_ble_eq_true rfl) rfl ?_
      rintro _ ⟨sf2, hR2, rfl⟩
      have hW2 : WK (m_become X s t 1) := wk_become hW (Nat.lt_of_lt_of_le (hl (by omega)) (by decide)) (fun _ => hl (by omega))
      refine e_aload0 dX3_atStore_46 ?_
      refine e_iload4 dX3_atStore_47 ?_
      refine e_iconst (z := 3) dX3_atStore_49 ?_
      refine e_icmp_neN 57 dX3_atStore_50 (by decide) (by first | omega | decide) (by first | omega | decide) (fun hc50 => ?_) (fun q => absurd q (by decide))
      refine e_iconst (z := 1) dX3_atStore_57 ?_
      refine e_iload2 dX3_atStore_58 ?_
      refine e_iload3 dX3_atStore_59 ?_
      refine e_vVF (M' := mX3_sends) fX3_sends lkX3_60 (r_sends h th sf2 asd sts snp txt rdd cnt hq len pt iw rm (m_become X s t 1) hR2 hW2 (kd := 1) (t := t) (s := s)) rfl rfl dX3_atStore_60 rfl rfl (by decide) (Nat.le_of_ble_eq_true rfl) rfl ?_
      rintro _ ⟨sf3, hR3, rfl⟩
      refine e_goto 132 dX3_atStore_63 (by decide) ?_
      refine e_vret dX3_atStore_132 rfl ?_
      exact ⟨rfl, rfl, sf3, by rw [m_ask, if_pos hc14, if_pos hB]; exact hR3, rfl⟩
