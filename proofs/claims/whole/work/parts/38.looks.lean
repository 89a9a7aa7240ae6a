/-! THE MODEL'S PROGRAM: looks -/
set_option maxRecDepth 20000 in
set_option maxHeartbeats 4000000 in
theorem r_amountLogged (h : qB) (th : Int32) (sf asd sts snp txt rdd : Nat → Int32) (cnt hq len pt iw rm : Int32) (X : qm) (hR : RelR sf X) (hJ : J X) {s : Nat} (hs : s < 4) : CtI mX3_amountLogged 3 [qR 11 0, qI (nI s)] (q_put h 11 (oR th sf asd sts snp txt rdd cnt hq len pt iw rm)) (fun r h2 => r = m_logAm X s (X.1 10 s) ∧ h2 = q_put h 11 (oR th sf asd sts snp txt rdd cnt hq len pt iw rm)) := by
  have h16 := iV7 hJ.1 s hs
  refine ct_of (by decide +kernel) rfl rfl (Nat.le_of_ble_eq_true rfl) ?_
  show Ev mX3_amountLogged 3 0 [some (qR 11 0), some (qI (nI s)), none, none, none] [] 132 (q_put h 11 (oR th sf asd sts snp txt rdd cnt hq len pt iw rm)) 0 0 _ _
  refine e_bipush (v := nI 100) dX3_amountLogged_0 (by decide) ?_
  refine e_istore2 dX3_amountLogged_2 rfl (by decide) ?_
  refine e_iconst (z := 0) dX3_amountLogged_3 ?_
  refine e_istore3 dX3_amountLogged_4 rfl (by decide) ?_
  have H : ∀ (m i : Nat) (v : Int32), i ≤ X.1 10 s → m = X.1 10 s - i → v = m_logAm X s i → Ev mX3_amountLogged 3 5 [some (qR 11 0), some (qI (nI s)), some (qI v), some (qI (nI i)), none] [] 132 (q_put h 11 (oR th sf asd sts snp txt rdd cnt hq len pt iw rm)) 0 0 (fun r n h' => ∃ x, r = some (qI x) ∧ n = 132 ∧ ((fun r h2 => r = m_logAm X s (X.1 10 s) ∧ h2 = q_put h 11 (oR th sf asd sts snp txt rdd cnt hq len pt iw rm))) x h') qNo := by
    intro m
    induction m using Nat.strongRecOn with
    | _ m ih =>
    intro i v hi hm hv
    refine e_iload3 dX3_amountLogged_5 ?_
    refine e_aload0 dX3_amountLogged_6 ?_
    refine e_getfieldF flX3_7 dX3_amountLogged_7 rfl rfl ?_
    refine e_bipush (v := nI 102) dX3_amountLogged_10 (by decide) ?_
    refine e_iload1 dX3_amountLogged_12 ?_
    first | refine e_iaddN dX3_amountLogged_13 ?_ | refine e_iadd dX3_amountLogged_13 ?_
    refine e_ialoadN dX3_amountLogged_14 rfl (by omega) (by decide) ?_
    rw [rR9 hR _ (by omega)]
    first | refine e_icmp_geN 66 dX3_amountLogged_15 (by decide) (by omega) (by omega) (fun hc15 => ?_) (fun hc15 => ?_) | refine e_icmp_ge 66 dX3_amountLogged_15 (by decide) (fun hc15 => ?_) (fun hc15 => ?_)
    · obtain rfl : i = X.1 10 s := by omega
      subst hv
      refine e_iload2 dX3_amountLogged_66 ?_
      refine e_iret dX3_amountLogged_67 rfl ?_
      exact ⟨_, rfl, rfl, rfl, rfl⟩
    · have hk9 := iV9 hJ.1 s i (by omega) (by omega)
      have i1 := iV1 hJ.1
      refine e_aload0 dX3_amountLogged_18 ?_
      refine e_getfieldF flX3_7 dX3_amountLogged_19 rfl rfl ?_
      refine e_bipush (v := nI 107) dX3_amountLogged_22 (by decide) ?_
      refine e_bipush (v := nI 16) dX3_amountLogged_24 (by decide) ?_
      refine e_iload1 dX3_amountLogged_26 ?_
      first | refine e_imulN dX3_amountLogged_27 ?_ | refine e_imul dX3_amountLogged_27 ?_
      first | refine e_iaddN dX3_amountLogged_28 ?_ | refine e_iadd dX3_amountLogged_28 ?_
      refine e_iload3 dX3_amountLogged_29 ?_
      first | refine e_iaddN dX3_amountLogged_30 ?_ | refine e_iadd dX3_amountLogged_30 ?_
      refine e_ialoadN dX3_amountLogged_31 rfl (by omega) (by decide) ?_
      rw [rR10 hR s i (by omega) (by omega)]
      refine e_istore4 dX3_amountLogged_32 rfl (by decide) ?_
      refine e_iload2 dX3_amountLogged_34 ?_
      refine e_iload4 dX3_amountLogged_35 ?_
      refine e_bipush (v := nI 8) dX3_amountLogged_37 (by decide) ?_
      refine e_idiv dX3_amountLogged_39 (by decide) ?_
      rw [b_dv8 _ hk9.1]
      refine e_iconst (z := 1) dX3_amountLogged_40 ?_
      first | refine e_icmp_neN 57 dX3_amountLogged_41 (by decide) (by omega) (by omega) (fun hc41 => ?_) (fun hc41 => ?_) | refine e_icmp_ne 57 dX3_amountLogged_41 (by decide) (fun hc41 => ?_) (fun hc41 => ?_)
      · refine e_iconst (z := 0) dX3_amountLogged_57 ?_
        refine e_iadd dX3_amountLogged_58 ?_
        refine e_istore2 dX3_amountLogged_59 rfl (by decide) ?_
        first | refine e_iinc3N (z := 1) dX3_amountLogged_60 rfl (by decide) ?_ | refine e_iinc3 dX3_amountLogged_60 rfl rfl (by decide) ?_
        refine e_goto 5 dX3_amountLogged_63 (by decide) ?_
        refine e_drop4 ?_
        first
          | exact ih _ (by omega) (i + 1) _ (by omega) rfl (by rw [m_logAm, if_pos hc41, hv])
          | exact ih _ (by omega) (i + 1) _ (by omega) rfl (by rw [m_logAm, if_neg hc41, hv]; exact Int32.add_zero _)
      · refine e_aload0 dX3_amountLogged_44 ?_
        refine e_iload4 dX3_amountLogged_45 ?_
        refine e_bipush (v := nI 8) dX3_amountLogged_47 (by decide) ?_
        refine e_irem dX3_amountLogged_49 (by decide) ?_
        rw [b_rm8r _ hk9.1]
        refine e_iload1 dX3_amountLogged_50 ?_
        refine e_vIF (M' := mX3_shareIn) fX3_shareIn lkX3_54 (r_shareIn h th sf asd sts snp txt rdd cnt hq len pt iw rm X hR (t := X.1 11 (32 * s + i) % 8) (s := s) ((wk_J hJ).2.2.2.2 _ (by omega)).1 ((wk_J hJ).2.2.2.2 _ (by omega)).2 (by omega) hs) rfl rfl dX3_amountLogged_51 rfl rfl (by decide) (Nat.le_of_ble_eq_true rfl) rfl ?_
        rintro _ _ ⟨rfl, rfl⟩
        refine e_goto 58 dX3_amountLogged_54 (by decide) ?_
        refine e_iadd dX3_amountLogged_58 ?_
        refine e_istore2 dX3_amountLogged_59 rfl (by decide) ?_
        first | refine e_iinc3N (z := 1) dX3_amountLogged_60 rfl (by decide) ?_ | refine e_iinc3 dX3_amountLogged_60 rfl rfl (by decide) ?_
        refine e_goto 5 dX3_amountLogged_63 (by decide) ?_
        refine e_drop4 ?_
        first
          | exact ih _ (by omega) (i + 1) _ (by omega) rfl (by rw [m_logAm, if_pos hc41, hv])
          | exact ih _ (by omega) (i + 1) _ (by omega) rfl (by rw [m_logAm, if_neg hc41, hv]; exact Int32.add_zero _)
  exact H _ 0 _ (Nat.zero_le _) rfl rfl
set_option maxRecDepth 20000 in
set_option maxHeartbeats 4000000 in
theorem r_stateLogged (h : qB) (th : Int32) (sf asd sts snp txt rdd : Nat → Int32) (cnt hq len pt iw rm : Int32) (X : qm) (hR : RelR sf X) (hJ : J X) {s t : Nat} (hs : s < 4) (ht : t < 8) : CtI mX3_stateLogged 0 [qR 11 0, qI (nI s), qI (nI t)] (q_put h 11 (oR th sf asd sts snp txt rdd cnt hq len pt iw rm)) (fun r h2 => r = nI (m_logSt X s t (X.1 10 s)) ∧ h2 = q_put h 11 (oR th sf asd sts snp txt rdd cnt hq len pt iw rm)) := by
  have h16 := iV7 hJ.1 s hs
  refine ct_of (by decide +kernel) rfl rfl (Nat.le_of_ble_eq_true rfl) ?_
  show Ev mX3_stateLogged 0 0 [some (qR 11 0), some (qI (nI s)), some (qI (nI t)), none, none, none] [] 132 (q_put h 11 (oR th sf asd sts snp txt rdd cnt hq len pt iw rm)) 0 0 _ _
  refine e_iconst (z := 0) dX3_stateLogged_0 ?_
  refine e_istore3 dX3_stateLogged_1 rfl (by decide) ?_
  refine e_iconst (z := 0) dX3_stateLogged_2 ?_
  refine e_istore4 dX3_stateLogged_3 rfl (by decide) ?_
  have H : ∀ (m i : Nat) (v : Nat), i ≤ X.1 10 s → m = X.1 10 s - i → v = m_logSt X s t i → Ev mX3_stateLogged 0 5 [some (qR 11 0), some (qI (nI s)), some (qI (nI t)), some (qI (nI v)), some (qI (nI i)), none] [] 132 (q_put h 11 (oR th sf asd sts snp txt rdd cnt hq len pt iw rm)) 0 0 (fun r n h' => ∃ x, r = some (qI x) ∧ n = 132 ∧ ((fun r h2 => r = nI (m_logSt X s t (X.1 10 s)) ∧ h2 = q_put h 11 (oR th sf asd sts snp txt rdd cnt hq len pt iw rm))) x h') qNo := by
    intro m
    induction m using Nat.strongRecOn with
    | _ m ih =>
    intro i v hi hm hv
    refine e_iload4 dX3_stateLogged_5 ?_
    refine e_aload0 dX3_stateLogged_7 ?_
    refine e_getfieldF flX3_7 dX3_stateLogged_8 rfl rfl ?_
    refine e_bipush (v := nI 102) dX3_stateLogged_11 (by decide) ?_
    refine e_iload1 dX3_stateLogged_13 ?_
    first | refine e_iaddN dX3_stateLogged_14 ?_ | refine e_iadd dX3_stateLogged_14 ?_
    refine e_ialoadN dX3_stateLogged_15 rfl (by omega) (by decide) ?_
    rw [rR9 hR _ (by omega)]
    first | refine e_icmp_geN 76 dX3_stateLogged_16 (by decide) (by omega) (by omega) (fun hc16 => ?_) (fun hc16 => ?_) | refine e_icmp_ge 76 dX3_stateLogged_16 (by decide) (fun hc16 => ?_) (fun hc16 => ?_)
    · obtain rfl : i = X.1 10 s := by omega
      subst hv
      refine e_iload3 dX3_stateLogged_76 ?_
      refine e_iret dX3_stateLogged_77 rfl ?_
      exact ⟨_, rfl, rfl, rfl, rfl⟩
    · have hk9 := iV9 hJ.1 s i (by omega) (by omega)
      have i1 := iV1 hJ.1
      have hkk := hJ.2.2.2.2.1 s i hs (by omega)
      refine e_aload0 dX3_stateLogged_19 ?_
      refine e_getfieldF flX3_7 dX3_stateLogged_20 rfl rfl ?_
      refine e_bipush (v := nI 107) dX3_stateLogged_23 (by decide) ?_
      refine e_bipush (v := nI 16) dX3_stateLogged_25 (by decide) ?_
      refine e_iload1 dX3_stateLogged_27 ?_
      first | refine e_imulN dX3_stateLogged_28 ?_ | refine e_imul dX3_stateLogged_28 ?_
      first | refine e_iaddN dX3_stateLogged_29 ?_ | refine e_iadd dX3_stateLogged_29 ?_
      refine e_iload4 dX3_stateLogged_30 ?_
      first | refine e_iaddN dX3_stateLogged_32 ?_ | refine e_iadd dX3_stateLogged_32 ?_
      refine e_ialoadN dX3_stateLogged_33 rfl (by omega) (by decide) ?_
      rw [rR10 hR s i (by omega) (by omega)]
      refine e_istore5 dX3_stateLogged_34 rfl (by decide) ?_
      refine e_iload5 dX3_stateLogged_36 ?_
      refine e_bipush (v := nI 8) dX3_stateLogged_38 (by decide) ?_
      refine e_irem dX3_stateLogged_40 (by decide) ?_
      rw [b_rm8r _ hk9.1]
      refine e_iload2 dX3_stateLogged_41 ?_
      first | refine e_icmp_eqN 49 dX3_stateLogged_42 (by decide) (by omega) (by omega) (fun hc42 => ?_) (fun hc42 => ?_) | refine e_icmp_eq 49 dX3_stateLogged_42 (by decide) (fun hc42 => ?_) (fun hc42 => ?_)
      · refine e_iload5 dX3_stateLogged_49 ?_
        refine e_bipush (v := nI 8) dX3_stateLogged_51 (by decide) ?_
        refine e_idiv dX3_stateLogged_53 (by decide) ?_
        rw [b_dv8 _ hk9.1]
        refine e_iconst (z := 4) dX3_stateLogged_54 ?_
        first | refine e_icmp_neN 62 dX3_stateLogged_55 (by decide) (by omega) (by omega) (fun hc55 => ?_) (fun hc55 => ?_) | refine e_icmp_ne 62 dX3_stateLogged_55 (by decide) (fun hc55 => ?_) (fun hc55 => ?_)
        · refine e_iload5 dX3_stateLogged_62 ?_
          refine e_bipush (v := nI 8) dX3_stateLogged_64 (by decide) ?_
          refine e_idiv dX3_stateLogged_66 (by decide) ?_
          rw [b_dv8 _ hk9.1]
          refine e_iconst (z := 1) dX3_stateLogged_67 ?_
          first | refine e_iaddN dX3_stateLogged_68 ?_ | refine e_iadd dX3_stateLogged_68 ?_
          refine e_istore3 dX3_stateLogged_69 rfl (by decide) ?_
          first | refine e_iinc4N (z := 1) dX3_stateLogged_70 rfl (by decide) ?_ | refine e_iinc4 dX3_stateLogged_70 rfl rfl (by decide) ?_
          refine e_goto 5 dX3_stateLogged_73 (by decide) ?_
          refine e_drop5 ?_
          first
            | exact ih _ (by omega) (i + 1) _ (by omega) rfl (by rw [m_logSt, if_pos hc42]; unfold m_stAfter; rw [if_pos hc55])
            | exact ih _ (by omega) (i + 1) _ (by omega) rfl (by rw [m_logSt, if_pos hc42]; unfold m_stAfter; rw [if_neg hc55]; repeat (first | omega | split))
            | exact ih _ (by omega) (i + 1) _ (by omega) rfl (by rw [m_logSt, if_neg hc42, hv])
        · refine e_iconst (z := 1) dX3_stateLogged_58 ?_
          refine e_goto 69 dX3_stateLogged_59 (by decide) ?_
          refine e_istore3 dX3_stateLogged_69 rfl (by decide) ?_
          first | refine e_iinc4N (z := 1) dX3_stateLogged_70 rfl (by decide) ?_ | refine e_iinc4 dX3_stateLogged_70 rfl rfl (by decide) ?_
          refine e_goto 5 dX3_stateLogged_73 (by decide) ?_
          refine e_drop5 ?_
          first
            | exact ih _ (by omega) (i + 1) _ (by omega) rfl (by rw [m_logSt, if_pos hc42]; unfold m_stAfter; rw [if_pos hc55])
            | exact ih _ (by omega) (i + 1) _ (by omega) rfl (by rw [m_logSt, if_pos hc42]; unfold m_stAfter; rw [if_neg hc55]; repeat (first | omega | split))
            | exact ih _ (by omega) (i + 1) _ (by omega) rfl (by rw [m_logSt, if_neg hc42, hv])
      · refine e_iload3 dX3_stateLogged_45 ?_
        refine e_goto 69 dX3_stateLogged_46 (by decide) ?_
        refine e_istore3 dX3_stateLogged_69 rfl (by decide) ?_
        first | refine e_iinc4N (z := 1) dX3_stateLogged_70 rfl (by decide) ?_ | refine e_iinc4 dX3_stateLogged_70 rfl rfl (by decide) ?_
        refine e_goto 5 dX3_stateLogged_73 (by decide) ?_
        refine e_drop5 ?_
        first
          | exact ih _ (by omega) (i + 1) _ (by omega) rfl (by rw [m_logSt, if_pos hc42]; unfold m_stAfter; rw [if_pos hc55])
          | exact ih _ (by omega) (i + 1) _ (by omega) rfl (by rw [m_logSt, if_pos hc42]; unfold m_stAfter; rw [if_neg hc55]; repeat (first | omega | split))
          | exact ih _ (by omega) (i + 1) _ (by omega) rfl (by rw [m_logSt, if_neg hc42, hv])
  exact H _ 0 _ (Nat.zero_le _) rfl rfl
set_option maxRecDepth 20000 in
set_option maxHeartbeats 4000000 in
theorem r_doubts (h : qB) (th : Int32) (sf asd sts snp txt rdd : Nat → Int32) (cnt hq len pt iw rm : Int32) (X : qm) (hR : RelR sf X) (hJ : J X) {s : Nat} (hs : s < 4) : CtI mX3_doubts 1 [qR 11 0, qI (nI s)] (q_put h 11 (oR th sf asd sts snp txt rdd cnt hq len pt iw rm)) (fun r h2 => r = nI (m_doubt X s (X.1 0 0)) ∧ h2 = q_put h 11 (oR th sf asd sts snp txt rdd cnt hq len pt iw rm)) := by
  have i1 := iV1 hJ.1
  refine ct_of (by decide +kernel) rfl rfl (Nat.le_of_ble_eq_true rfl) ?_
  show Ev mX3_doubts 1 0 [some (qR 11 0), some (qI (nI s)), none, none] [] 132 (q_put h 11 (oR th sf asd sts snp txt rdd cnt hq len pt iw rm)) 0 0 _ _
  refine e_iconst (z := 0) dX3_doubts_0 ?_
  refine e_istore2 dX3_doubts_1 rfl (by decide) ?_
  refine e_iconst (z := 0) dX3_doubts_2 ?_
  refine e_istore3 dX3_doubts_3 rfl (by decide) ?_
  have H : ∀ (m i : Nat) (v : Nat), i ≤ X.1 0 0 → m = X.1 0 0 - i → v = m_doubt X s i → Ev mX3_doubts 1 4 [some (qR 11 0), some (qI (nI s)), some (qI (nI v)), some (qI (nI i))] [] 132 (q_put h 11 (oR th sf asd sts snp txt rdd cnt hq len pt iw rm)) 0 0 (fun r n h' => ∃ x, r = some (qI x) ∧ n = 132 ∧ ((fun r h2 => r = nI (m_doubt X s (X.1 0 0)) ∧ h2 = q_put h 11 (oR th sf asd sts snp txt rdd cnt hq len pt iw rm))) x h') qNo := by
    intro m
    induction m using Nat.strongRecOn with
    | _ m ih =>
    intro i v hi hm hv
    refine e_iload3 dX3_doubts_4 ?_
    refine e_aload0 dX3_doubts_5 ?_
    refine e_getfieldF flX3_7 dX3_doubts_6 rfl rfl ?_
    refine e_bipush (v := nI 9) dX3_doubts_9 (by decide) ?_
    refine e_ialoadN dX3_doubts_11 rfl (by omega) (by decide) ?_
    rw [rR2 hR]
    first | refine e_icmp_geN 39 dX3_doubts_12 (by decide) (by omega) (by omega) (fun hc12 => ?_) (fun hc12 => ?_) | refine e_icmp_ge 39 dX3_doubts_12 (by decide) (fun hc12 => ?_) (fun hc12 => ?_)
    · obtain rfl : i = X.1 0 0 := by omega
      subst hv
      refine e_iload2 dX3_doubts_39 ?_
      refine e_iret dX3_doubts_40 rfl ?_
      exact ⟨_, rfl, rfl, rfl, rfl⟩
    · refine e_iload2 dX3_doubts_15 ?_
      refine e_aload0 dX3_doubts_16 ?_
      refine e_iload1 dX3_doubts_17 ?_
      refine e_iload3 dX3_doubts_18 ?_
      refine e_vIF (M' := mX3_stateIn) fX3_stateIn lkX3_51 (r_stateIn h th sf asd sts snp txt rdd cnt hq len pt iw rm X hR (s := s) (t := i) hs (by omega)) rfl rfl dX3_doubts_19 rfl rfl (by decide) (Nat.le_of_ble_eq_true rfl) rfl ?_
      rintro _ _ ⟨rfl, rfl⟩
      have hst := (iV6 hJ.1 s i hs (by omega)).1
      refine e_iconst (z := 1) dX3_doubts_22 ?_
      first | refine e_icmp_neN 30 dX3_doubts_23 (by decide) (by omega) (by omega) (fun hc23 => ?_) (fun hc23 => ?_) | refine e_icmp_ne 30 dX3_doubts_23 (by decide) (fun hc23 => ?_) (fun hc23 => ?_)
      · refine e_iconst (z := 0) dX3_doubts_30 ?_
        first | refine e_iaddN dX3_doubts_31 ?_ | refine e_iadd dX3_doubts_31 ?_
        refine e_istore2 dX3_doubts_32 rfl (by decide) ?_
        first | refine e_iinc3N (z := 1) dX3_doubts_33 rfl (by decide) ?_ | refine e_iinc3 dX3_doubts_33 rfl rfl (by decide) ?_
        refine e_goto 4 dX3_doubts_36 (by decide) ?_
        first
          | exact ih _ (by omega) (i + 1) _ (by omega) rfl (by rw [m_doubt, if_pos hc23, hv])
          | exact ih _ (by omega) (i + 1) _ (by omega) rfl (by rw [m_doubt, if_neg hc23, hv]; rfl)
      · refine e_iconst (z := 1) dX3_doubts_26 ?_
        refine e_goto 31 dX3_doubts_27 (by decide) ?_
        first | refine e_iaddN dX3_doubts_31 ?_ | refine e_iadd dX3_doubts_31 ?_
        refine e_istore2 dX3_doubts_32 rfl (by decide) ?_
        first | refine e_iinc3N (z := 1) dX3_doubts_33 rfl (by decide) ?_ | refine e_iinc3 dX3_doubts_33 rfl rfl (by decide) ?_
        refine e_goto 4 dX3_doubts_36 (by decide) ?_
        first
          | exact ih _ (by omega) (i + 1) _ (by omega) rfl (by rw [m_doubt, if_pos hc23, hv])
          | exact ih _ (by omega) (i + 1) _ (by omega) rfl (by rw [m_doubt, if_neg hc23, hv]; rfl)
  exact H _ 0 _ (Nat.zero_le _) rfl rfl
set_option maxRecDepth 20000 in
set_option maxHeartbeats 4000000 in
theorem r_outcomeOf (h : qB) (th : Int32) (sf asd sts snp txt rdd : Nat → Int32) (cnt hq len pt iw rm : Int32) (X : qm) (hR : RelR sf X) (hJ : J X) {t : Nat} (ht : t < 8) : CtI mX3_outcomeOf 1 [qR 11 0, qI (nI t)] (q_put h 11 (oR th sf asd sts snp txt rdd cnt hq len pt iw rm)) (fun r h2 => r = nI (m_seen X t 4) ∧ h2 = q_put h 11 (oR th sf asd sts snp txt rdd cnt hq len pt iw rm)) := by
  refine ct_of (by decide +kernel) rfl rfl (Nat.le_of_ble_eq_true rfl) ?_
  show Ev mX3_outcomeOf 1 0 [some (qR 11 0), some (qI (nI t)), none, none] [] 132 (q_put h 11 (oR th sf asd sts snp txt rdd cnt hq len pt iw rm)) 0 0 _ _
  refine e_iconst (z := 0) dX3_outcomeOf_0 ?_
  refine e_istore2 dX3_outcomeOf_1 rfl (by decide) ?_
  refine e_iconst (z := 0) dX3_outcomeOf_2 ?_
  refine e_istore3 dX3_outcomeOf_3 rfl (by decide) ?_
  have H : ∀ (m i : Nat) (v : Nat), i ≤ 4 → m = 4 - i → v = m_seen X t i → Ev mX3_outcomeOf 1 4 [some (qR 11 0), some (qI (nI t)), some (qI (nI v)), some (qI (nI i))] [] 132 (q_put h 11 (oR th sf asd sts snp txt rdd cnt hq len pt iw rm)) 0 0 (fun r n h' => ∃ x, r = some (qI x) ∧ n = 132 ∧ ((fun r h2 => r = nI (m_seen X t 4) ∧ h2 = q_put h 11 (oR th sf asd sts snp txt rdd cnt hq len pt iw rm))) x h') qNo := by
    intro m
    induction m using Nat.strongRecOn with
    | _ m ih =>
    intro i v hi hm hv
    have hv4 : v < 4 := by rw [hv]; exact m_seen_lt _ _ _
    refine e_iload3 dX3_outcomeOf_4 ?_
    refine e_iconst (z := 4) dX3_outcomeOf_5 ?_
    first | refine e_icmp_geN 47 dX3_outcomeOf_6 (by decide) (by omega) (by omega) (fun hc6 => ?_) (fun hc6 => ?_) | refine e_icmp_ge 47 dX3_outcomeOf_6 (by decide) (fun hc6 => ?_) (fun hc6 => ?_)
    · obtain rfl : i = 4 := by omega
      subst hv
      refine e_iload2 dX3_outcomeOf_47 ?_
      refine e_iret dX3_outcomeOf_48 rfl ?_
      exact ⟨_, rfl, rfl, rfl, rfl⟩
    · refine e_iload2 dX3_outcomeOf_9 ?_
      refine e_aload0 dX3_outcomeOf_10 ?_
      refine e_iload3 dX3_outcomeOf_11 ?_
      refine e_iload1 dX3_outcomeOf_12 ?_
      refine e_vIF (M' := mX3_stateIn) fX3_stateIn lkX3_51 (r_stateIn h th sf asd sts snp txt rdd cnt hq len pt iw rm X hR (s := i) (t := t) (by omega) ht) rfl rfl dX3_outcomeOf_13 rfl rfl (by decide) (Nat.le_of_ble_eq_true rfl) rfl ?_
      rintro _ _ ⟨rfl, rfl⟩
      have hst := (iV6 hJ.1 i t (by omega) ht).1
      refine e_iconst (z := 2) dX3_outcomeOf_16 ?_
      first | refine e_icmp_neN 24 dX3_outcomeOf_17 (by decide) (by omega) (by omega) (fun hc17 => ?_) (fun hc17 => ?_) | refine e_icmp_ne 24 dX3_outcomeOf_17 (by decide) (fun hc17 => ?_) (fun hc17 => ?_)
      · refine e_aload0 dX3_outcomeOf_24 ?_
        refine e_iload3 dX3_outcomeOf_25 ?_
        refine e_iload1 dX3_outcomeOf_26 ?_
        refine e_vIF (M' := mX3_stateIn) fX3_stateIn lkX3_51 (r_stateIn h th sf asd sts snp txt rdd cnt hq len pt iw rm X hR (s := i) (t := t) (by omega) ht) rfl rfl dX3_outcomeOf_27 rfl rfl (by decide) (Nat.le_of_ble_eq_true rfl) rfl ?_
        rintro _ _ ⟨rfl, rfl⟩
        have hst := (iV6 hJ.1 i t (by omega) ht).1
        refine e_iconst (z := 3) dX3_outcomeOf_30 ?_
        first | refine e_icmp_neN 38 dX3_outcomeOf_31 (by decide) (by omega) (by omega) (fun hc31 => ?_) (fun hc31 => ?_) | refine e_icmp_ne 38 dX3_outcomeOf_31 (by decide) (fun hc31 => ?_) (fun hc31 => ?_)
        · refine e_iconst (z := 0) dX3_outcomeOf_38 ?_
          refine e_ior dX3_outcomeOf_39 ?_
          rw [(b_or3 _ hv4 _ (by decide)).1]
          refine e_istore2 dX3_outcomeOf_40 rfl (by decide) ?_
          first | refine e_iinc3N (z := 1) dX3_outcomeOf_41 rfl (by decide) ?_ | refine e_iinc3 dX3_outcomeOf_41 rfl rfl (by decide) ?_
          refine e_goto 4 dX3_outcomeOf_44 (by decide) ?_
          first
            | exact ih _ (by omega) (i + 1) _ (by omega) rfl (by rw [m_seen, if_pos hc17, hv])
            | exact ih _ (by omega) (i + 1) _ (by omega) rfl (by rw [m_seen, if_neg hc17, if_pos hc31, hv])
            | exact ih _ (by omega) (i + 1) _ (by omega) rfl (by rw [m_seen, if_neg hc17, if_neg hc31, hv, Nat.or_zero])
        · refine e_iconst (z := 2) dX3_outcomeOf_34 ?_
          refine e_goto 39 dX3_outcomeOf_35 (by decide) ?_
          refine e_ior dX3_outcomeOf_39 ?_
          rw [(b_or3 _ hv4 _ (by decide)).1]
          refine e_istore2 dX3_outcomeOf_40 rfl (by decide) ?_
          first | refine e_iinc3N (z := 1) dX3_outcomeOf_41 rfl (by decide) ?_ | refine e_iinc3 dX3_outcomeOf_41 rfl rfl (by decide) ?_
          refine e_goto 4 dX3_outcomeOf_44 (by decide) ?_
          first
            | exact ih _ (by omega) (i + 1) _ (by omega) rfl (by rw [m_seen, if_pos hc17, hv])
            | exact ih _ (by omega) (i + 1) _ (by omega) rfl (by rw [m_seen, if_neg hc17, if_pos hc31, hv])
            | exact ih _ (by omega) (i + 1) _ (by omega) rfl (by rw [m_seen, if_neg hc17, if_neg hc31, hv, Nat.or_zero])
      · refine e_iconst (z := 1) dX3_outcomeOf_20 ?_
        refine e_goto 39 dX3_outcomeOf_21 (by decide) ?_
        refine e_ior dX3_outcomeOf_39 ?_
        rw [(b_or3 _ hv4 _ (by decide)).1]
        refine e_istore2 dX3_outcomeOf_40 rfl (by decide) ?_
        first | refine e_iinc3N (z := 1) dX3_outcomeOf_41 rfl (by decide) ?_ | refine e_iinc3 dX3_outcomeOf_41 rfl rfl (by decide) ?_
        refine e_goto 4 dX3_outcomeOf_44 (by decide) ?_
        first
          | exact ih _ (by omega) (i + 1) _ (by omega) rfl (by rw [m_seen, if_pos hc17, hv])
          | exact ih _ (by omega) (i + 1) _ (by omega) rfl (by rw [m_seen, if_neg hc17, if_pos hc31, hv])
          | exact ih _ (by omega) (i + 1) _ (by omega) rfl (by rw [m_seen, if_neg hc17, if_neg hc31, hv, Nat.or_zero])
  exact H _ 0 _ (Nat.zero_le _) rfl rfl
set_option maxRecDepth 20000 in
set_option maxHeartbeats 4000000 in
theorem r_totalOf (h : qB) (th : Int32) (sf asd sts snp txt rdd : Nat → Int32) (cnt hq len pt iw rm : Int32) (X : qm) (hR : RelR sf X) : CtI mX3_totalOf 0 [qR 11 0] (q_put h 11 (oR th sf asd sts snp txt rdd cnt hq len pt iw rm)) (fun r h2 => r = m_tot X 4 ∧ h2 = q_put h 11 (oR th sf asd sts snp txt rdd cnt hq len pt iw rm)) := by
  refine ct_of (by decide +kernel) rfl rfl (Nat.le_of_ble_eq_true rfl) ?_
  show Ev mX3_totalOf 0 0 [some (qR 11 0)] [] 132 (q_put h 11 (oR th sf asd sts snp txt rdd cnt hq len pt iw rm)) 0 0 _ _
  refine e_aload0 dX3_totalOf_0 ?_
  refine e_getfieldF flX3_7 dX3_totalOf_1 rfl rfl ?_
  refine e_iconst (z := 5) dX3_totalOf_4 ?_
  refine e_ialoadN dX3_totalOf_5 rfl (by omega) (by decide) ?_
  rw [show sf 5 = X.2 0 from rR1 hR 0 (by decide)]
  refine e_aload0 dX3_totalOf_6 ?_
  refine e_getfieldF flX3_7 dX3_totalOf_7 rfl rfl ?_
  refine e_bipush (v := nI 6) dX3_totalOf_10 (by decide) ?_
  refine e_ialoadN dX3_totalOf_12 rfl (by omega) (by decide) ?_
  rw [show sf 6 = X.2 1 from rR1 hR 1 (by decide)]
  refine e_iadd dX3_totalOf_13 ?_
  refine e_aload0 dX3_totalOf_14 ?_
  refine e_getfieldF flX3_7 dX3_totalOf_15 rfl rfl ?_
  refine e_bipush (v := nI 7) dX3_totalOf_18 (by decide) ?_
  refine e_ialoadN dX3_totalOf_20 rfl (by omega) (by decide) ?_
  rw [show sf 7 = X.2 2 from rR1 hR 2 (by decide)]
  refine e_iadd dX3_totalOf_21 ?_
  refine e_aload0 dX3_totalOf_22 ?_
  refine e_getfieldF flX3_7 dX3_totalOf_23 rfl rfl ?_
  refine e_bipush (v := nI 8) dX3_totalOf_26 (by decide) ?_
  refine e_ialoadN dX3_totalOf_28 rfl (by omega) (by decide) ?_
  rw [show sf 8 = X.2 3 from rR1 hR 3 (by decide)]
  refine e_iadd dX3_totalOf_29 ?_
  refine e_iret dX3_totalOf_30 rfl ?_
  exact ⟨_, rfl, rfl, by rw [m_tot, m_tot, m_tot, m_tot, m_tot, show nI 0 + X.2 0 = X.2 0 from Int32.zero_add _], rfl⟩
set_option maxRecDepth 20000 in
set_option maxHeartbeats 4000000 in
theorem r_sentOf (h : qB) (th : Int32) (sf asd sts snp txt rdd : Nat → Int32) (cnt hq len pt iw rm : Int32) (X : qm) (hR : RelR sf X) : CtI mX3_sentOf 0 [qR 11 0] (q_put h 11 (oR th sf asd sts snp txt rdd cnt hq len pt iw rm)) (fun r h2 => r = nI (X.1 0 2) + nI (X.1 0 3) + nI (X.1 0 4) ∧ h2 = q_put h 11 (oR th sf asd sts snp txt rdd cnt hq len pt iw rm)) := by
  refine ct_of (by decide +kernel) rfl rfl (Nat.le_of_ble_eq_true rfl) ?_
  show Ev mX3_sentOf 0 0 [some (qR 11 0)] [] 132 (q_put h 11 (oR th sf asd sts snp txt rdd cnt hq len pt iw rm)) 0 0 _ _
  refine e_aload0 dX3_sentOf_0 ?_
  refine e_getfieldF flX3_7 dX3_sentOf_1 rfl rfl ?_
  refine e_bipush (v := nI 11) dX3_sentOf_4 (by decide) ?_
  refine e_ialoadN dX3_sentOf_6 rfl (by omega) (by decide) ?_
  rw [show sf 11 = nI (X.1 0 2) from rR4 hR]
  refine e_aload0 dX3_sentOf_7 ?_
  refine e_getfieldF flX3_7 dX3_sentOf_8 rfl rfl ?_
  refine e_bipush (v := nI 12) dX3_sentOf_11 (by decide) ?_
  refine e_ialoadN dX3_sentOf_13 rfl (by omega) (by decide) ?_
  rw [show sf 12 = nI (X.1 0 3) from rR5 hR]
  refine e_iadd dX3_sentOf_14 ?_
  refine e_aload0 dX3_sentOf_15 ?_
  refine e_getfieldF flX3_7 dX3_sentOf_16 rfl rfl ?_
  refine e_bipush (v := nI 13) dX3_sentOf_19 (by decide) ?_
  refine e_ialoadN dX3_sentOf_21 rfl (by omega) (by decide) ?_
  rw [show sf 13 = nI (X.1 0 4) from rR6 hR]
  refine e_iadd dX3_sentOf_22 ?_
  refine e_iret dX3_sentOf_23 rfl ?_
  exact ⟨_, rfl, rfl, rfl, rfl⟩
set_option maxRecDepth 20000 in
set_option maxHeartbeats 4000000 in
theorem r_record (h : qB) (th : Int32) (sf asd sts snp txt rdd : Nat → Int32) (cnt hq len pt iw rm : Int32) (X : qm) (hR : RelR sf X) (hJ : J X) {k p : Nat} (hk : k < 5) (hp : p < 2 ^ 31) : CtI mX3_record 0 [qR 11 0, qI (nI k), qI (nI p)] (q_put h 11 (oR th sf asd sts snp txt rdd cnt hq len pt iw rm)) (fun r h2 => r = (if p < X.1 10 k then nI (X.1 11 (32 * k + p)) else -1) ∧ h2 = q_put h 11 (oR th sf asd sts snp txt rdd cnt hq len pt iw rm)) := by
  have h24 := j_L hJ k hk
  have h16 := iV7 hJ.1 k
  refine ct_of (by decide +kernel) rfl rfl (Nat.le_of_ble_eq_true rfl) ?_
  show Ev mX3_record 0 0 [some (qR 11 0), some (qI (nI k)), some (qI (nI p))] [] 132 (q_put h 11 (oR th sf asd sts snp txt rdd cnt hq len pt iw rm)) 0 0 _ _
  refine e_iload2 dX3_record_0 ?_
  refine e_aload0 dX3_record_1 ?_
  refine e_getfieldF flX3_7 dX3_record_2 rfl rfl ?_
  refine e_bipush (v := nI 102) dX3_record_5 (by decide) ?_
  refine e_iload1 dX3_record_7 ?_
  first | refine e_iaddN dX3_record_8 ?_ | refine e_iadd dX3_record_8 ?_
  refine e_ialoadN dX3_record_9 rfl (by omega) (by decide) ?_
  rw [rR9 hR _ hk]
  first | refine e_icmp_geN 30 dX3_record_10 (by decide) (by omega) (by omega) (fun hc10 => ?_) (fun hc10 => ?_) | refine e_icmp_ge 30 dX3_record_10 (by decide) (fun hc10 => ?_) (fun hc10 => ?_)
  · refine e_iconstM dX3_record_30 ?_
    refine e_iret dX3_record_31 rfl ?_
    first
      | exact ⟨_, rfl, rfl, by rw [if_pos (by omega)], rfl⟩
      | exact ⟨_, rfl, rfl, by rw [if_neg (by omega)], rfl⟩
  · refine e_aload0 dX3_record_13 ?_
    refine e_getfieldF flX3_7 dX3_record_14 rfl rfl ?_
    refine e_bipush (v := nI 107) dX3_record_17 (by decide) ?_
    refine e_bipush (v := nI 16) dX3_record_19 (by decide) ?_
    refine e_iload1 dX3_record_21 ?_
    first | refine e_imulN dX3_record_22 ?_ | refine e_imul dX3_record_22 ?_
    first | refine e_iaddN dX3_record_23 ?_ | refine e_iadd dX3_record_23 ?_
    refine e_iload2 dX3_record_24 ?_
    first | refine e_iaddN dX3_record_25 ?_ | refine e_iadd dX3_record_25 ?_
    refine e_ialoadN dX3_record_26 rfl (by omega) (by decide) ?_
    rw [rR10 hR k p hk (by omega)]
    refine e_goto 31 dX3_record_27 (by decide) ?_
    refine e_iret dX3_record_31 rfl ?_
    first
      | exact ⟨_, rfl, rfl, by rw [if_pos (by omega)], rfl⟩
      | exact ⟨_, rfl, rfl, by rw [if_neg (by omega)], rfl⟩
