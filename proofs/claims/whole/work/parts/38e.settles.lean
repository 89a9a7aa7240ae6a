set_option maxRecDepth 20000 in
set_option maxHeartbeats 4000000 in
theorem r_settles (h : qB) (th : Int32) (sf asd sts snp txt rdd : Nat → Int32) (cnt hq len pt iw rm : Int32) (X : qm) (hR : RelR sf X) (hJ : J X) : CtI mX3_settles 8 [qR 11 0] (q_put h 11 (oR th sf asd sts snp txt rdd cnt hq len pt iw rm)) (fun r h2 => r = nI (m_settleN X) ∧ ∃ sf' a', (∀ j, j < 256 → a' j = sf j) ∧ RelR sf' (m_settle X) ∧ h2 = q_put h 11 (oR th sf' a' sts snp txt rdd cnt hq len pt iw rm)) := by
  refine ct_of (by decide +kernel) rfl rfl (Nat.le_of_ble_eq_true rfl) ?_
  show Ev mX3_settles 8 0 [some (qR 11 0), none] [] 132 (q_put h 11 (oR th sf asd sts snp txt rdd cnt hq len pt iw rm)) 0 0 _ _
  refine e_aload0 dX3_settles_0 ?_
  refine e_vVF (M' := mX3_putAside) fX3_putAside lkX3_217 (r_putAside h th sf asd sts snp txt rdd cnt hq len pt iw rm) rfl rfl dX3_settles_1 rfl rfl (by decide) (Nat.le_of_ble_eq_true rfl) rfl ?_
  rintro _ ⟨a2, hA, rfl⟩
  have HT : ∀ (sf2 : Nat → Int32) (l1 : Option qV), RelR sf2 (m_ifUp X 4) → Ev mX3_settles 8 18 [some (qR 11 0), l1] [] 132 (q_put h 11 (oR th sf2 a2 sts snp txt rdd cnt hq len pt iw rm)) 0 0 (fun r n h' => ∃ x, r = some (qI x) ∧ n = 132 ∧ ((fun r h2 => r = nI (m_settleN X) ∧ ∃ sf' a', (∀ j, j < 256 → a' j = sf j) ∧ RelR sf' (m_settle X) ∧ h2 = q_put h 11 (oR th sf' a' sts snp txt rdd cnt hq len pt iw rm))) x h') qNo := by
    intro sf2 l1 hR2
    refine e_iconst (z := 0) dX3_settles_18 ?_
    refine e_istore1 dX3_settles_19 rfl (by decide) ?_
    have H : ∀ (m i : Nat) (sf3 : Nat → Int32), i ≤ 4 → m = 4 - i → RelR sf3 (m_settleUp X i) → Ev mX3_settles 8 20 [some (qR 11 0), some (qI (nI i))] [] 132 (q_put h 11 (oR th sf3 a2 sts snp txt rdd cnt hq len pt iw rm)) 0 0 (fun r n h' => ∃ x, r = some (qI x) ∧ n = 132 ∧ ((fun r h2 => r = nI (m_settleN X) ∧ ∃ sf' a', (∀ j, j < 256 → a' j = sf j) ∧ RelR sf' (m_settle X) ∧ h2 = q_put h 11 (oR th sf' a' sts snp txt rdd cnt hq len pt iw rm))) x h') qNo := by
      intro m
      induction m using Nat.strongRecOn with
      | _ m ih =>
      intro i sf3 hi hm hR3
      have hJ3 : J (m_settleUp X i) := j_settleUp hJ i hi
      refine e_iload1 dX3_settles_20 ?_
      refine e_iconst (z := 4) dX3_settles_21 ?_
      first | refine e_icmp_geN 47 dX3_settles_22 (by decide) (by omega) (by omega) (fun hc22 => ?_) (fun hc22 => ?_) | refine e_icmp_ge 47 dX3_settles_22 (by decide) (fun hc22 => ?_) (fun hc22 => ?_)
      · obtain rfl : i = 4 := by omega
        refine e_aload0 dX3_settles_47 ?_
        refine e_vIF (M' := mX3_deliversAll) fX3_deliversAll lkX3_139 (r_deliversAll h th sf3 a2 sts snp txt rdd cnt hq len pt iw rm (m_settleUp X 4) hR3 hJ3) rfl rfl dX3_settles_48 rfl rfl (by decide) (Nat.le_of_ble_eq_true rfl) rfl ?_
        rintro _ _ ⟨rfl, sf5, hR5, rfl⟩
        refine e_iret dX3_settles_51 rfl ?_
        exact ⟨_, rfl, rfl, rfl, sf5, a2, hA, hR5, rfl⟩
      · refine e_aload0 dX3_settles_25 ?_
        refine e_getfieldF flX3_7 dX3_settles_26 rfl rfl ?_
        refine e_iconst (z := 0) dX3_settles_29 ?_
        refine e_iload1 dX3_settles_30 ?_
        first | refine e_iaddN dX3_settles_31 ?_ | refine e_iadd dX3_settles_31 ?_
        refine e_ialoadN dX3_settles_32 rfl (by omega) (by decide) ?_
        rw [Nat.zero_add i, rR0 hR3 i (by omega)]
        have hu := iV3 hJ3.1 i (by omega)
        first | refine e_if_neN 41 dX3_settles_33 (by decide) (by omega) (fun hc33 => ?_) (fun hc33 => ?_) | refine e_if_ne 41 dX3_settles_33 (by decide) (fun hc33 => ?_) (fun hc33 => ?_)
        · first | refine e_iinc1N (z := 1) dX3_settles_41 rfl (by decide) ?_ | refine e_iinc1 dX3_settles_41 rfl rfl (by decide) ?_
          refine e_goto 20 dX3_settles_44 (by decide) ?_
          first
            | exact ih _ (by omega) (i + 1) sf4 (by omega) rfl (by rw [m_settleUp, m_ifUp, if_neg (by omega)]; exact hR4)
            | exact ih _ (by omega) (i + 1) sf3 (by omega) rfl (by rw [m_settleUp, m_ifUp, if_pos (by omega)]; exact hR3)
        · refine e_aload0 dX3_settles_36 ?_
          refine e_iload1 dX3_settles_37 ?_
          refine e_vVF (M' := mX3_recovers) fX3_recovers lkX3_152 (r_recovers h th sf3 a2 sts snp txt rdd cnt hq len pt iw rm (m_settleUp X i) hR3 hJ3 (k := i) (by omega)) rfl rfl dX3_settles_38 rfl rfl (by decide) (Nat.le_of_ble_eq_true rfl) rfl ?_
          rintro _ ⟨sf4, hR4, rfl⟩
          first | refine e_iinc1N (z := 1) dX3_settles_41 rfl (by decide) ?_ | refine e_iinc1 dX3_settles_41 rfl rfl (by decide) ?_
          refine e_goto 20 dX3_settles_44 (by decide) ?_
          first
            | exact ih _ (by omega) (i + 1) sf4 (by omega) rfl (by rw [m_settleUp, m_ifUp, if_neg (by omega)]; exact hR4)
            | exact ih _ (by omega) (i + 1) sf3 (by omega) rfl (by rw [m_settleUp, m_ifUp, if_pos (by omega)]; exact hR3)
    exact H _ 0 sf2 (Nat.zero_le _) rfl hR2
  refine e_aload0 dX3_settles_4 ?_
  refine e_getfieldF flX3_7 dX3_settles_5 rfl rfl ?_
  refine e_iconst (z := 4) dX3_settles_8 ?_
  refine e_ialoadN dX3_settles_9 rfl (by omega) (by decide) ?_
  rw [rR0 hR 4 (by decide)]
  have hu := iV3 hJ.1 4 (by decide)
  first | refine e_if_neN 18 dX3_settles_10 (by decide) (by omega) (fun hc10 => ?_) (fun hc10 => ?_) | refine e_if_ne 18 dX3_settles_10 (by decide) (fun hc10 => ?_) (fun hc10 => ?_)
  · first
      | exact HT sf4 _ (by rw [m_ifUp, if_neg (by omega)]; exact hR4)
      | exact HT sf _ (by rw [m_ifUp, if_pos (by omega)]; exact hR)
  · refine e_aload0 dX3_settles_13 ?_
    refine e_iconst (z := 4) dX3_settles_14 ?_
    refine e_vVF (M' := mX3_recovers) fX3_recovers lkX3_152 (r_recovers h th sf a2 sts snp txt rdd cnt hq len pt iw rm X hR hJ (k := 4) (by decide)) rfl rfl dX3_settles_15 rfl rfl (by decide) (Nat.le_of_ble_eq_true rfl) rfl ?_
    rintro _ ⟨sf4, hR4, rfl⟩
    first
      | exact HT sf4 _ (by rw [m_ifUp, if_neg (by omega)]; exact hR4)
      | exact HT sf _ (by rw [m_ifUp, if_pos (by omega)]; exact hR)
theorem hA_back {f a s4 : Nat → Int32} {X : qm} (hJ : J X) (hR : RelR f X) (hA : ∀ j, j < 256 → a j = f j) (h4 : ∀ j, j < 256 → s4 j = a j) : RelR s4 X := relR_congr (wk_J hJ) (fun j hj => by rw [h4 j hj, hA j hj]) hR
set_option maxRecDepth 20000 in
set_option maxHeartbeats 4000000 in
theorem r_settledMany (h : qB) (th : Int32) (sf asd sts snp txt rdd : Nat → Int32) (cnt hq len pt iw rm : Int32) (X : qm) (hR : RelR sf X) (hJ : J X) : CtI mX3_settledMany 9 [qR 11 0] (q_put h 11 (oR th sf asd sts snp txt rdd cnt hq len pt iw rm)) (fun r h2 => r = nI (m_settleN X) ∧ ∃ sf' a', RelR sf' X ∧ h2 = q_put h 11 (oR th sf' a' sts snp txt rdd cnt hq len pt iw rm)) := by
  refine ct_of (by decide +kernel) rfl rfl (Nat.le_of_ble_eq_true rfl) ?_
  show Ev mX3_settledMany 9 0 [some (qR 11 0), none] [] 132 (q_put h 11 (oR th sf asd sts snp txt rdd cnt hq len pt iw rm)) 0 0 _ _
  refine e_aload0 dX3_settledMany_0 ?_
  refine e_vIF (M' := mX3_settles) fX3_settles lkX3_226 (r_settles h th sf asd sts snp txt rdd cnt hq len pt iw rm X hR hJ) rfl rfl dX3_settledMany_1 rfl rfl (by decide) (Nat.le_of_ble_eq_true rfl) rfl ?_
  rintro _ _ ⟨rfl, sf2, a2, hA, hR2, rfl⟩
  refine e_istore1 dX3_settledMany_4 rfl (by decide) ?_
  refine e_aload0 dX3_settledMany_5 ?_
  refine e_vVF (M' := mX3_takeBack) fX3_takeBack lkX3_220 (r_takeBack h th sf2 a2 sts snp txt rdd cnt hq len pt iw rm) rfl rfl dX3_settledMany_6 rfl rfl (by decide) (Nat.le_of_ble_eq_true rfl) rfl ?_
  rintro _ ⟨sf4, hA4, rfl⟩
  refine e_iload1 dX3_settledMany_9 ?_
  refine e_iret dX3_settledMany_10 rfl ?_
  exact ⟨_, rfl, rfl, rfl, sf4, a2, hA_back hJ hR hA hA4, rfl⟩
set_option maxRecDepth 20000 in
set_option maxHeartbeats 4000000 in
theorem r_settledOutcome (h : qB) (th : Int32) (sf asd sts snp txt rdd : Nat → Int32) (cnt hq len pt iw rm : Int32) (X : qm) (hR : RelR sf X) (hJ : J X) {t : Nat} (ht : t < 8) : CtI mX3_settledOutcome 9 [qR 11 0, qI (nI t)] (q_put h 11 (oR th sf asd sts snp txt rdd cnt hq len pt iw rm)) (fun r h2 => r = nI ((m_settle X).1 7 t) ∧ ∃ sf' a', RelR sf' X ∧ h2 = q_put h 11 (oR th sf' a' sts snp txt rdd cnt hq len pt iw rm)) := by
  refine ct_of (by decide +kernel) rfl rfl (Nat.le_of_ble_eq_true rfl) ?_
  show Ev mX3_settledOutcome 9 0 [some (qR 11 0), some (qI (nI t)), none] [] 132 (q_put h 11 (oR th sf asd sts snp txt rdd cnt hq len pt iw rm)) 0 0 _ _
  refine e_aload0 dX3_settledOutcome_0 ?_
  refine e_vIF (M' := mX3_settles) fX3_settles lkX3_226 (r_settles h th sf asd sts snp txt rdd cnt hq len pt iw rm X hR hJ) rfl rfl dX3_settledOutcome_1 rfl rfl (by decide) (Nat.le_of_ble_eq_true rfl) rfl ?_
  rintro _ _ ⟨rfl, sf2, a2, hA, hR2, rfl⟩
  refine e_pop dX3_settledOutcome_4 rfl ?_
  refine e_aload0 dX3_settledOutcome_5 ?_
  refine e_iload1 dX3_settledOutcome_6 ?_
  refine e_iconst (z := 5) dX3_settledOutcome_7 ?_
  refine e_vIF (M' := mX3_of) fX3_of lkX3_39 (r_of5 h th sf2 a2 sts snp txt rdd cnt hq len pt iw rm (m_settle X) hR2 (t := t) ht) rfl rfl dX3_settledOutcome_8 rfl rfl (by decide) (Nat.le_of_ble_eq_true rfl) rfl ?_
  rintro _ _ ⟨rfl, rfl⟩
  refine e_istore2 dX3_settledOutcome_11 rfl (by decide) ?_
  refine e_aload0 dX3_settledOutcome_12 ?_
  refine e_vVF (M' := mX3_takeBack) fX3_takeBack lkX3_220 (r_takeBack h th sf2 a2 sts snp txt rdd cnt hq len pt iw rm) rfl rfl dX3_settledOutcome_13 rfl rfl (by decide) (Nat.le_of_ble_eq_true rfl) rfl ?_
  rintro _ ⟨sf4, hA4, rfl⟩
  refine e_iload2 dX3_settledOutcome_16 ?_
  refine e_iret dX3_settledOutcome_17 rfl ?_
  exact ⟨_, rfl, rfl, rfl, sf4, a2, hA_back hJ hR hA hA4, rfl⟩
set_option maxRecDepth 20000 in
set_option maxHeartbeats 4000000 in
theorem r_settledAmount (h : qB) (th : Int32) (sf asd sts snp txt rdd : Nat → Int32) (cnt hq len pt iw rm : Int32) (X : qm) (hR : RelR sf X) (hJ : J X) {s : Nat} (hs : s < 4) : CtI mX3_settledAmount 9 [qR 11 0, qI (nI s)] (q_put h 11 (oR th sf asd sts snp txt rdd cnt hq len pt iw rm)) (fun r h2 => r = (m_settle X).2 s ∧ ∃ sf' a', RelR sf' X ∧ h2 = q_put h 11 (oR th sf' a' sts snp txt rdd cnt hq len pt iw rm)) := by
  refine ct_of (by decide +kernel) rfl rfl (Nat.le_of_ble_eq_true rfl) ?_
  show Ev mX3_settledAmount 9 0 [some (qR 11 0), some (qI (nI s)), none] [] 132 (q_put h 11 (oR th sf asd sts snp txt rdd cnt hq len pt iw rm)) 0 0 _ _
  refine e_aload0 dX3_settledAmount_0 ?_
  refine e_vIF (M' := mX3_settles) fX3_settles lkX3_226 (r_settles h th sf asd sts snp txt rdd cnt hq len pt iw rm X hR hJ) rfl rfl dX3_settledAmount_1 rfl rfl (by decide) (Nat.le_of_ble_eq_true rfl) rfl ?_
  rintro _ _ ⟨rfl, sf2, a2, hA, hR2, rfl⟩
  refine e_pop dX3_settledAmount_4 rfl ?_
  refine e_aload0 dX3_settledAmount_5 ?_
  refine e_getfieldF flX3_7 dX3_settledAmount_6 rfl rfl ?_
  refine e_iconst (z := 5) dX3_settledAmount_9 ?_
  refine e_iload1 dX3_settledAmount_10 ?_
  first | refine e_iaddN dX3_settledAmount_11 ?_ | refine e_iadd dX3_settledAmount_11 ?_
  refine e_ialoadN dX3_settledAmount_12 rfl (by omega) (by decide) ?_
  refine e_istore2 dX3_settledAmount_13 rfl (by decide) ?_
  refine e_aload0 dX3_settledAmount_14 ?_
  refine e_vVF (M' := mX3_takeBack) fX3_takeBack lkX3_220 (r_takeBack h th sf2 a2 sts snp txt rdd cnt hq len pt iw rm) rfl rfl dX3_settledAmount_15 rfl rfl (by decide) (Nat.le_of_ble_eq_true rfl) rfl ?_
  rintro _ ⟨sf4, hA4, rfl⟩
  refine e_iload2 dX3_settledAmount_18 ?_
  refine e_iret dX3_settledAmount_19 rfl ?_
  exact ⟨_, rfl, rfl, rR1 hR2 s hs, sf4, a2, hA_back hJ hR hA hA4, rfl⟩
