def m_awayIn (X : qm) (t n : Nat) : Int32 := if X.1 7 t = 1 then m_away X t + m_notMade X t n else m_away X t
theorem m_awayIn_0 {X : qm} {t : Nat} : m_awayIn X t 0 = m_away X t := by
  unfold m_awayIn m_notMade
  split
  · exact Int32.add_zero _
  · rfl
theorem m_awayIn_y {X : qm} {t n : Nat} (h1 : X.1 7 t = 1) (h2 : ¬ X.1 9 (8 * n + t) = 2) : m_awayIn X t n + m_share X t n = m_awayIn X t (n + 1) := by
  unfold m_awayIn
  rw [if_pos h1, if_pos h1, m_notMade, if_neg h2, Int32.add_assoc]
theorem m_awayIn_n {X : qm} {t n : Nat} (h1 : ¬ X.1 7 t = 1) : m_awayIn X t n + nI 0 = m_awayIn X t (n + 1) := by
  unfold m_awayIn
  rw [if_neg h1, if_neg h1]
  exact Int32.add_zero _
theorem m_awayIn_z {X : qm} {t n : Nat} (h2 : X.1 9 (8 * n + t) = 2) : m_awayIn X t n + nI 0 = m_awayIn X t (n + 1) := by
  unfold m_awayIn
  rw [m_notMade, if_pos h2]
  exact Int32.add_zero _
theorem m_awayIn_4 {X : qm} {t : Nat} : m_awayIn X t 4 = m_away X (t + 1) := rfl
set_option maxRecDepth 20000 in
set_option maxHeartbeats 4000000 in
theorem r_away (h : qB) (th : Int32) (sf asd sts snp txt rdd : Nat → Int32) (cnt hq len pt iw rm : Int32) (X : qm) (hR : RelR sf X) (hJ : J X) : CtI mX3_away 3 [qR 11 0] (q_put h 11 (oR th sf asd sts snp txt rdd cnt hq len pt iw rm)) (fun r h2 => r = m_away X (X.1 0 0) ∧ h2 = q_put h 11 (oR th sf asd sts snp txt rdd cnt hq len pt iw rm)) := by
  have i1 := iV1 hJ.1
  refine ct_of (by decide +kernel) rfl rfl (Nat.le_of_ble_eq_true rfl) ?_
  show Ev mX3_away 3 0 [some (qR 11 0), none, none, none] [] 132 (q_put h 11 (oR th sf asd sts snp txt rdd cnt hq len pt iw rm)) 0 0 _ _
  refine e_iconst (z := 0) dX3_away_0 ?_
  refine e_istore1 dX3_away_1 rfl (by decide) ?_
  refine e_iconst (z := 0) dX3_away_2 ?_
  refine e_istore2 dX3_away_3 rfl (by decide) ?_
  have H : ∀ (m i : Nat) (v : Int32), i ≤ X.1 0 0 → m = X.1 0 0 - i → v = m_away X i → Ev mX3_away 3 4 [some (qR 11 0), some (qI v), some (qI (nI i)), none] [] 132 (q_put h 11 (oR th sf asd sts snp txt rdd cnt hq len pt iw rm)) 0 0 (fun r n h' => ∃ x, r = some (qI x) ∧ n = 132 ∧ ((fun r h2 => r = m_away X (X.1 0 0) ∧ h2 = q_put h 11 (oR th sf asd sts snp txt rdd cnt hq len pt iw rm))) x h') qNo := by
    intro m
    induction m using Nat.strongRecOn with
    | _ m ih =>
    intro i v hi hm hv
    refine e_iload2 dX3_away_4 ?_
    refine e_aload0 dX3_away_5 ?_
    refine e_getfieldF flX3_7 dX3_away_6 rfl rfl ?_
    refine e_bipush (v := nI 9) dX3_away_9 (by decide) ?_
    refine e_ialoadN dX3_away_11 rfl (by omega) (by decide) ?_
    rw [rR2 hR]
    first | refine e_icmp_geN 67 dX3_away_12 (by decide) (by omega) (by omega) (fun hc12 => ?_) (fun hc12 => ?_) | refine e_icmp_ge 67 dX3_away_12 (by decide) (fun hc12 => ?_) (fun hc12 => ?_)
    · obtain rfl : i = X.1 0 0 := by omega
      subst hv
      refine e_iload1 dX3_away_67 ?_
      refine e_iret dX3_away_68 rfl ?_
      exact ⟨_, rfl, rfl, rfl, rfl⟩
    · refine e_iconst (z := 0) dX3_away_15 ?_
      refine e_istore3 dX3_away_16 rfl (by decide) ?_
      have H2 : ∀ (m2 j : Nat) (v2 : Int32), j ≤ 4 → m2 = 4 - j → v2 = m_awayIn X i j → Ev mX3_away 3 17 [some (qR 11 0), some (qI v2), some (qI (nI i)), some (qI (nI j))] [] 132 (q_put h 11 (oR th sf asd sts snp txt rdd cnt hq len pt iw rm)) 0 0 (fun r n h' => ∃ x, r = some (qI x) ∧ n = 132 ∧ ((fun r h2 => r = m_away X (X.1 0 0) ∧ h2 = q_put h 11 (oR th sf asd sts snp txt rdd cnt hq len pt iw rm))) x h') qNo := by
        intro m2
        induction m2 using Nat.strongRecOn with
        | _ m2 ih2 =>
        intro j v2 hj hm2 hv2
        refine e_iload3 dX3_away_17 ?_
        refine e_iconst (z := 4) dX3_away_18 ?_
        first | refine e_icmp_geN 61 dX3_away_19 (by decide) (by omega) (by omega) (fun hc19 => ?_) (fun hc19 => ?_) | refine e_icmp_ge 61 dX3_away_19 (by decide) (fun hc19 => ?_) (fun hc19 => ?_)
        · obtain rfl : j = 4 := by omega
          first | refine e_iinc2N (z := 1) dX3_away_61 rfl (by decide) ?_ | refine e_iinc2 dX3_away_61 rfl rfl (by decide) ?_
          refine e_goto 4 dX3_away_64 (by decide) ?_
          refine e_drop3 ?_
          exact ih _ (by omega) (i + 1) _ (by omega) rfl (by rw [hv2, m_awayIn_4])
        · refine e_iload1 dX3_away_22 ?_
          refine e_aload0 dX3_away_23 ?_
          refine e_iload2 dX3_away_24 ?_
          refine e_iconst (z := 5) dX3_away_25 ?_
          refine e_vIF (M' := mX3_of) fX3_of lkX3_39 (r_of5 h th sf asd sts snp txt rdd cnt hq len pt iw rm X hR (t := i) (by omega)) rfl rfl dX3_away_26 rfl rfl (by decide) (Nat.le_of_ble_eq_true rfl) rfl ?_
          rintro _ _ ⟨rfl, rfl⟩
          have hv7 := (iV4 hJ.1 i (by omega)).2.2.2.2.2.1
          refine e_iconst (z := 1) dX3_away_29 ?_
          first | refine e_icmp_neN 52 dX3_away_30 (by decide) (by omega) (by omega) (fun hc30 => ?_) (fun hc30 => ?_) | refine e_icmp_ne 52 dX3_away_30 (by decide) (fun hc30 => ?_) (fun hc30 => ?_)
          · refine e_iconst (z := 0) dX3_away_52 ?_
            refine e_iadd dX3_away_53 ?_
            refine e_istore1 dX3_away_54 rfl (by decide) ?_
            first | refine e_iinc3N (z := 1) dX3_away_55 rfl (by decide) ?_ | refine e_iinc3 dX3_away_55 rfl rfl (by decide) ?_
            refine e_goto 17 dX3_away_58 (by decide) ?_
            exact ih2 _ (by omega) (j + 1) _ (by omega) rfl (by rw [hv2]; first | exact m_awayIn_y hc30 hc40 | exact m_awayIn_n hc30 | exact m_awayIn_z hc40)
          · refine e_aload0 dX3_away_33 ?_
            refine e_iload3 dX3_away_34 ?_
            refine e_iload2 dX3_away_35 ?_
            refine e_vIF (M' := mX3_stateIn) fX3_stateIn lkX3_51 (r_stateIn h th sf asd sts snp txt rdd cnt hq len pt iw rm X hR (s := j) (t := i) (by omega) (by omega)) rfl rfl dX3_away_36 rfl rfl (by decide) (Nat.le_of_ble_eq_true rfl) rfl ?_
            rintro _ _ ⟨rfl, rfl⟩
            have hst := (iV6 hJ.1 j i (by omega) (by omega)).1
            refine e_iconst (z := 2) dX3_away_39 ?_
            first | refine e_icmp_eqN 52 dX3_away_40 (by decide) (by omega) (by omega) (fun hc40 => ?_) (fun hc40 => ?_) | refine e_icmp_eq 52 dX3_away_40 (by decide) (fun hc40 => ?_) (fun hc40 => ?_)
            · refine e_iconst (z := 0) dX3_away_52 ?_
              refine e_iadd dX3_away_53 ?_
              refine e_istore1 dX3_away_54 rfl (by decide) ?_
              first | refine e_iinc3N (z := 1) dX3_away_55 rfl (by decide) ?_ | refine e_iinc3 dX3_away_55 rfl rfl (by decide) ?_
              refine e_goto 17 dX3_away_58 (by decide) ?_
              exact ih2 _ (by omega) (j + 1) _ (by omega) rfl (by rw [hv2]; first | exact m_awayIn_y hc30 hc40 | exact m_awayIn_n hc30 | exact m_awayIn_z hc40)
            · refine e_aload0 dX3_away_43 ?_
              refine e_iload2 dX3_away_44 ?_
              refine e_iload3 dX3_away_45 ?_
              refine e_vIF (M' := mX3_shareIn) fX3_shareIn lkX3_54 (r_shareIn h th sf asd sts snp txt rdd cnt hq len pt iw rm X hR (t := i) (s := j) ((wk_J hJ).2.2.2.2 _ (by omega)).1 ((wk_J hJ).2.2.2.2 _ (by omega)).2 (by omega) (by omega)) rfl rfl dX3_away_46 rfl rfl (by decide) (Nat.le_of_ble_eq_true rfl) rfl ?_
              rintro _ _ ⟨rfl, rfl⟩
              refine e_goto 53 dX3_away_49 (by decide) ?_
              refine e_iadd dX3_away_53 ?_
              refine e_istore1 dX3_away_54 rfl (by decide) ?_
              first | refine e_iinc3N (z := 1) dX3_away_55 rfl (by decide) ?_ | refine e_iinc3 dX3_away_55 rfl rfl (by decide) ?_
              refine e_goto 17 dX3_away_58 (by decide) ?_
              exact ih2 _ (by omega) (j + 1) _ (by omega) rfl (by rw [hv2]; first | exact m_awayIn_y hc30 hc40 | exact m_awayIn_n hc30 | exact m_awayIn_z hc40)
      exact H2 _ 0 _ (Nat.zero_le _) rfl (by rw [m_awayIn_0, hv])
  exact H _ 0 _ (Nat.zero_le _) rfl rfl
