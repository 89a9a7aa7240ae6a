set_option maxRecDepth 20000 in
set_option maxHeartbeats 4000000 in
theorem r_recovers (h : qB) (th : Int32) (sf asd sts snp txt rdd : Nat → Int32) (cnt hq len pt iw rm : Int32) (X : qm) (hR : RelR sf X) (hJ : J X) {k : Nat} (hk : k < 5) : CtV mX3_recovers 4 [qR 11 0, qI (nI k)] (q_put h 11 (oR th sf asd sts snp txt rdd cnt hq len pt iw rm)) (fun h2 => ∃ sf', RelR sf' (m_recover X k) ∧ h2 = q_put h 11 (oR th sf' asd sts snp txt rdd cnt hq len pt iw rm)) := by
  have h0 := iV1 hJ.1
  refine ct_of (by decide +kernel) rfl rfl (Nat.le_of_ble_eq_true rfl) ?_
  show Ev mX3_recovers 4 0 [some (qR 11 0), some (qI (nI k)), none] [] 132 (q_put h 11 (oR th sf asd sts snp txt rdd cnt hq len pt iw rm)) 0 0 _ _
  refine e_aload0 dX3_recovers_0 ?_
  refine e_getfieldF flX3_7 dX3_recovers_1 rfl rfl ?_
  refine e_iconst (z := 0) dX3_recovers_4 ?_
  refine e_iload1 dX3_recovers_5 ?_
  first | refine e_iaddN dX3_recovers_6 ?_ | refine e_iadd dX3_recovers_6 ?_
  refine e_iconst (z := 1) dX3_recovers_7 ?_
  refine e_iastoreN dX3_recovers_8 rfl (by omega) (by decide) ?_
  refine e_iconst (z := 0) dX3_recovers_9 ?_
  refine e_istore2 dX3_recovers_10 rfl (by decide) ?_
  have H : ∀ (m i : Nat) (sf2 : Nat → Int32), i ≤ X.1 0 0 → m = X.1 0 0 - i → RelR sf2 (m_ups (xs X 1 k 1) k i) → Ev mX3_recovers 4 11 [some (qR 11 0), some (qI (nI k)), some (qI (nI i))] [] 132 (q_put h 11 (oR th sf2 asd sts snp txt rdd cnt hq len pt iw rm)) 0 0 (fun r n h' => r = none ∧ n = 132 ∧ ((fun h2 => ∃ sf', RelR sf' (m_recover X k) ∧ h2 = q_put h 11 (oR th sf' asd sts snp txt rdd cnt hq len pt iw rm))) h') qNo := by
    intro m
    induction m using Nat.strongRecOn with
    | _ m ih =>
    intro i sf2 hi hm hR2
    have hJ2 : J (m_ups (xs X 1 k 1) k i) := j_ups (j_up hJ k) hk i hi
    have hW2 := wk_J hJ2
    have hT : (m_ups (xs X 1 k 1) k i).1 0 0 = X.1 0 0 := by rw [m_ups_0]; rfl
    refine e_iload2 dX3_recovers_11 ?_
    refine e_aload0 dX3_recovers_12 ?_
    refine e_getfieldF flX3_7 dX3_recovers_13 rfl rfl ?_
    refine e_bipush (v := nI 9) dX3_recovers_16 (by decide) ?_
    refine e_ialoadN dX3_recovers_18 rfl (by omega) (by decide) ?_
    rw [rR2 hR2, hT]
    first | refine e_icmp_geN 105 dX3_recovers_19 (by decide) (by omega) (by omega) (fun hc19 => ?_) (fun hc19 => ?_) | refine e_icmp_ge 105 dX3_recovers_19 (by decide) (fun hc19 => ?_) (fun hc19 => ?_)
    · refine e_vret dX3_recovers_105 rfl ?_
      obtain rfl : i = X.1 0 0 := by omega
      exact ⟨rfl, rfl, sf2, hR2, rfl⟩
    · have hi2 : i < (m_ups (xs X 1 k 1) k i).1 0 0 := by rw [hT]; omega
      by_cases hk4 : k = 4
      · refine e_iload1 dX3_recovers_22 ?_
        refine e_iconst (z := 4) dX3_recovers_23 ?_
        refine e_icmp_neN 45 dX3_recovers_24 (by decide) (by first | omega | decide) (by first | omega | decide) (fun q => absurd hk4 q) (fun hc24 => ?_)
        refine e_aload0 dX3_recovers_27 ?_
        refine e_iload2 dX3_recovers_28 ?_
        refine e_iconst (z := 5) dX3_recovers_29 ?_
        refine e_vIF (M' := mX3_of) fX3_of lkX3_39 (r_of5 h th sf2 asd sts snp txt rdd cnt hq len pt iw rm (m_ups (xs X 1 k 1) k i) hR2 (t := i) (by omega)) rfl rfl dX3_recovers_30 rfl rfl (by decide) (Nat.le_of_ble_eq_true rfl) rfl ?_
        rintro _ _ ⟨rfl, rfl⟩
        have hv := iV4 hJ2.1 i (by omega)
        first | refine e_if_neN 45 dX3_recovers_33 (by decide) (by omega) (fun hc33 => ?_) (fun hc33 => ?_) | refine e_if_ne 45 dX3_recovers_33 (by decide) (fun hc33 => ?_) (fun hc33 => ?_)
        · refine e_iload1 dX3_recovers_45 ?_
          refine e_iconst (z := 4) dX3_recovers_46 ?_
          refine e_icmp_neN 76 dX3_recovers_47 (by decide) (by first | omega | decide) (by first | omega | decide) (fun q => absurd hk4 q) (fun hc47 => ?_)
          refine e_aload0 dX3_recovers_50 ?_
          refine e_iload2 dX3_recovers_51 ?_
          refine e_bipush (v := nI 6) dX3_recovers_52 (by decide) ?_
          refine e_vIF (M' := mX3_of) fX3_of lkX3_39 (r_of6 h th sf2 asd sts snp txt rdd cnt hq len pt iw rm (m_ups (xs X 1 k 1) k i) hR2 (t := i) (by omega)) rfl rfl dX3_recovers_54 rfl rfl (by decide) (Nat.le_of_ble_eq_true rfl) rfl ?_
          rintro _ _ ⟨rfl, rfl⟩
          first | refine e_if_neN 76 dX3_recovers_57 (by decide) (by omega) (fun hc57 => ?_) (fun hc57 => ?_) | refine e_if_ne 76 dX3_recovers_57 (by decide) (fun hc57 => ?_) (fun hc57 => ?_)
          · refine e_iload1 dX3_recovers_76 ?_
            refine e_iconst (z := 4) dX3_recovers_77 ?_
            refine e_icmp_eqN 99 dX3_recovers_78 (by decide) (by first | omega | decide) (by first | omega | decide) (fun hc78 => ?_) (fun q => absurd hk4 q)
            first | refine e_iinc2N (z := 1) dX3_recovers_99 rfl (by decide) ?_ | refine e_iinc2 dX3_recovers_99 rfl rfl (by decide) ?_
            refine e_goto 11 dX3_recovers_102 (by decide) ?_
            first
              | exact ih _ (by omega) (i + 1) sf3 (by omega) rfl (by rw [m_ups, m_upStep, if_pos hk4, m_takesUp, if_pos hc33]; exact hR3)
              | exact ih _ (by omega) (i + 1) sf3 (by omega) rfl (by rw [m_ups, m_upStep, if_pos hk4, m_takesUp, if_pos hc33]; exact hR3)
              | exact ih _ (by omega) (i + 1) sf3 (by omega) rfl (by rw [m_ups, m_upStep, if_pos hk4, m_takesUp, if_neg hc33, if_pos hc57]; exact hR3)
              | exact ih _ (by omega) (i + 1) sf2 (by omega) rfl (by rw [m_ups, m_upStep, if_pos hk4, m_takesUp, if_neg hc33, if_neg hc57]; exact hR2)
              | exact ih _ (by omega) (i + 1) sf3 (by omega) rfl (by rw [m_ups, m_upStep, if_neg hk4, if_pos hc88]; exact hR3)
              | exact ih _ (by omega) (i + 1) sf2 (by omega) rfl (by rw [m_ups, m_upStep, if_neg hk4, if_neg hc88]; exact hR2)
          · refine e_aload0 dX3_recovers_60 ?_
            refine e_iconst (z := 2) dX3_recovers_61 ?_
            refine e_aload0 dX3_recovers_62 ?_
            refine e_iload2 dX3_recovers_63 ?_
            refine e_iconst (z := 5) dX3_recovers_64 ?_
            refine e_vIF (M' := mX3_of) fX3_of lkX3_39 (r_of5 h th sf2 asd sts snp txt rdd cnt hq len pt iw rm (m_ups (xs X 1 k 1) k i) hR2 (t := i) (by omega)) rfl rfl dX3_recovers_65 rfl rfl (by decide) (Nat.le_of_ble_eq_true rfl) rfl ?_
            rintro _ _ ⟨rfl, rfl⟩
            first | refine e_iaddN dX3_recovers_68 ?_ | refine e_iadd dX3_recovers_68 ?_
            refine e_iload2 dX3_recovers_69 ?_
            refine e_vVF (M' := mX3_sendsAll) fX3_sendsAll lkX3_70 (r_sendsAll h th sf2 asd sts snp txt rdd cnt hq len pt iw rm (m_ups (xs X 1 k 1) k i) hR2 hW2 (kd := 2 + (m_ups (xs X 1 k 1) k i).1 7 i) (t := i) (by omega)) rfl rfl dX3_recovers_70 rfl rfl (by decide) (Nat.le_of_ble_eq_true rfl) rfl ?_
            rintro _ ⟨sf3, hR3, rfl⟩
            refine e_goto 99 dX3_recovers_73 (by decide) ?_
            first | refine e_iinc2N (z := 1) dX3_recovers_99 rfl (by decide) ?_ | refine e_iinc2 dX3_recovers_99 rfl rfl (by decide) ?_
            refine e_goto 11 dX3_recovers_102 (by decide) ?_
            first
              | exact ih _ (by omega) (i + 1) sf3 (by omega) rfl (by rw [m_ups, m_upStep, if_pos hk4, m_takesUp, if_pos hc33]; exact hR3)
              | exact ih _ (by omega) (i + 1) sf3 (by omega) rfl (by rw [m_ups, m_upStep, if_pos hk4, m_takesUp, if_pos hc33]; exact hR3)
              | exact ih _ (by omega) (i + 1) sf3 (by omega) rfl (by rw [m_ups, m_upStep, if_pos hk4, m_takesUp, if_neg hc33, if_pos hc57]; exact hR3)
              | exact ih _ (by omega) (i + 1) sf2 (by omega) rfl (by rw [m_ups, m_upStep, if_pos hk4, m_takesUp, if_neg hc33, if_neg hc57]; exact hR2)
              | exact ih _ (by omega) (i + 1) sf3 (by omega) rfl (by rw [m_ups, m_upStep, if_neg hk4, if_pos hc88]; exact hR3)
              | exact ih _ (by omega) (i + 1) sf2 (by omega) rfl (by rw [m_ups, m_upStep, if_neg hk4, if_neg hc88]; exact hR2)
        · refine e_aload0 dX3_recovers_36 ?_
          refine e_iload2 dX3_recovers_37 ?_
          refine e_iconst (z := 2) dX3_recovers_38 ?_
          refine e_vVF (M' := mX3_decides) fX3_decides lkX3_81 (r_decides h th sf2 asd sts snp txt rdd cnt hq len pt iw rm (m_ups (xs X 1 k 1) k i) hR2 hW2 (t := i) (oc := 2) (by omega) (j_len7 hJ2 hi2 hc33)) rfl rfl dX3_recovers_39 rfl rfl (by decide) (Nat.le_of_ble_eq_true rfl) rfl ?_
          rintro _ ⟨sf3, hR3, rfl⟩
          refine e_goto 99 dX3_recovers_42 (by decide) ?_
          first | refine e_iinc2N (z := 1) dX3_recovers_99 rfl (by decide) ?_ | refine e_iinc2 dX3_recovers_99 rfl rfl (by decide) ?_
          refine e_goto 11 dX3_recovers_102 (by decide) ?_
          first
            | exact ih _ (by omega) (i + 1) sf3 (by omega) rfl (by rw [m_ups, m_upStep, if_pos hk4, m_takesUp, if_pos hc33]; exact hR3)
            | exact ih _ (by omega) (i + 1) sf3 (by omega) rfl (by rw [m_ups, m_upStep, if_pos hk4, m_takesUp, if_pos hc33]; exact hR3)
            | exact ih _ (by omega) (i + 1) sf3 (by omega) rfl (by rw [m_ups, m_upStep, if_pos hk4, m_takesUp, if_neg hc33, if_pos hc57]; exact hR3)
            | exact ih _ (by omega) (i + 1) sf2 (by omega) rfl (by rw [m_ups, m_upStep, if_pos hk4, m_takesUp, if_neg hc33, if_neg hc57]; exact hR2)
            | exact ih _ (by omega) (i + 1) sf3 (by omega) rfl (by rw [m_ups, m_upStep, if_neg hk4, if_pos hc88]; exact hR3)
            | exact ih _ (by omega) (i + 1) sf2 (by omega) rfl (by rw [m_ups, m_upStep, if_neg hk4, if_neg hc88]; exact hR2)
      · refine e_iload1 dX3_recovers_22 ?_
        refine e_iconst (z := 4) dX3_recovers_23 ?_
        refine e_icmp_neN 45 dX3_recovers_24 (by decide) (by first | omega | decide) (by first | omega | decide) (fun hc24 => ?_) (fun q => absurd q hk4)
        refine e_iload1 dX3_recovers_45 ?_
        refine e_iconst (z := 4) dX3_recovers_46 ?_
        refine e_icmp_neN 76 dX3_recovers_47 (by decide) (by first | omega | decide) (by first | omega | decide) (fun hc47 => ?_) (fun q => absurd q hk4)
        refine e_iload1 dX3_recovers_76 ?_
        refine e_iconst (z := 4) dX3_recovers_77 ?_
        refine e_icmp_eqN 99 dX3_recovers_78 (by decide) (by first | omega | decide) (by first | omega | decide) (fun q => absurd q hk4) (fun hc78 => ?_)
        refine e_aload0 dX3_recovers_81 ?_
        refine e_iload1 dX3_recovers_82 ?_
        refine e_iload2 dX3_recovers_83 ?_
        refine e_vIF (M' := mX3_stateIn) fX3_stateIn lkX3_51 (r_stateIn h th sf2 asd sts snp txt rdd cnt hq len pt iw rm (m_ups (xs X 1 k 1) k i) hR2 (s := k) (t := i) (by omega) (by omega)) rfl rfl dX3_recovers_84 rfl rfl (by decide) (Nat.le_of_ble_eq_true rfl) rfl ?_
        rintro _ _ ⟨rfl, rfl⟩
        have hst := (iV6 hJ2.1 k i (by omega) (by omega)).1
        refine e_iconst (z := 1) dX3_recovers_87 ?_
        first | refine e_icmp_neN 99 dX3_recovers_88 (by decide) (by omega) (by omega) (fun hc88 => ?_) (fun hc88 => ?_) | refine e_icmp_ne 99 dX3_recovers_88 (by decide) (fun hc88 => ?_) (fun hc88 => ?_)
        · first | refine e_iinc2N (z := 1) dX3_recovers_99 rfl (by decide) ?_ | refine e_iinc2 dX3_recovers_99 rfl rfl (by decide) ?_
          refine e_goto 11 dX3_recovers_102 (by decide) ?_
          first
            | exact ih _ (by omega) (i + 1) sf3 (by omega) rfl (by rw [m_ups, m_upStep, if_pos hk4, m_takesUp, if_pos hc33]; exact hR3)
            | exact ih _ (by omega) (i + 1) sf3 (by omega) rfl (by rw [m_ups, m_upStep, if_pos hk4, m_takesUp, if_pos hc33]; exact hR3)
            | exact ih _ (by omega) (i + 1) sf3 (by omega) rfl (by rw [m_ups, m_upStep, if_pos hk4, m_takesUp, if_neg hc33, if_pos hc57]; exact hR3)
            | exact ih _ (by omega) (i + 1) sf2 (by omega) rfl (by rw [m_ups, m_upStep, if_pos hk4, m_takesUp, if_neg hc33, if_neg hc57]; exact hR2)
            | exact ih _ (by omega) (i + 1) sf3 (by omega) rfl (by rw [m_ups, m_upStep, if_neg hk4, if_pos hc88]; exact hR3)
            | exact ih _ (by omega) (i + 1) sf2 (by omega) rfl (by rw [m_ups, m_upStep, if_neg hk4, if_neg hc88]; exact hR2)
        · refine e_aload0 dX3_recovers_91 ?_
          refine e_bipush (v := nI 6) dX3_recovers_92 (by decide) ?_
          refine e_iload2 dX3_recovers_94 ?_
          refine e_iload1 dX3_recovers_95 ?_
          refine e_vVF (M' := mX3_sends) fX3_sends lkX3_60 (r_sends h th sf2 asd sts snp txt rdd cnt hq len pt iw rm (m_ups (xs X 1 k 1) k i) hR2 hW2 (kd := 6) (t := i) (s := k)) rfl rfl dX3_recovers_96 rfl rfl (by decide) (Nat.le_of_ble_eq_true rfl) rfl ?_
          rintro _ ⟨sf3, hR3, rfl⟩
          first | refine e_iinc2N (z := 1) dX3_recovers_99 rfl (by decide) ?_ | refine e_iinc2 dX3_recovers_99 rfl rfl (by decide) ?_
          refine e_goto 11 dX3_recovers_102 (by decide) ?_
          first
            | exact ih _ (by omega) (i + 1) sf3 (by omega) rfl (by rw [m_ups, m_upStep, if_pos hk4, m_takesUp, if_pos hc33]; exact hR3)
            | exact ih _ (by omega) (i + 1) sf3 (by omega) rfl (by rw [m_ups, m_upStep, if_pos hk4, m_takesUp, if_pos hc33]; exact hR3)
            | exact ih _ (by omega) (i + 1) sf3 (by omega) rfl (by rw [m_ups, m_upStep, if_pos hk4, m_takesUp, if_neg hc33, if_pos hc57]; exact hR3)
            | exact ih _ (by omega) (i + 1) sf2 (by omega) rfl (by rw [m_ups, m_upStep, if_pos hk4, m_takesUp, if_neg hc33, if_neg hc57]; exact hR2)
            | exact ih _ (by omega) (i + 1) sf3 (by omega) rfl (by rw [m_ups, m_upStep, if_neg hk4, if_pos hc88]; exact hR3)
            | exact ih _ (by omega) (i + 1) sf2 (by omega) rfl (by rw [m_ups, m_upStep, if_neg hk4, if_neg hc88]; exact hR2)
  exact H _ 0 _ (Nat.zero_le _) rfl (by rw [Nat.zero_add]; exact relR_up hR hk)
