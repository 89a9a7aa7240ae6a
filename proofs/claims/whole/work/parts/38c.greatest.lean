set_option maxRecDepth 20000 in
set_option maxHeartbeats 4000000 in
theorem r_greatest (h : qB) (th : Int32) (sf asd sts snp txt rdd : Nat → Int32) (cnt hq len pt iw rm : Int32) (X : qm) (hR : RelR sf X) (hJ : J X) {f to : Nat} (hf : f < 4) (hto : to < 16) : CtI mX3_greatest 4 [qR 11 0, qI (nI f), qI (nI to)] (q_put h 11 (oR th sf asd sts snp txt rdd cnt hq len pt iw rm)) (fun r h2 => r = nI (m_gr X f to 50) ∧ h2 = q_put h 11 (oR th sf asd sts snp txt rdd cnt hq len pt iw rm)) := by
  refine ct_of (by decide +kernel) rfl rfl (Nat.le_of_ble_eq_true rfl) ?_
  show Ev mX3_greatest 4 0 [some (qR 11 0), some (qI (nI f)), some (qI (nI to)), none, none, none, none, none] [] 132 (q_put h 11 (oR th sf asd sts snp txt rdd cnt hq len pt iw rm)) 0 0 _ _
  refine e_iconst (z := 0) dX3_greatest_0 ?_
  refine e_istore3 dX3_greatest_1 rfl (by decide) ?_
  refine e_iconst (z := 1) dX3_greatest_2 ?_
  refine e_istore4 dX3_greatest_3 rfl (by decide) ?_
  have H : ∀ (m i : Nat) (v : Nat), i ≤ 50 → m = 50 - i → v = m_gr X f to i → Ev mX3_greatest 4 5 [some (qR 11 0), some (qI (nI f)), some (qI (nI to)), some (qI (nI v)), some (qI (nI (i + 1))), none, none, none] [] 132 (q_put h 11 (oR th sf asd sts snp txt rdd cnt hq len pt iw rm)) 0 0 (fun r n h' => ∃ x, r = some (qI x) ∧ n = 132 ∧ ((fun r h2 => r = nI (m_gr X f to 50) ∧ h2 = q_put h 11 (oR th sf asd sts snp txt rdd cnt hq len pt iw rm))) x h') qNo := by
    intro m
    induction m using Nat.strongRecOn with
    | _ m ih =>
    intro i v hi hm hv
    refine e_iload4 dX3_greatest_5 ?_
    refine e_bipush (v := nI 51) dX3_greatest_7 (by decide) ?_
    first | refine e_icmp_geN 87 dX3_greatest_9 (by decide) (by omega) (by omega) (fun hc9 => ?_) (fun hc9 => ?_) | refine e_icmp_ge 87 dX3_greatest_9 (by decide) (fun hc9 => ?_) (fun hc9 => ?_)
    · obtain rfl : i = 50 := by omega
      subst hv
      refine e_iload3 dX3_greatest_87 ?_
      refine e_iret dX3_greatest_88 rfl ?_
      exact ⟨_, rfl, rfl, rfl, rfl⟩
    · refine e_iconst (z := 1) dX3_greatest_12 ?_
      refine e_istore5 dX3_greatest_13 rfl (by decide) ?_
      refine e_iconst (z := 0) dX3_greatest_15 ?_
      refine e_istore6 dX3_greatest_16 rfl (by decide) ?_
      have H2 : ∀ (m2 j : Nat) (B : Bool), j ≤ 4 → m2 = 4 - j → B = m_all X f to (i + 1) j → Ev mX3_greatest 4 18 [some (qR 11 0), some (qI (nI f)), some (qI (nI to)), some (qI (nI v)), some (qI (nI (i + 1))), some (qI (q_b B)), some (qI (nI j)), none] [] 132 (q_put h 11 (oR th sf asd sts snp txt rdd cnt hq len pt iw rm)) 0 0 (fun r n h' => ∃ x, r = some (qI x) ∧ n = 132 ∧ ((fun r h2 => r = nI (m_gr X f to 50) ∧ h2 = q_put h 11 (oR th sf asd sts snp txt rdd cnt hq len pt iw rm))) x h') qNo := by
        intro m2
        induction m2 using Nat.strongRecOn with
        | _ m2 ih2 =>
        intro j B hj hm2 hv2
        refine e_iload6 dX3_greatest_18 ?_
        refine e_iconst (z := 4) dX3_greatest_20 ?_
        first | refine e_icmp_geN 69 dX3_greatest_21 (by decide) (by omega) (by omega) (fun hc21 => ?_) (fun hc21 => ?_) | refine e_icmp_ge 69 dX3_greatest_21 (by decide) (fun hc21 => ?_) (fun hc21 => ?_)
        · obtain rfl : j = 4 := by omega
          refine e_iload5 dX3_greatest_69 ?_
          subst hv2
          cases hB : m_all X f to (i + 1) 4
          · refine e_if_eqN 79 dX3_greatest_71 (by decide) (by decide) (fun _ => ?_) (fun q => absurd rfl q)
            refine e_iload3 dX3_greatest_79 ?_
            refine e_istore3 dX3_greatest_80 rfl (by decide) ?_
            first | refine e_iinc4N (z := 1) dX3_greatest_81 rfl (by decide) ?_ | refine e_iinc4 dX3_greatest_81 rfl rfl (by decide) ?_
            refine e_goto 5 dX3_greatest_84 (by decide) ?_
            refine e_drop5 (e_drop6 (e_drop7 ?_))
            exact ih _ (by omega) (i + 1) _ (by omega) rfl (by rw [m_gr, hB]; exact hv)
          · refine e_if_eqN 79 dX3_greatest_71 (by decide) (by decide) (fun q => absurd q (by decide)) (fun _ => ?_)
            refine e_iload4 dX3_greatest_74 ?_
            refine e_goto 80 dX3_greatest_76 (by decide) ?_
            refine e_istore3 dX3_greatest_80 rfl (by decide) ?_
            first | refine e_iinc4N (z := 1) dX3_greatest_81 rfl (by decide) ?_ | refine e_iinc4 dX3_greatest_81 rfl rfl (by decide) ?_
            refine e_goto 5 dX3_greatest_84 (by decide) ?_
            refine e_drop5 (e_drop6 (e_drop7 ?_))
            exact ih _ (by omega) (i + 1) _ (by omega) rfl (by rw [m_gr, hB]; rfl)
        · refine e_iload1 dX3_greatest_24 ?_
          refine e_iload2 dX3_greatest_25 ?_
          refine e_iload4 dX3_greatest_26 ?_
          refine e_iload6 dX3_greatest_28 ?_
          refine e_sI (M' := mX3_shareOf) fX3_shareOf lkX3_47 (r_shareOf _ (f := f) (to := to) (sz := i + 1) (s := j) hf hto (by omega)) rfl rfl dX3_greatest_30 (by decide) (Nat.le_of_ble_eq_true rfl) rfl ?_
          rintro _ _ ⟨rfl, rfl⟩
          refine e_istore7 dX3_greatest_33 rfl (by decide) ?_
          refine e_iload5 dX3_greatest_35 ?_
          subst hv2
          cases hB : m_all X f to (i + 1) j
          · refine e_if_eqN 60 dX3_greatest_37 (by decide) (by decide) (fun _ => ?_) (fun q => absurd rfl q)
            refine e_iconst (z := 0) dX3_greatest_60 ?_
            refine e_istore5 dX3_greatest_61 rfl (by decide) ?_
            first | refine e_iinc6N (z := 1) dX3_greatest_63 rfl (by decide) ?_ | refine e_iinc6 dX3_greatest_63 rfl rfl (by decide) ?_
            refine e_goto 18 dX3_greatest_66 (by decide) ?_
            refine e_drop7 ?_
            exact ih2 _ (by omega) (j + 1) false (by omega) rfl (by rw [m_all, hB, Bool.false_and])
          · refine e_if_eqN 60 dX3_greatest_37 (by decide) (by decide) (fun q => absurd q (by decide)) (fun _ => ?_)
            refine e_iload7 dX3_greatest_40 ?_
            refine e_if_eq 56 dX3_greatest_42 (by decide) (fun hc42 => ?_) (fun hc42 => ?_)
            · refine e_iconst (z := 1) dX3_greatest_56 ?_
              refine e_goto 61 dX3_greatest_57 (by decide) ?_
              refine e_istore5 dX3_greatest_61 rfl (by decide) ?_
              first | refine e_iinc6N (z := 1) dX3_greatest_63 rfl (by decide) ?_ | refine e_iinc6 dX3_greatest_63 rfl rfl (by decide) ?_
              refine e_goto 18 dX3_greatest_66 (by decide) ?_
              refine e_drop7 ?_
              exact ih2 _ (by omega) (j + 1) true (by omega) rfl (by simp [m_all, hB, hc42])
            · refine e_aload0 dX3_greatest_45 ?_
              refine e_iload6 dX3_greatest_46 ?_
              refine e_iload7 dX3_greatest_48 ?_
              refine e_vIF (M' := mX3_canTake) fX3_canTake lkX3_74 (r_canTake h th sf asd sts snp txt rdd cnt hq len pt iw rm X hR (wk_J hJ) (s := j) (fun t ht => (iV6 hJ.1 j t (by omega) ht).1) (sh := m_sh f to (i + 1) j) (by omega) hc42) rfl rfl dX3_greatest_50 rfl rfl (by decide) (Nat.le_of_ble_eq_true rfl) rfl ?_
              rintro _ _ ⟨rfl, rfl⟩
              cases hB2 : m_would X j (m_sh f to (i + 1) j)
              · refine e_if_eqN 60 dX3_greatest_53 (by decide) (by decide) (fun _ => ?_) (fun q => absurd rfl q)
                refine e_iconst (z := 0) dX3_greatest_60 ?_
                refine e_istore5 dX3_greatest_61 rfl (by decide) ?_
                first | refine e_iinc6N (z := 1) dX3_greatest_63 rfl (by decide) ?_ | refine e_iinc6 dX3_greatest_63 rfl rfl (by decide) ?_
                refine e_goto 18 dX3_greatest_66 (by decide) ?_
                refine e_drop7 ?_
                exact ih2 _ (by omega) (j + 1) false (by omega) rfl (by simp [m_all, hB, hc42, hB2])
              · refine e_if_eqN 60 dX3_greatest_53 (by decide) (by decide) (fun q => absurd q (by decide)) (fun _ => ?_)
                refine e_iconst (z := 1) dX3_greatest_56 ?_
                refine e_goto 61 dX3_greatest_57 (by decide) ?_
                refine e_istore5 dX3_greatest_61 rfl (by decide) ?_
                first | refine e_iinc6N (z := 1) dX3_greatest_63 rfl (by decide) ?_ | refine e_iinc6 dX3_greatest_63 rfl rfl (by decide) ?_
                refine e_goto 18 dX3_greatest_66 (by decide) ?_
                refine e_drop7 ?_
                exact ih2 _ (by omega) (j + 1) true (by omega) rfl (by simp [m_all, hB, hc42, hB2])
      exact H2 _ 0 _ (Nat.zero_le _) rfl rfl
  exact H _ 0 _ (Nat.zero_le _) rfl rfl
