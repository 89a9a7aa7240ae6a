set_option maxRecDepth 20000 in
set_option maxHeartbeats 4000000 in
theorem r_deliversFirst (h : qB) (th : Int32) (sf asd sts snp txt rdd : Nat → Int32) (cnt hq len pt iw rm : Int32) (X : qm) (hR : RelR sf X) (hJ : J X) {n0 : Nat} (hn0 : n0 < 2 ^ 31) : CtI mX3_deliversFirst 6 [qR 11 0, qI (nI n0)] (q_put h 11 (oR th sf asd sts snp txt rdd cnt hq len pt iw rm)) (fun r h2 => r = nI (m_firstN n0 X) ∧ ∃ sf', RelR sf' (m_first n0 X) ∧ h2 = q_put h 11 (oR th sf' asd sts snp txt rdd cnt hq len pt iw rm)) := by
  refine ct_of (by decide +kernel) rfl rfl (Nat.le_of_ble_eq_true rfl) ?_
  show Ev mX3_deliversFirst 6 0 [some (qR 11 0), some (qI (nI n0)), none] [] 132 (q_put h 11 (oR th sf asd sts snp txt rdd cnt hq len pt iw rm)) 0 0 _ _
  refine e_iconst (z := 0) dX3_deliversFirst_0 ?_
  refine e_istore2 dX3_deliversFirst_1 rfl (by decide) ?_
  have H : ∀ (m i : Nat) (sf2 : Nat → Int32) (Y : qm), i ≤ n0 → m = n0 - i → RelR sf2 Y → J Y → m_first n0 X = m_first (n0 - i) Y → m_firstN n0 X = i + m_firstN (n0 - i) Y → Ev mX3_deliversFirst 6 2 [some (qR 11 0), some (qI (nI n0)), some (qI (nI i))] [] 132 (q_put h 11 (oR th sf2 asd sts snp txt rdd cnt hq len pt iw rm)) 0 0 (fun r n h' => ∃ x, r = some (qI x) ∧ n = 132 ∧ ((fun r h2 => r = nI (m_firstN n0 X) ∧ ∃ sf', RelR sf' (m_first n0 X) ∧ h2 = q_put h 11 (oR th sf' asd sts snp txt rdd cnt hq len pt iw rm))) x h') qNo := by
    intro m
    induction m using Nat.strongRecOn with
    | _ m ih =>
    intro i sf2 Y hi hm hR2 hJ2 hX hN
    refine e_iload2 dX3_deliversFirst_2 ?_
    refine e_iload1 dX3_deliversFirst_3 ?_
    first | refine e_icmp_geN 29 dX3_deliversFirst_4 (by decide) (by omega) (by omega) (fun hc4 => ?_) (fun hc4 => ?_) | refine e_icmp_ge 29 dX3_deliversFirst_4 (by decide) (fun hc4 => ?_) (fun hc4 => ?_)
    · refine e_iload2 dX3_deliversFirst_29 ?_
      refine e_iret dX3_deliversFirst_30 rfl ?_
      obtain rfl : i = n0 := by omega
      rw [Nat.sub_self] at hN hX
      exact ⟨_, rfl, rfl, by rw [hN]; rfl, sf2, by rw [hX]; exact hR2, rfl⟩
    · refine e_aload0 dX3_deliversFirst_7 ?_
      refine e_getfieldF flX3_7 dX3_deliversFirst_8 rfl rfl ?_
      refine e_bipush (v := nI 13) dX3_deliversFirst_11 (by decide) ?_
      refine e_ialoadN dX3_deliversFirst_13 rfl (by omega) (by decide) ?_
      rw [rR6 hR2]
      have i2 := iV2 hJ2.1
      by_cases hc14 : 0 < Y.1 0 4
      · refine e_if_le 29 dX3_deliversFirst_14 (by decide) (fun q => absurd q (by rw [nI_le0 _ (by omega)]; omega)) (fun _ => ?_)
        refine e_aload0 dX3_deliversFirst_17 ?_
        refine e_iconst (z := 0) dX3_deliversFirst_18 ?_
        refine e_vIF (M' := mX3_delivers) fX3_delivers lkX3_100 ((show CtI mX3_delivers 5 [qR 11 0, qI (nI 0)] _ _ from r_delivers h th sf2 asd sts snp txt rdd cnt hq len pt iw rm Y hR2 hJ2 (p := 0) hc14)) rfl rfl dX3_deliversFirst_19 rfl rfl (by decide) (Nat.le_of_ble_eq_true rfl) rfl ?_
        rintro _ _ ⟨rfl, sf3, hR3, rfl⟩
        refine e_pop dX3_deliversFirst_22 rfl ?_
        first | refine e_iinc2N (z := 1) dX3_deliversFirst_23 rfl (by decide) ?_ | refine e_iinc2 dX3_deliversFirst_23 rfl rfl (by decide) ?_
        refine e_goto 2 dX3_deliversFirst_26 (by decide) ?_
        refine ih _ (by omega) (i + 1) sf3 (m_deliver Y 0) (by omega) rfl hR3 (j_deliver hJ2 hc14) ?_ ?_
        · rw [hX, show n0 - i = (n0 - (i + 1)) + 1 by omega, m_first, if_pos hc14]
        · rw [hN, show n0 - i = (n0 - (i + 1)) + 1 by omega, m_firstN, if_pos hc14]; omega
      · refine e_if_le 29 dX3_deliversFirst_14 (by decide) (fun _ => ?_) (fun q => absurd ((nI_le0 _ (by omega)).mpr (by omega)) q)
        refine e_iload2 dX3_deliversFirst_29 ?_
        refine e_iret dX3_deliversFirst_30 rfl ?_
        obtain ⟨z1, z2⟩ := m_first_none (X := Y) (by omega) (n0 - i)
        exact ⟨_, rfl, rfl, by rw [hN, z2]; rfl, sf2, by rw [hX, z1]; exact hR2, rfl⟩
  exact H _ 0 sf X (Nat.zero_le _) rfl hR hJ (by rw [Nat.sub_zero]) (by rw [Nat.sub_zero, Nat.zero_add])
set_option maxRecDepth 20000 in
set_option maxHeartbeats 4000000 in
theorem r_deliversAll (h : qB) (th : Int32) (sf asd sts snp txt rdd : Nat → Int32) (cnt hq len pt iw rm : Int32) (X : qm) (hR : RelR sf X) (hJ : J X) : CtI mX3_deliversAll 7 [qR 11 0] (q_put h 11 (oR th sf asd sts snp txt rdd cnt hq len pt iw rm)) (fun r h2 => r = nI (m_runN X) ∧ ∃ sf', RelR sf' (m_run X) ∧ h2 = q_put h 11 (oR th sf' asd sts snp txt rdd cnt hq len pt iw rm)) := by
  refine ct_of (by decide +kernel) rfl rfl (Nat.le_of_ble_eq_true rfl) ?_
  show Ev mX3_deliversAll 7 0 [some (qR 11 0)] [] 132 (q_put h 11 (oR th sf asd sts snp txt rdd cnt hq len pt iw rm)) 0 0 _ _
  refine e_aload0 dX3_deliversAll_0 ?_
  refine e_ldcI ckX3_135 dX3_deliversAll_1 ?_
  rw [show (99999 : Int32) = nI 99999 from by decide]
  refine e_vIF (M' := mX3_deliversFirst) fX3_deliversFirst lkX3_136 (r_deliversFirst h th sf asd sts snp txt rdd cnt hq len pt iw rm X hR hJ (n0 := 99999) (by decide)) rfl rfl dX3_deliversAll_3 rfl rfl (by decide) (Nat.le_of_ble_eq_true rfl) rfl ?_
  rintro _ _ ⟨rfl, sf2, hR2, rfl⟩
  obtain ⟨z1, z2⟩ := m_run_of hJ (n := 99999) (by decide)
  rw [z1] at hR2
  rw [z2]
  refine e_iret dX3_deliversAll_6 rfl ?_
  exact ⟨_, rfl, rfl, rfl, sf2, hR2, rfl⟩
