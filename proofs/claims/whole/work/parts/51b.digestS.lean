set_option maxRecDepth 20000 in
set_option maxHeartbeats 4000000 in
theorem r_digestSite (h : qB) (th : Int32) (sf asd sts snp txt rdd : Nat → Int32) (cnt hq len pt iw rm : Int32) (X : qm) (hR : RelR sf X) (hJ : J X) {s : Nat} (hs : s < 5) (a : Int64) : CtL mX3_digestSite 1 [qR 11 0, qL a, qI (nI s)] (q_put h 11 (oR th sf asd sts snp txt rdd cnt hq len pt iw rm)) (fun r h2 => r = m_dS X s a ∧ h2 = q_put h 11 (oR th sf asd sts snp txt rdd cnt hq len pt iw rm)) := by
  have h24 := j_L hJ s hs
  refine ct_of (by decide +kernel) rfl rfl (Nat.le_of_ble_eq_true rfl) ?_
  show Ev mX3_digestSite 1 0 [some (qR 11 0), some (qL a), none, some (qI (nI s)), none, none, none] [] 132 (q_put h 11 (oR th sf asd sts snp txt rdd cnt hq len pt iw rm)) 0 0 _ _
  refine e_ldcL ckX3_249 dX3_digestSite_0 ?_
  refine e_ldcL ckX3_249 dX3_digestSite_3 ?_
  refine e_lload1 dX3_digestSite_6 ?_
  refine e_lmul dX3_digestSite_7 ?_
  refine e_aload0 dX3_digestSite_8 ?_
  refine e_getfieldF flX3_7 dX3_digestSite_9 rfl rfl ?_
  refine e_iconst (z := 0) dX3_digestSite_12 ?_
  refine e_iload3 dX3_digestSite_13 ?_
  first | refine e_iaddN dX3_digestSite_14 ?_ | refine e_iadd dX3_digestSite_14 ?_
  refine e_ialoadN dX3_digestSite_15 rfl (by omega) (by decide) ?_
  rw [Nat.zero_add s, rR0 hR s hs]
  have hu := iV3 hJ.1 s hs
  refine e_i2l dX3_digestSite_16 ?_
  rw [b_bl _ (show X.1 1 s < 2 by omega)]
  refine e_ladd dX3_digestSite_17 ?_
  refine e_lmul dX3_digestSite_18 ?_
  refine e_aload0 dX3_digestSite_19 ?_
  refine e_getfieldF flX3_7 dX3_digestSite_20 rfl rfl ?_
  refine e_bipush (v := nI 102) dX3_digestSite_23 (by decide) ?_
  refine e_iload3 dX3_digestSite_25 ?_
  first | refine e_iaddN dX3_digestSite_26 ?_ | refine e_iadd dX3_digestSite_26 ?_
  refine e_ialoadN dX3_digestSite_27 rfl (by omega) (by decide) ?_
  rw [rR9 hR s hs]
  refine e_i2l dX3_digestSite_28 ?_
  refine e_ladd dX3_digestSite_29 ?_
  refine e_lstore4 dX3_digestSite_30 rfl (by decide) ?_
  refine e_iconst (z := 0) dX3_digestSite_32 ?_
  refine e_istore6 dX3_digestSite_33 rfl (by decide) ?_
  have H : ∀ (m i : Nat) (v : Int64), i ≤ X.1 10 s → m = X.1 10 s - i → v = m_dSs X s (m_mx (m_mx a (m_bl (decide (X.1 1 s = 1)))) (nI (X.1 10 s)).toInt64) i → Ev mX3_digestSite 1 35 [some (qR 11 0), some (qL a), none, some (qI (nI s)), some (qL v), none, some (qI (nI i))] [] 132 (q_put h 11 (oR th sf asd sts snp txt rdd cnt hq len pt iw rm)) 0 0 (fun r n h' => ∃ x, r = some (qL x) ∧ n = 132 ∧ ((fun r h2 => r = m_dS X s a ∧ h2 = q_put h 11 (oR th sf asd sts snp txt rdd cnt hq len pt iw rm))) x h') qNo := by
    intro m
    induction m using Nat.strongRecOn with
    | _ m ih =>
    intro i v hi hm hv
    refine e_iload6 dX3_digestSite_35 ?_
    refine e_aload0 dX3_digestSite_37 ?_
    refine e_getfieldF flX3_7 dX3_digestSite_38 rfl rfl ?_
    refine e_bipush (v := nI 102) dX3_digestSite_41 (by decide) ?_
    refine e_iload3 dX3_digestSite_43 ?_
    first | refine e_iaddN dX3_digestSite_44 ?_ | refine e_iadd dX3_digestSite_44 ?_
    refine e_ialoadN dX3_digestSite_45 rfl (by omega) (by decide) ?_
    rw [rR9 hR s hs]
    first | refine e_icmp_geN 91 dX3_digestSite_46 (by decide) (by omega) (by omega) (fun hc46 => ?_) (fun hc46 => ?_) | refine e_icmp_ge 91 dX3_digestSite_46 (by decide) (fun hc46 => ?_) (fun hc46 => ?_)
    · obtain rfl : i = X.1 10 s := by omega
      subst hv
      refine e_lload4 dX3_digestSite_91 ?_
      refine e_lret dX3_digestSite_93 rfl ?_
      exact ⟨_, rfl, rfl, rfl, rfl⟩
    · have hi2 : i < X.1 10 s := by omega
      have h40 := (iV9 hJ.1 s i hs hi2).1
      refine e_ldcL ckX3_249 dX3_digestSite_49 ?_
      refine e_ldcL ckX3_249 dX3_digestSite_52 ?_
      refine e_lload4 dX3_digestSite_55 ?_
      refine e_lmul dX3_digestSite_57 ?_
      refine e_aload0 dX3_digestSite_58 ?_
      refine e_iload3 dX3_digestSite_59 ?_
      refine e_iload6 dX3_digestSite_60 ?_
      refine e_vIF (M' := mX3_record) fX3_record lkX3_211 (r_record h th sf asd sts snp txt rdd cnt hq len pt iw rm X hR hJ (k := s) (p := i) hs (by omega)) rfl rfl dX3_digestSite_62 rfl rfl (by decide) (Nat.le_of_ble_eq_true rfl) rfl ?_
      rintro _ _ ⟨rfl, rfl⟩
      rw [if_pos hi2]
      refine e_bipush (v := nI 8) dX3_digestSite_65 (by decide) ?_
      refine e_idiv dX3_digestSite_67 (by decide) ?_
      rw [b_dv8 _ h40]
      refine e_i2l dX3_digestSite_68 ?_
      refine e_ladd dX3_digestSite_69 ?_
      refine e_lmul dX3_digestSite_70 ?_
      refine e_aload0 dX3_digestSite_71 ?_
      refine e_iload3 dX3_digestSite_72 ?_
      refine e_iload6 dX3_digestSite_73 ?_
      refine e_vIF (M' := mX3_record) fX3_record lkX3_211 (r_record h th sf asd sts snp txt rdd cnt hq len pt iw rm X hR hJ (k := s) (p := i) hs (by omega)) rfl rfl dX3_digestSite_75 rfl rfl (by decide) (Nat.le_of_ble_eq_true rfl) rfl ?_
      rintro _ _ ⟨rfl, rfl⟩
      rw [if_pos hi2]
      refine e_bipush (v := nI 8) dX3_digestSite_78 (by decide) ?_
      refine e_irem dX3_digestSite_80 (by decide) ?_
      rw [b_rm8r _ h40]
      refine e_i2l dX3_digestSite_81 ?_
      refine e_ladd dX3_digestSite_82 ?_
      refine e_lstore4 dX3_digestSite_83 rfl (by decide) ?_
      first | refine e_iinc6N (z := 1) dX3_digestSite_85 rfl (by decide) ?_ | refine e_iinc6 dX3_digestSite_85 rfl rfl (by decide) ?_
      refine e_goto 35 dX3_digestSite_88 (by decide) ?_
      exact ih _ (by omega) (i + 1) _ (by omega) rfl (by rw [m_dSs, hv]; rfl)
  exact H _ 0 _ (Nat.zero_le _) rfl rfl
