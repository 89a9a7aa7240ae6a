/-! THE MODEL'S PROGRAM: states kept -/
theorem relR_congr {f g : Nat → Int32} {X : qm} (hW : WK X) (h : ∀ j, j < 256 → g j = f j) (hR : RelR f X) : RelR g X := by
  have hw := hW.2.2
  have h4 := hW.2.1
  refine ⟨fun k hk => ?_, fun s hs => ?_, ?_, ?_, ?_, ?_, ?_, fun t j ht hj => ?_, fun s t hs ht => ?_, fun s hs => ?_, fun s k hs hk => ?_, fun k hk => ?_⟩
  · rw [h k (by omega)]; exact rR0 hR k hk
  · rw [h _ (by omega)]; exact rR1 hR s hs
  · rw [h _ (by omega)]; exact rR2 hR
  · rw [h _ (by omega)]; exact rR3 hR
  · rw [h _ (by omega)]; exact rR4 hR
  · rw [h _ (by omega)]; exact rR5 hR
  · rw [h _ (by omega)]; exact rR6 hR
  · rw [h _ (by omega)]; exact rR7 hR t j ht hj
  · rw [h _ (by omega)]; exact rR8 hR s t hs ht
  · rw [h _ (by omega)]; exact rR9 hR s hs
  · have hl2 : X.1 10 s ≤ 24 ∧ (s < 4 → X.1 10 s ≤ 16) := ⟨(Nat.lt_or_ge s 4).elim (fun q => Nat.le_trans (hw.1 s q) (by decide)) (fun q => by rw [show s = 4 by omega]; exact hw.2.1), fun q => hw.1 s q⟩
    rw [h _ (by omega)]; exact rR10 hR s k hs hk
  · rw [h _ (by omega)]; exact rR11 hR k hk
/-- the saved states of the model's program -/
def RelS (sts : Nat → Int32) (c : Nat) (Sv : Nat → qm) : Prop := ∀ i, i < c → RelR (fun k => sts (256 * i + k)) (Sv i) ∧ J (Sv i)
set_option maxRecDepth 20000 in
set_option maxHeartbeats 4000000 in
theorem r_putAside (h : qB) (th : Int32) (sf asd sts snp txt rdd : Nat → Int32) (cnt hq len pt iw rm : Int32) : CtV mX3_putAside 0 [qR 11 0] (q_put h 11 (oR th sf asd sts snp txt rdd cnt hq len pt iw rm)) (fun h2 => ∃ d2, (∀ j, j < 256 → d2 j = sf j) ∧ h2 = q_put h 11 (oR th sf d2 sts snp txt rdd cnt hq len pt iw rm)) := by
  refine ct_of (by decide +kernel) rfl rfl (Nat.le_of_ble_eq_true rfl) ?_
  show Ev mX3_putAside 0 0 [some (qR 11 0), none] [] 132 (q_put h 11 (oR th sf asd sts snp txt rdd cnt hq len pt iw rm)) 0 0 _ _
  refine e_iconst (z := 0) dX3_putAside_0 ?_
  refine e_istore1 dX3_putAside_1 rfl (by decide) ?_
  have H : ∀ (m i : Nat) (d2 : Nat → Int32), i ≤ 256 → m = 256 - i → (∀ j, j < 256 → d2 j = if j < i then sf j else asd j) → Ev mX3_putAside 0 2 [some (qR 11 0), some (qI (nI i))] [] 132 (q_put h 11 (oR th sf d2 sts snp txt rdd cnt hq len pt iw rm)) 0 0 (fun r n h' => r = none ∧ n = 132 ∧ ((fun h2 => ∃ d2, (∀ j, j < 256 → d2 j = sf j) ∧ h2 = q_put h 11 (oR th sf d2 sts snp txt rdd cnt hq len pt iw rm))) h') qNo := by
    intro m
    induction m using Nat.strongRecOn with
    | _ m ih =>
    intro i d2 hi hm hI
    refine e_iload1 dX3_putAside_2 ?_
    refine e_sipush (v := nI 256) dX3_putAside_3 (by decide) ?_
    first | refine e_icmp_geN 27 dX3_putAside_6 (by decide) (by omega) (by omega) (fun hc6 => ?_) (fun hc6 => ?_) | refine e_icmp_ge 27 dX3_putAside_6 (by decide) (fun hc6 => ?_) (fun hc6 => ?_)
    · refine e_vret dX3_putAside_27 rfl ?_
      obtain rfl : i = 256 := by omega
      exact ⟨rfl, rfl, d2, fun j hj => by rw [hI j hj, if_pos hj], rfl⟩
    · refine e_aload0 dX3_putAside_9 ?_
      refine e_getfieldF flX3_13 dX3_putAside_10 rfl rfl ?_
      refine e_iload1 dX3_putAside_13 ?_
      refine e_aload0 dX3_putAside_14 ?_
      refine e_getfieldF flX3_7 dX3_putAside_15 rfl rfl ?_
      refine e_iload1 dX3_putAside_18 ?_
      refine e_ialoadN dX3_putAside_19 rfl (by omega) (by decide) ?_
      refine e_iastoreN dX3_putAside_20 rfl (by omega) (by decide) ?_
      first | refine e_iinc1N (z := 1) dX3_putAside_21 rfl (by decide) ?_ | refine e_iinc1 dX3_putAside_21 rfl rfl (by decide) ?_
      refine e_goto 2 dX3_putAside_24 (by decide) ?_
      refine ih _ (by omega) (i + 1) _ (by omega) rfl (fun j hj => ?_)
      by_cases q : j = i
      · rw [q, upd_same, if_pos (by omega)]
      · rw [upd_ne q, hI j hj]
        by_cases q2 : j < i
        · rw [if_pos q2, if_pos (by omega)]
        · rw [if_neg q2, if_neg (by omega)]
  exact H _ 0 _ (Nat.zero_le _) rfl (fun j _ => by rw [if_neg (by omega)])
set_option maxRecDepth 20000 in
set_option maxHeartbeats 4000000 in
theorem r_takeBack (h : qB) (th : Int32) (sf asd sts snp txt rdd : Nat → Int32) (cnt hq len pt iw rm : Int32) : CtV mX3_takeBack 0 [qR 11 0] (q_put h 11 (oR th sf asd sts snp txt rdd cnt hq len pt iw rm)) (fun h2 => ∃ d2, (∀ j, j < 256 → d2 j = asd j) ∧ h2 = q_put h 11 (oR th d2 asd sts snp txt rdd cnt hq len pt iw rm)) := by
  refine ct_of (by decide +kernel) rfl rfl (Nat.le_of_ble_eq_true rfl) ?_
  show Ev mX3_takeBack 0 0 [some (qR 11 0), none] [] 132 (q_put h 11 (oR th sf asd sts snp txt rdd cnt hq len pt iw rm)) 0 0 _ _
  refine e_iconst (z := 0) dX3_takeBack_0 ?_
  refine e_istore1 dX3_takeBack_1 rfl (by decide) ?_
  have H : ∀ (m i : Nat) (d2 : Nat → Int32), i ≤ 256 → m = 256 - i → (∀ j, j < 256 → d2 j = if j < i then asd j else sf j) → Ev mX3_takeBack 0 2 [some (qR 11 0), some (qI (nI i))] [] 132 (q_put h 11 (oR th d2 asd sts snp txt rdd cnt hq len pt iw rm)) 0 0 (fun r n h' => r = none ∧ n = 132 ∧ ((fun h2 => ∃ d2, (∀ j, j < 256 → d2 j = asd j) ∧ h2 = q_put h 11 (oR th d2 asd sts snp txt rdd cnt hq len pt iw rm))) h') qNo := by
    intro m
    induction m using Nat.strongRecOn with
    | _ m ih =>
    intro i d2 hi hm hI
    refine e_iload1 dX3_takeBack_2 ?_
    refine e_sipush (v := nI 256) dX3_takeBack_3 (by decide) ?_
    first | refine e_icmp_geN 27 dX3_takeBack_6 (by decide) (by omega) (by omega) (fun hc6 => ?_) (fun hc6 => ?_) | refine e_icmp_ge 27 dX3_takeBack_6 (by decide) (fun hc6 => ?_) (fun hc6 => ?_)
    · refine e_vret dX3_takeBack_27 rfl ?_
      obtain rfl : i = 256 := by omega
      exact ⟨rfl, rfl, d2, fun j hj => by rw [hI j hj, if_pos hj], rfl⟩
    · refine e_aload0 dX3_takeBack_9 ?_
      refine e_getfieldF flX3_7 dX3_takeBack_10 rfl rfl ?_
      refine e_iload1 dX3_takeBack_13 ?_
      refine e_aload0 dX3_takeBack_14 ?_
      refine e_getfieldF flX3_13 dX3_takeBack_15 rfl rfl ?_
      refine e_iload1 dX3_takeBack_18 ?_
      refine e_ialoadN dX3_takeBack_19 rfl (by omega) (by decide) ?_
      refine e_iastoreN dX3_takeBack_20 rfl (by omega) (by decide) ?_
      first | refine e_iinc1N (z := 1) dX3_takeBack_21 rfl (by decide) ?_ | refine e_iinc1 dX3_takeBack_21 rfl rfl (by decide) ?_
      refine e_goto 2 dX3_takeBack_24 (by decide) ?_
      refine ih _ (by omega) (i + 1) _ (by omega) rfl (fun j hj => ?_)
      by_cases q : j = i
      · rw [q, upd_same, if_pos (by omega)]
      · rw [upd_ne q, hI j hj]
        by_cases q2 : j < i
        · rw [if_pos q2, if_pos (by omega)]
        · rw [if_neg q2, if_neg (by omega)]
  exact H _ 0 _ (Nat.zero_le _) rfl (fun j _ => by rw [if_neg (by omega)])
set_option maxRecDepth 20000 in
set_option maxHeartbeats 4000000 in
theorem r_recordsState (h : qB) (th : Int32) (sf asd sts snp txt rdd : Nat → Int32) (hq len pt iw rm : Int32) (X : qm) (hR : RelR sf X) (hJ : J X) (c : Nat) (hc : c ≤ 6) (Sv : Nat → qm) (hS : RelS sts c Sv) : CtV mX3_recordsState 0 [qR 11 0] (q_put h 11 (oR th sf asd sts snp txt rdd (nI c) hq len pt iw rm)) (fun h2 => ∃ s2, RelS s2 (m_svC c) (m_sv c Sv X) ∧ h2 = q_put h 11 (oR th sf asd s2 snp txt rdd (nI (m_svC c)) hq len pt iw rm)) := by
  have HT : ∀ (s1 : Nat → Int32) (c2 : Nat) (l1 : Option qV), c2 < 6 → c2 + 1 = m_svC c → (∀ i, i < c2 → RelR (fun k => s1 (256 * i + k)) (m_sv c Sv X i) ∧ J (m_sv c Sv X i)) → m_sv c Sv X c2 = X → Ev mX3_recordsState 0 50 [some (qR 11 0), l1] [] 132 (q_put h 11 (oR th sf asd s1 snp txt rdd (nI c2) hq len pt iw rm)) 0 0 (fun r n h' => r = none ∧ n = 132 ∧ ((fun h2 => ∃ s2, RelS s2 (m_svC c) (m_sv c Sv X) ∧ h2 = q_put h 11 (oR th sf asd s2 snp txt rdd (nI (m_svC c)) hq len pt iw rm))) h') qNo := by
    intro s1 c2 l1 hc2 he hS2 hsX
    refine e_iconst (z := 0) dX3_recordsState_50 ?_
    refine e_istore1 dX3_recordsState_51 rfl (by decide) ?_
    have H : ∀ (m i : Nat) (s3 : Nat → Int32), i ≤ 256 → m = 256 - i → (∀ j, j < 1536 → s3 j = if 256 * c2 ≤ j ∧ j < 256 * c2 + i then sf (j - 256 * c2) else s1 j) → Ev mX3_recordsState 0 52 [some (qR 11 0), some (qI (nI i))] [] 132 (q_put h 11 (oR th sf asd s3 snp txt rdd (nI c2) hq len pt iw rm)) 0 0 (fun r n h' => r = none ∧ n = 132 ∧ ((fun h2 => ∃ s2, RelS s2 (m_svC c) (m_sv c Sv X) ∧ h2 = q_put h 11 (oR th sf asd s2 snp txt rdd (nI (m_svC c)) hq len pt iw rm))) h') qNo := by
      intro m
      induction m using Nat.strongRecOn with
      | _ m ih =>
      intro i s3 hi hm hI
      refine e_iload1 dX3_recordsState_52 ?_
      refine e_sipush (v := nI 256) dX3_recordsState_53 (by decide) ?_
      first | refine e_icmp_geN 86 dX3_recordsState_56 (by decide) (by omega) (by omega) (fun hc56 => ?_) (fun hc56 => ?_) | refine e_icmp_ge 86 dX3_recordsState_56 (by decide) (fun hc56 => ?_) (fun hc56 => ?_)
      · refine e_aload0 dX3_recordsState_86 ?_
        refine e_dup dX3_recordsState_87 rfl ?_
        refine e_getfieldF flX3_36 dX3_recordsState_88 rfl rfl ?_
        refine e_iconst (z := 1) dX3_recordsState_91 ?_
        first | refine e_iaddN dX3_recordsState_92 ?_ | refine e_iadd dX3_recordsState_92 ?_
        refine e_putfieldF flX3_36 dX3_recordsState_93 rfl (Nat.le_of_ble_eq_true rfl) (fun _ => rfl) (fun _ => rfl) ?_
        refine e_vret dX3_recordsState_96 rfl ?_
        obtain rfl : i = 256 := by omega
        refine ⟨rfl, rfl, s3, fun i hi => ?_, by rw [← he]; rfl⟩
        by_cases q : i = c2
        · rw [q, hsX]
          exact ⟨relR_congr (wk_J hJ) (fun j hj => by show s3 (256 * c2 + j) = sf j; rw [hI _ (by omega), if_pos (by omega), show 256 * c2 + j - 256 * c2 = j by omega]) hR, hJ⟩
        · obtain ⟨a, b⟩ := hS2 i (by omega)
          exact ⟨relR_congr (wk_J b) (fun j hj => by show s3 (256 * i + j) = s1 (256 * i + j); rw [hI _ (by omega), if_neg (by omega)]) a, b⟩
      · refine e_aload0 dX3_recordsState_59 ?_
        refine e_getfieldF flX3_16 dX3_recordsState_60 rfl rfl ?_
        refine e_sipush (v := nI 256) dX3_recordsState_63 (by decide) ?_
        refine e_aload0 dX3_recordsState_66 ?_
        refine e_getfieldF flX3_36 dX3_recordsState_67 rfl rfl ?_
        first | refine e_imulN dX3_recordsState_70 ?_ | refine e_imul dX3_recordsState_70 ?_
        refine e_iload1 dX3_recordsState_71 ?_
        first | refine e_iaddN dX3_recordsState_72 ?_ | refine e_iadd dX3_recordsState_72 ?_
        refine e_aload0 dX3_recordsState_73 ?_
        refine e_getfieldF flX3_7 dX3_recordsState_74 rfl rfl ?_
        refine e_iload1 dX3_recordsState_77 ?_
        refine e_ialoadN dX3_recordsState_78 rfl (by omega) (by decide) ?_
        refine e_iastoreN dX3_recordsState_79 rfl (by omega) (by decide) ?_
        first | refine e_iinc1N (z := 1) dX3_recordsState_80 rfl (by decide) ?_ | refine e_iinc1 dX3_recordsState_80 rfl rfl (by decide) ?_
        refine e_goto 52 dX3_recordsState_83 (by decide) ?_
        refine ih _ (by omega) (i + 1) _ (by omega) rfl (fun j hj => ?_)
        by_cases q : j = 256 * c2 + i
        · rw [q, upd_same, if_pos (by omega), show 256 * c2 + i - 256 * c2 = i by omega]
        · rw [upd_ne q, hI j hj]
          by_cases q2 : 256 * c2 ≤ j ∧ j < 256 * c2 + i
          · rw [if_pos q2, if_pos (by omega)]
          · rw [if_neg q2, if_neg (by omega)]
    exact H _ 0 _ (Nat.zero_le _) rfl (fun j _ => by rw [if_neg (by omega)])
  refine ct_of (by decide +kernel) rfl rfl (Nat.le_of_ble_eq_true rfl) ?_
  show Ev mX3_recordsState 0 0 [some (qR 11 0), none] [] 132 (q_put h 11 (oR th sf asd sts snp txt rdd (nI c) hq len pt iw rm)) 0 0 _ _
  refine e_aload0 dX3_recordsState_0 ?_
  refine e_getfieldF flX3_36 dX3_recordsState_1 rfl rfl ?_
  refine e_bipush (v := nI 6) dX3_recordsState_4 (by decide) ?_
  refine e_icmp_neN 50 dX3_recordsState_6 (by decide) (by omega) (by decide) (fun hc6 => ?_) (fun hc6 => ?_)
  · exact HT sts c _ (by omega) (by rw [m_svC, if_neg hc6]) (fun i hi => by rw [m_sv, if_neg hc6, if_neg (by omega)]; exact hS i hi) (by rw [m_sv, if_neg hc6, if_pos rfl])
  · refine e_iconst (z := 0) dX3_recordsState_9 ?_
    refine e_istore1 dX3_recordsState_10 rfl (by decide) ?_
    have H : ∀ (m i : Nat) (s3 : Nat → Int32), i ≤ 1280 → m = 1280 - i → (∀ j, j < 1536 → s3 j = if j < i then sts (j + 256) else sts j) → Ev mX3_recordsState 0 11 [some (qR 11 0), some (qI (nI i))] [] 132 (q_put h 11 (oR th sf asd s3 snp txt rdd (nI c) hq len pt iw rm)) 0 0 (fun r n h' => r = none ∧ n = 132 ∧ ((fun h2 => ∃ s2, RelS s2 (m_svC c) (m_sv c Sv X) ∧ h2 = q_put h 11 (oR th sf asd s2 snp txt rdd (nI (m_svC c)) hq len pt iw rm))) h') qNo := by
      intro m
      induction m using Nat.strongRecOn with
      | _ m ih =>
      intro i s3 hi hm hI
      refine e_iload1 dX3_recordsState_11 ?_
      refine e_sipush (v := nI 1280) dX3_recordsState_12 (by decide) ?_
      first | refine e_icmp_geN 40 dX3_recordsState_15 (by decide) (by omega) (by omega) (fun hc15 => ?_) (fun hc15 => ?_) | refine e_icmp_ge 40 dX3_recordsState_15 (by decide) (fun hc15 => ?_) (fun hc15 => ?_)
      · obtain rfl : i = 1280 := by omega
        refine e_aload0 dX3_recordsState_40 ?_
        refine e_dup dX3_recordsState_41 rfl ?_
        refine e_getfieldF flX3_36 dX3_recordsState_42 rfl rfl ?_
        refine e_iconst (z := 1) dX3_recordsState_45 ?_
        refine e_isubN dX3_recordsState_46 (by omega) ?_
        rw [show c - 1 = 5 by omega]
        refine e_putfieldF flX3_36 dX3_recordsState_47 rfl (Nat.le_of_ble_eq_true rfl) (fun _ => rfl) (fun _ => rfl) ?_
        exact HT s3 5 _ (by decide) (by rw [m_svC, if_pos hc6]) (fun i hi => by
          rw [m_sv, if_pos hc6, if_neg (by omega)]
          obtain ⟨a, b⟩ := hS (i + 1) (by omega)
          exact ⟨relR_congr (wk_J b) (fun j hj => by show s3 (256 * i + j) = sts (256 * (i + 1) + j); rw [hI _ (by omega), if_pos (by omega), show 256 * i + j + 256 = 256 * (i + 1) + j by omega]) a, b⟩) (by rw [m_sv, if_pos hc6, if_pos rfl])
      · refine e_aload0 dX3_recordsState_18 ?_
        refine e_getfieldF flX3_16 dX3_recordsState_19 rfl rfl ?_
        refine e_iload1 dX3_recordsState_22 ?_
        refine e_aload0 dX3_recordsState_23 ?_
        refine e_getfieldF flX3_16 dX3_recordsState_24 rfl rfl ?_
        refine e_iload1 dX3_recordsState_27 ?_
        refine e_sipush (v := nI 256) dX3_recordsState_28 (by decide) ?_
        first | refine e_iaddN dX3_recordsState_31 ?_ | refine e_iadd dX3_recordsState_31 ?_
        refine e_ialoadN dX3_recordsState_32 rfl (by omega) (by decide) ?_
        refine e_iastoreN dX3_recordsState_33 rfl (by omega) (by decide) ?_
        first | refine e_iinc1N (z := 1) dX3_recordsState_34 rfl (by decide) ?_ | refine e_iinc1 dX3_recordsState_34 rfl rfl (by decide) ?_
        refine e_goto 11 dX3_recordsState_37 (by decide) ?_
        refine ih _ (by omega) (i + 1) _ (by omega) rfl (fun j hj => ?_)
        by_cases q : j = i
        · rw [q, upd_same, hI _ (by omega), if_neg (by omega), if_pos (by omega)]
        · rw [upd_ne q, hI j hj]
          by_cases q2 : j < i
          · rw [if_pos q2, if_pos (by omega)]
          · rw [if_neg q2, if_neg (by omega)]
    exact H _ 0 _ (Nat.zero_le _) rfl (fun j _ => by rw [if_neg (by omega)])
