/-! THE MODEL'S PROGRAM: what would be -/
set_option maxRecDepth 20000 in
set_option maxHeartbeats 4000000 in
theorem r_sendsBy (h : qB) (th : Int32) (sf asd sts snp txt rdd : Nat → Int32) (cnt hq len pt iw rm : Int32) (X : qm) (hR : RelR sf X) (hJ : J X) {p : Nat} (hp : p < X.1 0 4) : CtI mX3_sendsBy 6 [qR 11 0, qI (nI p)] (q_put h 11 (oR th sf asd sts snp txt rdd cnt hq len pt iw rm)) (fun r h2 => r = m_wouldSend X p ∧ ∃ sf' a', RelR sf' X ∧ h2 = q_put h 11 (oR th sf' a' sts snp txt rdd cnt hq len pt iw rm)) := by
  refine ct_of (by decide +kernel) rfl rfl (Nat.le_of_ble_eq_true rfl) ?_
  show Ev mX3_sendsBy 6 0 [some (qR 11 0), some (qI (nI p)), none, none] [] 132 (q_put h 11 (oR th sf asd sts snp txt rdd cnt hq len pt iw rm)) 0 0 _ _
  refine e_aload0 dX3_sendsBy_0 ?_
  refine e_iload1 dX3_sendsBy_1 ?_
  refine e_vIF (M' := mX3_isUpFor) fX3_isUpFor lkX3_88 (r_isUpFor h th sf asd sts snp txt rdd cnt hq len pt iw rm X hR hJ (p := p) hp) rfl rfl dX3_sendsBy_2 rfl rfl (by decide) (Nat.le_of_ble_eq_true rfl) rfl ?_
  rintro _ _ ⟨rfl, rfl⟩
  cases hB : m_isUp X p
  · refine e_if_neN 10 dX3_sendsBy_5 (by decide) (by decide) (fun q => absurd rfl q) (fun _ => ?_)
    refine e_iconstM dX3_sendsBy_8 ?_
    refine e_iret dX3_sendsBy_9 rfl ?_
    exact ⟨_, rfl, rfl, by rw [m_wouldSend, hB]; rfl, sf, asd, hR, rfl⟩
  · refine e_if_neN 10 dX3_sendsBy_5 (by decide) (by decide) (fun _ => ?_) (fun q => absurd q (by decide))
    refine e_aload0 dX3_sendsBy_10 ?_
    refine e_vVF (M' := mX3_putAside) fX3_putAside lkX3_217 (r_putAside h th sf asd sts snp txt rdd cnt hq len pt iw rm) rfl rfl dX3_sendsBy_11 rfl rfl (by decide) (Nat.le_of_ble_eq_true rfl) rfl ?_
    rintro _ ⟨a2, hA, rfl⟩
    refine e_aload0 dX3_sendsBy_14 ?_
    refine e_getfieldF flX3_7 dX3_sendsBy_15 rfl rfl ?_
    refine e_bipush (v := nI 10) dX3_sendsBy_18 (by decide) ?_
    refine e_ialoadN dX3_sendsBy_20 rfl (by omega) (by decide) ?_
    rw [rR3 hR]
    refine e_istore2 dX3_sendsBy_21 rfl (by decide) ?_
    refine e_aload0 dX3_sendsBy_22 ?_
    refine e_iload1 dX3_sendsBy_23 ?_
    refine e_vIF (M' := mX3_delivers) fX3_delivers lkX3_100 (r_delivers h th sf a2 sts snp txt rdd cnt hq len pt iw rm X hR hJ (p := p) hp) rfl rfl dX3_sendsBy_24 rfl rfl (by decide) (Nat.le_of_ble_eq_true rfl) rfl ?_
    rintro _ _ ⟨rfl, sf3, hR3, rfl⟩
    refine e_pop dX3_sendsBy_27 rfl ?_
    refine e_aload0 dX3_sendsBy_28 ?_
    refine e_getfieldF flX3_7 dX3_sendsBy_29 rfl rfl ?_
    refine e_bipush (v := nI 10) dX3_sendsBy_32 (by decide) ?_
    refine e_ialoadN dX3_sendsBy_34 rfl (by omega) (by decide) ?_
    rw [rR3 hR3]
    refine e_iload2 dX3_sendsBy_35 ?_
    refine e_isub dX3_sendsBy_36 ?_
    refine e_istore3 dX3_sendsBy_37 rfl (by decide) ?_
    refine e_aload0 dX3_sendsBy_38 ?_
    refine e_vVF (M' := mX3_takeBack) fX3_takeBack lkX3_220 (r_takeBack h th sf3 a2 sts snp txt rdd cnt hq len pt iw rm) rfl rfl dX3_sendsBy_39 rfl rfl (by decide) (Nat.le_of_ble_eq_true rfl) rfl ?_
    rintro _ ⟨sf4, hA4, rfl⟩
    refine e_iload3 dX3_sendsBy_42 ?_
    refine e_iret dX3_sendsBy_43 rfl ?_
    exact ⟨_, rfl, rfl, by rw [m_wouldSend, hB]; rfl, sf4, a2, relR_congr (wk_J hJ) (fun j hj => by rw [hA4 j hj, hA j hj]) hR, rfl⟩
