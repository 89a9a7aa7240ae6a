set_option maxRecDepth 20000 in
set_option maxHeartbeats 4000000 in
theorem r_decides (h : qB) (th : Int32) (sf asd sts snp txt rdd : Nat → Int32) (cnt hq len pt iw rm : Int32) (X : qm) (hR : RelR sf X) (hW : WK X) {t oc : Nat} (ht : t < 8) (hl : X.1 10 4 < 24) : CtV mX3_decides 3 [qR 11 0, qI (nI t), qI (nI oc)] (q_put h 11 (oR th sf asd sts snp txt rdd cnt hq len pt iw rm)) (fun h2 => ∃ sf', RelR sf' (m_decide X t oc) ∧ h2 = q_put h 11 (oR th sf' asd sts snp txt rdd cnt hq len pt iw rm)) := by
  refine ct_of (by decide +kernel) rfl rfl (Nat.le_of_ble_eq_true rfl) ?_
  show Ev mX3_decides 3 0 [some (qR 11 0), some (qI (nI t)), some (qI (nI oc))] [] 132 (q_put h 11 (oR th sf asd sts snp txt rdd cnt hq len pt iw rm)) 0 0 _ _
  refine e_aload0 dX3_decides_0 ?_
  refine e_iload1 dX3_decides_1 ?_
  refine e_iconst (z := 5) dX3_decides_2 ?_
  refine e_iload2 dX3_decides_3 ?_
  refine e_vVF (M' := mX3_lay) fX3_lay lkX3_64 (r_lay h th sf asd sts snp txt rdd cnt hq len pt iw rm (t := t) (j := 5) (v := nI oc) ht (by decide)) rfl rfl dX3_decides_4 rfl rfl (by decide) (Nat.le_of_ble_eq_true rfl) rfl ?_
  rintro _ rfl
  have hR1 : RelR (upd sf (14 + 7 * t + 5) (nI oc)) (xs X 7 t oc) := relR_t hR (t := t) (j := 5) (v := oc) ht (by decide)
  have hW1 : WK (xs X 7 t oc) := wk_xs hW (by decide) (by decide) (by decide) (by decide)
  have hl1 : (xs X 7 t oc).1 10 4 < 24 := hl
  have hW2 : WK (m_write (xs X 7 t oc) 4 oc t) := wk_write hW1 hl1 (fun q => absurd q (by decide))
  refine e_aload0 dX3_decides_7 ?_
  refine e_iconst (z := 4) dX3_decides_8 ?_
  refine e_iload2 dX3_decides_9 ?_
  refine e_iload1 dX3_decides_10 ?_
  refine e_vVF (M' := mX3_writes) fX3_writes lkX3_67 (r_writes h th (upd sf (14 + 7 * t + 5) (nI oc)) asd sts snp txt rdd cnt hq len pt iw rm (xs X 7 t oc) hR1 hW1 (s := 4) (kd := oc) (t := t) (by decide) hl1 (fun q => absurd q (by decide))) rfl rfl dX3_decides_11 rfl rfl (by decide) (Nat.le_of_ble_eq_true rfl) rfl ?_
  rintro _ ⟨sf2, hR2, rfl⟩
  refine e_aload0 dX3_decides_14 ?_
  refine e_iconst (z := 2) dX3_decides_15 ?_
  refine e_iload2 dX3_decides_16 ?_
  first | refine e_iaddN dX3_decides_17 ?_ | refine e_iadd dX3_decides_17 ?_
  refine e_iload1 dX3_decides_18 ?_
  refine e_vVF (M' := mX3_sendsAll) fX3_sendsAll lkX3_70 (r_sendsAll h th sf2 asd sts snp txt rdd cnt hq len pt iw rm (m_write (xs X 7 t oc) 4 oc t) hR2 hW2 (kd := 2 + oc) (t := t) ht) rfl rfl dX3_decides_19 rfl rfl (by decide) (Nat.le_of_ble_eq_true rfl) rfl ?_
  rintro _ ⟨sf3, hR3, rfl⟩
  have hR4 : RelR sf3 (m_decide X t oc) := hR3
  refine e_vret dX3_decides_22 rfl ?_
  exact ⟨rfl, rfl, sf3, hR4, rfl⟩
