set_option maxRecDepth 20000 in
set_option maxHeartbeats 4000000 in
theorem r_begins (h : qB) (th : Int32) (sf asd sts snp txt rdd : Nat → Int32) (cnt hq len pt iw rm : Int32) (X : qm) (hR : RelR sf X) (hJ : J X) {f to sz : Nat} (hT : X.1 0 0 < 8) (hf : f < 4) (hto : to < 16) : CtI mX3_begins 3 [qR 11 0, qI (nI f), qI (nI to), qI (nI sz)] (q_put h 11 (oR th sf asd sts snp txt rdd cnt hq len pt iw rm)) (fun r h2 => r = nI (X.1 0 0) ∧ ∃ sf', RelR sf' (m_begin X f to sz) ∧ h2 = q_put h 11 (oR th sf' asd sts snp txt rdd cnt hq len pt iw rm)) := by
  refine ct_of (by decide +kernel) rfl rfl (Nat.le_of_ble_eq_true rfl) ?_
  show Ev mX3_begins 3 0 [some (qR 11 0), some (qI (nI f)), some (qI (nI to)), some (qI (nI sz)), none] [] 132 (q_put h 11 (oR th sf asd sts snp txt rdd cnt hq len pt iw rm)) 0 0 _ _
  refine e_aload0 dX3_begins_0 ?_
  refine e_getfieldF flX3_7 dX3_begins_1 rfl rfl ?_
  refine e_bipush (v := nI 9) dX3_begins_4 (by decide) ?_
  refine e_ialoadN dX3_begins_6 rfl (by omega) (by decide) ?_
  rw [rR2 hR]
  refine e_istore4 dX3_begins_7 rfl (by decide) ?_
  refine e_aload0 dX3_begins_9 ?_
  refine e_getfieldF flX3_7 dX3_begins_10 rfl rfl ?_
  refine e_bipush (v := nI 9) dX3_begins_13 (by decide) ?_
  refine e_dup2 dX3_begins_15 rfl rfl ?_
  refine e_ialoadN dX3_begins_16 rfl (by omega) (by decide) ?_
  rw [rR2 hR]
  refine e_iconst (z := 1) dX3_begins_17 ?_
  first | refine e_iaddN dX3_begins_18 ?_ | refine e_iadd dX3_begins_18 ?_
  refine e_iastoreN dX3_begins_19 rfl (by omega) (by decide) ?_
  have hR1 : RelR (upd sf 9 (nI (X.1 0 0 + 1))) (xs X 0 0 (X.1 0 0 + 1)) := relR_T hR hT
  have hl : X.1 10 4 < 24 := j_lenT hJ hT
  refine e_aload0 dX3_begins_20 ?_
  refine e_iload4 dX3_begins_21 ?_
  refine e_iconst (z := 0) dX3_begins_23 ?_
  refine e_iload1 dX3_begins_24 ?_
  refine e_vVF (M' := mX3_lay) fX3_lay lkX3_64 (r_lay h th (upd sf 9 (nI (X.1 0 0 + 1))) asd sts snp txt rdd cnt hq len pt iw rm (t := X.1 0 0) (j := 0) (v := nI f) hT (by decide)) rfl rfl dX3_begins_25 rfl rfl (by decide) (Nat.le_of_ble_eq_true rfl) rfl ?_
  rintro _ rfl
  have hR2 : RelR (upd (upd sf 9 (nI (X.1 0 0 + 1))) (14 + 7 * X.1 0 0 + 0) (nI f)) (xs (xs X 0 0 (X.1 0 0 + 1)) 2 (X.1 0 0) f) := relR_t hR1 (j := 0) hT (by decide)
  refine e_aload0 dX3_begins_28 ?_
  refine e_iload4 dX3_begins_29 ?_
  refine e_iconst (z := 1) dX3_begins_31 ?_
  refine e_iload2 dX3_begins_32 ?_
  refine e_vVF (M' := mX3_lay) fX3_lay lkX3_64 (r_lay h th (upd (upd sf 9 (nI (X.1 0 0 + 1))) (14 + 7 * X.1 0 0 + 0) (nI f)) asd sts snp txt rdd cnt hq len pt iw rm (t := X.1 0 0) (j := 1) (v := nI to) hT (by decide)) rfl rfl dX3_begins_33 rfl rfl (by decide) (Nat.le_of_ble_eq_true rfl) rfl ?_
  rintro _ rfl
  have hR3 : RelR (upd (upd (upd sf 9 (nI (X.1 0 0 + 1))) (14 + 7 * X.1 0 0 + 0) (nI f)) (14 + 7 * X.1 0 0 + 1) (nI to)) (xs (xs (xs X 0 0 (X.1 0 0 + 1)) 2 (X.1 0 0) f) 3 (X.1 0 0) to) := relR_t hR2 (j := 1) hT (by decide)
  refine e_aload0 dX3_begins_36 ?_
  refine e_iload4 dX3_begins_37 ?_
  refine e_iconst (z := 2) dX3_begins_39 ?_
  refine e_iload3 dX3_begins_40 ?_
  refine e_vVF (M' := mX3_lay) fX3_lay lkX3_64 (r_lay h th (upd (upd (upd sf 9 (nI (X.1 0 0 + 1))) (14 + 7 * X.1 0 0 + 0) (nI f)) (14 + 7 * X.1 0 0 + 1) (nI to)) asd sts snp txt rdd cnt hq len pt iw rm (t := X.1 0 0) (j := 2) (v := nI sz) hT (by decide)) rfl rfl dX3_begins_41 rfl rfl (by decide) (Nat.le_of_ble_eq_true rfl) rfl ?_
  rintro _ rfl
  have hR4 : RelR (upd (upd (upd (upd sf 9 (nI (X.1 0 0 + 1))) (14 + 7 * X.1 0 0 + 0) (nI f)) (14 + 7 * X.1 0 0 + 1) (nI to)) (14 + 7 * X.1 0 0 + 2) (nI sz)) (xs (xs (xs (xs X 0 0 (X.1 0 0 + 1)) 2 (X.1 0 0) f) 3 (X.1 0 0) to) 4 (X.1 0 0) sz) := relR_t hR3 (j := 2) hT (by decide)
  have hW4 : WK (xs (xs (xs (xs X 0 0 (X.1 0 0 + 1)) 2 (X.1 0 0) f) 3 (X.1 0 0) to) 4 (X.1 0 0) sz) := by
    have hW := wk_J hJ
    refine ⟨hT, hW.2.1, hW.2.2.1, hW.2.2.2.1, fun t ht => ?_⟩
    show (if 2 = 4 ∧ t = X.1 0 0 then sz else if 2 = 3 ∧ t = X.1 0 0 then to else if 2 = 2 ∧ t = X.1 0 0 then f else if 2 = 0 ∧ t = 0 then X.1 0 0 + 1 else X.1 2 t) < 4 ∧ (if 3 = 4 ∧ t = X.1 0 0 then sz else if 3 = 3 ∧ t = X.1 0 0 then to else if 3 = 2 ∧ t = X.1 0 0 then f else if 3 = 0 ∧ t = 0 then X.1 0 0 + 1 else X.1 3 t) < 16
    have := hW.2.2.2.2 t ht
    simp
    constructor <;> split <;> omega
  have hW5 : WK (m_write (xs (xs (xs (xs X 0 0 (X.1 0 0 + 1)) 2 (X.1 0 0) f) 3 (X.1 0 0) to) 4 (X.1 0 0) sz) 4 0 (X.1 0 0)) := wk_write hW4 hl (fun q => absurd q (by decide))
  refine e_aload0 dX3_begins_44 ?_
  refine e_iconst (z := 4) dX3_begins_45 ?_
  refine e_iconst (z := 0) dX3_begins_46 ?_
  refine e_iload4 dX3_begins_47 ?_
  refine e_vVF (M' := mX3_writes) fX3_writes lkX3_67 (r_writes h th (upd (upd (upd (upd sf 9 (nI (X.1 0 0 + 1))) (14 + 7 * X.1 0 0 + 0) (nI f)) (14 + 7 * X.1 0 0 + 1) (nI to)) (14 + 7 * X.1 0 0 + 2) (nI sz)) asd sts snp txt rdd cnt hq len pt iw rm (xs (xs (xs (xs X 0 0 (X.1 0 0 + 1)) 2 (X.1 0 0) f) 3 (X.1 0 0) to) 4 (X.1 0 0) sz) hR4 hW4 (s := 4) (kd := 0) (t := X.1 0 0) (by decide) hl (fun q => absurd q (by decide))) rfl rfl dX3_begins_49 rfl rfl (by decide) (Nat.le_of_ble_eq_true rfl) rfl ?_
  rintro _ ⟨sf5, hR5, rfl⟩
  refine e_aload0 dX3_begins_52 ?_
  refine e_iconst (z := 0) dX3_begins_53 ?_
  refine e_iload4 dX3_begins_54 ?_
  refine e_vVF (M' := mX3_sendsAll) fX3_sendsAll lkX3_70 (r_sendsAll h th sf5 asd sts snp txt rdd cnt hq len pt iw rm (m_write (xs (xs (xs (xs X 0 0 (X.1 0 0 + 1)) 2 (X.1 0 0) f) 3 (X.1 0 0) to) 4 (X.1 0 0) sz) 4 0 (X.1 0 0)) hR5 hW5 (kd := 0) (t := X.1 0 0) hT) rfl rfl dX3_begins_56 rfl rfl (by decide) (Nat.le_of_ble_eq_true rfl) rfl ?_
  rintro _ ⟨sf6, hR6, rfl⟩
  refine e_iload4 dX3_begins_59 ?_
  refine e_iret dX3_begins_61 rfl ?_
  have hp : m_part (m_write (xs (xs (xs (xs X 0 0 (X.1 0 0 + 1)) 2 (X.1 0 0) f) 3 (X.1 0 0) to) 4 (X.1 0 0) sz) 4 0 (X.1 0 0)) (X.1 0 0) = (to ||| 2 ^ f) := by simp [m_part, m_write, xs]
  rw [hp] at hR6
  exact ⟨_, rfl, rfl, rfl, sf6, hR6, rfl⟩
