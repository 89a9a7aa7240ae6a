set_option maxRecDepth 20000 in
set_option maxHeartbeats 4000000 in
theorem r_loses (h : qB) (th : Int32) (sf asd sts snp txt rdd : Nat → Int32) (cnt hq len pt iw rm : Int32) (X : qm) (hR : RelR sf X) (hJ : J X) {p : Nat} (hp : p < X.1 0 4) : CtI mX3_loses 1 [qR 11 0, qI (nI p)] (q_put h 11 (oR th sf asd sts snp txt rdd cnt hq len pt iw rm)) (fun r h2 => r = nI (X.1 12 p / 32) ∧ ∃ sf', RelR sf' (m_lose X p) ∧ h2 = q_put h 11 (oR th sf' asd sts snp txt rdd cnt hq len pt iw rm)) := by
  refine ct_of (by decide +kernel) rfl rfl (Nat.le_of_ble_eq_true rfl) ?_
  show Ev mX3_loses 1 0 [some (qR 11 0), some (qI (nI p))] [] 132 (q_put h 11 (oR th sf asd sts snp txt rdd cnt hq len pt iw rm)) 0 0 _ _
  refine e_aload0 dX3_loses_0 ?_
  refine e_getfieldF flX3_7 dX3_loses_1 rfl rfl ?_
  refine e_bipush (v := nI 12) dX3_loses_4 (by decide) ?_
  refine e_dup2 dX3_loses_6 rfl rfl ?_
  refine e_ialoadN dX3_loses_7 rfl (by omega) (by decide) ?_
  rw [rR5 hR]
  refine e_iconst (z := 1) dX3_loses_8 ?_
  first | refine e_iaddN dX3_loses_9 ?_ | refine e_iadd dX3_loses_9 ?_
  refine e_iastoreN dX3_loses_10 rfl (by omega) (by decide) ?_
  have hR1 : RelR (upd sf 12 (nI (X.1 0 3 + 1))) (xs X 0 3 (X.1 0 3 + 1)) := relR_lost hR
  have hW1 := wk_J (j_counter hJ (j := 3) (v := X.1 0 3 + 1) (Or.inr (Or.inr rfl)))
  refine e_aload0 dX3_loses_11 ?_
  refine e_iload1 dX3_loses_12 ?_
  refine e_vIF (M' := mX3_takes) fX3_takes lkX3_91 (r_takes h th (upd sf 12 (nI (X.1 0 3 + 1))) asd sts snp txt rdd cnt hq len pt iw rm (xs X 0 3 (X.1 0 3 + 1)) hR1 hW1 (p := p) hp) rfl rfl dX3_loses_13 rfl rfl (by decide) (Nat.le_of_ble_eq_true rfl) rfl ?_
  rintro _ _ ⟨rfl, sf2, hR2, rfl⟩
  refine e_bipush (v := nI 32) dX3_loses_16 (by decide) ?_
  refine e_idiv dX3_loses_18 (by decide) ?_
  rw [show (xs X 0 3 (X.1 0 3 + 1)).1 12 p = X.1 12 p from rfl, b_dv32 _ (iV10 hJ.1 p hp).1]
  refine e_iret dX3_loses_19 rfl ?_
  exact ⟨_, rfl, rfl, rfl, sf2, hR2, rfl⟩
