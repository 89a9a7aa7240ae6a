set_option maxRecDepth 20000 in
set_option maxHeartbeats 4000000 in
theorem sz_dead (h : qB) (th : Int32) (sf asd sts snp txt rdd : Nat → Int32) (cnt hq : Int32) {tx : Nat → Nat} {nt : Nat} (hn : nt ≤ 60) (htx : ∀ i, i < nt → txt i = nI (tx i) ∧ 33 ≤ tx i ∧ tx i ≤ 126) (rm : Int32) {a : Nat} (ha : a ≤ 61) : CtI mX3_readsSize 2 [qR 11 0] (q_put h 11 (oR th sf asd sts snp txt rdd cnt hq (nI nt) (nI a) (nI 0) rm)) (fun r h2 => h2 = q_put h 11 (oR th sf asd sts snp txt rdd cnt hq (nI nt) (nI a) (nI 0) rm)) := by
  refine ct_of (by decide +kernel) rfl rfl (Nat.le_of_ble_eq_true rfl) ?_
  show Ev mX3_readsSize 2 0 [some (qR 11 0), none] [] 132 (q_put h 11 (oR th sf asd sts snp txt rdd cnt hq (nI nt) (nI a) (nI 0) rm)) 0 0 _ _
  refine e_aload0 dX3_readsSize_0 ?_
  refine e_bipush (v := nI 49) dX3_readsSize_1 (by decide) ?_
  refine e_bipush (v := nI 57) dX3_readsSize_3 (by decide) ?_
  refine e_vIF (M' := mX3_reads) fX3_reads lkX3_169 (rd_dead h th sf asd sts snp txt rdd cnt hq hn htx rm (a := a) ha) rfl rfl dX3_readsSize_5 rfl rfl (by decide) (Nat.le_of_ble_eq_true rfl) rfl ?_
  rintro x _ rfl
  refine e_istore1 dX3_readsSize_8 rfl (by decide) ?_
  refine e_aload0 dX3_readsSize_9 ?_
  refine e_getfieldF flX3_162 dX3_readsSize_10 rfl rfl ?_
  refine e_if_eqN 70 dX3_readsSize_13 (by decide) (by first | omega | decide) (fun hc13 => ?_) (fun q => absurd rfl q)
  refine e_iload1 dX3_readsSize_70 ?_
  refine e_iret dX3_readsSize_71 rfl ?_
  exact ⟨_, rfl, rfl, rfl⟩
theorem t_step_5 {s : qt} {c : Nat} (h : s.1 = 5) (hc : 49 ≤ c ∧ c ≤ 57) : t_step s c = some (6, (s.2.1, (s.2.2.1, (s.2.2.2.1, c - 48)))) := by
  unfold t_step
  simp [h, hc.1, hc.2]
theorem t_step_no5 {s : qt} {c : Nat} (h : s.1 = 5) (hc : ¬ (49 ≤ c ∧ c ≤ 57)) : t_step s c = none := by
  unfold t_step
  simp only [h]
  rw [if_neg (by decide), if_neg (by decide), if_neg (by decide), if_neg (by decide), if_neg (by decide), if_pos trivial, if_neg hc]
theorem t_step_6 {s : qt} {c : Nat} (h : s.1 = 6) (h1 : 48 ≤ c) (h2 : c ≤ 57) (h3 : s.2.2.2.2 * 10 + (c - 48) ≤ 50) : t_step s c = some (8, (s.2.1, (s.2.2.1, (s.2.2.2.1, s.2.2.2.2 * 10 + (c - 48))))) := by
  have n59 : ¬ c = 59 := by omega
  unfold t_step
  simp [h, h1, h2, h3, n59]
theorem t_step_no6 {s : qt} {c : Nat} (h : s.1 = 6) (h59 : ¬ c = 59) (hc : ¬ (48 ≤ c ∧ c ≤ 57 ∧ s.2.2.2.2 * 10 + (c - 48) ≤ 50)) : t_step s c = none := by
  unfold t_step
  simp only [h]
  rw [if_neg (by decide), if_neg (by decide), if_neg (by decide), if_neg (by decide), if_neg (by decide), if_neg (by decide), if_pos trivial, if_neg h59, if_neg hc]
set_option maxRecDepth 20000 in
set_option maxHeartbeats 4000000 in
theorem sz_live (h : qB) (th : Int32) (sf asd sts snp txt rdd : Nat → Int32) (cnt hq : Int32) {tx : Nat → Nat} {nt : Nat} (hn : nt ≤ 60) (htx : ∀ i, i < nt → txt i = nI (tx i) ∧ 33 ≤ tx i ∧ tx i ≤ 126) (rm : Int32) {a : Nat} {s : qt} {l : List qt} (hp : TP tx nt a s l) (h5 : s.1 = 5) : CtI mX3_readsSize 2 [qR 11 0] (q_put h 11 (oR th sf asd sts snp txt rdd cnt hq (nI nt) (nI a) (nI 1) rm)) (fun r h2 => (∃ (a' : Nat) (s' : qt), TP tx nt a' s' l ∧ t_end s' = true ∧ t_blk tx nt a' s' ∧ s'.2.1 = s.2.1 ∧ s'.2.2.1 = s.2.2.1 ∧ s'.2.2.2.1 = s.2.2.2.1 ∧ r = nI s'.2.2.2.2 ∧ a < a' ∧ h2 = q_put h 11 (oR th sf asd sts snp txt rdd cnt hq (nI nt) (nI a') (nI 1) rm)) ∨ (t_bad tx nt a s ∧ h2 = q_put h 11 (oR th sf asd sts snp txt rdd cnt hq (nI nt) (nI a) (nI 0) rm))) := by
  have ha := hp.1
  refine ct_of (by decide +kernel) rfl rfl (Nat.le_of_ble_eq_true rfl) ?_
  show Ev mX3_readsSize 2 0 [some (qR 11 0), none] [] 132 (q_put h 11 (oR th sf asd sts snp txt rdd cnt hq (nI nt) (nI a) (nI 1) rm)) 0 0 _ _
  refine e_aload0 dX3_readsSize_0 ?_
  refine e_bipush (v := nI 49) dX3_readsSize_1 (by decide) ?_
  refine e_bipush (v := nI 57) dX3_readsSize_3 (by decide) ?_
  have hs := t_sg_le htx a
  have hs1 := t_sg_le htx (a + 1)
  by_cases hc : 49 ≤ t_sg tx nt a ∧ t_sg tx nt a ≤ 57
  · have hin := t_sg_in (tx := tx) (nt := nt) (a := a) (by omega)
    have hp1 : TP tx nt (a + 1) (6, (s.2.1, (s.2.2.1, (s.2.2.2.1, t_sg tx nt a - 48)))) l := by
      have q := tp_next hp hin.1 (t_step_5 h5 (by rw [← hin.2]; exact hc)) (by rw [← hin.2]; omega)
      rw [← hin.2] at q
      exact q
    refine e_vIF (M' := mX3_reads) fX3_reads lkX3_169 (rd_ok h th sf asd sts snp txt rdd cnt hq hn htx rm (a := a) (lo := 49) (hi := 57) (by omega) (by decide) (by decide) (by decide) hc.1 hc.2) rfl rfl dX3_readsSize_5 rfl rfl (by decide) (Nat.le_of_ble_eq_true rfl) rfl ?_
    rintro _ _ ⟨rfl, rfl⟩
    by_cases hd : 48 ≤ t_sg tx nt (a + 1) ∧ t_sg tx nt (a + 1) ≤ 57
    · skip
      refine e_istore1 dX3_readsSize_8 rfl (by decide) ?_
      refine e_aload0 dX3_readsSize_9 ?_
      refine e_getfieldF flX3_162 dX3_readsSize_10 rfl rfl ?_
      refine e_if_eqN 70 dX3_readsSize_13 (by decide) (by first | omega | decide) (fun q => absurd q (by decide)) (fun hc13 => ?_)
      refine e_aload0 dX3_readsSize_16 ?_
      refine e_vIF (M' := mX3_sign) fX3_sign lkX3_166 (r_sign h th sf asd sts snp txt rdd cnt hq hn htx rm (a := a + 1) (by omega) (nI 1)) rfl rfl dX3_readsSize_17 rfl rfl (by decide) (Nat.le_of_ble_eq_true rfl) rfl ?_
      rintro _ _ ⟨rfl, rfl⟩
      refine e_bipush (v := nI 48) dX3_readsSize_20 (by decide) ?_
      refine e_bipush (v := nI 57) dX3_readsSize_22 (by decide) ?_
      refine e_sI (M' := mX3_in) fX3_in lkX3_32 (r_in _ _ _ _) rfl rfl dX3_readsSize_24 (by decide) (Nat.le_of_ble_eq_true rfl) rfl ?_
      rintro _ _ ⟨rfl, rfl⟩
      rw [i_rngT hs1 (by decide) (by decide), decide_eq_true hd]
      refine e_if_eqN 70 dX3_readsSize_27 (by decide) (by first | omega | decide) (fun q => absurd q (by decide)) (fun hc27 => ?_)
      refine e_bipush (v := nI 10) dX3_readsSize_30 (by decide) ?_
      refine e_iload1 dX3_readsSize_32 ?_
      first | refine e_imulN dX3_readsSize_33 ?_ | refine e_imul dX3_readsSize_33 ?_
      refine e_aload0 dX3_readsSize_34 ?_
      refine e_vIF (M' := mX3_sign) fX3_sign lkX3_166 (r_sign h th sf asd sts snp txt rdd cnt hq hn htx rm (a := a + 1) (by omega) (nI 1)) rfl rfl dX3_readsSize_35 rfl rfl (by decide) (Nat.le_of_ble_eq_true rfl) rfl ?_
      rintro _ _ ⟨rfl, rfl⟩
      first | refine e_iaddN dX3_readsSize_38 ?_ | refine e_iadd dX3_readsSize_38 ?_
      refine e_bipush (v := nI 48) dX3_readsSize_39 (by decide) ?_
      refine e_isubN dX3_readsSize_41 (by omega) ?_
      refine e_bipush (v := nI 50) dX3_readsSize_42 (by decide) ?_
      by_cases hv : 10 * (t_sg tx nt a - 48) + t_sg tx nt (a + 1) - 48 ≤ 50
      · refine e_icmp_gtN 70 dX3_readsSize_44 (by decide) (by omega) (by decide) (fun q => absurd q (by omega)) (fun _ => ?_)
        refine e_bipush (v := nI 10) dX3_readsSize_47 (by decide) ?_
        refine e_iload1 dX3_readsSize_49 ?_
        first | refine e_imulN dX3_readsSize_50 ?_ | refine e_imul dX3_readsSize_50 ?_
        refine e_aload0 dX3_readsSize_51 ?_
        refine e_vIF (M' := mX3_sign) fX3_sign lkX3_166 (r_sign h th sf asd sts snp txt rdd cnt hq hn htx rm (a := a + 1) (by omega) (nI 1)) rfl rfl dX3_readsSize_52 rfl rfl (by decide) (Nat.le_of_ble_eq_true rfl) rfl ?_
        rintro _ _ ⟨rfl, rfl⟩
        first | refine e_iaddN dX3_readsSize_55 ?_ | refine e_iadd dX3_readsSize_55 ?_
        refine e_bipush (v := nI 48) dX3_readsSize_56 (by decide) ?_
        refine e_isubN dX3_readsSize_58 (by omega) ?_
        refine e_istore1 dX3_readsSize_59 rfl (by decide) ?_
        refine e_aload0 dX3_readsSize_60 ?_
        refine e_dup dX3_readsSize_61 rfl ?_
        refine e_getfieldF flX3_159 dX3_readsSize_62 rfl rfl ?_
        refine e_iconst (z := 1) dX3_readsSize_65 ?_
        first | refine e_iaddN dX3_readsSize_66 ?_ | refine e_iadd dX3_readsSize_66 ?_
        refine e_putfieldF flX3_159 dX3_readsSize_67 rfl (Nat.le_of_ble_eq_true rfl) (fun _ => rfl) (fun _ => rfl) ?_
        refine e_iload1 dX3_readsSize_70 ?_
        refine e_iret dX3_readsSize_71 rfl ?_
        have hin2 := t_sg_in (tx := tx) (nt := nt) (a := a + 1) (by omega)
        have hp2 := tp_next hp1 hin2.1 (t_step_6 rfl (by rw [← hin2.2]; omega) (by rw [← hin2.2]; omega) (by rw [← hin2.2]; dsimp only; omega)) (by rw [← hin2.2]; omega)
        exact ⟨_, rfl, rfl, Or.inl ⟨a + 1 + 1, _, hp2, rfl, t_blk_8 rfl, rfl, rfl, rfl, by dsimp only; rw [← hin2.2]; congr 1; omega, by omega, rfl⟩⟩
      · refine e_icmp_gtN 70 dX3_readsSize_44 (by decide) (by omega) (by decide) (fun _ => ?_) (fun q => absurd q (by omega))
        refine e_iload1 dX3_readsSize_70 ?_
        refine e_iret dX3_readsSize_71 rfl ?_
        exact ⟨_, rfl, rfl, Or.inl ⟨a + 1, _, hp1, rfl, fun h1 h2 => t_step_no6 rfl h2 (by rw [← t_sg_tx (tx := tx) h1]; dsimp only; omega), rfl, rfl, rfl, rfl, by omega, rfl⟩⟩
    · skip
      refine e_istore1 dX3_readsSize_8 rfl (by decide) ?_
      refine e_aload0 dX3_readsSize_9 ?_
      refine e_getfieldF flX3_162 dX3_readsSize_10 rfl rfl ?_
      refine e_if_eqN 70 dX3_readsSize_13 (by decide) (by first | omega | decide) (fun q => absurd q (by decide)) (fun hc13 => ?_)
      refine e_aload0 dX3_readsSize_16 ?_
      refine e_vIF (M' := mX3_sign) fX3_sign lkX3_166 (r_sign h th sf asd sts snp txt rdd cnt hq hn htx rm (a := a + 1) (by omega) (nI 1)) rfl rfl dX3_readsSize_17 rfl rfl (by decide) (Nat.le_of_ble_eq_true rfl) rfl ?_
      rintro _ _ ⟨rfl, rfl⟩
      refine e_bipush (v := nI 48) dX3_readsSize_20 (by decide) ?_
      refine e_bipush (v := nI 57) dX3_readsSize_22 (by decide) ?_
      refine e_sI (M' := mX3_in) fX3_in lkX3_32 (r_in _ _ _ _) rfl rfl dX3_readsSize_24 (by decide) (Nat.le_of_ble_eq_true rfl) rfl ?_
      rintro _ _ ⟨rfl, rfl⟩
      rw [i_rngT hs1 (by decide) (by decide), decide_eq_false hd]
      refine e_if_eqN 70 dX3_readsSize_27 (by decide) (by first | omega | decide) (fun hc27 => ?_) (fun q => absurd rfl q)
      refine e_iload1 dX3_readsSize_70 ?_
      refine e_iret dX3_readsSize_71 rfl ?_
      exact ⟨_, rfl, rfl, Or.inl ⟨a + 1, _, hp1, rfl, fun h1 h2 => t_step_no6 rfl h2 (by rw [← t_sg_tx (tx := tx) h1]; dsimp only; omega), rfl, rfl, rfl, rfl, by omega, rfl⟩⟩
  · refine e_vIF (M' := mX3_reads) fX3_reads lkX3_169 (rd_no h th sf asd sts snp txt rdd cnt hq hn htx rm (a := a) (lo := 49) (hi := 57) (by omega) (by decide) (by decide) hc) rfl rfl dX3_readsSize_5 rfl rfl (by decide) (Nat.le_of_ble_eq_true rfl) rfl ?_
    rintro x _ rfl
    refine e_istore1 dX3_readsSize_8 rfl (by decide) ?_
    refine e_aload0 dX3_readsSize_9 ?_
    refine e_getfieldF flX3_162 dX3_readsSize_10 rfl rfl ?_
    refine e_if_eqN 70 dX3_readsSize_13 (by decide) (by first | omega | decide) (fun hc13 => ?_) (fun q => absurd rfl q)
    refine e_iload1 dX3_readsSize_70 ?_
    refine e_iret dX3_readsSize_71 rfl ?_
    refine ⟨_, rfl, rfl, Or.inr ⟨?_, rfl⟩⟩
    by_cases q5 : a < nt
    · rw [t_sg_tx q5] at hc
      exact Or.inl ⟨q5, t_step_no5 h5 hc⟩
    · exact Or.inr ⟨by omega, by unfold t_end; rw [h5]; decide⟩
