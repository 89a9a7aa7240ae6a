/-! THE MODEL'S PROGRAM: what can be done; begins, crashes, recovers -/
set_option maxRecDepth 20000 in
set_option maxHeartbeats 4000000 in
theorem r_canBegin (h : qB) (th : Int32) (sf asd sts snp txt rdd : Nat → Int32) (cnt hq len pt iw rm : Int32) (X : qm) (hR : RelR sf X) (hJ : J X) : CtI mX3_canBegin 0 [qR 11 0] (q_put h 11 (oR th sf asd sts snp txt rdd cnt hq len pt iw rm)) (fun r h2 => r = q_b (decide (X.1 1 4 = 1 ∧ X.1 0 0 < 8)) ∧ h2 = q_put h 11 (oR th sf asd sts snp txt rdd cnt hq len pt iw rm)) := by
  refine ct_of (by decide +kernel) rfl rfl (Nat.le_of_ble_eq_true rfl) ?_
  show Ev mX3_canBegin 0 0 [some (qR 11 0)] [] 132 (q_put h 11 (oR th sf asd sts snp txt rdd cnt hq len pt iw rm)) 0 0 _ _
  refine e_aload0 dX3_canBegin_0 ?_
  refine e_getfieldF flX3_7 dX3_canBegin_1 rfl rfl ?_
  refine e_iconst (z := 4) dX3_canBegin_4 ?_
  refine e_ialoadN dX3_canBegin_5 rfl (by omega) (by decide) ?_
  rw [rR0 hR 4 (by decide)]
  have hu := iV3 hJ.1 4 (by decide)
  refine e_iconst (z := 1) dX3_canBegin_6 ?_
  first | refine e_icmp_neN 26 dX3_canBegin_7 (by decide) (by omega) (by omega) (fun hc7 => ?_) (fun hc7 => ?_) | refine e_icmp_ne 26 dX3_canBegin_7 (by decide) (fun hc7 => ?_) (fun hc7 => ?_)
  · refine e_iconst (z := 0) dX3_canBegin_26 ?_
    refine e_zret dX3_canBegin_27 rfl (by first | rfl | exact q_nar _) ?_
    first
      | exact ⟨_, rfl, rfl, by rw [decide_eq_true (by omega)]; rfl, rfl⟩
      | exact ⟨_, rfl, rfl, by rw [decide_eq_false (by omega)]; rfl, rfl⟩
  · refine e_aload0 dX3_canBegin_10 ?_
    refine e_getfieldF flX3_7 dX3_canBegin_11 rfl rfl ?_
    refine e_bipush (v := nI 9) dX3_canBegin_14 (by decide) ?_
    refine e_ialoadN dX3_canBegin_16 rfl (by omega) (by decide) ?_
    rw [rR2 hR]
    have i1 := iV1 hJ.1
    refine e_bipush (v := nI 8) dX3_canBegin_17 (by decide) ?_
    first | refine e_icmp_geN 26 dX3_canBegin_19 (by decide) (by omega) (by omega) (fun hc19 => ?_) (fun hc19 => ?_) | refine e_icmp_ge 26 dX3_canBegin_19 (by decide) (fun hc19 => ?_) (fun hc19 => ?_)
    · refine e_iconst (z := 0) dX3_canBegin_26 ?_
      refine e_zret dX3_canBegin_27 rfl (by first | rfl | exact q_nar _) ?_
      first
        | exact ⟨_, rfl, rfl, by rw [decide_eq_true (by omega)]; rfl, rfl⟩
        | exact ⟨_, rfl, rfl, by rw [decide_eq_false (by omega)]; rfl, rfl⟩
    · refine e_iconst (z := 1) dX3_canBegin_22 ?_
      refine e_goto 27 dX3_canBegin_23 (by decide) ?_
      refine e_zret dX3_canBegin_27 rfl (by first | rfl | exact q_nar _) ?_
      first
        | exact ⟨_, rfl, rfl, by rw [decide_eq_true (by omega)]; rfl, rfl⟩
        | exact ⟨_, rfl, rfl, by rw [decide_eq_false (by omega)]; rfl, rfl⟩
set_option maxRecDepth 20000 in
set_option maxHeartbeats 4000000 in
theorem r_canGiveUp (h : qB) (th : Int32) (sf asd sts snp txt rdd : Nat → Int32) (cnt hq len pt iw rm : Int32) (X : qm) (hR : RelR sf X) (hJ : J X) {t : Nat} (ht : t < 8) : CtI mX3_canGiveUp 1 [qR 11 0, qI (nI t)] (q_put h 11 (oR th sf asd sts snp txt rdd cnt hq len pt iw rm)) (fun r h2 => r = q_b (decide (X.1 1 4 = 1 ∧ X.1 7 t = 0)) ∧ h2 = q_put h 11 (oR th sf asd sts snp txt rdd cnt hq len pt iw rm)) := by
  refine ct_of (by decide +kernel) rfl rfl (Nat.le_of_ble_eq_true rfl) ?_
  show Ev mX3_canGiveUp 1 0 [some (qR 11 0), some (qI (nI t))] [] 132 (q_put h 11 (oR th sf asd sts snp txt rdd cnt hq len pt iw rm)) 0 0 _ _
  refine e_aload0 dX3_canGiveUp_0 ?_
  refine e_getfieldF flX3_7 dX3_canGiveUp_1 rfl rfl ?_
  refine e_iconst (z := 4) dX3_canGiveUp_4 ?_
  refine e_ialoadN dX3_canGiveUp_5 rfl (by omega) (by decide) ?_
  rw [rR0 hR 4 (by decide)]
  have hu := iV3 hJ.1 4 (by decide)
  refine e_iconst (z := 1) dX3_canGiveUp_6 ?_
  first | refine e_icmp_neN 23 dX3_canGiveUp_7 (by decide) (by omega) (by omega) (fun hc7 => ?_) (fun hc7 => ?_) | refine e_icmp_ne 23 dX3_canGiveUp_7 (by decide) (fun hc7 => ?_) (fun hc7 => ?_)
  · refine e_iconst (z := 0) dX3_canGiveUp_23 ?_
    refine e_zret dX3_canGiveUp_24 rfl (by first | rfl | exact q_nar _) ?_
    first
      | exact ⟨_, rfl, rfl, by rw [decide_eq_true (by omega)]; rfl, rfl⟩
      | exact ⟨_, rfl, rfl, by rw [decide_eq_false (by omega)]; rfl, rfl⟩
  · refine e_aload0 dX3_canGiveUp_10 ?_
    refine e_iload1 dX3_canGiveUp_11 ?_
    refine e_iconst (z := 5) dX3_canGiveUp_12 ?_
    refine e_vIF (M' := mX3_of) fX3_of lkX3_39 (r_of5 h th sf asd sts snp txt rdd cnt hq len pt iw rm X hR (t := t) ht) rfl rfl dX3_canGiveUp_13 rfl rfl (by decide) (Nat.le_of_ble_eq_true rfl) rfl ?_
    rintro _ _ ⟨rfl, rfl⟩
    have ho := (iV4 hJ.1 t ht).2.2.2.2.2.1
    first | refine e_if_neN 23 dX3_canGiveUp_16 (by decide) (by omega) (fun hc16 => ?_) (fun hc16 => ?_) | refine e_if_ne 23 dX3_canGiveUp_16 (by decide) (fun hc16 => ?_) (fun hc16 => ?_)
    · refine e_iconst (z := 0) dX3_canGiveUp_23 ?_
      refine e_zret dX3_canGiveUp_24 rfl (by first | rfl | exact q_nar _) ?_
      first
        | exact ⟨_, rfl, rfl, by rw [decide_eq_true (by omega)]; rfl, rfl⟩
        | exact ⟨_, rfl, rfl, by rw [decide_eq_false (by omega)]; rfl, rfl⟩
    · refine e_iconst (z := 1) dX3_canGiveUp_19 ?_
      refine e_goto 24 dX3_canGiveUp_20 (by decide) ?_
      refine e_zret dX3_canGiveUp_24 rfl (by first | rfl | exact q_nar _) ?_
      first
        | exact ⟨_, rfl, rfl, by rw [decide_eq_true (by omega)]; rfl, rfl⟩
        | exact ⟨_, rfl, rfl, by rw [decide_eq_false (by omega)]; rfl, rfl⟩
set_option maxRecDepth 20000 in
set_option maxHeartbeats 4000000 in
theorem r_canAsk (h : qB) (th : Int32) (sf asd sts snp txt rdd : Nat → Int32) (cnt hq len pt iw rm : Int32) (X : qm) (hR : RelR sf X) (hJ : J X) {s t : Nat} (hs : s < 4) (ht : t < 8) : CtI mX3_canAsk 1 [qR 11 0, qI (nI s), qI (nI t)] (q_put h 11 (oR th sf asd sts snp txt rdd cnt hq len pt iw rm)) (fun r h2 => r = q_b (decide (X.1 1 s = 1 ∧ X.1 9 (8 * s + t) = 1)) ∧ h2 = q_put h 11 (oR th sf asd sts snp txt rdd cnt hq len pt iw rm)) := by
  refine ct_of (by decide +kernel) rfl rfl (Nat.le_of_ble_eq_true rfl) ?_
  show Ev mX3_canAsk 1 0 [some (qR 11 0), some (qI (nI s)), some (qI (nI t))] [] 132 (q_put h 11 (oR th sf asd sts snp txt rdd cnt hq len pt iw rm)) 0 0 _ _
  refine e_aload0 dX3_canAsk_0 ?_
  refine e_getfieldF flX3_7 dX3_canAsk_1 rfl rfl ?_
  refine e_iconst (z := 0) dX3_canAsk_4 ?_
  refine e_iload1 dX3_canAsk_5 ?_
  first | refine e_iaddN dX3_canAsk_6 ?_ | refine e_iadd dX3_canAsk_6 ?_
  refine e_ialoadN dX3_canAsk_7 rfl (by omega) (by decide) ?_
  rw [Nat.zero_add s, rR0 hR s (by omega)]
  have hu := iV3 hJ.1 s (by omega)
  have ho := (iV6 hJ.1 s t hs ht).1
  refine e_iconst (z := 1) dX3_canAsk_8 ?_
  first | refine e_icmp_neN 26 dX3_canAsk_9 (by decide) (by omega) (by omega) (fun hc9 => ?_) (fun hc9 => ?_) | refine e_icmp_ne 26 dX3_canAsk_9 (by decide) (fun hc9 => ?_) (fun hc9 => ?_)
  · refine e_iconst (z := 0) dX3_canAsk_26 ?_
    refine e_zret dX3_canAsk_27 rfl (by first | rfl | exact q_nar _) ?_
    first
      | exact ⟨_, rfl, rfl, by rw [decide_eq_true (by omega)]; rfl, rfl⟩
      | exact ⟨_, rfl, rfl, by rw [decide_eq_false (by omega)]; rfl, rfl⟩
  · refine e_aload0 dX3_canAsk_12 ?_
    refine e_iload1 dX3_canAsk_13 ?_
    refine e_iload2 dX3_canAsk_14 ?_
    refine e_vIF (M' := mX3_stateIn) fX3_stateIn lkX3_51 (r_stateIn h th sf asd sts snp txt rdd cnt hq len pt iw rm X hR (s := s) (t := t) hs ht) rfl rfl dX3_canAsk_15 rfl rfl (by decide) (Nat.le_of_ble_eq_true rfl) rfl ?_
    rintro _ _ ⟨rfl, rfl⟩
    refine e_iconst (z := 1) dX3_canAsk_18 ?_
    first | refine e_icmp_neN 26 dX3_canAsk_19 (by decide) (by omega) (by omega) (fun hc19 => ?_) (fun hc19 => ?_) | refine e_icmp_ne 26 dX3_canAsk_19 (by decide) (fun hc19 => ?_) (fun hc19 => ?_)
    · refine e_iconst (z := 0) dX3_canAsk_26 ?_
      refine e_zret dX3_canAsk_27 rfl (by first | rfl | exact q_nar _) ?_
      first
        | exact ⟨_, rfl, rfl, by rw [decide_eq_true (by omega)]; rfl, rfl⟩
        | exact ⟨_, rfl, rfl, by rw [decide_eq_false (by omega)]; rfl, rfl⟩
    · refine e_iconst (z := 1) dX3_canAsk_22 ?_
      refine e_goto 27 dX3_canAsk_23 (by decide) ?_
      refine e_zret dX3_canAsk_27 rfl (by first | rfl | exact q_nar _) ?_
      first
        | exact ⟨_, rfl, rfl, by rw [decide_eq_true (by omega)]; rfl, rfl⟩
        | exact ⟨_, rfl, rfl, by rw [decide_eq_false (by omega)]; rfl, rfl⟩
theorem i_to_no {f : Nat} {x : Int32} (h : decide (¬ x < nI 1 ∧ ¬ nI 15 < x) = false) : i_to f x = false := by
  rw [decide_eq_false_iff_not] at h
  unfold i_to
  rw [decide_eq_false_iff_not]
  exact fun c => h ⟨c.1, c.2.1⟩
theorem i_rng {x : Int32} (h : decide (¬ x < nI 1 ∧ ¬ nI 15 < x) = true) : ∃ to, to < 16 ∧ x = nI to := by
  rw [decide_eq_true_eq] at h
  have h0 : ¬ x < 0 := fun c => h.1 (Int32.lt_trans c (by decide))
  obtain ⟨j, hj, rfl⟩ := nI_of h0
  refine ⟨j, ?_, rfl⟩
  have : ¬ 15 < j := fun q => h.2 ((nI_ltI (by decide) hj).mpr q)
  omega
theorem i_to_val : ∀ to, to < 16 → ∀ f, f < 4 → decide (¬ nI to < nI 1 ∧ ¬ nI 15 < nI to) = true → i_to f (nI to) = decide (to / 2 ^ f % 2 = 0) := by decide +kernel
set_option maxRecDepth 20000 in
set_option maxHeartbeats 4000000 in
theorem r_areStores (h : qB) {f : Nat} (hf : f < 4) (x : Int32) : CtI mX3_areStores 1 [qI (nI f), qI x] (h) (fun r h2 => r = q_b (i_to f x) ∧ h2 = h) := by
  refine ct_of (by decide +kernel) rfl rfl (Nat.le_of_ble_eq_true rfl) ?_
  show Ev mX3_areStores 1 0 [some (qI (nI f)), some (qI x)] [] 132 (h) 0 0 _ _
  refine e_iload1 dX3_areStores_0 ?_
  refine e_iconst (z := 1) dX3_areStores_1 ?_
  refine e_bipush (v := nI 15) dX3_areStores_2 (by decide) ?_
  refine e_sI (M' := mX3_in) fX3_in lkX3_32 (r_in _ _ _ _) rfl rfl dX3_areStores_4 (by decide) (Nat.le_of_ble_eq_true rfl) rfl ?_
  rintro _ _ ⟨rfl, rfl⟩
  cases hB : decide (¬ x < nI 1 ∧ ¬ nI 15 < x)
  · refine e_if_eqN 22 dX3_areStores_7 (by decide) (by decide) (fun _ => ?_) (fun q => absurd rfl q)
    refine e_iconst (z := 0) dX3_areStores_22 ?_
    refine e_zret dX3_areStores_23 rfl (by first | rfl | exact q_nar _) ?_
    exact ⟨_, rfl, rfl, by rw [i_to_no hB]; rfl, rfl⟩
  · refine e_if_eqN 22 dX3_areStores_7 (by decide) (by decide) (fun q => absurd q (by decide)) (fun _ => ?_)
    obtain ⟨to, hto, rfl⟩ := i_rng hB
    refine e_iload1 dX3_areStores_10 ?_
    refine e_iload0 dX3_areStores_11 ?_
    refine e_ishr dX3_areStores_12 ?_
    refine e_iconst (z := 1) dX3_areStores_13 ?_
    refine e_iand dX3_areStores_14 ?_
    rw [b_msk _ hto _ hf, i_to_val _ hto _ hf hB]
    have h2 : to / 2 ^ f % 2 < 2 := Nat.mod_lt _ (by decide)
    first | refine e_if_neN 22 dX3_areStores_15 (by decide) (by omega) (fun hc15 => ?_) (fun hc15 => ?_) | refine e_if_ne 22 dX3_areStores_15 (by decide) (fun hc15 => ?_) (fun hc15 => ?_)
    · refine e_iconst (z := 0) dX3_areStores_22 ?_
      refine e_zret dX3_areStores_23 rfl (by first | rfl | exact q_nar _) ?_
      first
        | exact ⟨_, rfl, rfl, by rw [decide_eq_true (by omega)]; rfl, rfl⟩
        | exact ⟨_, rfl, rfl, by rw [decide_eq_false (by omega)]; rfl, rfl⟩
    · refine e_iconst (z := 1) dX3_areStores_18 ?_
      refine e_goto 23 dX3_areStores_19 (by decide) ?_
      refine e_zret dX3_areStores_23 rfl (by first | rfl | exact q_nar _) ?_
      first
        | exact ⟨_, rfl, rfl, by rw [decide_eq_true (by omega)]; rfl, rfl⟩
        | exact ⟨_, rfl, rfl, by rw [decide_eq_false (by omega)]; rfl, rfl⟩
